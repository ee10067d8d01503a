set_option maxRecDepth 20000 in
set_option maxHeartbeats 4000000 in
theorem rt_M_pairs {g : GG} {am : Nat → Nat} {ap : Nat → Nat} {t : va_W} {m0 m1 m2 m3 m4 m5 m6 m7 m8 m9 m10 m11 m12 u0 u1 u3 u4 : Int32} {m13 m14 m15 m16 m18 m19 m20 m21 u12 u13 u14 u15 u16 u17 u18 : Nat → Int32} {m17 u5 u6 : Nat → Int64} {N : Nat} {P_claims : Int32} {P_kind : Nat → Int32} {P_by : Nat → Int32} {P_of : Nat → Int32} {P_other : Nat → Int32} {P_last : Nat → Int32} {p1 : Int32} {p2 : Int32} {o : Int32} {Q : Rs → va_W → Prop} (h : f_M_pairs N P_claims P_kind P_by P_of P_other P_last p1 p2 = some o) (hq : Q (.inl (some (.int o))) (wlM g am (ap 0) m0 m1 m2 m3 m4 m5 m6 m7 m8 m9 m10 m11 m12 m13 m14 m15 m16 m17 m18 m19 m20 m21 ++ (wlP g ap u0 u1 P_claims u3 u4 u5 u6 P_kind P_by P_of P_other P_last u12 u13 u14 u15 u16 u17 u18 ++ t))) : R g mX11_pairs 5 0 0 0 [(0, .ref (am 0)), (1, .int p1), (2, .int p2)] [] (wlM g am (ap 0) m0 m1 m2 m3 m4 m5 m6 m7 m8 m9 m10 m11 m12 m13 m14 m15 m16 m17 m18 m19 m20 m21 ++ (wlP g ap u0 u1 P_claims u3 u4 u5 u6 P_kind P_by P_of P_other P_last u12 u13 u14 u15 u16 u17 u18 ++ t)) Q := by
  unfold f_M_pairs at h
  refine r_iconst (v := (0 : Int32)) dX11_pairs_0 (by decide) ?_
  refine r_istore_n [(3, .int (0 : Int32)), (0, .ref (am 0)), (1, .int p1), (2, .int p2)] dX11_pairs_1 (by decide) rfl ?_
  refine r_iconst (v := (0 : Int32)) dX11_pairs_2 (by decide) ?_
  refine r_istore [(4, .int (0 : Int32)), (3, .int (0 : Int32)), (0, .ref (am 0)), (1, .int p1), (2, .int p2)] dX11_pairs_3 (by decide) rfl ?_
  refine r_ls [2, 3, 4, 1, 0] (ls2 := [(0, .ref (am 0)), (1, .int p1), (2, .int p2), (3, .int (0 : Int32)), (4, .int (0 : Int32))]) rfl ?_
  have L1 : ∀ (n1 : Nat) (l3_1 : Int32) (l4_1 : Int32), (fun z9 => z9) (lpS (f_M_pairs_L5 N P_claims P_kind P_by P_of P_other P_last p1 p2) none n1 (l3_1, l4_1)) = some o → R g mX11_pairs 5 0 0 5 [(0, .ref (am 0)), (1, .int p1), (2, .int p2), (3, .int l3_1), (4, .int l4_1)] [] (wlM g am (ap 0) m0 m1 m2 m3 m4 m5 m6 m7 m8 m9 m10 m11 m12 m13 m14 m15 m16 m17 m18 m19 m20 m21 ++ (wlP g ap u0 u1 P_claims u3 u4 u5 u6 P_kind P_by P_of P_other P_last u12 u13 u14 u15 u16 u17 u18 ++ t)) Q := by
    intro n1
    induction n1 with
    | zero => intro l3_1 l4_1 h; exact nomatch (show (none : Option _) = some _ from h)
    | succ n1 ih1 =>
      intro l3_1 l4_1 h
      have h : (fun z9 => (lC (f_M_pairs_L5 N P_claims P_kind P_by P_of P_other P_last p1 p2) none n1 z9)) (f_M_pairs_L5 N P_claims P_kind P_by P_of P_other P_last p1 p2 (l3_1, l4_1)) = some o := h
      unfold f_M_pairs_L5 at h
      try dsimp only at h
      refine r_iload 4 dX11_pairs_5 rfl ?_
      refine r_aload_n 0 dX11_pairs_7 rfl ?_
      refine r_getf (v := .ref (ap 0)) _ dX11_pairs_8 fl_X11_20 lM_0 rfl ?_
      refine r_getf (v := .int P_claims) _ dX11_pairs_11 fl_X11_65 lP_0 rfl ?_
      refine r_icmp_ge (tgt := 103) dX11_pairs_14 (by decide) (fun hc1609 => ?_) (fun hc1609 => ?_)
      · have h := ip (fun z9 => (lC (f_M_pairs_L5 N P_claims P_kind P_by P_of P_other P_last p1 p2) none n1 z9)) hc1609 h
        refine r_iload_n 3 dX11_pairs_103 rfl ?_
        refine r_iret dX11_pairs_104 rfl ?_
        have h := Option.some.inj (show some _ = some o from h)
        subst h
        exact hq
      · have h := iq (fun z9 => (lC (f_M_pairs_L5 N P_claims P_kind P_by P_of P_other P_last p1 p2) none n1 z9)) hc1609 h
        refine r_iconst (v := (0 : Int32)) dX11_pairs_17 (by decide) ?_
        refine r_istore [(5, .int (0 : Int32)), (0, .ref (am 0)), (1, .int p1), (2, .int p2), (3, .int l3_1), (4, .int l4_1)] dX11_pairs_18 (by decide) rfl ?_
        refine r_ls [1, 2, 3, 4, 5, 0] (ls2 := [(0, .ref (am 0)), (1, .int p1), (2, .int p2), (3, .int l3_1), (4, .int l4_1), (5, .int (0 : Int32))]) rfl ?_
        have L2 : ∀ (n2 : Nat) (l3_2 : Int32) (l5_2 : Int32), (fun z9 => (lC (f_M_pairs_L5 N P_claims P_kind P_by P_of P_other P_last p1 p2) none n1 z9)) (lpS (f_M_pairs_L20 N P_claims P_kind P_by P_of P_other P_last p1 p2 l4_1) (.inr none) n2 (l3_2, l5_2)) = some o → R g mX11_pairs 5 0 0 20 [(0, .ref (am 0)), (1, .int p1), (2, .int p2), (3, .int l3_2), (4, .int l4_1), (5, .int l5_2)] [] (wlM g am (ap 0) m0 m1 m2 m3 m4 m5 m6 m7 m8 m9 m10 m11 m12 m13 m14 m15 m16 m17 m18 m19 m20 m21 ++ (wlP g ap u0 u1 P_claims u3 u4 u5 u6 P_kind P_by P_of P_other P_last u12 u13 u14 u15 u16 u17 u18 ++ t)) Q := by
          intro n2
          induction n2 with
          | zero => intro l3_2 l5_2 h; exact nomatch (show (none : Option _) = some _ from h)
          | succ n2 ih2 =>
            intro l3_2 l5_2 h
            have h : (fun z9 => (lC (f_M_pairs_L5 N P_claims P_kind P_by P_of P_other P_last p1 p2) none n1 (lC (f_M_pairs_L20 N P_claims P_kind P_by P_of P_other P_last p1 p2 l4_1) (.inr none) n2 z9))) (f_M_pairs_L20 N P_claims P_kind P_by P_of P_other P_last p1 p2 l4_1 (l3_2, l5_2)) = some o := h
            unfold f_M_pairs_L20 at h
            try dsimp only at h
            refine r_iload 5 dX11_pairs_20 rfl ?_
            refine r_aload_n 0 dX11_pairs_22 rfl ?_
            refine r_getf (v := .ref (ap 0)) _ dX11_pairs_23 fl_X11_20 lM_0 rfl ?_
            refine r_getf (v := .int P_claims) _ dX11_pairs_26 fl_X11_65 lP_0 rfl ?_
            refine r_icmp_ge (tgt := 97) dX11_pairs_29 (by decide) (fun hc1610 => ?_) (fun hc1610 => ?_)
            · have h := ip (fun z9 => (lC (f_M_pairs_L5 N P_claims P_kind P_by P_of P_other P_last p1 p2) none n1 (lC (f_M_pairs_L20 N P_claims P_kind P_by P_of P_other P_last p1 p2 l4_1) (.inr none) n2 z9))) hc1610 h
              refine r_iinc (v2 := (l4_1 + (1 : Int32))) 4 [(4, .int (l4_1 + (1 : Int32))), (0, .ref (am 0)), (1, .int p1), (2, .int p2), (3, .int l3_2), (5, .int l5_2)] dX11_pairs_97 rfl rfl (by decide) rfl ?_
              refine r_goto (tgt := 5) dX11_pairs_100 (by decide) ?_
              refine r_ls [1, 2, 3, 4, 0] (ls2 := [(0, .ref (am 0)), (1, .int p1), (2, .int p2), (3, .int l3_2), (4, .int (l4_1 + (1 : Int32)))]) rfl ?_
              exact ih1 l3_2 (l4_1 + (1 : Int32)) h
            · have h := iq (fun z9 => (lC (f_M_pairs_L5 N P_claims P_kind P_by P_of P_other P_last p1 p2) none n1 (lC (f_M_pairs_L20 N P_claims P_kind P_by P_of P_other P_last p1 p2 l4_1) (.inr none) n2 z9))) hc1610 h
              refine r_iload_n 3 dX11_pairs_32 rfl ?_
              refine r_aload_n 0 dX11_pairs_33 rfl ?_
              refine r_getf (v := .ref (ap 0)) _ dX11_pairs_34 fl_X11_20 lM_0 rfl ?_
              refine r_getf (v := .ref (ap 4)) _ dX11_pairs_37 fl_X11_82 lP_0 rfl ?_
              refine r_iload 4 dX11_pairs_40 rfl ?_
              obtain ⟨hb1611, h⟩ := gd (fun z9 => (lC (f_M_pairs_L5 N P_claims P_kind P_by P_of P_other P_last p1 p2) none n1 (lC (f_M_pairs_L20 N P_claims P_kind P_by P_of P_other P_last p1 p2 l4_1) (.inr none) n2 z9))) rfl h
              refine r_iald _ dX11_pairs_42 lP_4 hb1611 ?_
              refine r_iload_n 1 dX11_pairs_43 rfl ?_
              refine r_icmp_ne (tgt := 88) dX11_pairs_44 (by decide) (fun hc1612 => ?_) (fun hc1612 => ?_)
              · have h := iq (fun z9 => (lC (f_M_pairs_L5 N P_claims P_kind P_by P_of P_other P_last p1 p2) none n1 (lC (f_M_pairs_L20 N P_claims P_kind P_by P_of P_other P_last p1 p2 l4_1) (.inr none) n2 z9))) hc1612 h
                refine r_iconst (v := (0 : Int32)) dX11_pairs_88 (by decide) ?_
                refine r_iadd dX11_pairs_89 ?_
                refine r_istore_n [(3, .int (l3_2 + (0 : Int32))), (0, .ref (am 0)), (1, .int p1), (2, .int p2), (4, .int l4_1), (5, .int l5_2)] dX11_pairs_90 (by decide) rfl ?_
                refine r_iinc (v2 := (l5_2 + (1 : Int32))) 5 [(5, .int (l5_2 + (1 : Int32))), (3, .int (l3_2 + (0 : Int32))), (0, .ref (am 0)), (1, .int p1), (2, .int p2), (4, .int l4_1)] dX11_pairs_91 rfl rfl (by decide) rfl ?_
                refine r_goto (tgt := 20) dX11_pairs_94 (by decide) ?_
                refine r_ls [2, 3, 4, 1, 5, 0] (ls2 := [(0, .ref (am 0)), (1, .int p1), (2, .int p2), (3, .int (l3_2 + (0 : Int32))), (4, .int l4_1), (5, .int (l5_2 + (1 : Int32)))]) rfl ?_
                exact ih2 (l3_2 + (0 : Int32)) (l5_2 + (1 : Int32)) h
              · have h := ip (fun z9 => (lC (f_M_pairs_L5 N P_claims P_kind P_by P_of P_other P_last p1 p2) none n1 (lC (f_M_pairs_L20 N P_claims P_kind P_by P_of P_other P_last p1 p2 l4_1) (.inr none) n2 z9))) hc1612 h
                refine r_aload_n 0 dX11_pairs_47 rfl ?_
                refine r_getf (v := .ref (ap 0)) _ dX11_pairs_48 fl_X11_20 lM_0 rfl ?_
                refine r_getf (v := .ref (ap 4)) _ dX11_pairs_51 fl_X11_82 lP_0 rfl ?_
                refine r_iload 5 dX11_pairs_54 rfl ?_
                obtain ⟨hb1613, h⟩ := gd (fun z9 => (lC (f_M_pairs_L5 N P_claims P_kind P_by P_of P_other P_last p1 p2) none n1 (lC (f_M_pairs_L20 N P_claims P_kind P_by P_of P_other P_last p1 p2 l4_1) (.inr none) n2 z9))) rfl h
                refine r_iald _ dX11_pairs_56 lP_4 hb1613 ?_
                refine r_iload_n 2 dX11_pairs_57 rfl ?_
                refine r_icmp_ne (tgt := 88) dX11_pairs_58 (by decide) (fun hc1614 => ?_) (fun hc1614 => ?_)
                · have h := iq (fun z9 => (lC (f_M_pairs_L5 N P_claims P_kind P_by P_of P_other P_last p1 p2) none n1 (lC (f_M_pairs_L20 N P_claims P_kind P_by P_of P_other P_last p1 p2 l4_1) (.inr none) n2 z9))) hc1614 h
                  refine r_iconst (v := (0 : Int32)) dX11_pairs_88 (by decide) ?_
                  refine r_iadd dX11_pairs_89 ?_
                  refine r_istore_n [(3, .int (l3_2 + (0 : Int32))), (0, .ref (am 0)), (1, .int p1), (2, .int p2), (4, .int l4_1), (5, .int l5_2)] dX11_pairs_90 (by decide) rfl ?_
                  refine r_iinc (v2 := (l5_2 + (1 : Int32))) 5 [(5, .int (l5_2 + (1 : Int32))), (3, .int (l3_2 + (0 : Int32))), (0, .ref (am 0)), (1, .int p1), (2, .int p2), (4, .int l4_1)] dX11_pairs_91 rfl rfl (by decide) rfl ?_
                  refine r_goto (tgt := 20) dX11_pairs_94 (by decide) ?_
                  refine r_ls [2, 3, 4, 1, 5, 0] (ls2 := [(0, .ref (am 0)), (1, .int p1), (2, .int p2), (3, .int (l3_2 + (0 : Int32))), (4, .int l4_1), (5, .int (l5_2 + (1 : Int32)))]) rfl ?_
                  exact ih2 (l3_2 + (0 : Int32)) (l5_2 + (1 : Int32)) h
                · have h := ip (fun z9 => (lC (f_M_pairs_L5 N P_claims P_kind P_by P_of P_other P_last p1 p2) none n1 (lC (f_M_pairs_L20 N P_claims P_kind P_by P_of P_other P_last p1 p2 l4_1) (.inr none) n2 z9))) hc1614 h
                  refine r_iload_n 1 dX11_pairs_61 rfl ?_
                  refine r_iload_n 2 dX11_pairs_62 rfl ?_
                  refine r_icmp_ne (tgt := 73) dX11_pairs_63 (by decide) (fun hc1615 => ?_) (fun hc1615 => ?_)
                  · have h := iq (fun z9 => (lC (f_M_pairs_L5 N P_claims P_kind P_by P_of P_other P_last p1 p2) none n1 (lC (f_M_pairs_L20 N P_claims P_kind P_by P_of P_other P_last p1 p2 l4_1) (.inr none) n2 z9))) hc1615 h
                    refine r_aload_n 0 dX11_pairs_73 rfl ?_
                    refine r_iload 4 dX11_pairs_74 rfl ?_
                    refine r_iload 5 dX11_pairs_76 rfl ?_
                    obtain ⟨r1616, hc1617, h⟩ := ob (fun z9 => (lC (f_M_pairs_L5 N P_claims P_kind P_by P_of P_other P_last p1 p2) none n1 (lC (f_M_pairs_L20 N P_claims P_kind P_by P_of P_other P_last p1 p2 l4_1) (.inr none) n2 z9))) rfl h
                    refine c_V (rest := [.int l3_2]) 0 0 _ dX11_pairs_78 kv_X11_69 (ct_M_contraryR_0 hc1617) rfl rfl lM_0 rfl (Nat.le_of_ble_eq_true rfl) (by decide) (by decide) ?_
                    refine r_if_eq (tgt := 88) dX11_pairs_81 (by decide) (fun hc1618 => ?_) (fun hc1618 => ?_)
                    · have h := ip (fun z9 => (lC (f_M_pairs_L5 N P_claims P_kind P_by P_of P_other P_last p1 p2) none n1 (lC (f_M_pairs_L20 N P_claims P_kind P_by P_of P_other P_last p1 p2 l4_1) (.inr none) n2 z9))) hc1618 h
                      refine r_iconst (v := (0 : Int32)) dX11_pairs_88 (by decide) ?_
                      refine r_iadd dX11_pairs_89 ?_
                      refine r_istore_n [(3, .int (l3_2 + (0 : Int32))), (0, .ref (am 0)), (1, .int p1), (2, .int p2), (4, .int l4_1), (5, .int l5_2)] dX11_pairs_90 (by decide) rfl ?_
                      refine r_iinc (v2 := (l5_2 + (1 : Int32))) 5 [(5, .int (l5_2 + (1 : Int32))), (3, .int (l3_2 + (0 : Int32))), (0, .ref (am 0)), (1, .int p1), (2, .int p2), (4, .int l4_1)] dX11_pairs_91 rfl rfl (by decide) rfl ?_
                      refine r_goto (tgt := 20) dX11_pairs_94 (by decide) ?_
                      refine r_ls [2, 3, 4, 1, 5, 0] (ls2 := [(0, .ref (am 0)), (1, .int p1), (2, .int p2), (3, .int (l3_2 + (0 : Int32))), (4, .int l4_1), (5, .int (l5_2 + (1 : Int32)))]) rfl ?_
                      exact ih2 (l3_2 + (0 : Int32)) (l5_2 + (1 : Int32)) h
                    · have h := iq (fun z9 => (lC (f_M_pairs_L5 N P_claims P_kind P_by P_of P_other P_last p1 p2) none n1 (lC (f_M_pairs_L20 N P_claims P_kind P_by P_of P_other P_last p1 p2 l4_1) (.inr none) n2 z9))) hc1618 h
                      refine r_iconst (v := (1 : Int32)) dX11_pairs_84 (by decide) ?_
                      refine r_goto (tgt := 89) dX11_pairs_85 (by decide) ?_
                      refine r_iadd dX11_pairs_89 ?_
                      refine r_istore_n [(3, .int (l3_2 + (1 : Int32))), (0, .ref (am 0)), (1, .int p1), (2, .int p2), (4, .int l4_1), (5, .int l5_2)] dX11_pairs_90 (by decide) rfl ?_
                      refine r_iinc (v2 := (l5_2 + (1 : Int32))) 5 [(5, .int (l5_2 + (1 : Int32))), (3, .int (l3_2 + (1 : Int32))), (0, .ref (am 0)), (1, .int p1), (2, .int p2), (4, .int l4_1)] dX11_pairs_91 rfl rfl (by decide) rfl ?_
                      refine r_goto (tgt := 20) dX11_pairs_94 (by decide) ?_
                      refine r_ls [2, 3, 4, 1, 5, 0] (ls2 := [(0, .ref (am 0)), (1, .int p1), (2, .int p2), (3, .int (l3_2 + (1 : Int32))), (4, .int l4_1), (5, .int (l5_2 + (1 : Int32)))]) rfl ?_
                      exact ih2 (l3_2 + (1 : Int32)) (l5_2 + (1 : Int32)) h
                  · have h := ip (fun z9 => (lC (f_M_pairs_L5 N P_claims P_kind P_by P_of P_other P_last p1 p2) none n1 (lC (f_M_pairs_L20 N P_claims P_kind P_by P_of P_other P_last p1 p2 l4_1) (.inr none) n2 z9))) hc1615 h
                    refine r_iload 5 dX11_pairs_66 rfl ?_
                    refine r_iload 4 dX11_pairs_68 rfl ?_
                    refine r_icmp_ge (tgt := 88) dX11_pairs_70 (by decide) (fun hc1619 => ?_) (fun hc1619 => ?_)
                    · have h := ip (fun z9 => (lC (f_M_pairs_L5 N P_claims P_kind P_by P_of P_other P_last p1 p2) none n1 (lC (f_M_pairs_L20 N P_claims P_kind P_by P_of P_other P_last p1 p2 l4_1) (.inr none) n2 z9))) hc1619 h
                      refine r_iconst (v := (0 : Int32)) dX11_pairs_88 (by decide) ?_
                      refine r_iadd dX11_pairs_89 ?_
                      refine r_istore_n [(3, .int (l3_2 + (0 : Int32))), (0, .ref (am 0)), (1, .int p1), (2, .int p2), (4, .int l4_1), (5, .int l5_2)] dX11_pairs_90 (by decide) rfl ?_
                      refine r_iinc (v2 := (l5_2 + (1 : Int32))) 5 [(5, .int (l5_2 + (1 : Int32))), (3, .int (l3_2 + (0 : Int32))), (0, .ref (am 0)), (1, .int p1), (2, .int p2), (4, .int l4_1)] dX11_pairs_91 rfl rfl (by decide) rfl ?_
                      refine r_goto (tgt := 20) dX11_pairs_94 (by decide) ?_
                      refine r_ls [2, 3, 4, 1, 5, 0] (ls2 := [(0, .ref (am 0)), (1, .int p1), (2, .int p2), (3, .int (l3_2 + (0 : Int32))), (4, .int l4_1), (5, .int (l5_2 + (1 : Int32)))]) rfl ?_
                      exact ih2 (l3_2 + (0 : Int32)) (l5_2 + (1 : Int32)) h
                    · have h := iq (fun z9 => (lC (f_M_pairs_L5 N P_claims P_kind P_by P_of P_other P_last p1 p2) none n1 (lC (f_M_pairs_L20 N P_claims P_kind P_by P_of P_other P_last p1 p2 l4_1) (.inr none) n2 z9))) hc1619 h
                      refine r_aload_n 0 dX11_pairs_73 rfl ?_
                      refine r_iload 4 dX11_pairs_74 rfl ?_
                      refine r_iload 5 dX11_pairs_76 rfl ?_
                      obtain ⟨r1620, hc1621, h⟩ := ob (fun z9 => (lC (f_M_pairs_L5 N P_claims P_kind P_by P_of P_other P_last p1 p2) none n1 (lC (f_M_pairs_L20 N P_claims P_kind P_by P_of P_other P_last p1 p2 l4_1) (.inr none) n2 z9))) rfl h
                      refine c_V (rest := [.int l3_2]) 0 0 _ dX11_pairs_78 kv_X11_69 (ct_M_contraryR_0 hc1621) rfl rfl lM_0 rfl (Nat.le_of_ble_eq_true rfl) (by decide) (by decide) ?_
                      refine r_if_eq (tgt := 88) dX11_pairs_81 (by decide) (fun hc1622 => ?_) (fun hc1622 => ?_)
                      · have h := ip (fun z9 => (lC (f_M_pairs_L5 N P_claims P_kind P_by P_of P_other P_last p1 p2) none n1 (lC (f_M_pairs_L20 N P_claims P_kind P_by P_of P_other P_last p1 p2 l4_1) (.inr none) n2 z9))) hc1622 h
                        refine r_iconst (v := (0 : Int32)) dX11_pairs_88 (by decide) ?_
                        refine r_iadd dX11_pairs_89 ?_
                        refine r_istore_n [(3, .int (l3_2 + (0 : Int32))), (0, .ref (am 0)), (1, .int p1), (2, .int p2), (4, .int l4_1), (5, .int l5_2)] dX11_pairs_90 (by decide) rfl ?_
                        refine r_iinc (v2 := (l5_2 + (1 : Int32))) 5 [(5, .int (l5_2 + (1 : Int32))), (3, .int (l3_2 + (0 : Int32))), (0, .ref (am 0)), (1, .int p1), (2, .int p2), (4, .int l4_1)] dX11_pairs_91 rfl rfl (by decide) rfl ?_
                        refine r_goto (tgt := 20) dX11_pairs_94 (by decide) ?_
                        refine r_ls [2, 3, 4, 1, 5, 0] (ls2 := [(0, .ref (am 0)), (1, .int p1), (2, .int p2), (3, .int (l3_2 + (0 : Int32))), (4, .int l4_1), (5, .int (l5_2 + (1 : Int32)))]) rfl ?_
                        exact ih2 (l3_2 + (0 : Int32)) (l5_2 + (1 : Int32)) h
                      · have h := iq (fun z9 => (lC (f_M_pairs_L5 N P_claims P_kind P_by P_of P_other P_last p1 p2) none n1 (lC (f_M_pairs_L20 N P_claims P_kind P_by P_of P_other P_last p1 p2 l4_1) (.inr none) n2 z9))) hc1622 h
                        refine r_iconst (v := (1 : Int32)) dX11_pairs_84 (by decide) ?_
                        refine r_goto (tgt := 89) dX11_pairs_85 (by decide) ?_
                        refine r_iadd dX11_pairs_89 ?_
                        refine r_istore_n [(3, .int (l3_2 + (1 : Int32))), (0, .ref (am 0)), (1, .int p1), (2, .int p2), (4, .int l4_1), (5, .int l5_2)] dX11_pairs_90 (by decide) rfl ?_
                        refine r_iinc (v2 := (l5_2 + (1 : Int32))) 5 [(5, .int (l5_2 + (1 : Int32))), (3, .int (l3_2 + (1 : Int32))), (0, .ref (am 0)), (1, .int p1), (2, .int p2), (4, .int l4_1)] dX11_pairs_91 rfl rfl (by decide) rfl ?_
                        refine r_goto (tgt := 20) dX11_pairs_94 (by decide) ?_
                        refine r_ls [2, 3, 4, 1, 5, 0] (ls2 := [(0, .ref (am 0)), (1, .int p1), (2, .int p2), (3, .int (l3_2 + (1 : Int32))), (4, .int l4_1), (5, .int (l5_2 + (1 : Int32)))]) rfl ?_
                        exact ih2 (l3_2 + (1 : Int32)) (l5_2 + (1 : Int32)) h
        exact L2 _ l3_1 (0 : Int32) h
  exact L1 _ (0 : Int32) (0 : Int32) h
theorem ct_M_pairs {g : GG} {am : Nat → Nat} {ap : Nat → Nat} {t : va_W} {m0 m1 m2 m3 m4 m5 m6 m7 m8 m9 m10 m11 m12 u0 u1 u3 u4 : Int32} {m13 m14 m15 m16 m18 m19 m20 m21 u12 u13 u14 u15 u16 u17 u18 : Nat → Int32} {m17 u5 u6 : Nat → Int64} {N : Nat} {P_claims : Int32} {P_kind : Nat → Int32} {P_by : Nat → Int32} {P_of : Nat → Int32} {P_other : Nat → Int32} {P_last : Nat → Int32} {p1 : Int32} {p2 : Int32} {o : Int32} (h : f_M_pairs N P_claims P_kind P_by P_of P_other P_last p1 p2 = some o) : Ct g mX11_pairs 5 0 0 [.ref (am 0), .int p1, .int p2] (wlM g am (ap 0) m0 m1 m2 m3 m4 m5 m6 m7 m8 m9 m10 m11 m12 m13 m14 m15 m16 m17 m18 m19 m20 m21 ++ (wlP g ap u0 u1 P_claims u3 u4 u5 u6 P_kind P_by P_of P_other P_last u12 u13 u14 u15 u16 u17 u18 ++ t)) (Dv (some (.int o)) (wlM g am (ap 0) m0 m1 m2 m3 m4 m5 m6 m7 m8 m9 m10 m11 m12 m13 m14 m15 m16 m17 m18 m19 m20 m21 ++ (wlP g ap u0 u1 P_claims u3 u4 u5 u6 P_kind P_by P_of P_other P_last u12 u13 u14 u15 u16 u17 u18 ++ t))) := Ct.ofR (by decide +kernel) rfl (Nat.le_of_ble_eq_true rfl) (rt_M_pairs h ⟨rfl, rfl⟩)
set_option maxRecDepth 20000 in
set_option maxHeartbeats 4000000 in
theorem rt_M_isEnough {g : GG} {am : Nat → Nat} {ap : Nat → Nat} {t : va_W} {m0 m1 m2 m3 m4 m5 m6 m7 m8 m9 m10 m11 m12 u0 u2 u3 u4 : Int32} {m13 m14 m15 m16 m18 m20 m21 u7 u8 u9 u10 u11 u12 u13 u14 u15 u16 u17 u18 : Nat → Int32} {m17 u5 u6 : Nat → Int64} {N : Nat} {M_against : Nat → Int32} {P_tellers : Int32} {p1 : Int32} {p2 : Int32} {o : Int32} {Q : Rs → va_W → Prop} (h : f_M_isEnough N M_against P_tellers p1 p2 = some o) (hq : Q (.inl (some (.int o))) (wlM g am (ap 0) m0 m1 m2 m3 m4 m5 m6 m7 m8 m9 m10 m11 m12 m13 m14 m15 m16 m17 m18 M_against m20 m21 ++ (wlP g ap u0 P_tellers u2 u3 u4 u5 u6 u7 u8 u9 u10 u11 u12 u13 u14 u15 u16 u17 u18 ++ t))) : R g mX11_isEnough 2 0 0 0 [(0, .ref (am 0)), (1, .int p1), (2, .int p2)] [] (wlM g am (ap 0) m0 m1 m2 m3 m4 m5 m6 m7 m8 m9 m10 m11 m12 m13 m14 m15 m16 m17 m18 M_against m20 m21 ++ (wlP g ap u0 P_tellers u2 u3 u4 u5 u6 u7 u8 u9 u10 u11 u12 u13 u14 u15 u16 u17 u18 ++ t)) Q := by
  unfold f_M_isEnough at h
  refine r_iload_n 2 dX11_isEnough_0 rfl ?_
  refine r_iload_n 1 dX11_isEnough_1 rfl ?_
  refine r_iconst (v := (-1 : Int32)) dX11_isEnough_2 (by decide) ?_
  refine r_ixor dX11_isEnough_3 ?_
  refine r_iand dX11_isEnough_4 ?_
  refine r_istore_n [(3, .int (p2 &&& (p1 ^^^ (-1 : Int32)))), (0, .ref (am 0)), (1, .int p1), (2, .int p2)] dX11_isEnough_5 (by decide) rfl ?_
  refine r_iconst (v := (0 : Int32)) dX11_isEnough_6 (by decide) ?_
  refine r_istore [(4, .int (0 : Int32)), (3, .int (p2 &&& (p1 ^^^ (-1 : Int32)))), (0, .ref (am 0)), (1, .int p1), (2, .int p2)] dX11_isEnough_7 (by decide) rfl ?_
  refine r_ls [2, 1, 0] (ls2 := [(0, .ref (am 0)), (3, .int (p2 &&& (p1 ^^^ (-1 : Int32)))), (4, .int (0 : Int32))]) rfl ?_
  have L1 : ∀ (n1 : Nat) (c3_1 : Int32) (l4_1 : Int32), (fun z9 => z9) (lpS (f_M_isEnough_L9 M_against P_tellers c3_1) none n1 l4_1) = some o → R g mX11_isEnough 2 0 0 9 [(0, .ref (am 0)), (3, .int c3_1), (4, .int l4_1)] [] (wlM g am (ap 0) m0 m1 m2 m3 m4 m5 m6 m7 m8 m9 m10 m11 m12 m13 m14 m15 m16 m17 m18 M_against m20 m21 ++ (wlP g ap u0 P_tellers u2 u3 u4 u5 u6 u7 u8 u9 u10 u11 u12 u13 u14 u15 u16 u17 u18 ++ t)) Q := by
    intro n1
    induction n1 with
    | zero => intro c3_1 l4_1 h; exact nomatch (show (none : Option _) = some _ from h)
    | succ n1 ih1 =>
      intro c3_1 l4_1 h
      have h : (fun z9 => (lC (f_M_isEnough_L9 M_against P_tellers c3_1) none n1 z9)) (f_M_isEnough_L9 M_against P_tellers c3_1 l4_1) = some o := h
      unfold f_M_isEnough_L9 at h
      try dsimp only at h
      refine r_iload 2 dX11_isEnough_9 rfl ?_
      refine r_aload_n 0 dX11_isEnough_11 rfl ?_
      refine r_getf (v := .ref (ap 0)) _ dX11_isEnough_12 fl_X11_20 lM_0 rfl ?_
      refine r_getf (v := .int P_tellers) _ dX11_isEnough_15 fl_X11_62 lP_0 rfl ?_
      refine r_icmp_ge (tgt := 50) dX11_isEnough_18 (by decide) (fun hc1623 => ?_) (fun hc1623 => ?_)
      · have h := ip (fun z9 => (lC (f_M_isEnough_L9 M_against P_tellers c3_1) none n1 z9)) hc1623 h
        refine r_iconst (v := (1 : Int32)) dX11_isEnough_50 (by decide) ?_
        refine r_zret dX11_isEnough_51 rfl (by decide) ?_
        have h := Option.some.inj (show some _ = some o from h)
        subst h
        exact hq
      · have h := iq (fun z9 => (lC (f_M_isEnough_L9 M_against P_tellers c3_1) none n1 z9)) hc1623 h
        refine r_iload_n 1 dX11_isEnough_21 rfl ?_
        refine r_iload 2 dX11_isEnough_22 rfl ?_
        refine c_S (rest := []) 0 0 dX11_isEnough_24 ks_X11_88 (ct_M_has rfl) rfl rfl (Nat.le_of_ble_eq_true rfl) (by decide) (by decide) ?_
        refine r_if_eq (tgt := 44) dX11_isEnough_27 (by decide) (fun hc1624 => ?_) (fun hc1624 => ?_)
        · have h := ip (fun z9 => (lC (f_M_isEnough_L9 M_against P_tellers c3_1) none n1 z9)) hc1624 h
          refine r_iinc (v2 := (l4_1 + (1 : Int32))) 2 [(4, .int (l4_1 + (1 : Int32))), (0, .ref (am 0)), (3, .int c3_1)] dX11_isEnough_44 rfl rfl (by decide) rfl ?_
          refine r_goto (tgt := 9) dX11_isEnough_47 (by decide) ?_
          refine r_ls [1, 2, 0] (ls2 := [(0, .ref (am 0)), (3, .int c3_1), (4, .int (l4_1 + (1 : Int32)))]) rfl ?_
          exact ih1 c3_1 (l4_1 + (1 : Int32)) h
        · have h := iq (fun z9 => (lC (f_M_isEnough_L9 M_against P_tellers c3_1) none n1 z9)) hc1624 h
          refine r_aload_n 0 dX11_isEnough_30 rfl ?_
          refine r_getf (v := .ref (am 7)) _ dX11_isEnough_31 fl_X11_40 lM_0 rfl ?_
          refine r_iload 2 dX11_isEnough_34 rfl ?_
          obtain ⟨hb1625, h⟩ := gd (fun z9 => (lC (f_M_isEnough_L9 M_against P_tellers c3_1) none n1 z9)) rfl h
          refine r_iald _ dX11_isEnough_36 lM_7 hb1625 ?_
          refine r_iload_n 1 dX11_isEnough_37 rfl ?_
          refine r_iand dX11_isEnough_38 ?_
          refine r_if_eq (tgt := 44) dX11_isEnough_39 (by decide) (fun hc1626 => ?_) (fun hc1626 => ?_)
          · have h := ip (fun z9 => (lC (f_M_isEnough_L9 M_against P_tellers c3_1) none n1 z9)) hc1626 h
            refine r_iinc (v2 := (l4_1 + (1 : Int32))) 2 [(4, .int (l4_1 + (1 : Int32))), (0, .ref (am 0)), (3, .int c3_1)] dX11_isEnough_44 rfl rfl (by decide) rfl ?_
            refine r_goto (tgt := 9) dX11_isEnough_47 (by decide) ?_
            refine r_ls [1, 2, 0] (ls2 := [(0, .ref (am 0)), (3, .int c3_1), (4, .int (l4_1 + (1 : Int32)))]) rfl ?_
            exact ih1 c3_1 (l4_1 + (1 : Int32)) h
          · have h := iq (fun z9 => (lC (f_M_isEnough_L9 M_against P_tellers c3_1) none n1 z9)) hc1626 h
            refine r_iconst (v := (0 : Int32)) dX11_isEnough_42 (by decide) ?_
            refine r_zret dX11_isEnough_43 rfl (by decide) ?_
            have h := Option.some.inj (show some _ = some o from h)
            subst h
            exact hq
  exact L1 _ (p2 &&& (p1 ^^^ (-1 : Int32))) (0 : Int32) h
theorem ct_M_isEnough {g : GG} {am : Nat → Nat} {ap : Nat → Nat} {t : va_W} {m0 m1 m2 m3 m4 m5 m6 m7 m8 m9 m10 m11 m12 u0 u2 u3 u4 : Int32} {m13 m14 m15 m16 m18 m20 m21 u7 u8 u9 u10 u11 u12 u13 u14 u15 u16 u17 u18 : Nat → Int32} {m17 u5 u6 : Nat → Int64} {N : Nat} {M_against : Nat → Int32} {P_tellers : Int32} {p1 : Int32} {p2 : Int32} {o : Int32} (h : f_M_isEnough N M_against P_tellers p1 p2 = some o) : Ct g mX11_isEnough 2 0 0 [.ref (am 0), .int p1, .int p2] (wlM g am (ap 0) m0 m1 m2 m3 m4 m5 m6 m7 m8 m9 m10 m11 m12 m13 m14 m15 m16 m17 m18 M_against m20 m21 ++ (wlP g ap u0 P_tellers u2 u3 u4 u5 u6 u7 u8 u9 u10 u11 u12 u13 u14 u15 u16 u17 u18 ++ t)) (Dv (some (.int o)) (wlM g am (ap 0) m0 m1 m2 m3 m4 m5 m6 m7 m8 m9 m10 m11 m12 m13 m14 m15 m16 m17 m18 M_against m20 m21 ++ (wlP g ap u0 P_tellers u2 u3 u4 u5 u6 u7 u8 u9 u10 u11 u12 u13 u14 u15 u16 u17 u18 ++ t))) := Ct.ofR (by decide +kernel) rfl (Nat.le_of_ble_eq_true rfl) (rt_M_isEnough h ⟨rfl, rfl⟩)
set_option maxRecDepth 20000 in
set_option maxHeartbeats 4000000 in
theorem rt_M_isAhead {g : GG}  {t : va_W}  {p0 : Int32} {p1 : Int32} {o : Int32} {Q : Rs → va_W → Prop} (h : f_M_isAhead p0 p1 = o) (hq : Q (.inl (some (.int o))) t) : R g mX11_isAhead 1 0 0 0 [(0, .int p0), (1, .int p1)] [] t Q := by
  unfold f_M_isAhead at h
  refine r_iload_n 0 dX11_isAhead_0 rfl ?_
  refine r_iload_n 1 dX11_isAhead_1 rfl ?_
  refine r_ixor dX11_isAhead_2 ?_
  refine r_istore_n [(2, .int (p0 ^^^ p1)), (0, .int p0), (1, .int p1)] dX11_isAhead_3 (by decide) rfl ?_
  refine r_iload_n 0 dX11_isAhead_4 rfl ?_
  refine r_iload_n 0 dX11_isAhead_5 rfl ?_
  refine r_ineg dX11_isAhead_6 ?_
  refine r_iand dX11_isAhead_7 ?_
  refine r_iload_n 2 dX11_isAhead_8 rfl ?_
  refine r_iand dX11_isAhead_9 ?_
  refine r_if_eq (tgt := 17) dX11_isAhead_10 (by decide) (fun hc1627 => ?_) (fun hc1627 => ?_)
  · have h := ip (fun z9 => z9) hc1627 h
    refine r_iconst (v := (0 : Int32)) dX11_isAhead_17 (by decide) ?_
    refine r_zret dX11_isAhead_18 rfl (by decide) ?_
    have h : _ = o := h
    subst h
    exact hq
  · have h := iq (fun z9 => z9) hc1627 h
    refine r_iconst (v := (1 : Int32)) dX11_isAhead_13 (by decide) ?_
    refine r_goto (tgt := 18) dX11_isAhead_14 (by decide) ?_
    refine r_zret dX11_isAhead_18 rfl (by decide) ?_
    have h : _ = o := h
    subst h
    exact hq
theorem ct_M_isAhead {g : GG}  {t : va_W}  {p0 : Int32} {p1 : Int32} {o : Int32} (h : f_M_isAhead p0 p1 = o) : Ct g mX11_isAhead 1 0 0 [.int p0, .int p1] t (Dv (some (.int o)) t) := Ct.ofR (by decide +kernel) rfl (Nat.le_of_ble_eq_true rfl) (rt_M_isAhead h ⟨rfl, rfl⟩)
set_option maxRecDepth 20000 in
set_option maxHeartbeats 4000000 in
theorem rt_M_look {g : GG} {am : Nat → Nat} {ap : Nat → Nat} {t : va_W} {m0 m1 m2 m3 m4 m5 m7 m8 u0 u2 u3 u4 : Int32} {m13 m14 m15 m16 m18 m20 m21 u7 u8 u9 u10 u11 u12 u13 u14 u15 u16 u17 u18 : Nat → Int32} {m17 u5 u6 : Nat → Int64} {N : Nat} {M_doubted : Int32} {M_looked : Int32} {M_lying : Int32} {M_fewest : Int32} {M_sets : Int32} {M_against : Nat → Int32} {P_tellers : Int32} {o : Int32 × Int32 × Int32 × Int32} {Q : Rs → va_W → Prop} (h : f_M_look N M_doubted M_looked M_lying M_fewest M_sets M_against P_tellers = some o) (hq : Q (.inl (none)) (wlM g am (ap 0) m0 m1 m2 m3 m4 m5 M_doubted m7 m8 o.1 o.2.1 o.2.2.1 o.2.2.2 m13 m14 m15 m16 m17 m18 M_against m20 m21 ++ (wlP g ap u0 P_tellers u2 u3 u4 u5 u6 u7 u8 u9 u10 u11 u12 u13 u14 u15 u16 u17 u18 ++ t))) : R g mX11_look 3 0 0 0 [(0, .ref (am 0))] [] (wlM g am (ap 0) m0 m1 m2 m3 m4 m5 M_doubted m7 m8 M_looked M_lying M_fewest M_sets m13 m14 m15 m16 m17 m18 M_against m20 m21 ++ (wlP g ap u0 P_tellers u2 u3 u4 u5 u6 u7 u8 u9 u10 u11 u12 u13 u14 u15 u16 u17 u18 ++ t)) Q := by
  unfold f_M_look at h
  refine r_aload_n 0 dX11_look_0 rfl ?_
  refine r_getf (v := .int M_looked) _ dX11_look_1 fl_X11_43 lM_0 rfl ?_
  refine r_aload_n 0 dX11_look_4 rfl ?_
  refine r_getf (v := .int M_doubted) _ dX11_look_5 fl_X11_85 lM_0 rfl ?_
  refine r_icmp_ne (tgt := 12) dX11_look_8 (by decide) (fun hc1628 => ?_) (fun hc1628 => ?_)
  · have h := iq (fun z9 => z9) hc1628 h
    refine r_aload_n 0 dX11_look_12 rfl ?_
    refine r_aload_n 0 dX11_look_13 rfl ?_
    refine r_getf (v := .int M_doubted) _ dX11_look_14 fl_X11_85 lM_0 rfl ?_
    refine r_putf _ dX11_look_17 fl_X11_43 lM_0 (Nat.le_of_ble_eq_true rfl) rfl rfl (sM_9 _) ?_
    refine r_aload_n 0 dX11_look_20 rfl ?_
    refine c_V (rest := []) 0 0 _ dX11_look_21 kv_X11_91 (ct_M_believed rfl) rfl rfl lM_0 rfl (Nat.le_of_ble_eq_true rfl) (by decide) (by decide) ?_
    refine r_istore_n [(1, .int (f_M_believed M_doubted P_tellers)), (0, .ref (am 0))] dX11_look_24 (by decide) rfl ?_
    refine r_aload_n 1 dX11_look_25 rfl ?_
    refine r_bipush (v := (11 : Int32)) dX11_look_26 (by decide) ?_
    refine r_putf _ dX11_look_28 fl_X11_95 lM_0 (Nat.le_of_ble_eq_true rfl) rfl rfl (sM_11 _) ?_
    refine r_iconst (v := (0 : Int32)) dX11_look_31 (by decide) ?_
    refine r_istore_n [(2, .int (0 : Int32)), (1, .int (f_M_believed M_doubted P_tellers)), (0, .ref (am 0))] dX11_look_32 (by decide) rfl ?_
    refine r_ls [2, 1, 0] (ls2 := [(0, .ref (am 0)), (1, .int (f_M_believed M_doubted P_tellers)), (2, .int (0 : Int32))]) rfl ?_
    have L1 : ∀ (n1 : Nat) (c1_1 : Int32) (l2_1 : Int32) (M_lying_1 : Int32) (M_fewest_1 : Int32) (M_sets_1 : Int32), (fun z9 => z9) (lpS (f_M_look_L33 N M_doubted M_against P_tellers c1_1) none n1 (l2_1, M_lying_1, M_fewest_1, M_sets_1)) = some o → R g mX11_look 3 0 0 33 [(0, .ref (am 0)), (1, .int c1_1), (2, .int l2_1)] [] (wlM g am (ap 0) m0 m1 m2 m3 m4 m5 M_doubted m7 m8 M_doubted M_lying_1 M_fewest_1 M_sets_1 m13 m14 m15 m16 m17 m18 M_against m20 m21 ++ (wlP g ap u0 P_tellers u2 u3 u4 u5 u6 u7 u8 u9 u10 u11 u12 u13 u14 u15 u16 u17 u18 ++ t)) Q := by
      intro n1
      induction n1 with
      | zero => intro c1_1 l2_1 M_lying_1 M_fewest_1 M_sets_1 h; exact nomatch (show (none : Option _) = some _ from h)
      | succ n1 ih1 =>
        intro c1_1 l2_1 M_lying_1 M_fewest_1 M_sets_1 h
        have h : (fun z9 => (lC (f_M_look_L33 N M_doubted M_against P_tellers c1_1) none n1 z9)) (f_M_look_L33 N M_doubted M_against P_tellers c1_1 (l2_1, M_lying_1, M_fewest_1, M_sets_1)) = some o := h
        unfold f_M_look_L33 at h
        try dsimp only at h
        refine r_iload_n 2 dX11_look_33 rfl ?_
        refine r_iload_n 1 dX11_look_34 rfl ?_
        refine r_icmp_gt (tgt := 129) dX11_look_35 (by decide) (fun hc1629 => ?_) (fun hc1629 => ?_)
        · have h := ip (fun z9 => (lC (f_M_look_L33 N M_doubted M_against P_tellers c1_1) none n1 z9)) hc1629 h
          refine r_vret dX11_look_129 rfl ?_
          have h := Option.some.inj (show some _ = some o from h)
          subst h
          exact hq
        · have h := iq (fun z9 => (lC (f_M_look_L33 N M_doubted M_against P_tellers c1_1) none n1 z9)) hc1629 h
          refine r_iload_n 2 dX11_look_38 rfl ?_
          refine c_S (rest := []) 0 0 dX11_look_39 ks_X11_98 (ct_J6_bitCount_0f7a4 rfl) rfl rfl (Nat.le_of_ble_eq_true rfl) (by decide) (by decide) ?_
          refine r_istore_n [(3, .int (f_J6_bitCount_0f7a4 l2_1)), (0, .ref (am 0)), (1, .int c1_1), (2, .int l2_1)] dX11_look_42 (by decide) rfl ?_
          refine r_iload_n 3 dX11_look_43 rfl ?_
          refine r_iload_n 2 dX11_look_44 rfl ?_
          refine r_iconst (v := (-1 : Int32)) dX11_look_45 (by decide) ?_
          refine r_ixor dX11_look_46 ?_
          refine r_iand dX11_look_47 ?_
          refine r_if_ne (tgt := 123) dX11_look_48 (by decide) (fun hc1630 => ?_) (fun hc1630 => ?_)
          · have h := iq (fun z9 => (lC (f_M_look_L33 N M_doubted M_against P_tellers c1_1) none n1 z9)) hc1630 h
            refine r_iinc (v2 := (l2_1 + (1 : Int32))) 3 [(2, .int (l2_1 + (1 : Int32))), (3, .int (f_J6_bitCount_0f7a4 l2_1)), (0, .ref (am 0)), (1, .int c1_1)] dX11_look_123 rfl rfl (by decide) rfl ?_
            refine r_goto (tgt := 33) dX11_look_126 (by decide) ?_
            refine r_ls [2, 3, 0] (ls2 := [(0, .ref (am 0)), (1, .int c1_1), (2, .int (l2_1 + (1 : Int32)))]) rfl ?_
            exact ih1 c1_1 (l2_1 + (1 : Int32)) M_lying_1 M_fewest_1 M_sets_1 h
          · have h := ip (fun z9 => (lC (f_M_look_L33 N M_doubted M_against P_tellers c1_1) none n1 z9)) hc1630 h
            refine r_iload_n 0 dX11_look_51 rfl ?_
            refine r_aload_n 1 dX11_look_52 rfl ?_
            refine r_getf (v := .int M_fewest_1) _ dX11_look_53 fl_X11_95 lM_0 rfl ?_
            refine r_icmp_gt (tgt := 123) dX11_look_56 (by decide) (fun hc1631 => ?_) (fun hc1631 => ?_)
            · have h := ip (fun z9 => (lC (f_M_look_L33 N M_doubted M_against P_tellers c1_1) none n1 z9)) hc1631 h
              refine r_iinc (v2 := (l2_1 + (1 : Int32))) 3 [(2, .int (l2_1 + (1 : Int32))), (3, .int (f_J6_bitCount_0f7a4 l2_1)), (0, .ref (am 0)), (1, .int c1_1)] dX11_look_123 rfl rfl (by decide) rfl ?_
              refine r_goto (tgt := 33) dX11_look_126 (by decide) ?_
              refine r_ls [2, 3, 0] (ls2 := [(0, .ref (am 0)), (1, .int c1_1), (2, .int (l2_1 + (1 : Int32)))]) rfl ?_
              exact ih1 c1_1 (l2_1 + (1 : Int32)) M_lying_1 M_fewest_1 M_sets_1 h
            · have h := iq (fun z9 => (lC (f_M_look_L33 N M_doubted M_against P_tellers c1_1) none n1 z9)) hc1631 h
              refine r_aload_n 1 dX11_look_59 rfl ?_
              refine r_iload_n 3 dX11_look_60 rfl ?_
              refine r_iload_n 2 dX11_look_61 rfl ?_
              obtain ⟨r1632, hc1633, h⟩ := ob (fun z9 => (lC (f_M_look_L33 N M_doubted M_against P_tellers c1_1) none n1 z9)) rfl h
              refine c_V (rest := []) 0 0 _ dX11_look_62 kv_X11_104 (ct_M_isEnough hc1633) rfl rfl lM_0 rfl (Nat.le_of_ble_eq_true rfl) (by decide) (by decide) ?_
              refine r_if_ne (tgt := 71) dX11_look_65 (by decide) (fun hc1634 => ?_) (fun hc1634 => ?_)
              · have h := iq (fun z9 => (lC (f_M_look_L33 N M_doubted M_against P_tellers c1_1) none n1 z9)) hc1634 h
                refine r_iload_n 0 dX11_look_71 rfl ?_
                refine r_aload_n 1 dX11_look_72 rfl ?_
                refine r_getf (v := .int M_fewest_1) _ dX11_look_73 fl_X11_95 lM_0 rfl ?_
                refine r_icmp_ge (tgt := 84) dX11_look_76 (by decide) (fun hc1635 => ?_) (fun hc1635 => ?_)
                · have h := ip (fun z9 => (lC (f_M_look_L33 N M_doubted M_against P_tellers c1_1) none n1 z9)) hc1635 h
                  refine r_iload_n 0 dX11_look_84 rfl ?_
                  refine r_aload_n 1 dX11_look_85 rfl ?_
                  refine r_getf (v := .int M_fewest_1) _ dX11_look_86 fl_X11_95 lM_0 rfl ?_
                  refine r_icmp_lt (tgt := 103) dX11_look_89 (by decide) (fun hc1636 => ?_) (fun hc1636 => ?_)
                  · have h := ip (fun z9 => (lC (f_M_look_L33 N M_doubted M_against P_tellers c1_1) none n1 z9)) hc1636 h
                    refine r_aload_n 1 dX11_look_103 rfl ?_
                    refine r_iload_n 3 dX11_look_104 rfl ?_
                    refine r_putf _ dX11_look_105 fl_X11_110 lM_0 (Nat.le_of_ble_eq_true rfl) rfl rfl (sM_10 _) ?_
                    refine r_aload_n 1 dX11_look_108 rfl ?_
                    refine r_iload_n 0 dX11_look_109 rfl ?_
                    refine r_putf _ dX11_look_110 fl_X11_95 lM_0 (Nat.le_of_ble_eq_true rfl) rfl rfl (sM_11 _) ?_
                    refine r_aload_n 1 dX11_look_113 rfl ?_
                    refine r_dup dX11_look_114 rfl ?_
                    refine r_getf (v := .int M_sets_1) _ dX11_look_115 fl_X11_107 lM_0 rfl ?_
                    refine r_iconst (v := (1 : Int32)) dX11_look_118 (by decide) ?_
                    refine r_iadd dX11_look_119 ?_
                    refine r_putf _ dX11_look_120 fl_X11_107 lM_0 (Nat.le_of_ble_eq_true rfl) rfl rfl (sM_12 _) ?_
                    refine r_iinc (v2 := (l2_1 + (1 : Int32))) 3 [(2, .int (l2_1 + (1 : Int32))), (3, .int (f_J6_bitCount_0f7a4 l2_1)), (0, .ref (am 0)), (1, .int c1_1)] dX11_look_123 rfl rfl (by decide) rfl ?_
                    refine r_goto (tgt := 33) dX11_look_126 (by decide) ?_
                    refine r_ls [2, 3, 0] (ls2 := [(0, .ref (am 0)), (1, .int c1_1), (2, .int (l2_1 + (1 : Int32)))]) rfl ?_
                    exact ih1 c1_1 (l2_1 + (1 : Int32)) l2_1 (f_J6_bitCount_0f7a4 l2_1) (M_sets_1 + (1 : Int32)) h
                  · have h := iq (fun z9 => (lC (f_M_look_L33 N M_doubted M_against P_tellers c1_1) none n1 z9)) hc1636 h
                    refine r_iload_n 3 dX11_look_92 rfl ?_
                    refine r_aload_n 1 dX11_look_93 rfl ?_
                    refine r_getf (v := .int M_lying_1) _ dX11_look_94 fl_X11_110 lM_0 rfl ?_
                    refine c_S (rest := []) 0 0 dX11_look_97 ks_X11_113 (ct_M_isAhead rfl) rfl rfl (Nat.le_of_ble_eq_true rfl) (by decide) (by decide) ?_
                    refine r_if_eq (tgt := 108) dX11_look_100 (by decide) (fun hc1637 => ?_) (fun hc1637 => ?_)
                    · have h := ip (fun z9 => (lC (f_M_look_L33 N M_doubted M_against P_tellers c1_1) none n1 z9)) hc1637 h
                      refine r_aload_n 1 dX11_look_108 rfl ?_
                      refine r_iload_n 0 dX11_look_109 rfl ?_
                      refine r_putf _ dX11_look_110 fl_X11_95 lM_0 (Nat.le_of_ble_eq_true rfl) rfl rfl (sM_11 _) ?_
                      refine r_aload_n 1 dX11_look_113 rfl ?_
                      refine r_dup dX11_look_114 rfl ?_
                      refine r_getf (v := .int M_sets_1) _ dX11_look_115 fl_X11_107 lM_0 rfl ?_
                      refine r_iconst (v := (1 : Int32)) dX11_look_118 (by decide) ?_
                      refine r_iadd dX11_look_119 ?_
                      refine r_putf _ dX11_look_120 fl_X11_107 lM_0 (Nat.le_of_ble_eq_true rfl) rfl rfl (sM_12 _) ?_
                      refine r_iinc (v2 := (l2_1 + (1 : Int32))) 3 [(2, .int (l2_1 + (1 : Int32))), (3, .int (f_J6_bitCount_0f7a4 l2_1)), (0, .ref (am 0)), (1, .int c1_1)] dX11_look_123 rfl rfl (by decide) rfl ?_
                      refine r_goto (tgt := 33) dX11_look_126 (by decide) ?_
                      refine r_ls [2, 3, 0] (ls2 := [(0, .ref (am 0)), (1, .int c1_1), (2, .int (l2_1 + (1 : Int32)))]) rfl ?_
                      exact ih1 c1_1 (l2_1 + (1 : Int32)) M_lying_1 (f_J6_bitCount_0f7a4 l2_1) (M_sets_1 + (1 : Int32)) h
                    · have h := iq (fun z9 => (lC (f_M_look_L33 N M_doubted M_against P_tellers c1_1) none n1 z9)) hc1637 h
                      refine r_aload_n 1 dX11_look_103 rfl ?_
                      refine r_iload_n 3 dX11_look_104 rfl ?_
                      refine r_putf _ dX11_look_105 fl_X11_110 lM_0 (Nat.le_of_ble_eq_true rfl) rfl rfl (sM_10 _) ?_
                      refine r_aload_n 1 dX11_look_108 rfl ?_
                      refine r_iload_n 0 dX11_look_109 rfl ?_
                      refine r_putf _ dX11_look_110 fl_X11_95 lM_0 (Nat.le_of_ble_eq_true rfl) rfl rfl (sM_11 _) ?_
                      refine r_aload_n 1 dX11_look_113 rfl ?_
                      refine r_dup dX11_look_114 rfl ?_
                      refine r_getf (v := .int M_sets_1) _ dX11_look_115 fl_X11_107 lM_0 rfl ?_
                      refine r_iconst (v := (1 : Int32)) dX11_look_118 (by decide) ?_
                      refine r_iadd dX11_look_119 ?_
                      refine r_putf _ dX11_look_120 fl_X11_107 lM_0 (Nat.le_of_ble_eq_true rfl) rfl rfl (sM_12 _) ?_
                      refine r_iinc (v2 := (l2_1 + (1 : Int32))) 3 [(2, .int (l2_1 + (1 : Int32))), (3, .int (f_J6_bitCount_0f7a4 l2_1)), (0, .ref (am 0)), (1, .int c1_1)] dX11_look_123 rfl rfl (by decide) rfl ?_
                      refine r_goto (tgt := 33) dX11_look_126 (by decide) ?_
                      refine r_ls [2, 3, 0] (ls2 := [(0, .ref (am 0)), (1, .int c1_1), (2, .int (l2_1 + (1 : Int32)))]) rfl ?_
                      exact ih1 c1_1 (l2_1 + (1 : Int32)) l2_1 (f_J6_bitCount_0f7a4 l2_1) (M_sets_1 + (1 : Int32)) h
                · have h := iq (fun z9 => (lC (f_M_look_L33 N M_doubted M_against P_tellers c1_1) none n1 z9)) hc1635 h
                  refine r_aload_n 1 dX11_look_79 rfl ?_
                  refine r_iconst (v := (0 : Int32)) dX11_look_80 (by decide) ?_
                  refine r_putf _ dX11_look_81 fl_X11_107 lM_0 (Nat.le_of_ble_eq_true rfl) rfl rfl (sM_12 _) ?_
                  refine r_iload_n 0 dX11_look_84 rfl ?_
                  refine r_aload_n 1 dX11_look_85 rfl ?_
                  refine r_getf (v := .int M_fewest_1) _ dX11_look_86 fl_X11_95 lM_0 rfl ?_
                  refine r_icmp_lt (tgt := 103) dX11_look_89 (by decide) (fun hc1638 => ?_) (fun hc1638 => ?_)
                  · have h := ip (fun z9 => (lC (f_M_look_L33 N M_doubted M_against P_tellers c1_1) none n1 z9)) hc1638 h
                    refine r_aload_n 1 dX11_look_103 rfl ?_
                    refine r_iload_n 3 dX11_look_104 rfl ?_
                    refine r_putf _ dX11_look_105 fl_X11_110 lM_0 (Nat.le_of_ble_eq_true rfl) rfl rfl (sM_10 _) ?_
                    refine r_aload_n 1 dX11_look_108 rfl ?_
                    refine r_iload_n 0 dX11_look_109 rfl ?_
                    refine r_putf _ dX11_look_110 fl_X11_95 lM_0 (Nat.le_of_ble_eq_true rfl) rfl rfl (sM_11 _) ?_
                    refine r_aload_n 1 dX11_look_113 rfl ?_
                    refine r_dup dX11_look_114 rfl ?_
                    refine r_getf (v := .int (0 : Int32)) _ dX11_look_115 fl_X11_107 lM_0 rfl ?_
                    refine r_iconst (v := (1 : Int32)) dX11_look_118 (by decide) ?_
                    refine r_iadd dX11_look_119 ?_
                    refine r_putf _ dX11_look_120 fl_X11_107 lM_0 (Nat.le_of_ble_eq_true rfl) rfl rfl (sM_12 _) ?_
                    refine r_iinc (v2 := (l2_1 + (1 : Int32))) 3 [(2, .int (l2_1 + (1 : Int32))), (3, .int (f_J6_bitCount_0f7a4 l2_1)), (0, .ref (am 0)), (1, .int c1_1)] dX11_look_123 rfl rfl (by decide) rfl ?_
                    refine r_goto (tgt := 33) dX11_look_126 (by decide) ?_
                    refine r_ls [2, 3, 0] (ls2 := [(0, .ref (am 0)), (1, .int c1_1), (2, .int (l2_1 + (1 : Int32)))]) rfl ?_
                    exact ih1 c1_1 (l2_1 + (1 : Int32)) l2_1 (f_J6_bitCount_0f7a4 l2_1) ((0 : Int32) + (1 : Int32)) h
                  · have h := iq (fun z9 => (lC (f_M_look_L33 N M_doubted M_against P_tellers c1_1) none n1 z9)) hc1638 h
                    refine r_iload_n 3 dX11_look_92 rfl ?_
                    refine r_aload_n 1 dX11_look_93 rfl ?_
                    refine r_getf (v := .int M_lying_1) _ dX11_look_94 fl_X11_110 lM_0 rfl ?_
                    refine c_S (rest := []) 0 0 dX11_look_97 ks_X11_113 (ct_M_isAhead rfl) rfl rfl (Nat.le_of_ble_eq_true rfl) (by decide) (by decide) ?_
                    refine r_if_eq (tgt := 108) dX11_look_100 (by decide) (fun hc1639 => ?_) (fun hc1639 => ?_)
                    · have h := ip (fun z9 => (lC (f_M_look_L33 N M_doubted M_against P_tellers c1_1) none n1 z9)) hc1639 h
                      refine r_aload_n 1 dX11_look_108 rfl ?_
                      refine r_iload_n 0 dX11_look_109 rfl ?_
                      refine r_putf _ dX11_look_110 fl_X11_95 lM_0 (Nat.le_of_ble_eq_true rfl) rfl rfl (sM_11 _) ?_
                      refine r_aload_n 1 dX11_look_113 rfl ?_
                      refine r_dup dX11_look_114 rfl ?_
                      refine r_getf (v := .int (0 : Int32)) _ dX11_look_115 fl_X11_107 lM_0 rfl ?_
                      refine r_iconst (v := (1 : Int32)) dX11_look_118 (by decide) ?_
                      refine r_iadd dX11_look_119 ?_
                      refine r_putf _ dX11_look_120 fl_X11_107 lM_0 (Nat.le_of_ble_eq_true rfl) rfl rfl (sM_12 _) ?_
                      refine r_iinc (v2 := (l2_1 + (1 : Int32))) 3 [(2, .int (l2_1 + (1 : Int32))), (3, .int (f_J6_bitCount_0f7a4 l2_1)), (0, .ref (am 0)), (1, .int c1_1)] dX11_look_123 rfl rfl (by decide) rfl ?_
                      refine r_goto (tgt := 33) dX11_look_126 (by decide) ?_
                      refine r_ls [2, 3, 0] (ls2 := [(0, .ref (am 0)), (1, .int c1_1), (2, .int (l2_1 + (1 : Int32)))]) rfl ?_
                      exact ih1 c1_1 (l2_1 + (1 : Int32)) M_lying_1 (f_J6_bitCount_0f7a4 l2_1) ((0 : Int32) + (1 : Int32)) h
                    · have h := iq (fun z9 => (lC (f_M_look_L33 N M_doubted M_against P_tellers c1_1) none n1 z9)) hc1639 h
                      refine r_aload_n 1 dX11_look_103 rfl ?_
                      refine r_iload_n 3 dX11_look_104 rfl ?_
                      refine r_putf _ dX11_look_105 fl_X11_110 lM_0 (Nat.le_of_ble_eq_true rfl) rfl rfl (sM_10 _) ?_
                      refine r_aload_n 1 dX11_look_108 rfl ?_
                      refine r_iload_n 0 dX11_look_109 rfl ?_
                      refine r_putf _ dX11_look_110 fl_X11_95 lM_0 (Nat.le_of_ble_eq_true rfl) rfl rfl (sM_11 _) ?_
                      refine r_aload_n 1 dX11_look_113 rfl ?_
                      refine r_dup dX11_look_114 rfl ?_
                      refine r_getf (v := .int (0 : Int32)) _ dX11_look_115 fl_X11_107 lM_0 rfl ?_
                      refine r_iconst (v := (1 : Int32)) dX11_look_118 (by decide) ?_
                      refine r_iadd dX11_look_119 ?_
                      refine r_putf _ dX11_look_120 fl_X11_107 lM_0 (Nat.le_of_ble_eq_true rfl) rfl rfl (sM_12 _) ?_
                      refine r_iinc (v2 := (l2_1 + (1 : Int32))) 3 [(2, .int (l2_1 + (1 : Int32))), (3, .int (f_J6_bitCount_0f7a4 l2_1)), (0, .ref (am 0)), (1, .int c1_1)] dX11_look_123 rfl rfl (by decide) rfl ?_
                      refine r_goto (tgt := 33) dX11_look_126 (by decide) ?_
                      refine r_ls [2, 3, 0] (ls2 := [(0, .ref (am 0)), (1, .int c1_1), (2, .int (l2_1 + (1 : Int32)))]) rfl ?_
                      exact ih1 c1_1 (l2_1 + (1 : Int32)) l2_1 (f_J6_bitCount_0f7a4 l2_1) ((0 : Int32) + (1 : Int32)) h
              · have h := ip (fun z9 => (lC (f_M_look_L33 N M_doubted M_against P_tellers c1_1) none n1 z9)) hc1634 h
                refine r_goto (tgt := 123) dX11_look_68 (by decide) ?_
                refine r_iinc (v2 := (l2_1 + (1 : Int32))) 3 [(2, .int (l2_1 + (1 : Int32))), (3, .int (f_J6_bitCount_0f7a4 l2_1)), (0, .ref (am 0)), (1, .int c1_1)] dX11_look_123 rfl rfl (by decide) rfl ?_
                refine r_goto (tgt := 33) dX11_look_126 (by decide) ?_
                refine r_ls [2, 3, 0] (ls2 := [(0, .ref (am 0)), (1, .int c1_1), (2, .int (l2_1 + (1 : Int32)))]) rfl ?_
                exact ih1 c1_1 (l2_1 + (1 : Int32)) M_lying_1 M_fewest_1 M_sets_1 h
    exact L1 _ (f_M_believed M_doubted P_tellers) (0 : Int32) M_lying (11 : Int32) M_sets h
  · have h := ip (fun z9 => z9) hc1628 h
    refine r_vret dX11_look_11 rfl ?_
    have h := Option.some.inj (show some _ = some o from h)
    subst h
    exact hq
theorem ct_M_look {g : GG} {am : Nat → Nat} {ap : Nat → Nat} {t : va_W} {m0 m1 m2 m3 m4 m5 m7 m8 u0 u2 u3 u4 : Int32} {m13 m14 m15 m16 m18 m20 m21 u7 u8 u9 u10 u11 u12 u13 u14 u15 u16 u17 u18 : Nat → Int32} {m17 u5 u6 : Nat → Int64} {N : Nat} {M_doubted : Int32} {M_looked : Int32} {M_lying : Int32} {M_fewest : Int32} {M_sets : Int32} {M_against : Nat → Int32} {P_tellers : Int32} {o : Int32 × Int32 × Int32 × Int32} (h : f_M_look N M_doubted M_looked M_lying M_fewest M_sets M_against P_tellers = some o) : Ct g mX11_look 3 0 0 [.ref (am 0)] (wlM g am (ap 0) m0 m1 m2 m3 m4 m5 M_doubted m7 m8 M_looked M_lying M_fewest M_sets m13 m14 m15 m16 m17 m18 M_against m20 m21 ++ (wlP g ap u0 P_tellers u2 u3 u4 u5 u6 u7 u8 u9 u10 u11 u12 u13 u14 u15 u16 u17 u18 ++ t)) (Dv (none) (wlM g am (ap 0) m0 m1 m2 m3 m4 m5 M_doubted m7 m8 o.1 o.2.1 o.2.2.1 o.2.2.2 m13 m14 m15 m16 m17 m18 M_against m20 m21 ++ (wlP g ap u0 P_tellers u2 u3 u4 u5 u6 u7 u8 u9 u10 u11 u12 u13 u14 u15 u16 u17 u18 ++ t))) := Ct.ofR (by decide +kernel) rfl (Nat.le_of_ble_eq_true rfl) (rt_M_look h ⟨rfl, rfl⟩)
