set_option maxRecDepth 20000 in
set_option maxHeartbeats 4000000 in
theorem rt_M_holds {g : GG} {am : Nat → Nat} {ap : Nat → Nat} {t : va_W} {m0 m1 m2 m3 m4 m5 m8 u0 u3 u4 : Int32} {m13 m14 m15 m16 m18 m20 u12 u13 : Nat → Int32} {m17 u5 u6 : Nat → Int64} {N : Nat} {M_doubted : Int32} {M_evenings : Int32} {M_looked : Int32} {M_lying : Int32} {M_fewest : Int32} {M_sets : Int32} {M_against : Nat → Int32} {M_stack : Nat → Int32} {P_tellers : Int32} {P_claims : Int32} {P_kind : Nat → Int32} {P_by : Nat → Int32} {P_of : Nat → Int32} {P_other : Nat → Int32} {P_last : Nat → Int32} {P_begins : Nat → Int32} {P_ends : Nat → Int32} {P_order : Nat → Int32} {P_with : Nat → Int32} {P_also : Nat → Int32} {p1 : Int32} {o : Int32 × Int32 × Int32 × Int32 × Int32 × (Nat → Int32)} {Q : Rs → va_W → Prop} (h : f_M_holds N M_doubted M_evenings M_looked M_lying M_fewest M_sets M_against M_stack P_tellers P_claims P_kind P_by P_of P_other P_last P_begins P_ends P_order P_with P_also p1 = some o) (hq : Q (.inl (some (.int o.1))) (wlM g am (ap 0) m0 m1 m2 m3 m4 m5 M_doubted M_evenings m8 o.2.1 o.2.2.1 o.2.2.2.1 o.2.2.2.2.1 m13 m14 m15 m16 m17 m18 M_against m20 o.2.2.2.2.2 ++ (wlP g ap u0 P_tellers P_claims u3 u4 u5 u6 P_kind P_by P_of P_other P_last u12 u13 P_begins P_ends P_order P_with P_also ++ t))) : R g mX11_holds 6 0 0 0 [(0, .ref (am 0)), (1, .int p1)] [] (wlM g am (ap 0) m0 m1 m2 m3 m4 m5 M_doubted M_evenings m8 M_looked M_lying M_fewest M_sets m13 m14 m15 m16 m17 m18 M_against m20 M_stack ++ (wlP g ap u0 P_tellers P_claims u3 u4 u5 u6 P_kind P_by P_of P_other P_last u12 u13 P_begins P_ends P_order P_with P_also ++ t)) Q := by
  unfold f_M_holds at h
  refine r_iconst (v := (0 : Int32)) dX11_holds_0 (by decide) ?_
  refine r_istore_n [(2, .int (0 : Int32)), (0, .ref (am 0)), (1, .int p1)] dX11_holds_1 (by decide) rfl ?_
  refine r_aload_n 1 dX11_holds_2 rfl ?_
  refine r_getf (v := .ref (ap 0)) _ dX11_holds_3 fl_X11_20 lM_0 rfl ?_
  refine r_getf (v := .ref (ap 10)) _ dX11_holds_6 fl_X11_181 lP_0 rfl ?_
  refine r_iload_n 2 dX11_holds_9 rfl ?_
  obtain ⟨hb1739, h⟩ := gd (fun z9 => z9) rfl h
  refine r_iald _ dX11_holds_10 lP_10 hb1739 ?_
  refine r_istore_n [(3, .int (P_begins p1.toNatClampNeg)), (2, .int (0 : Int32)), (0, .ref (am 0)), (1, .int p1)] dX11_holds_11 (by decide) rfl ?_
  refine r_ls [2, 3, 1, 0] (ls2 := [(0, .ref (am 0)), (1, .int p1), (2, .int (0 : Int32)), (3, .int (P_begins p1.toNatClampNeg))]) rfl ?_
  have L1 : ∀ (n1 : Nat) (l2_1 : Int32) (l3_1 : Int32) (M_looked_1 : Int32) (M_lying_1 : Int32) (M_fewest_1 : Int32) (M_sets_1 : Int32) (M_stack_1 : Nat → Int32), (fun z9 => z9) (lpS (f_M_holds_L12 N M_doubted M_evenings M_against P_tellers P_claims P_kind P_by P_of P_other P_last P_ends P_order P_with P_also p1) none n1 (l2_1, l3_1, M_looked_1, M_lying_1, M_fewest_1, M_sets_1, M_stack_1)) = some o → R g mX11_holds 6 0 0 12 [(0, .ref (am 0)), (1, .int p1), (2, .int l2_1), (3, .int l3_1)] [] (wlM g am (ap 0) m0 m1 m2 m3 m4 m5 M_doubted M_evenings m8 M_looked_1 M_lying_1 M_fewest_1 M_sets_1 m13 m14 m15 m16 m17 m18 M_against m20 M_stack_1 ++ (wlP g ap u0 P_tellers P_claims u3 u4 u5 u6 P_kind P_by P_of P_other P_last u12 u13 P_begins P_ends P_order P_with P_also ++ t)) Q := by
    intro n1
    induction n1 with
    | zero => intro l2_1 l3_1 M_looked_1 M_lying_1 M_fewest_1 M_sets_1 M_stack_1 h; exact nomatch (show (none : Option _) = some _ from h)
    | succ n1 ih1 =>
      intro l2_1 l3_1 M_looked_1 M_lying_1 M_fewest_1 M_sets_1 M_stack_1 h
      have h : (fun z9 => (lC (f_M_holds_L12 N M_doubted M_evenings M_against P_tellers P_claims P_kind P_by P_of P_other P_last P_ends P_order P_with P_also p1) none n1 z9)) (f_M_holds_L12 N M_doubted M_evenings M_against P_tellers P_claims P_kind P_by P_of P_other P_last P_ends P_order P_with P_also p1 (l2_1, l3_1, M_looked_1, M_lying_1, M_fewest_1, M_sets_1, M_stack_1)) = some o := h
      unfold f_M_holds_L12 at h
      try dsimp only at h
      refine r_iload_n 3 dX11_holds_12 rfl ?_
      refine r_aload_n 0 dX11_holds_13 rfl ?_
      refine r_getf (v := .ref (ap 0)) _ dX11_holds_14 fl_X11_20 lM_0 rfl ?_
      refine r_getf (v := .ref (ap 11)) _ dX11_holds_17 fl_X11_184 lP_0 rfl ?_
      refine r_iload_n 1 dX11_holds_20 rfl ?_
      obtain ⟨hb1740, h⟩ := gd (fun z9 => (lC (f_M_holds_L12 N M_doubted M_evenings M_against P_tellers P_claims P_kind P_by P_of P_other P_last P_ends P_order P_with P_also p1) none n1 z9)) rfl h
      refine r_iald _ dX11_holds_21 lP_11 hb1740 ?_
      refine r_icmp_ge (tgt := 171) dX11_holds_22 (by decide) (fun hc1741 => ?_) (fun hc1741 => ?_)
      · have h := ip (fun z9 => (lC (f_M_holds_L12 N M_doubted M_evenings M_against P_tellers P_claims P_kind P_by P_of P_other P_last P_ends P_order P_with P_also p1) none n1 z9)) hc1741 h
        refine r_iload_n 2 dX11_holds_171 rfl ?_
        refine r_if_eq (tgt := 185) dX11_holds_172 (by decide) (fun hc1742 => ?_) (fun hc1742 => ?_)
        · have h := ip (fun z9 => (lC (f_M_holds_L12 N M_doubted M_evenings M_against P_tellers P_claims P_kind P_by P_of P_other P_last P_ends P_order P_with P_also p1) none n1 z9)) hc1742 h
          refine r_iconst (v := (1 : Int32)) dX11_holds_185 (by decide) ?_
          refine r_goto (tgt := 190) dX11_holds_186 (by decide) ?_
          refine r_zret dX11_holds_190 rfl (by decide) ?_
          have h := Option.some.inj (show some _ = some o from h)
          subst h
          exact hq
        · have h := iq (fun z9 => (lC (f_M_holds_L12 N M_doubted M_evenings M_against P_tellers P_claims P_kind P_by P_of P_other P_last P_ends P_order P_with P_also p1) none n1 z9)) hc1742 h
          refine r_aload_n 0 dX11_holds_175 rfl ?_
          refine r_getf (v := .ref (am 9)) _ dX11_holds_176 fl_X11_49 lM_0 rfl ?_
          refine r_iconst (v := (0 : Int32)) dX11_holds_179 (by decide) ?_
          refine r_iald _ dX11_holds_180 lM_9 (by decide) ?_
          refine r_iconst (v := (1 : Int32)) dX11_holds_181 (by decide) ?_
          refine r_icmp_ne (tgt := 189) dX11_holds_182 (by decide) (fun hc1743 => ?_) (fun hc1743 => ?_)
          · have h := iq (fun z9 => (lC (f_M_holds_L12 N M_doubted M_evenings M_against P_tellers P_claims P_kind P_by P_of P_other P_last P_ends P_order P_with P_also p1) none n1 z9)) hc1743 h
            refine r_iconst (v := (0 : Int32)) dX11_holds_189 (by decide) ?_
            refine r_zret dX11_holds_190 rfl (by decide) ?_
            have h := Option.some.inj (show some _ = some o from h)
            subst h
            exact hq
          · have h := ip (fun z9 => (lC (f_M_holds_L12 N M_doubted M_evenings M_against P_tellers P_claims P_kind P_by P_of P_other P_last P_ends P_order P_with P_also p1) none n1 z9)) hc1743 h
            refine r_iconst (v := (1 : Int32)) dX11_holds_185 (by decide) ?_
            refine r_goto (tgt := 190) dX11_holds_186 (by decide) ?_
            refine r_zret dX11_holds_190 rfl (by decide) ?_
            have h := Option.some.inj (show some _ = some o from h)
            subst h
            exact hq
      · have h := iq (fun z9 => (lC (f_M_holds_L12 N M_doubted M_evenings M_against P_tellers P_claims P_kind P_by P_of P_other P_last P_ends P_order P_with P_also p1) none n1 z9)) hc1741 h
        refine r_aload_n 0 dX11_holds_25 rfl ?_
        refine r_getf (v := .ref (ap 0)) _ dX11_holds_26 fl_X11_20 lM_0 rfl ?_
        refine r_getf (v := .ref (ap 12)) _ dX11_holds_29 fl_X11_187 lP_0 rfl ?_
        refine r_iload_n 3 dX11_holds_32 rfl ?_
        obtain ⟨hb1744, h⟩ := gd (fun z9 => (lC (f_M_holds_L12 N M_doubted M_evenings M_against P_tellers P_claims P_kind P_by P_of P_other P_last P_ends P_order P_with P_also p1) none n1 z9)) rfl h
        refine r_iald _ dX11_holds_33 lP_12 hb1744 ?_
        refine r_istore [(4, .int (P_order l3_1.toNatClampNeg)), (0, .ref (am 0)), (1, .int p1), (2, .int l2_1), (3, .int l3_1)] dX11_holds_34 (by decide) rfl ?_
        refine r_iload 0 dX11_holds_36 rfl ?_
        refine c_S (rest := []) 0 0 dX11_holds_38 ks_X11_190 (ct_M_isAsked rfl) rfl rfl (Nat.le_of_ble_eq_true rfl) (by decide) (by decide) ?_
        refine r_if_eq (tgt := 80) dX11_holds_41 (by decide) (fun hc1745 => ?_) (fun hc1745 => ?_)
        · have h := ip (fun z9 => (lC (f_M_holds_L12 N M_doubted M_evenings M_against P_tellers P_claims P_kind P_by P_of P_other P_last P_ends P_order P_with P_also p1) none n1 z9)) hc1745 h
          refine r_iload 0 dX11_holds_80 rfl ?_
          refine r_bipush (v := (105 : Int32)) dX11_holds_82 (by decide) ?_
          refine r_icmp_ne (tgt := 107) dX11_holds_84 (by decide) (fun hc1746 => ?_) (fun hc1746 => ?_)
          · have h := iq (fun z9 => (lC (f_M_holds_L12 N M_doubted M_evenings M_against P_tellers P_claims P_kind P_by P_of P_other P_last P_ends P_order P_with P_also p1) none n1 z9)) hc1746 h
            refine r_iload 0 dX11_holds_107 rfl ?_
            refine r_bipush (v := (20 : Int32)) dX11_holds_109 (by decide) ?_
            refine r_icmp_ne (tgt := 135) dX11_holds_111 (by decide) (fun hc1747 => ?_) (fun hc1747 => ?_)
            · have h := iq (fun z9 => (lC (f_M_holds_L12 N M_doubted M_evenings M_against P_tellers P_claims P_kind P_by P_of P_other P_last P_ends P_order P_with P_also p1) none n1 z9)) hc1747 h
              refine r_iinc (v2 := (l2_1 + (-1 : Int32))) 3 [(2, .int (l2_1 + (-1 : Int32))), (4, .int (P_order l3_1.toNatClampNeg)), (0, .ref (am 0)), (1, .int p1), (3, .int l3_1)] dX11_holds_135 rfl rfl (by decide) rfl ?_
              refine r_aload_n 2 dX11_holds_138 rfl ?_
              refine r_getf (v := .ref (am 9)) _ dX11_holds_139 fl_X11_49 lM_0 rfl ?_
              refine r_iload_n 0 dX11_holds_142 rfl ?_
              refine r_iconst (v := (1 : Int32)) dX11_holds_143 (by decide) ?_
              refine r_isub dX11_holds_144 ?_
              refine r_iload 1 dX11_holds_145 rfl ?_
              refine r_aload_n 2 dX11_holds_147 rfl ?_
              refine r_getf (v := .ref (am 9)) _ dX11_holds_148 fl_X11_49 lM_0 rfl ?_
              refine r_iload_n 0 dX11_holds_151 rfl ?_
              refine r_iconst (v := (1 : Int32)) dX11_holds_152 (by decide) ?_
              refine r_isub dX11_holds_153 ?_
              obtain ⟨hb1748, h⟩ := gd (fun z9 => (lC (f_M_holds_L12 N M_doubted M_evenings M_against P_tellers P_claims P_kind P_by P_of P_other P_last P_ends P_order P_with P_also p1) none n1 z9)) rfl h
              refine r_iald _ dX11_holds_154 lM_9 hb1748 ?_
              refine r_aload_n 2 dX11_holds_155 rfl ?_
              refine r_getf (v := .ref (am 9)) _ dX11_holds_156 fl_X11_49 lM_0 rfl ?_
              refine r_iload_n 0 dX11_holds_159 rfl ?_
              obtain ⟨hb1749, h⟩ := gd (fun z9 => (lC (f_M_holds_L12 N M_doubted M_evenings M_against P_tellers P_claims P_kind P_by P_of P_other P_last P_ends P_order P_with P_also p1) none n1 z9)) rfl h
              refine r_iald _ dX11_holds_160 lM_9 hb1749 ?_
              refine c_S (rest := [.int ((l2_1 + (-1 : Int32)) - (1 : Int32)), .ref (am 9)]) 0 0 dX11_holds_161 ks_X11_203 (ct_M_reckon rfl) rfl rfl (Nat.le_of_ble_eq_true rfl) (by decide) (by decide) ?_
              obtain ⟨hb1750, h⟩ := gd (fun z9 => (lC (f_M_holds_L12 N M_doubted M_evenings M_against P_tellers P_claims P_kind P_by P_of P_other P_last P_ends P_order P_with P_also p1) none n1 z9)) rfl h
              refine r_iast _ dX11_holds_164 lM_9 hb1750 (sM_21 _) ?_
              refine r_iinc (v2 := (l3_1 + (1 : Int32))) 4 [(3, .int (l3_1 + (1 : Int32))), (2, .int (l2_1 + (-1 : Int32))), (4, .int (P_order l3_1.toNatClampNeg)), (0, .ref (am 0)), (1, .int p1)] dX11_holds_165 rfl rfl (by decide) rfl ?_
              refine r_goto (tgt := 12) dX11_holds_168 (by decide) ?_
              refine r_ls [3, 4, 1, 0] (ls2 := [(0, .ref (am 0)), (1, .int p1), (2, .int (l2_1 + (-1 : Int32))), (3, .int (l3_1 + (1 : Int32)))]) rfl ?_
              exact ih1 (l2_1 + (-1 : Int32)) (l3_1 + (1 : Int32)) M_looked_1 M_lying_1 M_fewest_1 M_sets_1 (upd M_stack_1 ((l2_1 + (-1 : Int32)) - (1 : Int32)).toNatClampNeg (f_M_reckon (P_order l3_1.toNatClampNeg) (M_stack_1 ((l2_1 + (-1 : Int32)) - (1 : Int32)).toNatClampNeg) (M_stack_1 (l2_1 + (-1 : Int32)).toNatClampNeg))) h
            · have h := ip (fun z9 => (lC (f_M_holds_L12 N M_doubted M_evenings M_against P_tellers P_claims P_kind P_by P_of P_other P_last P_ends P_order P_with P_also p1) none n1 z9)) hc1747 h
              refine r_aload_n 1 dX11_holds_114 rfl ?_
              refine r_getf (v := .ref (am 9)) _ dX11_holds_115 fl_X11_49 lM_0 rfl ?_
              refine r_iload_n 3 dX11_holds_118 rfl ?_
              refine r_iconst (v := (1 : Int32)) dX11_holds_119 (by decide) ?_
              refine r_isub dX11_holds_120 ?_
              refine r_iconst (v := (1 : Int32)) dX11_holds_121 (by decide) ?_
              refine r_aload_n 1 dX11_holds_122 rfl ?_
              refine r_getf (v := .ref (am 9)) _ dX11_holds_123 fl_X11_49 lM_0 rfl ?_
              refine r_iload_n 3 dX11_holds_126 rfl ?_
              refine r_iconst (v := (1 : Int32)) dX11_holds_127 (by decide) ?_
              refine r_isub dX11_holds_128 ?_
              obtain ⟨hb1751, h⟩ := gd (fun z9 => (lC (f_M_holds_L12 N M_doubted M_evenings M_against P_tellers P_claims P_kind P_by P_of P_other P_last P_ends P_order P_with P_also p1) none n1 z9)) rfl h
              refine r_iald _ dX11_holds_129 lM_9 hb1751 ?_
              refine r_isub dX11_holds_130 ?_
              obtain ⟨hb1752, h⟩ := gd (fun z9 => (lC (f_M_holds_L12 N M_doubted M_evenings M_against P_tellers P_claims P_kind P_by P_of P_other P_last P_ends P_order P_with P_also p1) none n1 z9)) rfl h
              refine r_iast _ dX11_holds_131 lM_9 hb1752 (sM_21 _) ?_
              refine r_goto (tgt := 165) dX11_holds_132 (by decide) ?_
              refine r_iinc (v2 := (l3_1 + (1 : Int32))) 4 [(3, .int (l3_1 + (1 : Int32))), (4, .int (P_order l3_1.toNatClampNeg)), (0, .ref (am 0)), (1, .int p1), (2, .int l2_1)] dX11_holds_165 rfl rfl (by decide) rfl ?_
              refine r_goto (tgt := 12) dX11_holds_168 (by decide) ?_
              refine r_ls [2, 3, 4, 0] (ls2 := [(0, .ref (am 0)), (1, .int p1), (2, .int l2_1), (3, .int (l3_1 + (1 : Int32)))]) rfl ?_
              exact ih1 l2_1 (l3_1 + (1 : Int32)) M_looked_1 M_lying_1 M_fewest_1 M_sets_1 (upd M_stack_1 (l2_1 - (1 : Int32)).toNatClampNeg ((1 : Int32) - (M_stack_1 (l2_1 - (1 : Int32)).toNatClampNeg))) h
          · have h := ip (fun z9 => (lC (f_M_holds_L12 N M_doubted M_evenings M_against P_tellers P_claims P_kind P_by P_of P_other P_last P_ends P_order P_with P_also p1) none n1 z9)) hc1746 h
            refine r_aload_n 1 dX11_holds_87 rfl ?_
            refine r_getf (v := .ref (am 9)) _ dX11_holds_88 fl_X11_49 lM_0 rfl ?_
            refine r_iload_n 3 dX11_holds_91 rfl ?_
            refine r_iconst (v := (1 : Int32)) dX11_holds_92 (by decide) ?_
            refine r_isub dX11_holds_93 ?_
            refine r_aload_n 1 dX11_holds_94 rfl ?_
            refine r_getf (v := .ref (am 9)) _ dX11_holds_95 fl_X11_49 lM_0 rfl ?_
            refine r_iload_n 3 dX11_holds_98 rfl ?_
            refine r_iconst (v := (1 : Int32)) dX11_holds_99 (by decide) ?_
            refine r_isub dX11_holds_100 ?_
            obtain ⟨hb1753, h⟩ := gd (fun z9 => (lC (f_M_holds_L12 N M_doubted M_evenings M_against P_tellers P_claims P_kind P_by P_of P_other P_last P_ends P_order P_with P_also p1) none n1 z9)) rfl h
            refine r_iald _ dX11_holds_101 lM_9 hb1753 ?_
            refine r_ineg dX11_holds_102 ?_
            obtain ⟨hb1754, h⟩ := gd (fun z9 => (lC (f_M_holds_L12 N M_doubted M_evenings M_against P_tellers P_claims P_kind P_by P_of P_other P_last P_ends P_order P_with P_also p1) none n1 z9)) rfl h
            refine r_iast _ dX11_holds_103 lM_9 hb1754 (sM_21 _) ?_
            refine r_goto (tgt := 165) dX11_holds_104 (by decide) ?_
            refine r_iinc (v2 := (l3_1 + (1 : Int32))) 4 [(3, .int (l3_1 + (1 : Int32))), (4, .int (P_order l3_1.toNatClampNeg)), (0, .ref (am 0)), (1, .int p1), (2, .int l2_1)] dX11_holds_165 rfl rfl (by decide) rfl ?_
            refine r_goto (tgt := 12) dX11_holds_168 (by decide) ?_
            refine r_ls [2, 3, 4, 0] (ls2 := [(0, .ref (am 0)), (1, .int p1), (2, .int l2_1), (3, .int (l3_1 + (1 : Int32)))]) rfl ?_
            exact ih1 l2_1 (l3_1 + (1 : Int32)) M_looked_1 M_lying_1 M_fewest_1 M_sets_1 (upd M_stack_1 (l2_1 - (1 : Int32)).toNatClampNeg (-(M_stack_1 (l2_1 - (1 : Int32)).toNatClampNeg))) h
        · have h := iq (fun z9 => (lC (f_M_holds_L12 N M_doubted M_evenings M_against P_tellers P_claims P_kind P_by P_of P_other P_last P_ends P_order P_with P_also p1) none n1 z9)) hc1745 h
          refine r_aload_n 1 dX11_holds_44 rfl ?_
          refine r_getf (v := .ref (am 9)) _ dX11_holds_45 fl_X11_49 lM_0 rfl ?_
          refine r_iload_n 3 dX11_holds_48 rfl ?_
          refine r_aload_n 1 dX11_holds_49 rfl ?_
          refine r_iload 0 dX11_holds_50 rfl ?_
          refine r_aload_n 1 dX11_holds_52 rfl ?_
          refine r_getf (v := .ref (ap 0)) _ dX11_holds_53 fl_X11_20 lM_0 rfl ?_
          refine r_getf (v := .ref (ap 13)) _ dX11_holds_56 fl_X11_193 lP_0 rfl ?_
          refine r_iload_n 4 dX11_holds_59 rfl ?_
          obtain ⟨hb1755, h⟩ := gd (fun z9 => (lC (f_M_holds_L12 N M_doubted M_evenings M_against P_tellers P_claims P_kind P_by P_of P_other P_last P_ends P_order P_with P_also p1) none n1 z9)) rfl h
          refine r_iald _ dX11_holds_60 lP_13 hb1755 ?_
          refine r_aload_n 1 dX11_holds_61 rfl ?_
          refine r_getf (v := .ref (ap 0)) _ dX11_holds_62 fl_X11_20 lM_0 rfl ?_
          refine r_getf (v := .ref (ap 14)) _ dX11_holds_65 fl_X11_196 lP_0 rfl ?_
          refine r_iload_n 4 dX11_holds_68 rfl ?_
          obtain ⟨hb1756, h⟩ := gd (fun z9 => (lC (f_M_holds_L12 N M_doubted M_evenings M_against P_tellers P_claims P_kind P_by P_of P_other P_last P_ends P_order P_with P_also p1) none n1 z9)) rfl h
          refine r_iald _ dX11_holds_69 lP_14 hb1756 ?_
          obtain ⟨r1757, hc1758, h⟩ := ob (fun z9 => (lC (f_M_holds_L12 N M_doubted M_evenings M_against P_tellers P_claims P_kind P_by P_of P_other P_last P_ends P_order P_with P_also p1) none n1 z9)) rfl h
          refine c_V (rest := [.int l2_1, .ref (am 9)]) 0 0 _ dX11_holds_70 kv_X11_199 (ct_M_ask hc1758) rfl rfl lM_0 rfl (Nat.le_of_ble_eq_true rfl) (by decide) (by decide) ?_
          obtain ⟨hb1759, h⟩ := gd (fun z9 => (lC (f_M_holds_L12 N M_doubted M_evenings M_against P_tellers P_claims P_kind P_by P_of P_other P_last P_ends P_order P_with P_also p1) none n1 z9)) rfl h
          refine r_iast _ dX11_holds_73 lM_9 hb1759 (sM_21 _) ?_
          refine r_iinc (v2 := (l2_1 + (1 : Int32))) 3 [(2, .int (l2_1 + (1 : Int32))), (4, .int (P_order l3_1.toNatClampNeg)), (0, .ref (am 0)), (1, .int p1), (3, .int l3_1)] dX11_holds_74 rfl rfl (by decide) rfl ?_
          refine r_goto (tgt := 165) dX11_holds_77 (by decide) ?_
          refine r_iinc (v2 := (l3_1 + (1 : Int32))) 4 [(3, .int (l3_1 + (1 : Int32))), (2, .int (l2_1 + (1 : Int32))), (4, .int (P_order l3_1.toNatClampNeg)), (0, .ref (am 0)), (1, .int p1)] dX11_holds_165 rfl rfl (by decide) rfl ?_
          refine r_goto (tgt := 12) dX11_holds_168 (by decide) ?_
          refine r_ls [3, 4, 1, 0] (ls2 := [(0, .ref (am 0)), (1, .int p1), (2, .int (l2_1 + (1 : Int32))), (3, .int (l3_1 + (1 : Int32)))]) rfl ?_
          exact ih1 (l2_1 + (1 : Int32)) (l3_1 + (1 : Int32)) r1757.2.1 r1757.2.2.1 r1757.2.2.2.1 r1757.2.2.2.2 (upd M_stack_1 l2_1.toNatClampNeg r1757.1) h
  exact L1 _ (0 : Int32) (P_begins p1.toNatClampNeg) M_looked M_lying M_fewest M_sets M_stack h
theorem ct_M_holds {g : GG} {am : Nat → Nat} {ap : Nat → Nat} {t : va_W} {m0 m1 m2 m3 m4 m5 m8 u0 u3 u4 : Int32} {m13 m14 m15 m16 m18 m20 u12 u13 : Nat → Int32} {m17 u5 u6 : Nat → Int64} {N : Nat} {M_doubted : Int32} {M_evenings : Int32} {M_looked : Int32} {M_lying : Int32} {M_fewest : Int32} {M_sets : Int32} {M_against : Nat → Int32} {M_stack : Nat → Int32} {P_tellers : Int32} {P_claims : Int32} {P_kind : Nat → Int32} {P_by : Nat → Int32} {P_of : Nat → Int32} {P_other : Nat → Int32} {P_last : Nat → Int32} {P_begins : Nat → Int32} {P_ends : Nat → Int32} {P_order : Nat → Int32} {P_with : Nat → Int32} {P_also : Nat → Int32} {p1 : Int32} {o : Int32 × Int32 × Int32 × Int32 × Int32 × (Nat → Int32)} (h : f_M_holds N M_doubted M_evenings M_looked M_lying M_fewest M_sets M_against M_stack P_tellers P_claims P_kind P_by P_of P_other P_last P_begins P_ends P_order P_with P_also p1 = some o) : Ct g mX11_holds 6 0 0 [.ref (am 0), .int p1] (wlM g am (ap 0) m0 m1 m2 m3 m4 m5 M_doubted M_evenings m8 M_looked M_lying M_fewest M_sets m13 m14 m15 m16 m17 m18 M_against m20 M_stack ++ (wlP g ap u0 P_tellers P_claims u3 u4 u5 u6 P_kind P_by P_of P_other P_last u12 u13 P_begins P_ends P_order P_with P_also ++ t)) (Dv (some (.int o.1)) (wlM g am (ap 0) m0 m1 m2 m3 m4 m5 M_doubted M_evenings m8 o.2.1 o.2.2.1 o.2.2.2.1 o.2.2.2.2.1 m13 m14 m15 m16 m17 m18 M_against m20 o.2.2.2.2.2 ++ (wlP g ap u0 P_tellers P_claims u3 u4 u5 u6 P_kind P_by P_of P_other P_last u12 u13 P_begins P_ends P_order P_with P_also ++ t))) := Ct.ofR (by decide +kernel) rfl (Nat.le_of_ble_eq_true rfl) (rt_M_holds h ⟨rfl, rfl⟩)
set_option maxRecDepth 20000 in
set_option maxHeartbeats 4000000 in
theorem rt_M_pass {g : GG} {am : Nat → Nat} {ap : Nat → Nat} {t : va_W} {m0 m1 m2 m3 m4 m5 u0 u4 : Int32} {m13 m14 m15 m16 m18 m20 : Nat → Int32} {m17 u5 u6 : Nat → Int64} {N : Nat} {M_doubted : Int32} {M_evenings : Int32} {M_carried : Int32} {M_looked : Int32} {M_lying : Int32} {M_fewest : Int32} {M_sets : Int32} {M_against : Nat → Int32} {M_stack : Nat → Int32} {P_tellers : Int32} {P_claims : Int32} {P_orders : Int32} {P_kind : Nat → Int32} {P_by : Nat → Int32} {P_of : Nat → Int32} {P_other : Nat → Int32} {P_last : Nat → Int32} {P_does : Nat → Int32} {P_whom : Nat → Int32} {P_begins : Nat → Int32} {P_ends : Nat → Int32} {P_order : Nat → Int32} {P_with : Nat → Int32} {P_also : Nat → Int32} {p1 : Int32} {o : Int32 × Int32 × Int32 × Int32 × Int32 × Int32 × Int32 × Int32 × (Nat → Int32)} {Q : Rs → va_W → Prop} (h : f_M_pass N M_doubted M_evenings M_carried M_looked M_lying M_fewest M_sets M_against M_stack P_tellers P_claims P_orders P_kind P_by P_of P_other P_last P_does P_whom P_begins P_ends P_order P_with P_also p1 = some o) (hq : Q (.inl (some (.int o.1))) (wlM g am (ap 0) m0 m1 m2 m3 m4 m5 o.2.1 o.2.2.1 o.2.2.2.1 o.2.2.2.2.1 o.2.2.2.2.2.1 o.2.2.2.2.2.2.1 o.2.2.2.2.2.2.2.1 m13 m14 m15 m16 m17 m18 M_against m20 o.2.2.2.2.2.2.2.2 ++ (wlP g ap u0 P_tellers P_claims P_orders u4 u5 u6 P_kind P_by P_of P_other P_last P_does P_whom P_begins P_ends P_order P_with P_also ++ t))) : R g mX11_pass 7 0 0 0 [(0, .ref (am 0)), (1, .int p1)] [] (wlM g am (ap 0) m0 m1 m2 m3 m4 m5 M_doubted M_evenings M_carried M_looked M_lying M_fewest M_sets m13 m14 m15 m16 m17 m18 M_against m20 M_stack ++ (wlP g ap u0 P_tellers P_claims P_orders u4 u5 u6 P_kind P_by P_of P_other P_last P_does P_whom P_begins P_ends P_order P_with P_also ++ t)) Q := by
  unfold f_M_pass at h
  refine r_aload_n 0 dX11_pass_0 rfl ?_
  refine r_getf (v := .int M_carried) _ dX11_pass_1 fl_X11_141 lM_0 rfl ?_
  refine r_istore_n [(2, .int M_carried), (0, .ref (am 0)), (1, .int p1)] dX11_pass_4 (by decide) rfl ?_
  refine r_iconst (v := (0 : Int32)) dX11_pass_5 (by decide) ?_
  refine r_istore_n [(3, .int (0 : Int32)), (2, .int M_carried), (0, .ref (am 0)), (1, .int p1)] dX11_pass_6 (by decide) rfl ?_
  refine r_ls [2, 3, 1, 0] (ls2 := [(0, .ref (am 0)), (1, .int p1), (2, .int M_carried), (3, .int (0 : Int32))]) rfl ?_
  have L1 : ∀ (n1 : Nat) (l3_1 : Int32) (M_doubted_1 : Int32) (M_evenings_1 : Int32) (M_carried_1 : Int32) (M_looked_1 : Int32) (M_lying_1 : Int32) (M_fewest_1 : Int32) (M_sets_1 : Int32) (M_stack_1 : Nat → Int32), (fun z9 => z9) (lpS (f_M_pass_L7 N M_carried M_against P_tellers P_claims P_orders P_kind P_by P_of P_other P_last P_does P_whom P_begins P_ends P_order P_with P_also p1) none n1 (l3_1, M_doubted_1, M_evenings_1, M_carried_1, M_looked_1, M_lying_1, M_fewest_1, M_sets_1, M_stack_1)) = some o → R g mX11_pass 7 0 0 7 [(0, .ref (am 0)), (1, .int p1), (2, .int M_carried), (3, .int l3_1)] [] (wlM g am (ap 0) m0 m1 m2 m3 m4 m5 M_doubted_1 M_evenings_1 M_carried_1 M_looked_1 M_lying_1 M_fewest_1 M_sets_1 m13 m14 m15 m16 m17 m18 M_against m20 M_stack_1 ++ (wlP g ap u0 P_tellers P_claims P_orders u4 u5 u6 P_kind P_by P_of P_other P_last P_does P_whom P_begins P_ends P_order P_with P_also ++ t)) Q := by
    intro n1
    induction n1 with
    | zero => intro l3_1 M_doubted_1 M_evenings_1 M_carried_1 M_looked_1 M_lying_1 M_fewest_1 M_sets_1 M_stack_1 h; exact nomatch (show (none : Option _) = some _ from h)
    | succ n1 ih1 =>
      intro l3_1 M_doubted_1 M_evenings_1 M_carried_1 M_looked_1 M_lying_1 M_fewest_1 M_sets_1 M_stack_1 h
      have h : (fun z9 => (lC (f_M_pass_L7 N M_carried M_against P_tellers P_claims P_orders P_kind P_by P_of P_other P_last P_does P_whom P_begins P_ends P_order P_with P_also p1) none n1 z9)) (f_M_pass_L7 N M_carried M_against P_tellers P_claims P_orders P_kind P_by P_of P_other P_last P_does P_whom P_begins P_ends P_order P_with P_also p1 (l3_1, M_doubted_1, M_evenings_1, M_carried_1, M_looked_1, M_lying_1, M_fewest_1, M_sets_1, M_stack_1)) = some o := h
      unfold f_M_pass_L7 at h
      try dsimp only at h
      refine r_iload_n 3 dX11_pass_7 rfl ?_
      refine r_iload_n 1 dX11_pass_8 rfl ?_
      refine r_icmp_ge (tgt := 142) dX11_pass_9 (by decide) (fun hc1760 => ?_) (fun hc1760 => ?_)
      · have h := ip (fun z9 => (lC (f_M_pass_L7 N M_carried M_against P_tellers P_claims P_orders P_kind P_by P_of P_other P_last P_does P_whom P_begins P_ends P_order P_with P_also p1) none n1 z9)) hc1760 h
        refine r_aload_n 0 dX11_pass_142 rfl ?_
        refine r_getf (v := .int M_carried_1) _ dX11_pass_143 fl_X11_141 lM_0 rfl ?_
        refine r_iload_n 2 dX11_pass_146 rfl ?_
        refine r_isub dX11_pass_147 ?_
        refine r_iret dX11_pass_148 rfl ?_
        have h := Option.some.inj (show some _ = some o from h)
        subst h
        exact hq
      · have h := iq (fun z9 => (lC (f_M_pass_L7 N M_carried M_against P_tellers P_claims P_orders P_kind P_by P_of P_other P_last P_does P_whom P_begins P_ends P_order P_with P_also p1) none n1 z9)) hc1760 h
        refine r_iconst (v := (0 : Int32)) dX11_pass_12 (by decide) ?_
        refine r_istore [(4, .int (0 : Int32)), (0, .ref (am 0)), (1, .int p1), (2, .int M_carried), (3, .int l3_1)] dX11_pass_13 (by decide) rfl ?_
        refine r_ls [1, 2, 3, 4, 0] (ls2 := [(0, .ref (am 0)), (1, .int p1), (2, .int M_carried), (3, .int l3_1), (4, .int (0 : Int32))]) rfl ?_
        have L2 : ∀ (n2 : Nat) (l4_2 : Int32) (M_doubted_2 : Int32) (M_carried_2 : Int32) (M_looked_2 : Int32) (M_lying_2 : Int32) (M_fewest_2 : Int32) (M_sets_2 : Int32) (M_stack_2 : Nat → Int32), (fun z9 => (lC (f_M_pass_L7 N M_carried M_against P_tellers P_claims P_orders P_kind P_by P_of P_other P_last P_does P_whom P_begins P_ends P_order P_with P_also p1) none n1 z9)) (lpS (f_M_pass_L15 N M_against P_tellers P_claims P_orders P_kind P_by P_of P_other P_last P_does P_whom P_begins P_ends P_order P_with P_also l3_1 M_evenings_1) (.inr none) n2 (l4_2, M_doubted_2, M_carried_2, M_looked_2, M_lying_2, M_fewest_2, M_sets_2, M_stack_2)) = some o → R g mX11_pass 7 0 0 15 [(0, .ref (am 0)), (1, .int p1), (2, .int M_carried), (3, .int l3_1), (4, .int l4_2)] [] (wlM g am (ap 0) m0 m1 m2 m3 m4 m5 M_doubted_2 M_evenings_1 M_carried_2 M_looked_2 M_lying_2 M_fewest_2 M_sets_2 m13 m14 m15 m16 m17 m18 M_against m20 M_stack_2 ++ (wlP g ap u0 P_tellers P_claims P_orders u4 u5 u6 P_kind P_by P_of P_other P_last P_does P_whom P_begins P_ends P_order P_with P_also ++ t)) Q := by
          intro n2
          induction n2 with
          | zero => intro l4_2 M_doubted_2 M_carried_2 M_looked_2 M_lying_2 M_fewest_2 M_sets_2 M_stack_2 h; exact nomatch (show (none : Option _) = some _ from h)
          | succ n2 ih2 =>
            intro l4_2 M_doubted_2 M_carried_2 M_looked_2 M_lying_2 M_fewest_2 M_sets_2 M_stack_2 h
            have h : (fun z9 => (lC (f_M_pass_L7 N M_carried M_against P_tellers P_claims P_orders P_kind P_by P_of P_other P_last P_does P_whom P_begins P_ends P_order P_with P_also p1) none n1 (lC (f_M_pass_L15 N M_against P_tellers P_claims P_orders P_kind P_by P_of P_other P_last P_does P_whom P_begins P_ends P_order P_with P_also l3_1 M_evenings_1) (.inr none) n2 z9))) (f_M_pass_L15 N M_against P_tellers P_claims P_orders P_kind P_by P_of P_other P_last P_does P_whom P_begins P_ends P_order P_with P_also l3_1 M_evenings_1 (l4_2, M_doubted_2, M_carried_2, M_looked_2, M_lying_2, M_fewest_2, M_sets_2, M_stack_2)) = some o := h
            unfold f_M_pass_L15 at h
            try dsimp only at h
            refine r_iload 4 dX11_pass_15 rfl ?_
            refine r_aload_n 0 dX11_pass_17 rfl ?_
            refine r_getf (v := .ref (ap 0)) _ dX11_pass_18 fl_X11_20 lM_0 rfl ?_
            refine r_getf (v := .int P_orders) _ dX11_pass_21 fl_X11_144 lP_0 rfl ?_
            refine r_icmp_ge (tgt := 126) dX11_pass_24 (by decide) (fun hc1761 => ?_) (fun hc1761 => ?_)
            · have h := ip (fun z9 => (lC (f_M_pass_L7 N M_carried M_against P_tellers P_claims P_orders P_kind P_by P_of P_other P_last P_does P_whom P_begins P_ends P_order P_with P_also p1) none n1 (lC (f_M_pass_L15 N M_against P_tellers P_claims P_orders P_kind P_by P_of P_other P_last P_does P_whom P_begins P_ends P_order P_with P_also l3_1 M_evenings_1) (.inr none) n2 z9))) hc1761 h
              refine r_aload_n 0 dX11_pass_126 rfl ?_
              refine r_dup dX11_pass_127 rfl ?_
              refine r_getf (v := .int M_evenings_1) _ dX11_pass_128 fl_X11_156 lM_0 rfl ?_
              refine r_iconst (v := (1 : Int32)) dX11_pass_131 (by decide) ?_
              refine r_iadd dX11_pass_132 ?_
              refine r_putf _ dX11_pass_133 fl_X11_156 lM_0 (Nat.le_of_ble_eq_true rfl) rfl rfl (sM_7 _) ?_
              refine r_iinc (v2 := (l3_1 + (1 : Int32))) 3 [(3, .int (l3_1 + (1 : Int32))), (0, .ref (am 0)), (1, .int p1), (2, .int M_carried), (4, .int l4_2)] dX11_pass_136 rfl rfl (by decide) rfl ?_
              refine r_goto (tgt := 7) dX11_pass_139 (by decide) ?_
              refine r_ls [1, 2, 3, 0] (ls2 := [(0, .ref (am 0)), (1, .int p1), (2, .int M_carried), (3, .int (l3_1 + (1 : Int32)))]) rfl ?_
              exact ih1 (l3_1 + (1 : Int32)) M_doubted_2 (M_evenings_1 + (1 : Int32)) M_carried_2 M_looked_2 M_lying_2 M_fewest_2 M_sets_2 M_stack_2 h
            · have h := iq (fun z9 => (lC (f_M_pass_L7 N M_carried M_against P_tellers P_claims P_orders P_kind P_by P_of P_other P_last P_does P_whom P_begins P_ends P_order P_with P_also p1) none n1 (lC (f_M_pass_L15 N M_against P_tellers P_claims P_orders P_kind P_by P_of P_other P_last P_does P_whom P_begins P_ends P_order P_with P_also l3_1 M_evenings_1) (.inr none) n2 z9))) hc1761 h
              refine r_aload_n 0 dX11_pass_27 rfl ?_
              refine r_iload 4 dX11_pass_28 rfl ?_
              obtain ⟨r1762, hc1763, h⟩ := ob (fun z9 => (lC (f_M_pass_L7 N M_carried M_against P_tellers P_claims P_orders P_kind P_by P_of P_other P_last P_does P_whom P_begins P_ends P_order P_with P_also p1) none n1 (lC (f_M_pass_L15 N M_against P_tellers P_claims P_orders P_kind P_by P_of P_other P_last P_does P_whom P_begins P_ends P_order P_with P_also l3_1 M_evenings_1) (.inr none) n2 z9))) rfl h
              refine c_V (rest := []) 0 0 _ dX11_pass_30 kv_X11_147 (ct_M_holds hc1763) rfl rfl lM_0 rfl (Nat.le_of_ble_eq_true rfl) (by decide) (by decide) ?_
              refine r_if_ne (tgt := 39) dX11_pass_33 (by decide) (fun hc1764 => ?_) (fun hc1764 => ?_)
              · have h := iq (fun z9 => (lC (f_M_pass_L7 N M_carried M_against P_tellers P_claims P_orders P_kind P_by P_of P_other P_last P_does P_whom P_begins P_ends P_order P_with P_also p1) none n1 (lC (f_M_pass_L15 N M_against P_tellers P_claims P_orders P_kind P_by P_of P_other P_last P_does P_whom P_begins P_ends P_order P_with P_also l3_1 M_evenings_1) (.inr none) n2 z9))) hc1764 h
                refine r_aload_n 0 dX11_pass_39 rfl ?_
                refine r_getf (v := .int M_doubted_2) _ dX11_pass_40 fl_X11_85 lM_0 rfl ?_
                refine r_istore [(5, .int M_doubted_2), (0, .ref (am 0)), (1, .int p1), (2, .int M_carried), (3, .int l3_1), (4, .int l4_2)] dX11_pass_43 (by decide) rfl ?_
                refine r_iconst (v := (1 : Int32)) dX11_pass_45 (by decide) ?_
                refine r_aload_n 1 dX11_pass_46 rfl ?_
                refine r_getf (v := .ref (ap 0)) _ dX11_pass_47 fl_X11_20 lM_0 rfl ?_
                refine r_getf (v := .ref (ap 9)) _ dX11_pass_50 fl_X11_150 lP_0 rfl ?_
                refine r_iload 5 dX11_pass_53 rfl ?_
                obtain ⟨hb1765, h⟩ := gd (fun z9 => (lC (f_M_pass_L7 N M_carried M_against P_tellers P_claims P_orders P_kind P_by P_of P_other P_last P_does P_whom P_begins P_ends P_order P_with P_also p1) none n1 (lC (f_M_pass_L15 N M_against P_tellers P_claims P_orders P_kind P_by P_of P_other P_last P_does P_whom P_begins P_ends P_order P_with P_also l3_1 M_evenings_1) (.inr none) n2 z9))) rfl h
                refine r_iald _ dX11_pass_55 lP_9 hb1765 ?_
                refine r_ishl dX11_pass_56 ?_
                refine r_istore [(6, .int ((1 : Int32) <<< ((P_whom l4_2.toNatClampNeg) &&& 31))), (5, .int M_doubted_2), (0, .ref (am 0)), (1, .int p1), (2, .int M_carried), (3, .int l3_1), (4, .int l4_2)] dX11_pass_57 (by decide) rfl ?_
                refine r_aload_n 2 dX11_pass_59 rfl ?_
                refine r_aload_n 2 dX11_pass_60 rfl ?_
                refine r_getf (v := .ref (ap 0)) _ dX11_pass_61 fl_X11_20 lM_0 rfl ?_
                refine r_getf (v := .ref (ap 8)) _ dX11_pass_64 fl_X11_153 lP_0 rfl ?_
                refine r_iload 6 dX11_pass_67 rfl ?_
                obtain ⟨hb1766, h⟩ := gd (fun z9 => (lC (f_M_pass_L7 N M_carried M_against P_tellers P_claims P_orders P_kind P_by P_of P_other P_last P_does P_whom P_begins P_ends P_order P_with P_also p1) none n1 (lC (f_M_pass_L15 N M_against P_tellers P_claims P_orders P_kind P_by P_of P_other P_last P_does P_whom P_begins P_ends P_order P_with P_also l3_1 M_evenings_1) (.inr none) n2 z9))) rfl h
                refine r_iald _ dX11_pass_69 lP_8 hb1766 ?_
                refine r_bipush (v := (7 : Int32)) dX11_pass_70 (by decide) ?_
                refine r_icmp_ne (tgt := 85) dX11_pass_72 (by decide) (fun hc1767 => ?_) (fun hc1767 => ?_)
                · have h := iq (fun z9 => (lC (f_M_pass_L7 N M_carried M_against P_tellers P_claims P_orders P_kind P_by P_of P_other P_last P_does P_whom P_begins P_ends P_order P_with P_also p1) none n1 (lC (f_M_pass_L15 N M_against P_tellers P_claims P_orders P_kind P_by P_of P_other P_last P_does P_whom P_begins P_ends P_order P_with P_also l3_1 M_evenings_1) (.inr none) n2 z9))) hc1767 h
                  refine r_aload_n 2 dX11_pass_85 rfl ?_
                  refine r_getf (v := .int M_doubted_2) _ dX11_pass_86 fl_X11_85 lM_0 rfl ?_
                  refine r_iload 0 dX11_pass_89 rfl ?_
                  refine r_iconst (v := (-1 : Int32)) dX11_pass_91 (by decide) ?_
                  refine r_ixor dX11_pass_92 ?_
                  refine r_iand dX11_pass_93 ?_
                  refine r_putf _ dX11_pass_94 fl_X11_85 lM_0 (Nat.le_of_ble_eq_true rfl) rfl rfl (sM_6 _) ?_
                  refine r_aload_n 2 dX11_pass_97 rfl ?_
                  refine r_dup dX11_pass_98 rfl ?_
                  refine r_getf (v := .int M_carried_2) _ dX11_pass_99 fl_X11_141 lM_0 rfl ?_
                  refine r_aload_n 2 dX11_pass_102 rfl ?_
                  refine r_getf (v := .int (M_doubted_2 &&& (((1 : Int32) <<< ((P_whom l4_2.toNatClampNeg) &&& 31)) ^^^ (-1 : Int32)))) _ dX11_pass_103 fl_X11_85 lM_0 rfl ?_
                  refine r_iload 1 dX11_pass_106 rfl ?_
                  refine r_icmp_ne (tgt := 115) dX11_pass_108 (by decide) (fun hc1768 => ?_) (fun hc1768 => ?_)
                  · have h := iq (fun z9 => (lC (f_M_pass_L7 N M_carried M_against P_tellers P_claims P_orders P_kind P_by P_of P_other P_last P_does P_whom P_begins P_ends P_order P_with P_also p1) none n1 (lC (f_M_pass_L15 N M_against P_tellers P_claims P_orders P_kind P_by P_of P_other P_last P_does P_whom P_begins P_ends P_order P_with P_also l3_1 M_evenings_1) (.inr none) n2 z9))) hc1768 h
                    refine r_iconst (v := (1 : Int32)) dX11_pass_115 (by decide) ?_
                    refine r_iadd dX11_pass_116 ?_
                    refine r_putf _ dX11_pass_117 fl_X11_141 lM_0 (Nat.le_of_ble_eq_true rfl) rfl rfl (sM_8 _) ?_
                    refine r_iinc (v2 := (l4_2 + (1 : Int32))) 6 [(4, .int (l4_2 + (1 : Int32))), (6, .int ((1 : Int32) <<< ((P_whom l4_2.toNatClampNeg) &&& 31))), (5, .int M_doubted_2), (0, .ref (am 0)), (1, .int p1), (2, .int M_carried), (3, .int l3_1)] dX11_pass_120 rfl rfl (by decide) rfl ?_
                    refine r_goto (tgt := 15) dX11_pass_123 (by decide) ?_
                    refine r_ls [3, 4, 5, 6, 0] (ls2 := [(0, .ref (am 0)), (1, .int p1), (2, .int M_carried), (3, .int l3_1), (4, .int (l4_2 + (1 : Int32)))]) rfl ?_
                    exact ih2 (l4_2 + (1 : Int32)) (M_doubted_2 &&& (((1 : Int32) <<< ((P_whom l4_2.toNatClampNeg) &&& 31)) ^^^ (-1 : Int32))) (M_carried_2 + (1 : Int32)) r1762.2.1 r1762.2.2.1 r1762.2.2.2.1 r1762.2.2.2.2.1 r1762.2.2.2.2.2 h
                  · have h := ip (fun z9 => (lC (f_M_pass_L7 N M_carried M_against P_tellers P_claims P_orders P_kind P_by P_of P_other P_last P_does P_whom P_begins P_ends P_order P_with P_also p1) none n1 (lC (f_M_pass_L15 N M_against P_tellers P_claims P_orders P_kind P_by P_of P_other P_last P_does P_whom P_begins P_ends P_order P_with P_also l3_1 M_evenings_1) (.inr none) n2 z9))) hc1768 h
                    refine r_iconst (v := (0 : Int32)) dX11_pass_111 (by decide) ?_
                    refine r_goto (tgt := 116) dX11_pass_112 (by decide) ?_
                    refine r_iadd dX11_pass_116 ?_
                    refine r_putf _ dX11_pass_117 fl_X11_141 lM_0 (Nat.le_of_ble_eq_true rfl) rfl rfl (sM_8 _) ?_
                    refine r_iinc (v2 := (l4_2 + (1 : Int32))) 6 [(4, .int (l4_2 + (1 : Int32))), (6, .int ((1 : Int32) <<< ((P_whom l4_2.toNatClampNeg) &&& 31))), (5, .int M_doubted_2), (0, .ref (am 0)), (1, .int p1), (2, .int M_carried), (3, .int l3_1)] dX11_pass_120 rfl rfl (by decide) rfl ?_
                    refine r_goto (tgt := 15) dX11_pass_123 (by decide) ?_
                    refine r_ls [3, 4, 5, 6, 0] (ls2 := [(0, .ref (am 0)), (1, .int p1), (2, .int M_carried), (3, .int l3_1), (4, .int (l4_2 + (1 : Int32)))]) rfl ?_
                    exact ih2 (l4_2 + (1 : Int32)) (M_doubted_2 &&& (((1 : Int32) <<< ((P_whom l4_2.toNatClampNeg) &&& 31)) ^^^ (-1 : Int32))) (M_carried_2 + (0 : Int32)) r1762.2.1 r1762.2.2.1 r1762.2.2.2.1 r1762.2.2.2.2.1 r1762.2.2.2.2.2 h
                · have h := ip (fun z9 => (lC (f_M_pass_L7 N M_carried M_against P_tellers P_claims P_orders P_kind P_by P_of P_other P_last P_does P_whom P_begins P_ends P_order P_with P_also p1) none n1 (lC (f_M_pass_L15 N M_against P_tellers P_claims P_orders P_kind P_by P_of P_other P_last P_does P_whom P_begins P_ends P_order P_with P_also l3_1 M_evenings_1) (.inr none) n2 z9))) hc1767 h
                  refine r_aload_n 2 dX11_pass_75 rfl ?_
                  refine r_getf (v := .int M_doubted_2) _ dX11_pass_76 fl_X11_85 lM_0 rfl ?_
                  refine r_iload 0 dX11_pass_79 rfl ?_
                  refine r_ior dX11_pass_81 ?_
                  refine r_goto (tgt := 94) dX11_pass_82 (by decide) ?_
                  refine r_putf _ dX11_pass_94 fl_X11_85 lM_0 (Nat.le_of_ble_eq_true rfl) rfl rfl (sM_6 _) ?_
                  refine r_aload_n 2 dX11_pass_97 rfl ?_
                  refine r_dup dX11_pass_98 rfl ?_
                  refine r_getf (v := .int M_carried_2) _ dX11_pass_99 fl_X11_141 lM_0 rfl ?_
                  refine r_aload_n 2 dX11_pass_102 rfl ?_
                  refine r_getf (v := .int (M_doubted_2 ||| ((1 : Int32) <<< ((P_whom l4_2.toNatClampNeg) &&& 31)))) _ dX11_pass_103 fl_X11_85 lM_0 rfl ?_
                  refine r_iload 1 dX11_pass_106 rfl ?_
                  refine r_icmp_ne (tgt := 115) dX11_pass_108 (by decide) (fun hc1769 => ?_) (fun hc1769 => ?_)
                  · have h := iq (fun z9 => (lC (f_M_pass_L7 N M_carried M_against P_tellers P_claims P_orders P_kind P_by P_of P_other P_last P_does P_whom P_begins P_ends P_order P_with P_also p1) none n1 (lC (f_M_pass_L15 N M_against P_tellers P_claims P_orders P_kind P_by P_of P_other P_last P_does P_whom P_begins P_ends P_order P_with P_also l3_1 M_evenings_1) (.inr none) n2 z9))) hc1769 h
                    refine r_iconst (v := (1 : Int32)) dX11_pass_115 (by decide) ?_
                    refine r_iadd dX11_pass_116 ?_
                    refine r_putf _ dX11_pass_117 fl_X11_141 lM_0 (Nat.le_of_ble_eq_true rfl) rfl rfl (sM_8 _) ?_
                    refine r_iinc (v2 := (l4_2 + (1 : Int32))) 6 [(4, .int (l4_2 + (1 : Int32))), (6, .int ((1 : Int32) <<< ((P_whom l4_2.toNatClampNeg) &&& 31))), (5, .int M_doubted_2), (0, .ref (am 0)), (1, .int p1), (2, .int M_carried), (3, .int l3_1)] dX11_pass_120 rfl rfl (by decide) rfl ?_
                    refine r_goto (tgt := 15) dX11_pass_123 (by decide) ?_
                    refine r_ls [3, 4, 5, 6, 0] (ls2 := [(0, .ref (am 0)), (1, .int p1), (2, .int M_carried), (3, .int l3_1), (4, .int (l4_2 + (1 : Int32)))]) rfl ?_
                    exact ih2 (l4_2 + (1 : Int32)) (M_doubted_2 ||| ((1 : Int32) <<< ((P_whom l4_2.toNatClampNeg) &&& 31))) (M_carried_2 + (1 : Int32)) r1762.2.1 r1762.2.2.1 r1762.2.2.2.1 r1762.2.2.2.2.1 r1762.2.2.2.2.2 h
                  · have h := ip (fun z9 => (lC (f_M_pass_L7 N M_carried M_against P_tellers P_claims P_orders P_kind P_by P_of P_other P_last P_does P_whom P_begins P_ends P_order P_with P_also p1) none n1 (lC (f_M_pass_L15 N M_against P_tellers P_claims P_orders P_kind P_by P_of P_other P_last P_does P_whom P_begins P_ends P_order P_with P_also l3_1 M_evenings_1) (.inr none) n2 z9))) hc1769 h
                    refine r_iconst (v := (0 : Int32)) dX11_pass_111 (by decide) ?_
                    refine r_goto (tgt := 116) dX11_pass_112 (by decide) ?_
                    refine r_iadd dX11_pass_116 ?_
                    refine r_putf _ dX11_pass_117 fl_X11_141 lM_0 (Nat.le_of_ble_eq_true rfl) rfl rfl (sM_8 _) ?_
                    refine r_iinc (v2 := (l4_2 + (1 : Int32))) 6 [(4, .int (l4_2 + (1 : Int32))), (6, .int ((1 : Int32) <<< ((P_whom l4_2.toNatClampNeg) &&& 31))), (5, .int M_doubted_2), (0, .ref (am 0)), (1, .int p1), (2, .int M_carried), (3, .int l3_1)] dX11_pass_120 rfl rfl (by decide) rfl ?_
                    refine r_goto (tgt := 15) dX11_pass_123 (by decide) ?_
                    refine r_ls [3, 4, 5, 6, 0] (ls2 := [(0, .ref (am 0)), (1, .int p1), (2, .int M_carried), (3, .int l3_1), (4, .int (l4_2 + (1 : Int32)))]) rfl ?_
                    exact ih2 (l4_2 + (1 : Int32)) (M_doubted_2 ||| ((1 : Int32) <<< ((P_whom l4_2.toNatClampNeg) &&& 31))) (M_carried_2 + (0 : Int32)) r1762.2.1 r1762.2.2.1 r1762.2.2.2.1 r1762.2.2.2.2.1 r1762.2.2.2.2.2 h
              · have h := ip (fun z9 => (lC (f_M_pass_L7 N M_carried M_against P_tellers P_claims P_orders P_kind P_by P_of P_other P_last P_does P_whom P_begins P_ends P_order P_with P_also p1) none n1 (lC (f_M_pass_L15 N M_against P_tellers P_claims P_orders P_kind P_by P_of P_other P_last P_does P_whom P_begins P_ends P_order P_with P_also l3_1 M_evenings_1) (.inr none) n2 z9))) hc1764 h
                refine r_goto (tgt := 120) dX11_pass_36 (by decide) ?_
                refine r_iinc (v2 := (l4_2 + (1 : Int32))) 4 [(4, .int (l4_2 + (1 : Int32))), (0, .ref (am 0)), (1, .int p1), (2, .int M_carried), (3, .int l3_1)] dX11_pass_120 rfl rfl (by decide) rfl ?_
                refine r_goto (tgt := 15) dX11_pass_123 (by decide) ?_
                refine r_ls [1, 2, 3, 4, 0] (ls2 := [(0, .ref (am 0)), (1, .int p1), (2, .int M_carried), (3, .int l3_1), (4, .int (l4_2 + (1 : Int32)))]) rfl ?_
                exact ih2 (l4_2 + (1 : Int32)) M_doubted_2 M_carried_2 r1762.2.1 r1762.2.2.1 r1762.2.2.2.1 r1762.2.2.2.2.1 r1762.2.2.2.2.2 h
        exact L2 _ (0 : Int32) M_doubted_1 M_carried_1 M_looked_1 M_lying_1 M_fewest_1 M_sets_1 M_stack_1 h
  exact L1 _ (0 : Int32) M_doubted M_evenings M_carried M_looked M_lying M_fewest M_sets M_stack h
theorem ct_M_pass {g : GG} {am : Nat → Nat} {ap : Nat → Nat} {t : va_W} {m0 m1 m2 m3 m4 m5 u0 u4 : Int32} {m13 m14 m15 m16 m18 m20 : Nat → Int32} {m17 u5 u6 : Nat → Int64} {N : Nat} {M_doubted : Int32} {M_evenings : Int32} {M_carried : Int32} {M_looked : Int32} {M_lying : Int32} {M_fewest : Int32} {M_sets : Int32} {M_against : Nat → Int32} {M_stack : Nat → Int32} {P_tellers : Int32} {P_claims : Int32} {P_orders : Int32} {P_kind : Nat → Int32} {P_by : Nat → Int32} {P_of : Nat → Int32} {P_other : Nat → Int32} {P_last : Nat → Int32} {P_does : Nat → Int32} {P_whom : Nat → Int32} {P_begins : Nat → Int32} {P_ends : Nat → Int32} {P_order : Nat → Int32} {P_with : Nat → Int32} {P_also : Nat → Int32} {p1 : Int32} {o : Int32 × Int32 × Int32 × Int32 × Int32 × Int32 × Int32 × Int32 × (Nat → Int32)} (h : f_M_pass N M_doubted M_evenings M_carried M_looked M_lying M_fewest M_sets M_against M_stack P_tellers P_claims P_orders P_kind P_by P_of P_other P_last P_does P_whom P_begins P_ends P_order P_with P_also p1 = some o) : Ct g mX11_pass 7 0 0 [.ref (am 0), .int p1] (wlM g am (ap 0) m0 m1 m2 m3 m4 m5 M_doubted M_evenings M_carried M_looked M_lying M_fewest M_sets m13 m14 m15 m16 m17 m18 M_against m20 M_stack ++ (wlP g ap u0 P_tellers P_claims P_orders u4 u5 u6 P_kind P_by P_of P_other P_last P_does P_whom P_begins P_ends P_order P_with P_also ++ t)) (Dv (some (.int o.1)) (wlM g am (ap 0) m0 m1 m2 m3 m4 m5 o.2.1 o.2.2.1 o.2.2.2.1 o.2.2.2.2.1 o.2.2.2.2.2.1 o.2.2.2.2.2.2.1 o.2.2.2.2.2.2.2.1 m13 m14 m15 m16 m17 m18 M_against m20 o.2.2.2.2.2.2.2.2 ++ (wlP g ap u0 P_tellers P_claims P_orders u4 u5 u6 P_kind P_by P_of P_other P_last P_does P_whom P_begins P_ends P_order P_with P_also ++ t))) := Ct.ofR (by decide +kernel) rfl (Nat.le_of_ble_eq_true rfl) (rt_M_pass h ⟨rfl, rfl⟩)
set_option maxRecDepth 20000 in
set_option maxHeartbeats 4000000 in
theorem rt_M_byteOf {g : GG} {am : Nat → Nat} {pm : Nat} {t : va_W} {m0 m2 m3 m4 m5 m6 m7 m8 m9 m10 m11 m12 : Int32} {m14 m15 m16 m18 m19 m20 m21 : Nat → Int32} {m17 : Nat → Int64} {M_size : Int32} {M_tape : Nat → Int32} {p1 : Int32} {o : Int32} {Q : Rs → va_W → Prop} (h : f_M_byteOf M_size M_tape p1 = some o) (hq : Q (.inl (some (.int o))) (wlM g am pm m0 M_size m2 m3 m4 m5 m6 m7 m8 m9 m10 m11 m12 M_tape m14 m15 m16 m17 m18 m19 m20 m21 ++ t)) : R g mX11_byteOf 1 0 0 0 [(0, .ref (am 0)), (1, .int p1)] [] (wlM g am pm m0 M_size m2 m3 m4 m5 m6 m7 m8 m9 m10 m11 m12 M_tape m14 m15 m16 m17 m18 m19 m20 m21 ++ t) Q := by
  unfold f_M_byteOf at h
  refine r_iload_n 1 dX11_byteOf_0 rfl ?_
  refine r_aload_n 0 dX11_byteOf_1 rfl ?_
  refine r_getf (v := .int M_size) _ dX11_byteOf_2 fl_X11_206 lM_0 rfl ?_
  refine r_icmp_ge (tgt := 17) dX11_byteOf_5 (by decide) (fun hc1770 => ?_) (fun hc1770 => ?_)
  · have h := ip (fun z9 => z9) hc1770 h
    refine r_iconst (v := (-1 : Int32)) dX11_byteOf_17 (by decide) ?_
    refine r_iret dX11_byteOf_18 rfl ?_
    have h := Option.some.inj (show some _ = some o from h)
    subst h
    exact hq
  · have h := iq (fun z9 => z9) hc1770 h
    refine r_aload_n 0 dX11_byteOf_8 rfl ?_
    refine r_getf (v := .ref (am 1)) _ dX11_byteOf_9 fl_X11_9 lM_0 rfl ?_
    refine r_iload_n 1 dX11_byteOf_12 rfl ?_
    obtain ⟨hb1771, h⟩ := gd (fun z9 => z9) rfl h
    refine r_iald _ dX11_byteOf_13 lM_1 hb1771 ?_
    refine r_goto (tgt := 18) dX11_byteOf_14 (by decide) ?_
    refine r_iret dX11_byteOf_18 rfl ?_
    have h := Option.some.inj (show some _ = some o from h)
    subst h
    exact hq
theorem ct_M_byteOf {g : GG} {am : Nat → Nat} {pm : Nat} {t : va_W} {m0 m2 m3 m4 m5 m6 m7 m8 m9 m10 m11 m12 : Int32} {m14 m15 m16 m18 m19 m20 m21 : Nat → Int32} {m17 : Nat → Int64} {M_size : Int32} {M_tape : Nat → Int32} {p1 : Int32} {o : Int32} (h : f_M_byteOf M_size M_tape p1 = some o) : Ct g mX11_byteOf 1 0 0 [.ref (am 0), .int p1] (wlM g am pm m0 M_size m2 m3 m4 m5 m6 m7 m8 m9 m10 m11 m12 M_tape m14 m15 m16 m17 m18 m19 m20 m21 ++ t) (Dv (some (.int o)) (wlM g am pm m0 M_size m2 m3 m4 m5 m6 m7 m8 m9 m10 m11 m12 M_tape m14 m15 m16 m17 m18 m19 m20 m21 ++ t)) := Ct.ofR (by decide +kernel) rfl (Nat.le_of_ble_eq_true rfl) (rt_M_byteOf h ⟨rfl, rfl⟩)
set_option maxRecDepth 20000 in
set_option maxHeartbeats 4000000 in
theorem rt_M_isSmall {g : GG}  {t : va_W}  {p0 : Int32} {o : Int32} {Q : Rs → va_W → Prop} (h : f_M_isSmall p0 = o) (hq : Q (.inl (some (.int o))) t) : R g mX11_isSmall 1 0 0 0 [(0, .int p0)] [] t Q := by
  unfold f_M_isSmall at h
  refine r_iload_n 0 dX11_isSmall_0 rfl ?_
  refine r_bipush (v := (97 : Int32)) dX11_isSmall_1 (by decide) ?_
  refine r_icmp_lt (tgt := 16) dX11_isSmall_3 (by decide) (fun hc1772 => ?_) (fun hc1772 => ?_)
  · have h := ip (fun z9 => z9) hc1772 h
    refine r_iconst (v := (0 : Int32)) dX11_isSmall_16 (by decide) ?_
    refine r_zret dX11_isSmall_17 rfl (by decide) ?_
    have h : _ = o := h
    subst h
    exact hq
  · have h := iq (fun z9 => z9) hc1772 h
    refine r_iload_n 0 dX11_isSmall_6 rfl ?_
    refine r_bipush (v := (122 : Int32)) dX11_isSmall_7 (by decide) ?_
    refine r_icmp_gt (tgt := 16) dX11_isSmall_9 (by decide) (fun hc1773 => ?_) (fun hc1773 => ?_)
    · have h := ip (fun z9 => z9) hc1773 h
      refine r_iconst (v := (0 : Int32)) dX11_isSmall_16 (by decide) ?_
      refine r_zret dX11_isSmall_17 rfl (by decide) ?_
      have h : _ = o := h
      subst h
      exact hq
    · have h := iq (fun z9 => z9) hc1773 h
      refine r_iconst (v := (1 : Int32)) dX11_isSmall_12 (by decide) ?_
      refine r_goto (tgt := 17) dX11_isSmall_13 (by decide) ?_
      refine r_zret dX11_isSmall_17 rfl (by decide) ?_
      have h : _ = o := h
      subst h
      exact hq
theorem ct_M_isSmall {g : GG}  {t : va_W}  {p0 : Int32} {o : Int32} (h : f_M_isSmall p0 = o) : Ct g mX11_isSmall 1 0 0 [.int p0] t (Dv (some (.int o)) t) := Ct.ofR (by decide +kernel) rfl (Nat.le_of_ble_eq_true rfl) (rt_M_isSmall h ⟨rfl, rfl⟩)
set_option maxRecDepth 20000 in
set_option maxHeartbeats 4000000 in
theorem rt_M_isDigit {g : GG}  {t : va_W}  {p0 : Int32} {o : Int32} {Q : Rs → va_W → Prop} (h : f_M_isDigit p0 = o) (hq : Q (.inl (some (.int o))) t) : R g mX11_isDigit 1 0 0 0 [(0, .int p0)] [] t Q := by
  unfold f_M_isDigit at h
  refine r_iload_n 0 dX11_isDigit_0 rfl ?_
  refine r_bipush (v := (48 : Int32)) dX11_isDigit_1 (by decide) ?_
  refine r_icmp_lt (tgt := 16) dX11_isDigit_3 (by decide) (fun hc1774 => ?_) (fun hc1774 => ?_)
  · have h := ip (fun z9 => z9) hc1774 h
    refine r_iconst (v := (0 : Int32)) dX11_isDigit_16 (by decide) ?_
    refine r_zret dX11_isDigit_17 rfl (by decide) ?_
    have h : _ = o := h
    subst h
    exact hq
  · have h := iq (fun z9 => z9) hc1774 h
    refine r_iload_n 0 dX11_isDigit_6 rfl ?_
    refine r_bipush (v := (57 : Int32)) dX11_isDigit_7 (by decide) ?_
    refine r_icmp_gt (tgt := 16) dX11_isDigit_9 (by decide) (fun hc1775 => ?_) (fun hc1775 => ?_)
    · have h := ip (fun z9 => z9) hc1775 h
      refine r_iconst (v := (0 : Int32)) dX11_isDigit_16 (by decide) ?_
      refine r_zret dX11_isDigit_17 rfl (by decide) ?_
      have h : _ = o := h
      subst h
      exact hq
    · have h := iq (fun z9 => z9) hc1775 h
      refine r_iconst (v := (1 : Int32)) dX11_isDigit_12 (by decide) ?_
      refine r_goto (tgt := 17) dX11_isDigit_13 (by decide) ?_
      refine r_zret dX11_isDigit_17 rfl (by decide) ?_
      have h : _ = o := h
      subst h
      exact hq
theorem ct_M_isDigit {g : GG}  {t : va_W}  {p0 : Int32} {o : Int32} (h : f_M_isDigit p0 = o) : Ct g mX11_isDigit 1 0 0 [.int p0] t (Dv (some (.int o)) t) := Ct.ofR (by decide +kernel) rfl (Nat.le_of_ble_eq_true rfl) (rt_M_isDigit h ⟨rfl, rfl⟩)
