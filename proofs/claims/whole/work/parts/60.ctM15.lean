set_option maxRecDepth 20000 in
set_option maxHeartbeats 4000000 in
theorem rt_M_takeBack {g : GG} {am : Nat → Nat} {ap : Nat → Nat} {t : va_W} {m1 m2 m3 m4 m5 m6 m7 m8 m10 m11 m12 u0 u1 u3 u4 : Int32} {m13 m14 m15 m16 m18 m20 m21 u12 u13 u14 u15 u16 u17 u18 : Nat → Int32} {m17 u5 u6 : Nat → Int64} {N : Nat} {M_thrown : Int32} {M_looked : Int32} {M_against : Nat → Int32} {P_claims : Int32} {P_kind : Nat → Int32} {P_by : Nat → Int32} {P_of : Nat → Int32} {P_other : Nat → Int32} {P_last : Nat → Int32} {p1 : Int32} {o : Int32 × Int32 × Int32 × (Nat → Int32) × Int32 × (Nat → Int32) × (Nat → Int32) × (Nat → Int32) × (Nat → Int32) × (Nat → Int32)} {Q : Rs → va_W → Prop} (h : f_M_takeBack N M_thrown M_looked M_against P_claims P_kind P_by P_of P_other P_last p1 = some o) (hq : Q (.inl (some (.int o.1))) (wlM g am (ap 0) o.2.1 m1 m2 m3 m4 m5 m6 m7 m8 o.2.2.1 m10 m11 m12 m13 m14 m15 m16 m17 m18 o.2.2.2.1 m20 m21 ++ (wlP g ap u0 u1 o.2.2.2.2.1 u3 u4 u5 u6 o.2.2.2.2.2.1 o.2.2.2.2.2.2.1 o.2.2.2.2.2.2.2.1 o.2.2.2.2.2.2.2.2.1 o.2.2.2.2.2.2.2.2.2 u12 u13 u14 u15 u16 u17 u18 ++ t))) : R g mX11_takeBack 6 0 0 0 [(0, .ref (am 0)), (1, .int p1)] [] (wlM g am (ap 0) M_thrown m1 m2 m3 m4 m5 m6 m7 m8 M_looked m10 m11 m12 m13 m14 m15 m16 m17 m18 M_against m20 m21 ++ (wlP g ap u0 u1 P_claims u3 u4 u5 u6 P_kind P_by P_of P_other P_last u12 u13 u14 u15 u16 u17 u18 ++ t)) Q := by
  unfold f_M_takeBack at h
  refine r_aload_n 0 dX11_takeBack_0 rfl ?_
  refine r_iconst (v := (0 : Int32)) dX11_takeBack_1 (by decide) ?_
  refine r_putf _ dX11_takeBack_2 fl_X11_52 lM_0 (Nat.le_of_ble_eq_true rfl) rfl rfl (sM_0 _) ?_
  refine r_aload_n 0 dX11_takeBack_5 rfl ?_
  refine r_iload_n 1 dX11_takeBack_6 rfl ?_
  refine c_V (rest := []) 0 0 _ dX11_takeBack_7 kv_X11_379 (ct_M_isClaim rfl) rfl rfl lM_0 rfl (Nat.le_of_ble_eq_true rfl) (by decide) (by decide) ?_
  refine r_if_ne (tgt := 19) dX11_takeBack_10 (by decide) (fun hc2368 => ?_) (fun hc2368 => ?_)
  · have h := iq (fun z9 => z9) hc2368 h
    refine r_aload_n 0 dX11_takeBack_19 rfl ?_
    refine r_getf (v := .ref (ap 0)) _ dX11_takeBack_20 fl_X11_20 lM_0 rfl ?_
    refine r_getf (v := .ref (ap 4)) _ dX11_takeBack_23 fl_X11_82 lP_0 rfl ?_
    refine r_iload_n 1 dX11_takeBack_26 rfl ?_
    obtain ⟨hb2369, h⟩ := gd (fun z9 => z9) rfl h
    refine r_iald _ dX11_takeBack_27 lP_4 hb2369 ?_
    refine r_istore_n [(2, .int (P_by p1.toNatClampNeg)), (0, .ref (am 0)), (1, .int p1)] dX11_takeBack_28 (by decide) rfl ?_
    refine r_aload_n 1 dX11_takeBack_29 rfl ?_
    refine r_getf (v := .ref (ap 0)) _ dX11_takeBack_30 fl_X11_20 lM_0 rfl ?_
    refine r_dup dX11_takeBack_33 rfl ?_
    refine r_getf (v := .int P_claims) _ dX11_takeBack_34 fl_X11_65 lP_0 rfl ?_
    refine r_iconst (v := (1 : Int32)) dX11_takeBack_37 (by decide) ?_
    refine r_isub dX11_takeBack_38 ?_
    refine r_putf _ dX11_takeBack_39 fl_X11_65 lP_0 (Nat.le_of_ble_eq_true rfl) rfl rfl (sP_2 _) ?_
    refine r_iload_n 2 dX11_takeBack_42 rfl ?_
    refine r_istore_n [(3, .int p1), (2, .int (P_by p1.toNatClampNeg)), (0, .ref (am 0)), (1, .int p1)] dX11_takeBack_43 (by decide) rfl ?_
    refine r_ls [2, 1, 0] (ls2 := [(0, .ref (am 0)), (2, .int (P_by p1.toNatClampNeg)), (3, .int p1)]) rfl ?_
    have L1 : ∀ (n1 : Nat) (c2_1 : Int32) (P_claims_c1 : Int32) (l3_1 : Int32) (P_kind_1 : Nat → Int32) (P_by_1 : Nat → Int32) (P_of_1 : Nat → Int32) (P_other_1 : Nat → Int32) (P_last_1 : Nat → Int32), (fun z9 => z9) (lpS (f_M_takeBack_L44 N M_looked M_against c2_1 P_claims_c1) none n1 (l3_1, P_kind_1, P_by_1, P_of_1, P_other_1, P_last_1)) = some o → R g mX11_takeBack 6 0 0 44 [(0, .ref (am 0)), (2, .int c2_1), (3, .int l3_1)] [] (wlM g am (ap 0) (0 : Int32) m1 m2 m3 m4 m5 m6 m7 m8 M_looked m10 m11 m12 m13 m14 m15 m16 m17 m18 M_against m20 m21 ++ (wlP g ap u0 u1 P_claims_c1 u3 u4 u5 u6 P_kind_1 P_by_1 P_of_1 P_other_1 P_last_1 u12 u13 u14 u15 u16 u17 u18 ++ t)) Q := by
      intro n1
      induction n1 with
      | zero => intro c2_1 P_claims_c1 l3_1 P_kind_1 P_by_1 P_of_1 P_other_1 P_last_1 h; exact nomatch (show (none : Option _) = some _ from h)
      | succ n1 ih1 =>
        intro c2_1 P_claims_c1 l3_1 P_kind_1 P_by_1 P_of_1 P_other_1 P_last_1 h
        have h : (fun z9 => (lC (f_M_takeBack_L44 N M_looked M_against c2_1 P_claims_c1) none n1 z9)) (f_M_takeBack_L44 N M_looked M_against c2_1 P_claims_c1 (l3_1, P_kind_1, P_by_1, P_of_1, P_other_1, P_last_1)) = some o := h
        unfold f_M_takeBack_L44 at h
        try dsimp only at h
        refine r_iload_n 2 dX11_takeBack_44 rfl ?_
        refine r_aload_n 0 dX11_takeBack_45 rfl ?_
        refine r_getf (v := .ref (ap 0)) _ dX11_takeBack_46 fl_X11_20 lM_0 rfl ?_
        refine r_getf (v := .int P_claims_c1) _ dX11_takeBack_49 fl_X11_65 lP_0 rfl ?_
        refine r_icmp_ge (tgt := 161) dX11_takeBack_52 (by decide) (fun hc2370 => ?_) (fun hc2370 => ?_)
        · have h := ip (fun z9 => (lC (f_M_takeBack_L44 N M_looked M_against c2_1 P_claims_c1) none n1 z9)) hc2370 h
          refine r_aload_n 0 dX11_takeBack_161 rfl ?_
          obtain ⟨r2371, hc2372, h⟩ := ob (fun z9 => (lC (f_M_takeBack_L44 N M_looked M_against c2_1 P_claims_c1) none n1 z9)) rfl h
          refine c_Vv (rest := []) 0 0 _ dX11_takeBack_162 kv_X11_373 (ct_M_weave hc2372) rfl rfl lM_0 rfl (Nat.le_of_ble_eq_true rfl) (by decide) (by decide) ?_
          refine r_iload_n 1 dX11_takeBack_165 rfl ?_
          refine r_iret dX11_takeBack_166 rfl ?_
          have h := Option.some.inj (show some _ = some o from h)
          subst h
          exact hq
        · have h := iq (fun z9 => (lC (f_M_takeBack_L44 N M_looked M_against c2_1 P_claims_c1) none n1 z9)) hc2370 h
          refine r_aload_n 0 dX11_takeBack_55 rfl ?_
          refine r_getf (v := .ref (ap 0)) _ dX11_takeBack_56 fl_X11_20 lM_0 rfl ?_
          refine r_getf (v := .ref (ap 3)) _ dX11_takeBack_59 fl_X11_68 lP_0 rfl ?_
          refine r_iload_n 2 dX11_takeBack_62 rfl ?_
          refine r_aload_n 0 dX11_takeBack_63 rfl ?_
          refine r_getf (v := .ref (ap 0)) _ dX11_takeBack_64 fl_X11_20 lM_0 rfl ?_
          refine r_getf (v := .ref (ap 3)) _ dX11_takeBack_67 fl_X11_68 lP_0 rfl ?_
          refine r_iload_n 2 dX11_takeBack_70 rfl ?_
          refine r_iconst (v := (1 : Int32)) dX11_takeBack_71 (by decide) ?_
          refine r_iadd dX11_takeBack_72 ?_
          obtain ⟨hb2373, h⟩ := gd (fun z9 => (lC (f_M_takeBack_L44 N M_looked M_against c2_1 P_claims_c1) none n1 z9)) rfl h
          refine r_iald _ dX11_takeBack_73 lP_3 hb2373 ?_
          obtain ⟨hb2374, h⟩ := gd (fun z9 => (lC (f_M_takeBack_L44 N M_looked M_against c2_1 P_claims_c1) none n1 z9)) rfl h
          refine r_iast _ dX11_takeBack_74 lP_3 hb2374 (sP_7 _) ?_
          refine r_aload_n 0 dX11_takeBack_75 rfl ?_
          refine r_getf (v := .ref (ap 0)) _ dX11_takeBack_76 fl_X11_20 lM_0 rfl ?_
          refine r_getf (v := .ref (ap 4)) _ dX11_takeBack_79 fl_X11_82 lP_0 rfl ?_
          refine r_iload_n 2 dX11_takeBack_82 rfl ?_
          refine r_aload_n 0 dX11_takeBack_83 rfl ?_
          refine r_getf (v := .ref (ap 0)) _ dX11_takeBack_84 fl_X11_20 lM_0 rfl ?_
          refine r_getf (v := .ref (ap 4)) _ dX11_takeBack_87 fl_X11_82 lP_0 rfl ?_
          refine r_iload_n 2 dX11_takeBack_90 rfl ?_
          refine r_iconst (v := (1 : Int32)) dX11_takeBack_91 (by decide) ?_
          refine r_iadd dX11_takeBack_92 ?_
          obtain ⟨hb2375, h⟩ := gd (fun z9 => (lC (f_M_takeBack_L44 N M_looked M_against c2_1 P_claims_c1) none n1 z9)) rfl h
          refine r_iald _ dX11_takeBack_93 lP_4 hb2375 ?_
          obtain ⟨hb2376, h⟩ := gd (fun z9 => (lC (f_M_takeBack_L44 N M_looked M_against c2_1 P_claims_c1) none n1 z9)) rfl h
          refine r_iast _ dX11_takeBack_94 lP_4 hb2376 (sP_8 _) ?_
          refine r_aload_n 0 dX11_takeBack_95 rfl ?_
          refine r_getf (v := .ref (ap 0)) _ dX11_takeBack_96 fl_X11_20 lM_0 rfl ?_
          refine r_getf (v := .ref (ap 5)) _ dX11_takeBack_99 fl_X11_73 lP_0 rfl ?_
          refine r_iload_n 2 dX11_takeBack_102 rfl ?_
          refine r_aload_n 0 dX11_takeBack_103 rfl ?_
          refine r_getf (v := .ref (ap 0)) _ dX11_takeBack_104 fl_X11_20 lM_0 rfl ?_
          refine r_getf (v := .ref (ap 5)) _ dX11_takeBack_107 fl_X11_73 lP_0 rfl ?_
          refine r_iload_n 2 dX11_takeBack_110 rfl ?_
          refine r_iconst (v := (1 : Int32)) dX11_takeBack_111 (by decide) ?_
          refine r_iadd dX11_takeBack_112 ?_
          obtain ⟨hb2377, h⟩ := gd (fun z9 => (lC (f_M_takeBack_L44 N M_looked M_against c2_1 P_claims_c1) none n1 z9)) rfl h
          refine r_iald _ dX11_takeBack_113 lP_5 hb2377 ?_
          obtain ⟨hb2378, h⟩ := gd (fun z9 => (lC (f_M_takeBack_L44 N M_looked M_against c2_1 P_claims_c1) none n1 z9)) rfl h
          refine r_iast _ dX11_takeBack_114 lP_5 hb2378 (sP_9 _) ?_
          refine r_aload_n 0 dX11_takeBack_115 rfl ?_
          refine r_getf (v := .ref (ap 0)) _ dX11_takeBack_116 fl_X11_20 lM_0 rfl ?_
          refine r_getf (v := .ref (ap 6)) _ dX11_takeBack_119 fl_X11_79 lP_0 rfl ?_
          refine r_iload_n 2 dX11_takeBack_122 rfl ?_
          refine r_aload_n 0 dX11_takeBack_123 rfl ?_
          refine r_getf (v := .ref (ap 0)) _ dX11_takeBack_124 fl_X11_20 lM_0 rfl ?_
          refine r_getf (v := .ref (ap 6)) _ dX11_takeBack_127 fl_X11_79 lP_0 rfl ?_
          refine r_iload_n 2 dX11_takeBack_130 rfl ?_
          refine r_iconst (v := (1 : Int32)) dX11_takeBack_131 (by decide) ?_
          refine r_iadd dX11_takeBack_132 ?_
          obtain ⟨hb2379, h⟩ := gd (fun z9 => (lC (f_M_takeBack_L44 N M_looked M_against c2_1 P_claims_c1) none n1 z9)) rfl h
          refine r_iald _ dX11_takeBack_133 lP_6 hb2379 ?_
          obtain ⟨hb2380, h⟩ := gd (fun z9 => (lC (f_M_takeBack_L44 N M_looked M_against c2_1 P_claims_c1) none n1 z9)) rfl h
          refine r_iast _ dX11_takeBack_134 lP_6 hb2380 (sP_10 _) ?_
          refine r_aload_n 0 dX11_takeBack_135 rfl ?_
          refine r_getf (v := .ref (ap 0)) _ dX11_takeBack_136 fl_X11_20 lM_0 rfl ?_
          refine r_getf (v := .ref (ap 7)) _ dX11_takeBack_139 fl_X11_76 lP_0 rfl ?_
          refine r_iload_n 2 dX11_takeBack_142 rfl ?_
          refine r_aload_n 0 dX11_takeBack_143 rfl ?_
          refine r_getf (v := .ref (ap 0)) _ dX11_takeBack_144 fl_X11_20 lM_0 rfl ?_
          refine r_getf (v := .ref (ap 7)) _ dX11_takeBack_147 fl_X11_76 lP_0 rfl ?_
          refine r_iload_n 2 dX11_takeBack_150 rfl ?_
          refine r_iconst (v := (1 : Int32)) dX11_takeBack_151 (by decide) ?_
          refine r_iadd dX11_takeBack_152 ?_
          obtain ⟨hb2381, h⟩ := gd (fun z9 => (lC (f_M_takeBack_L44 N M_looked M_against c2_1 P_claims_c1) none n1 z9)) rfl h
          refine r_iald _ dX11_takeBack_153 lP_7 hb2381 ?_
          obtain ⟨hb2382, h⟩ := gd (fun z9 => (lC (f_M_takeBack_L44 N M_looked M_against c2_1 P_claims_c1) none n1 z9)) rfl h
          refine r_iast _ dX11_takeBack_154 lP_7 hb2382 (sP_11 _) ?_
          refine r_iinc (v2 := (l3_1 + (1 : Int32))) 2 [(3, .int (l3_1 + (1 : Int32))), (0, .ref (am 0)), (2, .int c2_1)] dX11_takeBack_155 rfl rfl (by decide) rfl ?_
          refine r_goto (tgt := 44) dX11_takeBack_158 (by decide) ?_
          refine r_ls [1, 2, 0] (ls2 := [(0, .ref (am 0)), (2, .int c2_1), (3, .int (l3_1 + (1 : Int32)))]) rfl ?_
          exact ih1 c2_1 P_claims_c1 (l3_1 + (1 : Int32)) (upd P_kind_1 l3_1.toNatClampNeg (P_kind_1 (l3_1 + (1 : Int32)).toNatClampNeg)) (upd P_by_1 l3_1.toNatClampNeg (P_by_1 (l3_1 + (1 : Int32)).toNatClampNeg)) (upd P_of_1 l3_1.toNatClampNeg (P_of_1 (l3_1 + (1 : Int32)).toNatClampNeg)) (upd P_other_1 l3_1.toNatClampNeg (P_other_1 (l3_1 + (1 : Int32)).toNatClampNeg)) (upd P_last_1 l3_1.toNatClampNeg (P_last_1 (l3_1 + (1 : Int32)).toNatClampNeg)) h
    exact L1 _ (P_by p1.toNatClampNeg) (P_claims - (1 : Int32)) p1 P_kind P_by P_of P_other P_last h
  · have h := ip (fun z9 => z9) hc2368 h
    refine r_aload_n 0 dX11_takeBack_13 rfl ?_
    refine r_iconst (v := (1 : Int32)) dX11_takeBack_14 (by decide) ?_
    obtain ⟨r2383, hc2384, h⟩ := ob (fun z9 => z9) rfl h
    refine c_V (rest := []) 0 0 _ dX11_takeBack_15 kv_X11_367 (ct_M_no hc2384) rfl rfl lM_0 rfl (Nat.le_of_ble_eq_true rfl) (by decide) (by decide) ?_
    refine r_iret dX11_takeBack_18 rfl ?_
    have h := Option.some.inj (show some _ = some o from h)
    subst h
    exact hq
theorem ct_M_takeBack {g : GG} {am : Nat → Nat} {ap : Nat → Nat} {t : va_W} {m1 m2 m3 m4 m5 m6 m7 m8 m10 m11 m12 u0 u1 u3 u4 : Int32} {m13 m14 m15 m16 m18 m20 m21 u12 u13 u14 u15 u16 u17 u18 : Nat → Int32} {m17 u5 u6 : Nat → Int64} {N : Nat} {M_thrown : Int32} {M_looked : Int32} {M_against : Nat → Int32} {P_claims : Int32} {P_kind : Nat → Int32} {P_by : Nat → Int32} {P_of : Nat → Int32} {P_other : Nat → Int32} {P_last : Nat → Int32} {p1 : Int32} {o : Int32 × Int32 × Int32 × (Nat → Int32) × Int32 × (Nat → Int32) × (Nat → Int32) × (Nat → Int32) × (Nat → Int32) × (Nat → Int32)} (h : f_M_takeBack N M_thrown M_looked M_against P_claims P_kind P_by P_of P_other P_last p1 = some o) : Ct g mX11_takeBack 6 0 0 [.ref (am 0), .int p1] (wlM g am (ap 0) M_thrown m1 m2 m3 m4 m5 m6 m7 m8 M_looked m10 m11 m12 m13 m14 m15 m16 m17 m18 M_against m20 m21 ++ (wlP g ap u0 u1 P_claims u3 u4 u5 u6 P_kind P_by P_of P_other P_last u12 u13 u14 u15 u16 u17 u18 ++ t)) (Dv (some (.int o.1)) (wlM g am (ap 0) o.2.1 m1 m2 m3 m4 m5 m6 m7 m8 o.2.2.1 m10 m11 m12 m13 m14 m15 m16 m17 m18 o.2.2.2.1 m20 m21 ++ (wlP g ap u0 u1 o.2.2.2.2.1 u3 u4 u5 u6 o.2.2.2.2.2.1 o.2.2.2.2.2.2.1 o.2.2.2.2.2.2.2.1 o.2.2.2.2.2.2.2.2.1 o.2.2.2.2.2.2.2.2.2 u12 u13 u14 u15 u16 u17 u18 ++ t))) := Ct.ofR (by decide +kernel) rfl (Nat.le_of_ble_eq_true rfl) (rt_M_takeBack h ⟨rfl, rfl⟩)
set_option maxRecDepth 20000 in
set_option maxHeartbeats 4000000 in
theorem rt_M_turnDoubt {g : GG} {am : Nat → Nat} {ap : Nat → Nat} {t : va_W} {m1 m2 m3 m4 m5 m7 m8 m9 m10 m11 m12 u0 u2 u3 u4 : Int32} {m13 m14 m15 m16 m18 m19 m20 m21 u7 u8 u9 u10 u11 u12 u13 u14 u15 u16 u17 u18 : Nat → Int32} {m17 u5 u6 : Nat → Int64} {M_thrown : Int32} {M_doubted : Int32} {P_tellers : Int32} {p1 : Int32} {o : Int32 × Int32 × Int32} {Q : Rs → va_W → Prop} (h : f_M_turnDoubt M_thrown M_doubted P_tellers p1 = some o) (hq : Q (.inl (some (.int o.1))) (wlM g am (ap 0) o.2.1 m1 m2 m3 m4 m5 o.2.2 m7 m8 m9 m10 m11 m12 m13 m14 m15 m16 m17 m18 m19 m20 m21 ++ (wlP g ap u0 P_tellers u2 u3 u4 u5 u6 u7 u8 u9 u10 u11 u12 u13 u14 u15 u16 u17 u18 ++ t))) : R g mX11_turnDoubt 3 0 0 0 [(0, .ref (am 0)), (1, .int p1)] [] (wlM g am (ap 0) M_thrown m1 m2 m3 m4 m5 M_doubted m7 m8 m9 m10 m11 m12 m13 m14 m15 m16 m17 m18 m19 m20 m21 ++ (wlP g ap u0 P_tellers u2 u3 u4 u5 u6 u7 u8 u9 u10 u11 u12 u13 u14 u15 u16 u17 u18 ++ t)) Q := by
  unfold f_M_turnDoubt at h
  refine r_aload_n 0 dX11_turnDoubt_0 rfl ?_
  refine r_iconst (v := (0 : Int32)) dX11_turnDoubt_1 (by decide) ?_
  refine r_putf _ dX11_turnDoubt_2 fl_X11_52 lM_0 (Nat.le_of_ble_eq_true rfl) rfl rfl (sM_0 _) ?_
  refine r_aload_n 0 dX11_turnDoubt_5 rfl ?_
  refine r_iload_n 1 dX11_turnDoubt_6 rfl ?_
  refine c_V (rest := []) 0 0 _ dX11_turnDoubt_7 kv_X11_385 (ct_M_isTeller rfl) rfl rfl lM_0 rfl (Nat.le_of_ble_eq_true rfl) (by decide) (by decide) ?_
  refine r_if_ne (tgt := 19) dX11_turnDoubt_10 (by decide) (fun hc2385 => ?_) (fun hc2385 => ?_)
  · have h := iq (fun z9 => z9) hc2385 h
    refine r_aload_n 0 dX11_turnDoubt_19 rfl ?_
    refine r_dup dX11_turnDoubt_20 rfl ?_
    refine r_getf (v := .int M_doubted) _ dX11_turnDoubt_21 fl_X11_85 lM_0 rfl ?_
    refine r_iconst (v := (1 : Int32)) dX11_turnDoubt_24 (by decide) ?_
    refine r_iload_n 1 dX11_turnDoubt_25 rfl ?_
    refine r_ishl dX11_turnDoubt_26 ?_
    refine r_ixor dX11_turnDoubt_27 ?_
    refine r_putf _ dX11_turnDoubt_28 fl_X11_85 lM_0 (Nat.le_of_ble_eq_true rfl) rfl rfl (sM_6 _) ?_
    refine r_aload_n 0 dX11_turnDoubt_31 rfl ?_
    refine r_getf (v := .int (M_doubted ^^^ ((1 : Int32) <<< (p1 &&& 31)))) _ dX11_turnDoubt_32 fl_X11_85 lM_0 rfl ?_
    refine r_iload_n 1 dX11_turnDoubt_35 rfl ?_
    refine c_S (rest := []) 0 0 dX11_turnDoubt_36 ks_X11_88 (ct_M_has rfl) rfl rfl (Nat.le_of_ble_eq_true rfl) (by decide) (by decide) ?_
    refine r_zret dX11_turnDoubt_39 rfl (zO_n (zb_M_has _ _)) ?_
    have h := Option.some.inj (show some _ = some o from h)
    subst h
    exact hq
  · have h := ip (fun z9 => z9) hc2385 h
    refine r_aload_n 0 dX11_turnDoubt_13 rfl ?_
    refine r_iconst (v := (1 : Int32)) dX11_turnDoubt_14 (by decide) ?_
    obtain ⟨r2386, hc2387, h⟩ := ob (fun z9 => z9) rfl h
    refine c_V (rest := []) 0 0 _ dX11_turnDoubt_15 kv_X11_382 (ct_M_isNot hc2387) rfl rfl lM_0 rfl (Nat.le_of_ble_eq_true rfl) (by decide) (by decide) ?_
    obtain ⟨hb2388, h⟩ := gd (fun z9 => z9) rfl h
    refine r_zret dX11_turnDoubt_18 rfl (zB_n hb2388) ?_
    have h := Option.some.inj (show some _ = some o from h)
    subst h
    exact hq
theorem ct_M_turnDoubt {g : GG} {am : Nat → Nat} {ap : Nat → Nat} {t : va_W} {m1 m2 m3 m4 m5 m7 m8 m9 m10 m11 m12 u0 u2 u3 u4 : Int32} {m13 m14 m15 m16 m18 m19 m20 m21 u7 u8 u9 u10 u11 u12 u13 u14 u15 u16 u17 u18 : Nat → Int32} {m17 u5 u6 : Nat → Int64} {M_thrown : Int32} {M_doubted : Int32} {P_tellers : Int32} {p1 : Int32} {o : Int32 × Int32 × Int32} (h : f_M_turnDoubt M_thrown M_doubted P_tellers p1 = some o) : Ct g mX11_turnDoubt 3 0 0 [.ref (am 0), .int p1] (wlM g am (ap 0) M_thrown m1 m2 m3 m4 m5 M_doubted m7 m8 m9 m10 m11 m12 m13 m14 m15 m16 m17 m18 m19 m20 m21 ++ (wlP g ap u0 P_tellers u2 u3 u4 u5 u6 u7 u8 u9 u10 u11 u12 u13 u14 u15 u16 u17 u18 ++ t)) (Dv (some (.int o.1)) (wlM g am (ap 0) o.2.1 m1 m2 m3 m4 m5 o.2.2 m7 m8 m9 m10 m11 m12 m13 m14 m15 m16 m17 m18 m19 m20 m21 ++ (wlP g ap u0 P_tellers u2 u3 u4 u5 u6 u7 u8 u9 u10 u11 u12 u13 u14 u15 u16 u17 u18 ++ t))) := Ct.ofR (by decide +kernel) rfl (Nat.le_of_ble_eq_true rfl) (rt_M_turnDoubt h ⟨rfl, rfl⟩)
set_option maxRecDepth 20000 in
set_option maxHeartbeats 4000000 in
theorem rt_M_passEvenings {g : GG} {am : Nat → Nat} {ap : Nat → Nat} {t : va_W} {m1 m2 m3 m4 m5 u0 u4 : Int32} {m13 m14 m15 m16 m18 m20 : Nat → Int32} {m17 u5 u6 : Nat → Int64} {N : Nat} {M_thrown : Int32} {M_doubted : Int32} {M_evenings : Int32} {M_carried : Int32} {M_looked : Int32} {M_lying : Int32} {M_fewest : Int32} {M_sets : Int32} {M_against : Nat → Int32} {M_stack : Nat → Int32} {P_tellers : Int32} {P_claims : Int32} {P_orders : Int32} {P_kind : Nat → Int32} {P_by : Nat → Int32} {P_of : Nat → Int32} {P_other : Nat → Int32} {P_last : Nat → Int32} {P_does : Nat → Int32} {P_whom : Nat → Int32} {P_begins : Nat → Int32} {P_ends : Nat → Int32} {P_order : Nat → Int32} {P_with : Nat → Int32} {P_also : Nat → Int32} {p1 : Int32} {o : Int32 × Int32 × Int32 × Int32 × Int32 × Int32 × Int32 × Int32 × Int32 × (Nat → Int32)} {Q : Rs → va_W → Prop} (h : f_M_passEvenings N M_thrown M_doubted M_evenings M_carried M_looked M_lying M_fewest M_sets M_against M_stack P_tellers P_claims P_orders P_kind P_by P_of P_other P_last P_does P_whom P_begins P_ends P_order P_with P_also p1 = some o) (hq : Q (.inl (some (.int o.1))) (wlM g am (ap 0) o.2.1 m1 m2 m3 m4 m5 o.2.2.1 o.2.2.2.1 o.2.2.2.2.1 o.2.2.2.2.2.1 o.2.2.2.2.2.2.1 o.2.2.2.2.2.2.2.1 o.2.2.2.2.2.2.2.2.1 m13 m14 m15 m16 m17 m18 M_against m20 o.2.2.2.2.2.2.2.2.2 ++ (wlP g ap u0 P_tellers P_claims P_orders u4 u5 u6 P_kind P_by P_of P_other P_last P_does P_whom P_begins P_ends P_order P_with P_also ++ t))) : R g mX11_passEvenings 8 0 0 0 [(0, .ref (am 0)), (1, .int p1)] [] (wlM g am (ap 0) M_thrown m1 m2 m3 m4 m5 M_doubted M_evenings M_carried M_looked M_lying M_fewest M_sets m13 m14 m15 m16 m17 m18 M_against m20 M_stack ++ (wlP g ap u0 P_tellers P_claims P_orders u4 u5 u6 P_kind P_by P_of P_other P_last P_does P_whom P_begins P_ends P_order P_with P_also ++ t)) Q := by
  unfold f_M_passEvenings at h
  refine r_aload_n 0 dX11_passEvenings_0 rfl ?_
  refine r_iconst (v := (0 : Int32)) dX11_passEvenings_1 (by decide) ?_
  refine r_putf _ dX11_passEvenings_2 fl_X11_52 lM_0 (Nat.le_of_ble_eq_true rfl) rfl rfl (sM_0 _) ?_
  refine r_iload_n 1 dX11_passEvenings_5 rfl ?_
  refine r_iconst (v := (1 : Int32)) dX11_passEvenings_6 (by decide) ?_
  refine r_bipush (v := (30 : Int32)) dX11_passEvenings_7 (by decide) ?_
  refine c_S (rest := []) 0 0 dX11_passEvenings_9 ks_X11_58 (ct_M_isIn rfl) rfl rfl (Nat.le_of_ble_eq_true rfl) (by decide) (by decide) ?_
  refine r_if_eq (tgt := 23) dX11_passEvenings_12 (by decide) (fun hc2389 => ?_) (fun hc2389 => ?_)
  · have h := ip (fun z9 => z9) hc2389 h
    refine r_aload_n 0 dX11_passEvenings_23 rfl ?_
    refine r_iconst (v := (1 : Int32)) dX11_passEvenings_24 (by decide) ?_
    obtain ⟨r2390, hc2391, h⟩ := ob (fun z9 => z9) rfl h
    refine c_V (rest := []) 0 0 _ dX11_passEvenings_25 kv_X11_367 (ct_M_no hc2391) rfl rfl lM_0 rfl (Nat.le_of_ble_eq_true rfl) (by decide) (by decide) ?_
    refine r_iret dX11_passEvenings_28 rfl ?_
    have h := Option.some.inj (show some _ = some o from h)
    subst h
    exact hq
  · have h := iq (fun z9 => z9) hc2389 h
    refine r_aload_n 0 dX11_passEvenings_15 rfl ?_
    refine r_iload_n 1 dX11_passEvenings_16 rfl ?_
    obtain ⟨r2392, hc2393, h⟩ := ob (fun z9 => z9) rfl h
    refine c_V (rest := []) 0 0 _ dX11_passEvenings_17 kv_X11_405 (ct_M_pass hc2393) rfl rfl lM_0 rfl (Nat.le_of_ble_eq_true rfl) (by decide) (by decide) ?_
    refine r_goto (tgt := 28) dX11_passEvenings_20 (by decide) ?_
    refine r_iret dX11_passEvenings_28 rfl ?_
    have h := Option.some.inj (show some _ = some o from h)
    subst h
    exact hq
theorem ct_M_passEvenings {g : GG} {am : Nat → Nat} {ap : Nat → Nat} {t : va_W} {m1 m2 m3 m4 m5 u0 u4 : Int32} {m13 m14 m15 m16 m18 m20 : Nat → Int32} {m17 u5 u6 : Nat → Int64} {N : Nat} {M_thrown : Int32} {M_doubted : Int32} {M_evenings : Int32} {M_carried : Int32} {M_looked : Int32} {M_lying : Int32} {M_fewest : Int32} {M_sets : Int32} {M_against : Nat → Int32} {M_stack : Nat → Int32} {P_tellers : Int32} {P_claims : Int32} {P_orders : Int32} {P_kind : Nat → Int32} {P_by : Nat → Int32} {P_of : Nat → Int32} {P_other : Nat → Int32} {P_last : Nat → Int32} {P_does : Nat → Int32} {P_whom : Nat → Int32} {P_begins : Nat → Int32} {P_ends : Nat → Int32} {P_order : Nat → Int32} {P_with : Nat → Int32} {P_also : Nat → Int32} {p1 : Int32} {o : Int32 × Int32 × Int32 × Int32 × Int32 × Int32 × Int32 × Int32 × Int32 × (Nat → Int32)} (h : f_M_passEvenings N M_thrown M_doubted M_evenings M_carried M_looked M_lying M_fewest M_sets M_against M_stack P_tellers P_claims P_orders P_kind P_by P_of P_other P_last P_does P_whom P_begins P_ends P_order P_with P_also p1 = some o) : Ct g mX11_passEvenings 8 0 0 [.ref (am 0), .int p1] (wlM g am (ap 0) M_thrown m1 m2 m3 m4 m5 M_doubted M_evenings M_carried M_looked M_lying M_fewest M_sets m13 m14 m15 m16 m17 m18 M_against m20 M_stack ++ (wlP g ap u0 P_tellers P_claims P_orders u4 u5 u6 P_kind P_by P_of P_other P_last P_does P_whom P_begins P_ends P_order P_with P_also ++ t)) (Dv (some (.int o.1)) (wlM g am (ap 0) o.2.1 m1 m2 m3 m4 m5 o.2.2.1 o.2.2.2.1 o.2.2.2.2.1 o.2.2.2.2.2.1 o.2.2.2.2.2.2.1 o.2.2.2.2.2.2.2.1 o.2.2.2.2.2.2.2.2.1 m13 m14 m15 m16 m17 m18 M_against m20 o.2.2.2.2.2.2.2.2.2 ++ (wlP g ap u0 P_tellers P_claims P_orders u4 u5 u6 P_kind P_by P_of P_other P_last P_does P_whom P_begins P_ends P_order P_with P_also ++ t))) := Ct.ofR (by decide +kernel) rfl (Nat.le_of_ble_eq_true rfl) (rt_M_passEvenings h ⟨rfl, rfl⟩)
set_option maxRecDepth 20000 in
set_option maxHeartbeats 4000000 in
theorem rt_M_goBack {g : GG} {am : Nat → Nat} {pm : Nat} {t : va_W} {m0 m1 m2 m3 m4 m5 m9 m10 m11 m12 : Int32} {m13 m14 m15 m16 m18 m19 m20 m21 : Nat → Int32} {m17 : Nat → Int64} {M_doubted : Int32} {M_evenings : Int32} {M_carried : Int32} {p1 : Int32} {p2 : Int32} {p3 : Int32} {o : Int32 × Int32 × Int32} {Q : Rs → va_W → Prop} (h : f_M_goBack M_doubted M_evenings M_carried p1 p2 p3 = some o) (hq : Q (.inl (none)) (wlM g am pm m0 m1 m2 m3 m4 m5 o.1 o.2.1 o.2.2 m9 m10 m11 m12 m13 m14 m15 m16 m17 m18 m19 m20 m21 ++ t)) : R g mX11_goBack 1 0 0 0 [(0, .ref (am 0)), (1, .int p1), (2, .int p2), (3, .int p3)] [] (wlM g am pm m0 m1 m2 m3 m4 m5 M_doubted M_evenings M_carried m9 m10 m11 m12 m13 m14 m15 m16 m17 m18 m19 m20 m21 ++ t) Q := by
  unfold f_M_goBack at h
  refine r_aload_n 0 dX11_goBack_0 rfl ?_
  refine r_iload_n 1 dX11_goBack_1 rfl ?_
  refine r_putf _ dX11_goBack_2 fl_X11_85 lM_0 (Nat.le_of_ble_eq_true rfl) rfl rfl (sM_6 _) ?_
  refine r_aload_n 0 dX11_goBack_5 rfl ?_
  refine r_iload_n 2 dX11_goBack_6 rfl ?_
  refine r_putf _ dX11_goBack_7 fl_X11_156 lM_0 (Nat.le_of_ble_eq_true rfl) rfl rfl (sM_7 _) ?_
  refine r_aload_n 0 dX11_goBack_10 rfl ?_
  refine r_iload_n 3 dX11_goBack_11 rfl ?_
  refine r_putf _ dX11_goBack_12 fl_X11_141 lM_0 (Nat.le_of_ble_eq_true rfl) rfl rfl (sM_8 _) ?_
  refine r_vret dX11_goBack_15 rfl ?_
  have h := Option.some.inj (show some _ = some o from h)
  subst h
  exact hq
theorem ct_M_goBack {g : GG} {am : Nat → Nat} {pm : Nat} {t : va_W} {m0 m1 m2 m3 m4 m5 m9 m10 m11 m12 : Int32} {m13 m14 m15 m16 m18 m19 m20 m21 : Nat → Int32} {m17 : Nat → Int64} {M_doubted : Int32} {M_evenings : Int32} {M_carried : Int32} {p1 : Int32} {p2 : Int32} {p3 : Int32} {o : Int32 × Int32 × Int32} (h : f_M_goBack M_doubted M_evenings M_carried p1 p2 p3 = some o) : Ct g mX11_goBack 1 0 0 [.ref (am 0), .int p1, .int p2, .int p3] (wlM g am pm m0 m1 m2 m3 m4 m5 M_doubted M_evenings M_carried m9 m10 m11 m12 m13 m14 m15 m16 m17 m18 m19 m20 m21 ++ t) (Dv (none) (wlM g am pm m0 m1 m2 m3 m4 m5 o.1 o.2.1 o.2.2 m9 m10 m11 m12 m13 m14 m15 m16 m17 m18 m19 m20 m21 ++ t)) := Ct.ofR (by decide +kernel) rfl (Nat.le_of_ble_eq_true rfl) (rt_M_goBack h ⟨rfl, rfl⟩)
set_option maxRecDepth 20000 in
set_option maxHeartbeats 4000000 in
theorem rt_M_liarsAfter {g : GG} {am : Nat → Nat} {ap : Nat → Nat} {t : va_W} {m1 m2 m3 m4 m5 u0 u4 : Int32} {m13 m14 m15 m16 m18 m20 : Nat → Int32} {m17 u5 u6 : Nat → Int64} {N : Nat} {M_thrown : Int32} {M_doubted : Int32} {M_evenings : Int32} {M_carried : Int32} {M_looked : Int32} {M_lying : Int32} {M_fewest : Int32} {M_sets : Int32} {M_against : Nat → Int32} {M_stack : Nat → Int32} {P_tellers : Int32} {P_claims : Int32} {P_orders : Int32} {P_kind : Nat → Int32} {P_by : Nat → Int32} {P_of : Nat → Int32} {P_other : Nat → Int32} {P_last : Nat → Int32} {P_does : Nat → Int32} {P_whom : Nat → Int32} {P_begins : Nat → Int32} {P_ends : Nat → Int32} {P_order : Nat → Int32} {P_with : Nat → Int32} {P_also : Nat → Int32} {p1 : Int32} {o : Int32 × Int32 × Int32 × Int32 × Int32 × Int32 × Int32 × Int32 × Int32 × (Nat → Int32)} {Q : Rs → va_W → Prop} (h : f_M_liarsAfter N M_thrown M_doubted M_evenings M_carried M_looked M_lying M_fewest M_sets M_against M_stack P_tellers P_claims P_orders P_kind P_by P_of P_other P_last P_does P_whom P_begins P_ends P_order P_with P_also p1 = some o) (hq : ∀ t2 : va_W, Q (.inl (some (.int o.1))) (wlM g am (ap 0) o.2.1 m1 m2 m3 m4 m5 o.2.2.1 o.2.2.2.1 o.2.2.2.2.1 o.2.2.2.2.2.1 o.2.2.2.2.2.2.1 o.2.2.2.2.2.2.2.1 o.2.2.2.2.2.2.2.2.1 m13 m14 m15 m16 m17 m18 M_against m20 o.2.2.2.2.2.2.2.2.2 ++ (wlP g ap u0 P_tellers P_claims P_orders u4 u5 u6 P_kind P_by P_of P_other P_last P_does P_whom P_begins P_ends P_order P_with P_also ++ (t2 ++ t)))) : R g mX11_liarsAfter 8 1 3 0 [(0, .ref (am 0)), (1, .int p1)] [] (wlM g am (ap 0) M_thrown m1 m2 m3 m4 m5 M_doubted M_evenings M_carried M_looked M_lying M_fewest M_sets m13 m14 m15 m16 m17 m18 M_against m20 M_stack ++ (wlP g ap u0 P_tellers P_claims P_orders u4 u5 u6 P_kind P_by P_of P_other P_last P_does P_whom P_begins P_ends P_order P_with P_also ++ t)) Q := by
  unfold f_M_liarsAfter at h
  refine r_aload_n 0 dX11_liarsAfter_0 rfl ?_
  refine r_iconst (v := (0 : Int32)) dX11_liarsAfter_1 (by decide) ?_
  refine r_putf _ dX11_liarsAfter_2 fl_X11_52 lM_0 (Nat.le_of_ble_eq_true rfl) rfl rfl (sM_0 _) ?_
  refine r_iload_n 1 dX11_liarsAfter_5 rfl ?_
  refine r_iconst (v := (1 : Int32)) dX11_liarsAfter_6 (by decide) ?_
  refine r_bipush (v := (30 : Int32)) dX11_liarsAfter_7 (by decide) ?_
  refine c_S (rest := []) 1 3 dX11_liarsAfter_9 ks_X11_58 (ct_M_isIn rfl) rfl rfl (Nat.le_of_ble_eq_true rfl) (by decide) (by decide) ?_
  refine r_if_ne (tgt := 21) dX11_liarsAfter_12 (by decide) (fun hc2394 => ?_) (fun hc2394 => ?_)
  · have h := iq (fun z9 => z9) hc2394 h
    refine r_iconst (v := (3 : Int32)) dX11_liarsAfter_21 (by decide) ?_
    refine r_newI (x := 0) (y := 0) (N := 3) dX11_liarsAfter_22 kk_162 (by decide) (by decide) (by decide) (fun q1t => ?_)
    refine r_perm pmT2 ?_
    refine r_dup dX11_liarsAfter_24 rfl ?_
    refine r_iconst (v := (0 : Int32)) dX11_liarsAfter_25 (by decide) ?_
    refine r_aload_n 0 dX11_liarsAfter_26 rfl ?_
    refine r_getf (v := .int M_doubted) _ dX11_liarsAfter_27 fl_X11_85 lM_0 rfl ?_
    refine r_iast _ dX11_liarsAfter_30 lT2 (by decide) (sT2 _) ?_
    refine r_dup dX11_liarsAfter_31 rfl ?_
    refine r_iconst (v := (1 : Int32)) dX11_liarsAfter_32 (by decide) ?_
    refine r_aload_n 0 dX11_liarsAfter_33 rfl ?_
    refine r_getf (v := .int M_evenings) _ dX11_liarsAfter_34 fl_X11_156 lM_0 rfl ?_
    refine r_iast _ dX11_liarsAfter_37 lT2 (by decide) (sT2 _) ?_
    refine r_dup dX11_liarsAfter_38 rfl ?_
    refine r_iconst (v := (2 : Int32)) dX11_liarsAfter_39 (by decide) ?_
    refine r_aload_n 0 dX11_liarsAfter_40 rfl ?_
    refine r_getf (v := .int M_carried) _ dX11_liarsAfter_41 fl_X11_141 lM_0 rfl ?_
    refine r_iast _ dX11_liarsAfter_44 lT2 (by decide) (sT2 _) ?_
    refine r_astore_n [(2, .ref q1t), (0, .ref (am 0)), (1, .int p1)] dX11_liarsAfter_45 (by decide) rfl ?_
    refine r_aload_n 1 dX11_liarsAfter_46 rfl ?_
    refine r_iload_n 2 dX11_liarsAfter_47 rfl ?_
    obtain ⟨r2398, hc2399, h⟩ := ob (fun z9 => z9) rfl h
    refine c_V (rest := []) 0 0 _ dX11_liarsAfter_48 kv_X11_405 (ct_M_pass hc2399) rfl rfl lM_0 rfl (Nat.le_of_ble_eq_true rfl) (by decide) (by decide) ?_
    refine r_pop dX11_liarsAfter_51 rfl ?_
    refine r_aload_n 1 dX11_liarsAfter_52 rfl ?_
    obtain ⟨r2400, hc2401, h⟩ := ob (fun z9 => z9) rfl h
    refine c_V (rest := []) 0 0 _ dX11_liarsAfter_53 kv_X11_159 (ct_M_liarsNow hc2401) rfl rfl lM_0 rfl (Nat.le_of_ble_eq_true rfl) (by decide) (by decide) ?_
    refine r_istore_n [(3, .int r2400.1), (2, .ref q1t), (0, .ref (am 0)), (1, .int p1)] dX11_liarsAfter_56 (by decide) rfl ?_
    refine r_aload_n 2 dX11_liarsAfter_57 rfl ?_
    refine r_aload_n 1 dX11_liarsAfter_58 rfl ?_
    refine r_iconst (v := (0 : Int32)) dX11_liarsAfter_59 (by decide) ?_
    refine r_iald _ dX11_liarsAfter_60 lT2 (by decide) ?_
    refine r_aload_n 1 dX11_liarsAfter_61 rfl ?_
    refine r_iconst (v := (1 : Int32)) dX11_liarsAfter_62 (by decide) ?_
    refine r_iald _ dX11_liarsAfter_63 lT2 (by decide) ?_
    refine r_aload_n 1 dX11_liarsAfter_64 rfl ?_
    refine r_iconst (v := (2 : Int32)) dX11_liarsAfter_65 (by decide) ?_
    refine r_iald _ dX11_liarsAfter_66 lT2 (by decide) ?_
    obtain ⟨r2402, hc2403, h⟩ := ob (fun z9 => z9) rfl h
    refine c_Vv (rest := []) 0 0 _ dX11_liarsAfter_67 kv_X11_408 (ct_M_goBack hc2403) rfl rfl lM_0 rfl (Nat.le_of_ble_eq_true rfl) (by decide) (by decide) ?_
    refine r_iload_n 0 dX11_liarsAfter_70 rfl ?_
    refine r_iret dX11_liarsAfter_71 rfl ?_
    have h := Option.some.inj (show some _ = some o from h)
    subst h
    first | exact hq [] | exact hq [_]
  · have h := ip (fun z9 => z9) hc2394 h
    refine r_aload_n 0 dX11_liarsAfter_15 rfl ?_
    refine r_iconst (v := (1 : Int32)) dX11_liarsAfter_16 (by decide) ?_
    obtain ⟨r2404, hc2405, h⟩ := ob (fun z9 => z9) rfl h
    refine c_V (rest := []) 1 3 _ dX11_liarsAfter_17 kv_X11_367 (ct_M_no hc2405) rfl rfl lM_0 rfl (Nat.le_of_ble_eq_true rfl) (by decide) (by decide) ?_
    refine r_iret dX11_liarsAfter_20 rfl ?_
    have h := Option.some.inj (show some _ = some o from h)
    subst h
    first | exact hq [] | exact hq [_]
theorem ct_M_liarsAfter {g : GG} {am : Nat → Nat} {ap : Nat → Nat} {t : va_W} {m1 m2 m3 m4 m5 u0 u4 : Int32} {m13 m14 m15 m16 m18 m20 : Nat → Int32} {m17 u5 u6 : Nat → Int64} {N : Nat} {M_thrown : Int32} {M_doubted : Int32} {M_evenings : Int32} {M_carried : Int32} {M_looked : Int32} {M_lying : Int32} {M_fewest : Int32} {M_sets : Int32} {M_against : Nat → Int32} {M_stack : Nat → Int32} {P_tellers : Int32} {P_claims : Int32} {P_orders : Int32} {P_kind : Nat → Int32} {P_by : Nat → Int32} {P_of : Nat → Int32} {P_other : Nat → Int32} {P_last : Nat → Int32} {P_does : Nat → Int32} {P_whom : Nat → Int32} {P_begins : Nat → Int32} {P_ends : Nat → Int32} {P_order : Nat → Int32} {P_with : Nat → Int32} {P_also : Nat → Int32} {p1 : Int32} {o : Int32 × Int32 × Int32 × Int32 × Int32 × Int32 × Int32 × Int32 × Int32 × (Nat → Int32)} (h : f_M_liarsAfter N M_thrown M_doubted M_evenings M_carried M_looked M_lying M_fewest M_sets M_against M_stack P_tellers P_claims P_orders P_kind P_by P_of P_other P_last P_does P_whom P_begins P_ends P_order P_with P_also p1 = some o) : Ct g mX11_liarsAfter 8 1 3 [.ref (am 0), .int p1] (wlM g am (ap 0) M_thrown m1 m2 m3 m4 m5 M_doubted M_evenings M_carried M_looked M_lying M_fewest M_sets m13 m14 m15 m16 m17 m18 M_against m20 M_stack ++ (wlP g ap u0 P_tellers P_claims P_orders u4 u5 u6 P_kind P_by P_of P_other P_last P_does P_whom P_begins P_ends P_order P_with P_also ++ t)) (Da (some (.int o.1)) (fun t2 => (wlM g am (ap 0) o.2.1 m1 m2 m3 m4 m5 o.2.2.1 o.2.2.2.1 o.2.2.2.2.1 o.2.2.2.2.2.1 o.2.2.2.2.2.2.1 o.2.2.2.2.2.2.2.1 o.2.2.2.2.2.2.2.2.1 m13 m14 m15 m16 m17 m18 M_against m20 o.2.2.2.2.2.2.2.2.2 ++ (wlP g ap u0 P_tellers P_claims P_orders u4 u5 u6 P_kind P_by P_of P_other P_last P_does P_whom P_begins P_ends P_order P_with P_also ++ t2))) t) := Ct.ofR (by decide +kernel) rfl (Nat.le_of_ble_eq_true rfl) (rt_M_liarsAfter h (fun t2 => ⟨rfl, t2, rfl⟩))
set_option maxRecDepth 20000 in
set_option maxHeartbeats 4000000 in
theorem rt_M_eveningsUntilOneStory {g : GG} {am : Nat → Nat} {ap : Nat → Nat} {t : va_W} {m1 m2 m3 m4 m5 u0 u4 : Int32} {m13 m14 m15 m16 m18 m20 : Nat → Int32} {m17 u5 u6 : Nat → Int64} {N : Nat} {M_thrown : Int32} {M_doubted : Int32} {M_evenings : Int32} {M_carried : Int32} {M_looked : Int32} {M_lying : Int32} {M_fewest : Int32} {M_sets : Int32} {M_against : Nat → Int32} {M_stack : Nat → Int32} {P_tellers : Int32} {P_claims : Int32} {P_orders : Int32} {P_kind : Nat → Int32} {P_by : Nat → Int32} {P_of : Nat → Int32} {P_other : Nat → Int32} {P_last : Nat → Int32} {P_does : Nat → Int32} {P_whom : Nat → Int32} {P_begins : Nat → Int32} {P_ends : Nat → Int32} {P_order : Nat → Int32} {P_with : Nat → Int32} {P_also : Nat → Int32} {o : Int32 × Int32 × Int32 × Int32 × Int32 × Int32 × Int32 × Int32 × Int32 × (Nat → Int32)} {Q : Rs → va_W → Prop} (h : f_M_eveningsUntilOneStory N M_thrown M_doubted M_evenings M_carried M_looked M_lying M_fewest M_sets M_against M_stack P_tellers P_claims P_orders P_kind P_by P_of P_other P_last P_does P_whom P_begins P_ends P_order P_with P_also = some o) (hq : ∀ t2 : va_W, Q (.inl (some (.int o.1))) (wlM g am (ap 0) o.2.1 m1 m2 m3 m4 m5 o.2.2.1 o.2.2.2.1 o.2.2.2.2.1 o.2.2.2.2.2.1 o.2.2.2.2.2.2.1 o.2.2.2.2.2.2.2.1 o.2.2.2.2.2.2.2.2.1 m13 m14 m15 m16 m17 m18 M_against m20 o.2.2.2.2.2.2.2.2.2 ++ (wlP g ap u0 P_tellers P_claims P_orders u4 u5 u6 P_kind P_by P_of P_other P_last P_does P_whom P_begins P_ends P_order P_with P_also ++ (t2 ++ t)))) : R g mX11_eveningsUntilOneStory 8 1 3 0 [(0, .ref (am 0))] [] (wlM g am (ap 0) M_thrown m1 m2 m3 m4 m5 M_doubted M_evenings M_carried M_looked M_lying M_fewest M_sets m13 m14 m15 m16 m17 m18 M_against m20 M_stack ++ (wlP g ap u0 P_tellers P_claims P_orders u4 u5 u6 P_kind P_by P_of P_other P_last P_does P_whom P_begins P_ends P_order P_with P_also ++ t)) Q := by
  unfold f_M_eveningsUntilOneStory at h
  refine r_aload_n 0 dX11_eveningsUntilOneStory_0 rfl ?_
  refine r_iconst (v := (0 : Int32)) dX11_eveningsUntilOneStory_1 (by decide) ?_
  refine r_putf _ dX11_eveningsUntilOneStory_2 fl_X11_52 lM_0 (Nat.le_of_ble_eq_true rfl) rfl rfl (sM_0 _) ?_
  refine r_iconst (v := (3 : Int32)) dX11_eveningsUntilOneStory_5 (by decide) ?_
  refine r_newI (x := 0) (y := 0) (N := 3) dX11_eveningsUntilOneStory_6 kk_162 (by decide) (by decide) (by decide) (fun q2t => ?_)
  refine r_perm pmT2 ?_
  refine r_dup dX11_eveningsUntilOneStory_8 rfl ?_
  refine r_iconst (v := (0 : Int32)) dX11_eveningsUntilOneStory_9 (by decide) ?_
  refine r_aload_n 0 dX11_eveningsUntilOneStory_10 rfl ?_
  refine r_getf (v := .int M_doubted) _ dX11_eveningsUntilOneStory_11 fl_X11_85 lM_0 rfl ?_
  refine r_iast _ dX11_eveningsUntilOneStory_14 lT2 (by decide) (sT2 _) ?_
  refine r_dup dX11_eveningsUntilOneStory_15 rfl ?_
  refine r_iconst (v := (1 : Int32)) dX11_eveningsUntilOneStory_16 (by decide) ?_
  refine r_aload_n 0 dX11_eveningsUntilOneStory_17 rfl ?_
  refine r_getf (v := .int M_evenings) _ dX11_eveningsUntilOneStory_18 fl_X11_156 lM_0 rfl ?_
  refine r_iast _ dX11_eveningsUntilOneStory_21 lT2 (by decide) (sT2 _) ?_
  refine r_dup dX11_eveningsUntilOneStory_22 rfl ?_
  refine r_iconst (v := (2 : Int32)) dX11_eveningsUntilOneStory_23 (by decide) ?_
  refine r_aload_n 0 dX11_eveningsUntilOneStory_24 rfl ?_
  refine r_getf (v := .int M_carried) _ dX11_eveningsUntilOneStory_25 fl_X11_141 lM_0 rfl ?_
  refine r_iast _ dX11_eveningsUntilOneStory_28 lT2 (by decide) (sT2 _) ?_
  refine r_astore_n [(1, .ref q2t), (0, .ref (am 0))] dX11_eveningsUntilOneStory_29 (by decide) rfl ?_
  refine r_iconst (v := (0 : Int32)) dX11_eveningsUntilOneStory_30 (by decide) ?_
  refine r_istore_n [(2, .int (0 : Int32)), (1, .ref q2t), (0, .ref (am 0))] dX11_eveningsUntilOneStory_31 (by decide) rfl ?_
  refine r_ls [2, 1, 0] (ls2 := [(0, .ref (am 0)), (1, .ref q2t), (2, .int (0 : Int32))]) rfl ?_
  have L1 : ∀ (n1 : Nat) (tmp2_c1 : Nat → Int32) (l2_1 : Int32) (M_doubted_1 : Int32) (M_evenings_1 : Int32) (M_carried_1 : Int32) (M_looked_1 : Int32) (M_lying_1 : Int32) (M_fewest_1 : Int32) (M_sets_1 : Int32) (M_stack_1 : Nat → Int32), (fun z9 => z9) (lpS (f_M_eveningsUntilOneStory_L32 N M_against P_tellers P_claims P_orders P_kind P_by P_of P_other P_last P_does P_whom P_begins P_ends P_order P_with P_also tmp2_c1) none n1 (l2_1, M_doubted_1, M_evenings_1, M_carried_1, M_looked_1, M_lying_1, M_fewest_1, M_sets_1, M_stack_1)) = some o → R g mX11_eveningsUntilOneStory 8 0 0 32 [(0, .ref (am 0)), (1, .ref q2t), (2, .int l2_1)] [] (wlM g am (ap 0) (0 : Int32) m1 m2 m3 m4 m5 M_doubted_1 M_evenings_1 M_carried_1 M_looked_1 M_lying_1 M_fewest_1 M_sets_1 m13 m14 m15 m16 m17 m18 M_against m20 M_stack_1 ++ (wlP g ap u0 P_tellers P_claims P_orders u4 u5 u6 P_kind P_by P_of P_other P_last P_does P_whom P_begins P_ends P_order P_with P_also ++ ((q2t, iA g 3 tmp2_c1) :: t))) Q := by
    intro n1
    induction n1 with
    | zero => intro tmp2_c1 l2_1 M_doubted_1 M_evenings_1 M_carried_1 M_looked_1 M_lying_1 M_fewest_1 M_sets_1 M_stack_1 h; exact nomatch (show (none : Option _) = some _ from h)
    | succ n1 ih1 =>
      intro tmp2_c1 l2_1 M_doubted_1 M_evenings_1 M_carried_1 M_looked_1 M_lying_1 M_fewest_1 M_sets_1 M_stack_1 h
      have h : (fun z9 => (lC (f_M_eveningsUntilOneStory_L32 N M_against P_tellers P_claims P_orders P_kind P_by P_of P_other P_last P_does P_whom P_begins P_ends P_order P_with P_also tmp2_c1) none n1 z9)) (f_M_eveningsUntilOneStory_L32 N M_against P_tellers P_claims P_orders P_kind P_by P_of P_other P_last P_does P_whom P_begins P_ends P_order P_with P_also tmp2_c1 (l2_1, M_doubted_1, M_evenings_1, M_carried_1, M_looked_1, M_lying_1, M_fewest_1, M_sets_1, M_stack_1)) = some o := h
      unfold f_M_eveningsUntilOneStory_L32 at h
      try dsimp only at h
      refine r_iload_n 2 dX11_eveningsUntilOneStory_32 rfl ?_
      refine r_bipush (v := (30 : Int32)) dX11_eveningsUntilOneStory_33 (by decide) ?_
      refine r_icmp_gt (tgt := 57) dX11_eveningsUntilOneStory_35 (by decide) (fun hc2409 => ?_) (fun hc2409 => ?_)
      · have h := ip (fun z9 => (lC (f_M_eveningsUntilOneStory_L32 N M_against P_tellers P_claims P_orders P_kind P_by P_of P_other P_last P_does P_whom P_begins P_ends P_order P_with P_also tmp2_c1) none n1 z9)) hc2409 h
        refine r_aload_n 0 dX11_eveningsUntilOneStory_57 rfl ?_
        refine r_aload_n 1 dX11_eveningsUntilOneStory_58 rfl ?_
        refine r_iconst (v := (0 : Int32)) dX11_eveningsUntilOneStory_59 (by decide) ?_
        refine r_iald _ dX11_eveningsUntilOneStory_60 lT2 (by decide) ?_
        refine r_aload_n 1 dX11_eveningsUntilOneStory_61 rfl ?_
        refine r_iconst (v := (1 : Int32)) dX11_eveningsUntilOneStory_62 (by decide) ?_
        refine r_iald _ dX11_eveningsUntilOneStory_63 lT2 (by decide) ?_
        refine r_aload_n 1 dX11_eveningsUntilOneStory_64 rfl ?_
        refine r_iconst (v := (2 : Int32)) dX11_eveningsUntilOneStory_65 (by decide) ?_
        refine r_iald _ dX11_eveningsUntilOneStory_66 lT2 (by decide) ?_
        obtain ⟨r2410, hc2411, h⟩ := ob (fun z9 => (lC (f_M_eveningsUntilOneStory_L32 N M_against P_tellers P_claims P_orders P_kind P_by P_of P_other P_last P_does P_whom P_begins P_ends P_order P_with P_also tmp2_c1) none n1 z9)) rfl h
        refine c_Vv (rest := []) 0 0 _ dX11_eveningsUntilOneStory_67 kv_X11_408 (ct_M_goBack hc2411) rfl rfl lM_0 rfl (Nat.le_of_ble_eq_true rfl) (by decide) (by decide) ?_
        refine r_iload_n 2 dX11_eveningsUntilOneStory_70 rfl ?_
        refine r_bipush (v := (30 : Int32)) dX11_eveningsUntilOneStory_71 (by decide) ?_
        refine r_icmp_le (tgt := 80) dX11_eveningsUntilOneStory_73 (by decide) (fun hc2412 => ?_) (fun hc2412 => ?_)
        · have h := ip (fun z9 => (lC (f_M_eveningsUntilOneStory_L32 N M_against P_tellers P_claims P_orders P_kind P_by P_of P_other P_last P_does P_whom P_begins P_ends P_order P_with P_also tmp2_c1) none n1 z9)) hc2412 h
          refine r_iload_n 2 dX11_eveningsUntilOneStory_80 rfl ?_
          refine r_iret dX11_eveningsUntilOneStory_81 rfl ?_
          have h := Option.some.inj (show some _ = some o from h)
          subst h
          first | exact hq [] | exact hq [_]
        · have h := iq (fun z9 => (lC (f_M_eveningsUntilOneStory_L32 N M_against P_tellers P_claims P_orders P_kind P_by P_of P_other P_last P_does P_whom P_begins P_ends P_order P_with P_also tmp2_c1) none n1 z9)) hc2412 h
          refine r_iconst (v := (-1 : Int32)) dX11_eveningsUntilOneStory_76 (by decide) ?_
          refine r_goto (tgt := 81) dX11_eveningsUntilOneStory_77 (by decide) ?_
          refine r_iret dX11_eveningsUntilOneStory_81 rfl ?_
          have h := Option.some.inj (show some _ = some o from h)
          subst h
          first | exact hq [] | exact hq [_]
      · have h := iq (fun z9 => (lC (f_M_eveningsUntilOneStory_L32 N M_against P_tellers P_claims P_orders P_kind P_by P_of P_other P_last P_does P_whom P_begins P_ends P_order P_with P_also tmp2_c1) none n1 z9)) hc2409 h
        refine r_aload_n 0 dX11_eveningsUntilOneStory_38 rfl ?_
        obtain ⟨r2413, hc2414, h⟩ := ob (fun z9 => (lC (f_M_eveningsUntilOneStory_L32 N M_against P_tellers P_claims P_orders P_kind P_by P_of P_other P_last P_does P_whom P_begins P_ends P_order P_with P_also tmp2_c1) none n1 z9)) rfl h
        refine c_V (rest := []) 0 0 _ dX11_eveningsUntilOneStory_39 kv_X11_159 (ct_M_liarsNow hc2414) rfl rfl lM_0 rfl (Nat.le_of_ble_eq_true rfl) (by decide) (by decide) ?_
        refine r_if_le (tgt := 57) dX11_eveningsUntilOneStory_42 (by decide) (fun hc2415 => ?_) (fun hc2415 => ?_)
        · have h := ip (fun z9 => (lC (f_M_eveningsUntilOneStory_L32 N M_against P_tellers P_claims P_orders P_kind P_by P_of P_other P_last P_does P_whom P_begins P_ends P_order P_with P_also tmp2_c1) none n1 z9)) hc2415 h
          refine r_aload_n 0 dX11_eveningsUntilOneStory_57 rfl ?_
          refine r_aload_n 1 dX11_eveningsUntilOneStory_58 rfl ?_
          refine r_iconst (v := (0 : Int32)) dX11_eveningsUntilOneStory_59 (by decide) ?_
          refine r_iald _ dX11_eveningsUntilOneStory_60 lT2 (by decide) ?_
          refine r_aload_n 1 dX11_eveningsUntilOneStory_61 rfl ?_
          refine r_iconst (v := (1 : Int32)) dX11_eveningsUntilOneStory_62 (by decide) ?_
          refine r_iald _ dX11_eveningsUntilOneStory_63 lT2 (by decide) ?_
          refine r_aload_n 1 dX11_eveningsUntilOneStory_64 rfl ?_
          refine r_iconst (v := (2 : Int32)) dX11_eveningsUntilOneStory_65 (by decide) ?_
          refine r_iald _ dX11_eveningsUntilOneStory_66 lT2 (by decide) ?_
          obtain ⟨r2416, hc2417, h⟩ := ob (fun z9 => (lC (f_M_eveningsUntilOneStory_L32 N M_against P_tellers P_claims P_orders P_kind P_by P_of P_other P_last P_does P_whom P_begins P_ends P_order P_with P_also tmp2_c1) none n1 z9)) rfl h
          refine c_Vv (rest := []) 0 0 _ dX11_eveningsUntilOneStory_67 kv_X11_408 (ct_M_goBack hc2417) rfl rfl lM_0 rfl (Nat.le_of_ble_eq_true rfl) (by decide) (by decide) ?_
          refine r_iload_n 2 dX11_eveningsUntilOneStory_70 rfl ?_
          refine r_bipush (v := (30 : Int32)) dX11_eveningsUntilOneStory_71 (by decide) ?_
          refine r_icmp_le (tgt := 80) dX11_eveningsUntilOneStory_73 (by decide) (fun hc2418 => ?_) (fun hc2418 => ?_)
          · have h := ip (fun z9 => (lC (f_M_eveningsUntilOneStory_L32 N M_against P_tellers P_claims P_orders P_kind P_by P_of P_other P_last P_does P_whom P_begins P_ends P_order P_with P_also tmp2_c1) none n1 z9)) hc2418 h
            refine r_iload_n 2 dX11_eveningsUntilOneStory_80 rfl ?_
            refine r_iret dX11_eveningsUntilOneStory_81 rfl ?_
            have h := Option.some.inj (show some _ = some o from h)
            subst h
            first | exact hq [] | exact hq [_]
          · have h := iq (fun z9 => (lC (f_M_eveningsUntilOneStory_L32 N M_against P_tellers P_claims P_orders P_kind P_by P_of P_other P_last P_does P_whom P_begins P_ends P_order P_with P_also tmp2_c1) none n1 z9)) hc2418 h
            refine r_iconst (v := (-1 : Int32)) dX11_eveningsUntilOneStory_76 (by decide) ?_
            refine r_goto (tgt := 81) dX11_eveningsUntilOneStory_77 (by decide) ?_
            refine r_iret dX11_eveningsUntilOneStory_81 rfl ?_
            have h := Option.some.inj (show some _ = some o from h)
            subst h
            first | exact hq [] | exact hq [_]
        · have h := iq (fun z9 => (lC (f_M_eveningsUntilOneStory_L32 N M_against P_tellers P_claims P_orders P_kind P_by P_of P_other P_last P_does P_whom P_begins P_ends P_order P_with P_also tmp2_c1) none n1 z9)) hc2415 h
          refine r_aload_n 0 dX11_eveningsUntilOneStory_45 rfl ?_
          refine r_iconst (v := (1 : Int32)) dX11_eveningsUntilOneStory_46 (by decide) ?_
          obtain ⟨r2419, hc2420, h⟩ := ob (fun z9 => (lC (f_M_eveningsUntilOneStory_L32 N M_against P_tellers P_claims P_orders P_kind P_by P_of P_other P_last P_does P_whom P_begins P_ends P_order P_with P_also tmp2_c1) none n1 z9)) rfl h
          refine c_V (rest := []) 0 0 _ dX11_eveningsUntilOneStory_47 kv_X11_405 (ct_M_pass hc2420) rfl rfl lM_0 rfl (Nat.le_of_ble_eq_true rfl) (by decide) (by decide) ?_
          refine r_pop dX11_eveningsUntilOneStory_50 rfl ?_
          refine r_iinc (v2 := (l2_1 + (1 : Int32))) 2 [(2, .int (l2_1 + (1 : Int32))), (0, .ref (am 0)), (1, .ref q2t)] dX11_eveningsUntilOneStory_51 rfl rfl (by decide) rfl ?_
          refine r_goto (tgt := 32) dX11_eveningsUntilOneStory_54 (by decide) ?_
          refine r_ls [1, 2, 0] (ls2 := [(0, .ref (am 0)), (1, .ref q2t), (2, .int (l2_1 + (1 : Int32)))]) rfl ?_
          exact ih1 tmp2_c1 (l2_1 + (1 : Int32)) r2419.2.1 r2419.2.2.1 r2419.2.2.2.1 r2419.2.2.2.2.1 r2419.2.2.2.2.2.1 r2419.2.2.2.2.2.2.1 r2419.2.2.2.2.2.2.2.1 r2419.2.2.2.2.2.2.2.2 h
  exact L1 _ (upd (upd (upd (fun _ => (0 : Int32)) (0 : Int32).toNatClampNeg M_doubted) (1 : Int32).toNatClampNeg M_evenings) (2 : Int32).toNatClampNeg M_carried) (0 : Int32) M_doubted M_evenings M_carried M_looked M_lying M_fewest M_sets M_stack h
theorem ct_M_eveningsUntilOneStory {g : GG} {am : Nat → Nat} {ap : Nat → Nat} {t : va_W} {m1 m2 m3 m4 m5 u0 u4 : Int32} {m13 m14 m15 m16 m18 m20 : Nat → Int32} {m17 u5 u6 : Nat → Int64} {N : Nat} {M_thrown : Int32} {M_doubted : Int32} {M_evenings : Int32} {M_carried : Int32} {M_looked : Int32} {M_lying : Int32} {M_fewest : Int32} {M_sets : Int32} {M_against : Nat → Int32} {M_stack : Nat → Int32} {P_tellers : Int32} {P_claims : Int32} {P_orders : Int32} {P_kind : Nat → Int32} {P_by : Nat → Int32} {P_of : Nat → Int32} {P_other : Nat → Int32} {P_last : Nat → Int32} {P_does : Nat → Int32} {P_whom : Nat → Int32} {P_begins : Nat → Int32} {P_ends : Nat → Int32} {P_order : Nat → Int32} {P_with : Nat → Int32} {P_also : Nat → Int32} {o : Int32 × Int32 × Int32 × Int32 × Int32 × Int32 × Int32 × Int32 × Int32 × (Nat → Int32)} (h : f_M_eveningsUntilOneStory N M_thrown M_doubted M_evenings M_carried M_looked M_lying M_fewest M_sets M_against M_stack P_tellers P_claims P_orders P_kind P_by P_of P_other P_last P_does P_whom P_begins P_ends P_order P_with P_also = some o) : Ct g mX11_eveningsUntilOneStory 8 1 3 [.ref (am 0)] (wlM g am (ap 0) M_thrown m1 m2 m3 m4 m5 M_doubted M_evenings M_carried M_looked M_lying M_fewest M_sets m13 m14 m15 m16 m17 m18 M_against m20 M_stack ++ (wlP g ap u0 P_tellers P_claims P_orders u4 u5 u6 P_kind P_by P_of P_other P_last P_does P_whom P_begins P_ends P_order P_with P_also ++ t)) (Da (some (.int o.1)) (fun t2 => (wlM g am (ap 0) o.2.1 m1 m2 m3 m4 m5 o.2.2.1 o.2.2.2.1 o.2.2.2.2.1 o.2.2.2.2.2.1 o.2.2.2.2.2.2.1 o.2.2.2.2.2.2.2.1 o.2.2.2.2.2.2.2.2.1 m13 m14 m15 m16 m17 m18 M_against m20 o.2.2.2.2.2.2.2.2.2 ++ (wlP g ap u0 P_tellers P_claims P_orders u4 u5 u6 P_kind P_by P_of P_other P_last P_does P_whom P_begins P_ends P_order P_with P_also ++ t2))) t) := Ct.ofR (by decide +kernel) rfl (Nat.le_of_ble_eq_true rfl) (rt_M_eveningsUntilOneStory h (fun t2 => ⟨rfl, t2, rfl⟩))
set_option maxRecDepth 20000 in
set_option maxHeartbeats 4000000 in
theorem rt_M_bestToDoubt {g : GG} {am : Nat → Nat} {ap : Nat → Nat} {t : va_W} {m1 m2 m3 m4 m5 m7 m8 m9 m10 m11 m12 u0 u2 u3 u4 : Int32} {m13 m14 m15 m16 m18 m20 m21 u7 u8 u9 u10 u11 u12 u13 u14 u15 u16 u17 u18 : Nat → Int32} {m17 u5 u6 : Nat → Int64} {N : Nat} {M_thrown : Int32} {M_doubted : Int32} {M_against : Nat → Int32} {P_tellers : Int32} {o : Int32 × Int32} {Q : Rs → va_W → Prop} (h : f_M_bestToDoubt N M_thrown M_doubted M_against P_tellers = some o) (hq : Q (.inl (some (.int o.1))) (wlM g am (ap 0) o.2 m1 m2 m3 m4 m5 M_doubted m7 m8 m9 m10 m11 m12 m13 m14 m15 m16 m17 m18 M_against m20 m21 ++ (wlP g ap u0 P_tellers u2 u3 u4 u5 u6 u7 u8 u9 u10 u11 u12 u13 u14 u15 u16 u17 u18 ++ t))) : R g mX11_bestToDoubt 3 0 0 0 [(0, .ref (am 0))] [] (wlM g am (ap 0) M_thrown m1 m2 m3 m4 m5 M_doubted m7 m8 m9 m10 m11 m12 m13 m14 m15 m16 m17 m18 M_against m20 m21 ++ (wlP g ap u0 P_tellers u2 u3 u4 u5 u6 u7 u8 u9 u10 u11 u12 u13 u14 u15 u16 u17 u18 ++ t)) Q := by
  unfold f_M_bestToDoubt at h
  refine r_aload_n 0 dX11_bestToDoubt_0 rfl ?_
  refine r_iconst (v := (0 : Int32)) dX11_bestToDoubt_1 (by decide) ?_
  refine r_putf _ dX11_bestToDoubt_2 fl_X11_52 lM_0 (Nat.le_of_ble_eq_true rfl) rfl rfl (sM_0 _) ?_
  refine r_iconst (v := (-1 : Int32)) dX11_bestToDoubt_5 (by decide) ?_
  refine r_istore_n [(1, .int (-1 : Int32)), (0, .ref (am 0))] dX11_bestToDoubt_6 (by decide) rfl ?_
  refine r_aload_n 1 dX11_bestToDoubt_7 rfl ?_
  refine r_aload_n 1 dX11_bestToDoubt_8 rfl ?_
  refine c_V (rest := [.ref (am 0)]) 0 0 _ dX11_bestToDoubt_9 kv_X11_91 (ct_M_believed rfl) rfl rfl lM_0 rfl (Nat.le_of_ble_eq_true rfl) (by decide) (by decide) ?_
  obtain ⟨r2421, hc2422, h⟩ := ob (fun z9 => z9) rfl h
  refine c_V (rest := []) 0 0 _ dX11_bestToDoubt_12 kv_X11_162 (ct_M_pairsNow hc2422) rfl rfl lM_0 rfl (Nat.le_of_ble_eq_true rfl) (by decide) (by decide) ?_
  refine r_istore_n [(2, .int r2421), (1, .int (-1 : Int32)), (0, .ref (am 0))] dX11_bestToDoubt_15 (by decide) rfl ?_
  refine r_iconst (v := (0 : Int32)) dX11_bestToDoubt_16 (by decide) ?_
  refine r_istore_n [(3, .int (0 : Int32)), (2, .int r2421), (1, .int (-1 : Int32)), (0, .ref (am 0))] dX11_bestToDoubt_17 (by decide) rfl ?_
  refine r_ls [3, 2, 1, 0] (ls2 := [(0, .ref (am 0)), (1, .int (-1 : Int32)), (2, .int r2421), (3, .int (0 : Int32))]) rfl ?_
  have L1 : ∀ (n1 : Nat) (l1_1 : Int32) (l2_1 : Int32) (l3_1 : Int32), (fun z9 => z9) (lpS (f_M_bestToDoubt_L18 N M_doubted M_against P_tellers) none n1 (l1_1, l2_1, l3_1)) = some o → R g mX11_bestToDoubt 3 0 0 18 [(0, .ref (am 0)), (1, .int l1_1), (2, .int l2_1), (3, .int l3_1)] [] (wlM g am (ap 0) (0 : Int32) m1 m2 m3 m4 m5 M_doubted m7 m8 m9 m10 m11 m12 m13 m14 m15 m16 m17 m18 M_against m20 m21 ++ (wlP g ap u0 P_tellers u2 u3 u4 u5 u6 u7 u8 u9 u10 u11 u12 u13 u14 u15 u16 u17 u18 ++ t)) Q := by
    intro n1
    induction n1 with
    | zero => intro l1_1 l2_1 l3_1 h; exact nomatch (show (none : Option _) = some _ from h)
    | succ n1 ih1 =>
      intro l1_1 l2_1 l3_1 h
      have h : (fun z9 => (lC (f_M_bestToDoubt_L18 N M_doubted M_against P_tellers) none n1 z9)) (f_M_bestToDoubt_L18 N M_doubted M_against P_tellers (l1_1, l2_1, l3_1)) = some o := h
      unfold f_M_bestToDoubt_L18 at h
      try dsimp only at h
      refine r_iload_n 3 dX11_bestToDoubt_18 rfl ?_
      refine r_aload_n 0 dX11_bestToDoubt_19 rfl ?_
      refine r_getf (v := .ref (ap 0)) _ dX11_bestToDoubt_20 fl_X11_20 lM_0 rfl ?_
      refine r_getf (v := .int P_tellers) _ dX11_bestToDoubt_23 fl_X11_62 lP_0 rfl ?_
      refine r_icmp_ge (tgt := 65) dX11_bestToDoubt_26 (by decide) (fun hc2423 => ?_) (fun hc2423 => ?_)
      · have h := ip (fun z9 => (lC (f_M_bestToDoubt_L18 N M_doubted M_against P_tellers) none n1 z9)) hc2423 h
        refine r_iload_n 1 dX11_bestToDoubt_65 rfl ?_
        refine r_iret dX11_bestToDoubt_66 rfl ?_
        have h := Option.some.inj (show some _ = some o from h)
        subst h
        exact hq
      · have h := iq (fun z9 => (lC (f_M_bestToDoubt_L18 N M_doubted M_against P_tellers) none n1 z9)) hc2423 h
        refine r_aload_n 0 dX11_bestToDoubt_29 rfl ?_
        refine r_aload_n 0 dX11_bestToDoubt_30 rfl ?_
        refine c_V (rest := [.ref (am 0)]) 0 0 _ dX11_bestToDoubt_31 kv_X11_91 (ct_M_believed rfl) rfl rfl lM_0 rfl (Nat.le_of_ble_eq_true rfl) (by decide) (by decide) ?_
        refine r_iconst (v := (1 : Int32)) dX11_bestToDoubt_34 (by decide) ?_
        refine r_iload_n 3 dX11_bestToDoubt_35 rfl ?_
        refine r_ishl dX11_bestToDoubt_36 ?_
        refine r_iconst (v := (-1 : Int32)) dX11_bestToDoubt_37 (by decide) ?_
        refine r_ixor dX11_bestToDoubt_38 ?_
        refine r_iand dX11_bestToDoubt_39 ?_
        obtain ⟨r2424, hc2425, h⟩ := ob (fun z9 => (lC (f_M_bestToDoubt_L18 N M_doubted M_against P_tellers) none n1 z9)) rfl h
        refine c_V (rest := []) 0 0 _ dX11_bestToDoubt_40 kv_X11_162 (ct_M_pairsNow hc2425) rfl rfl lM_0 rfl (Nat.le_of_ble_eq_true rfl) (by decide) (by decide) ?_
        refine r_istore [(4, .int r2424), (0, .ref (am 0)), (1, .int l1_1), (2, .int l2_1), (3, .int l3_1)] dX11_bestToDoubt_43 (by decide) rfl ?_
        refine r_iload 0 dX11_bestToDoubt_45 rfl ?_
        refine r_iload_n 3 dX11_bestToDoubt_47 rfl ?_
        refine r_icmp_lt (tgt := 54) dX11_bestToDoubt_48 (by decide) (fun hc2426 => ?_) (fun hc2426 => ?_)
        · have h := ip (fun z9 => (lC (f_M_bestToDoubt_L18 N M_doubted M_against P_tellers) none n1 z9)) hc2426 h
          refine r_iload_n 4 dX11_bestToDoubt_54 rfl ?_
          refine r_istore_n [(1, .int l3_1), (4, .int r2424), (0, .ref (am 0)), (2, .int l2_1), (3, .int l3_1)] dX11_bestToDoubt_55 (by decide) rfl ?_
          refine r_iload 1 dX11_bestToDoubt_56 rfl ?_
          refine r_istore_n [(2, .int r2424), (1, .int l3_1), (4, .int r2424), (0, .ref (am 0)), (3, .int l3_1)] dX11_bestToDoubt_58 (by decide) rfl ?_
          refine r_iinc (v2 := (l3_1 + (1 : Int32))) 4 [(3, .int (l3_1 + (1 : Int32))), (2, .int r2424), (1, .int l3_1), (4, .int r2424), (0, .ref (am 0))] dX11_bestToDoubt_59 rfl rfl (by decide) rfl ?_
          refine r_goto (tgt := 18) dX11_bestToDoubt_62 (by decide) ?_
          refine r_ls [4, 2, 1, 0] (ls2 := [(0, .ref (am 0)), (1, .int l3_1), (2, .int r2424), (3, .int (l3_1 + (1 : Int32)))]) rfl ?_
          exact ih1 l3_1 r2424 (l3_1 + (1 : Int32)) h
        · have h := iq (fun z9 => (lC (f_M_bestToDoubt_L18 N M_doubted M_against P_tellers) none n1 z9)) hc2426 h
          refine r_goto (tgt := 59) dX11_bestToDoubt_51 (by decide) ?_
          refine r_iinc (v2 := (l3_1 + (1 : Int32))) 4 [(3, .int (l3_1 + (1 : Int32))), (4, .int r2424), (0, .ref (am 0)), (1, .int l1_1), (2, .int l2_1)] dX11_bestToDoubt_59 rfl rfl (by decide) rfl ?_
          refine r_goto (tgt := 18) dX11_bestToDoubt_62 (by decide) ?_
          refine r_ls [2, 3, 4, 0] (ls2 := [(0, .ref (am 0)), (1, .int l1_1), (2, .int l2_1), (3, .int (l3_1 + (1 : Int32)))]) rfl ?_
          exact ih1 l1_1 l2_1 (l3_1 + (1 : Int32)) h
  exact L1 _ (-1 : Int32) r2421 (0 : Int32) h
theorem ct_M_bestToDoubt {g : GG} {am : Nat → Nat} {ap : Nat → Nat} {t : va_W} {m1 m2 m3 m4 m5 m7 m8 m9 m10 m11 m12 u0 u2 u3 u4 : Int32} {m13 m14 m15 m16 m18 m20 m21 u7 u8 u9 u10 u11 u12 u13 u14 u15 u16 u17 u18 : Nat → Int32} {m17 u5 u6 : Nat → Int64} {N : Nat} {M_thrown : Int32} {M_doubted : Int32} {M_against : Nat → Int32} {P_tellers : Int32} {o : Int32 × Int32} (h : f_M_bestToDoubt N M_thrown M_doubted M_against P_tellers = some o) : Ct g mX11_bestToDoubt 3 0 0 [.ref (am 0)] (wlM g am (ap 0) M_thrown m1 m2 m3 m4 m5 M_doubted m7 m8 m9 m10 m11 m12 m13 m14 m15 m16 m17 m18 M_against m20 m21 ++ (wlP g ap u0 P_tellers u2 u3 u4 u5 u6 u7 u8 u9 u10 u11 u12 u13 u14 u15 u16 u17 u18 ++ t)) (Dv (some (.int o.1)) (wlM g am (ap 0) o.2 m1 m2 m3 m4 m5 M_doubted m7 m8 m9 m10 m11 m12 m13 m14 m15 m16 m17 m18 M_against m20 m21 ++ (wlP g ap u0 P_tellers u2 u3 u4 u5 u6 u7 u8 u9 u10 u11 u12 u13 u14 u15 u16 u17 u18 ++ t))) := Ct.ofR (by decide +kernel) rfl (Nat.le_of_ble_eq_true rfl) (rt_M_bestToDoubt h ⟨rfl, rfl⟩)
