set_option maxRecDepth 20000 in
set_option maxHeartbeats 4000000 in
theorem rt_M_contrary {g : GG} {am : Nat → Nat} {ap : Nat → Nat} {t : va_W} {m0 m1 m2 m3 m4 m5 m6 m7 m8 m9 m10 m11 m12 u0 u1 u2 u3 u4 : Int32} {m13 m14 m15 m16 m18 m19 m20 m21 u8 u12 u13 u14 u15 u16 u17 u18 : Nat → Int32} {m17 u5 u6 : Nat → Int64} {N : Nat} {P_kind : Nat → Int32} {P_of : Nat → Int32} {P_other : Nat → Int32} {P_last : Nat → Int32} {p1 : Int32} {p2 : Int32} {D : Nat} {rec : Nat → Int32 → Int32 → Unit → Option (Int32)} (ih_0 : (∀  {p1 : Int32} {p2 : Int32} {o : Int32} {t : va_W}, rec 0 p1 p2 () = some o → Ct g mX11_contrary (2 + D) 0 0 [.ref (am 0), .int p1, .int p2] (wlM g am (ap 0) m0 m1 m2 m3 m4 m5 m6 m7 m8 m9 m10 m11 m12 m13 m14 m15 m16 m17 m18 m19 m20 m21 ++ (wlP g ap u0 u1 u2 u3 u4 u5 u6 P_kind u8 P_of P_other P_last u12 u13 u14 u15 u16 u17 u18 ++ t)) (Dv (some (.int o)) (wlM g am (ap 0) m0 m1 m2 m3 m4 m5 m6 m7 m8 m9 m10 m11 m12 m13 m14 m15 m16 m17 m18 m19 m20 m21 ++ (wlP g ap u0 u1 u2 u3 u4 u5 u6 P_kind u8 P_of P_other P_last u12 u13 u14 u15 u16 u17 u18 ++ t))))) {o : Int32} {Q : Rs → va_W → Prop} (h : f_M_contrary N rec P_kind P_of P_other P_last p1 p2 = some o) (hq : Q (.inl (some (.int o))) (wlM g am (ap 0) m0 m1 m2 m3 m4 m5 m6 m7 m8 m9 m10 m11 m12 m13 m14 m15 m16 m17 m18 m19 m20 m21 ++ (wlP g ap u0 u1 u2 u3 u4 u5 u6 P_kind u8 P_of P_other P_last u12 u13 u14 u15 u16 u17 u18 ++ t))) : R g mX11_contrary (2 + (D + 1)) 0 0 0 [(0, .ref (am 0)), (1, .int p1), (2, .int p2)] [] (wlM g am (ap 0) m0 m1 m2 m3 m4 m5 m6 m7 m8 m9 m10 m11 m12 m13 m14 m15 m16 m17 m18 m19 m20 m21 ++ (wlP g ap u0 u1 u2 u3 u4 u5 u6 P_kind u8 P_of P_other P_last u12 u13 u14 u15 u16 u17 u18 ++ t)) Q := by
  unfold f_M_contrary at h
  refine r_aload_n 0 dX11_contrary_0 rfl ?_
  refine r_getf (v := .ref (ap 0)) _ dX11_contrary_1 fl_X11_20 lM_0 rfl ?_
  refine r_getf (v := .ref (ap 3)) _ dX11_contrary_4 fl_X11_68 lP_0 rfl ?_
  refine r_iload_n 1 dX11_contrary_7 rfl ?_
  obtain ⟨hb1256, h⟩ := gd (fun z9 => z9) rfl h
  refine r_iald _ dX11_contrary_8 lP_3 hb1256 ?_
  refine r_aload_n 0 dX11_contrary_9 rfl ?_
  refine r_getf (v := .ref (ap 0)) _ dX11_contrary_10 fl_X11_20 lM_0 rfl ?_
  refine r_getf (v := .ref (ap 3)) _ dX11_contrary_13 fl_X11_68 lP_0 rfl ?_
  refine r_iload_n 2 dX11_contrary_16 rfl ?_
  obtain ⟨hb1257, h⟩ := gd (fun z9 => z9) rfl h
  refine r_iald _ dX11_contrary_17 lP_3 hb1257 ?_
  refine r_icmp_le (tgt := 28) dX11_contrary_18 (by decide) (fun hc1258 => ?_) (fun hc1258 => ?_)
  · have h := ip (fun z9 => z9) hc1258 h
    refine r_aload_n 0 dX11_contrary_28 rfl ?_
    refine r_getf (v := .ref (ap 0)) _ dX11_contrary_29 fl_X11_20 lM_0 rfl ?_
    refine r_getf (v := .ref (ap 5)) _ dX11_contrary_32 fl_X11_73 lP_0 rfl ?_
    refine r_iload_n 1 dX11_contrary_35 rfl ?_
    obtain ⟨hb1259, h⟩ := gd (fun z9 => z9) rfl h
    refine r_iald _ dX11_contrary_36 lP_5 hb1259 ?_
    refine r_aload_n 0 dX11_contrary_37 rfl ?_
    refine r_getf (v := .ref (ap 0)) _ dX11_contrary_38 fl_X11_20 lM_0 rfl ?_
    refine r_getf (v := .ref (ap 5)) _ dX11_contrary_41 fl_X11_73 lP_0 rfl ?_
    refine r_iload_n 2 dX11_contrary_44 rfl ?_
    obtain ⟨hb1260, h⟩ := gd (fun z9 => z9) rfl h
    refine r_iald _ dX11_contrary_45 lP_5 hb1260 ?_
    refine r_icmp_ne (tgt := 53) dX11_contrary_46 (by decide) (fun hc1261 => ?_) (fun hc1261 => ?_)
    · have h := iq (fun z9 => z9) hc1261 h
      refine r_iconst (v := (0 : Int32)) dX11_contrary_53 (by decide) ?_
      refine r_istore_n [(3, .int (0 : Int32)), (0, .ref (am 0)), (1, .int p1), (2, .int p2)] dX11_contrary_54 (by decide) rfl ?_
      refine r_aload_n 1 dX11_contrary_55 rfl ?_
      refine r_getf (v := .ref (ap 0)) _ dX11_contrary_56 fl_X11_20 lM_0 rfl ?_
      refine r_getf (v := .ref (ap 3)) _ dX11_contrary_59 fl_X11_68 lP_0 rfl ?_
      refine r_iload_n 3 dX11_contrary_62 rfl ?_
      obtain ⟨hb1262, h⟩ := gd (fun z9 => z9) rfl h
      refine r_iald _ dX11_contrary_63 lP_3 hb1262 ?_
      refine r_if_ne (tgt := 119) dX11_contrary_64 (by decide) (fun hc1263 => ?_) (fun hc1263 => ?_)
      · have h := iq (fun z9 => z9) hc1263 h
        refine r_aload_n 1 dX11_contrary_119 rfl ?_
        refine r_getf (v := .ref (ap 0)) _ dX11_contrary_120 fl_X11_20 lM_0 rfl ?_
        refine r_getf (v := .ref (ap 3)) _ dX11_contrary_123 fl_X11_68 lP_0 rfl ?_
        refine r_iload_n 2 dX11_contrary_126 rfl ?_
        obtain ⟨hb1264, h⟩ := gd (fun z9 => z9) rfl h
        refine r_iald _ dX11_contrary_127 lP_3 hb1264 ?_
        refine r_iconst (v := (1 : Int32)) dX11_contrary_128 (by decide) ?_
        refine r_icmp_eq (tgt := 134) dX11_contrary_129 (by decide) (fun hc1265 => ?_) (fun hc1265 => ?_)
        · have h := ip (fun z9 => z9) hc1265 h
          refine r_aload_n 1 dX11_contrary_134 rfl ?_
          refine r_getf (v := .ref (ap 0)) _ dX11_contrary_135 fl_X11_20 lM_0 rfl ?_
          refine r_getf (v := .ref (ap 5)) _ dX11_contrary_138 fl_X11_73 lP_0 rfl ?_
          refine r_iload_n 2 dX11_contrary_141 rfl ?_
          obtain ⟨hb1266, h⟩ := gd (fun z9 => z9) rfl h
          refine r_iald _ dX11_contrary_142 lP_5 hb1266 ?_
          refine r_aload_n 1 dX11_contrary_143 rfl ?_
          refine r_getf (v := .ref (ap 0)) _ dX11_contrary_144 fl_X11_20 lM_0 rfl ?_
          refine r_getf (v := .ref (ap 6)) _ dX11_contrary_147 fl_X11_79 lP_0 rfl ?_
          refine r_iload_n 3 dX11_contrary_150 rfl ?_
          obtain ⟨hb1267, h⟩ := gd (fun z9 => z9) rfl h
          refine r_iald _ dX11_contrary_151 lP_6 hb1267 ?_
          refine r_icmp_ne (tgt := 180) dX11_contrary_152 (by decide) (fun hc1268 => ?_) (fun hc1268 => ?_)
          · have h := iq (fun z9 => z9) hc1268 h
            refine r_iconst (v := (0 : Int32)) dX11_contrary_180 (by decide) ?_
            refine r_istore [(4, .int (0 : Int32)), (3, .int (0 : Int32)), (0, .ref (am 0)), (1, .int p1), (2, .int p2)] dX11_contrary_181 (by decide) rfl ?_
            refine r_iload 0 dX11_contrary_183 rfl ?_
            refine r_if_ne (tgt := 226) dX11_contrary_185 (by decide) (fun hc => absurd hc (by decide)) (fun _ => ?_)
            refine r_aload_n 2 dX11_contrary_188 rfl ?_
            refine r_getf (v := .ref (ap 0)) _ dX11_contrary_189 fl_X11_20 lM_0 rfl ?_
            refine r_getf (v := .ref (ap 3)) _ dX11_contrary_192 fl_X11_68 lP_0 rfl ?_
            refine r_iload_n 4 dX11_contrary_195 rfl ?_
            obtain ⟨hb1269, h⟩ := gd (fun z9 => z9) rfl h
            refine r_iald _ dX11_contrary_196 lP_3 hb1269 ?_
            refine r_iconst (v := (2 : Int32)) dX11_contrary_197 (by decide) ?_
            refine r_icmp_ne (tgt := 230) dX11_contrary_198 (by decide) (fun hc1270 => ?_) (fun hc1270 => ?_)
            · have h := iq (fun z9 => z9) hc1270 h
              refine r_iconst (v := (0 : Int32)) dX11_contrary_230 (by decide) ?_
              refine r_zret dX11_contrary_231 rfl (by decide) ?_
              have h := Option.some.inj (show some _ = some o from h)
              subst h
              exact hq
            · have h := ip (fun z9 => z9) hc1270 h
              refine r_iload_n 1 dX11_contrary_201 rfl ?_
              refine r_if_eq (tgt := 230) dX11_contrary_202 (by decide) (fun _ => ?_) (fun hc => absurd hc (by decide))
              refine r_iconst (v := (0 : Int32)) dX11_contrary_230 (by decide) ?_
              refine r_zret dX11_contrary_231 rfl (by decide) ?_
              have h := Option.some.inj (show some _ = some o from h)
              subst h
              exact hq
          · have h := ip (fun z9 => z9) hc1268 h
            refine r_aload_n 1 dX11_contrary_155 rfl ?_
            refine r_getf (v := .ref (ap 0)) _ dX11_contrary_156 fl_X11_20 lM_0 rfl ?_
            refine r_getf (v := .ref (ap 6)) _ dX11_contrary_159 fl_X11_79 lP_0 rfl ?_
            refine r_iload_n 2 dX11_contrary_162 rfl ?_
            obtain ⟨hb1271, h⟩ := gd (fun z9 => z9) rfl h
            refine r_iald _ dX11_contrary_163 lP_6 hb1271 ?_
            refine r_aload_n 1 dX11_contrary_164 rfl ?_
            refine r_getf (v := .ref (ap 0)) _ dX11_contrary_165 fl_X11_20 lM_0 rfl ?_
            refine r_getf (v := .ref (ap 5)) _ dX11_contrary_168 fl_X11_73 lP_0 rfl ?_
            refine r_iload_n 3 dX11_contrary_171 rfl ?_
            obtain ⟨hb1272, h⟩ := gd (fun z9 => z9) rfl h
            refine r_iald _ dX11_contrary_172 lP_5 hb1272 ?_
            refine r_icmp_ne (tgt := 180) dX11_contrary_173 (by decide) (fun hc1273 => ?_) (fun hc1273 => ?_)
            · have h := iq (fun z9 => z9) hc1273 h
              refine r_iconst (v := (0 : Int32)) dX11_contrary_180 (by decide) ?_
              refine r_istore [(4, .int (0 : Int32)), (3, .int (0 : Int32)), (0, .ref (am 0)), (1, .int p1), (2, .int p2)] dX11_contrary_181 (by decide) rfl ?_
              refine r_iload 0 dX11_contrary_183 rfl ?_
              refine r_if_ne (tgt := 226) dX11_contrary_185 (by decide) (fun hc => absurd hc (by decide)) (fun _ => ?_)
              refine r_aload_n 2 dX11_contrary_188 rfl ?_
              refine r_getf (v := .ref (ap 0)) _ dX11_contrary_189 fl_X11_20 lM_0 rfl ?_
              refine r_getf (v := .ref (ap 3)) _ dX11_contrary_192 fl_X11_68 lP_0 rfl ?_
              refine r_iload_n 4 dX11_contrary_195 rfl ?_
              obtain ⟨hb1274, h⟩ := gd (fun z9 => z9) rfl h
              refine r_iald _ dX11_contrary_196 lP_3 hb1274 ?_
              refine r_iconst (v := (2 : Int32)) dX11_contrary_197 (by decide) ?_
              refine r_icmp_ne (tgt := 230) dX11_contrary_198 (by decide) (fun hc1275 => ?_) (fun hc1275 => ?_)
              · have h := iq (fun z9 => z9) hc1275 h
                refine r_iconst (v := (0 : Int32)) dX11_contrary_230 (by decide) ?_
                refine r_zret dX11_contrary_231 rfl (by decide) ?_
                have h := Option.some.inj (show some _ = some o from h)
                subst h
                exact hq
              · have h := ip (fun z9 => z9) hc1275 h
                refine r_iload_n 1 dX11_contrary_201 rfl ?_
                refine r_if_eq (tgt := 230) dX11_contrary_202 (by decide) (fun _ => ?_) (fun hc => absurd hc (by decide))
                refine r_iconst (v := (0 : Int32)) dX11_contrary_230 (by decide) ?_
                refine r_zret dX11_contrary_231 rfl (by decide) ?_
                have h := Option.some.inj (show some _ = some o from h)
                subst h
                exact hq
            · have h := ip (fun z9 => z9) hc1273 h
              refine r_iconst (v := (1 : Int32)) dX11_contrary_176 (by decide) ?_
              refine r_goto (tgt := 181) dX11_contrary_177 (by decide) ?_
              refine r_istore [(4, .int (1 : Int32)), (3, .int (0 : Int32)), (0, .ref (am 0)), (1, .int p1), (2, .int p2)] dX11_contrary_181 (by decide) rfl ?_
              refine r_iload 0 dX11_contrary_183 rfl ?_
              refine r_if_ne (tgt := 226) dX11_contrary_185 (by decide) (fun _ => ?_) (fun hc => absurd hc (by decide))
              refine r_iconst (v := (1 : Int32)) dX11_contrary_226 (by decide) ?_
              refine r_goto (tgt := 231) dX11_contrary_227 (by decide) ?_
              refine r_zret dX11_contrary_231 rfl (by decide) ?_
              have h := Option.some.inj (show some _ = some o from h)
              subst h
              exact hq
        · have h := iq (fun z9 => z9) hc1265 h
          refine r_iconst (v := (0 : Int32)) dX11_contrary_132 (by decide) ?_
          refine r_zret dX11_contrary_133 rfl (by decide) ?_
          have h := Option.some.inj (show some _ = some o from h)
          subst h
          exact hq
      · have h := ip (fun z9 => z9) hc1263 h
        refine r_iload_n 0 dX11_contrary_67 rfl ?_
        refine r_if_eq (tgt := 117) dX11_contrary_68 (by decide) (fun _ => ?_) (fun hc => absurd hc (by decide))
        refine r_iconst (v := (0 : Int32)) dX11_contrary_117 (by decide) ?_
        refine r_zret dX11_contrary_118 rfl (by decide) ?_
        have h := Option.some.inj (show some _ = some o from h)
        subst h
        exact hq
    · have h := ip (fun z9 => z9) hc1261 h
      refine r_iconst (v := (1 : Int32)) dX11_contrary_49 (by decide) ?_
      refine r_goto (tgt := 54) dX11_contrary_50 (by decide) ?_
      refine r_istore_n [(3, .int (1 : Int32)), (0, .ref (am 0)), (1, .int p1), (2, .int p2)] dX11_contrary_54 (by decide) rfl ?_
      refine r_aload_n 1 dX11_contrary_55 rfl ?_
      refine r_getf (v := .ref (ap 0)) _ dX11_contrary_56 fl_X11_20 lM_0 rfl ?_
      refine r_getf (v := .ref (ap 3)) _ dX11_contrary_59 fl_X11_68 lP_0 rfl ?_
      refine r_iload_n 3 dX11_contrary_62 rfl ?_
      obtain ⟨hb1276, h⟩ := gd (fun z9 => z9) rfl h
      refine r_iald _ dX11_contrary_63 lP_3 hb1276 ?_
      refine r_if_ne (tgt := 119) dX11_contrary_64 (by decide) (fun hc1277 => ?_) (fun hc1277 => ?_)
      · have h := iq (fun z9 => z9) hc1277 h
        refine r_aload_n 1 dX11_contrary_119 rfl ?_
        refine r_getf (v := .ref (ap 0)) _ dX11_contrary_120 fl_X11_20 lM_0 rfl ?_
        refine r_getf (v := .ref (ap 3)) _ dX11_contrary_123 fl_X11_68 lP_0 rfl ?_
        refine r_iload_n 2 dX11_contrary_126 rfl ?_
        obtain ⟨hb1278, h⟩ := gd (fun z9 => z9) rfl h
        refine r_iald _ dX11_contrary_127 lP_3 hb1278 ?_
        refine r_iconst (v := (1 : Int32)) dX11_contrary_128 (by decide) ?_
        refine r_icmp_eq (tgt := 134) dX11_contrary_129 (by decide) (fun hc1279 => ?_) (fun hc1279 => ?_)
        · have h := ip (fun z9 => z9) hc1279 h
          refine r_aload_n 1 dX11_contrary_134 rfl ?_
          refine r_getf (v := .ref (ap 0)) _ dX11_contrary_135 fl_X11_20 lM_0 rfl ?_
          refine r_getf (v := .ref (ap 5)) _ dX11_contrary_138 fl_X11_73 lP_0 rfl ?_
          refine r_iload_n 2 dX11_contrary_141 rfl ?_
          obtain ⟨hb1280, h⟩ := gd (fun z9 => z9) rfl h
          refine r_iald _ dX11_contrary_142 lP_5 hb1280 ?_
          refine r_aload_n 1 dX11_contrary_143 rfl ?_
          refine r_getf (v := .ref (ap 0)) _ dX11_contrary_144 fl_X11_20 lM_0 rfl ?_
          refine r_getf (v := .ref (ap 6)) _ dX11_contrary_147 fl_X11_79 lP_0 rfl ?_
          refine r_iload_n 3 dX11_contrary_150 rfl ?_
          obtain ⟨hb1281, h⟩ := gd (fun z9 => z9) rfl h
          refine r_iald _ dX11_contrary_151 lP_6 hb1281 ?_
          refine r_icmp_ne (tgt := 180) dX11_contrary_152 (by decide) (fun hc1282 => ?_) (fun hc1282 => ?_)
          · have h := iq (fun z9 => z9) hc1282 h
            refine r_iconst (v := (0 : Int32)) dX11_contrary_180 (by decide) ?_
            refine r_istore [(4, .int (0 : Int32)), (3, .int (1 : Int32)), (0, .ref (am 0)), (1, .int p1), (2, .int p2)] dX11_contrary_181 (by decide) rfl ?_
            refine r_iload 0 dX11_contrary_183 rfl ?_
            refine r_if_ne (tgt := 226) dX11_contrary_185 (by decide) (fun hc => absurd hc (by decide)) (fun _ => ?_)
            refine r_aload_n 2 dX11_contrary_188 rfl ?_
            refine r_getf (v := .ref (ap 0)) _ dX11_contrary_189 fl_X11_20 lM_0 rfl ?_
            refine r_getf (v := .ref (ap 3)) _ dX11_contrary_192 fl_X11_68 lP_0 rfl ?_
            refine r_iload_n 4 dX11_contrary_195 rfl ?_
            obtain ⟨hb1283, h⟩ := gd (fun z9 => z9) rfl h
            refine r_iald _ dX11_contrary_196 lP_3 hb1283 ?_
            refine r_iconst (v := (2 : Int32)) dX11_contrary_197 (by decide) ?_
            refine r_icmp_ne (tgt := 230) dX11_contrary_198 (by decide) (fun hc1284 => ?_) (fun hc1284 => ?_)
            · have h := iq (fun z9 => z9) hc1284 h
              refine r_iconst (v := (0 : Int32)) dX11_contrary_230 (by decide) ?_
              refine r_zret dX11_contrary_231 rfl (by decide) ?_
              have h := Option.some.inj (show some _ = some o from h)
              subst h
              exact hq
            · have h := ip (fun z9 => z9) hc1284 h
              refine r_iload_n 1 dX11_contrary_201 rfl ?_
              refine r_if_eq (tgt := 230) dX11_contrary_202 (by decide) (fun hc => absurd hc (by decide)) (fun _ => ?_)
              refine r_aload_n 2 dX11_contrary_205 rfl ?_
              refine r_getf (v := .ref (ap 0)) _ dX11_contrary_206 fl_X11_20 lM_0 rfl ?_
              refine r_getf (v := .ref (ap 6)) _ dX11_contrary_209 fl_X11_79 lP_0 rfl ?_
              refine r_iload_n 3 dX11_contrary_212 rfl ?_
              obtain ⟨hb1285, h⟩ := gd (fun z9 => z9) rfl h
              refine r_iald _ dX11_contrary_213 lP_6 hb1285 ?_
              refine r_aload_n 2 dX11_contrary_214 rfl ?_
              refine r_getf (v := .ref (ap 0)) _ dX11_contrary_215 fl_X11_20 lM_0 rfl ?_
              refine r_getf (v := .ref (ap 6)) _ dX11_contrary_218 fl_X11_79 lP_0 rfl ?_
              refine r_iload_n 4 dX11_contrary_221 rfl ?_
              obtain ⟨hb1286, h⟩ := gd (fun z9 => z9) rfl h
              refine r_iald _ dX11_contrary_222 lP_6 hb1286 ?_
              refine r_icmp_ne (tgt := 230) dX11_contrary_223 (by decide) (fun hc1287 => ?_) (fun hc1287 => ?_)
              · have h := iq (fun z9 => z9) hc1287 h
                refine r_iconst (v := (0 : Int32)) dX11_contrary_230 (by decide) ?_
                refine r_zret dX11_contrary_231 rfl (by decide) ?_
                have h := Option.some.inj (show some _ = some o from h)
                subst h
                exact hq
              · have h := ip (fun z9 => z9) hc1287 h
                refine r_iconst (v := (1 : Int32)) dX11_contrary_226 (by decide) ?_
                refine r_goto (tgt := 231) dX11_contrary_227 (by decide) ?_
                refine r_zret dX11_contrary_231 rfl (by decide) ?_
                have h := Option.some.inj (show some _ = some o from h)
                subst h
                exact hq
          · have h := ip (fun z9 => z9) hc1282 h
            refine r_aload_n 1 dX11_contrary_155 rfl ?_
            refine r_getf (v := .ref (ap 0)) _ dX11_contrary_156 fl_X11_20 lM_0 rfl ?_
            refine r_getf (v := .ref (ap 6)) _ dX11_contrary_159 fl_X11_79 lP_0 rfl ?_
            refine r_iload_n 2 dX11_contrary_162 rfl ?_
            obtain ⟨hb1288, h⟩ := gd (fun z9 => z9) rfl h
            refine r_iald _ dX11_contrary_163 lP_6 hb1288 ?_
            refine r_aload_n 1 dX11_contrary_164 rfl ?_
            refine r_getf (v := .ref (ap 0)) _ dX11_contrary_165 fl_X11_20 lM_0 rfl ?_
            refine r_getf (v := .ref (ap 5)) _ dX11_contrary_168 fl_X11_73 lP_0 rfl ?_
            refine r_iload_n 3 dX11_contrary_171 rfl ?_
            obtain ⟨hb1289, h⟩ := gd (fun z9 => z9) rfl h
            refine r_iald _ dX11_contrary_172 lP_5 hb1289 ?_
            refine r_icmp_ne (tgt := 180) dX11_contrary_173 (by decide) (fun hc1290 => ?_) (fun hc1290 => ?_)
            · have h := iq (fun z9 => z9) hc1290 h
              refine r_iconst (v := (0 : Int32)) dX11_contrary_180 (by decide) ?_
              refine r_istore [(4, .int (0 : Int32)), (3, .int (1 : Int32)), (0, .ref (am 0)), (1, .int p1), (2, .int p2)] dX11_contrary_181 (by decide) rfl ?_
              refine r_iload 0 dX11_contrary_183 rfl ?_
              refine r_if_ne (tgt := 226) dX11_contrary_185 (by decide) (fun hc => absurd hc (by decide)) (fun _ => ?_)
              refine r_aload_n 2 dX11_contrary_188 rfl ?_
              refine r_getf (v := .ref (ap 0)) _ dX11_contrary_189 fl_X11_20 lM_0 rfl ?_
              refine r_getf (v := .ref (ap 3)) _ dX11_contrary_192 fl_X11_68 lP_0 rfl ?_
              refine r_iload_n 4 dX11_contrary_195 rfl ?_
              obtain ⟨hb1291, h⟩ := gd (fun z9 => z9) rfl h
              refine r_iald _ dX11_contrary_196 lP_3 hb1291 ?_
              refine r_iconst (v := (2 : Int32)) dX11_contrary_197 (by decide) ?_
              refine r_icmp_ne (tgt := 230) dX11_contrary_198 (by decide) (fun hc1292 => ?_) (fun hc1292 => ?_)
              · have h := iq (fun z9 => z9) hc1292 h
                refine r_iconst (v := (0 : Int32)) dX11_contrary_230 (by decide) ?_
                refine r_zret dX11_contrary_231 rfl (by decide) ?_
                have h := Option.some.inj (show some _ = some o from h)
                subst h
                exact hq
              · have h := ip (fun z9 => z9) hc1292 h
                refine r_iload_n 1 dX11_contrary_201 rfl ?_
                refine r_if_eq (tgt := 230) dX11_contrary_202 (by decide) (fun hc => absurd hc (by decide)) (fun _ => ?_)
                refine r_aload_n 2 dX11_contrary_205 rfl ?_
                refine r_getf (v := .ref (ap 0)) _ dX11_contrary_206 fl_X11_20 lM_0 rfl ?_
                refine r_getf (v := .ref (ap 6)) _ dX11_contrary_209 fl_X11_79 lP_0 rfl ?_
                refine r_iload_n 3 dX11_contrary_212 rfl ?_
                obtain ⟨hb1293, h⟩ := gd (fun z9 => z9) rfl h
                refine r_iald _ dX11_contrary_213 lP_6 hb1293 ?_
                refine r_aload_n 2 dX11_contrary_214 rfl ?_
                refine r_getf (v := .ref (ap 0)) _ dX11_contrary_215 fl_X11_20 lM_0 rfl ?_
                refine r_getf (v := .ref (ap 6)) _ dX11_contrary_218 fl_X11_79 lP_0 rfl ?_
                refine r_iload_n 4 dX11_contrary_221 rfl ?_
                obtain ⟨hb1294, h⟩ := gd (fun z9 => z9) rfl h
                refine r_iald _ dX11_contrary_222 lP_6 hb1294 ?_
                refine r_icmp_ne (tgt := 230) dX11_contrary_223 (by decide) (fun hc1295 => ?_) (fun hc1295 => ?_)
                · have h := iq (fun z9 => z9) hc1295 h
                  refine r_iconst (v := (0 : Int32)) dX11_contrary_230 (by decide) ?_
                  refine r_zret dX11_contrary_231 rfl (by decide) ?_
                  have h := Option.some.inj (show some _ = some o from h)
                  subst h
                  exact hq
                · have h := ip (fun z9 => z9) hc1295 h
                  refine r_iconst (v := (1 : Int32)) dX11_contrary_226 (by decide) ?_
                  refine r_goto (tgt := 231) dX11_contrary_227 (by decide) ?_
                  refine r_zret dX11_contrary_231 rfl (by decide) ?_
                  have h := Option.some.inj (show some _ = some o from h)
                  subst h
                  exact hq
            · have h := ip (fun z9 => z9) hc1290 h
              refine r_iconst (v := (1 : Int32)) dX11_contrary_176 (by decide) ?_
              refine r_goto (tgt := 181) dX11_contrary_177 (by decide) ?_
              refine r_istore [(4, .int (1 : Int32)), (3, .int (1 : Int32)), (0, .ref (am 0)), (1, .int p1), (2, .int p2)] dX11_contrary_181 (by decide) rfl ?_
              refine r_iload 0 dX11_contrary_183 rfl ?_
              refine r_if_ne (tgt := 226) dX11_contrary_185 (by decide) (fun _ => ?_) (fun hc => absurd hc (by decide))
              refine r_iconst (v := (1 : Int32)) dX11_contrary_226 (by decide) ?_
              refine r_goto (tgt := 231) dX11_contrary_227 (by decide) ?_
              refine r_zret dX11_contrary_231 rfl (by decide) ?_
              have h := Option.some.inj (show some _ = some o from h)
              subst h
              exact hq
        · have h := iq (fun z9 => z9) hc1279 h
          refine r_iconst (v := (0 : Int32)) dX11_contrary_132 (by decide) ?_
          refine r_zret dX11_contrary_133 rfl (by decide) ?_
          have h := Option.some.inj (show some _ = some o from h)
          subst h
          exact hq
      · have h := ip (fun z9 => z9) hc1277 h
        refine r_iload_n 0 dX11_contrary_67 rfl ?_
        refine r_if_eq (tgt := 117) dX11_contrary_68 (by decide) (fun hc => absurd hc (by decide)) (fun _ => ?_)
        refine r_aload_n 1 dX11_contrary_71 rfl ?_
        refine r_getf (v := .ref (ap 0)) _ dX11_contrary_72 fl_X11_20 lM_0 rfl ?_
        refine r_getf (v := .ref (ap 7)) _ dX11_contrary_75 fl_X11_76 lP_0 rfl ?_
        refine r_iload_n 2 dX11_contrary_78 rfl ?_
        obtain ⟨hb1296, h⟩ := gd (fun z9 => z9) rfl h
        refine r_iald _ dX11_contrary_79 lP_7 hb1296 ?_
        refine r_aload_n 1 dX11_contrary_80 rfl ?_
        refine r_getf (v := .ref (ap 0)) _ dX11_contrary_81 fl_X11_20 lM_0 rfl ?_
        refine r_getf (v := .ref (ap 6)) _ dX11_contrary_84 fl_X11_79 lP_0 rfl ?_
        refine r_iload_n 3 dX11_contrary_87 rfl ?_
        obtain ⟨hb1297, h⟩ := gd (fun z9 => z9) rfl h
        refine r_iald _ dX11_contrary_88 lP_6 hb1297 ?_
        refine r_icmp_lt (tgt := 113) dX11_contrary_89 (by decide) (fun hc1298 => ?_) (fun hc1298 => ?_)
        · have h := ip (fun z9 => z9) hc1298 h
          refine r_iconst (v := (1 : Int32)) dX11_contrary_113 (by decide) ?_
          refine r_goto (tgt := 118) dX11_contrary_114 (by decide) ?_
          refine r_zret dX11_contrary_118 rfl (by decide) ?_
          have h := Option.some.inj (show some _ = some o from h)
          subst h
          exact hq
        · have h := iq (fun z9 => z9) hc1298 h
          refine r_aload_n 1 dX11_contrary_92 rfl ?_
          refine r_getf (v := .ref (ap 0)) _ dX11_contrary_93 fl_X11_20 lM_0 rfl ?_
          refine r_getf (v := .ref (ap 7)) _ dX11_contrary_96 fl_X11_76 lP_0 rfl ?_
          refine r_iload_n 3 dX11_contrary_99 rfl ?_
          obtain ⟨hb1299, h⟩ := gd (fun z9 => z9) rfl h
          refine r_iald _ dX11_contrary_100 lP_7 hb1299 ?_
          refine r_aload_n 1 dX11_contrary_101 rfl ?_
          refine r_getf (v := .ref (ap 0)) _ dX11_contrary_102 fl_X11_20 lM_0 rfl ?_
          refine r_getf (v := .ref (ap 6)) _ dX11_contrary_105 fl_X11_79 lP_0 rfl ?_
          refine r_iload_n 2 dX11_contrary_108 rfl ?_
          obtain ⟨hb1300, h⟩ := gd (fun z9 => z9) rfl h
          refine r_iald _ dX11_contrary_109 lP_6 hb1300 ?_
          refine r_icmp_ge (tgt := 117) dX11_contrary_110 (by decide) (fun hc1301 => ?_) (fun hc1301 => ?_)
          · have h := ip (fun z9 => z9) hc1301 h
            refine r_iconst (v := (0 : Int32)) dX11_contrary_117 (by decide) ?_
            refine r_zret dX11_contrary_118 rfl (by decide) ?_
            have h := Option.some.inj (show some _ = some o from h)
            subst h
            exact hq
          · have h := iq (fun z9 => z9) hc1301 h
            refine r_iconst (v := (1 : Int32)) dX11_contrary_113 (by decide) ?_
            refine r_goto (tgt := 118) dX11_contrary_114 (by decide) ?_
            refine r_zret dX11_contrary_118 rfl (by decide) ?_
            have h := Option.some.inj (show some _ = some o from h)
            subst h
            exact hq
  · have h := iq (fun z9 => z9) hc1258 h
    refine r_aload_n 0 dX11_contrary_21 rfl ?_
    refine r_iload_n 2 dX11_contrary_22 rfl ?_
    refine r_iload_n 1 dX11_contrary_23 rfl ?_
    obtain ⟨r1302, hc1303, h⟩ := ob (fun z9 => z9) rfl h
    refine c_V (rest := []) 0 0 _ dX11_contrary_24 kv_X11_69 (ih_0 hc1303) rfl rfl lM_0 rfl (Nat.le_of_ble_eq_true rfl) (Nat.le_refl _) (by decide) ?_
    obtain ⟨hb1304, h⟩ := gd (fun z9 => z9) rfl h
    refine r_zret dX11_contrary_27 rfl (zB_n hb1304) ?_
    have h := Option.some.inj (show some _ = some o from h)
    subst h
    exact hq
theorem eq_M_contraryR {N : Nat} {P_kind P_of P_other P_last : Nat → Int32} {D : Nat} {x y : Int32} : f_M_contraryR N P_kind P_of P_other P_last (D + 1) 0 x y () = f_M_contrary N (f_M_contraryR N P_kind P_of P_other P_last D) P_kind P_of P_other P_last x y := by
  first | (rw [f_M_contraryR]; exact if_pos rfl) | rw [f_M_contraryR] | simp [f_M_contraryR]
theorem ct_M_contraryR {g : GG} {am : Nat → Nat} {ap : Nat → Nat} {N : Nat} {m0 m1 m2 m3 m4 m5 m6 m7 m8 m9 m10 m11 m12 u0 u1 u2 u3 u4 : Int32} {m13 m14 m15 m16 m18 m19 m20 m21 u8 u12 u13 u14 u15 u16 u17 u18 : Nat → Int32} {m17 u5 u6 : Nat → Int64} {P_kind : Nat → Int32} {P_of : Nat → Int32} {P_other : Nat → Int32} {P_last : Nat → Int32} : ∀ D : Nat, (∀  {p1 : Int32} {p2 : Int32} {o : Int32} {t : va_W}, f_M_contraryR N P_kind P_of P_other P_last D 0 p1 p2 () = some o → Ct g mX11_contrary (2 + D) 0 0 [.ref (am 0), .int p1, .int p2] (wlM g am (ap 0) m0 m1 m2 m3 m4 m5 m6 m7 m8 m9 m10 m11 m12 m13 m14 m15 m16 m17 m18 m19 m20 m21 ++ (wlP g ap u0 u1 u2 u3 u4 u5 u6 P_kind u8 P_of P_other P_last u12 u13 u14 u15 u16 u17 u18 ++ t)) (Dv (some (.int o)) (wlM g am (ap 0) m0 m1 m2 m3 m4 m5 m6 m7 m8 m9 m10 m11 m12 m13 m14 m15 m16 m17 m18 m19 m20 m21 ++ (wlP g ap u0 u1 u2 u3 u4 u5 u6 P_kind u8 P_of P_other P_last u12 u13 u14 u15 u16 u17 u18 ++ t)))) := by
  intro D
  induction D with
  | zero => exact (fun h => nomatch (show (none : Option _) = some _ from h))
  | succ D ih =>
    have i0 := @ih
    intro p1 p2 o t h
    refine Ct.ofR (by decide +kernel) rfl (Nat.le_of_ble_eq_true rfl) (rt_M_contrary i0 (eq_M_contraryR.symm.trans h) ⟨rfl, rfl⟩)
theorem ct_M_contraryR_0 {g : GG} {am : Nat → Nat} {ap : Nat → Nat} {N : Nat} {m0 m1 m2 m3 m4 m5 m6 m7 m8 m9 m10 m11 m12 u0 u1 u2 u3 u4 : Int32} {m13 m14 m15 m16 m18 m19 m20 m21 u8 u12 u13 u14 u15 u16 u17 u18 : Nat → Int32} {m17 u5 u6 : Nat → Int64} {P_kind : Nat → Int32} {P_of : Nat → Int32} {P_other : Nat → Int32} {P_last : Nat → Int32} : ∀  {p1 : Int32} {p2 : Int32} {o : Int32} {t : va_W}, f_M_contraryR N P_kind P_of P_other P_last 2 0 p1 p2 () = some o → Ct g mX11_contrary (4) 0 0 [.ref (am 0), .int p1, .int p2] (wlM g am (ap 0) m0 m1 m2 m3 m4 m5 m6 m7 m8 m9 m10 m11 m12 m13 m14 m15 m16 m17 m18 m19 m20 m21 ++ (wlP g ap u0 u1 u2 u3 u4 u5 u6 P_kind u8 P_of P_other P_last u12 u13 u14 u15 u16 u17 u18 ++ t)) (Dv (some (.int o)) (wlM g am (ap 0) m0 m1 m2 m3 m4 m5 m6 m7 m8 m9 m10 m11 m12 m13 m14 m15 m16 m17 m18 m19 m20 m21 ++ (wlP g ap u0 u1 u2 u3 u4 u5 u6 P_kind u8 P_of P_other P_last u12 u13 u14 u15 u16 u17 u18 ++ t))) := (ct_M_contraryR 2)
set_option maxRecDepth 20000 in
set_option maxHeartbeats 4000000 in
theorem rt_M_eat {g : GG} {am : Nat → Nat} {pm : Nat} {t : va_W} {m0 m1 m2 m4 m5 m6 m7 m8 m9 m10 m11 m12 : Int32} {m13 m15 m16 m18 m19 m20 m21 : Nat → Int32} {m17 : Nat → Int64} {M_token : Int32} {M_kind : Nat → Int32} {p1 : Int32} {o : Int32 × Int32} {Q : Rs → va_W → Prop} (h : f_M_eat M_token M_kind p1 = some o) (hq : Q (.inl (some (.int o.1))) (wlM g am pm m0 m1 m2 o.2 m4 m5 m6 m7 m8 m9 m10 m11 m12 m13 M_kind m15 m16 m17 m18 m19 m20 m21 ++ t)) : R g mX11_eat 1 0 0 0 [(0, .ref (am 0)), (1, .int p1)] [] (wlM g am pm m0 m1 m2 M_token m4 m5 m6 m7 m8 m9 m10 m11 m12 m13 M_kind m15 m16 m17 m18 m19 m20 m21 ++ t) Q := by
  unfold f_M_eat at h
  refine r_aload_n 0 dX11_eat_0 rfl ?_
  refine r_getf (v := .ref (am 2)) _ dX11_eat_1 fl_X11_24 lM_0 rfl ?_
  refine r_aload_n 0 dX11_eat_4 rfl ?_
  refine r_getf (v := .int M_token) _ dX11_eat_5 fl_X11_252 lM_0 rfl ?_
  obtain ⟨hb1305, h⟩ := gd (fun z9 => z9) rfl h
  refine r_iald _ dX11_eat_8 lM_2 hb1305 ?_
  refine r_iload_n 1 dX11_eat_9 rfl ?_
  refine r_icmp_eq (tgt := 15) dX11_eat_10 (by decide) (fun hc1306 => ?_) (fun hc1306 => ?_)
  · have h := ip (fun z9 => z9) hc1306 h
    refine r_aload_n 0 dX11_eat_15 rfl ?_
    refine r_dup dX11_eat_16 rfl ?_
    refine r_getf (v := .int M_token) _ dX11_eat_17 fl_X11_252 lM_0 rfl ?_
    refine r_iconst (v := (1 : Int32)) dX11_eat_20 (by decide) ?_
    refine r_iadd dX11_eat_21 ?_
    refine r_putf _ dX11_eat_22 fl_X11_252 lM_0 (Nat.le_of_ble_eq_true rfl) rfl rfl (sM_3 _) ?_
    refine r_iconst (v := (1 : Int32)) dX11_eat_25 (by decide) ?_
    refine r_zret dX11_eat_26 rfl (by decide) ?_
    have h := Option.some.inj (show some _ = some o from h)
    subst h
    exact hq
  · have h := iq (fun z9 => z9) hc1306 h
    refine r_iconst (v := (0 : Int32)) dX11_eat_13 (by decide) ?_
    refine r_zret dX11_eat_14 rfl (by decide) ?_
    have h := Option.some.inj (show some _ = some o from h)
    subst h
    exact hq
theorem ct_M_eat {g : GG} {am : Nat → Nat} {pm : Nat} {t : va_W} {m0 m1 m2 m4 m5 m6 m7 m8 m9 m10 m11 m12 : Int32} {m13 m15 m16 m18 m19 m20 m21 : Nat → Int32} {m17 : Nat → Int64} {M_token : Int32} {M_kind : Nat → Int32} {p1 : Int32} {o : Int32 × Int32} (h : f_M_eat M_token M_kind p1 = some o) : Ct g mX11_eat 1 0 0 [.ref (am 0), .int p1] (wlM g am pm m0 m1 m2 M_token m4 m5 m6 m7 m8 m9 m10 m11 m12 m13 M_kind m15 m16 m17 m18 m19 m20 m21 ++ t) (Dv (some (.int o.1)) (wlM g am pm m0 m1 m2 o.2 m4 m5 m6 m7 m8 m9 m10 m11 m12 m13 M_kind m15 m16 m17 m18 m19 m20 m21 ++ t)) := Ct.ofR (by decide +kernel) rfl (Nat.le_of_ble_eq_true rfl) (rt_M_eat h ⟨rfl, rfl⟩)
