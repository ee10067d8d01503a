/-! the law's cases -/
set_option maxRecDepth 20000 in
set_option maxHeartbeats 4000000 in
theorem law_0 {nm : String} {g : GG} {ad ao am ap : Nat → Nat} {x0 x1 : Int32} {x2 : Nat → Int32} {x3 x4 x5 : Int32} {x6 x7 x8 x9 x10 : Nat → Int32} {x11 x12 : Int32} {x13 x14 x15 x16 x17 : Nat → Int32} {x18 x19 x20 : Int32} {x21 x22 x23 : Nat → Int32} {x24 x25 x26 x27 x28 x29 x30 x31 : Int32} {x32 : Int64} {x33 x34 x35 : Nat → Int32} {x36 : Nat → Int64} {x37 : Int32} {x38 : Nat → Int64} {x39 x40 x41 : Int32} {x42 x43 x44 x45 x46 : Nat → Int32} {x47 x48 : Int32} {x49 x50 x51 x52 x53 : Nat → Int32} {x54 : Int32} {x55 : Nat → Int64} {x56 : Int32} {x57 : Nat → Int64} {x58 x59 x60 x61 : Int32} {x62 : Nat → Int32} {x63 x64 x65 x66 : Int32} {x67 : Nat → Int32} {m0 m1 m2 m3 m4 m5 m6 m7 m8 m9 m10 m11 m12 : Int32} {m13 m14 m15 m16 : Nat → Int32} {m17 : Nat → Int64} {m18 m19 m20 m21 : Nat → Int32} {u0 u1 u2 u3 u4 : Int32} {u5 u6 : Nat → Int64} {u7 u8 u9 u10 u11 u12 u13 u14 u15 u16 u17 u18 : Nat → Int32} {out : Nat → Int64} {t : va_W} {Q : Rs → va_W → Prop} {n : Nat} {i : Int32} (Rl : Rel x0 x1 x2 x3 x4 x5 x6 x7 x8 x9 x10 x11 x13 x14 x15 x16 x17 x18 x19 x20 x21 x37 x38 x59 x60 x61 m1 m2 m6 m7 m8 m9 m10 m11 m12 m13 m19 u0 u1 u2 u3 u7 u8 u9 u10 u11 u12 u13 u14 u15 u16 u17 u18) (h1 : ib (i + (1 : Int32)) (gL g) = true) (h2 : ib (i + (2 : Int32)) (gL g) = true) (h3 : ib (i + (3 : Int32)) (gL g) = true) (h4 : ib (i + (4 : Int32)) (gL g) = true) (h5 : ib (i + (5 : Int32)) (gL g) = true) (K : GoK nm g ad ao am Q (15 * n) (2701 * n) i) : R g (mL_law nm) 1400 (15 * (n + 1)) (2701 * (n + 1)) 216 [(0, .ref (gb g)), (1, .ref (ad 0)), (2, .ref (am 0)), (3, .ref (ao 0)), (4, .int i)] [] (wlX g ad x0 x1 x2 x3 x4 x5 x6 x7 x8 x9 x10 x11 x12 x13 x14 x15 x16 x17 x18 x19 x20 x21 x22 x23 x24 x25 x26 x27 x28 x29 x30 x31 x32 x33 x34 x35 x36 x37 x38 x39 x40 x41 x42 x43 x44 x45 x46 x47 x48 x49 x50 x51 x52 x53 x54 x55 x56 x57 x58 x59 x60 x61 x62 x63 x64 x65 x66 x67 ++ (wlO g ao out ++ (wlM g am (ap 0) m0 m1 m2 m3 m4 m5 m6 m7 m8 m9 m10 m11 m12 m13 m14 m15 m16 m17 m18 m19 m20 m21 ++ (wlP g ap u0 u1 u2 u3 u4 u5 u6 u7 u8 u9 u10 u11 u12 u13 u14 u15 u16 u17 u18 ++ t)))) Q := by
  obtain ⟨o, b, hX, hM, hag, hrel⟩ := cs_feed (hN1 := (by decide : 5000 < 6000)) (hN2 := (by decide : 5000 < 6000)) Rl out (gx g (i + (1 : Int32)).toNatClampNeg) (gx g (i + (2 : Int32)).toNatClampNeg) (gx g (i + (3 : Int32)).toNatClampNeg) (gx g (i + (4 : Int32)).toNatClampNeg) (gx g (i + (5 : Int32)).toNatClampNeg)
  refine r_less (x := (15 * n + 1) + 1) (y := (2701 * n + 5) + 6) (by omega) (by omega) ?_
  refine r_aload_n 1 dL_law_216 rfl ?_
  refine r_aload_n 0 dL_law_217 rfl ?_
  refine r_iload 4 dL_law_218 rfl ?_
  refine r_iconst (v := (1 : Int32)) dL_law_220 (by decide) ?_
  refine r_iadd dL_law_221 ?_
  refine r_sld dL_law_222 h1 ?_
  refine r_aload_n 0 dL_law_223 rfl ?_
  refine r_iload 4 dL_law_224 rfl ?_
  refine r_iconst (v := (2 : Int32)) dL_law_226 (by decide) ?_
  refine r_iadd dL_law_227 ?_
  refine r_sld dL_law_228 h2 ?_
  refine r_aload_n 0 dL_law_229 rfl ?_
  refine r_iload 4 dL_law_230 rfl ?_
  refine r_iconst (v := (3 : Int32)) dL_law_232 (by decide) ?_
  refine r_iadd dL_law_233 ?_
  refine r_sld dL_law_234 h3 ?_
  refine r_aload_n 0 dL_law_235 rfl ?_
  refine r_iload 4 dL_law_236 rfl ?_
  refine r_iconst (v := (4 : Int32)) dL_law_238 (by decide) ?_
  refine r_iadd dL_law_239 ?_
  refine r_sld dL_law_240 h4 ?_
  refine r_aload_n 0 dL_law_241 rfl ?_
  refine r_iload 4 dL_law_242 rfl ?_
  refine r_iconst (v := (5 : Int32)) dL_law_244 (by decide) ?_
  refine r_iadd dL_law_245 ?_
  refine r_sld dL_law_246 h5 ?_
  refine r_aload_n 3 dL_law_247 rfl ?_
  refine c_LW (rest := []) (15 * n + 1) (2701 * n + 5) dL_law_248 kt_L_101 (ct_L_feed hX) rfl rfl (Nat.le_of_ble_eq_true rfl) (by decide) (by decide) ?_
  refine r_istore [(5, .int o.1), (0, .ref (gb g)), (1, .ref (ad 0)), (2, .ref (am 0)), (3, .ref (ao 0)), (4, .int i)] dL_law_251 (Nat.le_of_ble_eq_true rfl) rfl ?_
  refine r_aload_n 3 dL_law_253 rfl ?_
  refine r_aload_n 1 dL_law_254 rfl ?_
  refine r_iload 5 dL_law_255 rfl ?_
  refine r_iconst (v := (1 : Int32)) dL_law_257 (by decide) ?_
  refine r_iadd dL_law_258 ?_
  refine r_sld dL_law_259 h1 ?_
  refine r_aload_n 1 dL_law_260 rfl ?_
  refine r_iload 5 dL_law_261 rfl ?_
  refine r_iconst (v := (2 : Int32)) dL_law_263 (by decide) ?_
  refine r_iadd dL_law_264 ?_
  refine r_sld dL_law_265 h2 ?_
  refine r_aload_n 1 dL_law_266 rfl ?_
  refine r_iload 5 dL_law_267 rfl ?_
  refine r_iconst (v := (3 : Int32)) dL_law_269 (by decide) ?_
  refine r_iadd dL_law_270 ?_
  refine r_sld dL_law_271 h3 ?_
  refine r_aload_n 1 dL_law_272 rfl ?_
  refine r_iload 5 dL_law_273 rfl ?_
  refine r_iconst (v := (4 : Int32)) dL_law_275 (by decide) ?_
  refine r_iadd dL_law_276 ?_
  refine r_sld dL_law_277 h4 ?_
  refine r_aload_n 1 dL_law_278 rfl ?_
  refine r_iload 5 dL_law_279 rfl ?_
  refine r_iconst (v := (5 : Int32)) dL_law_281 (by decide) ?_
  refine r_iadd dL_law_282 ?_
  refine r_sld dL_law_283 h5 ?_
  refine r_perm (pmF _ _ _ _ _) ?_
  refine c_La (rest := []) (15 * n) (2701 * n) _ dL_law_284 kv_L_106 (ct_M_feed hM) rfl rfl lM_0 rfl (Nat.le_of_ble_eq_true rfl) (by decide) (by decide) (fun t2 => ?_)
  refine r_istore [(6, .int b.1), (5, .int o.1), (0, .ref (gb g)), (1, .ref (ad 0)), (2, .ref (am 0)), (3, .ref (ao 0)), (4, .int i)] dL_law_287 (Nat.le_of_ble_eq_true rfl) rfl ?_
  refine r_aload_n 4 dL_law_289 rfl ?_
  refine c_V (rest := []) (15 * n) (2701 * n) _ dL_law_290 kv_L_107 (ct_M_thrown rfl) rfl rfl lM_0 rfl (Nat.le_of_ble_eq_true rfl) (by decide) (by decide) ?_
  refine r_perm (pmH _ _ _ _ _ _) ?_
  refine r_iload 1 dL_law_293 rfl ?_
  refine r_icmp_eq (tgt := 300) dL_law_295 (by decide) (fun _ => ?_) (fun hc => absurd hag.1 hc)
  refine r_iload 1 dL_law_300 rfl ?_
  refine r_if_ne (tgt := 317) dL_law_302 (by decide) (fun hk => ?_) (fun hk => ?_)
  · refine r_goto (tgt := 2050) dL_law_317 (by decide) ?_
    refine r_ls [2, 3, 4, 5, 6] (ls2 := [(0, .ref (gb g)), (1, .ref (ad 0)), (2, .ref (am 0)), (3, .ref (ao 0)), (4, .int i)]) rfl ?_
    exact K hrel
  · refine r_aload_n 5 dL_law_305 rfl ?_
    refine r_iconst (v := (0 : Int32)) dL_law_306 (by decide) ?_
    refine r_lald _ dL_law_307 lO_0 (by decide) ?_
    refine r_iload 0 dL_law_308 rfl ?_
    refine r_i2l dL_law_310 ?_
    refine r_lcmp dL_law_311 ?_
    refine r_if_eq (tgt := 317) dL_law_312 (by decide) (fun _ => ?_) (fun hc => absurd ((lg_cmp_0 _ _).mpr (hag.2 hk)) hc)
    refine r_goto (tgt := 2050) dL_law_317 (by decide) ?_
    refine r_ls [2, 3, 4, 5, 6] (ls2 := [(0, .ref (gb g)), (1, .ref (ad 0)), (2, .ref (am 0)), (3, .ref (ao 0)), (4, .int i)]) rfl ?_
    exact K hrel
set_option maxRecDepth 20000 in
set_option maxHeartbeats 4000000 in
theorem law_1 {nm : String} {g : GG} {ad ao am ap : Nat → Nat} {x0 x1 : Int32} {x2 : Nat → Int32} {x3 x4 x5 : Int32} {x6 x7 x8 x9 x10 : Nat → Int32} {x11 x12 : Int32} {x13 x14 x15 x16 x17 : Nat → Int32} {x18 x19 x20 : Int32} {x21 x22 x23 : Nat → Int32} {x24 x25 x26 x27 x28 x29 x30 x31 : Int32} {x32 : Int64} {x33 x34 x35 : Nat → Int32} {x36 : Nat → Int64} {x37 : Int32} {x38 : Nat → Int64} {x39 x40 x41 : Int32} {x42 x43 x44 x45 x46 : Nat → Int32} {x47 x48 : Int32} {x49 x50 x51 x52 x53 : Nat → Int32} {x54 : Int32} {x55 : Nat → Int64} {x56 : Int32} {x57 : Nat → Int64} {x58 x59 x60 x61 : Int32} {x62 : Nat → Int32} {x63 x64 x65 x66 : Int32} {x67 : Nat → Int32} {m0 m1 m2 m3 m4 m5 m6 m7 m8 m9 m10 m11 m12 : Int32} {m13 m14 m15 m16 : Nat → Int32} {m17 : Nat → Int64} {m18 m19 m20 m21 : Nat → Int32} {u0 u1 u2 u3 u4 : Int32} {u5 u6 : Nat → Int64} {u7 u8 u9 u10 u11 u12 u13 u14 u15 u16 u17 u18 : Nat → Int32} {out : Nat → Int64} {t : va_W} {Q : Rs → va_W → Prop} {n : Nat} {i : Int32} (Rl : Rel x0 x1 x2 x3 x4 x5 x6 x7 x8 x9 x10 x11 x13 x14 x15 x16 x17 x18 x19 x20 x21 x37 x38 x59 x60 x61 m1 m2 m6 m7 m8 m9 m10 m11 m12 m13 m19 u0 u1 u2 u3 u7 u8 u9 u10 u11 u12 u13 u14 u15 u16 u17 u18) (h1 : ib (i + (1 : Int32)) (gL g) = true) (K : GoK nm g ad ao am Q (15 * n) (2701 * n) i) : R g (mL_law nm) 1400 (15 * (n + 1)) (2701 * (n + 1)) 320 [(0, .ref (gb g)), (1, .ref (ad 0)), (2, .ref (am 0)), (3, .ref (ao 0)), (4, .int i)] [] (wlX g ad x0 x1 x2 x3 x4 x5 x6 x7 x8 x9 x10 x11 x12 x13 x14 x15 x16 x17 x18 x19 x20 x21 x22 x23 x24 x25 x26 x27 x28 x29 x30 x31 x32 x33 x34 x35 x36 x37 x38 x39 x40 x41 x42 x43 x44 x45 x46 x47 x48 x49 x50 x51 x52 x53 x54 x55 x56 x57 x58 x59 x60 x61 x62 x63 x64 x65 x66 x67 ++ (wlO g ao out ++ (wlM g am (ap 0) m0 m1 m2 m3 m4 m5 m6 m7 m8 m9 m10 m11 m12 m13 m14 m15 m16 m17 m18 m19 m20 m21 ++ (wlP g ap u0 u1 u2 u3 u4 u5 u6 u7 u8 u9 u10 u11 u12 u13 u14 u15 u16 u17 u18 ++ t)))) Q := by
  obtain ⟨o, b, hX, hM, hag, hrel⟩ := cs_trim  Rl out (gx g (i + (1 : Int32)).toNatClampNeg)
  refine r_less (x := (15 * n + 0) + 1) (y := (2701 * n + 0) + 6) (by omega) (by omega) ?_
  refine r_aload_n 1 dL_law_320 rfl ?_
  refine r_aload_n 0 dL_law_321 rfl ?_
  refine r_iload 4 dL_law_322 rfl ?_
  refine r_iconst (v := (1 : Int32)) dL_law_324 (by decide) ?_
  refine r_iadd dL_law_325 ?_
  refine r_sld dL_law_326 h1 ?_
  refine r_aload_n 3 dL_law_327 rfl ?_
  refine c_LW (rest := []) (15 * n + 0) (2701 * n + 0) dL_law_328 kt_L_111 (ct_L_trim hX) rfl rfl (Nat.le_of_ble_eq_true rfl) (by decide) (by decide) ?_
  refine r_istore [(5, .int o.1), (0, .ref (gb g)), (1, .ref (ad 0)), (2, .ref (am 0)), (3, .ref (ao 0)), (4, .int i)] dL_law_331 (Nat.le_of_ble_eq_true rfl) rfl ?_
  refine r_aload_n 3 dL_law_333 rfl ?_
  refine r_aload_n 1 dL_law_334 rfl ?_
  refine r_iload 5 dL_law_335 rfl ?_
  refine r_iconst (v := (1 : Int32)) dL_law_337 (by decide) ?_
  refine r_iadd dL_law_338 ?_
  refine r_sld dL_law_339 h1 ?_
  refine r_perm (pmF _ _ _ _ _) ?_
  refine c_V (rest := []) (15 * n) (2701 * n) _ dL_law_340 kv_L_114 (ct_M_trim hM) rfl rfl lM_0 rfl (Nat.le_of_ble_eq_true rfl) (by decide) (by decide) ?_
  refine r_istore [(6, .int b.1), (5, .int o.1), (0, .ref (gb g)), (1, .ref (ad 0)), (2, .ref (am 0)), (3, .ref (ao 0)), (4, .int i)] dL_law_343 (Nat.le_of_ble_eq_true rfl) rfl ?_
  refine r_aload_n 4 dL_law_345 rfl ?_
  refine c_V (rest := []) (15 * n) (2701 * n) _ dL_law_346 kv_L_107 (ct_M_thrown rfl) rfl rfl lM_0 rfl (Nat.le_of_ble_eq_true rfl) (by decide) (by decide) ?_
  refine r_perm (pmF _ _ _ _ _) ?_
  refine r_iload 1 dL_law_349 rfl ?_
  refine r_icmp_eq (tgt := 356) dL_law_351 (by decide) (fun _ => ?_) (fun hc => absurd hag.1 hc)
  refine r_iload 1 dL_law_356 rfl ?_
  refine r_if_ne (tgt := 373) dL_law_358 (by decide) (fun hk => ?_) (fun hk => ?_)
  · refine r_goto (tgt := 2050) dL_law_373 (by decide) ?_
    refine r_ls [2, 3, 4, 5, 6] (ls2 := [(0, .ref (gb g)), (1, .ref (ad 0)), (2, .ref (am 0)), (3, .ref (ao 0)), (4, .int i)]) rfl ?_
    exact K hrel
  · refine r_aload_n 5 dL_law_361 rfl ?_
    refine r_iconst (v := (0 : Int32)) dL_law_362 (by decide) ?_
    refine r_lald _ dL_law_363 lO_0 (by decide) ?_
    refine r_iload 0 dL_law_364 rfl ?_
    refine r_i2l dL_law_366 ?_
    refine r_lcmp dL_law_367 ?_
    refine r_if_eq (tgt := 373) dL_law_368 (by decide) (fun _ => ?_) (fun hc => absurd ((lg_cmp_0 _ _).mpr (hag.2 hk)) hc)
    refine r_goto (tgt := 2050) dL_law_373 (by decide) ?_
    refine r_ls [2, 3, 4, 5, 6] (ls2 := [(0, .ref (gb g)), (1, .ref (ad 0)), (2, .ref (am 0)), (3, .ref (ao 0)), (4, .int i)]) rfl ?_
    exact K hrel
set_option maxRecDepth 20000 in
set_option maxHeartbeats 4000000 in
theorem law_2 {nm : String} {g : GG} {ad ao am ap : Nat → Nat} {x0 x1 : Int32} {x2 : Nat → Int32} {x3 x4 x5 : Int32} {x6 x7 x8 x9 x10 : Nat → Int32} {x11 x12 : Int32} {x13 x14 x15 x16 x17 : Nat → Int32} {x18 x19 x20 : Int32} {x21 x22 x23 : Nat → Int32} {x24 x25 x26 x27 x28 x29 x30 x31 : Int32} {x32 : Int64} {x33 x34 x35 : Nat → Int32} {x36 : Nat → Int64} {x37 : Int32} {x38 : Nat → Int64} {x39 x40 x41 : Int32} {x42 x43 x44 x45 x46 : Nat → Int32} {x47 x48 : Int32} {x49 x50 x51 x52 x53 : Nat → Int32} {x54 : Int32} {x55 : Nat → Int64} {x56 : Int32} {x57 : Nat → Int64} {x58 x59 x60 x61 : Int32} {x62 : Nat → Int32} {x63 x64 x65 x66 : Int32} {x67 : Nat → Int32} {m0 m1 m2 m3 m4 m5 m6 m7 m8 m9 m10 m11 m12 : Int32} {m13 m14 m15 m16 : Nat → Int32} {m17 : Nat → Int64} {m18 m19 m20 m21 : Nat → Int32} {u0 u1 u2 u3 u4 : Int32} {u5 u6 : Nat → Int64} {u7 u8 u9 u10 u11 u12 u13 u14 u15 u16 u17 u18 : Nat → Int32} {out : Nat → Int64} {t : va_W} {Q : Rs → va_W → Prop} {n : Nat} {i : Int32} (Rl : Rel x0 x1 x2 x3 x4 x5 x6 x7 x8 x9 x10 x11 x13 x14 x15 x16 x17 x18 x19 x20 x21 x37 x38 x59 x60 x61 m1 m2 m6 m7 m8 m9 m10 m11 m12 m13 m19 u0 u1 u2 u3 u7 u8 u9 u10 u11 u12 u13 u14 u15 u16 u17 u18)  (K : GoK nm g ad ao am Q (15 * n) (2701 * n) i) : R g (mL_law nm) 1400 (15 * (n + 1)) (2701 * (n + 1)) 376 [(0, .ref (gb g)), (1, .ref (ad 0)), (2, .ref (am 0)), (3, .ref (ao 0)), (4, .int i)] [] (wlX g ad x0 x1 x2 x3 x4 x5 x6 x7 x8 x9 x10 x11 x12 x13 x14 x15 x16 x17 x18 x19 x20 x21 x22 x23 x24 x25 x26 x27 x28 x29 x30 x31 x32 x33 x34 x35 x36 x37 x38 x39 x40 x41 x42 x43 x44 x45 x46 x47 x48 x49 x50 x51 x52 x53 x54 x55 x56 x57 x58 x59 x60 x61 x62 x63 x64 x65 x66 x67 ++ (wlO g ao out ++ (wlM g am (ap 0) m0 m1 m2 m3 m4 m5 m6 m7 m8 m9 m10 m11 m12 m13 m14 m15 m16 m17 m18 m19 m20 m21 ++ (wlP g ap u0 u1 u2 u3 u4 u5 u6 u7 u8 u9 u10 u11 u12 u13 u14 u15 u16 u17 u18 ++ t)))) Q := by
  obtain ⟨o, b, hX, hM, hag, hrel⟩ := cs_teach (hN1 := (by decide : 5000 < 6000)) (hN2 := (by decide : 5000 < 6000)) Rl
  refine r_less (x := (15 * n + 15) + 0) (y := (2701 * n + 2701) + 0) (by omega) (by omega) ?_
  refine r_aload_n 1 dL_law_376 rfl ?_
  refine c_V (rest := []) (15 * n + 15) (2701 * n + 2701) _ dL_law_377 kv_L_115 (ct_Main_teach hX) rfl rfl lX_0 rfl (Nat.le_of_ble_eq_true rfl) (by decide) (by decide) ?_
  refine r_aload_n 2 dL_law_380 rfl ?_
  refine r_perm (pmF _ _ _ _ _) ?_
  refine c_Lp (rest := [.int o.1]) (15 * n) (2701 * n) _ dL_law_381 kv_L_118 (ct_M_teach hM) rfl rfl lM_0 rfl (Nat.le_of_ble_eq_true rfl) (by decide) (by decide) (fun b9 t2 => ?_)
  refine r_perm (pmG _ _ _ _ _ _) ?_
  refine r_icmp_eq (tgt := 2050) dL_law_384 (by decide) (fun _ => ?_) (fun hc => absurd hag hc)
  refine r_ls [0, 1, 2, 3, 4] (ls2 := [(0, .ref (gb g)), (1, .ref (ad 0)), (2, .ref (am 0)), (3, .ref (ao 0)), (4, .int i)]) rfl ?_
  exact K hrel
set_option maxRecDepth 20000 in
set_option maxHeartbeats 4000000 in
theorem law_3 {nm : String} {g : GG} {ad ao am ap : Nat → Nat} {x0 x1 : Int32} {x2 : Nat → Int32} {x3 x4 x5 : Int32} {x6 x7 x8 x9 x10 : Nat → Int32} {x11 x12 : Int32} {x13 x14 x15 x16 x17 : Nat → Int32} {x18 x19 x20 : Int32} {x21 x22 x23 : Nat → Int32} {x24 x25 x26 x27 x28 x29 x30 x31 : Int32} {x32 : Int64} {x33 x34 x35 : Nat → Int32} {x36 : Nat → Int64} {x37 : Int32} {x38 : Nat → Int64} {x39 x40 x41 : Int32} {x42 x43 x44 x45 x46 : Nat → Int32} {x47 x48 : Int32} {x49 x50 x51 x52 x53 : Nat → Int32} {x54 : Int32} {x55 : Nat → Int64} {x56 : Int32} {x57 : Nat → Int64} {x58 x59 x60 x61 : Int32} {x62 : Nat → Int32} {x63 x64 x65 x66 : Int32} {x67 : Nat → Int32} {m0 m1 m2 m3 m4 m5 m6 m7 m8 m9 m10 m11 m12 : Int32} {m13 m14 m15 m16 : Nat → Int32} {m17 : Nat → Int64} {m18 m19 m20 m21 : Nat → Int32} {u0 u1 u2 u3 u4 : Int32} {u5 u6 : Nat → Int64} {u7 u8 u9 u10 u11 u12 u13 u14 u15 u16 u17 u18 : Nat → Int32} {out : Nat → Int64} {t : va_W} {Q : Rs → va_W → Prop} {n : Nat} {i : Int32} (Rl : Rel x0 x1 x2 x3 x4 x5 x6 x7 x8 x9 x10 x11 x13 x14 x15 x16 x17 x18 x19 x20 x21 x37 x38 x59 x60 x61 m1 m2 m6 m7 m8 m9 m10 m11 m12 m13 m19 u0 u1 u2 u3 u7 u8 u9 u10 u11 u12 u13 u14 u15 u16 u17 u18)  (K : GoK nm g ad ao am Q (15 * n) (2701 * n) i) : R g (mL_law nm) 1400 (15 * (n + 1)) (2701 * (n + 1)) 389 [(0, .ref (gb g)), (1, .ref (ad 0)), (2, .ref (am 0)), (3, .ref (ao 0)), (4, .int i)] [] (wlX g ad x0 x1 x2 x3 x4 x5 x6 x7 x8 x9 x10 x11 x12 x13 x14 x15 x16 x17 x18 x19 x20 x21 x22 x23 x24 x25 x26 x27 x28 x29 x30 x31 x32 x33 x34 x35 x36 x37 x38 x39 x40 x41 x42 x43 x44 x45 x46 x47 x48 x49 x50 x51 x52 x53 x54 x55 x56 x57 x58 x59 x60 x61 x62 x63 x64 x65 x66 x67 ++ (wlO g ao out ++ (wlM g am (ap 0) m0 m1 m2 m3 m4 m5 m6 m7 m8 m9 m10 m11 m12 m13 m14 m15 m16 m17 m18 m19 m20 m21 ++ (wlP g ap u0 u1 u2 u3 u4 u5 u6 u7 u8 u9 u10 u11 u12 u13 u14 u15 u16 u17 u18 ++ t)))) Q := by
  obtain ⟨o, b, hX, hM, hag, hrel⟩ := cs_errorAt  Rl
  refine r_less (x := (15 * n + 0) + 0) (y := (2701 * n + 0) + 0) (by omega) (by omega) ?_
  refine r_aload_n 1 dL_law_389 rfl ?_
  refine c_V (rest := []) (15 * n + 0) (2701 * n + 0) _ dL_law_390 kv_L_119 (ct_Main_errorAt hX) rfl rfl lX_0 rfl (Nat.le_of_ble_eq_true rfl) (by decide) (by decide) ?_
  refine r_aload_n 2 dL_law_393 rfl ?_
  refine r_perm (pmF _ _ _ _ _) ?_
  refine c_V (rest := [.int o]) (15 * n) (2701 * n) _ dL_law_394 kv_L_122 (ct_M_errorAt hM) rfl rfl lM_0 rfl (Nat.le_of_ble_eq_true rfl) (by decide) (by decide) ?_
  refine r_perm (pmF _ _ _ _ _) ?_
  refine r_icmp_eq (tgt := 2050) dL_law_397 (by decide) (fun _ => ?_) (fun hc => absurd hag hc)
  refine r_ls [0, 1, 2, 3, 4] (ls2 := [(0, .ref (gb g)), (1, .ref (ad 0)), (2, .ref (am 0)), (3, .ref (ao 0)), (4, .int i)]) rfl ?_
  exact K hrel
set_option maxRecDepth 20000 in
set_option maxHeartbeats 4000000 in
theorem law_4 {nm : String} {g : GG} {ad ao am ap : Nat → Nat} {x0 x1 : Int32} {x2 : Nat → Int32} {x3 x4 x5 : Int32} {x6 x7 x8 x9 x10 : Nat → Int32} {x11 x12 : Int32} {x13 x14 x15 x16 x17 : Nat → Int32} {x18 x19 x20 : Int32} {x21 x22 x23 : Nat → Int32} {x24 x25 x26 x27 x28 x29 x30 x31 : Int32} {x32 : Int64} {x33 x34 x35 : Nat → Int32} {x36 : Nat → Int64} {x37 : Int32} {x38 : Nat → Int64} {x39 x40 x41 : Int32} {x42 x43 x44 x45 x46 : Nat → Int32} {x47 x48 : Int32} {x49 x50 x51 x52 x53 : Nat → Int32} {x54 : Int32} {x55 : Nat → Int64} {x56 : Int32} {x57 : Nat → Int64} {x58 x59 x60 x61 : Int32} {x62 : Nat → Int32} {x63 x64 x65 x66 : Int32} {x67 : Nat → Int32} {m0 m1 m2 m3 m4 m5 m6 m7 m8 m9 m10 m11 m12 : Int32} {m13 m14 m15 m16 : Nat → Int32} {m17 : Nat → Int64} {m18 m19 m20 m21 : Nat → Int32} {u0 u1 u2 u3 u4 : Int32} {u5 u6 : Nat → Int64} {u7 u8 u9 u10 u11 u12 u13 u14 u15 u16 u17 u18 : Nat → Int32} {out : Nat → Int64} {t : va_W} {Q : Rs → va_W → Prop} {n : Nat} {i : Int32} (Rl : Rel x0 x1 x2 x3 x4 x5 x6 x7 x8 x9 x10 x11 x13 x14 x15 x16 x17 x18 x19 x20 x21 x37 x38 x59 x60 x61 m1 m2 m6 m7 m8 m9 m10 m11 m12 m13 m19 u0 u1 u2 u3 u7 u8 u9 u10 u11 u12 u13 u14 u15 u16 u17 u18)  (K : GoK nm g ad ao am Q (15 * n) (2701 * n) i) : R g (mL_law nm) 1400 (15 * (n + 1)) (2701 * (n + 1)) 402 [(0, .ref (gb g)), (1, .ref (ad 0)), (2, .ref (am 0)), (3, .ref (ao 0)), (4, .int i)] [] (wlX g ad x0 x1 x2 x3 x4 x5 x6 x7 x8 x9 x10 x11 x12 x13 x14 x15 x16 x17 x18 x19 x20 x21 x22 x23 x24 x25 x26 x27 x28 x29 x30 x31 x32 x33 x34 x35 x36 x37 x38 x39 x40 x41 x42 x43 x44 x45 x46 x47 x48 x49 x50 x51 x52 x53 x54 x55 x56 x57 x58 x59 x60 x61 x62 x63 x64 x65 x66 x67 ++ (wlO g ao out ++ (wlM g am (ap 0) m0 m1 m2 m3 m4 m5 m6 m7 m8 m9 m10 m11 m12 m13 m14 m15 m16 m17 m18 m19 m20 m21 ++ (wlP g ap u0 u1 u2 u3 u4 u5 u6 u7 u8 u9 u10 u11 u12 u13 u14 u15 u16 u17 u18 ++ t)))) Q := by
  obtain ⟨o, b, hX, hM, hag, hrel⟩ := cs_events  Rl
  refine r_less (x := (15 * n + 0) + 0) (y := (2701 * n + 0) + 0) (by omega) (by omega) ?_
  refine r_aload_n 1 dL_law_402 rfl ?_
  refine c_V (rest := []) (15 * n + 0) (2701 * n + 0) _ dL_law_403 kv_L_123 (ct_Main_events hX) rfl rfl lX_0 rfl (Nat.le_of_ble_eq_true rfl) (by decide) (by decide) ?_
  refine r_aload_n 2 dL_law_406 rfl ?_
  refine r_perm (pmF _ _ _ _ _) ?_
  refine c_V (rest := [.int o]) (15 * n) (2701 * n) _ dL_law_407 kv_L_126 (ct_M_events hM) rfl rfl lM_0 rfl (Nat.le_of_ble_eq_true rfl) (by decide) (by decide) ?_
  refine r_perm (pmF _ _ _ _ _) ?_
  refine r_icmp_eq (tgt := 2050) dL_law_410 (by decide) (fun _ => ?_) (fun hc => absurd hag hc)
  refine r_ls [0, 1, 2, 3, 4] (ls2 := [(0, .ref (gb g)), (1, .ref (ad 0)), (2, .ref (am 0)), (3, .ref (ao 0)), (4, .int i)]) rfl ?_
  exact K hrel
set_option maxRecDepth 20000 in
set_option maxHeartbeats 4000000 in
theorem law_5 {nm : String} {g : GG} {ad ao am ap : Nat → Nat} {x0 x1 : Int32} {x2 : Nat → Int32} {x3 x4 x5 : Int32} {x6 x7 x8 x9 x10 : Nat → Int32} {x11 x12 : Int32} {x13 x14 x15 x16 x17 : Nat → Int32} {x18 x19 x20 : Int32} {x21 x22 x23 : Nat → Int32} {x24 x25 x26 x27 x28 x29 x30 x31 : Int32} {x32 : Int64} {x33 x34 x35 : Nat → Int32} {x36 : Nat → Int64} {x37 : Int32} {x38 : Nat → Int64} {x39 x40 x41 : Int32} {x42 x43 x44 x45 x46 : Nat → Int32} {x47 x48 : Int32} {x49 x50 x51 x52 x53 : Nat → Int32} {x54 : Int32} {x55 : Nat → Int64} {x56 : Int32} {x57 : Nat → Int64} {x58 x59 x60 x61 : Int32} {x62 : Nat → Int32} {x63 x64 x65 x66 : Int32} {x67 : Nat → Int32} {m0 m1 m2 m3 m4 m5 m6 m7 m8 m9 m10 m11 m12 : Int32} {m13 m14 m15 m16 : Nat → Int32} {m17 : Nat → Int64} {m18 m19 m20 m21 : Nat → Int32} {u0 u1 u2 u3 u4 : Int32} {u5 u6 : Nat → Int64} {u7 u8 u9 u10 u11 u12 u13 u14 u15 u16 u17 u18 : Nat → Int32} {out : Nat → Int64} {t : va_W} {Q : Rs → va_W → Prop} {n : Nat} {i : Int32} (Rl : Rel x0 x1 x2 x3 x4 x5 x6 x7 x8 x9 x10 x11 x13 x14 x15 x16 x17 x18 x19 x20 x21 x37 x38 x59 x60 x61 m1 m2 m6 m7 m8 m9 m10 m11 m12 m13 m19 u0 u1 u2 u3 u7 u8 u9 u10 u11 u12 u13 u14 u15 u16 u17 u18)  (K : GoK nm g ad ao am Q (15 * n) (2701 * n) i) : R g (mL_law nm) 1400 (15 * (n + 1)) (2701 * (n + 1)) 415 [(0, .ref (gb g)), (1, .ref (ad 0)), (2, .ref (am 0)), (3, .ref (ao 0)), (4, .int i)] [] (wlX g ad x0 x1 x2 x3 x4 x5 x6 x7 x8 x9 x10 x11 x12 x13 x14 x15 x16 x17 x18 x19 x20 x21 x22 x23 x24 x25 x26 x27 x28 x29 x30 x31 x32 x33 x34 x35 x36 x37 x38 x39 x40 x41 x42 x43 x44 x45 x46 x47 x48 x49 x50 x51 x52 x53 x54 x55 x56 x57 x58 x59 x60 x61 x62 x63 x64 x65 x66 x67 ++ (wlO g ao out ++ (wlM g am (ap 0) m0 m1 m2 m3 m4 m5 m6 m7 m8 m9 m10 m11 m12 m13 m14 m15 m16 m17 m18 m19 m20 m21 ++ (wlP g ap u0 u1 u2 u3 u4 u5 u6 u7 u8 u9 u10 u11 u12 u13 u14 u15 u16 u17 u18 ++ t)))) Q := by
  obtain ⟨o, b, hX, hM, hag, hrel⟩ := cs_tellers  Rl
  refine r_less (x := (15 * n + 0) + 0) (y := (2701 * n + 0) + 0) (by omega) (by omega) ?_
  refine r_aload_n 1 dL_law_415 rfl ?_
  refine c_V (rest := []) (15 * n + 0) (2701 * n + 0) _ dL_law_416 kv_L_127 (ct_Main_tellers hX) rfl rfl lX_0 rfl (Nat.le_of_ble_eq_true rfl) (by decide) (by decide) ?_
  refine r_aload_n 2 dL_law_419 rfl ?_
  refine r_perm (pmF _ _ _ _ _) ?_
  refine c_V (rest := [.int o]) (15 * n) (2701 * n) _ dL_law_420 kv_L_130 (ct_M_tellers hM) rfl rfl lM_0 rfl (Nat.le_of_ble_eq_true rfl) (by decide) (by decide) ?_
  refine r_perm (pmF _ _ _ _ _) ?_
  refine r_icmp_eq (tgt := 2050) dL_law_423 (by decide) (fun _ => ?_) (fun hc => absurd hag hc)
  refine r_ls [0, 1, 2, 3, 4] (ls2 := [(0, .ref (gb g)), (1, .ref (ad 0)), (2, .ref (am 0)), (3, .ref (ao 0)), (4, .int i)]) rfl ?_
  exact K hrel
set_option maxRecDepth 20000 in
set_option maxHeartbeats 4000000 in
theorem law_6 {nm : String} {g : GG} {ad ao am ap : Nat → Nat} {x0 x1 : Int32} {x2 : Nat → Int32} {x3 x4 x5 : Int32} {x6 x7 x8 x9 x10 : Nat → Int32} {x11 x12 : Int32} {x13 x14 x15 x16 x17 : Nat → Int32} {x18 x19 x20 : Int32} {x21 x22 x23 : Nat → Int32} {x24 x25 x26 x27 x28 x29 x30 x31 : Int32} {x32 : Int64} {x33 x34 x35 : Nat → Int32} {x36 : Nat → Int64} {x37 : Int32} {x38 : Nat → Int64} {x39 x40 x41 : Int32} {x42 x43 x44 x45 x46 : Nat → Int32} {x47 x48 : Int32} {x49 x50 x51 x52 x53 : Nat → Int32} {x54 : Int32} {x55 : Nat → Int64} {x56 : Int32} {x57 : Nat → Int64} {x58 x59 x60 x61 : Int32} {x62 : Nat → Int32} {x63 x64 x65 x66 : Int32} {x67 : Nat → Int32} {m0 m1 m2 m3 m4 m5 m6 m7 m8 m9 m10 m11 m12 : Int32} {m13 m14 m15 m16 : Nat → Int32} {m17 : Nat → Int64} {m18 m19 m20 m21 : Nat → Int32} {u0 u1 u2 u3 u4 : Int32} {u5 u6 : Nat → Int64} {u7 u8 u9 u10 u11 u12 u13 u14 u15 u16 u17 u18 : Nat → Int32} {out : Nat → Int64} {t : va_W} {Q : Rs → va_W → Prop} {n : Nat} {i : Int32} (Rl : Rel x0 x1 x2 x3 x4 x5 x6 x7 x8 x9 x10 x11 x13 x14 x15 x16 x17 x18 x19 x20 x21 x37 x38 x59 x60 x61 m1 m2 m6 m7 m8 m9 m10 m11 m12 m13 m19 u0 u1 u2 u3 u7 u8 u9 u10 u11 u12 u13 u14 u15 u16 u17 u18)  (K : GoK nm g ad ao am Q (15 * n) (2701 * n) i) : R g (mL_law nm) 1400 (15 * (n + 1)) (2701 * (n + 1)) 428 [(0, .ref (gb g)), (1, .ref (ad 0)), (2, .ref (am 0)), (3, .ref (ao 0)), (4, .int i)] [] (wlX g ad x0 x1 x2 x3 x4 x5 x6 x7 x8 x9 x10 x11 x12 x13 x14 x15 x16 x17 x18 x19 x20 x21 x22 x23 x24 x25 x26 x27 x28 x29 x30 x31 x32 x33 x34 x35 x36 x37 x38 x39 x40 x41 x42 x43 x44 x45 x46 x47 x48 x49 x50 x51 x52 x53 x54 x55 x56 x57 x58 x59 x60 x61 x62 x63 x64 x65 x66 x67 ++ (wlO g ao out ++ (wlM g am (ap 0) m0 m1 m2 m3 m4 m5 m6 m7 m8 m9 m10 m11 m12 m13 m14 m15 m16 m17 m18 m19 m20 m21 ++ (wlP g ap u0 u1 u2 u3 u4 u5 u6 u7 u8 u9 u10 u11 u12 u13 u14 u15 u16 u17 u18 ++ t)))) Q := by
  obtain ⟨o, b, hX, hM, hag, hrel⟩ := cs_claims  Rl
  refine r_less (x := (15 * n + 0) + 0) (y := (2701 * n + 0) + 0) (by omega) (by omega) ?_
  refine r_aload_n 1 dL_law_428 rfl ?_
  refine c_V (rest := []) (15 * n + 0) (2701 * n + 0) _ dL_law_429 kv_L_131 (ct_Main_claims hX) rfl rfl lX_0 rfl (Nat.le_of_ble_eq_true rfl) (by decide) (by decide) ?_
  refine r_aload_n 2 dL_law_432 rfl ?_
  refine r_perm (pmF _ _ _ _ _) ?_
  refine c_V (rest := [.int o]) (15 * n) (2701 * n) _ dL_law_433 kv_L_134 (ct_M_claims hM) rfl rfl lM_0 rfl (Nat.le_of_ble_eq_true rfl) (by decide) (by decide) ?_
  refine r_perm (pmF _ _ _ _ _) ?_
  refine r_icmp_eq (tgt := 2050) dL_law_436 (by decide) (fun _ => ?_) (fun hc => absurd hag hc)
  refine r_ls [0, 1, 2, 3, 4] (ls2 := [(0, .ref (gb g)), (1, .ref (ad 0)), (2, .ref (am 0)), (3, .ref (ao 0)), (4, .int i)]) rfl ?_
  exact K hrel
set_option maxRecDepth 20000 in
set_option maxHeartbeats 4000000 in
theorem law_7 {nm : String} {g : GG} {ad ao am ap : Nat → Nat} {x0 x1 : Int32} {x2 : Nat → Int32} {x3 x4 x5 : Int32} {x6 x7 x8 x9 x10 : Nat → Int32} {x11 x12 : Int32} {x13 x14 x15 x16 x17 : Nat → Int32} {x18 x19 x20 : Int32} {x21 x22 x23 : Nat → Int32} {x24 x25 x26 x27 x28 x29 x30 x31 : Int32} {x32 : Int64} {x33 x34 x35 : Nat → Int32} {x36 : Nat → Int64} {x37 : Int32} {x38 : Nat → Int64} {x39 x40 x41 : Int32} {x42 x43 x44 x45 x46 : Nat → Int32} {x47 x48 : Int32} {x49 x50 x51 x52 x53 : Nat → Int32} {x54 : Int32} {x55 : Nat → Int64} {x56 : Int32} {x57 : Nat → Int64} {x58 x59 x60 x61 : Int32} {x62 : Nat → Int32} {x63 x64 x65 x66 : Int32} {x67 : Nat → Int32} {m0 m1 m2 m3 m4 m5 m6 m7 m8 m9 m10 m11 m12 : Int32} {m13 m14 m15 m16 : Nat → Int32} {m17 : Nat → Int64} {m18 m19 m20 m21 : Nat → Int32} {u0 u1 u2 u3 u4 : Int32} {u5 u6 : Nat → Int64} {u7 u8 u9 u10 u11 u12 u13 u14 u15 u16 u17 u18 : Nat → Int32} {out : Nat → Int64} {t : va_W} {Q : Rs → va_W → Prop} {n : Nat} {i : Int32} (Rl : Rel x0 x1 x2 x3 x4 x5 x6 x7 x8 x9 x10 x11 x13 x14 x15 x16 x17 x18 x19 x20 x21 x37 x38 x59 x60 x61 m1 m2 m6 m7 m8 m9 m10 m11 m12 m13 m19 u0 u1 u2 u3 u7 u8 u9 u10 u11 u12 u13 u14 u15 u16 u17 u18)  (K : GoK nm g ad ao am Q (15 * n) (2701 * n) i) : R g (mL_law nm) 1400 (15 * (n + 1)) (2701 * (n + 1)) 441 [(0, .ref (gb g)), (1, .ref (ad 0)), (2, .ref (am 0)), (3, .ref (ao 0)), (4, .int i)] [] (wlX g ad x0 x1 x2 x3 x4 x5 x6 x7 x8 x9 x10 x11 x12 x13 x14 x15 x16 x17 x18 x19 x20 x21 x22 x23 x24 x25 x26 x27 x28 x29 x30 x31 x32 x33 x34 x35 x36 x37 x38 x39 x40 x41 x42 x43 x44 x45 x46 x47 x48 x49 x50 x51 x52 x53 x54 x55 x56 x57 x58 x59 x60 x61 x62 x63 x64 x65 x66 x67 ++ (wlO g ao out ++ (wlM g am (ap 0) m0 m1 m2 m3 m4 m5 m6 m7 m8 m9 m10 m11 m12 m13 m14 m15 m16 m17 m18 m19 m20 m21 ++ (wlP g ap u0 u1 u2 u3 u4 u5 u6 u7 u8 u9 u10 u11 u12 u13 u14 u15 u16 u17 u18 ++ t)))) Q := by
  obtain ⟨o, b, hX, hM, hag, hrel⟩ := cs_evenings  Rl
  refine r_less (x := (15 * n + 0) + 0) (y := (2701 * n + 0) + 0) (by omega) (by omega) ?_
  refine r_aload_n 1 dL_law_441 rfl ?_
  refine c_V (rest := []) (15 * n + 0) (2701 * n + 0) _ dL_law_442 kv_L_135 (ct_Main_evenings hX) rfl rfl lX_0 rfl (Nat.le_of_ble_eq_true rfl) (by decide) (by decide) ?_
  refine r_aload_n 2 dL_law_445 rfl ?_
  refine r_perm (pmF _ _ _ _ _) ?_
  refine c_V (rest := [.int o]) (15 * n) (2701 * n) _ dL_law_446 kv_L_138 (ct_M_evenings hM) rfl rfl lM_0 rfl (Nat.le_of_ble_eq_true rfl) (by decide) (by decide) ?_
  refine r_perm (pmF _ _ _ _ _) ?_
  refine r_icmp_eq (tgt := 2050) dL_law_449 (by decide) (fun _ => ?_) (fun hc => absurd hag hc)
  refine r_ls [0, 1, 2, 3, 4] (ls2 := [(0, .ref (gb g)), (1, .ref (ad 0)), (2, .ref (am 0)), (3, .ref (ao 0)), (4, .int i)]) rfl ?_
  exact K hrel
set_option maxRecDepth 20000 in
set_option maxHeartbeats 4000000 in
theorem law_8 {nm : String} {g : GG} {ad ao am ap : Nat → Nat} {x0 x1 : Int32} {x2 : Nat → Int32} {x3 x4 x5 : Int32} {x6 x7 x8 x9 x10 : Nat → Int32} {x11 x12 : Int32} {x13 x14 x15 x16 x17 : Nat → Int32} {x18 x19 x20 : Int32} {x21 x22 x23 : Nat → Int32} {x24 x25 x26 x27 x28 x29 x30 x31 : Int32} {x32 : Int64} {x33 x34 x35 : Nat → Int32} {x36 : Nat → Int64} {x37 : Int32} {x38 : Nat → Int64} {x39 x40 x41 : Int32} {x42 x43 x44 x45 x46 : Nat → Int32} {x47 x48 : Int32} {x49 x50 x51 x52 x53 : Nat → Int32} {x54 : Int32} {x55 : Nat → Int64} {x56 : Int32} {x57 : Nat → Int64} {x58 x59 x60 x61 : Int32} {x62 : Nat → Int32} {x63 x64 x65 x66 : Int32} {x67 : Nat → Int32} {m0 m1 m2 m3 m4 m5 m6 m7 m8 m9 m10 m11 m12 : Int32} {m13 m14 m15 m16 : Nat → Int32} {m17 : Nat → Int64} {m18 m19 m20 m21 : Nat → Int32} {u0 u1 u2 u3 u4 : Int32} {u5 u6 : Nat → Int64} {u7 u8 u9 u10 u11 u12 u13 u14 u15 u16 u17 u18 : Nat → Int32} {out : Nat → Int64} {t : va_W} {Q : Rs → va_W → Prop} {n : Nat} {i : Int32} (Rl : Rel x0 x1 x2 x3 x4 x5 x6 x7 x8 x9 x10 x11 x13 x14 x15 x16 x17 x18 x19 x20 x21 x37 x38 x59 x60 x61 m1 m2 m6 m7 m8 m9 m10 m11 m12 m13 m19 u0 u1 u2 u3 u7 u8 u9 u10 u11 u12 u13 u14 u15 u16 u17 u18)  (K : GoK nm g ad ao am Q (15 * n) (2701 * n) i) : R g (mL_law nm) 1400 (15 * (n + 1)) (2701 * (n + 1)) 454 [(0, .ref (gb g)), (1, .ref (ad 0)), (2, .ref (am 0)), (3, .ref (ao 0)), (4, .int i)] [] (wlX g ad x0 x1 x2 x3 x4 x5 x6 x7 x8 x9 x10 x11 x12 x13 x14 x15 x16 x17 x18 x19 x20 x21 x22 x23 x24 x25 x26 x27 x28 x29 x30 x31 x32 x33 x34 x35 x36 x37 x38 x39 x40 x41 x42 x43 x44 x45 x46 x47 x48 x49 x50 x51 x52 x53 x54 x55 x56 x57 x58 x59 x60 x61 x62 x63 x64 x65 x66 x67 ++ (wlO g ao out ++ (wlM g am (ap 0) m0 m1 m2 m3 m4 m5 m6 m7 m8 m9 m10 m11 m12 m13 m14 m15 m16 m17 m18 m19 m20 m21 ++ (wlP g ap u0 u1 u2 u3 u4 u5 u6 u7 u8 u9 u10 u11 u12 u13 u14 u15 u16 u17 u18 ++ t)))) Q := by
  obtain ⟨o, b, hX, hM, hag, hrel⟩ := cs_ordersCarriedOut  Rl
  refine r_less (x := (15 * n + 0) + 0) (y := (2701 * n + 0) + 0) (by omega) (by omega) ?_
  refine r_aload_n 1 dL_law_454 rfl ?_
  refine c_V (rest := []) (15 * n + 0) (2701 * n + 0) _ dL_law_455 kv_L_139 (ct_Main_ordersCarriedOut hX) rfl rfl lX_0 rfl (Nat.le_of_ble_eq_true rfl) (by decide) (by decide) ?_
  refine r_aload_n 2 dL_law_458 rfl ?_
  refine r_perm (pmF _ _ _ _ _) ?_
  refine c_V (rest := [.int o]) (15 * n) (2701 * n) _ dL_law_459 kv_L_142 (ct_M_ordersCarriedOut hM) rfl rfl lM_0 rfl (Nat.le_of_ble_eq_true rfl) (by decide) (by decide) ?_
  refine r_perm (pmF _ _ _ _ _) ?_
  refine r_icmp_eq (tgt := 2050) dL_law_462 (by decide) (fun _ => ?_) (fun hc => absurd hag hc)
  refine r_ls [0, 1, 2, 3, 4] (ls2 := [(0, .ref (gb g)), (1, .ref (ad 0)), (2, .ref (am 0)), (3, .ref (ao 0)), (4, .int i)]) rfl ?_
  exact K hrel
set_option maxRecDepth 20000 in
set_option maxHeartbeats 4000000 in
theorem law_9 {nm : String} {g : GG} {ad ao am ap : Nat → Nat} {x0 x1 : Int32} {x2 : Nat → Int32} {x3 x4 x5 : Int32} {x6 x7 x8 x9 x10 : Nat → Int32} {x11 x12 : Int32} {x13 x14 x15 x16 x17 : Nat → Int32} {x18 x19 x20 : Int32} {x21 x22 x23 : Nat → Int32} {x24 x25 x26 x27 x28 x29 x30 x31 : Int32} {x32 : Int64} {x33 x34 x35 : Nat → Int32} {x36 : Nat → Int64} {x37 : Int32} {x38 : Nat → Int64} {x39 x40 x41 : Int32} {x42 x43 x44 x45 x46 : Nat → Int32} {x47 x48 : Int32} {x49 x50 x51 x52 x53 : Nat → Int32} {x54 : Int32} {x55 : Nat → Int64} {x56 : Int32} {x57 : Nat → Int64} {x58 x59 x60 x61 : Int32} {x62 : Nat → Int32} {x63 x64 x65 x66 : Int32} {x67 : Nat → Int32} {m0 m1 m2 m3 m4 m5 m6 m7 m8 m9 m10 m11 m12 : Int32} {m13 m14 m15 m16 : Nat → Int32} {m17 : Nat → Int64} {m18 m19 m20 m21 : Nat → Int32} {u0 u1 u2 u3 u4 : Int32} {u5 u6 : Nat → Int64} {u7 u8 u9 u10 u11 u12 u13 u14 u15 u16 u17 u18 : Nat → Int32} {out : Nat → Int64} {t : va_W} {Q : Rs → va_W → Prop} {n : Nat} {i : Int32} (Rl : Rel x0 x1 x2 x3 x4 x5 x6 x7 x8 x9 x10 x11 x13 x14 x15 x16 x17 x18 x19 x20 x21 x37 x38 x59 x60 x61 m1 m2 m6 m7 m8 m9 m10 m11 m12 m13 m19 u0 u1 u2 u3 u7 u8 u9 u10 u11 u12 u13 u14 u15 u16 u17 u18) (h1 : ib (i + (1 : Int32)) (gL g) = true) (K : GoK nm g ad ao am Q (15 * n) (2701 * n) i) : R g (mL_law nm) 1400 (15 * (n + 1)) (2701 * (n + 1)) 467 [(0, .ref (gb g)), (1, .ref (ad 0)), (2, .ref (am 0)), (3, .ref (ao 0)), (4, .int i)] [] (wlX g ad x0 x1 x2 x3 x4 x5 x6 x7 x8 x9 x10 x11 x12 x13 x14 x15 x16 x17 x18 x19 x20 x21 x22 x23 x24 x25 x26 x27 x28 x29 x30 x31 x32 x33 x34 x35 x36 x37 x38 x39 x40 x41 x42 x43 x44 x45 x46 x47 x48 x49 x50 x51 x52 x53 x54 x55 x56 x57 x58 x59 x60 x61 x62 x63 x64 x65 x66 x67 ++ (wlO g ao out ++ (wlM g am (ap 0) m0 m1 m2 m3 m4 m5 m6 m7 m8 m9 m10 m11 m12 m13 m14 m15 m16 m17 m18 m19 m20 m21 ++ (wlP g ap u0 u1 u2 u3 u4 u5 u6 u7 u8 u9 u10 u11 u12 u13 u14 u15 u16 u17 u18 ++ t)))) Q := by
  obtain ⟨o, b, hX, hM, hag, hrel⟩ := cs_tellerOf  Rl out (gx g (i + (1 : Int32)).toNatClampNeg)
  refine r_less (x := (15 * n + 0) + 1) (y := (2701 * n + 0) + 6) (by omega) (by omega) ?_
  refine r_aload_n 1 dL_law_467 rfl ?_
  refine r_aload_n 0 dL_law_468 rfl ?_
  refine r_iload 4 dL_law_469 rfl ?_
  refine r_iconst (v := (1 : Int32)) dL_law_471 (by decide) ?_
  refine r_iadd dL_law_472 ?_
  refine r_sld dL_law_473 h1 ?_
  refine r_aload_n 3 dL_law_474 rfl ?_
  refine c_LW (rest := []) (15 * n + 0) (2701 * n + 0) dL_law_475 kt_L_143 (ct_L_tellerOf hX) rfl rfl (Nat.le_of_ble_eq_true rfl) (by decide) (by decide) ?_
  refine r_istore [(5, .int o.1), (0, .ref (gb g)), (1, .ref (ad 0)), (2, .ref (am 0)), (3, .ref (ao 0)), (4, .int i)] dL_law_478 (Nat.le_of_ble_eq_true rfl) rfl ?_
  refine r_aload_n 3 dL_law_480 rfl ?_
  refine r_aload_n 1 dL_law_481 rfl ?_
  refine r_iload 5 dL_law_482 rfl ?_
  refine r_iconst (v := (1 : Int32)) dL_law_484 (by decide) ?_
  refine r_iadd dL_law_485 ?_
  refine r_sld dL_law_486 h1 ?_
  refine r_perm (pmF _ _ _ _ _) ?_
  refine c_V (rest := []) (15 * n) (2701 * n) _ dL_law_487 kv_L_145 (ct_M_tellerOf hM) rfl rfl lM_0 rfl (Nat.le_of_ble_eq_true rfl) (by decide) (by decide) ?_
  refine r_istore [(6, .int b.1), (5, .int o.1), (0, .ref (gb g)), (1, .ref (ad 0)), (2, .ref (am 0)), (3, .ref (ao 0)), (4, .int i)] dL_law_490 (Nat.le_of_ble_eq_true rfl) rfl ?_
  refine r_aload_n 4 dL_law_492 rfl ?_
  refine c_V (rest := []) (15 * n) (2701 * n) _ dL_law_493 kv_L_107 (ct_M_thrown rfl) rfl rfl lM_0 rfl (Nat.le_of_ble_eq_true rfl) (by decide) (by decide) ?_
  refine r_perm (pmF _ _ _ _ _) ?_
  refine r_iload 1 dL_law_496 rfl ?_
  refine r_icmp_eq (tgt := 503) dL_law_498 (by decide) (fun _ => ?_) (fun hc => absurd hag.1 hc)
  refine r_iload 1 dL_law_503 rfl ?_
  refine r_if_ne (tgt := 520) dL_law_505 (by decide) (fun hk => ?_) (fun hk => ?_)
  · refine r_goto (tgt := 2050) dL_law_520 (by decide) ?_
    refine r_ls [2, 3, 4, 5, 6] (ls2 := [(0, .ref (gb g)), (1, .ref (ad 0)), (2, .ref (am 0)), (3, .ref (ao 0)), (4, .int i)]) rfl ?_
    exact K hrel
  · refine r_aload_n 5 dL_law_508 rfl ?_
    refine r_iconst (v := (0 : Int32)) dL_law_509 (by decide) ?_
    refine r_lald _ dL_law_510 lO_0 (by decide) ?_
    refine r_iload 0 dL_law_511 rfl ?_
    refine r_i2l dL_law_513 ?_
    refine r_lcmp dL_law_514 ?_
    refine r_if_eq (tgt := 520) dL_law_515 (by decide) (fun _ => ?_) (fun hc => absurd ((lg_cmp_0 _ _).mpr (hag.2 hk)) hc)
    refine r_goto (tgt := 2050) dL_law_520 (by decide) ?_
    refine r_ls [2, 3, 4, 5, 6] (ls2 := [(0, .ref (gb g)), (1, .ref (ad 0)), (2, .ref (am 0)), (3, .ref (ao 0)), (4, .int i)]) rfl ?_
    exact K hrel
