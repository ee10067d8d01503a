theorem kk_337 : Cond.methodLink RX7 45 yJ0_length_8abf5 ∈ gtbl := g_in (List.mem_of_getElem? (i := 337) (by decide +kernel)) (by decide +kernel)
theorem kv_X7_45 : KV RX7 45 mJ0_length_8abf5 0 := ⟨⟨kk_337, kk_128, kk_340, by decide +kernel⟩, rfl, kk_338, kk_339⟩
theorem kk_347 : Cond.methodLink RX7 51 yJ0_charAt_5068e ∈ gtbl := g_in (List.mem_of_getElem? (i := 347) (by decide +kernel)) (by decide +kernel)
theorem kv_X7_51 : KV RX7 51 mJ0_charAt_5068e 1 := ⟨⟨kk_347, kk_128, kk_350, by decide +kernel⟩, rfl, kk_348, kk_349⟩
theorem kk_385 : Cond.methodLink RX7 55 yX2_add ∈ gtbl := g_in (List.mem_of_getElem? (i := 385) (by decide +kernel)) (by decide +kernel)
theorem kv_X7_55 : KV RX7 55 mX2_add 1 := ⟨⟨kk_385, kk_127, kk_388, by decide +kernel⟩, rfl, kk_386, kk_387⟩
abbrev mX7_fillKeywords : MT := (yX7_fillKeywords, cX7_fillKeywords, 5, none, [])
abbrev mX9_init : MT := (yX9_init, cX9_init, 4, none, [])
theorem kk_149 : Cond.methodLink RX9 1 Lib.objectInit ∈ gtbl := g_in (List.mem_of_getElem? (i := 149) (by decide +kernel)) (by decide +kernel)
theorem kk_150 : Cond.instanceMethod Lib.objectInit ∈ gtbl := g_in (List.mem_of_getElem? (i := 150) (by decide +kernel)) (by decide +kernel)
theorem kk_151 : Cond.code Lib.objectInit ⟨#[0xb1]⟩ 1 none ∈ gtbl := g_in (List.mem_of_getElem? (i := 151) (by decide +kernel)) (by decide +kernel)
theorem ko_X9_1 : KO RX9 1 := ⟨kk_149, kk_150, kk_151⟩
theorem kk_152 : Cond.classLink RX9 7 RX5 ∈ gtbl := g_in (List.mem_of_getElem? (i := 152) (by decide +kernel)) (by decide +kernel)
theorem kk_153 : Cond.instantiable RX5 1 ∈ gtbl := g_in (List.mem_of_getElem? (i := 153) (by decide +kernel)) (by decide +kernel)
theorem nl_X9_7 : NL RX9 7 5 1 [.null] := ⟨RX5, TX5, tyX5, rfl, il_5, tyX5_ok, kk_152, kk_153, kk_120, by intro j hj; match j, hj with
  | 0, _ => rfl
  | j + 1, hj => exact absurd hj (by omega)⟩
abbrev mX5_init : MT := (yX5_init, cX5_init, 2, none, [])
theorem kk_157 : Cond.methodLink RX5 1 Lib.objectInit ∈ gtbl := g_in (List.mem_of_getElem? (i := 157) (by decide +kernel)) (by decide +kernel)
theorem ko_X5_1 : KO RX5 1 := ⟨kk_157, kk_150, kk_151⟩
theorem ff_X5_7 : FF RX5 7 5 0 (.array .int) := ⟨RX5, TX5, 1, tyX5, rfl, by decide, il_5, tyX5_ok, nmX5, rfl, rfl, rfl, kk_158⟩
theorem kk_154 : Cond.methodLink RX9 11 yX5_init ∈ gtbl := g_in (List.mem_of_getElem? (i := 154) (by decide +kernel)) (by decide +kernel)
theorem kk_156 : Cond.code yX5_init cX5_init 2 none ∈ gtbl := g_in (List.mem_of_getElem? (i := 156) (by decide +kernel)) (by decide +kernel)
theorem kk_155 : Cond.instanceMethod yX5_init ∈ gtbl := g_in (List.mem_of_getElem? (i := 155) (by decide +kernel)) (by decide +kernel)
theorem ki_X9_11 : KI RX9 11 mX5_init 1 := ⟨⟨kk_154, kk_120, kk_156, by decide +kernel⟩, rfl, rfl, rfl, kk_155⟩
theorem kk_163 : Cond.classLink RX9 14 RX6 ∈ gtbl := g_in (List.mem_of_getElem? (i := 163) (by decide +kernel)) (by decide +kernel)
theorem kk_164 : Cond.instantiable RX6 4 ∈ gtbl := g_in (List.mem_of_getElem? (i := 164) (by decide +kernel)) (by decide +kernel)
theorem nl_X9_14 : NL RX9 14 6 4 [.null, .null, .int 0, .int 0] := ⟨RX6, TX6, tyX6, rfl, il_6, tyX6_ok, kk_163, kk_164, kk_121, by intro j hj; match j, hj with
  | 0, _ => rfl
  | 1, _ => rfl
  | 2, _ => rfl
  | 3, _ => rfl
  | j + 4, hj => exact absurd hj (by omega)⟩
abbrev mX6_init : MT := (yX6_init, cX6_init, 1, none, [])
theorem kk_168 : Cond.methodLink RX6 1 Lib.objectInit ∈ gtbl := g_in (List.mem_of_getElem? (i := 168) (by decide +kernel)) (by decide +kernel)
theorem ko_X6_1 : KO RX6 1 := ⟨kk_168, kk_150, kk_151⟩
theorem kk_169 : Cond.classLink RX6 7 RX0 ∈ gtbl := g_in (List.mem_of_getElem? (i := 169) (by decide +kernel)) (by decide +kernel)
theorem kk_170 : Cond.instantiable RX0 6 ∈ gtbl := g_in (List.mem_of_getElem? (i := 170) (by decide +kernel)) (by decide +kernel)
theorem nl_X6_7 : NL RX6 7 0 6 [.null, .null, .null, .null, .null, .int 0] := ⟨RX0, TX0, tyX0, rfl, il_0, tyX0_ok, kk_169, kk_170, kk_122, by intro j hj; match j, hj with
  | 0, _ => rfl
  | 1, _ => rfl
  | 2, _ => rfl
  | 3, _ => rfl
  | 4, _ => rfl
  | 5, _ => rfl
  | j + 6, hj => exact absurd hj (by omega)⟩
abbrev mX0_init : MT := (yX0_init, cX0_init, 1, none, [])
theorem kk_174 : Cond.methodLink RX0 3 Lib.objectInit ∈ gtbl := g_in (List.mem_of_getElem? (i := 174) (by decide +kernel)) (by decide +kernel)
theorem ko_X0_3 : KO RX0 3 := ⟨kk_174, kk_150, kk_151⟩
theorem kk_175 : Cond.classLink RX0 9 RX5 ∈ gtbl := g_in (List.mem_of_getElem? (i := 175) (by decide +kernel)) (by decide +kernel)
theorem nl_X0_9 : NL RX0 9 5 1 [.null] := ⟨RX5, TX5, tyX5, rfl, il_5, tyX5_ok, kk_175, kk_153, kk_120, by intro j hj; match j, hj with
  | 0, _ => rfl
  | j + 1, hj => exact absurd hj (by omega)⟩
theorem kk_176 : Cond.methodLink RX0 11 yX5_init ∈ gtbl := g_in (List.mem_of_getElem? (i := 176) (by decide +kernel)) (by decide +kernel)
theorem ki_X0_11 : KI RX0 11 mX5_init 1 := ⟨⟨kk_176, kk_120, kk_156, by decide +kernel⟩, rfl, rfl, rfl, kk_155⟩
theorem ff_X0_14 : FF RX0 14 0 0 (.object "StoryTapestry$Row") := ⟨RX0, TX0, 6, tyX0, rfl, by decide, il_0, tyX0_ok, nmX0, rfl, rfl, rfl, kk_177⟩
theorem ff_X0_20 : FF RX0 20 0 1 (.object "StoryTapestry$Row") := ⟨RX0, TX0, 6, tyX0, rfl, by decide, il_0, tyX0_ok, nmX0, rfl, rfl, rfl, kk_180⟩
theorem ff_X0_23 : FF RX0 23 0 2 (.object "StoryTapestry$Row") := ⟨RX0, TX0, 6, tyX0, rfl, by decide, il_0, tyX0_ok, nmX0, rfl, rfl, rfl, kk_183⟩
theorem ff_X0_26 : FF RX0 26 0 3 (.object "StoryTapestry$Row") := ⟨RX0, TX0, 6, tyX0, rfl, by decide, il_0, tyX0_ok, nmX0, rfl, rfl, rfl, kk_186⟩
theorem ff_X0_29 : FF RX0 29 0 4 (.object "StoryTapestry$Row") := ⟨RX0, TX0, 6, tyX0, rfl, by decide, il_0, tyX0_ok, nmX0, rfl, rfl, rfl, kk_189⟩
theorem kk_171 : Cond.methodLink RX6 9 yX0_init ∈ gtbl := g_in (List.mem_of_getElem? (i := 171) (by decide +kernel)) (by decide +kernel)
theorem kk_173 : Cond.code yX0_init cX0_init 1 none ∈ gtbl := g_in (List.mem_of_getElem? (i := 173) (by decide +kernel)) (by decide +kernel)
theorem kk_172 : Cond.instanceMethod yX0_init ∈ gtbl := g_in (List.mem_of_getElem? (i := 172) (by decide +kernel)) (by decide +kernel)
theorem ki_X6_9 : KI RX6 9 mX0_init 0 := ⟨⟨kk_171, kk_122, kk_173, by decide +kernel⟩, rfl, rfl, rfl, kk_172⟩
theorem ff_X6_10 : FF RX6 10 6 0 (.object "StoryTapestry$Claims") := ⟨RX6, TX6, 4, tyX6, rfl, by decide, il_6, tyX6_ok, nmX6, rfl, rfl, rfl, kk_247⟩
theorem kk_209 : Cond.classLink RX6 16 RX3 ∈ gtbl := g_in (List.mem_of_getElem? (i := 209) (by decide +kernel)) (by decide +kernel)
theorem kk_210 : Cond.instantiable RX3 7 ∈ gtbl := g_in (List.mem_of_getElem? (i := 210) (by decide +kernel)) (by decide +kernel)
theorem nl_X6_16 : NL RX6 16 3 7 [.null, .null, .null, .null, .null, .int 0, .int 0] := ⟨RX3, TX3, tyX3, rfl, il_3, tyX3_ok, kk_209, kk_210, kk_123, by intro j hj; match j, hj with
  | 0, _ => rfl
  | 1, _ => rfl
  | 2, _ => rfl
  | 3, _ => rfl
  | 4, _ => rfl
  | 5, _ => rfl
  | 6, _ => rfl
  | j + 7, hj => exact absurd hj (by omega)⟩
abbrev mX3_init : MT := (yX3_init, cX3_init, 1, none, [])
theorem kk_214 : Cond.methodLink RX3 3 Lib.objectInit ∈ gtbl := g_in (List.mem_of_getElem? (i := 214) (by decide +kernel)) (by decide +kernel)
theorem ko_X3_3 : KO RX3 3 := ⟨kk_214, kk_150, kk_151⟩
theorem kk_215 : Cond.classLink RX3 9 RX5 ∈ gtbl := g_in (List.mem_of_getElem? (i := 215) (by decide +kernel)) (by decide +kernel)
theorem nl_X3_9 : NL RX3 9 5 1 [.null] := ⟨RX5, TX5, tyX5, rfl, il_5, tyX5_ok, kk_215, kk_153, kk_120, by intro j hj; match j, hj with
  | 0, _ => rfl
  | j + 1, hj => exact absurd hj (by omega)⟩
theorem kk_216 : Cond.methodLink RX3 11 yX5_init ∈ gtbl := g_in (List.mem_of_getElem? (i := 216) (by decide +kernel)) (by decide +kernel)
theorem ki_X3_11 : KI RX3 11 mX5_init 1 := ⟨⟨kk_216, kk_120, kk_156, by decide +kernel⟩, rfl, rfl, rfl, kk_155⟩
theorem ff_X3_14 : FF RX3 14 3 0 (.object "StoryTapestry$Row") := ⟨RX3, TX3, 7, tyX3, rfl, by decide, il_3, tyX3_ok, nmX3, rfl, rfl, rfl, kk_217⟩
theorem ff_X3_20 : FF RX3 20 3 1 (.object "StoryTapestry$Row") := ⟨RX3, TX3, 7, tyX3, rfl, by decide, il_3, tyX3_ok, nmX3, rfl, rfl, rfl, kk_219⟩
theorem ff_X3_23 : FF RX3 23 3 2 (.object "StoryTapestry$Row") := ⟨RX3, TX3, 7, tyX3, rfl, by decide, il_3, tyX3_ok, nmX3, rfl, rfl, rfl, kk_221⟩
theorem ff_X3_26 : FF RX3 26 3 3 (.object "StoryTapestry$Row") := ⟨RX3, TX3, 7, tyX3, rfl, by decide, il_3, tyX3_ok, nmX3, rfl, rfl, rfl, kk_223⟩
theorem ff_X3_29 : FF RX3 29 3 4 (.object "StoryTapestry$Row") := ⟨RX3, TX3, 7, tyX3, rfl, by decide, il_3, tyX3_ok, nmX3, rfl, rfl, rfl, kk_225⟩
theorem kk_211 : Cond.methodLink RX6 18 yX3_init ∈ gtbl := g_in (List.mem_of_getElem? (i := 211) (by decide +kernel)) (by decide +kernel)
theorem kk_213 : Cond.code yX3_init cX3_init 1 none ∈ gtbl := g_in (List.mem_of_getElem? (i := 213) (by decide +kernel)) (by decide +kernel)
theorem kk_212 : Cond.instanceMethod yX3_init ∈ gtbl := g_in (List.mem_of_getElem? (i := 212) (by decide +kernel)) (by decide +kernel)
theorem ki_X6_18 : KI RX6 18 mX3_init 0 := ⟨⟨kk_211, kk_123, kk_213, by decide +kernel⟩, rfl, rfl, rfl, kk_212⟩
theorem ff_X6_19 : FF RX6 19 6 1 (.object "StoryTapestry$Orders") := ⟨RX6, TX6, 4, tyX6, rfl, by decide, il_6, tyX6_ok, nmX6, rfl, rfl, rfl, kk_252⟩
theorem kk_165 : Cond.methodLink RX9 16 yX6_init ∈ gtbl := g_in (List.mem_of_getElem? (i := 165) (by decide +kernel)) (by decide +kernel)
theorem kk_167 : Cond.code yX6_init cX6_init 1 none ∈ gtbl := g_in (List.mem_of_getElem? (i := 167) (by decide +kernel)) (by decide +kernel)
theorem kk_166 : Cond.instanceMethod yX6_init ∈ gtbl := g_in (List.mem_of_getElem? (i := 166) (by decide +kernel)) (by decide +kernel)
theorem ki_X9_16 : KI RX9 16 mX6_init 0 := ⟨⟨kk_165, kk_121, kk_167, by decide +kernel⟩, rfl, rfl, rfl, kk_166⟩
theorem kk_272 : Cond.classLink RX9 17 RX8 ∈ gtbl := g_in (List.mem_of_getElem? (i := 272) (by decide +kernel)) (by decide +kernel)
theorem kk_273 : Cond.instantiable RX8 7 ∈ gtbl := g_in (List.mem_of_getElem? (i := 273) (by decide +kernel)) (by decide +kernel)
theorem nl_X9_17 : NL RX9 17 8 7 [.null, .null, .null, .null, .int 0, .int 0, .int 0] := ⟨RX8, TX8, tyX8, rfl, il_8, tyX8_ok, kk_272, kk_273, kk_124, by intro j hj; match j, hj with
  | 0, _ => rfl
  | 1, _ => rfl
  | 2, _ => rfl
  | 3, _ => rfl
  | 4, _ => rfl
  | 5, _ => rfl
  | 6, _ => rfl
  | j + 7, hj => exact absurd hj (by omega)⟩
abbrev mX8_init : MT := (yX8_init, cX8_init, 2, none, [])
theorem kk_277 : Cond.methodLink RX8 3 Lib.objectInit ∈ gtbl := g_in (List.mem_of_getElem? (i := 277) (by decide +kernel)) (by decide +kernel)
theorem ko_X8_3 : KO RX8 3 := ⟨kk_277, kk_150, kk_151⟩
theorem ff_X8_9 : FF RX8 9 8 0 (.object "StoryTapestry$Tapestry") := ⟨RX8, TX8, 7, tyX8, rfl, by decide, il_8, tyX8_ok, nmX8, rfl, rfl, rfl, kk_280⟩
theorem kk_278 : Cond.classLink RX8 15 RX5 ∈ gtbl := g_in (List.mem_of_getElem? (i := 278) (by decide +kernel)) (by decide +kernel)
theorem nl_X8_15 : NL RX8 15 5 1 [.null] := ⟨RX5, TX5, tyX5, rfl, il_5, tyX5_ok, kk_278, kk_153, kk_120, by intro j hj; match j, hj with
  | 0, _ => rfl
  | j + 1, hj => exact absurd hj (by omega)⟩
theorem kk_279 : Cond.methodLink RX8 17 yX5_init ∈ gtbl := g_in (List.mem_of_getElem? (i := 279) (by decide +kernel)) (by decide +kernel)
theorem ki_X8_17 : KI RX8 17 mX5_init 1 := ⟨⟨kk_279, kk_120, kk_156, by decide +kernel⟩, rfl, rfl, rfl, kk_155⟩
theorem ff_X8_20 : FF RX8 20 8 1 (.object "StoryTapestry$Row") := ⟨RX8, TX8, 7, tyX8, rfl, by decide, il_8, tyX8_ok, nmX8, rfl, rfl, rfl, kk_281⟩
theorem ff_X8_24 : FF RX8 24 8 2 (.object "StoryTapestry$Row") := ⟨RX8, TX8, 7, tyX8, rfl, by decide, il_8, tyX8_ok, nmX8, rfl, rfl, rfl, kk_282⟩
theorem ff_X8_27 : FF RX8 27 8 3 (.object "StoryTapestry$Row") := ⟨RX8, TX8, 7, tyX8, rfl, by decide, il_8, tyX8_ok, nmX8, rfl, rfl, rfl, kk_283⟩
theorem kk_274 : Cond.methodLink RX9 19 yX8_init ∈ gtbl := g_in (List.mem_of_getElem? (i := 274) (by decide +kernel)) (by decide +kernel)
theorem kk_276 : Cond.code yX8_init cX8_init 2 none ∈ gtbl := g_in (List.mem_of_getElem? (i := 276) (by decide +kernel)) (by decide +kernel)
theorem kk_275 : Cond.instanceMethod yX8_init ∈ gtbl := g_in (List.mem_of_getElem? (i := 275) (by decide +kernel)) (by decide +kernel)
theorem ki_X9_19 : KI RX9 19 mX8_init 1 := ⟨⟨kk_274, kk_124, kk_276, by decide +kernel⟩, rfl, rfl, rfl, kk_275⟩
theorem ff_X9_22 : FF RX9 22 9 0 (.object "StoryTapestry$Row") := ⟨RX9, TX9, 8, tyX9, rfl, by decide, il_9, tyX9_ok, nmX9, rfl, rfl, rfl, kk_498⟩
theorem kk_303 : Cond.classLink RX9 26 RX4 ∈ gtbl := g_in (List.mem_of_getElem? (i := 303) (by decide +kernel)) (by decide +kernel)
theorem kk_304 : Cond.instantiable RX4 9 ∈ gtbl := g_in (List.mem_of_getElem? (i := 304) (by decide +kernel)) (by decide +kernel)
theorem nl_X9_26 : NL RX9 26 4 9 [.null, .null, .null, .null, .int 0, .int 0, .int 0, .int 0, .int 0] := ⟨RX4, TX4, tyX4, rfl, il_4, tyX4_ok, kk_303, kk_304, kk_125, by intro j hj; match j, hj with
  | 0, _ => rfl
  | 1, _ => rfl
  | 2, _ => rfl
  | 3, _ => rfl
  | 4, _ => rfl
  | 5, _ => rfl
  | 6, _ => rfl
  | 7, _ => rfl
  | 8, _ => rfl
  | j + 9, hj => exact absurd hj (by omega)⟩
abbrev mX4_init : MT := (yX4_init, cX4_init, 2, none, [])
theorem kk_308 : Cond.methodLink RX4 3 Lib.objectInit ∈ gtbl := g_in (List.mem_of_getElem? (i := 308) (by decide +kernel)) (by decide +kernel)
theorem ko_X4_3 : KO RX4 3 := ⟨kk_308, kk_150, kk_151⟩
theorem kk_309 : Cond.classLink RX4 9 RX7 ∈ gtbl := g_in (List.mem_of_getElem? (i := 309) (by decide +kernel)) (by decide +kernel)
theorem kk_310 : Cond.instantiable RX7 10 ∈ gtbl := g_in (List.mem_of_getElem? (i := 310) (by decide +kernel)) (by decide +kernel)
theorem nl_X4_9 : NL RX4 9 7 10 [.null, .null, .null, .null, .null, .null, .int 0, .int 0, .int 0, .long 0] := ⟨RX7, TX7, tyX7, rfl, il_7, tyX7_ok, kk_309, kk_310, kk_126, by intro j hj; match j, hj with
  | 0, _ => rfl
  | 1, _ => rfl
  | 2, _ => rfl
  | 3, _ => rfl
  | 4, _ => rfl
  | 5, _ => rfl
  | 6, _ => rfl
  | 7, _ => rfl
  | 8, _ => rfl
  | 9, _ => rfl
  | j + 10, hj => exact absurd hj (by omega)⟩
abbrev mX7_init : MT := (yX7_init, cX7_init, 2, none, [])
theorem kk_314 : Cond.methodLink RX7 3 Lib.objectInit ∈ gtbl := g_in (List.mem_of_getElem? (i := 314) (by decide +kernel)) (by decide +kernel)
theorem ko_X7_3 : KO RX7 3 := ⟨kk_314, kk_150, kk_151⟩
theorem ff_X7_9 : FF RX7 9 7 0 (.object "StoryTapestry$Row") := ⟨RX7, TX7, 10, tyX7, rfl, by decide, il_7, tyX7_ok, nmX7, rfl, rfl, rfl, kk_396⟩
theorem kk_315 : Cond.classLink RX7 15 RX5 ∈ gtbl := g_in (List.mem_of_getElem? (i := 315) (by decide +kernel)) (by decide +kernel)
theorem nl_X7_15 : NL RX7 15 5 1 [.null] := ⟨RX5, TX5, tyX5, rfl, il_5, tyX5_ok, kk_315, kk_153, kk_120, by intro j hj; match j, hj with
  | 0, _ => rfl
  | j + 1, hj => exact absurd hj (by omega)⟩
theorem kk_316 : Cond.methodLink RX7 17 yX5_init ∈ gtbl := g_in (List.mem_of_getElem? (i := 316) (by decide +kernel)) (by decide +kernel)
theorem ki_X7_17 : KI RX7 17 mX5_init 1 := ⟨⟨kk_316, kk_120, kk_156, by decide +kernel⟩, rfl, rfl, rfl, kk_155⟩
theorem ff_X7_20 : FF RX7 20 7 1 (.object "StoryTapestry$Row") := ⟨RX7, TX7, 10, tyX7, rfl, by decide, il_7, tyX7_ok, nmX7, rfl, rfl, rfl, kk_397⟩
theorem ff_X7_23 : FF RX7 23 7 2 (.object "StoryTapestry$Row") := ⟨RX7, TX7, 10, tyX7, rfl, by decide, il_7, tyX7_ok, nmX7, rfl, rfl, rfl, kk_399⟩
theorem ff_X7_26 : FF RX7 26 7 3 (.object "StoryTapestry$Row") := ⟨RX7, TX7, 10, tyX7, rfl, by decide, il_7, tyX7_ok, nmX7, rfl, rfl, rfl, kk_401⟩
theorem kk_331 : Cond.arrayClass .long ∈ gtbl := g_in (List.mem_of_getElem? (i := 331) (by decide +kernel)) (by decide +kernel)
theorem ff_X7_29 : FF RX7 29 7 4 (.array .long) := ⟨RX7, TX7, 10, tyX7, rfl, by decide, il_7, tyX7_ok, nmX7, rfl, rfl, rfl, kk_403⟩
theorem kk_317 : Cond.classLink RX7 33 RX2 ∈ gtbl := g_in (List.mem_of_getElem? (i := 317) (by decide +kernel)) (by decide +kernel)
theorem kk_318 : Cond.instantiable RX2 2 ∈ gtbl := g_in (List.mem_of_getElem? (i := 318) (by decide +kernel)) (by decide +kernel)
theorem nl_X7_33 : NL RX7 33 2 2 [.null, .int 0] := ⟨RX2, TX2, tyX2, rfl, il_2, tyX2_ok, kk_317, kk_318, kk_127, by intro j hj; match j, hj with
  | 0, _ => rfl
  | 1, _ => rfl
  | j + 2, hj => exact absurd hj (by omega)⟩
abbrev mX2_init : MT := (yX2_init, cX2_init, 2, none, [])
theorem kk_322 : Cond.methodLink RX2 1 Lib.objectInit ∈ gtbl := g_in (List.mem_of_getElem? (i := 322) (by decide +kernel)) (by decide +kernel)
theorem ko_X2_1 : KO RX2 1 := ⟨kk_322, kk_150, kk_151⟩
theorem ff_X2_7 : FF RX2 7 2 0 (.array .long) := ⟨RX2, TX2, 2, tyX2, rfl, by decide, il_2, tyX2_ok, nmX2, rfl, rfl, rfl, kk_323⟩
theorem kk_319 : Cond.methodLink RX7 35 yX2_init ∈ gtbl := g_in (List.mem_of_getElem? (i := 319) (by decide +kernel)) (by decide +kernel)
theorem kk_321 : Cond.code yX2_init cX2_init 2 none ∈ gtbl := g_in (List.mem_of_getElem? (i := 321) (by decide +kernel)) (by decide +kernel)
theorem kk_320 : Cond.instanceMethod yX2_init ∈ gtbl := g_in (List.mem_of_getElem? (i := 320) (by decide +kernel)) (by decide +kernel)
theorem ki_X7_35 : KI RX7 35 mX2_init 1 := ⟨⟨kk_319, kk_127, kk_321, by decide +kernel⟩, rfl, rfl, rfl, kk_320⟩
theorem ff_X7_36 : FF RX7 36 7 5 (.object "StoryTapestry$Names") := ⟨RX7, TX7, 10, tyX7, rfl, by decide, il_7, tyX7_ok, nmX7, rfl, rfl, rfl, kk_404⟩
theorem kk_332 : Cond.methodLink RX7 40 yX7_fillKeywords ∈ gtbl := g_in (List.mem_of_getElem? (i := 332) (by decide +kernel)) (by decide +kernel)
theorem kk_335 : Cond.code yX7_fillKeywords cX7_fillKeywords 5 none ∈ gtbl := g_in (List.mem_of_getElem? (i := 335) (by decide +kernel)) (by decide +kernel)
theorem kk_334 : Cond.instanceMethod yX7_fillKeywords ∈ gtbl := g_in (List.mem_of_getElem? (i := 334) (by decide +kernel)) (by decide +kernel)
theorem kk_0 : Cond.selects RX7 yX7_fillKeywords yX7_fillKeywords ∈ gtbl := g_in (List.mem_of_getElem? (i := 0) (by decide +kernel)) (by decide +kernel)
theorem kv_X7_40 : KV RX7 40 mX7_fillKeywords 0 := ⟨⟨kk_332, kk_126, kk_335, by decide +kernel⟩, rfl, kk_334, kk_0⟩
theorem kk_311 : Cond.methodLink RX4 11 yX7_init ∈ gtbl := g_in (List.mem_of_getElem? (i := 311) (by decide +kernel)) (by decide +kernel)
theorem kk_313 : Cond.code yX7_init cX7_init 2 none ∈ gtbl := g_in (List.mem_of_getElem? (i := 313) (by decide +kernel)) (by decide +kernel)
theorem kk_312 : Cond.instanceMethod yX7_init ∈ gtbl := g_in (List.mem_of_getElem? (i := 312) (by decide +kernel)) (by decide +kernel)
theorem ki_X4_11 : KI RX4 11 mX7_init 1 := ⟨⟨kk_311, kk_126, kk_313, by decide +kernel⟩, rfl, rfl, rfl, kk_312⟩
theorem ff_X4_14 : FF RX4 14 4 0 (.object "StoryTapestry$Tokens") := ⟨RX4, TX4, 9, tyX4, rfl, by decide, il_4, tyX4_ok, nmX4, rfl, rfl, rfl, kk_435⟩
theorem kk_431 : Cond.classLink RX4 20 RX6 ∈ gtbl := g_in (List.mem_of_getElem? (i := 431) (by decide +kernel)) (by decide +kernel)
theorem nl_X4_20 : NL RX4 20 6 4 [.null, .null, .int 0, .int 0] := ⟨RX6, TX6, tyX6, rfl, il_6, tyX6_ok, kk_431, kk_164, kk_121, by intro j hj; match j, hj with
  | 0, _ => rfl
  | 1, _ => rfl
  | 2, _ => rfl
  | 3, _ => rfl
  | j + 4, hj => exact absurd hj (by omega)⟩
theorem kk_432 : Cond.methodLink RX4 22 yX6_init ∈ gtbl := g_in (List.mem_of_getElem? (i := 432) (by decide +kernel)) (by decide +kernel)
theorem ki_X4_22 : KI RX4 22 mX6_init 0 := ⟨⟨kk_432, kk_121, kk_167, by decide +kernel⟩, rfl, rfl, rfl, kk_166⟩
theorem ff_X4_23 : FF RX4 23 4 1 (.object "StoryTapestry$Tapestry") := ⟨RX4, TX4, 9, tyX4, rfl, by decide, il_4, tyX4_ok, nmX4, rfl, rfl, rfl, kk_436⟩
theorem kk_433 : Cond.classLink RX4 27 RX2 ∈ gtbl := g_in (List.mem_of_getElem? (i := 433) (by decide +kernel)) (by decide +kernel)
theorem nl_X4_27 : NL RX4 27 2 2 [.null, .int 0] := ⟨RX2, TX2, tyX2, rfl, il_2, tyX2_ok, kk_433, kk_318, kk_127, by intro j hj; match j, hj with
  | 0, _ => rfl
  | 1, _ => rfl
  | j + 2, hj => exact absurd hj (by omega)⟩
theorem kk_434 : Cond.methodLink RX4 29 yX2_init ∈ gtbl := g_in (List.mem_of_getElem? (i := 434) (by decide +kernel)) (by decide +kernel)
theorem ki_X4_29 : KI RX4 29 mX2_init 1 := ⟨⟨kk_434, kk_127, kk_321, by decide +kernel⟩, rfl, rfl, rfl, kk_320⟩
theorem ff_X4_32 : FF RX4 32 4 2 (.object "StoryTapestry$Names") := ⟨RX4, TX4, 9, tyX4, rfl, by decide, il_4, tyX4_ok, nmX4, rfl, rfl, rfl, kk_438⟩
theorem ff_X4_36 : FF RX4 36 4 3 (.object "StoryTapestry$Names") := ⟨RX4, TX4, 9, tyX4, rfl, by decide, il_4, tyX4_ok, nmX4, rfl, rfl, rfl, kk_439⟩
theorem kk_305 : Cond.methodLink RX9 28 yX4_init ∈ gtbl := g_in (List.mem_of_getElem? (i := 305) (by decide +kernel)) (by decide +kernel)
theorem kk_307 : Cond.code yX4_init cX4_init 2 none ∈ gtbl := g_in (List.mem_of_getElem? (i := 307) (by decide +kernel)) (by decide +kernel)
theorem kk_306 : Cond.instanceMethod yX4_init ∈ gtbl := g_in (List.mem_of_getElem? (i := 306) (by decide +kernel)) (by decide +kernel)
theorem ki_X9_28 : KI RX9 28 mX4_init 1 := ⟨⟨kk_305, kk_125, kk_307, by decide +kernel⟩, rfl, rfl, rfl, kk_306⟩
theorem ff_X9_31 : FF RX9 31 9 1 (.object "StoryTapestry$Reader") := ⟨RX9, TX9, 8, tyX9, rfl, by decide, il_9, tyX9_ok, nmX9, rfl, rfl, rfl, kk_499⟩
theorem ff_X9_35 : FF RX9 35 9 2 (.object "StoryTapestry$Tapestry") := ⟨RX9, TX9, 8, tyX9, rfl, by decide, il_9, tyX9_ok, nmX9, rfl, rfl, rfl, kk_500⟩
theorem ff_X9_39 : FF RX9 39 9 3 (.object "StoryTapestry$Verdict") := ⟨RX9, TX9, 8, tyX9, rfl, by decide, il_9, tyX9_ok, nmX9, rfl, rfl, rfl, kk_501⟩
theorem kk_465 : Cond.classLink RX9 43 RX1 ∈ gtbl := g_in (List.mem_of_getElem? (i := 465) (by decide +kernel)) (by decide +kernel)
theorem kk_466 : Cond.instantiable RX1 7 ∈ gtbl := g_in (List.mem_of_getElem? (i := 466) (by decide +kernel)) (by decide +kernel)
theorem nl_X9_43 : NL RX9 43 1 7 [.null, .null, .null, .int 0, .int 0, .int 0, .int 0] := ⟨RX1, TX1, tyX1, rfl, il_1, tyX1_ok, kk_465, kk_466, kk_132, by intro j hj; match j, hj with
  | 0, _ => rfl
  | 1, _ => rfl
  | 2, _ => rfl
  | 3, _ => rfl
  | 4, _ => rfl
  | 5, _ => rfl
  | 6, _ => rfl
  | j + 7, hj => exact absurd hj (by omega)⟩
abbrev mX1_init : MT := (yX1_init, cX1_init, 3, none, [])
theorem kk_470 : Cond.methodLink RX1 3 Lib.objectInit ∈ gtbl := g_in (List.mem_of_getElem? (i := 470) (by decide +kernel)) (by decide +kernel)
theorem ko_X1_3 : KO RX1 3 := ⟨kk_470, kk_150, kk_151⟩
theorem ff_X1_9 : FF RX1 9 1 0 (.object "StoryTapestry$Tapestry") := ⟨RX1, TX1, 7, tyX1, rfl, by decide, il_1, tyX1_ok, nmX1, rfl, rfl, rfl, kk_473⟩
theorem ff_X1_15 : FF RX1 15 1 1 (.object "StoryTapestry$Verdict") := ⟨RX1, TX1, 7, tyX1, rfl, by decide, il_1, tyX1_ok, nmX1, rfl, rfl, rfl, kk_474⟩
theorem kk_471 : Cond.classLink RX1 19 RX5 ∈ gtbl := g_in (List.mem_of_getElem? (i := 471) (by decide +kernel)) (by decide +kernel)
theorem nl_X1_19 : NL RX1 19 5 1 [.null] := ⟨RX5, TX5, tyX5, rfl, il_5, tyX5_ok, kk_471, kk_153, kk_120, by intro j hj; match j, hj with
  | 0, _ => rfl
  | j + 1, hj => exact absurd hj (by omega)⟩
theorem kk_472 : Cond.methodLink RX1 21 yX5_init ∈ gtbl := g_in (List.mem_of_getElem? (i := 472) (by decide +kernel)) (by decide +kernel)
theorem ki_X1_21 : KI RX1 21 mX5_init 1 := ⟨⟨kk_472, kk_120, kk_156, by decide +kernel⟩, rfl, rfl, rfl, kk_155⟩
theorem ff_X1_24 : FF RX1 24 1 2 (.object "StoryTapestry$Row") := ⟨RX1, TX1, 7, tyX1, rfl, by decide, il_1, tyX1_ok, nmX1, rfl, rfl, rfl, kk_475⟩
theorem kk_467 : Cond.methodLink RX9 45 yX1_init ∈ gtbl := g_in (List.mem_of_getElem? (i := 467) (by decide +kernel)) (by decide +kernel)
theorem kk_469 : Cond.code yX1_init cX1_init 3 none ∈ gtbl := g_in (List.mem_of_getElem? (i := 469) (by decide +kernel)) (by decide +kernel)
theorem kk_468 : Cond.instanceMethod yX1_init ∈ gtbl := g_in (List.mem_of_getElem? (i := 468) (by decide +kernel)) (by decide +kernel)
theorem ki_X9_45 : KI RX9 45 mX1_init 2 := ⟨⟨kk_467, kk_132, kk_469, by decide +kernel⟩, rfl, rfl, rfl, kk_468⟩
theorem ff_X9_48 : FF RX9 48 9 4 (.object "StoryTapestry$Course") := ⟨RX9, TX9, 8, tyX9, rfl, by decide, il_9, tyX9_ok, nmX9, rfl, rfl, rfl, kk_502⟩
theorem ff_X9_52 : FF RX9 52 9 5 (.object "StoryTapestry$Course") := ⟨RX9, TX9, 8, tyX9, rfl, by decide, il_9, tyX9_ok, nmX9, rfl, rfl, rfl, kk_503⟩
abbrev mX11_init : MT := (yX11_init, cX11_init, 1, none, [])
theorem kk_1354 : Cond.methodLink RX11 1 Lib.objectInit ∈ gtbl := g_in (List.mem_of_getElem? (i := 1354) (by decide +kernel)) (by decide +kernel)
theorem ko_X11_1 : KO RX11 1 := ⟨kk_1354, kk_150, kk_151⟩
theorem ff_X11_9 : FF RX11 9 11 1 (.array .int) := ⟨RX11, TX11, 23, tyX11, rfl, by decide, il_11, tyX11_ok, nmX11, rfl, rfl, rfl, kk_1434⟩
theorem kk_1355 : Cond.classLink RX11 17 RX10 ∈ gtbl := g_in (List.mem_of_getElem? (i := 1355) (by decide +kernel)) (by decide +kernel)
theorem kk_1356 : Cond.instantiable RX10 19 ∈ gtbl := g_in (List.mem_of_getElem? (i := 1356) (by decide +kernel)) (by decide +kernel)
theorem kk_134 : Cond.initialized RX10 ∈ gtbl := g_in (List.mem_of_getElem? (i := 134) (by decide +kernel)) (by decide +kernel)
theorem nl_X11_17 : NL RX11 17 10 19 [.int 0, .null, .int 0, .null, .int 0, .null, .null, .null, .null, .null, .int 0, .null, .null, .null, .null, .null, .null, .null, .int 0] := ⟨RX10, TX10, tyX10, rfl, il_10, tyX10_ok, kk_1355, kk_1356, kk_134, by intro j hj; match j, hj with
  | 0, _ => rfl
  | 1, _ => rfl
  | 2, _ => rfl
  | 3, _ => rfl
  | 4, _ => rfl
  | 5, _ => rfl
  | 6, _ => rfl
  | 7, _ => rfl
  | 8, _ => rfl
  | 9, _ => rfl
  | 10, _ => rfl
  | 11, _ => rfl
  | 12, _ => rfl
  | 13, _ => rfl
  | 14, _ => rfl
  | 15, _ => rfl
  | 16, _ => rfl
  | 17, _ => rfl
  | 18, _ => rfl
  | j + 19, hj => exact absurd hj (by omega)⟩
abbrev mX10_init : MT := (yX10_init, cX10_init, 1, none, [])
theorem kk_1360 : Cond.methodLink RX10 3 Lib.objectInit ∈ gtbl := g_in (List.mem_of_getElem? (i := 1360) (by decide +kernel)) (by decide +kernel)
theorem ko_X10_3 : KO RX10 3 := ⟨kk_1360, kk_150, kk_151⟩
theorem kk_1362 : Cond.fieldLink RX10 9 RX10 "event" "[J" ∈ gtbl := g_in (List.mem_of_getElem? (i := 1362) (by decide +kernel)) (by decide +kernel)
theorem ff_X10_9 : FF RX10 9 10 1 (.array .long) := ⟨RX10, TX10, 19, tyX10, rfl, by decide, il_10, tyX10_ok, nmX10, rfl, rfl, rfl, kk_1362⟩
theorem kk_1365 : Cond.fieldLink RX10 15 RX10 "teller" "[J" ∈ gtbl := g_in (List.mem_of_getElem? (i := 1365) (by decide +kernel)) (by decide +kernel)
theorem ff_X10_15 : FF RX10 15 10 3 (.array .long) := ⟨RX10, TX10, 19, tyX10, rfl, by decide, il_10, tyX10_ok, nmX10, rfl, rfl, rfl, kk_1365⟩
theorem kk_1368 : Cond.fieldLink RX10 18 RX10 "kind" "[I" ∈ gtbl := g_in (List.mem_of_getElem? (i := 1368) (by decide +kernel)) (by decide +kernel)
theorem ff_X10_18 : FF RX10 18 10 5 (.array .int) := ⟨RX10, TX10, 19, tyX10, rfl, by decide, il_10, tyX10_ok, nmX10, rfl, rfl, rfl, kk_1368⟩
theorem kk_1370 : Cond.fieldLink RX10 22 RX10 "by" "[I" ∈ gtbl := g_in (List.mem_of_getElem? (i := 1370) (by decide +kernel)) (by decide +kernel)
theorem ff_X10_22 : FF RX10 22 10 6 (.array .int) := ⟨RX10, TX10, 19, tyX10, rfl, by decide, il_10, tyX10_ok, nmX10, rfl, rfl, rfl, kk_1370⟩
theorem kk_1372 : Cond.fieldLink RX10 25 RX10 "of" "[I" ∈ gtbl := g_in (List.mem_of_getElem? (i := 1372) (by decide +kernel)) (by decide +kernel)
theorem ff_X10_25 : FF RX10 25 10 7 (.array .int) := ⟨RX10, TX10, 19, tyX10, rfl, by decide, il_10, tyX10_ok, nmX10, rfl, rfl, rfl, kk_1372⟩
theorem kk_1374 : Cond.fieldLink RX10 28 RX10 "other" "[I" ∈ gtbl := g_in (List.mem_of_getElem? (i := 1374) (by decide +kernel)) (by decide +kernel)
theorem ff_X10_28 : FF RX10 28 10 8 (.array .int) := ⟨RX10, TX10, 19, tyX10, rfl, by decide, il_10, tyX10_ok, nmX10, rfl, rfl, rfl, kk_1374⟩
theorem kk_1376 : Cond.fieldLink RX10 31 RX10 "last" "[I" ∈ gtbl := g_in (List.mem_of_getElem? (i := 1376) (by decide +kernel)) (by decide +kernel)
theorem ff_X10_31 : FF RX10 31 10 9 (.array .int) := ⟨RX10, TX10, 19, tyX10, rfl, by decide, il_10, tyX10_ok, nmX10, rfl, rfl, rfl, kk_1376⟩
theorem kk_1379 : Cond.fieldLink RX10 34 RX10 "does" "[I" ∈ gtbl := g_in (List.mem_of_getElem? (i := 1379) (by decide +kernel)) (by decide +kernel)
theorem ff_X10_34 : FF RX10 34 10 11 (.array .int) := ⟨RX10, TX10, 19, tyX10, rfl, by decide, il_10, tyX10_ok, nmX10, rfl, rfl, rfl, kk_1379⟩
theorem kk_1381 : Cond.fieldLink RX10 37 RX10 "whom" "[I" ∈ gtbl := g_in (List.mem_of_getElem? (i := 1381) (by decide +kernel)) (by decide +kernel)
theorem ff_X10_37 : FF RX10 37 10 12 (.array .int) := ⟨RX10, TX10, 19, tyX10, rfl, by decide, il_10, tyX10_ok, nmX10, rfl, rfl, rfl, kk_1381⟩
theorem kk_1383 : Cond.fieldLink RX10 40 RX10 "begins" "[I" ∈ gtbl := g_in (List.mem_of_getElem? (i := 1383) (by decide +kernel)) (by decide +kernel)
theorem ff_X10_40 : FF RX10 40 10 13 (.array .int) := ⟨RX10, TX10, 19, tyX10, rfl, by decide, il_10, tyX10_ok, nmX10, rfl, rfl, rfl, kk_1383⟩
theorem kk_1385 : Cond.fieldLink RX10 43 RX10 "ends" "[I" ∈ gtbl := g_in (List.mem_of_getElem? (i := 1385) (by decide +kernel)) (by decide +kernel)
theorem ff_X10_43 : FF RX10 43 10 14 (.array .int) := ⟨RX10, TX10, 19, tyX10, rfl, by decide, il_10, tyX10_ok, nmX10, rfl, rfl, rfl, kk_1385⟩
theorem kk_1387 : Cond.fieldLink RX10 46 RX10 "order" "[I" ∈ gtbl := g_in (List.mem_of_getElem? (i := 1387) (by decide +kernel)) (by decide +kernel)
theorem ff_X10_46 : FF RX10 46 10 15 (.array .int) := ⟨RX10, TX10, 19, tyX10, rfl, by decide, il_10, tyX10_ok, nmX10, rfl, rfl, rfl, kk_1387⟩
theorem kk_1389 : Cond.fieldLink RX10 49 RX10 "with" "[I" ∈ gtbl := g_in (List.mem_of_getElem? (i := 1389) (by decide +kernel)) (by decide +kernel)
theorem ff_X10_49 : FF RX10 49 10 16 (.array .int) := ⟨RX10, TX10, 19, tyX10, rfl, by decide, il_10, tyX10_ok, nmX10, rfl, rfl, rfl, kk_1389⟩
theorem kk_1391 : Cond.fieldLink RX10 52 RX10 "also" "[I" ∈ gtbl := g_in (List.mem_of_getElem? (i := 1391) (by decide +kernel)) (by decide +kernel)
theorem ff_X10_52 : FF RX10 52 10 17 (.array .int) := ⟨RX10, TX10, 19, tyX10, rfl, by decide, il_10, tyX10_ok, nmX10, rfl, rfl, rfl, kk_1391⟩
theorem kn_1357 : Cond.methodLinkNest RX11 19 yX10_init "StoryTapestryModel" ∈ gnest := n_in (List.mem_of_getElem? (i := 1357) (by decide +kernel)) (by decide +kernel)
theorem kk_1359 : Cond.code yX10_init cX10_init 1 none ∈ gtbl := g_in (List.mem_of_getElem? (i := 1359) (by decide +kernel)) (by decide +kernel)
theorem kk_1358 : Cond.instanceMethod yX10_init ∈ gtbl := g_in (List.mem_of_getElem? (i := 1358) (by decide +kernel)) (by decide +kernel)
theorem kj_X11_19 : KIN RX11 19 mX10_init 0 := ⟨⟨_, kn_1357⟩, kk_134, kk_1359, rfl, by decide +kernel, rfl, rfl, kk_1358⟩
theorem ff_X11_24 : FF RX11 24 11 5 (.array .int) := ⟨RX11, TX11, 23, tyX11, rfl, by decide, il_11, tyX11_ok, nmX11, rfl, rfl, rfl, kk_1438⟩
theorem ff_X11_27 : FF RX11 27 11 6 (.array .int) := ⟨RX11, TX11, 23, tyX11, rfl, by decide, il_11, tyX11_ok, nmX11, rfl, rfl, rfl, kk_1439⟩
theorem ff_X11_30 : FF RX11 30 11 7 (.array .int) := ⟨RX11, TX11, 23, tyX11, rfl, by decide, il_11, tyX11_ok, nmX11, rfl, rfl, rfl, kk_1440⟩
theorem ff_X11_33 : FF RX11 33 11 8 (.array .long) := ⟨RX11, TX11, 23, tyX11, rfl, by decide, il_11, tyX11_ok, nmX11, rfl, rfl, rfl, kk_1441⟩
theorem ff_X11_37 : FF RX11 37 11 9 (.array .int) := ⟨RX11, TX11, 23, tyX11, rfl, by decide, il_11, tyX11_ok, nmX11, rfl, rfl, rfl, kk_1442⟩
theorem ff_X11_40 : FF RX11 40 11 16 (.array .int) := ⟨RX11, TX11, 23, tyX11, rfl, by decide, il_11, tyX11_ok, nmX11, rfl, rfl, rfl, kk_1449⟩
theorem ff_X11_46 : FF RX11 46 11 21 (.array .int) := ⟨RX11, TX11, 23, tyX11, rfl, by decide, il_11, tyX11_ok, nmX11, rfl, rfl, rfl, kk_1454⟩
theorem ff_X11_49 : FF RX11 49 11 22 (.array .int) := ⟨RX11, TX11, 23, tyX11, rfl, by decide, il_11, tyX11_ok, nmX11, rfl, rfl, rfl, kk_1455⟩
def wlF (g : GG) (af : Nat → Nat) (pf : Nat) (f0 : Int32) (f1 : Int32) (f2 : Int32) (f3 : Int64) (f4 : Nat → Int32) (f5 : Nat → Int32) (f6 : Nat → Int32) (f7 : Nat → Int64) (f8 : Int32) (f9 : Nat → Int64) : va_W := [(af 0, .inr (7, [.ref pf, .ref (af 1), .ref (af 3), .ref (af 5), .ref (af 7), .ref (af 8), .int f0, .int f1, .int f2, .long f3])),
  (af 1, .inr (5, [.ref (af 2)])),
  (af 2, iA g 401 f4),
  (af 3, .inr (5, [.ref (af 4)])),
  (af 4, iA g 401 f5),
  (af 5, .inr (5, [.ref (af 6)])),
  (af 6, iA g 401 f6),
  (af 7, lA g 401 f7),
  (af 8, .inr (2, [.ref (af 9), .int f8])),
  (af 9, lA g 25 f9)]
section LK
variable {g : GG} {ad am ap af : Nat → Nat} {pm pf : Nat} {t : va_W}
variable {f0 : Int32}
variable {f1 : Int32}
variable {f2 : Int32}
variable {f3 : Int64}
variable {f4 : Nat → Int32}
variable {f5 : Nat → Int32}
variable {f6 : Nat → Int32}
variable {f7 : Nat → Int64}
variable {f8 : Int32}
variable {f9 : Nat → Int64}
theorem lF_0 : (wlF g af pf f0 f1 f2 f3 f4 f5 f6 f7 f8 f9 ++ t)[0]? = some (af 0, .inr (7, [.ref pf, .ref (af 1), .ref (af 3), .ref (af 5), .ref (af 7), .ref (af 8), .int f0, .int f1, .int f2, .long f3])) := rfl
theorem lF_1 : (wlF g af pf f0 f1 f2 f3 f4 f5 f6 f7 f8 f9 ++ t)[1]? = some (af 1, .inr (5, [.ref (af 2)])) := rfl
theorem lF_2 : (wlF g af pf f0 f1 f2 f3 f4 f5 f6 f7 f8 f9 ++ t)[2]? = some (af 2, iA g 401 f4) := rfl
theorem lF_3 : (wlF g af pf f0 f1 f2 f3 f4 f5 f6 f7 f8 f9 ++ t)[3]? = some (af 3, .inr (5, [.ref (af 4)])) := rfl
theorem lF_4 : (wlF g af pf f0 f1 f2 f3 f4 f5 f6 f7 f8 f9 ++ t)[4]? = some (af 4, iA g 401 f5) := rfl
theorem lF_5 : (wlF g af pf f0 f1 f2 f3 f4 f5 f6 f7 f8 f9 ++ t)[5]? = some (af 5, .inr (5, [.ref (af 6)])) := rfl
theorem lF_6 : (wlF g af pf f0 f1 f2 f3 f4 f5 f6 f7 f8 f9 ++ t)[6]? = some (af 6, iA g 401 f6) := rfl
theorem lF_7 : (wlF g af pf f0 f1 f2 f3 f4 f5 f6 f7 f8 f9 ++ t)[7]? = some (af 7, lA g 401 f7) := rfl
theorem lF_8 : (wlF g af pf f0 f1 f2 f3 f4 f5 f6 f7 f8 f9 ++ t)[8]? = some (af 8, .inr (2, [.ref (af 9), .int f8])) := rfl
theorem lF_9 : (wlF g af pf f0 f1 f2 f3 f4 f5 f6 f7 f8 f9 ++ t)[9]? = some (af 9, lA g 25 f9) := rfl
theorem sF_0 (v : Int32) : (wlF g af pf f0 f1 f2 f3 f4 f5 f6 f7 f8 f9 ++ t).set 0 (af 0, .inr (7, [.ref pf, .ref (af 1), .ref (af 3), .ref (af 5), .ref (af 7), .ref (af 8), .int v, .int f1, .int f2, .long f3])) = (wlF g af pf v f1 f2 f3 f4 f5 f6 f7 f8 f9 ++ t) := rfl
theorem sF_1 (v : Int32) : (wlF g af pf f0 f1 f2 f3 f4 f5 f6 f7 f8 f9 ++ t).set 0 (af 0, .inr (7, [.ref pf, .ref (af 1), .ref (af 3), .ref (af 5), .ref (af 7), .ref (af 8), .int f0, .int v, .int f2, .long f3])) = (wlF g af pf f0 v f2 f3 f4 f5 f6 f7 f8 f9 ++ t) := rfl
theorem sF_2 (v : Int32) : (wlF g af pf f0 f1 f2 f3 f4 f5 f6 f7 f8 f9 ++ t).set 0 (af 0, .inr (7, [.ref pf, .ref (af 1), .ref (af 3), .ref (af 5), .ref (af 7), .ref (af 8), .int f0, .int f1, .int v, .long f3])) = (wlF g af pf f0 f1 v f3 f4 f5 f6 f7 f8 f9 ++ t) := rfl
theorem sF_3 (v : Int64) : (wlF g af pf f0 f1 f2 f3 f4 f5 f6 f7 f8 f9 ++ t).set 0 (af 0, .inr (7, [.ref pf, .ref (af 1), .ref (af 3), .ref (af 5), .ref (af 7), .ref (af 8), .int f0, .int f1, .int f2, .long v])) = (wlF g af pf f0 f1 f2 v f4 f5 f6 f7 f8 f9 ++ t) := rfl
theorem sF_4 (v : Nat → Int32) : (wlF g af pf f0 f1 f2 f3 f4 f5 f6 f7 f8 f9 ++ t).set 2 (af 2, iA g 401 v) = (wlF g af pf f0 f1 f2 f3 v f5 f6 f7 f8 f9 ++ t) := rfl
theorem sF_5 (v : Nat → Int32) : (wlF g af pf f0 f1 f2 f3 f4 f5 f6 f7 f8 f9 ++ t).set 4 (af 4, iA g 401 v) = (wlF g af pf f0 f1 f2 f3 f4 v f6 f7 f8 f9 ++ t) := rfl
theorem sF_6 (v : Nat → Int32) : (wlF g af pf f0 f1 f2 f3 f4 f5 f6 f7 f8 f9 ++ t).set 6 (af 6, iA g 401 v) = (wlF g af pf f0 f1 f2 f3 f4 f5 v f7 f8 f9 ++ t) := rfl
theorem sF_7 (v : Nat → Int64) : (wlF g af pf f0 f1 f2 f3 f4 f5 f6 f7 f8 f9 ++ t).set 7 (af 7, lA g 401 v) = (wlF g af pf f0 f1 f2 f3 f4 f5 f6 v f8 f9 ++ t) := rfl
theorem sF_8 (v : Int32) : (wlF g af pf f0 f1 f2 f3 f4 f5 f6 f7 f8 f9 ++ t).set 8 (af 8, .inr (2, [.ref (af 9), .int v])) = (wlF g af pf f0 f1 f2 f3 f4 f5 f6 f7 v f9 ++ t) := rfl
theorem sF_9 (v : Nat → Int64) : (wlF g af pf f0 f1 f2 f3 f4 f5 f6 f7 f8 f9 ++ t).set 9 (af 9, lA g 25 v) = (wlF g af pf f0 f1 f2 f3 f4 f5 f6 f7 f8 v ++ t) := rfl
end LK
theorem pm_of {A B t : va_W} (is : List Nat) (hp : is.Perm (List.range B.length)) (hm : A = is.map (fun i => B.getD i (0, .inr (0, [])))) : (A ++ t).Perm (B ++ t) := by
  refine List.Perm.append_right t ?_
  have h := hp.map (fun i => B.getD i (0, .inr (0, [])))
  rw [← hm] at h
  refine h.trans ?_
  have e : (List.range B.length).map (fun i => B.getD i (0, .inr (0, []))) = B := by
    apply List.ext_getElem
    · simp
    · intro i h1 h2
      simp [List.getElem_map, List.getElem_range, List.getD_eq_getElem?_getD, List.getElem?_eq_getElem h2]
  rw [e]
abbrev Dx1 (a : Nat) (W : (Nat → Nat) → va_W) : Rs → va_W → Prop := fun r w => r = .inl none ∧ ∃ b : Nat → Nat, b 0 = a ∧ w = W b
abbrev Dx2 (a : Nat) (W : (Nat → Nat) → (Nat → Nat) → va_W) : Rs → va_W → Prop := fun r w => r = .inl none ∧ ∃ b b2 : Nat → Nat, b 0 = a ∧ w = W b b2
theorem Dx1.no {a : Nat} {W : (Nat → Nat) → va_W} : ∀ E w, ¬ Dx1 a W (.inr E) w := fun _ _ h => nomatch h.1
theorem Dx2.no {a : Nat} {W : (Nat → Nat) → (Nat → Nat) → va_W} : ∀ E w, ¬ Dx2 a W (.inr E) w := fun _ _ h => nomatch h.1
abbrev Dn (W : (Nat → Nat) → va_W) : Rs → va_W → Prop := fun r w => r = .inl none ∧ ∃ b : Nat → Nat, w = W b
theorem Dn.no {W : (Nat → Nat) → va_W} : ∀ E w, ¬ Dn W (.inr E) w := fun _ _ h => nomatch h.1
