theorem kk_301 : Cond.methodLink RJ1 9 yJ0_checkIndex_df160 ∈ gtbl := g_in (List.mem_of_getElem? (i := 301) (by decide +kernel)) (by decide +kernel)
theorem kk_303 : Cond.code yJ0_checkIndex_df160 cJ0_checkIndex_df160 2 none ∈ gtbl := g_in (List.mem_of_getElem? (i := 303) (by decide +kernel)) (by decide +kernel)
theorem kk_302 : Cond.static yJ0_checkIndex_df160 ∈ gtbl := g_in (List.mem_of_getElem? (i := 302) (by decide +kernel)) (by decide +kernel)
theorem ks_J1_9 : KS RJ1 9 mJ0_checkIndex_df160 2 := ⟨⟨kk_301, kk_66, kk_303, by decide +kernel⟩, rfl, kk_302⟩
abbrev mJ1_charAt_3b067 : MT := (yJ1_charAt_3b067, cJ1_charAt_3b067, 2, (some .char), [])
theorem kk_298 : Cond.methodLink RJ0 495 yJ1_charAt_3b067 ∈ gtbl := g_in (List.mem_of_getElem? (i := 298) (by decide +kernel)) (by decide +kernel)
theorem kk_300 : Cond.code yJ1_charAt_3b067 cJ1_charAt_3b067 2 (some .char) ∈ gtbl := g_in (List.mem_of_getElem? (i := 300) (by decide +kernel)) (by decide +kernel)
theorem kk_299 : Cond.static yJ1_charAt_3b067 ∈ gtbl := g_in (List.mem_of_getElem? (i := 299) (by decide +kernel)) (by decide +kernel)
theorem ks_J0_495 : KS RJ0 495 mJ1_charAt_3b067 2 := ⟨⟨kk_298, kk_67, kk_300, by decide +kernel⟩, rfl, kk_299⟩
abbrev mJ0_charAt_5068e : MT := (yJ0_charAt_5068e, cJ0_charAt_5068e, 2, (some .char), [])
theorem kk_280 : Cond.methodLink RX7 45 yJ0_length_8abf5 ∈ gtbl := g_in (List.mem_of_getElem? (i := 280) (by decide +kernel)) (by decide +kernel)
theorem kv_X7_45 : KV RX7 45 mJ0_length_8abf5 0 := ⟨⟨kk_280, kk_66, kk_283, by decide +kernel⟩, rfl, kk_281, kk_282⟩
theorem kk_290 : Cond.methodLink RX7 51 yJ0_charAt_5068e ∈ gtbl := g_in (List.mem_of_getElem? (i := 290) (by decide +kernel)) (by decide +kernel)
theorem kk_293 : Cond.code yJ0_charAt_5068e cJ0_charAt_5068e 2 (some .char) ∈ gtbl := g_in (List.mem_of_getElem? (i := 293) (by decide +kernel)) (by decide +kernel)
theorem kk_291 : Cond.instanceMethod yJ0_charAt_5068e ∈ gtbl := g_in (List.mem_of_getElem? (i := 291) (by decide +kernel)) (by decide +kernel)
theorem kk_292 : Cond.selects RJ0 yJ0_charAt_5068e yJ0_charAt_5068e ∈ gtbl := g_in (List.mem_of_getElem? (i := 292) (by decide +kernel)) (by decide +kernel)
theorem kv_X7_51 : KV RX7 51 mJ0_charAt_5068e 1 := ⟨⟨kk_290, kk_66, kk_293, by decide +kernel⟩, rfl, kk_291, kk_292⟩
theorem kk_328 : Cond.methodLink RX7 55 yX2_add ∈ gtbl := g_in (List.mem_of_getElem? (i := 328) (by decide +kernel)) (by decide +kernel)
theorem kv_X7_55 : KV RX7 55 mX2_add 1 := ⟨⟨kk_328, kk_65, kk_331, by decide +kernel⟩, rfl, kk_329, kk_330⟩
abbrev mX7_fillKeywords : MT := (yX7_fillKeywords, cX7_fillKeywords, 5, none, [])
abbrev mX9_init : MT := (yX9_init, cX9_init, 4, none, [])
theorem kk_92 : Cond.methodLink RX9 1 Lib.objectInit ∈ gtbl := g_in (List.mem_of_getElem? (i := 92) (by decide +kernel)) (by decide +kernel)
theorem kk_93 : Cond.instanceMethod Lib.objectInit ∈ gtbl := g_in (List.mem_of_getElem? (i := 93) (by decide +kernel)) (by decide +kernel)
theorem kk_94 : Cond.code Lib.objectInit ⟨#[0xb1]⟩ 1 none ∈ gtbl := g_in (List.mem_of_getElem? (i := 94) (by decide +kernel)) (by decide +kernel)
theorem ko_X9_1 : KO RX9 1 := ⟨kk_92, kk_93, kk_94⟩
theorem kk_95 : Cond.classLink RX9 7 RX5 ∈ gtbl := g_in (List.mem_of_getElem? (i := 95) (by decide +kernel)) (by decide +kernel)
theorem kk_96 : Cond.instantiable RX5 1 ∈ gtbl := g_in (List.mem_of_getElem? (i := 96) (by decide +kernel)) (by decide +kernel)
theorem nl_X9_7 : NL RX9 7 5 1 [.null] := ⟨RX5, TX5, tyX5, rfl, il_5, tyX5_ok, kk_95, kk_96, kk_58, by intro j hj; match j, hj with
  | 0, _ => rfl
  | j + 1, hj => exact absurd hj (by omega)⟩
abbrev mX5_init : MT := (yX5_init, cX5_init, 2, none, [])
theorem kk_100 : Cond.methodLink RX5 1 Lib.objectInit ∈ gtbl := g_in (List.mem_of_getElem? (i := 100) (by decide +kernel)) (by decide +kernel)
theorem ko_X5_1 : KO RX5 1 := ⟨kk_100, kk_93, kk_94⟩
theorem kk_105 : Cond.arrayClass .int ∈ gtbl := g_in (List.mem_of_getElem? (i := 105) (by decide +kernel)) (by decide +kernel)
theorem ff_X5_7 : FF RX5 7 5 0 (.array (.int)) := ⟨RX5, TX5, 1, tyX5, rfl, by decide, il_5, tyX5_ok, nmX5, rfl, rfl, rfl, kk_101⟩
theorem kk_97 : Cond.methodLink RX9 11 yX5_init ∈ gtbl := g_in (List.mem_of_getElem? (i := 97) (by decide +kernel)) (by decide +kernel)
theorem kk_99 : Cond.code yX5_init cX5_init 2 none ∈ gtbl := g_in (List.mem_of_getElem? (i := 99) (by decide +kernel)) (by decide +kernel)
theorem kk_98 : Cond.instanceMethod yX5_init ∈ gtbl := g_in (List.mem_of_getElem? (i := 98) (by decide +kernel)) (by decide +kernel)
theorem ki_X9_11 : KI RX9 11 mX5_init 1 := ⟨⟨kk_97, kk_58, kk_99, by decide +kernel⟩, rfl, rfl, rfl, kk_98⟩
theorem kk_106 : Cond.classLink RX9 14 RX6 ∈ gtbl := g_in (List.mem_of_getElem? (i := 106) (by decide +kernel)) (by decide +kernel)
theorem kk_107 : Cond.instantiable RX6 4 ∈ gtbl := g_in (List.mem_of_getElem? (i := 107) (by decide +kernel)) (by decide +kernel)
theorem nl_X9_14 : NL RX9 14 6 4 [.null, .null, .int 0, .int 0] := ⟨RX6, TX6, tyX6, rfl, il_6, tyX6_ok, kk_106, kk_107, kk_59, by intro j hj; match j, hj with
  | 0, _ => rfl
  | 1, _ => rfl
  | 2, _ => rfl
  | 3, _ => rfl
  | j + 4, hj => exact absurd hj (by omega)⟩
abbrev mX6_init : MT := (yX6_init, cX6_init, 1, none, [])
theorem kk_111 : Cond.methodLink RX6 1 Lib.objectInit ∈ gtbl := g_in (List.mem_of_getElem? (i := 111) (by decide +kernel)) (by decide +kernel)
theorem ko_X6_1 : KO RX6 1 := ⟨kk_111, kk_93, kk_94⟩
theorem kk_112 : Cond.classLink RX6 7 RX0 ∈ gtbl := g_in (List.mem_of_getElem? (i := 112) (by decide +kernel)) (by decide +kernel)
theorem kk_113 : Cond.instantiable RX0 6 ∈ gtbl := g_in (List.mem_of_getElem? (i := 113) (by decide +kernel)) (by decide +kernel)
theorem nl_X6_7 : NL RX6 7 0 6 [.null, .null, .null, .null, .null, .int 0] := ⟨RX0, TX0, tyX0, rfl, il_0, tyX0_ok, kk_112, kk_113, kk_60, by intro j hj; match j, hj with
  | 0, _ => rfl
  | 1, _ => rfl
  | 2, _ => rfl
  | 3, _ => rfl
  | 4, _ => rfl
  | 5, _ => rfl
  | j + 6, hj => exact absurd hj (by omega)⟩
abbrev mX0_init : MT := (yX0_init, cX0_init, 1, none, [])
theorem kk_117 : Cond.methodLink RX0 3 Lib.objectInit ∈ gtbl := g_in (List.mem_of_getElem? (i := 117) (by decide +kernel)) (by decide +kernel)
theorem ko_X0_3 : KO RX0 3 := ⟨kk_117, kk_93, kk_94⟩
theorem kk_118 : Cond.classLink RX0 9 RX5 ∈ gtbl := g_in (List.mem_of_getElem? (i := 118) (by decide +kernel)) (by decide +kernel)
theorem nl_X0_9 : NL RX0 9 5 1 [.null] := ⟨RX5, TX5, tyX5, rfl, il_5, tyX5_ok, kk_118, kk_96, kk_58, by intro j hj; match j, hj with
  | 0, _ => rfl
  | j + 1, hj => exact absurd hj (by omega)⟩
theorem kk_119 : Cond.methodLink RX0 11 yX5_init ∈ gtbl := g_in (List.mem_of_getElem? (i := 119) (by decide +kernel)) (by decide +kernel)
theorem ki_X0_11 : KI RX0 11 mX5_init 1 := ⟨⟨kk_119, kk_58, kk_99, by decide +kernel⟩, rfl, rfl, rfl, kk_98⟩
theorem ff_X0_14 : FF RX0 14 0 0 (.object "StoryTapestry$Row") := ⟨RX0, TX0, 6, tyX0, rfl, by decide, il_0, tyX0_ok, nmX0, rfl, rfl, rfl, kk_120⟩
theorem ff_X0_20 : FF RX0 20 0 1 (.object "StoryTapestry$Row") := ⟨RX0, TX0, 6, tyX0, rfl, by decide, il_0, tyX0_ok, nmX0, rfl, rfl, rfl, kk_123⟩
theorem ff_X0_23 : FF RX0 23 0 2 (.object "StoryTapestry$Row") := ⟨RX0, TX0, 6, tyX0, rfl, by decide, il_0, tyX0_ok, nmX0, rfl, rfl, rfl, kk_126⟩
theorem ff_X0_26 : FF RX0 26 0 3 (.object "StoryTapestry$Row") := ⟨RX0, TX0, 6, tyX0, rfl, by decide, il_0, tyX0_ok, nmX0, rfl, rfl, rfl, kk_129⟩
theorem ff_X0_29 : FF RX0 29 0 4 (.object "StoryTapestry$Row") := ⟨RX0, TX0, 6, tyX0, rfl, by decide, il_0, tyX0_ok, nmX0, rfl, rfl, rfl, kk_132⟩
theorem kk_114 : Cond.methodLink RX6 9 yX0_init ∈ gtbl := g_in (List.mem_of_getElem? (i := 114) (by decide +kernel)) (by decide +kernel)
theorem kk_116 : Cond.code yX0_init cX0_init 1 none ∈ gtbl := g_in (List.mem_of_getElem? (i := 116) (by decide +kernel)) (by decide +kernel)
theorem kk_115 : Cond.instanceMethod yX0_init ∈ gtbl := g_in (List.mem_of_getElem? (i := 115) (by decide +kernel)) (by decide +kernel)
theorem ki_X6_9 : KI RX6 9 mX0_init 0 := ⟨⟨kk_114, kk_60, kk_116, by decide +kernel⟩, rfl, rfl, rfl, kk_115⟩
theorem ff_X6_10 : FF RX6 10 6 0 (.object "StoryTapestry$Claims") := ⟨RX6, TX6, 4, tyX6, rfl, by decide, il_6, tyX6_ok, nmX6, rfl, rfl, rfl, kk_190⟩
theorem kk_152 : Cond.classLink RX6 16 RX3 ∈ gtbl := g_in (List.mem_of_getElem? (i := 152) (by decide +kernel)) (by decide +kernel)
theorem kk_153 : Cond.instantiable RX3 7 ∈ gtbl := g_in (List.mem_of_getElem? (i := 153) (by decide +kernel)) (by decide +kernel)
theorem nl_X6_16 : NL RX6 16 3 7 [.null, .null, .null, .null, .null, .int 0, .int 0] := ⟨RX3, TX3, tyX3, rfl, il_3, tyX3_ok, kk_152, kk_153, kk_61, by intro j hj; match j, hj with
  | 0, _ => rfl
  | 1, _ => rfl
  | 2, _ => rfl
  | 3, _ => rfl
  | 4, _ => rfl
  | 5, _ => rfl
  | 6, _ => rfl
  | j + 7, hj => exact absurd hj (by omega)⟩
abbrev mX3_init : MT := (yX3_init, cX3_init, 1, none, [])
theorem kk_157 : Cond.methodLink RX3 3 Lib.objectInit ∈ gtbl := g_in (List.mem_of_getElem? (i := 157) (by decide +kernel)) (by decide +kernel)
theorem ko_X3_3 : KO RX3 3 := ⟨kk_157, kk_93, kk_94⟩
theorem kk_158 : Cond.classLink RX3 9 RX5 ∈ gtbl := g_in (List.mem_of_getElem? (i := 158) (by decide +kernel)) (by decide +kernel)
theorem nl_X3_9 : NL RX3 9 5 1 [.null] := ⟨RX5, TX5, tyX5, rfl, il_5, tyX5_ok, kk_158, kk_96, kk_58, by intro j hj; match j, hj with
  | 0, _ => rfl
  | j + 1, hj => exact absurd hj (by omega)⟩
theorem kk_159 : Cond.methodLink RX3 11 yX5_init ∈ gtbl := g_in (List.mem_of_getElem? (i := 159) (by decide +kernel)) (by decide +kernel)
theorem ki_X3_11 : KI RX3 11 mX5_init 1 := ⟨⟨kk_159, kk_58, kk_99, by decide +kernel⟩, rfl, rfl, rfl, kk_98⟩
theorem ff_X3_14 : FF RX3 14 3 0 (.object "StoryTapestry$Row") := ⟨RX3, TX3, 7, tyX3, rfl, by decide, il_3, tyX3_ok, nmX3, rfl, rfl, rfl, kk_160⟩
theorem ff_X3_20 : FF RX3 20 3 1 (.object "StoryTapestry$Row") := ⟨RX3, TX3, 7, tyX3, rfl, by decide, il_3, tyX3_ok, nmX3, rfl, rfl, rfl, kk_162⟩
theorem ff_X3_23 : FF RX3 23 3 2 (.object "StoryTapestry$Row") := ⟨RX3, TX3, 7, tyX3, rfl, by decide, il_3, tyX3_ok, nmX3, rfl, rfl, rfl, kk_164⟩
theorem ff_X3_26 : FF RX3 26 3 3 (.object "StoryTapestry$Row") := ⟨RX3, TX3, 7, tyX3, rfl, by decide, il_3, tyX3_ok, nmX3, rfl, rfl, rfl, kk_166⟩
theorem ff_X3_29 : FF RX3 29 3 4 (.object "StoryTapestry$Row") := ⟨RX3, TX3, 7, tyX3, rfl, by decide, il_3, tyX3_ok, nmX3, rfl, rfl, rfl, kk_168⟩
theorem kk_154 : Cond.methodLink RX6 18 yX3_init ∈ gtbl := g_in (List.mem_of_getElem? (i := 154) (by decide +kernel)) (by decide +kernel)
theorem kk_156 : Cond.code yX3_init cX3_init 1 none ∈ gtbl := g_in (List.mem_of_getElem? (i := 156) (by decide +kernel)) (by decide +kernel)
theorem kk_155 : Cond.instanceMethod yX3_init ∈ gtbl := g_in (List.mem_of_getElem? (i := 155) (by decide +kernel)) (by decide +kernel)
theorem ki_X6_18 : KI RX6 18 mX3_init 0 := ⟨⟨kk_154, kk_61, kk_156, by decide +kernel⟩, rfl, rfl, rfl, kk_155⟩
theorem ff_X6_19 : FF RX6 19 6 1 (.object "StoryTapestry$Orders") := ⟨RX6, TX6, 4, tyX6, rfl, by decide, il_6, tyX6_ok, nmX6, rfl, rfl, rfl, kk_195⟩
theorem kk_108 : Cond.methodLink RX9 16 yX6_init ∈ gtbl := g_in (List.mem_of_getElem? (i := 108) (by decide +kernel)) (by decide +kernel)
theorem kk_110 : Cond.code yX6_init cX6_init 1 none ∈ gtbl := g_in (List.mem_of_getElem? (i := 110) (by decide +kernel)) (by decide +kernel)
theorem kk_109 : Cond.instanceMethod yX6_init ∈ gtbl := g_in (List.mem_of_getElem? (i := 109) (by decide +kernel)) (by decide +kernel)
theorem ki_X9_16 : KI RX9 16 mX6_init 0 := ⟨⟨kk_108, kk_59, kk_110, by decide +kernel⟩, rfl, rfl, rfl, kk_109⟩
theorem kk_215 : Cond.classLink RX9 17 RX8 ∈ gtbl := g_in (List.mem_of_getElem? (i := 215) (by decide +kernel)) (by decide +kernel)
theorem kk_216 : Cond.instantiable RX8 7 ∈ gtbl := g_in (List.mem_of_getElem? (i := 216) (by decide +kernel)) (by decide +kernel)
theorem nl_X9_17 : NL RX9 17 8 7 [.null, .null, .null, .null, .int 0, .int 0, .int 0] := ⟨RX8, TX8, tyX8, rfl, il_8, tyX8_ok, kk_215, kk_216, kk_62, by intro j hj; match j, hj with
  | 0, _ => rfl
  | 1, _ => rfl
  | 2, _ => rfl
  | 3, _ => rfl
  | 4, _ => rfl
  | 5, _ => rfl
  | 6, _ => rfl
  | j + 7, hj => exact absurd hj (by omega)⟩
abbrev mX8_init : MT := (yX8_init, cX8_init, 2, none, [])
theorem kk_220 : Cond.methodLink RX8 3 Lib.objectInit ∈ gtbl := g_in (List.mem_of_getElem? (i := 220) (by decide +kernel)) (by decide +kernel)
theorem ko_X8_3 : KO RX8 3 := ⟨kk_220, kk_93, kk_94⟩
theorem ff_X8_9 : FF RX8 9 8 0 (.object "StoryTapestry$Tapestry") := ⟨RX8, TX8, 7, tyX8, rfl, by decide, il_8, tyX8_ok, nmX8, rfl, rfl, rfl, kk_223⟩
theorem kk_221 : Cond.classLink RX8 15 RX5 ∈ gtbl := g_in (List.mem_of_getElem? (i := 221) (by decide +kernel)) (by decide +kernel)
theorem nl_X8_15 : NL RX8 15 5 1 [.null] := ⟨RX5, TX5, tyX5, rfl, il_5, tyX5_ok, kk_221, kk_96, kk_58, by intro j hj; match j, hj with
  | 0, _ => rfl
  | j + 1, hj => exact absurd hj (by omega)⟩
theorem kk_222 : Cond.methodLink RX8 17 yX5_init ∈ gtbl := g_in (List.mem_of_getElem? (i := 222) (by decide +kernel)) (by decide +kernel)
theorem ki_X8_17 : KI RX8 17 mX5_init 1 := ⟨⟨kk_222, kk_58, kk_99, by decide +kernel⟩, rfl, rfl, rfl, kk_98⟩
theorem ff_X8_20 : FF RX8 20 8 1 (.object "StoryTapestry$Row") := ⟨RX8, TX8, 7, tyX8, rfl, by decide, il_8, tyX8_ok, nmX8, rfl, rfl, rfl, kk_224⟩
theorem ff_X8_24 : FF RX8 24 8 2 (.object "StoryTapestry$Row") := ⟨RX8, TX8, 7, tyX8, rfl, by decide, il_8, tyX8_ok, nmX8, rfl, rfl, rfl, kk_225⟩
theorem ff_X8_27 : FF RX8 27 8 3 (.object "StoryTapestry$Row") := ⟨RX8, TX8, 7, tyX8, rfl, by decide, il_8, tyX8_ok, nmX8, rfl, rfl, rfl, kk_226⟩
theorem kk_217 : Cond.methodLink RX9 19 yX8_init ∈ gtbl := g_in (List.mem_of_getElem? (i := 217) (by decide +kernel)) (by decide +kernel)
theorem kk_219 : Cond.code yX8_init cX8_init 2 none ∈ gtbl := g_in (List.mem_of_getElem? (i := 219) (by decide +kernel)) (by decide +kernel)
theorem kk_218 : Cond.instanceMethod yX8_init ∈ gtbl := g_in (List.mem_of_getElem? (i := 218) (by decide +kernel)) (by decide +kernel)
theorem ki_X9_19 : KI RX9 19 mX8_init 1 := ⟨⟨kk_217, kk_62, kk_219, by decide +kernel⟩, rfl, rfl, rfl, kk_218⟩
theorem ff_X9_22 : FF RX9 22 9 0 (.object "StoryTapestry$Row") := ⟨RX9, TX9, 8, tyX9, rfl, by decide, il_9, tyX9_ok, nmX9, rfl, rfl, rfl, kk_441⟩
theorem kk_246 : Cond.classLink RX9 26 RX4 ∈ gtbl := g_in (List.mem_of_getElem? (i := 246) (by decide +kernel)) (by decide +kernel)
theorem kk_247 : Cond.instantiable RX4 9 ∈ gtbl := g_in (List.mem_of_getElem? (i := 247) (by decide +kernel)) (by decide +kernel)
theorem nl_X9_26 : NL RX9 26 4 9 [.null, .null, .null, .null, .int 0, .int 0, .int 0, .int 0, .int 0] := ⟨RX4, TX4, tyX4, rfl, il_4, tyX4_ok, kk_246, kk_247, kk_63, by intro j hj; match j, hj with
  | 0, _ => rfl
  | 1, _ => rfl
  | 2, _ => rfl
  | 3, _ => rfl
  | 4, _ => rfl
  | 5, _ => rfl
  | 6, _ => rfl
  | 7, _ => rfl
  | 8, _ => rfl
  | j + 9, hj => exact absurd hj (by omega)⟩
abbrev mX4_init : MT := (yX4_init, cX4_init, 2, none, [])
theorem kk_251 : Cond.methodLink RX4 3 Lib.objectInit ∈ gtbl := g_in (List.mem_of_getElem? (i := 251) (by decide +kernel)) (by decide +kernel)
theorem ko_X4_3 : KO RX4 3 := ⟨kk_251, kk_93, kk_94⟩
theorem kk_252 : Cond.classLink RX4 9 RX7 ∈ gtbl := g_in (List.mem_of_getElem? (i := 252) (by decide +kernel)) (by decide +kernel)
theorem kk_253 : Cond.instantiable RX7 10 ∈ gtbl := g_in (List.mem_of_getElem? (i := 253) (by decide +kernel)) (by decide +kernel)
theorem nl_X4_9 : NL RX4 9 7 10 [.null, .null, .null, .null, .null, .null, .int 0, .int 0, .int 0, .long 0] := ⟨RX7, TX7, tyX7, rfl, il_7, tyX7_ok, kk_252, kk_253, kk_64, by intro j hj; match j, hj with
  | 0, _ => rfl
  | 1, _ => rfl
  | 2, _ => rfl
  | 3, _ => rfl
  | 4, _ => rfl
  | 5, _ => rfl
  | 6, _ => rfl
  | 7, _ => rfl
  | 8, _ => rfl
  | 9, _ => rfl
  | j + 10, hj => exact absurd hj (by omega)⟩
abbrev mX7_init : MT := (yX7_init, cX7_init, 2, none, [])
theorem kk_257 : Cond.methodLink RX7 3 Lib.objectInit ∈ gtbl := g_in (List.mem_of_getElem? (i := 257) (by decide +kernel)) (by decide +kernel)
theorem ko_X7_3 : KO RX7 3 := ⟨kk_257, kk_93, kk_94⟩
theorem ff_X7_9 : FF RX7 9 7 0 (.object "StoryTapestry$Row") := ⟨RX7, TX7, 10, tyX7, rfl, by decide, il_7, tyX7_ok, nmX7, rfl, rfl, rfl, kk_339⟩
theorem kk_258 : Cond.classLink RX7 15 RX5 ∈ gtbl := g_in (List.mem_of_getElem? (i := 258) (by decide +kernel)) (by decide +kernel)
theorem nl_X7_15 : NL RX7 15 5 1 [.null] := ⟨RX5, TX5, tyX5, rfl, il_5, tyX5_ok, kk_258, kk_96, kk_58, by intro j hj; match j, hj with
  | 0, _ => rfl
  | j + 1, hj => exact absurd hj (by omega)⟩
theorem kk_259 : Cond.methodLink RX7 17 yX5_init ∈ gtbl := g_in (List.mem_of_getElem? (i := 259) (by decide +kernel)) (by decide +kernel)
theorem ki_X7_17 : KI RX7 17 mX5_init 1 := ⟨⟨kk_259, kk_58, kk_99, by decide +kernel⟩, rfl, rfl, rfl, kk_98⟩
theorem ff_X7_20 : FF RX7 20 7 1 (.object "StoryTapestry$Row") := ⟨RX7, TX7, 10, tyX7, rfl, by decide, il_7, tyX7_ok, nmX7, rfl, rfl, rfl, kk_340⟩
theorem ff_X7_23 : FF RX7 23 7 2 (.object "StoryTapestry$Row") := ⟨RX7, TX7, 10, tyX7, rfl, by decide, il_7, tyX7_ok, nmX7, rfl, rfl, rfl, kk_342⟩
theorem ff_X7_26 : FF RX7 26 7 3 (.object "StoryTapestry$Row") := ⟨RX7, TX7, 10, tyX7, rfl, by decide, il_7, tyX7_ok, nmX7, rfl, rfl, rfl, kk_344⟩
theorem kk_274 : Cond.arrayClass .long ∈ gtbl := g_in (List.mem_of_getElem? (i := 274) (by decide +kernel)) (by decide +kernel)
theorem ff_X7_29 : FF RX7 29 7 4 (.array (.long)) := ⟨RX7, TX7, 10, tyX7, rfl, by decide, il_7, tyX7_ok, nmX7, rfl, rfl, rfl, kk_346⟩
theorem kk_260 : Cond.classLink RX7 33 RX2 ∈ gtbl := g_in (List.mem_of_getElem? (i := 260) (by decide +kernel)) (by decide +kernel)
theorem kk_261 : Cond.instantiable RX2 2 ∈ gtbl := g_in (List.mem_of_getElem? (i := 261) (by decide +kernel)) (by decide +kernel)
theorem nl_X7_33 : NL RX7 33 2 2 [.null, .int 0] := ⟨RX2, TX2, tyX2, rfl, il_2, tyX2_ok, kk_260, kk_261, kk_65, by intro j hj; match j, hj with
  | 0, _ => rfl
  | 1, _ => rfl
  | j + 2, hj => exact absurd hj (by omega)⟩
abbrev mX2_init : MT := (yX2_init, cX2_init, 2, none, [])
theorem kk_265 : Cond.methodLink RX2 1 Lib.objectInit ∈ gtbl := g_in (List.mem_of_getElem? (i := 265) (by decide +kernel)) (by decide +kernel)
theorem ko_X2_1 : KO RX2 1 := ⟨kk_265, kk_93, kk_94⟩
theorem ff_X2_7 : FF RX2 7 2 0 (.array (.long)) := ⟨RX2, TX2, 2, tyX2, rfl, by decide, il_2, tyX2_ok, nmX2, rfl, rfl, rfl, kk_266⟩
theorem kk_262 : Cond.methodLink RX7 35 yX2_init ∈ gtbl := g_in (List.mem_of_getElem? (i := 262) (by decide +kernel)) (by decide +kernel)
theorem kk_264 : Cond.code yX2_init cX2_init 2 none ∈ gtbl := g_in (List.mem_of_getElem? (i := 264) (by decide +kernel)) (by decide +kernel)
theorem kk_263 : Cond.instanceMethod yX2_init ∈ gtbl := g_in (List.mem_of_getElem? (i := 263) (by decide +kernel)) (by decide +kernel)
theorem ki_X7_35 : KI RX7 35 mX2_init 1 := ⟨⟨kk_262, kk_65, kk_264, by decide +kernel⟩, rfl, rfl, rfl, kk_263⟩
theorem ff_X7_36 : FF RX7 36 7 5 (.object "StoryTapestry$Names") := ⟨RX7, TX7, 10, tyX7, rfl, by decide, il_7, tyX7_ok, nmX7, rfl, rfl, rfl, kk_347⟩
theorem kk_275 : Cond.methodLink RX7 40 yX7_fillKeywords ∈ gtbl := g_in (List.mem_of_getElem? (i := 275) (by decide +kernel)) (by decide +kernel)
theorem kk_278 : Cond.code yX7_fillKeywords cX7_fillKeywords 5 none ∈ gtbl := g_in (List.mem_of_getElem? (i := 278) (by decide +kernel)) (by decide +kernel)
theorem kk_277 : Cond.instanceMethod yX7_fillKeywords ∈ gtbl := g_in (List.mem_of_getElem? (i := 277) (by decide +kernel)) (by decide +kernel)
theorem kk_0 : Cond.selects RX7 yX7_fillKeywords yX7_fillKeywords ∈ gtbl := g_in (List.mem_of_getElem? (i := 0) (by decide +kernel)) (by decide +kernel)
theorem kv_X7_40 : KV RX7 40 mX7_fillKeywords 0 := ⟨⟨kk_275, kk_64, kk_278, by decide +kernel⟩, rfl, kk_277, kk_0⟩
theorem kk_254 : Cond.methodLink RX4 11 yX7_init ∈ gtbl := g_in (List.mem_of_getElem? (i := 254) (by decide +kernel)) (by decide +kernel)
theorem kk_256 : Cond.code yX7_init cX7_init 2 none ∈ gtbl := g_in (List.mem_of_getElem? (i := 256) (by decide +kernel)) (by decide +kernel)
theorem kk_255 : Cond.instanceMethod yX7_init ∈ gtbl := g_in (List.mem_of_getElem? (i := 255) (by decide +kernel)) (by decide +kernel)
theorem ki_X4_11 : KI RX4 11 mX7_init 1 := ⟨⟨kk_254, kk_64, kk_256, by decide +kernel⟩, rfl, rfl, rfl, kk_255⟩
theorem ff_X4_14 : FF RX4 14 4 0 (.object "StoryTapestry$Tokens") := ⟨RX4, TX4, 9, tyX4, rfl, by decide, il_4, tyX4_ok, nmX4, rfl, rfl, rfl, kk_378⟩
theorem kk_374 : Cond.classLink RX4 20 RX6 ∈ gtbl := g_in (List.mem_of_getElem? (i := 374) (by decide +kernel)) (by decide +kernel)
theorem nl_X4_20 : NL RX4 20 6 4 [.null, .null, .int 0, .int 0] := ⟨RX6, TX6, tyX6, rfl, il_6, tyX6_ok, kk_374, kk_107, kk_59, by intro j hj; match j, hj with
  | 0, _ => rfl
  | 1, _ => rfl
  | 2, _ => rfl
  | 3, _ => rfl
  | j + 4, hj => exact absurd hj (by omega)⟩
theorem kk_375 : Cond.methodLink RX4 22 yX6_init ∈ gtbl := g_in (List.mem_of_getElem? (i := 375) (by decide +kernel)) (by decide +kernel)
theorem ki_X4_22 : KI RX4 22 mX6_init 0 := ⟨⟨kk_375, kk_59, kk_110, by decide +kernel⟩, rfl, rfl, rfl, kk_109⟩
theorem ff_X4_23 : FF RX4 23 4 1 (.object "StoryTapestry$Tapestry") := ⟨RX4, TX4, 9, tyX4, rfl, by decide, il_4, tyX4_ok, nmX4, rfl, rfl, rfl, kk_379⟩
theorem kk_376 : Cond.classLink RX4 27 RX2 ∈ gtbl := g_in (List.mem_of_getElem? (i := 376) (by decide +kernel)) (by decide +kernel)
theorem nl_X4_27 : NL RX4 27 2 2 [.null, .int 0] := ⟨RX2, TX2, tyX2, rfl, il_2, tyX2_ok, kk_376, kk_261, kk_65, by intro j hj; match j, hj with
  | 0, _ => rfl
  | 1, _ => rfl
  | j + 2, hj => exact absurd hj (by omega)⟩
theorem kk_377 : Cond.methodLink RX4 29 yX2_init ∈ gtbl := g_in (List.mem_of_getElem? (i := 377) (by decide +kernel)) (by decide +kernel)
theorem ki_X4_29 : KI RX4 29 mX2_init 1 := ⟨⟨kk_377, kk_65, kk_264, by decide +kernel⟩, rfl, rfl, rfl, kk_263⟩
theorem ff_X4_32 : FF RX4 32 4 2 (.object "StoryTapestry$Names") := ⟨RX4, TX4, 9, tyX4, rfl, by decide, il_4, tyX4_ok, nmX4, rfl, rfl, rfl, kk_381⟩
theorem ff_X4_36 : FF RX4 36 4 3 (.object "StoryTapestry$Names") := ⟨RX4, TX4, 9, tyX4, rfl, by decide, il_4, tyX4_ok, nmX4, rfl, rfl, rfl, kk_382⟩
theorem kk_248 : Cond.methodLink RX9 28 yX4_init ∈ gtbl := g_in (List.mem_of_getElem? (i := 248) (by decide +kernel)) (by decide +kernel)
theorem kk_250 : Cond.code yX4_init cX4_init 2 none ∈ gtbl := g_in (List.mem_of_getElem? (i := 250) (by decide +kernel)) (by decide +kernel)
theorem kk_249 : Cond.instanceMethod yX4_init ∈ gtbl := g_in (List.mem_of_getElem? (i := 249) (by decide +kernel)) (by decide +kernel)
theorem ki_X9_28 : KI RX9 28 mX4_init 1 := ⟨⟨kk_248, kk_63, kk_250, by decide +kernel⟩, rfl, rfl, rfl, kk_249⟩
theorem ff_X9_31 : FF RX9 31 9 1 (.object "StoryTapestry$Reader") := ⟨RX9, TX9, 8, tyX9, rfl, by decide, il_9, tyX9_ok, nmX9, rfl, rfl, rfl, kk_442⟩
theorem ff_X9_35 : FF RX9 35 9 2 (.object "StoryTapestry$Tapestry") := ⟨RX9, TX9, 8, tyX9, rfl, by decide, il_9, tyX9_ok, nmX9, rfl, rfl, rfl, kk_443⟩
theorem ff_X9_39 : FF RX9 39 9 3 (.object "StoryTapestry$Verdict") := ⟨RX9, TX9, 8, tyX9, rfl, by decide, il_9, tyX9_ok, nmX9, rfl, rfl, rfl, kk_444⟩
theorem kk_408 : Cond.classLink RX9 43 RX1 ∈ gtbl := g_in (List.mem_of_getElem? (i := 408) (by decide +kernel)) (by decide +kernel)
theorem kk_409 : Cond.instantiable RX1 7 ∈ gtbl := g_in (List.mem_of_getElem? (i := 409) (by decide +kernel)) (by decide +kernel)
theorem nl_X9_43 : NL RX9 43 1 7 [.null, .null, .null, .int 0, .int 0, .int 0, .int 0] := ⟨RX1, TX1, tyX1, rfl, il_1, tyX1_ok, kk_408, kk_409, kk_70, by intro j hj; match j, hj with
  | 0, _ => rfl
  | 1, _ => rfl
  | 2, _ => rfl
  | 3, _ => rfl
  | 4, _ => rfl
  | 5, _ => rfl
  | 6, _ => rfl
  | j + 7, hj => exact absurd hj (by omega)⟩
abbrev mX1_init : MT := (yX1_init, cX1_init, 3, none, [])
theorem kk_413 : Cond.methodLink RX1 3 Lib.objectInit ∈ gtbl := g_in (List.mem_of_getElem? (i := 413) (by decide +kernel)) (by decide +kernel)
theorem ko_X1_3 : KO RX1 3 := ⟨kk_413, kk_93, kk_94⟩
theorem ff_X1_9 : FF RX1 9 1 0 (.object "StoryTapestry$Tapestry") := ⟨RX1, TX1, 7, tyX1, rfl, by decide, il_1, tyX1_ok, nmX1, rfl, rfl, rfl, kk_416⟩
theorem ff_X1_15 : FF RX1 15 1 1 (.object "StoryTapestry$Verdict") := ⟨RX1, TX1, 7, tyX1, rfl, by decide, il_1, tyX1_ok, nmX1, rfl, rfl, rfl, kk_417⟩
theorem kk_414 : Cond.classLink RX1 19 RX5 ∈ gtbl := g_in (List.mem_of_getElem? (i := 414) (by decide +kernel)) (by decide +kernel)
theorem nl_X1_19 : NL RX1 19 5 1 [.null] := ⟨RX5, TX5, tyX5, rfl, il_5, tyX5_ok, kk_414, kk_96, kk_58, by intro j hj; match j, hj with
  | 0, _ => rfl
  | j + 1, hj => exact absurd hj (by omega)⟩
theorem kk_415 : Cond.methodLink RX1 21 yX5_init ∈ gtbl := g_in (List.mem_of_getElem? (i := 415) (by decide +kernel)) (by decide +kernel)
theorem ki_X1_21 : KI RX1 21 mX5_init 1 := ⟨⟨kk_415, kk_58, kk_99, by decide +kernel⟩, rfl, rfl, rfl, kk_98⟩
theorem ff_X1_24 : FF RX1 24 1 2 (.object "StoryTapestry$Row") := ⟨RX1, TX1, 7, tyX1, rfl, by decide, il_1, tyX1_ok, nmX1, rfl, rfl, rfl, kk_418⟩
theorem kk_410 : Cond.methodLink RX9 45 yX1_init ∈ gtbl := g_in (List.mem_of_getElem? (i := 410) (by decide +kernel)) (by decide +kernel)
theorem kk_412 : Cond.code yX1_init cX1_init 3 none ∈ gtbl := g_in (List.mem_of_getElem? (i := 412) (by decide +kernel)) (by decide +kernel)
theorem kk_411 : Cond.instanceMethod yX1_init ∈ gtbl := g_in (List.mem_of_getElem? (i := 411) (by decide +kernel)) (by decide +kernel)
theorem ki_X9_45 : KI RX9 45 mX1_init 2 := ⟨⟨kk_410, kk_70, kk_412, by decide +kernel⟩, rfl, rfl, rfl, kk_411⟩
theorem ff_X9_48 : FF RX9 48 9 4 (.object "StoryTapestry$Course") := ⟨RX9, TX9, 8, tyX9, rfl, by decide, il_9, tyX9_ok, nmX9, rfl, rfl, rfl, kk_445⟩
theorem ff_X9_52 : FF RX9 52 9 5 (.object "StoryTapestry$Course") := ⟨RX9, TX9, 8, tyX9, rfl, by decide, il_9, tyX9_ok, nmX9, rfl, rfl, rfl, kk_446⟩
def wlF (g : GG) (af : Nat → Nat) (pf : Nat) (f0 : Int32) (f1 : Int32) (f2 : Int32) (f3 : Int64) (f4 : Nat → Int32) (f5 : Nat → Int32) (f6 : Nat → Int32) (f7 : Nat → Int64) (f8 : Int32) (f9 : Nat → Int64) : va_W := [(af 0, .inr (7, [.ref pf, .ref (af 1), .ref (af 3), .ref (af 5), .ref (af 7), .ref (af 8), .int f0, .int f1, .int f2, .long f3])),
  (af 1, .inr (5, [.ref (af 2)])),
  (af 2, iA g 401 f4),
  (af 3, .inr (5, [.ref (af 4)])),
  (af 4, iA g 401 f5),
  (af 5, .inr (5, [.ref (af 6)])),
  (af 6, iA g 401 f6),
  (af 7, lA g 401 f7),
  (af 8, .inr (2, [.ref (af 9), .int f8])),
  (af 9, lA g 25 f9)]
section LK
variable {g : GG} {ad af : Nat → Nat} {pf : Nat} {t : va_W}
variable {f0 : Int32}
variable {f1 : Int32}
variable {f2 : Int32}
variable {f3 : Int64}
variable {f4 : Nat → Int32}
variable {f5 : Nat → Int32}
variable {f6 : Nat → Int32}
variable {f7 : Nat → Int64}
variable {f8 : Int32}
variable {f9 : Nat → Int64}
theorem lF_0 : (wlF g af pf f0 f1 f2 f3 f4 f5 f6 f7 f8 f9 ++ t)[0]? = some (af 0, .inr (7, [.ref pf, .ref (af 1), .ref (af 3), .ref (af 5), .ref (af 7), .ref (af 8), .int f0, .int f1, .int f2, .long f3])) := rfl
theorem lF_1 : (wlF g af pf f0 f1 f2 f3 f4 f5 f6 f7 f8 f9 ++ t)[1]? = some (af 1, .inr (5, [.ref (af 2)])) := rfl
theorem lF_2 : (wlF g af pf f0 f1 f2 f3 f4 f5 f6 f7 f8 f9 ++ t)[2]? = some (af 2, iA g 401 f4) := rfl
theorem lF_3 : (wlF g af pf f0 f1 f2 f3 f4 f5 f6 f7 f8 f9 ++ t)[3]? = some (af 3, .inr (5, [.ref (af 4)])) := rfl
theorem lF_4 : (wlF g af pf f0 f1 f2 f3 f4 f5 f6 f7 f8 f9 ++ t)[4]? = some (af 4, iA g 401 f5) := rfl
theorem lF_5 : (wlF g af pf f0 f1 f2 f3 f4 f5 f6 f7 f8 f9 ++ t)[5]? = some (af 5, .inr (5, [.ref (af 6)])) := rfl
theorem lF_6 : (wlF g af pf f0 f1 f2 f3 f4 f5 f6 f7 f8 f9 ++ t)[6]? = some (af 6, iA g 401 f6) := rfl
theorem lF_7 : (wlF g af pf f0 f1 f2 f3 f4 f5 f6 f7 f8 f9 ++ t)[7]? = some (af 7, lA g 401 f7) := rfl
theorem lF_8 : (wlF g af pf f0 f1 f2 f3 f4 f5 f6 f7 f8 f9 ++ t)[8]? = some (af 8, .inr (2, [.ref (af 9), .int f8])) := rfl
theorem lF_9 : (wlF g af pf f0 f1 f2 f3 f4 f5 f6 f7 f8 f9 ++ t)[9]? = some (af 9, lA g 25 f9) := rfl
theorem sF_0 (v : Int32) : (wlF g af pf f0 f1 f2 f3 f4 f5 f6 f7 f8 f9 ++ t).set 0 (af 0, .inr (7, [.ref pf, .ref (af 1), .ref (af 3), .ref (af 5), .ref (af 7), .ref (af 8), .int v, .int f1, .int f2, .long f3])) = (wlF g af pf v f1 f2 f3 f4 f5 f6 f7 f8 f9 ++ t) := rfl
theorem sF_1 (v : Int32) : (wlF g af pf f0 f1 f2 f3 f4 f5 f6 f7 f8 f9 ++ t).set 0 (af 0, .inr (7, [.ref pf, .ref (af 1), .ref (af 3), .ref (af 5), .ref (af 7), .ref (af 8), .int f0, .int v, .int f2, .long f3])) = (wlF g af pf f0 v f2 f3 f4 f5 f6 f7 f8 f9 ++ t) := rfl
theorem sF_2 (v : Int32) : (wlF g af pf f0 f1 f2 f3 f4 f5 f6 f7 f8 f9 ++ t).set 0 (af 0, .inr (7, [.ref pf, .ref (af 1), .ref (af 3), .ref (af 5), .ref (af 7), .ref (af 8), .int f0, .int f1, .int v, .long f3])) = (wlF g af pf f0 f1 v f3 f4 f5 f6 f7 f8 f9 ++ t) := rfl
theorem sF_3 (v : Int64) : (wlF g af pf f0 f1 f2 f3 f4 f5 f6 f7 f8 f9 ++ t).set 0 (af 0, .inr (7, [.ref pf, .ref (af 1), .ref (af 3), .ref (af 5), .ref (af 7), .ref (af 8), .int f0, .int f1, .int f2, .long v])) = (wlF g af pf f0 f1 f2 v f4 f5 f6 f7 f8 f9 ++ t) := rfl
theorem sF_4 (v : Nat → Int32) : (wlF g af pf f0 f1 f2 f3 f4 f5 f6 f7 f8 f9 ++ t).set 2 (af 2, iA g 401 v) = (wlF g af pf f0 f1 f2 f3 v f5 f6 f7 f8 f9 ++ t) := rfl
theorem sF_5 (v : Nat → Int32) : (wlF g af pf f0 f1 f2 f3 f4 f5 f6 f7 f8 f9 ++ t).set 4 (af 4, iA g 401 v) = (wlF g af pf f0 f1 f2 f3 f4 v f6 f7 f8 f9 ++ t) := rfl
theorem sF_6 (v : Nat → Int32) : (wlF g af pf f0 f1 f2 f3 f4 f5 f6 f7 f8 f9 ++ t).set 6 (af 6, iA g 401 v) = (wlF g af pf f0 f1 f2 f3 f4 f5 v f7 f8 f9 ++ t) := rfl
theorem sF_7 (v : Nat → Int64) : (wlF g af pf f0 f1 f2 f3 f4 f5 f6 f7 f8 f9 ++ t).set 7 (af 7, lA g 401 v) = (wlF g af pf f0 f1 f2 f3 f4 f5 f6 v f8 f9 ++ t) := rfl
theorem sF_8 (v : Int32) : (wlF g af pf f0 f1 f2 f3 f4 f5 f6 f7 f8 f9 ++ t).set 8 (af 8, .inr (2, [.ref (af 9), .int v])) = (wlF g af pf f0 f1 f2 f3 f4 f5 f6 f7 v f9 ++ t) := rfl
theorem sF_9 (v : Nat → Int64) : (wlF g af pf f0 f1 f2 f3 f4 f5 f6 f7 f8 f9 ++ t).set 9 (af 9, lA g 25 v) = (wlF g af pf f0 f1 f2 f3 f4 f5 f6 f7 f8 v ++ t) := rfl
end LK
theorem pm_of {A B t : va_W} (is : List Nat) (hp : is.Perm (List.range B.length)) (hm : A = is.map (fun i => B.getD i (0, .inr (0, [])))) : (A ++ t).Perm (B ++ t) := by
  refine List.Perm.append_right t ?_
  have h := hp.map (fun i => B.getD i (0, .inr (0, [])))
  rw [← hm] at h
  refine h.trans ?_
  have e : (List.range B.length).map (fun i => B.getD i (0, .inr (0, []))) = B := by
    apply List.ext_getElem
    · simp
    · intro i h1 h2
      simp [List.getElem_map, List.getElem_range, List.getD_eq_getElem?_getD, List.getElem?_eq_getElem h2]
  rw [e]
abbrev Dx1 (a : Nat) (W : (Nat → Nat) → va_W) : Rs → va_W → Prop := fun r w => r = .inl none ∧ ∃ b : Nat → Nat, b 0 = a ∧ w = W b
abbrev Dx2 (a : Nat) (W : (Nat → Nat) → (Nat → Nat) → va_W) : Rs → va_W → Prop := fun r w => r = .inl none ∧ ∃ b b2 : Nat → Nat, b 0 = a ∧ w = W b b2
theorem Dx1.no {a : Nat} {W : (Nat → Nat) → va_W} : ∀ E w, ¬ Dx1 a W (.inr E) w := fun _ _ h => nomatch h.1
theorem Dx2.no {a : Nat} {W : (Nat → Nat) → (Nat → Nat) → va_W} : ∀ E w, ¬ Dx2 a W (.inr E) w := fun _ _ h => nomatch h.1
abbrev Dn (W : (Nat → Nat) → va_W) : Rs → va_W → Prop := fun r w => r = .inl none ∧ ∃ b : Nat → Nat, w = W b
theorem Dn.no {W : (Nat → Nat) → va_W} : ∀ E w, ¬ Dn W (.inr E) w := fun _ _ h => nomatch h.1
