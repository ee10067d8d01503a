theorem il_5 : ∀ w ∈ u_ws RX5 TX5 1, w ∈ gtbl := fun w hw => g_in ((by decide +kernel : ∀ w ∈ u_ws RX5 TX5 1, w ∈ lw_tbl) w hw) (List.all_eq_true.mp (by decide +kernel : (u_ws RX5 TX5 1).all goodWord = true) w hw)
theorem kk_101 : Cond.fieldLink RX5 7 RX5 "cells" "[I" ∈ gtbl := g_in (List.mem_of_getElem? (i := 101) (by decide +kernel)) (by decide +kernel)
theorem fl_X5_7 : FL RX5 7 5 0 (.array (.int)) true := ⟨RX5, TX5, 1, tyX5, rfl, by decide, il_5, tyX5_ok, nmX5, rfl, rfl, Or.inl kk_101⟩
theorem il_2 : ∀ w ∈ u_ws RX2 TX2 2, w ∈ gtbl := fun w hw => g_in ((by decide +kernel : ∀ w ∈ u_ws RX2 TX2 2, w ∈ lw_tbl) w hw) (List.all_eq_true.mp (by decide +kernel : (u_ws RX2 TX2 2).all goodWord = true) w hw)
theorem kk_266 : Cond.fieldLink RX2 7 RX2 "words" "[J" ∈ gtbl := g_in (List.mem_of_getElem? (i := 266) (by decide +kernel)) (by decide +kernel)
theorem fl_X2_7 : FL RX2 7 2 0 (.array (.long)) true := ⟨RX2, TX2, 2, tyX2, rfl, by decide, il_2, tyX2_ok, nmX2, rfl, rfl, Or.inl kk_266⟩
theorem kk_267 : Cond.fieldLink RX2 13 RX2 "count" "I" ∈ gtbl := g_in (List.mem_of_getElem? (i := 267) (by decide +kernel)) (by decide +kernel)
theorem fl_X2_13 : FL RX2 13 2 1 (.int) false := ⟨RX2, TX2, 2, tyX2, rfl, by decide, il_2, tyX2_ok, nmX2, rfl, rfl, Or.inl kk_267⟩
abbrev mX5_get : MT := (yX5_get, cX5_get, 2, (some .int), [])
theorem kk_1261 : Cond.methodLink RX5 13 yX5_get ∈ gtbl := g_in (List.mem_of_getElem? (i := 1261) (by decide +kernel)) (by decide +kernel)
theorem kk_58 : Cond.initialized RX5 ∈ gtbl := g_in (List.mem_of_getElem? (i := 58) (by decide +kernel)) (by decide +kernel)
theorem kk_556 : Cond.code yX5_get cX5_get 2 (some .int) ∈ gtbl := g_in (List.mem_of_getElem? (i := 556) (by decide +kernel)) (by decide +kernel)
theorem kk_554 : Cond.instanceMethod yX5_get ∈ gtbl := g_in (List.mem_of_getElem? (i := 554) (by decide +kernel)) (by decide +kernel)
theorem kk_555 : Cond.selects RX5 yX5_get yX5_get ∈ gtbl := g_in (List.mem_of_getElem? (i := 555) (by decide +kernel)) (by decide +kernel)
theorem kv_X5_13 : KV RX5 13 mX5_get 1 := ⟨⟨kk_1261, kk_58, kk_556, by decide +kernel⟩, rfl, kk_554, kk_555⟩
abbrev mX5_set : MT := (yX5_set, cX5_set, 3, none, [])
abbrev mX5_copyFrom : MT := (yX5_copyFrom, cX5_copyFrom, 3, none, [])
abbrev mX2_isFull : MT := (yX2_isFull, cX2_isFull, 1, (some .boolean), [])
abbrev mX2_add : MT := (yX2_add, cX2_add, 3, none, [])
abbrev mX2_find : MT := (yX2_find, cX2_find, 4, (some .int), [])
abbrev mJ3_checkIndex_8e157 : MT := (yJ3_checkIndex_8e157, cJ3_checkIndex_8e157, 3, (some .int), [])
theorem kk_306 : Cond.methodLink RJ0 1059 yJ3_checkIndex_8e157 ∈ gtbl := g_in (List.mem_of_getElem? (i := 306) (by decide +kernel)) (by decide +kernel)
theorem kk_68 : Cond.initialized RJ3 ∈ gtbl := g_in (List.mem_of_getElem? (i := 68) (by decide +kernel)) (by decide +kernel)
theorem kk_308 : Cond.code yJ3_checkIndex_8e157 cJ3_checkIndex_8e157 3 (some .int) ∈ gtbl := g_in (List.mem_of_getElem? (i := 308) (by decide +kernel)) (by decide +kernel)
theorem kk_307 : Cond.static yJ3_checkIndex_8e157 ∈ gtbl := g_in (List.mem_of_getElem? (i := 307) (by decide +kernel)) (by decide +kernel)
theorem ks_J0_1059 : KS RJ0 1059 mJ3_checkIndex_8e157 3 := ⟨⟨kk_306, kk_68, kk_308, by decide +kernel⟩, rfl, kk_307⟩
abbrev mJ0_checkIndex_df160 : MT := (yJ0_checkIndex_df160, cJ0_checkIndex_df160, 2, none, [])
theorem kk_304 : Cond.fieldLink RJ0 1053 "jdk/internal/util/Preconditions" "SIOOBE_FORMATTER" "Ljava/util/function/BiFunction;" ∈ gtbl := g_in (List.mem_of_getElem? (i := 304) (by decide +kernel)) (by decide +kernel)
theorem il_4 : ∀ w ∈ u_ws RX4 TX4 9, w ∈ gtbl := fun w hw => g_in ((by decide +kernel : ∀ w ∈ u_ws RX4 TX4 9, w ∈ lw_tbl) w hw) (List.all_eq_true.mp (by decide +kernel : (u_ws RX4 TX4 9).all goodWord = true) w hw)
theorem kk_383 : Cond.fieldLink RX4 80 RX4 "at" "I" ∈ gtbl := g_in (List.mem_of_getElem? (i := 383) (by decide +kernel)) (by decide +kernel)
theorem fl_X4_80 : FL RX4 80 4 4 (.int) false := ⟨RX4, TX4, 9, tyX4, rfl, by decide, il_4, tyX4_ok, nmX4, rfl, rfl, Or.inl kk_383⟩
theorem kk_378 : Cond.fieldLink RX4 14 RX4 "tokens" "LStoryTapestry$Tokens;" ∈ gtbl := g_in (List.mem_of_getElem? (i := 378) (by decide +kernel)) (by decide +kernel)
theorem fl_X4_14 : FL RX4 14 4 0 (.object "StoryTapestry$Tokens") true := ⟨RX4, TX4, 9, tyX4, rfl, by decide, il_4, tyX4_ok, nmX4, rfl, rfl, Or.inl kk_378⟩
theorem il_7 : ∀ w ∈ u_ws RX7 TX7 10, w ∈ gtbl := fun w hw => g_in ((by decide +kernel : ∀ w ∈ u_ws RX7 TX7 10, w ∈ lw_tbl) w hw) (List.all_eq_true.mp (by decide +kernel : (u_ws RX7 TX7 10).all goodWord = true) w hw)
theorem kn_341 : Cond.fieldLinkNest RX4 83 RX7 "kinds" "LStoryTapestry$Row;" "StoryTapestry" ∈ gnest := n_in (List.mem_of_getElem? (i := 341) (by decide +kernel)) (by decide +kernel)
theorem fl_X4_83 : FL RX4 83 7 1 (.object "StoryTapestry$Row") true := ⟨RX7, TX7, 10, tyX7, rfl, by decide, il_7, tyX7_ok, nmX7, rfl, rfl, Or.inr ⟨_, kn_341⟩⟩
theorem kk_1129 : Cond.methodLink RX4 87 yX5_get ∈ gtbl := g_in (List.mem_of_getElem? (i := 1129) (by decide +kernel)) (by decide +kernel)
theorem kv_X4_87 : KV RX4 87 mX5_get 1 := ⟨⟨kk_1129, kk_58, kk_556, by decide +kernel⟩, rfl, kk_554, kk_555⟩
theorem kk_384 : Cond.fieldLink RX4 42 RX4 "kind" "I" ∈ gtbl := g_in (List.mem_of_getElem? (i := 384) (by decide +kernel)) (by decide +kernel)
theorem fl_X4_42 : FL RX4 42 4 5 (.int) false := ⟨RX4, TX4, 9, tyX4, rfl, by decide, il_4, tyX4_ok, nmX4, rfl, rfl, Or.inl kk_384⟩
abbrev mX4_advance : MT := (yX4_advance, cX4_advance, 1, none, [])
theorem il_3 : ∀ w ∈ u_ws RX3 TX3 7, w ∈ gtbl := fun w hw => g_in ((by decide +kernel : ∀ w ∈ u_ws RX3 TX3 7, w ∈ lw_tbl) w hw) (List.all_eq_true.mp (by decide +kernel : (u_ws RX3 TX3 7).all goodWord = true) w hw)
theorem kk_173 : Cond.fieldLink RX3 36 RX3 "stepCount" "I" ∈ gtbl := g_in (List.mem_of_getElem? (i := 173) (by decide +kernel)) (by decide +kernel)
theorem fl_X3_36 : FL RX3 36 3 6 (.int) false := ⟨RX3, TX3, 7, tyX3, rfl, by decide, il_3, tyX3_ok, nmX3, rfl, rfl, Or.inl kk_173⟩
theorem kk_166 : Cond.fieldLink RX3 26 RX3 "stepKinds" "LStoryTapestry$Row;" ∈ gtbl := g_in (List.mem_of_getElem? (i := 166) (by decide +kernel)) (by decide +kernel)
theorem fl_X3_26 : FL RX3 26 3 3 (.object "StoryTapestry$Row") true := ⟨RX3, TX3, 7, tyX3, rfl, by decide, il_3, tyX3_ok, nmX3, rfl, rfl, Or.inl kk_166⟩
theorem kk_1218 : Cond.methodLink RX3 43 yX5_set ∈ gtbl := g_in (List.mem_of_getElem? (i := 1218) (by decide +kernel)) (by decide +kernel)
theorem kk_760 : Cond.code yX5_set cX5_set 3 none ∈ gtbl := g_in (List.mem_of_getElem? (i := 760) (by decide +kernel)) (by decide +kernel)
theorem kk_758 : Cond.instanceMethod yX5_set ∈ gtbl := g_in (List.mem_of_getElem? (i := 758) (by decide +kernel)) (by decide +kernel)
theorem kk_759 : Cond.selects RX5 yX5_set yX5_set ∈ gtbl := g_in (List.mem_of_getElem? (i := 759) (by decide +kernel)) (by decide +kernel)
theorem kv_X3_43 : KV RX3 43 mX5_set 2 := ⟨⟨kk_1218, kk_58, kk_760, by decide +kernel⟩, rfl, kk_758, kk_759⟩
theorem kk_168 : Cond.fieldLink RX3 29 RX3 "stepParts" "LStoryTapestry$Row;" ∈ gtbl := g_in (List.mem_of_getElem? (i := 168) (by decide +kernel)) (by decide +kernel)
theorem fl_X3_29 : FL RX3 29 3 4 (.object "StoryTapestry$Row") true := ⟨RX3, TX3, 7, tyX3, rfl, by decide, il_3, tyX3_ok, nmX3, rfl, rfl, Or.inl kk_168⟩
abbrev mX3_addStep : MT := (yX3_addStep, cX3_addStep, 3, none, [])
theorem kk_386 : Cond.fieldLink RX4 46 RX4 "error" "I" ∈ gtbl := g_in (List.mem_of_getElem? (i := 386) (by decide +kernel)) (by decide +kernel)
theorem fl_X4_46 : FL RX4 46 4 7 (.int) false := ⟨RX4, TX4, 9, tyX4, rfl, by decide, il_4, tyX4_ok, nmX4, rfl, rfl, Or.inl kk_386⟩
theorem kn_343 : Cond.fieldLinkNest RX4 99 RX7 "starts" "LStoryTapestry$Row;" "StoryTapestry" ∈ gnest := n_in (List.mem_of_getElem? (i := 343) (by decide +kernel)) (by decide +kernel)
theorem fl_X4_99 : FL RX4 99 7 2 (.object "StoryTapestry$Row") true := ⟨RX7, TX7, 10, tyX7, rfl, by decide, il_7, tyX7_ok, nmX7, rfl, rfl, Or.inr ⟨_, kn_343⟩⟩
theorem kk_387 : Cond.fieldLink RX4 96 RX4 "errorPlace" "I" ∈ gtbl := g_in (List.mem_of_getElem? (i := 387) (by decide +kernel)) (by decide +kernel)
theorem fl_X4_96 : FL RX4 96 4 8 (.int) false := ⟨RX4, TX4, 9, tyX4, rfl, by decide, il_4, tyX4_ok, nmX4, rfl, rfl, Or.inl kk_387⟩
abbrev mX4_note : MT := (yX4_note, cX4_note, 2, none, [])
theorem kk_1142 : Cond.methodLink RX4 102 yX4_note ∈ gtbl := g_in (List.mem_of_getElem? (i := 1142) (by decide +kernel)) (by decide +kernel)
theorem kk_63 : Cond.initialized RX4 ∈ gtbl := g_in (List.mem_of_getElem? (i := 63) (by decide +kernel)) (by decide +kernel)
theorem kk_1145 : Cond.code yX4_note cX4_note 2 none ∈ gtbl := g_in (List.mem_of_getElem? (i := 1145) (by decide +kernel)) (by decide +kernel)
theorem kk_1144 : Cond.instanceMethod yX4_note ∈ gtbl := g_in (List.mem_of_getElem? (i := 1144) (by decide +kernel)) (by decide +kernel)
theorem kk_35 : Cond.selects RX4 yX4_note yX4_note ∈ gtbl := g_in (List.mem_of_getElem? (i := 35) (by decide +kernel)) (by decide +kernel)
theorem kv_X4_102 : KV RX4 102 mX4_note 1 := ⟨⟨kk_1142, kk_63, kk_1145, by decide +kernel⟩, rfl, kk_1144, kk_35⟩
abbrev mX4_fail : MT := (yX4_fail, cX4_fail, 1, none, [])
theorem kk_385 : Cond.fieldLink RX4 93 RX4 "depth" "I" ∈ gtbl := g_in (List.mem_of_getElem? (i := 385) (by decide +kernel)) (by decide +kernel)
theorem fl_X4_93 : FL RX4 93 4 6 (.int) false := ⟨RX4, TX4, 9, tyX4, rfl, by decide, il_4, tyX4_ok, nmX4, rfl, rfl, Or.inl kk_385⟩
theorem kk_1134 : Cond.methodLink RX4 105 yX4_advance ∈ gtbl := g_in (List.mem_of_getElem? (i := 1134) (by decide +kernel)) (by decide +kernel)
theorem kk_1137 : Cond.code yX4_advance cX4_advance 1 none ∈ gtbl := g_in (List.mem_of_getElem? (i := 1137) (by decide +kernel)) (by decide +kernel)
theorem kk_1136 : Cond.instanceMethod yX4_advance ∈ gtbl := g_in (List.mem_of_getElem? (i := 1136) (by decide +kernel)) (by decide +kernel)
theorem kk_33 : Cond.selects RX4 yX4_advance yX4_advance ∈ gtbl := g_in (List.mem_of_getElem? (i := 33) (by decide +kernel)) (by decide +kernel)
theorem kv_X4_105 : KV RX4 105 mX4_advance 0 := ⟨⟨kk_1134, kk_63, kk_1137, by decide +kernel⟩, rfl, kk_1136, kk_33⟩
theorem kk_1138 : Cond.methodLink RX4 59 yX4_fail ∈ gtbl := g_in (List.mem_of_getElem? (i := 1138) (by decide +kernel)) (by decide +kernel)
theorem kk_1141 : Cond.code yX4_fail cX4_fail 1 none ∈ gtbl := g_in (List.mem_of_getElem? (i := 1141) (by decide +kernel)) (by decide +kernel)
theorem kk_1140 : Cond.instanceMethod yX4_fail ∈ gtbl := g_in (List.mem_of_getElem? (i := 1140) (by decide +kernel)) (by decide +kernel)
theorem kk_34 : Cond.selects RX4 yX4_fail yX4_fail ∈ gtbl := g_in (List.mem_of_getElem? (i := 34) (by decide +kernel)) (by decide +kernel)
theorem kv_X4_59 : KV RX4 59 mX4_fail 0 := ⟨⟨kk_1138, kk_63, kk_1141, by decide +kernel⟩, rfl, kk_1140, kk_34⟩
abbrev mX4_deepen : MT := (yX4_deepen, cX4_deepen, 1, (some .boolean), [])
theorem kk_346 : Cond.fieldLink RX7 29 RX7 "words" "[J" ∈ gtbl := g_in (List.mem_of_getElem? (i := 346) (by decide +kernel)) (by decide +kernel)
theorem fl_X7_29 : FL RX7 29 7 4 (.array (.long)) true := ⟨RX7, TX7, 10, tyX7, rfl, by decide, il_7, tyX7_ok, nmX7, rfl, rfl, Or.inl kk_346⟩
abbrev mX7_wordAt : MT := (yX7_wordAt, cX7_wordAt, 2, (some .long), [])
theorem kk_1146 : Cond.methodLink RX4 108 yX7_wordAt ∈ gtbl := g_in (List.mem_of_getElem? (i := 1146) (by decide +kernel)) (by decide +kernel)
theorem kk_64 : Cond.initialized RX7 ∈ gtbl := g_in (List.mem_of_getElem? (i := 64) (by decide +kernel)) (by decide +kernel)
theorem kk_1149 : Cond.code yX7_wordAt cX7_wordAt 2 (some .long) ∈ gtbl := g_in (List.mem_of_getElem? (i := 1149) (by decide +kernel)) (by decide +kernel)
theorem kk_1147 : Cond.instanceMethod yX7_wordAt ∈ gtbl := g_in (List.mem_of_getElem? (i := 1147) (by decide +kernel)) (by decide +kernel)
theorem kk_1148 : Cond.selects RX7 yX7_wordAt yX7_wordAt ∈ gtbl := g_in (List.mem_of_getElem? (i := 1148) (by decide +kernel)) (by decide +kernel)
theorem kv_X4_108 : KV RX4 108 mX7_wordAt 1 := ⟨⟨kk_1146, kk_64, kk_1149, by decide +kernel⟩, rfl, kk_1147, kk_1148⟩
theorem kk_1150 : Cond.methodLink RX4 112 yX2_find ∈ gtbl := g_in (List.mem_of_getElem? (i := 1150) (by decide +kernel)) (by decide +kernel)
theorem kk_65 : Cond.initialized RX2 ∈ gtbl := g_in (List.mem_of_getElem? (i := 65) (by decide +kernel)) (by decide +kernel)
theorem kk_1064 : Cond.code yX2_find cX2_find 4 (some .int) ∈ gtbl := g_in (List.mem_of_getElem? (i := 1064) (by decide +kernel)) (by decide +kernel)
theorem kk_1062 : Cond.instanceMethod yX2_find ∈ gtbl := g_in (List.mem_of_getElem? (i := 1062) (by decide +kernel)) (by decide +kernel)
theorem kk_1063 : Cond.selects RX2 yX2_find yX2_find ∈ gtbl := g_in (List.mem_of_getElem? (i := 1063) (by decide +kernel)) (by decide +kernel)
theorem kv_X4_112 : KV RX4 112 mX2_find 1 := ⟨⟨kk_1150, kk_65, kk_1064, by decide +kernel⟩, rfl, kk_1062, kk_1063⟩
abbrev mX4_readKnown : MT := (yX4_readKnown, cX4_readKnown, 3, (some .int), [])
theorem kk_382 : Cond.fieldLink RX4 36 RX4 "tellerNames" "LStoryTapestry$Names;" ∈ gtbl := g_in (List.mem_of_getElem? (i := 382) (by decide +kernel)) (by decide +kernel)
theorem fl_X4_36 : FL RX4 36 4 3 (.object "StoryTapestry$Names") true := ⟨RX4, TX4, 9, tyX4, rfl, by decide, il_4, tyX4_ok, nmX4, rfl, rfl, Or.inl kk_382⟩
theorem kk_1164 : Cond.methodLink RX4 131 yX4_readKnown ∈ gtbl := g_in (List.mem_of_getElem? (i := 1164) (by decide +kernel)) (by decide +kernel)
theorem kk_1167 : Cond.code yX4_readKnown cX4_readKnown 3 (some .int) ∈ gtbl := g_in (List.mem_of_getElem? (i := 1167) (by decide +kernel)) (by decide +kernel)
theorem kk_1166 : Cond.instanceMethod yX4_readKnown ∈ gtbl := g_in (List.mem_of_getElem? (i := 1166) (by decide +kernel)) (by decide +kernel)
theorem kk_37 : Cond.selects RX4 yX4_readKnown yX4_readKnown ∈ gtbl := g_in (List.mem_of_getElem? (i := 37) (by decide +kernel)) (by decide +kernel)
theorem kv_X4_131 : KV RX4 131 mX4_readKnown 1 := ⟨⟨kk_1164, kk_63, kk_1167, by decide +kernel⟩, rfl, kk_1166, kk_37⟩
theorem kk_379 : Cond.fieldLink RX4 23 RX4 "draft" "LStoryTapestry$Tapestry;" ∈ gtbl := g_in (List.mem_of_getElem? (i := 379) (by decide +kernel)) (by decide +kernel)
theorem fl_X4_23 : FL RX4 23 4 1 (.object "StoryTapestry$Tapestry") true := ⟨RX4, TX4, 9, tyX4, rfl, by decide, il_4, tyX4_ok, nmX4, rfl, rfl, Or.inl kk_379⟩
theorem il_6 : ∀ w ∈ u_ws RX6 TX6 4, w ∈ gtbl := fun w hw => g_in ((by decide +kernel : ∀ w ∈ u_ws RX6 TX6 4, w ∈ lw_tbl) w hw) (List.all_eq_true.mp (by decide +kernel : (u_ws RX6 TX6 4).all goodWord = true) w hw)
theorem kn_197 : Cond.fieldLinkNest RX4 151 RX6 "orders" "LStoryTapestry$Orders;" "StoryTapestry" ∈ gnest := n_in (List.mem_of_getElem? (i := 197) (by decide +kernel)) (by decide +kernel)
theorem fl_X4_151 : FL RX4 151 6 1 (.object "StoryTapestry$Orders") true := ⟨RX6, TX6, 4, tyX6, rfl, by decide, il_6, tyX6_ok, nmX6, rfl, rfl, Or.inr ⟨_, kn_197⟩⟩
theorem kk_1214 : Cond.methodLink RX4 167 yX3_addStep ∈ gtbl := g_in (List.mem_of_getElem? (i := 1214) (by decide +kernel)) (by decide +kernel)
theorem kk_61 : Cond.initialized RX3 ∈ gtbl := g_in (List.mem_of_getElem? (i := 61) (by decide +kernel)) (by decide +kernel)
theorem kk_1217 : Cond.code yX3_addStep cX3_addStep 3 none ∈ gtbl := g_in (List.mem_of_getElem? (i := 1217) (by decide +kernel)) (by decide +kernel)
theorem kk_1215 : Cond.instanceMethod yX3_addStep ∈ gtbl := g_in (List.mem_of_getElem? (i := 1215) (by decide +kernel)) (by decide +kernel)
theorem kk_1216 : Cond.selects RX3 yX3_addStep yX3_addStep ∈ gtbl := g_in (List.mem_of_getElem? (i := 1216) (by decide +kernel)) (by decide +kernel)
theorem kv_X4_167 : KV RX4 167 mX3_addStep 2 := ⟨⟨kk_1214, kk_61, kk_1217, by decide +kernel⟩, rfl, kk_1215, kk_1216⟩
abbrev mX4_readTwoTellers : MT := (yX4_readTwoTellers, cX4_readTwoTellers, 3, none, [])
abbrev mX4_expect : MT := (yX4_expect, cX4_expect, 2, none, [])
abbrev mX4_readBoth : MT := (yX4_readBoth, cX4_readBoth, 2, none, [])
theorem kk_1202 : Cond.methodLink RX4 164 yX4_readBoth ∈ gtbl := g_in (List.mem_of_getElem? (i := 1202) (by decide +kernel)) (by decide +kernel)
theorem kk_1205 : Cond.code yX4_readBoth cX4_readBoth 2 none ∈ gtbl := g_in (List.mem_of_getElem? (i := 1205) (by decide +kernel)) (by decide +kernel)
theorem kk_1204 : Cond.instanceMethod yX4_readBoth ∈ gtbl := g_in (List.mem_of_getElem? (i := 1204) (by decide +kernel)) (by decide +kernel)
theorem kk_44 : Cond.selects RX4 yX4_readBoth yX4_readBoth ∈ gtbl := g_in (List.mem_of_getElem? (i := 44) (by decide +kernel)) (by decide +kernel)
theorem kv_X4_164 : KV RX4 164 mX4_readBoth 0 := ⟨⟨kk_1202, kk_63, kk_1205, by decide +kernel⟩, rfl, kk_1204, kk_44⟩
abbrev mX4_readSingle : MT := (yX4_readSingle, cX4_readSingle, 2, none, [])
theorem kk_1206 : Cond.methodLink RX4 170 yX4_readSingle ∈ gtbl := g_in (List.mem_of_getElem? (i := 1206) (by decide +kernel)) (by decide +kernel)
theorem kk_1209 : Cond.code yX4_readSingle cX4_readSingle 2 none ∈ gtbl := g_in (List.mem_of_getElem? (i := 1209) (by decide +kernel)) (by decide +kernel)
theorem kk_1208 : Cond.instanceMethod yX4_readSingle ∈ gtbl := g_in (List.mem_of_getElem? (i := 1208) (by decide +kernel)) (by decide +kernel)
theorem kk_45 : Cond.selects RX4 yX4_readSingle yX4_readSingle ∈ gtbl := g_in (List.mem_of_getElem? (i := 45) (by decide +kernel)) (by decide +kernel)
theorem kv_X4_170 : KV RX4 170 mX4_readSingle 0 := ⟨⟨kk_1206, kk_63, kk_1209, by decide +kernel⟩, rfl, kk_1208, kk_45⟩
theorem kk_1210 : Cond.methodLink RX4 173 yX4_deepen ∈ gtbl := g_in (List.mem_of_getElem? (i := 1210) (by decide +kernel)) (by decide +kernel)
theorem kk_1213 : Cond.code yX4_deepen cX4_deepen 1 (some .boolean) ∈ gtbl := g_in (List.mem_of_getElem? (i := 1213) (by decide +kernel)) (by decide +kernel)
theorem kk_1212 : Cond.instanceMethod yX4_deepen ∈ gtbl := g_in (List.mem_of_getElem? (i := 1212) (by decide +kernel)) (by decide +kernel)
theorem kk_46 : Cond.selects RX4 yX4_deepen yX4_deepen ∈ gtbl := g_in (List.mem_of_getElem? (i := 46) (by decide +kernel)) (by decide +kernel)
theorem kv_X4_173 : KV RX4 173 mX4_deepen 0 := ⟨⟨kk_1210, kk_63, kk_1213, by decide +kernel⟩, rfl, kk_1212, kk_46⟩
abbrev mX4_readTest : MT := (yX4_readTest, cX4_readTest, 2, none, [])
theorem kk_1198 : Cond.methodLink RX4 158 yX4_readTest ∈ gtbl := g_in (List.mem_of_getElem? (i := 1198) (by decide +kernel)) (by decide +kernel)
theorem kk_1201 : Cond.code yX4_readTest cX4_readTest 2 none ∈ gtbl := g_in (List.mem_of_getElem? (i := 1201) (by decide +kernel)) (by decide +kernel)
theorem kk_1200 : Cond.instanceMethod yX4_readTest ∈ gtbl := g_in (List.mem_of_getElem? (i := 1200) (by decide +kernel)) (by decide +kernel)
theorem kk_43 : Cond.selects RX4 yX4_readTest yX4_readTest ∈ gtbl := g_in (List.mem_of_getElem? (i := 43) (by decide +kernel)) (by decide +kernel)
theorem kv_X4_158 : KV RX4 158 mX4_readTest 0 := ⟨⟨kk_1198, kk_63, kk_1201, by decide +kernel⟩, rfl, kk_1200, kk_43⟩
theorem kk_1176 : Cond.methodLink RX4 62 yX4_expect ∈ gtbl := g_in (List.mem_of_getElem? (i := 1176) (by decide +kernel)) (by decide +kernel)
theorem kk_1179 : Cond.code yX4_expect cX4_expect 2 none ∈ gtbl := g_in (List.mem_of_getElem? (i := 1179) (by decide +kernel)) (by decide +kernel)
theorem kk_1178 : Cond.instanceMethod yX4_expect ∈ gtbl := g_in (List.mem_of_getElem? (i := 1178) (by decide +kernel)) (by decide +kernel)
theorem kk_40 : Cond.selects RX4 yX4_expect yX4_expect ∈ gtbl := g_in (List.mem_of_getElem? (i := 40) (by decide +kernel)) (by decide +kernel)
theorem kv_X4_62 : KV RX4 62 mX4_expect 1 := ⟨⟨kk_1176, kk_63, kk_1179, by decide +kernel⟩, rfl, kk_1178, kk_40⟩
theorem kk_1219 : Cond.methodLink RX4 176 yX4_readTwoTellers ∈ gtbl := g_in (List.mem_of_getElem? (i := 1219) (by decide +kernel)) (by decide +kernel)
theorem kk_1222 : Cond.code yX4_readTwoTellers cX4_readTwoTellers 3 none ∈ gtbl := g_in (List.mem_of_getElem? (i := 1222) (by decide +kernel)) (by decide +kernel)
theorem kk_1221 : Cond.instanceMethod yX4_readTwoTellers ∈ gtbl := g_in (List.mem_of_getElem? (i := 1221) (by decide +kernel)) (by decide +kernel)
theorem kk_47 : Cond.selects RX4 yX4_readTwoTellers yX4_readTwoTellers ∈ gtbl := g_in (List.mem_of_getElem? (i := 47) (by decide +kernel)) (by decide +kernel)
theorem kv_X4_176 : KV RX4 176 mX4_readTwoTellers 0 := ⟨⟨kk_1219, kk_63, kk_1222, by decide +kernel⟩, rfl, kk_1221, kk_47⟩
theorem kk_381 : Cond.fieldLink RX4 32 RX4 "eventNames" "LStoryTapestry$Names;" ∈ gtbl := g_in (List.mem_of_getElem? (i := 381) (by decide +kernel)) (by decide +kernel)
theorem fl_X4_32 : FL RX4 32 4 2 (.object "StoryTapestry$Names") true := ⟨RX4, TX4, 9, tyX4, rfl, by decide, il_4, tyX4_ok, nmX4, rfl, rfl, Or.inl kk_381⟩
abbrev mX4_readSum : MT := (yX4_readSum, cX4_readSum, 3, none, [])
theorem kk_1223 : Cond.methodLink RX4 179 yX4_readSum ∈ gtbl := g_in (List.mem_of_getElem? (i := 1223) (by decide +kernel)) (by decide +kernel)
theorem kk_1226 : Cond.code yX4_readSum cX4_readSum 3 none ∈ gtbl := g_in (List.mem_of_getElem? (i := 1226) (by decide +kernel)) (by decide +kernel)
theorem kk_1225 : Cond.instanceMethod yX4_readSum ∈ gtbl := g_in (List.mem_of_getElem? (i := 1225) (by decide +kernel)) (by decide +kernel)
theorem kk_48 : Cond.selects RX4 yX4_readSum yX4_readSum ∈ gtbl := g_in (List.mem_of_getElem? (i := 48) (by decide +kernel)) (by decide +kernel)
theorem kv_X4_179 : KV RX4 179 mX4_readSum 0 := ⟨⟨kk_1223, kk_63, kk_1226, by decide +kernel⟩, rfl, kk_1225, kk_48⟩
abbrev mX4_readCompared : MT := (yX4_readCompared, cX4_readCompared, 2, none, [])
theorem kk_1239 : Cond.methodLink RX4 182 yX4_readCompared ∈ gtbl := g_in (List.mem_of_getElem? (i := 1239) (by decide +kernel)) (by decide +kernel)
theorem kk_1242 : Cond.code yX4_readCompared cX4_readCompared 2 none ∈ gtbl := g_in (List.mem_of_getElem? (i := 1242) (by decide +kernel)) (by decide +kernel)
theorem kk_1241 : Cond.instanceMethod yX4_readCompared ∈ gtbl := g_in (List.mem_of_getElem? (i := 1241) (by decide +kernel)) (by decide +kernel)
theorem kk_52 : Cond.selects RX4 yX4_readCompared yX4_readCompared ∈ gtbl := g_in (List.mem_of_getElem? (i := 52) (by decide +kernel)) (by decide +kernel)
theorem kv_X4_182 : KV RX4 182 mX4_readCompared 0 := ⟨⟨kk_1239, kk_63, kk_1242, by decide +kernel⟩, rfl, kk_1241, kk_52⟩
abbrev mX4_readProduct : MT := (yX4_readProduct, cX4_readProduct, 3, none, [])
theorem kk_1227 : Cond.methodLink RX4 185 yX4_readProduct ∈ gtbl := g_in (List.mem_of_getElem? (i := 1227) (by decide +kernel)) (by decide +kernel)
theorem kk_1230 : Cond.code yX4_readProduct cX4_readProduct 3 none ∈ gtbl := g_in (List.mem_of_getElem? (i := 1230) (by decide +kernel)) (by decide +kernel)
theorem kk_1229 : Cond.instanceMethod yX4_readProduct ∈ gtbl := g_in (List.mem_of_getElem? (i := 1229) (by decide +kernel)) (by decide +kernel)
theorem kk_49 : Cond.selects RX4 yX4_readProduct yX4_readProduct ∈ gtbl := g_in (List.mem_of_getElem? (i := 49) (by decide +kernel)) (by decide +kernel)
theorem kv_X4_185 : KV RX4 185 mX4_readProduct 0 := ⟨⟨kk_1227, kk_63, kk_1230, by decide +kernel⟩, rfl, kk_1229, kk_49⟩
abbrev mX4_readValue : MT := (yX4_readValue, cX4_readValue, 2, none, [])
theorem kk_1231 : Cond.methodLink RX4 188 yX4_readValue ∈ gtbl := g_in (List.mem_of_getElem? (i := 1231) (by decide +kernel)) (by decide +kernel)
theorem kk_1234 : Cond.code yX4_readValue cX4_readValue 2 none ∈ gtbl := g_in (List.mem_of_getElem? (i := 1234) (by decide +kernel)) (by decide +kernel)
theorem kk_1233 : Cond.instanceMethod yX4_readValue ∈ gtbl := g_in (List.mem_of_getElem? (i := 1233) (by decide +kernel)) (by decide +kernel)
theorem kk_50 : Cond.selects RX4 yX4_readValue yX4_readValue ∈ gtbl := g_in (List.mem_of_getElem? (i := 50) (by decide +kernel)) (by decide +kernel)
theorem kv_X4_188 : KV RX4 188 mX4_readValue 0 := ⟨⟨kk_1231, kk_63, kk_1234, by decide +kernel⟩, rfl, kk_1233, kk_50⟩
theorem kn_345 : Cond.fieldLinkNest RX4 148 RX7 "numbers" "LStoryTapestry$Row;" "StoryTapestry" ∈ gnest := n_in (List.mem_of_getElem? (i := 345) (by decide +kernel)) (by decide +kernel)
theorem fl_X4_148 : FL RX4 148 7 3 (.object "StoryTapestry$Row") true := ⟨RX7, TX7, 10, tyX7, rfl, by decide, il_7, tyX7_ok, nmX7, rfl, rfl, Or.inr ⟨_, kn_345⟩⟩
abbrev mX4_readTwoSums : MT := (yX4_readTwoSums, cX4_readTwoSums, 1, none, [])
theorem kk_1235 : Cond.methodLink RX4 191 yX4_readTwoSums ∈ gtbl := g_in (List.mem_of_getElem? (i := 1235) (by decide +kernel)) (by decide +kernel)
theorem kk_1238 : Cond.code yX4_readTwoSums cX4_readTwoSums 1 none ∈ gtbl := g_in (List.mem_of_getElem? (i := 1238) (by decide +kernel)) (by decide +kernel)
theorem kk_1237 : Cond.instanceMethod yX4_readTwoSums ∈ gtbl := g_in (List.mem_of_getElem? (i := 1237) (by decide +kernel)) (by decide +kernel)
theorem kk_51 : Cond.selects RX4 yX4_readTwoSums yX4_readTwoSums ∈ gtbl := g_in (List.mem_of_getElem? (i := 51) (by decide +kernel)) (by decide +kernel)
theorem kv_X4_191 : KV RX4 191 mX4_readTwoSums 0 := ⟨⟨kk_1235, kk_63, kk_1238, by decide +kernel⟩, rfl, kk_1237, kk_51⟩
theorem il_9 : ∀ w ∈ u_ws RX9 TX9 8, w ∈ gtbl := fun w hw => g_in ((by decide +kernel : ∀ w ∈ u_ws RX9 TX9 8, w ∈ lw_tbl) w hw) (List.all_eq_true.mp (by decide +kernel : (u_ws RX9 TX9 8).all goodWord = true) w hw)
theorem kk_441 : Cond.fieldLink RX9 22 RX9 "tape" "LStoryTapestry$Row;" ∈ gtbl := g_in (List.mem_of_getElem? (i := 441) (by decide +kernel)) (by decide +kernel)
theorem fl_X9_22 : FL RX9 22 9 0 (.object "StoryTapestry$Row") true := ⟨RX9, TX9, 8, tyX9, rfl, by decide, il_9, tyX9_ok, nmX9, rfl, rfl, Or.inl kk_441⟩
theorem kk_447 : Cond.fieldLink RX9 55 RX9 "tapeSize" "I" ∈ gtbl := g_in (List.mem_of_getElem? (i := 447) (by decide +kernel)) (by decide +kernel)
theorem fl_X9_55 : FL RX9 55 9 6 (.int) false := ⟨RX9, TX9, 8, tyX9, rfl, by decide, il_9, tyX9_ok, nmX9, rfl, rfl, Or.inl kk_447⟩
theorem kk_1022 : Cond.methodLink RX9 72 yX5_set ∈ gtbl := g_in (List.mem_of_getElem? (i := 1022) (by decide +kernel)) (by decide +kernel)
theorem kv_X9_72 : KV RX9 72 mX5_set 2 := ⟨⟨kk_1022, kk_58, kk_760, by decide +kernel⟩, rfl, kk_758, kk_759⟩
abbrev mX9_appendBytes : MT := (yX9_appendBytes, cX9_appendBytes, 3, none, [])
theorem kk_1018 : Cond.methodLink RX9 69 yX9_appendBytes ∈ gtbl := g_in (List.mem_of_getElem? (i := 1018) (by decide +kernel)) (by decide +kernel)
theorem kk_57 : Cond.initialized RX9 ∈ gtbl := g_in (List.mem_of_getElem? (i := 57) (by decide +kernel)) (by decide +kernel)
theorem kk_1021 : Cond.code yX9_appendBytes cX9_appendBytes 3 none ∈ gtbl := g_in (List.mem_of_getElem? (i := 1021) (by decide +kernel)) (by decide +kernel)
theorem kk_1020 : Cond.instanceMethod yX9_appendBytes ∈ gtbl := g_in (List.mem_of_getElem? (i := 1020) (by decide +kernel)) (by decide +kernel)
theorem kk_26 : Cond.selects RX9 yX9_appendBytes yX9_appendBytes ∈ gtbl := g_in (List.mem_of_getElem? (i := 26) (by decide +kernel)) (by decide +kernel)
theorem kv_X9_69 : KV RX9 69 mX9_appendBytes 1 := ⟨⟨kk_1018, kk_57, kk_1021, by decide +kernel⟩, rfl, kk_1020, kk_26⟩
theorem kk_569 : Cond.classLink RX9 62 "java/lang/IllegalStateException" ∈ gtbl := g_in (List.mem_of_getElem? (i := 569) (by decide +kernel)) (by decide +kernel)
theorem kk_83 : Cond.initialized "java/lang/IllegalStateException" ∈ gtbl := g_in (List.mem_of_getElem? (i := 83) (by decide +kernel)) (by decide +kernel)
theorem at_X9_66 : ∀ w ∈ (vx_atS RX9 66 "java/lang/IllegalStateException" ["java/lang/RuntimeException", "java/lang/Exception"]), w ∈ gtbl ∨ w ∈ gnest := by decide +kernel
theorem at_X9_66o : ∀ w ∈ Cond.classLink RX9 62 "java/lang/IllegalStateException" :: Cond.initialized "java/lang/IllegalStateException" :: (vx_atS RX9 66 "java/lang/IllegalStateException" ["java/lang/RuntimeException", "java/lang/Exception"]), vx_ot w = true := by decide +kernel
theorem kx_X9_62_64_66 : KT RX9 62 66 64 "java/lang/IllegalStateException" ["java/lang/RuntimeException", "java/lang/Exception"] 10 "the tape is full" := ⟨by decide +kernel, by decide +kernel, kk_569, kk_83, rfl, at_X9_66, at_X9_66o, rfl⟩
abbrev mX9_feed : MT := (yX9_feed, cX9_feed, 6, (some .int), [])
theorem kk_783 : Cond.classLink RX9 76 "java/lang/IllegalArgumentException" ∈ gtbl := g_in (List.mem_of_getElem? (i := 783) (by decide +kernel)) (by decide +kernel)
theorem kk_84 : Cond.initialized "java/lang/IllegalArgumentException" ∈ gtbl := g_in (List.mem_of_getElem? (i := 84) (by decide +kernel)) (by decide +kernel)
theorem at_X9_80 : ∀ w ∈ (vx_atS RX9 80 "java/lang/IllegalArgumentException" ["java/lang/RuntimeException", "java/lang/Exception"]), w ∈ gtbl ∨ w ∈ gnest := by decide +kernel
theorem at_X9_80o : ∀ w ∈ Cond.classLink RX9 76 "java/lang/IllegalArgumentException" :: Cond.initialized "java/lang/IllegalArgumentException" :: (vx_atS RX9 80 "java/lang/IllegalArgumentException" ["java/lang/RuntimeException", "java/lang/Exception"]), vx_ot w = true := by decide +kernel
theorem kx_X9_76_78_80 : KT RX9 76 80 78 "java/lang/IllegalArgumentException" ["java/lang/RuntimeException", "java/lang/Exception"] 11 "not 0 to the bytes of the tape" := ⟨by decide +kernel, by decide +kernel, kk_783, kk_84, rfl, at_X9_80, at_X9_80o, rfl⟩
abbrev mX9_trim : MT := (yX9_trim, cX9_trim, 2, (some .int), [])
theorem kk_349 : Cond.fieldLink RX7 67 RX7 "place" "I" ∈ gtbl := g_in (List.mem_of_getElem? (i := 349) (by decide +kernel)) (by decide +kernel)
theorem fl_X7_67 : FL RX7 67 7 7 (.int) false := ⟨RX7, TX7, 10, tyX7, rfl, by decide, il_7, tyX7_ok, nmX7, rfl, rfl, Or.inl kk_349⟩
theorem kk_348 : Cond.fieldLink RX7 63 RX7 "size" "I" ∈ gtbl := g_in (List.mem_of_getElem? (i := 348) (by decide +kernel)) (by decide +kernel)
theorem fl_X7_63 : FL RX7 63 7 6 (.int) false := ⟨RX7, TX7, 10, tyX7, rfl, by decide, il_7, tyX7_ok, nmX7, rfl, rfl, Or.inl kk_348⟩
theorem kk_339 : Cond.fieldLink RX7 9 RX7 "tape" "LStoryTapestry$Row;" ∈ gtbl := g_in (List.mem_of_getElem? (i := 339) (by decide +kernel)) (by decide +kernel)
theorem fl_X7_9 : FL RX7 9 7 0 (.object "StoryTapestry$Row") true := ⟨RX7, TX7, 10, tyX7, rfl, by decide, il_7, tyX7_ok, nmX7, rfl, rfl, Or.inl kk_339⟩
theorem kk_1048 : Cond.methodLink RX7 87 yX5_get ∈ gtbl := g_in (List.mem_of_getElem? (i := 1048) (by decide +kernel)) (by decide +kernel)
theorem kv_X7_87 : KV RX7 87 mX5_get 1 := ⟨⟨kk_1048, kk_58, kk_556, by decide +kernel⟩, rfl, kk_554, kk_555⟩
abbrev mX7_skipBlanks : MT := (yX7_skipBlanks, cX7_skipBlanks, 1, none, [])
abbrev mX7_isLetter : MT := (yX7_isLetter, cX7_isLetter, 1, (some .boolean), [])
abbrev mX7_isDigit : MT := (yX7_isDigit, cX7_isDigit, 1, (some .boolean), [])
theorem kk_288 : Cond.fieldLink RJ0 38 "java/lang/String" "COMPACT_STRINGS" "Z" ∈ gtbl := g_in (List.mem_of_getElem? (i := 288) (by decide +kernel)) (by decide +kernel)
theorem kk_1531 : Cond.fieldLink RJ0 15 "java/lang/String" "coder" "B" ∈ gtbl := g_in (List.mem_of_getElem? (i := 1531) (by decide +kernel)) (by decide +kernel)
abbrev mJ0_isLatin1_aae02 : MT := (yJ0_isLatin1_aae02, cJ0_isLatin1_aae02, 1, (some .boolean), [])
abbrev mJ0_coder_7d493 : MT := (yJ0_coder_7d493, cJ0_coder_7d493, 1, (some .byte), [])
theorem kk_1530 : Cond.fieldLink RJ0 9 "java/lang/String" "value" "[B" ∈ gtbl := g_in (List.mem_of_getElem? (i := 1530) (by decide +kernel)) (by decide +kernel)
theorem kk_284 : Cond.methodLink RJ0 335 yJ0_coder_7d493 ∈ gtbl := g_in (List.mem_of_getElem? (i := 284) (by decide +kernel)) (by decide +kernel)
theorem kk_66 : Cond.initialized RJ0 ∈ gtbl := g_in (List.mem_of_getElem? (i := 66) (by decide +kernel)) (by decide +kernel)
theorem kk_287 : Cond.code yJ0_coder_7d493 cJ0_coder_7d493 1 (some .byte) ∈ gtbl := g_in (List.mem_of_getElem? (i := 287) (by decide +kernel)) (by decide +kernel)
theorem kk_285 : Cond.instanceMethod yJ0_coder_7d493 ∈ gtbl := g_in (List.mem_of_getElem? (i := 285) (by decide +kernel)) (by decide +kernel)
theorem kk_286 : Cond.selects RJ0 yJ0_coder_7d493 yJ0_coder_7d493 ∈ gtbl := g_in (List.mem_of_getElem? (i := 286) (by decide +kernel)) (by decide +kernel)
theorem kv_J0_335 : KV RJ0 335 mJ0_coder_7d493 0 := ⟨⟨kk_284, kk_66, kk_287, by decide +kernel⟩, rfl, kk_285, kk_286⟩
abbrev mJ0_length_8abf5 : MT := (yJ0_length_8abf5, cJ0_length_8abf5, 1, (some .int), [])
abbrev mJ1_canEncode_9a6ad : MT := (yJ1_canEncode_9a6ad, cJ1_canEncode_9a6ad, 1, (some .boolean), [])
abbrev mJ1_indexOfChar_4cfef : MT := (yJ1_indexOfChar_4cfef, cJ1_indexOfChar_4cfef, 6, (some .int), [])
theorem kk_1082 : Cond.methodLink RJ1 88 yJ1_canEncode_9a6ad ∈ gtbl := g_in (List.mem_of_getElem? (i := 1082) (by decide +kernel)) (by decide +kernel)
theorem kk_67 : Cond.initialized RJ1 ∈ gtbl := g_in (List.mem_of_getElem? (i := 67) (by decide +kernel)) (by decide +kernel)
theorem kk_1084 : Cond.code yJ1_canEncode_9a6ad cJ1_canEncode_9a6ad 1 (some .boolean) ∈ gtbl := g_in (List.mem_of_getElem? (i := 1084) (by decide +kernel)) (by decide +kernel)
theorem kk_1083 : Cond.static yJ1_canEncode_9a6ad ∈ gtbl := g_in (List.mem_of_getElem? (i := 1083) (by decide +kernel)) (by decide +kernel)
theorem ks_J1_88 : KS RJ1 88 mJ1_canEncode_9a6ad 1 := ⟨⟨kk_1082, kk_67, kk_1084, by decide +kernel⟩, rfl, kk_1083⟩
abbrev mJ9_max_7cf53 : MT := (yJ9_max_7cf53, cJ9_max_7cf53, 2, (some .int), [])
theorem kk_1085 : Cond.methodLink RJ1 92 yJ9_max_7cf53 ∈ gtbl := g_in (List.mem_of_getElem? (i := 1085) (by decide +kernel)) (by decide +kernel)
theorem kk_75 : Cond.initialized RJ9 ∈ gtbl := g_in (List.mem_of_getElem? (i := 75) (by decide +kernel)) (by decide +kernel)
theorem kk_728 : Cond.code yJ9_max_7cf53 cJ9_max_7cf53 2 (some .int) ∈ gtbl := g_in (List.mem_of_getElem? (i := 728) (by decide +kernel)) (by decide +kernel)
theorem kk_727 : Cond.static yJ9_max_7cf53 ∈ gtbl := g_in (List.mem_of_getElem? (i := 727) (by decide +kernel)) (by decide +kernel)
theorem ks_J1_92 : KS RJ1 92 mJ9_max_7cf53 2 := ⟨⟨kk_1085, kk_75, kk_728, by decide +kernel⟩, rfl, kk_727⟩
abbrev mJ9_min_7cf53 : MT := (yJ9_min_7cf53, cJ9_min_7cf53, 2, (some .int), [])
theorem kk_1086 : Cond.methodLink RJ1 38 yJ9_min_7cf53 ∈ gtbl := g_in (List.mem_of_getElem? (i := 1086) (by decide +kernel)) (by decide +kernel)
theorem kk_721 : Cond.code yJ9_min_7cf53 cJ9_min_7cf53 2 (some .int) ∈ gtbl := g_in (List.mem_of_getElem? (i := 721) (by decide +kernel)) (by decide +kernel)
theorem kk_720 : Cond.static yJ9_min_7cf53 ∈ gtbl := g_in (List.mem_of_getElem? (i := 720) (by decide +kernel)) (by decide +kernel)
theorem ks_J1_38 : KS RJ1 38 mJ9_min_7cf53 2 := ⟨⟨kk_1086, kk_75, kk_721, by decide +kernel⟩, rfl, kk_720⟩
theorem kk_1087 : Cond.methodLink RJ1 95 yJ1_indexOfChar_4cfef ∈ gtbl := g_in (List.mem_of_getElem? (i := 1087) (by decide +kernel)) (by decide +kernel)
theorem kk_1089 : Cond.code yJ1_indexOfChar_4cfef cJ1_indexOfChar_4cfef 6 (some .int) ∈ gtbl := g_in (List.mem_of_getElem? (i := 1089) (by decide +kernel)) (by decide +kernel)
theorem kk_1088 : Cond.static yJ1_indexOfChar_4cfef ∈ gtbl := g_in (List.mem_of_getElem? (i := 1088) (by decide +kernel)) (by decide +kernel)
theorem ks_J1_95 : KS RJ1 95 mJ1_indexOfChar_4cfef 4 := ⟨⟨kk_1087, kk_67, kk_1089, by decide +kernel⟩, rfl, kk_1088⟩
abbrev mJ1_indexOf_4cfef : MT := (yJ1_indexOf_4cfef, cJ1_indexOf_4cfef, 4, (some .int), [])
theorem kk_294 : Cond.methodLink RJ0 492 yJ0_isLatin1_aae02 ∈ gtbl := g_in (List.mem_of_getElem? (i := 294) (by decide +kernel)) (by decide +kernel)
theorem kk_297 : Cond.code yJ0_isLatin1_aae02 cJ0_isLatin1_aae02 1 (some .boolean) ∈ gtbl := g_in (List.mem_of_getElem? (i := 297) (by decide +kernel)) (by decide +kernel)
theorem kk_295 : Cond.instanceMethod yJ0_isLatin1_aae02 ∈ gtbl := g_in (List.mem_of_getElem? (i := 295) (by decide +kernel)) (by decide +kernel)
theorem kk_296 : Cond.selects RJ0 yJ0_isLatin1_aae02 yJ0_isLatin1_aae02 ∈ gtbl := g_in (List.mem_of_getElem? (i := 296) (by decide +kernel)) (by decide +kernel)
theorem kv_J0_492 : KV RJ0 492 mJ0_isLatin1_aae02 0 := ⟨⟨kk_294, kk_66, kk_297, by decide +kernel⟩, rfl, kk_295, kk_296⟩
theorem kk_1078 : Cond.methodLink RJ0 505 yJ0_length_8abf5 ∈ gtbl := g_in (List.mem_of_getElem? (i := 1078) (by decide +kernel)) (by decide +kernel)
theorem kk_283 : Cond.code yJ0_length_8abf5 cJ0_length_8abf5 1 (some .int) ∈ gtbl := g_in (List.mem_of_getElem? (i := 283) (by decide +kernel)) (by decide +kernel)
theorem kk_281 : Cond.instanceMethod yJ0_length_8abf5 ∈ gtbl := g_in (List.mem_of_getElem? (i := 281) (by decide +kernel)) (by decide +kernel)
theorem kk_282 : Cond.selects RJ0 yJ0_length_8abf5 yJ0_length_8abf5 ∈ gtbl := g_in (List.mem_of_getElem? (i := 282) (by decide +kernel)) (by decide +kernel)
theorem kv_J0_505 : KV RJ0 505 mJ0_length_8abf5 0 := ⟨⟨kk_1078, kk_66, kk_283, by decide +kernel⟩, rfl, kk_281, kk_282⟩
theorem kk_1079 : Cond.methodLink RJ0 637 yJ1_indexOf_4cfef ∈ gtbl := g_in (List.mem_of_getElem? (i := 1079) (by decide +kernel)) (by decide +kernel)
theorem kk_1081 : Cond.code yJ1_indexOf_4cfef cJ1_indexOf_4cfef 4 (some .int) ∈ gtbl := g_in (List.mem_of_getElem? (i := 1081) (by decide +kernel)) (by decide +kernel)
theorem kk_1080 : Cond.static yJ1_indexOf_4cfef ∈ gtbl := g_in (List.mem_of_getElem? (i := 1080) (by decide +kernel)) (by decide +kernel)
theorem ks_J0_637 : KS RJ0 637 mJ1_indexOf_4cfef 4 := ⟨⟨kk_1079, kk_67, kk_1081, by decide +kernel⟩, rfl, kk_1080⟩
abbrev mJ0_indexOf_7cf53 : MT := (yJ0_indexOf_7cf53, cJ0_indexOf_7cf53, 3, (some .int), [])
theorem kk_1074 : Cond.methodLink RJ0 633 yJ0_indexOf_7cf53 ∈ gtbl := g_in (List.mem_of_getElem? (i := 1074) (by decide +kernel)) (by decide +kernel)
theorem kk_1077 : Cond.code yJ0_indexOf_7cf53 cJ0_indexOf_7cf53 3 (some .int) ∈ gtbl := g_in (List.mem_of_getElem? (i := 1077) (by decide +kernel)) (by decide +kernel)
theorem kk_1075 : Cond.instanceMethod yJ0_indexOf_7cf53 ∈ gtbl := g_in (List.mem_of_getElem? (i := 1075) (by decide +kernel)) (by decide +kernel)
theorem kk_1076 : Cond.selects RJ0 yJ0_indexOf_7cf53 yJ0_indexOf_7cf53 ∈ gtbl := g_in (List.mem_of_getElem? (i := 1076) (by decide +kernel)) (by decide +kernel)
theorem kv_J0_633 : KV RJ0 633 mJ0_indexOf_7cf53 2 := ⟨⟨kk_1074, kk_66, kk_1077, by decide +kernel⟩, rfl, kk_1075, kk_1076⟩
abbrev mJ0_indexOf_0f7a4 : MT := (yJ0_indexOf_0f7a4, cJ0_indexOf_0f7a4, 2, (some .int), [])
theorem kk_350 : Cond.fieldLink RX7 80 RX7 "number" "I" ∈ gtbl := g_in (List.mem_of_getElem? (i := 350) (by decide +kernel)) (by decide +kernel)
theorem fl_X7_80 : FL RX7 80 7 8 (.int) false := ⟨RX7, TX7, 10, tyX7, rfl, by decide, il_7, tyX7_ok, nmX7, rfl, rfl, Or.inl kk_350⟩
theorem kk_336 : Cond.methodLink RX7 98 yX7_isDigit ∈ gtbl := g_in (List.mem_of_getElem? (i := 336) (by decide +kernel)) (by decide +kernel)
theorem kk_338 : Cond.code yX7_isDigit cX7_isDigit 1 (some .boolean) ∈ gtbl := g_in (List.mem_of_getElem? (i := 338) (by decide +kernel)) (by decide +kernel)
theorem kk_337 : Cond.static yX7_isDigit ∈ gtbl := g_in (List.mem_of_getElem? (i := 337) (by decide +kernel)) (by decide +kernel)
theorem ks_X7_98 : KS RX7 98 mX7_isDigit 1 := ⟨⟨kk_336, kk_64, kk_338, by decide +kernel⟩, rfl, kk_337⟩
abbrev mX7_numberKind : MT := (yX7_numberKind, cX7_numberKind, 2, (some .int), [])
theorem kk_335 : Cond.constantLong RX7 113 (37) ∈ gtbl := g_in (List.mem_of_getElem? (i := 335) (by decide +kernel)) (by decide +kernel)
abbrev mX7_pack : MT := (yX7_pack, cX7_pack, 3, (some .long), [])
theorem kk_351 : Cond.fieldLink RX7 83 RX7 "word" "J" ∈ gtbl := g_in (List.mem_of_getElem? (i := 351) (by decide +kernel)) (by decide +kernel)
theorem fl_X7_83 : FL RX7 83 7 9 (.long) false := ⟨RX7, TX7, 10, tyX7, rfl, by decide, il_7, tyX7_ok, nmX7, rfl, rfl, Or.inl kk_351⟩
theorem kk_347 : Cond.fieldLink RX7 36 RX7 "keywords" "LStoryTapestry$Names;" ∈ gtbl := g_in (List.mem_of_getElem? (i := 347) (by decide +kernel)) (by decide +kernel)
theorem fl_X7_36 : FL RX7 36 7 5 (.object "StoryTapestry$Names") true := ⟨RX7, TX7, 10, tyX7, rfl, by decide, il_7, tyX7_ok, nmX7, rfl, rfl, Or.inl kk_347⟩
theorem kk_1061 : Cond.methodLink RX7 109 yX2_find ∈ gtbl := g_in (List.mem_of_getElem? (i := 1061) (by decide +kernel)) (by decide +kernel)
theorem kv_X7_109 : KV RX7 109 mX2_find 1 := ⟨⟨kk_1061, kk_65, kk_1064, by decide +kernel⟩, rfl, kk_1062, kk_1063⟩
theorem kk_1054 : Cond.methodLink RX7 91 yX7_isLetter ∈ gtbl := g_in (List.mem_of_getElem? (i := 1054) (by decide +kernel)) (by decide +kernel)
theorem kk_1056 : Cond.code yX7_isLetter cX7_isLetter 1 (some .boolean) ∈ gtbl := g_in (List.mem_of_getElem? (i := 1056) (by decide +kernel)) (by decide +kernel)
theorem kk_1055 : Cond.static yX7_isLetter ∈ gtbl := g_in (List.mem_of_getElem? (i := 1055) (by decide +kernel)) (by decide +kernel)
theorem ks_X7_91 : KS RX7 91 mX7_isLetter 1 := ⟨⟨kk_1054, kk_64, kk_1056, by decide +kernel⟩, rfl, kk_1055⟩
theorem kk_332 : Cond.methodLink RX7 59 yX7_pack ∈ gtbl := g_in (List.mem_of_getElem? (i := 332) (by decide +kernel)) (by decide +kernel)
theorem kk_334 : Cond.code yX7_pack cX7_pack 3 (some .long) ∈ gtbl := g_in (List.mem_of_getElem? (i := 334) (by decide +kernel)) (by decide +kernel)
theorem kk_333 : Cond.static yX7_pack ∈ gtbl := g_in (List.mem_of_getElem? (i := 333) (by decide +kernel)) (by decide +kernel)
theorem ks_X7_59 : KS RX7 59 mX7_pack 2 := ⟨⟨kk_332, kk_64, kk_334, by decide +kernel⟩, rfl, kk_333⟩
abbrev mX7_wordKind : MT := (yX7_wordKind, cX7_wordKind, 3, (some .int), [])
theorem kk_1070 : Cond.methodLink RX7 106 yJ0_indexOf_0f7a4 ∈ gtbl := g_in (List.mem_of_getElem? (i := 1070) (by decide +kernel)) (by decide +kernel)
theorem kk_1073 : Cond.code yJ0_indexOf_0f7a4 cJ0_indexOf_0f7a4 2 (some .int) ∈ gtbl := g_in (List.mem_of_getElem? (i := 1073) (by decide +kernel)) (by decide +kernel)
theorem kk_1071 : Cond.instanceMethod yJ0_indexOf_0f7a4 ∈ gtbl := g_in (List.mem_of_getElem? (i := 1071) (by decide +kernel)) (by decide +kernel)
theorem kk_1072 : Cond.selects RJ0 yJ0_indexOf_0f7a4 yJ0_indexOf_0f7a4 ∈ gtbl := g_in (List.mem_of_getElem? (i := 1072) (by decide +kernel)) (by decide +kernel)
theorem kv_X7_106 : KV RX7 106 mJ0_indexOf_0f7a4 1 := ⟨⟨kk_1070, kk_66, kk_1073, by decide +kernel⟩, rfl, kk_1071, kk_1072⟩
theorem kk_1065 : Cond.methodLink RX7 101 yX7_numberKind ∈ gtbl := g_in (List.mem_of_getElem? (i := 1065) (by decide +kernel)) (by decide +kernel)
theorem kk_1068 : Cond.code yX7_numberKind cX7_numberKind 2 (some .int) ∈ gtbl := g_in (List.mem_of_getElem? (i := 1068) (by decide +kernel)) (by decide +kernel)
theorem kk_1067 : Cond.instanceMethod yX7_numberKind ∈ gtbl := g_in (List.mem_of_getElem? (i := 1067) (by decide +kernel)) (by decide +kernel)
theorem kk_31 : Cond.selects RX7 yX7_numberKind yX7_numberKind ∈ gtbl := g_in (List.mem_of_getElem? (i := 31) (by decide +kernel)) (by decide +kernel)
theorem kv_X7_101 : KV RX7 101 mX7_numberKind 0 := ⟨⟨kk_1065, kk_64, kk_1068, by decide +kernel⟩, rfl, kk_1067, kk_31⟩
theorem kk_1057 : Cond.methodLink RX7 95 yX7_wordKind ∈ gtbl := g_in (List.mem_of_getElem? (i := 1057) (by decide +kernel)) (by decide +kernel)
theorem kk_1060 : Cond.code yX7_wordKind cX7_wordKind 3 (some .int) ∈ gtbl := g_in (List.mem_of_getElem? (i := 1060) (by decide +kernel)) (by decide +kernel)
theorem kk_1059 : Cond.instanceMethod yX7_wordKind ∈ gtbl := g_in (List.mem_of_getElem? (i := 1059) (by decide +kernel)) (by decide +kernel)
theorem kk_30 : Cond.selects RX7 yX7_wordKind yX7_wordKind ∈ gtbl := g_in (List.mem_of_getElem? (i := 30) (by decide +kernel)) (by decide +kernel)
theorem kv_X7_95 : KV RX7 95 mX7_wordKind 0 := ⟨⟨kk_1057, kk_64, kk_1060, by decide +kernel⟩, rfl, kk_1059, kk_30⟩
abbrev mX7_nextKind : MT := (yX7_nextKind, cX7_nextKind, 2, (some .int), [])
theorem kk_1044 : Cond.methodLink RX7 70 yX7_skipBlanks ∈ gtbl := g_in (List.mem_of_getElem? (i := 1044) (by decide +kernel)) (by decide +kernel)
theorem kk_1047 : Cond.code yX7_skipBlanks cX7_skipBlanks 1 none ∈ gtbl := g_in (List.mem_of_getElem? (i := 1047) (by decide +kernel)) (by decide +kernel)
theorem kk_1046 : Cond.instanceMethod yX7_skipBlanks ∈ gtbl := g_in (List.mem_of_getElem? (i := 1046) (by decide +kernel)) (by decide +kernel)
theorem kk_28 : Cond.selects RX7 yX7_skipBlanks yX7_skipBlanks ∈ gtbl := g_in (List.mem_of_getElem? (i := 28) (by decide +kernel)) (by decide +kernel)
theorem kv_X7_70 : KV RX7 70 mX7_skipBlanks 0 := ⟨⟨kk_1044, kk_64, kk_1047, by decide +kernel⟩, rfl, kk_1046, kk_28⟩
theorem kk_342 : Cond.fieldLink RX7 23 RX7 "starts" "LStoryTapestry$Row;" ∈ gtbl := g_in (List.mem_of_getElem? (i := 342) (by decide +kernel)) (by decide +kernel)
theorem fl_X7_23 : FL RX7 23 7 2 (.object "StoryTapestry$Row") true := ⟨RX7, TX7, 10, tyX7, rfl, by decide, il_7, tyX7_ok, nmX7, rfl, rfl, Or.inl kk_342⟩
theorem kk_1049 : Cond.methodLink RX7 73 yX5_set ∈ gtbl := g_in (List.mem_of_getElem? (i := 1049) (by decide +kernel)) (by decide +kernel)
theorem kv_X7_73 : KV RX7 73 mX5_set 2 := ⟨⟨kk_1049, kk_58, kk_760, by decide +kernel⟩, rfl, kk_758, kk_759⟩
theorem kk_1050 : Cond.methodLink RX7 77 yX7_nextKind ∈ gtbl := g_in (List.mem_of_getElem? (i := 1050) (by decide +kernel)) (by decide +kernel)
theorem kk_1053 : Cond.code yX7_nextKind cX7_nextKind 2 (some .int) ∈ gtbl := g_in (List.mem_of_getElem? (i := 1053) (by decide +kernel)) (by decide +kernel)
theorem kk_1052 : Cond.instanceMethod yX7_nextKind ∈ gtbl := g_in (List.mem_of_getElem? (i := 1052) (by decide +kernel)) (by decide +kernel)
theorem kk_29 : Cond.selects RX7 yX7_nextKind yX7_nextKind ∈ gtbl := g_in (List.mem_of_getElem? (i := 29) (by decide +kernel)) (by decide +kernel)
theorem kv_X7_77 : KV RX7 77 mX7_nextKind 0 := ⟨⟨kk_1050, kk_64, kk_1053, by decide +kernel⟩, rfl, kk_1052, kk_29⟩
theorem kk_340 : Cond.fieldLink RX7 20 RX7 "kinds" "LStoryTapestry$Row;" ∈ gtbl := g_in (List.mem_of_getElem? (i := 340) (by decide +kernel)) (by decide +kernel)
theorem fl_X7_20 : FL RX7 20 7 1 (.object "StoryTapestry$Row") true := ⟨RX7, TX7, 10, tyX7, rfl, by decide, il_7, tyX7_ok, nmX7, rfl, rfl, Or.inl kk_340⟩
theorem kk_344 : Cond.fieldLink RX7 26 RX7 "numbers" "LStoryTapestry$Row;" ∈ gtbl := g_in (List.mem_of_getElem? (i := 344) (by decide +kernel)) (by decide +kernel)
theorem fl_X7_26 : FL RX7 26 7 3 (.object "StoryTapestry$Row") true := ⟨RX7, TX7, 10, tyX7, rfl, by decide, il_7, tyX7_ok, nmX7, rfl, rfl, Or.inl kk_344⟩
abbrev mX7_split : MT := (yX7_split, cX7_split, 4, none, [])
theorem kk_190 : Cond.fieldLink RX6 10 RX6 "claims" "LStoryTapestry$Claims;" ∈ gtbl := g_in (List.mem_of_getElem? (i := 190) (by decide +kernel)) (by decide +kernel)
theorem fl_X6_10 : FL RX6 10 6 0 (.object "StoryTapestry$Claims") true := ⟨RX6, TX6, 4, tyX6, rfl, by decide, il_6, tyX6_ok, nmX6, rfl, rfl, Or.inl kk_190⟩
theorem il_0 : ∀ w ∈ u_ws RX0 TX0 6, w ∈ gtbl := fun w hw => g_in ((by decide +kernel : ∀ w ∈ u_ws RX0 TX0 6, w ∈ lw_tbl) w hw) (List.all_eq_true.mp (by decide +kernel : (u_ws RX0 TX0 6).all goodWord = true) w hw)
theorem kn_136 : Cond.fieldLinkNest RX6 23 RX0 "count" "I" "StoryTapestry" ∈ gnest := n_in (List.mem_of_getElem? (i := 136) (by decide +kernel)) (by decide +kernel)
theorem fl_X6_23 : FL RX6 23 0 5 (.int) false := ⟨RX0, TX0, 6, tyX0, rfl, by decide, il_0, tyX0_ok, nmX0, rfl, rfl, Or.inr ⟨_, kn_136⟩⟩
theorem kk_195 : Cond.fieldLink RX6 19 RX6 "orders" "LStoryTapestry$Orders;" ∈ gtbl := g_in (List.mem_of_getElem? (i := 195) (by decide +kernel)) (by decide +kernel)
theorem fl_X6_19 : FL RX6 19 6 1 (.object "StoryTapestry$Orders") true := ⟨RX6, TX6, 4, tyX6, rfl, by decide, il_6, tyX6_ok, nmX6, rfl, rfl, Or.inl kk_195⟩
theorem kn_171 : Cond.fieldLinkNest RX6 27 RX3 "count" "I" "StoryTapestry" ∈ gnest := n_in (List.mem_of_getElem? (i := 171) (by decide +kernel)) (by decide +kernel)
theorem fl_X6_27 : FL RX6 27 3 5 (.int) false := ⟨RX3, TX3, 7, tyX3, rfl, by decide, il_3, tyX3_ok, nmX3, rfl, rfl, Or.inr ⟨_, kn_171⟩⟩
theorem kn_174 : Cond.fieldLinkNest RX6 28 RX3 "stepCount" "I" "StoryTapestry" ∈ gnest := n_in (List.mem_of_getElem? (i := 174) (by decide +kernel)) (by decide +kernel)
theorem fl_X6_28 : FL RX6 28 3 6 (.int) false := ⟨RX3, TX3, 7, tyX3, rfl, by decide, il_3, tyX3_ok, nmX3, rfl, rfl, Or.inr ⟨_, kn_174⟩⟩
theorem kk_198 : Cond.fieldLink RX6 31 RX6 "eventCount" "I" ∈ gtbl := g_in (List.mem_of_getElem? (i := 198) (by decide +kernel)) (by decide +kernel)
theorem fl_X6_31 : FL RX6 31 6 2 (.int) false := ⟨RX6, TX6, 4, tyX6, rfl, by decide, il_6, tyX6_ok, nmX6, rfl, rfl, Or.inl kk_198⟩
theorem kk_202 : Cond.fieldLink RX6 34 RX6 "tellerCount" "I" ∈ gtbl := g_in (List.mem_of_getElem? (i := 202) (by decide +kernel)) (by decide +kernel)
theorem fl_X6_34 : FL RX6 34 6 3 (.int) false := ⟨RX6, TX6, 4, tyX6, rfl, by decide, il_6, tyX6_ok, nmX6, rfl, rfl, Or.inl kk_202⟩
abbrev mX6_clear : MT := (yX6_clear, cX6_clear, 1, none, [])
theorem kk_1040 : Cond.methodLink RX4 74 yX7_split ∈ gtbl := g_in (List.mem_of_getElem? (i := 1040) (by decide +kernel)) (by decide +kernel)
theorem kk_1043 : Cond.code yX7_split cX7_split 4 none ∈ gtbl := g_in (List.mem_of_getElem? (i := 1043) (by decide +kernel)) (by decide +kernel)
theorem kk_1041 : Cond.instanceMethod yX7_split ∈ gtbl := g_in (List.mem_of_getElem? (i := 1041) (by decide +kernel)) (by decide +kernel)
theorem kk_1042 : Cond.selects RX7 yX7_split yX7_split ∈ gtbl := g_in (List.mem_of_getElem? (i := 1042) (by decide +kernel)) (by decide +kernel)
theorem kv_X4_74 : KV RX4 74 mX7_split 1 := ⟨⟨kk_1040, kk_64, kk_1043, by decide +kernel⟩, rfl, kk_1041, kk_1042⟩
theorem kk_1125 : Cond.methodLink RX4 77 yX6_clear ∈ gtbl := g_in (List.mem_of_getElem? (i := 1125) (by decide +kernel)) (by decide +kernel)
theorem kk_59 : Cond.initialized RX6 ∈ gtbl := g_in (List.mem_of_getElem? (i := 59) (by decide +kernel)) (by decide +kernel)
theorem kk_1128 : Cond.code yX6_clear cX6_clear 1 none ∈ gtbl := g_in (List.mem_of_getElem? (i := 1128) (by decide +kernel)) (by decide +kernel)
theorem kk_1126 : Cond.instanceMethod yX6_clear ∈ gtbl := g_in (List.mem_of_getElem? (i := 1126) (by decide +kernel)) (by decide +kernel)
theorem kk_1127 : Cond.selects RX6 yX6_clear yX6_clear ∈ gtbl := g_in (List.mem_of_getElem? (i := 1127) (by decide +kernel)) (by decide +kernel)
theorem kv_X4_77 : KV RX4 77 mX6_clear 0 := ⟨⟨kk_1125, kk_59, kk_1128, by decide +kernel⟩, rfl, kk_1126, kk_1127⟩
theorem kn_268 : Cond.fieldLinkNest RX4 65 RX2 "count" "I" "StoryTapestry" ∈ gnest := n_in (List.mem_of_getElem? (i := 268) (by decide +kernel)) (by decide +kernel)
theorem fl_X4_65 : FL RX4 65 2 1 (.int) false := ⟨RX2, TX2, 2, tyX2, rfl, by decide, il_2, tyX2_ok, nmX2, rfl, rfl, Or.inr ⟨_, kn_268⟩⟩
abbrev mX4_restart : MT := (yX4_restart, cX4_restart, 2, none, [])
theorem kk_170 : Cond.fieldLink RX3 32 RX3 "count" "I" ∈ gtbl := g_in (List.mem_of_getElem? (i := 170) (by decide +kernel)) (by decide +kernel)
theorem fl_X3_32 : FL RX3 32 3 5 (.int) false := ⟨RX3, TX3, 7, tyX3, rfl, by decide, il_3, tyX3_ok, nmX3, rfl, rfl, Or.inl kk_170⟩
abbrev mX3_isFull : MT := (yX3_isFull, cX3_isFull, 1, (some .boolean), [])
abbrev mX9_one : MT := (yX9_one, cX9_one, 1, (some .int), [])
theorem kk_1247 : Cond.methodLink RX3 47 yX3_isFull ∈ gtbl := g_in (List.mem_of_getElem? (i := 1247) (by decide +kernel)) (by decide +kernel)
theorem kk_1197 : Cond.code yX3_isFull cX3_isFull 1 (some .boolean) ∈ gtbl := g_in (List.mem_of_getElem? (i := 1197) (by decide +kernel)) (by decide +kernel)
theorem kk_1195 : Cond.instanceMethod yX3_isFull ∈ gtbl := g_in (List.mem_of_getElem? (i := 1195) (by decide +kernel)) (by decide +kernel)
theorem kk_1196 : Cond.selects RX3 yX3_isFull yX3_isFull ∈ gtbl := g_in (List.mem_of_getElem? (i := 1196) (by decide +kernel)) (by decide +kernel)
theorem kv_X3_47 : KV RX3 47 mX3_isFull 0 := ⟨⟨kk_1247, kk_61, kk_1197, by decide +kernel⟩, rfl, kk_1195, kk_1196⟩
theorem kk_160 : Cond.fieldLink RX3 14 RX3 "doubts" "LStoryTapestry$Row;" ∈ gtbl := g_in (List.mem_of_getElem? (i := 160) (by decide +kernel)) (by decide +kernel)
theorem fl_X3_14 : FL RX3 14 3 0 (.object "StoryTapestry$Row") true := ⟨RX3, TX3, 7, tyX3, rfl, by decide, il_3, tyX3_ok, nmX3, rfl, rfl, Or.inl kk_160⟩
theorem kn_1248 : Cond.methodLinkNest RX3 51 yX9_one "StoryTapestry" ∈ gnest := n_in (List.mem_of_getElem? (i := 1248) (by decide +kernel)) (by decide +kernel)
theorem kk_825 : Cond.code yX9_one cX9_one 1 (some .int) ∈ gtbl := g_in (List.mem_of_getElem? (i := 825) (by decide +kernel)) (by decide +kernel)
theorem kk_824 : Cond.static yX9_one ∈ gtbl := g_in (List.mem_of_getElem? (i := 824) (by decide +kernel)) (by decide +kernel)
theorem kq_X3_51 : KSN RX3 51 mX9_one 1 := ⟨⟨_, kn_1248⟩, kk_57, kk_825, rfl, by decide +kernel, kk_824⟩
theorem kk_162 : Cond.fieldLink RX3 20 RX3 "tellers" "LStoryTapestry$Row;" ∈ gtbl := g_in (List.mem_of_getElem? (i := 162) (by decide +kernel)) (by decide +kernel)
theorem fl_X3_20 : FL RX3 20 3 1 (.object "StoryTapestry$Row") true := ⟨RX3, TX3, 7, tyX3, rfl, by decide, il_3, tyX3_ok, nmX3, rfl, rfl, Or.inl kk_162⟩
theorem kk_164 : Cond.fieldLink RX3 23 RX3 "ends" "LStoryTapestry$Row;" ∈ gtbl := g_in (List.mem_of_getElem? (i := 164) (by decide +kernel)) (by decide +kernel)
theorem fl_X3_23 : FL RX3 23 3 2 (.object "StoryTapestry$Row") true := ⟨RX3, TX3, 7, tyX3, rfl, by decide, il_3, tyX3_ok, nmX3, rfl, rfl, Or.inl kk_164⟩
abbrev mX3_add : MT := (yX3_add, cX3_add, 3, none, [])
theorem kk_1194 : Cond.methodLink RX4 155 yX3_isFull ∈ gtbl := g_in (List.mem_of_getElem? (i := 1194) (by decide +kernel)) (by decide +kernel)
theorem kv_X4_155 : KV RX4 155 mX3_isFull 0 := ⟨⟨kk_1194, kk_61, kk_1197, by decide +kernel⟩, rfl, kk_1195, kk_1196⟩
theorem kk_1243 : Cond.methodLink RX4 161 yX3_add ∈ gtbl := g_in (List.mem_of_getElem? (i := 1243) (by decide +kernel)) (by decide +kernel)
theorem kk_1246 : Cond.code yX3_add cX3_add 3 none ∈ gtbl := g_in (List.mem_of_getElem? (i := 1246) (by decide +kernel)) (by decide +kernel)
theorem kk_1244 : Cond.instanceMethod yX3_add ∈ gtbl := g_in (List.mem_of_getElem? (i := 1244) (by decide +kernel)) (by decide +kernel)
theorem kk_1245 : Cond.selects RX3 yX3_add yX3_add ∈ gtbl := g_in (List.mem_of_getElem? (i := 1245) (by decide +kernel)) (by decide +kernel)
theorem kv_X4_161 : KV RX4 161 mX3_add 2 := ⟨⟨kk_1243, kk_61, kk_1246, by decide +kernel⟩, rfl, kk_1244, kk_1245⟩
abbrev mX4_readOrder : MT := (yX4_readOrder, cX4_readOrder, 3, none, [])
theorem kk_135 : Cond.fieldLink RX0 32 RX0 "count" "I" ∈ gtbl := g_in (List.mem_of_getElem? (i := 135) (by decide +kernel)) (by decide +kernel)
theorem fl_X0_32 : FL RX0 32 0 5 (.int) false := ⟨RX0, TX0, 6, tyX0, rfl, by decide, il_0, tyX0_ok, nmX0, rfl, rfl, Or.inl kk_135⟩
abbrev mX0_isFull : MT := (yX0_isFull, cX0_isFull, 1, (some .boolean), [])
theorem kk_1184 : Cond.methodLink RX0 40 yX0_isFull ∈ gtbl := g_in (List.mem_of_getElem? (i := 1184) (by decide +kernel)) (by decide +kernel)
theorem kk_60 : Cond.initialized RX0 ∈ gtbl := g_in (List.mem_of_getElem? (i := 60) (by decide +kernel)) (by decide +kernel)
theorem kk_1163 : Cond.code yX0_isFull cX0_isFull 1 (some .boolean) ∈ gtbl := g_in (List.mem_of_getElem? (i := 1163) (by decide +kernel)) (by decide +kernel)
theorem kk_1161 : Cond.instanceMethod yX0_isFull ∈ gtbl := g_in (List.mem_of_getElem? (i := 1161) (by decide +kernel)) (by decide +kernel)
theorem kk_1162 : Cond.selects RX0 yX0_isFull yX0_isFull ∈ gtbl := g_in (List.mem_of_getElem? (i := 1162) (by decide +kernel)) (by decide +kernel)
theorem kv_X0_40 : KV RX0 40 mX0_isFull 0 := ⟨⟨kk_1184, kk_60, kk_1163, by decide +kernel⟩, rfl, kk_1161, kk_1162⟩
theorem kk_120 : Cond.fieldLink RX0 14 RX0 "tellers" "LStoryTapestry$Row;" ∈ gtbl := g_in (List.mem_of_getElem? (i := 120) (by decide +kernel)) (by decide +kernel)
theorem fl_X0_14 : FL RX0 14 0 0 (.object "StoryTapestry$Row") true := ⟨RX0, TX0, 6, tyX0, rfl, by decide, il_0, tyX0_ok, nmX0, rfl, rfl, Or.inl kk_120⟩
theorem kk_1185 : Cond.methodLink RX0 44 yX5_set ∈ gtbl := g_in (List.mem_of_getElem? (i := 1185) (by decide +kernel)) (by decide +kernel)
theorem kv_X0_44 : KV RX0 44 mX5_set 2 := ⟨⟨kk_1185, kk_58, kk_760, by decide +kernel⟩, rfl, kk_758, kk_759⟩
theorem kk_123 : Cond.fieldLink RX0 20 RX0 "kinds" "LStoryTapestry$Row;" ∈ gtbl := g_in (List.mem_of_getElem? (i := 123) (by decide +kernel)) (by decide +kernel)
theorem fl_X0_20 : FL RX0 20 0 1 (.object "StoryTapestry$Row") true := ⟨RX0, TX0, 6, tyX0, rfl, by decide, il_0, tyX0_ok, nmX0, rfl, rfl, Or.inl kk_123⟩
theorem kk_126 : Cond.fieldLink RX0 23 RX0 "events" "LStoryTapestry$Row;" ∈ gtbl := g_in (List.mem_of_getElem? (i := 126) (by decide +kernel)) (by decide +kernel)
theorem fl_X0_23 : FL RX0 23 0 2 (.object "StoryTapestry$Row") true := ⟨RX0, TX0, 6, tyX0, rfl, by decide, il_0, tyX0_ok, nmX0, rfl, rfl, Or.inl kk_126⟩
theorem kk_129 : Cond.fieldLink RX0 26 RX0 "firsts" "LStoryTapestry$Row;" ∈ gtbl := g_in (List.mem_of_getElem? (i := 129) (by decide +kernel)) (by decide +kernel)
theorem fl_X0_26 : FL RX0 26 0 3 (.object "StoryTapestry$Row") true := ⟨RX0, TX0, 6, tyX0, rfl, by decide, il_0, tyX0_ok, nmX0, rfl, rfl, Or.inl kk_129⟩
theorem kk_132 : Cond.fieldLink RX0 29 RX0 "lasts" "LStoryTapestry$Row;" ∈ gtbl := g_in (List.mem_of_getElem? (i := 132) (by decide +kernel)) (by decide +kernel)
theorem fl_X0_29 : FL RX0 29 0 4 (.object "StoryTapestry$Row") true := ⟨RX0, TX0, 6, tyX0, rfl, by decide, il_0, tyX0_ok, nmX0, rfl, rfl, Or.inl kk_132⟩
abbrev mX0_add : MT := (yX0_add, cX0_add, 6, none, [])
theorem kn_194 : Cond.fieldLinkNest RX4 124 RX6 "claims" "LStoryTapestry$Claims;" "StoryTapestry" ∈ gnest := n_in (List.mem_of_getElem? (i := 194) (by decide +kernel)) (by decide +kernel)
theorem fl_X4_124 : FL RX4 124 6 0 (.object "StoryTapestry$Claims") true := ⟨RX6, TX6, 4, tyX6, rfl, by decide, il_6, tyX6_ok, nmX6, rfl, rfl, Or.inr ⟨_, kn_194⟩⟩
theorem kk_1180 : Cond.methodLink RX4 145 yX0_add ∈ gtbl := g_in (List.mem_of_getElem? (i := 1180) (by decide +kernel)) (by decide +kernel)
theorem kk_1183 : Cond.code yX0_add cX0_add 6 none ∈ gtbl := g_in (List.mem_of_getElem? (i := 1183) (by decide +kernel)) (by decide +kernel)
theorem kk_1181 : Cond.instanceMethod yX0_add ∈ gtbl := g_in (List.mem_of_getElem? (i := 1181) (by decide +kernel)) (by decide +kernel)
theorem kk_1182 : Cond.selects RX0 yX0_add yX0_add ∈ gtbl := g_in (List.mem_of_getElem? (i := 1182) (by decide +kernel)) (by decide +kernel)
theorem kv_X4_145 : KV RX4 145 mX0_add 5 := ⟨⟨kk_1180, kk_60, kk_1183, by decide +kernel⟩, rfl, kk_1181, kk_1182⟩
abbrev mX4_readOther : MT := (yX4_readOther, cX4_readOther, 5, none, [])
abbrev mX4_readHour : MT := (yX4_readHour, cX4_readHour, 3, (some .int), [])
theorem kk_1172 : Cond.methodLink RX4 142 yX4_readHour ∈ gtbl := g_in (List.mem_of_getElem? (i := 1172) (by decide +kernel)) (by decide +kernel)
theorem kk_1175 : Cond.code yX4_readHour cX4_readHour 3 (some .int) ∈ gtbl := g_in (List.mem_of_getElem? (i := 1175) (by decide +kernel)) (by decide +kernel)
theorem kk_1174 : Cond.instanceMethod yX4_readHour ∈ gtbl := g_in (List.mem_of_getElem? (i := 1174) (by decide +kernel)) (by decide +kernel)
theorem kk_39 : Cond.selects RX4 yX4_readHour yX4_readHour ∈ gtbl := g_in (List.mem_of_getElem? (i := 39) (by decide +kernel)) (by decide +kernel)
theorem kv_X4_142 : KV RX4 142 mX4_readHour 1 := ⟨⟨kk_1172, kk_63, kk_1175, by decide +kernel⟩, rfl, kk_1174, kk_39⟩
abbrev mX4_readHours : MT := (yX4_readHours, cX4_readHours, 5, none, [])
theorem kk_1160 : Cond.methodLink RX4 128 yX0_isFull ∈ gtbl := g_in (List.mem_of_getElem? (i := 1160) (by decide +kernel)) (by decide +kernel)
theorem kv_X4_128 : KV RX4 128 mX0_isFull 0 := ⟨⟨kk_1160, kk_60, kk_1163, by decide +kernel⟩, rfl, kk_1161, kk_1162⟩
theorem kk_1186 : Cond.methodLink RX4 139 yX4_readOther ∈ gtbl := g_in (List.mem_of_getElem? (i := 1186) (by decide +kernel)) (by decide +kernel)
theorem kk_1189 : Cond.code yX4_readOther cX4_readOther 5 none ∈ gtbl := g_in (List.mem_of_getElem? (i := 1189) (by decide +kernel)) (by decide +kernel)
theorem kk_1188 : Cond.instanceMethod yX4_readOther ∈ gtbl := g_in (List.mem_of_getElem? (i := 1188) (by decide +kernel)) (by decide +kernel)
theorem kk_41 : Cond.selects RX4 yX4_readOther yX4_readOther ∈ gtbl := g_in (List.mem_of_getElem? (i := 41) (by decide +kernel)) (by decide +kernel)
theorem kv_X4_139 : KV RX4 139 mX4_readOther 2 := ⟨⟨kk_1186, kk_63, kk_1189, by decide +kernel⟩, rfl, kk_1188, kk_41⟩
theorem kk_1168 : Cond.methodLink RX4 135 yX4_readHours ∈ gtbl := g_in (List.mem_of_getElem? (i := 1168) (by decide +kernel)) (by decide +kernel)
theorem kk_1171 : Cond.code yX4_readHours cX4_readHours 5 none ∈ gtbl := g_in (List.mem_of_getElem? (i := 1171) (by decide +kernel)) (by decide +kernel)
theorem kk_1170 : Cond.instanceMethod yX4_readHours ∈ gtbl := g_in (List.mem_of_getElem? (i := 1170) (by decide +kernel)) (by decide +kernel)
theorem kk_38 : Cond.selects RX4 yX4_readHours yX4_readHours ∈ gtbl := g_in (List.mem_of_getElem? (i := 38) (by decide +kernel)) (by decide +kernel)
theorem kv_X4_135 : KV RX4 135 mX4_readHours 2 := ⟨⟨kk_1168, kk_63, kk_1171, by decide +kernel⟩, rfl, kk_1170, kk_38⟩
abbrev mX4_readClaim : MT := (yX4_readClaim, cX4_readClaim, 3, none, [])
theorem kk_1151 : Cond.methodLink RX4 116 yX2_isFull ∈ gtbl := g_in (List.mem_of_getElem? (i := 1151) (by decide +kernel)) (by decide +kernel)
theorem kk_1154 : Cond.code yX2_isFull cX2_isFull 1 (some .boolean) ∈ gtbl := g_in (List.mem_of_getElem? (i := 1154) (by decide +kernel)) (by decide +kernel)
theorem kk_1152 : Cond.instanceMethod yX2_isFull ∈ gtbl := g_in (List.mem_of_getElem? (i := 1152) (by decide +kernel)) (by decide +kernel)
theorem kk_1153 : Cond.selects RX2 yX2_isFull yX2_isFull ∈ gtbl := g_in (List.mem_of_getElem? (i := 1153) (by decide +kernel)) (by decide +kernel)
theorem kv_X4_116 : KV RX4 116 mX2_isFull 0 := ⟨⟨kk_1151, kk_65, kk_1154, by decide +kernel⟩, rfl, kk_1152, kk_1153⟩
theorem kk_1155 : Cond.methodLink RX4 120 yX2_add ∈ gtbl := g_in (List.mem_of_getElem? (i := 1155) (by decide +kernel)) (by decide +kernel)
theorem kk_331 : Cond.code yX2_add cX2_add 3 none ∈ gtbl := g_in (List.mem_of_getElem? (i := 331) (by decide +kernel)) (by decide +kernel)
theorem kk_329 : Cond.instanceMethod yX2_add ∈ gtbl := g_in (List.mem_of_getElem? (i := 329) (by decide +kernel)) (by decide +kernel)
theorem kk_330 : Cond.selects RX2 yX2_add yX2_add ∈ gtbl := g_in (List.mem_of_getElem? (i := 330) (by decide +kernel)) (by decide +kernel)
theorem kv_X4_120 : KV RX4 120 mX2_add 1 := ⟨⟨kk_1155, kk_65, kk_331, by decide +kernel⟩, rfl, kk_329, kk_330⟩
abbrev mX4_readNew : MT := (yX4_readNew, cX4_readNew, 2, none, [])
theorem kk_1036 : Cond.methodLink RX4 39 yX4_restart ∈ gtbl := g_in (List.mem_of_getElem? (i := 1036) (by decide +kernel)) (by decide +kernel)
theorem kk_1039 : Cond.code yX4_restart cX4_restart 2 none ∈ gtbl := g_in (List.mem_of_getElem? (i := 1039) (by decide +kernel)) (by decide +kernel)
theorem kk_1038 : Cond.instanceMethod yX4_restart ∈ gtbl := g_in (List.mem_of_getElem? (i := 1038) (by decide +kernel)) (by decide +kernel)
theorem kk_27 : Cond.selects RX4 yX4_restart yX4_restart ∈ gtbl := g_in (List.mem_of_getElem? (i := 27) (by decide +kernel)) (by decide +kernel)
theorem kv_X4_39 : KV RX4 39 mX4_restart 1 := ⟨⟨kk_1036, kk_63, kk_1039, by decide +kernel⟩, rfl, kk_1038, kk_27⟩
theorem kn_199 : Cond.fieldLinkNest RX4 68 RX6 "eventCount" "I" "StoryTapestry" ∈ gnest := n_in (List.mem_of_getElem? (i := 199) (by decide +kernel)) (by decide +kernel)
theorem fl_X4_68 : FL RX4 68 6 2 (.int) false := ⟨RX6, TX6, 4, tyX6, rfl, by decide, il_6, tyX6_ok, nmX6, rfl, rfl, Or.inr ⟨_, kn_199⟩⟩
theorem kn_203 : Cond.fieldLinkNest RX4 71 RX6 "tellerCount" "I" "StoryTapestry" ∈ gnest := n_in (List.mem_of_getElem? (i := 203) (by decide +kernel)) (by decide +kernel)
theorem fl_X4_71 : FL RX4 71 6 3 (.int) false := ⟨RX6, TX6, 4, tyX6, rfl, by decide, il_6, tyX6_ok, nmX6, rfl, rfl, Or.inr ⟨_, kn_203⟩⟩
theorem kk_1190 : Cond.methodLink RX4 56 yX4_readOrder ∈ gtbl := g_in (List.mem_of_getElem? (i := 1190) (by decide +kernel)) (by decide +kernel)
theorem kk_1193 : Cond.code yX4_readOrder cX4_readOrder 3 none ∈ gtbl := g_in (List.mem_of_getElem? (i := 1193) (by decide +kernel)) (by decide +kernel)
theorem kk_1192 : Cond.instanceMethod yX4_readOrder ∈ gtbl := g_in (List.mem_of_getElem? (i := 1192) (by decide +kernel)) (by decide +kernel)
theorem kk_42 : Cond.selects RX4 yX4_readOrder yX4_readOrder ∈ gtbl := g_in (List.mem_of_getElem? (i := 42) (by decide +kernel)) (by decide +kernel)
theorem kv_X4_56 : KV RX4 56 mX4_readOrder 0 := ⟨⟨kk_1190, kk_63, kk_1193, by decide +kernel⟩, rfl, kk_1192, kk_42⟩
theorem kk_1156 : Cond.methodLink RX4 53 yX4_readClaim ∈ gtbl := g_in (List.mem_of_getElem? (i := 1156) (by decide +kernel)) (by decide +kernel)
theorem kk_1159 : Cond.code yX4_readClaim cX4_readClaim 3 none ∈ gtbl := g_in (List.mem_of_getElem? (i := 1159) (by decide +kernel)) (by decide +kernel)
theorem kk_1158 : Cond.instanceMethod yX4_readClaim ∈ gtbl := g_in (List.mem_of_getElem? (i := 1158) (by decide +kernel)) (by decide +kernel)
theorem kk_36 : Cond.selects RX4 yX4_readClaim yX4_readClaim ∈ gtbl := g_in (List.mem_of_getElem? (i := 36) (by decide +kernel)) (by decide +kernel)
theorem kv_X4_53 : KV RX4 53 mX4_readClaim 0 := ⟨⟨kk_1156, kk_63, kk_1159, by decide +kernel⟩, rfl, kk_1158, kk_36⟩
theorem kk_1130 : Cond.methodLink RX4 49 yX4_readNew ∈ gtbl := g_in (List.mem_of_getElem? (i := 1130) (by decide +kernel)) (by decide +kernel)
theorem kk_1133 : Cond.code yX4_readNew cX4_readNew 2 none ∈ gtbl := g_in (List.mem_of_getElem? (i := 1133) (by decide +kernel)) (by decide +kernel)
theorem kk_1132 : Cond.instanceMethod yX4_readNew ∈ gtbl := g_in (List.mem_of_getElem? (i := 1132) (by decide +kernel)) (by decide +kernel)
theorem kk_32 : Cond.selects RX4 yX4_readNew yX4_readNew ∈ gtbl := g_in (List.mem_of_getElem? (i := 32) (by decide +kernel)) (by decide +kernel)
theorem kv_X4_49 : KV RX4 49 mX4_readNew 1 := ⟨⟨kk_1130, kk_63, kk_1133, by decide +kernel⟩, rfl, kk_1132, kk_32⟩
abbrev mX4_read : MT := (yX4_read, cX4_read, 3, (some .int), [])
theorem kk_1257 : Cond.methodLink RX0 36 yX5_copyFrom ∈ gtbl := g_in (List.mem_of_getElem? (i := 1257) (by decide +kernel)) (by decide +kernel)
theorem kk_1260 : Cond.code yX5_copyFrom cX5_copyFrom 3 none ∈ gtbl := g_in (List.mem_of_getElem? (i := 1260) (by decide +kernel)) (by decide +kernel)
theorem kk_1258 : Cond.instanceMethod yX5_copyFrom ∈ gtbl := g_in (List.mem_of_getElem? (i := 1258) (by decide +kernel)) (by decide +kernel)
theorem kk_1259 : Cond.selects RX5 yX5_copyFrom yX5_copyFrom ∈ gtbl := g_in (List.mem_of_getElem? (i := 1259) (by decide +kernel)) (by decide +kernel)
theorem kv_X0_36 : KV RX0 36 mX5_copyFrom 1 := ⟨⟨kk_1257, kk_58, kk_1260, by decide +kernel⟩, rfl, kk_1258, kk_1259⟩
abbrev mX0_copyFrom : MT := (yX0_copyFrom, cX0_copyFrom, 2, none, [])
theorem kk_1266 : Cond.methodLink RX3 39 yX5_copyFrom ∈ gtbl := g_in (List.mem_of_getElem? (i := 1266) (by decide +kernel)) (by decide +kernel)
theorem kv_X3_39 : KV RX3 39 mX5_copyFrom 1 := ⟨⟨kk_1266, kk_58, kk_1260, by decide +kernel⟩, rfl, kk_1258, kk_1259⟩
abbrev mX3_copyFrom : MT := (yX3_copyFrom, cX3_copyFrom, 2, none, [])
theorem kk_1253 : Cond.methodLink RX6 37 yX0_copyFrom ∈ gtbl := g_in (List.mem_of_getElem? (i := 1253) (by decide +kernel)) (by decide +kernel)
theorem kk_1256 : Cond.code yX0_copyFrom cX0_copyFrom 2 none ∈ gtbl := g_in (List.mem_of_getElem? (i := 1256) (by decide +kernel)) (by decide +kernel)
theorem kk_1254 : Cond.instanceMethod yX0_copyFrom ∈ gtbl := g_in (List.mem_of_getElem? (i := 1254) (by decide +kernel)) (by decide +kernel)
theorem kk_1255 : Cond.selects RX0 yX0_copyFrom yX0_copyFrom ∈ gtbl := g_in (List.mem_of_getElem? (i := 1255) (by decide +kernel)) (by decide +kernel)
theorem kv_X6_37 : KV RX6 37 mX0_copyFrom 1 := ⟨⟨kk_1253, kk_60, kk_1256, by decide +kernel⟩, rfl, kk_1254, kk_1255⟩
theorem kk_1262 : Cond.methodLink RX6 41 yX3_copyFrom ∈ gtbl := g_in (List.mem_of_getElem? (i := 1262) (by decide +kernel)) (by decide +kernel)
theorem kk_1265 : Cond.code yX3_copyFrom cX3_copyFrom 2 none ∈ gtbl := g_in (List.mem_of_getElem? (i := 1265) (by decide +kernel)) (by decide +kernel)
theorem kk_1263 : Cond.instanceMethod yX3_copyFrom ∈ gtbl := g_in (List.mem_of_getElem? (i := 1263) (by decide +kernel)) (by decide +kernel)
theorem kk_1264 : Cond.selects RX3 yX3_copyFrom yX3_copyFrom ∈ gtbl := g_in (List.mem_of_getElem? (i := 1264) (by decide +kernel)) (by decide +kernel)
theorem kv_X6_41 : KV RX6 41 mX3_copyFrom 1 := ⟨⟨kk_1262, kk_61, kk_1265, by decide +kernel⟩, rfl, kk_1263, kk_1264⟩
abbrev mX6_copyFrom : MT := (yX6_copyFrom, cX6_copyFrom, 2, none, [])
theorem kk_611 : Cond.methodLink RX0 48 yX5_get ∈ gtbl := g_in (List.mem_of_getElem? (i := 611) (by decide +kernel)) (by decide +kernel)
theorem kv_X0_48 : KV RX0 48 mX5_get 1 := ⟨⟨kk_611, kk_58, kk_556, by decide +kernel⟩, rfl, kk_554, kk_555⟩
abbrev mX0_contradict : MT := (yX0_contradict, cX0_contradict, 7, (some .boolean), [])
theorem il_8 : ∀ w ∈ u_ws RX8 TX8 7, w ∈ gtbl := fun w hw => g_in ((by decide +kernel : ∀ w ∈ u_ws RX8 TX8 7, w ∈ lw_tbl) w hw) (List.all_eq_true.mp (by decide +kernel : (u_ws RX8 TX8 7).all goodWord = true) w hw)
theorem kk_224 : Cond.fieldLink RX8 20 RX8 "against" "LStoryTapestry$Row;" ∈ gtbl := g_in (List.mem_of_getElem? (i := 224) (by decide +kernel)) (by decide +kernel)
theorem fl_X8_20 : FL RX8 20 8 1 (.object "StoryTapestry$Row") true := ⟨RX8, TX8, 7, tyX8, rfl, by decide, il_8, tyX8_ok, nmX8, rfl, rfl, Or.inl kk_224⟩
theorem kk_628 : Cond.methodLink RX8 56 yX5_get ∈ gtbl := g_in (List.mem_of_getElem? (i := 628) (by decide +kernel)) (by decide +kernel)
theorem kv_X8_56 : KV RX8 56 mX5_get 1 := ⟨⟨kk_628, kk_58, kk_556, by decide +kernel⟩, rfl, kk_554, kk_555⟩
theorem kk_757 : Cond.methodLink RX8 34 yX5_set ∈ gtbl := g_in (List.mem_of_getElem? (i := 757) (by decide +kernel)) (by decide +kernel)
theorem kv_X8_34 : KV RX8 34 mX5_set 2 := ⟨⟨kk_757, kk_58, kk_760, by decide +kernel⟩, rfl, kk_758, kk_759⟩
abbrev mX8_setAgainst : MT := (yX8_setAgainst, cX8_setAgainst, 3, none, [])
theorem kk_228 : Cond.fieldLink RX8 30 RX8 "judged" "I" ∈ gtbl := g_in (List.mem_of_getElem? (i := 228) (by decide +kernel)) (by decide +kernel)
theorem fl_X8_30 : FL RX8 30 8 4 (.int) false := ⟨RX8, TX8, 7, tyX8, rfl, by decide, il_8, tyX8_ok, nmX8, rfl, rfl, Or.inl kk_228⟩
theorem kk_223 : Cond.fieldLink RX8 9 RX8 "told" "LStoryTapestry$Tapestry;" ∈ gtbl := g_in (List.mem_of_getElem? (i := 223) (by decide +kernel)) (by decide +kernel)
theorem fl_X8_9 : FL RX8 9 8 0 (.object "StoryTapestry$Tapestry") true := ⟨RX8, TX8, 7, tyX8, rfl, by decide, il_8, tyX8_ok, nmX8, rfl, rfl, Or.inl kk_223⟩
theorem kn_191 : Cond.fieldLinkNest RX8 38 RX6 "claims" "LStoryTapestry$Claims;" "StoryTapestry" ∈ gnest := n_in (List.mem_of_getElem? (i := 191) (by decide +kernel)) (by decide +kernel)
theorem fl_X8_38 : FL RX8 38 6 0 (.object "StoryTapestry$Claims") true := ⟨RX6, TX6, 4, tyX6, rfl, by decide, il_6, tyX6_ok, nmX6, rfl, rfl, Or.inr ⟨_, kn_191⟩⟩
theorem kn_137 : Cond.fieldLinkNest RX8 44 RX0 "count" "I" "StoryTapestry" ∈ gnest := n_in (List.mem_of_getElem? (i := 137) (by decide +kernel)) (by decide +kernel)
theorem fl_X8_44 : FL RX8 44 0 5 (.int) false := ⟨RX0, TX0, 6, tyX0, rfl, by decide, il_0, tyX0_ok, nmX0, rfl, rfl, Or.inr ⟨_, kn_137⟩⟩
theorem kk_1271 : Cond.methodLink RX8 49 yX0_contradict ∈ gtbl := g_in (List.mem_of_getElem? (i := 1271) (by decide +kernel)) (by decide +kernel)
theorem kk_643 : Cond.code yX0_contradict cX0_contradict 7 (some .boolean) ∈ gtbl := g_in (List.mem_of_getElem? (i := 643) (by decide +kernel)) (by decide +kernel)
theorem kk_641 : Cond.instanceMethod yX0_contradict ∈ gtbl := g_in (List.mem_of_getElem? (i := 641) (by decide +kernel)) (by decide +kernel)
theorem kk_642 : Cond.selects RX0 yX0_contradict yX0_contradict ∈ gtbl := g_in (List.mem_of_getElem? (i := 642) (by decide +kernel)) (by decide +kernel)
theorem kv_X8_49 : KV RX8 49 mX0_contradict 2 := ⟨⟨kk_1271, kk_60, kk_643, by decide +kernel⟩, rfl, kk_641, kk_642⟩
theorem kn_121 : Cond.fieldLinkNest RX8 53 RX0 "tellers" "LStoryTapestry$Row;" "StoryTapestry" ∈ gnest := n_in (List.mem_of_getElem? (i := 121) (by decide +kernel)) (by decide +kernel)
theorem fl_X8_53 : FL RX8 53 0 0 (.object "StoryTapestry$Row") true := ⟨RX0, TX0, 6, tyX0, rfl, by decide, il_0, tyX0_ok, nmX0, rfl, rfl, Or.inr ⟨_, kn_121⟩⟩
theorem kk_1272 : Cond.methodLink RX8 60 yX8_setAgainst ∈ gtbl := g_in (List.mem_of_getElem? (i := 1272) (by decide +kernel)) (by decide +kernel)
theorem kk_62 : Cond.initialized RX8 ∈ gtbl := g_in (List.mem_of_getElem? (i := 62) (by decide +kernel)) (by decide +kernel)
theorem kk_1275 : Cond.code yX8_setAgainst cX8_setAgainst 3 none ∈ gtbl := g_in (List.mem_of_getElem? (i := 1275) (by decide +kernel)) (by decide +kernel)
theorem kk_1274 : Cond.instanceMethod yX8_setAgainst ∈ gtbl := g_in (List.mem_of_getElem? (i := 1274) (by decide +kernel)) (by decide +kernel)
theorem kk_53 : Cond.selects RX8 yX8_setAgainst yX8_setAgainst ∈ gtbl := g_in (List.mem_of_getElem? (i := 53) (by decide +kernel)) (by decide +kernel)
theorem kv_X8_60 : KV RX8 60 mX8_setAgainst 2 := ⟨⟨kk_1272, kk_62, kk_1275, by decide +kernel⟩, rfl, kk_1274, kk_53⟩
abbrev mX8_hearClaims : MT := (yX8_hearClaims, cX8_hearClaims, 3, none, [])
theorem il_1 : ∀ w ∈ u_ws RX1 TX1 7, w ∈ gtbl := fun w hw => g_in ((by decide +kernel : ∀ w ∈ u_ws RX1 TX1 7, w ∈ lw_tbl) w hw) (List.all_eq_true.mp (by decide +kernel : (u_ws RX1 TX1 7).all goodWord = true) w hw)
theorem kk_420 : Cond.fieldLink RX1 28 RX1 "doubted" "I" ∈ gtbl := g_in (List.mem_of_getElem? (i := 420) (by decide +kernel)) (by decide +kernel)
theorem fl_X1_28 : FL RX1 28 1 4 (.int) false := ⟨RX1, TX1, 7, tyX1, rfl, by decide, il_1, tyX1_ok, nmX1, rfl, rfl, Or.inl kk_420⟩
theorem kk_422 : Cond.fieldLink RX1 32 RX1 "evening" "I" ∈ gtbl := g_in (List.mem_of_getElem? (i := 422) (by decide +kernel)) (by decide +kernel)
theorem fl_X1_32 : FL RX1 32 1 5 (.int) false := ⟨RX1, TX1, 7, tyX1, rfl, by decide, il_1, tyX1_ok, nmX1, rfl, rfl, Or.inl kk_422⟩
theorem kk_424 : Cond.fieldLink RX1 35 RX1 "carriedOut" "I" ∈ gtbl := g_in (List.mem_of_getElem? (i := 424) (by decide +kernel)) (by decide +kernel)
theorem fl_X1_35 : FL RX1 35 1 6 (.int) false := ⟨RX1, TX1, 7, tyX1, rfl, by decide, il_1, tyX1_ok, nmX1, rfl, rfl, Or.inl kk_424⟩
abbrev mX1_restart : MT := (yX1_restart, cX1_restart, 1, none, [])
theorem kk_442 : Cond.fieldLink RX9 31 RX9 "reader" "LStoryTapestry$Reader;" ∈ gtbl := g_in (List.mem_of_getElem? (i := 442) (by decide +kernel)) (by decide +kernel)
theorem fl_X9_31 : FL RX9 31 9 1 (.object "StoryTapestry$Reader") true := ⟨RX9, TX9, 8, tyX9, rfl, by decide, il_9, tyX9_ok, nmX9, rfl, rfl, Or.inl kk_442⟩
theorem kk_1032 : Cond.methodLink RX9 81 yX4_read ∈ gtbl := g_in (List.mem_of_getElem? (i := 1032) (by decide +kernel)) (by decide +kernel)
theorem kk_1035 : Cond.code yX4_read cX4_read 3 (some .int) ∈ gtbl := g_in (List.mem_of_getElem? (i := 1035) (by decide +kernel)) (by decide +kernel)
theorem kk_1033 : Cond.instanceMethod yX4_read ∈ gtbl := g_in (List.mem_of_getElem? (i := 1033) (by decide +kernel)) (by decide +kernel)
theorem kk_1034 : Cond.selects RX4 yX4_read yX4_read ∈ gtbl := g_in (List.mem_of_getElem? (i := 1034) (by decide +kernel)) (by decide +kernel)
theorem kv_X9_81 : KV RX9 81 mX4_read 1 := ⟨⟨kk_1032, kk_63, kk_1035, by decide +kernel⟩, rfl, kk_1033, kk_1034⟩
theorem kn_388 : Cond.fieldLinkNest RX9 85 RX4 "errorPlace" "I" "StoryTapestry" ∈ gnest := n_in (List.mem_of_getElem? (i := 388) (by decide +kernel)) (by decide +kernel)
theorem fl_X9_85 : FL RX9 85 4 8 (.int) false := ⟨RX4, TX4, 9, tyX4, rfl, by decide, il_4, tyX4_ok, nmX4, rfl, rfl, Or.inr ⟨_, kn_388⟩⟩
theorem kk_448 : Cond.fieldLink RX9 59 RX9 "errorPlace" "I" ∈ gtbl := g_in (List.mem_of_getElem? (i := 448) (by decide +kernel)) (by decide +kernel)
theorem fl_X9_59 : FL RX9 59 9 7 (.int) false := ⟨RX9, TX9, 8, tyX9, rfl, by decide, il_9, tyX9_ok, nmX9, rfl, rfl, Or.inl kk_448⟩
theorem kk_443 : Cond.fieldLink RX9 35 RX9 "told" "LStoryTapestry$Tapestry;" ∈ gtbl := g_in (List.mem_of_getElem? (i := 443) (by decide +kernel)) (by decide +kernel)
theorem fl_X9_35 : FL RX9 35 9 2 (.object "StoryTapestry$Tapestry") true := ⟨RX9, TX9, 8, tyX9, rfl, by decide, il_9, tyX9_ok, nmX9, rfl, rfl, Or.inl kk_443⟩
theorem kn_380 : Cond.fieldLinkNest RX9 86 RX4 "draft" "LStoryTapestry$Tapestry;" "StoryTapestry" ∈ gnest := n_in (List.mem_of_getElem? (i := 380) (by decide +kernel)) (by decide +kernel)
theorem fl_X9_86 : FL RX9 86 4 1 (.object "StoryTapestry$Tapestry") true := ⟨RX4, TX4, 9, tyX4, rfl, by decide, il_4, tyX4_ok, nmX4, rfl, rfl, Or.inr ⟨_, kn_380⟩⟩
theorem kk_1249 : Cond.methodLink RX9 89 yX6_copyFrom ∈ gtbl := g_in (List.mem_of_getElem? (i := 1249) (by decide +kernel)) (by decide +kernel)
theorem kk_1252 : Cond.code yX6_copyFrom cX6_copyFrom 2 none ∈ gtbl := g_in (List.mem_of_getElem? (i := 1252) (by decide +kernel)) (by decide +kernel)
theorem kk_1250 : Cond.instanceMethod yX6_copyFrom ∈ gtbl := g_in (List.mem_of_getElem? (i := 1250) (by decide +kernel)) (by decide +kernel)
theorem kk_1251 : Cond.selects RX6 yX6_copyFrom yX6_copyFrom ∈ gtbl := g_in (List.mem_of_getElem? (i := 1251) (by decide +kernel)) (by decide +kernel)
theorem kv_X9_89 : KV RX9 89 mX6_copyFrom 1 := ⟨⟨kk_1249, kk_59, kk_1252, by decide +kernel⟩, rfl, kk_1250, kk_1251⟩
theorem kk_444 : Cond.fieldLink RX9 39 RX9 "verdict" "LStoryTapestry$Verdict;" ∈ gtbl := g_in (List.mem_of_getElem? (i := 444) (by decide +kernel)) (by decide +kernel)
theorem fl_X9_39 : FL RX9 39 9 3 (.object "StoryTapestry$Verdict") true := ⟨RX9, TX9, 8, tyX9, rfl, by decide, il_9, tyX9_ok, nmX9, rfl, rfl, Or.inl kk_444⟩
theorem kk_1267 : Cond.methodLink RX9 92 yX8_hearClaims ∈ gtbl := g_in (List.mem_of_getElem? (i := 1267) (by decide +kernel)) (by decide +kernel)
theorem kk_1270 : Cond.code yX8_hearClaims cX8_hearClaims 3 none ∈ gtbl := g_in (List.mem_of_getElem? (i := 1270) (by decide +kernel)) (by decide +kernel)
theorem kk_1268 : Cond.instanceMethod yX8_hearClaims ∈ gtbl := g_in (List.mem_of_getElem? (i := 1268) (by decide +kernel)) (by decide +kernel)
theorem kk_1269 : Cond.selects RX8 yX8_hearClaims yX8_hearClaims ∈ gtbl := g_in (List.mem_of_getElem? (i := 1269) (by decide +kernel)) (by decide +kernel)
theorem kv_X9_92 : KV RX9 92 mX8_hearClaims 0 := ⟨⟨kk_1267, kk_62, kk_1270, by decide +kernel⟩, rfl, kk_1268, kk_1269⟩
theorem kk_445 : Cond.fieldLink RX9 48 RX9 "course" "LStoryTapestry$Course;" ∈ gtbl := g_in (List.mem_of_getElem? (i := 445) (by decide +kernel)) (by decide +kernel)
theorem fl_X9_48 : FL RX9 48 9 4 (.object "StoryTapestry$Course") true := ⟨RX9, TX9, 8, tyX9, rfl, by decide, il_9, tyX9_ok, nmX9, rfl, rfl, Or.inl kk_445⟩
theorem kk_1276 : Cond.methodLink RX9 95 yX1_restart ∈ gtbl := g_in (List.mem_of_getElem? (i := 1276) (by decide +kernel)) (by decide +kernel)
theorem kk_70 : Cond.initialized RX1 ∈ gtbl := g_in (List.mem_of_getElem? (i := 70) (by decide +kernel)) (by decide +kernel)
theorem kk_1279 : Cond.code yX1_restart cX1_restart 1 none ∈ gtbl := g_in (List.mem_of_getElem? (i := 1279) (by decide +kernel)) (by decide +kernel)
theorem kk_1277 : Cond.instanceMethod yX1_restart ∈ gtbl := g_in (List.mem_of_getElem? (i := 1277) (by decide +kernel)) (by decide +kernel)
theorem kk_1278 : Cond.selects RX1 yX1_restart yX1_restart ∈ gtbl := g_in (List.mem_of_getElem? (i := 1278) (by decide +kernel)) (by decide +kernel)
theorem kv_X9_95 : KV RX9 95 mX1_restart 0 := ⟨⟨kk_1276, kk_70, kk_1279, by decide +kernel⟩, rfl, kk_1277, kk_1278⟩
abbrev mX9_teach : MT := (yX9_teach, cX9_teach, 2, (some .int), [])
theorem kn_200 : Cond.fieldLinkNest RX9 98 RX6 "eventCount" "I" "StoryTapestry" ∈ gnest := n_in (List.mem_of_getElem? (i := 200) (by decide +kernel)) (by decide +kernel)
theorem fl_X9_98 : FL RX9 98 6 2 (.int) false := ⟨RX6, TX6, 4, tyX6, rfl, by decide, il_6, tyX6_ok, nmX6, rfl, rfl, Or.inr ⟨_, kn_200⟩⟩
abbrev mX9_events : MT := (yX9_events, cX9_events, 1, (some .int), [])
theorem kn_205 : Cond.fieldLinkNest RX9 101 RX6 "tellerCount" "I" "StoryTapestry" ∈ gnest := n_in (List.mem_of_getElem? (i := 205) (by decide +kernel)) (by decide +kernel)
theorem fl_X9_101 : FL RX9 101 6 3 (.int) false := ⟨RX6, TX6, 4, tyX6, rfl, by decide, il_6, tyX6_ok, nmX6, rfl, rfl, Or.inr ⟨_, kn_205⟩⟩
abbrev mX9_tellers : MT := (yX9_tellers, cX9_tellers, 1, (some .int), [])
theorem kn_192 : Cond.fieldLinkNest RX9 104 RX6 "claims" "LStoryTapestry$Claims;" "StoryTapestry" ∈ gnest := n_in (List.mem_of_getElem? (i := 192) (by decide +kernel)) (by decide +kernel)
theorem fl_X9_104 : FL RX9 104 6 0 (.object "StoryTapestry$Claims") true := ⟨RX6, TX6, 4, tyX6, rfl, by decide, il_6, tyX6_ok, nmX6, rfl, rfl, Or.inr ⟨_, kn_192⟩⟩
theorem kn_138 : Cond.fieldLinkNest RX9 108 RX0 "count" "I" "StoryTapestry" ∈ gnest := n_in (List.mem_of_getElem? (i := 138) (by decide +kernel)) (by decide +kernel)
theorem fl_X9_108 : FL RX9 108 0 5 (.int) false := ⟨RX0, TX0, 6, tyX0, rfl, by decide, il_0, tyX0_ok, nmX0, rfl, rfl, Or.inr ⟨_, kn_138⟩⟩
abbrev mX9_claims : MT := (yX9_claims, cX9_claims, 1, (some .int), [])
theorem kn_423 : Cond.fieldLinkNest RX9 113 RX1 "evening" "I" "StoryTapestry" ∈ gnest := n_in (List.mem_of_getElem? (i := 423) (by decide +kernel)) (by decide +kernel)
theorem fl_X9_113 : FL RX9 113 1 5 (.int) false := ⟨RX1, TX1, 7, tyX1, rfl, by decide, il_1, tyX1_ok, nmX1, rfl, rfl, Or.inr ⟨_, kn_423⟩⟩
abbrev mX9_evenings : MT := (yX9_evenings, cX9_evenings, 1, (some .int), [])
theorem kn_425 : Cond.fieldLinkNest RX9 116 RX1 "carriedOut" "I" "StoryTapestry" ∈ gnest := n_in (List.mem_of_getElem? (i := 425) (by decide +kernel)) (by decide +kernel)
theorem fl_X9_116 : FL RX9 116 1 6 (.int) false := ⟨RX1, TX1, 7, tyX1, rfl, by decide, il_1, tyX1_ok, nmX1, rfl, rfl, Or.inr ⟨_, kn_425⟩⟩
abbrev mX9_ordersCarriedOut : MT := (yX9_ordersCarriedOut, cX9_ordersCarriedOut, 1, (some .int), [])
theorem kk_486 : Cond.classLink RX9 149 "java/lang/IndexOutOfBoundsException" ∈ gtbl := g_in (List.mem_of_getElem? (i := 486) (by decide +kernel)) (by decide +kernel)
theorem kk_86 : Cond.initialized "java/lang/IndexOutOfBoundsException" ∈ gtbl := g_in (List.mem_of_getElem? (i := 86) (by decide +kernel)) (by decide +kernel)
theorem at_X9_153 : ∀ w ∈ (vx_atS RX9 153 "java/lang/IndexOutOfBoundsException" ["java/lang/RuntimeException", "java/lang/Exception"]), w ∈ gtbl ∨ w ∈ gnest := by decide +kernel
theorem at_X9_153o : ∀ w ∈ Cond.classLink RX9 149 "java/lang/IndexOutOfBoundsException" :: Cond.initialized "java/lang/IndexOutOfBoundsException" :: (vx_atS RX9 153 "java/lang/IndexOutOfBoundsException" ["java/lang/RuntimeException", "java/lang/Exception"]), vx_ot w = true := by decide +kernel
theorem kx_X9_149_151_153 : KT RX9 149 153 151 "java/lang/IndexOutOfBoundsException" ["java/lang/RuntimeException", "java/lang/Exception"] 1 "no such claim" := ⟨by decide +kernel, by decide +kernel, kk_486, kk_86, rfl, at_X9_153, at_X9_153o, rfl⟩
abbrev mX9_needClaim : MT := (yX9_needClaim, cX9_needClaim, 2, none, [])
theorem kk_482 : Cond.methodLink RX9 119 yX9_needClaim ∈ gtbl := g_in (List.mem_of_getElem? (i := 482) (by decide +kernel)) (by decide +kernel)
theorem kk_485 : Cond.code yX9_needClaim cX9_needClaim 2 none ∈ gtbl := g_in (List.mem_of_getElem? (i := 485) (by decide +kernel)) (by decide +kernel)
theorem kk_484 : Cond.instanceMethod yX9_needClaim ∈ gtbl := g_in (List.mem_of_getElem? (i := 484) (by decide +kernel)) (by decide +kernel)
theorem kk_1 : Cond.selects RX9 yX9_needClaim yX9_needClaim ∈ gtbl := g_in (List.mem_of_getElem? (i := 1) (by decide +kernel)) (by decide +kernel)
theorem kv_X9_119 : KV RX9 119 mX9_needClaim 1 := ⟨⟨kk_482, kk_57, kk_485, by decide +kernel⟩, rfl, kk_484, kk_1⟩
theorem kn_122 : Cond.fieldLinkNest RX9 122 RX0 "tellers" "LStoryTapestry$Row;" "StoryTapestry" ∈ gnest := n_in (List.mem_of_getElem? (i := 122) (by decide +kernel)) (by decide +kernel)
theorem fl_X9_122 : FL RX9 122 0 0 (.object "StoryTapestry$Row") true := ⟨RX0, TX0, 6, tyX0, rfl, by decide, il_0, tyX0_ok, nmX0, rfl, rfl, Or.inr ⟨_, kn_122⟩⟩
theorem kk_553 : Cond.methodLink RX9 125 yX5_get ∈ gtbl := g_in (List.mem_of_getElem? (i := 553) (by decide +kernel)) (by decide +kernel)
theorem kv_X9_125 : KV RX9 125 mX5_get 1 := ⟨⟨kk_553, kk_58, kk_556, by decide +kernel⟩, rfl, kk_554, kk_555⟩
abbrev mX9_tellerOf : MT := (yX9_tellerOf, cX9_tellerOf, 2, (some .int), [])
theorem kn_124 : Cond.fieldLinkNest RX9 128 RX0 "kinds" "LStoryTapestry$Row;" "StoryTapestry" ∈ gnest := n_in (List.mem_of_getElem? (i := 124) (by decide +kernel)) (by decide +kernel)
theorem fl_X9_128 : FL RX9 128 0 1 (.object "StoryTapestry$Row") true := ⟨RX0, TX0, 6, tyX0, rfl, by decide, il_0, tyX0_ok, nmX0, rfl, rfl, Or.inr ⟨_, kn_124⟩⟩
abbrev mX9_kindOf : MT := (yX9_kindOf, cX9_kindOf, 2, (some .int), [])
theorem kn_127 : Cond.fieldLinkNest RX9 131 RX0 "events" "LStoryTapestry$Row;" "StoryTapestry" ∈ gnest := n_in (List.mem_of_getElem? (i := 127) (by decide +kernel)) (by decide +kernel)
theorem fl_X9_131 : FL RX9 131 0 2 (.object "StoryTapestry$Row") true := ⟨RX0, TX0, 6, tyX0, rfl, by decide, il_0, tyX0_ok, nmX0, rfl, rfl, Or.inr ⟨_, kn_127⟩⟩
abbrev mX9_eventOf : MT := (yX9_eventOf, cX9_eventOf, 2, (some .int), [])
theorem kn_131 : Cond.fieldLinkNest RX9 136 RX0 "firsts" "LStoryTapestry$Row;" "StoryTapestry" ∈ gnest := n_in (List.mem_of_getElem? (i := 131) (by decide +kernel)) (by decide +kernel)
theorem fl_X9_136 : FL RX9 136 0 3 (.object "StoryTapestry$Row") true := ⟨RX0, TX0, 6, tyX0, rfl, by decide, il_0, tyX0_ok, nmX0, rfl, rfl, Or.inr ⟨_, kn_131⟩⟩
theorem kx_X9_62_134_66 : KT RX9 62 66 134 "java/lang/IllegalStateException" ["java/lang/RuntimeException", "java/lang/Exception"] 2 "a claim of hours has one event" := ⟨by decide +kernel, by decide +kernel, kk_569, kk_83, rfl, at_X9_66, at_X9_66o, rfl⟩
abbrev mX9_secondEventOf : MT := (yX9_secondEventOf, cX9_secondEventOf, 2, (some .int), [])
theorem kx_X9_62_154_66 : KT RX9 62 66 154 "java/lang/IllegalStateException" ["java/lang/RuntimeException", "java/lang/Exception"] 3 "a claim of two events has no hours" := ⟨by decide +kernel, by decide +kernel, kk_569, kk_83, rfl, at_X9_66, at_X9_66o, rfl⟩
abbrev mX9_needHours : MT := (yX9_needHours, cX9_needHours, 2, none, [])
theorem kk_589 : Cond.methodLink RX9 139 yX9_needHours ∈ gtbl := g_in (List.mem_of_getElem? (i := 589) (by decide +kernel)) (by decide +kernel)
theorem kk_592 : Cond.code yX9_needHours cX9_needHours 2 none ∈ gtbl := g_in (List.mem_of_getElem? (i := 592) (by decide +kernel)) (by decide +kernel)
theorem kk_591 : Cond.instanceMethod yX9_needHours ∈ gtbl := g_in (List.mem_of_getElem? (i := 591) (by decide +kernel)) (by decide +kernel)
theorem kk_3 : Cond.selects RX9 yX9_needHours yX9_needHours ∈ gtbl := g_in (List.mem_of_getElem? (i := 3) (by decide +kernel)) (by decide +kernel)
theorem kv_X9_139 : KV RX9 139 mX9_needHours 1 := ⟨⟨kk_589, kk_57, kk_592, by decide +kernel⟩, rfl, kk_591, kk_3⟩
abbrev mX9_firstHourOf : MT := (yX9_firstHourOf, cX9_firstHourOf, 2, (some .int), [])
theorem kn_134 : Cond.fieldLinkNest RX9 142 RX0 "lasts" "LStoryTapestry$Row;" "StoryTapestry" ∈ gnest := n_in (List.mem_of_getElem? (i := 134) (by decide +kernel)) (by decide +kernel)
theorem fl_X9_142 : FL RX9 142 0 4 (.object "StoryTapestry$Row") true := ⟨RX0, TX0, 6, tyX0, rfl, by decide, il_0, tyX0_ok, nmX0, rfl, rfl, Or.inr ⟨_, kn_134⟩⟩
abbrev mX9_lastHourOf : MT := (yX9_lastHourOf, cX9_lastHourOf, 2, (some .int), [])
theorem kk_980 : Cond.methodLink RX9 145 yX0_contradict ∈ gtbl := g_in (List.mem_of_getElem? (i := 980) (by decide +kernel)) (by decide +kernel)
theorem kv_X9_145 : KV RX9 145 mX0_contradict 2 := ⟨⟨kk_980, kk_60, kk_643, by decide +kernel⟩, rfl, kk_641, kk_642⟩
abbrev mX9_areContrary : MT := (yX9_areContrary, cX9_areContrary, 3, (some .boolean), [])
theorem kx_X9_149_190_153 : KT RX9 149 153 190 "java/lang/IndexOutOfBoundsException" ["java/lang/RuntimeException", "java/lang/Exception"] 4 "no such teller" := ⟨by decide +kernel, by decide +kernel, kk_486, kk_86, rfl, at_X9_153, at_X9_153o, rfl⟩
abbrev mX9_needTeller : MT := (yX9_needTeller, cX9_needTeller, 2, none, [])
abbrev mX0_countOf : MT := (yX0_countOf, cX0_countOf, 4, (some .int), [])
theorem kk_602 : Cond.methodLink RX9 156 yX9_needTeller ∈ gtbl := g_in (List.mem_of_getElem? (i := 602) (by decide +kernel)) (by decide +kernel)
theorem kk_605 : Cond.code yX9_needTeller cX9_needTeller 2 none ∈ gtbl := g_in (List.mem_of_getElem? (i := 605) (by decide +kernel)) (by decide +kernel)
theorem kk_604 : Cond.instanceMethod yX9_needTeller ∈ gtbl := g_in (List.mem_of_getElem? (i := 604) (by decide +kernel)) (by decide +kernel)
theorem kk_4 : Cond.selects RX9 yX9_needTeller yX9_needTeller ∈ gtbl := g_in (List.mem_of_getElem? (i := 4) (by decide +kernel)) (by decide +kernel)
theorem kv_X9_156 : KV RX9 156 mX9_needTeller 1 := ⟨⟨kk_602, kk_57, kk_605, by decide +kernel⟩, rfl, kk_604, kk_4⟩
theorem kk_607 : Cond.methodLink RX9 159 yX0_countOf ∈ gtbl := g_in (List.mem_of_getElem? (i := 607) (by decide +kernel)) (by decide +kernel)
theorem kk_610 : Cond.code yX0_countOf cX0_countOf 4 (some .int) ∈ gtbl := g_in (List.mem_of_getElem? (i := 610) (by decide +kernel)) (by decide +kernel)
theorem kk_608 : Cond.instanceMethod yX0_countOf ∈ gtbl := g_in (List.mem_of_getElem? (i := 608) (by decide +kernel)) (by decide +kernel)
theorem kk_609 : Cond.selects RX0 yX0_countOf yX0_countOf ∈ gtbl := g_in (List.mem_of_getElem? (i := 609) (by decide +kernel)) (by decide +kernel)
theorem kv_X9_159 : KV RX9 159 mX0_countOf 1 := ⟨⟨kk_607, kk_60, kk_610, by decide +kernel⟩, rfl, kk_608, kk_609⟩
abbrev mX9_claimsOf : MT := (yX9_claimsOf, cX9_claimsOf, 2, (some .int), [])
abbrev mX9_has : MT := (yX9_has, cX9_has, 2, (some .boolean), [])
theorem kn_421 : Cond.fieldLinkNest RX9 162 RX1 "doubted" "I" "StoryTapestry" ∈ gnest := n_in (List.mem_of_getElem? (i := 421) (by decide +kernel)) (by decide +kernel)
theorem fl_X9_162 : FL RX9 162 1 4 (.int) false := ⟨RX1, TX1, 7, tyX1, rfl, by decide, il_1, tyX1_ok, nmX1, rfl, rfl, Or.inr ⟨_, kn_421⟩⟩
theorem kk_616 : Cond.methodLink RX9 165 yX9_has ∈ gtbl := g_in (List.mem_of_getElem? (i := 616) (by decide +kernel)) (by decide +kernel)
theorem kk_618 : Cond.code yX9_has cX9_has 2 (some .boolean) ∈ gtbl := g_in (List.mem_of_getElem? (i := 618) (by decide +kernel)) (by decide +kernel)
theorem kk_617 : Cond.static yX9_has ∈ gtbl := g_in (List.mem_of_getElem? (i := 617) (by decide +kernel)) (by decide +kernel)
theorem ks_X9_165 : KS RX9 165 mX9_has 2 := ⟨⟨kk_616, kk_57, kk_618, by decide +kernel⟩, rfl, kk_617⟩
abbrev mX9_isDoubted : MT := (yX9_isDoubted, cX9_isDoubted, 2, (some .boolean), [])
theorem kn_627 : Cond.methodLinkNest RX8 66 yX9_has "StoryTapestry" ∈ gnest := n_in (List.mem_of_getElem? (i := 627) (by decide +kernel)) (by decide +kernel)
theorem kq_X8_66 : KSN RX8 66 mX9_has 2 := ⟨⟨_, kn_627⟩, kk_57, kk_618, rfl, by decide +kernel, kk_617⟩
abbrev mX8_tellersContradict : MT := (yX8_tellersContradict, cX8_tellersContradict, 4, (some .boolean), [])
theorem kk_623 : Cond.methodLink RX9 168 yX8_tellersContradict ∈ gtbl := g_in (List.mem_of_getElem? (i := 623) (by decide +kernel)) (by decide +kernel)
theorem kk_626 : Cond.code yX8_tellersContradict cX8_tellersContradict 4 (some .boolean) ∈ gtbl := g_in (List.mem_of_getElem? (i := 626) (by decide +kernel)) (by decide +kernel)
theorem kk_624 : Cond.instanceMethod yX8_tellersContradict ∈ gtbl := g_in (List.mem_of_getElem? (i := 624) (by decide +kernel)) (by decide +kernel)
theorem kk_625 : Cond.selects RX8 yX8_tellersContradict yX8_tellersContradict ∈ gtbl := g_in (List.mem_of_getElem? (i := 625) (by decide +kernel)) (by decide +kernel)
theorem kv_X9_168 : KV RX9 168 mX8_tellersContradict 3 := ⟨⟨kk_623, kk_62, kk_626, by decide +kernel⟩, rfl, kk_624, kk_625⟩
abbrev mX9_doContradict : MT := (yX9_doContradict, cX9_doContradict, 3, (some .boolean), [])
abbrev mX0_isPairOf : MT := (yX0_isPairOf, cX0_isPairOf, 4, (some .boolean), [])
theorem kk_637 : Cond.methodLink RX0 52 yX0_isPairOf ∈ gtbl := g_in (List.mem_of_getElem? (i := 637) (by decide +kernel)) (by decide +kernel)
theorem kk_639 : Cond.code yX0_isPairOf cX0_isPairOf 4 (some .boolean) ∈ gtbl := g_in (List.mem_of_getElem? (i := 639) (by decide +kernel)) (by decide +kernel)
theorem kk_638 : Cond.static yX0_isPairOf ∈ gtbl := g_in (List.mem_of_getElem? (i := 638) (by decide +kernel)) (by decide +kernel)
theorem ks_X0_52 : KS RX0 52 mX0_isPairOf 4 := ⟨⟨kk_637, kk_60, kk_639, by decide +kernel⟩, rfl, kk_638⟩
theorem kk_640 : Cond.methodLink RX0 56 yX0_contradict ∈ gtbl := g_in (List.mem_of_getElem? (i := 640) (by decide +kernel)) (by decide +kernel)
theorem kv_X0_56 : KV RX0 56 mX0_contradict 2 := ⟨⟨kk_640, kk_60, kk_643, by decide +kernel⟩, rfl, kk_641, kk_642⟩
abbrev mX0_pairsOf : MT := (yX0_pairsOf, cX0_pairsOf, 6, (some .int), [])
theorem kk_633 : Cond.methodLink RX9 172 yX0_pairsOf ∈ gtbl := g_in (List.mem_of_getElem? (i := 633) (by decide +kernel)) (by decide +kernel)
theorem kk_636 : Cond.code yX0_pairsOf cX0_pairsOf 6 (some .int) ∈ gtbl := g_in (List.mem_of_getElem? (i := 636) (by decide +kernel)) (by decide +kernel)
theorem kk_634 : Cond.instanceMethod yX0_pairsOf ∈ gtbl := g_in (List.mem_of_getElem? (i := 634) (by decide +kernel)) (by decide +kernel)
theorem kk_635 : Cond.selects RX0 yX0_pairsOf yX0_pairsOf ∈ gtbl := g_in (List.mem_of_getElem? (i := 635) (by decide +kernel)) (by decide +kernel)
theorem kv_X9_172 : KV RX9 172 mX0_pairsOf 2 := ⟨⟨kk_633, kk_60, kk_636, by decide +kernel⟩, rfl, kk_634, kk_635⟩
abbrev mX9_contraryPairs : MT := (yX9_contraryPairs, cX9_contraryPairs, 3, (some .int), [])
theorem kn_204 : Cond.fieldLinkNest RX8 63 RX6 "tellerCount" "I" "StoryTapestry" ∈ gnest := n_in (List.mem_of_getElem? (i := 204) (by decide +kernel)) (by decide +kernel)
theorem fl_X8_63 : FL RX8 63 6 3 (.int) false := ⟨RX6, TX6, 4, tyX6, rfl, by decide, il_6, tyX6_ok, nmX6, rfl, rfl, Or.inr ⟨_, kn_204⟩⟩
abbrev mX8_believedSet : MT := (yX8_believedSet, cX8_believedSet, 2, (some .int), [])
theorem kk_659 : Cond.constant RJ6 265 (1431655765) ∈ gtbl := g_in (List.mem_of_getElem? (i := 659) (by decide +kernel)) (by decide +kernel)
theorem kk_660 : Cond.constant RJ6 266 (858993459) ∈ gtbl := g_in (List.mem_of_getElem? (i := 660) (by decide +kernel)) (by decide +kernel)
theorem kk_661 : Cond.constant RJ6 267 (252645135) ∈ gtbl := g_in (List.mem_of_getElem? (i := 661) (by decide +kernel)) (by decide +kernel)
abbrev mJ6_bitCount_0f7a4 : MT := (yJ6_bitCount_0f7a4, cJ6_bitCount_0f7a4, 1, (some .int), [])
theorem kk_652 : Cond.methodLink RX8 69 yX8_believedSet ∈ gtbl := g_in (List.mem_of_getElem? (i := 652) (by decide +kernel)) (by decide +kernel)
theorem kk_655 : Cond.code yX8_believedSet cX8_believedSet 2 (some .int) ∈ gtbl := g_in (List.mem_of_getElem? (i := 655) (by decide +kernel)) (by decide +kernel)
theorem kk_654 : Cond.instanceMethod yX8_believedSet ∈ gtbl := g_in (List.mem_of_getElem? (i := 654) (by decide +kernel)) (by decide +kernel)
theorem kk_5 : Cond.selects RX8 yX8_believedSet yX8_believedSet ∈ gtbl := g_in (List.mem_of_getElem? (i := 5) (by decide +kernel)) (by decide +kernel)
theorem kv_X8_69 : KV RX8 69 mX8_believedSet 1 := ⟨⟨kk_652, kk_62, kk_655, by decide +kernel⟩, rfl, kk_654, kk_5⟩
theorem kk_656 : Cond.methodLink RX8 72 yJ6_bitCount_0f7a4 ∈ gtbl := g_in (List.mem_of_getElem? (i := 656) (by decide +kernel)) (by decide +kernel)
theorem kk_78 : Cond.initialized RJ6 ∈ gtbl := g_in (List.mem_of_getElem? (i := 78) (by decide +kernel)) (by decide +kernel)
theorem kk_658 : Cond.code yJ6_bitCount_0f7a4 cJ6_bitCount_0f7a4 1 (some .int) ∈ gtbl := g_in (List.mem_of_getElem? (i := 658) (by decide +kernel)) (by decide +kernel)
theorem kk_657 : Cond.static yJ6_bitCount_0f7a4 ∈ gtbl := g_in (List.mem_of_getElem? (i := 657) (by decide +kernel)) (by decide +kernel)
theorem ks_X8_72 : KS RX8 72 mJ6_bitCount_0f7a4 1 := ⟨⟨kk_656, kk_78, kk_658, by decide +kernel⟩, rfl, kk_657⟩
abbrev mX8_pairCount : MT := (yX8_pairCount, cX8_pairCount, 5, (some .int), [])
theorem kk_648 : Cond.methodLink RX9 176 yX8_pairCount ∈ gtbl := g_in (List.mem_of_getElem? (i := 648) (by decide +kernel)) (by decide +kernel)
theorem kk_651 : Cond.code yX8_pairCount cX8_pairCount 5 (some .int) ∈ gtbl := g_in (List.mem_of_getElem? (i := 651) (by decide +kernel)) (by decide +kernel)
theorem kk_649 : Cond.instanceMethod yX8_pairCount ∈ gtbl := g_in (List.mem_of_getElem? (i := 649) (by decide +kernel)) (by decide +kernel)
theorem kk_650 : Cond.selects RX8 yX8_pairCount yX8_pairCount ∈ gtbl := g_in (List.mem_of_getElem? (i := 650) (by decide +kernel)) (by decide +kernel)
theorem kv_X9_176 : KV RX9 176 mX8_pairCount 1 := ⟨⟨kk_648, kk_62, kk_651, by decide +kernel⟩, rfl, kk_649, kk_650⟩
abbrev mX9_contradictions : MT := (yX9_contradictions, cX9_contradictions, 1, (some .int), [])
abbrev mX8_involvedIn : MT := (yX8_involvedIn, cX8_involvedIn, 4, (some .int), [])
abbrev mX8_isEnough : MT := (yX8_isEnough, cX8_isEnough, 5, (some .boolean), [])
abbrev mX8_isPreferred : MT := (yX8_isPreferred, cX8_isPreferred, 3, (some .boolean), [])
theorem kk_674 : Cond.methodLink RX8 86 yX8_involvedIn ∈ gtbl := g_in (List.mem_of_getElem? (i := 674) (by decide +kernel)) (by decide +kernel)
theorem kk_677 : Cond.code yX8_involvedIn cX8_involvedIn 4 (some .int) ∈ gtbl := g_in (List.mem_of_getElem? (i := 677) (by decide +kernel)) (by decide +kernel)
theorem kk_676 : Cond.instanceMethod yX8_involvedIn ∈ gtbl := g_in (List.mem_of_getElem? (i := 676) (by decide +kernel)) (by decide +kernel)
theorem kk_7 : Cond.selects RX8 yX8_involvedIn yX8_involvedIn ∈ gtbl := g_in (List.mem_of_getElem? (i := 7) (by decide +kernel)) (by decide +kernel)
theorem kv_X8_86 : KV RX8 86 mX8_involvedIn 1 := ⟨⟨kk_674, kk_62, kk_677, by decide +kernel⟩, rfl, kk_676, kk_7⟩
theorem kk_678 : Cond.methodLink RX8 89 yX8_isEnough ∈ gtbl := g_in (List.mem_of_getElem? (i := 678) (by decide +kernel)) (by decide +kernel)
theorem kk_681 : Cond.code yX8_isEnough cX8_isEnough 5 (some .boolean) ∈ gtbl := g_in (List.mem_of_getElem? (i := 681) (by decide +kernel)) (by decide +kernel)
theorem kk_680 : Cond.instanceMethod yX8_isEnough ∈ gtbl := g_in (List.mem_of_getElem? (i := 680) (by decide +kernel)) (by decide +kernel)
theorem kk_8 : Cond.selects RX8 yX8_isEnough yX8_isEnough ∈ gtbl := g_in (List.mem_of_getElem? (i := 8) (by decide +kernel)) (by decide +kernel)
theorem kv_X8_89 : KV RX8 89 mX8_isEnough 2 := ⟨⟨kk_678, kk_62, kk_681, by decide +kernel⟩, rfl, kk_680, kk_8⟩
theorem kk_230 : Cond.fieldLink RX8 83 RX8 "setCount" "I" ∈ gtbl := g_in (List.mem_of_getElem? (i := 230) (by decide +kernel)) (by decide +kernel)
theorem fl_X8_83 : FL RX8 83 8 6 (.int) false := ⟨RX8, TX8, 7, tyX8, rfl, by decide, il_8, tyX8_ok, nmX8, rfl, rfl, Or.inl kk_230⟩
theorem kk_229 : Cond.fieldLink RX8 80 RX8 "liarSet" "I" ∈ gtbl := g_in (List.mem_of_getElem? (i := 229) (by decide +kernel)) (by decide +kernel)
theorem fl_X8_80 : FL RX8 80 8 5 (.int) false := ⟨RX8, TX8, 7, tyX8, rfl, by decide, il_8, tyX8_ok, nmX8, rfl, rfl, Or.inl kk_229⟩
theorem kk_682 : Cond.methodLink RX8 92 yX8_isPreferred ∈ gtbl := g_in (List.mem_of_getElem? (i := 682) (by decide +kernel)) (by decide +kernel)
theorem kk_684 : Cond.code yX8_isPreferred cX8_isPreferred 3 (some .boolean) ∈ gtbl := g_in (List.mem_of_getElem? (i := 684) (by decide +kernel)) (by decide +kernel)
theorem kk_683 : Cond.static yX8_isPreferred ∈ gtbl := g_in (List.mem_of_getElem? (i := 683) (by decide +kernel)) (by decide +kernel)
theorem ks_X8_92 : KS RX8 92 mX8_isPreferred 2 := ⟨⟨kk_682, kk_62, kk_684, by decide +kernel⟩, rfl, kk_683⟩
abbrev mX8_judge : MT := (yX8_judge, cX8_judge, 9, none, [])
theorem kk_670 : Cond.methodLink RX8 77 yX8_judge ∈ gtbl := g_in (List.mem_of_getElem? (i := 670) (by decide +kernel)) (by decide +kernel)
theorem kk_673 : Cond.code yX8_judge cX8_judge 9 none ∈ gtbl := g_in (List.mem_of_getElem? (i := 673) (by decide +kernel)) (by decide +kernel)
theorem kk_672 : Cond.instanceMethod yX8_judge ∈ gtbl := g_in (List.mem_of_getElem? (i := 672) (by decide +kernel)) (by decide +kernel)
theorem kk_6 : Cond.selects RX8 yX8_judge yX8_judge ∈ gtbl := g_in (List.mem_of_getElem? (i := 6) (by decide +kernel)) (by decide +kernel)
theorem kv_X8_77 : KV RX8 77 mX8_judge 1 := ⟨⟨kk_670, kk_62, kk_673, by decide +kernel⟩, rfl, kk_672, kk_6⟩
abbrev mX8_liarSet : MT := (yX8_liarSet, cX8_liarSet, 2, (some .int), [])
theorem kk_666 : Cond.methodLink RX9 179 yX8_liarSet ∈ gtbl := g_in (List.mem_of_getElem? (i := 666) (by decide +kernel)) (by decide +kernel)
theorem kk_669 : Cond.code yX8_liarSet cX8_liarSet 2 (some .int) ∈ gtbl := g_in (List.mem_of_getElem? (i := 669) (by decide +kernel)) (by decide +kernel)
theorem kk_667 : Cond.instanceMethod yX8_liarSet ∈ gtbl := g_in (List.mem_of_getElem? (i := 667) (by decide +kernel)) (by decide +kernel)
theorem kk_668 : Cond.selects RX8 yX8_liarSet yX8_liarSet ∈ gtbl := g_in (List.mem_of_getElem? (i := 668) (by decide +kernel)) (by decide +kernel)
theorem kv_X9_179 : KV RX9 179 mX8_liarSet 1 := ⟨⟨kk_666, kk_62, kk_669, by decide +kernel⟩, rfl, kk_667, kk_668⟩
theorem kk_685 : Cond.methodLink RX9 182 yJ6_bitCount_0f7a4 ∈ gtbl := g_in (List.mem_of_getElem? (i := 685) (by decide +kernel)) (by decide +kernel)
theorem ks_X9_182 : KS RX9 182 mJ6_bitCount_0f7a4 1 := ⟨⟨kk_685, kk_78, kk_658, by decide +kernel⟩, rfl, kk_657⟩
abbrev mX9_liars : MT := (yX9_liars, cX9_liars, 1, (some .int), [])
abbrev mX8_setCount : MT := (yX8_setCount, cX8_setCount, 2, (some .int), [])
theorem kk_690 : Cond.methodLink RX9 187 yX8_setCount ∈ gtbl := g_in (List.mem_of_getElem? (i := 690) (by decide +kernel)) (by decide +kernel)
theorem kk_693 : Cond.code yX8_setCount cX8_setCount 2 (some .int) ∈ gtbl := g_in (List.mem_of_getElem? (i := 693) (by decide +kernel)) (by decide +kernel)
theorem kk_691 : Cond.instanceMethod yX8_setCount ∈ gtbl := g_in (List.mem_of_getElem? (i := 691) (by decide +kernel)) (by decide +kernel)
theorem kk_692 : Cond.selects RX8 yX8_setCount yX8_setCount ∈ gtbl := g_in (List.mem_of_getElem? (i := 692) (by decide +kernel)) (by decide +kernel)
theorem kv_X9_187 : KV RX9 187 mX8_setCount 1 := ⟨⟨kk_690, kk_62, kk_693, by decide +kernel⟩, rfl, kk_691, kk_692⟩
abbrev mX9_smallestSets : MT := (yX9_smallestSets, cX9_smallestSets, 1, (some .int), [])
abbrev mX9_isLiar : MT := (yX9_isLiar, cX9_isLiar, 2, (some .boolean), [])
theorem kx_X9_149_218_153 : KT RX9 149 153 218 "java/lang/IndexOutOfBoundsException" ["java/lang/RuntimeException", "java/lang/Exception"] 5 "no such event" := ⟨by decide +kernel, by decide +kernel, kk_486, kk_86, rfl, at_X9_153, at_X9_153o, rfl⟩
abbrev mX9_needEvent : MT := (yX9_needEvent, cX9_needEvent, 2, none, [])
theorem kn_125 : Cond.fieldLinkNest RX8 120 RX0 "kinds" "LStoryTapestry$Row;" "StoryTapestry" ∈ gnest := n_in (List.mem_of_getElem? (i := 125) (by decide +kernel)) (by decide +kernel)
theorem fl_X8_120 : FL RX8 120 0 1 (.object "StoryTapestry$Row") true := ⟨RX0, TX0, 6, tyX0, rfl, by decide, il_0, tyX0_ok, nmX0, rfl, rfl, Or.inr ⟨_, kn_125⟩⟩
theorem kn_128 : Cond.fieldLinkNest RX8 123 RX0 "events" "LStoryTapestry$Row;" "StoryTapestry" ∈ gnest := n_in (List.mem_of_getElem? (i := 128) (by decide +kernel)) (by decide +kernel)
theorem fl_X8_123 : FL RX8 123 0 2 (.object "StoryTapestry$Row") true := ⟨RX0, TX0, 6, tyX0, rfl, by decide, il_0, tyX0_ok, nmX0, rfl, rfl, Or.inr ⟨_, kn_128⟩⟩
abbrev mX8_isHeard : MT := (yX8_isHeard, cX8_isHeard, 4, (some .boolean), [])
theorem kk_715 : Cond.methodLink RX8 95 yX8_isHeard ∈ gtbl := g_in (List.mem_of_getElem? (i := 715) (by decide +kernel)) (by decide +kernel)
theorem kk_718 : Cond.code yX8_isHeard cX8_isHeard 4 (some .boolean) ∈ gtbl := g_in (List.mem_of_getElem? (i := 718) (by decide +kernel)) (by decide +kernel)
theorem kk_717 : Cond.instanceMethod yX8_isHeard ∈ gtbl := g_in (List.mem_of_getElem? (i := 717) (by decide +kernel)) (by decide +kernel)
theorem kk_10 : Cond.selects RX8 yX8_isHeard yX8_isHeard ∈ gtbl := g_in (List.mem_of_getElem? (i := 10) (by decide +kernel)) (by decide +kernel)
theorem kv_X8_95 : KV RX8 95 mX8_isHeard 3 := ⟨⟨kk_715, kk_62, kk_718, by decide +kernel⟩, rfl, kk_717, kk_10⟩
theorem kn_133 : Cond.fieldLinkNest RX8 108 RX0 "lasts" "LStoryTapestry$Row;" "StoryTapestry" ∈ gnest := n_in (List.mem_of_getElem? (i := 133) (by decide +kernel)) (by decide +kernel)
theorem fl_X8_108 : FL RX8 108 0 4 (.object "StoryTapestry$Row") true := ⟨RX0, TX0, 6, tyX0, rfl, by decide, il_0, tyX0_ok, nmX0, rfl, rfl, Or.inr ⟨_, kn_133⟩⟩
theorem kk_719 : Cond.methodLink RX8 111 yJ9_min_7cf53 ∈ gtbl := g_in (List.mem_of_getElem? (i := 719) (by decide +kernel)) (by decide +kernel)
theorem ks_X8_111 : KS RX8 111 mJ9_min_7cf53 2 := ⟨⟨kk_719, kk_75, kk_721, by decide +kernel⟩, rfl, kk_720⟩
abbrev mX8_lastHour : MT := (yX8_lastHour, cX8_lastHour, 5, (some .int), [])
theorem kn_130 : Cond.fieldLinkNest RX8 99 RX0 "firsts" "LStoryTapestry$Row;" "StoryTapestry" ∈ gnest := n_in (List.mem_of_getElem? (i := 130) (by decide +kernel)) (by decide +kernel)
theorem fl_X8_99 : FL RX8 99 0 3 (.object "StoryTapestry$Row") true := ⟨RX0, TX0, 6, tyX0, rfl, by decide, il_0, tyX0_ok, nmX0, rfl, rfl, Or.inr ⟨_, kn_130⟩⟩
theorem kk_726 : Cond.methodLink RX8 102 yJ9_max_7cf53 ∈ gtbl := g_in (List.mem_of_getElem? (i := 726) (by decide +kernel)) (by decide +kernel)
theorem ks_X8_102 : KS RX8 102 mJ9_max_7cf53 2 := ⟨⟨kk_726, kk_75, kk_728, by decide +kernel⟩, rfl, kk_727⟩
abbrev mX8_firstHour : MT := (yX8_firstHour, cX8_firstHour, 5, (some .int), [])
theorem kk_711 : Cond.methodLink RX8 114 yX8_lastHour ∈ gtbl := g_in (List.mem_of_getElem? (i := 711) (by decide +kernel)) (by decide +kernel)
theorem kk_714 : Cond.code yX8_lastHour cX8_lastHour 5 (some .int) ∈ gtbl := g_in (List.mem_of_getElem? (i := 714) (by decide +kernel)) (by decide +kernel)
theorem kk_712 : Cond.instanceMethod yX8_lastHour ∈ gtbl := g_in (List.mem_of_getElem? (i := 712) (by decide +kernel)) (by decide +kernel)
theorem kk_713 : Cond.selects RX8 yX8_lastHour yX8_lastHour ∈ gtbl := g_in (List.mem_of_getElem? (i := 713) (by decide +kernel)) (by decide +kernel)
theorem kv_X8_114 : KV RX8 114 mX8_lastHour 2 := ⟨⟨kk_711, kk_62, kk_714, by decide +kernel⟩, rfl, kk_712, kk_713⟩
theorem kk_722 : Cond.methodLink RX8 117 yX8_firstHour ∈ gtbl := g_in (List.mem_of_getElem? (i := 722) (by decide +kernel)) (by decide +kernel)
theorem kk_725 : Cond.code yX8_firstHour cX8_firstHour 5 (some .int) ∈ gtbl := g_in (List.mem_of_getElem? (i := 725) (by decide +kernel)) (by decide +kernel)
theorem kk_723 : Cond.instanceMethod yX8_firstHour ∈ gtbl := g_in (List.mem_of_getElem? (i := 723) (by decide +kernel)) (by decide +kernel)
theorem kk_724 : Cond.selects RX8 yX8_firstHour yX8_firstHour ∈ gtbl := g_in (List.mem_of_getElem? (i := 724) (by decide +kernel)) (by decide +kernel)
theorem kv_X8_117 : KV RX8 117 mX8_firstHour 2 := ⟨⟨kk_722, kk_62, kk_725, by decide +kernel⟩, rfl, kk_723, kk_724⟩
abbrev mX8_windowHours : MT := (yX8_windowHours, cX8_windowHours, 3, (some .int), [])
theorem kk_702 : Cond.methodLink RX9 192 yX9_needEvent ∈ gtbl := g_in (List.mem_of_getElem? (i := 702) (by decide +kernel)) (by decide +kernel)
theorem kk_705 : Cond.code yX9_needEvent cX9_needEvent 2 none ∈ gtbl := g_in (List.mem_of_getElem? (i := 705) (by decide +kernel)) (by decide +kernel)
theorem kk_704 : Cond.instanceMethod yX9_needEvent ∈ gtbl := g_in (List.mem_of_getElem? (i := 704) (by decide +kernel)) (by decide +kernel)
theorem kk_9 : Cond.selects RX9 yX9_needEvent yX9_needEvent ∈ gtbl := g_in (List.mem_of_getElem? (i := 9) (by decide +kernel)) (by decide +kernel)
theorem kv_X9_192 : KV RX9 192 mX9_needEvent 1 := ⟨⟨kk_702, kk_57, kk_705, by decide +kernel⟩, rfl, kk_704, kk_9⟩
theorem kk_707 : Cond.methodLink RX9 195 yX8_windowHours ∈ gtbl := g_in (List.mem_of_getElem? (i := 707) (by decide +kernel)) (by decide +kernel)
theorem kk_710 : Cond.code yX8_windowHours cX8_windowHours 3 (some .int) ∈ gtbl := g_in (List.mem_of_getElem? (i := 710) (by decide +kernel)) (by decide +kernel)
theorem kk_708 : Cond.instanceMethod yX8_windowHours ∈ gtbl := g_in (List.mem_of_getElem? (i := 708) (by decide +kernel)) (by decide +kernel)
theorem kk_709 : Cond.selects RX8 yX8_windowHours yX8_windowHours ∈ gtbl := g_in (List.mem_of_getElem? (i := 709) (by decide +kernel)) (by decide +kernel)
theorem kv_X9_195 : KV RX9 195 mX8_windowHours 2 := ⟨⟨kk_707, kk_62, kk_710, by decide +kernel⟩, rfl, kk_708, kk_709⟩
abbrev mX9_isAgreed : MT := (yX9_isAgreed, cX9_isAgreed, 2, (some .boolean), [])
theorem kx_X9_62_220_66 : KT RX9 62 66 220 "java/lang/IllegalStateException" ["java/lang/RuntimeException", "java/lang/Exception"] 6 "the event is not agreed on" := ⟨by decide +kernel, by decide +kernel, kk_569, kk_83, rfl, at_X9_66, at_X9_66o, rfl⟩
abbrev mX9_needWindow : MT := (yX9_needWindow, cX9_needWindow, 2, none, [])
theorem kk_733 : Cond.methodLink RX9 198 yX9_needWindow ∈ gtbl := g_in (List.mem_of_getElem? (i := 733) (by decide +kernel)) (by decide +kernel)
theorem kk_736 : Cond.code yX9_needWindow cX9_needWindow 2 none ∈ gtbl := g_in (List.mem_of_getElem? (i := 736) (by decide +kernel)) (by decide +kernel)
theorem kk_735 : Cond.instanceMethod yX9_needWindow ∈ gtbl := g_in (List.mem_of_getElem? (i := 735) (by decide +kernel)) (by decide +kernel)
theorem kk_11 : Cond.selects RX9 yX9_needWindow yX9_needWindow ∈ gtbl := g_in (List.mem_of_getElem? (i := 11) (by decide +kernel)) (by decide +kernel)
theorem kv_X9_198 : KV RX9 198 mX9_needWindow 1 := ⟨⟨kk_733, kk_57, kk_736, by decide +kernel⟩, rfl, kk_735, kk_11⟩
theorem kk_738 : Cond.methodLink RX9 201 yX8_firstHour ∈ gtbl := g_in (List.mem_of_getElem? (i := 738) (by decide +kernel)) (by decide +kernel)
theorem kv_X9_201 : KV RX9 201 mX8_firstHour 2 := ⟨⟨kk_738, kk_62, kk_725, by decide +kernel⟩, rfl, kk_723, kk_724⟩
abbrev mX9_windowFrom : MT := (yX9_windowFrom, cX9_windowFrom, 2, (some .int), [])
theorem kk_743 : Cond.methodLink RX9 204 yX8_lastHour ∈ gtbl := g_in (List.mem_of_getElem? (i := 743) (by decide +kernel)) (by decide +kernel)
theorem kv_X9_204 : KV RX9 204 mX8_lastHour 2 := ⟨⟨kk_743, kk_62, kk_714, by decide +kernel⟩, rfl, kk_712, kk_713⟩
abbrev mX9_windowTo : MT := (yX9_windowTo, cX9_windowTo, 2, (some .int), [])
theorem kk_225 : Cond.fieldLink RX8 24 RX8 "ahead" "LStoryTapestry$Row;" ∈ gtbl := g_in (List.mem_of_getElem? (i := 225) (by decide +kernel)) (by decide +kernel)
theorem fl_X8_24 : FL RX8 24 8 2 (.object "StoryTapestry$Row") true := ⟨RX8, TX8, 7, tyX8, rfl, by decide, il_8, tyX8_ok, nmX8, rfl, rfl, Or.inl kk_225⟩
abbrev mX8_gatherAhead : MT := (yX8_gatherAhead, cX8_gatherAhead, 4, none, [])
theorem kn_201 : Cond.fieldLinkNest RX8 131 RX6 "eventCount" "I" "StoryTapestry" ∈ gnest := n_in (List.mem_of_getElem? (i := 201) (by decide +kernel)) (by decide +kernel)
theorem fl_X8_131 : FL RX8 131 6 2 (.int) false := ⟨RX6, TX6, 4, tyX6, rfl, by decide, il_6, tyX6_ok, nmX6, rfl, rfl, Or.inr ⟨_, kn_201⟩⟩
abbrev mX8_nextEvent : MT := (yX8_nextEvent, cX8_nextEvent, 3, (some .int), [])
theorem kk_752 : Cond.methodLink RX8 126 yX8_liarSet ∈ gtbl := g_in (List.mem_of_getElem? (i := 752) (by decide +kernel)) (by decide +kernel)
theorem kv_X8_126 : KV RX8 126 mX8_liarSet 1 := ⟨⟨kk_752, kk_62, kk_669, by decide +kernel⟩, rfl, kk_667, kk_668⟩
theorem kk_753 : Cond.methodLink RX8 128 yX8_gatherAhead ∈ gtbl := g_in (List.mem_of_getElem? (i := 753) (by decide +kernel)) (by decide +kernel)
theorem kk_756 : Cond.code yX8_gatherAhead cX8_gatherAhead 4 none ∈ gtbl := g_in (List.mem_of_getElem? (i := 756) (by decide +kernel)) (by decide +kernel)
theorem kk_755 : Cond.instanceMethod yX8_gatherAhead ∈ gtbl := g_in (List.mem_of_getElem? (i := 755) (by decide +kernel)) (by decide +kernel)
theorem kk_12 : Cond.selects RX8 yX8_gatherAhead yX8_gatherAhead ∈ gtbl := g_in (List.mem_of_getElem? (i := 12) (by decide +kernel)) (by decide +kernel)
theorem kv_X8_128 : KV RX8 128 mX8_gatherAhead 1 := ⟨⟨kk_753, kk_62, kk_756, by decide +kernel⟩, rfl, kk_755, kk_12⟩
theorem kk_761 : Cond.methodLink RX8 134 yX8_nextEvent ∈ gtbl := g_in (List.mem_of_getElem? (i := 761) (by decide +kernel)) (by decide +kernel)
theorem kk_764 : Cond.code yX8_nextEvent cX8_nextEvent 3 (some .int) ∈ gtbl := g_in (List.mem_of_getElem? (i := 764) (by decide +kernel)) (by decide +kernel)
theorem kk_763 : Cond.instanceMethod yX8_nextEvent ∈ gtbl := g_in (List.mem_of_getElem? (i := 763) (by decide +kernel)) (by decide +kernel)
theorem kk_13 : Cond.selects RX8 yX8_nextEvent yX8_nextEvent ∈ gtbl := g_in (List.mem_of_getElem? (i := 13) (by decide +kernel)) (by decide +kernel)
theorem kv_X8_134 : KV RX8 134 mX8_nextEvent 1 := ⟨⟨kk_761, kk_62, kk_764, by decide +kernel⟩, rfl, kk_763, kk_13⟩
theorem kk_226 : Cond.fieldLink RX8 27 RX8 "order" "LStoryTapestry$Row;" ∈ gtbl := g_in (List.mem_of_getElem? (i := 226) (by decide +kernel)) (by decide +kernel)
theorem fl_X8_27 : FL RX8 27 8 3 (.object "StoryTapestry$Row") true := ⟨RX8, TX8, 7, tyX8, rfl, by decide, il_8, tyX8_ok, nmX8, rfl, rfl, Or.inl kk_226⟩
abbrev mX8_arrange : MT := (yX8_arrange, cX8_arrange, 5, (some .boolean), [])
theorem kk_748 : Cond.methodLink RX9 207 yX8_arrange ∈ gtbl := g_in (List.mem_of_getElem? (i := 748) (by decide +kernel)) (by decide +kernel)
theorem kk_751 : Cond.code yX8_arrange cX8_arrange 5 (some .boolean) ∈ gtbl := g_in (List.mem_of_getElem? (i := 751) (by decide +kernel)) (by decide +kernel)
theorem kk_749 : Cond.instanceMethod yX8_arrange ∈ gtbl := g_in (List.mem_of_getElem? (i := 749) (by decide +kernel)) (by decide +kernel)
theorem kk_750 : Cond.selects RX8 yX8_arrange yX8_arrange ∈ gtbl := g_in (List.mem_of_getElem? (i := 750) (by decide +kernel)) (by decide +kernel)
theorem kv_X9_207 : KV RX9 207 mX8_arrange 1 := ⟨⟨kk_748, kk_62, kk_751, by decide +kernel⟩, rfl, kk_749, kk_750⟩
abbrev mX9_hasOrder : MT := (yX9_hasOrder, cX9_hasOrder, 1, (some .boolean), [])
theorem kx_X9_149_211_153 : KT RX9 149 153 211 "java/lang/IndexOutOfBoundsException" ["java/lang/RuntimeException", "java/lang/Exception"] 7 "no such place" := ⟨by decide +kernel, by decide +kernel, kk_486, kk_86, rfl, at_X9_153, at_X9_153o, rfl⟩
theorem kn_227 : Cond.fieldLinkNest RX9 215 RX8 "order" "LStoryTapestry$Row;" "StoryTapestry" ∈ gnest := n_in (List.mem_of_getElem? (i := 227) (by decide +kernel)) (by decide +kernel)
theorem fl_X9_215 : FL RX9 215 8 3 (.object "StoryTapestry$Row") true := ⟨RX8, TX8, 7, tyX8, rfl, by decide, il_8, tyX8_ok, nmX8, rfl, rfl, Or.inr ⟨_, kn_227⟩⟩
theorem kx_X9_62_213_66 : KT RX9 62 66 213 "java/lang/IllegalStateException" ["java/lang/RuntimeException", "java/lang/Exception"] 8 "there is no order" := ⟨by decide +kernel, by decide +kernel, kk_569, kk_83, rfl, at_X9_66, at_X9_66o, rfl⟩
abbrev mX9_eventAt : MT := (yX9_eventAt, cX9_eventAt, 2, (some .int), [])
theorem kk_1637 : Cond.methodLink RX9 236 yX0_isFull ∈ gtbl := g_in (List.mem_of_getElem? (i := 1637) (by decide +kernel)) (by decide +kernel)
theorem kv_X9_236 : KV RX9 236 mX0_isFull 0 := ⟨⟨kk_1637, kk_60, kk_1163, by decide +kernel⟩, rfl, kk_1161, kk_1162⟩
theorem kk_1639 : Cond.methodLink RX9 242 yX0_add ∈ gtbl := g_in (List.mem_of_getElem? (i := 1639) (by decide +kernel)) (by decide +kernel)
theorem kv_X9_242 : KV RX9 242 mX0_add 5 := ⟨⟨kk_1639, kk_60, kk_1183, by decide +kernel⟩, rfl, kk_1181, kk_1182⟩
theorem kx_X9_62_240_66 : KT RX9 62 66 240 "java/lang/IllegalStateException" ["java/lang/RuntimeException", "java/lang/Exception"] 59 "there are 40 claims" := ⟨by decide +kernel, by decide +kernel, kk_569, kk_83, rfl, at_X9_66, at_X9_66o, rfl⟩
abbrev mX9_claimByHand : MT := (yX9_claimByHand, cX9_claimByHand, 6, (some .int), [])
theorem kx_X9_76_222_80 : KT RX9 76 80 222 "java/lang/IllegalArgumentException" ["java/lang/RuntimeException", "java/lang/Exception"] 58 "not hours from 0 to 99" := ⟨by decide +kernel, by decide +kernel, kk_783, kk_84, rfl, at_X9_80, at_X9_80o, rfl⟩
theorem kk_1633 : Cond.methodLink RX9 224 yX9_claimByHand ∈ gtbl := g_in (List.mem_of_getElem? (i := 1633) (by decide +kernel)) (by decide +kernel)
theorem kk_1636 : Cond.code yX9_claimByHand cX9_claimByHand 6 (some .int) ∈ gtbl := g_in (List.mem_of_getElem? (i := 1636) (by decide +kernel)) (by decide +kernel)
theorem kk_1635 : Cond.instanceMethod yX9_claimByHand ∈ gtbl := g_in (List.mem_of_getElem? (i := 1635) (by decide +kernel)) (by decide +kernel)
theorem kk_54 : Cond.selects RX9 yX9_claimByHand yX9_claimByHand ∈ gtbl := g_in (List.mem_of_getElem? (i := 54) (by decide +kernel)) (by decide +kernel)
theorem kv_X9_224 : KV RX9 224 mX9_claimByHand 5 := ⟨⟨kk_1633, kk_57, kk_1636, by decide +kernel⟩, rfl, kk_1635, kk_54⟩
abbrev mX9_claimHours : MT := (yX9_claimHours, cX9_claimHours, 5, (some .int), [])
theorem kx_X9_76_234_80 : KT RX9 76 80 234 "java/lang/IllegalArgumentException" ["java/lang/RuntimeException", "java/lang/Exception"] 60 "both events are the same" := ⟨by decide +kernel, by decide +kernel, kk_783, kk_84, rfl, at_X9_80, at_X9_80o, rfl⟩
abbrev mX9_needTwoEvents : MT := (yX9_needTwoEvents, cX9_needTwoEvents, 3, none, [])
theorem kk_1644 : Cond.methodLink RX9 228 yX9_needTwoEvents ∈ gtbl := g_in (List.mem_of_getElem? (i := 1644) (by decide +kernel)) (by decide +kernel)
theorem kk_1647 : Cond.code yX9_needTwoEvents cX9_needTwoEvents 3 none ∈ gtbl := g_in (List.mem_of_getElem? (i := 1647) (by decide +kernel)) (by decide +kernel)
theorem kk_1646 : Cond.instanceMethod yX9_needTwoEvents ∈ gtbl := g_in (List.mem_of_getElem? (i := 1646) (by decide +kernel)) (by decide +kernel)
theorem kk_55 : Cond.selects RX9 yX9_needTwoEvents yX9_needTwoEvents ∈ gtbl := g_in (List.mem_of_getElem? (i := 55) (by decide +kernel)) (by decide +kernel)
theorem kv_X9_228 : KV RX9 228 mX9_needTwoEvents 2 := ⟨⟨kk_1644, kk_57, kk_1647, by decide +kernel⟩, rfl, kk_1646, kk_55⟩
abbrev mX9_claimBefore : MT := (yX9_claimBefore, cX9_claimBefore, 4, (some .int), [])
abbrev mX9_claimTogether : MT := (yX9_claimTogether, cX9_claimTogether, 4, (some .int), [])
abbrev mX0_remove : MT := (yX0_remove, cX0_remove, 3, none, [])
theorem kk_1662 : Cond.methodLink RX9 231 yX0_remove ∈ gtbl := g_in (List.mem_of_getElem? (i := 1662) (by decide +kernel)) (by decide +kernel)
theorem kk_1665 : Cond.code yX0_remove cX0_remove 3 none ∈ gtbl := g_in (List.mem_of_getElem? (i := 1665) (by decide +kernel)) (by decide +kernel)
theorem kk_1663 : Cond.instanceMethod yX0_remove ∈ gtbl := g_in (List.mem_of_getElem? (i := 1663) (by decide +kernel)) (by decide +kernel)
theorem kk_1664 : Cond.selects RX0 yX0_remove yX0_remove ∈ gtbl := g_in (List.mem_of_getElem? (i := 1664) (by decide +kernel)) (by decide +kernel)
theorem kv_X9_231 : KV RX9 231 mX0_remove 1 := ⟨⟨kk_1662, kk_60, kk_1665, by decide +kernel⟩, rfl, kk_1663, kk_1664⟩
abbrev mX9_takeBack : MT := (yX9_takeBack, cX9_takeBack, 3, (some .int), [])
abbrev mX9_turnDoubt : MT := (yX9_turnDoubt, cX9_turnDoubt, 2, (some .boolean), [])
theorem kx_X9_76_298_80 : KT RX9 76 80 298 "java/lang/IllegalArgumentException" ["java/lang/RuntimeException", "java/lang/Exception"] 9 "not 1 to 30 evenings" := ⟨by decide +kernel, by decide +kernel, kk_783, kk_84, rfl, at_X9_80, at_X9_80o, rfl⟩
abbrev mX9_needEvenings : MT := (yX9_needEvenings, cX9_needEvenings, 2, none, [])
theorem kk_811 : Cond.methodLink RX3 55 yX5_get ∈ gtbl := g_in (List.mem_of_getElem? (i := 811) (by decide +kernel)) (by decide +kernel)
theorem kv_X3_55 : KV RX3 55 mX5_get 1 := ⟨⟨kk_811, kk_58, kk_556, by decide +kernel⟩, rfl, kk_554, kk_555⟩
abbrev mX3_startOf : MT := (yX3_startOf, cX3_startOf, 2, (some .int), [])
theorem kk_419 : Cond.fieldLink RX1 72 RX1 "top" "I" ∈ gtbl := g_in (List.mem_of_getElem? (i := 419) (by decide +kernel)) (by decide +kernel)
theorem fl_X1_72 : FL RX1 72 1 3 (.int) false := ⟨RX1, TX1, 7, tyX1, rfl, by decide, il_1, tyX1_ok, nmX1, rfl, rfl, Or.inl kk_419⟩
theorem kk_418 : Cond.fieldLink RX1 24 RX1 "stack" "LStoryTapestry$Row;" ∈ gtbl := g_in (List.mem_of_getElem? (i := 418) (by decide +kernel)) (by decide +kernel)
theorem fl_X1_24 : FL RX1 24 1 2 (.object "StoryTapestry$Row") true := ⟨RX1, TX1, 7, tyX1, rfl, by decide, il_1, tyX1_ok, nmX1, rfl, rfl, Or.inl kk_418⟩
theorem kk_812 : Cond.methodLink RX1 59 yX5_get ∈ gtbl := g_in (List.mem_of_getElem? (i := 812) (by decide +kernel)) (by decide +kernel)
theorem kv_X1_59 : KV RX1 59 mX5_get 1 := ⟨⟨kk_812, kk_58, kk_556, by decide +kernel⟩, rfl, kk_554, kk_555⟩
abbrev mX1_pop : MT := (yX1_pop, cX1_pop, 1, (some .int), [])
theorem kk_417 : Cond.fieldLink RX1 15 RX1 "verdict" "LStoryTapestry$Verdict;" ∈ gtbl := g_in (List.mem_of_getElem? (i := 417) (by decide +kernel)) (by decide +kernel)
theorem fl_X1_15 : FL RX1 15 1 1 (.object "StoryTapestry$Verdict") true := ⟨RX1, TX1, 7, tyX1, rfl, by decide, il_1, tyX1_ok, nmX1, rfl, rfl, Or.inl kk_417⟩
theorem kk_817 : Cond.methodLink RX1 99 yX8_liarSet ∈ gtbl := g_in (List.mem_of_getElem? (i := 817) (by decide +kernel)) (by decide +kernel)
theorem kv_X1_99 : KV RX1 99 mX8_liarSet 1 := ⟨⟨kk_817, kk_62, kk_669, by decide +kernel⟩, rfl, kk_667, kk_668⟩
theorem kk_818 : Cond.methodLink RX1 104 yJ6_bitCount_0f7a4 ∈ gtbl := g_in (List.mem_of_getElem? (i := 818) (by decide +kernel)) (by decide +kernel)
theorem ks_X1_104 : KS RX1 104 mJ6_bitCount_0f7a4 1 := ⟨⟨kk_818, kk_78, kk_658, by decide +kernel⟩, rfl, kk_657⟩
theorem kk_819 : Cond.methodLink RX1 109 yX8_pairCount ∈ gtbl := g_in (List.mem_of_getElem? (i := 819) (by decide +kernel)) (by decide +kernel)
theorem kv_X1_109 : KV RX1 109 mX8_pairCount 1 := ⟨⟨kk_819, kk_62, kk_651, by decide +kernel⟩, rfl, kk_649, kk_650⟩
theorem kn_826 : Cond.methodLinkNest RX1 132 yX9_has "StoryTapestry" ∈ gnest := n_in (List.mem_of_getElem? (i := 826) (by decide +kernel)) (by decide +kernel)
theorem kq_X1_132 : KSN RX1 132 mX9_has 2 := ⟨⟨_, kn_826⟩, kk_57, kk_618, rfl, by decide +kernel, kk_617⟩
theorem kn_823 : Cond.methodLinkNest RX1 128 yX9_one "StoryTapestry" ∈ gnest := n_in (List.mem_of_getElem? (i := 823) (by decide +kernel)) (by decide +kernel)
theorem kq_X1_128 : KSN RX1 128 mX9_one 1 := ⟨⟨_, kn_823⟩, kk_57, kk_825, rfl, by decide +kernel, kk_824⟩
theorem kk_416 : Cond.fieldLink RX1 9 RX1 "told" "LStoryTapestry$Tapestry;" ∈ gtbl := g_in (List.mem_of_getElem? (i := 416) (by decide +kernel)) (by decide +kernel)
theorem fl_X1_9 : FL RX1 9 1 0 (.object "StoryTapestry$Tapestry") true := ⟨RX1, TX1, 7, tyX1, rfl, by decide, il_1, tyX1_ok, nmX1, rfl, rfl, Or.inl kk_416⟩
theorem kn_193 : Cond.fieldLinkNest RX1 112 RX6 "claims" "LStoryTapestry$Claims;" "StoryTapestry" ∈ gnest := n_in (List.mem_of_getElem? (i := 193) (by decide +kernel)) (by decide +kernel)
theorem fl_X1_112 : FL RX1 112 6 0 (.object "StoryTapestry$Claims") true := ⟨RX6, TX6, 4, tyX6, rfl, by decide, il_6, tyX6_ok, nmX6, rfl, rfl, Or.inr ⟨_, kn_193⟩⟩
theorem kk_820 : Cond.methodLink RX1 116 yX0_countOf ∈ gtbl := g_in (List.mem_of_getElem? (i := 820) (by decide +kernel)) (by decide +kernel)
theorem kv_X1_116 : KV RX1 116 mX0_countOf 1 := ⟨⟨kk_820, kk_60, kk_610, by decide +kernel⟩, rfl, kk_608, kk_609⟩
theorem kk_821 : Cond.methodLink RX1 121 yX8_windowHours ∈ gtbl := g_in (List.mem_of_getElem? (i := 821) (by decide +kernel)) (by decide +kernel)
theorem kv_X1_121 : KV RX1 121 mX8_windowHours 2 := ⟨⟨kk_821, kk_62, kk_710, by decide +kernel⟩, rfl, kk_708, kk_709⟩
theorem kk_822 : Cond.methodLink RX1 124 yX8_tellersContradict ∈ gtbl := g_in (List.mem_of_getElem? (i := 822) (by decide +kernel)) (by decide +kernel)
theorem kv_X1_124 : KV RX1 124 mX8_tellersContradict 3 := ⟨⟨kk_822, kk_62, kk_626, by decide +kernel⟩, rfl, kk_624, kk_625⟩
abbrev mX1_fact : MT := (yX1_fact, cX1_fact, 3, (some .int), [])
theorem kk_831 : Cond.methodLink RX1 95 yX5_set ∈ gtbl := g_in (List.mem_of_getElem? (i := 831) (by decide +kernel)) (by decide +kernel)
theorem kv_X1_95 : KV RX1 95 mX5_set 2 := ⟨⟨kk_831, kk_58, kk_760, by decide +kernel⟩, rfl, kk_758, kk_759⟩
abbrev mX1_push : MT := (yX1_push, cX1_push, 2, none, [])
theorem kk_843 : Cond.methodLink RX1 140 yJ9_min_7cf53 ∈ gtbl := g_in (List.mem_of_getElem? (i := 843) (by decide +kernel)) (by decide +kernel)
theorem ks_X1_140 : KS RX1 140 mJ9_min_7cf53 2 := ⟨⟨kk_843, kk_75, kk_721, by decide +kernel⟩, rfl, kk_720⟩
theorem kk_844 : Cond.methodLink RX1 145 yJ9_max_7cf53 ∈ gtbl := g_in (List.mem_of_getElem? (i := 844) (by decide +kernel)) (by decide +kernel)
theorem ks_X1_145 : KS RX1 145 mJ9_max_7cf53 2 := ⟨⟨kk_844, kk_75, kk_728, by decide +kernel⟩, rfl, kk_727⟩
abbrev mX1_combine : MT := (yX1_combine, cX1_combine, 3, (some .int), [])
theorem kk_836 : Cond.methodLink RX1 91 yX1_pop ∈ gtbl := g_in (List.mem_of_getElem? (i := 836) (by decide +kernel)) (by decide +kernel)
theorem kk_839 : Cond.code yX1_pop cX1_pop 1 (some .int) ∈ gtbl := g_in (List.mem_of_getElem? (i := 839) (by decide +kernel)) (by decide +kernel)
theorem kk_838 : Cond.instanceMethod yX1_pop ∈ gtbl := g_in (List.mem_of_getElem? (i := 838) (by decide +kernel)) (by decide +kernel)
theorem kk_19 : Cond.selects RX1 yX1_pop yX1_pop ∈ gtbl := g_in (List.mem_of_getElem? (i := 19) (by decide +kernel)) (by decide +kernel)
theorem kv_X1_91 : KV RX1 91 mX1_pop 0 := ⟨⟨kk_836, kk_70, kk_839, by decide +kernel⟩, rfl, kk_838, kk_19⟩
theorem kk_840 : Cond.methodLink RX1 136 yX1_combine ∈ gtbl := g_in (List.mem_of_getElem? (i := 840) (by decide +kernel)) (by decide +kernel)
theorem kk_842 : Cond.code yX1_combine cX1_combine 3 (some .int) ∈ gtbl := g_in (List.mem_of_getElem? (i := 842) (by decide +kernel)) (by decide +kernel)
theorem kk_841 : Cond.static yX1_combine ∈ gtbl := g_in (List.mem_of_getElem? (i := 841) (by decide +kernel)) (by decide +kernel)
theorem ks_X1_136 : KS RX1 136 mX1_combine 3 := ⟨⟨kk_840, kk_70, kk_842, by decide +kernel⟩, rfl, kk_841⟩
theorem kk_827 : Cond.methodLink RX1 85 yX1_push ∈ gtbl := g_in (List.mem_of_getElem? (i := 827) (by decide +kernel)) (by decide +kernel)
theorem kk_830 : Cond.code yX1_push cX1_push 2 none ∈ gtbl := g_in (List.mem_of_getElem? (i := 830) (by decide +kernel)) (by decide +kernel)
theorem kk_829 : Cond.instanceMethod yX1_push ∈ gtbl := g_in (List.mem_of_getElem? (i := 829) (by decide +kernel)) (by decide +kernel)
theorem kk_17 : Cond.selects RX1 yX1_push yX1_push ∈ gtbl := g_in (List.mem_of_getElem? (i := 17) (by decide +kernel)) (by decide +kernel)
theorem kv_X1_85 : KV RX1 85 mX1_push 1 := ⟨⟨kk_827, kk_70, kk_830, by decide +kernel⟩, rfl, kk_829, kk_17⟩
abbrev mX1_reckon : MT := (yX1_reckon, cX1_reckon, 3, none, [])
theorem kn_196 : Cond.fieldLinkNest RX1 38 RX6 "orders" "LStoryTapestry$Orders;" "StoryTapestry" ∈ gnest := n_in (List.mem_of_getElem? (i := 196) (by decide +kernel)) (by decide +kernel)
theorem fl_X1_38 : FL RX1 38 6 1 (.object "StoryTapestry$Orders") true := ⟨RX6, TX6, 4, tyX6, rfl, by decide, il_6, tyX6_ok, nmX6, rfl, rfl, Or.inr ⟨_, kn_196⟩⟩
theorem kk_807 : Cond.methodLink RX1 66 yX3_startOf ∈ gtbl := g_in (List.mem_of_getElem? (i := 807) (by decide +kernel)) (by decide +kernel)
theorem kk_810 : Cond.code yX3_startOf cX3_startOf 2 (some .int) ∈ gtbl := g_in (List.mem_of_getElem? (i := 810) (by decide +kernel)) (by decide +kernel)
theorem kk_808 : Cond.instanceMethod yX3_startOf ∈ gtbl := g_in (List.mem_of_getElem? (i := 808) (by decide +kernel)) (by decide +kernel)
theorem kk_809 : Cond.selects RX3 yX3_startOf yX3_startOf ∈ gtbl := g_in (List.mem_of_getElem? (i := 809) (by decide +kernel)) (by decide +kernel)
theorem kv_X1_66 : KV RX1 66 mX3_startOf 1 := ⟨⟨kk_807, kk_61, kk_810, by decide +kernel⟩, rfl, kk_808, kk_809⟩
theorem kn_165 : Cond.fieldLinkNest RX1 69 RX3 "ends" "LStoryTapestry$Row;" "StoryTapestry" ∈ gnest := n_in (List.mem_of_getElem? (i := 165) (by decide +kernel)) (by decide +kernel)
theorem fl_X1_69 : FL RX1 69 3 2 (.object "StoryTapestry$Row") true := ⟨RX3, TX3, 7, tyX3, rfl, by decide, il_3, tyX3_ok, nmX3, rfl, rfl, Or.inr ⟨_, kn_165⟩⟩
theorem kn_167 : Cond.fieldLinkNest RX1 75 RX3 "stepKinds" "LStoryTapestry$Row;" "StoryTapestry" ∈ gnest := n_in (List.mem_of_getElem? (i := 167) (by decide +kernel)) (by decide +kernel)
theorem fl_X1_75 : FL RX1 75 3 3 (.object "StoryTapestry$Row") true := ⟨RX3, TX3, 7, tyX3, rfl, by decide, il_3, tyX3_ok, nmX3, rfl, rfl, Or.inr ⟨_, kn_167⟩⟩
theorem kn_169 : Cond.fieldLinkNest RX1 78 RX3 "stepParts" "LStoryTapestry$Row;" "StoryTapestry" ∈ gnest := n_in (List.mem_of_getElem? (i := 169) (by decide +kernel)) (by decide +kernel)
theorem fl_X1_78 : FL RX1 78 3 4 (.object "StoryTapestry$Row") true := ⟨RX3, TX3, 7, tyX3, rfl, by decide, il_3, tyX3_ok, nmX3, rfl, rfl, Or.inr ⟨_, kn_169⟩⟩
theorem kk_813 : Cond.methodLink RX1 81 yX1_fact ∈ gtbl := g_in (List.mem_of_getElem? (i := 813) (by decide +kernel)) (by decide +kernel)
theorem kk_816 : Cond.code yX1_fact cX1_fact 3 (some .int) ∈ gtbl := g_in (List.mem_of_getElem? (i := 816) (by decide +kernel)) (by decide +kernel)
theorem kk_815 : Cond.instanceMethod yX1_fact ∈ gtbl := g_in (List.mem_of_getElem? (i := 815) (by decide +kernel)) (by decide +kernel)
theorem kk_16 : Cond.selects RX1 yX1_fact yX1_fact ∈ gtbl := g_in (List.mem_of_getElem? (i := 16) (by decide +kernel)) (by decide +kernel)
theorem kv_X1_81 : KV RX1 81 mX1_fact 2 := ⟨⟨kk_813, kk_70, kk_816, by decide +kernel⟩, rfl, kk_815, kk_16⟩
theorem kk_832 : Cond.methodLink RX1 88 yX1_reckon ∈ gtbl := g_in (List.mem_of_getElem? (i := 832) (by decide +kernel)) (by decide +kernel)
theorem kk_835 : Cond.code yX1_reckon cX1_reckon 3 none ∈ gtbl := g_in (List.mem_of_getElem? (i := 835) (by decide +kernel)) (by decide +kernel)
theorem kk_834 : Cond.instanceMethod yX1_reckon ∈ gtbl := g_in (List.mem_of_getElem? (i := 834) (by decide +kernel)) (by decide +kernel)
theorem kk_18 : Cond.selects RX1 yX1_reckon yX1_reckon ∈ gtbl := g_in (List.mem_of_getElem? (i := 18) (by decide +kernel)) (by decide +kernel)
theorem kv_X1_88 : KV RX1 88 mX1_reckon 1 := ⟨⟨kk_832, kk_70, kk_835, by decide +kernel⟩, rfl, kk_834, kk_18⟩
abbrev mX1_holds : MT := (yX1_holds, cX1_holds, 6, (some .boolean), [])
theorem kn_163 : Cond.fieldLinkNest RX1 56 RX3 "tellers" "LStoryTapestry$Row;" "StoryTapestry" ∈ gnest := n_in (List.mem_of_getElem? (i := 163) (by decide +kernel)) (by decide +kernel)
theorem fl_X1_56 : FL RX1 56 3 1 (.object "StoryTapestry$Row") true := ⟨RX3, TX3, 7, tyX3, rfl, by decide, il_3, tyX3_ok, nmX3, rfl, rfl, Or.inr ⟨_, kn_163⟩⟩
theorem kn_161 : Cond.fieldLinkNest RX1 63 RX3 "doubts" "LStoryTapestry$Row;" "StoryTapestry" ∈ gnest := n_in (List.mem_of_getElem? (i := 161) (by decide +kernel)) (by decide +kernel)
theorem fl_X1_63 : FL RX1 63 3 0 (.object "StoryTapestry$Row") true := ⟨RX3, TX3, 7, tyX3, rfl, by decide, il_3, tyX3_ok, nmX3, rfl, rfl, Or.inr ⟨_, kn_161⟩⟩
abbrev mX1_carryOut : MT := (yX1_carryOut, cX1_carryOut, 4, none, [])
theorem kn_172 : Cond.fieldLinkNest RX1 44 RX3 "count" "I" "StoryTapestry" ∈ gnest := n_in (List.mem_of_getElem? (i := 172) (by decide +kernel)) (by decide +kernel)
theorem fl_X1_44 : FL RX1 44 3 5 (.int) false := ⟨RX3, TX3, 7, tyX3, rfl, by decide, il_3, tyX3_ok, nmX3, rfl, rfl, Or.inr ⟨_, kn_172⟩⟩
theorem kk_803 : Cond.methodLink RX1 49 yX1_holds ∈ gtbl := g_in (List.mem_of_getElem? (i := 803) (by decide +kernel)) (by decide +kernel)
theorem kk_806 : Cond.code yX1_holds cX1_holds 6 (some .boolean) ∈ gtbl := g_in (List.mem_of_getElem? (i := 806) (by decide +kernel)) (by decide +kernel)
theorem kk_805 : Cond.instanceMethod yX1_holds ∈ gtbl := g_in (List.mem_of_getElem? (i := 805) (by decide +kernel)) (by decide +kernel)
theorem kk_15 : Cond.selects RX1 yX1_holds yX1_holds ∈ gtbl := g_in (List.mem_of_getElem? (i := 15) (by decide +kernel)) (by decide +kernel)
theorem kv_X1_49 : KV RX1 49 mX1_holds 1 := ⟨⟨kk_803, kk_70, kk_806, by decide +kernel⟩, rfl, kk_805, kk_15⟩
theorem kk_845 : Cond.methodLink RX1 53 yX1_carryOut ∈ gtbl := g_in (List.mem_of_getElem? (i := 845) (by decide +kernel)) (by decide +kernel)
theorem kk_848 : Cond.code yX1_carryOut cX1_carryOut 4 none ∈ gtbl := g_in (List.mem_of_getElem? (i := 848) (by decide +kernel)) (by decide +kernel)
theorem kk_847 : Cond.instanceMethod yX1_carryOut ∈ gtbl := g_in (List.mem_of_getElem? (i := 847) (by decide +kernel)) (by decide +kernel)
theorem kk_20 : Cond.selects RX1 yX1_carryOut yX1_carryOut ∈ gtbl := g_in (List.mem_of_getElem? (i := 20) (by decide +kernel)) (by decide +kernel)
theorem kv_X1_53 : KV RX1 53 mX1_carryOut 1 := ⟨⟨kk_845, kk_70, kk_848, by decide +kernel⟩, rfl, kk_847, kk_20⟩
abbrev mX1_passOne : MT := (yX1_passOne, cX1_passOne, 2, none, [])
theorem kk_779 : Cond.methodLink RX9 246 yX9_needEvenings ∈ gtbl := g_in (List.mem_of_getElem? (i := 779) (by decide +kernel)) (by decide +kernel)
theorem kk_782 : Cond.code yX9_needEvenings cX9_needEvenings 2 none ∈ gtbl := g_in (List.mem_of_getElem? (i := 782) (by decide +kernel)) (by decide +kernel)
theorem kk_781 : Cond.instanceMethod yX9_needEvenings ∈ gtbl := g_in (List.mem_of_getElem? (i := 781) (by decide +kernel)) (by decide +kernel)
theorem kk_14 : Cond.selects RX9 yX9_needEvenings yX9_needEvenings ∈ gtbl := g_in (List.mem_of_getElem? (i := 14) (by decide +kernel)) (by decide +kernel)
theorem kv_X9_246 : KV RX9 246 mX9_needEvenings 1 := ⟨⟨kk_779, kk_57, kk_782, by decide +kernel⟩, rfl, kk_781, kk_14⟩
theorem kk_799 : Cond.methodLink RX9 249 yX1_passOne ∈ gtbl := g_in (List.mem_of_getElem? (i := 799) (by decide +kernel)) (by decide +kernel)
theorem kk_802 : Cond.code yX1_passOne cX1_passOne 2 none ∈ gtbl := g_in (List.mem_of_getElem? (i := 802) (by decide +kernel)) (by decide +kernel)
theorem kk_800 : Cond.instanceMethod yX1_passOne ∈ gtbl := g_in (List.mem_of_getElem? (i := 800) (by decide +kernel)) (by decide +kernel)
theorem kk_801 : Cond.selects RX1 yX1_passOne yX1_passOne ∈ gtbl := g_in (List.mem_of_getElem? (i := 801) (by decide +kernel)) (by decide +kernel)
theorem kv_X9_249 : KV RX9 249 mX1_passOne 0 := ⟨⟨kk_799, kk_70, kk_802, by decide +kernel⟩, rfl, kk_800, kk_801⟩
abbrev mX9_passEvenings : MT := (yX9_passEvenings, cX9_passEvenings, 4, (some .int), [])
abbrev mX1_copyFrom : MT := (yX1_copyFrom, cX1_copyFrom, 2, none, [])
theorem kk_446 : Cond.fieldLink RX9 52 RX9 "trial" "LStoryTapestry$Course;" ∈ gtbl := g_in (List.mem_of_getElem? (i := 446) (by decide +kernel)) (by decide +kernel)
theorem fl_X9_52 : FL RX9 52 9 5 (.object "StoryTapestry$Course") true := ⟨RX9, TX9, 8, tyX9, rfl, by decide, il_9, tyX9_ok, nmX9, rfl, rfl, Or.inl kk_446⟩
theorem kk_853 : Cond.methodLink RX9 252 yX1_copyFrom ∈ gtbl := g_in (List.mem_of_getElem? (i := 853) (by decide +kernel)) (by decide +kernel)
theorem kk_856 : Cond.code yX1_copyFrom cX1_copyFrom 2 none ∈ gtbl := g_in (List.mem_of_getElem? (i := 856) (by decide +kernel)) (by decide +kernel)
theorem kk_854 : Cond.instanceMethod yX1_copyFrom ∈ gtbl := g_in (List.mem_of_getElem? (i := 854) (by decide +kernel)) (by decide +kernel)
theorem kk_855 : Cond.selects RX1 yX1_copyFrom yX1_copyFrom ∈ gtbl := g_in (List.mem_of_getElem? (i := 855) (by decide +kernel)) (by decide +kernel)
theorem kv_X9_252 : KV RX9 252 mX1_copyFrom 1 := ⟨⟨kk_853, kk_70, kk_856, by decide +kernel⟩, rfl, kk_854, kk_855⟩
abbrev mX9_liarsAfter : MT := (yX9_liarsAfter, cX9_liarsAfter, 3, (some .int), [])
abbrev mX9_eveningsUntilOneStory : MT := (yX9_eveningsUntilOneStory, cX9_eveningsUntilOneStory, 2, (some .int), [])
abbrev mX9_bestToDoubt : MT := (yX9_bestToDoubt, cX9_bestToDoubt, 5, (some .int), [])
abbrev mX9_meanClaims : MT := (yX9_meanClaims, cX9_meanClaims, 1, (some .double), [])
theorem kk_870 : Cond.constantLong RX9 257 (31) ∈ gtbl := g_in (List.mem_of_getElem? (i := 870) (by decide +kernel)) (by decide +kernel)
abbrev mX9_digestClaims : MT := (yX9_digestClaims, cX9_digestClaims, 6, (some .long), [])
theorem kk_886 : Cond.methodLink RX9 284 yX9_one ∈ gtbl := g_in (List.mem_of_getElem? (i := 886) (by decide +kernel)) (by decide +kernel)
theorem ks_X9_284 : KS RX9 284 mX9_one 1 := ⟨⟨kk_886, kk_57, kk_825, by decide +kernel⟩, rfl, kk_824⟩
abbrev mX9_digestTellers : MT := (yX9_digestTellers, cX9_digestTellers, 8, (some .long), [])
abbrev mX9_digestEvents : MT := (yX9_digestEvents, cX9_digestEvents, 8, (some .long), [])
theorem kk_869 : Cond.constantLong RX9 255 (991) ∈ gtbl := g_in (List.mem_of_getElem? (i := 869) (by decide +kernel)) (by decide +kernel)
theorem kk_871 : Cond.methodLink RX9 259 yX9_events ∈ gtbl := g_in (List.mem_of_getElem? (i := 871) (by decide +kernel)) (by decide +kernel)
theorem kk_469 : Cond.code yX9_events cX9_events 1 (some .int) ∈ gtbl := g_in (List.mem_of_getElem? (i := 469) (by decide +kernel)) (by decide +kernel)
theorem kk_467 : Cond.instanceMethod yX9_events ∈ gtbl := g_in (List.mem_of_getElem? (i := 467) (by decide +kernel)) (by decide +kernel)
theorem kk_468 : Cond.selects RX9 yX9_events yX9_events ∈ gtbl := g_in (List.mem_of_getElem? (i := 468) (by decide +kernel)) (by decide +kernel)
theorem kv_X9_259 : KV RX9 259 mX9_events 0 := ⟨⟨kk_871, kk_57, kk_469, by decide +kernel⟩, rfl, kk_467, kk_468⟩
theorem kk_872 : Cond.methodLink RX9 262 yX9_tellers ∈ gtbl := g_in (List.mem_of_getElem? (i := 872) (by decide +kernel)) (by decide +kernel)
theorem kk_473 : Cond.code yX9_tellers cX9_tellers 1 (some .int) ∈ gtbl := g_in (List.mem_of_getElem? (i := 473) (by decide +kernel)) (by decide +kernel)
theorem kk_471 : Cond.instanceMethod yX9_tellers ∈ gtbl := g_in (List.mem_of_getElem? (i := 471) (by decide +kernel)) (by decide +kernel)
theorem kk_472 : Cond.selects RX9 yX9_tellers yX9_tellers ∈ gtbl := g_in (List.mem_of_getElem? (i := 472) (by decide +kernel)) (by decide +kernel)
theorem kv_X9_262 : KV RX9 262 mX9_tellers 0 := ⟨⟨kk_872, kk_57, kk_473, by decide +kernel⟩, rfl, kk_471, kk_472⟩
theorem kk_873 : Cond.methodLink RX9 264 yX9_claims ∈ gtbl := g_in (List.mem_of_getElem? (i := 873) (by decide +kernel)) (by decide +kernel)
theorem kk_477 : Cond.code yX9_claims cX9_claims 1 (some .int) ∈ gtbl := g_in (List.mem_of_getElem? (i := 477) (by decide +kernel)) (by decide +kernel)
theorem kk_475 : Cond.instanceMethod yX9_claims ∈ gtbl := g_in (List.mem_of_getElem? (i := 475) (by decide +kernel)) (by decide +kernel)
theorem kk_476 : Cond.selects RX9 yX9_claims yX9_claims ∈ gtbl := g_in (List.mem_of_getElem? (i := 476) (by decide +kernel)) (by decide +kernel)
theorem kv_X9_264 : KV RX9 264 mX9_claims 0 := ⟨⟨kk_873, kk_57, kk_477, by decide +kernel⟩, rfl, kk_475, kk_476⟩
theorem kk_874 : Cond.methodLink RX9 266 yX9_evenings ∈ gtbl := g_in (List.mem_of_getElem? (i := 874) (by decide +kernel)) (by decide +kernel)
theorem kk_877 : Cond.code yX9_evenings cX9_evenings 1 (some .int) ∈ gtbl := g_in (List.mem_of_getElem? (i := 877) (by decide +kernel)) (by decide +kernel)
theorem kk_875 : Cond.instanceMethod yX9_evenings ∈ gtbl := g_in (List.mem_of_getElem? (i := 875) (by decide +kernel)) (by decide +kernel)
theorem kk_876 : Cond.selects RX9 yX9_evenings yX9_evenings ∈ gtbl := g_in (List.mem_of_getElem? (i := 876) (by decide +kernel)) (by decide +kernel)
theorem kv_X9_266 : KV RX9 266 mX9_evenings 0 := ⟨⟨kk_874, kk_57, kk_877, by decide +kernel⟩, rfl, kk_875, kk_876⟩
theorem kk_878 : Cond.methodLink RX9 269 yX9_ordersCarriedOut ∈ gtbl := g_in (List.mem_of_getElem? (i := 878) (by decide +kernel)) (by decide +kernel)
theorem kk_881 : Cond.code yX9_ordersCarriedOut cX9_ordersCarriedOut 1 (some .int) ∈ gtbl := g_in (List.mem_of_getElem? (i := 881) (by decide +kernel)) (by decide +kernel)
theorem kk_879 : Cond.instanceMethod yX9_ordersCarriedOut ∈ gtbl := g_in (List.mem_of_getElem? (i := 879) (by decide +kernel)) (by decide +kernel)
theorem kk_880 : Cond.selects RX9 yX9_ordersCarriedOut yX9_ordersCarriedOut ∈ gtbl := g_in (List.mem_of_getElem? (i := 880) (by decide +kernel)) (by decide +kernel)
theorem kv_X9_269 : KV RX9 269 mX9_ordersCarriedOut 0 := ⟨⟨kk_878, kk_57, kk_881, by decide +kernel⟩, rfl, kk_879, kk_880⟩
theorem kk_882 : Cond.methodLink RX9 272 yX9_contradictions ∈ gtbl := g_in (List.mem_of_getElem? (i := 882) (by decide +kernel)) (by decide +kernel)
theorem kk_647 : Cond.code yX9_contradictions cX9_contradictions 1 (some .int) ∈ gtbl := g_in (List.mem_of_getElem? (i := 647) (by decide +kernel)) (by decide +kernel)
theorem kk_645 : Cond.instanceMethod yX9_contradictions ∈ gtbl := g_in (List.mem_of_getElem? (i := 645) (by decide +kernel)) (by decide +kernel)
theorem kk_646 : Cond.selects RX9 yX9_contradictions yX9_contradictions ∈ gtbl := g_in (List.mem_of_getElem? (i := 646) (by decide +kernel)) (by decide +kernel)
theorem kv_X9_272 : KV RX9 272 mX9_contradictions 0 := ⟨⟨kk_882, kk_57, kk_647, by decide +kernel⟩, rfl, kk_645, kk_646⟩
theorem kk_883 : Cond.methodLink RX9 275 yX9_liars ∈ gtbl := g_in (List.mem_of_getElem? (i := 883) (by decide +kernel)) (by decide +kernel)
theorem kk_665 : Cond.code yX9_liars cX9_liars 1 (some .int) ∈ gtbl := g_in (List.mem_of_getElem? (i := 665) (by decide +kernel)) (by decide +kernel)
theorem kk_663 : Cond.instanceMethod yX9_liars ∈ gtbl := g_in (List.mem_of_getElem? (i := 663) (by decide +kernel)) (by decide +kernel)
theorem kk_664 : Cond.selects RX9 yX9_liars yX9_liars ∈ gtbl := g_in (List.mem_of_getElem? (i := 664) (by decide +kernel)) (by decide +kernel)
theorem kv_X9_275 : KV RX9 275 mX9_liars 0 := ⟨⟨kk_883, kk_57, kk_665, by decide +kernel⟩, rfl, kk_663, kk_664⟩
theorem kk_884 : Cond.methodLink RX9 278 yX9_smallestSets ∈ gtbl := g_in (List.mem_of_getElem? (i := 884) (by decide +kernel)) (by decide +kernel)
theorem kk_689 : Cond.code yX9_smallestSets cX9_smallestSets 1 (some .int) ∈ gtbl := g_in (List.mem_of_getElem? (i := 689) (by decide +kernel)) (by decide +kernel)
theorem kk_687 : Cond.instanceMethod yX9_smallestSets ∈ gtbl := g_in (List.mem_of_getElem? (i := 687) (by decide +kernel)) (by decide +kernel)
theorem kk_688 : Cond.selects RX9 yX9_smallestSets yX9_smallestSets ∈ gtbl := g_in (List.mem_of_getElem? (i := 688) (by decide +kernel)) (by decide +kernel)
theorem kv_X9_278 : KV RX9 278 mX9_smallestSets 0 := ⟨⟨kk_884, kk_57, kk_689, by decide +kernel⟩, rfl, kk_687, kk_688⟩
theorem kk_885 : Cond.methodLink RX9 281 yX9_hasOrder ∈ gtbl := g_in (List.mem_of_getElem? (i := 885) (by decide +kernel)) (by decide +kernel)
theorem kk_747 : Cond.code yX9_hasOrder cX9_hasOrder 1 (some .boolean) ∈ gtbl := g_in (List.mem_of_getElem? (i := 747) (by decide +kernel)) (by decide +kernel)
theorem kk_745 : Cond.instanceMethod yX9_hasOrder ∈ gtbl := g_in (List.mem_of_getElem? (i := 745) (by decide +kernel)) (by decide +kernel)
theorem kk_746 : Cond.selects RX9 yX9_hasOrder yX9_hasOrder ∈ gtbl := g_in (List.mem_of_getElem? (i := 746) (by decide +kernel)) (by decide +kernel)
theorem kv_X9_281 : KV RX9 281 mX9_hasOrder 0 := ⟨⟨kk_885, kk_57, kk_747, by decide +kernel⟩, rfl, kk_745, kk_746⟩
theorem kk_887 : Cond.methodLink RX9 288 yX9_digestClaims ∈ gtbl := g_in (List.mem_of_getElem? (i := 887) (by decide +kernel)) (by decide +kernel)
theorem kk_890 : Cond.code yX9_digestClaims cX9_digestClaims 6 (some .long) ∈ gtbl := g_in (List.mem_of_getElem? (i := 890) (by decide +kernel)) (by decide +kernel)
theorem kk_889 : Cond.instanceMethod yX9_digestClaims ∈ gtbl := g_in (List.mem_of_getElem? (i := 889) (by decide +kernel)) (by decide +kernel)
theorem kk_21 : Cond.selects RX9 yX9_digestClaims yX9_digestClaims ∈ gtbl := g_in (List.mem_of_getElem? (i := 21) (by decide +kernel)) (by decide +kernel)
theorem kv_X9_288 : KV RX9 288 mX9_digestClaims 1 := ⟨⟨kk_887, kk_57, kk_890, by decide +kernel⟩, rfl, kk_889, kk_21⟩
theorem kk_891 : Cond.methodLink RX9 292 yX9_digestTellers ∈ gtbl := g_in (List.mem_of_getElem? (i := 891) (by decide +kernel)) (by decide +kernel)
theorem kk_894 : Cond.code yX9_digestTellers cX9_digestTellers 8 (some .long) ∈ gtbl := g_in (List.mem_of_getElem? (i := 894) (by decide +kernel)) (by decide +kernel)
theorem kk_893 : Cond.instanceMethod yX9_digestTellers ∈ gtbl := g_in (List.mem_of_getElem? (i := 893) (by decide +kernel)) (by decide +kernel)
theorem kk_22 : Cond.selects RX9 yX9_digestTellers yX9_digestTellers ∈ gtbl := g_in (List.mem_of_getElem? (i := 22) (by decide +kernel)) (by decide +kernel)
theorem kv_X9_292 : KV RX9 292 mX9_digestTellers 1 := ⟨⟨kk_891, kk_57, kk_894, by decide +kernel⟩, rfl, kk_893, kk_22⟩
theorem kk_895 : Cond.methodLink RX9 295 yX9_digestEvents ∈ gtbl := g_in (List.mem_of_getElem? (i := 895) (by decide +kernel)) (by decide +kernel)
theorem kk_898 : Cond.code yX9_digestEvents cX9_digestEvents 8 (some .long) ∈ gtbl := g_in (List.mem_of_getElem? (i := 898) (by decide +kernel)) (by decide +kernel)
theorem kk_897 : Cond.instanceMethod yX9_digestEvents ∈ gtbl := g_in (List.mem_of_getElem? (i := 897) (by decide +kernel)) (by decide +kernel)
theorem kk_23 : Cond.selects RX9 yX9_digestEvents yX9_digestEvents ∈ gtbl := g_in (List.mem_of_getElem? (i := 23) (by decide +kernel)) (by decide +kernel)
theorem kv_X9_295 : KV RX9 295 mX9_digestEvents 1 := ⟨⟨kk_895, kk_57, kk_898, by decide +kernel⟩, rfl, kk_897, kk_23⟩
abbrev mX9_digest : MT := (yX9_digest, cX9_digest, 3, (some .long), [])
