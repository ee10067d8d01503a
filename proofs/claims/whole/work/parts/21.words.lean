theorem il_5 : ∀ w ∈ u_ws RX5 TX5 1, w ∈ gtbl := fun w hw => g_in ((by decide +kernel : ∀ w ∈ u_ws RX5 TX5 1, w ∈ lw_tbl) w hw) (List.all_eq_true.mp (by decide +kernel : (u_ws RX5 TX5 1).all goodWord = true) w hw)
theorem kk_158 : Cond.fieldLink RX5 7 RX5 "cells" "[I" ∈ gtbl := g_in (List.mem_of_getElem? (i := 158) (by decide +kernel)) (by decide +kernel)
theorem fl_X5_7 : FL RX5 7 5 0 (.array .int) true := ⟨RX5, TX5, 1, tyX5, rfl, by decide, il_5, tyX5_ok, nmX5, rfl, rfl, Or.inl kk_158⟩
theorem il_2 : ∀ w ∈ u_ws RX2 TX2 2, w ∈ gtbl := fun w hw => g_in ((by decide +kernel : ∀ w ∈ u_ws RX2 TX2 2, w ∈ lw_tbl) w hw) (List.all_eq_true.mp (by decide +kernel : (u_ws RX2 TX2 2).all goodWord = true) w hw)
theorem kk_323 : Cond.fieldLink RX2 7 RX2 "words" "[J" ∈ gtbl := g_in (List.mem_of_getElem? (i := 323) (by decide +kernel)) (by decide +kernel)
theorem fl_X2_7 : FL RX2 7 2 0 (.array .long) true := ⟨RX2, TX2, 2, tyX2, rfl, by decide, il_2, tyX2_ok, nmX2, rfl, rfl, Or.inl kk_323⟩
theorem kk_324 : Cond.fieldLink RX2 13 RX2 "count" "I" ∈ gtbl := g_in (List.mem_of_getElem? (i := 324) (by decide +kernel)) (by decide +kernel)
theorem fl_X2_13 : FL RX2 13 2 1 (.int) false := ⟨RX2, TX2, 2, tyX2, rfl, by decide, il_2, tyX2_ok, nmX2, rfl, rfl, Or.inl kk_324⟩
abbrev mX5_get : MT := (yX5_get, cX5_get, 2, (some .int), [])
theorem kk_768 : Cond.methodLink RX5 13 yX5_get ∈ gtbl := g_in (List.mem_of_getElem? (i := 768) (by decide +kernel)) (by decide +kernel)
theorem kk_120 : Cond.initialized RX5 ∈ gtbl := g_in (List.mem_of_getElem? (i := 120) (by decide +kernel)) (by decide +kernel)
theorem kk_546 : Cond.code yX5_get cX5_get 2 (some .int) ∈ gtbl := g_in (List.mem_of_getElem? (i := 546) (by decide +kernel)) (by decide +kernel)
theorem kk_544 : Cond.instanceMethod yX5_get ∈ gtbl := g_in (List.mem_of_getElem? (i := 544) (by decide +kernel)) (by decide +kernel)
theorem kk_545 : Cond.selects RX5 yX5_get yX5_get ∈ gtbl := g_in (List.mem_of_getElem? (i := 545) (by decide +kernel)) (by decide +kernel)
theorem kv_X5_13 : KV RX5 13 mX5_get 1 := ⟨⟨kk_768, kk_120, kk_546, by decide +kernel⟩, rfl, kk_544, kk_545⟩
abbrev mX5_set : MT := (yX5_set, cX5_set, 3, none, [])
abbrev mX5_copyFrom : MT := (yX5_copyFrom, cX5_copyFrom, 3, none, [])
abbrev mX2_isFull : MT := (yX2_isFull, cX2_isFull, 1, (some .boolean), [])
abbrev mX2_add : MT := (yX2_add, cX2_add, 3, none, [])
abbrev mX2_find : MT := (yX2_find, cX2_find, 4, (some .int), [])
theorem il_9 : ∀ w ∈ u_ws RX9 TX9 8, w ∈ gtbl := fun w hw => g_in ((by decide +kernel : ∀ w ∈ u_ws RX9 TX9 8, w ∈ lw_tbl) w hw) (List.all_eq_true.mp (by decide +kernel : (u_ws RX9 TX9 8).all goodWord = true) w hw)
theorem kk_498 : Cond.fieldLink RX9 22 RX9 "tape" "LStoryTapestry$Row;" ∈ gtbl := g_in (List.mem_of_getElem? (i := 498) (by decide +kernel)) (by decide +kernel)
theorem fl_X9_22 : FL RX9 22 9 0 (.object "StoryTapestry$Row") true := ⟨RX9, TX9, 8, tyX9, rfl, by decide, il_9, tyX9_ok, nmX9, rfl, rfl, Or.inl kk_498⟩
theorem kk_504 : Cond.fieldLink RX9 55 RX9 "tapeSize" "I" ∈ gtbl := g_in (List.mem_of_getElem? (i := 504) (by decide +kernel)) (by decide +kernel)
theorem fl_X9_55 : FL RX9 55 9 6 (.int) false := ⟨RX9, TX9, 8, tyX9, rfl, by decide, il_9, tyX9_ok, nmX9, rfl, rfl, Or.inl kk_504⟩
theorem kk_1088 : Cond.methodLink RX9 72 yX5_set ∈ gtbl := g_in (List.mem_of_getElem? (i := 1088) (by decide +kernel)) (by decide +kernel)
theorem kk_550 : Cond.code yX5_set cX5_set 3 none ∈ gtbl := g_in (List.mem_of_getElem? (i := 550) (by decide +kernel)) (by decide +kernel)
theorem kk_548 : Cond.instanceMethod yX5_set ∈ gtbl := g_in (List.mem_of_getElem? (i := 548) (by decide +kernel)) (by decide +kernel)
theorem kk_549 : Cond.selects RX5 yX5_set yX5_set ∈ gtbl := g_in (List.mem_of_getElem? (i := 549) (by decide +kernel)) (by decide +kernel)
theorem kv_X9_72 : KV RX9 72 mX5_set 2 := ⟨⟨kk_1088, kk_120, kk_550, by decide +kernel⟩, rfl, kk_548, kk_549⟩
abbrev mX9_appendBytes : MT := (yX9_appendBytes, cX9_appendBytes, 3, none, [])
theorem kk_1084 : Cond.methodLink RX9 69 yX9_appendBytes ∈ gtbl := g_in (List.mem_of_getElem? (i := 1084) (by decide +kernel)) (by decide +kernel)
theorem kk_119 : Cond.initialized RX9 ∈ gtbl := g_in (List.mem_of_getElem? (i := 119) (by decide +kernel)) (by decide +kernel)
theorem kk_1087 : Cond.code yX9_appendBytes cX9_appendBytes 3 none ∈ gtbl := g_in (List.mem_of_getElem? (i := 1087) (by decide +kernel)) (by decide +kernel)
theorem kk_1086 : Cond.instanceMethod yX9_appendBytes ∈ gtbl := g_in (List.mem_of_getElem? (i := 1086) (by decide +kernel)) (by decide +kernel)
theorem kk_45 : Cond.selects RX9 yX9_appendBytes yX9_appendBytes ∈ gtbl := g_in (List.mem_of_getElem? (i := 45) (by decide +kernel)) (by decide +kernel)
theorem kv_X9_69 : KV RX9 69 mX9_appendBytes 1 := ⟨⟨kk_1084, kk_119, kk_1087, by decide +kernel⟩, rfl, kk_1086, kk_45⟩
theorem kk_1017 : Cond.classLink RX9 62 "java/lang/IllegalStateException" ∈ gtbl := g_in (List.mem_of_getElem? (i := 1017) (by decide +kernel)) (by decide +kernel)
theorem kk_138 : Cond.initialized "java/lang/IllegalStateException" ∈ gtbl := g_in (List.mem_of_getElem? (i := 138) (by decide +kernel)) (by decide +kernel)
theorem at_X9_66 : ∀ w ∈ (vx_atS RX9 66 "java/lang/IllegalStateException" ["java/lang/RuntimeException", "java/lang/Exception"]), w ∈ gtbl ∨ w ∈ gnest := by decide +kernel
theorem at_X9_66o : ∀ w ∈ Cond.classLink RX9 62 "java/lang/IllegalStateException" :: Cond.initialized "java/lang/IllegalStateException" :: (vx_atS RX9 66 "java/lang/IllegalStateException" ["java/lang/RuntimeException", "java/lang/Exception"]), vx_ot w = true := by decide +kernel
theorem kx_X9_62_64_66 : KT RX9 62 66 64 "java/lang/IllegalStateException" ["java/lang/RuntimeException", "java/lang/Exception"] 2 "the tape is full" := ⟨by decide +kernel, by decide +kernel, kk_1017, kk_138, rfl, at_X9_66, at_X9_66o, rfl⟩
abbrev mX9_feed : MT := (yX9_feed, cX9_feed, 6, (some .int), [])
theorem kk_1097 : Cond.classLink RX9 76 "java/lang/IllegalArgumentException" ∈ gtbl := g_in (List.mem_of_getElem? (i := 1097) (by decide +kernel)) (by decide +kernel)
theorem kk_139 : Cond.initialized "java/lang/IllegalArgumentException" ∈ gtbl := g_in (List.mem_of_getElem? (i := 139) (by decide +kernel)) (by decide +kernel)
theorem at_X9_80 : ∀ w ∈ (vx_atS RX9 80 "java/lang/IllegalArgumentException" ["java/lang/RuntimeException", "java/lang/Exception"]), w ∈ gtbl ∨ w ∈ gnest := by decide +kernel
theorem at_X9_80o : ∀ w ∈ Cond.classLink RX9 76 "java/lang/IllegalArgumentException" :: Cond.initialized "java/lang/IllegalArgumentException" :: (vx_atS RX9 80 "java/lang/IllegalArgumentException" ["java/lang/RuntimeException", "java/lang/Exception"]), vx_ot w = true := by decide +kernel
theorem kx_X9_76_78_80 : KT RX9 76 80 78 "java/lang/IllegalArgumentException" ["java/lang/RuntimeException", "java/lang/Exception"] 3 "not 0 to the bytes of the tape" := ⟨by decide +kernel, by decide +kernel, kk_1097, kk_139, rfl, at_X9_80, at_X9_80o, rfl⟩
abbrev mX9_trim : MT := (yX9_trim, cX9_trim, 2, (some .int), [])
theorem kk_505 : Cond.fieldLink RX9 59 RX9 "errorPlace" "I" ∈ gtbl := g_in (List.mem_of_getElem? (i := 505) (by decide +kernel)) (by decide +kernel)
theorem fl_X9_59 : FL RX9 59 9 7 (.int) false := ⟨RX9, TX9, 8, tyX9, rfl, by decide, il_9, tyX9_ok, nmX9, rfl, rfl, Or.inl kk_505⟩
abbrev mX9_errorAt : MT := (yX9_errorAt, cX9_errorAt, 1, (some .int), [])
theorem kk_500 : Cond.fieldLink RX9 35 RX9 "told" "LStoryTapestry$Tapestry;" ∈ gtbl := g_in (List.mem_of_getElem? (i := 500) (by decide +kernel)) (by decide +kernel)
theorem fl_X9_35 : FL RX9 35 9 2 (.object "StoryTapestry$Tapestry") true := ⟨RX9, TX9, 8, tyX9, rfl, by decide, il_9, tyX9_ok, nmX9, rfl, rfl, Or.inl kk_500⟩
theorem il_6 : ∀ w ∈ u_ws RX6 TX6 4, w ∈ gtbl := fun w hw => g_in ((by decide +kernel : ∀ w ∈ u_ws RX6 TX6 4, w ∈ lw_tbl) w hw) (List.all_eq_true.mp (by decide +kernel : (u_ws RX6 TX6 4).all goodWord = true) w hw)
theorem kn_257 : Cond.fieldLinkNest RX9 98 RX6 "eventCount" "I" "StoryTapestry" ∈ gnest := n_in (List.mem_of_getElem? (i := 257) (by decide +kernel)) (by decide +kernel)
theorem fl_X9_98 : FL RX9 98 6 2 (.int) false := ⟨RX6, TX6, 4, tyX6, rfl, by decide, il_6, tyX6_ok, nmX6, rfl, rfl, Or.inr ⟨_, kn_257⟩⟩
abbrev mX9_events : MT := (yX9_events, cX9_events, 1, (some .int), [])
theorem kn_262 : Cond.fieldLinkNest RX9 101 RX6 "tellerCount" "I" "StoryTapestry" ∈ gnest := n_in (List.mem_of_getElem? (i := 262) (by decide +kernel)) (by decide +kernel)
theorem fl_X9_101 : FL RX9 101 6 3 (.int) false := ⟨RX6, TX6, 4, tyX6, rfl, by decide, il_6, tyX6_ok, nmX6, rfl, rfl, Or.inr ⟨_, kn_262⟩⟩
abbrev mX9_tellers : MT := (yX9_tellers, cX9_tellers, 1, (some .int), [])
theorem kn_249 : Cond.fieldLinkNest RX9 104 RX6 "claims" "LStoryTapestry$Claims;" "StoryTapestry" ∈ gnest := n_in (List.mem_of_getElem? (i := 249) (by decide +kernel)) (by decide +kernel)
theorem fl_X9_104 : FL RX9 104 6 0 (.object "StoryTapestry$Claims") true := ⟨RX6, TX6, 4, tyX6, rfl, by decide, il_6, tyX6_ok, nmX6, rfl, rfl, Or.inr ⟨_, kn_249⟩⟩
theorem il_0 : ∀ w ∈ u_ws RX0 TX0 6, w ∈ gtbl := fun w hw => g_in ((by decide +kernel : ∀ w ∈ u_ws RX0 TX0 6, w ∈ lw_tbl) w hw) (List.all_eq_true.mp (by decide +kernel : (u_ws RX0 TX0 6).all goodWord = true) w hw)
theorem kn_195 : Cond.fieldLinkNest RX9 108 RX0 "count" "I" "StoryTapestry" ∈ gnest := n_in (List.mem_of_getElem? (i := 195) (by decide +kernel)) (by decide +kernel)
theorem fl_X9_108 : FL RX9 108 0 5 (.int) false := ⟨RX0, TX0, 6, tyX0, rfl, by decide, il_0, tyX0_ok, nmX0, rfl, rfl, Or.inr ⟨_, kn_195⟩⟩
abbrev mX9_claims : MT := (yX9_claims, cX9_claims, 1, (some .int), [])
theorem kk_502 : Cond.fieldLink RX9 48 RX9 "course" "LStoryTapestry$Course;" ∈ gtbl := g_in (List.mem_of_getElem? (i := 502) (by decide +kernel)) (by decide +kernel)
theorem fl_X9_48 : FL RX9 48 9 4 (.object "StoryTapestry$Course") true := ⟨RX9, TX9, 8, tyX9, rfl, by decide, il_9, tyX9_ok, nmX9, rfl, rfl, Or.inl kk_502⟩
theorem il_1 : ∀ w ∈ u_ws RX1 TX1 7, w ∈ gtbl := fun w hw => g_in ((by decide +kernel : ∀ w ∈ u_ws RX1 TX1 7, w ∈ lw_tbl) w hw) (List.all_eq_true.mp (by decide +kernel : (u_ws RX1 TX1 7).all goodWord = true) w hw)
theorem kn_480 : Cond.fieldLinkNest RX9 113 RX1 "evening" "I" "StoryTapestry" ∈ gnest := n_in (List.mem_of_getElem? (i := 480) (by decide +kernel)) (by decide +kernel)
theorem fl_X9_113 : FL RX9 113 1 5 (.int) false := ⟨RX1, TX1, 7, tyX1, rfl, by decide, il_1, tyX1_ok, nmX1, rfl, rfl, Or.inr ⟨_, kn_480⟩⟩
abbrev mX9_evenings : MT := (yX9_evenings, cX9_evenings, 1, (some .int), [])
theorem kn_482 : Cond.fieldLinkNest RX9 116 RX1 "carriedOut" "I" "StoryTapestry" ∈ gnest := n_in (List.mem_of_getElem? (i := 482) (by decide +kernel)) (by decide +kernel)
theorem fl_X9_116 : FL RX9 116 1 6 (.int) false := ⟨RX1, TX1, 7, tyX1, rfl, by decide, il_1, tyX1_ok, nmX1, rfl, rfl, Or.inr ⟨_, kn_482⟩⟩
abbrev mX9_ordersCarriedOut : MT := (yX9_ordersCarriedOut, cX9_ordersCarriedOut, 1, (some .int), [])
theorem kk_1125 : Cond.classLink RX9 149 "java/lang/IndexOutOfBoundsException" ∈ gtbl := g_in (List.mem_of_getElem? (i := 1125) (by decide +kernel)) (by decide +kernel)
theorem kk_142 : Cond.initialized "java/lang/IndexOutOfBoundsException" ∈ gtbl := g_in (List.mem_of_getElem? (i := 142) (by decide +kernel)) (by decide +kernel)
theorem at_X9_153 : ∀ w ∈ (vx_atS RX9 153 "java/lang/IndexOutOfBoundsException" ["java/lang/RuntimeException", "java/lang/Exception"]), w ∈ gtbl ∨ w ∈ gnest := by decide +kernel
theorem at_X9_153o : ∀ w ∈ Cond.classLink RX9 149 "java/lang/IndexOutOfBoundsException" :: Cond.initialized "java/lang/IndexOutOfBoundsException" :: (vx_atS RX9 153 "java/lang/IndexOutOfBoundsException" ["java/lang/RuntimeException", "java/lang/Exception"]), vx_ot w = true := by decide +kernel
theorem kx_X9_149_151_153 : KT RX9 149 153 151 "java/lang/IndexOutOfBoundsException" ["java/lang/RuntimeException", "java/lang/Exception"] 4 "no such claim" := ⟨by decide +kernel, by decide +kernel, kk_1125, kk_142, rfl, at_X9_153, at_X9_153o, rfl⟩
abbrev mX9_needClaim : MT := (yX9_needClaim, cX9_needClaim, 2, none, [])
theorem kk_1121 : Cond.methodLink RX9 119 yX9_needClaim ∈ gtbl := g_in (List.mem_of_getElem? (i := 1121) (by decide +kernel)) (by decide +kernel)
theorem kk_1124 : Cond.code yX9_needClaim cX9_needClaim 2 none ∈ gtbl := g_in (List.mem_of_getElem? (i := 1124) (by decide +kernel)) (by decide +kernel)
theorem kk_1123 : Cond.instanceMethod yX9_needClaim ∈ gtbl := g_in (List.mem_of_getElem? (i := 1123) (by decide +kernel)) (by decide +kernel)
theorem kk_46 : Cond.selects RX9 yX9_needClaim yX9_needClaim ∈ gtbl := g_in (List.mem_of_getElem? (i := 46) (by decide +kernel)) (by decide +kernel)
theorem kv_X9_119 : KV RX9 119 mX9_needClaim 1 := ⟨⟨kk_1121, kk_119, kk_1124, by decide +kernel⟩, rfl, kk_1123, kk_46⟩
theorem kn_179 : Cond.fieldLinkNest RX9 122 RX0 "tellers" "LStoryTapestry$Row;" "StoryTapestry" ∈ gnest := n_in (List.mem_of_getElem? (i := 179) (by decide +kernel)) (by decide +kernel)
theorem fl_X9_122 : FL RX9 122 0 0 (.object "StoryTapestry$Row") true := ⟨RX0, TX0, 6, tyX0, rfl, by decide, il_0, tyX0_ok, nmX0, rfl, rfl, Or.inr ⟨_, kn_179⟩⟩
theorem kk_994 : Cond.methodLink RX9 125 yX5_get ∈ gtbl := g_in (List.mem_of_getElem? (i := 994) (by decide +kernel)) (by decide +kernel)
theorem kv_X9_125 : KV RX9 125 mX5_get 1 := ⟨⟨kk_994, kk_120, kk_546, by decide +kernel⟩, rfl, kk_544, kk_545⟩
abbrev mX9_tellerOf : MT := (yX9_tellerOf, cX9_tellerOf, 2, (some .int), [])
theorem kn_181 : Cond.fieldLinkNest RX9 128 RX0 "kinds" "LStoryTapestry$Row;" "StoryTapestry" ∈ gnest := n_in (List.mem_of_getElem? (i := 181) (by decide +kernel)) (by decide +kernel)
theorem fl_X9_128 : FL RX9 128 0 1 (.object "StoryTapestry$Row") true := ⟨RX0, TX0, 6, tyX0, rfl, by decide, il_0, tyX0_ok, nmX0, rfl, rfl, Or.inr ⟨_, kn_181⟩⟩
abbrev mX9_kindOf : MT := (yX9_kindOf, cX9_kindOf, 2, (some .int), [])
theorem kn_184 : Cond.fieldLinkNest RX9 131 RX0 "events" "LStoryTapestry$Row;" "StoryTapestry" ∈ gnest := n_in (List.mem_of_getElem? (i := 184) (by decide +kernel)) (by decide +kernel)
theorem fl_X9_131 : FL RX9 131 0 2 (.object "StoryTapestry$Row") true := ⟨RX0, TX0, 6, tyX0, rfl, by decide, il_0, tyX0_ok, nmX0, rfl, rfl, Or.inr ⟨_, kn_184⟩⟩
abbrev mX9_eventOf : MT := (yX9_eventOf, cX9_eventOf, 2, (some .int), [])
theorem kn_188 : Cond.fieldLinkNest RX9 136 RX0 "firsts" "LStoryTapestry$Row;" "StoryTapestry" ∈ gnest := n_in (List.mem_of_getElem? (i := 188) (by decide +kernel)) (by decide +kernel)
theorem fl_X9_136 : FL RX9 136 0 3 (.object "StoryTapestry$Row") true := ⟨RX0, TX0, 6, tyX0, rfl, by decide, il_0, tyX0_ok, nmX0, rfl, rfl, Or.inr ⟨_, kn_188⟩⟩
theorem kx_X9_62_134_66 : KT RX9 62 66 134 "java/lang/IllegalStateException" ["java/lang/RuntimeException", "java/lang/Exception"] 5 "a claim of hours has one event" := ⟨by decide +kernel, by decide +kernel, kk_1017, kk_138, rfl, at_X9_66, at_X9_66o, rfl⟩
abbrev mX9_secondEventOf : MT := (yX9_secondEventOf, cX9_secondEventOf, 2, (some .int), [])
theorem kx_X9_62_154_66 : KT RX9 62 66 154 "java/lang/IllegalStateException" ["java/lang/RuntimeException", "java/lang/Exception"] 6 "a claim of two events has no hours" := ⟨by decide +kernel, by decide +kernel, kk_1017, kk_138, rfl, at_X9_66, at_X9_66o, rfl⟩
abbrev mX9_needHours : MT := (yX9_needHours, cX9_needHours, 2, none, [])
theorem kk_1170 : Cond.methodLink RX9 139 yX9_needHours ∈ gtbl := g_in (List.mem_of_getElem? (i := 1170) (by decide +kernel)) (by decide +kernel)
theorem kk_1173 : Cond.code yX9_needHours cX9_needHours 2 none ∈ gtbl := g_in (List.mem_of_getElem? (i := 1173) (by decide +kernel)) (by decide +kernel)
theorem kk_1172 : Cond.instanceMethod yX9_needHours ∈ gtbl := g_in (List.mem_of_getElem? (i := 1172) (by decide +kernel)) (by decide +kernel)
theorem kk_47 : Cond.selects RX9 yX9_needHours yX9_needHours ∈ gtbl := g_in (List.mem_of_getElem? (i := 47) (by decide +kernel)) (by decide +kernel)
theorem kv_X9_139 : KV RX9 139 mX9_needHours 1 := ⟨⟨kk_1170, kk_119, kk_1173, by decide +kernel⟩, rfl, kk_1172, kk_47⟩
abbrev mX9_firstHourOf : MT := (yX9_firstHourOf, cX9_firstHourOf, 2, (some .int), [])
theorem kn_191 : Cond.fieldLinkNest RX9 142 RX0 "lasts" "LStoryTapestry$Row;" "StoryTapestry" ∈ gnest := n_in (List.mem_of_getElem? (i := 191) (by decide +kernel)) (by decide +kernel)
theorem fl_X9_142 : FL RX9 142 0 4 (.object "StoryTapestry$Row") true := ⟨RX0, TX0, 6, tyX0, rfl, by decide, il_0, tyX0_ok, nmX0, rfl, rfl, Or.inr ⟨_, kn_191⟩⟩
abbrev mX9_lastHourOf : MT := (yX9_lastHourOf, cX9_lastHourOf, 2, (some .int), [])
theorem kk_180 : Cond.fieldLink RX0 20 RX0 "kinds" "LStoryTapestry$Row;" ∈ gtbl := g_in (List.mem_of_getElem? (i := 180) (by decide +kernel)) (by decide +kernel)
theorem fl_X0_20 : FL RX0 20 0 1 (.object "StoryTapestry$Row") true := ⟨RX0, TX0, 6, tyX0, rfl, by decide, il_0, tyX0_ok, nmX0, rfl, rfl, Or.inl kk_180⟩
theorem kk_783 : Cond.methodLink RX0 48 yX5_get ∈ gtbl := g_in (List.mem_of_getElem? (i := 783) (by decide +kernel)) (by decide +kernel)
theorem kv_X0_48 : KV RX0 48 mX5_get 1 := ⟨⟨kk_783, kk_120, kk_546, by decide +kernel⟩, rfl, kk_544, kk_545⟩
theorem kk_183 : Cond.fieldLink RX0 23 RX0 "events" "LStoryTapestry$Row;" ∈ gtbl := g_in (List.mem_of_getElem? (i := 183) (by decide +kernel)) (by decide +kernel)
theorem fl_X0_23 : FL RX0 23 0 2 (.object "StoryTapestry$Row") true := ⟨RX0, TX0, 6, tyX0, rfl, by decide, il_0, tyX0_ok, nmX0, rfl, rfl, Or.inl kk_183⟩
theorem kk_186 : Cond.fieldLink RX0 26 RX0 "firsts" "LStoryTapestry$Row;" ∈ gtbl := g_in (List.mem_of_getElem? (i := 186) (by decide +kernel)) (by decide +kernel)
theorem fl_X0_26 : FL RX0 26 0 3 (.object "StoryTapestry$Row") true := ⟨RX0, TX0, 6, tyX0, rfl, by decide, il_0, tyX0_ok, nmX0, rfl, rfl, Or.inl kk_186⟩
theorem kk_189 : Cond.fieldLink RX0 29 RX0 "lasts" "LStoryTapestry$Row;" ∈ gtbl := g_in (List.mem_of_getElem? (i := 189) (by decide +kernel)) (by decide +kernel)
theorem fl_X0_29 : FL RX0 29 0 4 (.object "StoryTapestry$Row") true := ⟨RX0, TX0, 6, tyX0, rfl, by decide, il_0, tyX0_ok, nmX0, rfl, rfl, Or.inl kk_189⟩
abbrev mX0_contradict : MT := (yX0_contradict, cX0_contradict, 7, (some .boolean), [])
theorem kk_1189 : Cond.methodLink RX9 145 yX0_contradict ∈ gtbl := g_in (List.mem_of_getElem? (i := 1189) (by decide +kernel)) (by decide +kernel)
theorem kk_122 : Cond.initialized RX0 ∈ gtbl := g_in (List.mem_of_getElem? (i := 122) (by decide +kernel)) (by decide +kernel)
theorem kk_782 : Cond.code yX0_contradict cX0_contradict 7 (some .boolean) ∈ gtbl := g_in (List.mem_of_getElem? (i := 782) (by decide +kernel)) (by decide +kernel)
theorem kk_780 : Cond.instanceMethod yX0_contradict ∈ gtbl := g_in (List.mem_of_getElem? (i := 780) (by decide +kernel)) (by decide +kernel)
theorem kk_781 : Cond.selects RX0 yX0_contradict yX0_contradict ∈ gtbl := g_in (List.mem_of_getElem? (i := 781) (by decide +kernel)) (by decide +kernel)
theorem kv_X9_145 : KV RX9 145 mX0_contradict 2 := ⟨⟨kk_1189, kk_122, kk_782, by decide +kernel⟩, rfl, kk_780, kk_781⟩
abbrev mX9_areContrary : MT := (yX9_areContrary, cX9_areContrary, 3, (some .boolean), [])
theorem kx_X9_149_190_153 : KT RX9 149 153 190 "java/lang/IndexOutOfBoundsException" ["java/lang/RuntimeException", "java/lang/Exception"] 7 "no such teller" := ⟨by decide +kernel, by decide +kernel, kk_1125, kk_142, rfl, at_X9_153, at_X9_153o, rfl⟩
abbrev mX9_needTeller : MT := (yX9_needTeller, cX9_needTeller, 2, none, [])
theorem kk_192 : Cond.fieldLink RX0 32 RX0 "count" "I" ∈ gtbl := g_in (List.mem_of_getElem? (i := 192) (by decide +kernel)) (by decide +kernel)
theorem fl_X0_32 : FL RX0 32 0 5 (.int) false := ⟨RX0, TX0, 6, tyX0, rfl, by decide, il_0, tyX0_ok, nmX0, rfl, rfl, Or.inl kk_192⟩
theorem kk_177 : Cond.fieldLink RX0 14 RX0 "tellers" "LStoryTapestry$Row;" ∈ gtbl := g_in (List.mem_of_getElem? (i := 177) (by decide +kernel)) (by decide +kernel)
theorem fl_X0_14 : FL RX0 14 0 0 (.object "StoryTapestry$Row") true := ⟨RX0, TX0, 6, tyX0, rfl, by decide, il_0, tyX0_ok, nmX0, rfl, rfl, Or.inl kk_177⟩
abbrev mX0_countOf : MT := (yX0_countOf, cX0_countOf, 4, (some .int), [])
theorem kk_1197 : Cond.methodLink RX9 156 yX9_needTeller ∈ gtbl := g_in (List.mem_of_getElem? (i := 1197) (by decide +kernel)) (by decide +kernel)
theorem kk_1200 : Cond.code yX9_needTeller cX9_needTeller 2 none ∈ gtbl := g_in (List.mem_of_getElem? (i := 1200) (by decide +kernel)) (by decide +kernel)
theorem kk_1199 : Cond.instanceMethod yX9_needTeller ∈ gtbl := g_in (List.mem_of_getElem? (i := 1199) (by decide +kernel)) (by decide +kernel)
theorem kk_48 : Cond.selects RX9 yX9_needTeller yX9_needTeller ∈ gtbl := g_in (List.mem_of_getElem? (i := 48) (by decide +kernel)) (by decide +kernel)
theorem kv_X9_156 : KV RX9 156 mX9_needTeller 1 := ⟨⟨kk_1197, kk_119, kk_1200, by decide +kernel⟩, rfl, kk_1199, kk_48⟩
theorem kk_999 : Cond.methodLink RX9 159 yX0_countOf ∈ gtbl := g_in (List.mem_of_getElem? (i := 999) (by decide +kernel)) (by decide +kernel)
theorem kk_919 : Cond.code yX0_countOf cX0_countOf 4 (some .int) ∈ gtbl := g_in (List.mem_of_getElem? (i := 919) (by decide +kernel)) (by decide +kernel)
theorem kk_917 : Cond.instanceMethod yX0_countOf ∈ gtbl := g_in (List.mem_of_getElem? (i := 917) (by decide +kernel)) (by decide +kernel)
theorem kk_918 : Cond.selects RX0 yX0_countOf yX0_countOf ∈ gtbl := g_in (List.mem_of_getElem? (i := 918) (by decide +kernel)) (by decide +kernel)
theorem kv_X9_159 : KV RX9 159 mX0_countOf 1 := ⟨⟨kk_999, kk_122, kk_919, by decide +kernel⟩, rfl, kk_917, kk_918⟩
abbrev mX9_claimsOf : MT := (yX9_claimsOf, cX9_claimsOf, 2, (some .int), [])
abbrev mX9_has : MT := (yX9_has, cX9_has, 2, (some .boolean), [])
theorem kn_478 : Cond.fieldLinkNest RX9 162 RX1 "doubted" "I" "StoryTapestry" ∈ gnest := n_in (List.mem_of_getElem? (i := 478) (by decide +kernel)) (by decide +kernel)
theorem fl_X9_162 : FL RX9 162 1 4 (.int) false := ⟨RX1, TX1, 7, tyX1, rfl, by decide, il_1, tyX1_ok, nmX1, rfl, rfl, Or.inr ⟨_, kn_478⟩⟩
theorem kk_1000 : Cond.methodLink RX9 165 yX9_has ∈ gtbl := g_in (List.mem_of_getElem? (i := 1000) (by decide +kernel)) (by decide +kernel)
theorem kk_831 : Cond.code yX9_has cX9_has 2 (some .boolean) ∈ gtbl := g_in (List.mem_of_getElem? (i := 831) (by decide +kernel)) (by decide +kernel)
theorem kk_830 : Cond.static yX9_has ∈ gtbl := g_in (List.mem_of_getElem? (i := 830) (by decide +kernel)) (by decide +kernel)
theorem ks_X9_165 : KS RX9 165 mX9_has 2 := ⟨⟨kk_1000, kk_119, kk_831, by decide +kernel⟩, rfl, kk_830⟩
abbrev mX9_isDoubted : MT := (yX9_isDoubted, cX9_isDoubted, 2, (some .boolean), [])
theorem kn_829 : Cond.methodLinkNest RX8 66 yX9_has "StoryTapestry" ∈ gnest := n_in (List.mem_of_getElem? (i := 829) (by decide +kernel)) (by decide +kernel)
theorem kq_X8_66 : KSN RX8 66 mX9_has 2 := ⟨⟨_, kn_829⟩, kk_119, kk_831, rfl, by decide +kernel, kk_830⟩
theorem il_8 : ∀ w ∈ u_ws RX8 TX8 7, w ∈ gtbl := fun w hw => g_in ((by decide +kernel : ∀ w ∈ u_ws RX8 TX8 7, w ∈ lw_tbl) w hw) (List.all_eq_true.mp (by decide +kernel : (u_ws RX8 TX8 7).all goodWord = true) w hw)
theorem kk_281 : Cond.fieldLink RX8 20 RX8 "against" "LStoryTapestry$Row;" ∈ gtbl := g_in (List.mem_of_getElem? (i := 281) (by decide +kernel)) (by decide +kernel)
theorem fl_X8_20 : FL RX8 20 8 1 (.object "StoryTapestry$Row") true := ⟨RX8, TX8, 7, tyX8, rfl, by decide, il_8, tyX8_ok, nmX8, rfl, rfl, Or.inl kk_281⟩
theorem kk_784 : Cond.methodLink RX8 56 yX5_get ∈ gtbl := g_in (List.mem_of_getElem? (i := 784) (by decide +kernel)) (by decide +kernel)
theorem kv_X8_56 : KV RX8 56 mX5_get 1 := ⟨⟨kk_784, kk_120, kk_546, by decide +kernel⟩, rfl, kk_544, kk_545⟩
abbrev mX8_tellersContradict : MT := (yX8_tellersContradict, cX8_tellersContradict, 4, (some .boolean), [])
theorem kk_501 : Cond.fieldLink RX9 39 RX9 "verdict" "LStoryTapestry$Verdict;" ∈ gtbl := g_in (List.mem_of_getElem? (i := 501) (by decide +kernel)) (by decide +kernel)
theorem fl_X9_39 : FL RX9 39 9 3 (.object "StoryTapestry$Verdict") true := ⟨RX9, TX9, 8, tyX9, rfl, by decide, il_9, tyX9_ok, nmX9, rfl, rfl, Or.inl kk_501⟩
theorem kk_1001 : Cond.methodLink RX9 168 yX8_tellersContradict ∈ gtbl := g_in (List.mem_of_getElem? (i := 1001) (by decide +kernel)) (by decide +kernel)
theorem kk_124 : Cond.initialized RX8 ∈ gtbl := g_in (List.mem_of_getElem? (i := 124) (by decide +kernel)) (by decide +kernel)
theorem kk_941 : Cond.code yX8_tellersContradict cX8_tellersContradict 4 (some .boolean) ∈ gtbl := g_in (List.mem_of_getElem? (i := 941) (by decide +kernel)) (by decide +kernel)
theorem kk_939 : Cond.instanceMethod yX8_tellersContradict ∈ gtbl := g_in (List.mem_of_getElem? (i := 939) (by decide +kernel)) (by decide +kernel)
theorem kk_940 : Cond.selects RX8 yX8_tellersContradict yX8_tellersContradict ∈ gtbl := g_in (List.mem_of_getElem? (i := 940) (by decide +kernel)) (by decide +kernel)
theorem kv_X9_168 : KV RX9 168 mX8_tellersContradict 3 := ⟨⟨kk_1001, kk_124, kk_941, by decide +kernel⟩, rfl, kk_939, kk_940⟩
abbrev mX9_doContradict : MT := (yX9_doContradict, cX9_doContradict, 3, (some .boolean), [])
abbrev mX0_isPairOf : MT := (yX0_isPairOf, cX0_isPairOf, 4, (some .boolean), [])
theorem kk_1227 : Cond.methodLink RX0 52 yX0_isPairOf ∈ gtbl := g_in (List.mem_of_getElem? (i := 1227) (by decide +kernel)) (by decide +kernel)
theorem kk_1229 : Cond.code yX0_isPairOf cX0_isPairOf 4 (some .boolean) ∈ gtbl := g_in (List.mem_of_getElem? (i := 1229) (by decide +kernel)) (by decide +kernel)
theorem kk_1228 : Cond.static yX0_isPairOf ∈ gtbl := g_in (List.mem_of_getElem? (i := 1228) (by decide +kernel)) (by decide +kernel)
theorem ks_X0_52 : KS RX0 52 mX0_isPairOf 4 := ⟨⟨kk_1227, kk_122, kk_1229, by decide +kernel⟩, rfl, kk_1228⟩
theorem kk_1230 : Cond.methodLink RX0 56 yX0_contradict ∈ gtbl := g_in (List.mem_of_getElem? (i := 1230) (by decide +kernel)) (by decide +kernel)
theorem kv_X0_56 : KV RX0 56 mX0_contradict 2 := ⟨⟨kk_1230, kk_122, kk_782, by decide +kernel⟩, rfl, kk_780, kk_781⟩
abbrev mX0_pairsOf : MT := (yX0_pairsOf, cX0_pairsOf, 6, (some .int), [])
theorem kk_1223 : Cond.methodLink RX9 172 yX0_pairsOf ∈ gtbl := g_in (List.mem_of_getElem? (i := 1223) (by decide +kernel)) (by decide +kernel)
theorem kk_1226 : Cond.code yX0_pairsOf cX0_pairsOf 6 (some .int) ∈ gtbl := g_in (List.mem_of_getElem? (i := 1226) (by decide +kernel)) (by decide +kernel)
theorem kk_1224 : Cond.instanceMethod yX0_pairsOf ∈ gtbl := g_in (List.mem_of_getElem? (i := 1224) (by decide +kernel)) (by decide +kernel)
theorem kk_1225 : Cond.selects RX0 yX0_pairsOf yX0_pairsOf ∈ gtbl := g_in (List.mem_of_getElem? (i := 1225) (by decide +kernel)) (by decide +kernel)
theorem kv_X9_172 : KV RX9 172 mX0_pairsOf 2 := ⟨⟨kk_1223, kk_122, kk_1226, by decide +kernel⟩, rfl, kk_1224, kk_1225⟩
abbrev mX9_contraryPairs : MT := (yX9_contraryPairs, cX9_contraryPairs, 3, (some .int), [])
theorem kk_280 : Cond.fieldLink RX8 9 RX8 "told" "LStoryTapestry$Tapestry;" ∈ gtbl := g_in (List.mem_of_getElem? (i := 280) (by decide +kernel)) (by decide +kernel)
theorem fl_X8_9 : FL RX8 9 8 0 (.object "StoryTapestry$Tapestry") true := ⟨RX8, TX8, 7, tyX8, rfl, by decide, il_8, tyX8_ok, nmX8, rfl, rfl, Or.inl kk_280⟩
theorem kn_261 : Cond.fieldLinkNest RX8 63 RX6 "tellerCount" "I" "StoryTapestry" ∈ gnest := n_in (List.mem_of_getElem? (i := 261) (by decide +kernel)) (by decide +kernel)
theorem fl_X8_63 : FL RX8 63 6 3 (.int) false := ⟨RX6, TX6, 4, tyX6, rfl, by decide, il_6, tyX6_ok, nmX6, rfl, rfl, Or.inr ⟨_, kn_261⟩⟩
abbrev mX8_believedSet : MT := (yX8_believedSet, cX8_believedSet, 2, (some .int), [])
theorem kk_835 : Cond.constant RJ6 265 (1431655765) ∈ gtbl := g_in (List.mem_of_getElem? (i := 835) (by decide +kernel)) (by decide +kernel)
theorem kk_836 : Cond.constant RJ6 266 (858993459) ∈ gtbl := g_in (List.mem_of_getElem? (i := 836) (by decide +kernel)) (by decide +kernel)
theorem kk_837 : Cond.constant RJ6 267 (252645135) ∈ gtbl := g_in (List.mem_of_getElem? (i := 837) (by decide +kernel)) (by decide +kernel)
abbrev mJ6_bitCount_0f7a4 : MT := (yJ6_bitCount_0f7a4, cJ6_bitCount_0f7a4, 1, (some .int), [])
theorem kk_825 : Cond.methodLink RX8 69 yX8_believedSet ∈ gtbl := g_in (List.mem_of_getElem? (i := 825) (by decide +kernel)) (by decide +kernel)
theorem kk_828 : Cond.code yX8_believedSet cX8_believedSet 2 (some .int) ∈ gtbl := g_in (List.mem_of_getElem? (i := 828) (by decide +kernel)) (by decide +kernel)
theorem kk_827 : Cond.instanceMethod yX8_believedSet ∈ gtbl := g_in (List.mem_of_getElem? (i := 827) (by decide +kernel)) (by decide +kernel)
theorem kk_28 : Cond.selects RX8 yX8_believedSet yX8_believedSet ∈ gtbl := g_in (List.mem_of_getElem? (i := 28) (by decide +kernel)) (by decide +kernel)
theorem kv_X8_69 : KV RX8 69 mX8_believedSet 1 := ⟨⟨kk_825, kk_124, kk_828, by decide +kernel⟩, rfl, kk_827, kk_28⟩
theorem kk_832 : Cond.methodLink RX8 72 yJ6_bitCount_0f7a4 ∈ gtbl := g_in (List.mem_of_getElem? (i := 832) (by decide +kernel)) (by decide +kernel)
theorem kk_143 : Cond.initialized RJ6 ∈ gtbl := g_in (List.mem_of_getElem? (i := 143) (by decide +kernel)) (by decide +kernel)
theorem kk_834 : Cond.code yJ6_bitCount_0f7a4 cJ6_bitCount_0f7a4 1 (some .int) ∈ gtbl := g_in (List.mem_of_getElem? (i := 834) (by decide +kernel)) (by decide +kernel)
theorem kk_833 : Cond.static yJ6_bitCount_0f7a4 ∈ gtbl := g_in (List.mem_of_getElem? (i := 833) (by decide +kernel)) (by decide +kernel)
theorem ks_X8_72 : KS RX8 72 mJ6_bitCount_0f7a4 1 := ⟨⟨kk_832, kk_143, kk_834, by decide +kernel⟩, rfl, kk_833⟩
abbrev mX8_pairCount : MT := (yX8_pairCount, cX8_pairCount, 5, (some .int), [])
theorem kk_821 : Cond.methodLink RX9 176 yX8_pairCount ∈ gtbl := g_in (List.mem_of_getElem? (i := 821) (by decide +kernel)) (by decide +kernel)
theorem kk_824 : Cond.code yX8_pairCount cX8_pairCount 5 (some .int) ∈ gtbl := g_in (List.mem_of_getElem? (i := 824) (by decide +kernel)) (by decide +kernel)
theorem kk_822 : Cond.instanceMethod yX8_pairCount ∈ gtbl := g_in (List.mem_of_getElem? (i := 822) (by decide +kernel)) (by decide +kernel)
theorem kk_823 : Cond.selects RX8 yX8_pairCount yX8_pairCount ∈ gtbl := g_in (List.mem_of_getElem? (i := 823) (by decide +kernel)) (by decide +kernel)
theorem kv_X9_176 : KV RX9 176 mX8_pairCount 1 := ⟨⟨kk_821, kk_124, kk_824, by decide +kernel⟩, rfl, kk_822, kk_823⟩
abbrev mX9_contradictions : MT := (yX9_contradictions, cX9_contradictions, 1, (some .int), [])
abbrev mX8_involvedIn : MT := (yX8_involvedIn, cX8_involvedIn, 4, (some .int), [])
abbrev mX8_isEnough : MT := (yX8_isEnough, cX8_isEnough, 5, (some .boolean), [])
abbrev mX8_isPreferred : MT := (yX8_isPreferred, cX8_isPreferred, 3, (some .boolean), [])
theorem kk_285 : Cond.fieldLink RX8 30 RX8 "judged" "I" ∈ gtbl := g_in (List.mem_of_getElem? (i := 285) (by decide +kernel)) (by decide +kernel)
theorem fl_X8_30 : FL RX8 30 8 4 (.int) false := ⟨RX8, TX8, 7, tyX8, rfl, by decide, il_8, tyX8_ok, nmX8, rfl, rfl, Or.inl kk_285⟩
theorem kk_850 : Cond.methodLink RX8 86 yX8_involvedIn ∈ gtbl := g_in (List.mem_of_getElem? (i := 850) (by decide +kernel)) (by decide +kernel)
theorem kk_853 : Cond.code yX8_involvedIn cX8_involvedIn 4 (some .int) ∈ gtbl := g_in (List.mem_of_getElem? (i := 853) (by decide +kernel)) (by decide +kernel)
theorem kk_852 : Cond.instanceMethod yX8_involvedIn ∈ gtbl := g_in (List.mem_of_getElem? (i := 852) (by decide +kernel)) (by decide +kernel)
theorem kk_30 : Cond.selects RX8 yX8_involvedIn yX8_involvedIn ∈ gtbl := g_in (List.mem_of_getElem? (i := 30) (by decide +kernel)) (by decide +kernel)
theorem kv_X8_86 : KV RX8 86 mX8_involvedIn 1 := ⟨⟨kk_850, kk_124, kk_853, by decide +kernel⟩, rfl, kk_852, kk_30⟩
theorem kk_854 : Cond.methodLink RX8 89 yX8_isEnough ∈ gtbl := g_in (List.mem_of_getElem? (i := 854) (by decide +kernel)) (by decide +kernel)
theorem kk_857 : Cond.code yX8_isEnough cX8_isEnough 5 (some .boolean) ∈ gtbl := g_in (List.mem_of_getElem? (i := 857) (by decide +kernel)) (by decide +kernel)
theorem kk_856 : Cond.instanceMethod yX8_isEnough ∈ gtbl := g_in (List.mem_of_getElem? (i := 856) (by decide +kernel)) (by decide +kernel)
theorem kk_31 : Cond.selects RX8 yX8_isEnough yX8_isEnough ∈ gtbl := g_in (List.mem_of_getElem? (i := 31) (by decide +kernel)) (by decide +kernel)
theorem kv_X8_89 : KV RX8 89 mX8_isEnough 2 := ⟨⟨kk_854, kk_124, kk_857, by decide +kernel⟩, rfl, kk_856, kk_31⟩
theorem kk_287 : Cond.fieldLink RX8 83 RX8 "setCount" "I" ∈ gtbl := g_in (List.mem_of_getElem? (i := 287) (by decide +kernel)) (by decide +kernel)
theorem fl_X8_83 : FL RX8 83 8 6 (.int) false := ⟨RX8, TX8, 7, tyX8, rfl, by decide, il_8, tyX8_ok, nmX8, rfl, rfl, Or.inl kk_287⟩
theorem kk_286 : Cond.fieldLink RX8 80 RX8 "liarSet" "I" ∈ gtbl := g_in (List.mem_of_getElem? (i := 286) (by decide +kernel)) (by decide +kernel)
theorem fl_X8_80 : FL RX8 80 8 5 (.int) false := ⟨RX8, TX8, 7, tyX8, rfl, by decide, il_8, tyX8_ok, nmX8, rfl, rfl, Or.inl kk_286⟩
theorem kk_858 : Cond.methodLink RX8 92 yX8_isPreferred ∈ gtbl := g_in (List.mem_of_getElem? (i := 858) (by decide +kernel)) (by decide +kernel)
theorem kk_860 : Cond.code yX8_isPreferred cX8_isPreferred 3 (some .boolean) ∈ gtbl := g_in (List.mem_of_getElem? (i := 860) (by decide +kernel)) (by decide +kernel)
theorem kk_859 : Cond.static yX8_isPreferred ∈ gtbl := g_in (List.mem_of_getElem? (i := 859) (by decide +kernel)) (by decide +kernel)
theorem ks_X8_92 : KS RX8 92 mX8_isPreferred 2 := ⟨⟨kk_858, kk_124, kk_860, by decide +kernel⟩, rfl, kk_859⟩
abbrev mX8_judge : MT := (yX8_judge, cX8_judge, 9, none, [])
theorem kk_846 : Cond.methodLink RX8 77 yX8_judge ∈ gtbl := g_in (List.mem_of_getElem? (i := 846) (by decide +kernel)) (by decide +kernel)
theorem kk_849 : Cond.code yX8_judge cX8_judge 9 none ∈ gtbl := g_in (List.mem_of_getElem? (i := 849) (by decide +kernel)) (by decide +kernel)
theorem kk_848 : Cond.instanceMethod yX8_judge ∈ gtbl := g_in (List.mem_of_getElem? (i := 848) (by decide +kernel)) (by decide +kernel)
theorem kk_29 : Cond.selects RX8 yX8_judge yX8_judge ∈ gtbl := g_in (List.mem_of_getElem? (i := 29) (by decide +kernel)) (by decide +kernel)
theorem kv_X8_77 : KV RX8 77 mX8_judge 1 := ⟨⟨kk_846, kk_124, kk_849, by decide +kernel⟩, rfl, kk_848, kk_29⟩
abbrev mX8_liarSet : MT := (yX8_liarSet, cX8_liarSet, 2, (some .int), [])
theorem kk_842 : Cond.methodLink RX9 179 yX8_liarSet ∈ gtbl := g_in (List.mem_of_getElem? (i := 842) (by decide +kernel)) (by decide +kernel)
theorem kk_845 : Cond.code yX8_liarSet cX8_liarSet 2 (some .int) ∈ gtbl := g_in (List.mem_of_getElem? (i := 845) (by decide +kernel)) (by decide +kernel)
theorem kk_843 : Cond.instanceMethod yX8_liarSet ∈ gtbl := g_in (List.mem_of_getElem? (i := 843) (by decide +kernel)) (by decide +kernel)
theorem kk_844 : Cond.selects RX8 yX8_liarSet yX8_liarSet ∈ gtbl := g_in (List.mem_of_getElem? (i := 844) (by decide +kernel)) (by decide +kernel)
theorem kv_X9_179 : KV RX9 179 mX8_liarSet 1 := ⟨⟨kk_842, kk_124, kk_845, by decide +kernel⟩, rfl, kk_843, kk_844⟩
theorem kk_861 : Cond.methodLink RX9 182 yJ6_bitCount_0f7a4 ∈ gtbl := g_in (List.mem_of_getElem? (i := 861) (by decide +kernel)) (by decide +kernel)
theorem ks_X9_182 : KS RX9 182 mJ6_bitCount_0f7a4 1 := ⟨⟨kk_861, kk_143, kk_834, by decide +kernel⟩, rfl, kk_833⟩
abbrev mX9_liars : MT := (yX9_liars, cX9_liars, 1, (some .int), [])
abbrev mX8_setCount : MT := (yX8_setCount, cX8_setCount, 2, (some .int), [])
theorem kk_866 : Cond.methodLink RX9 187 yX8_setCount ∈ gtbl := g_in (List.mem_of_getElem? (i := 866) (by decide +kernel)) (by decide +kernel)
theorem kk_869 : Cond.code yX8_setCount cX8_setCount 2 (some .int) ∈ gtbl := g_in (List.mem_of_getElem? (i := 869) (by decide +kernel)) (by decide +kernel)
theorem kk_867 : Cond.instanceMethod yX8_setCount ∈ gtbl := g_in (List.mem_of_getElem? (i := 867) (by decide +kernel)) (by decide +kernel)
theorem kk_868 : Cond.selects RX8 yX8_setCount yX8_setCount ∈ gtbl := g_in (List.mem_of_getElem? (i := 868) (by decide +kernel)) (by decide +kernel)
theorem kv_X9_187 : KV RX9 187 mX8_setCount 1 := ⟨⟨kk_866, kk_124, kk_869, by decide +kernel⟩, rfl, kk_867, kk_868⟩
abbrev mX9_smallestSets : MT := (yX9_smallestSets, cX9_smallestSets, 1, (some .int), [])
abbrev mX9_isLiar : MT := (yX9_isLiar, cX9_isLiar, 2, (some .boolean), [])
theorem kx_X9_149_218_153 : KT RX9 149 153 218 "java/lang/IndexOutOfBoundsException" ["java/lang/RuntimeException", "java/lang/Exception"] 8 "no such event" := ⟨by decide +kernel, by decide +kernel, kk_1125, kk_142, rfl, at_X9_153, at_X9_153o, rfl⟩
abbrev mX9_needEvent : MT := (yX9_needEvent, cX9_needEvent, 2, none, [])
theorem kn_248 : Cond.fieldLinkNest RX8 38 RX6 "claims" "LStoryTapestry$Claims;" "StoryTapestry" ∈ gnest := n_in (List.mem_of_getElem? (i := 248) (by decide +kernel)) (by decide +kernel)
theorem fl_X8_38 : FL RX8 38 6 0 (.object "StoryTapestry$Claims") true := ⟨RX6, TX6, 4, tyX6, rfl, by decide, il_6, tyX6_ok, nmX6, rfl, rfl, Or.inr ⟨_, kn_248⟩⟩
theorem kn_182 : Cond.fieldLinkNest RX8 120 RX0 "kinds" "LStoryTapestry$Row;" "StoryTapestry" ∈ gnest := n_in (List.mem_of_getElem? (i := 182) (by decide +kernel)) (by decide +kernel)
theorem fl_X8_120 : FL RX8 120 0 1 (.object "StoryTapestry$Row") true := ⟨RX0, TX0, 6, tyX0, rfl, by decide, il_0, tyX0_ok, nmX0, rfl, rfl, Or.inr ⟨_, kn_182⟩⟩
theorem kn_185 : Cond.fieldLinkNest RX8 123 RX0 "events" "LStoryTapestry$Row;" "StoryTapestry" ∈ gnest := n_in (List.mem_of_getElem? (i := 185) (by decide +kernel)) (by decide +kernel)
theorem fl_X8_123 : FL RX8 123 0 2 (.object "StoryTapestry$Row") true := ⟨RX0, TX0, 6, tyX0, rfl, by decide, il_0, tyX0_ok, nmX0, rfl, rfl, Or.inr ⟨_, kn_185⟩⟩
theorem kn_178 : Cond.fieldLinkNest RX8 53 RX0 "tellers" "LStoryTapestry$Row;" "StoryTapestry" ∈ gnest := n_in (List.mem_of_getElem? (i := 178) (by decide +kernel)) (by decide +kernel)
theorem fl_X8_53 : FL RX8 53 0 0 (.object "StoryTapestry$Row") true := ⟨RX0, TX0, 6, tyX0, rfl, by decide, il_0, tyX0_ok, nmX0, rfl, rfl, Or.inr ⟨_, kn_178⟩⟩
abbrev mX8_isHeard : MT := (yX8_isHeard, cX8_isHeard, 4, (some .boolean), [])
abbrev mJ9_min_7cf53 : MT := (yJ9_min_7cf53, cJ9_min_7cf53, 2, (some .int), [])
theorem kn_194 : Cond.fieldLinkNest RX8 44 RX0 "count" "I" "StoryTapestry" ∈ gnest := n_in (List.mem_of_getElem? (i := 194) (by decide +kernel)) (by decide +kernel)
theorem fl_X8_44 : FL RX8 44 0 5 (.int) false := ⟨RX0, TX0, 6, tyX0, rfl, by decide, il_0, tyX0_ok, nmX0, rfl, rfl, Or.inr ⟨_, kn_194⟩⟩
theorem kk_928 : Cond.methodLink RX8 95 yX8_isHeard ∈ gtbl := g_in (List.mem_of_getElem? (i := 928) (by decide +kernel)) (by decide +kernel)
theorem kk_931 : Cond.code yX8_isHeard cX8_isHeard 4 (some .boolean) ∈ gtbl := g_in (List.mem_of_getElem? (i := 931) (by decide +kernel)) (by decide +kernel)
theorem kk_930 : Cond.instanceMethod yX8_isHeard ∈ gtbl := g_in (List.mem_of_getElem? (i := 930) (by decide +kernel)) (by decide +kernel)
theorem kk_36 : Cond.selects RX8 yX8_isHeard yX8_isHeard ∈ gtbl := g_in (List.mem_of_getElem? (i := 36) (by decide +kernel)) (by decide +kernel)
theorem kv_X8_95 : KV RX8 95 mX8_isHeard 3 := ⟨⟨kk_928, kk_124, kk_931, by decide +kernel⟩, rfl, kk_930, kk_36⟩
theorem kn_190 : Cond.fieldLinkNest RX8 108 RX0 "lasts" "LStoryTapestry$Row;" "StoryTapestry" ∈ gnest := n_in (List.mem_of_getElem? (i := 190) (by decide +kernel)) (by decide +kernel)
theorem fl_X8_108 : FL RX8 108 0 4 (.object "StoryTapestry$Row") true := ⟨RX0, TX0, 6, tyX0, rfl, by decide, il_0, tyX0_ok, nmX0, rfl, rfl, Or.inr ⟨_, kn_190⟩⟩
theorem kk_932 : Cond.methodLink RX8 111 yJ9_min_7cf53 ∈ gtbl := g_in (List.mem_of_getElem? (i := 932) (by decide +kernel)) (by decide +kernel)
theorem kk_140 : Cond.initialized RJ9 ∈ gtbl := g_in (List.mem_of_getElem? (i := 140) (by decide +kernel)) (by decide +kernel)
theorem kk_591 : Cond.code yJ9_min_7cf53 cJ9_min_7cf53 2 (some .int) ∈ gtbl := g_in (List.mem_of_getElem? (i := 591) (by decide +kernel)) (by decide +kernel)
theorem kk_590 : Cond.static yJ9_min_7cf53 ∈ gtbl := g_in (List.mem_of_getElem? (i := 590) (by decide +kernel)) (by decide +kernel)
theorem ks_X8_111 : KS RX8 111 mJ9_min_7cf53 2 := ⟨⟨kk_932, kk_140, kk_591, by decide +kernel⟩, rfl, kk_590⟩
abbrev mX8_lastHour : MT := (yX8_lastHour, cX8_lastHour, 5, (some .int), [])
abbrev mJ9_max_7cf53 : MT := (yJ9_max_7cf53, cJ9_max_7cf53, 2, (some .int), [])
theorem kn_187 : Cond.fieldLinkNest RX8 99 RX0 "firsts" "LStoryTapestry$Row;" "StoryTapestry" ∈ gnest := n_in (List.mem_of_getElem? (i := 187) (by decide +kernel)) (by decide +kernel)
theorem fl_X8_99 : FL RX8 99 0 3 (.object "StoryTapestry$Row") true := ⟨RX0, TX0, 6, tyX0, rfl, by decide, il_0, tyX0_ok, nmX0, rfl, rfl, Or.inr ⟨_, kn_187⟩⟩
theorem kk_937 : Cond.methodLink RX8 102 yJ9_max_7cf53 ∈ gtbl := g_in (List.mem_of_getElem? (i := 937) (by decide +kernel)) (by decide +kernel)
theorem kk_588 : Cond.code yJ9_max_7cf53 cJ9_max_7cf53 2 (some .int) ∈ gtbl := g_in (List.mem_of_getElem? (i := 588) (by decide +kernel)) (by decide +kernel)
theorem kk_587 : Cond.static yJ9_max_7cf53 ∈ gtbl := g_in (List.mem_of_getElem? (i := 587) (by decide +kernel)) (by decide +kernel)
theorem ks_X8_102 : KS RX8 102 mJ9_max_7cf53 2 := ⟨⟨kk_937, kk_140, kk_588, by decide +kernel⟩, rfl, kk_587⟩
abbrev mX8_firstHour : MT := (yX8_firstHour, cX8_firstHour, 5, (some .int), [])
theorem kk_924 : Cond.methodLink RX8 114 yX8_lastHour ∈ gtbl := g_in (List.mem_of_getElem? (i := 924) (by decide +kernel)) (by decide +kernel)
theorem kk_927 : Cond.code yX8_lastHour cX8_lastHour 5 (some .int) ∈ gtbl := g_in (List.mem_of_getElem? (i := 927) (by decide +kernel)) (by decide +kernel)
theorem kk_925 : Cond.instanceMethod yX8_lastHour ∈ gtbl := g_in (List.mem_of_getElem? (i := 925) (by decide +kernel)) (by decide +kernel)
theorem kk_926 : Cond.selects RX8 yX8_lastHour yX8_lastHour ∈ gtbl := g_in (List.mem_of_getElem? (i := 926) (by decide +kernel)) (by decide +kernel)
theorem kv_X8_114 : KV RX8 114 mX8_lastHour 2 := ⟨⟨kk_924, kk_124, kk_927, by decide +kernel⟩, rfl, kk_925, kk_926⟩
theorem kk_933 : Cond.methodLink RX8 117 yX8_firstHour ∈ gtbl := g_in (List.mem_of_getElem? (i := 933) (by decide +kernel)) (by decide +kernel)
theorem kk_936 : Cond.code yX8_firstHour cX8_firstHour 5 (some .int) ∈ gtbl := g_in (List.mem_of_getElem? (i := 936) (by decide +kernel)) (by decide +kernel)
theorem kk_934 : Cond.instanceMethod yX8_firstHour ∈ gtbl := g_in (List.mem_of_getElem? (i := 934) (by decide +kernel)) (by decide +kernel)
theorem kk_935 : Cond.selects RX8 yX8_firstHour yX8_firstHour ∈ gtbl := g_in (List.mem_of_getElem? (i := 935) (by decide +kernel)) (by decide +kernel)
theorem kv_X8_117 : KV RX8 117 mX8_firstHour 2 := ⟨⟨kk_933, kk_124, kk_936, by decide +kernel⟩, rfl, kk_934, kk_935⟩
abbrev mX8_windowHours : MT := (yX8_windowHours, cX8_windowHours, 3, (some .int), [])
theorem kk_1245 : Cond.methodLink RX9 192 yX9_needEvent ∈ gtbl := g_in (List.mem_of_getElem? (i := 1245) (by decide +kernel)) (by decide +kernel)
theorem kk_1248 : Cond.code yX9_needEvent cX9_needEvent 2 none ∈ gtbl := g_in (List.mem_of_getElem? (i := 1248) (by decide +kernel)) (by decide +kernel)
theorem kk_1247 : Cond.instanceMethod yX9_needEvent ∈ gtbl := g_in (List.mem_of_getElem? (i := 1247) (by decide +kernel)) (by decide +kernel)
theorem kk_49 : Cond.selects RX9 yX9_needEvent yX9_needEvent ∈ gtbl := g_in (List.mem_of_getElem? (i := 49) (by decide +kernel)) (by decide +kernel)
theorem kv_X9_192 : KV RX9 192 mX9_needEvent 1 := ⟨⟨kk_1245, kk_119, kk_1248, by decide +kernel⟩, rfl, kk_1247, kk_49⟩
theorem kk_1006 : Cond.methodLink RX9 195 yX8_windowHours ∈ gtbl := g_in (List.mem_of_getElem? (i := 1006) (by decide +kernel)) (by decide +kernel)
theorem kk_923 : Cond.code yX8_windowHours cX8_windowHours 3 (some .int) ∈ gtbl := g_in (List.mem_of_getElem? (i := 923) (by decide +kernel)) (by decide +kernel)
theorem kk_921 : Cond.instanceMethod yX8_windowHours ∈ gtbl := g_in (List.mem_of_getElem? (i := 921) (by decide +kernel)) (by decide +kernel)
theorem kk_922 : Cond.selects RX8 yX8_windowHours yX8_windowHours ∈ gtbl := g_in (List.mem_of_getElem? (i := 922) (by decide +kernel)) (by decide +kernel)
theorem kv_X9_195 : KV RX9 195 mX8_windowHours 2 := ⟨⟨kk_1006, kk_124, kk_923, by decide +kernel⟩, rfl, kk_921, kk_922⟩
abbrev mX9_isAgreed : MT := (yX9_isAgreed, cX9_isAgreed, 2, (some .boolean), [])
theorem kx_X9_62_220_66 : KT RX9 62 66 220 "java/lang/IllegalStateException" ["java/lang/RuntimeException", "java/lang/Exception"] 9 "the event is not agreed on" := ⟨by decide +kernel, by decide +kernel, kk_1017, kk_138, rfl, at_X9_66, at_X9_66o, rfl⟩
abbrev mX9_needWindow : MT := (yX9_needWindow, cX9_needWindow, 2, none, [])
theorem kk_1257 : Cond.methodLink RX9 198 yX9_needWindow ∈ gtbl := g_in (List.mem_of_getElem? (i := 1257) (by decide +kernel)) (by decide +kernel)
theorem kk_1260 : Cond.code yX9_needWindow cX9_needWindow 2 none ∈ gtbl := g_in (List.mem_of_getElem? (i := 1260) (by decide +kernel)) (by decide +kernel)
theorem kk_1259 : Cond.instanceMethod yX9_needWindow ∈ gtbl := g_in (List.mem_of_getElem? (i := 1259) (by decide +kernel)) (by decide +kernel)
theorem kk_50 : Cond.selects RX9 yX9_needWindow yX9_needWindow ∈ gtbl := g_in (List.mem_of_getElem? (i := 50) (by decide +kernel)) (by decide +kernel)
theorem kv_X9_198 : KV RX9 198 mX9_needWindow 1 := ⟨⟨kk_1257, kk_119, kk_1260, by decide +kernel⟩, rfl, kk_1259, kk_50⟩
theorem kk_1007 : Cond.methodLink RX9 201 yX8_firstHour ∈ gtbl := g_in (List.mem_of_getElem? (i := 1007) (by decide +kernel)) (by decide +kernel)
theorem kv_X9_201 : KV RX9 201 mX8_firstHour 2 := ⟨⟨kk_1007, kk_124, kk_936, by decide +kernel⟩, rfl, kk_934, kk_935⟩
abbrev mX9_windowFrom : MT := (yX9_windowFrom, cX9_windowFrom, 2, (some .int), [])
theorem kk_1008 : Cond.methodLink RX9 204 yX8_lastHour ∈ gtbl := g_in (List.mem_of_getElem? (i := 1008) (by decide +kernel)) (by decide +kernel)
theorem kv_X9_204 : KV RX9 204 mX8_lastHour 2 := ⟨⟨kk_1008, kk_124, kk_927, by decide +kernel⟩, rfl, kk_925, kk_926⟩
abbrev mX9_windowTo : MT := (yX9_windowTo, cX9_windowTo, 2, (some .int), [])
theorem kk_282 : Cond.fieldLink RX8 24 RX8 "ahead" "LStoryTapestry$Row;" ∈ gtbl := g_in (List.mem_of_getElem? (i := 282) (by decide +kernel)) (by decide +kernel)
theorem fl_X8_24 : FL RX8 24 8 2 (.object "StoryTapestry$Row") true := ⟨RX8, TX8, 7, tyX8, rfl, by decide, il_8, tyX8_ok, nmX8, rfl, rfl, Or.inl kk_282⟩
theorem kk_778 : Cond.methodLink RX8 34 yX5_set ∈ gtbl := g_in (List.mem_of_getElem? (i := 778) (by decide +kernel)) (by decide +kernel)
theorem kv_X8_34 : KV RX8 34 mX5_set 2 := ⟨⟨kk_778, kk_120, kk_550, by decide +kernel⟩, rfl, kk_548, kk_549⟩
abbrev mX8_gatherAhead : MT := (yX8_gatherAhead, cX8_gatherAhead, 4, none, [])
theorem kn_258 : Cond.fieldLinkNest RX8 131 RX6 "eventCount" "I" "StoryTapestry" ∈ gnest := n_in (List.mem_of_getElem? (i := 258) (by decide +kernel)) (by decide +kernel)
theorem fl_X8_131 : FL RX8 131 6 2 (.int) false := ⟨RX6, TX6, 4, tyX6, rfl, by decide, il_6, tyX6_ok, nmX6, rfl, rfl, Or.inr ⟨_, kn_258⟩⟩
abbrev mX8_nextEvent : MT := (yX8_nextEvent, cX8_nextEvent, 3, (some .int), [])
theorem kk_878 : Cond.methodLink RX8 126 yX8_liarSet ∈ gtbl := g_in (List.mem_of_getElem? (i := 878) (by decide +kernel)) (by decide +kernel)
theorem kv_X8_126 : KV RX8 126 mX8_liarSet 1 := ⟨⟨kk_878, kk_124, kk_845, by decide +kernel⟩, rfl, kk_843, kk_844⟩
theorem kk_879 : Cond.methodLink RX8 128 yX8_gatherAhead ∈ gtbl := g_in (List.mem_of_getElem? (i := 879) (by decide +kernel)) (by decide +kernel)
theorem kk_882 : Cond.code yX8_gatherAhead cX8_gatherAhead 4 none ∈ gtbl := g_in (List.mem_of_getElem? (i := 882) (by decide +kernel)) (by decide +kernel)
theorem kk_881 : Cond.instanceMethod yX8_gatherAhead ∈ gtbl := g_in (List.mem_of_getElem? (i := 881) (by decide +kernel)) (by decide +kernel)
theorem kk_32 : Cond.selects RX8 yX8_gatherAhead yX8_gatherAhead ∈ gtbl := g_in (List.mem_of_getElem? (i := 32) (by decide +kernel)) (by decide +kernel)
theorem kv_X8_128 : KV RX8 128 mX8_gatherAhead 1 := ⟨⟨kk_879, kk_124, kk_882, by decide +kernel⟩, rfl, kk_881, kk_32⟩
theorem kk_883 : Cond.methodLink RX8 134 yX8_nextEvent ∈ gtbl := g_in (List.mem_of_getElem? (i := 883) (by decide +kernel)) (by decide +kernel)
theorem kk_886 : Cond.code yX8_nextEvent cX8_nextEvent 3 (some .int) ∈ gtbl := g_in (List.mem_of_getElem? (i := 886) (by decide +kernel)) (by decide +kernel)
theorem kk_885 : Cond.instanceMethod yX8_nextEvent ∈ gtbl := g_in (List.mem_of_getElem? (i := 885) (by decide +kernel)) (by decide +kernel)
theorem kk_33 : Cond.selects RX8 yX8_nextEvent yX8_nextEvent ∈ gtbl := g_in (List.mem_of_getElem? (i := 33) (by decide +kernel)) (by decide +kernel)
theorem kv_X8_134 : KV RX8 134 mX8_nextEvent 1 := ⟨⟨kk_883, kk_124, kk_886, by decide +kernel⟩, rfl, kk_885, kk_33⟩
theorem kk_283 : Cond.fieldLink RX8 27 RX8 "order" "LStoryTapestry$Row;" ∈ gtbl := g_in (List.mem_of_getElem? (i := 283) (by decide +kernel)) (by decide +kernel)
theorem fl_X8_27 : FL RX8 27 8 3 (.object "StoryTapestry$Row") true := ⟨RX8, TX8, 7, tyX8, rfl, by decide, il_8, tyX8_ok, nmX8, rfl, rfl, Or.inl kk_283⟩
abbrev mX8_arrange : MT := (yX8_arrange, cX8_arrange, 5, (some .boolean), [])
theorem kk_874 : Cond.methodLink RX9 207 yX8_arrange ∈ gtbl := g_in (List.mem_of_getElem? (i := 874) (by decide +kernel)) (by decide +kernel)
theorem kk_877 : Cond.code yX8_arrange cX8_arrange 5 (some .boolean) ∈ gtbl := g_in (List.mem_of_getElem? (i := 877) (by decide +kernel)) (by decide +kernel)
theorem kk_875 : Cond.instanceMethod yX8_arrange ∈ gtbl := g_in (List.mem_of_getElem? (i := 875) (by decide +kernel)) (by decide +kernel)
theorem kk_876 : Cond.selects RX8 yX8_arrange yX8_arrange ∈ gtbl := g_in (List.mem_of_getElem? (i := 876) (by decide +kernel)) (by decide +kernel)
theorem kv_X9_207 : KV RX9 207 mX8_arrange 1 := ⟨⟨kk_874, kk_124, kk_877, by decide +kernel⟩, rfl, kk_875, kk_876⟩
abbrev mX9_hasOrder : MT := (yX9_hasOrder, cX9_hasOrder, 1, (some .boolean), [])
theorem kx_X9_149_211_153 : KT RX9 149 153 211 "java/lang/IndexOutOfBoundsException" ["java/lang/RuntimeException", "java/lang/Exception"] 10 "no such place" := ⟨by decide +kernel, by decide +kernel, kk_1125, kk_142, rfl, at_X9_153, at_X9_153o, rfl⟩
theorem kn_284 : Cond.fieldLinkNest RX9 215 RX8 "order" "LStoryTapestry$Row;" "StoryTapestry" ∈ gnest := n_in (List.mem_of_getElem? (i := 284) (by decide +kernel)) (by decide +kernel)
theorem fl_X9_215 : FL RX9 215 8 3 (.object "StoryTapestry$Row") true := ⟨RX8, TX8, 7, tyX8, rfl, by decide, il_8, tyX8_ok, nmX8, rfl, rfl, Or.inr ⟨_, kn_284⟩⟩
theorem kx_X9_62_213_66 : KT RX9 62 66 213 "java/lang/IllegalStateException" ["java/lang/RuntimeException", "java/lang/Exception"] 11 "there is no order" := ⟨by decide +kernel, by decide +kernel, kk_1017, kk_138, rfl, at_X9_66, at_X9_66o, rfl⟩
abbrev mX9_eventAt : MT := (yX9_eventAt, cX9_eventAt, 2, (some .int), [])
abbrev mX0_isFull : MT := (yX0_isFull, cX0_isFull, 1, (some .boolean), [])
theorem kk_689 : Cond.methodLink RX0 40 yX0_isFull ∈ gtbl := g_in (List.mem_of_getElem? (i := 689) (by decide +kernel)) (by decide +kernel)
theorem kk_668 : Cond.code yX0_isFull cX0_isFull 1 (some .boolean) ∈ gtbl := g_in (List.mem_of_getElem? (i := 668) (by decide +kernel)) (by decide +kernel)
theorem kk_666 : Cond.instanceMethod yX0_isFull ∈ gtbl := g_in (List.mem_of_getElem? (i := 666) (by decide +kernel)) (by decide +kernel)
theorem kk_667 : Cond.selects RX0 yX0_isFull yX0_isFull ∈ gtbl := g_in (List.mem_of_getElem? (i := 667) (by decide +kernel)) (by decide +kernel)
theorem kv_X0_40 : KV RX0 40 mX0_isFull 0 := ⟨⟨kk_689, kk_122, kk_668, by decide +kernel⟩, rfl, kk_666, kk_667⟩
theorem kk_690 : Cond.methodLink RX0 44 yX5_set ∈ gtbl := g_in (List.mem_of_getElem? (i := 690) (by decide +kernel)) (by decide +kernel)
theorem kv_X0_44 : KV RX0 44 mX5_set 2 := ⟨⟨kk_690, kk_120, kk_550, by decide +kernel⟩, rfl, kk_548, kk_549⟩
abbrev mX0_add : MT := (yX0_add, cX0_add, 6, none, [])
abbrev mX8_setAgainst : MT := (yX8_setAgainst, cX8_setAgainst, 3, none, [])
theorem kk_779 : Cond.methodLink RX8 49 yX0_contradict ∈ gtbl := g_in (List.mem_of_getElem? (i := 779) (by decide +kernel)) (by decide +kernel)
theorem kv_X8_49 : KV RX8 49 mX0_contradict 2 := ⟨⟨kk_779, kk_122, kk_782, by decide +kernel⟩, rfl, kk_780, kk_781⟩
theorem kk_785 : Cond.methodLink RX8 60 yX8_setAgainst ∈ gtbl := g_in (List.mem_of_getElem? (i := 785) (by decide +kernel)) (by decide +kernel)
theorem kk_788 : Cond.code yX8_setAgainst cX8_setAgainst 3 none ∈ gtbl := g_in (List.mem_of_getElem? (i := 788) (by decide +kernel)) (by decide +kernel)
theorem kk_787 : Cond.instanceMethod yX8_setAgainst ∈ gtbl := g_in (List.mem_of_getElem? (i := 787) (by decide +kernel)) (by decide +kernel)
theorem kk_27 : Cond.selects RX8 yX8_setAgainst yX8_setAgainst ∈ gtbl := g_in (List.mem_of_getElem? (i := 27) (by decide +kernel)) (by decide +kernel)
theorem kv_X8_60 : KV RX8 60 mX8_setAgainst 2 := ⟨⟨kk_785, kk_124, kk_788, by decide +kernel⟩, rfl, kk_787, kk_27⟩
abbrev mX8_hearClaims : MT := (yX8_hearClaims, cX8_hearClaims, 3, none, [])
theorem kk_1290 : Cond.methodLink RX9 236 yX0_isFull ∈ gtbl := g_in (List.mem_of_getElem? (i := 1290) (by decide +kernel)) (by decide +kernel)
theorem kv_X9_236 : KV RX9 236 mX0_isFull 0 := ⟨⟨kk_1290, kk_122, kk_668, by decide +kernel⟩, rfl, kk_666, kk_667⟩
theorem kk_1292 : Cond.methodLink RX9 242 yX0_add ∈ gtbl := g_in (List.mem_of_getElem? (i := 1292) (by decide +kernel)) (by decide +kernel)
theorem kk_688 : Cond.code yX0_add cX0_add 6 none ∈ gtbl := g_in (List.mem_of_getElem? (i := 688) (by decide +kernel)) (by decide +kernel)
theorem kk_686 : Cond.instanceMethod yX0_add ∈ gtbl := g_in (List.mem_of_getElem? (i := 686) (by decide +kernel)) (by decide +kernel)
theorem kk_687 : Cond.selects RX0 yX0_add yX0_add ∈ gtbl := g_in (List.mem_of_getElem? (i := 687) (by decide +kernel)) (by decide +kernel)
theorem kv_X9_242 : KV RX9 242 mX0_add 5 := ⟨⟨kk_1292, kk_122, kk_688, by decide +kernel⟩, rfl, kk_686, kk_687⟩
theorem kk_774 : Cond.methodLink RX9 92 yX8_hearClaims ∈ gtbl := g_in (List.mem_of_getElem? (i := 774) (by decide +kernel)) (by decide +kernel)
theorem kk_777 : Cond.code yX8_hearClaims cX8_hearClaims 3 none ∈ gtbl := g_in (List.mem_of_getElem? (i := 777) (by decide +kernel)) (by decide +kernel)
theorem kk_775 : Cond.instanceMethod yX8_hearClaims ∈ gtbl := g_in (List.mem_of_getElem? (i := 775) (by decide +kernel)) (by decide +kernel)
theorem kk_776 : Cond.selects RX8 yX8_hearClaims yX8_hearClaims ∈ gtbl := g_in (List.mem_of_getElem? (i := 776) (by decide +kernel)) (by decide +kernel)
theorem kv_X9_92 : KV RX9 92 mX8_hearClaims 0 := ⟨⟨kk_774, kk_124, kk_777, by decide +kernel⟩, rfl, kk_775, kk_776⟩
theorem kx_X9_62_240_66 : KT RX9 62 66 240 "java/lang/IllegalStateException" ["java/lang/RuntimeException", "java/lang/Exception"] 13 "there are 40 claims" := ⟨by decide +kernel, by decide +kernel, kk_1017, kk_138, rfl, at_X9_66, at_X9_66o, rfl⟩
abbrev mX9_claimByHand : MT := (yX9_claimByHand, cX9_claimByHand, 6, (some .int), [])
theorem kx_X9_76_222_80 : KT RX9 76 80 222 "java/lang/IllegalArgumentException" ["java/lang/RuntimeException", "java/lang/Exception"] 12 "not hours from 0 to 99" := ⟨by decide +kernel, by decide +kernel, kk_1097, kk_139, rfl, at_X9_80, at_X9_80o, rfl⟩
theorem kk_1286 : Cond.methodLink RX9 224 yX9_claimByHand ∈ gtbl := g_in (List.mem_of_getElem? (i := 1286) (by decide +kernel)) (by decide +kernel)
theorem kk_1289 : Cond.code yX9_claimByHand cX9_claimByHand 6 (some .int) ∈ gtbl := g_in (List.mem_of_getElem? (i := 1289) (by decide +kernel)) (by decide +kernel)
theorem kk_1288 : Cond.instanceMethod yX9_claimByHand ∈ gtbl := g_in (List.mem_of_getElem? (i := 1288) (by decide +kernel)) (by decide +kernel)
theorem kk_51 : Cond.selects RX9 yX9_claimByHand yX9_claimByHand ∈ gtbl := g_in (List.mem_of_getElem? (i := 51) (by decide +kernel)) (by decide +kernel)
theorem kv_X9_224 : KV RX9 224 mX9_claimByHand 5 := ⟨⟨kk_1286, kk_119, kk_1289, by decide +kernel⟩, rfl, kk_1288, kk_51⟩
abbrev mX9_claimHours : MT := (yX9_claimHours, cX9_claimHours, 5, (some .int), [])
theorem kx_X9_76_234_80 : KT RX9 76 80 234 "java/lang/IllegalArgumentException" ["java/lang/RuntimeException", "java/lang/Exception"] 14 "both events are the same" := ⟨by decide +kernel, by decide +kernel, kk_1097, kk_139, rfl, at_X9_80, at_X9_80o, rfl⟩
abbrev mX9_needTwoEvents : MT := (yX9_needTwoEvents, cX9_needTwoEvents, 3, none, [])
theorem kk_1300 : Cond.methodLink RX9 228 yX9_needTwoEvents ∈ gtbl := g_in (List.mem_of_getElem? (i := 1300) (by decide +kernel)) (by decide +kernel)
theorem kk_1303 : Cond.code yX9_needTwoEvents cX9_needTwoEvents 3 none ∈ gtbl := g_in (List.mem_of_getElem? (i := 1303) (by decide +kernel)) (by decide +kernel)
theorem kk_1302 : Cond.instanceMethod yX9_needTwoEvents ∈ gtbl := g_in (List.mem_of_getElem? (i := 1302) (by decide +kernel)) (by decide +kernel)
theorem kk_52 : Cond.selects RX9 yX9_needTwoEvents yX9_needTwoEvents ∈ gtbl := g_in (List.mem_of_getElem? (i := 52) (by decide +kernel)) (by decide +kernel)
theorem kv_X9_228 : KV RX9 228 mX9_needTwoEvents 2 := ⟨⟨kk_1300, kk_119, kk_1303, by decide +kernel⟩, rfl, kk_1302, kk_52⟩
abbrev mX9_claimBefore : MT := (yX9_claimBefore, cX9_claimBefore, 4, (some .int), [])
abbrev mX9_claimTogether : MT := (yX9_claimTogether, cX9_claimTogether, 4, (some .int), [])
abbrev mX0_remove : MT := (yX0_remove, cX0_remove, 3, none, [])
theorem kk_1319 : Cond.methodLink RX9 231 yX0_remove ∈ gtbl := g_in (List.mem_of_getElem? (i := 1319) (by decide +kernel)) (by decide +kernel)
theorem kk_1322 : Cond.code yX0_remove cX0_remove 3 none ∈ gtbl := g_in (List.mem_of_getElem? (i := 1322) (by decide +kernel)) (by decide +kernel)
theorem kk_1320 : Cond.instanceMethod yX0_remove ∈ gtbl := g_in (List.mem_of_getElem? (i := 1320) (by decide +kernel)) (by decide +kernel)
theorem kk_1321 : Cond.selects RX0 yX0_remove yX0_remove ∈ gtbl := g_in (List.mem_of_getElem? (i := 1321) (by decide +kernel)) (by decide +kernel)
theorem kv_X9_231 : KV RX9 231 mX0_remove 1 := ⟨⟨kk_1319, kk_122, kk_1322, by decide +kernel⟩, rfl, kk_1320, kk_1321⟩
abbrev mX9_takeBack : MT := (yX9_takeBack, cX9_takeBack, 3, (some .int), [])
abbrev mX9_turnDoubt : MT := (yX9_turnDoubt, cX9_turnDoubt, 2, (some .boolean), [])
theorem kx_X9_76_298_80 : KT RX9 76 80 298 "java/lang/IllegalArgumentException" ["java/lang/RuntimeException", "java/lang/Exception"] 15 "not 1 to 30 evenings" := ⟨by decide +kernel, by decide +kernel, kk_1097, kk_139, rfl, at_X9_80, at_X9_80o, rfl⟩
abbrev mX9_needEvenings : MT := (yX9_needEvenings, cX9_needEvenings, 2, none, [])
theorem il_3 : ∀ w ∈ u_ws RX3 TX3 7, w ∈ gtbl := fun w hw => g_in ((by decide +kernel : ∀ w ∈ u_ws RX3 TX3 7, w ∈ lw_tbl) w hw) (List.all_eq_true.mp (by decide +kernel : (u_ws RX3 TX3 7).all goodWord = true) w hw)
theorem kk_221 : Cond.fieldLink RX3 23 RX3 "ends" "LStoryTapestry$Row;" ∈ gtbl := g_in (List.mem_of_getElem? (i := 221) (by decide +kernel)) (by decide +kernel)
theorem fl_X3_23 : FL RX3 23 3 2 (.object "StoryTapestry$Row") true := ⟨RX3, TX3, 7, tyX3, rfl, by decide, il_3, tyX3_ok, nmX3, rfl, rfl, Or.inl kk_221⟩
theorem kk_907 : Cond.methodLink RX3 55 yX5_get ∈ gtbl := g_in (List.mem_of_getElem? (i := 907) (by decide +kernel)) (by decide +kernel)
theorem kv_X3_55 : KV RX3 55 mX5_get 1 := ⟨⟨kk_907, kk_120, kk_546, by decide +kernel⟩, rfl, kk_544, kk_545⟩
abbrev mX3_startOf : MT := (yX3_startOf, cX3_startOf, 2, (some .int), [])
theorem kk_476 : Cond.fieldLink RX1 72 RX1 "top" "I" ∈ gtbl := g_in (List.mem_of_getElem? (i := 476) (by decide +kernel)) (by decide +kernel)
theorem fl_X1_72 : FL RX1 72 1 3 (.int) false := ⟨RX1, TX1, 7, tyX1, rfl, by decide, il_1, tyX1_ok, nmX1, rfl, rfl, Or.inl kk_476⟩
theorem kk_475 : Cond.fieldLink RX1 24 RX1 "stack" "LStoryTapestry$Row;" ∈ gtbl := g_in (List.mem_of_getElem? (i := 475) (by decide +kernel)) (by decide +kernel)
theorem fl_X1_24 : FL RX1 24 1 2 (.object "StoryTapestry$Row") true := ⟨RX1, TX1, 7, tyX1, rfl, by decide, il_1, tyX1_ok, nmX1, rfl, rfl, Or.inl kk_475⟩
theorem kk_908 : Cond.methodLink RX1 59 yX5_get ∈ gtbl := g_in (List.mem_of_getElem? (i := 908) (by decide +kernel)) (by decide +kernel)
theorem kv_X1_59 : KV RX1 59 mX5_get 1 := ⟨⟨kk_908, kk_120, kk_546, by decide +kernel⟩, rfl, kk_544, kk_545⟩
abbrev mX1_pop : MT := (yX1_pop, cX1_pop, 1, (some .int), [])
abbrev mX9_one : MT := (yX9_one, cX9_one, 1, (some .int), [])
theorem kk_479 : Cond.fieldLink RX1 32 RX1 "evening" "I" ∈ gtbl := g_in (List.mem_of_getElem? (i := 479) (by decide +kernel)) (by decide +kernel)
theorem fl_X1_32 : FL RX1 32 1 5 (.int) false := ⟨RX1, TX1, 7, tyX1, rfl, by decide, il_1, tyX1_ok, nmX1, rfl, rfl, Or.inl kk_479⟩
theorem kk_474 : Cond.fieldLink RX1 15 RX1 "verdict" "LStoryTapestry$Verdict;" ∈ gtbl := g_in (List.mem_of_getElem? (i := 474) (by decide +kernel)) (by decide +kernel)
theorem fl_X1_15 : FL RX1 15 1 1 (.object "StoryTapestry$Verdict") true := ⟨RX1, TX1, 7, tyX1, rfl, by decide, il_1, tyX1_ok, nmX1, rfl, rfl, Or.inl kk_474⟩
theorem kk_477 : Cond.fieldLink RX1 28 RX1 "doubted" "I" ∈ gtbl := g_in (List.mem_of_getElem? (i := 477) (by decide +kernel)) (by decide +kernel)
theorem fl_X1_28 : FL RX1 28 1 4 (.int) false := ⟨RX1, TX1, 7, tyX1, rfl, by decide, il_1, tyX1_ok, nmX1, rfl, rfl, Or.inl kk_477⟩
theorem kk_913 : Cond.methodLink RX1 99 yX8_liarSet ∈ gtbl := g_in (List.mem_of_getElem? (i := 913) (by decide +kernel)) (by decide +kernel)
theorem kv_X1_99 : KV RX1 99 mX8_liarSet 1 := ⟨⟨kk_913, kk_124, kk_845, by decide +kernel⟩, rfl, kk_843, kk_844⟩
theorem kk_914 : Cond.methodLink RX1 104 yJ6_bitCount_0f7a4 ∈ gtbl := g_in (List.mem_of_getElem? (i := 914) (by decide +kernel)) (by decide +kernel)
theorem ks_X1_104 : KS RX1 104 mJ6_bitCount_0f7a4 1 := ⟨⟨kk_914, kk_143, kk_834, by decide +kernel⟩, rfl, kk_833⟩
theorem kk_915 : Cond.methodLink RX1 109 yX8_pairCount ∈ gtbl := g_in (List.mem_of_getElem? (i := 915) (by decide +kernel)) (by decide +kernel)
theorem kv_X1_109 : KV RX1 109 mX8_pairCount 1 := ⟨⟨kk_915, kk_124, kk_824, by decide +kernel⟩, rfl, kk_822, kk_823⟩
theorem kn_943 : Cond.methodLinkNest RX1 132 yX9_has "StoryTapestry" ∈ gnest := n_in (List.mem_of_getElem? (i := 943) (by decide +kernel)) (by decide +kernel)
theorem kq_X1_132 : KSN RX1 132 mX9_has 2 := ⟨⟨_, kn_943⟩, kk_119, kk_831, rfl, by decide +kernel, kk_830⟩
theorem kn_942 : Cond.methodLinkNest RX1 128 yX9_one "StoryTapestry" ∈ gnest := n_in (List.mem_of_getElem? (i := 942) (by decide +kernel)) (by decide +kernel)
theorem kk_755 : Cond.code yX9_one cX9_one 1 (some .int) ∈ gtbl := g_in (List.mem_of_getElem? (i := 755) (by decide +kernel)) (by decide +kernel)
theorem kk_754 : Cond.static yX9_one ∈ gtbl := g_in (List.mem_of_getElem? (i := 754) (by decide +kernel)) (by decide +kernel)
theorem kq_X1_128 : KSN RX1 128 mX9_one 1 := ⟨⟨_, kn_942⟩, kk_119, kk_755, rfl, by decide +kernel, kk_754⟩
theorem kk_473 : Cond.fieldLink RX1 9 RX1 "told" "LStoryTapestry$Tapestry;" ∈ gtbl := g_in (List.mem_of_getElem? (i := 473) (by decide +kernel)) (by decide +kernel)
theorem fl_X1_9 : FL RX1 9 1 0 (.object "StoryTapestry$Tapestry") true := ⟨RX1, TX1, 7, tyX1, rfl, by decide, il_1, tyX1_ok, nmX1, rfl, rfl, Or.inl kk_473⟩
theorem kn_250 : Cond.fieldLinkNest RX1 112 RX6 "claims" "LStoryTapestry$Claims;" "StoryTapestry" ∈ gnest := n_in (List.mem_of_getElem? (i := 250) (by decide +kernel)) (by decide +kernel)
theorem fl_X1_112 : FL RX1 112 6 0 (.object "StoryTapestry$Claims") true := ⟨RX6, TX6, 4, tyX6, rfl, by decide, il_6, tyX6_ok, nmX6, rfl, rfl, Or.inr ⟨_, kn_250⟩⟩
theorem kk_916 : Cond.methodLink RX1 116 yX0_countOf ∈ gtbl := g_in (List.mem_of_getElem? (i := 916) (by decide +kernel)) (by decide +kernel)
theorem kv_X1_116 : KV RX1 116 mX0_countOf 1 := ⟨⟨kk_916, kk_122, kk_919, by decide +kernel⟩, rfl, kk_917, kk_918⟩
theorem kk_920 : Cond.methodLink RX1 121 yX8_windowHours ∈ gtbl := g_in (List.mem_of_getElem? (i := 920) (by decide +kernel)) (by decide +kernel)
theorem kv_X1_121 : KV RX1 121 mX8_windowHours 2 := ⟨⟨kk_920, kk_124, kk_923, by decide +kernel⟩, rfl, kk_921, kk_922⟩
theorem kk_938 : Cond.methodLink RX1 124 yX8_tellersContradict ∈ gtbl := g_in (List.mem_of_getElem? (i := 938) (by decide +kernel)) (by decide +kernel)
theorem kv_X1_124 : KV RX1 124 mX8_tellersContradict 3 := ⟨⟨kk_938, kk_124, kk_941, by decide +kernel⟩, rfl, kk_939, kk_940⟩
abbrev mX1_fact : MT := (yX1_fact, cX1_fact, 3, (some .int), [])
theorem kk_948 : Cond.methodLink RX1 95 yX5_set ∈ gtbl := g_in (List.mem_of_getElem? (i := 948) (by decide +kernel)) (by decide +kernel)
theorem kv_X1_95 : KV RX1 95 mX5_set 2 := ⟨⟨kk_948, kk_120, kk_550, by decide +kernel⟩, rfl, kk_548, kk_549⟩
abbrev mX1_push : MT := (yX1_push, cX1_push, 2, none, [])
theorem kk_960 : Cond.methodLink RX1 140 yJ9_min_7cf53 ∈ gtbl := g_in (List.mem_of_getElem? (i := 960) (by decide +kernel)) (by decide +kernel)
theorem ks_X1_140 : KS RX1 140 mJ9_min_7cf53 2 := ⟨⟨kk_960, kk_140, kk_591, by decide +kernel⟩, rfl, kk_590⟩
theorem kk_961 : Cond.methodLink RX1 145 yJ9_max_7cf53 ∈ gtbl := g_in (List.mem_of_getElem? (i := 961) (by decide +kernel)) (by decide +kernel)
theorem ks_X1_145 : KS RX1 145 mJ9_max_7cf53 2 := ⟨⟨kk_961, kk_140, kk_588, by decide +kernel⟩, rfl, kk_587⟩
abbrev mX1_combine : MT := (yX1_combine, cX1_combine, 3, (some .int), [])
theorem kk_953 : Cond.methodLink RX1 91 yX1_pop ∈ gtbl := g_in (List.mem_of_getElem? (i := 953) (by decide +kernel)) (by decide +kernel)
theorem kk_132 : Cond.initialized RX1 ∈ gtbl := g_in (List.mem_of_getElem? (i := 132) (by decide +kernel)) (by decide +kernel)
theorem kk_956 : Cond.code yX1_pop cX1_pop 1 (some .int) ∈ gtbl := g_in (List.mem_of_getElem? (i := 956) (by decide +kernel)) (by decide +kernel)
theorem kk_955 : Cond.instanceMethod yX1_pop ∈ gtbl := g_in (List.mem_of_getElem? (i := 955) (by decide +kernel)) (by decide +kernel)
theorem kk_39 : Cond.selects RX1 yX1_pop yX1_pop ∈ gtbl := g_in (List.mem_of_getElem? (i := 39) (by decide +kernel)) (by decide +kernel)
theorem kv_X1_91 : KV RX1 91 mX1_pop 0 := ⟨⟨kk_953, kk_132, kk_956, by decide +kernel⟩, rfl, kk_955, kk_39⟩
theorem kk_957 : Cond.methodLink RX1 136 yX1_combine ∈ gtbl := g_in (List.mem_of_getElem? (i := 957) (by decide +kernel)) (by decide +kernel)
theorem kk_959 : Cond.code yX1_combine cX1_combine 3 (some .int) ∈ gtbl := g_in (List.mem_of_getElem? (i := 959) (by decide +kernel)) (by decide +kernel)
theorem kk_958 : Cond.static yX1_combine ∈ gtbl := g_in (List.mem_of_getElem? (i := 958) (by decide +kernel)) (by decide +kernel)
theorem ks_X1_136 : KS RX1 136 mX1_combine 3 := ⟨⟨kk_957, kk_132, kk_959, by decide +kernel⟩, rfl, kk_958⟩
theorem kk_944 : Cond.methodLink RX1 85 yX1_push ∈ gtbl := g_in (List.mem_of_getElem? (i := 944) (by decide +kernel)) (by decide +kernel)
theorem kk_947 : Cond.code yX1_push cX1_push 2 none ∈ gtbl := g_in (List.mem_of_getElem? (i := 947) (by decide +kernel)) (by decide +kernel)
theorem kk_946 : Cond.instanceMethod yX1_push ∈ gtbl := g_in (List.mem_of_getElem? (i := 946) (by decide +kernel)) (by decide +kernel)
theorem kk_37 : Cond.selects RX1 yX1_push yX1_push ∈ gtbl := g_in (List.mem_of_getElem? (i := 37) (by decide +kernel)) (by decide +kernel)
theorem kv_X1_85 : KV RX1 85 mX1_push 1 := ⟨⟨kk_944, kk_132, kk_947, by decide +kernel⟩, rfl, kk_946, kk_37⟩
abbrev mX1_reckon : MT := (yX1_reckon, cX1_reckon, 3, none, [])
theorem kn_253 : Cond.fieldLinkNest RX1 38 RX6 "orders" "LStoryTapestry$Orders;" "StoryTapestry" ∈ gnest := n_in (List.mem_of_getElem? (i := 253) (by decide +kernel)) (by decide +kernel)
theorem fl_X1_38 : FL RX1 38 6 1 (.object "StoryTapestry$Orders") true := ⟨RX6, TX6, 4, tyX6, rfl, by decide, il_6, tyX6_ok, nmX6, rfl, rfl, Or.inr ⟨_, kn_253⟩⟩
theorem kk_903 : Cond.methodLink RX1 66 yX3_startOf ∈ gtbl := g_in (List.mem_of_getElem? (i := 903) (by decide +kernel)) (by decide +kernel)
theorem kk_123 : Cond.initialized RX3 ∈ gtbl := g_in (List.mem_of_getElem? (i := 123) (by decide +kernel)) (by decide +kernel)
theorem kk_906 : Cond.code yX3_startOf cX3_startOf 2 (some .int) ∈ gtbl := g_in (List.mem_of_getElem? (i := 906) (by decide +kernel)) (by decide +kernel)
theorem kk_904 : Cond.instanceMethod yX3_startOf ∈ gtbl := g_in (List.mem_of_getElem? (i := 904) (by decide +kernel)) (by decide +kernel)
theorem kk_905 : Cond.selects RX3 yX3_startOf yX3_startOf ∈ gtbl := g_in (List.mem_of_getElem? (i := 905) (by decide +kernel)) (by decide +kernel)
theorem kv_X1_66 : KV RX1 66 mX3_startOf 1 := ⟨⟨kk_903, kk_123, kk_906, by decide +kernel⟩, rfl, kk_904, kk_905⟩
theorem kn_222 : Cond.fieldLinkNest RX1 69 RX3 "ends" "LStoryTapestry$Row;" "StoryTapestry" ∈ gnest := n_in (List.mem_of_getElem? (i := 222) (by decide +kernel)) (by decide +kernel)
theorem fl_X1_69 : FL RX1 69 3 2 (.object "StoryTapestry$Row") true := ⟨RX3, TX3, 7, tyX3, rfl, by decide, il_3, tyX3_ok, nmX3, rfl, rfl, Or.inr ⟨_, kn_222⟩⟩
theorem kn_224 : Cond.fieldLinkNest RX1 75 RX3 "stepKinds" "LStoryTapestry$Row;" "StoryTapestry" ∈ gnest := n_in (List.mem_of_getElem? (i := 224) (by decide +kernel)) (by decide +kernel)
theorem fl_X1_75 : FL RX1 75 3 3 (.object "StoryTapestry$Row") true := ⟨RX3, TX3, 7, tyX3, rfl, by decide, il_3, tyX3_ok, nmX3, rfl, rfl, Or.inr ⟨_, kn_224⟩⟩
theorem kn_226 : Cond.fieldLinkNest RX1 78 RX3 "stepParts" "LStoryTapestry$Row;" "StoryTapestry" ∈ gnest := n_in (List.mem_of_getElem? (i := 226) (by decide +kernel)) (by decide +kernel)
theorem fl_X1_78 : FL RX1 78 3 4 (.object "StoryTapestry$Row") true := ⟨RX3, TX3, 7, tyX3, rfl, by decide, il_3, tyX3_ok, nmX3, rfl, rfl, Or.inr ⟨_, kn_226⟩⟩
theorem kk_909 : Cond.methodLink RX1 81 yX1_fact ∈ gtbl := g_in (List.mem_of_getElem? (i := 909) (by decide +kernel)) (by decide +kernel)
theorem kk_912 : Cond.code yX1_fact cX1_fact 3 (some .int) ∈ gtbl := g_in (List.mem_of_getElem? (i := 912) (by decide +kernel)) (by decide +kernel)
theorem kk_911 : Cond.instanceMethod yX1_fact ∈ gtbl := g_in (List.mem_of_getElem? (i := 911) (by decide +kernel)) (by decide +kernel)
theorem kk_35 : Cond.selects RX1 yX1_fact yX1_fact ∈ gtbl := g_in (List.mem_of_getElem? (i := 35) (by decide +kernel)) (by decide +kernel)
theorem kv_X1_81 : KV RX1 81 mX1_fact 2 := ⟨⟨kk_909, kk_132, kk_912, by decide +kernel⟩, rfl, kk_911, kk_35⟩
theorem kk_949 : Cond.methodLink RX1 88 yX1_reckon ∈ gtbl := g_in (List.mem_of_getElem? (i := 949) (by decide +kernel)) (by decide +kernel)
theorem kk_952 : Cond.code yX1_reckon cX1_reckon 3 none ∈ gtbl := g_in (List.mem_of_getElem? (i := 952) (by decide +kernel)) (by decide +kernel)
theorem kk_951 : Cond.instanceMethod yX1_reckon ∈ gtbl := g_in (List.mem_of_getElem? (i := 951) (by decide +kernel)) (by decide +kernel)
theorem kk_38 : Cond.selects RX1 yX1_reckon yX1_reckon ∈ gtbl := g_in (List.mem_of_getElem? (i := 38) (by decide +kernel)) (by decide +kernel)
theorem kv_X1_88 : KV RX1 88 mX1_reckon 1 := ⟨⟨kk_949, kk_132, kk_952, by decide +kernel⟩, rfl, kk_951, kk_38⟩
abbrev mX1_holds : MT := (yX1_holds, cX1_holds, 6, (some .boolean), [])
theorem kn_220 : Cond.fieldLinkNest RX1 56 RX3 "tellers" "LStoryTapestry$Row;" "StoryTapestry" ∈ gnest := n_in (List.mem_of_getElem? (i := 220) (by decide +kernel)) (by decide +kernel)
theorem fl_X1_56 : FL RX1 56 3 1 (.object "StoryTapestry$Row") true := ⟨RX3, TX3, 7, tyX3, rfl, by decide, il_3, tyX3_ok, nmX3, rfl, rfl, Or.inr ⟨_, kn_220⟩⟩
theorem kn_218 : Cond.fieldLinkNest RX1 63 RX3 "doubts" "LStoryTapestry$Row;" "StoryTapestry" ∈ gnest := n_in (List.mem_of_getElem? (i := 218) (by decide +kernel)) (by decide +kernel)
theorem fl_X1_63 : FL RX1 63 3 0 (.object "StoryTapestry$Row") true := ⟨RX3, TX3, 7, tyX3, rfl, by decide, il_3, tyX3_ok, nmX3, rfl, rfl, Or.inr ⟨_, kn_218⟩⟩
theorem kk_481 : Cond.fieldLink RX1 35 RX1 "carriedOut" "I" ∈ gtbl := g_in (List.mem_of_getElem? (i := 481) (by decide +kernel)) (by decide +kernel)
theorem fl_X1_35 : FL RX1 35 1 6 (.int) false := ⟨RX1, TX1, 7, tyX1, rfl, by decide, il_1, tyX1_ok, nmX1, rfl, rfl, Or.inl kk_481⟩
abbrev mX1_carryOut : MT := (yX1_carryOut, cX1_carryOut, 4, none, [])
theorem kn_229 : Cond.fieldLinkNest RX1 44 RX3 "count" "I" "StoryTapestry" ∈ gnest := n_in (List.mem_of_getElem? (i := 229) (by decide +kernel)) (by decide +kernel)
theorem fl_X1_44 : FL RX1 44 3 5 (.int) false := ⟨RX3, TX3, 7, tyX3, rfl, by decide, il_3, tyX3_ok, nmX3, rfl, rfl, Or.inr ⟨_, kn_229⟩⟩
theorem kk_899 : Cond.methodLink RX1 49 yX1_holds ∈ gtbl := g_in (List.mem_of_getElem? (i := 899) (by decide +kernel)) (by decide +kernel)
theorem kk_902 : Cond.code yX1_holds cX1_holds 6 (some .boolean) ∈ gtbl := g_in (List.mem_of_getElem? (i := 902) (by decide +kernel)) (by decide +kernel)
theorem kk_901 : Cond.instanceMethod yX1_holds ∈ gtbl := g_in (List.mem_of_getElem? (i := 901) (by decide +kernel)) (by decide +kernel)
theorem kk_34 : Cond.selects RX1 yX1_holds yX1_holds ∈ gtbl := g_in (List.mem_of_getElem? (i := 34) (by decide +kernel)) (by decide +kernel)
theorem kv_X1_49 : KV RX1 49 mX1_holds 1 := ⟨⟨kk_899, kk_132, kk_902, by decide +kernel⟩, rfl, kk_901, kk_34⟩
theorem kk_962 : Cond.methodLink RX1 53 yX1_carryOut ∈ gtbl := g_in (List.mem_of_getElem? (i := 962) (by decide +kernel)) (by decide +kernel)
theorem kk_965 : Cond.code yX1_carryOut cX1_carryOut 4 none ∈ gtbl := g_in (List.mem_of_getElem? (i := 965) (by decide +kernel)) (by decide +kernel)
theorem kk_964 : Cond.instanceMethod yX1_carryOut ∈ gtbl := g_in (List.mem_of_getElem? (i := 964) (by decide +kernel)) (by decide +kernel)
theorem kk_40 : Cond.selects RX1 yX1_carryOut yX1_carryOut ∈ gtbl := g_in (List.mem_of_getElem? (i := 40) (by decide +kernel)) (by decide +kernel)
theorem kv_X1_53 : KV RX1 53 mX1_carryOut 1 := ⟨⟨kk_962, kk_132, kk_965, by decide +kernel⟩, rfl, kk_964, kk_40⟩
abbrev mX1_passOne : MT := (yX1_passOne, cX1_passOne, 2, none, [])
theorem kk_1337 : Cond.methodLink RX9 246 yX9_needEvenings ∈ gtbl := g_in (List.mem_of_getElem? (i := 1337) (by decide +kernel)) (by decide +kernel)
theorem kk_1340 : Cond.code yX9_needEvenings cX9_needEvenings 2 none ∈ gtbl := g_in (List.mem_of_getElem? (i := 1340) (by decide +kernel)) (by decide +kernel)
theorem kk_1339 : Cond.instanceMethod yX9_needEvenings ∈ gtbl := g_in (List.mem_of_getElem? (i := 1339) (by decide +kernel)) (by decide +kernel)
theorem kk_53 : Cond.selects RX9 yX9_needEvenings yX9_needEvenings ∈ gtbl := g_in (List.mem_of_getElem? (i := 53) (by decide +kernel)) (by decide +kernel)
theorem kv_X9_246 : KV RX9 246 mX9_needEvenings 1 := ⟨⟨kk_1337, kk_119, kk_1340, by decide +kernel⟩, rfl, kk_1339, kk_53⟩
theorem kk_895 : Cond.methodLink RX9 249 yX1_passOne ∈ gtbl := g_in (List.mem_of_getElem? (i := 895) (by decide +kernel)) (by decide +kernel)
theorem kk_898 : Cond.code yX1_passOne cX1_passOne 2 none ∈ gtbl := g_in (List.mem_of_getElem? (i := 898) (by decide +kernel)) (by decide +kernel)
theorem kk_896 : Cond.instanceMethod yX1_passOne ∈ gtbl := g_in (List.mem_of_getElem? (i := 896) (by decide +kernel)) (by decide +kernel)
theorem kk_897 : Cond.selects RX1 yX1_passOne yX1_passOne ∈ gtbl := g_in (List.mem_of_getElem? (i := 897) (by decide +kernel)) (by decide +kernel)
theorem kv_X9_249 : KV RX9 249 mX1_passOne 0 := ⟨⟨kk_895, kk_132, kk_898, by decide +kernel⟩, rfl, kk_896, kk_897⟩
abbrev mX9_passEvenings : MT := (yX9_passEvenings, cX9_passEvenings, 4, (some .int), [])
abbrev mX1_copyFrom : MT := (yX1_copyFrom, cX1_copyFrom, 2, none, [])
theorem kk_503 : Cond.fieldLink RX9 52 RX9 "trial" "LStoryTapestry$Course;" ∈ gtbl := g_in (List.mem_of_getElem? (i := 503) (by decide +kernel)) (by decide +kernel)
theorem fl_X9_52 : FL RX9 52 9 5 (.object "StoryTapestry$Course") true := ⟨RX9, TX9, 8, tyX9, rfl, by decide, il_9, tyX9_ok, nmX9, rfl, rfl, Or.inl kk_503⟩
theorem kk_891 : Cond.methodLink RX9 252 yX1_copyFrom ∈ gtbl := g_in (List.mem_of_getElem? (i := 891) (by decide +kernel)) (by decide +kernel)
theorem kk_894 : Cond.code yX1_copyFrom cX1_copyFrom 2 none ∈ gtbl := g_in (List.mem_of_getElem? (i := 894) (by decide +kernel)) (by decide +kernel)
theorem kk_892 : Cond.instanceMethod yX1_copyFrom ∈ gtbl := g_in (List.mem_of_getElem? (i := 892) (by decide +kernel)) (by decide +kernel)
theorem kk_893 : Cond.selects RX1 yX1_copyFrom yX1_copyFrom ∈ gtbl := g_in (List.mem_of_getElem? (i := 893) (by decide +kernel)) (by decide +kernel)
theorem kv_X9_252 : KV RX9 252 mX1_copyFrom 1 := ⟨⟨kk_891, kk_132, kk_894, by decide +kernel⟩, rfl, kk_892, kk_893⟩
abbrev mX9_liarsAfter : MT := (yX9_liarsAfter, cX9_liarsAfter, 3, (some .int), [])
abbrev mX9_eveningsUntilOneStory : MT := (yX9_eveningsUntilOneStory, cX9_eveningsUntilOneStory, 2, (some .int), [])
abbrev mX9_bestToDoubt : MT := (yX9_bestToDoubt, cX9_bestToDoubt, 5, (some .int), [])
abbrev mX9_meanClaims : MT := (yX9_meanClaims, cX9_meanClaims, 1, (some .double), [])
theorem kk_979 : Cond.constantLong RX9 257 (31) ∈ gtbl := g_in (List.mem_of_getElem? (i := 979) (by decide +kernel)) (by decide +kernel)
abbrev mX9_digestClaims : MT := (yX9_digestClaims, cX9_digestClaims, 6, (some .long), [])
theorem kk_989 : Cond.methodLink RX9 284 yX9_one ∈ gtbl := g_in (List.mem_of_getElem? (i := 989) (by decide +kernel)) (by decide +kernel)
theorem ks_X9_284 : KS RX9 284 mX9_one 1 := ⟨⟨kk_989, kk_119, kk_755, by decide +kernel⟩, rfl, kk_754⟩
abbrev mX9_digestTellers : MT := (yX9_digestTellers, cX9_digestTellers, 8, (some .long), [])
abbrev mX9_digestEvents : MT := (yX9_digestEvents, cX9_digestEvents, 8, (some .long), [])
theorem kk_978 : Cond.constantLong RX9 255 (991) ∈ gtbl := g_in (List.mem_of_getElem? (i := 978) (by decide +kernel)) (by decide +kernel)
theorem kk_980 : Cond.methodLink RX9 259 yX9_events ∈ gtbl := g_in (List.mem_of_getElem? (i := 980) (by decide +kernel)) (by decide +kernel)
theorem kk_800 : Cond.code yX9_events cX9_events 1 (some .int) ∈ gtbl := g_in (List.mem_of_getElem? (i := 800) (by decide +kernel)) (by decide +kernel)
theorem kk_798 : Cond.instanceMethod yX9_events ∈ gtbl := g_in (List.mem_of_getElem? (i := 798) (by decide +kernel)) (by decide +kernel)
theorem kk_799 : Cond.selects RX9 yX9_events yX9_events ∈ gtbl := g_in (List.mem_of_getElem? (i := 799) (by decide +kernel)) (by decide +kernel)
theorem kv_X9_259 : KV RX9 259 mX9_events 0 := ⟨⟨kk_980, kk_119, kk_800, by decide +kernel⟩, rfl, kk_798, kk_799⟩
theorem kk_981 : Cond.methodLink RX9 262 yX9_tellers ∈ gtbl := g_in (List.mem_of_getElem? (i := 981) (by decide +kernel)) (by decide +kernel)
theorem kk_804 : Cond.code yX9_tellers cX9_tellers 1 (some .int) ∈ gtbl := g_in (List.mem_of_getElem? (i := 804) (by decide +kernel)) (by decide +kernel)
theorem kk_802 : Cond.instanceMethod yX9_tellers ∈ gtbl := g_in (List.mem_of_getElem? (i := 802) (by decide +kernel)) (by decide +kernel)
theorem kk_803 : Cond.selects RX9 yX9_tellers yX9_tellers ∈ gtbl := g_in (List.mem_of_getElem? (i := 803) (by decide +kernel)) (by decide +kernel)
theorem kv_X9_262 : KV RX9 262 mX9_tellers 0 := ⟨⟨kk_981, kk_119, kk_804, by decide +kernel⟩, rfl, kk_802, kk_803⟩
theorem kk_982 : Cond.methodLink RX9 264 yX9_claims ∈ gtbl := g_in (List.mem_of_getElem? (i := 982) (by decide +kernel)) (by decide +kernel)
theorem kk_808 : Cond.code yX9_claims cX9_claims 1 (some .int) ∈ gtbl := g_in (List.mem_of_getElem? (i := 808) (by decide +kernel)) (by decide +kernel)
theorem kk_806 : Cond.instanceMethod yX9_claims ∈ gtbl := g_in (List.mem_of_getElem? (i := 806) (by decide +kernel)) (by decide +kernel)
theorem kk_807 : Cond.selects RX9 yX9_claims yX9_claims ∈ gtbl := g_in (List.mem_of_getElem? (i := 807) (by decide +kernel)) (by decide +kernel)
theorem kv_X9_264 : KV RX9 264 mX9_claims 0 := ⟨⟨kk_982, kk_119, kk_808, by decide +kernel⟩, rfl, kk_806, kk_807⟩
theorem kk_983 : Cond.methodLink RX9 266 yX9_evenings ∈ gtbl := g_in (List.mem_of_getElem? (i := 983) (by decide +kernel)) (by decide +kernel)
theorem kk_812 : Cond.code yX9_evenings cX9_evenings 1 (some .int) ∈ gtbl := g_in (List.mem_of_getElem? (i := 812) (by decide +kernel)) (by decide +kernel)
theorem kk_810 : Cond.instanceMethod yX9_evenings ∈ gtbl := g_in (List.mem_of_getElem? (i := 810) (by decide +kernel)) (by decide +kernel)
theorem kk_811 : Cond.selects RX9 yX9_evenings yX9_evenings ∈ gtbl := g_in (List.mem_of_getElem? (i := 811) (by decide +kernel)) (by decide +kernel)
theorem kv_X9_266 : KV RX9 266 mX9_evenings 0 := ⟨⟨kk_983, kk_119, kk_812, by decide +kernel⟩, rfl, kk_810, kk_811⟩
theorem kk_984 : Cond.methodLink RX9 269 yX9_ordersCarriedOut ∈ gtbl := g_in (List.mem_of_getElem? (i := 984) (by decide +kernel)) (by decide +kernel)
theorem kk_816 : Cond.code yX9_ordersCarriedOut cX9_ordersCarriedOut 1 (some .int) ∈ gtbl := g_in (List.mem_of_getElem? (i := 816) (by decide +kernel)) (by decide +kernel)
theorem kk_814 : Cond.instanceMethod yX9_ordersCarriedOut ∈ gtbl := g_in (List.mem_of_getElem? (i := 814) (by decide +kernel)) (by decide +kernel)
theorem kk_815 : Cond.selects RX9 yX9_ordersCarriedOut yX9_ordersCarriedOut ∈ gtbl := g_in (List.mem_of_getElem? (i := 815) (by decide +kernel)) (by decide +kernel)
theorem kv_X9_269 : KV RX9 269 mX9_ordersCarriedOut 0 := ⟨⟨kk_984, kk_119, kk_816, by decide +kernel⟩, rfl, kk_814, kk_815⟩
theorem kk_985 : Cond.methodLink RX9 272 yX9_contradictions ∈ gtbl := g_in (List.mem_of_getElem? (i := 985) (by decide +kernel)) (by decide +kernel)
theorem kk_820 : Cond.code yX9_contradictions cX9_contradictions 1 (some .int) ∈ gtbl := g_in (List.mem_of_getElem? (i := 820) (by decide +kernel)) (by decide +kernel)
theorem kk_818 : Cond.instanceMethod yX9_contradictions ∈ gtbl := g_in (List.mem_of_getElem? (i := 818) (by decide +kernel)) (by decide +kernel)
theorem kk_819 : Cond.selects RX9 yX9_contradictions yX9_contradictions ∈ gtbl := g_in (List.mem_of_getElem? (i := 819) (by decide +kernel)) (by decide +kernel)
theorem kv_X9_272 : KV RX9 272 mX9_contradictions 0 := ⟨⟨kk_985, kk_119, kk_820, by decide +kernel⟩, rfl, kk_818, kk_819⟩
theorem kk_986 : Cond.methodLink RX9 275 yX9_liars ∈ gtbl := g_in (List.mem_of_getElem? (i := 986) (by decide +kernel)) (by decide +kernel)
theorem kk_841 : Cond.code yX9_liars cX9_liars 1 (some .int) ∈ gtbl := g_in (List.mem_of_getElem? (i := 841) (by decide +kernel)) (by decide +kernel)
theorem kk_839 : Cond.instanceMethod yX9_liars ∈ gtbl := g_in (List.mem_of_getElem? (i := 839) (by decide +kernel)) (by decide +kernel)
theorem kk_840 : Cond.selects RX9 yX9_liars yX9_liars ∈ gtbl := g_in (List.mem_of_getElem? (i := 840) (by decide +kernel)) (by decide +kernel)
theorem kv_X9_275 : KV RX9 275 mX9_liars 0 := ⟨⟨kk_986, kk_119, kk_841, by decide +kernel⟩, rfl, kk_839, kk_840⟩
theorem kk_987 : Cond.methodLink RX9 278 yX9_smallestSets ∈ gtbl := g_in (List.mem_of_getElem? (i := 987) (by decide +kernel)) (by decide +kernel)
theorem kk_865 : Cond.code yX9_smallestSets cX9_smallestSets 1 (some .int) ∈ gtbl := g_in (List.mem_of_getElem? (i := 865) (by decide +kernel)) (by decide +kernel)
theorem kk_863 : Cond.instanceMethod yX9_smallestSets ∈ gtbl := g_in (List.mem_of_getElem? (i := 863) (by decide +kernel)) (by decide +kernel)
theorem kk_864 : Cond.selects RX9 yX9_smallestSets yX9_smallestSets ∈ gtbl := g_in (List.mem_of_getElem? (i := 864) (by decide +kernel)) (by decide +kernel)
theorem kv_X9_278 : KV RX9 278 mX9_smallestSets 0 := ⟨⟨kk_987, kk_119, kk_865, by decide +kernel⟩, rfl, kk_863, kk_864⟩
theorem kk_988 : Cond.methodLink RX9 281 yX9_hasOrder ∈ gtbl := g_in (List.mem_of_getElem? (i := 988) (by decide +kernel)) (by decide +kernel)
theorem kk_873 : Cond.code yX9_hasOrder cX9_hasOrder 1 (some .boolean) ∈ gtbl := g_in (List.mem_of_getElem? (i := 873) (by decide +kernel)) (by decide +kernel)
theorem kk_871 : Cond.instanceMethod yX9_hasOrder ∈ gtbl := g_in (List.mem_of_getElem? (i := 871) (by decide +kernel)) (by decide +kernel)
theorem kk_872 : Cond.selects RX9 yX9_hasOrder yX9_hasOrder ∈ gtbl := g_in (List.mem_of_getElem? (i := 872) (by decide +kernel)) (by decide +kernel)
theorem kv_X9_281 : KV RX9 281 mX9_hasOrder 0 := ⟨⟨kk_988, kk_119, kk_873, by decide +kernel⟩, rfl, kk_871, kk_872⟩
theorem kk_990 : Cond.methodLink RX9 288 yX9_digestClaims ∈ gtbl := g_in (List.mem_of_getElem? (i := 990) (by decide +kernel)) (by decide +kernel)
theorem kk_993 : Cond.code yX9_digestClaims cX9_digestClaims 6 (some .long) ∈ gtbl := g_in (List.mem_of_getElem? (i := 993) (by decide +kernel)) (by decide +kernel)
theorem kk_992 : Cond.instanceMethod yX9_digestClaims ∈ gtbl := g_in (List.mem_of_getElem? (i := 992) (by decide +kernel)) (by decide +kernel)
theorem kk_41 : Cond.selects RX9 yX9_digestClaims yX9_digestClaims ∈ gtbl := g_in (List.mem_of_getElem? (i := 41) (by decide +kernel)) (by decide +kernel)
theorem kv_X9_288 : KV RX9 288 mX9_digestClaims 1 := ⟨⟨kk_990, kk_119, kk_993, by decide +kernel⟩, rfl, kk_992, kk_41⟩
theorem kk_995 : Cond.methodLink RX9 292 yX9_digestTellers ∈ gtbl := g_in (List.mem_of_getElem? (i := 995) (by decide +kernel)) (by decide +kernel)
theorem kk_998 : Cond.code yX9_digestTellers cX9_digestTellers 8 (some .long) ∈ gtbl := g_in (List.mem_of_getElem? (i := 998) (by decide +kernel)) (by decide +kernel)
theorem kk_997 : Cond.instanceMethod yX9_digestTellers ∈ gtbl := g_in (List.mem_of_getElem? (i := 997) (by decide +kernel)) (by decide +kernel)
theorem kk_42 : Cond.selects RX9 yX9_digestTellers yX9_digestTellers ∈ gtbl := g_in (List.mem_of_getElem? (i := 42) (by decide +kernel)) (by decide +kernel)
theorem kv_X9_292 : KV RX9 292 mX9_digestTellers 1 := ⟨⟨kk_995, kk_119, kk_998, by decide +kernel⟩, rfl, kk_997, kk_42⟩
theorem kk_1002 : Cond.methodLink RX9 295 yX9_digestEvents ∈ gtbl := g_in (List.mem_of_getElem? (i := 1002) (by decide +kernel)) (by decide +kernel)
theorem kk_1005 : Cond.code yX9_digestEvents cX9_digestEvents 8 (some .long) ∈ gtbl := g_in (List.mem_of_getElem? (i := 1005) (by decide +kernel)) (by decide +kernel)
theorem kk_1004 : Cond.instanceMethod yX9_digestEvents ∈ gtbl := g_in (List.mem_of_getElem? (i := 1004) (by decide +kernel)) (by decide +kernel)
theorem kk_43 : Cond.selects RX9 yX9_digestEvents yX9_digestEvents ∈ gtbl := g_in (List.mem_of_getElem? (i := 43) (by decide +kernel)) (by decide +kernel)
theorem kv_X9_295 : KV RX9 295 mX9_digestEvents 1 := ⟨⟨kk_1002, kk_119, kk_1005, by decide +kernel⟩, rfl, kk_1004, kk_43⟩
abbrev mX9_digest : MT := (yX9_digest, cX9_digest, 3, (some .long), [])
