theorem il_5 : ∀ w ∈ u_ws RX5 TX5 1, w ∈ gtbl := fun w hw => g_in ((by decide +kernel : ∀ w ∈ u_ws RX5 TX5 1, w ∈ lw_tbl) w hw) (List.all_eq_true.mp (by decide +kernel : (u_ws RX5 TX5 1).all goodWord = true) w hw)
theorem kk_158 : Cond.fieldLink RX5 7 RX5 "cells" "[I" ∈ gtbl := g_in (List.mem_of_getElem? (i := 158) (by decide +kernel)) (by decide +kernel)
theorem fl_X5_7 : FL RX5 7 5 0 (.array .int) true := ⟨RX5, TX5, 1, tyX5, rfl, by decide, il_5, tyX5_ok, nmX5, rfl, rfl, Or.inl kk_158⟩
theorem il_2 : ∀ w ∈ u_ws RX2 TX2 2, w ∈ gtbl := fun w hw => g_in ((by decide +kernel : ∀ w ∈ u_ws RX2 TX2 2, w ∈ lw_tbl) w hw) (List.all_eq_true.mp (by decide +kernel : (u_ws RX2 TX2 2).all goodWord = true) w hw)
theorem kk_323 : Cond.fieldLink RX2 7 RX2 "words" "[J" ∈ gtbl := g_in (List.mem_of_getElem? (i := 323) (by decide +kernel)) (by decide +kernel)
theorem fl_X2_7 : FL RX2 7 2 0 (.array .long) true := ⟨RX2, TX2, 2, tyX2, rfl, by decide, il_2, tyX2_ok, nmX2, rfl, rfl, Or.inl kk_323⟩
theorem kk_324 : Cond.fieldLink RX2 13 RX2 "count" "I" ∈ gtbl := g_in (List.mem_of_getElem? (i := 324) (by decide +kernel)) (by decide +kernel)
theorem fl_X2_13 : FL RX2 13 2 1 (.int) false := ⟨RX2, TX2, 2, tyX2, rfl, by decide, il_2, tyX2_ok, nmX2, rfl, rfl, Or.inl kk_324⟩
abbrev mX5_get : MT := (yX5_get, cX5_get, 2, (some .int), [])
theorem kk_768 : Cond.methodLink RX5 13 yX5_get ∈ gtbl := g_in (List.mem_of_getElem? (i := 768) (by decide +kernel)) (by decide +kernel)
theorem kk_120 : Cond.initialized RX5 ∈ gtbl := g_in (List.mem_of_getElem? (i := 120) (by decide +kernel)) (by decide +kernel)
theorem kk_546 : Cond.code yX5_get cX5_get 2 (some .int) ∈ gtbl := g_in (List.mem_of_getElem? (i := 546) (by decide +kernel)) (by decide +kernel)
theorem kk_544 : Cond.instanceMethod yX5_get ∈ gtbl := g_in (List.mem_of_getElem? (i := 544) (by decide +kernel)) (by decide +kernel)
theorem kk_545 : Cond.selects RX5 yX5_get yX5_get ∈ gtbl := g_in (List.mem_of_getElem? (i := 545) (by decide +kernel)) (by decide +kernel)
theorem kv_X5_13 : KV RX5 13 mX5_get 1 := ⟨⟨kk_768, kk_120, kk_546, by decide +kernel⟩, rfl, kk_544, kk_545⟩
abbrev mX5_set : MT := (yX5_set, cX5_set, 3, none, [])
abbrev mX5_copyFrom : MT := (yX5_copyFrom, cX5_copyFrom, 3, none, [])
abbrev mX2_isFull : MT := (yX2_isFull, cX2_isFull, 1, (some .boolean), [])
abbrev mX2_add : MT := (yX2_add, cX2_add, 3, none, [])
abbrev mX2_find : MT := (yX2_find, cX2_find, 4, (some .int), [])
abbrev mJ3_checkIndex_8e157 : MT := (yJ3_checkIndex_8e157, cJ3_checkIndex_8e157, 3, (some .int), [])
theorem kk_363 : Cond.methodLink RJ0 1059 yJ3_checkIndex_8e157 ∈ gtbl := g_in (List.mem_of_getElem? (i := 363) (by decide +kernel)) (by decide +kernel)
theorem kk_130 : Cond.initialized RJ3 ∈ gtbl := g_in (List.mem_of_getElem? (i := 130) (by decide +kernel)) (by decide +kernel)
theorem kk_365 : Cond.code yJ3_checkIndex_8e157 cJ3_checkIndex_8e157 3 (some .int) ∈ gtbl := g_in (List.mem_of_getElem? (i := 365) (by decide +kernel)) (by decide +kernel)
theorem kk_364 : Cond.static yJ3_checkIndex_8e157 ∈ gtbl := g_in (List.mem_of_getElem? (i := 364) (by decide +kernel)) (by decide +kernel)
theorem ks_J0_1059 : KS RJ0 1059 mJ3_checkIndex_8e157 3 := ⟨⟨kk_363, kk_130, kk_365, by decide +kernel⟩, rfl, kk_364⟩
abbrev mJ0_checkIndex_df160 : MT := (yJ0_checkIndex_df160, cJ0_checkIndex_df160, 2, none, [])
theorem kk_361 : Cond.fieldLink RJ0 1053 "jdk/internal/util/Preconditions" "SIOOBE_FORMATTER" "Ljava/util/function/BiFunction;" ∈ gtbl := g_in (List.mem_of_getElem? (i := 361) (by decide +kernel)) (by decide +kernel)
theorem il_4 : ∀ w ∈ u_ws RX4 TX4 9, w ∈ gtbl := fun w hw => g_in ((by decide +kernel : ∀ w ∈ u_ws RX4 TX4 9, w ∈ lw_tbl) w hw) (List.all_eq_true.mp (by decide +kernel : (u_ws RX4 TX4 9).all goodWord = true) w hw)
theorem kk_440 : Cond.fieldLink RX4 80 RX4 "at" "I" ∈ gtbl := g_in (List.mem_of_getElem? (i := 440) (by decide +kernel)) (by decide +kernel)
theorem fl_X4_80 : FL RX4 80 4 4 (.int) false := ⟨RX4, TX4, 9, tyX4, rfl, by decide, il_4, tyX4_ok, nmX4, rfl, rfl, Or.inl kk_440⟩
theorem kk_435 : Cond.fieldLink RX4 14 RX4 "tokens" "LStoryTapestry$Tokens;" ∈ gtbl := g_in (List.mem_of_getElem? (i := 435) (by decide +kernel)) (by decide +kernel)
theorem fl_X4_14 : FL RX4 14 4 0 (.object "StoryTapestry$Tokens") true := ⟨RX4, TX4, 9, tyX4, rfl, by decide, il_4, tyX4_ok, nmX4, rfl, rfl, Or.inl kk_435⟩
theorem il_7 : ∀ w ∈ u_ws RX7 TX7 10, w ∈ gtbl := fun w hw => g_in ((by decide +kernel : ∀ w ∈ u_ws RX7 TX7 10, w ∈ lw_tbl) w hw) (List.all_eq_true.mp (by decide +kernel : (u_ws RX7 TX7 10).all goodWord = true) w hw)
theorem kn_398 : Cond.fieldLinkNest RX4 83 RX7 "kinds" "LStoryTapestry$Row;" "StoryTapestry" ∈ gnest := n_in (List.mem_of_getElem? (i := 398) (by decide +kernel)) (by decide +kernel)
theorem fl_X4_83 : FL RX4 83 7 1 (.object "StoryTapestry$Row") true := ⟨RX7, TX7, 10, tyX7, rfl, by decide, il_7, tyX7_ok, nmX7, rfl, rfl, Or.inr ⟨_, kn_398⟩⟩
theorem kk_634 : Cond.methodLink RX4 87 yX5_get ∈ gtbl := g_in (List.mem_of_getElem? (i := 634) (by decide +kernel)) (by decide +kernel)
theorem kv_X4_87 : KV RX4 87 mX5_get 1 := ⟨⟨kk_634, kk_120, kk_546, by decide +kernel⟩, rfl, kk_544, kk_545⟩
theorem kk_441 : Cond.fieldLink RX4 42 RX4 "kind" "I" ∈ gtbl := g_in (List.mem_of_getElem? (i := 441) (by decide +kernel)) (by decide +kernel)
theorem fl_X4_42 : FL RX4 42 4 5 (.int) false := ⟨RX4, TX4, 9, tyX4, rfl, by decide, il_4, tyX4_ok, nmX4, rfl, rfl, Or.inl kk_441⟩
abbrev mX4_advance : MT := (yX4_advance, cX4_advance, 1, none, [])
theorem il_3 : ∀ w ∈ u_ws RX3 TX3 7, w ∈ gtbl := fun w hw => g_in ((by decide +kernel : ∀ w ∈ u_ws RX3 TX3 7, w ∈ lw_tbl) w hw) (List.all_eq_true.mp (by decide +kernel : (u_ws RX3 TX3 7).all goodWord = true) w hw)
theorem kk_230 : Cond.fieldLink RX3 36 RX3 "stepCount" "I" ∈ gtbl := g_in (List.mem_of_getElem? (i := 230) (by decide +kernel)) (by decide +kernel)
theorem fl_X3_36 : FL RX3 36 3 6 (.int) false := ⟨RX3, TX3, 7, tyX3, rfl, by decide, il_3, tyX3_ok, nmX3, rfl, rfl, Or.inl kk_230⟩
theorem kk_223 : Cond.fieldLink RX3 26 RX3 "stepKinds" "LStoryTapestry$Row;" ∈ gtbl := g_in (List.mem_of_getElem? (i := 223) (by decide +kernel)) (by decide +kernel)
theorem fl_X3_26 : FL RX3 26 3 3 (.object "StoryTapestry$Row") true := ⟨RX3, TX3, 7, tyX3, rfl, by decide, il_3, tyX3_ok, nmX3, rfl, rfl, Or.inl kk_223⟩
theorem kk_723 : Cond.methodLink RX3 43 yX5_set ∈ gtbl := g_in (List.mem_of_getElem? (i := 723) (by decide +kernel)) (by decide +kernel)
theorem kk_550 : Cond.code yX5_set cX5_set 3 none ∈ gtbl := g_in (List.mem_of_getElem? (i := 550) (by decide +kernel)) (by decide +kernel)
theorem kk_548 : Cond.instanceMethod yX5_set ∈ gtbl := g_in (List.mem_of_getElem? (i := 548) (by decide +kernel)) (by decide +kernel)
theorem kk_549 : Cond.selects RX5 yX5_set yX5_set ∈ gtbl := g_in (List.mem_of_getElem? (i := 549) (by decide +kernel)) (by decide +kernel)
theorem kv_X3_43 : KV RX3 43 mX5_set 2 := ⟨⟨kk_723, kk_120, kk_550, by decide +kernel⟩, rfl, kk_548, kk_549⟩
theorem kk_225 : Cond.fieldLink RX3 29 RX3 "stepParts" "LStoryTapestry$Row;" ∈ gtbl := g_in (List.mem_of_getElem? (i := 225) (by decide +kernel)) (by decide +kernel)
theorem fl_X3_29 : FL RX3 29 3 4 (.object "StoryTapestry$Row") true := ⟨RX3, TX3, 7, tyX3, rfl, by decide, il_3, tyX3_ok, nmX3, rfl, rfl, Or.inl kk_225⟩
abbrev mX3_addStep : MT := (yX3_addStep, cX3_addStep, 3, none, [])
theorem kk_443 : Cond.fieldLink RX4 46 RX4 "error" "I" ∈ gtbl := g_in (List.mem_of_getElem? (i := 443) (by decide +kernel)) (by decide +kernel)
theorem fl_X4_46 : FL RX4 46 4 7 (.int) false := ⟨RX4, TX4, 9, tyX4, rfl, by decide, il_4, tyX4_ok, nmX4, rfl, rfl, Or.inl kk_443⟩
theorem kn_400 : Cond.fieldLinkNest RX4 99 RX7 "starts" "LStoryTapestry$Row;" "StoryTapestry" ∈ gnest := n_in (List.mem_of_getElem? (i := 400) (by decide +kernel)) (by decide +kernel)
theorem fl_X4_99 : FL RX4 99 7 2 (.object "StoryTapestry$Row") true := ⟨RX7, TX7, 10, tyX7, rfl, by decide, il_7, tyX7_ok, nmX7, rfl, rfl, Or.inr ⟨_, kn_400⟩⟩
theorem kk_444 : Cond.fieldLink RX4 96 RX4 "errorPlace" "I" ∈ gtbl := g_in (List.mem_of_getElem? (i := 444) (by decide +kernel)) (by decide +kernel)
theorem fl_X4_96 : FL RX4 96 4 8 (.int) false := ⟨RX4, TX4, 9, tyX4, rfl, by decide, il_4, tyX4_ok, nmX4, rfl, rfl, Or.inl kk_444⟩
abbrev mX4_note : MT := (yX4_note, cX4_note, 2, none, [])
theorem kk_647 : Cond.methodLink RX4 102 yX4_note ∈ gtbl := g_in (List.mem_of_getElem? (i := 647) (by decide +kernel)) (by decide +kernel)
theorem kk_125 : Cond.initialized RX4 ∈ gtbl := g_in (List.mem_of_getElem? (i := 125) (by decide +kernel)) (by decide +kernel)
theorem kk_650 : Cond.code yX4_note cX4_note 2 none ∈ gtbl := g_in (List.mem_of_getElem? (i := 650) (by decide +kernel)) (by decide +kernel)
theorem kk_649 : Cond.instanceMethod yX4_note ∈ gtbl := g_in (List.mem_of_getElem? (i := 649) (by decide +kernel)) (by decide +kernel)
theorem kk_9 : Cond.selects RX4 yX4_note yX4_note ∈ gtbl := g_in (List.mem_of_getElem? (i := 9) (by decide +kernel)) (by decide +kernel)
theorem kv_X4_102 : KV RX4 102 mX4_note 1 := ⟨⟨kk_647, kk_125, kk_650, by decide +kernel⟩, rfl, kk_649, kk_9⟩
abbrev mX4_fail : MT := (yX4_fail, cX4_fail, 1, none, [])
theorem kk_442 : Cond.fieldLink RX4 93 RX4 "depth" "I" ∈ gtbl := g_in (List.mem_of_getElem? (i := 442) (by decide +kernel)) (by decide +kernel)
theorem fl_X4_93 : FL RX4 93 4 6 (.int) false := ⟨RX4, TX4, 9, tyX4, rfl, by decide, il_4, tyX4_ok, nmX4, rfl, rfl, Or.inl kk_442⟩
theorem kk_639 : Cond.methodLink RX4 105 yX4_advance ∈ gtbl := g_in (List.mem_of_getElem? (i := 639) (by decide +kernel)) (by decide +kernel)
theorem kk_642 : Cond.code yX4_advance cX4_advance 1 none ∈ gtbl := g_in (List.mem_of_getElem? (i := 642) (by decide +kernel)) (by decide +kernel)
theorem kk_641 : Cond.instanceMethod yX4_advance ∈ gtbl := g_in (List.mem_of_getElem? (i := 641) (by decide +kernel)) (by decide +kernel)
theorem kk_7 : Cond.selects RX4 yX4_advance yX4_advance ∈ gtbl := g_in (List.mem_of_getElem? (i := 7) (by decide +kernel)) (by decide +kernel)
theorem kv_X4_105 : KV RX4 105 mX4_advance 0 := ⟨⟨kk_639, kk_125, kk_642, by decide +kernel⟩, rfl, kk_641, kk_7⟩
theorem kk_643 : Cond.methodLink RX4 59 yX4_fail ∈ gtbl := g_in (List.mem_of_getElem? (i := 643) (by decide +kernel)) (by decide +kernel)
theorem kk_646 : Cond.code yX4_fail cX4_fail 1 none ∈ gtbl := g_in (List.mem_of_getElem? (i := 646) (by decide +kernel)) (by decide +kernel)
theorem kk_645 : Cond.instanceMethod yX4_fail ∈ gtbl := g_in (List.mem_of_getElem? (i := 645) (by decide +kernel)) (by decide +kernel)
theorem kk_8 : Cond.selects RX4 yX4_fail yX4_fail ∈ gtbl := g_in (List.mem_of_getElem? (i := 8) (by decide +kernel)) (by decide +kernel)
theorem kv_X4_59 : KV RX4 59 mX4_fail 0 := ⟨⟨kk_643, kk_125, kk_646, by decide +kernel⟩, rfl, kk_645, kk_8⟩
abbrev mX4_deepen : MT := (yX4_deepen, cX4_deepen, 1, (some .boolean), [])
theorem kk_403 : Cond.fieldLink RX7 29 RX7 "words" "[J" ∈ gtbl := g_in (List.mem_of_getElem? (i := 403) (by decide +kernel)) (by decide +kernel)
theorem fl_X7_29 : FL RX7 29 7 4 (.array .long) true := ⟨RX7, TX7, 10, tyX7, rfl, by decide, il_7, tyX7_ok, nmX7, rfl, rfl, Or.inl kk_403⟩
abbrev mX7_wordAt : MT := (yX7_wordAt, cX7_wordAt, 2, (some .long), [])
theorem kk_651 : Cond.methodLink RX4 108 yX7_wordAt ∈ gtbl := g_in (List.mem_of_getElem? (i := 651) (by decide +kernel)) (by decide +kernel)
theorem kk_126 : Cond.initialized RX7 ∈ gtbl := g_in (List.mem_of_getElem? (i := 126) (by decide +kernel)) (by decide +kernel)
theorem kk_654 : Cond.code yX7_wordAt cX7_wordAt 2 (some .long) ∈ gtbl := g_in (List.mem_of_getElem? (i := 654) (by decide +kernel)) (by decide +kernel)
theorem kk_652 : Cond.instanceMethod yX7_wordAt ∈ gtbl := g_in (List.mem_of_getElem? (i := 652) (by decide +kernel)) (by decide +kernel)
theorem kk_653 : Cond.selects RX7 yX7_wordAt yX7_wordAt ∈ gtbl := g_in (List.mem_of_getElem? (i := 653) (by decide +kernel)) (by decide +kernel)
theorem kv_X4_108 : KV RX4 108 mX7_wordAt 1 := ⟨⟨kk_651, kk_126, kk_654, by decide +kernel⟩, rfl, kk_652, kk_653⟩
theorem kk_655 : Cond.methodLink RX4 112 yX2_find ∈ gtbl := g_in (List.mem_of_getElem? (i := 655) (by decide +kernel)) (by decide +kernel)
theorem kk_127 : Cond.initialized RX2 ∈ gtbl := g_in (List.mem_of_getElem? (i := 127) (by decide +kernel)) (by decide +kernel)
theorem kk_565 : Cond.code yX2_find cX2_find 4 (some .int) ∈ gtbl := g_in (List.mem_of_getElem? (i := 565) (by decide +kernel)) (by decide +kernel)
theorem kk_563 : Cond.instanceMethod yX2_find ∈ gtbl := g_in (List.mem_of_getElem? (i := 563) (by decide +kernel)) (by decide +kernel)
theorem kk_564 : Cond.selects RX2 yX2_find yX2_find ∈ gtbl := g_in (List.mem_of_getElem? (i := 564) (by decide +kernel)) (by decide +kernel)
theorem kv_X4_112 : KV RX4 112 mX2_find 1 := ⟨⟨kk_655, kk_127, kk_565, by decide +kernel⟩, rfl, kk_563, kk_564⟩
abbrev mX4_readKnown : MT := (yX4_readKnown, cX4_readKnown, 3, (some .int), [])
theorem kk_439 : Cond.fieldLink RX4 36 RX4 "tellerNames" "LStoryTapestry$Names;" ∈ gtbl := g_in (List.mem_of_getElem? (i := 439) (by decide +kernel)) (by decide +kernel)
theorem fl_X4_36 : FL RX4 36 4 3 (.object "StoryTapestry$Names") true := ⟨RX4, TX4, 9, tyX4, rfl, by decide, il_4, tyX4_ok, nmX4, rfl, rfl, Or.inl kk_439⟩
theorem kk_669 : Cond.methodLink RX4 131 yX4_readKnown ∈ gtbl := g_in (List.mem_of_getElem? (i := 669) (by decide +kernel)) (by decide +kernel)
theorem kk_672 : Cond.code yX4_readKnown cX4_readKnown 3 (some .int) ∈ gtbl := g_in (List.mem_of_getElem? (i := 672) (by decide +kernel)) (by decide +kernel)
theorem kk_671 : Cond.instanceMethod yX4_readKnown ∈ gtbl := g_in (List.mem_of_getElem? (i := 671) (by decide +kernel)) (by decide +kernel)
theorem kk_11 : Cond.selects RX4 yX4_readKnown yX4_readKnown ∈ gtbl := g_in (List.mem_of_getElem? (i := 11) (by decide +kernel)) (by decide +kernel)
theorem kv_X4_131 : KV RX4 131 mX4_readKnown 1 := ⟨⟨kk_669, kk_125, kk_672, by decide +kernel⟩, rfl, kk_671, kk_11⟩
theorem kk_436 : Cond.fieldLink RX4 23 RX4 "draft" "LStoryTapestry$Tapestry;" ∈ gtbl := g_in (List.mem_of_getElem? (i := 436) (by decide +kernel)) (by decide +kernel)
theorem fl_X4_23 : FL RX4 23 4 1 (.object "StoryTapestry$Tapestry") true := ⟨RX4, TX4, 9, tyX4, rfl, by decide, il_4, tyX4_ok, nmX4, rfl, rfl, Or.inl kk_436⟩
theorem il_6 : ∀ w ∈ u_ws RX6 TX6 4, w ∈ gtbl := fun w hw => g_in ((by decide +kernel : ∀ w ∈ u_ws RX6 TX6 4, w ∈ lw_tbl) w hw) (List.all_eq_true.mp (by decide +kernel : (u_ws RX6 TX6 4).all goodWord = true) w hw)
theorem kn_254 : Cond.fieldLinkNest RX4 151 RX6 "orders" "LStoryTapestry$Orders;" "StoryTapestry" ∈ gnest := n_in (List.mem_of_getElem? (i := 254) (by decide +kernel)) (by decide +kernel)
theorem fl_X4_151 : FL RX4 151 6 1 (.object "StoryTapestry$Orders") true := ⟨RX6, TX6, 4, tyX6, rfl, by decide, il_6, tyX6_ok, nmX6, rfl, rfl, Or.inr ⟨_, kn_254⟩⟩
theorem kk_719 : Cond.methodLink RX4 167 yX3_addStep ∈ gtbl := g_in (List.mem_of_getElem? (i := 719) (by decide +kernel)) (by decide +kernel)
theorem kk_123 : Cond.initialized RX3 ∈ gtbl := g_in (List.mem_of_getElem? (i := 123) (by decide +kernel)) (by decide +kernel)
theorem kk_722 : Cond.code yX3_addStep cX3_addStep 3 none ∈ gtbl := g_in (List.mem_of_getElem? (i := 722) (by decide +kernel)) (by decide +kernel)
theorem kk_720 : Cond.instanceMethod yX3_addStep ∈ gtbl := g_in (List.mem_of_getElem? (i := 720) (by decide +kernel)) (by decide +kernel)
theorem kk_721 : Cond.selects RX3 yX3_addStep yX3_addStep ∈ gtbl := g_in (List.mem_of_getElem? (i := 721) (by decide +kernel)) (by decide +kernel)
theorem kv_X4_167 : KV RX4 167 mX3_addStep 2 := ⟨⟨kk_719, kk_123, kk_722, by decide +kernel⟩, rfl, kk_720, kk_721⟩
abbrev mX4_readTwoTellers : MT := (yX4_readTwoTellers, cX4_readTwoTellers, 3, none, [])
abbrev mX4_expect : MT := (yX4_expect, cX4_expect, 2, none, [])
abbrev mX4_readBoth : MT := (yX4_readBoth, cX4_readBoth, 2, none, [])
theorem kk_707 : Cond.methodLink RX4 164 yX4_readBoth ∈ gtbl := g_in (List.mem_of_getElem? (i := 707) (by decide +kernel)) (by decide +kernel)
theorem kk_710 : Cond.code yX4_readBoth cX4_readBoth 2 none ∈ gtbl := g_in (List.mem_of_getElem? (i := 710) (by decide +kernel)) (by decide +kernel)
theorem kk_709 : Cond.instanceMethod yX4_readBoth ∈ gtbl := g_in (List.mem_of_getElem? (i := 709) (by decide +kernel)) (by decide +kernel)
theorem kk_18 : Cond.selects RX4 yX4_readBoth yX4_readBoth ∈ gtbl := g_in (List.mem_of_getElem? (i := 18) (by decide +kernel)) (by decide +kernel)
theorem kv_X4_164 : KV RX4 164 mX4_readBoth 0 := ⟨⟨kk_707, kk_125, kk_710, by decide +kernel⟩, rfl, kk_709, kk_18⟩
abbrev mX4_readSingle : MT := (yX4_readSingle, cX4_readSingle, 2, none, [])
theorem kk_711 : Cond.methodLink RX4 170 yX4_readSingle ∈ gtbl := g_in (List.mem_of_getElem? (i := 711) (by decide +kernel)) (by decide +kernel)
theorem kk_714 : Cond.code yX4_readSingle cX4_readSingle 2 none ∈ gtbl := g_in (List.mem_of_getElem? (i := 714) (by decide +kernel)) (by decide +kernel)
theorem kk_713 : Cond.instanceMethod yX4_readSingle ∈ gtbl := g_in (List.mem_of_getElem? (i := 713) (by decide +kernel)) (by decide +kernel)
theorem kk_19 : Cond.selects RX4 yX4_readSingle yX4_readSingle ∈ gtbl := g_in (List.mem_of_getElem? (i := 19) (by decide +kernel)) (by decide +kernel)
theorem kv_X4_170 : KV RX4 170 mX4_readSingle 0 := ⟨⟨kk_711, kk_125, kk_714, by decide +kernel⟩, rfl, kk_713, kk_19⟩
theorem kk_715 : Cond.methodLink RX4 173 yX4_deepen ∈ gtbl := g_in (List.mem_of_getElem? (i := 715) (by decide +kernel)) (by decide +kernel)
theorem kk_718 : Cond.code yX4_deepen cX4_deepen 1 (some .boolean) ∈ gtbl := g_in (List.mem_of_getElem? (i := 718) (by decide +kernel)) (by decide +kernel)
theorem kk_717 : Cond.instanceMethod yX4_deepen ∈ gtbl := g_in (List.mem_of_getElem? (i := 717) (by decide +kernel)) (by decide +kernel)
theorem kk_20 : Cond.selects RX4 yX4_deepen yX4_deepen ∈ gtbl := g_in (List.mem_of_getElem? (i := 20) (by decide +kernel)) (by decide +kernel)
theorem kv_X4_173 : KV RX4 173 mX4_deepen 0 := ⟨⟨kk_715, kk_125, kk_718, by decide +kernel⟩, rfl, kk_717, kk_20⟩
abbrev mX4_readTest : MT := (yX4_readTest, cX4_readTest, 2, none, [])
theorem kk_703 : Cond.methodLink RX4 158 yX4_readTest ∈ gtbl := g_in (List.mem_of_getElem? (i := 703) (by decide +kernel)) (by decide +kernel)
theorem kk_706 : Cond.code yX4_readTest cX4_readTest 2 none ∈ gtbl := g_in (List.mem_of_getElem? (i := 706) (by decide +kernel)) (by decide +kernel)
theorem kk_705 : Cond.instanceMethod yX4_readTest ∈ gtbl := g_in (List.mem_of_getElem? (i := 705) (by decide +kernel)) (by decide +kernel)
theorem kk_17 : Cond.selects RX4 yX4_readTest yX4_readTest ∈ gtbl := g_in (List.mem_of_getElem? (i := 17) (by decide +kernel)) (by decide +kernel)
theorem kv_X4_158 : KV RX4 158 mX4_readTest 0 := ⟨⟨kk_703, kk_125, kk_706, by decide +kernel⟩, rfl, kk_705, kk_17⟩
theorem kk_681 : Cond.methodLink RX4 62 yX4_expect ∈ gtbl := g_in (List.mem_of_getElem? (i := 681) (by decide +kernel)) (by decide +kernel)
theorem kk_684 : Cond.code yX4_expect cX4_expect 2 none ∈ gtbl := g_in (List.mem_of_getElem? (i := 684) (by decide +kernel)) (by decide +kernel)
theorem kk_683 : Cond.instanceMethod yX4_expect ∈ gtbl := g_in (List.mem_of_getElem? (i := 683) (by decide +kernel)) (by decide +kernel)
theorem kk_14 : Cond.selects RX4 yX4_expect yX4_expect ∈ gtbl := g_in (List.mem_of_getElem? (i := 14) (by decide +kernel)) (by decide +kernel)
theorem kv_X4_62 : KV RX4 62 mX4_expect 1 := ⟨⟨kk_681, kk_125, kk_684, by decide +kernel⟩, rfl, kk_683, kk_14⟩
theorem kk_724 : Cond.methodLink RX4 176 yX4_readTwoTellers ∈ gtbl := g_in (List.mem_of_getElem? (i := 724) (by decide +kernel)) (by decide +kernel)
theorem kk_727 : Cond.code yX4_readTwoTellers cX4_readTwoTellers 3 none ∈ gtbl := g_in (List.mem_of_getElem? (i := 727) (by decide +kernel)) (by decide +kernel)
theorem kk_726 : Cond.instanceMethod yX4_readTwoTellers ∈ gtbl := g_in (List.mem_of_getElem? (i := 726) (by decide +kernel)) (by decide +kernel)
theorem kk_21 : Cond.selects RX4 yX4_readTwoTellers yX4_readTwoTellers ∈ gtbl := g_in (List.mem_of_getElem? (i := 21) (by decide +kernel)) (by decide +kernel)
theorem kv_X4_176 : KV RX4 176 mX4_readTwoTellers 0 := ⟨⟨kk_724, kk_125, kk_727, by decide +kernel⟩, rfl, kk_726, kk_21⟩
theorem kk_438 : Cond.fieldLink RX4 32 RX4 "eventNames" "LStoryTapestry$Names;" ∈ gtbl := g_in (List.mem_of_getElem? (i := 438) (by decide +kernel)) (by decide +kernel)
theorem fl_X4_32 : FL RX4 32 4 2 (.object "StoryTapestry$Names") true := ⟨RX4, TX4, 9, tyX4, rfl, by decide, il_4, tyX4_ok, nmX4, rfl, rfl, Or.inl kk_438⟩
abbrev mX4_readSum : MT := (yX4_readSum, cX4_readSum, 3, none, [])
theorem kk_728 : Cond.methodLink RX4 179 yX4_readSum ∈ gtbl := g_in (List.mem_of_getElem? (i := 728) (by decide +kernel)) (by decide +kernel)
theorem kk_731 : Cond.code yX4_readSum cX4_readSum 3 none ∈ gtbl := g_in (List.mem_of_getElem? (i := 731) (by decide +kernel)) (by decide +kernel)
theorem kk_730 : Cond.instanceMethod yX4_readSum ∈ gtbl := g_in (List.mem_of_getElem? (i := 730) (by decide +kernel)) (by decide +kernel)
theorem kk_22 : Cond.selects RX4 yX4_readSum yX4_readSum ∈ gtbl := g_in (List.mem_of_getElem? (i := 22) (by decide +kernel)) (by decide +kernel)
theorem kv_X4_179 : KV RX4 179 mX4_readSum 0 := ⟨⟨kk_728, kk_125, kk_731, by decide +kernel⟩, rfl, kk_730, kk_22⟩
abbrev mX4_readCompared : MT := (yX4_readCompared, cX4_readCompared, 2, none, [])
theorem kk_744 : Cond.methodLink RX4 182 yX4_readCompared ∈ gtbl := g_in (List.mem_of_getElem? (i := 744) (by decide +kernel)) (by decide +kernel)
theorem kk_747 : Cond.code yX4_readCompared cX4_readCompared 2 none ∈ gtbl := g_in (List.mem_of_getElem? (i := 747) (by decide +kernel)) (by decide +kernel)
theorem kk_746 : Cond.instanceMethod yX4_readCompared ∈ gtbl := g_in (List.mem_of_getElem? (i := 746) (by decide +kernel)) (by decide +kernel)
theorem kk_26 : Cond.selects RX4 yX4_readCompared yX4_readCompared ∈ gtbl := g_in (List.mem_of_getElem? (i := 26) (by decide +kernel)) (by decide +kernel)
theorem kv_X4_182 : KV RX4 182 mX4_readCompared 0 := ⟨⟨kk_744, kk_125, kk_747, by decide +kernel⟩, rfl, kk_746, kk_26⟩
abbrev mX4_readProduct : MT := (yX4_readProduct, cX4_readProduct, 3, none, [])
theorem kk_732 : Cond.methodLink RX4 185 yX4_readProduct ∈ gtbl := g_in (List.mem_of_getElem? (i := 732) (by decide +kernel)) (by decide +kernel)
theorem kk_735 : Cond.code yX4_readProduct cX4_readProduct 3 none ∈ gtbl := g_in (List.mem_of_getElem? (i := 735) (by decide +kernel)) (by decide +kernel)
theorem kk_734 : Cond.instanceMethod yX4_readProduct ∈ gtbl := g_in (List.mem_of_getElem? (i := 734) (by decide +kernel)) (by decide +kernel)
theorem kk_23 : Cond.selects RX4 yX4_readProduct yX4_readProduct ∈ gtbl := g_in (List.mem_of_getElem? (i := 23) (by decide +kernel)) (by decide +kernel)
theorem kv_X4_185 : KV RX4 185 mX4_readProduct 0 := ⟨⟨kk_732, kk_125, kk_735, by decide +kernel⟩, rfl, kk_734, kk_23⟩
abbrev mX4_readValue : MT := (yX4_readValue, cX4_readValue, 2, none, [])
theorem kk_736 : Cond.methodLink RX4 188 yX4_readValue ∈ gtbl := g_in (List.mem_of_getElem? (i := 736) (by decide +kernel)) (by decide +kernel)
theorem kk_739 : Cond.code yX4_readValue cX4_readValue 2 none ∈ gtbl := g_in (List.mem_of_getElem? (i := 739) (by decide +kernel)) (by decide +kernel)
theorem kk_738 : Cond.instanceMethod yX4_readValue ∈ gtbl := g_in (List.mem_of_getElem? (i := 738) (by decide +kernel)) (by decide +kernel)
theorem kk_24 : Cond.selects RX4 yX4_readValue yX4_readValue ∈ gtbl := g_in (List.mem_of_getElem? (i := 24) (by decide +kernel)) (by decide +kernel)
theorem kv_X4_188 : KV RX4 188 mX4_readValue 0 := ⟨⟨kk_736, kk_125, kk_739, by decide +kernel⟩, rfl, kk_738, kk_24⟩
theorem kn_402 : Cond.fieldLinkNest RX4 148 RX7 "numbers" "LStoryTapestry$Row;" "StoryTapestry" ∈ gnest := n_in (List.mem_of_getElem? (i := 402) (by decide +kernel)) (by decide +kernel)
theorem fl_X4_148 : FL RX4 148 7 3 (.object "StoryTapestry$Row") true := ⟨RX7, TX7, 10, tyX7, rfl, by decide, il_7, tyX7_ok, nmX7, rfl, rfl, Or.inr ⟨_, kn_402⟩⟩
abbrev mX4_readTwoSums : MT := (yX4_readTwoSums, cX4_readTwoSums, 1, none, [])
theorem kk_740 : Cond.methodLink RX4 191 yX4_readTwoSums ∈ gtbl := g_in (List.mem_of_getElem? (i := 740) (by decide +kernel)) (by decide +kernel)
theorem kk_743 : Cond.code yX4_readTwoSums cX4_readTwoSums 1 none ∈ gtbl := g_in (List.mem_of_getElem? (i := 743) (by decide +kernel)) (by decide +kernel)
theorem kk_742 : Cond.instanceMethod yX4_readTwoSums ∈ gtbl := g_in (List.mem_of_getElem? (i := 742) (by decide +kernel)) (by decide +kernel)
theorem kk_25 : Cond.selects RX4 yX4_readTwoSums yX4_readTwoSums ∈ gtbl := g_in (List.mem_of_getElem? (i := 25) (by decide +kernel)) (by decide +kernel)
theorem kv_X4_191 : KV RX4 191 mX4_readTwoSums 0 := ⟨⟨kk_740, kk_125, kk_743, by decide +kernel⟩, rfl, kk_742, kk_25⟩
theorem il_9 : ∀ w ∈ u_ws RX9 TX9 8, w ∈ gtbl := fun w hw => g_in ((by decide +kernel : ∀ w ∈ u_ws RX9 TX9 8, w ∈ lw_tbl) w hw) (List.all_eq_true.mp (by decide +kernel : (u_ws RX9 TX9 8).all goodWord = true) w hw)
theorem kk_498 : Cond.fieldLink RX9 22 RX9 "tape" "LStoryTapestry$Row;" ∈ gtbl := g_in (List.mem_of_getElem? (i := 498) (by decide +kernel)) (by decide +kernel)
theorem fl_X9_22 : FL RX9 22 9 0 (.object "StoryTapestry$Row") true := ⟨RX9, TX9, 8, tyX9, rfl, by decide, il_9, tyX9_ok, nmX9, rfl, rfl, Or.inl kk_498⟩
theorem kk_504 : Cond.fieldLink RX9 55 RX9 "tapeSize" "I" ∈ gtbl := g_in (List.mem_of_getElem? (i := 504) (by decide +kernel)) (by decide +kernel)
theorem fl_X9_55 : FL RX9 55 9 6 (.int) false := ⟨RX9, TX9, 8, tyX9, rfl, by decide, il_9, tyX9_ok, nmX9, rfl, rfl, Or.inl kk_504⟩
theorem kk_1088 : Cond.methodLink RX9 72 yX5_set ∈ gtbl := g_in (List.mem_of_getElem? (i := 1088) (by decide +kernel)) (by decide +kernel)
theorem kv_X9_72 : KV RX9 72 mX5_set 2 := ⟨⟨kk_1088, kk_120, kk_550, by decide +kernel⟩, rfl, kk_548, kk_549⟩
abbrev mX9_appendBytes : MT := (yX9_appendBytes, cX9_appendBytes, 3, none, [])
theorem kk_1084 : Cond.methodLink RX9 69 yX9_appendBytes ∈ gtbl := g_in (List.mem_of_getElem? (i := 1084) (by decide +kernel)) (by decide +kernel)
theorem kk_119 : Cond.initialized RX9 ∈ gtbl := g_in (List.mem_of_getElem? (i := 119) (by decide +kernel)) (by decide +kernel)
theorem kk_1087 : Cond.code yX9_appendBytes cX9_appendBytes 3 none ∈ gtbl := g_in (List.mem_of_getElem? (i := 1087) (by decide +kernel)) (by decide +kernel)
theorem kk_1086 : Cond.instanceMethod yX9_appendBytes ∈ gtbl := g_in (List.mem_of_getElem? (i := 1086) (by decide +kernel)) (by decide +kernel)
theorem kk_45 : Cond.selects RX9 yX9_appendBytes yX9_appendBytes ∈ gtbl := g_in (List.mem_of_getElem? (i := 45) (by decide +kernel)) (by decide +kernel)
theorem kv_X9_69 : KV RX9 69 mX9_appendBytes 1 := ⟨⟨kk_1084, kk_119, kk_1087, by decide +kernel⟩, rfl, kk_1086, kk_45⟩
theorem kk_1017 : Cond.classLink RX9 62 "java/lang/IllegalStateException" ∈ gtbl := g_in (List.mem_of_getElem? (i := 1017) (by decide +kernel)) (by decide +kernel)
theorem kk_138 : Cond.initialized "java/lang/IllegalStateException" ∈ gtbl := g_in (List.mem_of_getElem? (i := 138) (by decide +kernel)) (by decide +kernel)
theorem at_X9_66 : ∀ w ∈ (vx_atS RX9 66 "java/lang/IllegalStateException" ["java/lang/RuntimeException", "java/lang/Exception"]), w ∈ gtbl ∨ w ∈ gnest := by decide +kernel
theorem at_X9_66o : ∀ w ∈ Cond.classLink RX9 62 "java/lang/IllegalStateException" :: Cond.initialized "java/lang/IllegalStateException" :: (vx_atS RX9 66 "java/lang/IllegalStateException" ["java/lang/RuntimeException", "java/lang/Exception"]), vx_ot w = true := by decide +kernel
theorem kx_X9_62_64_66 : KT RX9 62 66 64 "java/lang/IllegalStateException" ["java/lang/RuntimeException", "java/lang/Exception"] 2 "the tape is full" := ⟨by decide +kernel, by decide +kernel, kk_1017, kk_138, rfl, at_X9_66, at_X9_66o, rfl⟩
abbrev mX9_feed : MT := (yX9_feed, cX9_feed, 6, (some .int), [])
theorem kk_1097 : Cond.classLink RX9 76 "java/lang/IllegalArgumentException" ∈ gtbl := g_in (List.mem_of_getElem? (i := 1097) (by decide +kernel)) (by decide +kernel)
theorem kk_139 : Cond.initialized "java/lang/IllegalArgumentException" ∈ gtbl := g_in (List.mem_of_getElem? (i := 139) (by decide +kernel)) (by decide +kernel)
theorem at_X9_80 : ∀ w ∈ (vx_atS RX9 80 "java/lang/IllegalArgumentException" ["java/lang/RuntimeException", "java/lang/Exception"]), w ∈ gtbl ∨ w ∈ gnest := by decide +kernel
theorem at_X9_80o : ∀ w ∈ Cond.classLink RX9 76 "java/lang/IllegalArgumentException" :: Cond.initialized "java/lang/IllegalArgumentException" :: (vx_atS RX9 80 "java/lang/IllegalArgumentException" ["java/lang/RuntimeException", "java/lang/Exception"]), vx_ot w = true := by decide +kernel
theorem kx_X9_76_78_80 : KT RX9 76 80 78 "java/lang/IllegalArgumentException" ["java/lang/RuntimeException", "java/lang/Exception"] 3 "not 0 to the bytes of the tape" := ⟨by decide +kernel, by decide +kernel, kk_1097, kk_139, rfl, at_X9_80, at_X9_80o, rfl⟩
abbrev mX9_trim : MT := (yX9_trim, cX9_trim, 2, (some .int), [])
theorem kk_406 : Cond.fieldLink RX7 67 RX7 "place" "I" ∈ gtbl := g_in (List.mem_of_getElem? (i := 406) (by decide +kernel)) (by decide +kernel)
theorem fl_X7_67 : FL RX7 67 7 7 (.int) false := ⟨RX7, TX7, 10, tyX7, rfl, by decide, il_7, tyX7_ok, nmX7, rfl, rfl, Or.inl kk_406⟩
theorem kk_405 : Cond.fieldLink RX7 63 RX7 "size" "I" ∈ gtbl := g_in (List.mem_of_getElem? (i := 405) (by decide +kernel)) (by decide +kernel)
theorem fl_X7_63 : FL RX7 63 7 6 (.int) false := ⟨RX7, TX7, 10, tyX7, rfl, by decide, il_7, tyX7_ok, nmX7, rfl, rfl, Or.inl kk_405⟩
theorem kk_396 : Cond.fieldLink RX7 9 RX7 "tape" "LStoryTapestry$Row;" ∈ gtbl := g_in (List.mem_of_getElem? (i := 396) (by decide +kernel)) (by decide +kernel)
theorem fl_X7_9 : FL RX7 9 7 0 (.object "StoryTapestry$Row") true := ⟨RX7, TX7, 10, tyX7, rfl, by decide, il_7, tyX7_ok, nmX7, rfl, rfl, Or.inl kk_396⟩
theorem kk_543 : Cond.methodLink RX7 87 yX5_get ∈ gtbl := g_in (List.mem_of_getElem? (i := 543) (by decide +kernel)) (by decide +kernel)
theorem kv_X7_87 : KV RX7 87 mX5_get 1 := ⟨⟨kk_543, kk_120, kk_546, by decide +kernel⟩, rfl, kk_544, kk_545⟩
abbrev mX7_skipBlanks : MT := (yX7_skipBlanks, cX7_skipBlanks, 1, none, [])
abbrev mX7_isLetter : MT := (yX7_isLetter, cX7_isLetter, 1, (some .boolean), [])
abbrev mX7_isDigit : MT := (yX7_isDigit, cX7_isDigit, 1, (some .boolean), [])
theorem kk_345 : Cond.fieldLink RJ0 38 "java/lang/String" "COMPACT_STRINGS" "Z" ∈ gtbl := g_in (List.mem_of_getElem? (i := 345) (by decide +kernel)) (by decide +kernel)
theorem kk_1968 : Cond.fieldLink RJ0 15 "java/lang/String" "coder" "B" ∈ gtbl := g_in (List.mem_of_getElem? (i := 1968) (by decide +kernel)) (by decide +kernel)
abbrev mJ0_isLatin1_aae02 : MT := (yJ0_isLatin1_aae02, cJ0_isLatin1_aae02, 1, (some .boolean), [])
abbrev mJ0_coder_7d493 : MT := (yJ0_coder_7d493, cJ0_coder_7d493, 1, (some .byte), [])
theorem kk_1967 : Cond.fieldLink RJ0 9 "java/lang/String" "value" "[B" ∈ gtbl := g_in (List.mem_of_getElem? (i := 1967) (by decide +kernel)) (by decide +kernel)
theorem kk_341 : Cond.methodLink RJ0 335 yJ0_coder_7d493 ∈ gtbl := g_in (List.mem_of_getElem? (i := 341) (by decide +kernel)) (by decide +kernel)
theorem kk_128 : Cond.initialized RJ0 ∈ gtbl := g_in (List.mem_of_getElem? (i := 128) (by decide +kernel)) (by decide +kernel)
theorem kk_344 : Cond.code yJ0_coder_7d493 cJ0_coder_7d493 1 (some .byte) ∈ gtbl := g_in (List.mem_of_getElem? (i := 344) (by decide +kernel)) (by decide +kernel)
theorem kk_342 : Cond.instanceMethod yJ0_coder_7d493 ∈ gtbl := g_in (List.mem_of_getElem? (i := 342) (by decide +kernel)) (by decide +kernel)
theorem kk_343 : Cond.selects RJ0 yJ0_coder_7d493 yJ0_coder_7d493 ∈ gtbl := g_in (List.mem_of_getElem? (i := 343) (by decide +kernel)) (by decide +kernel)
theorem kv_J0_335 : KV RJ0 335 mJ0_coder_7d493 0 := ⟨⟨kk_341, kk_128, kk_344, by decide +kernel⟩, rfl, kk_342, kk_343⟩
abbrev mJ0_length_8abf5 : MT := (yJ0_length_8abf5, cJ0_length_8abf5, 1, (some .int), [])
abbrev mJ1_canEncode_9a6ad : MT := (yJ1_canEncode_9a6ad, cJ1_canEncode_9a6ad, 1, (some .boolean), [])
abbrev mJ1_indexOfChar_4cfef : MT := (yJ1_indexOfChar_4cfef, cJ1_indexOfChar_4cfef, 6, (some .int), [])
theorem kk_583 : Cond.methodLink RJ1 88 yJ1_canEncode_9a6ad ∈ gtbl := g_in (List.mem_of_getElem? (i := 583) (by decide +kernel)) (by decide +kernel)
theorem kk_129 : Cond.initialized RJ1 ∈ gtbl := g_in (List.mem_of_getElem? (i := 129) (by decide +kernel)) (by decide +kernel)
theorem kk_585 : Cond.code yJ1_canEncode_9a6ad cJ1_canEncode_9a6ad 1 (some .boolean) ∈ gtbl := g_in (List.mem_of_getElem? (i := 585) (by decide +kernel)) (by decide +kernel)
theorem kk_584 : Cond.static yJ1_canEncode_9a6ad ∈ gtbl := g_in (List.mem_of_getElem? (i := 584) (by decide +kernel)) (by decide +kernel)
theorem ks_J1_88 : KS RJ1 88 mJ1_canEncode_9a6ad 1 := ⟨⟨kk_583, kk_129, kk_585, by decide +kernel⟩, rfl, kk_584⟩
abbrev mJ9_max_7cf53 : MT := (yJ9_max_7cf53, cJ9_max_7cf53, 2, (some .int), [])
theorem kk_586 : Cond.methodLink RJ1 92 yJ9_max_7cf53 ∈ gtbl := g_in (List.mem_of_getElem? (i := 586) (by decide +kernel)) (by decide +kernel)
theorem kk_140 : Cond.initialized RJ9 ∈ gtbl := g_in (List.mem_of_getElem? (i := 140) (by decide +kernel)) (by decide +kernel)
theorem kk_588 : Cond.code yJ9_max_7cf53 cJ9_max_7cf53 2 (some .int) ∈ gtbl := g_in (List.mem_of_getElem? (i := 588) (by decide +kernel)) (by decide +kernel)
theorem kk_587 : Cond.static yJ9_max_7cf53 ∈ gtbl := g_in (List.mem_of_getElem? (i := 587) (by decide +kernel)) (by decide +kernel)
theorem ks_J1_92 : KS RJ1 92 mJ9_max_7cf53 2 := ⟨⟨kk_586, kk_140, kk_588, by decide +kernel⟩, rfl, kk_587⟩
abbrev mJ9_min_7cf53 : MT := (yJ9_min_7cf53, cJ9_min_7cf53, 2, (some .int), [])
theorem kk_589 : Cond.methodLink RJ1 38 yJ9_min_7cf53 ∈ gtbl := g_in (List.mem_of_getElem? (i := 589) (by decide +kernel)) (by decide +kernel)
theorem kk_591 : Cond.code yJ9_min_7cf53 cJ9_min_7cf53 2 (some .int) ∈ gtbl := g_in (List.mem_of_getElem? (i := 591) (by decide +kernel)) (by decide +kernel)
theorem kk_590 : Cond.static yJ9_min_7cf53 ∈ gtbl := g_in (List.mem_of_getElem? (i := 590) (by decide +kernel)) (by decide +kernel)
theorem ks_J1_38 : KS RJ1 38 mJ9_min_7cf53 2 := ⟨⟨kk_589, kk_140, kk_591, by decide +kernel⟩, rfl, kk_590⟩
theorem kk_592 : Cond.methodLink RJ1 95 yJ1_indexOfChar_4cfef ∈ gtbl := g_in (List.mem_of_getElem? (i := 592) (by decide +kernel)) (by decide +kernel)
theorem kk_594 : Cond.code yJ1_indexOfChar_4cfef cJ1_indexOfChar_4cfef 6 (some .int) ∈ gtbl := g_in (List.mem_of_getElem? (i := 594) (by decide +kernel)) (by decide +kernel)
theorem kk_593 : Cond.static yJ1_indexOfChar_4cfef ∈ gtbl := g_in (List.mem_of_getElem? (i := 593) (by decide +kernel)) (by decide +kernel)
theorem ks_J1_95 : KS RJ1 95 mJ1_indexOfChar_4cfef 4 := ⟨⟨kk_592, kk_129, kk_594, by decide +kernel⟩, rfl, kk_593⟩
abbrev mJ1_indexOf_4cfef : MT := (yJ1_indexOf_4cfef, cJ1_indexOf_4cfef, 4, (some .int), [])
theorem kk_351 : Cond.methodLink RJ0 492 yJ0_isLatin1_aae02 ∈ gtbl := g_in (List.mem_of_getElem? (i := 351) (by decide +kernel)) (by decide +kernel)
theorem kk_354 : Cond.code yJ0_isLatin1_aae02 cJ0_isLatin1_aae02 1 (some .boolean) ∈ gtbl := g_in (List.mem_of_getElem? (i := 354) (by decide +kernel)) (by decide +kernel)
theorem kk_352 : Cond.instanceMethod yJ0_isLatin1_aae02 ∈ gtbl := g_in (List.mem_of_getElem? (i := 352) (by decide +kernel)) (by decide +kernel)
theorem kk_353 : Cond.selects RJ0 yJ0_isLatin1_aae02 yJ0_isLatin1_aae02 ∈ gtbl := g_in (List.mem_of_getElem? (i := 353) (by decide +kernel)) (by decide +kernel)
theorem kv_J0_492 : KV RJ0 492 mJ0_isLatin1_aae02 0 := ⟨⟨kk_351, kk_128, kk_354, by decide +kernel⟩, rfl, kk_352, kk_353⟩
theorem kk_579 : Cond.methodLink RJ0 505 yJ0_length_8abf5 ∈ gtbl := g_in (List.mem_of_getElem? (i := 579) (by decide +kernel)) (by decide +kernel)
theorem kk_340 : Cond.code yJ0_length_8abf5 cJ0_length_8abf5 1 (some .int) ∈ gtbl := g_in (List.mem_of_getElem? (i := 340) (by decide +kernel)) (by decide +kernel)
theorem kk_338 : Cond.instanceMethod yJ0_length_8abf5 ∈ gtbl := g_in (List.mem_of_getElem? (i := 338) (by decide +kernel)) (by decide +kernel)
theorem kk_339 : Cond.selects RJ0 yJ0_length_8abf5 yJ0_length_8abf5 ∈ gtbl := g_in (List.mem_of_getElem? (i := 339) (by decide +kernel)) (by decide +kernel)
theorem kv_J0_505 : KV RJ0 505 mJ0_length_8abf5 0 := ⟨⟨kk_579, kk_128, kk_340, by decide +kernel⟩, rfl, kk_338, kk_339⟩
theorem kk_580 : Cond.methodLink RJ0 637 yJ1_indexOf_4cfef ∈ gtbl := g_in (List.mem_of_getElem? (i := 580) (by decide +kernel)) (by decide +kernel)
theorem kk_582 : Cond.code yJ1_indexOf_4cfef cJ1_indexOf_4cfef 4 (some .int) ∈ gtbl := g_in (List.mem_of_getElem? (i := 582) (by decide +kernel)) (by decide +kernel)
theorem kk_581 : Cond.static yJ1_indexOf_4cfef ∈ gtbl := g_in (List.mem_of_getElem? (i := 581) (by decide +kernel)) (by decide +kernel)
theorem ks_J0_637 : KS RJ0 637 mJ1_indexOf_4cfef 4 := ⟨⟨kk_580, kk_129, kk_582, by decide +kernel⟩, rfl, kk_581⟩
abbrev mJ0_indexOf_7cf53 : MT := (yJ0_indexOf_7cf53, cJ0_indexOf_7cf53, 3, (some .int), [])
theorem kk_575 : Cond.methodLink RJ0 633 yJ0_indexOf_7cf53 ∈ gtbl := g_in (List.mem_of_getElem? (i := 575) (by decide +kernel)) (by decide +kernel)
theorem kk_578 : Cond.code yJ0_indexOf_7cf53 cJ0_indexOf_7cf53 3 (some .int) ∈ gtbl := g_in (List.mem_of_getElem? (i := 578) (by decide +kernel)) (by decide +kernel)
theorem kk_576 : Cond.instanceMethod yJ0_indexOf_7cf53 ∈ gtbl := g_in (List.mem_of_getElem? (i := 576) (by decide +kernel)) (by decide +kernel)
theorem kk_577 : Cond.selects RJ0 yJ0_indexOf_7cf53 yJ0_indexOf_7cf53 ∈ gtbl := g_in (List.mem_of_getElem? (i := 577) (by decide +kernel)) (by decide +kernel)
theorem kv_J0_633 : KV RJ0 633 mJ0_indexOf_7cf53 2 := ⟨⟨kk_575, kk_128, kk_578, by decide +kernel⟩, rfl, kk_576, kk_577⟩
abbrev mJ0_indexOf_0f7a4 : MT := (yJ0_indexOf_0f7a4, cJ0_indexOf_0f7a4, 2, (some .int), [])
theorem kk_407 : Cond.fieldLink RX7 80 RX7 "number" "I" ∈ gtbl := g_in (List.mem_of_getElem? (i := 407) (by decide +kernel)) (by decide +kernel)
theorem fl_X7_80 : FL RX7 80 7 8 (.int) false := ⟨RX7, TX7, 10, tyX7, rfl, by decide, il_7, tyX7_ok, nmX7, rfl, rfl, Or.inl kk_407⟩
theorem kk_393 : Cond.methodLink RX7 98 yX7_isDigit ∈ gtbl := g_in (List.mem_of_getElem? (i := 393) (by decide +kernel)) (by decide +kernel)
theorem kk_395 : Cond.code yX7_isDigit cX7_isDigit 1 (some .boolean) ∈ gtbl := g_in (List.mem_of_getElem? (i := 395) (by decide +kernel)) (by decide +kernel)
theorem kk_394 : Cond.static yX7_isDigit ∈ gtbl := g_in (List.mem_of_getElem? (i := 394) (by decide +kernel)) (by decide +kernel)
theorem ks_X7_98 : KS RX7 98 mX7_isDigit 1 := ⟨⟨kk_393, kk_126, kk_395, by decide +kernel⟩, rfl, kk_394⟩
abbrev mX7_numberKind : MT := (yX7_numberKind, cX7_numberKind, 2, (some .int), [])
theorem kk_392 : Cond.constantLong RX7 113 (37) ∈ gtbl := g_in (List.mem_of_getElem? (i := 392) (by decide +kernel)) (by decide +kernel)
abbrev mX7_pack : MT := (yX7_pack, cX7_pack, 3, (some .long), [])
theorem kk_408 : Cond.fieldLink RX7 83 RX7 "word" "J" ∈ gtbl := g_in (List.mem_of_getElem? (i := 408) (by decide +kernel)) (by decide +kernel)
theorem fl_X7_83 : FL RX7 83 7 9 (.long) false := ⟨RX7, TX7, 10, tyX7, rfl, by decide, il_7, tyX7_ok, nmX7, rfl, rfl, Or.inl kk_408⟩
theorem kk_404 : Cond.fieldLink RX7 36 RX7 "keywords" "LStoryTapestry$Names;" ∈ gtbl := g_in (List.mem_of_getElem? (i := 404) (by decide +kernel)) (by decide +kernel)
theorem fl_X7_36 : FL RX7 36 7 5 (.object "StoryTapestry$Names") true := ⟨RX7, TX7, 10, tyX7, rfl, by decide, il_7, tyX7_ok, nmX7, rfl, rfl, Or.inl kk_404⟩
theorem kk_562 : Cond.methodLink RX7 109 yX2_find ∈ gtbl := g_in (List.mem_of_getElem? (i := 562) (by decide +kernel)) (by decide +kernel)
theorem kv_X7_109 : KV RX7 109 mX2_find 1 := ⟨⟨kk_562, kk_127, kk_565, by decide +kernel⟩, rfl, kk_563, kk_564⟩
theorem kk_555 : Cond.methodLink RX7 91 yX7_isLetter ∈ gtbl := g_in (List.mem_of_getElem? (i := 555) (by decide +kernel)) (by decide +kernel)
theorem kk_557 : Cond.code yX7_isLetter cX7_isLetter 1 (some .boolean) ∈ gtbl := g_in (List.mem_of_getElem? (i := 557) (by decide +kernel)) (by decide +kernel)
theorem kk_556 : Cond.static yX7_isLetter ∈ gtbl := g_in (List.mem_of_getElem? (i := 556) (by decide +kernel)) (by decide +kernel)
theorem ks_X7_91 : KS RX7 91 mX7_isLetter 1 := ⟨⟨kk_555, kk_126, kk_557, by decide +kernel⟩, rfl, kk_556⟩
theorem kk_389 : Cond.methodLink RX7 59 yX7_pack ∈ gtbl := g_in (List.mem_of_getElem? (i := 389) (by decide +kernel)) (by decide +kernel)
theorem kk_391 : Cond.code yX7_pack cX7_pack 3 (some .long) ∈ gtbl := g_in (List.mem_of_getElem? (i := 391) (by decide +kernel)) (by decide +kernel)
theorem kk_390 : Cond.static yX7_pack ∈ gtbl := g_in (List.mem_of_getElem? (i := 390) (by decide +kernel)) (by decide +kernel)
theorem ks_X7_59 : KS RX7 59 mX7_pack 2 := ⟨⟨kk_389, kk_126, kk_391, by decide +kernel⟩, rfl, kk_390⟩
abbrev mX7_wordKind : MT := (yX7_wordKind, cX7_wordKind, 3, (some .int), [])
theorem kk_571 : Cond.methodLink RX7 106 yJ0_indexOf_0f7a4 ∈ gtbl := g_in (List.mem_of_getElem? (i := 571) (by decide +kernel)) (by decide +kernel)
theorem kk_574 : Cond.code yJ0_indexOf_0f7a4 cJ0_indexOf_0f7a4 2 (some .int) ∈ gtbl := g_in (List.mem_of_getElem? (i := 574) (by decide +kernel)) (by decide +kernel)
theorem kk_572 : Cond.instanceMethod yJ0_indexOf_0f7a4 ∈ gtbl := g_in (List.mem_of_getElem? (i := 572) (by decide +kernel)) (by decide +kernel)
theorem kk_573 : Cond.selects RJ0 yJ0_indexOf_0f7a4 yJ0_indexOf_0f7a4 ∈ gtbl := g_in (List.mem_of_getElem? (i := 573) (by decide +kernel)) (by decide +kernel)
theorem kv_X7_106 : KV RX7 106 mJ0_indexOf_0f7a4 1 := ⟨⟨kk_571, kk_128, kk_574, by decide +kernel⟩, rfl, kk_572, kk_573⟩
theorem kk_566 : Cond.methodLink RX7 101 yX7_numberKind ∈ gtbl := g_in (List.mem_of_getElem? (i := 566) (by decide +kernel)) (by decide +kernel)
theorem kk_569 : Cond.code yX7_numberKind cX7_numberKind 2 (some .int) ∈ gtbl := g_in (List.mem_of_getElem? (i := 569) (by decide +kernel)) (by decide +kernel)
theorem kk_568 : Cond.instanceMethod yX7_numberKind ∈ gtbl := g_in (List.mem_of_getElem? (i := 568) (by decide +kernel)) (by decide +kernel)
theorem kk_5 : Cond.selects RX7 yX7_numberKind yX7_numberKind ∈ gtbl := g_in (List.mem_of_getElem? (i := 5) (by decide +kernel)) (by decide +kernel)
theorem kv_X7_101 : KV RX7 101 mX7_numberKind 0 := ⟨⟨kk_566, kk_126, kk_569, by decide +kernel⟩, rfl, kk_568, kk_5⟩
theorem kk_558 : Cond.methodLink RX7 95 yX7_wordKind ∈ gtbl := g_in (List.mem_of_getElem? (i := 558) (by decide +kernel)) (by decide +kernel)
theorem kk_561 : Cond.code yX7_wordKind cX7_wordKind 3 (some .int) ∈ gtbl := g_in (List.mem_of_getElem? (i := 561) (by decide +kernel)) (by decide +kernel)
theorem kk_560 : Cond.instanceMethod yX7_wordKind ∈ gtbl := g_in (List.mem_of_getElem? (i := 560) (by decide +kernel)) (by decide +kernel)
theorem kk_4 : Cond.selects RX7 yX7_wordKind yX7_wordKind ∈ gtbl := g_in (List.mem_of_getElem? (i := 4) (by decide +kernel)) (by decide +kernel)
theorem kv_X7_95 : KV RX7 95 mX7_wordKind 0 := ⟨⟨kk_558, kk_126, kk_561, by decide +kernel⟩, rfl, kk_560, kk_4⟩
abbrev mX7_nextKind : MT := (yX7_nextKind, cX7_nextKind, 2, (some .int), [])
theorem kk_539 : Cond.methodLink RX7 70 yX7_skipBlanks ∈ gtbl := g_in (List.mem_of_getElem? (i := 539) (by decide +kernel)) (by decide +kernel)
theorem kk_542 : Cond.code yX7_skipBlanks cX7_skipBlanks 1 none ∈ gtbl := g_in (List.mem_of_getElem? (i := 542) (by decide +kernel)) (by decide +kernel)
theorem kk_541 : Cond.instanceMethod yX7_skipBlanks ∈ gtbl := g_in (List.mem_of_getElem? (i := 541) (by decide +kernel)) (by decide +kernel)
theorem kk_2 : Cond.selects RX7 yX7_skipBlanks yX7_skipBlanks ∈ gtbl := g_in (List.mem_of_getElem? (i := 2) (by decide +kernel)) (by decide +kernel)
theorem kv_X7_70 : KV RX7 70 mX7_skipBlanks 0 := ⟨⟨kk_539, kk_126, kk_542, by decide +kernel⟩, rfl, kk_541, kk_2⟩
theorem kk_399 : Cond.fieldLink RX7 23 RX7 "starts" "LStoryTapestry$Row;" ∈ gtbl := g_in (List.mem_of_getElem? (i := 399) (by decide +kernel)) (by decide +kernel)
theorem fl_X7_23 : FL RX7 23 7 2 (.object "StoryTapestry$Row") true := ⟨RX7, TX7, 10, tyX7, rfl, by decide, il_7, tyX7_ok, nmX7, rfl, rfl, Or.inl kk_399⟩
theorem kk_547 : Cond.methodLink RX7 73 yX5_set ∈ gtbl := g_in (List.mem_of_getElem? (i := 547) (by decide +kernel)) (by decide +kernel)
theorem kv_X7_73 : KV RX7 73 mX5_set 2 := ⟨⟨kk_547, kk_120, kk_550, by decide +kernel⟩, rfl, kk_548, kk_549⟩
theorem kk_551 : Cond.methodLink RX7 77 yX7_nextKind ∈ gtbl := g_in (List.mem_of_getElem? (i := 551) (by decide +kernel)) (by decide +kernel)
theorem kk_554 : Cond.code yX7_nextKind cX7_nextKind 2 (some .int) ∈ gtbl := g_in (List.mem_of_getElem? (i := 554) (by decide +kernel)) (by decide +kernel)
theorem kk_553 : Cond.instanceMethod yX7_nextKind ∈ gtbl := g_in (List.mem_of_getElem? (i := 553) (by decide +kernel)) (by decide +kernel)
theorem kk_3 : Cond.selects RX7 yX7_nextKind yX7_nextKind ∈ gtbl := g_in (List.mem_of_getElem? (i := 3) (by decide +kernel)) (by decide +kernel)
theorem kv_X7_77 : KV RX7 77 mX7_nextKind 0 := ⟨⟨kk_551, kk_126, kk_554, by decide +kernel⟩, rfl, kk_553, kk_3⟩
theorem kk_397 : Cond.fieldLink RX7 20 RX7 "kinds" "LStoryTapestry$Row;" ∈ gtbl := g_in (List.mem_of_getElem? (i := 397) (by decide +kernel)) (by decide +kernel)
theorem fl_X7_20 : FL RX7 20 7 1 (.object "StoryTapestry$Row") true := ⟨RX7, TX7, 10, tyX7, rfl, by decide, il_7, tyX7_ok, nmX7, rfl, rfl, Or.inl kk_397⟩
theorem kk_401 : Cond.fieldLink RX7 26 RX7 "numbers" "LStoryTapestry$Row;" ∈ gtbl := g_in (List.mem_of_getElem? (i := 401) (by decide +kernel)) (by decide +kernel)
theorem fl_X7_26 : FL RX7 26 7 3 (.object "StoryTapestry$Row") true := ⟨RX7, TX7, 10, tyX7, rfl, by decide, il_7, tyX7_ok, nmX7, rfl, rfl, Or.inl kk_401⟩
abbrev mX7_split : MT := (yX7_split, cX7_split, 4, none, [])
theorem kk_247 : Cond.fieldLink RX6 10 RX6 "claims" "LStoryTapestry$Claims;" ∈ gtbl := g_in (List.mem_of_getElem? (i := 247) (by decide +kernel)) (by decide +kernel)
theorem fl_X6_10 : FL RX6 10 6 0 (.object "StoryTapestry$Claims") true := ⟨RX6, TX6, 4, tyX6, rfl, by decide, il_6, tyX6_ok, nmX6, rfl, rfl, Or.inl kk_247⟩
theorem il_0 : ∀ w ∈ u_ws RX0 TX0 6, w ∈ gtbl := fun w hw => g_in ((by decide +kernel : ∀ w ∈ u_ws RX0 TX0 6, w ∈ lw_tbl) w hw) (List.all_eq_true.mp (by decide +kernel : (u_ws RX0 TX0 6).all goodWord = true) w hw)
theorem kn_193 : Cond.fieldLinkNest RX6 23 RX0 "count" "I" "StoryTapestry" ∈ gnest := n_in (List.mem_of_getElem? (i := 193) (by decide +kernel)) (by decide +kernel)
theorem fl_X6_23 : FL RX6 23 0 5 (.int) false := ⟨RX0, TX0, 6, tyX0, rfl, by decide, il_0, tyX0_ok, nmX0, rfl, rfl, Or.inr ⟨_, kn_193⟩⟩
theorem kk_252 : Cond.fieldLink RX6 19 RX6 "orders" "LStoryTapestry$Orders;" ∈ gtbl := g_in (List.mem_of_getElem? (i := 252) (by decide +kernel)) (by decide +kernel)
theorem fl_X6_19 : FL RX6 19 6 1 (.object "StoryTapestry$Orders") true := ⟨RX6, TX6, 4, tyX6, rfl, by decide, il_6, tyX6_ok, nmX6, rfl, rfl, Or.inl kk_252⟩
theorem kn_228 : Cond.fieldLinkNest RX6 27 RX3 "count" "I" "StoryTapestry" ∈ gnest := n_in (List.mem_of_getElem? (i := 228) (by decide +kernel)) (by decide +kernel)
theorem fl_X6_27 : FL RX6 27 3 5 (.int) false := ⟨RX3, TX3, 7, tyX3, rfl, by decide, il_3, tyX3_ok, nmX3, rfl, rfl, Or.inr ⟨_, kn_228⟩⟩
theorem kn_231 : Cond.fieldLinkNest RX6 28 RX3 "stepCount" "I" "StoryTapestry" ∈ gnest := n_in (List.mem_of_getElem? (i := 231) (by decide +kernel)) (by decide +kernel)
theorem fl_X6_28 : FL RX6 28 3 6 (.int) false := ⟨RX3, TX3, 7, tyX3, rfl, by decide, il_3, tyX3_ok, nmX3, rfl, rfl, Or.inr ⟨_, kn_231⟩⟩
theorem kk_255 : Cond.fieldLink RX6 31 RX6 "eventCount" "I" ∈ gtbl := g_in (List.mem_of_getElem? (i := 255) (by decide +kernel)) (by decide +kernel)
theorem fl_X6_31 : FL RX6 31 6 2 (.int) false := ⟨RX6, TX6, 4, tyX6, rfl, by decide, il_6, tyX6_ok, nmX6, rfl, rfl, Or.inl kk_255⟩
theorem kk_259 : Cond.fieldLink RX6 34 RX6 "tellerCount" "I" ∈ gtbl := g_in (List.mem_of_getElem? (i := 259) (by decide +kernel)) (by decide +kernel)
theorem fl_X6_34 : FL RX6 34 6 3 (.int) false := ⟨RX6, TX6, 4, tyX6, rfl, by decide, il_6, tyX6_ok, nmX6, rfl, rfl, Or.inl kk_259⟩
abbrev mX6_clear : MT := (yX6_clear, cX6_clear, 1, none, [])
theorem kk_535 : Cond.methodLink RX4 74 yX7_split ∈ gtbl := g_in (List.mem_of_getElem? (i := 535) (by decide +kernel)) (by decide +kernel)
theorem kk_538 : Cond.code yX7_split cX7_split 4 none ∈ gtbl := g_in (List.mem_of_getElem? (i := 538) (by decide +kernel)) (by decide +kernel)
theorem kk_536 : Cond.instanceMethod yX7_split ∈ gtbl := g_in (List.mem_of_getElem? (i := 536) (by decide +kernel)) (by decide +kernel)
theorem kk_537 : Cond.selects RX7 yX7_split yX7_split ∈ gtbl := g_in (List.mem_of_getElem? (i := 537) (by decide +kernel)) (by decide +kernel)
theorem kv_X4_74 : KV RX4 74 mX7_split 1 := ⟨⟨kk_535, kk_126, kk_538, by decide +kernel⟩, rfl, kk_536, kk_537⟩
theorem kk_630 : Cond.methodLink RX4 77 yX6_clear ∈ gtbl := g_in (List.mem_of_getElem? (i := 630) (by decide +kernel)) (by decide +kernel)
theorem kk_121 : Cond.initialized RX6 ∈ gtbl := g_in (List.mem_of_getElem? (i := 121) (by decide +kernel)) (by decide +kernel)
theorem kk_633 : Cond.code yX6_clear cX6_clear 1 none ∈ gtbl := g_in (List.mem_of_getElem? (i := 633) (by decide +kernel)) (by decide +kernel)
theorem kk_631 : Cond.instanceMethod yX6_clear ∈ gtbl := g_in (List.mem_of_getElem? (i := 631) (by decide +kernel)) (by decide +kernel)
theorem kk_632 : Cond.selects RX6 yX6_clear yX6_clear ∈ gtbl := g_in (List.mem_of_getElem? (i := 632) (by decide +kernel)) (by decide +kernel)
theorem kv_X4_77 : KV RX4 77 mX6_clear 0 := ⟨⟨kk_630, kk_121, kk_633, by decide +kernel⟩, rfl, kk_631, kk_632⟩
theorem kn_325 : Cond.fieldLinkNest RX4 65 RX2 "count" "I" "StoryTapestry" ∈ gnest := n_in (List.mem_of_getElem? (i := 325) (by decide +kernel)) (by decide +kernel)
theorem fl_X4_65 : FL RX4 65 2 1 (.int) false := ⟨RX2, TX2, 2, tyX2, rfl, by decide, il_2, tyX2_ok, nmX2, rfl, rfl, Or.inr ⟨_, kn_325⟩⟩
abbrev mX4_restart : MT := (yX4_restart, cX4_restart, 2, none, [])
theorem kk_227 : Cond.fieldLink RX3 32 RX3 "count" "I" ∈ gtbl := g_in (List.mem_of_getElem? (i := 227) (by decide +kernel)) (by decide +kernel)
theorem fl_X3_32 : FL RX3 32 3 5 (.int) false := ⟨RX3, TX3, 7, tyX3, rfl, by decide, il_3, tyX3_ok, nmX3, rfl, rfl, Or.inl kk_227⟩
abbrev mX3_isFull : MT := (yX3_isFull, cX3_isFull, 1, (some .boolean), [])
abbrev mX9_one : MT := (yX9_one, cX9_one, 1, (some .int), [])
theorem kk_752 : Cond.methodLink RX3 47 yX3_isFull ∈ gtbl := g_in (List.mem_of_getElem? (i := 752) (by decide +kernel)) (by decide +kernel)
theorem kk_702 : Cond.code yX3_isFull cX3_isFull 1 (some .boolean) ∈ gtbl := g_in (List.mem_of_getElem? (i := 702) (by decide +kernel)) (by decide +kernel)
theorem kk_700 : Cond.instanceMethod yX3_isFull ∈ gtbl := g_in (List.mem_of_getElem? (i := 700) (by decide +kernel)) (by decide +kernel)
theorem kk_701 : Cond.selects RX3 yX3_isFull yX3_isFull ∈ gtbl := g_in (List.mem_of_getElem? (i := 701) (by decide +kernel)) (by decide +kernel)
theorem kv_X3_47 : KV RX3 47 mX3_isFull 0 := ⟨⟨kk_752, kk_123, kk_702, by decide +kernel⟩, rfl, kk_700, kk_701⟩
theorem kk_217 : Cond.fieldLink RX3 14 RX3 "doubts" "LStoryTapestry$Row;" ∈ gtbl := g_in (List.mem_of_getElem? (i := 217) (by decide +kernel)) (by decide +kernel)
theorem fl_X3_14 : FL RX3 14 3 0 (.object "StoryTapestry$Row") true := ⟨RX3, TX3, 7, tyX3, rfl, by decide, il_3, tyX3_ok, nmX3, rfl, rfl, Or.inl kk_217⟩
theorem kn_753 : Cond.methodLinkNest RX3 51 yX9_one "StoryTapestry" ∈ gnest := n_in (List.mem_of_getElem? (i := 753) (by decide +kernel)) (by decide +kernel)
theorem kk_755 : Cond.code yX9_one cX9_one 1 (some .int) ∈ gtbl := g_in (List.mem_of_getElem? (i := 755) (by decide +kernel)) (by decide +kernel)
theorem kk_754 : Cond.static yX9_one ∈ gtbl := g_in (List.mem_of_getElem? (i := 754) (by decide +kernel)) (by decide +kernel)
theorem kq_X3_51 : KSN RX3 51 mX9_one 1 := ⟨⟨_, kn_753⟩, kk_119, kk_755, rfl, by decide +kernel, kk_754⟩
theorem kk_219 : Cond.fieldLink RX3 20 RX3 "tellers" "LStoryTapestry$Row;" ∈ gtbl := g_in (List.mem_of_getElem? (i := 219) (by decide +kernel)) (by decide +kernel)
theorem fl_X3_20 : FL RX3 20 3 1 (.object "StoryTapestry$Row") true := ⟨RX3, TX3, 7, tyX3, rfl, by decide, il_3, tyX3_ok, nmX3, rfl, rfl, Or.inl kk_219⟩
theorem kk_221 : Cond.fieldLink RX3 23 RX3 "ends" "LStoryTapestry$Row;" ∈ gtbl := g_in (List.mem_of_getElem? (i := 221) (by decide +kernel)) (by decide +kernel)
theorem fl_X3_23 : FL RX3 23 3 2 (.object "StoryTapestry$Row") true := ⟨RX3, TX3, 7, tyX3, rfl, by decide, il_3, tyX3_ok, nmX3, rfl, rfl, Or.inl kk_221⟩
abbrev mX3_add : MT := (yX3_add, cX3_add, 3, none, [])
theorem kk_699 : Cond.methodLink RX4 155 yX3_isFull ∈ gtbl := g_in (List.mem_of_getElem? (i := 699) (by decide +kernel)) (by decide +kernel)
theorem kv_X4_155 : KV RX4 155 mX3_isFull 0 := ⟨⟨kk_699, kk_123, kk_702, by decide +kernel⟩, rfl, kk_700, kk_701⟩
theorem kk_748 : Cond.methodLink RX4 161 yX3_add ∈ gtbl := g_in (List.mem_of_getElem? (i := 748) (by decide +kernel)) (by decide +kernel)
theorem kk_751 : Cond.code yX3_add cX3_add 3 none ∈ gtbl := g_in (List.mem_of_getElem? (i := 751) (by decide +kernel)) (by decide +kernel)
theorem kk_749 : Cond.instanceMethod yX3_add ∈ gtbl := g_in (List.mem_of_getElem? (i := 749) (by decide +kernel)) (by decide +kernel)
theorem kk_750 : Cond.selects RX3 yX3_add yX3_add ∈ gtbl := g_in (List.mem_of_getElem? (i := 750) (by decide +kernel)) (by decide +kernel)
theorem kv_X4_161 : KV RX4 161 mX3_add 2 := ⟨⟨kk_748, kk_123, kk_751, by decide +kernel⟩, rfl, kk_749, kk_750⟩
abbrev mX4_readOrder : MT := (yX4_readOrder, cX4_readOrder, 3, none, [])
theorem kk_192 : Cond.fieldLink RX0 32 RX0 "count" "I" ∈ gtbl := g_in (List.mem_of_getElem? (i := 192) (by decide +kernel)) (by decide +kernel)
theorem fl_X0_32 : FL RX0 32 0 5 (.int) false := ⟨RX0, TX0, 6, tyX0, rfl, by decide, il_0, tyX0_ok, nmX0, rfl, rfl, Or.inl kk_192⟩
abbrev mX0_isFull : MT := (yX0_isFull, cX0_isFull, 1, (some .boolean), [])
theorem kk_689 : Cond.methodLink RX0 40 yX0_isFull ∈ gtbl := g_in (List.mem_of_getElem? (i := 689) (by decide +kernel)) (by decide +kernel)
theorem kk_122 : Cond.initialized RX0 ∈ gtbl := g_in (List.mem_of_getElem? (i := 122) (by decide +kernel)) (by decide +kernel)
theorem kk_668 : Cond.code yX0_isFull cX0_isFull 1 (some .boolean) ∈ gtbl := g_in (List.mem_of_getElem? (i := 668) (by decide +kernel)) (by decide +kernel)
theorem kk_666 : Cond.instanceMethod yX0_isFull ∈ gtbl := g_in (List.mem_of_getElem? (i := 666) (by decide +kernel)) (by decide +kernel)
theorem kk_667 : Cond.selects RX0 yX0_isFull yX0_isFull ∈ gtbl := g_in (List.mem_of_getElem? (i := 667) (by decide +kernel)) (by decide +kernel)
theorem kv_X0_40 : KV RX0 40 mX0_isFull 0 := ⟨⟨kk_689, kk_122, kk_668, by decide +kernel⟩, rfl, kk_666, kk_667⟩
theorem kk_177 : Cond.fieldLink RX0 14 RX0 "tellers" "LStoryTapestry$Row;" ∈ gtbl := g_in (List.mem_of_getElem? (i := 177) (by decide +kernel)) (by decide +kernel)
theorem fl_X0_14 : FL RX0 14 0 0 (.object "StoryTapestry$Row") true := ⟨RX0, TX0, 6, tyX0, rfl, by decide, il_0, tyX0_ok, nmX0, rfl, rfl, Or.inl kk_177⟩
theorem kk_690 : Cond.methodLink RX0 44 yX5_set ∈ gtbl := g_in (List.mem_of_getElem? (i := 690) (by decide +kernel)) (by decide +kernel)
theorem kv_X0_44 : KV RX0 44 mX5_set 2 := ⟨⟨kk_690, kk_120, kk_550, by decide +kernel⟩, rfl, kk_548, kk_549⟩
theorem kk_180 : Cond.fieldLink RX0 20 RX0 "kinds" "LStoryTapestry$Row;" ∈ gtbl := g_in (List.mem_of_getElem? (i := 180) (by decide +kernel)) (by decide +kernel)
theorem fl_X0_20 : FL RX0 20 0 1 (.object "StoryTapestry$Row") true := ⟨RX0, TX0, 6, tyX0, rfl, by decide, il_0, tyX0_ok, nmX0, rfl, rfl, Or.inl kk_180⟩
theorem kk_183 : Cond.fieldLink RX0 23 RX0 "events" "LStoryTapestry$Row;" ∈ gtbl := g_in (List.mem_of_getElem? (i := 183) (by decide +kernel)) (by decide +kernel)
theorem fl_X0_23 : FL RX0 23 0 2 (.object "StoryTapestry$Row") true := ⟨RX0, TX0, 6, tyX0, rfl, by decide, il_0, tyX0_ok, nmX0, rfl, rfl, Or.inl kk_183⟩
theorem kk_186 : Cond.fieldLink RX0 26 RX0 "firsts" "LStoryTapestry$Row;" ∈ gtbl := g_in (List.mem_of_getElem? (i := 186) (by decide +kernel)) (by decide +kernel)
theorem fl_X0_26 : FL RX0 26 0 3 (.object "StoryTapestry$Row") true := ⟨RX0, TX0, 6, tyX0, rfl, by decide, il_0, tyX0_ok, nmX0, rfl, rfl, Or.inl kk_186⟩
theorem kk_189 : Cond.fieldLink RX0 29 RX0 "lasts" "LStoryTapestry$Row;" ∈ gtbl := g_in (List.mem_of_getElem? (i := 189) (by decide +kernel)) (by decide +kernel)
theorem fl_X0_29 : FL RX0 29 0 4 (.object "StoryTapestry$Row") true := ⟨RX0, TX0, 6, tyX0, rfl, by decide, il_0, tyX0_ok, nmX0, rfl, rfl, Or.inl kk_189⟩
abbrev mX0_add : MT := (yX0_add, cX0_add, 6, none, [])
theorem kn_251 : Cond.fieldLinkNest RX4 124 RX6 "claims" "LStoryTapestry$Claims;" "StoryTapestry" ∈ gnest := n_in (List.mem_of_getElem? (i := 251) (by decide +kernel)) (by decide +kernel)
theorem fl_X4_124 : FL RX4 124 6 0 (.object "StoryTapestry$Claims") true := ⟨RX6, TX6, 4, tyX6, rfl, by decide, il_6, tyX6_ok, nmX6, rfl, rfl, Or.inr ⟨_, kn_251⟩⟩
theorem kk_685 : Cond.methodLink RX4 145 yX0_add ∈ gtbl := g_in (List.mem_of_getElem? (i := 685) (by decide +kernel)) (by decide +kernel)
theorem kk_688 : Cond.code yX0_add cX0_add 6 none ∈ gtbl := g_in (List.mem_of_getElem? (i := 688) (by decide +kernel)) (by decide +kernel)
theorem kk_686 : Cond.instanceMethod yX0_add ∈ gtbl := g_in (List.mem_of_getElem? (i := 686) (by decide +kernel)) (by decide +kernel)
theorem kk_687 : Cond.selects RX0 yX0_add yX0_add ∈ gtbl := g_in (List.mem_of_getElem? (i := 687) (by decide +kernel)) (by decide +kernel)
theorem kv_X4_145 : KV RX4 145 mX0_add 5 := ⟨⟨kk_685, kk_122, kk_688, by decide +kernel⟩, rfl, kk_686, kk_687⟩
abbrev mX4_readOther : MT := (yX4_readOther, cX4_readOther, 5, none, [])
abbrev mX4_readHour : MT := (yX4_readHour, cX4_readHour, 3, (some .int), [])
theorem kk_677 : Cond.methodLink RX4 142 yX4_readHour ∈ gtbl := g_in (List.mem_of_getElem? (i := 677) (by decide +kernel)) (by decide +kernel)
theorem kk_680 : Cond.code yX4_readHour cX4_readHour 3 (some .int) ∈ gtbl := g_in (List.mem_of_getElem? (i := 680) (by decide +kernel)) (by decide +kernel)
theorem kk_679 : Cond.instanceMethod yX4_readHour ∈ gtbl := g_in (List.mem_of_getElem? (i := 679) (by decide +kernel)) (by decide +kernel)
theorem kk_13 : Cond.selects RX4 yX4_readHour yX4_readHour ∈ gtbl := g_in (List.mem_of_getElem? (i := 13) (by decide +kernel)) (by decide +kernel)
theorem kv_X4_142 : KV RX4 142 mX4_readHour 1 := ⟨⟨kk_677, kk_125, kk_680, by decide +kernel⟩, rfl, kk_679, kk_13⟩
abbrev mX4_readHours : MT := (yX4_readHours, cX4_readHours, 5, none, [])
theorem kk_665 : Cond.methodLink RX4 128 yX0_isFull ∈ gtbl := g_in (List.mem_of_getElem? (i := 665) (by decide +kernel)) (by decide +kernel)
theorem kv_X4_128 : KV RX4 128 mX0_isFull 0 := ⟨⟨kk_665, kk_122, kk_668, by decide +kernel⟩, rfl, kk_666, kk_667⟩
theorem kk_691 : Cond.methodLink RX4 139 yX4_readOther ∈ gtbl := g_in (List.mem_of_getElem? (i := 691) (by decide +kernel)) (by decide +kernel)
theorem kk_694 : Cond.code yX4_readOther cX4_readOther 5 none ∈ gtbl := g_in (List.mem_of_getElem? (i := 694) (by decide +kernel)) (by decide +kernel)
theorem kk_693 : Cond.instanceMethod yX4_readOther ∈ gtbl := g_in (List.mem_of_getElem? (i := 693) (by decide +kernel)) (by decide +kernel)
theorem kk_15 : Cond.selects RX4 yX4_readOther yX4_readOther ∈ gtbl := g_in (List.mem_of_getElem? (i := 15) (by decide +kernel)) (by decide +kernel)
theorem kv_X4_139 : KV RX4 139 mX4_readOther 2 := ⟨⟨kk_691, kk_125, kk_694, by decide +kernel⟩, rfl, kk_693, kk_15⟩
theorem kk_673 : Cond.methodLink RX4 135 yX4_readHours ∈ gtbl := g_in (List.mem_of_getElem? (i := 673) (by decide +kernel)) (by decide +kernel)
theorem kk_676 : Cond.code yX4_readHours cX4_readHours 5 none ∈ gtbl := g_in (List.mem_of_getElem? (i := 676) (by decide +kernel)) (by decide +kernel)
theorem kk_675 : Cond.instanceMethod yX4_readHours ∈ gtbl := g_in (List.mem_of_getElem? (i := 675) (by decide +kernel)) (by decide +kernel)
theorem kk_12 : Cond.selects RX4 yX4_readHours yX4_readHours ∈ gtbl := g_in (List.mem_of_getElem? (i := 12) (by decide +kernel)) (by decide +kernel)
theorem kv_X4_135 : KV RX4 135 mX4_readHours 2 := ⟨⟨kk_673, kk_125, kk_676, by decide +kernel⟩, rfl, kk_675, kk_12⟩
abbrev mX4_readClaim : MT := (yX4_readClaim, cX4_readClaim, 3, none, [])
theorem kk_656 : Cond.methodLink RX4 116 yX2_isFull ∈ gtbl := g_in (List.mem_of_getElem? (i := 656) (by decide +kernel)) (by decide +kernel)
theorem kk_659 : Cond.code yX2_isFull cX2_isFull 1 (some .boolean) ∈ gtbl := g_in (List.mem_of_getElem? (i := 659) (by decide +kernel)) (by decide +kernel)
theorem kk_657 : Cond.instanceMethod yX2_isFull ∈ gtbl := g_in (List.mem_of_getElem? (i := 657) (by decide +kernel)) (by decide +kernel)
theorem kk_658 : Cond.selects RX2 yX2_isFull yX2_isFull ∈ gtbl := g_in (List.mem_of_getElem? (i := 658) (by decide +kernel)) (by decide +kernel)
theorem kv_X4_116 : KV RX4 116 mX2_isFull 0 := ⟨⟨kk_656, kk_127, kk_659, by decide +kernel⟩, rfl, kk_657, kk_658⟩
theorem kk_660 : Cond.methodLink RX4 120 yX2_add ∈ gtbl := g_in (List.mem_of_getElem? (i := 660) (by decide +kernel)) (by decide +kernel)
theorem kk_388 : Cond.code yX2_add cX2_add 3 none ∈ gtbl := g_in (List.mem_of_getElem? (i := 388) (by decide +kernel)) (by decide +kernel)
theorem kk_386 : Cond.instanceMethod yX2_add ∈ gtbl := g_in (List.mem_of_getElem? (i := 386) (by decide +kernel)) (by decide +kernel)
theorem kk_387 : Cond.selects RX2 yX2_add yX2_add ∈ gtbl := g_in (List.mem_of_getElem? (i := 387) (by decide +kernel)) (by decide +kernel)
theorem kv_X4_120 : KV RX4 120 mX2_add 1 := ⟨⟨kk_660, kk_127, kk_388, by decide +kernel⟩, rfl, kk_386, kk_387⟩
abbrev mX4_readNew : MT := (yX4_readNew, cX4_readNew, 2, none, [])
theorem kk_531 : Cond.methodLink RX4 39 yX4_restart ∈ gtbl := g_in (List.mem_of_getElem? (i := 531) (by decide +kernel)) (by decide +kernel)
theorem kk_534 : Cond.code yX4_restart cX4_restart 2 none ∈ gtbl := g_in (List.mem_of_getElem? (i := 534) (by decide +kernel)) (by decide +kernel)
theorem kk_533 : Cond.instanceMethod yX4_restart ∈ gtbl := g_in (List.mem_of_getElem? (i := 533) (by decide +kernel)) (by decide +kernel)
theorem kk_1 : Cond.selects RX4 yX4_restart yX4_restart ∈ gtbl := g_in (List.mem_of_getElem? (i := 1) (by decide +kernel)) (by decide +kernel)
theorem kv_X4_39 : KV RX4 39 mX4_restart 1 := ⟨⟨kk_531, kk_125, kk_534, by decide +kernel⟩, rfl, kk_533, kk_1⟩
theorem kn_256 : Cond.fieldLinkNest RX4 68 RX6 "eventCount" "I" "StoryTapestry" ∈ gnest := n_in (List.mem_of_getElem? (i := 256) (by decide +kernel)) (by decide +kernel)
theorem fl_X4_68 : FL RX4 68 6 2 (.int) false := ⟨RX6, TX6, 4, tyX6, rfl, by decide, il_6, tyX6_ok, nmX6, rfl, rfl, Or.inr ⟨_, kn_256⟩⟩
theorem kn_260 : Cond.fieldLinkNest RX4 71 RX6 "tellerCount" "I" "StoryTapestry" ∈ gnest := n_in (List.mem_of_getElem? (i := 260) (by decide +kernel)) (by decide +kernel)
theorem fl_X4_71 : FL RX4 71 6 3 (.int) false := ⟨RX6, TX6, 4, tyX6, rfl, by decide, il_6, tyX6_ok, nmX6, rfl, rfl, Or.inr ⟨_, kn_260⟩⟩
theorem kk_695 : Cond.methodLink RX4 56 yX4_readOrder ∈ gtbl := g_in (List.mem_of_getElem? (i := 695) (by decide +kernel)) (by decide +kernel)
theorem kk_698 : Cond.code yX4_readOrder cX4_readOrder 3 none ∈ gtbl := g_in (List.mem_of_getElem? (i := 698) (by decide +kernel)) (by decide +kernel)
theorem kk_697 : Cond.instanceMethod yX4_readOrder ∈ gtbl := g_in (List.mem_of_getElem? (i := 697) (by decide +kernel)) (by decide +kernel)
theorem kk_16 : Cond.selects RX4 yX4_readOrder yX4_readOrder ∈ gtbl := g_in (List.mem_of_getElem? (i := 16) (by decide +kernel)) (by decide +kernel)
theorem kv_X4_56 : KV RX4 56 mX4_readOrder 0 := ⟨⟨kk_695, kk_125, kk_698, by decide +kernel⟩, rfl, kk_697, kk_16⟩
theorem kk_661 : Cond.methodLink RX4 53 yX4_readClaim ∈ gtbl := g_in (List.mem_of_getElem? (i := 661) (by decide +kernel)) (by decide +kernel)
theorem kk_664 : Cond.code yX4_readClaim cX4_readClaim 3 none ∈ gtbl := g_in (List.mem_of_getElem? (i := 664) (by decide +kernel)) (by decide +kernel)
theorem kk_663 : Cond.instanceMethod yX4_readClaim ∈ gtbl := g_in (List.mem_of_getElem? (i := 663) (by decide +kernel)) (by decide +kernel)
theorem kk_10 : Cond.selects RX4 yX4_readClaim yX4_readClaim ∈ gtbl := g_in (List.mem_of_getElem? (i := 10) (by decide +kernel)) (by decide +kernel)
theorem kv_X4_53 : KV RX4 53 mX4_readClaim 0 := ⟨⟨kk_661, kk_125, kk_664, by decide +kernel⟩, rfl, kk_663, kk_10⟩
theorem kk_635 : Cond.methodLink RX4 49 yX4_readNew ∈ gtbl := g_in (List.mem_of_getElem? (i := 635) (by decide +kernel)) (by decide +kernel)
theorem kk_638 : Cond.code yX4_readNew cX4_readNew 2 none ∈ gtbl := g_in (List.mem_of_getElem? (i := 638) (by decide +kernel)) (by decide +kernel)
theorem kk_637 : Cond.instanceMethod yX4_readNew ∈ gtbl := g_in (List.mem_of_getElem? (i := 637) (by decide +kernel)) (by decide +kernel)
theorem kk_6 : Cond.selects RX4 yX4_readNew yX4_readNew ∈ gtbl := g_in (List.mem_of_getElem? (i := 6) (by decide +kernel)) (by decide +kernel)
theorem kv_X4_49 : KV RX4 49 mX4_readNew 1 := ⟨⟨kk_635, kk_125, kk_638, by decide +kernel⟩, rfl, kk_637, kk_6⟩
abbrev mX4_read : MT := (yX4_read, cX4_read, 3, (some .int), [])
theorem kk_764 : Cond.methodLink RX0 36 yX5_copyFrom ∈ gtbl := g_in (List.mem_of_getElem? (i := 764) (by decide +kernel)) (by decide +kernel)
theorem kk_767 : Cond.code yX5_copyFrom cX5_copyFrom 3 none ∈ gtbl := g_in (List.mem_of_getElem? (i := 767) (by decide +kernel)) (by decide +kernel)
theorem kk_765 : Cond.instanceMethod yX5_copyFrom ∈ gtbl := g_in (List.mem_of_getElem? (i := 765) (by decide +kernel)) (by decide +kernel)
theorem kk_766 : Cond.selects RX5 yX5_copyFrom yX5_copyFrom ∈ gtbl := g_in (List.mem_of_getElem? (i := 766) (by decide +kernel)) (by decide +kernel)
theorem kv_X0_36 : KV RX0 36 mX5_copyFrom 1 := ⟨⟨kk_764, kk_120, kk_767, by decide +kernel⟩, rfl, kk_765, kk_766⟩
abbrev mX0_copyFrom : MT := (yX0_copyFrom, cX0_copyFrom, 2, none, [])
theorem kk_773 : Cond.methodLink RX3 39 yX5_copyFrom ∈ gtbl := g_in (List.mem_of_getElem? (i := 773) (by decide +kernel)) (by decide +kernel)
theorem kv_X3_39 : KV RX3 39 mX5_copyFrom 1 := ⟨⟨kk_773, kk_120, kk_767, by decide +kernel⟩, rfl, kk_765, kk_766⟩
abbrev mX3_copyFrom : MT := (yX3_copyFrom, cX3_copyFrom, 2, none, [])
theorem kk_760 : Cond.methodLink RX6 37 yX0_copyFrom ∈ gtbl := g_in (List.mem_of_getElem? (i := 760) (by decide +kernel)) (by decide +kernel)
theorem kk_763 : Cond.code yX0_copyFrom cX0_copyFrom 2 none ∈ gtbl := g_in (List.mem_of_getElem? (i := 763) (by decide +kernel)) (by decide +kernel)
theorem kk_761 : Cond.instanceMethod yX0_copyFrom ∈ gtbl := g_in (List.mem_of_getElem? (i := 761) (by decide +kernel)) (by decide +kernel)
theorem kk_762 : Cond.selects RX0 yX0_copyFrom yX0_copyFrom ∈ gtbl := g_in (List.mem_of_getElem? (i := 762) (by decide +kernel)) (by decide +kernel)
theorem kv_X6_37 : KV RX6 37 mX0_copyFrom 1 := ⟨⟨kk_760, kk_122, kk_763, by decide +kernel⟩, rfl, kk_761, kk_762⟩
theorem kk_769 : Cond.methodLink RX6 41 yX3_copyFrom ∈ gtbl := g_in (List.mem_of_getElem? (i := 769) (by decide +kernel)) (by decide +kernel)
theorem kk_772 : Cond.code yX3_copyFrom cX3_copyFrom 2 none ∈ gtbl := g_in (List.mem_of_getElem? (i := 772) (by decide +kernel)) (by decide +kernel)
theorem kk_770 : Cond.instanceMethod yX3_copyFrom ∈ gtbl := g_in (List.mem_of_getElem? (i := 770) (by decide +kernel)) (by decide +kernel)
theorem kk_771 : Cond.selects RX3 yX3_copyFrom yX3_copyFrom ∈ gtbl := g_in (List.mem_of_getElem? (i := 771) (by decide +kernel)) (by decide +kernel)
theorem kv_X6_41 : KV RX6 41 mX3_copyFrom 1 := ⟨⟨kk_769, kk_123, kk_772, by decide +kernel⟩, rfl, kk_770, kk_771⟩
abbrev mX6_copyFrom : MT := (yX6_copyFrom, cX6_copyFrom, 2, none, [])
theorem kk_783 : Cond.methodLink RX0 48 yX5_get ∈ gtbl := g_in (List.mem_of_getElem? (i := 783) (by decide +kernel)) (by decide +kernel)
theorem kv_X0_48 : KV RX0 48 mX5_get 1 := ⟨⟨kk_783, kk_120, kk_546, by decide +kernel⟩, rfl, kk_544, kk_545⟩
abbrev mX0_contradict : MT := (yX0_contradict, cX0_contradict, 7, (some .boolean), [])
theorem il_8 : ∀ w ∈ u_ws RX8 TX8 7, w ∈ gtbl := fun w hw => g_in ((by decide +kernel : ∀ w ∈ u_ws RX8 TX8 7, w ∈ lw_tbl) w hw) (List.all_eq_true.mp (by decide +kernel : (u_ws RX8 TX8 7).all goodWord = true) w hw)
theorem kk_281 : Cond.fieldLink RX8 20 RX8 "against" "LStoryTapestry$Row;" ∈ gtbl := g_in (List.mem_of_getElem? (i := 281) (by decide +kernel)) (by decide +kernel)
theorem fl_X8_20 : FL RX8 20 8 1 (.object "StoryTapestry$Row") true := ⟨RX8, TX8, 7, tyX8, rfl, by decide, il_8, tyX8_ok, nmX8, rfl, rfl, Or.inl kk_281⟩
theorem kk_784 : Cond.methodLink RX8 56 yX5_get ∈ gtbl := g_in (List.mem_of_getElem? (i := 784) (by decide +kernel)) (by decide +kernel)
theorem kv_X8_56 : KV RX8 56 mX5_get 1 := ⟨⟨kk_784, kk_120, kk_546, by decide +kernel⟩, rfl, kk_544, kk_545⟩
theorem kk_778 : Cond.methodLink RX8 34 yX5_set ∈ gtbl := g_in (List.mem_of_getElem? (i := 778) (by decide +kernel)) (by decide +kernel)
theorem kv_X8_34 : KV RX8 34 mX5_set 2 := ⟨⟨kk_778, kk_120, kk_550, by decide +kernel⟩, rfl, kk_548, kk_549⟩
abbrev mX8_setAgainst : MT := (yX8_setAgainst, cX8_setAgainst, 3, none, [])
theorem kk_285 : Cond.fieldLink RX8 30 RX8 "judged" "I" ∈ gtbl := g_in (List.mem_of_getElem? (i := 285) (by decide +kernel)) (by decide +kernel)
theorem fl_X8_30 : FL RX8 30 8 4 (.int) false := ⟨RX8, TX8, 7, tyX8, rfl, by decide, il_8, tyX8_ok, nmX8, rfl, rfl, Or.inl kk_285⟩
theorem kk_280 : Cond.fieldLink RX8 9 RX8 "told" "LStoryTapestry$Tapestry;" ∈ gtbl := g_in (List.mem_of_getElem? (i := 280) (by decide +kernel)) (by decide +kernel)
theorem fl_X8_9 : FL RX8 9 8 0 (.object "StoryTapestry$Tapestry") true := ⟨RX8, TX8, 7, tyX8, rfl, by decide, il_8, tyX8_ok, nmX8, rfl, rfl, Or.inl kk_280⟩
theorem kn_248 : Cond.fieldLinkNest RX8 38 RX6 "claims" "LStoryTapestry$Claims;" "StoryTapestry" ∈ gnest := n_in (List.mem_of_getElem? (i := 248) (by decide +kernel)) (by decide +kernel)
theorem fl_X8_38 : FL RX8 38 6 0 (.object "StoryTapestry$Claims") true := ⟨RX6, TX6, 4, tyX6, rfl, by decide, il_6, tyX6_ok, nmX6, rfl, rfl, Or.inr ⟨_, kn_248⟩⟩
theorem kn_194 : Cond.fieldLinkNest RX8 44 RX0 "count" "I" "StoryTapestry" ∈ gnest := n_in (List.mem_of_getElem? (i := 194) (by decide +kernel)) (by decide +kernel)
theorem fl_X8_44 : FL RX8 44 0 5 (.int) false := ⟨RX0, TX0, 6, tyX0, rfl, by decide, il_0, tyX0_ok, nmX0, rfl, rfl, Or.inr ⟨_, kn_194⟩⟩
theorem kk_779 : Cond.methodLink RX8 49 yX0_contradict ∈ gtbl := g_in (List.mem_of_getElem? (i := 779) (by decide +kernel)) (by decide +kernel)
theorem kk_782 : Cond.code yX0_contradict cX0_contradict 7 (some .boolean) ∈ gtbl := g_in (List.mem_of_getElem? (i := 782) (by decide +kernel)) (by decide +kernel)
theorem kk_780 : Cond.instanceMethod yX0_contradict ∈ gtbl := g_in (List.mem_of_getElem? (i := 780) (by decide +kernel)) (by decide +kernel)
theorem kk_781 : Cond.selects RX0 yX0_contradict yX0_contradict ∈ gtbl := g_in (List.mem_of_getElem? (i := 781) (by decide +kernel)) (by decide +kernel)
theorem kv_X8_49 : KV RX8 49 mX0_contradict 2 := ⟨⟨kk_779, kk_122, kk_782, by decide +kernel⟩, rfl, kk_780, kk_781⟩
theorem kn_178 : Cond.fieldLinkNest RX8 53 RX0 "tellers" "LStoryTapestry$Row;" "StoryTapestry" ∈ gnest := n_in (List.mem_of_getElem? (i := 178) (by decide +kernel)) (by decide +kernel)
theorem fl_X8_53 : FL RX8 53 0 0 (.object "StoryTapestry$Row") true := ⟨RX0, TX0, 6, tyX0, rfl, by decide, il_0, tyX0_ok, nmX0, rfl, rfl, Or.inr ⟨_, kn_178⟩⟩
theorem kk_785 : Cond.methodLink RX8 60 yX8_setAgainst ∈ gtbl := g_in (List.mem_of_getElem? (i := 785) (by decide +kernel)) (by decide +kernel)
theorem kk_124 : Cond.initialized RX8 ∈ gtbl := g_in (List.mem_of_getElem? (i := 124) (by decide +kernel)) (by decide +kernel)
theorem kk_788 : Cond.code yX8_setAgainst cX8_setAgainst 3 none ∈ gtbl := g_in (List.mem_of_getElem? (i := 788) (by decide +kernel)) (by decide +kernel)
theorem kk_787 : Cond.instanceMethod yX8_setAgainst ∈ gtbl := g_in (List.mem_of_getElem? (i := 787) (by decide +kernel)) (by decide +kernel)
theorem kk_27 : Cond.selects RX8 yX8_setAgainst yX8_setAgainst ∈ gtbl := g_in (List.mem_of_getElem? (i := 27) (by decide +kernel)) (by decide +kernel)
theorem kv_X8_60 : KV RX8 60 mX8_setAgainst 2 := ⟨⟨kk_785, kk_124, kk_788, by decide +kernel⟩, rfl, kk_787, kk_27⟩
abbrev mX8_hearClaims : MT := (yX8_hearClaims, cX8_hearClaims, 3, none, [])
theorem il_1 : ∀ w ∈ u_ws RX1 TX1 7, w ∈ gtbl := fun w hw => g_in ((by decide +kernel : ∀ w ∈ u_ws RX1 TX1 7, w ∈ lw_tbl) w hw) (List.all_eq_true.mp (by decide +kernel : (u_ws RX1 TX1 7).all goodWord = true) w hw)
theorem kk_477 : Cond.fieldLink RX1 28 RX1 "doubted" "I" ∈ gtbl := g_in (List.mem_of_getElem? (i := 477) (by decide +kernel)) (by decide +kernel)
theorem fl_X1_28 : FL RX1 28 1 4 (.int) false := ⟨RX1, TX1, 7, tyX1, rfl, by decide, il_1, tyX1_ok, nmX1, rfl, rfl, Or.inl kk_477⟩
theorem kk_479 : Cond.fieldLink RX1 32 RX1 "evening" "I" ∈ gtbl := g_in (List.mem_of_getElem? (i := 479) (by decide +kernel)) (by decide +kernel)
theorem fl_X1_32 : FL RX1 32 1 5 (.int) false := ⟨RX1, TX1, 7, tyX1, rfl, by decide, il_1, tyX1_ok, nmX1, rfl, rfl, Or.inl kk_479⟩
theorem kk_481 : Cond.fieldLink RX1 35 RX1 "carriedOut" "I" ∈ gtbl := g_in (List.mem_of_getElem? (i := 481) (by decide +kernel)) (by decide +kernel)
theorem fl_X1_35 : FL RX1 35 1 6 (.int) false := ⟨RX1, TX1, 7, tyX1, rfl, by decide, il_1, tyX1_ok, nmX1, rfl, rfl, Or.inl kk_481⟩
abbrev mX1_restart : MT := (yX1_restart, cX1_restart, 1, none, [])
theorem kk_499 : Cond.fieldLink RX9 31 RX9 "reader" "LStoryTapestry$Reader;" ∈ gtbl := g_in (List.mem_of_getElem? (i := 499) (by decide +kernel)) (by decide +kernel)
theorem fl_X9_31 : FL RX9 31 9 1 (.object "StoryTapestry$Reader") true := ⟨RX9, TX9, 8, tyX9, rfl, by decide, il_9, tyX9_ok, nmX9, rfl, rfl, Or.inl kk_499⟩
theorem kk_527 : Cond.methodLink RX9 81 yX4_read ∈ gtbl := g_in (List.mem_of_getElem? (i := 527) (by decide +kernel)) (by decide +kernel)
theorem kk_530 : Cond.code yX4_read cX4_read 3 (some .int) ∈ gtbl := g_in (List.mem_of_getElem? (i := 530) (by decide +kernel)) (by decide +kernel)
theorem kk_528 : Cond.instanceMethod yX4_read ∈ gtbl := g_in (List.mem_of_getElem? (i := 528) (by decide +kernel)) (by decide +kernel)
theorem kk_529 : Cond.selects RX4 yX4_read yX4_read ∈ gtbl := g_in (List.mem_of_getElem? (i := 529) (by decide +kernel)) (by decide +kernel)
theorem kv_X9_81 : KV RX9 81 mX4_read 1 := ⟨⟨kk_527, kk_125, kk_530, by decide +kernel⟩, rfl, kk_528, kk_529⟩
theorem kn_445 : Cond.fieldLinkNest RX9 85 RX4 "errorPlace" "I" "StoryTapestry" ∈ gnest := n_in (List.mem_of_getElem? (i := 445) (by decide +kernel)) (by decide +kernel)
theorem fl_X9_85 : FL RX9 85 4 8 (.int) false := ⟨RX4, TX4, 9, tyX4, rfl, by decide, il_4, tyX4_ok, nmX4, rfl, rfl, Or.inr ⟨_, kn_445⟩⟩
theorem kk_505 : Cond.fieldLink RX9 59 RX9 "errorPlace" "I" ∈ gtbl := g_in (List.mem_of_getElem? (i := 505) (by decide +kernel)) (by decide +kernel)
theorem fl_X9_59 : FL RX9 59 9 7 (.int) false := ⟨RX9, TX9, 8, tyX9, rfl, by decide, il_9, tyX9_ok, nmX9, rfl, rfl, Or.inl kk_505⟩
theorem kk_500 : Cond.fieldLink RX9 35 RX9 "told" "LStoryTapestry$Tapestry;" ∈ gtbl := g_in (List.mem_of_getElem? (i := 500) (by decide +kernel)) (by decide +kernel)
theorem fl_X9_35 : FL RX9 35 9 2 (.object "StoryTapestry$Tapestry") true := ⟨RX9, TX9, 8, tyX9, rfl, by decide, il_9, tyX9_ok, nmX9, rfl, rfl, Or.inl kk_500⟩
theorem kn_437 : Cond.fieldLinkNest RX9 86 RX4 "draft" "LStoryTapestry$Tapestry;" "StoryTapestry" ∈ gnest := n_in (List.mem_of_getElem? (i := 437) (by decide +kernel)) (by decide +kernel)
theorem fl_X9_86 : FL RX9 86 4 1 (.object "StoryTapestry$Tapestry") true := ⟨RX4, TX4, 9, tyX4, rfl, by decide, il_4, tyX4_ok, nmX4, rfl, rfl, Or.inr ⟨_, kn_437⟩⟩
theorem kk_756 : Cond.methodLink RX9 89 yX6_copyFrom ∈ gtbl := g_in (List.mem_of_getElem? (i := 756) (by decide +kernel)) (by decide +kernel)
theorem kk_759 : Cond.code yX6_copyFrom cX6_copyFrom 2 none ∈ gtbl := g_in (List.mem_of_getElem? (i := 759) (by decide +kernel)) (by decide +kernel)
theorem kk_757 : Cond.instanceMethod yX6_copyFrom ∈ gtbl := g_in (List.mem_of_getElem? (i := 757) (by decide +kernel)) (by decide +kernel)
theorem kk_758 : Cond.selects RX6 yX6_copyFrom yX6_copyFrom ∈ gtbl := g_in (List.mem_of_getElem? (i := 758) (by decide +kernel)) (by decide +kernel)
theorem kv_X9_89 : KV RX9 89 mX6_copyFrom 1 := ⟨⟨kk_756, kk_121, kk_759, by decide +kernel⟩, rfl, kk_757, kk_758⟩
theorem kk_501 : Cond.fieldLink RX9 39 RX9 "verdict" "LStoryTapestry$Verdict;" ∈ gtbl := g_in (List.mem_of_getElem? (i := 501) (by decide +kernel)) (by decide +kernel)
theorem fl_X9_39 : FL RX9 39 9 3 (.object "StoryTapestry$Verdict") true := ⟨RX9, TX9, 8, tyX9, rfl, by decide, il_9, tyX9_ok, nmX9, rfl, rfl, Or.inl kk_501⟩
theorem kk_774 : Cond.methodLink RX9 92 yX8_hearClaims ∈ gtbl := g_in (List.mem_of_getElem? (i := 774) (by decide +kernel)) (by decide +kernel)
theorem kk_777 : Cond.code yX8_hearClaims cX8_hearClaims 3 none ∈ gtbl := g_in (List.mem_of_getElem? (i := 777) (by decide +kernel)) (by decide +kernel)
theorem kk_775 : Cond.instanceMethod yX8_hearClaims ∈ gtbl := g_in (List.mem_of_getElem? (i := 775) (by decide +kernel)) (by decide +kernel)
theorem kk_776 : Cond.selects RX8 yX8_hearClaims yX8_hearClaims ∈ gtbl := g_in (List.mem_of_getElem? (i := 776) (by decide +kernel)) (by decide +kernel)
theorem kv_X9_92 : KV RX9 92 mX8_hearClaims 0 := ⟨⟨kk_774, kk_124, kk_777, by decide +kernel⟩, rfl, kk_775, kk_776⟩
theorem kk_502 : Cond.fieldLink RX9 48 RX9 "course" "LStoryTapestry$Course;" ∈ gtbl := g_in (List.mem_of_getElem? (i := 502) (by decide +kernel)) (by decide +kernel)
theorem fl_X9_48 : FL RX9 48 9 4 (.object "StoryTapestry$Course") true := ⟨RX9, TX9, 8, tyX9, rfl, by decide, il_9, tyX9_ok, nmX9, rfl, rfl, Or.inl kk_502⟩
theorem kk_789 : Cond.methodLink RX9 95 yX1_restart ∈ gtbl := g_in (List.mem_of_getElem? (i := 789) (by decide +kernel)) (by decide +kernel)
theorem kk_132 : Cond.initialized RX1 ∈ gtbl := g_in (List.mem_of_getElem? (i := 132) (by decide +kernel)) (by decide +kernel)
theorem kk_792 : Cond.code yX1_restart cX1_restart 1 none ∈ gtbl := g_in (List.mem_of_getElem? (i := 792) (by decide +kernel)) (by decide +kernel)
theorem kk_790 : Cond.instanceMethod yX1_restart ∈ gtbl := g_in (List.mem_of_getElem? (i := 790) (by decide +kernel)) (by decide +kernel)
theorem kk_791 : Cond.selects RX1 yX1_restart yX1_restart ∈ gtbl := g_in (List.mem_of_getElem? (i := 791) (by decide +kernel)) (by decide +kernel)
theorem kv_X9_95 : KV RX9 95 mX1_restart 0 := ⟨⟨kk_789, kk_132, kk_792, by decide +kernel⟩, rfl, kk_790, kk_791⟩
abbrev mX9_teach : MT := (yX9_teach, cX9_teach, 2, (some .int), [])
abbrev mX9_errorAt : MT := (yX9_errorAt, cX9_errorAt, 1, (some .int), [])
theorem kn_257 : Cond.fieldLinkNest RX9 98 RX6 "eventCount" "I" "StoryTapestry" ∈ gnest := n_in (List.mem_of_getElem? (i := 257) (by decide +kernel)) (by decide +kernel)
theorem fl_X9_98 : FL RX9 98 6 2 (.int) false := ⟨RX6, TX6, 4, tyX6, rfl, by decide, il_6, tyX6_ok, nmX6, rfl, rfl, Or.inr ⟨_, kn_257⟩⟩
abbrev mX9_events : MT := (yX9_events, cX9_events, 1, (some .int), [])
theorem kn_262 : Cond.fieldLinkNest RX9 101 RX6 "tellerCount" "I" "StoryTapestry" ∈ gnest := n_in (List.mem_of_getElem? (i := 262) (by decide +kernel)) (by decide +kernel)
theorem fl_X9_101 : FL RX9 101 6 3 (.int) false := ⟨RX6, TX6, 4, tyX6, rfl, by decide, il_6, tyX6_ok, nmX6, rfl, rfl, Or.inr ⟨_, kn_262⟩⟩
abbrev mX9_tellers : MT := (yX9_tellers, cX9_tellers, 1, (some .int), [])
theorem kn_249 : Cond.fieldLinkNest RX9 104 RX6 "claims" "LStoryTapestry$Claims;" "StoryTapestry" ∈ gnest := n_in (List.mem_of_getElem? (i := 249) (by decide +kernel)) (by decide +kernel)
theorem fl_X9_104 : FL RX9 104 6 0 (.object "StoryTapestry$Claims") true := ⟨RX6, TX6, 4, tyX6, rfl, by decide, il_6, tyX6_ok, nmX6, rfl, rfl, Or.inr ⟨_, kn_249⟩⟩
theorem kn_195 : Cond.fieldLinkNest RX9 108 RX0 "count" "I" "StoryTapestry" ∈ gnest := n_in (List.mem_of_getElem? (i := 195) (by decide +kernel)) (by decide +kernel)
theorem fl_X9_108 : FL RX9 108 0 5 (.int) false := ⟨RX0, TX0, 6, tyX0, rfl, by decide, il_0, tyX0_ok, nmX0, rfl, rfl, Or.inr ⟨_, kn_195⟩⟩
abbrev mX9_claims : MT := (yX9_claims, cX9_claims, 1, (some .int), [])
theorem kn_480 : Cond.fieldLinkNest RX9 113 RX1 "evening" "I" "StoryTapestry" ∈ gnest := n_in (List.mem_of_getElem? (i := 480) (by decide +kernel)) (by decide +kernel)
theorem fl_X9_113 : FL RX9 113 1 5 (.int) false := ⟨RX1, TX1, 7, tyX1, rfl, by decide, il_1, tyX1_ok, nmX1, rfl, rfl, Or.inr ⟨_, kn_480⟩⟩
abbrev mX9_evenings : MT := (yX9_evenings, cX9_evenings, 1, (some .int), [])
theorem kn_482 : Cond.fieldLinkNest RX9 116 RX1 "carriedOut" "I" "StoryTapestry" ∈ gnest := n_in (List.mem_of_getElem? (i := 482) (by decide +kernel)) (by decide +kernel)
theorem fl_X9_116 : FL RX9 116 1 6 (.int) false := ⟨RX1, TX1, 7, tyX1, rfl, by decide, il_1, tyX1_ok, nmX1, rfl, rfl, Or.inr ⟨_, kn_482⟩⟩
abbrev mX9_ordersCarriedOut : MT := (yX9_ordersCarriedOut, cX9_ordersCarriedOut, 1, (some .int), [])
theorem kk_1125 : Cond.classLink RX9 149 "java/lang/IndexOutOfBoundsException" ∈ gtbl := g_in (List.mem_of_getElem? (i := 1125) (by decide +kernel)) (by decide +kernel)
theorem kk_142 : Cond.initialized "java/lang/IndexOutOfBoundsException" ∈ gtbl := g_in (List.mem_of_getElem? (i := 142) (by decide +kernel)) (by decide +kernel)
theorem at_X9_153 : ∀ w ∈ (vx_atS RX9 153 "java/lang/IndexOutOfBoundsException" ["java/lang/RuntimeException", "java/lang/Exception"]), w ∈ gtbl ∨ w ∈ gnest := by decide +kernel
theorem at_X9_153o : ∀ w ∈ Cond.classLink RX9 149 "java/lang/IndexOutOfBoundsException" :: Cond.initialized "java/lang/IndexOutOfBoundsException" :: (vx_atS RX9 153 "java/lang/IndexOutOfBoundsException" ["java/lang/RuntimeException", "java/lang/Exception"]), vx_ot w = true := by decide +kernel
theorem kx_X9_149_151_153 : KT RX9 149 153 151 "java/lang/IndexOutOfBoundsException" ["java/lang/RuntimeException", "java/lang/Exception"] 4 "no such claim" := ⟨by decide +kernel, by decide +kernel, kk_1125, kk_142, rfl, at_X9_153, at_X9_153o, rfl⟩
abbrev mX9_needClaim : MT := (yX9_needClaim, cX9_needClaim, 2, none, [])
theorem kk_1121 : Cond.methodLink RX9 119 yX9_needClaim ∈ gtbl := g_in (List.mem_of_getElem? (i := 1121) (by decide +kernel)) (by decide +kernel)
theorem kk_1124 : Cond.code yX9_needClaim cX9_needClaim 2 none ∈ gtbl := g_in (List.mem_of_getElem? (i := 1124) (by decide +kernel)) (by decide +kernel)
theorem kk_1123 : Cond.instanceMethod yX9_needClaim ∈ gtbl := g_in (List.mem_of_getElem? (i := 1123) (by decide +kernel)) (by decide +kernel)
theorem kk_46 : Cond.selects RX9 yX9_needClaim yX9_needClaim ∈ gtbl := g_in (List.mem_of_getElem? (i := 46) (by decide +kernel)) (by decide +kernel)
theorem kv_X9_119 : KV RX9 119 mX9_needClaim 1 := ⟨⟨kk_1121, kk_119, kk_1124, by decide +kernel⟩, rfl, kk_1123, kk_46⟩
theorem kn_179 : Cond.fieldLinkNest RX9 122 RX0 "tellers" "LStoryTapestry$Row;" "StoryTapestry" ∈ gnest := n_in (List.mem_of_getElem? (i := 179) (by decide +kernel)) (by decide +kernel)
theorem fl_X9_122 : FL RX9 122 0 0 (.object "StoryTapestry$Row") true := ⟨RX0, TX0, 6, tyX0, rfl, by decide, il_0, tyX0_ok, nmX0, rfl, rfl, Or.inr ⟨_, kn_179⟩⟩
theorem kk_994 : Cond.methodLink RX9 125 yX5_get ∈ gtbl := g_in (List.mem_of_getElem? (i := 994) (by decide +kernel)) (by decide +kernel)
theorem kv_X9_125 : KV RX9 125 mX5_get 1 := ⟨⟨kk_994, kk_120, kk_546, by decide +kernel⟩, rfl, kk_544, kk_545⟩
abbrev mX9_tellerOf : MT := (yX9_tellerOf, cX9_tellerOf, 2, (some .int), [])
theorem kn_181 : Cond.fieldLinkNest RX9 128 RX0 "kinds" "LStoryTapestry$Row;" "StoryTapestry" ∈ gnest := n_in (List.mem_of_getElem? (i := 181) (by decide +kernel)) (by decide +kernel)
theorem fl_X9_128 : FL RX9 128 0 1 (.object "StoryTapestry$Row") true := ⟨RX0, TX0, 6, tyX0, rfl, by decide, il_0, tyX0_ok, nmX0, rfl, rfl, Or.inr ⟨_, kn_181⟩⟩
abbrev mX9_kindOf : MT := (yX9_kindOf, cX9_kindOf, 2, (some .int), [])
theorem kn_184 : Cond.fieldLinkNest RX9 131 RX0 "events" "LStoryTapestry$Row;" "StoryTapestry" ∈ gnest := n_in (List.mem_of_getElem? (i := 184) (by decide +kernel)) (by decide +kernel)
theorem fl_X9_131 : FL RX9 131 0 2 (.object "StoryTapestry$Row") true := ⟨RX0, TX0, 6, tyX0, rfl, by decide, il_0, tyX0_ok, nmX0, rfl, rfl, Or.inr ⟨_, kn_184⟩⟩
abbrev mX9_eventOf : MT := (yX9_eventOf, cX9_eventOf, 2, (some .int), [])
theorem kn_188 : Cond.fieldLinkNest RX9 136 RX0 "firsts" "LStoryTapestry$Row;" "StoryTapestry" ∈ gnest := n_in (List.mem_of_getElem? (i := 188) (by decide +kernel)) (by decide +kernel)
theorem fl_X9_136 : FL RX9 136 0 3 (.object "StoryTapestry$Row") true := ⟨RX0, TX0, 6, tyX0, rfl, by decide, il_0, tyX0_ok, nmX0, rfl, rfl, Or.inr ⟨_, kn_188⟩⟩
theorem kx_X9_62_134_66 : KT RX9 62 66 134 "java/lang/IllegalStateException" ["java/lang/RuntimeException", "java/lang/Exception"] 5 "a claim of hours has one event" := ⟨by decide +kernel, by decide +kernel, kk_1017, kk_138, rfl, at_X9_66, at_X9_66o, rfl⟩
abbrev mX9_secondEventOf : MT := (yX9_secondEventOf, cX9_secondEventOf, 2, (some .int), [])
theorem kx_X9_62_154_66 : KT RX9 62 66 154 "java/lang/IllegalStateException" ["java/lang/RuntimeException", "java/lang/Exception"] 6 "a claim of two events has no hours" := ⟨by decide +kernel, by decide +kernel, kk_1017, kk_138, rfl, at_X9_66, at_X9_66o, rfl⟩
abbrev mX9_needHours : MT := (yX9_needHours, cX9_needHours, 2, none, [])
theorem kk_1170 : Cond.methodLink RX9 139 yX9_needHours ∈ gtbl := g_in (List.mem_of_getElem? (i := 1170) (by decide +kernel)) (by decide +kernel)
theorem kk_1173 : Cond.code yX9_needHours cX9_needHours 2 none ∈ gtbl := g_in (List.mem_of_getElem? (i := 1173) (by decide +kernel)) (by decide +kernel)
theorem kk_1172 : Cond.instanceMethod yX9_needHours ∈ gtbl := g_in (List.mem_of_getElem? (i := 1172) (by decide +kernel)) (by decide +kernel)
theorem kk_47 : Cond.selects RX9 yX9_needHours yX9_needHours ∈ gtbl := g_in (List.mem_of_getElem? (i := 47) (by decide +kernel)) (by decide +kernel)
theorem kv_X9_139 : KV RX9 139 mX9_needHours 1 := ⟨⟨kk_1170, kk_119, kk_1173, by decide +kernel⟩, rfl, kk_1172, kk_47⟩
abbrev mX9_firstHourOf : MT := (yX9_firstHourOf, cX9_firstHourOf, 2, (some .int), [])
theorem kn_191 : Cond.fieldLinkNest RX9 142 RX0 "lasts" "LStoryTapestry$Row;" "StoryTapestry" ∈ gnest := n_in (List.mem_of_getElem? (i := 191) (by decide +kernel)) (by decide +kernel)
theorem fl_X9_142 : FL RX9 142 0 4 (.object "StoryTapestry$Row") true := ⟨RX0, TX0, 6, tyX0, rfl, by decide, il_0, tyX0_ok, nmX0, rfl, rfl, Or.inr ⟨_, kn_191⟩⟩
abbrev mX9_lastHourOf : MT := (yX9_lastHourOf, cX9_lastHourOf, 2, (some .int), [])
theorem kk_1189 : Cond.methodLink RX9 145 yX0_contradict ∈ gtbl := g_in (List.mem_of_getElem? (i := 1189) (by decide +kernel)) (by decide +kernel)
theorem kv_X9_145 : KV RX9 145 mX0_contradict 2 := ⟨⟨kk_1189, kk_122, kk_782, by decide +kernel⟩, rfl, kk_780, kk_781⟩
abbrev mX9_areContrary : MT := (yX9_areContrary, cX9_areContrary, 3, (some .boolean), [])
theorem kx_X9_149_190_153 : KT RX9 149 153 190 "java/lang/IndexOutOfBoundsException" ["java/lang/RuntimeException", "java/lang/Exception"] 7 "no such teller" := ⟨by decide +kernel, by decide +kernel, kk_1125, kk_142, rfl, at_X9_153, at_X9_153o, rfl⟩
abbrev mX9_needTeller : MT := (yX9_needTeller, cX9_needTeller, 2, none, [])
abbrev mX0_countOf : MT := (yX0_countOf, cX0_countOf, 4, (some .int), [])
theorem kk_1197 : Cond.methodLink RX9 156 yX9_needTeller ∈ gtbl := g_in (List.mem_of_getElem? (i := 1197) (by decide +kernel)) (by decide +kernel)
theorem kk_1200 : Cond.code yX9_needTeller cX9_needTeller 2 none ∈ gtbl := g_in (List.mem_of_getElem? (i := 1200) (by decide +kernel)) (by decide +kernel)
theorem kk_1199 : Cond.instanceMethod yX9_needTeller ∈ gtbl := g_in (List.mem_of_getElem? (i := 1199) (by decide +kernel)) (by decide +kernel)
theorem kk_48 : Cond.selects RX9 yX9_needTeller yX9_needTeller ∈ gtbl := g_in (List.mem_of_getElem? (i := 48) (by decide +kernel)) (by decide +kernel)
theorem kv_X9_156 : KV RX9 156 mX9_needTeller 1 := ⟨⟨kk_1197, kk_119, kk_1200, by decide +kernel⟩, rfl, kk_1199, kk_48⟩
theorem kk_999 : Cond.methodLink RX9 159 yX0_countOf ∈ gtbl := g_in (List.mem_of_getElem? (i := 999) (by decide +kernel)) (by decide +kernel)
theorem kk_919 : Cond.code yX0_countOf cX0_countOf 4 (some .int) ∈ gtbl := g_in (List.mem_of_getElem? (i := 919) (by decide +kernel)) (by decide +kernel)
theorem kk_917 : Cond.instanceMethod yX0_countOf ∈ gtbl := g_in (List.mem_of_getElem? (i := 917) (by decide +kernel)) (by decide +kernel)
theorem kk_918 : Cond.selects RX0 yX0_countOf yX0_countOf ∈ gtbl := g_in (List.mem_of_getElem? (i := 918) (by decide +kernel)) (by decide +kernel)
theorem kv_X9_159 : KV RX9 159 mX0_countOf 1 := ⟨⟨kk_999, kk_122, kk_919, by decide +kernel⟩, rfl, kk_917, kk_918⟩
abbrev mX9_claimsOf : MT := (yX9_claimsOf, cX9_claimsOf, 2, (some .int), [])
abbrev mX9_has : MT := (yX9_has, cX9_has, 2, (some .boolean), [])
theorem kn_478 : Cond.fieldLinkNest RX9 162 RX1 "doubted" "I" "StoryTapestry" ∈ gnest := n_in (List.mem_of_getElem? (i := 478) (by decide +kernel)) (by decide +kernel)
theorem fl_X9_162 : FL RX9 162 1 4 (.int) false := ⟨RX1, TX1, 7, tyX1, rfl, by decide, il_1, tyX1_ok, nmX1, rfl, rfl, Or.inr ⟨_, kn_478⟩⟩
theorem kk_1000 : Cond.methodLink RX9 165 yX9_has ∈ gtbl := g_in (List.mem_of_getElem? (i := 1000) (by decide +kernel)) (by decide +kernel)
theorem kk_831 : Cond.code yX9_has cX9_has 2 (some .boolean) ∈ gtbl := g_in (List.mem_of_getElem? (i := 831) (by decide +kernel)) (by decide +kernel)
theorem kk_830 : Cond.static yX9_has ∈ gtbl := g_in (List.mem_of_getElem? (i := 830) (by decide +kernel)) (by decide +kernel)
theorem ks_X9_165 : KS RX9 165 mX9_has 2 := ⟨⟨kk_1000, kk_119, kk_831, by decide +kernel⟩, rfl, kk_830⟩
abbrev mX9_isDoubted : MT := (yX9_isDoubted, cX9_isDoubted, 2, (some .boolean), [])
theorem kn_829 : Cond.methodLinkNest RX8 66 yX9_has "StoryTapestry" ∈ gnest := n_in (List.mem_of_getElem? (i := 829) (by decide +kernel)) (by decide +kernel)
theorem kq_X8_66 : KSN RX8 66 mX9_has 2 := ⟨⟨_, kn_829⟩, kk_119, kk_831, rfl, by decide +kernel, kk_830⟩
abbrev mX8_tellersContradict : MT := (yX8_tellersContradict, cX8_tellersContradict, 4, (some .boolean), [])
theorem kk_1001 : Cond.methodLink RX9 168 yX8_tellersContradict ∈ gtbl := g_in (List.mem_of_getElem? (i := 1001) (by decide +kernel)) (by decide +kernel)
theorem kk_941 : Cond.code yX8_tellersContradict cX8_tellersContradict 4 (some .boolean) ∈ gtbl := g_in (List.mem_of_getElem? (i := 941) (by decide +kernel)) (by decide +kernel)
theorem kk_939 : Cond.instanceMethod yX8_tellersContradict ∈ gtbl := g_in (List.mem_of_getElem? (i := 939) (by decide +kernel)) (by decide +kernel)
theorem kk_940 : Cond.selects RX8 yX8_tellersContradict yX8_tellersContradict ∈ gtbl := g_in (List.mem_of_getElem? (i := 940) (by decide +kernel)) (by decide +kernel)
theorem kv_X9_168 : KV RX9 168 mX8_tellersContradict 3 := ⟨⟨kk_1001, kk_124, kk_941, by decide +kernel⟩, rfl, kk_939, kk_940⟩
abbrev mX9_doContradict : MT := (yX9_doContradict, cX9_doContradict, 3, (some .boolean), [])
abbrev mX0_isPairOf : MT := (yX0_isPairOf, cX0_isPairOf, 4, (some .boolean), [])
theorem kk_1227 : Cond.methodLink RX0 52 yX0_isPairOf ∈ gtbl := g_in (List.mem_of_getElem? (i := 1227) (by decide +kernel)) (by decide +kernel)
theorem kk_1229 : Cond.code yX0_isPairOf cX0_isPairOf 4 (some .boolean) ∈ gtbl := g_in (List.mem_of_getElem? (i := 1229) (by decide +kernel)) (by decide +kernel)
theorem kk_1228 : Cond.static yX0_isPairOf ∈ gtbl := g_in (List.mem_of_getElem? (i := 1228) (by decide +kernel)) (by decide +kernel)
theorem ks_X0_52 : KS RX0 52 mX0_isPairOf 4 := ⟨⟨kk_1227, kk_122, kk_1229, by decide +kernel⟩, rfl, kk_1228⟩
theorem kk_1230 : Cond.methodLink RX0 56 yX0_contradict ∈ gtbl := g_in (List.mem_of_getElem? (i := 1230) (by decide +kernel)) (by decide +kernel)
theorem kv_X0_56 : KV RX0 56 mX0_contradict 2 := ⟨⟨kk_1230, kk_122, kk_782, by decide +kernel⟩, rfl, kk_780, kk_781⟩
abbrev mX0_pairsOf : MT := (yX0_pairsOf, cX0_pairsOf, 6, (some .int), [])
theorem kk_1223 : Cond.methodLink RX9 172 yX0_pairsOf ∈ gtbl := g_in (List.mem_of_getElem? (i := 1223) (by decide +kernel)) (by decide +kernel)
theorem kk_1226 : Cond.code yX0_pairsOf cX0_pairsOf 6 (some .int) ∈ gtbl := g_in (List.mem_of_getElem? (i := 1226) (by decide +kernel)) (by decide +kernel)
theorem kk_1224 : Cond.instanceMethod yX0_pairsOf ∈ gtbl := g_in (List.mem_of_getElem? (i := 1224) (by decide +kernel)) (by decide +kernel)
theorem kk_1225 : Cond.selects RX0 yX0_pairsOf yX0_pairsOf ∈ gtbl := g_in (List.mem_of_getElem? (i := 1225) (by decide +kernel)) (by decide +kernel)
theorem kv_X9_172 : KV RX9 172 mX0_pairsOf 2 := ⟨⟨kk_1223, kk_122, kk_1226, by decide +kernel⟩, rfl, kk_1224, kk_1225⟩
abbrev mX9_contraryPairs : MT := (yX9_contraryPairs, cX9_contraryPairs, 3, (some .int), [])
theorem kn_261 : Cond.fieldLinkNest RX8 63 RX6 "tellerCount" "I" "StoryTapestry" ∈ gnest := n_in (List.mem_of_getElem? (i := 261) (by decide +kernel)) (by decide +kernel)
theorem fl_X8_63 : FL RX8 63 6 3 (.int) false := ⟨RX6, TX6, 4, tyX6, rfl, by decide, il_6, tyX6_ok, nmX6, rfl, rfl, Or.inr ⟨_, kn_261⟩⟩
abbrev mX8_believedSet : MT := (yX8_believedSet, cX8_believedSet, 2, (some .int), [])
theorem kk_835 : Cond.constant RJ6 265 (1431655765) ∈ gtbl := g_in (List.mem_of_getElem? (i := 835) (by decide +kernel)) (by decide +kernel)
theorem kk_836 : Cond.constant RJ6 266 (858993459) ∈ gtbl := g_in (List.mem_of_getElem? (i := 836) (by decide +kernel)) (by decide +kernel)
theorem kk_837 : Cond.constant RJ6 267 (252645135) ∈ gtbl := g_in (List.mem_of_getElem? (i := 837) (by decide +kernel)) (by decide +kernel)
abbrev mJ6_bitCount_0f7a4 : MT := (yJ6_bitCount_0f7a4, cJ6_bitCount_0f7a4, 1, (some .int), [])
theorem kk_825 : Cond.methodLink RX8 69 yX8_believedSet ∈ gtbl := g_in (List.mem_of_getElem? (i := 825) (by decide +kernel)) (by decide +kernel)
theorem kk_828 : Cond.code yX8_believedSet cX8_believedSet 2 (some .int) ∈ gtbl := g_in (List.mem_of_getElem? (i := 828) (by decide +kernel)) (by decide +kernel)
theorem kk_827 : Cond.instanceMethod yX8_believedSet ∈ gtbl := g_in (List.mem_of_getElem? (i := 827) (by decide +kernel)) (by decide +kernel)
theorem kk_28 : Cond.selects RX8 yX8_believedSet yX8_believedSet ∈ gtbl := g_in (List.mem_of_getElem? (i := 28) (by decide +kernel)) (by decide +kernel)
theorem kv_X8_69 : KV RX8 69 mX8_believedSet 1 := ⟨⟨kk_825, kk_124, kk_828, by decide +kernel⟩, rfl, kk_827, kk_28⟩
theorem kk_832 : Cond.methodLink RX8 72 yJ6_bitCount_0f7a4 ∈ gtbl := g_in (List.mem_of_getElem? (i := 832) (by decide +kernel)) (by decide +kernel)
theorem kk_143 : Cond.initialized RJ6 ∈ gtbl := g_in (List.mem_of_getElem? (i := 143) (by decide +kernel)) (by decide +kernel)
theorem kk_834 : Cond.code yJ6_bitCount_0f7a4 cJ6_bitCount_0f7a4 1 (some .int) ∈ gtbl := g_in (List.mem_of_getElem? (i := 834) (by decide +kernel)) (by decide +kernel)
theorem kk_833 : Cond.static yJ6_bitCount_0f7a4 ∈ gtbl := g_in (List.mem_of_getElem? (i := 833) (by decide +kernel)) (by decide +kernel)
theorem ks_X8_72 : KS RX8 72 mJ6_bitCount_0f7a4 1 := ⟨⟨kk_832, kk_143, kk_834, by decide +kernel⟩, rfl, kk_833⟩
abbrev mX8_pairCount : MT := (yX8_pairCount, cX8_pairCount, 5, (some .int), [])
theorem kk_821 : Cond.methodLink RX9 176 yX8_pairCount ∈ gtbl := g_in (List.mem_of_getElem? (i := 821) (by decide +kernel)) (by decide +kernel)
theorem kk_824 : Cond.code yX8_pairCount cX8_pairCount 5 (some .int) ∈ gtbl := g_in (List.mem_of_getElem? (i := 824) (by decide +kernel)) (by decide +kernel)
theorem kk_822 : Cond.instanceMethod yX8_pairCount ∈ gtbl := g_in (List.mem_of_getElem? (i := 822) (by decide +kernel)) (by decide +kernel)
theorem kk_823 : Cond.selects RX8 yX8_pairCount yX8_pairCount ∈ gtbl := g_in (List.mem_of_getElem? (i := 823) (by decide +kernel)) (by decide +kernel)
theorem kv_X9_176 : KV RX9 176 mX8_pairCount 1 := ⟨⟨kk_821, kk_124, kk_824, by decide +kernel⟩, rfl, kk_822, kk_823⟩
abbrev mX9_contradictions : MT := (yX9_contradictions, cX9_contradictions, 1, (some .int), [])
abbrev mX8_involvedIn : MT := (yX8_involvedIn, cX8_involvedIn, 4, (some .int), [])
abbrev mX8_isEnough : MT := (yX8_isEnough, cX8_isEnough, 5, (some .boolean), [])
abbrev mX8_isPreferred : MT := (yX8_isPreferred, cX8_isPreferred, 3, (some .boolean), [])
theorem kk_850 : Cond.methodLink RX8 86 yX8_involvedIn ∈ gtbl := g_in (List.mem_of_getElem? (i := 850) (by decide +kernel)) (by decide +kernel)
theorem kk_853 : Cond.code yX8_involvedIn cX8_involvedIn 4 (some .int) ∈ gtbl := g_in (List.mem_of_getElem? (i := 853) (by decide +kernel)) (by decide +kernel)
theorem kk_852 : Cond.instanceMethod yX8_involvedIn ∈ gtbl := g_in (List.mem_of_getElem? (i := 852) (by decide +kernel)) (by decide +kernel)
theorem kk_30 : Cond.selects RX8 yX8_involvedIn yX8_involvedIn ∈ gtbl := g_in (List.mem_of_getElem? (i := 30) (by decide +kernel)) (by decide +kernel)
theorem kv_X8_86 : KV RX8 86 mX8_involvedIn 1 := ⟨⟨kk_850, kk_124, kk_853, by decide +kernel⟩, rfl, kk_852, kk_30⟩
theorem kk_854 : Cond.methodLink RX8 89 yX8_isEnough ∈ gtbl := g_in (List.mem_of_getElem? (i := 854) (by decide +kernel)) (by decide +kernel)
theorem kk_857 : Cond.code yX8_isEnough cX8_isEnough 5 (some .boolean) ∈ gtbl := g_in (List.mem_of_getElem? (i := 857) (by decide +kernel)) (by decide +kernel)
theorem kk_856 : Cond.instanceMethod yX8_isEnough ∈ gtbl := g_in (List.mem_of_getElem? (i := 856) (by decide +kernel)) (by decide +kernel)
theorem kk_31 : Cond.selects RX8 yX8_isEnough yX8_isEnough ∈ gtbl := g_in (List.mem_of_getElem? (i := 31) (by decide +kernel)) (by decide +kernel)
theorem kv_X8_89 : KV RX8 89 mX8_isEnough 2 := ⟨⟨kk_854, kk_124, kk_857, by decide +kernel⟩, rfl, kk_856, kk_31⟩
theorem kk_287 : Cond.fieldLink RX8 83 RX8 "setCount" "I" ∈ gtbl := g_in (List.mem_of_getElem? (i := 287) (by decide +kernel)) (by decide +kernel)
theorem fl_X8_83 : FL RX8 83 8 6 (.int) false := ⟨RX8, TX8, 7, tyX8, rfl, by decide, il_8, tyX8_ok, nmX8, rfl, rfl, Or.inl kk_287⟩
theorem kk_286 : Cond.fieldLink RX8 80 RX8 "liarSet" "I" ∈ gtbl := g_in (List.mem_of_getElem? (i := 286) (by decide +kernel)) (by decide +kernel)
theorem fl_X8_80 : FL RX8 80 8 5 (.int) false := ⟨RX8, TX8, 7, tyX8, rfl, by decide, il_8, tyX8_ok, nmX8, rfl, rfl, Or.inl kk_286⟩
theorem kk_858 : Cond.methodLink RX8 92 yX8_isPreferred ∈ gtbl := g_in (List.mem_of_getElem? (i := 858) (by decide +kernel)) (by decide +kernel)
theorem kk_860 : Cond.code yX8_isPreferred cX8_isPreferred 3 (some .boolean) ∈ gtbl := g_in (List.mem_of_getElem? (i := 860) (by decide +kernel)) (by decide +kernel)
theorem kk_859 : Cond.static yX8_isPreferred ∈ gtbl := g_in (List.mem_of_getElem? (i := 859) (by decide +kernel)) (by decide +kernel)
theorem ks_X8_92 : KS RX8 92 mX8_isPreferred 2 := ⟨⟨kk_858, kk_124, kk_860, by decide +kernel⟩, rfl, kk_859⟩
abbrev mX8_judge : MT := (yX8_judge, cX8_judge, 9, none, [])
theorem kk_846 : Cond.methodLink RX8 77 yX8_judge ∈ gtbl := g_in (List.mem_of_getElem? (i := 846) (by decide +kernel)) (by decide +kernel)
theorem kk_849 : Cond.code yX8_judge cX8_judge 9 none ∈ gtbl := g_in (List.mem_of_getElem? (i := 849) (by decide +kernel)) (by decide +kernel)
theorem kk_848 : Cond.instanceMethod yX8_judge ∈ gtbl := g_in (List.mem_of_getElem? (i := 848) (by decide +kernel)) (by decide +kernel)
theorem kk_29 : Cond.selects RX8 yX8_judge yX8_judge ∈ gtbl := g_in (List.mem_of_getElem? (i := 29) (by decide +kernel)) (by decide +kernel)
theorem kv_X8_77 : KV RX8 77 mX8_judge 1 := ⟨⟨kk_846, kk_124, kk_849, by decide +kernel⟩, rfl, kk_848, kk_29⟩
abbrev mX8_liarSet : MT := (yX8_liarSet, cX8_liarSet, 2, (some .int), [])
theorem kk_842 : Cond.methodLink RX9 179 yX8_liarSet ∈ gtbl := g_in (List.mem_of_getElem? (i := 842) (by decide +kernel)) (by decide +kernel)
theorem kk_845 : Cond.code yX8_liarSet cX8_liarSet 2 (some .int) ∈ gtbl := g_in (List.mem_of_getElem? (i := 845) (by decide +kernel)) (by decide +kernel)
theorem kk_843 : Cond.instanceMethod yX8_liarSet ∈ gtbl := g_in (List.mem_of_getElem? (i := 843) (by decide +kernel)) (by decide +kernel)
theorem kk_844 : Cond.selects RX8 yX8_liarSet yX8_liarSet ∈ gtbl := g_in (List.mem_of_getElem? (i := 844) (by decide +kernel)) (by decide +kernel)
theorem kv_X9_179 : KV RX9 179 mX8_liarSet 1 := ⟨⟨kk_842, kk_124, kk_845, by decide +kernel⟩, rfl, kk_843, kk_844⟩
theorem kk_861 : Cond.methodLink RX9 182 yJ6_bitCount_0f7a4 ∈ gtbl := g_in (List.mem_of_getElem? (i := 861) (by decide +kernel)) (by decide +kernel)
theorem ks_X9_182 : KS RX9 182 mJ6_bitCount_0f7a4 1 := ⟨⟨kk_861, kk_143, kk_834, by decide +kernel⟩, rfl, kk_833⟩
abbrev mX9_liars : MT := (yX9_liars, cX9_liars, 1, (some .int), [])
abbrev mX8_setCount : MT := (yX8_setCount, cX8_setCount, 2, (some .int), [])
theorem kk_866 : Cond.methodLink RX9 187 yX8_setCount ∈ gtbl := g_in (List.mem_of_getElem? (i := 866) (by decide +kernel)) (by decide +kernel)
theorem kk_869 : Cond.code yX8_setCount cX8_setCount 2 (some .int) ∈ gtbl := g_in (List.mem_of_getElem? (i := 869) (by decide +kernel)) (by decide +kernel)
theorem kk_867 : Cond.instanceMethod yX8_setCount ∈ gtbl := g_in (List.mem_of_getElem? (i := 867) (by decide +kernel)) (by decide +kernel)
theorem kk_868 : Cond.selects RX8 yX8_setCount yX8_setCount ∈ gtbl := g_in (List.mem_of_getElem? (i := 868) (by decide +kernel)) (by decide +kernel)
theorem kv_X9_187 : KV RX9 187 mX8_setCount 1 := ⟨⟨kk_866, kk_124, kk_869, by decide +kernel⟩, rfl, kk_867, kk_868⟩
abbrev mX9_smallestSets : MT := (yX9_smallestSets, cX9_smallestSets, 1, (some .int), [])
abbrev mX9_isLiar : MT := (yX9_isLiar, cX9_isLiar, 2, (some .boolean), [])
theorem kx_X9_149_218_153 : KT RX9 149 153 218 "java/lang/IndexOutOfBoundsException" ["java/lang/RuntimeException", "java/lang/Exception"] 8 "no such event" := ⟨by decide +kernel, by decide +kernel, kk_1125, kk_142, rfl, at_X9_153, at_X9_153o, rfl⟩
abbrev mX9_needEvent : MT := (yX9_needEvent, cX9_needEvent, 2, none, [])
theorem kn_182 : Cond.fieldLinkNest RX8 120 RX0 "kinds" "LStoryTapestry$Row;" "StoryTapestry" ∈ gnest := n_in (List.mem_of_getElem? (i := 182) (by decide +kernel)) (by decide +kernel)
theorem fl_X8_120 : FL RX8 120 0 1 (.object "StoryTapestry$Row") true := ⟨RX0, TX0, 6, tyX0, rfl, by decide, il_0, tyX0_ok, nmX0, rfl, rfl, Or.inr ⟨_, kn_182⟩⟩
theorem kn_185 : Cond.fieldLinkNest RX8 123 RX0 "events" "LStoryTapestry$Row;" "StoryTapestry" ∈ gnest := n_in (List.mem_of_getElem? (i := 185) (by decide +kernel)) (by decide +kernel)
theorem fl_X8_123 : FL RX8 123 0 2 (.object "StoryTapestry$Row") true := ⟨RX0, TX0, 6, tyX0, rfl, by decide, il_0, tyX0_ok, nmX0, rfl, rfl, Or.inr ⟨_, kn_185⟩⟩
abbrev mX8_isHeard : MT := (yX8_isHeard, cX8_isHeard, 4, (some .boolean), [])
theorem kk_928 : Cond.methodLink RX8 95 yX8_isHeard ∈ gtbl := g_in (List.mem_of_getElem? (i := 928) (by decide +kernel)) (by decide +kernel)
theorem kk_931 : Cond.code yX8_isHeard cX8_isHeard 4 (some .boolean) ∈ gtbl := g_in (List.mem_of_getElem? (i := 931) (by decide +kernel)) (by decide +kernel)
theorem kk_930 : Cond.instanceMethod yX8_isHeard ∈ gtbl := g_in (List.mem_of_getElem? (i := 930) (by decide +kernel)) (by decide +kernel)
theorem kk_36 : Cond.selects RX8 yX8_isHeard yX8_isHeard ∈ gtbl := g_in (List.mem_of_getElem? (i := 36) (by decide +kernel)) (by decide +kernel)
theorem kv_X8_95 : KV RX8 95 mX8_isHeard 3 := ⟨⟨kk_928, kk_124, kk_931, by decide +kernel⟩, rfl, kk_930, kk_36⟩
theorem kn_190 : Cond.fieldLinkNest RX8 108 RX0 "lasts" "LStoryTapestry$Row;" "StoryTapestry" ∈ gnest := n_in (List.mem_of_getElem? (i := 190) (by decide +kernel)) (by decide +kernel)
theorem fl_X8_108 : FL RX8 108 0 4 (.object "StoryTapestry$Row") true := ⟨RX0, TX0, 6, tyX0, rfl, by decide, il_0, tyX0_ok, nmX0, rfl, rfl, Or.inr ⟨_, kn_190⟩⟩
theorem kk_932 : Cond.methodLink RX8 111 yJ9_min_7cf53 ∈ gtbl := g_in (List.mem_of_getElem? (i := 932) (by decide +kernel)) (by decide +kernel)
theorem ks_X8_111 : KS RX8 111 mJ9_min_7cf53 2 := ⟨⟨kk_932, kk_140, kk_591, by decide +kernel⟩, rfl, kk_590⟩
abbrev mX8_lastHour : MT := (yX8_lastHour, cX8_lastHour, 5, (some .int), [])
theorem kn_187 : Cond.fieldLinkNest RX8 99 RX0 "firsts" "LStoryTapestry$Row;" "StoryTapestry" ∈ gnest := n_in (List.mem_of_getElem? (i := 187) (by decide +kernel)) (by decide +kernel)
theorem fl_X8_99 : FL RX8 99 0 3 (.object "StoryTapestry$Row") true := ⟨RX0, TX0, 6, tyX0, rfl, by decide, il_0, tyX0_ok, nmX0, rfl, rfl, Or.inr ⟨_, kn_187⟩⟩
theorem kk_937 : Cond.methodLink RX8 102 yJ9_max_7cf53 ∈ gtbl := g_in (List.mem_of_getElem? (i := 937) (by decide +kernel)) (by decide +kernel)
theorem ks_X8_102 : KS RX8 102 mJ9_max_7cf53 2 := ⟨⟨kk_937, kk_140, kk_588, by decide +kernel⟩, rfl, kk_587⟩
abbrev mX8_firstHour : MT := (yX8_firstHour, cX8_firstHour, 5, (some .int), [])
theorem kk_924 : Cond.methodLink RX8 114 yX8_lastHour ∈ gtbl := g_in (List.mem_of_getElem? (i := 924) (by decide +kernel)) (by decide +kernel)
theorem kk_927 : Cond.code yX8_lastHour cX8_lastHour 5 (some .int) ∈ gtbl := g_in (List.mem_of_getElem? (i := 927) (by decide +kernel)) (by decide +kernel)
theorem kk_925 : Cond.instanceMethod yX8_lastHour ∈ gtbl := g_in (List.mem_of_getElem? (i := 925) (by decide +kernel)) (by decide +kernel)
theorem kk_926 : Cond.selects RX8 yX8_lastHour yX8_lastHour ∈ gtbl := g_in (List.mem_of_getElem? (i := 926) (by decide +kernel)) (by decide +kernel)
theorem kv_X8_114 : KV RX8 114 mX8_lastHour 2 := ⟨⟨kk_924, kk_124, kk_927, by decide +kernel⟩, rfl, kk_925, kk_926⟩
theorem kk_933 : Cond.methodLink RX8 117 yX8_firstHour ∈ gtbl := g_in (List.mem_of_getElem? (i := 933) (by decide +kernel)) (by decide +kernel)
theorem kk_936 : Cond.code yX8_firstHour cX8_firstHour 5 (some .int) ∈ gtbl := g_in (List.mem_of_getElem? (i := 936) (by decide +kernel)) (by decide +kernel)
theorem kk_934 : Cond.instanceMethod yX8_firstHour ∈ gtbl := g_in (List.mem_of_getElem? (i := 934) (by decide +kernel)) (by decide +kernel)
theorem kk_935 : Cond.selects RX8 yX8_firstHour yX8_firstHour ∈ gtbl := g_in (List.mem_of_getElem? (i := 935) (by decide +kernel)) (by decide +kernel)
theorem kv_X8_117 : KV RX8 117 mX8_firstHour 2 := ⟨⟨kk_933, kk_124, kk_936, by decide +kernel⟩, rfl, kk_934, kk_935⟩
abbrev mX8_windowHours : MT := (yX8_windowHours, cX8_windowHours, 3, (some .int), [])
theorem kk_1245 : Cond.methodLink RX9 192 yX9_needEvent ∈ gtbl := g_in (List.mem_of_getElem? (i := 1245) (by decide +kernel)) (by decide +kernel)
theorem kk_1248 : Cond.code yX9_needEvent cX9_needEvent 2 none ∈ gtbl := g_in (List.mem_of_getElem? (i := 1248) (by decide +kernel)) (by decide +kernel)
theorem kk_1247 : Cond.instanceMethod yX9_needEvent ∈ gtbl := g_in (List.mem_of_getElem? (i := 1247) (by decide +kernel)) (by decide +kernel)
theorem kk_49 : Cond.selects RX9 yX9_needEvent yX9_needEvent ∈ gtbl := g_in (List.mem_of_getElem? (i := 49) (by decide +kernel)) (by decide +kernel)
theorem kv_X9_192 : KV RX9 192 mX9_needEvent 1 := ⟨⟨kk_1245, kk_119, kk_1248, by decide +kernel⟩, rfl, kk_1247, kk_49⟩
theorem kk_1006 : Cond.methodLink RX9 195 yX8_windowHours ∈ gtbl := g_in (List.mem_of_getElem? (i := 1006) (by decide +kernel)) (by decide +kernel)
theorem kk_923 : Cond.code yX8_windowHours cX8_windowHours 3 (some .int) ∈ gtbl := g_in (List.mem_of_getElem? (i := 923) (by decide +kernel)) (by decide +kernel)
theorem kk_921 : Cond.instanceMethod yX8_windowHours ∈ gtbl := g_in (List.mem_of_getElem? (i := 921) (by decide +kernel)) (by decide +kernel)
theorem kk_922 : Cond.selects RX8 yX8_windowHours yX8_windowHours ∈ gtbl := g_in (List.mem_of_getElem? (i := 922) (by decide +kernel)) (by decide +kernel)
theorem kv_X9_195 : KV RX9 195 mX8_windowHours 2 := ⟨⟨kk_1006, kk_124, kk_923, by decide +kernel⟩, rfl, kk_921, kk_922⟩
abbrev mX9_isAgreed : MT := (yX9_isAgreed, cX9_isAgreed, 2, (some .boolean), [])
theorem kx_X9_62_220_66 : KT RX9 62 66 220 "java/lang/IllegalStateException" ["java/lang/RuntimeException", "java/lang/Exception"] 9 "the event is not agreed on" := ⟨by decide +kernel, by decide +kernel, kk_1017, kk_138, rfl, at_X9_66, at_X9_66o, rfl⟩
abbrev mX9_needWindow : MT := (yX9_needWindow, cX9_needWindow, 2, none, [])
theorem kk_1257 : Cond.methodLink RX9 198 yX9_needWindow ∈ gtbl := g_in (List.mem_of_getElem? (i := 1257) (by decide +kernel)) (by decide +kernel)
theorem kk_1260 : Cond.code yX9_needWindow cX9_needWindow 2 none ∈ gtbl := g_in (List.mem_of_getElem? (i := 1260) (by decide +kernel)) (by decide +kernel)
theorem kk_1259 : Cond.instanceMethod yX9_needWindow ∈ gtbl := g_in (List.mem_of_getElem? (i := 1259) (by decide +kernel)) (by decide +kernel)
theorem kk_50 : Cond.selects RX9 yX9_needWindow yX9_needWindow ∈ gtbl := g_in (List.mem_of_getElem? (i := 50) (by decide +kernel)) (by decide +kernel)
theorem kv_X9_198 : KV RX9 198 mX9_needWindow 1 := ⟨⟨kk_1257, kk_119, kk_1260, by decide +kernel⟩, rfl, kk_1259, kk_50⟩
theorem kk_1007 : Cond.methodLink RX9 201 yX8_firstHour ∈ gtbl := g_in (List.mem_of_getElem? (i := 1007) (by decide +kernel)) (by decide +kernel)
theorem kv_X9_201 : KV RX9 201 mX8_firstHour 2 := ⟨⟨kk_1007, kk_124, kk_936, by decide +kernel⟩, rfl, kk_934, kk_935⟩
abbrev mX9_windowFrom : MT := (yX9_windowFrom, cX9_windowFrom, 2, (some .int), [])
theorem kk_1008 : Cond.methodLink RX9 204 yX8_lastHour ∈ gtbl := g_in (List.mem_of_getElem? (i := 1008) (by decide +kernel)) (by decide +kernel)
theorem kv_X9_204 : KV RX9 204 mX8_lastHour 2 := ⟨⟨kk_1008, kk_124, kk_927, by decide +kernel⟩, rfl, kk_925, kk_926⟩
abbrev mX9_windowTo : MT := (yX9_windowTo, cX9_windowTo, 2, (some .int), [])
theorem kk_282 : Cond.fieldLink RX8 24 RX8 "ahead" "LStoryTapestry$Row;" ∈ gtbl := g_in (List.mem_of_getElem? (i := 282) (by decide +kernel)) (by decide +kernel)
theorem fl_X8_24 : FL RX8 24 8 2 (.object "StoryTapestry$Row") true := ⟨RX8, TX8, 7, tyX8, rfl, by decide, il_8, tyX8_ok, nmX8, rfl, rfl, Or.inl kk_282⟩
abbrev mX8_gatherAhead : MT := (yX8_gatherAhead, cX8_gatherAhead, 4, none, [])
theorem kn_258 : Cond.fieldLinkNest RX8 131 RX6 "eventCount" "I" "StoryTapestry" ∈ gnest := n_in (List.mem_of_getElem? (i := 258) (by decide +kernel)) (by decide +kernel)
theorem fl_X8_131 : FL RX8 131 6 2 (.int) false := ⟨RX6, TX6, 4, tyX6, rfl, by decide, il_6, tyX6_ok, nmX6, rfl, rfl, Or.inr ⟨_, kn_258⟩⟩
abbrev mX8_nextEvent : MT := (yX8_nextEvent, cX8_nextEvent, 3, (some .int), [])
theorem kk_878 : Cond.methodLink RX8 126 yX8_liarSet ∈ gtbl := g_in (List.mem_of_getElem? (i := 878) (by decide +kernel)) (by decide +kernel)
theorem kv_X8_126 : KV RX8 126 mX8_liarSet 1 := ⟨⟨kk_878, kk_124, kk_845, by decide +kernel⟩, rfl, kk_843, kk_844⟩
theorem kk_879 : Cond.methodLink RX8 128 yX8_gatherAhead ∈ gtbl := g_in (List.mem_of_getElem? (i := 879) (by decide +kernel)) (by decide +kernel)
theorem kk_882 : Cond.code yX8_gatherAhead cX8_gatherAhead 4 none ∈ gtbl := g_in (List.mem_of_getElem? (i := 882) (by decide +kernel)) (by decide +kernel)
theorem kk_881 : Cond.instanceMethod yX8_gatherAhead ∈ gtbl := g_in (List.mem_of_getElem? (i := 881) (by decide +kernel)) (by decide +kernel)
theorem kk_32 : Cond.selects RX8 yX8_gatherAhead yX8_gatherAhead ∈ gtbl := g_in (List.mem_of_getElem? (i := 32) (by decide +kernel)) (by decide +kernel)
theorem kv_X8_128 : KV RX8 128 mX8_gatherAhead 1 := ⟨⟨kk_879, kk_124, kk_882, by decide +kernel⟩, rfl, kk_881, kk_32⟩
theorem kk_883 : Cond.methodLink RX8 134 yX8_nextEvent ∈ gtbl := g_in (List.mem_of_getElem? (i := 883) (by decide +kernel)) (by decide +kernel)
theorem kk_886 : Cond.code yX8_nextEvent cX8_nextEvent 3 (some .int) ∈ gtbl := g_in (List.mem_of_getElem? (i := 886) (by decide +kernel)) (by decide +kernel)
theorem kk_885 : Cond.instanceMethod yX8_nextEvent ∈ gtbl := g_in (List.mem_of_getElem? (i := 885) (by decide +kernel)) (by decide +kernel)
theorem kk_33 : Cond.selects RX8 yX8_nextEvent yX8_nextEvent ∈ gtbl := g_in (List.mem_of_getElem? (i := 33) (by decide +kernel)) (by decide +kernel)
theorem kv_X8_134 : KV RX8 134 mX8_nextEvent 1 := ⟨⟨kk_883, kk_124, kk_886, by decide +kernel⟩, rfl, kk_885, kk_33⟩
theorem kk_283 : Cond.fieldLink RX8 27 RX8 "order" "LStoryTapestry$Row;" ∈ gtbl := g_in (List.mem_of_getElem? (i := 283) (by decide +kernel)) (by decide +kernel)
theorem fl_X8_27 : FL RX8 27 8 3 (.object "StoryTapestry$Row") true := ⟨RX8, TX8, 7, tyX8, rfl, by decide, il_8, tyX8_ok, nmX8, rfl, rfl, Or.inl kk_283⟩
abbrev mX8_arrange : MT := (yX8_arrange, cX8_arrange, 5, (some .boolean), [])
theorem kk_874 : Cond.methodLink RX9 207 yX8_arrange ∈ gtbl := g_in (List.mem_of_getElem? (i := 874) (by decide +kernel)) (by decide +kernel)
theorem kk_877 : Cond.code yX8_arrange cX8_arrange 5 (some .boolean) ∈ gtbl := g_in (List.mem_of_getElem? (i := 877) (by decide +kernel)) (by decide +kernel)
theorem kk_875 : Cond.instanceMethod yX8_arrange ∈ gtbl := g_in (List.mem_of_getElem? (i := 875) (by decide +kernel)) (by decide +kernel)
theorem kk_876 : Cond.selects RX8 yX8_arrange yX8_arrange ∈ gtbl := g_in (List.mem_of_getElem? (i := 876) (by decide +kernel)) (by decide +kernel)
theorem kv_X9_207 : KV RX9 207 mX8_arrange 1 := ⟨⟨kk_874, kk_124, kk_877, by decide +kernel⟩, rfl, kk_875, kk_876⟩
abbrev mX9_hasOrder : MT := (yX9_hasOrder, cX9_hasOrder, 1, (some .boolean), [])
theorem kx_X9_149_211_153 : KT RX9 149 153 211 "java/lang/IndexOutOfBoundsException" ["java/lang/RuntimeException", "java/lang/Exception"] 10 "no such place" := ⟨by decide +kernel, by decide +kernel, kk_1125, kk_142, rfl, at_X9_153, at_X9_153o, rfl⟩
theorem kn_284 : Cond.fieldLinkNest RX9 215 RX8 "order" "LStoryTapestry$Row;" "StoryTapestry" ∈ gnest := n_in (List.mem_of_getElem? (i := 284) (by decide +kernel)) (by decide +kernel)
theorem fl_X9_215 : FL RX9 215 8 3 (.object "StoryTapestry$Row") true := ⟨RX8, TX8, 7, tyX8, rfl, by decide, il_8, tyX8_ok, nmX8, rfl, rfl, Or.inr ⟨_, kn_284⟩⟩
theorem kx_X9_62_213_66 : KT RX9 62 66 213 "java/lang/IllegalStateException" ["java/lang/RuntimeException", "java/lang/Exception"] 11 "there is no order" := ⟨by decide +kernel, by decide +kernel, kk_1017, kk_138, rfl, at_X9_66, at_X9_66o, rfl⟩
abbrev mX9_eventAt : MT := (yX9_eventAt, cX9_eventAt, 2, (some .int), [])
theorem kk_1290 : Cond.methodLink RX9 236 yX0_isFull ∈ gtbl := g_in (List.mem_of_getElem? (i := 1290) (by decide +kernel)) (by decide +kernel)
theorem kv_X9_236 : KV RX9 236 mX0_isFull 0 := ⟨⟨kk_1290, kk_122, kk_668, by decide +kernel⟩, rfl, kk_666, kk_667⟩
theorem kk_1292 : Cond.methodLink RX9 242 yX0_add ∈ gtbl := g_in (List.mem_of_getElem? (i := 1292) (by decide +kernel)) (by decide +kernel)
theorem kv_X9_242 : KV RX9 242 mX0_add 5 := ⟨⟨kk_1292, kk_122, kk_688, by decide +kernel⟩, rfl, kk_686, kk_687⟩
theorem kx_X9_62_240_66 : KT RX9 62 66 240 "java/lang/IllegalStateException" ["java/lang/RuntimeException", "java/lang/Exception"] 13 "there are 40 claims" := ⟨by decide +kernel, by decide +kernel, kk_1017, kk_138, rfl, at_X9_66, at_X9_66o, rfl⟩
abbrev mX9_claimByHand : MT := (yX9_claimByHand, cX9_claimByHand, 6, (some .int), [])
theorem kx_X9_76_222_80 : KT RX9 76 80 222 "java/lang/IllegalArgumentException" ["java/lang/RuntimeException", "java/lang/Exception"] 12 "not hours from 0 to 99" := ⟨by decide +kernel, by decide +kernel, kk_1097, kk_139, rfl, at_X9_80, at_X9_80o, rfl⟩
theorem kk_1286 : Cond.methodLink RX9 224 yX9_claimByHand ∈ gtbl := g_in (List.mem_of_getElem? (i := 1286) (by decide +kernel)) (by decide +kernel)
theorem kk_1289 : Cond.code yX9_claimByHand cX9_claimByHand 6 (some .int) ∈ gtbl := g_in (List.mem_of_getElem? (i := 1289) (by decide +kernel)) (by decide +kernel)
theorem kk_1288 : Cond.instanceMethod yX9_claimByHand ∈ gtbl := g_in (List.mem_of_getElem? (i := 1288) (by decide +kernel)) (by decide +kernel)
theorem kk_51 : Cond.selects RX9 yX9_claimByHand yX9_claimByHand ∈ gtbl := g_in (List.mem_of_getElem? (i := 51) (by decide +kernel)) (by decide +kernel)
theorem kv_X9_224 : KV RX9 224 mX9_claimByHand 5 := ⟨⟨kk_1286, kk_119, kk_1289, by decide +kernel⟩, rfl, kk_1288, kk_51⟩
abbrev mX9_claimHours : MT := (yX9_claimHours, cX9_claimHours, 5, (some .int), [])
theorem kx_X9_76_234_80 : KT RX9 76 80 234 "java/lang/IllegalArgumentException" ["java/lang/RuntimeException", "java/lang/Exception"] 14 "both events are the same" := ⟨by decide +kernel, by decide +kernel, kk_1097, kk_139, rfl, at_X9_80, at_X9_80o, rfl⟩
abbrev mX9_needTwoEvents : MT := (yX9_needTwoEvents, cX9_needTwoEvents, 3, none, [])
theorem kk_1300 : Cond.methodLink RX9 228 yX9_needTwoEvents ∈ gtbl := g_in (List.mem_of_getElem? (i := 1300) (by decide +kernel)) (by decide +kernel)
theorem kk_1303 : Cond.code yX9_needTwoEvents cX9_needTwoEvents 3 none ∈ gtbl := g_in (List.mem_of_getElem? (i := 1303) (by decide +kernel)) (by decide +kernel)
theorem kk_1302 : Cond.instanceMethod yX9_needTwoEvents ∈ gtbl := g_in (List.mem_of_getElem? (i := 1302) (by decide +kernel)) (by decide +kernel)
theorem kk_52 : Cond.selects RX9 yX9_needTwoEvents yX9_needTwoEvents ∈ gtbl := g_in (List.mem_of_getElem? (i := 52) (by decide +kernel)) (by decide +kernel)
theorem kv_X9_228 : KV RX9 228 mX9_needTwoEvents 2 := ⟨⟨kk_1300, kk_119, kk_1303, by decide +kernel⟩, rfl, kk_1302, kk_52⟩
abbrev mX9_claimBefore : MT := (yX9_claimBefore, cX9_claimBefore, 4, (some .int), [])
abbrev mX9_claimTogether : MT := (yX9_claimTogether, cX9_claimTogether, 4, (some .int), [])
abbrev mX0_remove : MT := (yX0_remove, cX0_remove, 3, none, [])
theorem kk_1319 : Cond.methodLink RX9 231 yX0_remove ∈ gtbl := g_in (List.mem_of_getElem? (i := 1319) (by decide +kernel)) (by decide +kernel)
theorem kk_1322 : Cond.code yX0_remove cX0_remove 3 none ∈ gtbl := g_in (List.mem_of_getElem? (i := 1322) (by decide +kernel)) (by decide +kernel)
theorem kk_1320 : Cond.instanceMethod yX0_remove ∈ gtbl := g_in (List.mem_of_getElem? (i := 1320) (by decide +kernel)) (by decide +kernel)
theorem kk_1321 : Cond.selects RX0 yX0_remove yX0_remove ∈ gtbl := g_in (List.mem_of_getElem? (i := 1321) (by decide +kernel)) (by decide +kernel)
theorem kv_X9_231 : KV RX9 231 mX0_remove 1 := ⟨⟨kk_1319, kk_122, kk_1322, by decide +kernel⟩, rfl, kk_1320, kk_1321⟩
abbrev mX9_takeBack : MT := (yX9_takeBack, cX9_takeBack, 3, (some .int), [])
abbrev mX9_turnDoubt : MT := (yX9_turnDoubt, cX9_turnDoubt, 2, (some .boolean), [])
theorem kx_X9_76_298_80 : KT RX9 76 80 298 "java/lang/IllegalArgumentException" ["java/lang/RuntimeException", "java/lang/Exception"] 15 "not 1 to 30 evenings" := ⟨by decide +kernel, by decide +kernel, kk_1097, kk_139, rfl, at_X9_80, at_X9_80o, rfl⟩
abbrev mX9_needEvenings : MT := (yX9_needEvenings, cX9_needEvenings, 2, none, [])
theorem kk_907 : Cond.methodLink RX3 55 yX5_get ∈ gtbl := g_in (List.mem_of_getElem? (i := 907) (by decide +kernel)) (by decide +kernel)
theorem kv_X3_55 : KV RX3 55 mX5_get 1 := ⟨⟨kk_907, kk_120, kk_546, by decide +kernel⟩, rfl, kk_544, kk_545⟩
abbrev mX3_startOf : MT := (yX3_startOf, cX3_startOf, 2, (some .int), [])
theorem kk_476 : Cond.fieldLink RX1 72 RX1 "top" "I" ∈ gtbl := g_in (List.mem_of_getElem? (i := 476) (by decide +kernel)) (by decide +kernel)
theorem fl_X1_72 : FL RX1 72 1 3 (.int) false := ⟨RX1, TX1, 7, tyX1, rfl, by decide, il_1, tyX1_ok, nmX1, rfl, rfl, Or.inl kk_476⟩
theorem kk_475 : Cond.fieldLink RX1 24 RX1 "stack" "LStoryTapestry$Row;" ∈ gtbl := g_in (List.mem_of_getElem? (i := 475) (by decide +kernel)) (by decide +kernel)
theorem fl_X1_24 : FL RX1 24 1 2 (.object "StoryTapestry$Row") true := ⟨RX1, TX1, 7, tyX1, rfl, by decide, il_1, tyX1_ok, nmX1, rfl, rfl, Or.inl kk_475⟩
theorem kk_908 : Cond.methodLink RX1 59 yX5_get ∈ gtbl := g_in (List.mem_of_getElem? (i := 908) (by decide +kernel)) (by decide +kernel)
theorem kv_X1_59 : KV RX1 59 mX5_get 1 := ⟨⟨kk_908, kk_120, kk_546, by decide +kernel⟩, rfl, kk_544, kk_545⟩
abbrev mX1_pop : MT := (yX1_pop, cX1_pop, 1, (some .int), [])
theorem kk_474 : Cond.fieldLink RX1 15 RX1 "verdict" "LStoryTapestry$Verdict;" ∈ gtbl := g_in (List.mem_of_getElem? (i := 474) (by decide +kernel)) (by decide +kernel)
theorem fl_X1_15 : FL RX1 15 1 1 (.object "StoryTapestry$Verdict") true := ⟨RX1, TX1, 7, tyX1, rfl, by decide, il_1, tyX1_ok, nmX1, rfl, rfl, Or.inl kk_474⟩
theorem kk_913 : Cond.methodLink RX1 99 yX8_liarSet ∈ gtbl := g_in (List.mem_of_getElem? (i := 913) (by decide +kernel)) (by decide +kernel)
theorem kv_X1_99 : KV RX1 99 mX8_liarSet 1 := ⟨⟨kk_913, kk_124, kk_845, by decide +kernel⟩, rfl, kk_843, kk_844⟩
theorem kk_914 : Cond.methodLink RX1 104 yJ6_bitCount_0f7a4 ∈ gtbl := g_in (List.mem_of_getElem? (i := 914) (by decide +kernel)) (by decide +kernel)
theorem ks_X1_104 : KS RX1 104 mJ6_bitCount_0f7a4 1 := ⟨⟨kk_914, kk_143, kk_834, by decide +kernel⟩, rfl, kk_833⟩
theorem kk_915 : Cond.methodLink RX1 109 yX8_pairCount ∈ gtbl := g_in (List.mem_of_getElem? (i := 915) (by decide +kernel)) (by decide +kernel)
theorem kv_X1_109 : KV RX1 109 mX8_pairCount 1 := ⟨⟨kk_915, kk_124, kk_824, by decide +kernel⟩, rfl, kk_822, kk_823⟩
theorem kn_943 : Cond.methodLinkNest RX1 132 yX9_has "StoryTapestry" ∈ gnest := n_in (List.mem_of_getElem? (i := 943) (by decide +kernel)) (by decide +kernel)
theorem kq_X1_132 : KSN RX1 132 mX9_has 2 := ⟨⟨_, kn_943⟩, kk_119, kk_831, rfl, by decide +kernel, kk_830⟩
theorem kn_942 : Cond.methodLinkNest RX1 128 yX9_one "StoryTapestry" ∈ gnest := n_in (List.mem_of_getElem? (i := 942) (by decide +kernel)) (by decide +kernel)
theorem kq_X1_128 : KSN RX1 128 mX9_one 1 := ⟨⟨_, kn_942⟩, kk_119, kk_755, rfl, by decide +kernel, kk_754⟩
theorem kk_473 : Cond.fieldLink RX1 9 RX1 "told" "LStoryTapestry$Tapestry;" ∈ gtbl := g_in (List.mem_of_getElem? (i := 473) (by decide +kernel)) (by decide +kernel)
theorem fl_X1_9 : FL RX1 9 1 0 (.object "StoryTapestry$Tapestry") true := ⟨RX1, TX1, 7, tyX1, rfl, by decide, il_1, tyX1_ok, nmX1, rfl, rfl, Or.inl kk_473⟩
theorem kn_250 : Cond.fieldLinkNest RX1 112 RX6 "claims" "LStoryTapestry$Claims;" "StoryTapestry" ∈ gnest := n_in (List.mem_of_getElem? (i := 250) (by decide +kernel)) (by decide +kernel)
theorem fl_X1_112 : FL RX1 112 6 0 (.object "StoryTapestry$Claims") true := ⟨RX6, TX6, 4, tyX6, rfl, by decide, il_6, tyX6_ok, nmX6, rfl, rfl, Or.inr ⟨_, kn_250⟩⟩
theorem kk_916 : Cond.methodLink RX1 116 yX0_countOf ∈ gtbl := g_in (List.mem_of_getElem? (i := 916) (by decide +kernel)) (by decide +kernel)
theorem kv_X1_116 : KV RX1 116 mX0_countOf 1 := ⟨⟨kk_916, kk_122, kk_919, by decide +kernel⟩, rfl, kk_917, kk_918⟩
theorem kk_920 : Cond.methodLink RX1 121 yX8_windowHours ∈ gtbl := g_in (List.mem_of_getElem? (i := 920) (by decide +kernel)) (by decide +kernel)
theorem kv_X1_121 : KV RX1 121 mX8_windowHours 2 := ⟨⟨kk_920, kk_124, kk_923, by decide +kernel⟩, rfl, kk_921, kk_922⟩
theorem kk_938 : Cond.methodLink RX1 124 yX8_tellersContradict ∈ gtbl := g_in (List.mem_of_getElem? (i := 938) (by decide +kernel)) (by decide +kernel)
theorem kv_X1_124 : KV RX1 124 mX8_tellersContradict 3 := ⟨⟨kk_938, kk_124, kk_941, by decide +kernel⟩, rfl, kk_939, kk_940⟩
abbrev mX1_fact : MT := (yX1_fact, cX1_fact, 3, (some .int), [])
theorem kk_948 : Cond.methodLink RX1 95 yX5_set ∈ gtbl := g_in (List.mem_of_getElem? (i := 948) (by decide +kernel)) (by decide +kernel)
theorem kv_X1_95 : KV RX1 95 mX5_set 2 := ⟨⟨kk_948, kk_120, kk_550, by decide +kernel⟩, rfl, kk_548, kk_549⟩
abbrev mX1_push : MT := (yX1_push, cX1_push, 2, none, [])
theorem kk_960 : Cond.methodLink RX1 140 yJ9_min_7cf53 ∈ gtbl := g_in (List.mem_of_getElem? (i := 960) (by decide +kernel)) (by decide +kernel)
theorem ks_X1_140 : KS RX1 140 mJ9_min_7cf53 2 := ⟨⟨kk_960, kk_140, kk_591, by decide +kernel⟩, rfl, kk_590⟩
theorem kk_961 : Cond.methodLink RX1 145 yJ9_max_7cf53 ∈ gtbl := g_in (List.mem_of_getElem? (i := 961) (by decide +kernel)) (by decide +kernel)
theorem ks_X1_145 : KS RX1 145 mJ9_max_7cf53 2 := ⟨⟨kk_961, kk_140, kk_588, by decide +kernel⟩, rfl, kk_587⟩
abbrev mX1_combine : MT := (yX1_combine, cX1_combine, 3, (some .int), [])
theorem kk_953 : Cond.methodLink RX1 91 yX1_pop ∈ gtbl := g_in (List.mem_of_getElem? (i := 953) (by decide +kernel)) (by decide +kernel)
theorem kk_956 : Cond.code yX1_pop cX1_pop 1 (some .int) ∈ gtbl := g_in (List.mem_of_getElem? (i := 956) (by decide +kernel)) (by decide +kernel)
theorem kk_955 : Cond.instanceMethod yX1_pop ∈ gtbl := g_in (List.mem_of_getElem? (i := 955) (by decide +kernel)) (by decide +kernel)
theorem kk_39 : Cond.selects RX1 yX1_pop yX1_pop ∈ gtbl := g_in (List.mem_of_getElem? (i := 39) (by decide +kernel)) (by decide +kernel)
theorem kv_X1_91 : KV RX1 91 mX1_pop 0 := ⟨⟨kk_953, kk_132, kk_956, by decide +kernel⟩, rfl, kk_955, kk_39⟩
theorem kk_957 : Cond.methodLink RX1 136 yX1_combine ∈ gtbl := g_in (List.mem_of_getElem? (i := 957) (by decide +kernel)) (by decide +kernel)
theorem kk_959 : Cond.code yX1_combine cX1_combine 3 (some .int) ∈ gtbl := g_in (List.mem_of_getElem? (i := 959) (by decide +kernel)) (by decide +kernel)
theorem kk_958 : Cond.static yX1_combine ∈ gtbl := g_in (List.mem_of_getElem? (i := 958) (by decide +kernel)) (by decide +kernel)
theorem ks_X1_136 : KS RX1 136 mX1_combine 3 := ⟨⟨kk_957, kk_132, kk_959, by decide +kernel⟩, rfl, kk_958⟩
theorem kk_944 : Cond.methodLink RX1 85 yX1_push ∈ gtbl := g_in (List.mem_of_getElem? (i := 944) (by decide +kernel)) (by decide +kernel)
theorem kk_947 : Cond.code yX1_push cX1_push 2 none ∈ gtbl := g_in (List.mem_of_getElem? (i := 947) (by decide +kernel)) (by decide +kernel)
theorem kk_946 : Cond.instanceMethod yX1_push ∈ gtbl := g_in (List.mem_of_getElem? (i := 946) (by decide +kernel)) (by decide +kernel)
theorem kk_37 : Cond.selects RX1 yX1_push yX1_push ∈ gtbl := g_in (List.mem_of_getElem? (i := 37) (by decide +kernel)) (by decide +kernel)
theorem kv_X1_85 : KV RX1 85 mX1_push 1 := ⟨⟨kk_944, kk_132, kk_947, by decide +kernel⟩, rfl, kk_946, kk_37⟩
abbrev mX1_reckon : MT := (yX1_reckon, cX1_reckon, 3, none, [])
theorem kn_253 : Cond.fieldLinkNest RX1 38 RX6 "orders" "LStoryTapestry$Orders;" "StoryTapestry" ∈ gnest := n_in (List.mem_of_getElem? (i := 253) (by decide +kernel)) (by decide +kernel)
theorem fl_X1_38 : FL RX1 38 6 1 (.object "StoryTapestry$Orders") true := ⟨RX6, TX6, 4, tyX6, rfl, by decide, il_6, tyX6_ok, nmX6, rfl, rfl, Or.inr ⟨_, kn_253⟩⟩
theorem kk_903 : Cond.methodLink RX1 66 yX3_startOf ∈ gtbl := g_in (List.mem_of_getElem? (i := 903) (by decide +kernel)) (by decide +kernel)
theorem kk_906 : Cond.code yX3_startOf cX3_startOf 2 (some .int) ∈ gtbl := g_in (List.mem_of_getElem? (i := 906) (by decide +kernel)) (by decide +kernel)
theorem kk_904 : Cond.instanceMethod yX3_startOf ∈ gtbl := g_in (List.mem_of_getElem? (i := 904) (by decide +kernel)) (by decide +kernel)
theorem kk_905 : Cond.selects RX3 yX3_startOf yX3_startOf ∈ gtbl := g_in (List.mem_of_getElem? (i := 905) (by decide +kernel)) (by decide +kernel)
theorem kv_X1_66 : KV RX1 66 mX3_startOf 1 := ⟨⟨kk_903, kk_123, kk_906, by decide +kernel⟩, rfl, kk_904, kk_905⟩
theorem kn_222 : Cond.fieldLinkNest RX1 69 RX3 "ends" "LStoryTapestry$Row;" "StoryTapestry" ∈ gnest := n_in (List.mem_of_getElem? (i := 222) (by decide +kernel)) (by decide +kernel)
theorem fl_X1_69 : FL RX1 69 3 2 (.object "StoryTapestry$Row") true := ⟨RX3, TX3, 7, tyX3, rfl, by decide, il_3, tyX3_ok, nmX3, rfl, rfl, Or.inr ⟨_, kn_222⟩⟩
theorem kn_224 : Cond.fieldLinkNest RX1 75 RX3 "stepKinds" "LStoryTapestry$Row;" "StoryTapestry" ∈ gnest := n_in (List.mem_of_getElem? (i := 224) (by decide +kernel)) (by decide +kernel)
theorem fl_X1_75 : FL RX1 75 3 3 (.object "StoryTapestry$Row") true := ⟨RX3, TX3, 7, tyX3, rfl, by decide, il_3, tyX3_ok, nmX3, rfl, rfl, Or.inr ⟨_, kn_224⟩⟩
theorem kn_226 : Cond.fieldLinkNest RX1 78 RX3 "stepParts" "LStoryTapestry$Row;" "StoryTapestry" ∈ gnest := n_in (List.mem_of_getElem? (i := 226) (by decide +kernel)) (by decide +kernel)
theorem fl_X1_78 : FL RX1 78 3 4 (.object "StoryTapestry$Row") true := ⟨RX3, TX3, 7, tyX3, rfl, by decide, il_3, tyX3_ok, nmX3, rfl, rfl, Or.inr ⟨_, kn_226⟩⟩
theorem kk_909 : Cond.methodLink RX1 81 yX1_fact ∈ gtbl := g_in (List.mem_of_getElem? (i := 909) (by decide +kernel)) (by decide +kernel)
theorem kk_912 : Cond.code yX1_fact cX1_fact 3 (some .int) ∈ gtbl := g_in (List.mem_of_getElem? (i := 912) (by decide +kernel)) (by decide +kernel)
theorem kk_911 : Cond.instanceMethod yX1_fact ∈ gtbl := g_in (List.mem_of_getElem? (i := 911) (by decide +kernel)) (by decide +kernel)
theorem kk_35 : Cond.selects RX1 yX1_fact yX1_fact ∈ gtbl := g_in (List.mem_of_getElem? (i := 35) (by decide +kernel)) (by decide +kernel)
theorem kv_X1_81 : KV RX1 81 mX1_fact 2 := ⟨⟨kk_909, kk_132, kk_912, by decide +kernel⟩, rfl, kk_911, kk_35⟩
theorem kk_949 : Cond.methodLink RX1 88 yX1_reckon ∈ gtbl := g_in (List.mem_of_getElem? (i := 949) (by decide +kernel)) (by decide +kernel)
theorem kk_952 : Cond.code yX1_reckon cX1_reckon 3 none ∈ gtbl := g_in (List.mem_of_getElem? (i := 952) (by decide +kernel)) (by decide +kernel)
theorem kk_951 : Cond.instanceMethod yX1_reckon ∈ gtbl := g_in (List.mem_of_getElem? (i := 951) (by decide +kernel)) (by decide +kernel)
theorem kk_38 : Cond.selects RX1 yX1_reckon yX1_reckon ∈ gtbl := g_in (List.mem_of_getElem? (i := 38) (by decide +kernel)) (by decide +kernel)
theorem kv_X1_88 : KV RX1 88 mX1_reckon 1 := ⟨⟨kk_949, kk_132, kk_952, by decide +kernel⟩, rfl, kk_951, kk_38⟩
abbrev mX1_holds : MT := (yX1_holds, cX1_holds, 6, (some .boolean), [])
theorem kn_220 : Cond.fieldLinkNest RX1 56 RX3 "tellers" "LStoryTapestry$Row;" "StoryTapestry" ∈ gnest := n_in (List.mem_of_getElem? (i := 220) (by decide +kernel)) (by decide +kernel)
theorem fl_X1_56 : FL RX1 56 3 1 (.object "StoryTapestry$Row") true := ⟨RX3, TX3, 7, tyX3, rfl, by decide, il_3, tyX3_ok, nmX3, rfl, rfl, Or.inr ⟨_, kn_220⟩⟩
theorem kn_218 : Cond.fieldLinkNest RX1 63 RX3 "doubts" "LStoryTapestry$Row;" "StoryTapestry" ∈ gnest := n_in (List.mem_of_getElem? (i := 218) (by decide +kernel)) (by decide +kernel)
theorem fl_X1_63 : FL RX1 63 3 0 (.object "StoryTapestry$Row") true := ⟨RX3, TX3, 7, tyX3, rfl, by decide, il_3, tyX3_ok, nmX3, rfl, rfl, Or.inr ⟨_, kn_218⟩⟩
abbrev mX1_carryOut : MT := (yX1_carryOut, cX1_carryOut, 4, none, [])
theorem kn_229 : Cond.fieldLinkNest RX1 44 RX3 "count" "I" "StoryTapestry" ∈ gnest := n_in (List.mem_of_getElem? (i := 229) (by decide +kernel)) (by decide +kernel)
theorem fl_X1_44 : FL RX1 44 3 5 (.int) false := ⟨RX3, TX3, 7, tyX3, rfl, by decide, il_3, tyX3_ok, nmX3, rfl, rfl, Or.inr ⟨_, kn_229⟩⟩
theorem kk_899 : Cond.methodLink RX1 49 yX1_holds ∈ gtbl := g_in (List.mem_of_getElem? (i := 899) (by decide +kernel)) (by decide +kernel)
theorem kk_902 : Cond.code yX1_holds cX1_holds 6 (some .boolean) ∈ gtbl := g_in (List.mem_of_getElem? (i := 902) (by decide +kernel)) (by decide +kernel)
theorem kk_901 : Cond.instanceMethod yX1_holds ∈ gtbl := g_in (List.mem_of_getElem? (i := 901) (by decide +kernel)) (by decide +kernel)
theorem kk_34 : Cond.selects RX1 yX1_holds yX1_holds ∈ gtbl := g_in (List.mem_of_getElem? (i := 34) (by decide +kernel)) (by decide +kernel)
theorem kv_X1_49 : KV RX1 49 mX1_holds 1 := ⟨⟨kk_899, kk_132, kk_902, by decide +kernel⟩, rfl, kk_901, kk_34⟩
theorem kk_962 : Cond.methodLink RX1 53 yX1_carryOut ∈ gtbl := g_in (List.mem_of_getElem? (i := 962) (by decide +kernel)) (by decide +kernel)
theorem kk_965 : Cond.code yX1_carryOut cX1_carryOut 4 none ∈ gtbl := g_in (List.mem_of_getElem? (i := 965) (by decide +kernel)) (by decide +kernel)
theorem kk_964 : Cond.instanceMethod yX1_carryOut ∈ gtbl := g_in (List.mem_of_getElem? (i := 964) (by decide +kernel)) (by decide +kernel)
theorem kk_40 : Cond.selects RX1 yX1_carryOut yX1_carryOut ∈ gtbl := g_in (List.mem_of_getElem? (i := 40) (by decide +kernel)) (by decide +kernel)
theorem kv_X1_53 : KV RX1 53 mX1_carryOut 1 := ⟨⟨kk_962, kk_132, kk_965, by decide +kernel⟩, rfl, kk_964, kk_40⟩
abbrev mX1_passOne : MT := (yX1_passOne, cX1_passOne, 2, none, [])
theorem kk_1337 : Cond.methodLink RX9 246 yX9_needEvenings ∈ gtbl := g_in (List.mem_of_getElem? (i := 1337) (by decide +kernel)) (by decide +kernel)
theorem kk_1340 : Cond.code yX9_needEvenings cX9_needEvenings 2 none ∈ gtbl := g_in (List.mem_of_getElem? (i := 1340) (by decide +kernel)) (by decide +kernel)
theorem kk_1339 : Cond.instanceMethod yX9_needEvenings ∈ gtbl := g_in (List.mem_of_getElem? (i := 1339) (by decide +kernel)) (by decide +kernel)
theorem kk_53 : Cond.selects RX9 yX9_needEvenings yX9_needEvenings ∈ gtbl := g_in (List.mem_of_getElem? (i := 53) (by decide +kernel)) (by decide +kernel)
theorem kv_X9_246 : KV RX9 246 mX9_needEvenings 1 := ⟨⟨kk_1337, kk_119, kk_1340, by decide +kernel⟩, rfl, kk_1339, kk_53⟩
theorem kk_895 : Cond.methodLink RX9 249 yX1_passOne ∈ gtbl := g_in (List.mem_of_getElem? (i := 895) (by decide +kernel)) (by decide +kernel)
theorem kk_898 : Cond.code yX1_passOne cX1_passOne 2 none ∈ gtbl := g_in (List.mem_of_getElem? (i := 898) (by decide +kernel)) (by decide +kernel)
theorem kk_896 : Cond.instanceMethod yX1_passOne ∈ gtbl := g_in (List.mem_of_getElem? (i := 896) (by decide +kernel)) (by decide +kernel)
theorem kk_897 : Cond.selects RX1 yX1_passOne yX1_passOne ∈ gtbl := g_in (List.mem_of_getElem? (i := 897) (by decide +kernel)) (by decide +kernel)
theorem kv_X9_249 : KV RX9 249 mX1_passOne 0 := ⟨⟨kk_895, kk_132, kk_898, by decide +kernel⟩, rfl, kk_896, kk_897⟩
abbrev mX9_passEvenings : MT := (yX9_passEvenings, cX9_passEvenings, 4, (some .int), [])
abbrev mX1_copyFrom : MT := (yX1_copyFrom, cX1_copyFrom, 2, none, [])
theorem kk_503 : Cond.fieldLink RX9 52 RX9 "trial" "LStoryTapestry$Course;" ∈ gtbl := g_in (List.mem_of_getElem? (i := 503) (by decide +kernel)) (by decide +kernel)
theorem fl_X9_52 : FL RX9 52 9 5 (.object "StoryTapestry$Course") true := ⟨RX9, TX9, 8, tyX9, rfl, by decide, il_9, tyX9_ok, nmX9, rfl, rfl, Or.inl kk_503⟩
theorem kk_891 : Cond.methodLink RX9 252 yX1_copyFrom ∈ gtbl := g_in (List.mem_of_getElem? (i := 891) (by decide +kernel)) (by decide +kernel)
theorem kk_894 : Cond.code yX1_copyFrom cX1_copyFrom 2 none ∈ gtbl := g_in (List.mem_of_getElem? (i := 894) (by decide +kernel)) (by decide +kernel)
theorem kk_892 : Cond.instanceMethod yX1_copyFrom ∈ gtbl := g_in (List.mem_of_getElem? (i := 892) (by decide +kernel)) (by decide +kernel)
theorem kk_893 : Cond.selects RX1 yX1_copyFrom yX1_copyFrom ∈ gtbl := g_in (List.mem_of_getElem? (i := 893) (by decide +kernel)) (by decide +kernel)
theorem kv_X9_252 : KV RX9 252 mX1_copyFrom 1 := ⟨⟨kk_891, kk_132, kk_894, by decide +kernel⟩, rfl, kk_892, kk_893⟩
abbrev mX9_liarsAfter : MT := (yX9_liarsAfter, cX9_liarsAfter, 3, (some .int), [])
abbrev mX9_eveningsUntilOneStory : MT := (yX9_eveningsUntilOneStory, cX9_eveningsUntilOneStory, 2, (some .int), [])
abbrev mX9_bestToDoubt : MT := (yX9_bestToDoubt, cX9_bestToDoubt, 5, (some .int), [])
abbrev mX9_meanClaims : MT := (yX9_meanClaims, cX9_meanClaims, 1, (some .double), [])
theorem kk_979 : Cond.constantLong RX9 257 (31) ∈ gtbl := g_in (List.mem_of_getElem? (i := 979) (by decide +kernel)) (by decide +kernel)
abbrev mX9_digestClaims : MT := (yX9_digestClaims, cX9_digestClaims, 6, (some .long), [])
theorem kk_989 : Cond.methodLink RX9 284 yX9_one ∈ gtbl := g_in (List.mem_of_getElem? (i := 989) (by decide +kernel)) (by decide +kernel)
theorem ks_X9_284 : KS RX9 284 mX9_one 1 := ⟨⟨kk_989, kk_119, kk_755, by decide +kernel⟩, rfl, kk_754⟩
abbrev mX9_digestTellers : MT := (yX9_digestTellers, cX9_digestTellers, 8, (some .long), [])
abbrev mX9_digestEvents : MT := (yX9_digestEvents, cX9_digestEvents, 8, (some .long), [])
theorem kk_978 : Cond.constantLong RX9 255 (991) ∈ gtbl := g_in (List.mem_of_getElem? (i := 978) (by decide +kernel)) (by decide +kernel)
theorem kk_980 : Cond.methodLink RX9 259 yX9_events ∈ gtbl := g_in (List.mem_of_getElem? (i := 980) (by decide +kernel)) (by decide +kernel)
theorem kk_800 : Cond.code yX9_events cX9_events 1 (some .int) ∈ gtbl := g_in (List.mem_of_getElem? (i := 800) (by decide +kernel)) (by decide +kernel)
theorem kk_798 : Cond.instanceMethod yX9_events ∈ gtbl := g_in (List.mem_of_getElem? (i := 798) (by decide +kernel)) (by decide +kernel)
theorem kk_799 : Cond.selects RX9 yX9_events yX9_events ∈ gtbl := g_in (List.mem_of_getElem? (i := 799) (by decide +kernel)) (by decide +kernel)
theorem kv_X9_259 : KV RX9 259 mX9_events 0 := ⟨⟨kk_980, kk_119, kk_800, by decide +kernel⟩, rfl, kk_798, kk_799⟩
theorem kk_981 : Cond.methodLink RX9 262 yX9_tellers ∈ gtbl := g_in (List.mem_of_getElem? (i := 981) (by decide +kernel)) (by decide +kernel)
theorem kk_804 : Cond.code yX9_tellers cX9_tellers 1 (some .int) ∈ gtbl := g_in (List.mem_of_getElem? (i := 804) (by decide +kernel)) (by decide +kernel)
theorem kk_802 : Cond.instanceMethod yX9_tellers ∈ gtbl := g_in (List.mem_of_getElem? (i := 802) (by decide +kernel)) (by decide +kernel)
theorem kk_803 : Cond.selects RX9 yX9_tellers yX9_tellers ∈ gtbl := g_in (List.mem_of_getElem? (i := 803) (by decide +kernel)) (by decide +kernel)
theorem kv_X9_262 : KV RX9 262 mX9_tellers 0 := ⟨⟨kk_981, kk_119, kk_804, by decide +kernel⟩, rfl, kk_802, kk_803⟩
theorem kk_982 : Cond.methodLink RX9 264 yX9_claims ∈ gtbl := g_in (List.mem_of_getElem? (i := 982) (by decide +kernel)) (by decide +kernel)
theorem kk_808 : Cond.code yX9_claims cX9_claims 1 (some .int) ∈ gtbl := g_in (List.mem_of_getElem? (i := 808) (by decide +kernel)) (by decide +kernel)
theorem kk_806 : Cond.instanceMethod yX9_claims ∈ gtbl := g_in (List.mem_of_getElem? (i := 806) (by decide +kernel)) (by decide +kernel)
theorem kk_807 : Cond.selects RX9 yX9_claims yX9_claims ∈ gtbl := g_in (List.mem_of_getElem? (i := 807) (by decide +kernel)) (by decide +kernel)
theorem kv_X9_264 : KV RX9 264 mX9_claims 0 := ⟨⟨kk_982, kk_119, kk_808, by decide +kernel⟩, rfl, kk_806, kk_807⟩
theorem kk_983 : Cond.methodLink RX9 266 yX9_evenings ∈ gtbl := g_in (List.mem_of_getElem? (i := 983) (by decide +kernel)) (by decide +kernel)
theorem kk_812 : Cond.code yX9_evenings cX9_evenings 1 (some .int) ∈ gtbl := g_in (List.mem_of_getElem? (i := 812) (by decide +kernel)) (by decide +kernel)
theorem kk_810 : Cond.instanceMethod yX9_evenings ∈ gtbl := g_in (List.mem_of_getElem? (i := 810) (by decide +kernel)) (by decide +kernel)
theorem kk_811 : Cond.selects RX9 yX9_evenings yX9_evenings ∈ gtbl := g_in (List.mem_of_getElem? (i := 811) (by decide +kernel)) (by decide +kernel)
theorem kv_X9_266 : KV RX9 266 mX9_evenings 0 := ⟨⟨kk_983, kk_119, kk_812, by decide +kernel⟩, rfl, kk_810, kk_811⟩
theorem kk_984 : Cond.methodLink RX9 269 yX9_ordersCarriedOut ∈ gtbl := g_in (List.mem_of_getElem? (i := 984) (by decide +kernel)) (by decide +kernel)
theorem kk_816 : Cond.code yX9_ordersCarriedOut cX9_ordersCarriedOut 1 (some .int) ∈ gtbl := g_in (List.mem_of_getElem? (i := 816) (by decide +kernel)) (by decide +kernel)
theorem kk_814 : Cond.instanceMethod yX9_ordersCarriedOut ∈ gtbl := g_in (List.mem_of_getElem? (i := 814) (by decide +kernel)) (by decide +kernel)
theorem kk_815 : Cond.selects RX9 yX9_ordersCarriedOut yX9_ordersCarriedOut ∈ gtbl := g_in (List.mem_of_getElem? (i := 815) (by decide +kernel)) (by decide +kernel)
theorem kv_X9_269 : KV RX9 269 mX9_ordersCarriedOut 0 := ⟨⟨kk_984, kk_119, kk_816, by decide +kernel⟩, rfl, kk_814, kk_815⟩
theorem kk_985 : Cond.methodLink RX9 272 yX9_contradictions ∈ gtbl := g_in (List.mem_of_getElem? (i := 985) (by decide +kernel)) (by decide +kernel)
theorem kk_820 : Cond.code yX9_contradictions cX9_contradictions 1 (some .int) ∈ gtbl := g_in (List.mem_of_getElem? (i := 820) (by decide +kernel)) (by decide +kernel)
theorem kk_818 : Cond.instanceMethod yX9_contradictions ∈ gtbl := g_in (List.mem_of_getElem? (i := 818) (by decide +kernel)) (by decide +kernel)
theorem kk_819 : Cond.selects RX9 yX9_contradictions yX9_contradictions ∈ gtbl := g_in (List.mem_of_getElem? (i := 819) (by decide +kernel)) (by decide +kernel)
theorem kv_X9_272 : KV RX9 272 mX9_contradictions 0 := ⟨⟨kk_985, kk_119, kk_820, by decide +kernel⟩, rfl, kk_818, kk_819⟩
theorem kk_986 : Cond.methodLink RX9 275 yX9_liars ∈ gtbl := g_in (List.mem_of_getElem? (i := 986) (by decide +kernel)) (by decide +kernel)
theorem kk_841 : Cond.code yX9_liars cX9_liars 1 (some .int) ∈ gtbl := g_in (List.mem_of_getElem? (i := 841) (by decide +kernel)) (by decide +kernel)
theorem kk_839 : Cond.instanceMethod yX9_liars ∈ gtbl := g_in (List.mem_of_getElem? (i := 839) (by decide +kernel)) (by decide +kernel)
theorem kk_840 : Cond.selects RX9 yX9_liars yX9_liars ∈ gtbl := g_in (List.mem_of_getElem? (i := 840) (by decide +kernel)) (by decide +kernel)
theorem kv_X9_275 : KV RX9 275 mX9_liars 0 := ⟨⟨kk_986, kk_119, kk_841, by decide +kernel⟩, rfl, kk_839, kk_840⟩
theorem kk_987 : Cond.methodLink RX9 278 yX9_smallestSets ∈ gtbl := g_in (List.mem_of_getElem? (i := 987) (by decide +kernel)) (by decide +kernel)
theorem kk_865 : Cond.code yX9_smallestSets cX9_smallestSets 1 (some .int) ∈ gtbl := g_in (List.mem_of_getElem? (i := 865) (by decide +kernel)) (by decide +kernel)
theorem kk_863 : Cond.instanceMethod yX9_smallestSets ∈ gtbl := g_in (List.mem_of_getElem? (i := 863) (by decide +kernel)) (by decide +kernel)
theorem kk_864 : Cond.selects RX9 yX9_smallestSets yX9_smallestSets ∈ gtbl := g_in (List.mem_of_getElem? (i := 864) (by decide +kernel)) (by decide +kernel)
theorem kv_X9_278 : KV RX9 278 mX9_smallestSets 0 := ⟨⟨kk_987, kk_119, kk_865, by decide +kernel⟩, rfl, kk_863, kk_864⟩
theorem kk_988 : Cond.methodLink RX9 281 yX9_hasOrder ∈ gtbl := g_in (List.mem_of_getElem? (i := 988) (by decide +kernel)) (by decide +kernel)
theorem kk_873 : Cond.code yX9_hasOrder cX9_hasOrder 1 (some .boolean) ∈ gtbl := g_in (List.mem_of_getElem? (i := 873) (by decide +kernel)) (by decide +kernel)
theorem kk_871 : Cond.instanceMethod yX9_hasOrder ∈ gtbl := g_in (List.mem_of_getElem? (i := 871) (by decide +kernel)) (by decide +kernel)
theorem kk_872 : Cond.selects RX9 yX9_hasOrder yX9_hasOrder ∈ gtbl := g_in (List.mem_of_getElem? (i := 872) (by decide +kernel)) (by decide +kernel)
theorem kv_X9_281 : KV RX9 281 mX9_hasOrder 0 := ⟨⟨kk_988, kk_119, kk_873, by decide +kernel⟩, rfl, kk_871, kk_872⟩
theorem kk_990 : Cond.methodLink RX9 288 yX9_digestClaims ∈ gtbl := g_in (List.mem_of_getElem? (i := 990) (by decide +kernel)) (by decide +kernel)
theorem kk_993 : Cond.code yX9_digestClaims cX9_digestClaims 6 (some .long) ∈ gtbl := g_in (List.mem_of_getElem? (i := 993) (by decide +kernel)) (by decide +kernel)
theorem kk_992 : Cond.instanceMethod yX9_digestClaims ∈ gtbl := g_in (List.mem_of_getElem? (i := 992) (by decide +kernel)) (by decide +kernel)
theorem kk_41 : Cond.selects RX9 yX9_digestClaims yX9_digestClaims ∈ gtbl := g_in (List.mem_of_getElem? (i := 41) (by decide +kernel)) (by decide +kernel)
theorem kv_X9_288 : KV RX9 288 mX9_digestClaims 1 := ⟨⟨kk_990, kk_119, kk_993, by decide +kernel⟩, rfl, kk_992, kk_41⟩
theorem kk_995 : Cond.methodLink RX9 292 yX9_digestTellers ∈ gtbl := g_in (List.mem_of_getElem? (i := 995) (by decide +kernel)) (by decide +kernel)
theorem kk_998 : Cond.code yX9_digestTellers cX9_digestTellers 8 (some .long) ∈ gtbl := g_in (List.mem_of_getElem? (i := 998) (by decide +kernel)) (by decide +kernel)
theorem kk_997 : Cond.instanceMethod yX9_digestTellers ∈ gtbl := g_in (List.mem_of_getElem? (i := 997) (by decide +kernel)) (by decide +kernel)
theorem kk_42 : Cond.selects RX9 yX9_digestTellers yX9_digestTellers ∈ gtbl := g_in (List.mem_of_getElem? (i := 42) (by decide +kernel)) (by decide +kernel)
theorem kv_X9_292 : KV RX9 292 mX9_digestTellers 1 := ⟨⟨kk_995, kk_119, kk_998, by decide +kernel⟩, rfl, kk_997, kk_42⟩
theorem kk_1002 : Cond.methodLink RX9 295 yX9_digestEvents ∈ gtbl := g_in (List.mem_of_getElem? (i := 1002) (by decide +kernel)) (by decide +kernel)
theorem kk_1005 : Cond.code yX9_digestEvents cX9_digestEvents 8 (some .long) ∈ gtbl := g_in (List.mem_of_getElem? (i := 1005) (by decide +kernel)) (by decide +kernel)
theorem kk_1004 : Cond.instanceMethod yX9_digestEvents ∈ gtbl := g_in (List.mem_of_getElem? (i := 1004) (by decide +kernel)) (by decide +kernel)
theorem kk_43 : Cond.selects RX9 yX9_digestEvents yX9_digestEvents ∈ gtbl := g_in (List.mem_of_getElem? (i := 43) (by decide +kernel)) (by decide +kernel)
theorem kv_X9_295 : KV RX9 295 mX9_digestEvents 1 := ⟨⟨kk_1002, kk_119, kk_1005, by decide +kernel⟩, rfl, kk_1004, kk_43⟩
abbrev mX9_digest : MT := (yX9_digest, cX9_digest, 3, (some .long), [])
theorem il_11 : ∀ w ∈ u_ws RX11 TX11 23, w ∈ gtbl := fun w hw => g_in ((by decide +kernel : ∀ w ∈ u_ws RX11 TX11 23, w ∈ lw_tbl) w hw) (List.all_eq_true.mp (by decide +kernel : (u_ws RX11 TX11 23).all goodWord = true) w hw)
theorem kk_1437 : Cond.fieldLink RX11 20 RX11 "plan" "LStoryTapestryModel$Plan;" ∈ gtbl := g_in (List.mem_of_getElem? (i := 1437) (by decide +kernel)) (by decide +kernel)
theorem fl_X11_20 : FL RX11 20 11 4 (.object "StoryTapestryModel$Plan") false := ⟨RX11, TX11, 23, tyX11, rfl, by decide, il_11, tyX11_ok, nmX11, rfl, rfl, Or.inl kk_1437⟩
theorem il_10 : ∀ w ∈ u_ws RX10 TX10 19, w ∈ gtbl := fun w hw => g_in ((by decide +kernel : ∀ w ∈ u_ws RX10 TX10 19, w ∈ lw_tbl) w hw) (List.all_eq_true.mp (by decide +kernel : (u_ws RX10 TX10 19).all goodWord = true) w hw)
theorem kn_1369 : Cond.fieldLinkNest RX11 68 RX10 "kind" "[I" "StoryTapestryModel" ∈ gnest := n_in (List.mem_of_getElem? (i := 1369) (by decide +kernel)) (by decide +kernel)
theorem fl_X11_68 : FL RX11 68 10 5 (.array .int) true := ⟨RX10, TX10, 19, tyX10, rfl, by decide, il_10, tyX10_ok, nmX10, rfl, rfl, Or.inr ⟨_, kn_1369⟩⟩
theorem kn_1373 : Cond.fieldLinkNest RX11 73 RX10 "of" "[I" "StoryTapestryModel" ∈ gnest := n_in (List.mem_of_getElem? (i := 1373) (by decide +kernel)) (by decide +kernel)
theorem fl_X11_73 : FL RX11 73 10 7 (.array .int) true := ⟨RX10, TX10, 19, tyX10, rfl, by decide, il_10, tyX10_ok, nmX10, rfl, rfl, Or.inr ⟨_, kn_1373⟩⟩
theorem kn_1375 : Cond.fieldLinkNest RX11 79 RX10 "other" "[I" "StoryTapestryModel" ∈ gnest := n_in (List.mem_of_getElem? (i := 1375) (by decide +kernel)) (by decide +kernel)
theorem fl_X11_79 : FL RX11 79 10 8 (.array .int) true := ⟨RX10, TX10, 19, tyX10, rfl, by decide, il_10, tyX10_ok, nmX10, rfl, rfl, Or.inr ⟨_, kn_1375⟩⟩
theorem kn_1377 : Cond.fieldLinkNest RX11 76 RX10 "last" "[I" "StoryTapestryModel" ∈ gnest := n_in (List.mem_of_getElem? (i := 1377) (by decide +kernel)) (by decide +kernel)
theorem fl_X11_76 : FL RX11 76 10 9 (.array .int) true := ⟨RX10, TX10, 19, tyX10, rfl, by decide, il_10, tyX10_ok, nmX10, rfl, rfl, Or.inr ⟨_, kn_1377⟩⟩
abbrev mX11_contrary : MT := (yX11_contrary, cX11_contrary, 5, (some .boolean), [])
theorem kk_1687 : Cond.methodLink RX11 69 yX11_contrary ∈ gtbl := g_in (List.mem_of_getElem? (i := 1687) (by decide +kernel)) (by decide +kernel)
theorem kk_133 : Cond.initialized RX11 ∈ gtbl := g_in (List.mem_of_getElem? (i := 133) (by decide +kernel)) (by decide +kernel)
theorem kk_1690 : Cond.code yX11_contrary cX11_contrary 5 (some .boolean) ∈ gtbl := g_in (List.mem_of_getElem? (i := 1690) (by decide +kernel)) (by decide +kernel)
theorem kk_1689 : Cond.instanceMethod yX11_contrary ∈ gtbl := g_in (List.mem_of_getElem? (i := 1689) (by decide +kernel)) (by decide +kernel)
theorem kk_90 : Cond.selects RX11 yX11_contrary yX11_contrary ∈ gtbl := g_in (List.mem_of_getElem? (i := 90) (by decide +kernel)) (by decide +kernel)
theorem kv_X11_69 : KV RX11 69 mX11_contrary 2 := ⟨⟨kk_1687, kk_133, kk_1690, by decide +kernel⟩, rfl, kk_1689, kk_90⟩
theorem kk_1438 : Cond.fieldLink RX11 24 RX11 "kind" "[I" ∈ gtbl := g_in (List.mem_of_getElem? (i := 1438) (by decide +kernel)) (by decide +kernel)
theorem fl_X11_24 : FL RX11 24 11 5 (.array .int) true := ⟨RX11, TX11, 23, tyX11, rfl, by decide, il_11, tyX11_ok, nmX11, rfl, rfl, Or.inl kk_1438⟩
theorem kk_1443 : Cond.fieldLink RX11 252 RX11 "token" "I" ∈ gtbl := g_in (List.mem_of_getElem? (i := 1443) (by decide +kernel)) (by decide +kernel)
theorem fl_X11_252 : FL RX11 252 11 10 (.int) false := ⟨RX11, TX11, 23, tyX11, rfl, by decide, il_11, tyX11_ok, nmX11, rfl, rfl, Or.inl kk_1443⟩
abbrev mX11_eat : MT := (yX11_eat, cX11_eat, 2, (some .boolean), [])
theorem kn_1388 : Cond.fieldLinkNest RX11 187 RX10 "order" "[I" "StoryTapestryModel" ∈ gnest := n_in (List.mem_of_getElem? (i := 1388) (by decide +kernel)) (by decide +kernel)
theorem fl_X11_187 : FL RX11 187 10 15 (.array .int) true := ⟨RX10, TX10, 19, tyX10, rfl, by decide, il_10, tyX10_ok, nmX10, rfl, rfl, Or.inr ⟨_, kn_1388⟩⟩
theorem kn_1393 : Cond.fieldLinkNest RX11 261 RX10 "many" "I" "StoryTapestryModel" ∈ gnest := n_in (List.mem_of_getElem? (i := 1393) (by decide +kernel)) (by decide +kernel)
theorem fl_X11_261 : FL RX11 261 10 18 (.int) false := ⟨RX10, TX10, 19, tyX10, rfl, by decide, il_10, tyX10_ok, nmX10, rfl, rfl, Or.inr ⟨_, kn_1393⟩⟩
theorem kn_1390 : Cond.fieldLinkNest RX11 193 RX10 "with" "[I" "StoryTapestryModel" ∈ gnest := n_in (List.mem_of_getElem? (i := 1390) (by decide +kernel)) (by decide +kernel)
theorem fl_X11_193 : FL RX11 193 10 16 (.array .int) true := ⟨RX10, TX10, 19, tyX10, rfl, by decide, il_10, tyX10_ok, nmX10, rfl, rfl, Or.inr ⟨_, kn_1390⟩⟩
abbrev mX11_put : MT := (yX11_put, cX11_put, 4, none, [])
theorem kk_1440 : Cond.fieldLink RX11 30 RX11 "means" "[I" ∈ gtbl := g_in (List.mem_of_getElem? (i := 1440) (by decide +kernel)) (by decide +kernel)
theorem fl_X11_30 : FL RX11 30 11 7 (.array .int) true := ⟨RX11, TX11, 23, tyX11, rfl, by decide, il_11, tyX11_ok, nmX11, rfl, rfl, Or.inl kk_1440⟩
theorem kk_1583 : Cond.methodLink RX11 255 yX11_eat ∈ gtbl := g_in (List.mem_of_getElem? (i := 1583) (by decide +kernel)) (by decide +kernel)
theorem kk_1586 : Cond.code yX11_eat cX11_eat 2 (some .boolean) ∈ gtbl := g_in (List.mem_of_getElem? (i := 1586) (by decide +kernel)) (by decide +kernel)
theorem kk_1585 : Cond.instanceMethod yX11_eat ∈ gtbl := g_in (List.mem_of_getElem? (i := 1585) (by decide +kernel)) (by decide +kernel)
theorem kk_65 : Cond.selects RX11 yX11_eat yX11_eat ∈ gtbl := g_in (List.mem_of_getElem? (i := 65) (by decide +kernel)) (by decide +kernel)
theorem kv_X11_255 : KV RX11 255 mX11_eat 1 := ⟨⟨kk_1583, kk_133, kk_1586, by decide +kernel⟩, rfl, kk_1585, kk_65⟩
abbrev mX11_eatAs : MT := (yX11_eatAs, cX11_eatAs, 3, (some .boolean), [])
theorem kk_1579 : Cond.methodLink RX11 264 yX11_eatAs ∈ gtbl := g_in (List.mem_of_getElem? (i := 1579) (by decide +kernel)) (by decide +kernel)
theorem kk_1582 : Cond.code yX11_eatAs cX11_eatAs 3 (some .boolean) ∈ gtbl := g_in (List.mem_of_getElem? (i := 1582) (by decide +kernel)) (by decide +kernel)
theorem kk_1581 : Cond.instanceMethod yX11_eatAs ∈ gtbl := g_in (List.mem_of_getElem? (i := 1581) (by decide +kernel)) (by decide +kernel)
theorem kk_64 : Cond.selects RX11 yX11_eatAs yX11_eatAs ∈ gtbl := g_in (List.mem_of_getElem? (i := 64) (by decide +kernel)) (by decide +kernel)
theorem kv_X11_264 : KV RX11 264 mX11_eatAs 2 := ⟨⟨kk_1579, kk_133, kk_1582, by decide +kernel⟩, rfl, kk_1581, kk_64⟩
theorem kn_1392 : Cond.fieldLinkNest RX11 196 RX10 "also" "[I" "StoryTapestryModel" ∈ gnest := n_in (List.mem_of_getElem? (i := 1392) (by decide +kernel)) (by decide +kernel)
theorem fl_X11_196 : FL RX11 196 10 17 (.array .int) true := ⟨RX10, TX10, 19, tyX10, rfl, by decide, il_10, tyX10_ok, nmX10, rfl, rfl, Or.inr ⟨_, kn_1392⟩⟩
theorem kk_1612 : Cond.methodLink RX11 267 yX11_put ∈ gtbl := g_in (List.mem_of_getElem? (i := 1612) (by decide +kernel)) (by decide +kernel)
theorem kk_1615 : Cond.code yX11_put cX11_put 4 none ∈ gtbl := g_in (List.mem_of_getElem? (i := 1615) (by decide +kernel)) (by decide +kernel)
theorem kk_1614 : Cond.instanceMethod yX11_put ∈ gtbl := g_in (List.mem_of_getElem? (i := 1614) (by decide +kernel)) (by decide +kernel)
theorem kk_72 : Cond.selects RX11 yX11_put yX11_put ∈ gtbl := g_in (List.mem_of_getElem? (i := 72) (by decide +kernel)) (by decide +kernel)
theorem kv_X11_267 : KV RX11 267 mX11_put 3 := ⟨⟨kk_1612, kk_133, kk_1615, by decide +kernel⟩, rfl, kk_1614, kk_72⟩
abbrev mX11_isAbout : MT := (yX11_isAbout, cX11_isAbout, 6, (some .boolean), [])
theorem kk_1444 : Cond.fieldLink RX11 258 RX11 "depth" "I" ∈ gtbl := g_in (List.mem_of_getElem? (i := 1444) (by decide +kernel)) (by decide +kernel)
theorem fl_X11_258 : FL RX11 258 11 11 (.int) false := ⟨RX11, TX11, 23, tyX11, rfl, by decide, il_11, tyX11_ok, nmX11, rfl, rfl, Or.inl kk_1444⟩
abbrev mX11_deeper : MT := (yX11_deeper, cX11_deeper, 2, (some .boolean), [])
abbrev mX11_closes : MT := (yX11_closes, cX11_closes, 2, (some .boolean), [])
abbrev mX11_isIn : MT := (yX11_isIn, cX11_isIn, 3, (some .boolean), [])
abbrev mX11_isBoth : MT := (yX11_isBoth, cX11_isBoth, 2, (some .boolean), [])
theorem kk_1600 : Cond.methodLink RX11 271 yX11_isBoth ∈ gtbl := g_in (List.mem_of_getElem? (i := 1600) (by decide +kernel)) (by decide +kernel)
theorem kk_1603 : Cond.code yX11_isBoth cX11_isBoth 2 (some .boolean) ∈ gtbl := g_in (List.mem_of_getElem? (i := 1603) (by decide +kernel)) (by decide +kernel)
theorem kk_1602 : Cond.instanceMethod yX11_isBoth ∈ gtbl := g_in (List.mem_of_getElem? (i := 1602) (by decide +kernel)) (by decide +kernel)
theorem kk_69 : Cond.selects RX11 yX11_isBoth yX11_isBoth ∈ gtbl := g_in (List.mem_of_getElem? (i := 69) (by decide +kernel)) (by decide +kernel)
theorem kv_X11_271 : KV RX11 271 mX11_isBoth 1 := ⟨⟨kk_1600, kk_133, kk_1603, by decide +kernel⟩, rfl, kk_1602, kk_69⟩
abbrev mX11_isSingle : MT := (yX11_isSingle, cX11_isSingle, 3, (some .boolean), [])
theorem kk_1604 : Cond.methodLink RX11 275 yX11_isSingle ∈ gtbl := g_in (List.mem_of_getElem? (i := 1604) (by decide +kernel)) (by decide +kernel)
theorem kk_1607 : Cond.code yX11_isSingle cX11_isSingle 3 (some .boolean) ∈ gtbl := g_in (List.mem_of_getElem? (i := 1607) (by decide +kernel)) (by decide +kernel)
theorem kk_1606 : Cond.instanceMethod yX11_isSingle ∈ gtbl := g_in (List.mem_of_getElem? (i := 1606) (by decide +kernel)) (by decide +kernel)
theorem kk_70 : Cond.selects RX11 yX11_isSingle yX11_isSingle ∈ gtbl := g_in (List.mem_of_getElem? (i := 70) (by decide +kernel)) (by decide +kernel)
theorem kv_X11_275 : KV RX11 275 mX11_isSingle 1 := ⟨⟨kk_1604, kk_133, kk_1607, by decide +kernel⟩, rfl, kk_1606, kk_70⟩
theorem kk_1620 : Cond.methodLink RX11 287 yX11_isAbout ∈ gtbl := g_in (List.mem_of_getElem? (i := 1620) (by decide +kernel)) (by decide +kernel)
theorem kk_1623 : Cond.code yX11_isAbout cX11_isAbout 6 (some .boolean) ∈ gtbl := g_in (List.mem_of_getElem? (i := 1623) (by decide +kernel)) (by decide +kernel)
theorem kk_1622 : Cond.instanceMethod yX11_isAbout ∈ gtbl := g_in (List.mem_of_getElem? (i := 1622) (by decide +kernel)) (by decide +kernel)
theorem kk_74 : Cond.selects RX11 yX11_isAbout yX11_isAbout ∈ gtbl := g_in (List.mem_of_getElem? (i := 74) (by decide +kernel)) (by decide +kernel)
theorem kv_X11_287 : KV RX11 287 mX11_isAbout 4 := ⟨⟨kk_1620, kk_133, kk_1623, by decide +kernel⟩, rfl, kk_1622, kk_74⟩
abbrev mX11_isCompare : MT := (yX11_isCompare, cX11_isCompare, 4, (some .boolean), [])
theorem kk_1624 : Cond.methodLink RX11 291 yX11_isCompare ∈ gtbl := g_in (List.mem_of_getElem? (i := 1624) (by decide +kernel)) (by decide +kernel)
theorem kk_1627 : Cond.code yX11_isCompare cX11_isCompare 4 (some .boolean) ∈ gtbl := g_in (List.mem_of_getElem? (i := 1627) (by decide +kernel)) (by decide +kernel)
theorem kk_1626 : Cond.instanceMethod yX11_isCompare ∈ gtbl := g_in (List.mem_of_getElem? (i := 1626) (by decide +kernel)) (by decide +kernel)
theorem kk_75 : Cond.selects RX11 yX11_isCompare yX11_isCompare ∈ gtbl := g_in (List.mem_of_getElem? (i := 75) (by decide +kernel)) (by decide +kernel)
theorem kv_X11_291 : KV RX11 291 mX11_isCompare 1 := ⟨⟨kk_1624, kk_133, kk_1627, by decide +kernel⟩, rfl, kk_1626, kk_75⟩
theorem kk_1608 : Cond.methodLink RX11 278 yX11_deeper ∈ gtbl := g_in (List.mem_of_getElem? (i := 1608) (by decide +kernel)) (by decide +kernel)
theorem kk_1611 : Cond.code yX11_deeper cX11_deeper 2 (some .boolean) ∈ gtbl := g_in (List.mem_of_getElem? (i := 1611) (by decide +kernel)) (by decide +kernel)
theorem kk_1610 : Cond.instanceMethod yX11_deeper ∈ gtbl := g_in (List.mem_of_getElem? (i := 1610) (by decide +kernel)) (by decide +kernel)
theorem kk_71 : Cond.selects RX11 yX11_deeper yX11_deeper ∈ gtbl := g_in (List.mem_of_getElem? (i := 71) (by decide +kernel)) (by decide +kernel)
theorem kv_X11_278 : KV RX11 278 mX11_deeper 1 := ⟨⟨kk_1608, kk_133, kk_1611, by decide +kernel⟩, rfl, kk_1610, kk_71⟩
abbrev mX11_isTest : MT := (yX11_isTest, cX11_isTest, 2, (some .boolean), [])
theorem kk_1596 : Cond.methodLink RX11 281 yX11_isTest ∈ gtbl := g_in (List.mem_of_getElem? (i := 1596) (by decide +kernel)) (by decide +kernel)
theorem kk_1599 : Cond.code yX11_isTest cX11_isTest 2 (some .boolean) ∈ gtbl := g_in (List.mem_of_getElem? (i := 1599) (by decide +kernel)) (by decide +kernel)
theorem kk_1598 : Cond.instanceMethod yX11_isTest ∈ gtbl := g_in (List.mem_of_getElem? (i := 1598) (by decide +kernel)) (by decide +kernel)
theorem kk_68 : Cond.selects RX11 yX11_isTest yX11_isTest ∈ gtbl := g_in (List.mem_of_getElem? (i := 68) (by decide +kernel)) (by decide +kernel)
theorem kv_X11_281 : KV RX11 281 mX11_isTest 1 := ⟨⟨kk_1596, kk_133, kk_1599, by decide +kernel⟩, rfl, kk_1598, kk_68⟩
theorem kk_1616 : Cond.methodLink RX11 284 yX11_closes ∈ gtbl := g_in (List.mem_of_getElem? (i := 1616) (by decide +kernel)) (by decide +kernel)
theorem kk_1619 : Cond.code yX11_closes cX11_closes 2 (some .boolean) ∈ gtbl := g_in (List.mem_of_getElem? (i := 1619) (by decide +kernel)) (by decide +kernel)
theorem kk_1618 : Cond.instanceMethod yX11_closes ∈ gtbl := g_in (List.mem_of_getElem? (i := 1618) (by decide +kernel)) (by decide +kernel)
theorem kk_73 : Cond.selects RX11 yX11_closes yX11_closes ∈ gtbl := g_in (List.mem_of_getElem? (i := 73) (by decide +kernel)) (by decide +kernel)
theorem kv_X11_284 : KV RX11 284 mX11_closes 1 := ⟨⟨kk_1616, kk_133, kk_1619, by decide +kernel⟩, rfl, kk_1618, kk_73⟩
abbrev mX11_isSum : MT := (yX11_isSum, cX11_isSum, 3, (some .boolean), [])
theorem kk_1628 : Cond.methodLink RX11 294 yX11_isSum ∈ gtbl := g_in (List.mem_of_getElem? (i := 1628) (by decide +kernel)) (by decide +kernel)
theorem kk_1631 : Cond.code yX11_isSum cX11_isSum 3 (some .boolean) ∈ gtbl := g_in (List.mem_of_getElem? (i := 1631) (by decide +kernel)) (by decide +kernel)
theorem kk_1630 : Cond.instanceMethod yX11_isSum ∈ gtbl := g_in (List.mem_of_getElem? (i := 1630) (by decide +kernel)) (by decide +kernel)
theorem kk_76 : Cond.selects RX11 yX11_isSum yX11_isSum ∈ gtbl := g_in (List.mem_of_getElem? (i := 76) (by decide +kernel)) (by decide +kernel)
theorem kv_X11_294 : KV RX11 294 mX11_isSum 1 := ⟨⟨kk_1628, kk_133, kk_1631, by decide +kernel⟩, rfl, kk_1630, kk_76⟩
abbrev mX11_isProduct : MT := (yX11_isProduct, cX11_isProduct, 3, (some .boolean), [])
theorem kk_1632 : Cond.methodLink RX11 297 yX11_isProduct ∈ gtbl := g_in (List.mem_of_getElem? (i := 1632) (by decide +kernel)) (by decide +kernel)
theorem kk_1635 : Cond.code yX11_isProduct cX11_isProduct 3 (some .boolean) ∈ gtbl := g_in (List.mem_of_getElem? (i := 1635) (by decide +kernel)) (by decide +kernel)
theorem kk_1634 : Cond.instanceMethod yX11_isProduct ∈ gtbl := g_in (List.mem_of_getElem? (i := 1634) (by decide +kernel)) (by decide +kernel)
theorem kk_77 : Cond.selects RX11 yX11_isProduct yX11_isProduct ∈ gtbl := g_in (List.mem_of_getElem? (i := 77) (by decide +kernel)) (by decide +kernel)
theorem kv_X11_297 : KV RX11 297 mX11_isProduct 1 := ⟨⟨kk_1632, kk_133, kk_1635, by decide +kernel⟩, rfl, kk_1634, kk_77⟩
abbrev mX11_isValue : MT := (yX11_isValue, cX11_isValue, 3, (some .boolean), [])
theorem kk_1636 : Cond.methodLink RX11 300 yX11_isValue ∈ gtbl := g_in (List.mem_of_getElem? (i := 1636) (by decide +kernel)) (by decide +kernel)
theorem kk_1639 : Cond.code yX11_isValue cX11_isValue 3 (some .boolean) ∈ gtbl := g_in (List.mem_of_getElem? (i := 1639) (by decide +kernel)) (by decide +kernel)
theorem kk_1638 : Cond.instanceMethod yX11_isValue ∈ gtbl := g_in (List.mem_of_getElem? (i := 1638) (by decide +kernel)) (by decide +kernel)
theorem kk_78 : Cond.selects RX11 yX11_isValue yX11_isValue ∈ gtbl := g_in (List.mem_of_getElem? (i := 78) (by decide +kernel)) (by decide +kernel)
theorem kv_X11_300 : KV RX11 300 mX11_isValue 1 := ⟨⟨kk_1636, kk_133, kk_1639, by decide +kernel⟩, rfl, kk_1638, kk_78⟩
abbrev mX11_isOfTwo : MT := (yX11_isOfTwo, cX11_isOfTwo, 3, (some .boolean), [])
theorem kk_1640 : Cond.methodLink RX11 303 yX11_isOfTwo ∈ gtbl := g_in (List.mem_of_getElem? (i := 1640) (by decide +kernel)) (by decide +kernel)
theorem kk_1643 : Cond.code yX11_isOfTwo cX11_isOfTwo 3 (some .boolean) ∈ gtbl := g_in (List.mem_of_getElem? (i := 1643) (by decide +kernel)) (by decide +kernel)
theorem kk_1642 : Cond.instanceMethod yX11_isOfTwo ∈ gtbl := g_in (List.mem_of_getElem? (i := 1642) (by decide +kernel)) (by decide +kernel)
theorem kk_79 : Cond.selects RX11 yX11_isOfTwo yX11_isOfTwo ∈ gtbl := g_in (List.mem_of_getElem? (i := 79) (by decide +kernel)) (by decide +kernel)
theorem kv_X11_303 : KV RX11 303 mX11_isOfTwo 2 := ⟨⟨kk_1640, kk_133, kk_1643, by decide +kernel⟩, rfl, kk_1642, kk_79⟩
theorem kk_1519 : Cond.methodLink RX11 58 yX11_isIn ∈ gtbl := g_in (List.mem_of_getElem? (i := 1519) (by decide +kernel)) (by decide +kernel)
theorem kk_1521 : Cond.code yX11_isIn cX11_isIn 3 (some .boolean) ∈ gtbl := g_in (List.mem_of_getElem? (i := 1521) (by decide +kernel)) (by decide +kernel)
theorem kk_1520 : Cond.static yX11_isIn ∈ gtbl := g_in (List.mem_of_getElem? (i := 1520) (by decide +kernel)) (by decide +kernel)
theorem ks_X11_58 : KS RX11 58 mX11_isIn 3 := ⟨⟨kk_1519, kk_133, kk_1521, by decide +kernel⟩, rfl, kk_1520⟩
theorem kk_1441 : Cond.fieldLink RX11 33 RX11 "value" "[J" ∈ gtbl := g_in (List.mem_of_getElem? (i := 1441) (by decide +kernel)) (by decide +kernel)
theorem fl_X11_33 : FL RX11 33 11 8 (.array .long) true := ⟨RX11, TX11, 23, tyX11, rfl, by decide, il_11, tyX11_ok, nmX11, rfl, rfl, Or.inl kk_1441⟩
theorem kk_1433 : Cond.fieldLink RX11 52 RX11 "thrown" "I" ∈ gtbl := g_in (List.mem_of_getElem? (i := 1433) (by decide +kernel)) (by decide +kernel)
theorem fl_X11_52 : FL RX11 52 11 0 (.int) false := ⟨RX11, TX11, 23, tyX11, rfl, by decide, il_11, tyX11_ok, nmX11, rfl, rfl, Or.inl kk_1433⟩
abbrev mX11_thrown : MT := (yX11_thrown, cX11_thrown, 1, (some .int), [])
abbrev mX11_no : MT := (yX11_no, cX11_no, 2, (some .int), [])
abbrev mX11_isNot : MT := (yX11_isNot, cX11_isNot, 2, (some .boolean), [])
abbrev mX11_ok : MT := (yX11_ok, cX11_ok, 2, (some .int), [])
abbrev mX11_has : MT := (yX11_has, cX11_has, 2, (some .boolean), [])
theorem kn_1361 : Cond.fieldLinkNest RX11 55 RX10 "events" "I" "StoryTapestryModel" ∈ gnest := n_in (List.mem_of_getElem? (i := 1361) (by decide +kernel)) (by decide +kernel)
theorem fl_X11_55 : FL RX11 55 10 0 (.int) false := ⟨RX10, TX10, 19, tyX10, rfl, by decide, il_10, tyX10_ok, nmX10, rfl, rfl, Or.inr ⟨_, kn_1361⟩⟩
abbrev mX11_isEvent : MT := (yX11_isEvent, cX11_isEvent, 2, (some .boolean), [])
theorem kn_1364 : Cond.fieldLinkNest RX11 62 RX10 "tellers" "I" "StoryTapestryModel" ∈ gnest := n_in (List.mem_of_getElem? (i := 1364) (by decide +kernel)) (by decide +kernel)
theorem fl_X11_62 : FL RX11 62 10 2 (.int) false := ⟨RX10, TX10, 19, tyX10, rfl, by decide, il_10, tyX10_ok, nmX10, rfl, rfl, Or.inr ⟨_, kn_1364⟩⟩
abbrev mX11_isTeller : MT := (yX11_isTeller, cX11_isTeller, 2, (some .boolean), [])
theorem kn_1367 : Cond.fieldLinkNest RX11 65 RX10 "claims" "I" "StoryTapestryModel" ∈ gnest := n_in (List.mem_of_getElem? (i := 1367) (by decide +kernel)) (by decide +kernel)
theorem fl_X11_65 : FL RX11 65 10 4 (.int) false := ⟨RX10, TX10, 19, tyX10, rfl, by decide, il_10, tyX10_ok, nmX10, rfl, rfl, Or.inr ⟨_, kn_1367⟩⟩
abbrev mX11_isClaim : MT := (yX11_isClaim, cX11_isClaim, 2, (some .boolean), [])
theorem kk_1450 : Cond.fieldLink RX11 43 RX11 "looked" "I" ∈ gtbl := g_in (List.mem_of_getElem? (i := 1450) (by decide +kernel)) (by decide +kernel)
theorem fl_X11_43 : FL RX11 43 11 17 (.int) false := ⟨RX11, TX11, 23, tyX11, rfl, by decide, il_11, tyX11_ok, nmX11, rfl, rfl, Or.inl kk_1450⟩
theorem kk_1449 : Cond.fieldLink RX11 40 RX11 "against" "[I" ∈ gtbl := g_in (List.mem_of_getElem? (i := 1449) (by decide +kernel)) (by decide +kernel)
theorem fl_X11_40 : FL RX11 40 11 16 (.array .int) true := ⟨RX11, TX11, 23, tyX11, rfl, by decide, il_11, tyX11_ok, nmX11, rfl, rfl, Or.inl kk_1449⟩
theorem kn_1371 : Cond.fieldLinkNest RX11 82 RX10 "by" "[I" "StoryTapestryModel" ∈ gnest := n_in (List.mem_of_getElem? (i := 1371) (by decide +kernel)) (by decide +kernel)
theorem fl_X11_82 : FL RX11 82 10 6 (.array .int) true := ⟨RX10, TX10, 19, tyX10, rfl, by decide, il_10, tyX10_ok, nmX10, rfl, rfl, Or.inr ⟨_, kn_1371⟩⟩
abbrev mX11_weave : MT := (yX11_weave, cX11_weave, 3, none, [])
theorem kk_1446 : Cond.fieldLink RX11 85 RX11 "doubted" "I" ∈ gtbl := g_in (List.mem_of_getElem? (i := 1446) (by decide +kernel)) (by decide +kernel)
theorem fl_X11_85 : FL RX11 85 11 13 (.int) false := ⟨RX11, TX11, 23, tyX11, rfl, by decide, il_11, tyX11_ok, nmX11, rfl, rfl, Or.inl kk_1446⟩
abbrev mX11_believed : MT := (yX11_believed, cX11_believed, 1, (some .int), [])
theorem kk_1771 : Cond.methodLink RX11 88 yX11_has ∈ gtbl := g_in (List.mem_of_getElem? (i := 1771) (by decide +kernel)) (by decide +kernel)
theorem kk_1773 : Cond.code yX11_has cX11_has 2 (some .boolean) ∈ gtbl := g_in (List.mem_of_getElem? (i := 1773) (by decide +kernel)) (by decide +kernel)
theorem kk_1772 : Cond.static yX11_has ∈ gtbl := g_in (List.mem_of_getElem? (i := 1772) (by decide +kernel)) (by decide +kernel)
theorem ks_X11_88 : KS RX11 88 mX11_has 2 := ⟨⟨kk_1771, kk_133, kk_1773, by decide +kernel⟩, rfl, kk_1772⟩
abbrev mX11_doContradictNow : MT := (yX11_doContradictNow, cX11_doContradictNow, 3, (some .boolean), [])
abbrev mX11_pairsNow : MT := (yX11_pairsNow, cX11_pairsNow, 5, (some .int), [])
abbrev mX11_pairs : MT := (yX11_pairs, cX11_pairs, 6, (some .int), [])
abbrev mX11_isEnough : MT := (yX11_isEnough, cX11_isEnough, 5, (some .boolean), [])
abbrev mX11_isAhead : MT := (yX11_isAhead, cX11_isAhead, 3, (some .boolean), [])
theorem kk_1794 : Cond.methodLink RX11 91 yX11_believed ∈ gtbl := g_in (List.mem_of_getElem? (i := 1794) (by decide +kernel)) (by decide +kernel)
theorem kk_1797 : Cond.code yX11_believed cX11_believed 1 (some .int) ∈ gtbl := g_in (List.mem_of_getElem? (i := 1797) (by decide +kernel)) (by decide +kernel)
theorem kk_1796 : Cond.instanceMethod yX11_believed ∈ gtbl := g_in (List.mem_of_getElem? (i := 1796) (by decide +kernel)) (by decide +kernel)
theorem kk_98 : Cond.selects RX11 yX11_believed yX11_believed ∈ gtbl := g_in (List.mem_of_getElem? (i := 98) (by decide +kernel)) (by decide +kernel)
theorem kv_X11_91 : KV RX11 91 mX11_believed 0 := ⟨⟨kk_1794, kk_133, kk_1797, by decide +kernel⟩, rfl, kk_1796, kk_98⟩
theorem kk_1452 : Cond.fieldLink RX11 95 RX11 "fewest" "I" ∈ gtbl := g_in (List.mem_of_getElem? (i := 1452) (by decide +kernel)) (by decide +kernel)
theorem fl_X11_95 : FL RX11 95 11 19 (.int) false := ⟨RX11, TX11, 23, tyX11, rfl, by decide, il_11, tyX11_ok, nmX11, rfl, rfl, Or.inl kk_1452⟩
theorem kk_1814 : Cond.methodLink RX11 98 yJ6_bitCount_0f7a4 ∈ gtbl := g_in (List.mem_of_getElem? (i := 1814) (by decide +kernel)) (by decide +kernel)
theorem ks_X11_98 : KS RX11 98 mJ6_bitCount_0f7a4 1 := ⟨⟨kk_1814, kk_143, kk_834, by decide +kernel⟩, rfl, kk_833⟩
theorem kk_1815 : Cond.methodLink RX11 104 yX11_isEnough ∈ gtbl := g_in (List.mem_of_getElem? (i := 1815) (by decide +kernel)) (by decide +kernel)
theorem kk_1818 : Cond.code yX11_isEnough cX11_isEnough 5 (some .boolean) ∈ gtbl := g_in (List.mem_of_getElem? (i := 1818) (by decide +kernel)) (by decide +kernel)
theorem kk_1817 : Cond.instanceMethod yX11_isEnough ∈ gtbl := g_in (List.mem_of_getElem? (i := 1817) (by decide +kernel)) (by decide +kernel)
theorem kk_102 : Cond.selects RX11 yX11_isEnough yX11_isEnough ∈ gtbl := g_in (List.mem_of_getElem? (i := 102) (by decide +kernel)) (by decide +kernel)
theorem kv_X11_104 : KV RX11 104 mX11_isEnough 2 := ⟨⟨kk_1815, kk_133, kk_1818, by decide +kernel⟩, rfl, kk_1817, kk_102⟩
theorem kk_1451 : Cond.fieldLink RX11 110 RX11 "lying" "I" ∈ gtbl := g_in (List.mem_of_getElem? (i := 1451) (by decide +kernel)) (by decide +kernel)
theorem fl_X11_110 : FL RX11 110 11 18 (.int) false := ⟨RX11, TX11, 23, tyX11, rfl, by decide, il_11, tyX11_ok, nmX11, rfl, rfl, Or.inl kk_1451⟩
theorem kk_1453 : Cond.fieldLink RX11 107 RX11 "sets" "I" ∈ gtbl := g_in (List.mem_of_getElem? (i := 1453) (by decide +kernel)) (by decide +kernel)
theorem fl_X11_107 : FL RX11 107 11 20 (.int) false := ⟨RX11, TX11, 23, tyX11, rfl, by decide, il_11, tyX11_ok, nmX11, rfl, rfl, Or.inl kk_1453⟩
theorem kk_1819 : Cond.methodLink RX11 113 yX11_isAhead ∈ gtbl := g_in (List.mem_of_getElem? (i := 1819) (by decide +kernel)) (by decide +kernel)
theorem kk_1821 : Cond.code yX11_isAhead cX11_isAhead 3 (some .boolean) ∈ gtbl := g_in (List.mem_of_getElem? (i := 1821) (by decide +kernel)) (by decide +kernel)
theorem kk_1820 : Cond.static yX11_isAhead ∈ gtbl := g_in (List.mem_of_getElem? (i := 1820) (by decide +kernel)) (by decide +kernel)
theorem ks_X11_113 : KS RX11 113 mX11_isAhead 2 := ⟨⟨kk_1819, kk_133, kk_1821, by decide +kernel⟩, rfl, kk_1820⟩
abbrev mX11_look : MT := (yX11_look, cX11_look, 4, none, [])
theorem kk_1810 : Cond.methodLink RX11 116 yX11_look ∈ gtbl := g_in (List.mem_of_getElem? (i := 1810) (by decide +kernel)) (by decide +kernel)
theorem kk_1813 : Cond.code yX11_look cX11_look 4 none ∈ gtbl := g_in (List.mem_of_getElem? (i := 1813) (by decide +kernel)) (by decide +kernel)
theorem kk_1812 : Cond.instanceMethod yX11_look ∈ gtbl := g_in (List.mem_of_getElem? (i := 1812) (by decide +kernel)) (by decide +kernel)
theorem kk_101 : Cond.selects RX11 yX11_look yX11_look ∈ gtbl := g_in (List.mem_of_getElem? (i := 101) (by decide +kernel)) (by decide +kernel)
theorem kv_X11_116 : KV RX11 116 mX11_look 0 := ⟨⟨kk_1810, kk_133, kk_1813, by decide +kernel⟩, rfl, kk_1812, kk_101⟩
abbrev mX11_liarsNow : MT := (yX11_liarsNow, cX11_liarsNow, 1, (some .int), [])
abbrev mX11_lies : MT := (yX11_lies, cX11_lies, 2, (some .boolean), [])
abbrev mX11_isTruthful : MT := (yX11_isTruthful, cX11_isTruthful, 2, (some .boolean), [])
theorem kk_1854 : Cond.methodLink RX11 119 yJ9_max_7cf53 ∈ gtbl := g_in (List.mem_of_getElem? (i := 1854) (by decide +kernel)) (by decide +kernel)
theorem ks_X11_119 : KS RX11 119 mJ9_max_7cf53 2 := ⟨⟨kk_1854, kk_140, kk_588, by decide +kernel⟩, rfl, kk_587⟩
abbrev mX11_windowBegins : MT := (yX11_windowBegins, cX11_windowBegins, 4, (some .int), [])
theorem kk_1595 : Cond.methodLink RX11 125 yJ9_min_7cf53 ∈ gtbl := g_in (List.mem_of_getElem? (i := 1595) (by decide +kernel)) (by decide +kernel)
theorem ks_X11_125 : KS RX11 125 mJ9_min_7cf53 2 := ⟨⟨kk_1595, kk_140, kk_591, by decide +kernel⟩, rfl, kk_590⟩
abbrev mX11_windowEnds : MT := (yX11_windowEnds, cX11_windowEnds, 4, (some .int), [])
theorem kk_1846 : Cond.methodLink RX11 128 yX11_windowEnds ∈ gtbl := g_in (List.mem_of_getElem? (i := 1846) (by decide +kernel)) (by decide +kernel)
theorem kk_1849 : Cond.code yX11_windowEnds cX11_windowEnds 4 (some .int) ∈ gtbl := g_in (List.mem_of_getElem? (i := 1849) (by decide +kernel)) (by decide +kernel)
theorem kk_1848 : Cond.instanceMethod yX11_windowEnds ∈ gtbl := g_in (List.mem_of_getElem? (i := 1848) (by decide +kernel)) (by decide +kernel)
theorem kk_106 : Cond.selects RX11 yX11_windowEnds yX11_windowEnds ∈ gtbl := g_in (List.mem_of_getElem? (i := 106) (by decide +kernel)) (by decide +kernel)
theorem kv_X11_128 : KV RX11 128 mX11_windowEnds 1 := ⟨⟨kk_1846, kk_133, kk_1849, by decide +kernel⟩, rfl, kk_1848, kk_106⟩
theorem kk_1850 : Cond.methodLink RX11 131 yX11_windowBegins ∈ gtbl := g_in (List.mem_of_getElem? (i := 1850) (by decide +kernel)) (by decide +kernel)
theorem kk_1853 : Cond.code yX11_windowBegins cX11_windowBegins 4 (some .int) ∈ gtbl := g_in (List.mem_of_getElem? (i := 1853) (by decide +kernel)) (by decide +kernel)
theorem kk_1852 : Cond.instanceMethod yX11_windowBegins ∈ gtbl := g_in (List.mem_of_getElem? (i := 1852) (by decide +kernel)) (by decide +kernel)
theorem kk_107 : Cond.selects RX11 yX11_windowBegins yX11_windowBegins ∈ gtbl := g_in (List.mem_of_getElem? (i := 107) (by decide +kernel)) (by decide +kernel)
theorem kv_X11_131 : KV RX11 131 mX11_windowBegins 1 := ⟨⟨kk_1850, kk_133, kk_1853, by decide +kernel⟩, rfl, kk_1852, kk_107⟩
abbrev mX11_hours : MT := (yX11_hours, cX11_hours, 2, (some .int), [])
theorem kk_1875 : Cond.methodLink RX11 134 yX11_isTruthful ∈ gtbl := g_in (List.mem_of_getElem? (i := 1875) (by decide +kernel)) (by decide +kernel)
theorem kk_1878 : Cond.code yX11_isTruthful cX11_isTruthful 2 (some .boolean) ∈ gtbl := g_in (List.mem_of_getElem? (i := 1878) (by decide +kernel)) (by decide +kernel)
theorem kk_1877 : Cond.instanceMethod yX11_isTruthful ∈ gtbl := g_in (List.mem_of_getElem? (i := 1877) (by decide +kernel)) (by decide +kernel)
theorem kk_110 : Cond.selects RX11 yX11_isTruthful yX11_isTruthful ∈ gtbl := g_in (List.mem_of_getElem? (i := 110) (by decide +kernel)) (by decide +kernel)
theorem kv_X11_134 : KV RX11 134 mX11_isTruthful 1 := ⟨⟨kk_1875, kk_133, kk_1878, by decide +kernel⟩, rfl, kk_1877, kk_110⟩
abbrev mX11_isBehind : MT := (yX11_isBehind, cX11_isBehind, 4, (some .boolean), [])
theorem kk_1454 : Cond.fieldLink RX11 46 RX11 "row" "[I" ∈ gtbl := g_in (List.mem_of_getElem? (i := 1454) (by decide +kernel)) (by decide +kernel)
theorem fl_X11_46 : FL RX11 46 11 21 (.array .int) true := ⟨RX11, TX11, 23, tyX11, rfl, by decide, il_11, tyX11_ok, nmX11, rfl, rfl, Or.inl kk_1454⟩
theorem kk_1871 : Cond.methodLink RX11 138 yX11_isBehind ∈ gtbl := g_in (List.mem_of_getElem? (i := 1871) (by decide +kernel)) (by decide +kernel)
theorem kk_1874 : Cond.code yX11_isBehind cX11_isBehind 4 (some .boolean) ∈ gtbl := g_in (List.mem_of_getElem? (i := 1874) (by decide +kernel)) (by decide +kernel)
theorem kk_1873 : Cond.instanceMethod yX11_isBehind ∈ gtbl := g_in (List.mem_of_getElem? (i := 1873) (by decide +kernel)) (by decide +kernel)
theorem kk_109 : Cond.selects RX11 yX11_isBehind yX11_isBehind ∈ gtbl := g_in (List.mem_of_getElem? (i := 109) (by decide +kernel)) (by decide +kernel)
theorem kv_X11_138 : KV RX11 138 mX11_isBehind 2 := ⟨⟨kk_1871, kk_133, kk_1874, by decide +kernel⟩, rfl, kk_1873, kk_109⟩
abbrev mX11_isOrdered : MT := (yX11_isOrdered, cX11_isOrdered, 4, (some .boolean), [])
abbrev mX11_isAsked : MT := (yX11_isAsked, cX11_isAsked, 1, (some .boolean), [])
abbrev mX11_one : MT := (yX11_one, cX11_one, 1, (some .int), [])
theorem kk_1930 : Cond.methodLink RX11 165 yX11_one ∈ gtbl := g_in (List.mem_of_getElem? (i := 1930) (by decide +kernel)) (by decide +kernel)
theorem kk_1932 : Cond.code yX11_one cX11_one 1 (some .int) ∈ gtbl := g_in (List.mem_of_getElem? (i := 1932) (by decide +kernel)) (by decide +kernel)
theorem kk_1931 : Cond.static yX11_one ∈ gtbl := g_in (List.mem_of_getElem? (i := 1931) (by decide +kernel)) (by decide +kernel)
theorem ks_X11_165 : KS RX11 165 mX11_one 1 := ⟨⟨kk_1930, kk_133, kk_1932, by decide +kernel⟩, rfl, kk_1931⟩
abbrev mX11_reckon : MT := (yX11_reckon, cX11_reckon, 3, (some .int), [])
abbrev mX11_claimsBy : MT := (yX11_claimsBy, cX11_claimsBy, 4, (some .int), [])
theorem kk_1447 : Cond.fieldLink RX11 156 RX11 "evenings" "I" ∈ gtbl := g_in (List.mem_of_getElem? (i := 1447) (by decide +kernel)) (by decide +kernel)
theorem fl_X11_156 : FL RX11 156 11 14 (.int) false := ⟨RX11, TX11, 23, tyX11, rfl, by decide, il_11, tyX11_ok, nmX11, rfl, rfl, Or.inl kk_1447⟩
theorem kk_1806 : Cond.methodLink RX11 159 yX11_liarsNow ∈ gtbl := g_in (List.mem_of_getElem? (i := 1806) (by decide +kernel)) (by decide +kernel)
theorem kk_1809 : Cond.code yX11_liarsNow cX11_liarsNow 1 (some .int) ∈ gtbl := g_in (List.mem_of_getElem? (i := 1809) (by decide +kernel)) (by decide +kernel)
theorem kk_1808 : Cond.instanceMethod yX11_liarsNow ∈ gtbl := g_in (List.mem_of_getElem? (i := 1808) (by decide +kernel)) (by decide +kernel)
theorem kk_100 : Cond.selects RX11 yX11_liarsNow yX11_liarsNow ∈ gtbl := g_in (List.mem_of_getElem? (i := 100) (by decide +kernel)) (by decide +kernel)
theorem kv_X11_159 : KV RX11 159 mX11_liarsNow 0 := ⟨⟨kk_1806, kk_133, kk_1809, by decide +kernel⟩, rfl, kk_1808, kk_100⟩
theorem kk_1798 : Cond.methodLink RX11 162 yX11_pairsNow ∈ gtbl := g_in (List.mem_of_getElem? (i := 1798) (by decide +kernel)) (by decide +kernel)
theorem kk_1801 : Cond.code yX11_pairsNow cX11_pairsNow 5 (some .int) ∈ gtbl := g_in (List.mem_of_getElem? (i := 1801) (by decide +kernel)) (by decide +kernel)
theorem kk_1800 : Cond.instanceMethod yX11_pairsNow ∈ gtbl := g_in (List.mem_of_getElem? (i := 1800) (by decide +kernel)) (by decide +kernel)
theorem kk_99 : Cond.selects RX11 yX11_pairsNow yX11_pairsNow ∈ gtbl := g_in (List.mem_of_getElem? (i := 99) (by decide +kernel)) (by decide +kernel)
theorem kv_X11_162 : KV RX11 162 mX11_pairsNow 1 := ⟨⟨kk_1798, kk_133, kk_1801, by decide +kernel⟩, rfl, kk_1800, kk_99⟩
theorem kk_1763 : Cond.methodLink RX11 169 yX11_claimsBy ∈ gtbl := g_in (List.mem_of_getElem? (i := 1763) (by decide +kernel)) (by decide +kernel)
theorem kk_1766 : Cond.code yX11_claimsBy cX11_claimsBy 4 (some .int) ∈ gtbl := g_in (List.mem_of_getElem? (i := 1766) (by decide +kernel)) (by decide +kernel)
theorem kk_1765 : Cond.instanceMethod yX11_claimsBy ∈ gtbl := g_in (List.mem_of_getElem? (i := 1765) (by decide +kernel)) (by decide +kernel)
theorem kk_95 : Cond.selects RX11 yX11_claimsBy yX11_claimsBy ∈ gtbl := g_in (List.mem_of_getElem? (i := 95) (by decide +kernel)) (by decide +kernel)
theorem kv_X11_169 : KV RX11 169 mX11_claimsBy 1 := ⟨⟨kk_1763, kk_133, kk_1766, by decide +kernel⟩, rfl, kk_1765, kk_95⟩
theorem kk_1842 : Cond.methodLink RX11 172 yX11_hours ∈ gtbl := g_in (List.mem_of_getElem? (i := 1842) (by decide +kernel)) (by decide +kernel)
theorem kk_1845 : Cond.code yX11_hours cX11_hours 2 (some .int) ∈ gtbl := g_in (List.mem_of_getElem? (i := 1845) (by decide +kernel)) (by decide +kernel)
theorem kk_1844 : Cond.instanceMethod yX11_hours ∈ gtbl := g_in (List.mem_of_getElem? (i := 1844) (by decide +kernel)) (by decide +kernel)
theorem kk_105 : Cond.selects RX11 yX11_hours yX11_hours ∈ gtbl := g_in (List.mem_of_getElem? (i := 105) (by decide +kernel)) (by decide +kernel)
theorem kv_X11_172 : KV RX11 172 mX11_hours 1 := ⟨⟨kk_1842, kk_133, kk_1845, by decide +kernel⟩, rfl, kk_1844, kk_105⟩
theorem kk_1778 : Cond.methodLink RX11 175 yX11_doContradictNow ∈ gtbl := g_in (List.mem_of_getElem? (i := 1778) (by decide +kernel)) (by decide +kernel)
theorem kk_1781 : Cond.code yX11_doContradictNow cX11_doContradictNow 3 (some .boolean) ∈ gtbl := g_in (List.mem_of_getElem? (i := 1781) (by decide +kernel)) (by decide +kernel)
theorem kk_1780 : Cond.instanceMethod yX11_doContradictNow ∈ gtbl := g_in (List.mem_of_getElem? (i := 1780) (by decide +kernel)) (by decide +kernel)
theorem kk_96 : Cond.selects RX11 yX11_doContradictNow yX11_doContradictNow ∈ gtbl := g_in (List.mem_of_getElem? (i := 96) (by decide +kernel)) (by decide +kernel)
theorem kv_X11_175 : KV RX11 175 mX11_doContradictNow 2 := ⟨⟨kk_1778, kk_133, kk_1781, by decide +kernel⟩, rfl, kk_1780, kk_96⟩
theorem kk_1830 : Cond.methodLink RX11 178 yX11_lies ∈ gtbl := g_in (List.mem_of_getElem? (i := 1830) (by decide +kernel)) (by decide +kernel)
theorem kk_1833 : Cond.code yX11_lies cX11_lies 2 (some .boolean) ∈ gtbl := g_in (List.mem_of_getElem? (i := 1833) (by decide +kernel)) (by decide +kernel)
theorem kk_1832 : Cond.instanceMethod yX11_lies ∈ gtbl := g_in (List.mem_of_getElem? (i := 1832) (by decide +kernel)) (by decide +kernel)
theorem kk_103 : Cond.selects RX11 yX11_lies yX11_lies ∈ gtbl := g_in (List.mem_of_getElem? (i := 103) (by decide +kernel)) (by decide +kernel)
theorem kv_X11_178 : KV RX11 178 mX11_lies 1 := ⟨⟨kk_1830, kk_133, kk_1833, by decide +kernel⟩, rfl, kk_1832, kk_103⟩
abbrev mX11_ask : MT := (yX11_ask, cX11_ask, 4, (some .int), [])
theorem kn_1384 : Cond.fieldLinkNest RX11 181 RX10 "begins" "[I" "StoryTapestryModel" ∈ gnest := n_in (List.mem_of_getElem? (i := 1384) (by decide +kernel)) (by decide +kernel)
theorem fl_X11_181 : FL RX11 181 10 13 (.array .int) true := ⟨RX10, TX10, 19, tyX10, rfl, by decide, il_10, tyX10_ok, nmX10, rfl, rfl, Or.inr ⟨_, kn_1384⟩⟩
theorem kn_1386 : Cond.fieldLinkNest RX11 184 RX10 "ends" "[I" "StoryTapestryModel" ∈ gnest := n_in (List.mem_of_getElem? (i := 1386) (by decide +kernel)) (by decide +kernel)
theorem fl_X11_184 : FL RX11 184 10 14 (.array .int) true := ⟨RX10, TX10, 19, tyX10, rfl, by decide, il_10, tyX10_ok, nmX10, rfl, rfl, Or.inr ⟨_, kn_1386⟩⟩
theorem kk_1455 : Cond.fieldLink RX11 49 RX11 "stack" "[I" ∈ gtbl := g_in (List.mem_of_getElem? (i := 1455) (by decide +kernel)) (by decide +kernel)
theorem fl_X11_49 : FL RX11 49 11 22 (.array .int) true := ⟨RX11, TX11, 23, tyX11, rfl, by decide, il_11, tyX11_ok, nmX11, rfl, rfl, Or.inl kk_1455⟩
theorem kk_1923 : Cond.methodLink RX11 190 yX11_isAsked ∈ gtbl := g_in (List.mem_of_getElem? (i := 1923) (by decide +kernel)) (by decide +kernel)
theorem kk_1925 : Cond.code yX11_isAsked cX11_isAsked 1 (some .boolean) ∈ gtbl := g_in (List.mem_of_getElem? (i := 1925) (by decide +kernel)) (by decide +kernel)
theorem kk_1924 : Cond.static yX11_isAsked ∈ gtbl := g_in (List.mem_of_getElem? (i := 1924) (by decide +kernel)) (by decide +kernel)
theorem ks_X11_190 : KS RX11 190 mX11_isAsked 1 := ⟨⟨kk_1923, kk_133, kk_1925, by decide +kernel⟩, rfl, kk_1924⟩
theorem kk_1933 : Cond.methodLink RX11 203 yX11_reckon ∈ gtbl := g_in (List.mem_of_getElem? (i := 1933) (by decide +kernel)) (by decide +kernel)
theorem kk_1935 : Cond.code yX11_reckon cX11_reckon 3 (some .int) ∈ gtbl := g_in (List.mem_of_getElem? (i := 1935) (by decide +kernel)) (by decide +kernel)
theorem kk_1934 : Cond.static yX11_reckon ∈ gtbl := g_in (List.mem_of_getElem? (i := 1934) (by decide +kernel)) (by decide +kernel)
theorem ks_X11_203 : KS RX11 203 mX11_reckon 3 := ⟨⟨kk_1933, kk_133, kk_1935, by decide +kernel⟩, rfl, kk_1934⟩
theorem kk_1926 : Cond.methodLink RX11 199 yX11_ask ∈ gtbl := g_in (List.mem_of_getElem? (i := 1926) (by decide +kernel)) (by decide +kernel)
theorem kk_1929 : Cond.code yX11_ask cX11_ask 4 (some .int) ∈ gtbl := g_in (List.mem_of_getElem? (i := 1929) (by decide +kernel)) (by decide +kernel)
theorem kk_1928 : Cond.instanceMethod yX11_ask ∈ gtbl := g_in (List.mem_of_getElem? (i := 1928) (by decide +kernel)) (by decide +kernel)
theorem kk_115 : Cond.selects RX11 yX11_ask yX11_ask ∈ gtbl := g_in (List.mem_of_getElem? (i := 115) (by decide +kernel)) (by decide +kernel)
theorem kv_X11_199 : KV RX11 199 mX11_ask 3 := ⟨⟨kk_1926, kk_133, kk_1929, by decide +kernel⟩, rfl, kk_1928, kk_115⟩
abbrev mX11_holds : MT := (yX11_holds, cX11_holds, 5, (some .boolean), [])
theorem kk_1448 : Cond.fieldLink RX11 141 RX11 "carried" "I" ∈ gtbl := g_in (List.mem_of_getElem? (i := 1448) (by decide +kernel)) (by decide +kernel)
theorem fl_X11_141 : FL RX11 141 11 15 (.int) false := ⟨RX11, TX11, 23, tyX11, rfl, by decide, il_11, tyX11_ok, nmX11, rfl, rfl, Or.inl kk_1448⟩
theorem kn_1378 : Cond.fieldLinkNest RX11 144 RX10 "orders" "I" "StoryTapestryModel" ∈ gnest := n_in (List.mem_of_getElem? (i := 1378) (by decide +kernel)) (by decide +kernel)
theorem fl_X11_144 : FL RX11 144 10 10 (.int) false := ⟨RX10, TX10, 19, tyX10, rfl, by decide, il_10, tyX10_ok, nmX10, rfl, rfl, Or.inr ⟨_, kn_1378⟩⟩
theorem kk_1919 : Cond.methodLink RX11 147 yX11_holds ∈ gtbl := g_in (List.mem_of_getElem? (i := 1919) (by decide +kernel)) (by decide +kernel)
theorem kk_1922 : Cond.code yX11_holds cX11_holds 5 (some .boolean) ∈ gtbl := g_in (List.mem_of_getElem? (i := 1922) (by decide +kernel)) (by decide +kernel)
theorem kk_1921 : Cond.instanceMethod yX11_holds ∈ gtbl := g_in (List.mem_of_getElem? (i := 1921) (by decide +kernel)) (by decide +kernel)
theorem kk_114 : Cond.selects RX11 yX11_holds yX11_holds ∈ gtbl := g_in (List.mem_of_getElem? (i := 114) (by decide +kernel)) (by decide +kernel)
theorem kv_X11_147 : KV RX11 147 mX11_holds 1 := ⟨⟨kk_1919, kk_133, kk_1922, by decide +kernel⟩, rfl, kk_1921, kk_114⟩
theorem kn_1382 : Cond.fieldLinkNest RX11 150 RX10 "whom" "[I" "StoryTapestryModel" ∈ gnest := n_in (List.mem_of_getElem? (i := 1382) (by decide +kernel)) (by decide +kernel)
theorem fl_X11_150 : FL RX11 150 10 12 (.array .int) true := ⟨RX10, TX10, 19, tyX10, rfl, by decide, il_10, tyX10_ok, nmX10, rfl, rfl, Or.inr ⟨_, kn_1382⟩⟩
theorem kn_1380 : Cond.fieldLinkNest RX11 153 RX10 "does" "[I" "StoryTapestryModel" ∈ gnest := n_in (List.mem_of_getElem? (i := 1380) (by decide +kernel)) (by decide +kernel)
theorem fl_X11_153 : FL RX11 153 10 11 (.array .int) true := ⟨RX10, TX10, 19, tyX10, rfl, by decide, il_10, tyX10_ok, nmX10, rfl, rfl, Or.inr ⟨_, kn_1380⟩⟩
abbrev mX11_pass : MT := (yX11_pass, cX11_pass, 7, (some .int), [])
theorem kk_1435 : Cond.fieldLink RX11 206 RX11 "size" "I" ∈ gtbl := g_in (List.mem_of_getElem? (i := 1435) (by decide +kernel)) (by decide +kernel)
theorem fl_X11_206 : FL RX11 206 11 2 (.int) false := ⟨RX11, TX11, 23, tyX11, rfl, by decide, il_11, tyX11_ok, nmX11, rfl, rfl, Or.inl kk_1435⟩
theorem kk_1434 : Cond.fieldLink RX11 9 RX11 "tape" "[I" ∈ gtbl := g_in (List.mem_of_getElem? (i := 1434) (by decide +kernel)) (by decide +kernel)
theorem fl_X11_9 : FL RX11 9 11 1 (.array .int) true := ⟨RX11, TX11, 23, tyX11, rfl, by decide, il_11, tyX11_ok, nmX11, rfl, rfl, Or.inl kk_1434⟩
abbrev mX11_byteOf : MT := (yX11_byteOf, cX11_byteOf, 2, (some .int), [])
abbrev mX11_isSmall : MT := (yX11_isSmall, cX11_isSmall, 1, (some .boolean), [])
abbrev mX11_isDigit : MT := (yX11_isDigit, cX11_isDigit, 1, (some .boolean), [])
theorem kk_1534 : Cond.methodLink RX11 209 yX11_byteOf ∈ gtbl := g_in (List.mem_of_getElem? (i := 1534) (by decide +kernel)) (by decide +kernel)
theorem kk_1537 : Cond.code yX11_byteOf cX11_byteOf 2 (some .int) ∈ gtbl := g_in (List.mem_of_getElem? (i := 1537) (by decide +kernel)) (by decide +kernel)
theorem kk_1536 : Cond.instanceMethod yX11_byteOf ∈ gtbl := g_in (List.mem_of_getElem? (i := 1536) (by decide +kernel)) (by decide +kernel)
theorem kk_57 : Cond.selects RX11 yX11_byteOf yX11_byteOf ∈ gtbl := g_in (List.mem_of_getElem? (i := 57) (by decide +kernel)) (by decide +kernel)
theorem kv_X11_209 : KV RX11 209 mX11_byteOf 1 := ⟨⟨kk_1534, kk_133, kk_1537, by decide +kernel⟩, rfl, kk_1536, kk_57⟩
theorem kk_1542 : Cond.methodLink RX11 212 yX11_isSmall ∈ gtbl := g_in (List.mem_of_getElem? (i := 1542) (by decide +kernel)) (by decide +kernel)
theorem kk_1544 : Cond.code yX11_isSmall cX11_isSmall 1 (some .boolean) ∈ gtbl := g_in (List.mem_of_getElem? (i := 1544) (by decide +kernel)) (by decide +kernel)
theorem kk_1543 : Cond.static yX11_isSmall ∈ gtbl := g_in (List.mem_of_getElem? (i := 1543) (by decide +kernel)) (by decide +kernel)
theorem ks_X11_212 : KS RX11 212 mX11_isSmall 1 := ⟨⟨kk_1542, kk_133, kk_1544, by decide +kernel⟩, rfl, kk_1543⟩
theorem kk_1545 : Cond.methodLink RX11 215 yX11_isDigit ∈ gtbl := g_in (List.mem_of_getElem? (i := 1545) (by decide +kernel)) (by decide +kernel)
theorem kk_1547 : Cond.code yX11_isDigit cX11_isDigit 1 (some .boolean) ∈ gtbl := g_in (List.mem_of_getElem? (i := 1547) (by decide +kernel)) (by decide +kernel)
theorem kk_1546 : Cond.static yX11_isDigit ∈ gtbl := g_in (List.mem_of_getElem? (i := 1546) (by decide +kernel)) (by decide +kernel)
theorem ks_X11_215 : KS RX11 215 mX11_isDigit 1 := ⟨⟨kk_1545, kk_133, kk_1547, by decide +kernel⟩, rfl, kk_1546⟩
abbrev mX11_endOf : MT := (yX11_endOf, cX11_endOf, 4, (some .int), [])
theorem kk_358 : Cond.methodLink RJ1 9 yJ0_checkIndex_df160 ∈ gtbl := g_in (List.mem_of_getElem? (i := 358) (by decide +kernel)) (by decide +kernel)
theorem kk_360 : Cond.code yJ0_checkIndex_df160 cJ0_checkIndex_df160 2 none ∈ gtbl := g_in (List.mem_of_getElem? (i := 360) (by decide +kernel)) (by decide +kernel)
theorem kk_359 : Cond.static yJ0_checkIndex_df160 ∈ gtbl := g_in (List.mem_of_getElem? (i := 359) (by decide +kernel)) (by decide +kernel)
theorem ks_J1_9 : KS RJ1 9 mJ0_checkIndex_df160 2 := ⟨⟨kk_358, kk_128, kk_360, by decide +kernel⟩, rfl, kk_359⟩
abbrev mJ1_charAt_3b067 : MT := (yJ1_charAt_3b067, cJ1_charAt_3b067, 2, (some .char), [])
theorem kk_355 : Cond.methodLink RJ0 495 yJ1_charAt_3b067 ∈ gtbl := g_in (List.mem_of_getElem? (i := 355) (by decide +kernel)) (by decide +kernel)
theorem kk_357 : Cond.code yJ1_charAt_3b067 cJ1_charAt_3b067 2 (some .char) ∈ gtbl := g_in (List.mem_of_getElem? (i := 357) (by decide +kernel)) (by decide +kernel)
theorem kk_356 : Cond.static yJ1_charAt_3b067 ∈ gtbl := g_in (List.mem_of_getElem? (i := 356) (by decide +kernel)) (by decide +kernel)
theorem ks_J0_495 : KS RJ0 495 mJ1_charAt_3b067 2 := ⟨⟨kk_355, kk_129, kk_357, by decide +kernel⟩, rfl, kk_356⟩
abbrev mJ0_charAt_5068e : MT := (yJ0_charAt_5068e, cJ0_charAt_5068e, 2, (some .char), [])
abbrev mX11_letter : MT := (yX11_letter, cX11_letter, 1, (some .int), [])
theorem kk_1569 : Cond.methodLink RX11 224 yJ0_length_8abf5 ∈ gtbl := g_in (List.mem_of_getElem? (i := 1569) (by decide +kernel)) (by decide +kernel)
theorem kv_X11_224 : KV RX11 224 mJ0_length_8abf5 0 := ⟨⟨kk_1569, kk_128, kk_340, by decide +kernel⟩, rfl, kk_338, kk_339⟩
theorem kk_1560 : Cond.constantLong RX11 229 (37) ∈ gtbl := g_in (List.mem_of_getElem? (i := 1560) (by decide +kernel)) (by decide +kernel)
theorem kk_1570 : Cond.methodLink RX11 231 yJ0_charAt_5068e ∈ gtbl := g_in (List.mem_of_getElem? (i := 1570) (by decide +kernel)) (by decide +kernel)
theorem kk_350 : Cond.code yJ0_charAt_5068e cJ0_charAt_5068e 2 (some .char) ∈ gtbl := g_in (List.mem_of_getElem? (i := 350) (by decide +kernel)) (by decide +kernel)
theorem kk_348 : Cond.instanceMethod yJ0_charAt_5068e ∈ gtbl := g_in (List.mem_of_getElem? (i := 348) (by decide +kernel)) (by decide +kernel)
theorem kk_349 : Cond.selects RJ0 yJ0_charAt_5068e yJ0_charAt_5068e ∈ gtbl := g_in (List.mem_of_getElem? (i := 349) (by decide +kernel)) (by decide +kernel)
theorem kv_X11_231 : KV RX11 231 mJ0_charAt_5068e 1 := ⟨⟨kk_1570, kk_128, kk_350, by decide +kernel⟩, rfl, kk_348, kk_349⟩
theorem kk_1561 : Cond.methodLink RX11 235 yX11_letter ∈ gtbl := g_in (List.mem_of_getElem? (i := 1561) (by decide +kernel)) (by decide +kernel)
theorem kk_1563 : Cond.code yX11_letter cX11_letter 1 (some .int) ∈ gtbl := g_in (List.mem_of_getElem? (i := 1563) (by decide +kernel)) (by decide +kernel)
theorem kk_1562 : Cond.static yX11_letter ∈ gtbl := g_in (List.mem_of_getElem? (i := 1562) (by decide +kernel)) (by decide +kernel)
theorem ks_X11_235 : KS RX11 235 mX11_letter 1 := ⟨⟨kk_1561, kk_133, kk_1563, by decide +kernel⟩, rfl, kk_1562⟩
abbrev mX11_nameOf : MT := (yX11_nameOf, cX11_nameOf, 4, (some .long), [])
theorem kk_1564 : Cond.fieldLink RX11 238 "StoryTapestryModel" "WORDS" "[Ljava/lang/String;" ∈ gtbl := g_in (List.mem_of_getElem? (i := 1564) (by decide +kernel)) (by decide +kernel)
theorem kk_1566 : Cond.methodLink RX11 242 yX11_nameOf ∈ gtbl := g_in (List.mem_of_getElem? (i := 1566) (by decide +kernel)) (by decide +kernel)
theorem kk_1568 : Cond.code yX11_nameOf cX11_nameOf 4 (some .long) ∈ gtbl := g_in (List.mem_of_getElem? (i := 1568) (by decide +kernel)) (by decide +kernel)
theorem kk_1567 : Cond.static yX11_nameOf ∈ gtbl := g_in (List.mem_of_getElem? (i := 1567) (by decide +kernel)) (by decide +kernel)
theorem ks_X11_242 : KS RX11 242 mX11_nameOf 1 := ⟨⟨kk_1566, kk_133, kk_1568, by decide +kernel⟩, rfl, kk_1567⟩
abbrev mX11_wordAt : MT := (yX11_wordAt, cX11_wordAt, 7, (some .int), [])
abbrev mX11_numberAt : MT := (yX11_numberAt, cX11_numberAt, 6, (some .int), [])
theorem kk_1556 : Cond.methodLink RX11 221 yX11_wordAt ∈ gtbl := g_in (List.mem_of_getElem? (i := 1556) (by decide +kernel)) (by decide +kernel)
theorem kk_1559 : Cond.code yX11_wordAt cX11_wordAt 7 (some .int) ∈ gtbl := g_in (List.mem_of_getElem? (i := 1559) (by decide +kernel)) (by decide +kernel)
theorem kk_1558 : Cond.instanceMethod yX11_wordAt ∈ gtbl := g_in (List.mem_of_getElem? (i := 1558) (by decide +kernel)) (by decide +kernel)
theorem kk_61 : Cond.selects RX11 yX11_wordAt yX11_wordAt ∈ gtbl := g_in (List.mem_of_getElem? (i := 61) (by decide +kernel)) (by decide +kernel)
theorem kv_X11_221 : KV RX11 221 mX11_wordAt 3 := ⟨⟨kk_1556, kk_133, kk_1559, by decide +kernel⟩, rfl, kk_1558, kk_61⟩
theorem kk_1552 : Cond.methodLink RX11 218 yX11_numberAt ∈ gtbl := g_in (List.mem_of_getElem? (i := 1552) (by decide +kernel)) (by decide +kernel)
theorem kk_1555 : Cond.code yX11_numberAt cX11_numberAt 6 (some .int) ∈ gtbl := g_in (List.mem_of_getElem? (i := 1555) (by decide +kernel)) (by decide +kernel)
theorem kk_1554 : Cond.instanceMethod yX11_numberAt ∈ gtbl := g_in (List.mem_of_getElem? (i := 1554) (by decide +kernel)) (by decide +kernel)
theorem kk_60 : Cond.selects RX11 yX11_numberAt yX11_numberAt ∈ gtbl := g_in (List.mem_of_getElem? (i := 60) (by decide +kernel)) (by decide +kernel)
theorem kv_X11_218 : KV RX11 218 mX11_numberAt 3 := ⟨⟨kk_1552, kk_133, kk_1555, by decide +kernel⟩, rfl, kk_1554, kk_60⟩
abbrev mX11_kindOf : MT := (yX11_kindOf, cX11_kindOf, 5, (some .int), [])
theorem kk_1538 : Cond.methodLink RX11 246 yX11_endOf ∈ gtbl := g_in (List.mem_of_getElem? (i := 1538) (by decide +kernel)) (by decide +kernel)
theorem kk_1541 : Cond.code yX11_endOf cX11_endOf 4 (some .int) ∈ gtbl := g_in (List.mem_of_getElem? (i := 1541) (by decide +kernel)) (by decide +kernel)
theorem kk_1540 : Cond.instanceMethod yX11_endOf ∈ gtbl := g_in (List.mem_of_getElem? (i := 1540) (by decide +kernel)) (by decide +kernel)
theorem kk_58 : Cond.selects RX11 yX11_endOf yX11_endOf ∈ gtbl := g_in (List.mem_of_getElem? (i := 58) (by decide +kernel)) (by decide +kernel)
theorem kv_X11_246 : KV RX11 246 mX11_endOf 1 := ⟨⟨kk_1538, kk_133, kk_1541, by decide +kernel⟩, rfl, kk_1540, kk_58⟩
theorem kk_1439 : Cond.fieldLink RX11 27 RX11 "from" "[I" ∈ gtbl := g_in (List.mem_of_getElem? (i := 1439) (by decide +kernel)) (by decide +kernel)
theorem fl_X11_27 : FL RX11 27 11 6 (.array .int) true := ⟨RX11, TX11, 23, tyX11, rfl, by decide, il_11, tyX11_ok, nmX11, rfl, rfl, Or.inl kk_1439⟩
theorem kk_1548 : Cond.methodLink RX11 249 yX11_kindOf ∈ gtbl := g_in (List.mem_of_getElem? (i := 1548) (by decide +kernel)) (by decide +kernel)
theorem kk_1551 : Cond.code yX11_kindOf cX11_kindOf 5 (some .int) ∈ gtbl := g_in (List.mem_of_getElem? (i := 1551) (by decide +kernel)) (by decide +kernel)
theorem kk_1550 : Cond.instanceMethod yX11_kindOf ∈ gtbl := g_in (List.mem_of_getElem? (i := 1550) (by decide +kernel)) (by decide +kernel)
theorem kk_59 : Cond.selects RX11 yX11_kindOf yX11_kindOf ∈ gtbl := g_in (List.mem_of_getElem? (i := 59) (by decide +kernel)) (by decide +kernel)
theorem kv_X11_249 : KV RX11 249 mX11_kindOf 3 := ⟨⟨kk_1548, kk_133, kk_1551, by decide +kernel⟩, rfl, kk_1550, kk_59⟩
abbrev mX11_cutIntoTokens : MT := (yX11_cutIntoTokens, cX11_cutIntoTokens, 4, none, [])
abbrev mX11_isTold : MT := (yX11_isTold, cX11_isTold, 1, (some .boolean), [])
theorem kk_1445 : Cond.fieldLink RX11 307 RX11 "ordersRead" "I" ∈ gtbl := g_in (List.mem_of_getElem? (i := 1445) (by decide +kernel)) (by decide +kernel)
theorem fl_X11_307 : FL RX11 307 11 12 (.int) false := ⟨RX11, TX11, 23, tyX11, rfl, by decide, il_11, tyX11_ok, nmX11, rfl, rfl, Or.inl kk_1445⟩
abbrev mX11_isOrder : MT := (yX11_isOrder, cX11_isOrder, 3, (some .boolean), [])
theorem kk_1591 : Cond.methodLink RX11 314 yX11_isOrder ∈ gtbl := g_in (List.mem_of_getElem? (i := 1591) (by decide +kernel)) (by decide +kernel)
theorem kk_1594 : Cond.code yX11_isOrder cX11_isOrder 3 (some .boolean) ∈ gtbl := g_in (List.mem_of_getElem? (i := 1594) (by decide +kernel)) (by decide +kernel)
theorem kk_1593 : Cond.instanceMethod yX11_isOrder ∈ gtbl := g_in (List.mem_of_getElem? (i := 1593) (by decide +kernel)) (by decide +kernel)
theorem kk_67 : Cond.selects RX11 yX11_isOrder yX11_isOrder ∈ gtbl := g_in (List.mem_of_getElem? (i := 67) (by decide +kernel)) (by decide +kernel)
theorem kv_X11_314 : KV RX11 314 mX11_isOrder 1 := ⟨⟨kk_1591, kk_133, kk_1594, by decide +kernel⟩, rfl, kk_1593, kk_67⟩
theorem kk_1587 : Cond.methodLink RX11 310 yX11_isTold ∈ gtbl := g_in (List.mem_of_getElem? (i := 1587) (by decide +kernel)) (by decide +kernel)
theorem kk_1590 : Cond.code yX11_isTold cX11_isTold 1 (some .boolean) ∈ gtbl := g_in (List.mem_of_getElem? (i := 1590) (by decide +kernel)) (by decide +kernel)
theorem kk_1589 : Cond.instanceMethod yX11_isTold ∈ gtbl := g_in (List.mem_of_getElem? (i := 1589) (by decide +kernel)) (by decide +kernel)
theorem kk_66 : Cond.selects RX11 yX11_isTold yX11_isTold ∈ gtbl := g_in (List.mem_of_getElem? (i := 66) (by decide +kernel)) (by decide +kernel)
theorem kv_X11_310 : KV RX11 310 mX11_isTold 0 := ⟨⟨kk_1587, kk_133, kk_1590, by decide +kernel⟩, rfl, kk_1589, kk_66⟩
abbrev mX11_isLine : MT := (yX11_isLine, cX11_isLine, 3, (some .boolean), [])
theorem kk_1575 : Cond.methodLink RX11 317 yX11_isLine ∈ gtbl := g_in (List.mem_of_getElem? (i := 1575) (by decide +kernel)) (by decide +kernel)
theorem kk_1578 : Cond.code yX11_isLine cX11_isLine 3 (some .boolean) ∈ gtbl := g_in (List.mem_of_getElem? (i := 1578) (by decide +kernel)) (by decide +kernel)
theorem kk_1577 : Cond.instanceMethod yX11_isLine ∈ gtbl := g_in (List.mem_of_getElem? (i := 1577) (by decide +kernel)) (by decide +kernel)
theorem kk_63 : Cond.selects RX11 yX11_isLine yX11_isLine ∈ gtbl := g_in (List.mem_of_getElem? (i := 63) (by decide +kernel)) (by decide +kernel)
theorem kv_X11_317 : KV RX11 317 mX11_isLine 1 := ⟨⟨kk_1575, kk_133, kk_1578, by decide +kernel⟩, rfl, kk_1577, kk_63⟩
abbrev mX11_isBook : MT := (yX11_isBook, cX11_isBook, 2, (some .boolean), [])
abbrev mX11_find : MT := (yX11_find, cX11_find, 5, (some .int), [])
theorem kn_1363 : Cond.fieldLinkNest RX11 320 RX10 "event" "[J" "StoryTapestryModel" ∈ gnest := n_in (List.mem_of_getElem? (i := 1363) (by decide +kernel)) (by decide +kernel)
theorem fl_X11_320 : FL RX11 320 10 1 (.array .long) true := ⟨RX10, TX10, 19, tyX10, rfl, by decide, il_10, tyX10_ok, nmX10, rfl, rfl, Or.inr ⟨_, kn_1363⟩⟩
theorem kk_1652 : Cond.methodLink RX11 323 yX11_find ∈ gtbl := g_in (List.mem_of_getElem? (i := 1652) (by decide +kernel)) (by decide +kernel)
theorem kk_1654 : Cond.code yX11_find cX11_find 5 (some .int) ∈ gtbl := g_in (List.mem_of_getElem? (i := 1654) (by decide +kernel)) (by decide +kernel)
theorem kk_1653 : Cond.static yX11_find ∈ gtbl := g_in (List.mem_of_getElem? (i := 1653) (by decide +kernel)) (by decide +kernel)
theorem ks_X11_323 : KS RX11 323 mX11_find 3 := ⟨⟨kk_1652, kk_133, kk_1654, by decide +kernel⟩, rfl, kk_1653⟩
abbrev mX11_newEvent : MT := (yX11_newEvent, cX11_newEvent, 4, (some .int), [])
theorem kn_1366 : Cond.fieldLinkNest RX11 327 RX10 "teller" "[J" "StoryTapestryModel" ∈ gnest := n_in (List.mem_of_getElem? (i := 1366) (by decide +kernel)) (by decide +kernel)
theorem fl_X11_327 : FL RX11 327 10 3 (.array .long) true := ⟨RX10, TX10, 19, tyX10, rfl, by decide, il_10, tyX10_ok, nmX10, rfl, rfl, Or.inr ⟨_, kn_1366⟩⟩
abbrev mX11_newTeller : MT := (yX11_newTeller, cX11_newTeller, 4, (some .int), [])
theorem kk_1442 : Cond.fieldLink RX11 37 RX11 "who" "[I" ∈ gtbl := g_in (List.mem_of_getElem? (i := 1442) (by decide +kernel)) (by decide +kernel)
theorem fl_X11_37 : FL RX11 37 11 9 (.array .int) true := ⟨RX11, TX11, 23, tyX11, rfl, by decide, il_11, tyX11_ok, nmX11, rfl, rfl, Or.inl kk_1442⟩
abbrev mX11_anEvent : MT := (yX11_anEvent, cX11_anEvent, 3, (some .int), [])
abbrev mX11_aTeller : MT := (yX11_aTeller, cX11_aTeller, 3, (some .int), [])
abbrev mX11_newClaim : MT := (yX11_newClaim, cX11_newClaim, 2, (some .int), [])
abbrev mX11_newOrder : MT := (yX11_newOrder, cX11_newOrder, 2, (some .int), [])
theorem kk_1671 : Cond.methodLink RX11 334 yX11_anEvent ∈ gtbl := g_in (List.mem_of_getElem? (i := 1671) (by decide +kernel)) (by decide +kernel)
theorem kk_1674 : Cond.code yX11_anEvent cX11_anEvent 3 (some .int) ∈ gtbl := g_in (List.mem_of_getElem? (i := 1674) (by decide +kernel)) (by decide +kernel)
theorem kk_1673 : Cond.instanceMethod yX11_anEvent ∈ gtbl := g_in (List.mem_of_getElem? (i := 1673) (by decide +kernel)) (by decide +kernel)
theorem kk_86 : Cond.selects RX11 yX11_anEvent yX11_anEvent ∈ gtbl := g_in (List.mem_of_getElem? (i := 86) (by decide +kernel)) (by decide +kernel)
theorem kv_X11_334 : KV RX11 334 mX11_anEvent 2 := ⟨⟨kk_1671, kk_133, kk_1674, by decide +kernel⟩, rfl, kk_1673, kk_86⟩
theorem kk_1667 : Cond.methodLink RX11 330 yX11_aTeller ∈ gtbl := g_in (List.mem_of_getElem? (i := 1667) (by decide +kernel)) (by decide +kernel)
theorem kk_1670 : Cond.code yX11_aTeller cX11_aTeller 3 (some .int) ∈ gtbl := g_in (List.mem_of_getElem? (i := 1670) (by decide +kernel)) (by decide +kernel)
theorem kk_1669 : Cond.instanceMethod yX11_aTeller ∈ gtbl := g_in (List.mem_of_getElem? (i := 1669) (by decide +kernel)) (by decide +kernel)
theorem kk_85 : Cond.selects RX11 yX11_aTeller yX11_aTeller ∈ gtbl := g_in (List.mem_of_getElem? (i := 85) (by decide +kernel)) (by decide +kernel)
theorem kv_X11_330 : KV RX11 330 mX11_aTeller 2 := ⟨⟨kk_1667, kk_133, kk_1670, by decide +kernel⟩, rfl, kk_1669, kk_85⟩
abbrev mX11_ofClaim : MT := (yX11_ofClaim, cX11_ofClaim, 6, (some .int), [])
theorem kk_1648 : Cond.methodLink RX11 337 yX11_newEvent ∈ gtbl := g_in (List.mem_of_getElem? (i := 1648) (by decide +kernel)) (by decide +kernel)
theorem kk_1651 : Cond.code yX11_newEvent cX11_newEvent 4 (some .int) ∈ gtbl := g_in (List.mem_of_getElem? (i := 1651) (by decide +kernel)) (by decide +kernel)
theorem kk_1650 : Cond.instanceMethod yX11_newEvent ∈ gtbl := g_in (List.mem_of_getElem? (i := 1650) (by decide +kernel)) (by decide +kernel)
theorem kk_81 : Cond.selects RX11 yX11_newEvent yX11_newEvent ∈ gtbl := g_in (List.mem_of_getElem? (i := 81) (by decide +kernel)) (by decide +kernel)
theorem kv_X11_337 : KV RX11 337 mX11_newEvent 2 := ⟨⟨kk_1648, kk_133, kk_1651, by decide +kernel⟩, rfl, kk_1650, kk_81⟩
theorem kk_1655 : Cond.methodLink RX11 341 yX11_newTeller ∈ gtbl := g_in (List.mem_of_getElem? (i := 1655) (by decide +kernel)) (by decide +kernel)
theorem kk_1658 : Cond.code yX11_newTeller cX11_newTeller 4 (some .int) ∈ gtbl := g_in (List.mem_of_getElem? (i := 1658) (by decide +kernel)) (by decide +kernel)
theorem kk_1657 : Cond.instanceMethod yX11_newTeller ∈ gtbl := g_in (List.mem_of_getElem? (i := 1657) (by decide +kernel)) (by decide +kernel)
theorem kk_82 : Cond.selects RX11 yX11_newTeller yX11_newTeller ∈ gtbl := g_in (List.mem_of_getElem? (i := 82) (by decide +kernel)) (by decide +kernel)
theorem kv_X11_341 : KV RX11 341 mX11_newTeller 2 := ⟨⟨kk_1655, kk_133, kk_1658, by decide +kernel⟩, rfl, kk_1657, kk_82⟩
theorem kk_1659 : Cond.methodLink RX11 344 yX11_newClaim ∈ gtbl := g_in (List.mem_of_getElem? (i := 1659) (by decide +kernel)) (by decide +kernel)
theorem kk_1662 : Cond.code yX11_newClaim cX11_newClaim 2 (some .int) ∈ gtbl := g_in (List.mem_of_getElem? (i := 1662) (by decide +kernel)) (by decide +kernel)
theorem kk_1661 : Cond.instanceMethod yX11_newClaim ∈ gtbl := g_in (List.mem_of_getElem? (i := 1661) (by decide +kernel)) (by decide +kernel)
theorem kk_83 : Cond.selects RX11 yX11_newClaim yX11_newClaim ∈ gtbl := g_in (List.mem_of_getElem? (i := 83) (by decide +kernel)) (by decide +kernel)
theorem kv_X11_344 : KV RX11 344 mX11_newClaim 1 := ⟨⟨kk_1659, kk_133, kk_1662, by decide +kernel⟩, rfl, kk_1661, kk_83⟩
theorem kk_1675 : Cond.methodLink RX11 351 yX11_ofClaim ∈ gtbl := g_in (List.mem_of_getElem? (i := 1675) (by decide +kernel)) (by decide +kernel)
theorem kk_1678 : Cond.code yX11_ofClaim cX11_ofClaim 6 (some .int) ∈ gtbl := g_in (List.mem_of_getElem? (i := 1678) (by decide +kernel)) (by decide +kernel)
theorem kk_1677 : Cond.instanceMethod yX11_ofClaim ∈ gtbl := g_in (List.mem_of_getElem? (i := 1677) (by decide +kernel)) (by decide +kernel)
theorem kk_87 : Cond.selects RX11 yX11_ofClaim yX11_ofClaim ∈ gtbl := g_in (List.mem_of_getElem? (i := 87) (by decide +kernel)) (by decide +kernel)
theorem kv_X11_351 : KV RX11 351 mX11_ofClaim 2 := ⟨⟨kk_1675, kk_133, kk_1678, by decide +kernel⟩, rfl, kk_1677, kk_87⟩
theorem kk_1663 : Cond.methodLink RX11 348 yX11_newOrder ∈ gtbl := g_in (List.mem_of_getElem? (i := 1663) (by decide +kernel)) (by decide +kernel)
theorem kk_1666 : Cond.code yX11_newOrder cX11_newOrder 2 (some .int) ∈ gtbl := g_in (List.mem_of_getElem? (i := 1666) (by decide +kernel)) (by decide +kernel)
theorem kk_1665 : Cond.instanceMethod yX11_newOrder ∈ gtbl := g_in (List.mem_of_getElem? (i := 1665) (by decide +kernel)) (by decide +kernel)
theorem kk_84 : Cond.selects RX11 yX11_newOrder yX11_newOrder ∈ gtbl := g_in (List.mem_of_getElem? (i := 84) (by decide +kernel)) (by decide +kernel)
theorem kv_X11_348 : KV RX11 348 mX11_newOrder 1 := ⟨⟨kk_1663, kk_133, kk_1666, by decide +kernel⟩, rfl, kk_1665, kk_84⟩
abbrev mX11_errorOf : MT := (yX11_errorOf, cX11_errorOf, 4, (some .int), [])
abbrev mX11_settle : MT := (yX11_settle, cX11_settle, 4, none, [])
theorem kk_1530 : Cond.methodLink RX11 354 yX11_cutIntoTokens ∈ gtbl := g_in (List.mem_of_getElem? (i := 1530) (by decide +kernel)) (by decide +kernel)
theorem kk_1533 : Cond.code yX11_cutIntoTokens cX11_cutIntoTokens 4 none ∈ gtbl := g_in (List.mem_of_getElem? (i := 1533) (by decide +kernel)) (by decide +kernel)
theorem kk_1532 : Cond.instanceMethod yX11_cutIntoTokens ∈ gtbl := g_in (List.mem_of_getElem? (i := 1532) (by decide +kernel)) (by decide +kernel)
theorem kk_56 : Cond.selects RX11 yX11_cutIntoTokens yX11_cutIntoTokens ∈ gtbl := g_in (List.mem_of_getElem? (i := 56) (by decide +kernel)) (by decide +kernel)
theorem kv_X11_354 : KV RX11 354 mX11_cutIntoTokens 0 := ⟨⟨kk_1530, kk_133, kk_1533, by decide +kernel⟩, rfl, kk_1532, kk_56⟩
theorem kk_1571 : Cond.methodLink RX11 357 yX11_isBook ∈ gtbl := g_in (List.mem_of_getElem? (i := 1571) (by decide +kernel)) (by decide +kernel)
theorem kk_1574 : Cond.code yX11_isBook cX11_isBook 2 (some .boolean) ∈ gtbl := g_in (List.mem_of_getElem? (i := 1574) (by decide +kernel)) (by decide +kernel)
theorem kk_1573 : Cond.instanceMethod yX11_isBook ∈ gtbl := g_in (List.mem_of_getElem? (i := 1573) (by decide +kernel)) (by decide +kernel)
theorem kk_62 : Cond.selects RX11 yX11_isBook yX11_isBook ∈ gtbl := g_in (List.mem_of_getElem? (i := 62) (by decide +kernel)) (by decide +kernel)
theorem kv_X11_357 : KV RX11 357 mX11_isBook 1 := ⟨⟨kk_1571, kk_133, kk_1574, by decide +kernel⟩, rfl, kk_1573, kk_62⟩
theorem kk_1679 : Cond.methodLink RX11 363 yX11_settle ∈ gtbl := g_in (List.mem_of_getElem? (i := 1679) (by decide +kernel)) (by decide +kernel)
theorem kk_1682 : Cond.code yX11_settle cX11_settle 4 none ∈ gtbl := g_in (List.mem_of_getElem? (i := 1682) (by decide +kernel)) (by decide +kernel)
theorem kk_1681 : Cond.instanceMethod yX11_settle ∈ gtbl := g_in (List.mem_of_getElem? (i := 1681) (by decide +kernel)) (by decide +kernel)
theorem kk_88 : Cond.selects RX11 yX11_settle yX11_settle ∈ gtbl := g_in (List.mem_of_getElem? (i := 88) (by decide +kernel)) (by decide +kernel)
theorem kv_X11_363 : KV RX11 363 mX11_settle 1 := ⟨⟨kk_1679, kk_133, kk_1682, by decide +kernel⟩, rfl, kk_1681, kk_88⟩
theorem kk_1644 : Cond.methodLink RX11 360 yX11_errorOf ∈ gtbl := g_in (List.mem_of_getElem? (i := 1644) (by decide +kernel)) (by decide +kernel)
theorem kk_1647 : Cond.code yX11_errorOf cX11_errorOf 4 (some .int) ∈ gtbl := g_in (List.mem_of_getElem? (i := 1647) (by decide +kernel)) (by decide +kernel)
theorem kk_1646 : Cond.instanceMethod yX11_errorOf ∈ gtbl := g_in (List.mem_of_getElem? (i := 1646) (by decide +kernel)) (by decide +kernel)
theorem kk_80 : Cond.selects RX11 yX11_errorOf yX11_errorOf ∈ gtbl := g_in (List.mem_of_getElem? (i := 80) (by decide +kernel)) (by decide +kernel)
theorem kv_X11_360 : KV RX11 360 mX11_errorOf 2 := ⟨⟨kk_1644, kk_133, kk_1647, by decide +kernel⟩, rfl, kk_1646, kk_80⟩
theorem kk_1436 : Cond.fieldLink RX11 13 RX11 "errorAt" "I" ∈ gtbl := g_in (List.mem_of_getElem? (i := 1436) (by decide +kernel)) (by decide +kernel)
theorem fl_X11_13 : FL RX11 13 11 3 (.int) false := ⟨RX11, TX11, 23, tyX11, rfl, by decide, il_11, tyX11_ok, nmX11, rfl, rfl, Or.inl kk_1436⟩
abbrev mX11_read : MT := (yX11_read, cX11_read, 4, (some .int), [])
theorem kk_162 : Cond.arrayClass .int ∈ gtbl := g_in (List.mem_of_getElem? (i := 162) (by decide +kernel)) (by decide +kernel)
theorem kk_1511 : Cond.methodLink RX11 367 yX11_no ∈ gtbl := g_in (List.mem_of_getElem? (i := 1511) (by decide +kernel)) (by decide +kernel)
theorem kk_1514 : Cond.code yX11_no cX11_no 2 (some .int) ∈ gtbl := g_in (List.mem_of_getElem? (i := 1514) (by decide +kernel)) (by decide +kernel)
theorem kk_1513 : Cond.instanceMethod yX11_no ∈ gtbl := g_in (List.mem_of_getElem? (i := 1513) (by decide +kernel)) (by decide +kernel)
theorem kk_54 : Cond.selects RX11 yX11_no yX11_no ∈ gtbl := g_in (List.mem_of_getElem? (i := 54) (by decide +kernel)) (by decide +kernel)
theorem kv_X11_367 : KV RX11 367 mX11_no 1 := ⟨⟨kk_1511, kk_133, kk_1514, by decide +kernel⟩, rfl, kk_1513, kk_54⟩
abbrev mX11_feed : MT := (yX11_feed, cX11_feed, 8, (some .int), [])
abbrev mX11_trim : MT := (yX11_trim, cX11_trim, 2, (some .int), [])
theorem kk_1695 : Cond.methodLink RX11 376 yX11_ok ∈ gtbl := g_in (List.mem_of_getElem? (i := 1695) (by decide +kernel)) (by decide +kernel)
theorem kk_1698 : Cond.code yX11_ok cX11_ok 2 (some .int) ∈ gtbl := g_in (List.mem_of_getElem? (i := 1698) (by decide +kernel)) (by decide +kernel)
theorem kk_1697 : Cond.instanceMethod yX11_ok ∈ gtbl := g_in (List.mem_of_getElem? (i := 1697) (by decide +kernel)) (by decide +kernel)
theorem kk_91 : Cond.selects RX11 yX11_ok yX11_ok ∈ gtbl := g_in (List.mem_of_getElem? (i := 91) (by decide +kernel)) (by decide +kernel)
theorem kv_X11_376 : KV RX11 376 mX11_ok 1 := ⟨⟨kk_1695, kk_133, kk_1698, by decide +kernel⟩, rfl, kk_1697, kk_91⟩
abbrev mX11_errorAt : MT := (yX11_errorAt, cX11_errorAt, 1, (some .int), [])
abbrev mX11_events : MT := (yX11_events, cX11_events, 1, (some .int), [])
abbrev mX11_tellers : MT := (yX11_tellers, cX11_tellers, 1, (some .int), [])
abbrev mX11_claims : MT := (yX11_claims, cX11_claims, 1, (some .int), [])
abbrev mX11_evenings : MT := (yX11_evenings, cX11_evenings, 1, (some .int), [])
abbrev mX11_ordersCarriedOut : MT := (yX11_ordersCarriedOut, cX11_ordersCarriedOut, 1, (some .int), [])
theorem kk_1723 : Cond.methodLink RX11 379 yX11_isClaim ∈ gtbl := g_in (List.mem_of_getElem? (i := 1723) (by decide +kernel)) (by decide +kernel)
theorem kk_1726 : Cond.code yX11_isClaim cX11_isClaim 2 (some .boolean) ∈ gtbl := g_in (List.mem_of_getElem? (i := 1726) (by decide +kernel)) (by decide +kernel)
theorem kk_1725 : Cond.instanceMethod yX11_isClaim ∈ gtbl := g_in (List.mem_of_getElem? (i := 1725) (by decide +kernel)) (by decide +kernel)
theorem kk_92 : Cond.selects RX11 yX11_isClaim yX11_isClaim ∈ gtbl := g_in (List.mem_of_getElem? (i := 92) (by decide +kernel)) (by decide +kernel)
theorem kv_X11_379 : KV RX11 379 mX11_isClaim 1 := ⟨⟨kk_1723, kk_133, kk_1726, by decide +kernel⟩, rfl, kk_1725, kk_92⟩
abbrev mX11_tellerOf : MT := (yX11_tellerOf, cX11_tellerOf, 2, (some .int), [])
abbrev mX11_kindOf_ : MT := (yX11_kindOf_, cX11_kindOf_, 2, (some .int), [])
abbrev mX11_eventOf : MT := (yX11_eventOf, cX11_eventOf, 2, (some .int), [])
abbrev mX11_secondEventOf : MT := (yX11_secondEventOf, cX11_secondEventOf, 2, (some .int), [])
abbrev mX11_firstHourOf : MT := (yX11_firstHourOf, cX11_firstHourOf, 2, (some .int), [])
abbrev mX11_lastHourOf : MT := (yX11_lastHourOf, cX11_lastHourOf, 2, (some .int), [])
theorem kk_1751 : Cond.methodLink RX11 382 yX11_isNot ∈ gtbl := g_in (List.mem_of_getElem? (i := 1751) (by decide +kernel)) (by decide +kernel)
theorem kk_1754 : Cond.code yX11_isNot cX11_isNot 2 (some .boolean) ∈ gtbl := g_in (List.mem_of_getElem? (i := 1754) (by decide +kernel)) (by decide +kernel)
theorem kk_1753 : Cond.instanceMethod yX11_isNot ∈ gtbl := g_in (List.mem_of_getElem? (i := 1753) (by decide +kernel)) (by decide +kernel)
theorem kk_93 : Cond.selects RX11 yX11_isNot yX11_isNot ∈ gtbl := g_in (List.mem_of_getElem? (i := 93) (by decide +kernel)) (by decide +kernel)
theorem kv_X11_382 : KV RX11 382 mX11_isNot 1 := ⟨⟨kk_1751, kk_133, kk_1754, by decide +kernel⟩, rfl, kk_1753, kk_93⟩
abbrev mX11_areContrary : MT := (yX11_areContrary, cX11_areContrary, 3, (some .boolean), [])
theorem kk_1759 : Cond.methodLink RX11 385 yX11_isTeller ∈ gtbl := g_in (List.mem_of_getElem? (i := 1759) (by decide +kernel)) (by decide +kernel)
theorem kk_1762 : Cond.code yX11_isTeller cX11_isTeller 2 (some .boolean) ∈ gtbl := g_in (List.mem_of_getElem? (i := 1762) (by decide +kernel)) (by decide +kernel)
theorem kk_1761 : Cond.instanceMethod yX11_isTeller ∈ gtbl := g_in (List.mem_of_getElem? (i := 1761) (by decide +kernel)) (by decide +kernel)
theorem kk_94 : Cond.selects RX11 yX11_isTeller yX11_isTeller ∈ gtbl := g_in (List.mem_of_getElem? (i := 94) (by decide +kernel)) (by decide +kernel)
theorem kv_X11_385 : KV RX11 385 mX11_isTeller 1 := ⟨⟨kk_1759, kk_133, kk_1762, by decide +kernel⟩, rfl, kk_1761, kk_94⟩
abbrev mX11_claimsOf : MT := (yX11_claimsOf, cX11_claimsOf, 2, (some .int), [])
abbrev mX11_isDoubted : MT := (yX11_isDoubted, cX11_isDoubted, 2, (some .boolean), [])
abbrev mX11_doContradict : MT := (yX11_doContradict, cX11_doContradict, 3, (some .boolean), [])
theorem kk_1786 : Cond.methodLink RX11 388 yX11_pairs ∈ gtbl := g_in (List.mem_of_getElem? (i := 1786) (by decide +kernel)) (by decide +kernel)
theorem kk_1789 : Cond.code yX11_pairs cX11_pairs 6 (some .int) ∈ gtbl := g_in (List.mem_of_getElem? (i := 1789) (by decide +kernel)) (by decide +kernel)
theorem kk_1788 : Cond.instanceMethod yX11_pairs ∈ gtbl := g_in (List.mem_of_getElem? (i := 1788) (by decide +kernel)) (by decide +kernel)
theorem kk_97 : Cond.selects RX11 yX11_pairs yX11_pairs ∈ gtbl := g_in (List.mem_of_getElem? (i := 97) (by decide +kernel)) (by decide +kernel)
theorem kv_X11_388 : KV RX11 388 mX11_pairs 2 := ⟨⟨kk_1786, kk_133, kk_1789, by decide +kernel⟩, rfl, kk_1788, kk_97⟩
abbrev mX11_contraryPairs : MT := (yX11_contraryPairs, cX11_contraryPairs, 3, (some .int), [])
abbrev mX11_contradictions : MT := (yX11_contradictions, cX11_contradictions, 1, (some .int), [])
abbrev mX11_liars : MT := (yX11_liars, cX11_liars, 1, (some .int), [])
abbrev mX11_smallestSets : MT := (yX11_smallestSets, cX11_smallestSets, 1, (some .int), [])
abbrev mX11_isLiar : MT := (yX11_isLiar, cX11_isLiar, 2, (some .boolean), [])
theorem kk_1838 : Cond.methodLink RX11 391 yX11_isEvent ∈ gtbl := g_in (List.mem_of_getElem? (i := 1838) (by decide +kernel)) (by decide +kernel)
theorem kk_1841 : Cond.code yX11_isEvent cX11_isEvent 2 (some .boolean) ∈ gtbl := g_in (List.mem_of_getElem? (i := 1841) (by decide +kernel)) (by decide +kernel)
theorem kk_1840 : Cond.instanceMethod yX11_isEvent ∈ gtbl := g_in (List.mem_of_getElem? (i := 1840) (by decide +kernel)) (by decide +kernel)
theorem kk_104 : Cond.selects RX11 yX11_isEvent yX11_isEvent ∈ gtbl := g_in (List.mem_of_getElem? (i := 104) (by decide +kernel)) (by decide +kernel)
theorem kv_X11_391 : KV RX11 391 mX11_isEvent 1 := ⟨⟨kk_1838, kk_133, kk_1841, by decide +kernel⟩, rfl, kk_1840, kk_104⟩
abbrev mX11_isAgreed : MT := (yX11_isAgreed, cX11_isAgreed, 2, (some .boolean), [])
abbrev mX11_windowFrom : MT := (yX11_windowFrom, cX11_windowFrom, 2, (some .int), [])
abbrev mX11_windowTo : MT := (yX11_windowTo, cX11_windowTo, 2, (some .int), [])
theorem kk_1867 : Cond.methodLink RX11 394 yX11_isOrdered ∈ gtbl := g_in (List.mem_of_getElem? (i := 1867) (by decide +kernel)) (by decide +kernel)
theorem kk_1870 : Cond.code yX11_isOrdered cX11_isOrdered 4 (some .boolean) ∈ gtbl := g_in (List.mem_of_getElem? (i := 1870) (by decide +kernel)) (by decide +kernel)
theorem kk_1869 : Cond.instanceMethod yX11_isOrdered ∈ gtbl := g_in (List.mem_of_getElem? (i := 1869) (by decide +kernel)) (by decide +kernel)
theorem kk_108 : Cond.selects RX11 yX11_isOrdered yX11_isOrdered ∈ gtbl := g_in (List.mem_of_getElem? (i := 108) (by decide +kernel)) (by decide +kernel)
theorem kv_X11_394 : KV RX11 394 mX11_isOrdered 0 := ⟨⟨kk_1867, kk_133, kk_1870, by decide +kernel⟩, rfl, kk_1869, kk_108⟩
abbrev mX11_hasOrder : MT := (yX11_hasOrder, cX11_hasOrder, 1, (some .boolean), [])
abbrev mX11_eventAt : MT := (yX11_eventAt, cX11_eventAt, 2, (some .int), [])
theorem kk_1683 : Cond.methodLink RX11 373 yX11_weave ∈ gtbl := g_in (List.mem_of_getElem? (i := 1683) (by decide +kernel)) (by decide +kernel)
theorem kk_1686 : Cond.code yX11_weave cX11_weave 3 none ∈ gtbl := g_in (List.mem_of_getElem? (i := 1686) (by decide +kernel)) (by decide +kernel)
theorem kk_1685 : Cond.instanceMethod yX11_weave ∈ gtbl := g_in (List.mem_of_getElem? (i := 1685) (by decide +kernel)) (by decide +kernel)
theorem kk_89 : Cond.selects RX11 yX11_weave yX11_weave ∈ gtbl := g_in (List.mem_of_getElem? (i := 89) (by decide +kernel)) (by decide +kernel)
theorem kv_X11_373 : KV RX11 373 mX11_weave 0 := ⟨⟨kk_1683, kk_133, kk_1686, by decide +kernel⟩, rfl, kk_1685, kk_89⟩
abbrev mX11_claim : MT := (yX11_claim, cX11_claim, 7, (some .int), [])
theorem kk_1887 : Cond.methodLink RX11 397 yX11_claim ∈ gtbl := g_in (List.mem_of_getElem? (i := 1887) (by decide +kernel)) (by decide +kernel)
theorem kk_1890 : Cond.code yX11_claim cX11_claim 7 (some .int) ∈ gtbl := g_in (List.mem_of_getElem? (i := 1890) (by decide +kernel)) (by decide +kernel)
theorem kk_1889 : Cond.instanceMethod yX11_claim ∈ gtbl := g_in (List.mem_of_getElem? (i := 1889) (by decide +kernel)) (by decide +kernel)
theorem kk_111 : Cond.selects RX11 yX11_claim yX11_claim ∈ gtbl := g_in (List.mem_of_getElem? (i := 111) (by decide +kernel)) (by decide +kernel)
theorem kv_X11_397 : KV RX11 397 mX11_claim 5 := ⟨⟨kk_1887, kk_133, kk_1890, by decide +kernel⟩, rfl, kk_1889, kk_111⟩
abbrev mX11_claimHours : MT := (yX11_claimHours, cX11_claimHours, 5, (some .int), [])
abbrev mX11_claimOfTwo : MT := (yX11_claimOfTwo, cX11_claimOfTwo, 5, (some .int), [])
theorem kk_1895 : Cond.methodLink RX11 401 yX11_claimOfTwo ∈ gtbl := g_in (List.mem_of_getElem? (i := 1895) (by decide +kernel)) (by decide +kernel)
theorem kk_1898 : Cond.code yX11_claimOfTwo cX11_claimOfTwo 5 (some .int) ∈ gtbl := g_in (List.mem_of_getElem? (i := 1898) (by decide +kernel)) (by decide +kernel)
theorem kk_1897 : Cond.instanceMethod yX11_claimOfTwo ∈ gtbl := g_in (List.mem_of_getElem? (i := 1897) (by decide +kernel)) (by decide +kernel)
theorem kk_112 : Cond.selects RX11 yX11_claimOfTwo yX11_claimOfTwo ∈ gtbl := g_in (List.mem_of_getElem? (i := 112) (by decide +kernel)) (by decide +kernel)
theorem kv_X11_401 : KV RX11 401 mX11_claimOfTwo 4 := ⟨⟨kk_1895, kk_133, kk_1898, by decide +kernel⟩, rfl, kk_1897, kk_112⟩
abbrev mX11_claimBefore : MT := (yX11_claimBefore, cX11_claimBefore, 4, (some .int), [])
abbrev mX11_claimTogether : MT := (yX11_claimTogether, cX11_claimTogether, 4, (some .int), [])
abbrev mX11_takeBack : MT := (yX11_takeBack, cX11_takeBack, 4, (some .int), [])
abbrev mX11_turnDoubt : MT := (yX11_turnDoubt, cX11_turnDoubt, 2, (some .boolean), [])
theorem kk_1915 : Cond.methodLink RX11 405 yX11_pass ∈ gtbl := g_in (List.mem_of_getElem? (i := 1915) (by decide +kernel)) (by decide +kernel)
theorem kk_1918 : Cond.code yX11_pass cX11_pass 7 (some .int) ∈ gtbl := g_in (List.mem_of_getElem? (i := 1918) (by decide +kernel)) (by decide +kernel)
theorem kk_1917 : Cond.instanceMethod yX11_pass ∈ gtbl := g_in (List.mem_of_getElem? (i := 1917) (by decide +kernel)) (by decide +kernel)
theorem kk_113 : Cond.selects RX11 yX11_pass yX11_pass ∈ gtbl := g_in (List.mem_of_getElem? (i := 113) (by decide +kernel)) (by decide +kernel)
theorem kv_X11_405 : KV RX11 405 mX11_pass 1 := ⟨⟨kk_1915, kk_133, kk_1918, by decide +kernel⟩, rfl, kk_1917, kk_113⟩
abbrev mX11_passEvenings : MT := (yX11_passEvenings, cX11_passEvenings, 2, (some .int), [])
abbrev mX11_goBack : MT := (yX11_goBack, cX11_goBack, 4, none, [])
theorem kk_1940 : Cond.methodLink RX11 408 yX11_goBack ∈ gtbl := g_in (List.mem_of_getElem? (i := 1940) (by decide +kernel)) (by decide +kernel)
theorem kk_1943 : Cond.code yX11_goBack cX11_goBack 4 none ∈ gtbl := g_in (List.mem_of_getElem? (i := 1943) (by decide +kernel)) (by decide +kernel)
theorem kk_1942 : Cond.instanceMethod yX11_goBack ∈ gtbl := g_in (List.mem_of_getElem? (i := 1942) (by decide +kernel)) (by decide +kernel)
theorem kk_116 : Cond.selects RX11 yX11_goBack yX11_goBack ∈ gtbl := g_in (List.mem_of_getElem? (i := 116) (by decide +kernel)) (by decide +kernel)
theorem kv_X11_408 : KV RX11 408 mX11_goBack 3 := ⟨⟨kk_1940, kk_133, kk_1943, by decide +kernel⟩, rfl, kk_1942, kk_116⟩
abbrev mX11_liarsAfter : MT := (yX11_liarsAfter, cX11_liarsAfter, 4, (some .int), [])
abbrev mX11_eveningsUntilOneStory : MT := (yX11_eveningsUntilOneStory, cX11_eveningsUntilOneStory, 3, (some .int), [])
abbrev mX11_bestToDoubt : MT := (yX11_bestToDoubt, cX11_bestToDoubt, 5, (some .int), [])
abbrev mX11_meanClaims : MT := (yX11_meanClaims, cX11_meanClaims, 1, (some .double), [])
theorem kk_1961 : Cond.constantLong RX11 412 (31) ∈ gtbl := g_in (List.mem_of_getElem? (i := 1961) (by decide +kernel)) (by decide +kernel)
abbrev mX11_digestEvents : MT := (yX11_digestEvents, cX11_digestEvents, 8, (some .long), [])
theorem kk_1960 : Cond.constantLong RX11 414 (991) ∈ gtbl := g_in (List.mem_of_getElem? (i := 1960) (by decide +kernel)) (by decide +kernel)
theorem kk_1962 : Cond.methodLink RX11 416 yX11_digestEvents ∈ gtbl := g_in (List.mem_of_getElem? (i := 1962) (by decide +kernel)) (by decide +kernel)
theorem kk_1965 : Cond.code yX11_digestEvents cX11_digestEvents 8 (some .long) ∈ gtbl := g_in (List.mem_of_getElem? (i := 1965) (by decide +kernel)) (by decide +kernel)
theorem kk_1964 : Cond.instanceMethod yX11_digestEvents ∈ gtbl := g_in (List.mem_of_getElem? (i := 1964) (by decide +kernel)) (by decide +kernel)
theorem kk_117 : Cond.selects RX11 yX11_digestEvents yX11_digestEvents ∈ gtbl := g_in (List.mem_of_getElem? (i := 117) (by decide +kernel)) (by decide +kernel)
theorem kv_X11_416 : KV RX11 416 mX11_digestEvents 1 := ⟨⟨kk_1962, kk_133, kk_1965, by decide +kernel⟩, rfl, kk_1964, kk_117⟩
abbrev mX11_digest : MT := (yX11_digest, cX11_digest, 8, (some .long), [])
