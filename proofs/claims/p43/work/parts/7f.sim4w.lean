abbrev mX10_order : MT := (yX10_order, cX10_order, 12, (some (.array .int)), [])
theorem kk_981 : Cond.methodLink RX10 64 yX10_liars ∈ gtbl := g_in (List.mem_of_getElem? (i := 981) (by decide +kernel)) (by decide +kernel)
theorem kk_910 : Cond.code yX10_liars cX10_liars 4 (some (.array (.array .int))) ∈ gtbl := g_in (List.mem_of_getElem? (i := 910) (by decide +kernel)) (by decide +kernel)
theorem kk_908 : Cond.instanceMethod yX10_liars ∈ gtbl := g_in (List.mem_of_getElem? (i := 908) (by decide +kernel)) (by decide +kernel)
theorem kk_909 : Cond.selects RX10 yX10_liars yX10_liars ∈ gtbl := g_in (List.mem_of_getElem? (i := 909) (by decide +kernel)) (by decide +kernel)
theorem kv_X10_64 : KV RX10 64 mX10_liars 0 := ⟨⟨kk_981, kk_73, kk_910, by decide +kernel⟩, rfl, kk_908, kk_909⟩
theorem kk_1291 : Cond.fieldLink RX10 29 RX10 "events" "I" ∈ gtbl := g_in (List.mem_of_getElem? (i := 1291) (by decide +kernel)) (by decide +kernel)
theorem fl_X10_29 : FL RX10 29 10 0 (.int) false := ⟨RX10, TX10, 8, tyX10, rfl, by decide, il_10, tyX10_ok, nmX10, rfl, rfl, Or.inl kk_1291⟩
abbrev mX10_with : MT := (yX10_with, cX10_with, 4, (some (.array (.array .int))), [])
abbrev mX10_init : MT := (yX10_init, cX10_init, 1, none, [])
theorem kk_1287 : Cond.methodLink RX10 1 Lib.objectInit ∈ gtbl := g_in (List.mem_of_getElem? (i := 1287) (by decide +kernel)) (by decide +kernel)
theorem ko_X10_1 : KO RX10 1 := ⟨kk_1287, kk_93, kk_94⟩
theorem kk_1299 : Cond.fieldLink RX10 19 RX10 "orders" "[[I" ∈ gtbl := g_in (List.mem_of_getElem? (i := 1299) (by decide +kernel)) (by decide +kernel)
theorem fl_X10_19 : FL RX10 19 10 4 (.array (.array (.int))) false := ⟨RX10, TX10, 8, tyX10, rfl, by decide, il_10, tyX10_ok, nmX10, rfl, rfl, Or.inl kk_1299⟩
theorem kk_1288 : Cond.classLink RX10 22 "StoryTapestryLaw$Tree" ∈ gtbl := g_in (List.mem_of_getElem? (i := 1288) (by decide +kernel)) (by decide +kernel)
theorem kk_1301 : Cond.fieldLink RX10 24 RX10 "tests" "[LStoryTapestryLaw$Tree;" ∈ gtbl := g_in (List.mem_of_getElem? (i := 1301) (by decide +kernel)) (by decide +kernel)
theorem fl_X10_24 : FL RX10 24 10 5 (.array (.object "StoryTapestryLaw$Tree")) false := ⟨RX10, TX10, 8, tyX10, rfl, by decide, il_10, tyX10_ok, nmX10, rfl, rfl, Or.inl kk_1301⟩
