abbrev mL_below : MT := (yL_below, cL_below, 2, (some .int), [])
theorem kk_1003 : Cond.constant RL 7 (2147483647) ∈ gtbl := g_in (List.mem_of_getElem? (i := 1003) (by decide +kernel)) (by decide +kernel)
abbrev mL_cell : MT := (yL_cell, cL_cell, 2, (some .int), [])
theorem kk_1007 : Cond.constant RL 8 (790386105) ∈ gtbl := g_in (List.mem_of_getElem? (i := 1007) (by decide +kernel)) (by decide +kernel)
abbrev mX10_isContrary : MT := (yX10_isContrary, cX10_isContrary, 4, (some .boolean), [])
abbrev mX10_claimsOf : MT := (yX10_claimsOf, cX10_claimsOf, 7, (some .int), [])
theorem il_10 : ∀ w ∈ u_ws RX10 TX10 8, w ∈ gtbl := fun w hw => g_in ((by decide +kernel : ∀ w ∈ u_ws RX10 TX10 8, w ∈ lw_tbl) w hw) (List.all_eq_true.mp (by decide +kernel : (u_ws RX10 TX10 8).all goodWord = true) w hw)
theorem kk_1294 : Cond.fieldLink RX10 9 RX10 "claims" "[[I" ∈ gtbl := g_in (List.mem_of_getElem? (i := 1294) (by decide +kernel)) (by decide +kernel)
theorem fl_X10_9 : FL RX10 9 10 2 (.array (.array (.int))) false := ⟨RX10, TX10, 8, tyX10, rfl, by decide, il_10, tyX10_ok, nmX10, rfl, rfl, Or.inl kk_1294⟩
abbrev mX10_pairs : MT := (yX10_pairs, cX10_pairs, 7, (some .int), [])
theorem kk_921 : Cond.methodLink RX10 46 yX10_isContrary ∈ gtbl := g_in (List.mem_of_getElem? (i := 921) (by decide +kernel)) (by decide +kernel)
theorem kk_73 : Cond.initialized RX10 ∈ gtbl := g_in (List.mem_of_getElem? (i := 73) (by decide +kernel)) (by decide +kernel)
theorem kk_923 : Cond.code yX10_isContrary cX10_isContrary 4 (some .boolean) ∈ gtbl := g_in (List.mem_of_getElem? (i := 923) (by decide +kernel)) (by decide +kernel)
theorem kk_922 : Cond.static yX10_isContrary ∈ gtbl := g_in (List.mem_of_getElem? (i := 922) (by decide +kernel)) (by decide +kernel)
theorem ks_X10_46 : KS RX10 46 mX10_isContrary 2 := ⟨⟨kk_921, kk_73, kk_923, by decide +kernel⟩, rfl, kk_922⟩
abbrev mX10_contradict : MT := (yX10_contradict, cX10_contradict, 3, (some .boolean), [])
theorem kk_1296 : Cond.fieldLink RX10 15 RX10 "isDoubted" "[Z" ∈ gtbl := g_in (List.mem_of_getElem? (i := 1296) (by decide +kernel)) (by decide +kernel)
theorem fl_X10_15 : FL RX10 15 10 3 (.array (.boolean)) false := ⟨RX10, TX10, 8, tyX10, rfl, by decide, il_10, tyX10_ok, nmX10, rfl, rfl, Or.inl kk_1296⟩
theorem kk_917 : Cond.methodLink RX10 50 yX10_pairs ∈ gtbl := g_in (List.mem_of_getElem? (i := 917) (by decide +kernel)) (by decide +kernel)
theorem kk_920 : Cond.code yX10_pairs cX10_pairs 7 (some .int) ∈ gtbl := g_in (List.mem_of_getElem? (i := 920) (by decide +kernel)) (by decide +kernel)
theorem kk_918 : Cond.instanceMethod yX10_pairs ∈ gtbl := g_in (List.mem_of_getElem? (i := 918) (by decide +kernel)) (by decide +kernel)
theorem kk_919 : Cond.selects RX10 yX10_pairs yX10_pairs ∈ gtbl := g_in (List.mem_of_getElem? (i := 919) (by decide +kernel)) (by decide +kernel)
theorem kv_X10_50 : KV RX10 50 mX10_pairs 2 := ⟨⟨kk_917, kk_73, kk_920, by decide +kernel⟩, rfl, kk_918, kk_919⟩
abbrev mX10_pairs_ : MT := (yX10_pairs_, cX10_pairs_, 5, (some .int), [])
theorem kk_1292 : Cond.fieldLink RX10 33 RX10 "tellers" "I" ∈ gtbl := g_in (List.mem_of_getElem? (i := 1292) (by decide +kernel)) (by decide +kernel)
theorem fl_X10_33 : FL RX10 33 10 1 (.int) false := ⟨RX10, TX10, 8, tyX10, rfl, by decide, il_10, tyX10_ok, nmX10, rfl, rfl, Or.inl kk_1292⟩
theorem kk_913 : Cond.methodLink RX10 54 yX10_contradict ∈ gtbl := g_in (List.mem_of_getElem? (i := 913) (by decide +kernel)) (by decide +kernel)
theorem kk_916 : Cond.code yX10_contradict cX10_contradict 3 (some .boolean) ∈ gtbl := g_in (List.mem_of_getElem? (i := 916) (by decide +kernel)) (by decide +kernel)
theorem kk_914 : Cond.instanceMethod yX10_contradict ∈ gtbl := g_in (List.mem_of_getElem? (i := 914) (by decide +kernel)) (by decide +kernel)
theorem kk_915 : Cond.selects RX10 yX10_contradict yX10_contradict ∈ gtbl := g_in (List.mem_of_getElem? (i := 915) (by decide +kernel)) (by decide +kernel)
theorem kv_X10_54 : KV RX10 54 mX10_contradict 2 := ⟨⟨kk_913, kk_73, kk_916, by decide +kernel⟩, rfl, kk_914, kk_915⟩
abbrev mX10_count : MT := (yX10_count, cX10_count, 7, (some .int), [])
