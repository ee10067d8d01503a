abbrev mX10_takeBack : MT := (yX10_takeBack, cX10_takeBack, 4, none, [])
theorem kk_1657 : Cond.methodLink RX10 42 yX10_with ∈ gtbl := g_in (List.mem_of_getElem? (i := 1657) (by decide +kernel)) (by decide +kernel)
theorem kk_1455 : Cond.code yX10_with cX10_with 4 (some (.array (.array .int))) ∈ gtbl := g_in (List.mem_of_getElem? (i := 1455) (by decide +kernel)) (by decide +kernel)
theorem kk_1454 : Cond.static yX10_with ∈ gtbl := g_in (List.mem_of_getElem? (i := 1454) (by decide +kernel)) (by decide +kernel)
theorem ks_X10_42 : KS RX10 42 mX10_with 2 := ⟨⟨kk_1657, kk_73, kk_1455, by decide +kernel⟩, rfl, kk_1454⟩
abbrev mL_claim : MT := (yL_claim, cL_claim, 7, (some (.array .int)), [])
theorem kk_1000 : Cond.methodLink RL 35 yL_below ∈ gtbl := g_in (List.mem_of_getElem? (i := 1000) (by decide +kernel)) (by decide +kernel)
theorem kk_56 : Cond.initialized RL ∈ gtbl := g_in (List.mem_of_getElem? (i := 56) (by decide +kernel)) (by decide +kernel)
theorem kk_1002 : Cond.code yL_below cL_below 2 (some .int) ∈ gtbl := g_in (List.mem_of_getElem? (i := 1002) (by decide +kernel)) (by decide +kernel)
theorem kk_1001 : Cond.static yL_below ∈ gtbl := g_in (List.mem_of_getElem? (i := 1001) (by decide +kernel)) (by decide +kernel)
theorem ks_L_35 : KS RL 35 mL_below 2 := ⟨⟨kk_1000, kk_56, kk_1002, by decide +kernel⟩, rfl, kk_1001⟩
theorem kk_1452 : Cond.methodLink RL 96 yJ9_min_7cf53 ∈ gtbl := g_in (List.mem_of_getElem? (i := 1452) (by decide +kernel)) (by decide +kernel)
theorem ks_L_96 : KS RL 96 mJ9_min_7cf53 2 := ⟨⟨kk_1452, kk_75, kk_721, by decide +kernel⟩, rfl, kk_720⟩
