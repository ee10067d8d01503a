abbrev mX10_decide : MT := (yX10_decide, cX10_decide, 8, none, [])
theorem kk_926 : Cond.methodLink RX10 58 yX10_decide ∈ gtbl := g_in (List.mem_of_getElem? (i := 926) (by decide +kernel)) (by decide +kernel)
theorem kk_930 : Cond.code yX10_decide cX10_decide 8 none ∈ gtbl := g_in (List.mem_of_getElem? (i := 930) (by decide +kernel)) (by decide +kernel)
theorem kk_928 : Cond.instanceMethod yX10_decide ∈ gtbl := g_in (List.mem_of_getElem? (i := 928) (by decide +kernel)) (by decide +kernel)
theorem kk_24 : Cond.selects RX10 yX10_decide yX10_decide ∈ gtbl := g_in (List.mem_of_getElem? (i := 24) (by decide +kernel)) (by decide +kernel)
theorem kv_X10_58 : KV RX10 58 mX10_decide 5 := ⟨⟨kk_926, kk_73, kk_930, by decide +kernel⟩, rfl, kk_928, kk_24⟩
