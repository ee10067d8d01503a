abbrev mL_taught : MT := (yL_taught, cL_taught, 6, (some .int), [])
theorem kk_1011 : Cond.methodLink RL 9 yJ0_length_8abf5 ∈ gtbl := g_in (List.mem_of_getElem? (i := 1011) (by decide +kernel)) (by decide +kernel)
theorem kv_L_9 : KV RL 9 mJ0_length_8abf5 0 := ⟨⟨kk_1011, kk_66, kk_283, by decide +kernel⟩, rfl, kk_281, kk_282⟩
theorem kk_1023 : Cond.methodLink RL 25 yX9_trim ∈ gtbl := g_in (List.mem_of_getElem? (i := 1023) (by decide +kernel)) (by decide +kernel)
theorem kk_1026 : Cond.code yX9_trim cX9_trim 2 (some .int) ∈ gtbl := g_in (List.mem_of_getElem? (i := 1026) (by decide +kernel)) (by decide +kernel)
theorem kk_1024 : Cond.instanceMethod yX9_trim ∈ gtbl := g_in (List.mem_of_getElem? (i := 1024) (by decide +kernel)) (by decide +kernel)
theorem kk_1025 : Cond.selects RX9 yX9_trim yX9_trim ∈ gtbl := g_in (List.mem_of_getElem? (i := 1025) (by decide +kernel)) (by decide +kernel)
theorem kv_L_25 : KV RL 25 mX9_trim 1 := ⟨⟨kk_1023, kk_57, kk_1026, by decide +kernel⟩, rfl, kk_1024, kk_1025⟩
theorem kk_1028 : Cond.methodLink RL 29 yX9_teach ∈ gtbl := g_in (List.mem_of_getElem? (i := 1028) (by decide +kernel)) (by decide +kernel)
theorem kk_1031 : Cond.code yX9_teach cX9_teach 2 (some .int) ∈ gtbl := g_in (List.mem_of_getElem? (i := 1031) (by decide +kernel)) (by decide +kernel)
theorem kk_1029 : Cond.instanceMethod yX9_teach ∈ gtbl := g_in (List.mem_of_getElem? (i := 1029) (by decide +kernel)) (by decide +kernel)
theorem kk_1030 : Cond.selects RX9 yX9_teach yX9_teach ∈ gtbl := g_in (List.mem_of_getElem? (i := 1030) (by decide +kernel)) (by decide +kernel)
theorem kv_L_29 : KV RL 29 mX9_teach 0 := ⟨⟨kk_1028, kk_57, kk_1031, by decide +kernel⟩, rfl, kk_1029, kk_1030⟩
theorem kk_1013 : Cond.methodLink RL 19 yX9_feed ∈ gtbl := g_in (List.mem_of_getElem? (i := 1013) (by decide +kernel)) (by decide +kernel)
theorem kk_1016 : Cond.code yX9_feed cX9_feed 6 (some .int) ∈ gtbl := g_in (List.mem_of_getElem? (i := 1016) (by decide +kernel)) (by decide +kernel)
theorem kk_1014 : Cond.instanceMethod yX9_feed ∈ gtbl := g_in (List.mem_of_getElem? (i := 1014) (by decide +kernel)) (by decide +kernel)
theorem kk_1015 : Cond.selects RX9 yX9_feed yX9_feed ∈ gtbl := g_in (List.mem_of_getElem? (i := 1015) (by decide +kernel)) (by decide +kernel)
theorem kv_L_19 : KV RL 19 mX9_feed 5 := ⟨⟨kk_1013, kk_57, kk_1016, by decide +kernel⟩, rfl, kk_1014, kk_1015⟩
theorem kk_1012 : Cond.methodLink RL 15 yJ0_charAt_5068e ∈ gtbl := g_in (List.mem_of_getElem? (i := 1012) (by decide +kernel)) (by decide +kernel)
theorem kv_L_15 : KV RL 15 mJ0_charAt_5068e 1 := ⟨⟨kk_1012, kk_66, kk_293, by decide +kernel⟩, rfl, kk_291, kk_292⟩
