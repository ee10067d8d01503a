theorem kk_478 : Cond.methodLink RL 239 yX9_tellerOf ∈ gtbl := g_in (List.mem_of_getElem? (i := 478) (by decide +kernel)) (by decide +kernel)
theorem kv_L_239 : KV RL 239 mX9_tellerOf 1 := ⟨⟨kk_478, kk_57, kk_481, by decide +kernel⟩, rfl, kk_479, kk_480⟩
theorem kk_561 : Cond.methodLink RL 242 yX9_eventOf ∈ gtbl := g_in (List.mem_of_getElem? (i := 561) (by decide +kernel)) (by decide +kernel)
theorem kv_L_242 : KV RL 242 mX9_eventOf 1 := ⟨⟨kk_561, kk_57, kk_564, by decide +kernel⟩, rfl, kk_562, kk_563⟩
theorem kk_557 : Cond.methodLink RL 245 yX9_kindOf ∈ gtbl := g_in (List.mem_of_getElem? (i := 557) (by decide +kernel)) (by decide +kernel)
theorem kv_L_245 : KV RL 245 mX9_kindOf 1 := ⟨⟨kk_557, kk_57, kk_560, by decide +kernel⟩, rfl, kk_558, kk_559⟩
theorem kk_565 : Cond.methodLink RL 263 yX9_secondEventOf ∈ gtbl := g_in (List.mem_of_getElem? (i := 565) (by decide +kernel)) (by decide +kernel)
theorem kv_L_263 : KV RL 263 mX9_secondEventOf 1 := ⟨⟨kk_565, kk_57, kk_568, by decide +kernel⟩, rfl, kk_566, kk_567⟩
theorem kk_698 : Cond.methodLink RL 248 yX9_isAgreed ∈ gtbl := g_in (List.mem_of_getElem? (i := 698) (by decide +kernel)) (by decide +kernel)
theorem kv_L_248 : KV RL 248 mX9_isAgreed 1 := ⟨⟨kk_698, kk_57, kk_701, by decide +kernel⟩, rfl, kk_699, kk_700⟩
theorem kk_729 : Cond.methodLink RL 251 yX9_windowFrom ∈ gtbl := g_in (List.mem_of_getElem? (i := 729) (by decide +kernel)) (by decide +kernel)
theorem kv_L_251 : KV RL 251 mX9_windowFrom 1 := ⟨⟨kk_729, kk_57, kk_732, by decide +kernel⟩, rfl, kk_730, kk_731⟩
theorem kk_585 : Cond.methodLink RL 254 yX9_firstHourOf ∈ gtbl := g_in (List.mem_of_getElem? (i := 585) (by decide +kernel)) (by decide +kernel)
theorem kv_L_254 : KV RL 254 mX9_firstHourOf 1 := ⟨⟨kk_585, kk_57, kk_588, by decide +kernel⟩, rfl, kk_586, kk_587⟩
theorem kk_739 : Cond.methodLink RL 257 yX9_windowTo ∈ gtbl := g_in (List.mem_of_getElem? (i := 739) (by decide +kernel)) (by decide +kernel)
theorem kv_L_257 : KV RL 257 mX9_windowTo 1 := ⟨⟨kk_739, kk_57, kk_742, by decide +kernel⟩, rfl, kk_740, kk_741⟩
theorem kk_594 : Cond.methodLink RL 260 yX9_lastHourOf ∈ gtbl := g_in (List.mem_of_getElem? (i := 594) (by decide +kernel)) (by decide +kernel)
theorem kv_L_260 : KV RL 260 mX9_lastHourOf 1 := ⟨⟨kk_594, kk_57, kk_597, by decide +kernel⟩, rfl, kk_595, kk_596⟩
theorem kk_744 : Cond.methodLink RL 230 yX9_hasOrder ∈ gtbl := g_in (List.mem_of_getElem? (i := 744) (by decide +kernel)) (by decide +kernel)
theorem kv_L_230 : KV RL 230 mX9_hasOrder 0 := ⟨⟨kk_744, kk_57, kk_747, by decide +kernel⟩, rfl, kk_745, kk_746⟩
theorem kk_466 : Cond.methodLink RL 234 yX9_events ∈ gtbl := g_in (List.mem_of_getElem? (i := 466) (by decide +kernel)) (by decide +kernel)
theorem kv_L_234 : KV RL 234 mX9_events 0 := ⟨⟨kk_466, kk_57, kk_469, by decide +kernel⟩, rfl, kk_467, kk_468⟩
theorem kk_765 : Cond.methodLink RL 236 yX9_eventAt ∈ gtbl := g_in (List.mem_of_getElem? (i := 765) (by decide +kernel)) (by decide +kernel)
theorem kv_L_236 : KV RL 236 mX9_eventAt 1 := ⟨⟨kk_765, kk_57, kk_768, by decide +kernel⟩, rfl, kk_766, kk_767⟩
theorem kk_861 : Cond.methodLink RL 266 yX9_bestToDoubt ∈ gtbl := g_in (List.mem_of_getElem? (i := 861) (by decide +kernel)) (by decide +kernel)
theorem kk_864 : Cond.code yX9_bestToDoubt cX9_bestToDoubt 5 (some .int) ∈ gtbl := g_in (List.mem_of_getElem? (i := 864) (by decide +kernel)) (by decide +kernel)
theorem kk_862 : Cond.instanceMethod yX9_bestToDoubt ∈ gtbl := g_in (List.mem_of_getElem? (i := 862) (by decide +kernel)) (by decide +kernel)
theorem kk_863 : Cond.selects RX9 yX9_bestToDoubt yX9_bestToDoubt ∈ gtbl := g_in (List.mem_of_getElem? (i := 863) (by decide +kernel)) (by decide +kernel)
theorem kv_L_266 : KV RL 266 mX9_bestToDoubt 0 := ⟨⟨kk_861, kk_57, kk_864, by decide +kernel⟩, rfl, kk_862, kk_863⟩
theorem kk_865 : Cond.methodLink RL 200 yX9_digest ∈ gtbl := g_in (List.mem_of_getElem? (i := 865) (by decide +kernel)) (by decide +kernel)
theorem kk_868 : Cond.code yX9_digest cX9_digest 3 (some .long) ∈ gtbl := g_in (List.mem_of_getElem? (i := 868) (by decide +kernel)) (by decide +kernel)
theorem kk_866 : Cond.instanceMethod yX9_digest ∈ gtbl := g_in (List.mem_of_getElem? (i := 866) (by decide +kernel)) (by decide +kernel)
theorem kk_867 : Cond.selects RX9 yX9_digest yX9_digest ∈ gtbl := g_in (List.mem_of_getElem? (i := 867) (by decide +kernel)) (by decide +kernel)
theorem kv_L_200 : KV RL 200 mX9_digest 0 := ⟨⟨kk_865, kk_57, kk_868, by decide +kernel⟩, rfl, kk_866, kk_867⟩
theorem kk_849 : Cond.methodLink RL 269 yX9_liarsAfter ∈ gtbl := g_in (List.mem_of_getElem? (i := 849) (by decide +kernel)) (by decide +kernel)
theorem kk_852 : Cond.code yX9_liarsAfter cX9_liarsAfter 3 (some .int) ∈ gtbl := g_in (List.mem_of_getElem? (i := 852) (by decide +kernel)) (by decide +kernel)
theorem kk_850 : Cond.instanceMethod yX9_liarsAfter ∈ gtbl := g_in (List.mem_of_getElem? (i := 850) (by decide +kernel)) (by decide +kernel)
theorem kk_851 : Cond.selects RX9 yX9_liarsAfter yX9_liarsAfter ∈ gtbl := g_in (List.mem_of_getElem? (i := 851) (by decide +kernel)) (by decide +kernel)
theorem kv_L_269 : KV RL 269 mX9_liarsAfter 1 := ⟨⟨kk_849, kk_57, kk_852, by decide +kernel⟩, rfl, kk_850, kk_851⟩
theorem kk_857 : Cond.methodLink RL 272 yX9_eveningsUntilOneStory ∈ gtbl := g_in (List.mem_of_getElem? (i := 857) (by decide +kernel)) (by decide +kernel)
theorem kk_860 : Cond.code yX9_eveningsUntilOneStory cX9_eveningsUntilOneStory 2 (some .int) ∈ gtbl := g_in (List.mem_of_getElem? (i := 860) (by decide +kernel)) (by decide +kernel)
theorem kk_858 : Cond.instanceMethod yX9_eveningsUntilOneStory ∈ gtbl := g_in (List.mem_of_getElem? (i := 858) (by decide +kernel)) (by decide +kernel)
theorem kk_859 : Cond.selects RX9 yX9_eveningsUntilOneStory yX9_eveningsUntilOneStory ∈ gtbl := g_in (List.mem_of_getElem? (i := 859) (by decide +kernel)) (by decide +kernel)
theorem kv_L_272 : KV RL 272 mX9_eveningsUntilOneStory 0 := ⟨⟨kk_857, kk_57, kk_860, by decide +kernel⟩, rfl, kk_858, kk_859⟩
theorem kk_955 : Cond.methodLink RL 275 yX10_isSame ∈ gtbl := g_in (List.mem_of_getElem? (i := 955) (by decide +kernel)) (by decide +kernel)
set_option maxRecDepth 100000 in
theorem kk_958 : Cond.code yX10_isSame cX10_isSame 6 (some .boolean) ∈ gtbl := g_in (List.mem_append_right _ (List.mem_append_right _ (List.mem_append_right _ (List.mem_append_right _ (List.mem_append_left _ (List.mem_of_getElem? (l := tables_1_4) (i := 182) rfl)))))) (by decide +kernel)
theorem kk_956 : Cond.instanceMethod yX10_isSame ∈ gtbl := g_in (List.mem_of_getElem? (i := 956) (by decide +kernel)) (by decide +kernel)
theorem kk_957 : Cond.selects RX10 yX10_isSame yX10_isSame ∈ gtbl := g_in (List.mem_of_getElem? (i := 957) (by decide +kernel)) (by decide +kernel)
theorem kv_L_275 : KV RL 275 mX10_isSame 1 := ⟨⟨kk_955, kk_73, kk_958, by decide +kernel⟩, rfl, kk_956, kk_957⟩
theorem kk_1625 : Cond.methodLink RL 196 yL_act ∈ gtbl := g_in (List.mem_of_getElem? (i := 1625) (by decide +kernel)) (by decide +kernel)
theorem kk_1627 : Cond.code yL_act cL_act 6 (some .boolean) ∈ gtbl := g_in (List.mem_of_getElem? (i := 1627) (by decide +kernel)) (by decide +kernel)
theorem kk_1626 : Cond.static yL_act ∈ gtbl := g_in (List.mem_of_getElem? (i := 1626) (by decide +kernel)) (by decide +kernel)
theorem ks_L_196 : KS RL 196 mL_act 3 := ⟨⟨kk_1625, kk_56, kk_1627, by decide +kernel⟩, rfl, kk_1626⟩
