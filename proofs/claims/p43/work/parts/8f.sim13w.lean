theorem kk_662 : Cond.methodLink RL 219 yX9_liars ∈ gtbl := g_in (List.mem_of_getElem? (i := 662) (by decide +kernel)) (by decide +kernel)
theorem kv_L_219 : KV RL 219 mX9_liars 0 := ⟨⟨kk_662, kk_57, kk_665, by decide +kernel⟩, rfl, kk_663, kk_664⟩
theorem kk_644 : Cond.methodLink RL 222 yX9_contradictions ∈ gtbl := g_in (List.mem_of_getElem? (i := 644) (by decide +kernel)) (by decide +kernel)
theorem kv_L_222 : KV RL 222 mX9_contradictions 0 := ⟨⟨kk_644, kk_57, kk_647, by decide +kernel⟩, rfl, kk_645, kk_646⟩
theorem kk_474 : Cond.methodLink RL 225 yX9_claims ∈ gtbl := g_in (List.mem_of_getElem? (i := 474) (by decide +kernel)) (by decide +kernel)
theorem kv_L_225 : KV RL 225 mX9_claims 0 := ⟨⟨kk_474, kk_57, kk_477, by decide +kernel⟩, rfl, kk_475, kk_476⟩
theorem kk_686 : Cond.methodLink RL 227 yX9_smallestSets ∈ gtbl := g_in (List.mem_of_getElem? (i := 686) (by decide +kernel)) (by decide +kernel)
theorem kv_L_227 : KV RL 227 mX9_smallestSets 0 := ⟨⟨kk_686, kk_57, kk_689, by decide +kernel⟩, rfl, kk_687, kk_688⟩
theorem kk_619 : Cond.methodLink RL 204 yX9_doContradict ∈ gtbl := g_in (List.mem_of_getElem? (i := 619) (by decide +kernel)) (by decide +kernel)
theorem kv_L_204 : KV RL 204 mX9_doContradict 2 := ⟨⟨kk_619, kk_57, kk_622, by decide +kernel⟩, rfl, kk_620, kk_621⟩
theorem kk_694 : Cond.methodLink RL 208 yX9_isLiar ∈ gtbl := g_in (List.mem_of_getElem? (i := 694) (by decide +kernel)) (by decide +kernel)
theorem kv_L_208 : KV RL 208 mX9_isLiar 1 := ⟨⟨kk_694, kk_57, kk_697, by decide +kernel⟩, rfl, kk_695, kk_696⟩
theorem kk_598 : Cond.methodLink RL 216 yX9_claimsOf ∈ gtbl := g_in (List.mem_of_getElem? (i := 598) (by decide +kernel)) (by decide +kernel)
theorem kv_L_216 : KV RL 216 mX9_claimsOf 1 := ⟨⟨kk_598, kk_57, kk_601, by decide +kernel⟩, rfl, kk_599, kk_600⟩
theorem kk_612 : Cond.methodLink RL 214 yX9_isDoubted ∈ gtbl := g_in (List.mem_of_getElem? (i := 612) (by decide +kernel)) (by decide +kernel)
theorem kv_L_214 : KV RL 214 mX9_isDoubted 1 := ⟨⟨kk_612, kk_57, kk_615, by decide +kernel⟩, rfl, kk_613, kk_614⟩
theorem kk_629 : Cond.methodLink RL 211 yX9_contraryPairs ∈ gtbl := g_in (List.mem_of_getElem? (i := 629) (by decide +kernel)) (by decide +kernel)
theorem kv_L_211 : KV RL 211 mX9_contraryPairs 2 := ⟨⟨kk_629, kk_57, kk_632, by decide +kernel⟩, rfl, kk_630, kk_631⟩
