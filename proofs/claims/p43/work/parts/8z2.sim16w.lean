theorem kk_87 : Cond.classLink RL 20 RX9 ∈ gtbl := g_in (List.mem_of_getElem? (i := 87) (by decide +kernel)) (by decide +kernel)
theorem kk_88 : Cond.instantiable RX9 8 ∈ gtbl := g_in (List.mem_of_getElem? (i := 88) (by decide +kernel)) (by decide +kernel)
theorem nl_L_20 : NL RL 20 9 8 [.null, .null, .null, .null, .null, .null, .int (0 : Int32), .int (0 : Int32)] := ⟨RX9, TX9, tyX9, rfl, il_9, tyX9_ok, kk_87, kk_88, kk_57, by intro j hj; match j, hj with
  | 0, _ => rfl
  | 1, _ => rfl
  | 2, _ => rfl
  | 3, _ => rfl
  | 4, _ => rfl
  | 5, _ => rfl
  | 6, _ => rfl
  | 7, _ => rfl
  | j + 8, hj => exact absurd hj (by omega)⟩
theorem kk_89 : Cond.methodLink RL 186 yX9_init ∈ gtbl := g_in (List.mem_of_getElem? (i := 89) (by decide +kernel)) (by decide +kernel)
theorem kk_91 : Cond.code yX9_init cX9_init 4 none ∈ gtbl := g_in (List.mem_of_getElem? (i := 91) (by decide +kernel)) (by decide +kernel)
theorem kk_90 : Cond.instanceMethod yX9_init ∈ gtbl := g_in (List.mem_of_getElem? (i := 90) (by decide +kernel)) (by decide +kernel)
theorem ki_L_186 : KI RL 186 mX9_init 0 := ⟨⟨kk_89, kk_57, kk_91, by decide +kernel⟩, rfl, rfl, rfl, kk_90⟩
theorem kk_1280 : Cond.methodLink RL 187 yL_told_ ∈ gtbl := g_in (List.mem_of_getElem? (i := 1280) (by decide +kernel)) (by decide +kernel)
set_option maxRecDepth 100000 in
theorem kk_1282 : Cond.code yL_told_ cL_told_ 8 (some (.object "StoryTapestryLaw$Sim")) ∈ gtbl := g_in (List.mem_append_right _ (List.mem_append_right _ (List.mem_append_right _ (List.mem_append_right _ (List.mem_append_right _ (List.mem_append_right _ (List.mem_append_left _ (List.mem_of_getElem? (l := tables_1_6) (i := 26) rfl)))))))) (by decide +kernel)
theorem kk_1281 : Cond.static yL_told_ ∈ gtbl := g_in (List.mem_of_getElem? (i := 1281) (by decide +kernel)) (by decide +kernel)
theorem ks_L_187 : KS RL 187 mL_told_ 3 := ⟨⟨kk_1280, kk_56, kk_1282, by decide +kernel⟩, rfl, kk_1281⟩
theorem kk_1008 : Cond.methodLink RL 190 yL_taught ∈ gtbl := g_in (List.mem_of_getElem? (i := 1008) (by decide +kernel)) (by decide +kernel)
theorem kk_1010 : Cond.code yL_taught cL_taught 6 (some .int) ∈ gtbl := g_in (List.mem_of_getElem? (i := 1010) (by decide +kernel)) (by decide +kernel)
theorem kk_1009 : Cond.static yL_taught ∈ gtbl := g_in (List.mem_of_getElem? (i := 1009) (by decide +kernel)) (by decide +kernel)
theorem ks_L_190 : KS RL 190 mL_taught 2 := ⟨⟨kk_1008, kk_56, kk_1010, by decide +kernel⟩, rfl, kk_1009⟩
theorem kk_470 : Cond.methodLink RL 194 yX9_tellers ∈ gtbl := g_in (List.mem_of_getElem? (i := 470) (by decide +kernel)) (by decide +kernel)
theorem kv_L_194 : KV RL 194 mX9_tellers 0 := ⟨⟨kk_470, kk_57, kk_473, by decide +kernel⟩, rfl, kk_471, kk_472⟩
