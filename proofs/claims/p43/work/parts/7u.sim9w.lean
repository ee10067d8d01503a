abbrev mL_told : MT := (yL_told, cL_told, 1, (some (.object "java/lang/String")), [])
theorem kk_1459 : Cond.classLink RL 66 RJ4 ∈ gtbl := g_in (List.mem_of_getElem? (i := 1459) (by decide +kernel)) (by decide +kernel)
theorem nl_L_66 : NL RL 66 13 4 [.null, .int (0 : Int32), .int (0 : Int32), .int (0 : Int32)] := ⟨RJ4, TJ4, tyJ4, rfl, il_13, tyJ4_ok, kk_1459, kk_1460, kk_72, by intro j hj; match j, hj with
  | 0, _ => rfl
  | 1, _ => rfl
  | 2, _ => rfl
  | 3, _ => rfl
  | j + 4, hj => exact absurd hj (by omega)⟩
theorem kk_1461 : Cond.methodLink RL 68 yJ4_init_da8c8 ∈ gtbl := g_in (List.mem_of_getElem? (i := 1461) (by decide +kernel)) (by decide +kernel)
theorem ki_L_68 : KI RL 68 mJ4_init_da8c8 0 := ⟨⟨kk_1461, kk_72, kk_1463, by decide +kernel⟩, rfl, rfl, rfl, kk_1462⟩
theorem kk_1325 : Cond.methodLink RL 71 yJ4_append_15ec4 ∈ gtbl := g_in (List.mem_of_getElem? (i := 1325) (by decide +kernel)) (by decide +kernel)
theorem kv_L_71 : KV RL 71 mJ4_append_15ec4 1 := ⟨⟨kk_1325, kk_72, kk_1328, by decide +kernel⟩, rfl, kk_1326, kk_1327⟩
theorem kk_1422 : Cond.methodLink RL 75 yJ4_append_bf812 ∈ gtbl := g_in (List.mem_of_getElem? (i := 1422) (by decide +kernel)) (by decide +kernel)
theorem kv_L_75 : KV RL 75 mJ4_append_bf812 1 := ⟨⟨kk_1422, kk_72, kk_1425, by decide +kernel⟩, rfl, kk_1423, kk_1424⟩
theorem kk_1484 : Cond.methodLink RL 84 yJ4_toString_0e30d ∈ gtbl := g_in (List.mem_of_getElem? (i := 1484) (by decide +kernel)) (by decide +kernel)
theorem kv_L_84 : KV RL 84 mJ4_toString_0e30d 0 := ⟨⟨kk_1484, kk_72, kk_1487, by decide +kernel⟩, rfl, kk_1485, kk_1486⟩
