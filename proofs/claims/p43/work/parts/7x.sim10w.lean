abbrev mL_told_ : MT := (yL_told_, cL_told_, 8, (some (.object "StoryTapestryLaw$Sim")), [])
theorem kk_1283 : Cond.classLink RL 101 RX10 ∈ gtbl := g_in (List.mem_of_getElem? (i := 1283) (by decide +kernel)) (by decide +kernel)
theorem kk_929 : Cond.instantiable RX10 8 ∈ gtbl := g_in (List.mem_of_getElem? (i := 929) (by decide +kernel)) (by decide +kernel)
theorem nl_L_101 : NL RL 101 10 8 [.int (0 : Int32), .int (0 : Int32), .null, .null, .null, .null, .int (0 : Int32), .int (0 : Int32)] := ⟨RX10, TX10, tyX10, rfl, il_10, tyX10_ok, kk_1283, kk_929, kk_73, by intro j hj; match j, hj with
  | 0, _ => rfl
  | 1, _ => rfl
  | 2, _ => rfl
  | 3, _ => rfl
  | 4, _ => rfl
  | 5, _ => rfl
  | 6, _ => rfl
  | 7, _ => rfl
  | j + 8, hj => exact absurd hj (by omega)⟩
theorem kn_1284 : Cond.methodLinkNest RL 103 yX10_init "StoryTapestryLaw" ∈ gnest := n_in (List.mem_of_getElem? (i := 1284) (by decide +kernel)) (by decide +kernel)
theorem kk_1286 : Cond.code yX10_init cX10_init 1 none ∈ gtbl := g_in (List.mem_of_getElem? (i := 1286) (by decide +kernel)) (by decide +kernel)
theorem kk_1285 : Cond.instanceMethod yX10_init ∈ gtbl := g_in (List.mem_of_getElem? (i := 1285) (by decide +kernel)) (by decide +kernel)
theorem kj_L_103 : KIN RL 103 mX10_init 0 := ⟨⟨_, kn_1284⟩, kk_73, kk_1286, rfl, by decide +kernel, rfl, rfl, kk_1285⟩
theorem kk_1004 : Cond.methodLink RL 104 yL_cell ∈ gtbl := g_in (List.mem_of_getElem? (i := 1004) (by decide +kernel)) (by decide +kernel)
theorem kk_1006 : Cond.code yL_cell cL_cell 2 (some .int) ∈ gtbl := g_in (List.mem_of_getElem? (i := 1006) (by decide +kernel)) (by decide +kernel)
theorem kk_1005 : Cond.static yL_cell ∈ gtbl := g_in (List.mem_of_getElem? (i := 1005) (by decide +kernel)) (by decide +kernel)
theorem ks_L_104 : KS RL 104 mL_cell 2 := ⟨⟨kk_1004, kk_56, kk_1006, by decide +kernel⟩, rfl, kk_1005⟩
theorem kk_1290 : Cond.fieldLink RL 108 RX10 "events" "I" ∈ gtbl := g_in (List.mem_of_getElem? (i := 1290) (by decide +kernel)) (by decide +kernel)
theorem fl_L_108 : FL RL 108 10 0 (.int) false := ⟨RX10, TX10, 8, tyX10, rfl, by decide, il_10, tyX10_ok, nmX10, rfl, rfl, Or.inl kk_1290⟩
theorem kk_1293 : Cond.fieldLink RL 111 RX10 "tellers" "I" ∈ gtbl := g_in (List.mem_of_getElem? (i := 1293) (by decide +kernel)) (by decide +kernel)
theorem fl_L_111 : FL RL 111 10 1 (.int) false := ⟨RX10, TX10, 8, tyX10, rfl, by decide, il_10, tyX10_ok, nmX10, rfl, rfl, Or.inl kk_1293⟩
theorem kk_1300 : Cond.fieldLink RL 140 RX10 "orders" "[[I" ∈ gtbl := g_in (List.mem_of_getElem? (i := 1300) (by decide +kernel)) (by decide +kernel)
theorem fl_L_140 : FL RL 140 10 4 (.array (.array (.int))) false := ⟨RX10, TX10, 8, tyX10, rfl, by decide, il_10, tyX10_ok, nmX10, rfl, rfl, Or.inl kk_1300⟩
theorem kk_1453 : Cond.methodLink RL 126 yX10_with ∈ gtbl := g_in (List.mem_of_getElem? (i := 1453) (by decide +kernel)) (by decide +kernel)
theorem ks_L_126 : KS RL 126 mX10_with 2 := ⟨⟨kk_1453, kk_73, kk_1455, by decide +kernel⟩, rfl, kk_1454⟩
theorem kk_1302 : Cond.fieldLink RL 136 RX10 "tests" "[LStoryTapestryLaw$Tree;" ∈ gtbl := g_in (List.mem_of_getElem? (i := 1302) (by decide +kernel)) (by decide +kernel)
theorem fl_L_136 : FL RL 136 10 5 (.array (.object "StoryTapestryLaw$Tree")) false := ⟨RX10, TX10, 8, tyX10, rfl, by decide, il_10, tyX10_ok, nmX10, rfl, rfl, Or.inl kk_1302⟩
theorem kk_1581 : Cond.methodLink RL 149 yX11_text ∈ gtbl := g_in (List.mem_of_getElem? (i := 1581) (by decide +kernel)) (by decide +kernel)
theorem kv_L_149 : KV RL 149 mX11_text 0 := ⟨⟨kk_1581, kk_79, kk_1584, by decide +kernel⟩, rfl, kk_1582, kk_1583⟩
theorem kk_1449 : Cond.methodLink RL 118 yL_claim ∈ gtbl := g_in (List.mem_of_getElem? (i := 1449) (by decide +kernel)) (by decide +kernel)
theorem kk_1451 : Cond.code yL_claim cL_claim 7 (some (.array .int)) ∈ gtbl := g_in (List.mem_of_getElem? (i := 1451) (by decide +kernel)) (by decide +kernel)
theorem kk_1450 : Cond.static yL_claim ∈ gtbl := g_in (List.mem_of_getElem? (i := 1450) (by decide +kernel)) (by decide +kernel)
theorem ks_L_118 : KS RL 118 mL_claim 3 := ⟨⟨kk_1449, kk_56, kk_1451, by decide +kernel⟩, rfl, kk_1450⟩
theorem kk_1295 : Cond.fieldLink RL 122 RX10 "claims" "[[I" ∈ gtbl := g_in (List.mem_of_getElem? (i := 1295) (by decide +kernel)) (by decide +kernel)
theorem fl_L_122 : FL RL 122 10 2 (.array (.array (.int))) false := ⟨RX10, TX10, 8, tyX10, rfl, by decide, il_10, tyX10_ok, nmX10, rfl, rfl, Or.inl kk_1295⟩
theorem kk_1456 : Cond.methodLink RL 130 yL_told ∈ gtbl := g_in (List.mem_of_getElem? (i := 1456) (by decide +kernel)) (by decide +kernel)
theorem kk_1458 : Cond.code yL_told cL_told 1 (some (.object "java/lang/String")) ∈ gtbl := g_in (List.mem_of_getElem? (i := 1458) (by decide +kernel)) (by decide +kernel)
theorem kk_1457 : Cond.static yL_told ∈ gtbl := g_in (List.mem_of_getElem? (i := 1457) (by decide +kernel)) (by decide +kernel)
theorem ks_L_130 : KS RL 130 mL_told 1 := ⟨⟨kk_1456, kk_56, kk_1458, by decide +kernel⟩, rfl, kk_1457⟩
