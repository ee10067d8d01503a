abbrev mX11_init : MT := (yX11_init, cX11_init, 1, none, [])
theorem kk_1552 : Cond.methodLink RX11 1 Lib.objectInit ∈ gtbl := g_in (List.mem_of_getElem? (i := 1552) (by decide +kernel)) (by decide +kernel)
theorem ko_X11_1 : KO RX11 1 := ⟨kk_1552, kk_93, kk_94⟩
abbrev mL_sum : MT := (yL_sum, cL_sum, 6, (some (.object "StoryTapestryLaw$Tree")), [])
theorem kk_1545 : Cond.classLink RL 32 RX11 ∈ gtbl := g_in (List.mem_of_getElem? (i := 1545) (by decide +kernel)) (by decide +kernel)
theorem kk_952 : Cond.instantiable RX11 5 ∈ gtbl := g_in (List.mem_of_getElem? (i := 952) (by decide +kernel)) (by decide +kernel)
theorem nl_L_32 : NL RL 32 11 5 [.int (0 : Int32), .int (0 : Int32), .int (0 : Int32), .null, .null] := ⟨RX11, TX11, tyX11, rfl, il_11, tyX11_ok, kk_1545, kk_952, kk_79, by intro j hj; match j, hj with
  | 0, _ => rfl
  | 1, _ => rfl
  | 2, _ => rfl
  | 3, _ => rfl
  | 4, _ => rfl
  | j + 5, hj => exact absurd hj (by omega)⟩
theorem kn_1549 : Cond.methodLinkNest RL 34 yX11_init "StoryTapestryLaw" ∈ gnest := n_in (List.mem_of_getElem? (i := 1549) (by decide +kernel)) (by decide +kernel)
theorem kk_1551 : Cond.code yX11_init cX11_init 1 none ∈ gtbl := g_in (List.mem_of_getElem? (i := 1551) (by decide +kernel)) (by decide +kernel)
theorem kk_1550 : Cond.instanceMethod yX11_init ∈ gtbl := g_in (List.mem_of_getElem? (i := 1550) (by decide +kernel)) (by decide +kernel)
theorem kj_L_34 : KIN RL 34 mX11_init 0 := ⟨⟨_, kn_1549⟩, kk_79, kk_1551, rfl, by decide +kernel, rfl, rfl, kk_1550⟩
theorem kk_1554 : Cond.fieldLink RL 41 RX11 "kind" "I" ∈ gtbl := g_in (List.mem_of_getElem? (i := 1554) (by decide +kernel)) (by decide +kernel)
theorem fl_L_41 : FL RL 41 11 0 (.int) false := ⟨RX11, TX11, 5, tyX11, rfl, by decide, il_11, tyX11_ok, nmX11, rfl, rfl, Or.inl kk_1554⟩
theorem kk_1556 : Cond.fieldLink RL 46 RX11 "number" "I" ∈ gtbl := g_in (List.mem_of_getElem? (i := 1556) (by decide +kernel)) (by decide +kernel)
theorem fl_L_46 : FL RL 46 11 1 (.int) false := ⟨RX11, TX11, 5, tyX11, rfl, by decide, il_11, tyX11_ok, nmX11, rfl, rfl, Or.inl kk_1556⟩
theorem kk_1574 : Cond.methodLink RL 49 yL_sum ∈ gtbl := g_in (List.mem_of_getElem? (i := 1574) (by decide +kernel)) (by decide +kernel)
theorem kk_1576 : Cond.code yL_sum cL_sum 6 (some (.object "StoryTapestryLaw$Tree")) ∈ gtbl := g_in (List.mem_of_getElem? (i := 1576) (by decide +kernel)) (by decide +kernel)
theorem kk_1575 : Cond.static yL_sum ∈ gtbl := g_in (List.mem_of_getElem? (i := 1575) (by decide +kernel)) (by decide +kernel)
theorem ks_L_49 : KS RL 49 mL_sum 4 := ⟨⟨kk_1574, kk_56, kk_1576, by decide +kernel⟩, rfl, kk_1575⟩
theorem kk_1560 : Cond.fieldLink RL 53 RX11 "a" "LStoryTapestryLaw$Tree;" ∈ gtbl := g_in (List.mem_of_getElem? (i := 1560) (by decide +kernel)) (by decide +kernel)
theorem fl_L_53 : FL RL 53 11 3 (.object "StoryTapestryLaw$Tree") false := ⟨RX11, TX11, 5, tyX11, rfl, by decide, il_11, tyX11_ok, nmX11, rfl, rfl, Or.inl kk_1560⟩
theorem kk_1562 : Cond.fieldLink RL 57 RX11 "b" "LStoryTapestryLaw$Tree;" ∈ gtbl := g_in (List.mem_of_getElem? (i := 1562) (by decide +kernel)) (by decide +kernel)
theorem fl_L_57 : FL RL 57 11 4 (.object "StoryTapestryLaw$Tree") false := ⟨RX11, TX11, 5, tyX11, rfl, by decide, il_11, tyX11_ok, nmX11, rfl, rfl, Or.inl kk_1562⟩
theorem kk_1577 : Cond.constant RL 45 (1000000) ∈ gtbl := g_in (List.mem_of_getElem? (i := 1577) (by decide +kernel)) (by decide +kernel)
abbrev mL_test : MT := (yL_test, cL_test, 6, (some (.object "StoryTapestryLaw$Tree")), [])
theorem kk_1558 : Cond.fieldLink RL 60 RX11 "other" "I" ∈ gtbl := g_in (List.mem_of_getElem? (i := 1558) (by decide +kernel)) (by decide +kernel)
theorem fl_L_60 : FL RL 60 11 2 (.int) false := ⟨RX11, TX11, 5, tyX11, rfl, by decide, il_11, tyX11_ok, nmX11, rfl, rfl, Or.inl kk_1558⟩
theorem kk_1546 : Cond.methodLink RL 63 yL_test ∈ gtbl := g_in (List.mem_of_getElem? (i := 1546) (by decide +kernel)) (by decide +kernel)
theorem kk_1548 : Cond.code yL_test cL_test 6 (some (.object "StoryTapestryLaw$Tree")) ∈ gtbl := g_in (List.mem_of_getElem? (i := 1548) (by decide +kernel)) (by decide +kernel)
theorem kk_1547 : Cond.static yL_test ∈ gtbl := g_in (List.mem_of_getElem? (i := 1547) (by decide +kernel)) (by decide +kernel)
theorem ks_L_63 : KS RL 63 mL_test 4 := ⟨⟨kk_1546, kk_56, kk_1548, by decide +kernel⟩, rfl, kk_1547⟩
