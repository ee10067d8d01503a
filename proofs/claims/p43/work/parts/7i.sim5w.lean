abbrev mX11_ofTwo : MT := (yX11_ofTwo, cX11_ofTwo, 3, (some .int), [])
theorem il_11 : ∀ w ∈ u_ws RX11 TX11 5, w ∈ gtbl := fun w hw => g_in ((by decide +kernel : ∀ w ∈ u_ws RX11 TX11 5, w ∈ lw_tbl) w hw) (List.all_eq_true.mp (by decide +kernel : (u_ws RX11 TX11 5).all goodWord = true) w hw)
theorem kk_1553 : Cond.fieldLink RX11 7 RX11 "kind" "I" ∈ gtbl := g_in (List.mem_of_getElem? (i := 1553) (by decide +kernel)) (by decide +kernel)
theorem fl_X11_7 : FL RX11 7 11 0 (.int) false := ⟨RX11, TX11, 5, tyX11, rfl, by decide, il_11, tyX11_ok, nmX11, rfl, rfl, Or.inl kk_1553⟩
abbrev mX11_of : MT := (yX11_of, cX11_of, 2, (some .int), [])
theorem kk_1555 : Cond.fieldLink RX11 13 RX11 "number" "I" ∈ gtbl := g_in (List.mem_of_getElem? (i := 1555) (by decide +kernel)) (by decide +kernel)
theorem fl_X11_13 : FL RX11 13 11 1 (.int) false := ⟨RX11, TX11, 5, tyX11, rfl, by decide, il_11, tyX11_ok, nmX11, rfl, rfl, Or.inl kk_1555⟩
theorem kk_1303 : Cond.fieldLink RX11 16 RX10 "evenings" "I" ∈ gtbl := g_in (List.mem_of_getElem? (i := 1303) (by decide +kernel)) (by decide +kernel)
theorem fl_X11_16 : FL RX11 16 10 6 (.int) false := ⟨RX10, TX10, 8, tyX10, rfl, by decide, il_10, tyX10_ok, nmX10, rfl, rfl, Or.inl kk_1303⟩
theorem kk_907 : Cond.methodLink RX11 21 yX10_liars ∈ gtbl := g_in (List.mem_of_getElem? (i := 907) (by decide +kernel)) (by decide +kernel)
theorem kv_X11_21 : KV RX11 21 mX10_liars 0 := ⟨⟨kk_907, kk_73, kk_910, by decide +kernel⟩, rfl, kk_908, kk_909⟩
theorem kk_931 : Cond.methodLink RX11 25 yX10_count ∈ gtbl := g_in (List.mem_of_getElem? (i := 931) (by decide +kernel)) (by decide +kernel)
theorem kk_934 : Cond.code yX10_count cX10_count 7 (some .int) ∈ gtbl := g_in (List.mem_of_getElem? (i := 934) (by decide +kernel)) (by decide +kernel)
theorem kk_932 : Cond.instanceMethod yX10_count ∈ gtbl := g_in (List.mem_of_getElem? (i := 932) (by decide +kernel)) (by decide +kernel)
theorem kk_933 : Cond.selects RX10 yX10_count yX10_count ∈ gtbl := g_in (List.mem_of_getElem? (i := 933) (by decide +kernel)) (by decide +kernel)
theorem kv_X11_25 : KV RX11 25 mX10_count 1 := ⟨⟨kk_931, kk_73, kk_934, by decide +kernel⟩, rfl, kk_932, kk_933⟩
theorem kk_935 : Cond.methodLink RX11 29 yX10_pairs_ ∈ gtbl := g_in (List.mem_of_getElem? (i := 935) (by decide +kernel)) (by decide +kernel)
theorem kk_938 : Cond.code yX10_pairs_ cX10_pairs_ 5 (some .int) ∈ gtbl := g_in (List.mem_of_getElem? (i := 938) (by decide +kernel)) (by decide +kernel)
theorem kk_936 : Cond.instanceMethod yX10_pairs_ ∈ gtbl := g_in (List.mem_of_getElem? (i := 936) (by decide +kernel)) (by decide +kernel)
theorem kk_937 : Cond.selects RX10 yX10_pairs_ yX10_pairs_ ∈ gtbl := g_in (List.mem_of_getElem? (i := 937) (by decide +kernel)) (by decide +kernel)
theorem kv_X11_29 : KV RX11 29 mX10_pairs_ 1 := ⟨⟨kk_935, kk_73, kk_938, by decide +kernel⟩, rfl, kk_936, kk_937⟩
theorem kk_939 : Cond.methodLink RX11 33 yX10_claimsOf ∈ gtbl := g_in (List.mem_of_getElem? (i := 939) (by decide +kernel)) (by decide +kernel)
theorem kk_942 : Cond.code yX10_claimsOf cX10_claimsOf 7 (some .int) ∈ gtbl := g_in (List.mem_of_getElem? (i := 942) (by decide +kernel)) (by decide +kernel)
theorem kk_940 : Cond.instanceMethod yX10_claimsOf ∈ gtbl := g_in (List.mem_of_getElem? (i := 940) (by decide +kernel)) (by decide +kernel)
theorem kk_941 : Cond.selects RX10 yX10_claimsOf yX10_claimsOf ∈ gtbl := g_in (List.mem_of_getElem? (i := 941) (by decide +kernel)) (by decide +kernel)
theorem kv_X11_33 : KV RX11 33 mX10_claimsOf 1 := ⟨⟨kk_939, kk_73, kk_942, by decide +kernel⟩, rfl, kk_940, kk_941⟩
theorem kk_943 : Cond.methodLink RX11 36 yX10_window ∈ gtbl := g_in (List.mem_of_getElem? (i := 943) (by decide +kernel)) (by decide +kernel)
theorem kk_946 : Cond.code yX10_window cX10_window 9 (some (.array .int)) ∈ gtbl := g_in (List.mem_of_getElem? (i := 946) (by decide +kernel)) (by decide +kernel)
theorem kk_944 : Cond.instanceMethod yX10_window ∈ gtbl := g_in (List.mem_of_getElem? (i := 944) (by decide +kernel)) (by decide +kernel)
theorem kk_945 : Cond.selects RX10 yX10_window yX10_window ∈ gtbl := g_in (List.mem_of_getElem? (i := 945) (by decide +kernel)) (by decide +kernel)
theorem kv_X11_36 : KV RX11 36 mX10_window 1 := ⟨⟨kk_943, kk_73, kk_946, by decide +kernel⟩, rfl, kk_944, kk_945⟩
theorem kk_1559 : Cond.fieldLink RX11 40 RX11 "a" "LStoryTapestryLaw$Tree;" ∈ gtbl := g_in (List.mem_of_getElem? (i := 1559) (by decide +kernel)) (by decide +kernel)
theorem fl_X11_40 : FL RX11 40 11 3 (.object "StoryTapestryLaw$Tree") false := ⟨RX11, TX11, 5, tyX11, rfl, by decide, il_11, tyX11_ok, nmX11, rfl, rfl, Or.inl kk_1559⟩
theorem kk_947 : Cond.methodLink RX11 44 yX11_of ∈ gtbl := g_in (List.mem_of_getElem? (i := 947) (by decide +kernel)) (by decide +kernel)
theorem kk_79 : Cond.initialized RX11 ∈ gtbl := g_in (List.mem_of_getElem? (i := 79) (by decide +kernel)) (by decide +kernel)
theorem kk_906 : Cond.code yX11_of cX11_of 2 (some .int) ∈ gtbl := g_in (List.mem_of_getElem? (i := 906) (by decide +kernel)) (by decide +kernel)
theorem kk_904 : Cond.instanceMethod yX11_of ∈ gtbl := g_in (List.mem_of_getElem? (i := 904) (by decide +kernel)) (by decide +kernel)
theorem kk_905 : Cond.selects RX11 yX11_of yX11_of ∈ gtbl := g_in (List.mem_of_getElem? (i := 905) (by decide +kernel)) (by decide +kernel)
theorem kv_X11_44 : KV RX11 44 mX11_of 1 := ⟨⟨kk_947, kk_79, kk_906, by decide +kernel⟩, rfl, kk_904, kk_905⟩
theorem kk_1561 : Cond.fieldLink RX11 59 RX11 "b" "LStoryTapestryLaw$Tree;" ∈ gtbl := g_in (List.mem_of_getElem? (i := 1561) (by decide +kernel)) (by decide +kernel)
theorem fl_X11_59 : FL RX11 59 11 4 (.object "StoryTapestryLaw$Tree") false := ⟨RX11, TX11, 5, tyX11, rfl, by decide, il_11, tyX11_ok, nmX11, rfl, rfl, Or.inl kk_1561⟩
theorem kk_949 : Cond.methodLink RX11 62 yX11_ofTwo ∈ gtbl := g_in (List.mem_of_getElem? (i := 949) (by decide +kernel)) (by decide +kernel)
theorem kk_953 : Cond.code yX11_ofTwo cX11_ofTwo 3 (some .int) ∈ gtbl := g_in (List.mem_of_getElem? (i := 953) (by decide +kernel)) (by decide +kernel)
theorem kk_951 : Cond.instanceMethod yX11_ofTwo ∈ gtbl := g_in (List.mem_of_getElem? (i := 951) (by decide +kernel)) (by decide +kernel)
theorem kk_25 : Cond.selects RX11 yX11_ofTwo yX11_ofTwo ∈ gtbl := g_in (List.mem_of_getElem? (i := 25) (by decide +kernel)) (by decide +kernel)
theorem kv_X11_62 : KV RX11 62 mX11_ofTwo 2 := ⟨⟨kk_949, kk_79, kk_953, by decide +kernel⟩, rfl, kk_951, kk_25⟩
theorem kk_1557 : Cond.fieldLink RX11 48 RX11 "other" "I" ∈ gtbl := g_in (List.mem_of_getElem? (i := 1557) (by decide +kernel)) (by decide +kernel)
theorem fl_X11_48 : FL RX11 48 11 2 (.int) false := ⟨RX11, TX11, 5, tyX11, rfl, by decide, il_11, tyX11_ok, nmX11, rfl, rfl, Or.inl kk_1557⟩
theorem kk_948 : Cond.methodLink RX11 51 yX10_contradict ∈ gtbl := g_in (List.mem_of_getElem? (i := 948) (by decide +kernel)) (by decide +kernel)
theorem kv_X11_51 : KV RX11 51 mX10_contradict 2 := ⟨⟨kk_948, kk_73, kk_916, by decide +kernel⟩, rfl, kk_914, kk_915⟩
theorem kk_1297 : Cond.fieldLink RX11 55 RX10 "isDoubted" "[Z" ∈ gtbl := g_in (List.mem_of_getElem? (i := 1297) (by decide +kernel)) (by decide +kernel)
theorem fl_X11_55 : FL RX11 55 10 3 (.array (.boolean)) false := ⟨RX10, TX10, 8, tyX10, rfl, by decide, il_10, tyX10_ok, nmX10, rfl, rfl, Or.inl kk_1297⟩
abbrev mX10_pass : MT := (yX10_pass, cX10_pass, 3, none, [])
theorem kk_1304 : Cond.fieldLink RX10 36 RX10 "evenings" "I" ∈ gtbl := g_in (List.mem_of_getElem? (i := 1304) (by decide +kernel)) (by decide +kernel)
theorem fl_X10_36 : FL RX10 36 10 6 (.int) false := ⟨RX10, TX10, 8, tyX10, rfl, by decide, il_10, tyX10_ok, nmX10, rfl, rfl, Or.inl kk_1304⟩
theorem kk_1306 : Cond.fieldLink RX10 39 RX10 "carried" "I" ∈ gtbl := g_in (List.mem_of_getElem? (i := 1306) (by decide +kernel)) (by decide +kernel)
theorem fl_X10_39 : FL RX10 39 10 7 (.int) false := ⟨RX10, TX10, 8, tyX10, rfl, by decide, il_10, tyX10_ok, nmX10, rfl, rfl, Or.inl kk_1306⟩
theorem kk_903 : Cond.methodLink RX10 68 yX11_of ∈ gtbl := g_in (List.mem_of_getElem? (i := 903) (by decide +kernel)) (by decide +kernel)
theorem kv_X10_68 : KV RX10 68 mX11_of 1 := ⟨⟨kk_903, kk_79, kk_906, by decide +kernel⟩, rfl, kk_904, kk_905⟩
