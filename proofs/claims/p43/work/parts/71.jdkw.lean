abbrev mJ5_init_d00df : MT := (yJ5_init_d00df, cJ5_init_d00df, 2, none, [])
theorem kk_1467 : Cond.methodLink RJ5 3 Lib.objectInit ∈ gtbl := g_in (List.mem_of_getElem? (i := 1467) (by decide +kernel)) (by decide +kernel)
theorem ko_J5_3 : KO RJ5 3 := ⟨kk_1467, kk_93, kk_94⟩
theorem kk_1373 : Cond.fieldLink RJ5 18 "java/lang/String" "COMPACT_STRINGS" "Z" ∈ gtbl := g_in (List.mem_of_getElem? (i := 1373) (by decide +kernel)) (by decide +kernel)
theorem kk_373 : Cond.arrayClass .byte ∈ gtbl := g_in (List.mem_of_getElem? (i := 373) (by decide +kernel)) (by decide +kernel)
theorem il_13 : ∀ w ∈ u_ws RJ4 TJ4 4, w ∈ gtbl := fun w hw => g_in ((by decide +kernel : ∀ w ∈ u_ws RJ4 TJ4 4, w ∈ lw_tbl) w hw) (List.all_eq_true.mp (by decide +kernel : (u_ws RJ4 TJ4 4).all goodWord = true) w hw)
theorem kk_1468 : Cond.fieldLink RJ5 15 "java/lang/AbstractStringBuilder" "value" "[B" ∈ gtbl := g_in (List.mem_of_getElem? (i := 1468) (by decide +kernel)) (by decide +kernel)
theorem fl_J5_15 : FL RJ5 15 13 0 (.array (.byte)) false := ⟨RJ4, TJ4, 4, tyJ4, rfl, by decide, il_13, tyJ4_ok, nmJ4, rfl, rfl, Or.inl kk_1468⟩
theorem kk_1469 : Cond.fieldLink RJ5 22 "java/lang/AbstractStringBuilder" "coder" "B" ∈ gtbl := g_in (List.mem_of_getElem? (i := 1469) (by decide +kernel)) (by decide +kernel)
theorem fl_J5_22 : FL RJ5 22 13 1 (.byte) false := ⟨RJ4, TJ4, 4, tyJ4, rfl, by decide, il_13, tyJ4_ok, nmJ4, rfl, rfl, Or.inl kk_1469⟩
abbrev mJ4_init_da8c8 : MT := (yJ4_init_da8c8, cJ4_init_da8c8, 1, none, [])
theorem kk_1464 : Cond.methodLink RJ4 1 yJ5_init_d00df ∈ gtbl := g_in (List.mem_of_getElem? (i := 1464) (by decide +kernel)) (by decide +kernel)
theorem kk_71 : Cond.initialized RJ5 ∈ gtbl := g_in (List.mem_of_getElem? (i := 71) (by decide +kernel)) (by decide +kernel)
theorem kk_1466 : Cond.code yJ5_init_d00df cJ5_init_d00df 2 none ∈ gtbl := g_in (List.mem_of_getElem? (i := 1466) (by decide +kernel)) (by decide +kernel)
theorem kk_1465 : Cond.instanceMethod yJ5_init_d00df ∈ gtbl := g_in (List.mem_of_getElem? (i := 1465) (by decide +kernel)) (by decide +kernel)
theorem ki_J4_1 : KI RJ4 1 mJ5_init_d00df 1 := ⟨⟨kk_1464, kk_71, kk_1466, by decide +kernel⟩, rfl, rfl, rfl, kk_1465⟩
abbrev mJ8_newLength_cabcc : MT := (yJ8_newLength_cabcc, cJ8_newLength_cabcc, 4, (some .int), [])
theorem kk_1348 : Cond.methodLink RJ8 194 yJ9_max_7cf53 ∈ gtbl := g_in (List.mem_of_getElem? (i := 1348) (by decide +kernel)) (by decide +kernel)
theorem ks_J8_194 : KS RJ8 194 mJ9_max_7cf53 2 := ⟨⟨kk_1348, kk_75, kk_728, by decide +kernel⟩, rfl, kk_727⟩
theorem kk_1349 : Cond.constant RJ8 200 (2147483639) ∈ gtbl := g_in (List.mem_of_getElem? (i := 1349) (by decide +kernel)) (by decide +kernel)
abbrev mJ5_newCapacity_0f7a4 : MT := (yJ5_newCapacity_0f7a4, cJ5_newCapacity_0f7a4, 6, (some .int), [])
theorem kk_1345 : Cond.methodLink RJ5 114 yJ8_newLength_cabcc ∈ gtbl := g_in (List.mem_of_getElem? (i := 1345) (by decide +kernel)) (by decide +kernel)
theorem kk_74 : Cond.initialized RJ8 ∈ gtbl := g_in (List.mem_of_getElem? (i := 74) (by decide +kernel)) (by decide +kernel)
theorem kk_1347 : Cond.code yJ8_newLength_cabcc cJ8_newLength_cabcc 4 (some .int) ∈ gtbl := g_in (List.mem_of_getElem? (i := 1347) (by decide +kernel)) (by decide +kernel)
theorem kk_1346 : Cond.static yJ8_newLength_cabcc ∈ gtbl := g_in (List.mem_of_getElem? (i := 1346) (by decide +kernel)) (by decide +kernel)
theorem ks_J5_114 : KS RJ5 114 mJ8_newLength_cabcc 3 := ⟨⟨kk_1345, kk_74, kk_1347, by decide +kernel⟩, rfl, kk_1346⟩
theorem kk_1353 : Cond.constant RJ5 39 (2147483647) ∈ gtbl := g_in (List.mem_of_getElem? (i := 1353) (by decide +kernel)) (by decide +kernel)
abbrev mJ7_copyOf_9075b : MT := (yJ7_copyOf_9075b, cJ7_copyOf_9075b, 3, (some (.array .byte)), [])
theorem kk_1364 : Cond.methodLink RJ7 304 yJ9_min_7cf53 ∈ gtbl := g_in (List.mem_of_getElem? (i := 1364) (by decide +kernel)) (by decide +kernel)
theorem ks_J7_304 : KS RJ7 304 mJ9_min_7cf53 2 := ⟨⟨kk_1364, kk_75, kk_721, by decide +kernel⟩, rfl, kk_720⟩
theorem kk_1367 : Cond.native arraycopyName ∈ gtbl := g_in (List.mem_of_getElem? (i := 1367) (by decide +kernel)) (by decide +kernel)
theorem kk_1366 : Cond.static arraycopyName ∈ gtbl := g_in (List.mem_of_getElem? (i := 1366) (by decide +kernel)) (by decide +kernel)
theorem kk_77 : Cond.initialized "java/lang/System" ∈ gtbl := g_in (List.mem_of_getElem? (i := 77) (by decide +kernel)) (by decide +kernel)
theorem kk_1365 : Cond.methodLink RJ7 150 arraycopyName ∈ gtbl := g_in (List.mem_of_getElem? (i := 1365) (by decide +kernel)) (by decide +kernel)
abbrev mJ5_ensureCapacityInternal_d00df : MT := (yJ5_ensureCapacityInternal_d00df, cJ5_ensureCapacityInternal_d00df, 3, none, [])
theorem kk_1341 : Cond.methodLink RJ5 104 yJ5_newCapacity_0f7a4 ∈ gtbl := g_in (List.mem_of_getElem? (i := 1341) (by decide +kernel)) (by decide +kernel)
theorem kk_1670 : Cond.sameMethod RJ5 RJ5 "newCapacity" "(I)I" ∈ gtbl := g_in (List.mem_of_getElem? (i := 1670) (by decide +kernel)) (by decide +kernel)
theorem kk_1343 : Cond.instanceMethod yJ5_newCapacity_0f7a4 ∈ gtbl := g_in (List.mem_of_getElem? (i := 1343) (by decide +kernel)) (by decide +kernel)
theorem kk_1344 : Cond.code yJ5_newCapacity_0f7a4 cJ5_newCapacity_0f7a4 6 (some .int) ∈ gtbl := g_in (List.mem_of_getElem? (i := 1344) (by decide +kernel)) (by decide +kernel)
abbrev mJ5_isLatin1_aae02 : MT := (yJ5_isLatin1_aae02, cJ5_isLatin1_aae02, 1, (some .boolean), [])
theorem kk_1371 : Cond.selects RJ4 yJ5_isLatin1_aae02 yJ5_isLatin1_aae02 ∈ gtbl := g_in (List.mem_of_getElem? (i := 1371) (by decide +kernel)) (by decide +kernel)
theorem kn_1342 : Cond.privateMethod yJ5_newCapacity_0f7a4 ∈ gnest := n_in (List.mem_of_getElem? (i := 1342) (by decide +kernel)) (by decide +kernel)
theorem ku_J5_104 : KU RJ5 104 RJ4 RJ5 yJ5_newCapacity_0f7a4 mJ5_newCapacity_0f7a4 1 := ⟨⟨kk_1341, kk_1670, kk_1343, kk_71, kk_1344⟩, ⟨kk_1343, _, _, _, kk_1344⟩, Or.inr ⟨rfl, kn_1342, by decide +kernel, _, kk_1371, rfl⟩, rfl, by decide +kernel⟩
theorem kk_1354 : Cond.methodLink RJ5 108 yJ7_copyOf_9075b ∈ gtbl := g_in (List.mem_of_getElem? (i := 1354) (by decide +kernel)) (by decide +kernel)
theorem kk_76 : Cond.initialized RJ7 ∈ gtbl := g_in (List.mem_of_getElem? (i := 76) (by decide +kernel)) (by decide +kernel)
theorem kk_1356 : Cond.code yJ7_copyOf_9075b cJ7_copyOf_9075b 3 (some (.array .byte)) ∈ gtbl := g_in (List.mem_of_getElem? (i := 1356) (by decide +kernel)) (by decide +kernel)
theorem kk_1355 : Cond.static yJ7_copyOf_9075b ∈ gtbl := g_in (List.mem_of_getElem? (i := 1355) (by decide +kernel)) (by decide +kernel)
theorem ks_J5_108 : KS RJ5 108 mJ7_copyOf_9075b 2 := ⟨⟨kk_1354, kk_76, kk_1356, by decide +kernel⟩, rfl, kk_1355⟩
abbrev mJ5_inflateIfNeededFor_a7421 : MT := (yJ5_inflateIfNeededFor_a7421, cJ5_inflateIfNeededFor_a7421, 2, none, [])
theorem kk_1389 : Cond.methodLink RJ5 40 yJ0_coder_7d493 ∈ gtbl := g_in (List.mem_of_getElem? (i := 1389) (by decide +kernel)) (by decide +kernel)
theorem kv_J5_40 : KV RJ5 40 mJ0_coder_7d493 0 := ⟨⟨kk_1389, kk_66, kk_287, by decide +kernel⟩, rfl, kk_285, kk_286⟩
abbrev mJ0_getBytes_840e7 : MT := (yJ0_getBytes_840e7, cJ0_getBytes_840e7, 4, none, [])
theorem kk_1420 : Cond.methodLink RJ0 212 arraycopyName ∈ gtbl := g_in (List.mem_of_getElem? (i := 1420) (by decide +kernel)) (by decide +kernel)
abbrev mJ5_putStringAt_47b60 : MT := (yJ5_putStringAt_47b60, cJ5_putStringAt_47b60, 3, none, [])
theorem kk_1385 : Cond.methodLink RJ5 397 yJ5_inflateIfNeededFor_a7421 ∈ gtbl := g_in (List.mem_of_getElem? (i := 1385) (by decide +kernel)) (by decide +kernel)
theorem kk_1672 : Cond.sameMethod RJ5 RJ5 "inflateIfNeededFor" "(Ljava/lang/String;)V" ∈ gtbl := g_in (List.mem_of_getElem? (i := 1672) (by decide +kernel)) (by decide +kernel)
theorem kk_1387 : Cond.instanceMethod yJ5_inflateIfNeededFor_a7421 ∈ gtbl := g_in (List.mem_of_getElem? (i := 1387) (by decide +kernel)) (by decide +kernel)
theorem kk_1388 : Cond.code yJ5_inflateIfNeededFor_a7421 cJ5_inflateIfNeededFor_a7421 2 none ∈ gtbl := g_in (List.mem_of_getElem? (i := 1388) (by decide +kernel)) (by decide +kernel)
theorem kn_1386 : Cond.privateMethod yJ5_inflateIfNeededFor_a7421 ∈ gnest := n_in (List.mem_of_getElem? (i := 1386) (by decide +kernel)) (by decide +kernel)
theorem ku_J5_397 : KU RJ5 397 RJ4 RJ5 yJ5_inflateIfNeededFor_a7421 mJ5_inflateIfNeededFor_a7421 1 := ⟨⟨kk_1385, kk_1672, kk_1387, kk_71, kk_1388⟩, ⟨kk_1387, _, _, _, kk_1388⟩, Or.inr ⟨rfl, kn_1386, by decide +kernel, _, kk_1371, rfl⟩, rfl, by decide +kernel⟩
theorem kk_1416 : Cond.methodLink RJ5 399 yJ0_getBytes_840e7 ∈ gtbl := g_in (List.mem_of_getElem? (i := 1416) (by decide +kernel)) (by decide +kernel)
theorem kk_1419 : Cond.code yJ0_getBytes_840e7 cJ0_getBytes_840e7 4 none ∈ gtbl := g_in (List.mem_of_getElem? (i := 1419) (by decide +kernel)) (by decide +kernel)
theorem kk_1417 : Cond.instanceMethod yJ0_getBytes_840e7 ∈ gtbl := g_in (List.mem_of_getElem? (i := 1417) (by decide +kernel)) (by decide +kernel)
theorem kk_1418 : Cond.selects RJ0 yJ0_getBytes_840e7 yJ0_getBytes_840e7 ∈ gtbl := g_in (List.mem_of_getElem? (i := 1418) (by decide +kernel)) (by decide +kernel)
theorem kv_J5_399 : KV RJ5 399 mJ0_getBytes_840e7 3 := ⟨⟨kk_1416, kk_66, kk_1419, by decide +kernel⟩, rfl, kk_1417, kk_1418⟩
abbrev mJ5_append_cf1ce : MT := (yJ5_append_cf1ce, cJ5_append_cf1ce, 3, (some (.object "java/lang/AbstractStringBuilder")), [])
theorem kk_1380 : Cond.methodLink RJ5 32 yJ0_length_8abf5 ∈ gtbl := g_in (List.mem_of_getElem? (i := 1380) (by decide +kernel)) (by decide +kernel)
theorem kv_J5_32 : KV RJ5 32 mJ0_length_8abf5 0 := ⟨⟨kk_1380, kk_66, kk_283, by decide +kernel⟩, rfl, kk_281, kk_282⟩
theorem kk_1471 : Cond.fieldLink RJ5 79 "java/lang/AbstractStringBuilder" "count" "I" ∈ gtbl := g_in (List.mem_of_getElem? (i := 1471) (by decide +kernel)) (by decide +kernel)
theorem fl_J5_79 : FL RJ5 79 13 3 (.int) false := ⟨RJ4, TJ4, 4, tyJ4, rfl, by decide, il_13, tyJ4_ok, nmJ4, rfl, rfl, Or.inl kk_1471⟩
theorem kk_1337 : Cond.methodLink RJ5 100 yJ5_ensureCapacityInternal_d00df ∈ gtbl := g_in (List.mem_of_getElem? (i := 1337) (by decide +kernel)) (by decide +kernel)
theorem kk_1669 : Cond.sameMethod RJ5 RJ5 "ensureCapacityInternal" "(I)V" ∈ gtbl := g_in (List.mem_of_getElem? (i := 1669) (by decide +kernel)) (by decide +kernel)
theorem kk_1339 : Cond.instanceMethod yJ5_ensureCapacityInternal_d00df ∈ gtbl := g_in (List.mem_of_getElem? (i := 1339) (by decide +kernel)) (by decide +kernel)
theorem kk_1340 : Cond.code yJ5_ensureCapacityInternal_d00df cJ5_ensureCapacityInternal_d00df 3 none ∈ gtbl := g_in (List.mem_of_getElem? (i := 1340) (by decide +kernel)) (by decide +kernel)
theorem kn_1338 : Cond.privateMethod yJ5_ensureCapacityInternal_d00df ∈ gnest := n_in (List.mem_of_getElem? (i := 1338) (by decide +kernel)) (by decide +kernel)
theorem ku_J5_100 : KU RJ5 100 RJ4 RJ5 yJ5_ensureCapacityInternal_d00df mJ5_ensureCapacityInternal_d00df 1 := ⟨⟨kk_1337, kk_1669, kk_1339, kk_71, kk_1340⟩, ⟨kk_1339, _, _, _, kk_1340⟩, Or.inr ⟨rfl, kn_1338, by decide +kernel, _, kk_1371, rfl⟩, rfl, by decide +kernel⟩
theorem kk_1381 : Cond.methodLink RJ5 208 yJ5_putStringAt_47b60 ∈ gtbl := g_in (List.mem_of_getElem? (i := 1381) (by decide +kernel)) (by decide +kernel)
theorem kk_1671 : Cond.sameMethod RJ5 RJ5 "putStringAt" "(ILjava/lang/String;)V" ∈ gtbl := g_in (List.mem_of_getElem? (i := 1671) (by decide +kernel)) (by decide +kernel)
theorem kk_1383 : Cond.instanceMethod yJ5_putStringAt_47b60 ∈ gtbl := g_in (List.mem_of_getElem? (i := 1383) (by decide +kernel)) (by decide +kernel)
theorem kk_1384 : Cond.code yJ5_putStringAt_47b60 cJ5_putStringAt_47b60 3 none ∈ gtbl := g_in (List.mem_of_getElem? (i := 1384) (by decide +kernel)) (by decide +kernel)
theorem kn_1382 : Cond.privateMethod yJ5_putStringAt_47b60 ∈ gnest := n_in (List.mem_of_getElem? (i := 1382) (by decide +kernel)) (by decide +kernel)
theorem ku_J5_208 : KU RJ5 208 RJ4 RJ5 yJ5_putStringAt_47b60 mJ5_putStringAt_47b60 2 := ⟨⟨kk_1381, kk_1671, kk_1383, kk_71, kk_1384⟩, ⟨kk_1383, _, _, _, kk_1384⟩, Or.inr ⟨rfl, kn_1382, by decide +kernel, _, kk_1371, rfl⟩, rfl, by decide +kernel⟩
abbrev mJ4_append_15ec4 : MT := (yJ4_append_15ec4, cJ4_append_15ec4, 2, (some (.object "java/lang/StringBuilder")), [])
theorem kk_1329 : Cond.methodLink RJ4 29 yJ5_append_cf1ce ∈ gtbl := g_in (List.mem_of_getElem? (i := 1329) (by decide +kernel)) (by decide +kernel)
theorem kk_1667 : Cond.sameMethod RJ5 RJ5 "append" "(Ljava/lang/String;)Ljava/lang/AbstractStringBuilder;" ∈ gtbl := g_in (List.mem_of_getElem? (i := 1667) (by decide +kernel)) (by decide +kernel)
theorem kk_1330 : Cond.superclass RJ4 RJ5 ∈ gtbl := g_in (List.mem_of_getElem? (i := 1330) (by decide +kernel)) (by decide +kernel)
theorem kk_1331 : Cond.instanceMethod yJ5_append_cf1ce ∈ gtbl := g_in (List.mem_of_getElem? (i := 1331) (by decide +kernel)) (by decide +kernel)
theorem kk_1332 : Cond.code yJ5_append_cf1ce cJ5_append_cf1ce 3 (some (.object "java/lang/AbstractStringBuilder")) ∈ gtbl := g_in (List.mem_of_getElem? (i := 1332) (by decide +kernel)) (by decide +kernel)
theorem ksu_J4_29 : KSU RJ4 29 mJ5_append_cf1ce 1 := ⟨⟨kk_1329, kk_1667, kk_1330, kk_1331, kk_71, kk_1332⟩, rfl, by decide +kernel⟩
theorem il_12 : ∀ w ∈ u_ws RJ0 TJ0 4, w ∈ gtbl := fun w hw => g_in ((by decide +kernel : ∀ w ∈ u_ws RJ0 TJ0 4, w ∈ lw_tbl) w hw) (List.all_eq_true.mp (by decide +kernel : (u_ws RJ0 TJ0 4).all goodWord = true) w hw)
theorem fl_J0_15 : FL RJ0 15 12 1 (.byte) true := ⟨RJ0, TJ0, 4, tyJ0, rfl, by decide, il_12, tyJ0_ok, nmJ0, rfl, rfl, Or.inl kk_1531⟩
theorem fl_J0_9 : FL RJ0 9 12 0 (.array (.byte)) true := ⟨RJ0, TJ0, 4, tyJ0, rfl, by decide, il_12, tyJ0_ok, nmJ0, rfl, rfl, Or.inl kk_1530⟩
