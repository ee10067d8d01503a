abbrev mJ6_stringSize_0f7a4 : MT := (yJ6_stringSize_0f7a4, cJ6_stringSize_0f7a4, 4, (some .int), [])
abbrev mJ6_getChars_ba4f3 : MT := (yJ6_getChars_ba4f3, cJ6_getChars_ba4f3, 7, (some .int), [])
theorem kk_1435 : Cond.fieldLink RJ6 83 "java/lang/Integer" "DigitOnes" "[B" ∈ gtbl := g_in (List.mem_of_getElem? (i := 1435) (by decide +kernel)) (by decide +kernel)
theorem kk_1437 : Cond.fieldLink RJ6 87 "java/lang/Integer" "DigitTens" "[B" ∈ gtbl := g_in (List.mem_of_getElem? (i := 1437) (by decide +kernel)) (by decide +kernel)
abbrev mJ5_length_8abf5 : MT := (yJ5_length_8abf5, cJ5_length_8abf5, 1, (some .int), [])
abbrev mJ5_getValue_6d5f1 : MT := (yJ5_getValue_6d5f1, cJ5_getValue_6d5f1, 1, (some (.array .byte)), [])
abbrev mJ4_length_8abf5 : MT := (yJ4_length_8abf5, cJ4_length_8abf5, 1, (some .int), [])
theorem kk_1508 : Cond.methodLink RJ4 343 yJ5_length_8abf5 ∈ gtbl := g_in (List.mem_of_getElem? (i := 1508) (by decide +kernel)) (by decide +kernel)
theorem kk_1504 : Cond.sameMethod RJ5 RJ5 "length" "()I" ∈ gtbl := g_in (List.mem_of_getElem? (i := 1504) (by decide +kernel)) (by decide +kernel)
theorem kk_1503 : Cond.instanceMethod yJ5_length_8abf5 ∈ gtbl := g_in (List.mem_of_getElem? (i := 1503) (by decide +kernel)) (by decide +kernel)
theorem kk_1509 : Cond.code yJ5_length_8abf5 cJ5_length_8abf5 1 (some .int) ∈ gtbl := g_in (List.mem_of_getElem? (i := 1509) (by decide +kernel)) (by decide +kernel)
theorem ksu_J4_343 : KSU RJ4 343 mJ5_length_8abf5 0 := ⟨⟨kk_1508, kk_1504, kk_1330, kk_1503, kk_71, kk_1509⟩, rfl, by decide +kernel⟩
abbrev mJ5_append_c97b9 : MT := (yJ5_append_c97b9, cJ5_append_c97b9, 4, (some (.object "java/lang/AbstractStringBuilder")), [])
theorem kk_1429 : Cond.methodLink RJ5 245 yJ6_stringSize_0f7a4 ∈ gtbl := g_in (List.mem_of_getElem? (i := 1429) (by decide +kernel)) (by decide +kernel)
theorem kk_1431 : Cond.code yJ6_stringSize_0f7a4 cJ6_stringSize_0f7a4 4 (some .int) ∈ gtbl := g_in (List.mem_of_getElem? (i := 1431) (by decide +kernel)) (by decide +kernel)
theorem kk_1430 : Cond.static yJ6_stringSize_0f7a4 ∈ gtbl := g_in (List.mem_of_getElem? (i := 1430) (by decide +kernel)) (by decide +kernel)
theorem ks_J5_245 : KS RJ5 245 mJ6_stringSize_0f7a4 1 := ⟨⟨kk_1429, kk_78, kk_1431, by decide +kernel⟩, rfl, kk_1430⟩
theorem kk_1368 : Cond.methodLink RJ5 83 yJ5_isLatin1_aae02 ∈ gtbl := g_in (List.mem_of_getElem? (i := 1368) (by decide +kernel)) (by decide +kernel)
theorem kk_1370 : Cond.sameMethod RJ5 RJ5 "isLatin1" "()Z" ∈ gtbl := g_in (List.mem_of_getElem? (i := 1370) (by decide +kernel)) (by decide +kernel)
theorem kk_1369 : Cond.instanceMethod yJ5_isLatin1_aae02 ∈ gtbl := g_in (List.mem_of_getElem? (i := 1369) (by decide +kernel)) (by decide +kernel)
theorem kk_1372 : Cond.code yJ5_isLatin1_aae02 cJ5_isLatin1_aae02 1 (some .boolean) ∈ gtbl := g_in (List.mem_of_getElem? (i := 1372) (by decide +kernel)) (by decide +kernel)
theorem ku_J5_83 : KU RJ5 83 RJ4 RJ5 yJ5_isLatin1_aae02 mJ5_isLatin1_aae02 0 := ⟨⟨kk_1368, kk_1370, kk_1369, kk_71, kk_1372⟩, ⟨kk_1369, _, _, _, kk_1372⟩, Or.inl kk_1371, rfl, by decide +kernel⟩
theorem kk_1432 : Cond.methodLink RJ5 248 yJ6_getChars_ba4f3 ∈ gtbl := g_in (List.mem_of_getElem? (i := 1432) (by decide +kernel)) (by decide +kernel)
theorem kk_1434 : Cond.code yJ6_getChars_ba4f3 cJ6_getChars_ba4f3 7 (some .int) ∈ gtbl := g_in (List.mem_of_getElem? (i := 1434) (by decide +kernel)) (by decide +kernel)
theorem kk_1433 : Cond.static yJ6_getChars_ba4f3 ∈ gtbl := g_in (List.mem_of_getElem? (i := 1433) (by decide +kernel)) (by decide +kernel)
theorem ks_J5_248 : KS RJ5 248 mJ6_getChars_ba4f3 3 := ⟨⟨kk_1432, kk_78, kk_1434, by decide +kernel⟩, rfl, kk_1433⟩
abbrev mJ4_append_bf812 : MT := (yJ4_append_bf812, cJ4_append_bf812, 2, (some (.object "java/lang/StringBuilder")), [])
theorem kk_1426 : Cond.methodLink RJ4 53 yJ5_append_c97b9 ∈ gtbl := g_in (List.mem_of_getElem? (i := 1426) (by decide +kernel)) (by decide +kernel)
theorem kk_1674 : Cond.sameMethod RJ5 RJ5 "append" "(I)Ljava/lang/AbstractStringBuilder;" ∈ gtbl := g_in (List.mem_of_getElem? (i := 1674) (by decide +kernel)) (by decide +kernel)
theorem kk_1427 : Cond.instanceMethod yJ5_append_c97b9 ∈ gtbl := g_in (List.mem_of_getElem? (i := 1427) (by decide +kernel)) (by decide +kernel)
theorem kk_1428 : Cond.code yJ5_append_c97b9 cJ5_append_c97b9 4 (some (.object "java/lang/AbstractStringBuilder")) ∈ gtbl := g_in (List.mem_of_getElem? (i := 1428) (by decide +kernel)) (by decide +kernel)
theorem ksu_J4_53 : KSU RJ4 53 mJ5_append_c97b9 1 := ⟨⟨kk_1426, kk_1674, kk_1330, kk_1427, kk_71, kk_1428⟩, rfl, by decide +kernel⟩
abbrev mJ7_checkLength_df160 : MT := (yJ7_checkLength_df160, cJ7_checkLength_df160, 2, none, [])
abbrev mJ7_copyOfRangeByte_39247 : MT := (yJ7_copyOfRangeByte_39247, cJ7_copyOfRangeByte_39247, 5, (some (.array .byte)), [])
theorem kk_1517 : Cond.methodLink RJ7 343 yJ7_checkLength_df160 ∈ gtbl := g_in (List.mem_of_getElem? (i := 1517) (by decide +kernel)) (by decide +kernel)
theorem kk_1519 : Cond.code yJ7_checkLength_df160 cJ7_checkLength_df160 2 none ∈ gtbl := g_in (List.mem_of_getElem? (i := 1519) (by decide +kernel)) (by decide +kernel)
theorem kk_1518 : Cond.static yJ7_checkLength_df160 ∈ gtbl := g_in (List.mem_of_getElem? (i := 1518) (by decide +kernel)) (by decide +kernel)
theorem ks_J7_343 : KS RJ7 343 mJ7_checkLength_df160 2 := ⟨⟨kk_1517, kk_76, kk_1519, by decide +kernel⟩, rfl, kk_1518⟩
abbrev mJ7_copyOfRange_39247 : MT := (yJ7_copyOfRange_39247, cJ7_copyOfRange_39247, 3, (some (.array .byte)), [])
theorem kk_1357 : Cond.methodLink RJ7 310 ⟨"[B", "clone", "()Ljava/lang/Object;"⟩ ∈ gtbl := g_in (List.mem_of_getElem? (i := 1357) (by decide +kernel)) (by decide +kernel)
theorem kk_1358 : Cond.sameMethod "[B" "java/lang/Object" "clone" "()Ljava/lang/Object;" ∈ gtbl := g_in (List.mem_of_getElem? (i := 1358) (by decide +kernel)) (by decide +kernel)
theorem kk_1359 : Cond.native ⟨"java/lang/Object", "clone", "()Ljava/lang/Object;"⟩ ∈ gtbl := g_in (List.mem_of_getElem? (i := 1359) (by decide +kernel)) (by decide +kernel)
theorem kk_1360 : Cond.instanceMethod ⟨"java/lang/Object", "clone", "()Ljava/lang/Object;"⟩ ∈ gtbl := g_in (List.mem_of_getElem? (i := 1360) (by decide +kernel)) (by decide +kernel)
theorem kk_1361 : Cond.selects "[B" ⟨"[B", "clone", "()Ljava/lang/Object;"⟩ ⟨"java/lang/Object", "clone", "()Ljava/lang/Object;"⟩ ∈ gtbl := g_in (List.mem_of_getElem? (i := 1361) (by decide +kernel)) (by decide +kernel)
theorem kn_1362 : Cond.castable "[B" "java/lang/Cloneable" ∈ gnest := n_in (List.mem_of_getElem? (i := 1362) (by decide +kernel)) (by decide +kernel)
theorem kk_1363 : Cond.classLink RJ7 311 "[B" ∈ gtbl := g_in (List.mem_of_getElem? (i := 1363) (by decide +kernel)) (by decide +kernel)
theorem kk_1514 : Cond.methodLink RJ7 339 yJ7_copyOfRangeByte_39247 ∈ gtbl := g_in (List.mem_of_getElem? (i := 1514) (by decide +kernel)) (by decide +kernel)
theorem kk_1516 : Cond.code yJ7_copyOfRangeByte_39247 cJ7_copyOfRangeByte_39247 5 (some (.array .byte)) ∈ gtbl := g_in (List.mem_of_getElem? (i := 1516) (by decide +kernel)) (by decide +kernel)
theorem kk_1515 : Cond.static yJ7_copyOfRangeByte_39247 ∈ gtbl := g_in (List.mem_of_getElem? (i := 1515) (by decide +kernel)) (by decide +kernel)
theorem ks_J7_339 : KS RJ7 339 mJ7_copyOfRangeByte_39247 3 := ⟨⟨kk_1514, kk_76, kk_1516, by decide +kernel⟩, rfl, kk_1515⟩
abbrev mJ0_init_db425 : MT := (yJ0_init_db425, cJ0_init_db425, 5, none, [])
theorem kk_1496 : Cond.methodLink RJ0 1 Lib.objectInit ∈ gtbl := g_in (List.mem_of_getElem? (i := 1496) (by decide +kernel)) (by decide +kernel)
theorem ko_J0_1 : KO RJ0 1 := ⟨kk_1496, kk_93, kk_94⟩
theorem kk_1497 : Cond.methodLink RJ0 552 yJ5_getValue_6d5f1 ∈ gtbl := g_in (List.mem_of_getElem? (i := 1497) (by decide +kernel)) (by decide +kernel)
theorem kk_1499 : Cond.sameMethod RJ5 RJ5 "getValue" "()[B" ∈ gtbl := g_in (List.mem_of_getElem? (i := 1499) (by decide +kernel)) (by decide +kernel)
theorem kk_1498 : Cond.instanceMethod yJ5_getValue_6d5f1 ∈ gtbl := g_in (List.mem_of_getElem? (i := 1498) (by decide +kernel)) (by decide +kernel)
theorem kk_1501 : Cond.code yJ5_getValue_6d5f1 cJ5_getValue_6d5f1 1 (some (.array .byte)) ∈ gtbl := g_in (List.mem_of_getElem? (i := 1501) (by decide +kernel)) (by decide +kernel)
theorem kk_1500 : Cond.selects RJ4 yJ5_getValue_6d5f1 yJ5_getValue_6d5f1 ∈ gtbl := g_in (List.mem_of_getElem? (i := 1500) (by decide +kernel)) (by decide +kernel)
theorem ku_J0_552 : KU RJ0 552 RJ4 RJ5 yJ5_getValue_6d5f1 mJ5_getValue_6d5f1 0 := ⟨⟨kk_1497, kk_1499, kk_1498, kk_71, kk_1501⟩, ⟨kk_1498, _, _, _, kk_1501⟩, Or.inl kk_1500, rfl, by decide +kernel⟩
theorem kk_1502 : Cond.methodLink RJ0 549 yJ5_length_8abf5 ∈ gtbl := g_in (List.mem_of_getElem? (i := 1502) (by decide +kernel)) (by decide +kernel)
theorem kk_1506 : Cond.instanceMethod yJ4_length_8abf5 ∈ gtbl := g_in (List.mem_of_getElem? (i := 1506) (by decide +kernel)) (by decide +kernel)
theorem kk_1505 : Cond.selects RJ4 yJ5_length_8abf5 yJ4_length_8abf5 ∈ gtbl := g_in (List.mem_of_getElem? (i := 1505) (by decide +kernel)) (by decide +kernel)
theorem kk_72 : Cond.initialized RJ4 ∈ gtbl := g_in (List.mem_of_getElem? (i := 72) (by decide +kernel)) (by decide +kernel)
theorem kk_1507 : Cond.code yJ4_length_8abf5 cJ4_length_8abf5 1 (some .int) ∈ gtbl := g_in (List.mem_of_getElem? (i := 1507) (by decide +kernel)) (by decide +kernel)
theorem ku_J0_549 : KU RJ0 549 RJ4 RJ5 yJ5_length_8abf5 mJ4_length_8abf5 0 := ⟨⟨kk_1502, kk_1504, kk_1506, kk_72, kk_1507⟩, ⟨kk_1503, _, _, _, kk_1509⟩, Or.inl kk_1505, rfl, by decide +kernel⟩
theorem kk_1510 : Cond.methodLink RJ0 1047 yJ5_isLatin1_aae02 ∈ gtbl := g_in (List.mem_of_getElem? (i := 1510) (by decide +kernel)) (by decide +kernel)
theorem ku_J0_1047 : KU RJ0 1047 RJ4 RJ5 yJ5_isLatin1_aae02 mJ5_isLatin1_aae02 0 := ⟨⟨kk_1510, kk_1370, kk_1369, kk_71, kk_1372⟩, ⟨kk_1369, _, _, _, kk_1372⟩, Or.inl kk_1371, rfl, by decide +kernel⟩
theorem ff_J0_15 : FF RJ0 15 12 1 (.byte) := ⟨RJ0, TJ0, 4, tyJ0, rfl, by decide, il_12, tyJ0_ok, nmJ0, rfl, rfl, rfl, kk_1531⟩
theorem kk_1511 : Cond.methodLink RJ0 54 yJ7_copyOfRange_39247 ∈ gtbl := g_in (List.mem_of_getElem? (i := 1511) (by decide +kernel)) (by decide +kernel)
theorem kk_1513 : Cond.code yJ7_copyOfRange_39247 cJ7_copyOfRange_39247 3 (some (.array .byte)) ∈ gtbl := g_in (List.mem_of_getElem? (i := 1513) (by decide +kernel)) (by decide +kernel)
theorem kk_1512 : Cond.static yJ7_copyOfRange_39247 ∈ gtbl := g_in (List.mem_of_getElem? (i := 1512) (by decide +kernel)) (by decide +kernel)
theorem ks_J0_54 : KS RJ0 54 mJ7_copyOfRange_39247 3 := ⟨⟨kk_1511, kk_76, kk_1513, by decide +kernel⟩, rfl, kk_1512⟩
theorem ff_J0_9 : FF RJ0 9 12 0 (.array (.byte)) := ⟨RJ0, TJ0, 4, tyJ0, rfl, by decide, il_12, tyJ0_ok, nmJ0, rfl, rfl, rfl, kk_1530⟩
abbrev mJ0_init_81219 : MT := (yJ0_init_81219, cJ0_init_81219, 2, none, [])
theorem kk_1493 : Cond.methodLink RJ0 489 yJ0_init_db425 ∈ gtbl := g_in (List.mem_of_getElem? (i := 1493) (by decide +kernel)) (by decide +kernel)
theorem kk_1495 : Cond.code yJ0_init_db425 cJ0_init_db425 5 none ∈ gtbl := g_in (List.mem_of_getElem? (i := 1495) (by decide +kernel)) (by decide +kernel)
theorem kk_1494 : Cond.instanceMethod yJ0_init_db425 ∈ gtbl := g_in (List.mem_of_getElem? (i := 1494) (by decide +kernel)) (by decide +kernel)
theorem ki_J0_489 : KI RJ0 489 mJ0_init_db425 2 := ⟨⟨kk_1493, kk_66, kk_1495, by decide +kernel⟩, rfl, rfl, rfl, kk_1494⟩
abbrev mJ4_toString_0e30d : MT := (yJ4_toString_0e30d, cJ4_toString_0e30d, 1, (some (.object "java/lang/String")), [])
theorem kk_1488 : Cond.classLink RJ4 18 RJ0 ∈ gtbl := g_in (List.mem_of_getElem? (i := 1488) (by decide +kernel)) (by decide +kernel)
theorem kk_1489 : Cond.instantiable RJ0 4 ∈ gtbl := g_in (List.mem_of_getElem? (i := 1489) (by decide +kernel)) (by decide +kernel)
theorem nl_J4_18 : NL RJ4 18 12 4 [.null, .int (0 : Int32), .int (0 : Int32), .int (0 : Int32)] := ⟨RJ0, TJ0, tyJ0, rfl, il_12, tyJ0_ok, kk_1488, kk_1489, kk_66, by intro j hj; match j, hj with
  | 0, _ => rfl
  | 1, _ => rfl
  | 2, _ => rfl
  | 3, _ => rfl
  | j + 4, hj => exact absurd hj (by omega)⟩
theorem kk_1490 : Cond.methodLink RJ4 137 yJ0_init_81219 ∈ gtbl := g_in (List.mem_of_getElem? (i := 1490) (by decide +kernel)) (by decide +kernel)
theorem kk_1492 : Cond.code yJ0_init_81219 cJ0_init_81219 2 none ∈ gtbl := g_in (List.mem_of_getElem? (i := 1492) (by decide +kernel)) (by decide +kernel)
theorem kk_1491 : Cond.instanceMethod yJ0_init_81219 ∈ gtbl := g_in (List.mem_of_getElem? (i := 1491) (by decide +kernel)) (by decide +kernel)
theorem ki_J4_137 : KI RJ4 137 mJ0_init_81219 1 := ⟨⟨kk_1490, kk_66, kk_1492, by decide +kernel⟩, rfl, rfl, rfl, kk_1491⟩
