abbrev mX11_text : MT := (yX11_text, cX11_text, 5, (some (.object "java/lang/String")), [])
theorem kk_1608 : Cond.classLink RX11 110 RJ4 ∈ gtbl := g_in (List.mem_of_getElem? (i := 1608) (by decide +kernel)) (by decide +kernel)
theorem kk_1460 : Cond.instantiable RJ4 4 ∈ gtbl := g_in (List.mem_of_getElem? (i := 1460) (by decide +kernel)) (by decide +kernel)
theorem nl_X11_110 : NL RX11 110 13 4 [.null, .int (0 : Int32), .int (0 : Int32), .int (0 : Int32)] := ⟨RJ4, TJ4, tyJ4, rfl, il_13, tyJ4_ok, kk_1608, kk_1460, kk_72, by intro j hj; match j, hj with
  | 0, _ => rfl
  | 1, _ => rfl
  | 2, _ => rfl
  | 3, _ => rfl
  | j + 4, hj => exact absurd hj (by omega)⟩
theorem kk_1609 : Cond.methodLink RX11 112 yJ4_init_da8c8 ∈ gtbl := g_in (List.mem_of_getElem? (i := 1609) (by decide +kernel)) (by decide +kernel)
theorem kk_1463 : Cond.code yJ4_init_da8c8 cJ4_init_da8c8 1 none ∈ gtbl := g_in (List.mem_of_getElem? (i := 1463) (by decide +kernel)) (by decide +kernel)
theorem kk_1462 : Cond.instanceMethod yJ4_init_da8c8 ∈ gtbl := g_in (List.mem_of_getElem? (i := 1462) (by decide +kernel)) (by decide +kernel)
theorem ki_X11_112 : KI RX11 112 mJ4_init_da8c8 0 := ⟨⟨kk_1609, kk_72, kk_1463, by decide +kernel⟩, rfl, rfl, rfl, kk_1462⟩
theorem kk_1610 : Cond.methodLink RX11 113 yJ4_append_15ec4 ∈ gtbl := g_in (List.mem_of_getElem? (i := 1610) (by decide +kernel)) (by decide +kernel)
theorem kk_1328 : Cond.code yJ4_append_15ec4 cJ4_append_15ec4 2 (some (.object "java/lang/StringBuilder")) ∈ gtbl := g_in (List.mem_of_getElem? (i := 1328) (by decide +kernel)) (by decide +kernel)
theorem kk_1326 : Cond.instanceMethod yJ4_append_15ec4 ∈ gtbl := g_in (List.mem_of_getElem? (i := 1326) (by decide +kernel)) (by decide +kernel)
theorem kk_1327 : Cond.selects RJ4 yJ4_append_15ec4 yJ4_append_15ec4 ∈ gtbl := g_in (List.mem_of_getElem? (i := 1327) (by decide +kernel)) (by decide +kernel)
theorem kv_X11_113 : KV RX11 113 mJ4_append_15ec4 1 := ⟨⟨kk_1610, kk_72, kk_1328, by decide +kernel⟩, rfl, kk_1326, kk_1327⟩
theorem kk_1611 : Cond.methodLink RX11 117 yJ4_append_bf812 ∈ gtbl := g_in (List.mem_of_getElem? (i := 1611) (by decide +kernel)) (by decide +kernel)
theorem kk_1425 : Cond.code yJ4_append_bf812 cJ4_append_bf812 2 (some (.object "java/lang/StringBuilder")) ∈ gtbl := g_in (List.mem_of_getElem? (i := 1425) (by decide +kernel)) (by decide +kernel)
theorem kk_1423 : Cond.instanceMethod yJ4_append_bf812 ∈ gtbl := g_in (List.mem_of_getElem? (i := 1423) (by decide +kernel)) (by decide +kernel)
theorem kk_1424 : Cond.selects RJ4 yJ4_append_bf812 yJ4_append_bf812 ∈ gtbl := g_in (List.mem_of_getElem? (i := 1424) (by decide +kernel)) (by decide +kernel)
theorem kv_X11_117 : KV RX11 117 mJ4_append_bf812 1 := ⟨⟨kk_1611, kk_72, kk_1425, by decide +kernel⟩, rfl, kk_1423, kk_1424⟩
theorem kk_1612 : Cond.methodLink RX11 120 yJ4_toString_0e30d ∈ gtbl := g_in (List.mem_of_getElem? (i := 1612) (by decide +kernel)) (by decide +kernel)
theorem kk_1487 : Cond.code yJ4_toString_0e30d cJ4_toString_0e30d 1 (some (.object "java/lang/String")) ∈ gtbl := g_in (List.mem_of_getElem? (i := 1487) (by decide +kernel)) (by decide +kernel)
theorem kk_1485 : Cond.instanceMethod yJ4_toString_0e30d ∈ gtbl := g_in (List.mem_of_getElem? (i := 1485) (by decide +kernel)) (by decide +kernel)
theorem kk_1486 : Cond.selects RJ4 yJ4_toString_0e30d yJ4_toString_0e30d ∈ gtbl := g_in (List.mem_of_getElem? (i := 1486) (by decide +kernel)) (by decide +kernel)
theorem kv_X11_120 : KV RX11 120 mJ4_toString_0e30d 0 := ⟨⟨kk_1612, kk_72, kk_1487, by decide +kernel⟩, rfl, kk_1485, kk_1486⟩
theorem kk_1615 : Cond.methodLink RX11 128 yX11_text ∈ gtbl := g_in (List.mem_of_getElem? (i := 1615) (by decide +kernel)) (by decide +kernel)
set_option maxRecDepth 100000 in
theorem kk_1584 : Cond.code yX11_text cX11_text 5 (some (.object "java/lang/String")) ∈ gtbl := g_in (List.mem_append_right _ (List.mem_append_right _ (List.mem_append_right _ (List.mem_append_right _ (List.mem_append_right _ (List.mem_append_right _ (List.mem_append_right _ (List.mem_of_getElem? (l := tables_1_7) (i := 88) rfl)))))))) (by decide +kernel)
theorem kk_1582 : Cond.instanceMethod yX11_text ∈ gtbl := g_in (List.mem_of_getElem? (i := 1582) (by decide +kernel)) (by decide +kernel)
theorem kk_1583 : Cond.selects RX11 yX11_text yX11_text ∈ gtbl := g_in (List.mem_of_getElem? (i := 1583) (by decide +kernel)) (by decide +kernel)
theorem kv_X11_128 : KV RX11 128 mX11_text 0 := ⟨⟨kk_1615, kk_79, kk_1584, by decide +kernel⟩, rfl, kk_1582, kk_1583⟩
theorem kk_1585 : Cond.classLink RX11 66 "java/lang/String" ∈ gtbl := g_in (List.mem_of_getElem? (i := 1585) (by decide +kernel)) (by decide +kernel)
