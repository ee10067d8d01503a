abbrev mL_act : MT := (yL_act, cL_act, 6, (some .boolean), [])
theorem kk_1649 : Cond.methodLink RL 160 yX9_claimTogether ∈ gtbl := g_in (List.mem_of_getElem? (i := 1649) (by decide +kernel)) (by decide +kernel)
theorem kk_1652 : Cond.code yX9_claimTogether cX9_claimTogether 4 (some .int) ∈ gtbl := g_in (List.mem_of_getElem? (i := 1652) (by decide +kernel)) (by decide +kernel)
theorem kk_1650 : Cond.instanceMethod yX9_claimTogether ∈ gtbl := g_in (List.mem_of_getElem? (i := 1650) (by decide +kernel)) (by decide +kernel)
theorem kk_1651 : Cond.selects RX9 yX9_claimTogether yX9_claimTogether ∈ gtbl := g_in (List.mem_of_getElem? (i := 1651) (by decide +kernel)) (by decide +kernel)
theorem kv_L_160 : KV RL 160 mX9_claimTogether 3 := ⟨⟨kk_1649, kk_57, kk_1652, by decide +kernel⟩, rfl, kk_1650, kk_1651⟩
theorem kk_1640 : Cond.methodLink RL 156 yX9_claimBefore ∈ gtbl := g_in (List.mem_of_getElem? (i := 1640) (by decide +kernel)) (by decide +kernel)
theorem kk_1643 : Cond.code yX9_claimBefore cX9_claimBefore 4 (some .int) ∈ gtbl := g_in (List.mem_of_getElem? (i := 1643) (by decide +kernel)) (by decide +kernel)
theorem kk_1641 : Cond.instanceMethod yX9_claimBefore ∈ gtbl := g_in (List.mem_of_getElem? (i := 1641) (by decide +kernel)) (by decide +kernel)
theorem kk_1642 : Cond.selects RX9 yX9_claimBefore yX9_claimBefore ∈ gtbl := g_in (List.mem_of_getElem? (i := 1642) (by decide +kernel)) (by decide +kernel)
theorem kv_L_156 : KV RL 156 mX9_claimBefore 3 := ⟨⟨kk_1640, kk_57, kk_1643, by decide +kernel⟩, rfl, kk_1641, kk_1642⟩
theorem kk_1628 : Cond.methodLink RL 152 yX9_claimHours ∈ gtbl := g_in (List.mem_of_getElem? (i := 1628) (by decide +kernel)) (by decide +kernel)
theorem kk_1631 : Cond.code yX9_claimHours cX9_claimHours 5 (some .int) ∈ gtbl := g_in (List.mem_of_getElem? (i := 1631) (by decide +kernel)) (by decide +kernel)
theorem kk_1629 : Cond.instanceMethod yX9_claimHours ∈ gtbl := g_in (List.mem_of_getElem? (i := 1629) (by decide +kernel)) (by decide +kernel)
theorem kk_1630 : Cond.selects RX9 yX9_claimHours yX9_claimHours ∈ gtbl := g_in (List.mem_of_getElem? (i := 1630) (by decide +kernel)) (by decide +kernel)
theorem kv_L_152 : KV RL 152 mX9_claimHours 4 := ⟨⟨kk_1628, kk_57, kk_1631, by decide +kernel⟩, rfl, kk_1629, kk_1630⟩
theorem kk_1653 : Cond.methodLink RL 163 yX10_takeBack ∈ gtbl := g_in (List.mem_of_getElem? (i := 1653) (by decide +kernel)) (by decide +kernel)
theorem kk_1656 : Cond.code yX10_takeBack cX10_takeBack 4 none ∈ gtbl := g_in (List.mem_of_getElem? (i := 1656) (by decide +kernel)) (by decide +kernel)
theorem kk_1654 : Cond.instanceMethod yX10_takeBack ∈ gtbl := g_in (List.mem_of_getElem? (i := 1654) (by decide +kernel)) (by decide +kernel)
theorem kk_1655 : Cond.selects RX10 yX10_takeBack yX10_takeBack ∈ gtbl := g_in (List.mem_of_getElem? (i := 1655) (by decide +kernel)) (by decide +kernel)
theorem kv_L_163 : KV RL 163 mX10_takeBack 1 := ⟨⟨kk_1653, kk_73, kk_1656, by decide +kernel⟩, rfl, kk_1654, kk_1655⟩
theorem kk_1658 : Cond.methodLink RL 167 yX9_takeBack ∈ gtbl := g_in (List.mem_of_getElem? (i := 1658) (by decide +kernel)) (by decide +kernel)
theorem kk_1661 : Cond.code yX9_takeBack cX9_takeBack 3 (some .int) ∈ gtbl := g_in (List.mem_of_getElem? (i := 1661) (by decide +kernel)) (by decide +kernel)
theorem kk_1659 : Cond.instanceMethod yX9_takeBack ∈ gtbl := g_in (List.mem_of_getElem? (i := 1659) (by decide +kernel)) (by decide +kernel)
theorem kk_1660 : Cond.selects RX9 yX9_takeBack yX9_takeBack ∈ gtbl := g_in (List.mem_of_getElem? (i := 1660) (by decide +kernel)) (by decide +kernel)
theorem kv_L_167 : KV RL 167 mX9_takeBack 1 := ⟨⟨kk_1658, kk_57, kk_1661, by decide +kernel⟩, rfl, kk_1659, kk_1660⟩
theorem kk_1298 : Cond.fieldLink RL 169 RX10 "isDoubted" "[Z" ∈ gtbl := g_in (List.mem_of_getElem? (i := 1298) (by decide +kernel)) (by decide +kernel)
theorem fl_L_169 : FL RL 169 10 3 (.array (.boolean)) false := ⟨RX10, TX10, 8, tyX10, rfl, by decide, il_10, tyX10_ok, nmX10, rfl, rfl, Or.inl kk_1298⟩
theorem kk_771 : Cond.methodLink RL 173 yX9_turnDoubt ∈ gtbl := g_in (List.mem_of_getElem? (i := 771) (by decide +kernel)) (by decide +kernel)
theorem kk_774 : Cond.code yX9_turnDoubt cX9_turnDoubt 2 (some .boolean) ∈ gtbl := g_in (List.mem_of_getElem? (i := 774) (by decide +kernel)) (by decide +kernel)
theorem kk_772 : Cond.instanceMethod yX9_turnDoubt ∈ gtbl := g_in (List.mem_of_getElem? (i := 772) (by decide +kernel)) (by decide +kernel)
theorem kk_773 : Cond.selects RX9 yX9_turnDoubt yX9_turnDoubt ∈ gtbl := g_in (List.mem_of_getElem? (i := 773) (by decide +kernel)) (by decide +kernel)
theorem kv_L_173 : KV RL 173 mX9_turnDoubt 1 := ⟨⟨kk_771, kk_57, kk_774, by decide +kernel⟩, rfl, kk_772, kk_773⟩
theorem kk_1305 : Cond.fieldLink RL 177 RX10 "carried" "I" ∈ gtbl := g_in (List.mem_of_getElem? (i := 1305) (by decide +kernel)) (by decide +kernel)
theorem fl_L_177 : FL RL 177 10 7 (.int) false := ⟨RX10, TX10, 8, tyX10, rfl, by decide, il_10, tyX10_ok, nmX10, rfl, rfl, Or.inl kk_1305⟩
theorem kk_775 : Cond.methodLink RL 183 yX9_passEvenings ∈ gtbl := g_in (List.mem_of_getElem? (i := 775) (by decide +kernel)) (by decide +kernel)
theorem kk_778 : Cond.code yX9_passEvenings cX9_passEvenings 4 (some .int) ∈ gtbl := g_in (List.mem_of_getElem? (i := 778) (by decide +kernel)) (by decide +kernel)
theorem kk_776 : Cond.instanceMethod yX9_passEvenings ∈ gtbl := g_in (List.mem_of_getElem? (i := 776) (by decide +kernel)) (by decide +kernel)
theorem kk_777 : Cond.selects RX9 yX9_passEvenings yX9_passEvenings ∈ gtbl := g_in (List.mem_of_getElem? (i := 777) (by decide +kernel)) (by decide +kernel)
theorem kv_L_183 : KV RL 183 mX9_passEvenings 1 := ⟨⟨kk_775, kk_57, kk_778, by decide +kernel⟩, rfl, kk_776, kk_777⟩
theorem kk_899 : Cond.methodLink RL 180 yX10_pass ∈ gtbl := g_in (List.mem_of_getElem? (i := 899) (by decide +kernel)) (by decide +kernel)
theorem kk_902 : Cond.code yX10_pass cX10_pass 3 none ∈ gtbl := g_in (List.mem_of_getElem? (i := 902) (by decide +kernel)) (by decide +kernel)
theorem kk_900 : Cond.instanceMethod yX10_pass ∈ gtbl := g_in (List.mem_of_getElem? (i := 900) (by decide +kernel)) (by decide +kernel)
theorem kk_901 : Cond.selects RX10 yX10_pass yX10_pass ∈ gtbl := g_in (List.mem_of_getElem? (i := 901) (by decide +kernel)) (by decide +kernel)
theorem kv_L_180 : KV RL 180 mX10_pass 0 := ⟨⟨kk_899, kk_73, kk_902, by decide +kernel⟩, rfl, kk_900, kk_901⟩
