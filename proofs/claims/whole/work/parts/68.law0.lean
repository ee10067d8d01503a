/-! the law's own method: words and first lemmas -/
theorem kk_1009 : Cond.methodLink RL 101 yL_feed ∈ gtbl := g_in (List.mem_of_getElem? (i := 1009) (by decide +kernel)) (by decide +kernel)
theorem kk_118 : Cond.initialized RL ∈ gtbl := g_in (List.mem_of_getElem? (i := 118) (by decide +kernel)) (by decide +kernel)
theorem kk_1011 : Cond.codeWith yL_feed cL_feed 8 (some .int) [(0, 16, 19, 13)] ∈ gtbl := g_in (List.mem_of_getElem? (i := 1011) (by decide +kernel)) (by decide +kernel)
theorem kk_1010 : Cond.static yL_feed ∈ gtbl := g_in (List.mem_of_getElem? (i := 1010) (by decide +kernel)) (by decide +kernel)
theorem kt_L_101 : KSW RL 101 mL_feed 7 := ⟨kk_1009, kk_118, kk_1011, by decide, by decide +kernel, kk_1010⟩
theorem kk_1507 : Cond.methodLink RL 106 yX11_feed ∈ gtbl := g_in (List.mem_of_getElem? (i := 1507) (by decide +kernel)) (by decide +kernel)
theorem kk_1510 : Cond.code yX11_feed cX11_feed 8 (some .int) ∈ gtbl := g_in (List.mem_of_getElem? (i := 1510) (by decide +kernel)) (by decide +kernel)
theorem kk_1508 : Cond.instanceMethod yX11_feed ∈ gtbl := g_in (List.mem_of_getElem? (i := 1508) (by decide +kernel)) (by decide +kernel)
theorem kk_1509 : Cond.selects RX11 yX11_feed yX11_feed ∈ gtbl := g_in (List.mem_of_getElem? (i := 1509) (by decide +kernel)) (by decide +kernel)
theorem kv_L_106 : KV RL 106 mX11_feed 5 := ⟨⟨kk_1507, kk_133, kk_1510, by decide +kernel⟩, rfl, kk_1508, kk_1509⟩
theorem kk_1503 : Cond.methodLink RL 107 yX11_thrown ∈ gtbl := g_in (List.mem_of_getElem? (i := 1503) (by decide +kernel)) (by decide +kernel)
theorem kk_1506 : Cond.code yX11_thrown cX11_thrown 1 (some .int) ∈ gtbl := g_in (List.mem_of_getElem? (i := 1506) (by decide +kernel)) (by decide +kernel)
theorem kk_1504 : Cond.instanceMethod yX11_thrown ∈ gtbl := g_in (List.mem_of_getElem? (i := 1504) (by decide +kernel)) (by decide +kernel)
theorem kk_1505 : Cond.selects RX11 yX11_thrown yX11_thrown ∈ gtbl := g_in (List.mem_of_getElem? (i := 1505) (by decide +kernel)) (by decide +kernel)
theorem kv_L_107 : KV RL 107 mX11_thrown 0 := ⟨⟨kk_1503, kk_133, kk_1506, by decide +kernel⟩, rfl, kk_1504, kk_1505⟩
theorem kk_1089 : Cond.methodLink RL 111 yL_trim ∈ gtbl := g_in (List.mem_of_getElem? (i := 1089) (by decide +kernel)) (by decide +kernel)
theorem kk_1091 : Cond.codeWith yL_trim cL_trim 4 (some .int) [(0, 9, 12, 19)] ∈ gtbl := g_in (List.mem_of_getElem? (i := 1091) (by decide +kernel)) (by decide +kernel)
theorem kk_1090 : Cond.static yL_trim ∈ gtbl := g_in (List.mem_of_getElem? (i := 1090) (by decide +kernel)) (by decide +kernel)
theorem kt_L_111 : KSW RL 111 mL_trim 3 := ⟨kk_1089, kk_118, kk_1091, by decide, by decide +kernel, kk_1090⟩
theorem kk_1515 : Cond.methodLink RL 114 yX11_trim ∈ gtbl := g_in (List.mem_of_getElem? (i := 1515) (by decide +kernel)) (by decide +kernel)
theorem kk_1518 : Cond.code yX11_trim cX11_trim 2 (some .int) ∈ gtbl := g_in (List.mem_of_getElem? (i := 1518) (by decide +kernel)) (by decide +kernel)
theorem kk_1516 : Cond.instanceMethod yX11_trim ∈ gtbl := g_in (List.mem_of_getElem? (i := 1516) (by decide +kernel)) (by decide +kernel)
theorem kk_1517 : Cond.selects RX11 yX11_trim yX11_trim ∈ gtbl := g_in (List.mem_of_getElem? (i := 1517) (by decide +kernel)) (by decide +kernel)
theorem kv_L_114 : KV RL 114 mX11_trim 1 := ⟨⟨kk_1515, kk_133, kk_1518, by decide +kernel⟩, rfl, kk_1516, kk_1517⟩
theorem kk_523 : Cond.methodLink RL 115 yX9_teach ∈ gtbl := g_in (List.mem_of_getElem? (i := 523) (by decide +kernel)) (by decide +kernel)
theorem kk_526 : Cond.code yX9_teach cX9_teach 2 (some .int) ∈ gtbl := g_in (List.mem_of_getElem? (i := 526) (by decide +kernel)) (by decide +kernel)
theorem kk_524 : Cond.instanceMethod yX9_teach ∈ gtbl := g_in (List.mem_of_getElem? (i := 524) (by decide +kernel)) (by decide +kernel)
theorem kk_525 : Cond.selects RX9 yX9_teach yX9_teach ∈ gtbl := g_in (List.mem_of_getElem? (i := 525) (by decide +kernel)) (by decide +kernel)
theorem kv_L_115 : KV RL 115 mX9_teach 0 := ⟨⟨kk_523, kk_119, kk_526, by decide +kernel⟩, rfl, kk_524, kk_525⟩
theorem kk_1522 : Cond.methodLink RL 118 yX11_teach ∈ gtbl := g_in (List.mem_of_getElem? (i := 1522) (by decide +kernel)) (by decide +kernel)
theorem kk_1525 : Cond.code yX11_teach cX11_teach 3 (some .int) ∈ gtbl := g_in (List.mem_of_getElem? (i := 1525) (by decide +kernel)) (by decide +kernel)
theorem kk_1523 : Cond.instanceMethod yX11_teach ∈ gtbl := g_in (List.mem_of_getElem? (i := 1523) (by decide +kernel)) (by decide +kernel)
theorem kk_1524 : Cond.selects RX11 yX11_teach yX11_teach ∈ gtbl := g_in (List.mem_of_getElem? (i := 1524) (by decide +kernel)) (by decide +kernel)
theorem kv_L_118 : KV RL 118 mX11_teach 0 := ⟨⟨kk_1522, kk_133, kk_1525, by decide +kernel⟩, rfl, kk_1523, kk_1524⟩
theorem kk_793 : Cond.methodLink RL 119 yX9_errorAt ∈ gtbl := g_in (List.mem_of_getElem? (i := 793) (by decide +kernel)) (by decide +kernel)
theorem kk_796 : Cond.code yX9_errorAt cX9_errorAt 1 (some .int) ∈ gtbl := g_in (List.mem_of_getElem? (i := 796) (by decide +kernel)) (by decide +kernel)
theorem kk_794 : Cond.instanceMethod yX9_errorAt ∈ gtbl := g_in (List.mem_of_getElem? (i := 794) (by decide +kernel)) (by decide +kernel)
theorem kk_795 : Cond.selects RX9 yX9_errorAt yX9_errorAt ∈ gtbl := g_in (List.mem_of_getElem? (i := 795) (by decide +kernel)) (by decide +kernel)
theorem kv_L_119 : KV RL 119 mX9_errorAt 0 := ⟨⟨kk_793, kk_119, kk_796, by decide +kernel⟩, rfl, kk_794, kk_795⟩
theorem kk_1691 : Cond.methodLink RL 122 yX11_errorAt ∈ gtbl := g_in (List.mem_of_getElem? (i := 1691) (by decide +kernel)) (by decide +kernel)
theorem kk_1694 : Cond.code yX11_errorAt cX11_errorAt 1 (some .int) ∈ gtbl := g_in (List.mem_of_getElem? (i := 1694) (by decide +kernel)) (by decide +kernel)
theorem kk_1692 : Cond.instanceMethod yX11_errorAt ∈ gtbl := g_in (List.mem_of_getElem? (i := 1692) (by decide +kernel)) (by decide +kernel)
theorem kk_1693 : Cond.selects RX11 yX11_errorAt yX11_errorAt ∈ gtbl := g_in (List.mem_of_getElem? (i := 1693) (by decide +kernel)) (by decide +kernel)
theorem kv_L_122 : KV RL 122 mX11_errorAt 0 := ⟨⟨kk_1691, kk_133, kk_1694, by decide +kernel⟩, rfl, kk_1692, kk_1693⟩
theorem kk_797 : Cond.methodLink RL 123 yX9_events ∈ gtbl := g_in (List.mem_of_getElem? (i := 797) (by decide +kernel)) (by decide +kernel)
theorem kv_L_123 : KV RL 123 mX9_events 0 := ⟨⟨kk_797, kk_119, kk_800, by decide +kernel⟩, rfl, kk_798, kk_799⟩
theorem kk_1699 : Cond.methodLink RL 126 yX11_events ∈ gtbl := g_in (List.mem_of_getElem? (i := 1699) (by decide +kernel)) (by decide +kernel)
theorem kk_1702 : Cond.code yX11_events cX11_events 1 (some .int) ∈ gtbl := g_in (List.mem_of_getElem? (i := 1702) (by decide +kernel)) (by decide +kernel)
theorem kk_1700 : Cond.instanceMethod yX11_events ∈ gtbl := g_in (List.mem_of_getElem? (i := 1700) (by decide +kernel)) (by decide +kernel)
theorem kk_1701 : Cond.selects RX11 yX11_events yX11_events ∈ gtbl := g_in (List.mem_of_getElem? (i := 1701) (by decide +kernel)) (by decide +kernel)
theorem kv_L_126 : KV RL 126 mX11_events 0 := ⟨⟨kk_1699, kk_133, kk_1702, by decide +kernel⟩, rfl, kk_1700, kk_1701⟩
theorem kk_801 : Cond.methodLink RL 127 yX9_tellers ∈ gtbl := g_in (List.mem_of_getElem? (i := 801) (by decide +kernel)) (by decide +kernel)
theorem kv_L_127 : KV RL 127 mX9_tellers 0 := ⟨⟨kk_801, kk_119, kk_804, by decide +kernel⟩, rfl, kk_802, kk_803⟩
theorem kk_1703 : Cond.methodLink RL 130 yX11_tellers ∈ gtbl := g_in (List.mem_of_getElem? (i := 1703) (by decide +kernel)) (by decide +kernel)
theorem kk_1706 : Cond.code yX11_tellers cX11_tellers 1 (some .int) ∈ gtbl := g_in (List.mem_of_getElem? (i := 1706) (by decide +kernel)) (by decide +kernel)
theorem kk_1704 : Cond.instanceMethod yX11_tellers ∈ gtbl := g_in (List.mem_of_getElem? (i := 1704) (by decide +kernel)) (by decide +kernel)
theorem kk_1705 : Cond.selects RX11 yX11_tellers yX11_tellers ∈ gtbl := g_in (List.mem_of_getElem? (i := 1705) (by decide +kernel)) (by decide +kernel)
theorem kv_L_130 : KV RL 130 mX11_tellers 0 := ⟨⟨kk_1703, kk_133, kk_1706, by decide +kernel⟩, rfl, kk_1704, kk_1705⟩
theorem kk_805 : Cond.methodLink RL 131 yX9_claims ∈ gtbl := g_in (List.mem_of_getElem? (i := 805) (by decide +kernel)) (by decide +kernel)
theorem kv_L_131 : KV RL 131 mX9_claims 0 := ⟨⟨kk_805, kk_119, kk_808, by decide +kernel⟩, rfl, kk_806, kk_807⟩
theorem kk_1707 : Cond.methodLink RL 134 yX11_claims ∈ gtbl := g_in (List.mem_of_getElem? (i := 1707) (by decide +kernel)) (by decide +kernel)
theorem kk_1710 : Cond.code yX11_claims cX11_claims 1 (some .int) ∈ gtbl := g_in (List.mem_of_getElem? (i := 1710) (by decide +kernel)) (by decide +kernel)
theorem kk_1708 : Cond.instanceMethod yX11_claims ∈ gtbl := g_in (List.mem_of_getElem? (i := 1708) (by decide +kernel)) (by decide +kernel)
theorem kk_1709 : Cond.selects RX11 yX11_claims yX11_claims ∈ gtbl := g_in (List.mem_of_getElem? (i := 1709) (by decide +kernel)) (by decide +kernel)
theorem kv_L_134 : KV RL 134 mX11_claims 0 := ⟨⟨kk_1707, kk_133, kk_1710, by decide +kernel⟩, rfl, kk_1708, kk_1709⟩
theorem kk_809 : Cond.methodLink RL 135 yX9_evenings ∈ gtbl := g_in (List.mem_of_getElem? (i := 809) (by decide +kernel)) (by decide +kernel)
theorem kv_L_135 : KV RL 135 mX9_evenings 0 := ⟨⟨kk_809, kk_119, kk_812, by decide +kernel⟩, rfl, kk_810, kk_811⟩
theorem kk_1711 : Cond.methodLink RL 138 yX11_evenings ∈ gtbl := g_in (List.mem_of_getElem? (i := 1711) (by decide +kernel)) (by decide +kernel)
theorem kk_1714 : Cond.code yX11_evenings cX11_evenings 1 (some .int) ∈ gtbl := g_in (List.mem_of_getElem? (i := 1714) (by decide +kernel)) (by decide +kernel)
theorem kk_1712 : Cond.instanceMethod yX11_evenings ∈ gtbl := g_in (List.mem_of_getElem? (i := 1712) (by decide +kernel)) (by decide +kernel)
theorem kk_1713 : Cond.selects RX11 yX11_evenings yX11_evenings ∈ gtbl := g_in (List.mem_of_getElem? (i := 1713) (by decide +kernel)) (by decide +kernel)
theorem kv_L_138 : KV RL 138 mX11_evenings 0 := ⟨⟨kk_1711, kk_133, kk_1714, by decide +kernel⟩, rfl, kk_1712, kk_1713⟩
theorem kk_813 : Cond.methodLink RL 139 yX9_ordersCarriedOut ∈ gtbl := g_in (List.mem_of_getElem? (i := 813) (by decide +kernel)) (by decide +kernel)
theorem kv_L_139 : KV RL 139 mX9_ordersCarriedOut 0 := ⟨⟨kk_813, kk_119, kk_816, by decide +kernel⟩, rfl, kk_814, kk_815⟩
theorem kk_1715 : Cond.methodLink RL 142 yX11_ordersCarriedOut ∈ gtbl := g_in (List.mem_of_getElem? (i := 1715) (by decide +kernel)) (by decide +kernel)
theorem kk_1718 : Cond.code yX11_ordersCarriedOut cX11_ordersCarriedOut 1 (some .int) ∈ gtbl := g_in (List.mem_of_getElem? (i := 1718) (by decide +kernel)) (by decide +kernel)
theorem kk_1716 : Cond.instanceMethod yX11_ordersCarriedOut ∈ gtbl := g_in (List.mem_of_getElem? (i := 1716) (by decide +kernel)) (by decide +kernel)
theorem kk_1717 : Cond.selects RX11 yX11_ordersCarriedOut yX11_ordersCarriedOut ∈ gtbl := g_in (List.mem_of_getElem? (i := 1717) (by decide +kernel)) (by decide +kernel)
theorem kv_L_142 : KV RL 142 mX11_ordersCarriedOut 0 := ⟨⟨kk_1715, kk_133, kk_1718, by decide +kernel⟩, rfl, kk_1716, kk_1717⟩
theorem kk_1113 : Cond.methodLink RL 143 yL_tellerOf ∈ gtbl := g_in (List.mem_of_getElem? (i := 1113) (by decide +kernel)) (by decide +kernel)
theorem kk_1115 : Cond.codeWith yL_tellerOf cL_tellerOf 4 (some .int) [(0, 9, 12, 24)] ∈ gtbl := g_in (List.mem_of_getElem? (i := 1115) (by decide +kernel)) (by decide +kernel)
theorem kk_1114 : Cond.static yL_tellerOf ∈ gtbl := g_in (List.mem_of_getElem? (i := 1114) (by decide +kernel)) (by decide +kernel)
theorem kt_L_143 : KSW RL 143 mL_tellerOf 3 := ⟨kk_1113, kk_118, kk_1115, by decide, by decide +kernel, kk_1114⟩
theorem kk_1719 : Cond.methodLink RL 145 yX11_tellerOf ∈ gtbl := g_in (List.mem_of_getElem? (i := 1719) (by decide +kernel)) (by decide +kernel)
theorem kk_1722 : Cond.code yX11_tellerOf cX11_tellerOf 2 (some .int) ∈ gtbl := g_in (List.mem_of_getElem? (i := 1722) (by decide +kernel)) (by decide +kernel)
theorem kk_1720 : Cond.instanceMethod yX11_tellerOf ∈ gtbl := g_in (List.mem_of_getElem? (i := 1720) (by decide +kernel)) (by decide +kernel)
theorem kk_1721 : Cond.selects RX11 yX11_tellerOf yX11_tellerOf ∈ gtbl := g_in (List.mem_of_getElem? (i := 1721) (by decide +kernel)) (by decide +kernel)
theorem kv_L_145 : KV RL 145 mX11_tellerOf 1 := ⟨⟨kk_1719, kk_133, kk_1722, by decide +kernel⟩, rfl, kk_1720, kk_1721⟩
theorem kk_1141 : Cond.methodLink RL 146 yL_kindOf ∈ gtbl := g_in (List.mem_of_getElem? (i := 1141) (by decide +kernel)) (by decide +kernel)
theorem kk_1143 : Cond.codeWith yL_kindOf cL_kindOf 4 (some .int) [(0, 9, 12, 24)] ∈ gtbl := g_in (List.mem_of_getElem? (i := 1143) (by decide +kernel)) (by decide +kernel)
theorem kk_1142 : Cond.static yL_kindOf ∈ gtbl := g_in (List.mem_of_getElem? (i := 1142) (by decide +kernel)) (by decide +kernel)
theorem kt_L_146 : KSW RL 146 mL_kindOf 3 := ⟨kk_1141, kk_118, kk_1143, by decide, by decide +kernel, kk_1142⟩
theorem kk_1727 : Cond.methodLink RL 148 yX11_kindOf_ ∈ gtbl := g_in (List.mem_of_getElem? (i := 1727) (by decide +kernel)) (by decide +kernel)
theorem kk_1730 : Cond.code yX11_kindOf_ cX11_kindOf_ 2 (some .int) ∈ gtbl := g_in (List.mem_of_getElem? (i := 1730) (by decide +kernel)) (by decide +kernel)
theorem kk_1728 : Cond.instanceMethod yX11_kindOf_ ∈ gtbl := g_in (List.mem_of_getElem? (i := 1728) (by decide +kernel)) (by decide +kernel)
theorem kk_1729 : Cond.selects RX11 yX11_kindOf_ yX11_kindOf_ ∈ gtbl := g_in (List.mem_of_getElem? (i := 1729) (by decide +kernel)) (by decide +kernel)
theorem kv_L_148 : KV RL 148 mX11_kindOf_ 1 := ⟨⟨kk_1727, kk_133, kk_1730, by decide +kernel⟩, rfl, kk_1728, kk_1729⟩
theorem kk_1148 : Cond.methodLink RL 149 yL_eventOf ∈ gtbl := g_in (List.mem_of_getElem? (i := 1148) (by decide +kernel)) (by decide +kernel)
theorem kk_1150 : Cond.codeWith yL_eventOf cL_eventOf 4 (some .int) [(0, 9, 12, 24)] ∈ gtbl := g_in (List.mem_of_getElem? (i := 1150) (by decide +kernel)) (by decide +kernel)
theorem kk_1149 : Cond.static yL_eventOf ∈ gtbl := g_in (List.mem_of_getElem? (i := 1149) (by decide +kernel)) (by decide +kernel)
theorem kt_L_149 : KSW RL 149 mL_eventOf 3 := ⟨kk_1148, kk_118, kk_1150, by decide, by decide +kernel, kk_1149⟩
theorem kk_1731 : Cond.methodLink RL 151 yX11_eventOf ∈ gtbl := g_in (List.mem_of_getElem? (i := 1731) (by decide +kernel)) (by decide +kernel)
theorem kk_1734 : Cond.code yX11_eventOf cX11_eventOf 2 (some .int) ∈ gtbl := g_in (List.mem_of_getElem? (i := 1734) (by decide +kernel)) (by decide +kernel)
theorem kk_1732 : Cond.instanceMethod yX11_eventOf ∈ gtbl := g_in (List.mem_of_getElem? (i := 1732) (by decide +kernel)) (by decide +kernel)
theorem kk_1733 : Cond.selects RX11 yX11_eventOf yX11_eventOf ∈ gtbl := g_in (List.mem_of_getElem? (i := 1733) (by decide +kernel)) (by decide +kernel)
theorem kv_L_151 : KV RL 151 mX11_eventOf 1 := ⟨⟨kk_1731, kk_133, kk_1734, by decide +kernel⟩, rfl, kk_1732, kk_1733⟩
theorem kk_1155 : Cond.methodLink RL 152 yL_secondEventOf ∈ gtbl := g_in (List.mem_of_getElem? (i := 1155) (by decide +kernel)) (by decide +kernel)
theorem kk_1157 : Cond.codeWith yL_secondEventOf cL_secondEventOf 4 (some .int) [(0, 9, 12, 24), (0, 9, 15, 13)] ∈ gtbl := g_in (List.mem_of_getElem? (i := 1157) (by decide +kernel)) (by decide +kernel)
theorem kk_1156 : Cond.static yL_secondEventOf ∈ gtbl := g_in (List.mem_of_getElem? (i := 1156) (by decide +kernel)) (by decide +kernel)
theorem kt_L_152 : KSW RL 152 mL_secondEventOf 3 := ⟨kk_1155, kk_118, kk_1157, by decide, by decide +kernel, kk_1156⟩
theorem kk_1735 : Cond.methodLink RL 154 yX11_secondEventOf ∈ gtbl := g_in (List.mem_of_getElem? (i := 1735) (by decide +kernel)) (by decide +kernel)
theorem kk_1738 : Cond.code yX11_secondEventOf cX11_secondEventOf 2 (some .int) ∈ gtbl := g_in (List.mem_of_getElem? (i := 1738) (by decide +kernel)) (by decide +kernel)
theorem kk_1736 : Cond.instanceMethod yX11_secondEventOf ∈ gtbl := g_in (List.mem_of_getElem? (i := 1736) (by decide +kernel)) (by decide +kernel)
theorem kk_1737 : Cond.selects RX11 yX11_secondEventOf yX11_secondEventOf ∈ gtbl := g_in (List.mem_of_getElem? (i := 1737) (by decide +kernel)) (by decide +kernel)
theorem kv_L_154 : KV RL 154 mX11_secondEventOf 1 := ⟨⟨kk_1735, kk_133, kk_1738, by decide +kernel⟩, rfl, kk_1736, kk_1737⟩
theorem kk_1163 : Cond.methodLink RL 155 yL_firstHourOf ∈ gtbl := g_in (List.mem_of_getElem? (i := 1163) (by decide +kernel)) (by decide +kernel)
theorem kk_1165 : Cond.codeWith yL_firstHourOf cL_firstHourOf 4 (some .int) [(0, 9, 12, 24), (0, 9, 15, 13)] ∈ gtbl := g_in (List.mem_of_getElem? (i := 1165) (by decide +kernel)) (by decide +kernel)
theorem kk_1164 : Cond.static yL_firstHourOf ∈ gtbl := g_in (List.mem_of_getElem? (i := 1164) (by decide +kernel)) (by decide +kernel)
theorem kt_L_155 : KSW RL 155 mL_firstHourOf 3 := ⟨kk_1163, kk_118, kk_1165, by decide, by decide +kernel, kk_1164⟩
theorem kk_1739 : Cond.methodLink RL 157 yX11_firstHourOf ∈ gtbl := g_in (List.mem_of_getElem? (i := 1739) (by decide +kernel)) (by decide +kernel)
theorem kk_1742 : Cond.code yX11_firstHourOf cX11_firstHourOf 2 (some .int) ∈ gtbl := g_in (List.mem_of_getElem? (i := 1742) (by decide +kernel)) (by decide +kernel)
theorem kk_1740 : Cond.instanceMethod yX11_firstHourOf ∈ gtbl := g_in (List.mem_of_getElem? (i := 1740) (by decide +kernel)) (by decide +kernel)
theorem kk_1741 : Cond.selects RX11 yX11_firstHourOf yX11_firstHourOf ∈ gtbl := g_in (List.mem_of_getElem? (i := 1741) (by decide +kernel)) (by decide +kernel)
theorem kv_L_157 : KV RL 157 mX11_firstHourOf 1 := ⟨⟨kk_1739, kk_133, kk_1742, by decide +kernel⟩, rfl, kk_1740, kk_1741⟩
theorem kk_1175 : Cond.methodLink RL 158 yL_lastHourOf ∈ gtbl := g_in (List.mem_of_getElem? (i := 1175) (by decide +kernel)) (by decide +kernel)
theorem kk_1177 : Cond.codeWith yL_lastHourOf cL_lastHourOf 4 (some .int) [(0, 9, 12, 24), (0, 9, 15, 13)] ∈ gtbl := g_in (List.mem_of_getElem? (i := 1177) (by decide +kernel)) (by decide +kernel)
theorem kk_1176 : Cond.static yL_lastHourOf ∈ gtbl := g_in (List.mem_of_getElem? (i := 1176) (by decide +kernel)) (by decide +kernel)
theorem kt_L_158 : KSW RL 158 mL_lastHourOf 3 := ⟨kk_1175, kk_118, kk_1177, by decide, by decide +kernel, kk_1176⟩
theorem kk_1743 : Cond.methodLink RL 160 yX11_lastHourOf ∈ gtbl := g_in (List.mem_of_getElem? (i := 1743) (by decide +kernel)) (by decide +kernel)
theorem kk_1746 : Cond.code yX11_lastHourOf cX11_lastHourOf 2 (some .int) ∈ gtbl := g_in (List.mem_of_getElem? (i := 1746) (by decide +kernel)) (by decide +kernel)
theorem kk_1744 : Cond.instanceMethod yX11_lastHourOf ∈ gtbl := g_in (List.mem_of_getElem? (i := 1744) (by decide +kernel)) (by decide +kernel)
theorem kk_1745 : Cond.selects RX11 yX11_lastHourOf yX11_lastHourOf ∈ gtbl := g_in (List.mem_of_getElem? (i := 1745) (by decide +kernel)) (by decide +kernel)
theorem kv_L_160 : KV RL 160 mX11_lastHourOf 1 := ⟨⟨kk_1743, kk_133, kk_1746, by decide +kernel⟩, rfl, kk_1744, kk_1745⟩
theorem kk_1182 : Cond.methodLink RL 161 yL_areContrary ∈ gtbl := g_in (List.mem_of_getElem? (i := 1182) (by decide +kernel)) (by decide +kernel)
theorem kk_1184 : Cond.codeWith yL_areContrary cL_areContrary 5 (some .int) [(0, 17, 20, 24)] ∈ gtbl := g_in (List.mem_of_getElem? (i := 1184) (by decide +kernel)) (by decide +kernel)
theorem kk_1183 : Cond.static yL_areContrary ∈ gtbl := g_in (List.mem_of_getElem? (i := 1183) (by decide +kernel)) (by decide +kernel)
theorem kt_L_161 : KSW RL 161 mL_areContrary 4 := ⟨kk_1182, kk_118, kk_1184, by decide, by decide +kernel, kk_1183⟩
theorem kk_1747 : Cond.methodLink RL 164 yX11_areContrary ∈ gtbl := g_in (List.mem_of_getElem? (i := 1747) (by decide +kernel)) (by decide +kernel)
theorem kk_1750 : Cond.code yX11_areContrary cX11_areContrary 3 (some .boolean) ∈ gtbl := g_in (List.mem_of_getElem? (i := 1750) (by decide +kernel)) (by decide +kernel)
theorem kk_1748 : Cond.instanceMethod yX11_areContrary ∈ gtbl := g_in (List.mem_of_getElem? (i := 1748) (by decide +kernel)) (by decide +kernel)
theorem kk_1749 : Cond.selects RX11 yX11_areContrary yX11_areContrary ∈ gtbl := g_in (List.mem_of_getElem? (i := 1749) (by decide +kernel)) (by decide +kernel)
theorem kv_L_164 : KV RL 164 mX11_areContrary 2 := ⟨⟨kk_1747, kk_133, kk_1750, by decide +kernel⟩, rfl, kk_1748, kk_1749⟩
theorem kk_1190 : Cond.methodLink RL 165 yL_claimsOf ∈ gtbl := g_in (List.mem_of_getElem? (i := 1190) (by decide +kernel)) (by decide +kernel)
theorem kk_1192 : Cond.codeWith yL_claimsOf cL_claimsOf 4 (some .int) [(0, 9, 12, 24)] ∈ gtbl := g_in (List.mem_of_getElem? (i := 1192) (by decide +kernel)) (by decide +kernel)
theorem kk_1191 : Cond.static yL_claimsOf ∈ gtbl := g_in (List.mem_of_getElem? (i := 1191) (by decide +kernel)) (by decide +kernel)
theorem kt_L_165 : KSW RL 165 mL_claimsOf 3 := ⟨kk_1190, kk_118, kk_1192, by decide, by decide +kernel, kk_1191⟩
theorem kk_1755 : Cond.methodLink RL 167 yX11_claimsOf ∈ gtbl := g_in (List.mem_of_getElem? (i := 1755) (by decide +kernel)) (by decide +kernel)
theorem kk_1758 : Cond.code yX11_claimsOf cX11_claimsOf 2 (some .int) ∈ gtbl := g_in (List.mem_of_getElem? (i := 1758) (by decide +kernel)) (by decide +kernel)
theorem kk_1756 : Cond.instanceMethod yX11_claimsOf ∈ gtbl := g_in (List.mem_of_getElem? (i := 1756) (by decide +kernel)) (by decide +kernel)
theorem kk_1757 : Cond.selects RX11 yX11_claimsOf yX11_claimsOf ∈ gtbl := g_in (List.mem_of_getElem? (i := 1757) (by decide +kernel)) (by decide +kernel)
theorem kv_L_167 : KV RL 167 mX11_claimsOf 1 := ⟨⟨kk_1755, kk_133, kk_1758, by decide +kernel⟩, rfl, kk_1756, kk_1757⟩
theorem kk_1202 : Cond.methodLink RL 168 yL_isDoubted ∈ gtbl := g_in (List.mem_of_getElem? (i := 1202) (by decide +kernel)) (by decide +kernel)
theorem kk_1204 : Cond.codeWith yL_isDoubted cL_isDoubted 4 (some .int) [(0, 16, 19, 24)] ∈ gtbl := g_in (List.mem_of_getElem? (i := 1204) (by decide +kernel)) (by decide +kernel)
theorem kk_1203 : Cond.static yL_isDoubted ∈ gtbl := g_in (List.mem_of_getElem? (i := 1203) (by decide +kernel)) (by decide +kernel)
theorem kt_L_168 : KSW RL 168 mL_isDoubted 3 := ⟨kk_1202, kk_118, kk_1204, by decide, by decide +kernel, kk_1203⟩
theorem kk_1767 : Cond.methodLink RL 170 yX11_isDoubted ∈ gtbl := g_in (List.mem_of_getElem? (i := 1767) (by decide +kernel)) (by decide +kernel)
theorem kk_1770 : Cond.code yX11_isDoubted cX11_isDoubted 2 (some .boolean) ∈ gtbl := g_in (List.mem_of_getElem? (i := 1770) (by decide +kernel)) (by decide +kernel)
theorem kk_1768 : Cond.instanceMethod yX11_isDoubted ∈ gtbl := g_in (List.mem_of_getElem? (i := 1768) (by decide +kernel)) (by decide +kernel)
theorem kk_1769 : Cond.selects RX11 yX11_isDoubted yX11_isDoubted ∈ gtbl := g_in (List.mem_of_getElem? (i := 1769) (by decide +kernel)) (by decide +kernel)
theorem kv_L_170 : KV RL 170 mX11_isDoubted 1 := ⟨⟨kk_1767, kk_133, kk_1770, by decide +kernel⟩, rfl, kk_1768, kk_1769⟩
theorem kk_1209 : Cond.methodLink RL 171 yL_doContradict ∈ gtbl := g_in (List.mem_of_getElem? (i := 1209) (by decide +kernel)) (by decide +kernel)
theorem kk_1211 : Cond.codeWith yL_doContradict cL_doContradict 5 (some .int) [(0, 17, 20, 24)] ∈ gtbl := g_in (List.mem_of_getElem? (i := 1211) (by decide +kernel)) (by decide +kernel)
theorem kk_1210 : Cond.static yL_doContradict ∈ gtbl := g_in (List.mem_of_getElem? (i := 1210) (by decide +kernel)) (by decide +kernel)
theorem kt_L_171 : KSW RL 171 mL_doContradict 4 := ⟨kk_1209, kk_118, kk_1211, by decide, by decide +kernel, kk_1210⟩
theorem kk_1774 : Cond.methodLink RL 173 yX11_doContradict ∈ gtbl := g_in (List.mem_of_getElem? (i := 1774) (by decide +kernel)) (by decide +kernel)
theorem kk_1777 : Cond.code yX11_doContradict cX11_doContradict 3 (some .boolean) ∈ gtbl := g_in (List.mem_of_getElem? (i := 1777) (by decide +kernel)) (by decide +kernel)
theorem kk_1775 : Cond.instanceMethod yX11_doContradict ∈ gtbl := g_in (List.mem_of_getElem? (i := 1775) (by decide +kernel)) (by decide +kernel)
theorem kk_1776 : Cond.selects RX11 yX11_doContradict yX11_doContradict ∈ gtbl := g_in (List.mem_of_getElem? (i := 1776) (by decide +kernel)) (by decide +kernel)
theorem kv_L_173 : KV RL 173 mX11_doContradict 2 := ⟨⟨kk_1774, kk_133, kk_1777, by decide +kernel⟩, rfl, kk_1775, kk_1776⟩
theorem kk_1216 : Cond.methodLink RL 174 yL_contraryPairs ∈ gtbl := g_in (List.mem_of_getElem? (i := 1216) (by decide +kernel)) (by decide +kernel)
theorem kk_1218 : Cond.codeWith yL_contraryPairs cL_contraryPairs 5 (some .int) [(0, 10, 13, 24)] ∈ gtbl := g_in (List.mem_of_getElem? (i := 1218) (by decide +kernel)) (by decide +kernel)
theorem kk_1217 : Cond.static yL_contraryPairs ∈ gtbl := g_in (List.mem_of_getElem? (i := 1217) (by decide +kernel)) (by decide +kernel)
theorem kt_L_174 : KSW RL 174 mL_contraryPairs 4 := ⟨kk_1216, kk_118, kk_1218, by decide, by decide +kernel, kk_1217⟩
theorem kk_1782 : Cond.methodLink RL 176 yX11_contraryPairs ∈ gtbl := g_in (List.mem_of_getElem? (i := 1782) (by decide +kernel)) (by decide +kernel)
theorem kk_1785 : Cond.code yX11_contraryPairs cX11_contraryPairs 3 (some .int) ∈ gtbl := g_in (List.mem_of_getElem? (i := 1785) (by decide +kernel)) (by decide +kernel)
theorem kk_1783 : Cond.instanceMethod yX11_contraryPairs ∈ gtbl := g_in (List.mem_of_getElem? (i := 1783) (by decide +kernel)) (by decide +kernel)
theorem kk_1784 : Cond.selects RX11 yX11_contraryPairs yX11_contraryPairs ∈ gtbl := g_in (List.mem_of_getElem? (i := 1784) (by decide +kernel)) (by decide +kernel)
theorem kv_L_176 : KV RL 176 mX11_contraryPairs 2 := ⟨⟨kk_1782, kk_133, kk_1785, by decide +kernel⟩, rfl, kk_1783, kk_1784⟩
theorem kk_817 : Cond.methodLink RL 177 yX9_contradictions ∈ gtbl := g_in (List.mem_of_getElem? (i := 817) (by decide +kernel)) (by decide +kernel)
theorem kv_L_177 : KV RL 177 mX9_contradictions 0 := ⟨⟨kk_817, kk_119, kk_820, by decide +kernel⟩, rfl, kk_818, kk_819⟩
theorem kk_1790 : Cond.methodLink RL 180 yX11_contradictions ∈ gtbl := g_in (List.mem_of_getElem? (i := 1790) (by decide +kernel)) (by decide +kernel)
theorem kk_1793 : Cond.code yX11_contradictions cX11_contradictions 1 (some .int) ∈ gtbl := g_in (List.mem_of_getElem? (i := 1793) (by decide +kernel)) (by decide +kernel)
theorem kk_1791 : Cond.instanceMethod yX11_contradictions ∈ gtbl := g_in (List.mem_of_getElem? (i := 1791) (by decide +kernel)) (by decide +kernel)
theorem kk_1792 : Cond.selects RX11 yX11_contradictions yX11_contradictions ∈ gtbl := g_in (List.mem_of_getElem? (i := 1792) (by decide +kernel)) (by decide +kernel)
theorem kv_L_180 : KV RL 180 mX11_contradictions 0 := ⟨⟨kk_1790, kk_133, kk_1793, by decide +kernel⟩, rfl, kk_1791, kk_1792⟩
theorem kk_838 : Cond.methodLink RL 181 yX9_liars ∈ gtbl := g_in (List.mem_of_getElem? (i := 838) (by decide +kernel)) (by decide +kernel)
theorem kv_L_181 : KV RL 181 mX9_liars 0 := ⟨⟨kk_838, kk_119, kk_841, by decide +kernel⟩, rfl, kk_839, kk_840⟩
theorem kk_1802 : Cond.methodLink RL 184 yX11_liars ∈ gtbl := g_in (List.mem_of_getElem? (i := 1802) (by decide +kernel)) (by decide +kernel)
theorem kk_1805 : Cond.code yX11_liars cX11_liars 1 (some .int) ∈ gtbl := g_in (List.mem_of_getElem? (i := 1805) (by decide +kernel)) (by decide +kernel)
theorem kk_1803 : Cond.instanceMethod yX11_liars ∈ gtbl := g_in (List.mem_of_getElem? (i := 1803) (by decide +kernel)) (by decide +kernel)
theorem kk_1804 : Cond.selects RX11 yX11_liars yX11_liars ∈ gtbl := g_in (List.mem_of_getElem? (i := 1804) (by decide +kernel)) (by decide +kernel)
theorem kv_L_184 : KV RL 184 mX11_liars 0 := ⟨⟨kk_1802, kk_133, kk_1805, by decide +kernel⟩, rfl, kk_1803, kk_1804⟩
theorem kk_862 : Cond.methodLink RL 185 yX9_smallestSets ∈ gtbl := g_in (List.mem_of_getElem? (i := 862) (by decide +kernel)) (by decide +kernel)
theorem kv_L_185 : KV RL 185 mX9_smallestSets 0 := ⟨⟨kk_862, kk_119, kk_865, by decide +kernel⟩, rfl, kk_863, kk_864⟩
theorem kk_1822 : Cond.methodLink RL 188 yX11_smallestSets ∈ gtbl := g_in (List.mem_of_getElem? (i := 1822) (by decide +kernel)) (by decide +kernel)
theorem kk_1825 : Cond.code yX11_smallestSets cX11_smallestSets 1 (some .int) ∈ gtbl := g_in (List.mem_of_getElem? (i := 1825) (by decide +kernel)) (by decide +kernel)
theorem kk_1823 : Cond.instanceMethod yX11_smallestSets ∈ gtbl := g_in (List.mem_of_getElem? (i := 1823) (by decide +kernel)) (by decide +kernel)
theorem kk_1824 : Cond.selects RX11 yX11_smallestSets yX11_smallestSets ∈ gtbl := g_in (List.mem_of_getElem? (i := 1824) (by decide +kernel)) (by decide +kernel)
theorem kv_L_188 : KV RL 188 mX11_smallestSets 0 := ⟨⟨kk_1822, kk_133, kk_1825, by decide +kernel⟩, rfl, kk_1823, kk_1824⟩
theorem kk_1231 : Cond.methodLink RL 189 yL_isLiar ∈ gtbl := g_in (List.mem_of_getElem? (i := 1231) (by decide +kernel)) (by decide +kernel)
theorem kk_1233 : Cond.codeWith yL_isLiar cL_isLiar 4 (some .int) [(0, 16, 19, 24)] ∈ gtbl := g_in (List.mem_of_getElem? (i := 1233) (by decide +kernel)) (by decide +kernel)
theorem kk_1232 : Cond.static yL_isLiar ∈ gtbl := g_in (List.mem_of_getElem? (i := 1232) (by decide +kernel)) (by decide +kernel)
theorem kt_L_189 : KSW RL 189 mL_isLiar 3 := ⟨kk_1231, kk_118, kk_1233, by decide, by decide +kernel, kk_1232⟩
theorem kk_1826 : Cond.methodLink RL 191 yX11_isLiar ∈ gtbl := g_in (List.mem_of_getElem? (i := 1826) (by decide +kernel)) (by decide +kernel)
theorem kk_1829 : Cond.code yX11_isLiar cX11_isLiar 2 (some .boolean) ∈ gtbl := g_in (List.mem_of_getElem? (i := 1829) (by decide +kernel)) (by decide +kernel)
theorem kk_1827 : Cond.instanceMethod yX11_isLiar ∈ gtbl := g_in (List.mem_of_getElem? (i := 1827) (by decide +kernel)) (by decide +kernel)
theorem kk_1828 : Cond.selects RX11 yX11_isLiar yX11_isLiar ∈ gtbl := g_in (List.mem_of_getElem? (i := 1828) (by decide +kernel)) (by decide +kernel)
theorem kv_L_191 : KV RL 191 mX11_isLiar 1 := ⟨⟨kk_1826, kk_133, kk_1829, by decide +kernel⟩, rfl, kk_1827, kk_1828⟩
theorem kk_1238 : Cond.methodLink RL 192 yL_isAgreed ∈ gtbl := g_in (List.mem_of_getElem? (i := 1238) (by decide +kernel)) (by decide +kernel)
theorem kk_1240 : Cond.codeWith yL_isAgreed cL_isAgreed 4 (some .int) [(0, 16, 19, 24)] ∈ gtbl := g_in (List.mem_of_getElem? (i := 1240) (by decide +kernel)) (by decide +kernel)
theorem kk_1239 : Cond.static yL_isAgreed ∈ gtbl := g_in (List.mem_of_getElem? (i := 1239) (by decide +kernel)) (by decide +kernel)
theorem kt_L_192 : KSW RL 192 mL_isAgreed 3 := ⟨kk_1238, kk_118, kk_1240, by decide, by decide +kernel, kk_1239⟩
theorem kk_1834 : Cond.methodLink RL 194 yX11_isAgreed ∈ gtbl := g_in (List.mem_of_getElem? (i := 1834) (by decide +kernel)) (by decide +kernel)
theorem kk_1837 : Cond.code yX11_isAgreed cX11_isAgreed 2 (some .boolean) ∈ gtbl := g_in (List.mem_of_getElem? (i := 1837) (by decide +kernel)) (by decide +kernel)
theorem kk_1835 : Cond.instanceMethod yX11_isAgreed ∈ gtbl := g_in (List.mem_of_getElem? (i := 1835) (by decide +kernel)) (by decide +kernel)
theorem kk_1836 : Cond.selects RX11 yX11_isAgreed yX11_isAgreed ∈ gtbl := g_in (List.mem_of_getElem? (i := 1836) (by decide +kernel)) (by decide +kernel)
theorem kv_L_194 : KV RL 194 mX11_isAgreed 1 := ⟨⟨kk_1834, kk_133, kk_1837, by decide +kernel⟩, rfl, kk_1835, kk_1836⟩
theorem kk_1250 : Cond.methodLink RL 195 yL_windowFrom ∈ gtbl := g_in (List.mem_of_getElem? (i := 1250) (by decide +kernel)) (by decide +kernel)
theorem kk_1252 : Cond.codeWith yL_windowFrom cL_windowFrom 4 (some .int) [(0, 9, 12, 24), (0, 9, 15, 13)] ∈ gtbl := g_in (List.mem_of_getElem? (i := 1252) (by decide +kernel)) (by decide +kernel)
theorem kk_1251 : Cond.static yL_windowFrom ∈ gtbl := g_in (List.mem_of_getElem? (i := 1251) (by decide +kernel)) (by decide +kernel)
theorem kt_L_195 : KSW RL 195 mL_windowFrom 3 := ⟨kk_1250, kk_118, kk_1252, by decide, by decide +kernel, kk_1251⟩
theorem kk_1855 : Cond.methodLink RL 197 yX11_windowFrom ∈ gtbl := g_in (List.mem_of_getElem? (i := 1855) (by decide +kernel)) (by decide +kernel)
theorem kk_1858 : Cond.code yX11_windowFrom cX11_windowFrom 2 (some .int) ∈ gtbl := g_in (List.mem_of_getElem? (i := 1858) (by decide +kernel)) (by decide +kernel)
theorem kk_1856 : Cond.instanceMethod yX11_windowFrom ∈ gtbl := g_in (List.mem_of_getElem? (i := 1856) (by decide +kernel)) (by decide +kernel)
theorem kk_1857 : Cond.selects RX11 yX11_windowFrom yX11_windowFrom ∈ gtbl := g_in (List.mem_of_getElem? (i := 1857) (by decide +kernel)) (by decide +kernel)
theorem kv_L_197 : KV RL 197 mX11_windowFrom 1 := ⟨⟨kk_1855, kk_133, kk_1858, by decide +kernel⟩, rfl, kk_1856, kk_1857⟩
theorem kk_1262 : Cond.methodLink RL 198 yL_windowTo ∈ gtbl := g_in (List.mem_of_getElem? (i := 1262) (by decide +kernel)) (by decide +kernel)
theorem kk_1264 : Cond.codeWith yL_windowTo cL_windowTo 4 (some .int) [(0, 9, 12, 24), (0, 9, 15, 13)] ∈ gtbl := g_in (List.mem_of_getElem? (i := 1264) (by decide +kernel)) (by decide +kernel)
theorem kk_1263 : Cond.static yL_windowTo ∈ gtbl := g_in (List.mem_of_getElem? (i := 1263) (by decide +kernel)) (by decide +kernel)
theorem kt_L_198 : KSW RL 198 mL_windowTo 3 := ⟨kk_1262, kk_118, kk_1264, by decide, by decide +kernel, kk_1263⟩
theorem kk_1859 : Cond.methodLink RL 200 yX11_windowTo ∈ gtbl := g_in (List.mem_of_getElem? (i := 1859) (by decide +kernel)) (by decide +kernel)
theorem kk_1862 : Cond.code yX11_windowTo cX11_windowTo 2 (some .int) ∈ gtbl := g_in (List.mem_of_getElem? (i := 1862) (by decide +kernel)) (by decide +kernel)
theorem kk_1860 : Cond.instanceMethod yX11_windowTo ∈ gtbl := g_in (List.mem_of_getElem? (i := 1860) (by decide +kernel)) (by decide +kernel)
theorem kk_1861 : Cond.selects RX11 yX11_windowTo yX11_windowTo ∈ gtbl := g_in (List.mem_of_getElem? (i := 1861) (by decide +kernel)) (by decide +kernel)
theorem kv_L_200 : KV RL 200 mX11_windowTo 1 := ⟨⟨kk_1859, kk_133, kk_1862, by decide +kernel⟩, rfl, kk_1860, kk_1861⟩
theorem kk_870 : Cond.methodLink RL 201 yX9_hasOrder ∈ gtbl := g_in (List.mem_of_getElem? (i := 870) (by decide +kernel)) (by decide +kernel)
theorem kv_L_201 : KV RL 201 mX9_hasOrder 0 := ⟨⟨kk_870, kk_119, kk_873, by decide +kernel⟩, rfl, kk_871, kk_872⟩
theorem kk_1863 : Cond.methodLink RL 205 yX11_hasOrder ∈ gtbl := g_in (List.mem_of_getElem? (i := 1863) (by decide +kernel)) (by decide +kernel)
theorem kk_1866 : Cond.code yX11_hasOrder cX11_hasOrder 1 (some .boolean) ∈ gtbl := g_in (List.mem_of_getElem? (i := 1866) (by decide +kernel)) (by decide +kernel)
theorem kk_1864 : Cond.instanceMethod yX11_hasOrder ∈ gtbl := g_in (List.mem_of_getElem? (i := 1864) (by decide +kernel)) (by decide +kernel)
theorem kk_1865 : Cond.selects RX11 yX11_hasOrder yX11_hasOrder ∈ gtbl := g_in (List.mem_of_getElem? (i := 1865) (by decide +kernel)) (by decide +kernel)
theorem kv_L_205 : KV RL 205 mX11_hasOrder 0 := ⟨⟨kk_1863, kk_133, kk_1866, by decide +kernel⟩, rfl, kk_1864, kk_1865⟩
theorem kk_1269 : Cond.methodLink RL 206 yL_eventAt ∈ gtbl := g_in (List.mem_of_getElem? (i := 1269) (by decide +kernel)) (by decide +kernel)
theorem kk_1271 : Cond.codeWith yL_eventAt cL_eventAt 4 (some .int) [(0, 9, 12, 24), (0, 9, 15, 13)] ∈ gtbl := g_in (List.mem_of_getElem? (i := 1271) (by decide +kernel)) (by decide +kernel)
theorem kk_1270 : Cond.static yL_eventAt ∈ gtbl := g_in (List.mem_of_getElem? (i := 1270) (by decide +kernel)) (by decide +kernel)
theorem kt_L_206 : KSW RL 206 mL_eventAt 3 := ⟨kk_1269, kk_118, kk_1271, by decide, by decide +kernel, kk_1270⟩
theorem kk_1879 : Cond.methodLink RL 208 yX11_eventAt ∈ gtbl := g_in (List.mem_of_getElem? (i := 1879) (by decide +kernel)) (by decide +kernel)
theorem kk_1882 : Cond.code yX11_eventAt cX11_eventAt 2 (some .int) ∈ gtbl := g_in (List.mem_of_getElem? (i := 1882) (by decide +kernel)) (by decide +kernel)
theorem kk_1880 : Cond.instanceMethod yX11_eventAt ∈ gtbl := g_in (List.mem_of_getElem? (i := 1880) (by decide +kernel)) (by decide +kernel)
theorem kk_1881 : Cond.selects RX11 yX11_eventAt yX11_eventAt ∈ gtbl := g_in (List.mem_of_getElem? (i := 1881) (by decide +kernel)) (by decide +kernel)
theorem kv_L_208 : KV RL 208 mX11_eventAt 1 := ⟨⟨kk_1879, kk_133, kk_1882, by decide +kernel⟩, rfl, kk_1880, kk_1881⟩
theorem kk_1278 : Cond.methodLink RL 209 yL_claimHours ∈ gtbl := g_in (List.mem_of_getElem? (i := 1278) (by decide +kernel)) (by decide +kernel)
theorem kk_1280 : Cond.codeWith yL_claimHours cL_claimHours 7 (some .int) [(0, 14, 17, 24), (0, 14, 21, 19), (0, 14, 25, 13)] ∈ gtbl := g_in (List.mem_of_getElem? (i := 1280) (by decide +kernel)) (by decide +kernel)
theorem kk_1279 : Cond.static yL_claimHours ∈ gtbl := g_in (List.mem_of_getElem? (i := 1279) (by decide +kernel)) (by decide +kernel)
theorem kt_L_209 : KSW RL 209 mL_claimHours 6 := ⟨kk_1278, kk_118, kk_1280, by decide, by decide +kernel, kk_1279⟩
theorem kk_1883 : Cond.methodLink RL 212 yX11_claimHours ∈ gtbl := g_in (List.mem_of_getElem? (i := 1883) (by decide +kernel)) (by decide +kernel)
theorem kk_1886 : Cond.code yX11_claimHours cX11_claimHours 5 (some .int) ∈ gtbl := g_in (List.mem_of_getElem? (i := 1886) (by decide +kernel)) (by decide +kernel)
theorem kk_1884 : Cond.instanceMethod yX11_claimHours ∈ gtbl := g_in (List.mem_of_getElem? (i := 1884) (by decide +kernel)) (by decide +kernel)
theorem kk_1885 : Cond.selects RX11 yX11_claimHours yX11_claimHours ∈ gtbl := g_in (List.mem_of_getElem? (i := 1885) (by decide +kernel)) (by decide +kernel)
theorem kv_L_212 : KV RL 212 mX11_claimHours 4 := ⟨⟨kk_1883, kk_133, kk_1886, by decide +kernel⟩, rfl, kk_1884, kk_1885⟩
theorem kk_1293 : Cond.methodLink RL 213 yL_claimBefore ∈ gtbl := g_in (List.mem_of_getElem? (i := 1293) (by decide +kernel)) (by decide +kernel)
theorem kk_1295 : Cond.codeWith yL_claimBefore cL_claimBefore 6 (some .int) [(0, 12, 15, 24), (0, 12, 19, 19), (0, 12, 23, 13)] ∈ gtbl := g_in (List.mem_of_getElem? (i := 1295) (by decide +kernel)) (by decide +kernel)
theorem kk_1294 : Cond.static yL_claimBefore ∈ gtbl := g_in (List.mem_of_getElem? (i := 1294) (by decide +kernel)) (by decide +kernel)
theorem kt_L_213 : KSW RL 213 mL_claimBefore 5 := ⟨kk_1293, kk_118, kk_1295, by decide, by decide +kernel, kk_1294⟩
theorem kk_1891 : Cond.methodLink RL 216 yX11_claimBefore ∈ gtbl := g_in (List.mem_of_getElem? (i := 1891) (by decide +kernel)) (by decide +kernel)
theorem kk_1894 : Cond.code yX11_claimBefore cX11_claimBefore 4 (some .int) ∈ gtbl := g_in (List.mem_of_getElem? (i := 1894) (by decide +kernel)) (by decide +kernel)
theorem kk_1892 : Cond.instanceMethod yX11_claimBefore ∈ gtbl := g_in (List.mem_of_getElem? (i := 1892) (by decide +kernel)) (by decide +kernel)
theorem kk_1893 : Cond.selects RX11 yX11_claimBefore yX11_claimBefore ∈ gtbl := g_in (List.mem_of_getElem? (i := 1893) (by decide +kernel)) (by decide +kernel)
theorem kv_L_216 : KV RL 216 mX11_claimBefore 3 := ⟨⟨kk_1891, kk_133, kk_1894, by decide +kernel⟩, rfl, kk_1892, kk_1893⟩
theorem kk_1305 : Cond.methodLink RL 217 yL_claimTogether ∈ gtbl := g_in (List.mem_of_getElem? (i := 1305) (by decide +kernel)) (by decide +kernel)
theorem kk_1307 : Cond.codeWith yL_claimTogether cL_claimTogether 6 (some .int) [(0, 12, 15, 24), (0, 12, 19, 19), (0, 12, 23, 13)] ∈ gtbl := g_in (List.mem_of_getElem? (i := 1307) (by decide +kernel)) (by decide +kernel)
theorem kk_1306 : Cond.static yL_claimTogether ∈ gtbl := g_in (List.mem_of_getElem? (i := 1306) (by decide +kernel)) (by decide +kernel)
theorem kt_L_217 : KSW RL 217 mL_claimTogether 5 := ⟨kk_1305, kk_118, kk_1307, by decide, by decide +kernel, kk_1306⟩
theorem kk_1899 : Cond.methodLink RL 219 yX11_claimTogether ∈ gtbl := g_in (List.mem_of_getElem? (i := 1899) (by decide +kernel)) (by decide +kernel)
theorem kk_1902 : Cond.code yX11_claimTogether cX11_claimTogether 4 (some .int) ∈ gtbl := g_in (List.mem_of_getElem? (i := 1902) (by decide +kernel)) (by decide +kernel)
theorem kk_1900 : Cond.instanceMethod yX11_claimTogether ∈ gtbl := g_in (List.mem_of_getElem? (i := 1900) (by decide +kernel)) (by decide +kernel)
theorem kk_1901 : Cond.selects RX11 yX11_claimTogether yX11_claimTogether ∈ gtbl := g_in (List.mem_of_getElem? (i := 1901) (by decide +kernel)) (by decide +kernel)
theorem kv_L_219 : KV RL 219 mX11_claimTogether 3 := ⟨⟨kk_1899, kk_133, kk_1902, by decide +kernel⟩, rfl, kk_1900, kk_1901⟩
theorem kk_1312 : Cond.methodLink RL 220 yL_takeBack ∈ gtbl := g_in (List.mem_of_getElem? (i := 1312) (by decide +kernel)) (by decide +kernel)
theorem kk_1314 : Cond.codeWith yL_takeBack cL_takeBack 4 (some .int) [(0, 9, 12, 24)] ∈ gtbl := g_in (List.mem_of_getElem? (i := 1314) (by decide +kernel)) (by decide +kernel)
theorem kk_1313 : Cond.static yL_takeBack ∈ gtbl := g_in (List.mem_of_getElem? (i := 1313) (by decide +kernel)) (by decide +kernel)
theorem kt_L_220 : KSW RL 220 mL_takeBack 3 := ⟨kk_1312, kk_118, kk_1314, by decide, by decide +kernel, kk_1313⟩
theorem kk_1903 : Cond.methodLink RL 222 yX11_takeBack ∈ gtbl := g_in (List.mem_of_getElem? (i := 1903) (by decide +kernel)) (by decide +kernel)
theorem kk_1906 : Cond.code yX11_takeBack cX11_takeBack 4 (some .int) ∈ gtbl := g_in (List.mem_of_getElem? (i := 1906) (by decide +kernel)) (by decide +kernel)
theorem kk_1904 : Cond.instanceMethod yX11_takeBack ∈ gtbl := g_in (List.mem_of_getElem? (i := 1904) (by decide +kernel)) (by decide +kernel)
theorem kk_1905 : Cond.selects RX11 yX11_takeBack yX11_takeBack ∈ gtbl := g_in (List.mem_of_getElem? (i := 1905) (by decide +kernel)) (by decide +kernel)
theorem kv_L_222 : KV RL 222 mX11_takeBack 1 := ⟨⟨kk_1903, kk_133, kk_1906, by decide +kernel⟩, rfl, kk_1904, kk_1905⟩
theorem kk_1323 : Cond.methodLink RL 223 yL_turnDoubt ∈ gtbl := g_in (List.mem_of_getElem? (i := 1323) (by decide +kernel)) (by decide +kernel)
theorem kk_1325 : Cond.codeWith yL_turnDoubt cL_turnDoubt 4 (some .int) [(0, 16, 19, 24)] ∈ gtbl := g_in (List.mem_of_getElem? (i := 1325) (by decide +kernel)) (by decide +kernel)
theorem kk_1324 : Cond.static yL_turnDoubt ∈ gtbl := g_in (List.mem_of_getElem? (i := 1324) (by decide +kernel)) (by decide +kernel)
theorem kt_L_223 : KSW RL 223 mL_turnDoubt 3 := ⟨kk_1323, kk_118, kk_1325, by decide, by decide +kernel, kk_1324⟩
theorem kk_1907 : Cond.methodLink RL 225 yX11_turnDoubt ∈ gtbl := g_in (List.mem_of_getElem? (i := 1907) (by decide +kernel)) (by decide +kernel)
theorem kk_1910 : Cond.code yX11_turnDoubt cX11_turnDoubt 2 (some .boolean) ∈ gtbl := g_in (List.mem_of_getElem? (i := 1910) (by decide +kernel)) (by decide +kernel)
theorem kk_1908 : Cond.instanceMethod yX11_turnDoubt ∈ gtbl := g_in (List.mem_of_getElem? (i := 1908) (by decide +kernel)) (by decide +kernel)
theorem kk_1909 : Cond.selects RX11 yX11_turnDoubt yX11_turnDoubt ∈ gtbl := g_in (List.mem_of_getElem? (i := 1909) (by decide +kernel)) (by decide +kernel)
theorem kv_L_225 : KV RL 225 mX11_turnDoubt 1 := ⟨⟨kk_1907, kk_133, kk_1910, by decide +kernel⟩, rfl, kk_1908, kk_1909⟩
theorem kk_1330 : Cond.methodLink RL 226 yL_passEvenings ∈ gtbl := g_in (List.mem_of_getElem? (i := 1330) (by decide +kernel)) (by decide +kernel)
theorem kk_1332 : Cond.codeWith yL_passEvenings cL_passEvenings 4 (some .int) [(0, 9, 12, 19)] ∈ gtbl := g_in (List.mem_of_getElem? (i := 1332) (by decide +kernel)) (by decide +kernel)
theorem kk_1331 : Cond.static yL_passEvenings ∈ gtbl := g_in (List.mem_of_getElem? (i := 1331) (by decide +kernel)) (by decide +kernel)
theorem kt_L_226 : KSW RL 226 mL_passEvenings 3 := ⟨kk_1330, kk_118, kk_1332, by decide, by decide +kernel, kk_1331⟩
theorem kk_1911 : Cond.methodLink RL 228 yX11_passEvenings ∈ gtbl := g_in (List.mem_of_getElem? (i := 1911) (by decide +kernel)) (by decide +kernel)
theorem kk_1914 : Cond.code yX11_passEvenings cX11_passEvenings 2 (some .int) ∈ gtbl := g_in (List.mem_of_getElem? (i := 1914) (by decide +kernel)) (by decide +kernel)
theorem kk_1912 : Cond.instanceMethod yX11_passEvenings ∈ gtbl := g_in (List.mem_of_getElem? (i := 1912) (by decide +kernel)) (by decide +kernel)
theorem kk_1913 : Cond.selects RX11 yX11_passEvenings yX11_passEvenings ∈ gtbl := g_in (List.mem_of_getElem? (i := 1913) (by decide +kernel)) (by decide +kernel)
theorem kv_L_228 : KV RL 228 mX11_passEvenings 1 := ⟨⟨kk_1911, kk_133, kk_1914, by decide +kernel⟩, rfl, kk_1912, kk_1913⟩
theorem kk_1342 : Cond.methodLink RL 229 yL_liarsAfter ∈ gtbl := g_in (List.mem_of_getElem? (i := 1342) (by decide +kernel)) (by decide +kernel)
theorem kk_1344 : Cond.codeWith yL_liarsAfter cL_liarsAfter 4 (some .int) [(0, 9, 12, 19)] ∈ gtbl := g_in (List.mem_of_getElem? (i := 1344) (by decide +kernel)) (by decide +kernel)
theorem kk_1343 : Cond.static yL_liarsAfter ∈ gtbl := g_in (List.mem_of_getElem? (i := 1343) (by decide +kernel)) (by decide +kernel)
theorem kt_L_229 : KSW RL 229 mL_liarsAfter 3 := ⟨kk_1342, kk_118, kk_1344, by decide, by decide +kernel, kk_1343⟩
theorem kk_1936 : Cond.methodLink RL 231 yX11_liarsAfter ∈ gtbl := g_in (List.mem_of_getElem? (i := 1936) (by decide +kernel)) (by decide +kernel)
theorem kk_1939 : Cond.code yX11_liarsAfter cX11_liarsAfter 4 (some .int) ∈ gtbl := g_in (List.mem_of_getElem? (i := 1939) (by decide +kernel)) (by decide +kernel)
theorem kk_1937 : Cond.instanceMethod yX11_liarsAfter ∈ gtbl := g_in (List.mem_of_getElem? (i := 1937) (by decide +kernel)) (by decide +kernel)
theorem kk_1938 : Cond.selects RX11 yX11_liarsAfter yX11_liarsAfter ∈ gtbl := g_in (List.mem_of_getElem? (i := 1938) (by decide +kernel)) (by decide +kernel)
theorem kv_L_231 : KV RL 231 mX11_liarsAfter 1 := ⟨⟨kk_1936, kk_133, kk_1939, by decide +kernel⟩, rfl, kk_1937, kk_1938⟩
theorem kk_887 : Cond.methodLink RL 232 yX9_eveningsUntilOneStory ∈ gtbl := g_in (List.mem_of_getElem? (i := 887) (by decide +kernel)) (by decide +kernel)
theorem kk_890 : Cond.code yX9_eveningsUntilOneStory cX9_eveningsUntilOneStory 2 (some .int) ∈ gtbl := g_in (List.mem_of_getElem? (i := 890) (by decide +kernel)) (by decide +kernel)
theorem kk_888 : Cond.instanceMethod yX9_eveningsUntilOneStory ∈ gtbl := g_in (List.mem_of_getElem? (i := 888) (by decide +kernel)) (by decide +kernel)
theorem kk_889 : Cond.selects RX9 yX9_eveningsUntilOneStory yX9_eveningsUntilOneStory ∈ gtbl := g_in (List.mem_of_getElem? (i := 889) (by decide +kernel)) (by decide +kernel)
theorem kv_L_232 : KV RL 232 mX9_eveningsUntilOneStory 0 := ⟨⟨kk_887, kk_119, kk_890, by decide +kernel⟩, rfl, kk_888, kk_889⟩
theorem kk_1944 : Cond.methodLink RL 235 yX11_eveningsUntilOneStory ∈ gtbl := g_in (List.mem_of_getElem? (i := 1944) (by decide +kernel)) (by decide +kernel)
theorem kk_1947 : Cond.code yX11_eveningsUntilOneStory cX11_eveningsUntilOneStory 3 (some .int) ∈ gtbl := g_in (List.mem_of_getElem? (i := 1947) (by decide +kernel)) (by decide +kernel)
theorem kk_1945 : Cond.instanceMethod yX11_eveningsUntilOneStory ∈ gtbl := g_in (List.mem_of_getElem? (i := 1945) (by decide +kernel)) (by decide +kernel)
theorem kk_1946 : Cond.selects RX11 yX11_eveningsUntilOneStory yX11_eveningsUntilOneStory ∈ gtbl := g_in (List.mem_of_getElem? (i := 1946) (by decide +kernel)) (by decide +kernel)
theorem kv_L_235 : KV RL 235 mX11_eveningsUntilOneStory 0 := ⟨⟨kk_1944, kk_133, kk_1947, by decide +kernel⟩, rfl, kk_1945, kk_1946⟩
theorem kk_966 : Cond.methodLink RL 236 yX9_bestToDoubt ∈ gtbl := g_in (List.mem_of_getElem? (i := 966) (by decide +kernel)) (by decide +kernel)
theorem kk_969 : Cond.code yX9_bestToDoubt cX9_bestToDoubt 5 (some .int) ∈ gtbl := g_in (List.mem_of_getElem? (i := 969) (by decide +kernel)) (by decide +kernel)
theorem kk_967 : Cond.instanceMethod yX9_bestToDoubt ∈ gtbl := g_in (List.mem_of_getElem? (i := 967) (by decide +kernel)) (by decide +kernel)
theorem kk_968 : Cond.selects RX9 yX9_bestToDoubt yX9_bestToDoubt ∈ gtbl := g_in (List.mem_of_getElem? (i := 968) (by decide +kernel)) (by decide +kernel)
theorem kv_L_236 : KV RL 236 mX9_bestToDoubt 0 := ⟨⟨kk_966, kk_119, kk_969, by decide +kernel⟩, rfl, kk_967, kk_968⟩
theorem kk_1948 : Cond.methodLink RL 239 yX11_bestToDoubt ∈ gtbl := g_in (List.mem_of_getElem? (i := 1948) (by decide +kernel)) (by decide +kernel)
theorem kk_1951 : Cond.code yX11_bestToDoubt cX11_bestToDoubt 5 (some .int) ∈ gtbl := g_in (List.mem_of_getElem? (i := 1951) (by decide +kernel)) (by decide +kernel)
theorem kk_1949 : Cond.instanceMethod yX11_bestToDoubt ∈ gtbl := g_in (List.mem_of_getElem? (i := 1949) (by decide +kernel)) (by decide +kernel)
theorem kk_1950 : Cond.selects RX11 yX11_bestToDoubt yX11_bestToDoubt ∈ gtbl := g_in (List.mem_of_getElem? (i := 1950) (by decide +kernel)) (by decide +kernel)
theorem kv_L_239 : KV RL 239 mX11_bestToDoubt 0 := ⟨⟨kk_1948, kk_133, kk_1951, by decide +kernel⟩, rfl, kk_1949, kk_1950⟩
theorem kk_970 : Cond.methodLink RL 240 yX9_meanClaims ∈ gtbl := g_in (List.mem_of_getElem? (i := 970) (by decide +kernel)) (by decide +kernel)
theorem kk_973 : Cond.code yX9_meanClaims cX9_meanClaims 1 (some .double) ∈ gtbl := g_in (List.mem_of_getElem? (i := 973) (by decide +kernel)) (by decide +kernel)
theorem kk_971 : Cond.instanceMethod yX9_meanClaims ∈ gtbl := g_in (List.mem_of_getElem? (i := 971) (by decide +kernel)) (by decide +kernel)
theorem kk_972 : Cond.selects RX9 yX9_meanClaims yX9_meanClaims ∈ gtbl := g_in (List.mem_of_getElem? (i := 972) (by decide +kernel)) (by decide +kernel)
theorem kv_L_240 : KV RL 240 mX9_meanClaims 0 := ⟨⟨kk_970, kk_119, kk_973, by decide +kernel⟩, rfl, kk_971, kk_972⟩
theorem kk_1952 : Cond.methodLink RL 244 yX11_meanClaims ∈ gtbl := g_in (List.mem_of_getElem? (i := 1952) (by decide +kernel)) (by decide +kernel)
theorem kk_1955 : Cond.code yX11_meanClaims cX11_meanClaims 1 (some .double) ∈ gtbl := g_in (List.mem_of_getElem? (i := 1955) (by decide +kernel)) (by decide +kernel)
theorem kk_1953 : Cond.instanceMethod yX11_meanClaims ∈ gtbl := g_in (List.mem_of_getElem? (i := 1953) (by decide +kernel)) (by decide +kernel)
theorem kk_1954 : Cond.selects RX11 yX11_meanClaims yX11_meanClaims ∈ gtbl := g_in (List.mem_of_getElem? (i := 1954) (by decide +kernel)) (by decide +kernel)
theorem kv_L_244 : KV RL 244 mX11_meanClaims 0 := ⟨⟨kk_1952, kk_133, kk_1955, by decide +kernel⟩, rfl, kk_1953, kk_1954⟩
theorem kk_974 : Cond.methodLink RL 245 yX9_digest ∈ gtbl := g_in (List.mem_of_getElem? (i := 974) (by decide +kernel)) (by decide +kernel)
theorem kk_977 : Cond.code yX9_digest cX9_digest 3 (some .long) ∈ gtbl := g_in (List.mem_of_getElem? (i := 977) (by decide +kernel)) (by decide +kernel)
theorem kk_975 : Cond.instanceMethod yX9_digest ∈ gtbl := g_in (List.mem_of_getElem? (i := 975) (by decide +kernel)) (by decide +kernel)
theorem kk_976 : Cond.selects RX9 yX9_digest yX9_digest ∈ gtbl := g_in (List.mem_of_getElem? (i := 976) (by decide +kernel)) (by decide +kernel)
theorem kv_L_245 : KV RL 245 mX9_digest 0 := ⟨⟨kk_974, kk_119, kk_977, by decide +kernel⟩, rfl, kk_975, kk_976⟩
theorem kk_1956 : Cond.methodLink RL 249 yX11_digest ∈ gtbl := g_in (List.mem_of_getElem? (i := 1956) (by decide +kernel)) (by decide +kernel)
theorem kk_1959 : Cond.code yX11_digest cX11_digest 8 (some .long) ∈ gtbl := g_in (List.mem_of_getElem? (i := 1959) (by decide +kernel)) (by decide +kernel)
theorem kk_1957 : Cond.instanceMethod yX11_digest ∈ gtbl := g_in (List.mem_of_getElem? (i := 1957) (by decide +kernel)) (by decide +kernel)
theorem kk_1958 : Cond.selects RX11 yX11_digest yX11_digest ∈ gtbl := g_in (List.mem_of_getElem? (i := 1958) (by decide +kernel)) (by decide +kernel)
theorem kv_L_249 : KV RL 249 mX11_digest 0 := ⟨⟨kk_1956, kk_133, kk_1959, by decide +kernel⟩, rfl, kk_1957, kk_1958⟩
abbrev mL_law (nm : String) : MT := (⟨RL, nm, "([I)Z"⟩, cL_law, 9, some .boolean, [(0, 0, 0, 0)])
section LH
variable {g : GG} {M : MT} {d x y : Nat} {pc : Nat} {ls : List (Nat × Value)} {st : List Value} {ws : va_W} {Q : Rs → va_W → Prop} {N : MT} {d2 a b n idx : Nat} {As rest : List Value} {r : Value} {w2 : va_W}
theorem c_LW (a2 b2 : Nat) (hd : decode (mC M) pc = .ok (.invokestatic idx, 3)) (hl : KSW (mY M).cls idx N n) (hC : Ct g N d2 a b As ws (Dv (some r) w2)) (hA : As.length = n) (hst : st = As.reverse ++ rest) (hr8 : (rest.map fun v => v.category).sum ≤ 8) (hdd : d2 + 1 ≤ d) (hN : mN N ≤ 40)
    (kk : R g M d a2 b2 (pc + 3) ls (r :: rest) w2 Q) : R g M d (a2 + a) (b2 + b) pc ls st ws Q :=
  r_callSW hd hl hC Dv.no hA hst hr8 hdd hN (fun v w h => by obtain ⟨h1, rfl⟩ := h; cases h1; exact kk)
theorem c_La {ci ob : Nat} {fs : List Value} {W : va_W → va_W} {t : va_W} (a2 b2 q : Nat) (hd : decode (mC M) pc = .ok (.invokevirtual idx, 3)) (hl : KV (mY M).cls idx N n) (hC : Ct g N d2 a b (.ref ob :: As) ws (Da (some r) W t)) (hA : As.length = n) (hst : st = As.reverse ++ .ref ob :: rest) (ho : ws[q]? = some (ob, .inr (ci, fs))) (hci : (vwCl[ci]?).map (fun r => r.1) = some (mY N).cls) (hr8 : (rest.map fun v => v.category).sum ≤ 8) (hdd : d2 + 1 ≤ d) (hN : mN N ≤ 40)
    (kk : ∀ t2, R g M d a2 b2 (pc + 3) ls (r :: rest) (W (t2 ++ t)) Q) : R g M d (a2 + a) (b2 + b) pc ls st ws Q :=
  r_callV q hd hl hC (fun E w h => nomatch h.1) hA hst ho hci hr8 hdd hN (fun v w h => by obtain ⟨h1, t2, rfl⟩ := h; cases h1; exact kk t2)
theorem c_Lp {ci ob : Nat} {fs : List Value} {W : (Nat → Nat) → va_W → va_W} {t : va_W} (a2 b2 q : Nat) (hd : decode (mC M) pc = .ok (.invokevirtual idx, 3)) (hl : KV (mY M).cls idx N n) (hC : Ct g N d2 a b (.ref ob :: As) ws (Dp (some r) W t)) (hA : As.length = n) (hst : st = As.reverse ++ .ref ob :: rest) (ho : ws[q]? = some (ob, .inr (ci, fs))) (hci : (vwCl[ci]?).map (fun r => r.1) = some (mY N).cls) (hr8 : (rest.map fun v => v.category).sum ≤ 8) (hdd : d2 + 1 ≤ d) (hN : mN N ≤ 40)
    (kk : ∀ b9 t2, R g M d a2 b2 (pc + 3) ls (r :: rest) (W b9 (t2 ++ t)) Q) : R g M d (a2 + a) (b2 + b) pc ls st ws Q :=
  r_callV q hd hl hC Dp.no hA hst ho hci hr8 hdd hN (fun v w h => by obtain ⟨h1, b9, t2, rfl⟩ := h; cases h1; exact kk b9 t2)
theorem r_less {x2 y2 : Nat} (hx : x ≤ x2) (hy : y ≤ y2) (kk : R g M d x y pc ls st ws Q) : R g M d x2 y2 pc ls st ws Q := by
  intro p l e Rm s m args below meth c H locs cells slots la cx hr hs hl hc1 hc2
  exact kk p l e Rm s m args below meth c H locs cells slots la cx hr hs hl (by omega) (by omega)
theorem pmF (A B C E t : va_W) : (C ++ (E ++ (A ++ (B ++ t)))).Perm (A ++ (B ++ (C ++ (E ++ t)))) := by
  have h1 : ((C ++ E) ++ (A ++ B)).Perm ((A ++ B) ++ (C ++ E)) := List.perm_append_comm
  have h2 := h1.append_right t
  simp only [List.append_assoc] at h2
  exact h2
theorem pmG (A B C E t2 t : va_W) : (A ++ (B ++ (C ++ (E ++ (t2 ++ t))))).Perm (C ++ (E ++ (t2 ++ (A ++ (B ++ t))))) := by
  have h1 : ((A ++ B) ++ ((C ++ E) ++ t2)).Perm (((C ++ E) ++ t2) ++ (A ++ B)) := List.perm_append_comm
  have h2 := h1.append_right t
  simp only [List.append_assoc] at h2
  exact h2
theorem pmH (A B C E t2 t : va_W) : (A ++ (B ++ (C ++ (E ++ (t2 ++ t))))).Perm (C ++ (t2 ++ (E ++ (A ++ (B ++ t))))) := (pmG A B C E t2 t).trans (pmS C E t2 (A ++ (B ++ t)))
end LH
def GoK (nm : String) (g : GG) (ad ao am : Nat → Nat) (Q : Rs → va_W → Prop) (a b : Nat) (i : Int32) : Prop := ∀ {ap : Nat → Nat} {x0 x1 : Int32} {x2 : Nat → Int32} {x3 x4 x5 : Int32} {x6 x7 x8 x9 x10 : Nat → Int32} {x11 x12 : Int32} {x13 x14 x15 x16 x17 : Nat → Int32} {x18 x19 x20 : Int32} {x21 x22 x23 : Nat → Int32} {x24 x25 x26 x27 x28 x29 x30 x31 : Int32} {x32 : Int64} {x33 x34 x35 : Nat → Int32} {x36 : Nat → Int64} {x37 : Int32} {x38 : Nat → Int64} {x39 x40 x41 : Int32} {x42 x43 x44 x45 x46 : Nat → Int32} {x47 x48 : Int32} {x49 x50 x51 x52 x53 : Nat → Int32} {x54 : Int32} {x55 : Nat → Int64} {x56 : Int32} {x57 : Nat → Int64} {x58 x59 x60 x61 : Int32} {x62 : Nat → Int32} {x63 x64 x65 x66 : Int32} {x67 : Nat → Int32} {m0 m1 m2 m3 m4 m5 m6 m7 m8 m9 m10 m11 m12 : Int32} {m13 m14 m15 m16 : Nat → Int32} {m17 : Nat → Int64} {m18 m19 m20 m21 : Nat → Int32} {u0 u1 u2 u3 u4 : Int32} {u5 u6 : Nat → Int64} {u7 u8 u9 u10 u11 u12 u13 u14 u15 u16 u17 u18 : Nat → Int32} {out : Nat → Int64} {t : va_W}, Rel x0 x1 x2 x3 x4 x5 x6 x7 x8 x9 x10 x11 x13 x14 x15 x16 x17 x18 x19 x20 x21 x37 x38 x59 x60 x61 m1 m2 m6 m7 m8 m9 m10 m11 m12 m13 m19 u0 u1 u2 u3 u7 u8 u9 u10 u11 u12 u13 u14 u15 u16 u17 u18 → R g (mL_law nm) 1400 a b 2050 [(0, .ref (gb g)), (1, .ref (ad 0)), (2, .ref (am 0)), (3, .ref (ao 0)), (4, .int i)] [] (wlX g ad x0 x1 x2 x3 x4 x5 x6 x7 x8 x9 x10 x11 x12 x13 x14 x15 x16 x17 x18 x19 x20 x21 x22 x23 x24 x25 x26 x27 x28 x29 x30 x31 x32 x33 x34 x35 x36 x37 x38 x39 x40 x41 x42 x43 x44 x45 x46 x47 x48 x49 x50 x51 x52 x53 x54 x55 x56 x57 x58 x59 x60 x61 x62 x63 x64 x65 x66 x67 ++ (wlO g ao out ++ (wlM g am (ap 0) m0 m1 m2 m3 m4 m5 m6 m7 m8 m9 m10 m11 m12 m13 m14 m15 m16 m17 m18 m19 m20 m21 ++ (wlP g ap u0 u1 u2 u3 u4 u5 u6 u7 u8 u9 u10 u11 u12 u13 u14 u15 u16 u17 u18 ++ t)))) Q
