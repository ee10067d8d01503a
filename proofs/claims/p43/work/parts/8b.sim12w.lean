abbrev mX10_isSame : MT := (yX10_isSame, cX10_isSame, 6, (some .boolean), [])
theorem kk_959 : Cond.methodLink RX10 72 yX9_events ∈ gtbl := g_in (List.mem_of_getElem? (i := 959) (by decide +kernel)) (by decide +kernel)
theorem kv_X10_72 : KV RX10 72 mX9_events 0 := ⟨⟨kk_959, kk_57, kk_469, by decide +kernel⟩, rfl, kk_467, kk_468⟩
theorem kk_960 : Cond.methodLink RX10 77 yX9_tellers ∈ gtbl := g_in (List.mem_of_getElem? (i := 960) (by decide +kernel)) (by decide +kernel)
theorem kv_X10_77 : KV RX10 77 mX9_tellers 0 := ⟨⟨kk_960, kk_57, kk_473, by decide +kernel⟩, rfl, kk_471, kk_472⟩
theorem kk_961 : Cond.methodLink RX10 79 yX9_claims ∈ gtbl := g_in (List.mem_of_getElem? (i := 961) (by decide +kernel)) (by decide +kernel)
theorem kv_X10_79 : KV RX10 79 mX9_claims 0 := ⟨⟨kk_961, kk_57, kk_477, by decide +kernel⟩, rfl, kk_475, kk_476⟩
theorem kk_962 : Cond.methodLink RX10 81 yX9_evenings ∈ gtbl := g_in (List.mem_of_getElem? (i := 962) (by decide +kernel)) (by decide +kernel)
theorem kv_X10_81 : KV RX10 81 mX9_evenings 0 := ⟨⟨kk_962, kk_57, kk_877, by decide +kernel⟩, rfl, kk_875, kk_876⟩
theorem kk_963 : Cond.methodLink RX10 83 yX9_ordersCarriedOut ∈ gtbl := g_in (List.mem_of_getElem? (i := 963) (by decide +kernel)) (by decide +kernel)
theorem kv_X10_83 : KV RX10 83 mX9_ordersCarriedOut 0 := ⟨⟨kk_963, kk_57, kk_881, by decide +kernel⟩, rfl, kk_879, kk_880⟩
theorem kk_964 : Cond.methodLink RX10 86 yX9_contradictions ∈ gtbl := g_in (List.mem_of_getElem? (i := 964) (by decide +kernel)) (by decide +kernel)
theorem kv_X10_86 : KV RX10 86 mX9_contradictions 0 := ⟨⟨kk_964, kk_57, kk_647, by decide +kernel⟩, rfl, kk_645, kk_646⟩
theorem kk_965 : Cond.methodLink RX10 89 yX10_pairs_ ∈ gtbl := g_in (List.mem_of_getElem? (i := 965) (by decide +kernel)) (by decide +kernel)
theorem kv_X10_89 : KV RX10 89 mX10_pairs_ 1 := ⟨⟨kk_965, kk_73, kk_938, by decide +kernel⟩, rfl, kk_936, kk_937⟩
theorem kk_966 : Cond.methodLink RX10 92 yX9_meanClaims ∈ gtbl := g_in (List.mem_of_getElem? (i := 966) (by decide +kernel)) (by decide +kernel)
theorem kk_969 : Cond.code yX9_meanClaims cX9_meanClaims 1 (some .double) ∈ gtbl := g_in (List.mem_of_getElem? (i := 969) (by decide +kernel)) (by decide +kernel)
theorem kk_967 : Cond.instanceMethod yX9_meanClaims ∈ gtbl := g_in (List.mem_of_getElem? (i := 967) (by decide +kernel)) (by decide +kernel)
theorem kk_968 : Cond.selects RX9 yX9_meanClaims yX9_meanClaims ∈ gtbl := g_in (List.mem_of_getElem? (i := 968) (by decide +kernel)) (by decide +kernel)
theorem kv_X10_92 : KV RX10 92 mX9_meanClaims 0 := ⟨⟨kk_966, kk_57, kk_969, by decide +kernel⟩, rfl, kk_967, kk_968⟩
theorem kk_995 : Cond.methodLink RX10 146 yX10_window ∈ gtbl := g_in (List.mem_of_getElem? (i := 995) (by decide +kernel)) (by decide +kernel)
theorem kv_X10_146 : KV RX10 146 mX10_window 1 := ⟨⟨kk_995, kk_73, kk_946, by decide +kernel⟩, rfl, kk_944, kk_945⟩
theorem kk_996 : Cond.methodLink RX10 150 yX9_isAgreed ∈ gtbl := g_in (List.mem_of_getElem? (i := 996) (by decide +kernel)) (by decide +kernel)
theorem kk_701 : Cond.code yX9_isAgreed cX9_isAgreed 2 (some .boolean) ∈ gtbl := g_in (List.mem_of_getElem? (i := 701) (by decide +kernel)) (by decide +kernel)
theorem kk_699 : Cond.instanceMethod yX9_isAgreed ∈ gtbl := g_in (List.mem_of_getElem? (i := 699) (by decide +kernel)) (by decide +kernel)
theorem kk_700 : Cond.selects RX9 yX9_isAgreed yX9_isAgreed ∈ gtbl := g_in (List.mem_of_getElem? (i := 700) (by decide +kernel)) (by decide +kernel)
theorem kv_X10_150 : KV RX10 150 mX9_isAgreed 1 := ⟨⟨kk_996, kk_57, kk_701, by decide +kernel⟩, rfl, kk_699, kk_700⟩
theorem kk_997 : Cond.methodLink RX10 153 yX9_windowFrom ∈ gtbl := g_in (List.mem_of_getElem? (i := 997) (by decide +kernel)) (by decide +kernel)
theorem kk_732 : Cond.code yX9_windowFrom cX9_windowFrom 2 (some .int) ∈ gtbl := g_in (List.mem_of_getElem? (i := 732) (by decide +kernel)) (by decide +kernel)
theorem kk_730 : Cond.instanceMethod yX9_windowFrom ∈ gtbl := g_in (List.mem_of_getElem? (i := 730) (by decide +kernel)) (by decide +kernel)
theorem kk_731 : Cond.selects RX9 yX9_windowFrom yX9_windowFrom ∈ gtbl := g_in (List.mem_of_getElem? (i := 731) (by decide +kernel)) (by decide +kernel)
theorem kv_X10_153 : KV RX10 153 mX9_windowFrom 1 := ⟨⟨kk_997, kk_57, kk_732, by decide +kernel⟩, rfl, kk_730, kk_731⟩
theorem kk_998 : Cond.methodLink RX10 156 yX9_windowTo ∈ gtbl := g_in (List.mem_of_getElem? (i := 998) (by decide +kernel)) (by decide +kernel)
theorem kk_742 : Cond.code yX9_windowTo cX9_windowTo 2 (some .int) ∈ gtbl := g_in (List.mem_of_getElem? (i := 742) (by decide +kernel)) (by decide +kernel)
theorem kk_740 : Cond.instanceMethod yX9_windowTo ∈ gtbl := g_in (List.mem_of_getElem? (i := 740) (by decide +kernel)) (by decide +kernel)
theorem kk_741 : Cond.selects RX9 yX9_windowTo yX9_windowTo ∈ gtbl := g_in (List.mem_of_getElem? (i := 741) (by decide +kernel)) (by decide +kernel)
theorem kv_X10_156 : KV RX10 156 mX9_windowTo 1 := ⟨⟨kk_998, kk_57, kk_742, by decide +kernel⟩, rfl, kk_740, kk_741⟩
theorem kk_999 : Cond.methodLink RX10 159 yX9_eventAt ∈ gtbl := g_in (List.mem_of_getElem? (i := 999) (by decide +kernel)) (by decide +kernel)
theorem kk_768 : Cond.code yX9_eventAt cX9_eventAt 2 (some .int) ∈ gtbl := g_in (List.mem_of_getElem? (i := 768) (by decide +kernel)) (by decide +kernel)
theorem kk_766 : Cond.instanceMethod yX9_eventAt ∈ gtbl := g_in (List.mem_of_getElem? (i := 766) (by decide +kernel)) (by decide +kernel)
theorem kk_767 : Cond.selects RX9 yX9_eventAt yX9_eventAt ∈ gtbl := g_in (List.mem_of_getElem? (i := 767) (by decide +kernel)) (by decide +kernel)
theorem kv_X10_159 : KV RX10 159 mX9_eventAt 1 := ⟨⟨kk_999, kk_57, kk_768, by decide +kernel⟩, rfl, kk_766, kk_767⟩
theorem kk_990 : Cond.methodLink RX10 138 yX10_order ∈ gtbl := g_in (List.mem_of_getElem? (i := 990) (by decide +kernel)) (by decide +kernel)
theorem kk_993 : Cond.code yX10_order cX10_order 12 (some (.array .int)) ∈ gtbl := g_in (List.mem_of_getElem? (i := 993) (by decide +kernel)) (by decide +kernel)
theorem kk_991 : Cond.instanceMethod yX10_order ∈ gtbl := g_in (List.mem_of_getElem? (i := 991) (by decide +kernel)) (by decide +kernel)
theorem kk_992 : Cond.selects RX10 yX10_order yX10_order ∈ gtbl := g_in (List.mem_of_getElem? (i := 992) (by decide +kernel)) (by decide +kernel)
theorem kv_X10_138 : KV RX10 138 mX10_order 0 := ⟨⟨kk_990, kk_73, kk_993, by decide +kernel⟩, rfl, kk_991, kk_992⟩
theorem kk_994 : Cond.methodLink RX10 142 yX9_hasOrder ∈ gtbl := g_in (List.mem_of_getElem? (i := 994) (by decide +kernel)) (by decide +kernel)
theorem kv_X10_142 : KV RX10 142 mX9_hasOrder 0 := ⟨⟨kk_994, kk_57, kk_747, by decide +kernel⟩, rfl, kk_745, kk_746⟩
theorem kk_984 : Cond.methodLink RX10 122 yX9_claimsOf ∈ gtbl := g_in (List.mem_of_getElem? (i := 984) (by decide +kernel)) (by decide +kernel)
theorem kk_601 : Cond.code yX9_claimsOf cX9_claimsOf 2 (some .int) ∈ gtbl := g_in (List.mem_of_getElem? (i := 601) (by decide +kernel)) (by decide +kernel)
theorem kk_599 : Cond.instanceMethod yX9_claimsOf ∈ gtbl := g_in (List.mem_of_getElem? (i := 599) (by decide +kernel)) (by decide +kernel)
theorem kk_600 : Cond.selects RX9 yX9_claimsOf yX9_claimsOf ∈ gtbl := g_in (List.mem_of_getElem? (i := 600) (by decide +kernel)) (by decide +kernel)
theorem kv_X10_122 : KV RX10 122 mX9_claimsOf 1 := ⟨⟨kk_984, kk_57, kk_601, by decide +kernel⟩, rfl, kk_599, kk_600⟩
theorem kk_985 : Cond.methodLink RX10 125 yX10_claimsOf ∈ gtbl := g_in (List.mem_of_getElem? (i := 985) (by decide +kernel)) (by decide +kernel)
theorem kv_X10_125 : KV RX10 125 mX10_claimsOf 1 := ⟨⟨kk_985, kk_73, kk_942, by decide +kernel⟩, rfl, kk_940, kk_941⟩
theorem kk_986 : Cond.methodLink RX10 126 yX9_isDoubted ∈ gtbl := g_in (List.mem_of_getElem? (i := 986) (by decide +kernel)) (by decide +kernel)
theorem kk_615 : Cond.code yX9_isDoubted cX9_isDoubted 2 (some .boolean) ∈ gtbl := g_in (List.mem_of_getElem? (i := 615) (by decide +kernel)) (by decide +kernel)
theorem kk_613 : Cond.instanceMethod yX9_isDoubted ∈ gtbl := g_in (List.mem_of_getElem? (i := 613) (by decide +kernel)) (by decide +kernel)
theorem kk_614 : Cond.selects RX9 yX9_isDoubted yX9_isDoubted ∈ gtbl := g_in (List.mem_of_getElem? (i := 614) (by decide +kernel)) (by decide +kernel)
theorem kv_X10_126 : KV RX10 126 mX9_isDoubted 1 := ⟨⟨kk_986, kk_57, kk_615, by decide +kernel⟩, rfl, kk_613, kk_614⟩
theorem kk_987 : Cond.methodLink RX10 129 yX9_isLiar ∈ gtbl := g_in (List.mem_of_getElem? (i := 987) (by decide +kernel)) (by decide +kernel)
theorem kk_697 : Cond.code yX9_isLiar cX9_isLiar 2 (some .boolean) ∈ gtbl := g_in (List.mem_of_getElem? (i := 697) (by decide +kernel)) (by decide +kernel)
theorem kk_695 : Cond.instanceMethod yX9_isLiar ∈ gtbl := g_in (List.mem_of_getElem? (i := 695) (by decide +kernel)) (by decide +kernel)
theorem kk_696 : Cond.selects RX9 yX9_isLiar yX9_isLiar ∈ gtbl := g_in (List.mem_of_getElem? (i := 696) (by decide +kernel)) (by decide +kernel)
theorem kv_X10_129 : KV RX10 129 mX9_isLiar 1 := ⟨⟨kk_987, kk_57, kk_697, by decide +kernel⟩, rfl, kk_695, kk_696⟩
theorem kk_988 : Cond.methodLink RX10 132 yX9_contraryPairs ∈ gtbl := g_in (List.mem_of_getElem? (i := 988) (by decide +kernel)) (by decide +kernel)
theorem kk_632 : Cond.code yX9_contraryPairs cX9_contraryPairs 3 (some .int) ∈ gtbl := g_in (List.mem_of_getElem? (i := 632) (by decide +kernel)) (by decide +kernel)
theorem kk_630 : Cond.instanceMethod yX9_contraryPairs ∈ gtbl := g_in (List.mem_of_getElem? (i := 630) (by decide +kernel)) (by decide +kernel)
theorem kk_631 : Cond.selects RX9 yX9_contraryPairs yX9_contraryPairs ∈ gtbl := g_in (List.mem_of_getElem? (i := 631) (by decide +kernel)) (by decide +kernel)
theorem kv_X10_132 : KV RX10 132 mX9_contraryPairs 2 := ⟨⟨kk_988, kk_57, kk_632, by decide +kernel⟩, rfl, kk_630, kk_631⟩
theorem kk_989 : Cond.methodLink RX10 135 yX9_doContradict ∈ gtbl := g_in (List.mem_of_getElem? (i := 989) (by decide +kernel)) (by decide +kernel)
theorem kk_622 : Cond.code yX9_doContradict cX9_doContradict 3 (some .boolean) ∈ gtbl := g_in (List.mem_of_getElem? (i := 622) (by decide +kernel)) (by decide +kernel)
theorem kk_620 : Cond.instanceMethod yX9_doContradict ∈ gtbl := g_in (List.mem_of_getElem? (i := 620) (by decide +kernel)) (by decide +kernel)
theorem kk_621 : Cond.selects RX9 yX9_doContradict yX9_doContradict ∈ gtbl := g_in (List.mem_of_getElem? (i := 621) (by decide +kernel)) (by decide +kernel)
theorem kv_X10_135 : KV RX10 135 mX9_doContradict 2 := ⟨⟨kk_989, kk_57, kk_622, by decide +kernel⟩, rfl, kk_620, kk_621⟩
theorem kk_982 : Cond.methodLink RX10 117 yX9_liars ∈ gtbl := g_in (List.mem_of_getElem? (i := 982) (by decide +kernel)) (by decide +kernel)
theorem kv_X10_117 : KV RX10 117 mX9_liars 0 := ⟨⟨kk_982, kk_57, kk_665, by decide +kernel⟩, rfl, kk_663, kk_664⟩
theorem kk_983 : Cond.methodLink RX10 119 yX9_smallestSets ∈ gtbl := g_in (List.mem_of_getElem? (i := 983) (by decide +kernel)) (by decide +kernel)
theorem kv_X10_119 : KV RX10 119 mX9_smallestSets 0 := ⟨⟨kk_983, kk_57, kk_689, by decide +kernel⟩, rfl, kk_687, kk_688⟩
theorem kk_970 : Cond.methodLink RX10 96 yX9_kindOf ∈ gtbl := g_in (List.mem_of_getElem? (i := 970) (by decide +kernel)) (by decide +kernel)
theorem kk_560 : Cond.code yX9_kindOf cX9_kindOf 2 (some .int) ∈ gtbl := g_in (List.mem_of_getElem? (i := 560) (by decide +kernel)) (by decide +kernel)
theorem kk_558 : Cond.instanceMethod yX9_kindOf ∈ gtbl := g_in (List.mem_of_getElem? (i := 558) (by decide +kernel)) (by decide +kernel)
theorem kk_559 : Cond.selects RX9 yX9_kindOf yX9_kindOf ∈ gtbl := g_in (List.mem_of_getElem? (i := 559) (by decide +kernel)) (by decide +kernel)
theorem kv_X10_96 : KV RX10 96 mX9_kindOf 1 := ⟨⟨kk_970, kk_57, kk_560, by decide +kernel⟩, rfl, kk_558, kk_559⟩
theorem kk_971 : Cond.methodLink RX10 99 yX9_tellerOf ∈ gtbl := g_in (List.mem_of_getElem? (i := 971) (by decide +kernel)) (by decide +kernel)
theorem kk_481 : Cond.code yX9_tellerOf cX9_tellerOf 2 (some .int) ∈ gtbl := g_in (List.mem_of_getElem? (i := 481) (by decide +kernel)) (by decide +kernel)
theorem kk_479 : Cond.instanceMethod yX9_tellerOf ∈ gtbl := g_in (List.mem_of_getElem? (i := 479) (by decide +kernel)) (by decide +kernel)
theorem kk_480 : Cond.selects RX9 yX9_tellerOf yX9_tellerOf ∈ gtbl := g_in (List.mem_of_getElem? (i := 480) (by decide +kernel)) (by decide +kernel)
theorem kv_X10_99 : KV RX10 99 mX9_tellerOf 1 := ⟨⟨kk_971, kk_57, kk_481, by decide +kernel⟩, rfl, kk_479, kk_480⟩
theorem kk_972 : Cond.methodLink RX10 102 yX9_eventOf ∈ gtbl := g_in (List.mem_of_getElem? (i := 972) (by decide +kernel)) (by decide +kernel)
theorem kk_564 : Cond.code yX9_eventOf cX9_eventOf 2 (some .int) ∈ gtbl := g_in (List.mem_of_getElem? (i := 564) (by decide +kernel)) (by decide +kernel)
theorem kk_562 : Cond.instanceMethod yX9_eventOf ∈ gtbl := g_in (List.mem_of_getElem? (i := 562) (by decide +kernel)) (by decide +kernel)
theorem kk_563 : Cond.selects RX9 yX9_eventOf yX9_eventOf ∈ gtbl := g_in (List.mem_of_getElem? (i := 563) (by decide +kernel)) (by decide +kernel)
theorem kv_X10_102 : KV RX10 102 mX9_eventOf 1 := ⟨⟨kk_972, kk_57, kk_564, by decide +kernel⟩, rfl, kk_562, kk_563⟩
theorem kk_976 : Cond.methodLink RX10 114 yX9_areContrary ∈ gtbl := g_in (List.mem_of_getElem? (i := 976) (by decide +kernel)) (by decide +kernel)
theorem kk_979 : Cond.code yX9_areContrary cX9_areContrary 3 (some .boolean) ∈ gtbl := g_in (List.mem_of_getElem? (i := 979) (by decide +kernel)) (by decide +kernel)
theorem kk_977 : Cond.instanceMethod yX9_areContrary ∈ gtbl := g_in (List.mem_of_getElem? (i := 977) (by decide +kernel)) (by decide +kernel)
theorem kk_978 : Cond.selects RX9 yX9_areContrary yX9_areContrary ∈ gtbl := g_in (List.mem_of_getElem? (i := 978) (by decide +kernel)) (by decide +kernel)
theorem kv_X10_114 : KV RX10 114 mX9_areContrary 2 := ⟨⟨kk_976, kk_57, kk_979, by decide +kernel⟩, rfl, kk_977, kk_978⟩
theorem kk_975 : Cond.methodLink RX10 111 yX9_secondEventOf ∈ gtbl := g_in (List.mem_of_getElem? (i := 975) (by decide +kernel)) (by decide +kernel)
theorem kk_568 : Cond.code yX9_secondEventOf cX9_secondEventOf 2 (some .int) ∈ gtbl := g_in (List.mem_of_getElem? (i := 568) (by decide +kernel)) (by decide +kernel)
theorem kk_566 : Cond.instanceMethod yX9_secondEventOf ∈ gtbl := g_in (List.mem_of_getElem? (i := 566) (by decide +kernel)) (by decide +kernel)
theorem kk_567 : Cond.selects RX9 yX9_secondEventOf yX9_secondEventOf ∈ gtbl := g_in (List.mem_of_getElem? (i := 567) (by decide +kernel)) (by decide +kernel)
theorem kv_X10_111 : KV RX10 111 mX9_secondEventOf 1 := ⟨⟨kk_975, kk_57, kk_568, by decide +kernel⟩, rfl, kk_566, kk_567⟩
theorem kk_973 : Cond.methodLink RX10 105 yX9_firstHourOf ∈ gtbl := g_in (List.mem_of_getElem? (i := 973) (by decide +kernel)) (by decide +kernel)
theorem kk_588 : Cond.code yX9_firstHourOf cX9_firstHourOf 2 (some .int) ∈ gtbl := g_in (List.mem_of_getElem? (i := 588) (by decide +kernel)) (by decide +kernel)
theorem kk_586 : Cond.instanceMethod yX9_firstHourOf ∈ gtbl := g_in (List.mem_of_getElem? (i := 586) (by decide +kernel)) (by decide +kernel)
theorem kk_587 : Cond.selects RX9 yX9_firstHourOf yX9_firstHourOf ∈ gtbl := g_in (List.mem_of_getElem? (i := 587) (by decide +kernel)) (by decide +kernel)
theorem kv_X10_105 : KV RX10 105 mX9_firstHourOf 1 := ⟨⟨kk_973, kk_57, kk_588, by decide +kernel⟩, rfl, kk_586, kk_587⟩
theorem kk_974 : Cond.methodLink RX10 108 yX9_lastHourOf ∈ gtbl := g_in (List.mem_of_getElem? (i := 974) (by decide +kernel)) (by decide +kernel)
theorem kk_597 : Cond.code yX9_lastHourOf cX9_lastHourOf 2 (some .int) ∈ gtbl := g_in (List.mem_of_getElem? (i := 597) (by decide +kernel)) (by decide +kernel)
theorem kk_595 : Cond.instanceMethod yX9_lastHourOf ∈ gtbl := g_in (List.mem_of_getElem? (i := 595) (by decide +kernel)) (by decide +kernel)
theorem kk_596 : Cond.selects RX9 yX9_lastHourOf yX9_lastHourOf ∈ gtbl := g_in (List.mem_of_getElem? (i := 596) (by decide +kernel)) (by decide +kernel)
theorem kv_X10_108 : KV RX10 108 mX9_lastHourOf 1 := ⟨⟨kk_974, kk_57, kk_597, by decide +kernel⟩, rfl, kk_595, kk_596⟩
