theorem kk_1013 : Cond.methodLink RL 7 yX9_feed ∈ gtbl := g_in (List.mem_of_getElem? (i := 1013) (by decide +kernel)) (by decide +kernel)
theorem kk_1016 : Cond.code yX9_feed cX9_feed 6 (some .int) ∈ gtbl := g_in (List.mem_of_getElem? (i := 1016) (by decide +kernel)) (by decide +kernel)
theorem kk_1014 : Cond.instanceMethod yX9_feed ∈ gtbl := g_in (List.mem_of_getElem? (i := 1014) (by decide +kernel)) (by decide +kernel)
theorem kk_1015 : Cond.selects RX9 yX9_feed yX9_feed ∈ gtbl := g_in (List.mem_of_getElem? (i := 1015) (by decide +kernel)) (by decide +kernel)
theorem kv_L_7 : KV RL 7 mX9_feed 5 := ⟨⟨kk_1013, kk_119, kk_1016, by decide +kernel⟩, rfl, kk_1014, kk_1015⟩
abbrev mL_feed : MT := (yL_feed, cL_feed, 8, (some .int), [(0, 16, 19, 13)])
theorem kn_1019 : Cond.castable "java/lang/IllegalStateException" "java/lang/IllegalStateException" ∈ gnest := n_in (List.mem_of_getElem? (i := 1019) (by decide +kernel)) (by decide +kernel)
theorem kk_1012 : Cond.classLink RL 13 "java/lang/IllegalStateException" ∈ gtbl := g_in (List.mem_of_getElem? (i := 1012) (by decide +kernel)) (by decide +kernel)
theorem kk_1093 : Cond.methodLink RL 15 yX9_trim ∈ gtbl := g_in (List.mem_of_getElem? (i := 1093) (by decide +kernel)) (by decide +kernel)
theorem kk_1096 : Cond.code yX9_trim cX9_trim 2 (some .int) ∈ gtbl := g_in (List.mem_of_getElem? (i := 1096) (by decide +kernel)) (by decide +kernel)
theorem kk_1094 : Cond.instanceMethod yX9_trim ∈ gtbl := g_in (List.mem_of_getElem? (i := 1094) (by decide +kernel)) (by decide +kernel)
theorem kk_1095 : Cond.selects RX9 yX9_trim yX9_trim ∈ gtbl := g_in (List.mem_of_getElem? (i := 1095) (by decide +kernel)) (by decide +kernel)
theorem kv_L_15 : KV RL 15 mX9_trim 1 := ⟨⟨kk_1093, kk_119, kk_1096, by decide +kernel⟩, rfl, kk_1094, kk_1095⟩
abbrev mL_trim : MT := (yL_trim, cL_trim, 4, (some .int), [(0, 9, 12, 19)])
theorem kn_1099 : Cond.castable "java/lang/IllegalArgumentException" "java/lang/IllegalArgumentException" ∈ gnest := n_in (List.mem_of_getElem? (i := 1099) (by decide +kernel)) (by decide +kernel)
theorem kk_1092 : Cond.classLink RL 19 "java/lang/IllegalArgumentException" ∈ gtbl := g_in (List.mem_of_getElem? (i := 1092) (by decide +kernel)) (by decide +kernel)
theorem kk_1117 : Cond.methodLink RL 21 yX9_tellerOf ∈ gtbl := g_in (List.mem_of_getElem? (i := 1117) (by decide +kernel)) (by decide +kernel)
theorem kk_1120 : Cond.code yX9_tellerOf cX9_tellerOf 2 (some .int) ∈ gtbl := g_in (List.mem_of_getElem? (i := 1120) (by decide +kernel)) (by decide +kernel)
theorem kk_1118 : Cond.instanceMethod yX9_tellerOf ∈ gtbl := g_in (List.mem_of_getElem? (i := 1118) (by decide +kernel)) (by decide +kernel)
theorem kk_1119 : Cond.selects RX9 yX9_tellerOf yX9_tellerOf ∈ gtbl := g_in (List.mem_of_getElem? (i := 1119) (by decide +kernel)) (by decide +kernel)
theorem kv_L_21 : KV RL 21 mX9_tellerOf 1 := ⟨⟨kk_1117, kk_119, kk_1120, by decide +kernel⟩, rfl, kk_1118, kk_1119⟩
abbrev mL_tellerOf : MT := (yL_tellerOf, cL_tellerOf, 4, (some .int), [(0, 9, 12, 24)])
theorem kn_1127 : Cond.castable "java/lang/IndexOutOfBoundsException" "java/lang/IndexOutOfBoundsException" ∈ gnest := n_in (List.mem_of_getElem? (i := 1127) (by decide +kernel)) (by decide +kernel)
theorem kk_1116 : Cond.classLink RL 24 "java/lang/IndexOutOfBoundsException" ∈ gtbl := g_in (List.mem_of_getElem? (i := 1116) (by decide +kernel)) (by decide +kernel)
theorem kk_1144 : Cond.methodLink RL 26 yX9_kindOf ∈ gtbl := g_in (List.mem_of_getElem? (i := 1144) (by decide +kernel)) (by decide +kernel)
theorem kk_1147 : Cond.code yX9_kindOf cX9_kindOf 2 (some .int) ∈ gtbl := g_in (List.mem_of_getElem? (i := 1147) (by decide +kernel)) (by decide +kernel)
theorem kk_1145 : Cond.instanceMethod yX9_kindOf ∈ gtbl := g_in (List.mem_of_getElem? (i := 1145) (by decide +kernel)) (by decide +kernel)
theorem kk_1146 : Cond.selects RX9 yX9_kindOf yX9_kindOf ∈ gtbl := g_in (List.mem_of_getElem? (i := 1146) (by decide +kernel)) (by decide +kernel)
theorem kv_L_26 : KV RL 26 mX9_kindOf 1 := ⟨⟨kk_1144, kk_119, kk_1147, by decide +kernel⟩, rfl, kk_1145, kk_1146⟩
abbrev mL_kindOf : MT := (yL_kindOf, cL_kindOf, 4, (some .int), [(0, 9, 12, 24)])
theorem kk_1151 : Cond.methodLink RL 29 yX9_eventOf ∈ gtbl := g_in (List.mem_of_getElem? (i := 1151) (by decide +kernel)) (by decide +kernel)
theorem kk_1154 : Cond.code yX9_eventOf cX9_eventOf 2 (some .int) ∈ gtbl := g_in (List.mem_of_getElem? (i := 1154) (by decide +kernel)) (by decide +kernel)
theorem kk_1152 : Cond.instanceMethod yX9_eventOf ∈ gtbl := g_in (List.mem_of_getElem? (i := 1152) (by decide +kernel)) (by decide +kernel)
theorem kk_1153 : Cond.selects RX9 yX9_eventOf yX9_eventOf ∈ gtbl := g_in (List.mem_of_getElem? (i := 1153) (by decide +kernel)) (by decide +kernel)
theorem kv_L_29 : KV RL 29 mX9_eventOf 1 := ⟨⟨kk_1151, kk_119, kk_1154, by decide +kernel⟩, rfl, kk_1152, kk_1153⟩
abbrev mL_eventOf : MT := (yL_eventOf, cL_eventOf, 4, (some .int), [(0, 9, 12, 24)])
theorem kk_1158 : Cond.methodLink RL 32 yX9_secondEventOf ∈ gtbl := g_in (List.mem_of_getElem? (i := 1158) (by decide +kernel)) (by decide +kernel)
theorem kk_1161 : Cond.code yX9_secondEventOf cX9_secondEventOf 2 (some .int) ∈ gtbl := g_in (List.mem_of_getElem? (i := 1161) (by decide +kernel)) (by decide +kernel)
theorem kk_1159 : Cond.instanceMethod yX9_secondEventOf ∈ gtbl := g_in (List.mem_of_getElem? (i := 1159) (by decide +kernel)) (by decide +kernel)
theorem kk_1160 : Cond.selects RX9 yX9_secondEventOf yX9_secondEventOf ∈ gtbl := g_in (List.mem_of_getElem? (i := 1160) (by decide +kernel)) (by decide +kernel)
theorem kv_L_32 : KV RL 32 mX9_secondEventOf 1 := ⟨⟨kk_1158, kk_119, kk_1161, by decide +kernel⟩, rfl, kk_1159, kk_1160⟩
abbrev mL_secondEventOf : MT := (yL_secondEventOf, cL_secondEventOf, 4, (some .int), [(0, 9, 12, 24), (0, 9, 15, 13)])
theorem kk_1166 : Cond.methodLink RL 35 yX9_firstHourOf ∈ gtbl := g_in (List.mem_of_getElem? (i := 1166) (by decide +kernel)) (by decide +kernel)
theorem kk_1169 : Cond.code yX9_firstHourOf cX9_firstHourOf 2 (some .int) ∈ gtbl := g_in (List.mem_of_getElem? (i := 1169) (by decide +kernel)) (by decide +kernel)
theorem kk_1167 : Cond.instanceMethod yX9_firstHourOf ∈ gtbl := g_in (List.mem_of_getElem? (i := 1167) (by decide +kernel)) (by decide +kernel)
theorem kk_1168 : Cond.selects RX9 yX9_firstHourOf yX9_firstHourOf ∈ gtbl := g_in (List.mem_of_getElem? (i := 1168) (by decide +kernel)) (by decide +kernel)
theorem kv_L_35 : KV RL 35 mX9_firstHourOf 1 := ⟨⟨kk_1166, kk_119, kk_1169, by decide +kernel⟩, rfl, kk_1167, kk_1168⟩
abbrev mL_firstHourOf : MT := (yL_firstHourOf, cL_firstHourOf, 4, (some .int), [(0, 9, 12, 24), (0, 9, 15, 13)])
theorem kk_1178 : Cond.methodLink RL 38 yX9_lastHourOf ∈ gtbl := g_in (List.mem_of_getElem? (i := 1178) (by decide +kernel)) (by decide +kernel)
theorem kk_1181 : Cond.code yX9_lastHourOf cX9_lastHourOf 2 (some .int) ∈ gtbl := g_in (List.mem_of_getElem? (i := 1181) (by decide +kernel)) (by decide +kernel)
theorem kk_1179 : Cond.instanceMethod yX9_lastHourOf ∈ gtbl := g_in (List.mem_of_getElem? (i := 1179) (by decide +kernel)) (by decide +kernel)
theorem kk_1180 : Cond.selects RX9 yX9_lastHourOf yX9_lastHourOf ∈ gtbl := g_in (List.mem_of_getElem? (i := 1180) (by decide +kernel)) (by decide +kernel)
theorem kv_L_38 : KV RL 38 mX9_lastHourOf 1 := ⟨⟨kk_1178, kk_119, kk_1181, by decide +kernel⟩, rfl, kk_1179, kk_1180⟩
abbrev mL_lastHourOf : MT := (yL_lastHourOf, cL_lastHourOf, 4, (some .int), [(0, 9, 12, 24), (0, 9, 15, 13)])
theorem kk_1185 : Cond.methodLink RL 41 yX9_areContrary ∈ gtbl := g_in (List.mem_of_getElem? (i := 1185) (by decide +kernel)) (by decide +kernel)
theorem kk_1188 : Cond.code yX9_areContrary cX9_areContrary 3 (some .boolean) ∈ gtbl := g_in (List.mem_of_getElem? (i := 1188) (by decide +kernel)) (by decide +kernel)
theorem kk_1186 : Cond.instanceMethod yX9_areContrary ∈ gtbl := g_in (List.mem_of_getElem? (i := 1186) (by decide +kernel)) (by decide +kernel)
theorem kk_1187 : Cond.selects RX9 yX9_areContrary yX9_areContrary ∈ gtbl := g_in (List.mem_of_getElem? (i := 1187) (by decide +kernel)) (by decide +kernel)
theorem kv_L_41 : KV RL 41 mX9_areContrary 2 := ⟨⟨kk_1185, kk_119, kk_1188, by decide +kernel⟩, rfl, kk_1186, kk_1187⟩
abbrev mL_areContrary : MT := (yL_areContrary, cL_areContrary, 5, (some .int), [(0, 17, 20, 24)])
theorem kk_1193 : Cond.methodLink RL 45 yX9_claimsOf ∈ gtbl := g_in (List.mem_of_getElem? (i := 1193) (by decide +kernel)) (by decide +kernel)
theorem kk_1196 : Cond.code yX9_claimsOf cX9_claimsOf 2 (some .int) ∈ gtbl := g_in (List.mem_of_getElem? (i := 1196) (by decide +kernel)) (by decide +kernel)
theorem kk_1194 : Cond.instanceMethod yX9_claimsOf ∈ gtbl := g_in (List.mem_of_getElem? (i := 1194) (by decide +kernel)) (by decide +kernel)
theorem kk_1195 : Cond.selects RX9 yX9_claimsOf yX9_claimsOf ∈ gtbl := g_in (List.mem_of_getElem? (i := 1195) (by decide +kernel)) (by decide +kernel)
theorem kv_L_45 : KV RL 45 mX9_claimsOf 1 := ⟨⟨kk_1193, kk_119, kk_1196, by decide +kernel⟩, rfl, kk_1194, kk_1195⟩
abbrev mL_claimsOf : MT := (yL_claimsOf, cL_claimsOf, 4, (some .int), [(0, 9, 12, 24)])
theorem kk_1205 : Cond.methodLink RL 48 yX9_isDoubted ∈ gtbl := g_in (List.mem_of_getElem? (i := 1205) (by decide +kernel)) (by decide +kernel)
theorem kk_1208 : Cond.code yX9_isDoubted cX9_isDoubted 2 (some .boolean) ∈ gtbl := g_in (List.mem_of_getElem? (i := 1208) (by decide +kernel)) (by decide +kernel)
theorem kk_1206 : Cond.instanceMethod yX9_isDoubted ∈ gtbl := g_in (List.mem_of_getElem? (i := 1206) (by decide +kernel)) (by decide +kernel)
theorem kk_1207 : Cond.selects RX9 yX9_isDoubted yX9_isDoubted ∈ gtbl := g_in (List.mem_of_getElem? (i := 1207) (by decide +kernel)) (by decide +kernel)
theorem kv_L_48 : KV RL 48 mX9_isDoubted 1 := ⟨⟨kk_1205, kk_119, kk_1208, by decide +kernel⟩, rfl, kk_1206, kk_1207⟩
abbrev mL_isDoubted : MT := (yL_isDoubted, cL_isDoubted, 4, (some .int), [(0, 16, 19, 24)])
theorem kk_1212 : Cond.methodLink RL 52 yX9_doContradict ∈ gtbl := g_in (List.mem_of_getElem? (i := 1212) (by decide +kernel)) (by decide +kernel)
theorem kk_1215 : Cond.code yX9_doContradict cX9_doContradict 3 (some .boolean) ∈ gtbl := g_in (List.mem_of_getElem? (i := 1215) (by decide +kernel)) (by decide +kernel)
theorem kk_1213 : Cond.instanceMethod yX9_doContradict ∈ gtbl := g_in (List.mem_of_getElem? (i := 1213) (by decide +kernel)) (by decide +kernel)
theorem kk_1214 : Cond.selects RX9 yX9_doContradict yX9_doContradict ∈ gtbl := g_in (List.mem_of_getElem? (i := 1214) (by decide +kernel)) (by decide +kernel)
theorem kv_L_52 : KV RL 52 mX9_doContradict 2 := ⟨⟨kk_1212, kk_119, kk_1215, by decide +kernel⟩, rfl, kk_1213, kk_1214⟩
abbrev mL_doContradict : MT := (yL_doContradict, cL_doContradict, 5, (some .int), [(0, 17, 20, 24)])
theorem kk_1219 : Cond.methodLink RL 55 yX9_contraryPairs ∈ gtbl := g_in (List.mem_of_getElem? (i := 1219) (by decide +kernel)) (by decide +kernel)
theorem kk_1222 : Cond.code yX9_contraryPairs cX9_contraryPairs 3 (some .int) ∈ gtbl := g_in (List.mem_of_getElem? (i := 1222) (by decide +kernel)) (by decide +kernel)
theorem kk_1220 : Cond.instanceMethod yX9_contraryPairs ∈ gtbl := g_in (List.mem_of_getElem? (i := 1220) (by decide +kernel)) (by decide +kernel)
theorem kk_1221 : Cond.selects RX9 yX9_contraryPairs yX9_contraryPairs ∈ gtbl := g_in (List.mem_of_getElem? (i := 1221) (by decide +kernel)) (by decide +kernel)
theorem kv_L_55 : KV RL 55 mX9_contraryPairs 2 := ⟨⟨kk_1219, kk_119, kk_1222, by decide +kernel⟩, rfl, kk_1220, kk_1221⟩
abbrev mL_contraryPairs : MT := (yL_contraryPairs, cL_contraryPairs, 5, (some .int), [(0, 10, 13, 24)])
theorem kk_1234 : Cond.methodLink RL 59 yX9_isLiar ∈ gtbl := g_in (List.mem_of_getElem? (i := 1234) (by decide +kernel)) (by decide +kernel)
theorem kk_1237 : Cond.code yX9_isLiar cX9_isLiar 2 (some .boolean) ∈ gtbl := g_in (List.mem_of_getElem? (i := 1237) (by decide +kernel)) (by decide +kernel)
theorem kk_1235 : Cond.instanceMethod yX9_isLiar ∈ gtbl := g_in (List.mem_of_getElem? (i := 1235) (by decide +kernel)) (by decide +kernel)
theorem kk_1236 : Cond.selects RX9 yX9_isLiar yX9_isLiar ∈ gtbl := g_in (List.mem_of_getElem? (i := 1236) (by decide +kernel)) (by decide +kernel)
theorem kv_L_59 : KV RL 59 mX9_isLiar 1 := ⟨⟨kk_1234, kk_119, kk_1237, by decide +kernel⟩, rfl, kk_1235, kk_1236⟩
abbrev mL_isLiar : MT := (yL_isLiar, cL_isLiar, 4, (some .int), [(0, 16, 19, 24)])
theorem kk_1241 : Cond.methodLink RL 62 yX9_isAgreed ∈ gtbl := g_in (List.mem_of_getElem? (i := 1241) (by decide +kernel)) (by decide +kernel)
theorem kk_1244 : Cond.code yX9_isAgreed cX9_isAgreed 2 (some .boolean) ∈ gtbl := g_in (List.mem_of_getElem? (i := 1244) (by decide +kernel)) (by decide +kernel)
theorem kk_1242 : Cond.instanceMethod yX9_isAgreed ∈ gtbl := g_in (List.mem_of_getElem? (i := 1242) (by decide +kernel)) (by decide +kernel)
theorem kk_1243 : Cond.selects RX9 yX9_isAgreed yX9_isAgreed ∈ gtbl := g_in (List.mem_of_getElem? (i := 1243) (by decide +kernel)) (by decide +kernel)
theorem kv_L_62 : KV RL 62 mX9_isAgreed 1 := ⟨⟨kk_1241, kk_119, kk_1244, by decide +kernel⟩, rfl, kk_1242, kk_1243⟩
abbrev mL_isAgreed : MT := (yL_isAgreed, cL_isAgreed, 4, (some .int), [(0, 16, 19, 24)])
theorem kk_1253 : Cond.methodLink RL 65 yX9_windowFrom ∈ gtbl := g_in (List.mem_of_getElem? (i := 1253) (by decide +kernel)) (by decide +kernel)
theorem kk_1256 : Cond.code yX9_windowFrom cX9_windowFrom 2 (some .int) ∈ gtbl := g_in (List.mem_of_getElem? (i := 1256) (by decide +kernel)) (by decide +kernel)
theorem kk_1254 : Cond.instanceMethod yX9_windowFrom ∈ gtbl := g_in (List.mem_of_getElem? (i := 1254) (by decide +kernel)) (by decide +kernel)
theorem kk_1255 : Cond.selects RX9 yX9_windowFrom yX9_windowFrom ∈ gtbl := g_in (List.mem_of_getElem? (i := 1255) (by decide +kernel)) (by decide +kernel)
theorem kv_L_65 : KV RL 65 mX9_windowFrom 1 := ⟨⟨kk_1253, kk_119, kk_1256, by decide +kernel⟩, rfl, kk_1254, kk_1255⟩
abbrev mL_windowFrom : MT := (yL_windowFrom, cL_windowFrom, 4, (some .int), [(0, 9, 12, 24), (0, 9, 15, 13)])
theorem kk_1265 : Cond.methodLink RL 68 yX9_windowTo ∈ gtbl := g_in (List.mem_of_getElem? (i := 1265) (by decide +kernel)) (by decide +kernel)
theorem kk_1268 : Cond.code yX9_windowTo cX9_windowTo 2 (some .int) ∈ gtbl := g_in (List.mem_of_getElem? (i := 1268) (by decide +kernel)) (by decide +kernel)
theorem kk_1266 : Cond.instanceMethod yX9_windowTo ∈ gtbl := g_in (List.mem_of_getElem? (i := 1266) (by decide +kernel)) (by decide +kernel)
theorem kk_1267 : Cond.selects RX9 yX9_windowTo yX9_windowTo ∈ gtbl := g_in (List.mem_of_getElem? (i := 1267) (by decide +kernel)) (by decide +kernel)
theorem kv_L_68 : KV RL 68 mX9_windowTo 1 := ⟨⟨kk_1265, kk_119, kk_1268, by decide +kernel⟩, rfl, kk_1266, kk_1267⟩
abbrev mL_windowTo : MT := (yL_windowTo, cL_windowTo, 4, (some .int), [(0, 9, 12, 24), (0, 9, 15, 13)])
theorem kk_1272 : Cond.methodLink RL 71 yX9_eventAt ∈ gtbl := g_in (List.mem_of_getElem? (i := 1272) (by decide +kernel)) (by decide +kernel)
theorem kk_1275 : Cond.code yX9_eventAt cX9_eventAt 2 (some .int) ∈ gtbl := g_in (List.mem_of_getElem? (i := 1275) (by decide +kernel)) (by decide +kernel)
theorem kk_1273 : Cond.instanceMethod yX9_eventAt ∈ gtbl := g_in (List.mem_of_getElem? (i := 1273) (by decide +kernel)) (by decide +kernel)
theorem kk_1274 : Cond.selects RX9 yX9_eventAt yX9_eventAt ∈ gtbl := g_in (List.mem_of_getElem? (i := 1274) (by decide +kernel)) (by decide +kernel)
theorem kv_L_71 : KV RL 71 mX9_eventAt 1 := ⟨⟨kk_1272, kk_119, kk_1275, by decide +kernel⟩, rfl, kk_1273, kk_1274⟩
abbrev mL_eventAt : MT := (yL_eventAt, cL_eventAt, 4, (some .int), [(0, 9, 12, 24), (0, 9, 15, 13)])
theorem kk_1281 : Cond.methodLink RL 74 yX9_claimHours ∈ gtbl := g_in (List.mem_of_getElem? (i := 1281) (by decide +kernel)) (by decide +kernel)
theorem kk_1284 : Cond.code yX9_claimHours cX9_claimHours 5 (some .int) ∈ gtbl := g_in (List.mem_of_getElem? (i := 1284) (by decide +kernel)) (by decide +kernel)
theorem kk_1282 : Cond.instanceMethod yX9_claimHours ∈ gtbl := g_in (List.mem_of_getElem? (i := 1282) (by decide +kernel)) (by decide +kernel)
theorem kk_1283 : Cond.selects RX9 yX9_claimHours yX9_claimHours ∈ gtbl := g_in (List.mem_of_getElem? (i := 1283) (by decide +kernel)) (by decide +kernel)
theorem kv_L_74 : KV RL 74 mX9_claimHours 4 := ⟨⟨kk_1281, kk_119, kk_1284, by decide +kernel⟩, rfl, kk_1282, kk_1283⟩
abbrev mL_claimHours : MT := (yL_claimHours, cL_claimHours, 7, (some .int), [(0, 14, 17, 24), (0, 14, 21, 19), (0, 14, 25, 13)])
theorem kk_1296 : Cond.methodLink RL 78 yX9_claimBefore ∈ gtbl := g_in (List.mem_of_getElem? (i := 1296) (by decide +kernel)) (by decide +kernel)
theorem kk_1299 : Cond.code yX9_claimBefore cX9_claimBefore 4 (some .int) ∈ gtbl := g_in (List.mem_of_getElem? (i := 1299) (by decide +kernel)) (by decide +kernel)
theorem kk_1297 : Cond.instanceMethod yX9_claimBefore ∈ gtbl := g_in (List.mem_of_getElem? (i := 1297) (by decide +kernel)) (by decide +kernel)
theorem kk_1298 : Cond.selects RX9 yX9_claimBefore yX9_claimBefore ∈ gtbl := g_in (List.mem_of_getElem? (i := 1298) (by decide +kernel)) (by decide +kernel)
theorem kv_L_78 : KV RL 78 mX9_claimBefore 3 := ⟨⟨kk_1296, kk_119, kk_1299, by decide +kernel⟩, rfl, kk_1297, kk_1298⟩
abbrev mL_claimBefore : MT := (yL_claimBefore, cL_claimBefore, 6, (some .int), [(0, 12, 15, 24), (0, 12, 19, 19), (0, 12, 23, 13)])
theorem kk_1308 : Cond.methodLink RL 82 yX9_claimTogether ∈ gtbl := g_in (List.mem_of_getElem? (i := 1308) (by decide +kernel)) (by decide +kernel)
theorem kk_1311 : Cond.code yX9_claimTogether cX9_claimTogether 4 (some .int) ∈ gtbl := g_in (List.mem_of_getElem? (i := 1311) (by decide +kernel)) (by decide +kernel)
theorem kk_1309 : Cond.instanceMethod yX9_claimTogether ∈ gtbl := g_in (List.mem_of_getElem? (i := 1309) (by decide +kernel)) (by decide +kernel)
theorem kk_1310 : Cond.selects RX9 yX9_claimTogether yX9_claimTogether ∈ gtbl := g_in (List.mem_of_getElem? (i := 1310) (by decide +kernel)) (by decide +kernel)
theorem kv_L_82 : KV RL 82 mX9_claimTogether 3 := ⟨⟨kk_1308, kk_119, kk_1311, by decide +kernel⟩, rfl, kk_1309, kk_1310⟩
abbrev mL_claimTogether : MT := (yL_claimTogether, cL_claimTogether, 6, (some .int), [(0, 12, 15, 24), (0, 12, 19, 19), (0, 12, 23, 13)])
theorem kk_1315 : Cond.methodLink RL 85 yX9_takeBack ∈ gtbl := g_in (List.mem_of_getElem? (i := 1315) (by decide +kernel)) (by decide +kernel)
theorem kk_1318 : Cond.code yX9_takeBack cX9_takeBack 3 (some .int) ∈ gtbl := g_in (List.mem_of_getElem? (i := 1318) (by decide +kernel)) (by decide +kernel)
theorem kk_1316 : Cond.instanceMethod yX9_takeBack ∈ gtbl := g_in (List.mem_of_getElem? (i := 1316) (by decide +kernel)) (by decide +kernel)
theorem kk_1317 : Cond.selects RX9 yX9_takeBack yX9_takeBack ∈ gtbl := g_in (List.mem_of_getElem? (i := 1317) (by decide +kernel)) (by decide +kernel)
theorem kv_L_85 : KV RL 85 mX9_takeBack 1 := ⟨⟨kk_1315, kk_119, kk_1318, by decide +kernel⟩, rfl, kk_1316, kk_1317⟩
abbrev mL_takeBack : MT := (yL_takeBack, cL_takeBack, 4, (some .int), [(0, 9, 12, 24)])
theorem kk_1326 : Cond.methodLink RL 88 yX9_turnDoubt ∈ gtbl := g_in (List.mem_of_getElem? (i := 1326) (by decide +kernel)) (by decide +kernel)
theorem kk_1329 : Cond.code yX9_turnDoubt cX9_turnDoubt 2 (some .boolean) ∈ gtbl := g_in (List.mem_of_getElem? (i := 1329) (by decide +kernel)) (by decide +kernel)
theorem kk_1327 : Cond.instanceMethod yX9_turnDoubt ∈ gtbl := g_in (List.mem_of_getElem? (i := 1327) (by decide +kernel)) (by decide +kernel)
theorem kk_1328 : Cond.selects RX9 yX9_turnDoubt yX9_turnDoubt ∈ gtbl := g_in (List.mem_of_getElem? (i := 1328) (by decide +kernel)) (by decide +kernel)
theorem kv_L_88 : KV RL 88 mX9_turnDoubt 1 := ⟨⟨kk_1326, kk_119, kk_1329, by decide +kernel⟩, rfl, kk_1327, kk_1328⟩
abbrev mL_turnDoubt : MT := (yL_turnDoubt, cL_turnDoubt, 4, (some .int), [(0, 16, 19, 24)])
theorem kk_1333 : Cond.methodLink RL 91 yX9_passEvenings ∈ gtbl := g_in (List.mem_of_getElem? (i := 1333) (by decide +kernel)) (by decide +kernel)
theorem kk_1336 : Cond.code yX9_passEvenings cX9_passEvenings 4 (some .int) ∈ gtbl := g_in (List.mem_of_getElem? (i := 1336) (by decide +kernel)) (by decide +kernel)
theorem kk_1334 : Cond.instanceMethod yX9_passEvenings ∈ gtbl := g_in (List.mem_of_getElem? (i := 1334) (by decide +kernel)) (by decide +kernel)
theorem kk_1335 : Cond.selects RX9 yX9_passEvenings yX9_passEvenings ∈ gtbl := g_in (List.mem_of_getElem? (i := 1335) (by decide +kernel)) (by decide +kernel)
theorem kv_L_91 : KV RL 91 mX9_passEvenings 1 := ⟨⟨kk_1333, kk_119, kk_1336, by decide +kernel⟩, rfl, kk_1334, kk_1335⟩
abbrev mL_passEvenings : MT := (yL_passEvenings, cL_passEvenings, 4, (some .int), [(0, 9, 12, 19)])
theorem kk_1345 : Cond.methodLink RL 94 yX9_liarsAfter ∈ gtbl := g_in (List.mem_of_getElem? (i := 1345) (by decide +kernel)) (by decide +kernel)
theorem kk_1348 : Cond.code yX9_liarsAfter cX9_liarsAfter 3 (some .int) ∈ gtbl := g_in (List.mem_of_getElem? (i := 1348) (by decide +kernel)) (by decide +kernel)
theorem kk_1346 : Cond.instanceMethod yX9_liarsAfter ∈ gtbl := g_in (List.mem_of_getElem? (i := 1346) (by decide +kernel)) (by decide +kernel)
theorem kk_1347 : Cond.selects RX9 yX9_liarsAfter yX9_liarsAfter ∈ gtbl := g_in (List.mem_of_getElem? (i := 1347) (by decide +kernel)) (by decide +kernel)
theorem kv_L_94 : KV RL 94 mX9_liarsAfter 1 := ⟨⟨kk_1345, kk_119, kk_1348, by decide +kernel⟩, rfl, kk_1346, kk_1347⟩
abbrev mL_liarsAfter : MT := (yL_liarsAfter, cL_liarsAfter, 4, (some .int), [(0, 9, 12, 19)])
def wlO (g : GG) (ao : Nat → Nat) (o0 : Nat → Int64) : va_W := [(ao 0, lA g 1 o0)]
section LK
variable {g : GG} {ad am ap ao : Nat → Nat} {pm : Nat} {t : va_W}
variable {x0 : Int32}
variable {x1 : Int32}
variable {x2 : Nat → Int32}
variable {x3 : Int32}
variable {x4 : Int32}
variable {x5 : Int32}
variable {x6 : Nat → Int32}
variable {x7 : Nat → Int32}
variable {x8 : Nat → Int32}
variable {x9 : Nat → Int32}
variable {x10 : Nat → Int32}
variable {x11 : Int32}
variable {x12 : Int32}
variable {x13 : Nat → Int32}
variable {x14 : Nat → Int32}
variable {x15 : Nat → Int32}
variable {x16 : Nat → Int32}
variable {x17 : Nat → Int32}
variable {x18 : Int32}
variable {x19 : Int32}
variable {x20 : Int32}
variable {x21 : Nat → Int32}
variable {x22 : Nat → Int32}
variable {x23 : Nat → Int32}
variable {x24 : Int32}
variable {x25 : Int32}
variable {x26 : Int32}
variable {x27 : Int32}
variable {x28 : Int32}
variable {x29 : Int32}
variable {x30 : Int32}
variable {x31 : Int32}
variable {x32 : Int64}
variable {x33 : Nat → Int32}
variable {x34 : Nat → Int32}
variable {x35 : Nat → Int32}
variable {x36 : Nat → Int64}
variable {x37 : Int32}
variable {x38 : Nat → Int64}
variable {x39 : Int32}
variable {x40 : Int32}
variable {x41 : Int32}
variable {x42 : Nat → Int32}
variable {x43 : Nat → Int32}
variable {x44 : Nat → Int32}
variable {x45 : Nat → Int32}
variable {x46 : Nat → Int32}
variable {x47 : Int32}
variable {x48 : Int32}
variable {x49 : Nat → Int32}
variable {x50 : Nat → Int32}
variable {x51 : Nat → Int32}
variable {x52 : Nat → Int32}
variable {x53 : Nat → Int32}
variable {x54 : Int32}
variable {x55 : Nat → Int64}
variable {x56 : Int32}
variable {x57 : Nat → Int64}
variable {x58 : Int32}
variable {x59 : Int32}
variable {x60 : Int32}
variable {x61 : Int32}
variable {x62 : Nat → Int32}
variable {x63 : Int32}
variable {x64 : Int32}
variable {x65 : Int32}
variable {x66 : Int32}
variable {x67 : Nat → Int32}
variable {o0 : Nat → Int64}
theorem lO_0 : (wlX g ad x0 x1 x2 x3 x4 x5 x6 x7 x8 x9 x10 x11 x12 x13 x14 x15 x16 x17 x18 x19 x20 x21 x22 x23 x24 x25 x26 x27 x28 x29 x30 x31 x32 x33 x34 x35 x36 x37 x38 x39 x40 x41 x42 x43 x44 x45 x46 x47 x48 x49 x50 x51 x52 x53 x54 x55 x56 x57 x58 x59 x60 x61 x62 x63 x64 x65 x66 x67 ++ (wlO g ao o0 ++ t))[77]? = some (ao 0, lA g 1 o0) := rfl
theorem sO_0 (v : Nat → Int64) : (wlX g ad x0 x1 x2 x3 x4 x5 x6 x7 x8 x9 x10 x11 x12 x13 x14 x15 x16 x17 x18 x19 x20 x21 x22 x23 x24 x25 x26 x27 x28 x29 x30 x31 x32 x33 x34 x35 x36 x37 x38 x39 x40 x41 x42 x43 x44 x45 x46 x47 x48 x49 x50 x51 x52 x53 x54 x55 x56 x57 x58 x59 x60 x61 x62 x63 x64 x65 x66 x67 ++ (wlO g ao o0 ++ t)).set 77 (ao 0, lA g 1 v) = (wlX g ad x0 x1 x2 x3 x4 x5 x6 x7 x8 x9 x10 x11 x12 x13 x14 x15 x16 x17 x18 x19 x20 x21 x22 x23 x24 x25 x26 x27 x28 x29 x30 x31 x32 x33 x34 x35 x36 x37 x38 x39 x40 x41 x42 x43 x44 x45 x46 x47 x48 x49 x50 x51 x52 x53 x54 x55 x56 x57 x58 x59 x60 x61 x62 x63 x64 x65 x66 x67 ++ (wlO g ao v ++ t)) := rfl
end LK
