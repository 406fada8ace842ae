abbrev mX6_init : zM := (yX6_init, cX6_init, 2, none)
theorem vX6_init : zMeB mX6_init 1 ∧ Cond.instanceMethod mX6_init.1 ∈ lw_tbl := ⟨⟨(List.mem_of_getElem? (i := 378) (by decide +kernel)), (List.mem_of_getElem? (i := 53) (by decide +kernel)), ⟨by decide +kernel, by decide +kernel⟩, by decide +kernel, by decide⟩, (List.mem_of_getElem? (i := 377) (by decide +kernel))⟩
abbrev mX6_next : zM := (yX6_next, cX6_next, 2, (some .int))
theorem vX6_next : zMeV mX6_next 1 := ⟨⟨(List.mem_of_getElem? (i := 387) (by decide +kernel)), (List.mem_of_getElem? (i := 53) (by decide +kernel)), ⟨by decide +kernel, by decide +kernel⟩, by decide +kernel, by decide⟩, (List.mem_of_getElem? (i := 385) (by decide +kernel)), (List.mem_of_getElem? (i := 386) (by decide +kernel))⟩
abbrev mL_cell : zM := (yL_cell, cL_cell, 2, (some .int))
theorem vL_cell : zMeS mL_cell 2 := ⟨⟨(List.mem_of_getElem? (i := 391) (by decide +kernel)), (List.mem_of_getElem? (i := 24) (by decide +kernel)), ⟨by decide +kernel, by decide +kernel⟩, by decide +kernel, by decide⟩, (List.mem_of_getElem? (i := 390) (by decide +kernel))⟩
abbrev mL_addListener : zM := (yL_addListener, cL_addListener, 4, (some .int))
abbrev mL_link : zM := (yL_link, cL_link, 4, (some .int))
abbrev mL_unlink : zM := (yL_unlink, cL_unlink, 4, (some .int))
abbrev mL_moveListener : zM := (yL_moveListener, cL_moveListener, 4, (some .int))
abbrev mL_startRumour : zM := (yL_startRumour, cL_startRumour, 4, (some .int))
abbrev mL_check : zM := (yL_check, cL_check, 4, (some .int))
abbrev mL_deny : zM := (yL_deny, cL_deny, 3, (some .int))
abbrev mL_answer : zM := (yL_answer, cL_answer, 4, (some .int))
abbrev mL_advance : zM := (yL_advance, cL_advance, 3, (some .int))
abbrev mL_hive : zM := (yL_hive, cL_hive, 3, (some .int))
abbrev mL_doubt : zM := (yL_doubt, cL_doubt, 3, (some .int))
abbrev mL_isLinked : zM := (yL_isLinked, cL_isLinked, 4, (some .int))
abbrev mL_neighbourCount : zM := (yL_neighbourCount, cL_neighbourCount, 3, (some .int))
abbrev mL_hiveSize : zM := (yL_hiveSize, cL_hiveSize, 3, (some .int))
abbrev mL_strength : zM := (yL_strength, cL_strength, 3, (some .int))
abbrev mL_isAlive : zM := (yL_isAlive, cL_isAlive, 3, (some .int))
abbrev mL_starter : zM := (yL_starter, cL_starter, 3, (some .int))
abbrev mL_isSpreader : zM := (yL_isSpreader, cL_isSpreader, 4, (some .int))
abbrev mL_isSceptic : zM := (yL_isSceptic, cL_isSceptic, 4, (some .int))
abbrev mL_heardRound : zM := (yL_heardRound, cL_heardRound, 4, (some .int))
abbrev mL_spreaderCount : zM := (yL_spreaderCount, cL_spreaderCount, 3, (some .int))
abbrev mL_scepticCount : zM := (yL_scepticCount, cL_scepticCount, 3, (some .int))
abbrev mL_countedHive : zM := (yL_countedHive, cL_countedHive, 3, (some .int))
abbrev mL_spreadersInHive : zM := (yL_spreadersInHive, cL_spreadersInHive, 4, (some .int))
abbrev mL_distance : zM := (yL_distance, cL_distance, 4, (some .int))
abbrev mL_distanceByRelaxation : zM := (yL_distanceByRelaxation, cL_distanceByRelaxation, 4, (some .int))
abbrev mL_nextSpreaders : zM := (yL_nextSpreaders, cL_nextSpreaders, 3, (some .int))
abbrev mL_roundsUntilHeard : zM := (yL_roundsUntilHeard, cL_roundsUntilHeard, 4, (some .int))
abbrev mL_spreadersAfter : zM := (yL_spreadersAfter, cL_spreadersAfter, 4, (some .int))
abbrev mL_rumourBySpread : zM := (yL_rumourBySpread, cL_rumourBySpread, 3, (some .int))
abbrev mL_listenerByGossip : zM := (yL_listenerByGossip, cL_listenerByGossip, 3, (some .int))
abbrev mL_meanDoubt : zM := (yL_meanDoubt, cL_meanDoubt, 2, (some .double))
abbrev mL_gossipShare : zM := (yL_gossipShare, cL_gossipShare, 2, (some .float))
abbrev mL_renderRumour : zM := (yL_renderRumour, cL_renderRumour, 3, (some .int))
abbrev mL_renderHive : zM := (yL_renderHive, cL_renderHive, 3, (some .int))
abbrev mL_outputAt : zM := (yL_outputAt, cL_outputAt, 3, (some .int))
abbrev mL_type : zM := (yL_type, cL_type, 3, (some .int))
abbrev mL_runScript : zM := (yL_runScript, cL_runScript, 2, (some .int))
abbrev mL_errorPosition : zM := (yL_errorPosition, cL_errorPosition, 2, (some .int))
abbrev mL_failedCommand : zM := (yL_failedCommand, cL_failedCommand, 2, (some .int))
abbrev mL_undo : zM := (yL_undo, cL_undo, 2, (some .int))
abbrev mL_restore : zM := (yL_restore, cL_restore, 2, (some .int))
abbrev mL_said : zM := (yL_said, cL_said, 4, (some (.object "java/lang/String")))
theorem vL_said : zMeS mL_said 2 := ⟨⟨(List.mem_of_getElem? (i := 1272) (by decide +kernel)), (List.mem_of_getElem? (i := 24) (by decide +kernel)), ⟨by decide +kernel, by decide +kernel⟩, by decide +kernel, by decide⟩, (List.mem_of_getElem? (i := 1271) (by decide +kernel))⟩
abbrev mL_some : zM := (yL_some, cL_some, 2, (some .int))
theorem vL_some : zMeS mL_some 2 := ⟨⟨(List.mem_of_getElem? (i := 1238) (by decide +kernel)), (List.mem_of_getElem? (i := 24) (by decide +kernel)), ⟨by decide +kernel, by decide +kernel⟩, by decide +kernel, by decide⟩, (List.mem_of_getElem? (i := 1237) (by decide +kernel))⟩
abbrev mL_acts : zM := (yL_acts, cL_acts, 6, (some .int))
theorem vL_acts : zMeS mL_acts 3 := ⟨⟨(List.mem_of_getElem? (i := 1231) (by decide +kernel)), (List.mem_of_getElem? (i := 24) (by decide +kernel)), ⟨by decide +kernel, by decide +kernel⟩, by decide +kernel, by decide⟩, (List.mem_of_getElem? (i := 1230) (by decide +kernel))⟩
abbrev mL_told : zM := (yL_told, cL_told, 4, (some (.object "java/lang/String")))
theorem vL_told : zMeS mL_told 1 := ⟨⟨(List.mem_of_getElem? (i := 1267) (by decide +kernel)), (List.mem_of_getElem? (i := 24) (by decide +kernel)), ⟨by decide +kernel, by decide +kernel⟩, by decide +kernel, by decide⟩, (List.mem_of_getElem? (i := 1266) (by decide +kernel))⟩
abbrev mL_stock : zM := (yL_stock, cL_stock, 3, (some .int))
theorem vL_stock : zMeS mL_stock 1 := ⟨⟨(List.mem_of_getElem? (i := 1328) (by decide +kernel)), (List.mem_of_getElem? (i := 24) (by decide +kernel)), ⟨by decide +kernel, by decide +kernel⟩, by decide +kernel, by decide⟩, (List.mem_of_getElem? (i := 1327) (by decide +kernel))⟩
abbrev mL_listeners : zM := (yL_listeners, cL_listeners, 13, (some .boolean))
theorem vL_listeners : zMeS mL_listeners 1 := ⟨⟨(List.mem_of_getElem? (i := 1331) (by decide +kernel)), (List.mem_of_getElem? (i := 24) (by decide +kernel)), ⟨by decide +kernel, by decide +kernel⟩, by decide +kernel, by decide⟩, (List.mem_of_getElem? (i := 1330) (by decide +kernel))⟩
abbrev mL_gossip : zM := (yL_gossip, cL_gossip, 4, (some .int))
theorem vL_gossip : zMeS mL_gossip 2 := ⟨⟨(List.mem_of_getElem? (i := 1349) (by decide +kernel)), (List.mem_of_getElem? (i := 24) (by decide +kernel)), ⟨by decide +kernel, by decide +kernel⟩, by decide +kernel, by decide⟩, (List.mem_of_getElem? (i := 1348) (by decide +kernel))⟩
abbrev mL_rumours : zM := (yL_rumours, cL_rumours, 14, (some .boolean))
theorem vL_rumours : zMeS mL_rumours 1 := ⟨⟨(List.mem_of_getElem? (i := 1404) (by decide +kernel)), (List.mem_of_getElem? (i := 24) (by decide +kernel)), ⟨by decide +kernel, by decide +kernel⟩, by decide +kernel, by decide⟩, (List.mem_of_getElem? (i := 1403) (by decide +kernel))⟩
abbrev mL_distances : zM := (yL_distances, cL_distances, 7, (some .boolean))
theorem vL_distances : zMeS mL_distances 2 := ⟨⟨(List.mem_of_getElem? (i := 1486) (by decide +kernel)), (List.mem_of_getElem? (i := 24) (by decide +kernel)), ⟨by decide +kernel, by decide +kernel⟩, by decide +kernel, by decide⟩, (List.mem_of_getElem? (i := 1485) (by decide +kernel))⟩
abbrev mL_foretold : zM := (yL_foretold, cL_foretold, 20, (some .boolean))
theorem vL_foretold : zMeS mL_foretold 2 := ⟨⟨(List.mem_of_getElem? (i := 1505) (by decide +kernel)), (List.mem_of_getElem? (i := 24) (by decide +kernel)), ⟨by decide +kernel, by decide +kernel⟩, by decide +kernel, by decide⟩, (List.mem_of_getElem? (i := 1504) (by decide +kernel))⟩
theorem kL_343 : Cond.methodLink RL 343 yX5_init ∈ lw_tbl := (List.mem_of_getElem? (i := 56) (by decide +kernel))
theorem lL_343 : zLk RL 343 yX5_init := .inl kL_343
theorem kL_286 : Cond.methodLink RL 286 yX5_componentCount ∈ lw_tbl := (List.mem_of_getElem? (i := 298) (by decide +kernel))
theorem lL_286 : zLk RL 286 yX5_componentCount := .inl kL_286
theorem kL_292 : Cond.methodLink RL 292 yX5_isConsistent ∈ lw_tbl := (List.mem_of_getElem? (i := 317) (by decide +kernel))
theorem lL_292 : zLk RL 292 yX5_isConsistent := .inl kL_292
theorem kL_359 : Cond.methodLink RL 359 yX6_init ∈ lw_tbl := (List.mem_of_getElem? (i := 376) (by decide +kernel))
theorem lL_359 : zLk RL 359 yX6_init := .inl kL_359
theorem kL_184 : Cond.methodLink RL 184 yX6_next ∈ lw_tbl := (List.mem_of_getElem? (i := 384) (by decide +kernel))
theorem lL_184 : zLk RL 184 yX6_next := .inl kL_184
theorem kL_355 : Cond.methodLink RL 355 yL_cell ∈ lw_tbl := (List.mem_of_getElem? (i := 389) (by decide +kernel))
theorem lL_355 : zLk RL 355 yL_cell := .inl kL_355
theorem kL_204 : Cond.methodLink RL 204 yL_addListener ∈ lw_tbl := (List.mem_of_getElem? (i := 392) (by decide +kernel))
theorem lL_204 : zLk RL 204 yL_addListener := .inl kL_204
theorem kL_7 : Cond.methodLink RL 7 yX5_addListener ∈ lw_tbl := (List.mem_of_getElem? (i := 397) (by decide +kernel))
theorem lL_7 : zLk RL 7 yX5_addListener := .inl kL_7
theorem kL_207 : Cond.methodLink RL 207 yL_link ∈ lw_tbl := (List.mem_of_getElem? (i := 669) (by decide +kernel))
theorem lL_207 : zLk RL 207 yL_link := .inl kL_207
theorem kL_17 : Cond.methodLink RL 17 yX5_link ∈ lw_tbl := (List.mem_of_getElem? (i := 693) (by decide +kernel))
theorem lL_17 : zLk RL 17 yX5_link := .inl kL_17
theorem kL_213 : Cond.methodLink RL 213 yL_startRumour ∈ lw_tbl := (List.mem_of_getElem? (i := 697) (by decide +kernel))
theorem lL_213 : zLk RL 213 yL_startRumour := .inl kL_213
theorem kL_30 : Cond.methodLink RL 30 yX5_startRumour ∈ lw_tbl := (List.mem_of_getElem? (i := 700) (by decide +kernel))
theorem lL_30 : zLk RL 30 yX5_startRumour := .inl kL_30
theorem kL_215 : Cond.methodLink RL 215 yL_check ∈ lw_tbl := (List.mem_of_getElem? (i := 704) (by decide +kernel))
theorem lL_215 : zLk RL 215 yL_check := .inl kL_215
theorem kL_33 : Cond.methodLink RL 33 yX5_check ∈ lw_tbl := (List.mem_of_getElem? (i := 707) (by decide +kernel))
theorem lL_33 : zLk RL 33 yX5_check := .inl kL_33
theorem kL_217 : Cond.methodLink RL 217 yL_deny ∈ lw_tbl := (List.mem_of_getElem? (i := 711) (by decide +kernel))
theorem lL_217 : zLk RL 217 yL_deny := .inl kL_217
theorem kL_37 : Cond.methodLink RL 37 yX5_deny ∈ lw_tbl := (List.mem_of_getElem? (i := 714) (by decide +kernel))
theorem lL_37 : zLk RL 37 yX5_deny := .inl kL_37
theorem kL_221 : Cond.methodLink RL 221 yL_advance ∈ lw_tbl := (List.mem_of_getElem? (i := 718) (by decide +kernel))
theorem lL_221 : zLk RL 221 yL_advance := .inl kL_221
theorem kL_44 : Cond.methodLink RL 44 yX5_advance ∈ lw_tbl := (List.mem_of_getElem? (i := 721) (by decide +kernel))
theorem lL_44 : zLk RL 44 yX5_advance := .inl kL_44
theorem kL_315 : Cond.methodLink RL 315 yL_rumourBySpread ∈ lw_tbl := (List.mem_of_getElem? (i := 725) (by decide +kernel))
theorem lL_315 : zLk RL 315 yL_rumourBySpread := .inl kL_315
theorem kL_108 : Cond.methodLink RL 108 yX5_rumourBySpread ∈ lw_tbl := (List.mem_of_getElem? (i := 729) (by decide +kernel))
theorem lL_108 : zLk RL 108 yX5_rumourBySpread := .inl kL_108
theorem kL_277 : Cond.methodLink RL 277 yL_meanDoubt ∈ lw_tbl := (List.mem_of_getElem? (i := 744) (by decide +kernel))
theorem lL_277 : zLk RL 277 yL_meanDoubt := .inl kL_277
theorem kL_114 : Cond.methodLink RL 114 yX5_meanDoubt ∈ lw_tbl := (List.mem_of_getElem? (i := 761) (by decide +kernel))
theorem lL_114 : zLk RL 114 yX5_meanDoubt := .inl kL_114
theorem kL_280 : Cond.methodLink RL 280 yL_gossipShare ∈ lw_tbl := (List.mem_of_getElem? (i := 773) (by decide +kernel))
theorem lL_280 : zLk RL 280 yL_gossipShare := .inl kL_280
theorem kL_122 : Cond.methodLink RL 122 yX5_gossipShare ∈ lw_tbl := (List.mem_of_getElem? (i := 776) (by decide +kernel))
theorem lL_122 : zLk RL 122 yX5_gossipShare := .inl kL_122
theorem kL_232 : Cond.methodLink RL 232 yL_renderRumour ∈ lw_tbl := (List.mem_of_getElem? (i := 786) (by decide +kernel))
theorem lL_232 : zLk RL 232 yL_renderRumour := .inl kL_232
theorem kL_127 : Cond.methodLink RL 127 yX5_renderRumour ∈ lw_tbl := (List.mem_of_getElem? (i := 789) (by decide +kernel))
theorem lL_127 : zLk RL 127 yX5_renderRumour := .inl kL_127
theorem kL_223 : Cond.methodLink RL 223 yL_renderHive ∈ lw_tbl := (List.mem_of_getElem? (i := 1079) (by decide +kernel))
theorem lL_223 : zLk RL 223 yL_renderHive := .inl kL_223
theorem kL_130 : Cond.methodLink RL 130 yX5_renderHive ∈ lw_tbl := (List.mem_of_getElem? (i := 1082) (by decide +kernel))
theorem lL_130 : zLk RL 130 yX5_renderHive := .inl kL_130
theorem kL_160 : Cond.methodLink RL 160 yL_outputAt ∈ lw_tbl := (List.mem_of_getElem? (i := 1093) (by decide +kernel))
theorem lL_160 : zLk RL 160 yL_outputAt := .inl kL_160
theorem kL_133 : Cond.methodLink RL 133 yX5_outputAt ∈ lw_tbl := (List.mem_of_getElem? (i := 1096) (by decide +kernel))
theorem lL_133 : zLk RL 133 yX5_outputAt := .inl kL_133
theorem kL_181 : Cond.methodLink RL 181 yL_type ∈ lw_tbl := (List.mem_of_getElem? (i := 1111) (by decide +kernel))
theorem lL_181 : zLk RL 181 yL_type := .inl kL_181
theorem kL_137 : Cond.methodLink RL 137 yX5_type ∈ lw_tbl := (List.mem_of_getElem? (i := 1114) (by decide +kernel))
theorem lL_137 : zLk RL 137 yX5_type := .inl kL_137
theorem kL_350 : Cond.methodLink RL 350 yL_runScript ∈ lw_tbl := (List.mem_of_getElem? (i := 1124) (by decide +kernel))
theorem lL_350 : zLk RL 350 yL_runScript := .inl kL_350
theorem kL_141 : Cond.methodLink RL 141 yX5_runScript ∈ lw_tbl := (List.mem_of_getElem? (i := 1127) (by decide +kernel))
theorem lL_141 : zLk RL 141 yX5_runScript := .inl kL_141
theorem kL_346 : Cond.methodLink RL 346 yL_errorPosition ∈ lw_tbl := (List.mem_of_getElem? (i := 1195) (by decide +kernel))
theorem lL_346 : zLk RL 346 yL_errorPosition := .inl kL_346
theorem kL_145 : Cond.methodLink RL 145 yX5_errorPosition ∈ lw_tbl := (List.mem_of_getElem? (i := 1198) (by decide +kernel))
theorem lL_145 : zLk RL 145 yX5_errorPosition := .inl kL_145
theorem kL_348 : Cond.methodLink RL 348 yL_failedCommand ∈ lw_tbl := (List.mem_of_getElem? (i := 1202) (by decide +kernel))
theorem lL_348 : zLk RL 348 yL_failedCommand := .inl kL_348
theorem kL_148 : Cond.methodLink RL 148 yX5_failedCommand ∈ lw_tbl := (List.mem_of_getElem? (i := 1205) (by decide +kernel))
theorem lL_148 : zLk RL 148 yX5_failedCommand := .inl kL_148
theorem kL_344 : Cond.methodLink RL 344 yL_undo ∈ lw_tbl := (List.mem_of_getElem? (i := 1209) (by decide +kernel))
theorem lL_344 : zLk RL 344 yL_undo := .inl kL_344
theorem kL_151 : Cond.methodLink RL 151 yX5_undo ∈ lw_tbl := (List.mem_of_getElem? (i := 1212) (by decide +kernel))
theorem lL_151 : zLk RL 151 yX5_undo := .inl kL_151
theorem kL_340 : Cond.methodLink RL 340 yL_restore ∈ lw_tbl := (List.mem_of_getElem? (i := 1221) (by decide +kernel))
theorem lL_340 : zLk RL 340 yL_restore := .inl kL_340
theorem kL_154 : Cond.methodLink RL 154 yX5_restore ∈ lw_tbl := (List.mem_of_getElem? (i := 1224) (by decide +kernel))
theorem lL_154 : zLk RL 154 yX5_restore := .inl kL_154
theorem kL_366 : Cond.methodLink RL 366 yL_acts ∈ lw_tbl := (List.mem_of_getElem? (i := 1229) (by decide +kernel))
theorem lL_366 : zLk RL 366 yL_acts := .inl kL_366
theorem kL_194 : Cond.methodLink RL 194 yX5_listenerCount ∈ lw_tbl := (List.mem_of_getElem? (i := 1232) (by decide +kernel))
theorem lL_194 : zLk RL 194 yX5_listenerCount := .inl kL_194
theorem kL_197 : Cond.methodLink RL 197 yL_some ∈ lw_tbl := (List.mem_of_getElem? (i := 1236) (by decide +kernel))
theorem lL_197 : zLk RL 197 yL_some := .inl kL_197
theorem kL_189 : Cond.methodLink RL 189 yJ9_max_7cf53 ∈ lw_tbl := (List.mem_of_getElem? (i := 1239) (by decide +kernel))
theorem lL_189 : zLk RL 189 yJ9_max_7cf53 := .inl kL_189
theorem kL_201 : Cond.methodLink RL 201 yX5_rumourCount ∈ lw_tbl := (List.mem_of_getElem? (i := 1240) (by decide +kernel))
theorem lL_201 : zLk RL 201 yX5_rumourCount := .inl kL_201
theorem kL_209 : Cond.methodLink RL 209 yL_unlink ∈ lw_tbl := (List.mem_of_getElem? (i := 1244) (by decide +kernel))
theorem lL_209 : zLk RL 209 yL_unlink := .inl kL_209
theorem kL_22 : Cond.methodLink RL 22 yX5_unlink ∈ lw_tbl := (List.mem_of_getElem? (i := 1247) (by decide +kernel))
theorem lL_22 : zLk RL 22 yX5_unlink := .inl kL_22
theorem kL_211 : Cond.methodLink RL 211 yL_moveListener ∈ lw_tbl := (List.mem_of_getElem? (i := 1251) (by decide +kernel))
theorem lL_211 : zLk RL 211 yL_moveListener := .inl kL_211
theorem kL_27 : Cond.methodLink RL 27 yX5_moveListener ∈ lw_tbl := (List.mem_of_getElem? (i := 1254) (by decide +kernel))
theorem lL_27 : zLk RL 27 yX5_moveListener := .inl kL_27
theorem kL_219 : Cond.methodLink RL 219 yL_answer ∈ lw_tbl := (List.mem_of_getElem? (i := 1258) (by decide +kernel))
theorem lL_219 : zLk RL 219 yL_answer := .inl kL_219
theorem kL_41 : Cond.methodLink RL 41 yX5_answer ∈ lw_tbl := (List.mem_of_getElem? (i := 1261) (by decide +kernel))
theorem lL_41 : zLk RL 41 yX5_answer := .inl kL_41
theorem kL_362 : Cond.methodLink RL 362 yL_told ∈ lw_tbl := (List.mem_of_getElem? (i := 1265) (by decide +kernel))
theorem lL_362 : zLk RL 362 yL_told := .inl kL_362
theorem kL_159 : Cond.methodLink RL 159 yJ4_init_da8c8 ∈ lw_tbl := (List.mem_of_getElem? (i := 1269) (by decide +kernel))
theorem lL_159 : zLk RL 159 yJ4_init_da8c8 := .inl kL_159
theorem kL_225 : Cond.methodLink RL 225 yL_said ∈ lw_tbl := (List.mem_of_getElem? (i := 1270) (by decide +kernel))
theorem lL_225 : zLk RL 225 yL_said := .inl kL_225
theorem kL_165 : Cond.methodLink RL 165 yJ4_append_cf468 ∈ lw_tbl := (List.mem_of_getElem? (i := 1273) (by decide +kernel))
theorem lL_165 : zLk RL 165 yJ4_append_cf468 := .inl kL_165
theorem kL_169 : Cond.methodLink RL 169 yJ4_toString_0e30d ∈ lw_tbl := (List.mem_of_getElem? (i := 1274) (by decide +kernel))
theorem lL_169 : zLk RL 169 yJ4_toString_0e30d := .inl kL_169
theorem kL_229 : Cond.methodLink RL 229 yJ4_append_15ec4 ∈ lw_tbl := (List.mem_of_getElem? (i := 1275) (by decide +kernel))
theorem lL_229 : zLk RL 229 yJ4_append_15ec4 := .inl kL_229
theorem kL_234 : Cond.methodLink RL 234 yL_starter ∈ lw_tbl := (List.mem_of_getElem? (i := 1276) (by decide +kernel))
theorem lL_234 : zLk RL 234 yL_starter := .inl kL_234
theorem kL_69 : Cond.methodLink RL 69 yX5_starter ∈ lw_tbl := (List.mem_of_getElem? (i := 1279) (by decide +kernel))
theorem lL_69 : zLk RL 69 yX5_starter := .inl kL_69
theorem kL_236 : Cond.methodLink RL 236 yJ4_append_bf812 ∈ lw_tbl := (List.mem_of_getElem? (i := 1283) (by decide +kernel))
theorem lL_236 : zLk RL 236 yJ4_append_bf812 := .inl kL_236
theorem kL_239 : Cond.methodLink RL 239 yL_heardRound ∈ lw_tbl := (List.mem_of_getElem? (i := 1284) (by decide +kernel))
theorem lL_239 : zLk RL 239 yL_heardRound := .inl kL_239
theorem kL_78 : Cond.methodLink RL 78 yX5_heardRound ∈ lw_tbl := (List.mem_of_getElem? (i := 1287) (by decide +kernel))
theorem lL_78 : zLk RL 78 yX5_heardRound := .inl kL_78
theorem kL_241 : Cond.methodLink RL 241 yL_doubt ∈ lw_tbl := (List.mem_of_getElem? (i := 1299) (by decide +kernel))
theorem lL_241 : zLk RL 241 yL_doubt := .inl kL_241
theorem kL_50 : Cond.methodLink RL 50 yX5_doubt ∈ lw_tbl := (List.mem_of_getElem? (i := 1302) (by decide +kernel))
theorem lL_50 : zLk RL 50 yX5_doubt := .inl kL_50
theorem kL_243 : Cond.methodLink RL 243 yL_isLinked ∈ lw_tbl := (List.mem_of_getElem? (i := 1306) (by decide +kernel))
theorem lL_243 : zLk RL 243 yL_isLinked := .inl kL_243
theorem kL_53 : Cond.methodLink RL 53 yX5_isLinked ∈ lw_tbl := (List.mem_of_getElem? (i := 1309) (by decide +kernel))
theorem lL_53 : zLk RL 53 yX5_isLinked := .inl kL_53
theorem kL_245 : Cond.methodLink RL 245 yX5_round ∈ lw_tbl := (List.mem_of_getElem? (i := 1314) (by decide +kernel))
theorem lL_245 : zLk RL 245 yX5_round := .inl kL_245
theorem kL_248 : Cond.methodLink RL 248 yX5_heardTotal ∈ lw_tbl := (List.mem_of_getElem? (i := 1318) (by decide +kernel))
theorem lL_248 : zLk RL 248 yX5_heardTotal := .inl kL_248
theorem kL_251 : Cond.methodLink RL 251 yX5_successfulChecks ∈ lw_tbl := (List.mem_of_getElem? (i := 1322) (by decide +kernel))
theorem lL_251 : zLk RL 251 yX5_successfulChecks := .inl kL_251
theorem kL_352 : Cond.methodLink RL 352 yL_stock ∈ lw_tbl := (List.mem_of_getElem? (i := 1326) (by decide +kernel))
theorem lL_352 : zLk RL 352 yL_stock := .inl kL_352
theorem kL_370 : Cond.methodLink RL 370 yL_listeners ∈ lw_tbl := (List.mem_of_getElem? (i := 1329) (by decide +kernel))
theorem lL_370 : zLk RL 370 yL_listeners := .inl kL_370
theorem kL_254 : Cond.methodLink RL 254 yL_hive ∈ lw_tbl := (List.mem_of_getElem? (i := 1332) (by decide +kernel))
theorem lL_254 : zLk RL 254 yL_hive := .inl kL_254
theorem kL_47 : Cond.methodLink RL 47 yX5_hive ∈ lw_tbl := (List.mem_of_getElem? (i := 1335) (by decide +kernel))
theorem lL_47 : zLk RL 47 yX5_hive := .inl kL_47
theorem kL_256 : Cond.methodLink RL 256 yJ9_min_7cf53 ∈ lw_tbl := (List.mem_of_getElem? (i := 1339) (by decide +kernel))
theorem lL_256 : zLk RL 256 yJ9_min_7cf53 := .inl kL_256
theorem kL_259 : Cond.methodLink RL 259 yL_neighbourCount ∈ lw_tbl := (List.mem_of_getElem? (i := 1340) (by decide +kernel))
theorem lL_259 : zLk RL 259 yL_neighbourCount := .inl kL_259
theorem kL_56 : Cond.methodLink RL 56 yX5_neighbourCount ∈ lw_tbl := (List.mem_of_getElem? (i := 1343) (by decide +kernel))
theorem lL_56 : zLk RL 56 yX5_neighbourCount := .inl kL_56
theorem kL_261 : Cond.methodLink RL 261 yL_gossip ∈ lw_tbl := (List.mem_of_getElem? (i := 1347) (by decide +kernel))
theorem lL_261 : zLk RL 261 yL_gossip := .inl kL_261
theorem kL_296 : Cond.methodLink RL 296 yL_isSpreader ∈ lw_tbl := (List.mem_of_getElem? (i := 1350) (by decide +kernel))
theorem lL_296 : zLk RL 296 yL_isSpreader := .inl kL_296
theorem kL_72 : Cond.methodLink RL 72 yX5_isSpreader ∈ lw_tbl := (List.mem_of_getElem? (i := 1353) (by decide +kernel))
theorem lL_72 : zLk RL 72 yX5_isSpreader := .inl kL_72
theorem kL_264 : Cond.methodLink RL 264 yL_listenerByGossip ∈ lw_tbl := (List.mem_of_getElem? (i := 1357) (by decide +kernel))
theorem lL_264 : zLk RL 264 yL_listenerByGossip := .inl kL_264
theorem kL_111 : Cond.methodLink RL 111 yX5_listenerByGossip ∈ lw_tbl := (List.mem_of_getElem? (i := 1360) (by decide +kernel))
theorem lL_111 : zLk RL 111 yX5_listenerByGossip := .inl kL_111
theorem kL_266 : Cond.methodLink RL 266 yJ4_length_8abf5 ∈ lw_tbl := (List.mem_of_getElem? (i := 1376) (by decide +kernel))
theorem lL_266 : zLk RL 266 yJ4_length_8abf5 := .inl kL_266
theorem kL_271 : Cond.methodLink RL 271 yL_hiveSize ∈ lw_tbl := (List.mem_of_getElem? (i := 1379) (by decide +kernel))
theorem lL_271 : zLk RL 271 yL_hiveSize := .inl kL_271
theorem kL_59 : Cond.methodLink RL 59 yX5_hiveSize ∈ lw_tbl := (List.mem_of_getElem? (i := 1382) (by decide +kernel))
theorem lL_59 : zLk RL 59 yX5_hiveSize := .inl kL_59
theorem kL_273 : Cond.methodLink RL 273 yJ0_equals_9ea2d ∈ lw_tbl := (List.mem_of_getElem? (i := 1386) (by decide +kernel))
theorem lL_273 : zLk RL 273 yJ0_equals_9ea2d := .inl kL_273
theorem kL_283 : Cond.methodLink RL 283 yX5_linkCount ∈ lw_tbl := (List.mem_of_getElem? (i := 1394) (by decide +kernel))
theorem lL_283 : zLk RL 283 yX5_linkCount := .inl kL_283
theorem kL_289 : Cond.methodLink RL 289 yX5_componentCountByUnion ∈ lw_tbl := (List.mem_of_getElem? (i := 1398) (by decide +kernel))
theorem lL_289 : zLk RL 289 yX5_componentCountByUnion := .inl kL_289
theorem kL_374 : Cond.methodLink RL 374 yL_rumours ∈ lw_tbl := (List.mem_of_getElem? (i := 1402) (by decide +kernel))
theorem lL_374 : zLk RL 374 yL_rumours := .inl kL_374
theorem kL_302 : Cond.methodLink RL 302 yL_strength ∈ lw_tbl := (List.mem_of_getElem? (i := 1407) (by decide +kernel))
theorem lL_302 : zLk RL 302 yL_strength := .inl kL_302
theorem kL_62 : Cond.methodLink RL 62 yX5_strength ∈ lw_tbl := (List.mem_of_getElem? (i := 1410) (by decide +kernel))
theorem lL_62 : zLk RL 62 yX5_strength := .inl kL_62
theorem kL_304 : Cond.methodLink RL 304 yL_isAlive ∈ lw_tbl := (List.mem_of_getElem? (i := 1414) (by decide +kernel))
theorem lL_304 : zLk RL 304 yL_isAlive := .inl kL_304
theorem kL_65 : Cond.methodLink RL 65 yX5_isAlive ∈ lw_tbl := (List.mem_of_getElem? (i := 1417) (by decide +kernel))
theorem lL_65 : zLk RL 65 yX5_isAlive := .inl kL_65
theorem kL_308 : Cond.methodLink RL 308 yJ4_init_a7421 ∈ lw_tbl := (List.mem_of_getElem? (i := 1422) (by decide +kernel))
theorem lL_308 : zLk RL 308 yJ4_init_a7421 := .inl kL_308
theorem kL_311 : Cond.methodLink RL 311 yL_isSceptic ∈ lw_tbl := (List.mem_of_getElem? (i := 1433) (by decide +kernel))
theorem lL_311 : zLk RL 311 yL_isSceptic := .inl kL_311
theorem kL_75 : Cond.methodLink RL 75 yX5_isSceptic ∈ lw_tbl := (List.mem_of_getElem? (i := 1436) (by decide +kernel))
theorem lL_75 : zLk RL 75 yX5_isSceptic := .inl kL_75
theorem kL_313 : Cond.methodLink RL 313 yL_spreadersInHive ∈ lw_tbl := (List.mem_of_getElem? (i := 1440) (by decide +kernel))
theorem lL_313 : zLk RL 313 yL_spreadersInHive := .inl kL_313
theorem kL_90 : Cond.methodLink RL 90 yX5_spreadersInHive ∈ lw_tbl := (List.mem_of_getElem? (i := 1443) (by decide +kernel))
theorem lL_90 : zLk RL 90 yX5_spreadersInHive := .inl kL_90
theorem kL_317 : Cond.methodLink RL 317 yL_spreaderCount ∈ lw_tbl := (List.mem_of_getElem? (i := 1447) (by decide +kernel))
theorem lL_317 : zLk RL 317 yL_spreaderCount := .inl kL_317
theorem kL_81 : Cond.methodLink RL 81 yX5_spreaderCount ∈ lw_tbl := (List.mem_of_getElem? (i := 1450) (by decide +kernel))
theorem lL_81 : zLk RL 81 yX5_spreaderCount := .inl kL_81
theorem kL_319 : Cond.methodLink RL 319 yL_scepticCount ∈ lw_tbl := (List.mem_of_getElem? (i := 1454) (by decide +kernel))
theorem lL_319 : zLk RL 319 yL_scepticCount := .inl kL_319
theorem kL_84 : Cond.methodLink RL 84 yX5_scepticCount ∈ lw_tbl := (List.mem_of_getElem? (i := 1457) (by decide +kernel))
theorem lL_84 : zLk RL 84 yX5_scepticCount := .inl kL_84
theorem kL_321 : Cond.methodLink RL 321 yL_countedHive ∈ lw_tbl := (List.mem_of_getElem? (i := 1461) (by decide +kernel))
theorem lL_321 : zLk RL 321 yL_countedHive := .inl kL_321
theorem kL_87 : Cond.methodLink RL 87 yX5_countedHive ∈ lw_tbl := (List.mem_of_getElem? (i := 1464) (by decide +kernel))
theorem lL_87 : zLk RL 87 yX5_countedHive := .inl kL_87
theorem kL_323 : Cond.methodLink RL 323 yL_nextSpreaders ∈ lw_tbl := (List.mem_of_getElem? (i := 1473) (by decide +kernel))
theorem lL_323 : zLk RL 323 yL_nextSpreaders := .inl kL_323
theorem kL_99 : Cond.methodLink RL 99 yX5_nextSpreaders ∈ lw_tbl := (List.mem_of_getElem? (i := 1476) (by decide +kernel))
theorem lL_99 : zLk RL 99 yX5_nextSpreaders := .inl kL_99
theorem kL_325 : Cond.methodLink RL 325 yL_distances ∈ lw_tbl := (List.mem_of_getElem? (i := 1484) (by decide +kernel))
theorem lL_325 : zLk RL 325 yL_distances := .inl kL_325
theorem kL_329 : Cond.methodLink RL 329 yL_distance ∈ lw_tbl := (List.mem_of_getElem? (i := 1487) (by decide +kernel))
theorem lL_329 : zLk RL 329 yL_distance := .inl kL_329
theorem kL_93 : Cond.methodLink RL 93 yX5_distance ∈ lw_tbl := (List.mem_of_getElem? (i := 1490) (by decide +kernel))
theorem lL_93 : zLk RL 93 yX5_distance := .inl kL_93
theorem kL_331 : Cond.methodLink RL 331 yL_distanceByRelaxation ∈ lw_tbl := (List.mem_of_getElem? (i := 1495) (by decide +kernel))
theorem lL_331 : zLk RL 331 yL_distanceByRelaxation := .inl kL_331
theorem kL_96 : Cond.methodLink RL 96 yX5_distanceByRelaxation ∈ lw_tbl := (List.mem_of_getElem? (i := 1498) (by decide +kernel))
theorem lL_96 : zLk RL 96 yX5_distanceByRelaxation := .inl kL_96
theorem kL_377 : Cond.methodLink RL 377 yL_foretold ∈ lw_tbl := (List.mem_of_getElem? (i := 1503) (by decide +kernel))
theorem lL_377 : zLk RL 377 yL_foretold := .inl kL_377
theorem kL_333 : Cond.methodLink RL 333 yX5_save ∈ lw_tbl := (List.mem_of_getElem? (i := 1506) (by decide +kernel))
theorem lL_333 : zLk RL 333 yX5_save := .inl kL_333
theorem kL_336 : Cond.methodLink RL 336 yL_spreadersAfter ∈ lw_tbl := (List.mem_of_getElem? (i := 1510) (by decide +kernel))
theorem lL_336 : zLk RL 336 yL_spreadersAfter := .inl kL_336
theorem kL_105 : Cond.methodLink RL 105 yX5_spreadersAfter ∈ lw_tbl := (List.mem_of_getElem? (i := 1513) (by decide +kernel))
theorem lL_105 : zLk RL 105 yX5_spreadersAfter := .inl kL_105
theorem kL_338 : Cond.methodLink RL 338 yL_roundsUntilHeard ∈ lw_tbl := (List.mem_of_getElem? (i := 1520) (by decide +kernel))
theorem lL_338 : zLk RL 338 yL_roundsUntilHeard := .inl kL_338
theorem kL_102 : Cond.methodLink RL 102 yX5_roundsUntilHeard ∈ lw_tbl := (List.mem_of_getElem? (i := 1523) (by decide +kernel))
theorem lL_102 : zLk RL 102 yX5_roundsUntilHeard := .inl kL_102
theorem fX6_7 : zFld RX6 7 10 0 := ⟨zck10, by decide, .inl (List.mem_of_getElem? (i := 380) (by decide +kernel))⟩
