abbrev mL_addListener : zM := (yL_addListener, cL_addListener, 5, (some .int))
abbrev mL_link : zM := (yL_link, cL_link, 5, (some .int))
abbrev mL_unlink : zM := (yL_unlink, cL_unlink, 5, (some .int))
abbrev mL_moveListener : zM := (yL_moveListener, cL_moveListener, 5, (some .int))
abbrev mL_startRumour : zM := (yL_startRumour, cL_startRumour, 5, (some .int))
abbrev mL_check : zM := (yL_check, cL_check, 5, (some .int))
abbrev mL_deny : zM := (yL_deny, cL_deny, 4, (some .int))
abbrev mL_answer : zM := (yL_answer, cL_answer, 5, (some .int))
abbrev mL_advance : zM := (yL_advance, cL_advance, 4, (some .int))
abbrev mL_hive : zM := (yL_hive, cL_hive, 4, (some .int))
abbrev mL_doubt : zM := (yL_doubt, cL_doubt, 4, (some .int))
abbrev mL_isLinked : zM := (yL_isLinked, cL_isLinked, 5, (some .int))
abbrev mL_neighbourCount : zM := (yL_neighbourCount, cL_neighbourCount, 4, (some .int))
abbrev mL_hiveSize : zM := (yL_hiveSize, cL_hiveSize, 4, (some .int))
abbrev mL_strength : zM := (yL_strength, cL_strength, 4, (some .int))
abbrev mL_isAlive : zM := (yL_isAlive, cL_isAlive, 4, (some .int))
abbrev mL_starter : zM := (yL_starter, cL_starter, 4, (some .int))
abbrev mL_isSpreader : zM := (yL_isSpreader, cL_isSpreader, 5, (some .int))
abbrev mL_isSceptic : zM := (yL_isSceptic, cL_isSceptic, 5, (some .int))
abbrev mL_heardRound : zM := (yL_heardRound, cL_heardRound, 5, (some .int))
abbrev mL_spreaderCount : zM := (yL_spreaderCount, cL_spreaderCount, 4, (some .int))
abbrev mL_scepticCount : zM := (yL_scepticCount, cL_scepticCount, 4, (some .int))
abbrev mL_countedHive : zM := (yL_countedHive, cL_countedHive, 4, (some .int))
abbrev mL_spreadersInHive : zM := (yL_spreadersInHive, cL_spreadersInHive, 5, (some .int))
abbrev mL_distance : zM := (yL_distance, cL_distance, 5, (some .int))
abbrev mL_distanceByRelaxation : zM := (yL_distanceByRelaxation, cL_distanceByRelaxation, 5, (some .int))
abbrev mL_nextSpreaders : zM := (yL_nextSpreaders, cL_nextSpreaders, 4, (some .int))
abbrev mL_roundsUntilHeard : zM := (yL_roundsUntilHeard, cL_roundsUntilHeard, 5, (some .int))
abbrev mL_spreadersAfter : zM := (yL_spreadersAfter, cL_spreadersAfter, 5, (some .int))
abbrev mL_rumourBySpread : zM := (yL_rumourBySpread, cL_rumourBySpread, 4, (some .int))
abbrev mL_listenerByGossip : zM := (yL_listenerByGossip, cL_listenerByGossip, 4, (some .int))
abbrev mL_meanDoubt : zM := (yL_meanDoubt, cL_meanDoubt, 3, (some .int))
abbrev mL_gossipShare : zM := (yL_gossipShare, cL_gossipShare, 3, (some .int))
abbrev mL_renderRumour : zM := (yL_renderRumour, cL_renderRumour, 4, (some .int))
abbrev mL_renderHive : zM := (yL_renderHive, cL_renderHive, 4, (some .int))
abbrev mL_outputAt : zM := (yL_outputAt, cL_outputAt, 4, (some .int))
abbrev mL_type : zM := (yL_type, cL_type, 4, (some .int))
abbrev mL_runScript : zM := (yL_runScript, cL_runScript, 3, (some .int))
abbrev mL_errorPosition : zM := (yL_errorPosition, cL_errorPosition, 3, (some .int))
abbrev mL_failedCommand : zM := (yL_failedCommand, cL_failedCommand, 3, (some .int))
abbrev mL_undo : zM := (yL_undo, cL_undo, 3, (some .int))
abbrev mL_restore : zM := (yL_restore, cL_restore, 3, (some .int))
theorem kL_154 : Cond.methodLink RL 154 yX5_init ∈ lw_tbl := (List.mem_of_getElem? (i := 92) (by decide +kernel))
theorem lL_154 : zLk RL 154 yX5_init := .inl kL_154
theorem kL_192 : Cond.methodLink RL 192 yX5_listenerCount ∈ lw_tbl := (List.mem_of_getElem? (i := 334) (by decide +kernel))
theorem lL_192 : zLk RL 192 yX5_listenerCount := .inl kL_192
theorem kL_208 : Cond.methodLink RL 208 yX5_linkCount ∈ lw_tbl := (List.mem_of_getElem? (i := 338) (by decide +kernel))
theorem lL_208 : zLk RL 208 yX5_linkCount := .inl kL_208
theorem kL_215 : Cond.methodLink RL 215 yX5_componentCount ∈ lw_tbl := (List.mem_of_getElem? (i := 342) (by decide +kernel))
theorem lL_215 : zLk RL 215 yX5_componentCount := .inl kL_215
theorem kL_219 : Cond.methodLink RL 219 yX5_componentCountByUnion ∈ lw_tbl := (List.mem_of_getElem? (i := 361) (by decide +kernel))
theorem lL_219 : zLk RL 219 yX5_componentCountByUnion := .inl kL_219
theorem kL_223 : Cond.methodLink RL 223 yX5_rumourCount ∈ lw_tbl := (List.mem_of_getElem? (i := 381) (by decide +kernel))
theorem lL_223 : zLk RL 223 yX5_rumourCount := .inl kL_223
theorem kL_278 : Cond.methodLink RL 278 yX5_round ∈ lw_tbl := (List.mem_of_getElem? (i := 385) (by decide +kernel))
theorem lL_278 : zLk RL 278 yX5_round := .inl kL_278
theorem kL_282 : Cond.methodLink RL 282 yX5_heardTotal ∈ lw_tbl := (List.mem_of_getElem? (i := 389) (by decide +kernel))
theorem lL_282 : zLk RL 282 yX5_heardTotal := .inl kL_282
theorem kL_286 : Cond.methodLink RL 286 yX5_successfulChecks ∈ lw_tbl := (List.mem_of_getElem? (i := 393) (by decide +kernel))
theorem lL_286 : zLk RL 286 yX5_successfulChecks := .inl kL_286
theorem kL_297 : Cond.methodLink RL 297 yX5_isConsistent ∈ lw_tbl := (List.mem_of_getElem? (i := 397) (by decide +kernel))
theorem lL_297 : zLk RL 297 yX5_isConsistent := .inl kL_297
theorem kL_328 : Cond.methodLink RL 328 yX5_save ∈ lw_tbl := (List.mem_of_getElem? (i := 438) (by decide +kernel))
theorem lL_328 : zLk RL 328 yX5_save := .inl kL_328
theorem kL_158 : Cond.methodLink RL 158 yL_addListener ∈ lw_tbl := (List.mem_of_getElem? (i := 459) (by decide +kernel))
theorem lL_158 : zLk RL 158 yL_addListener := .inl kL_158
theorem kL_7 : Cond.methodLink RL 7 yX5_addListener ∈ lw_tbl := (List.mem_of_getElem? (i := 464) (by decide +kernel))
theorem lL_7 : zLk RL 7 yX5_addListener := .inl kL_7
theorem kL_167 : Cond.methodLink RL 167 yL_link ∈ lw_tbl := (List.mem_of_getElem? (i := 720) (by decide +kernel))
theorem lL_167 : zLk RL 167 yL_link := .inl kL_167
theorem kL_17 : Cond.methodLink RL 17 yX5_link ∈ lw_tbl := (List.mem_of_getElem? (i := 744) (by decide +kernel))
theorem lL_17 : zLk RL 17 yX5_link := .inl kL_17
theorem kL_170 : Cond.methodLink RL 170 yL_unlink ∈ lw_tbl := (List.mem_of_getElem? (i := 748) (by decide +kernel))
theorem lL_170 : zLk RL 170 yL_unlink := .inl kL_170
theorem kL_22 : Cond.methodLink RL 22 yX5_unlink ∈ lw_tbl := (List.mem_of_getElem? (i := 752) (by decide +kernel))
theorem lL_22 : zLk RL 22 yX5_unlink := .inl kL_22
theorem kL_173 : Cond.methodLink RL 173 yL_moveListener ∈ lw_tbl := (List.mem_of_getElem? (i := 756) (by decide +kernel))
theorem lL_173 : zLk RL 173 yL_moveListener := .inl kL_173
theorem kL_27 : Cond.methodLink RL 27 yX5_moveListener ∈ lw_tbl := (List.mem_of_getElem? (i := 759) (by decide +kernel))
theorem lL_27 : zLk RL 27 yX5_moveListener := .inl kL_27
theorem kL_176 : Cond.methodLink RL 176 yL_startRumour ∈ lw_tbl := (List.mem_of_getElem? (i := 763) (by decide +kernel))
theorem lL_176 : zLk RL 176 yL_startRumour := .inl kL_176
theorem kL_30 : Cond.methodLink RL 30 yX5_startRumour ∈ lw_tbl := (List.mem_of_getElem? (i := 766) (by decide +kernel))
theorem lL_30 : zLk RL 30 yX5_startRumour := .inl kL_30
theorem kL_179 : Cond.methodLink RL 179 yL_check ∈ lw_tbl := (List.mem_of_getElem? (i := 770) (by decide +kernel))
theorem lL_179 : zLk RL 179 yL_check := .inl kL_179
theorem kL_33 : Cond.methodLink RL 33 yX5_check ∈ lw_tbl := (List.mem_of_getElem? (i := 773) (by decide +kernel))
theorem lL_33 : zLk RL 33 yX5_check := .inl kL_33
theorem kL_182 : Cond.methodLink RL 182 yL_deny ∈ lw_tbl := (List.mem_of_getElem? (i := 777) (by decide +kernel))
theorem lL_182 : zLk RL 182 yL_deny := .inl kL_182
theorem kL_37 : Cond.methodLink RL 37 yX5_deny ∈ lw_tbl := (List.mem_of_getElem? (i := 780) (by decide +kernel))
theorem lL_37 : zLk RL 37 yX5_deny := .inl kL_37
theorem kL_186 : Cond.methodLink RL 186 yL_answer ∈ lw_tbl := (List.mem_of_getElem? (i := 784) (by decide +kernel))
theorem lL_186 : zLk RL 186 yL_answer := .inl kL_186
theorem kL_41 : Cond.methodLink RL 41 yX5_answer ∈ lw_tbl := (List.mem_of_getElem? (i := 787) (by decide +kernel))
theorem lL_41 : zLk RL 41 yX5_answer := .inl kL_41
theorem kL_189 : Cond.methodLink RL 189 yL_advance ∈ lw_tbl := (List.mem_of_getElem? (i := 791) (by decide +kernel))
theorem lL_189 : zLk RL 189 yL_advance := .inl kL_189
theorem kL_44 : Cond.methodLink RL 44 yX5_advance ∈ lw_tbl := (List.mem_of_getElem? (i := 794) (by decide +kernel))
theorem lL_44 : zLk RL 44 yX5_advance := .inl kL_44
theorem kL_196 : Cond.methodLink RL 196 yL_hive ∈ lw_tbl := (List.mem_of_getElem? (i := 798) (by decide +kernel))
theorem lL_196 : zLk RL 196 yL_hive := .inl kL_196
theorem kL_47 : Cond.methodLink RL 47 yX5_hive ∈ lw_tbl := (List.mem_of_getElem? (i := 801) (by decide +kernel))
theorem lL_47 : zLk RL 47 yX5_hive := .inl kL_47
theorem kL_199 : Cond.methodLink RL 199 yL_doubt ∈ lw_tbl := (List.mem_of_getElem? (i := 811) (by decide +kernel))
theorem lL_199 : zLk RL 199 yL_doubt := .inl kL_199
theorem kL_50 : Cond.methodLink RL 50 yX5_doubt ∈ lw_tbl := (List.mem_of_getElem? (i := 814) (by decide +kernel))
theorem lL_50 : zLk RL 50 yX5_doubt := .inl kL_50
theorem kL_202 : Cond.methodLink RL 202 yL_isLinked ∈ lw_tbl := (List.mem_of_getElem? (i := 818) (by decide +kernel))
theorem lL_202 : zLk RL 202 yL_isLinked := .inl kL_202
theorem kL_53 : Cond.methodLink RL 53 yX5_isLinked ∈ lw_tbl := (List.mem_of_getElem? (i := 821) (by decide +kernel))
theorem lL_53 : zLk RL 53 yX5_isLinked := .inl kL_53
theorem kL_205 : Cond.methodLink RL 205 yL_neighbourCount ∈ lw_tbl := (List.mem_of_getElem? (i := 826) (by decide +kernel))
theorem lL_205 : zLk RL 205 yL_neighbourCount := .inl kL_205
theorem kL_56 : Cond.methodLink RL 56 yX5_neighbourCount ∈ lw_tbl := (List.mem_of_getElem? (i := 829) (by decide +kernel))
theorem lL_56 : zLk RL 56 yX5_neighbourCount := .inl kL_56
theorem kL_212 : Cond.methodLink RL 212 yL_hiveSize ∈ lw_tbl := (List.mem_of_getElem? (i := 834) (by decide +kernel))
theorem lL_212 : zLk RL 212 yL_hiveSize := .inl kL_212
theorem kL_59 : Cond.methodLink RL 59 yX5_hiveSize ∈ lw_tbl := (List.mem_of_getElem? (i := 837) (by decide +kernel))
theorem lL_59 : zLk RL 59 yX5_hiveSize := .inl kL_59
theorem kL_227 : Cond.methodLink RL 227 yL_strength ∈ lw_tbl := (List.mem_of_getElem? (i := 847) (by decide +kernel))
theorem lL_227 : zLk RL 227 yL_strength := .inl kL_227
theorem kL_62 : Cond.methodLink RL 62 yX5_strength ∈ lw_tbl := (List.mem_of_getElem? (i := 850) (by decide +kernel))
theorem lL_62 : zLk RL 62 yX5_strength := .inl kL_62
theorem kL_230 : Cond.methodLink RL 230 yL_isAlive ∈ lw_tbl := (List.mem_of_getElem? (i := 860) (by decide +kernel))
theorem lL_230 : zLk RL 230 yL_isAlive := .inl kL_230
theorem kL_65 : Cond.methodLink RL 65 yX5_isAlive ∈ lw_tbl := (List.mem_of_getElem? (i := 863) (by decide +kernel))
theorem lL_65 : zLk RL 65 yX5_isAlive := .inl kL_65
theorem kL_233 : Cond.methodLink RL 233 yL_starter ∈ lw_tbl := (List.mem_of_getElem? (i := 867) (by decide +kernel))
theorem lL_233 : zLk RL 233 yL_starter := .inl kL_233
theorem kL_69 : Cond.methodLink RL 69 yX5_starter ∈ lw_tbl := (List.mem_of_getElem? (i := 870) (by decide +kernel))
theorem lL_69 : zLk RL 69 yX5_starter := .inl kL_69
theorem kL_236 : Cond.methodLink RL 236 yL_isSpreader ∈ lw_tbl := (List.mem_of_getElem? (i := 874) (by decide +kernel))
theorem lL_236 : zLk RL 236 yL_isSpreader := .inl kL_236
theorem kL_72 : Cond.methodLink RL 72 yX5_isSpreader ∈ lw_tbl := (List.mem_of_getElem? (i := 877) (by decide +kernel))
theorem lL_72 : zLk RL 72 yX5_isSpreader := .inl kL_72
theorem kL_239 : Cond.methodLink RL 239 yL_isSceptic ∈ lw_tbl := (List.mem_of_getElem? (i := 882) (by decide +kernel))
theorem lL_239 : zLk RL 239 yL_isSceptic := .inl kL_239
theorem kL_75 : Cond.methodLink RL 75 yX5_isSceptic ∈ lw_tbl := (List.mem_of_getElem? (i := 885) (by decide +kernel))
theorem lL_75 : zLk RL 75 yX5_isSceptic := .inl kL_75
theorem kL_242 : Cond.methodLink RL 242 yL_heardRound ∈ lw_tbl := (List.mem_of_getElem? (i := 889) (by decide +kernel))
theorem lL_242 : zLk RL 242 yL_heardRound := .inl kL_242
theorem kL_78 : Cond.methodLink RL 78 yX5_heardRound ∈ lw_tbl := (List.mem_of_getElem? (i := 892) (by decide +kernel))
theorem lL_78 : zLk RL 78 yX5_heardRound := .inl kL_78
theorem kL_245 : Cond.methodLink RL 245 yL_spreaderCount ∈ lw_tbl := (List.mem_of_getElem? (i := 898) (by decide +kernel))
theorem lL_245 : zLk RL 245 yL_spreaderCount := .inl kL_245
theorem kL_81 : Cond.methodLink RL 81 yX5_spreaderCount ∈ lw_tbl := (List.mem_of_getElem? (i := 901) (by decide +kernel))
theorem lL_81 : zLk RL 81 yX5_spreaderCount := .inl kL_81
theorem kL_248 : Cond.methodLink RL 248 yL_scepticCount ∈ lw_tbl := (List.mem_of_getElem? (i := 905) (by decide +kernel))
theorem lL_248 : zLk RL 248 yL_scepticCount := .inl kL_248
theorem kL_84 : Cond.methodLink RL 84 yX5_scepticCount ∈ lw_tbl := (List.mem_of_getElem? (i := 908) (by decide +kernel))
theorem lL_84 : zLk RL 84 yX5_scepticCount := .inl kL_84
theorem kL_251 : Cond.methodLink RL 251 yL_countedHive ∈ lw_tbl := (List.mem_of_getElem? (i := 912) (by decide +kernel))
theorem lL_251 : zLk RL 251 yL_countedHive := .inl kL_251
theorem kL_87 : Cond.methodLink RL 87 yX5_countedHive ∈ lw_tbl := (List.mem_of_getElem? (i := 915) (by decide +kernel))
theorem lL_87 : zLk RL 87 yX5_countedHive := .inl kL_87
theorem kL_254 : Cond.methodLink RL 254 yL_spreadersInHive ∈ lw_tbl := (List.mem_of_getElem? (i := 924) (by decide +kernel))
theorem lL_254 : zLk RL 254 yL_spreadersInHive := .inl kL_254
theorem kL_90 : Cond.methodLink RL 90 yX5_spreadersInHive ∈ lw_tbl := (List.mem_of_getElem? (i := 927) (by decide +kernel))
theorem lL_90 : zLk RL 90 yX5_spreadersInHive := .inl kL_90
theorem kL_257 : Cond.methodLink RL 257 yL_distance ∈ lw_tbl := (List.mem_of_getElem? (i := 931) (by decide +kernel))
theorem lL_257 : zLk RL 257 yL_distance := .inl kL_257
theorem kL_93 : Cond.methodLink RL 93 yX5_distance ∈ lw_tbl := (List.mem_of_getElem? (i := 934) (by decide +kernel))
theorem lL_93 : zLk RL 93 yX5_distance := .inl kL_93
theorem kL_260 : Cond.methodLink RL 260 yL_distanceByRelaxation ∈ lw_tbl := (List.mem_of_getElem? (i := 942) (by decide +kernel))
theorem lL_260 : zLk RL 260 yL_distanceByRelaxation := .inl kL_260
theorem kL_96 : Cond.methodLink RL 96 yX5_distanceByRelaxation ∈ lw_tbl := (List.mem_of_getElem? (i := 945) (by decide +kernel))
theorem lL_96 : zLk RL 96 yX5_distanceByRelaxation := .inl kL_96
theorem kL_263 : Cond.methodLink RL 263 yL_nextSpreaders ∈ lw_tbl := (List.mem_of_getElem? (i := 950) (by decide +kernel))
theorem lL_263 : zLk RL 263 yL_nextSpreaders := .inl kL_263
theorem kL_99 : Cond.methodLink RL 99 yX5_nextSpreaders ∈ lw_tbl := (List.mem_of_getElem? (i := 953) (by decide +kernel))
theorem lL_99 : zLk RL 99 yX5_nextSpreaders := .inl kL_99
theorem kL_266 : Cond.methodLink RL 266 yL_roundsUntilHeard ∈ lw_tbl := (List.mem_of_getElem? (i := 961) (by decide +kernel))
theorem lL_266 : zLk RL 266 yL_roundsUntilHeard := .inl kL_266
theorem kL_102 : Cond.methodLink RL 102 yX5_roundsUntilHeard ∈ lw_tbl := (List.mem_of_getElem? (i := 964) (by decide +kernel))
theorem lL_102 : zLk RL 102 yX5_roundsUntilHeard := .inl kL_102
theorem kL_269 : Cond.methodLink RL 269 yL_spreadersAfter ∈ lw_tbl := (List.mem_of_getElem? (i := 975) (by decide +kernel))
theorem lL_269 : zLk RL 269 yL_spreadersAfter := .inl kL_269
theorem kL_105 : Cond.methodLink RL 105 yX5_spreadersAfter ∈ lw_tbl := (List.mem_of_getElem? (i := 978) (by decide +kernel))
theorem lL_105 : zLk RL 105 yX5_spreadersAfter := .inl kL_105
theorem kL_272 : Cond.methodLink RL 272 yL_rumourBySpread ∈ lw_tbl := (List.mem_of_getElem? (i := 983) (by decide +kernel))
theorem lL_272 : zLk RL 272 yL_rumourBySpread := .inl kL_272
theorem kL_108 : Cond.methodLink RL 108 yX5_rumourBySpread ∈ lw_tbl := (List.mem_of_getElem? (i := 986) (by decide +kernel))
theorem lL_108 : zLk RL 108 yX5_rumourBySpread := .inl kL_108
theorem kL_275 : Cond.methodLink RL 275 yL_listenerByGossip ∈ lw_tbl := (List.mem_of_getElem? (i := 998) (by decide +kernel))
theorem lL_275 : zLk RL 275 yL_listenerByGossip := .inl kL_275
theorem kL_111 : Cond.methodLink RL 111 yX5_listenerByGossip ∈ lw_tbl := (List.mem_of_getElem? (i := 1001) (by decide +kernel))
theorem lL_111 : zLk RL 111 yX5_listenerByGossip := .inl kL_111
theorem kL_290 : Cond.methodLink RL 290 yL_meanDoubt ∈ lw_tbl := (List.mem_of_getElem? (i := 1017) (by decide +kernel))
theorem lL_290 : zLk RL 290 yL_meanDoubt := .inl kL_290
theorem kL_114 : Cond.methodLink RL 114 yX5_meanDoubt ∈ lw_tbl := (List.mem_of_getElem? (i := 1034) (by decide +kernel))
theorem lL_114 : zLk RL 114 yX5_meanDoubt := .inl kL_114
theorem kL_294 : Cond.methodLink RL 294 yL_gossipShare ∈ lw_tbl := (List.mem_of_getElem? (i := 1045) (by decide +kernel))
theorem lL_294 : zLk RL 294 yL_gossipShare := .inl kL_294
theorem kL_120 : Cond.methodLink RL 120 yX5_gossipShare ∈ lw_tbl := (List.mem_of_getElem? (i := 1048) (by decide +kernel))
theorem lL_120 : zLk RL 120 yX5_gossipShare := .inl kL_120
theorem kL_302 : Cond.methodLink RL 302 yL_renderRumour ∈ lw_tbl := (List.mem_of_getElem? (i := 1056) (by decide +kernel))
theorem lL_302 : zLk RL 302 yL_renderRumour := .inl kL_302
theorem kL_124 : Cond.methodLink RL 124 yX5_renderRumour ∈ lw_tbl := (List.mem_of_getElem? (i := 1059) (by decide +kernel))
theorem lL_124 : zLk RL 124 yX5_renderRumour := .inl kL_124
theorem kL_305 : Cond.methodLink RL 305 yL_renderHive ∈ lw_tbl := (List.mem_of_getElem? (i := 1343) (by decide +kernel))
theorem lL_305 : zLk RL 305 yL_renderHive := .inl kL_305
theorem kL_127 : Cond.methodLink RL 127 yX5_renderHive ∈ lw_tbl := (List.mem_of_getElem? (i := 1346) (by decide +kernel))
theorem lL_127 : zLk RL 127 yX5_renderHive := .inl kL_127
theorem kL_308 : Cond.methodLink RL 308 yL_outputAt ∈ lw_tbl := (List.mem_of_getElem? (i := 1350) (by decide +kernel))
theorem lL_308 : zLk RL 308 yL_outputAt := .inl kL_308
theorem kL_130 : Cond.methodLink RL 130 yX5_outputAt ∈ lw_tbl := (List.mem_of_getElem? (i := 1353) (by decide +kernel))
theorem lL_130 : zLk RL 130 yX5_outputAt := .inl kL_130
theorem kL_311 : Cond.methodLink RL 311 yL_type ∈ lw_tbl := (List.mem_of_getElem? (i := 1368) (by decide +kernel))
theorem lL_311 : zLk RL 311 yL_type := .inl kL_311
theorem kL_134 : Cond.methodLink RL 134 yX5_type ∈ lw_tbl := (List.mem_of_getElem? (i := 1371) (by decide +kernel))
theorem lL_134 : zLk RL 134 yX5_type := .inl kL_134
theorem kL_315 : Cond.methodLink RL 315 yL_runScript ∈ lw_tbl := (List.mem_of_getElem? (i := 1381) (by decide +kernel))
theorem lL_315 : zLk RL 315 yL_runScript := .inl kL_315
theorem kL_138 : Cond.methodLink RL 138 yX5_runScript ∈ lw_tbl := (List.mem_of_getElem? (i := 1384) (by decide +kernel))
theorem lL_138 : zLk RL 138 yX5_runScript := .inl kL_138
theorem kL_319 : Cond.methodLink RL 319 yL_errorPosition ∈ lw_tbl := (List.mem_of_getElem? (i := 1451) (by decide +kernel))
theorem lL_319 : zLk RL 319 yL_errorPosition := .inl kL_319
theorem kL_142 : Cond.methodLink RL 142 yX5_errorPosition ∈ lw_tbl := (List.mem_of_getElem? (i := 1454) (by decide +kernel))
theorem lL_142 : zLk RL 142 yX5_errorPosition := .inl kL_142
theorem kL_322 : Cond.methodLink RL 322 yL_failedCommand ∈ lw_tbl := (List.mem_of_getElem? (i := 1458) (by decide +kernel))
theorem lL_322 : zLk RL 322 yL_failedCommand := .inl kL_322
theorem kL_145 : Cond.methodLink RL 145 yX5_failedCommand ∈ lw_tbl := (List.mem_of_getElem? (i := 1461) (by decide +kernel))
theorem lL_145 : zLk RL 145 yX5_failedCommand := .inl kL_145
theorem kL_325 : Cond.methodLink RL 325 yL_undo ∈ lw_tbl := (List.mem_of_getElem? (i := 1465) (by decide +kernel))
theorem lL_325 : zLk RL 325 yL_undo := .inl kL_325
theorem kL_148 : Cond.methodLink RL 148 yX5_undo ∈ lw_tbl := (List.mem_of_getElem? (i := 1468) (by decide +kernel))
theorem lL_148 : zLk RL 148 yX5_undo := .inl kL_148
theorem kL_332 : Cond.methodLink RL 332 yL_restore ∈ lw_tbl := (List.mem_of_getElem? (i := 1477) (by decide +kernel))
theorem lL_332 : zLk RL 332 yL_restore := .inl kL_332
theorem kL_151 : Cond.methodLink RL 151 yX5_restore ∈ lw_tbl := (List.mem_of_getElem? (i := 1480) (by decide +kernel))
theorem lL_151 : zLk RL 151 yX5_restore := .inl kL_151
theorem kL_157 : Cond.methodLink RL 157 yX6_init ∈ lw_tbl := (List.mem_of_getElem? (i := 1487) (by decide +kernel))
theorem lL_157 : zLk RL 157 yX6_init := .inl kL_157
theorem kL_164 : Cond.methodLink RL 164 yX6_thrown ∈ lw_tbl := (List.mem_of_getElem? (i := 1555) (by decide +kernel))
theorem lL_164 : zLk RL 164 yX6_thrown := .inl kL_164
theorem kL_163 : Cond.methodLink RL 163 yX6_addListener ∈ lw_tbl := (List.mem_of_getElem? (i := 1559) (by decide +kernel))
theorem lL_163 : zLk RL 163 yX6_addListener := .inl kL_163
theorem kL_169 : Cond.methodLink RL 169 yX6_link ∈ lw_tbl := (List.mem_of_getElem? (i := 1591) (by decide +kernel))
theorem lL_169 : zLk RL 169 yX6_link := .inl kL_169
theorem kL_172 : Cond.methodLink RL 172 yX6_unlink ∈ lw_tbl := (List.mem_of_getElem? (i := 1617) (by decide +kernel))
theorem lL_172 : zLk RL 172 yX6_unlink := .inl kL_172
theorem kL_175 : Cond.methodLink RL 175 yX6_moveListener ∈ lw_tbl := (List.mem_of_getElem? (i := 1625) (by decide +kernel))
theorem lL_175 : zLk RL 175 yX6_moveListener := .inl kL_175
theorem kL_178 : Cond.methodLink RL 178 yX6_startRumour ∈ lw_tbl := (List.mem_of_getElem? (i := 1633) (by decide +kernel))
theorem lL_178 : zLk RL 178 yX6_startRumour := .inl kL_178
theorem kL_181 : Cond.methodLink RL 181 yX6_check ∈ lw_tbl := (List.mem_of_getElem? (i := 1644) (by decide +kernel))
theorem lL_181 : zLk RL 181 yX6_check := .inl kL_181
theorem kL_185 : Cond.methodLink RL 185 yX6_deny ∈ lw_tbl := (List.mem_of_getElem? (i := 1656) (by decide +kernel))
theorem lL_185 : zLk RL 185 yX6_deny := .inl kL_185
theorem kL_188 : Cond.methodLink RL 188 yX6_answer ∈ lw_tbl := (List.mem_of_getElem? (i := 1664) (by decide +kernel))
theorem lL_188 : zLk RL 188 yX6_answer := .inl kL_188
theorem kL_191 : Cond.methodLink RL 191 yX6_advance ∈ lw_tbl := (List.mem_of_getElem? (i := 1672) (by decide +kernel))
theorem lL_191 : zLk RL 191 yX6_advance := .inl kL_191
theorem kL_195 : Cond.methodLink RL 195 yX6_listenerCount ∈ lw_tbl := (List.mem_of_getElem? (i := 1700) (by decide +kernel))
theorem lL_195 : zLk RL 195 yX6_listenerCount := .inl kL_195
theorem kL_198 : Cond.methodLink RL 198 yX6_hive ∈ lw_tbl := (List.mem_of_getElem? (i := 1704) (by decide +kernel))
theorem lL_198 : zLk RL 198 yX6_hive := .inl kL_198
theorem kL_201 : Cond.methodLink RL 201 yX6_doubt ∈ lw_tbl := (List.mem_of_getElem? (i := 1708) (by decide +kernel))
theorem lL_201 : zLk RL 201 yX6_doubt := .inl kL_201
theorem kL_204 : Cond.methodLink RL 204 yX6_isLinked ∈ lw_tbl := (List.mem_of_getElem? (i := 1712) (by decide +kernel))
theorem lL_204 : zLk RL 204 yX6_isLinked := .inl kL_204
theorem kL_207 : Cond.methodLink RL 207 yX6_neighbourCount ∈ lw_tbl := (List.mem_of_getElem? (i := 1716) (by decide +kernel))
theorem lL_207 : zLk RL 207 yX6_neighbourCount := .inl kL_207
theorem kL_211 : Cond.methodLink RL 211 yX6_linkCount ∈ lw_tbl := (List.mem_of_getElem? (i := 1720) (by decide +kernel))
theorem lL_211 : zLk RL 211 yX6_linkCount := .inl kL_211
theorem kL_214 : Cond.methodLink RL 214 yX6_hiveSize ∈ lw_tbl := (List.mem_of_getElem? (i := 1724) (by decide +kernel))
theorem lL_214 : zLk RL 214 yX6_hiveSize := .inl kL_214
theorem kL_218 : Cond.methodLink RL 218 yX6_componentCount ∈ lw_tbl := (List.mem_of_getElem? (i := 1728) (by decide +kernel))
theorem lL_218 : zLk RL 218 yX6_componentCount := .inl kL_218
theorem kL_222 : Cond.methodLink RL 222 yX6_componentCountByUnion ∈ lw_tbl := (List.mem_of_getElem? (i := 1736) (by decide +kernel))
theorem lL_222 : zLk RL 222 yX6_componentCountByUnion := .inl kL_222
theorem kL_226 : Cond.methodLink RL 226 yX6_rumourCount ∈ lw_tbl := (List.mem_of_getElem? (i := 1741) (by decide +kernel))
theorem lL_226 : zLk RL 226 yX6_rumourCount := .inl kL_226
theorem kL_229 : Cond.methodLink RL 229 yX6_strength ∈ lw_tbl := (List.mem_of_getElem? (i := 1745) (by decide +kernel))
theorem lL_229 : zLk RL 229 yX6_strength := .inl kL_229
theorem kL_232 : Cond.methodLink RL 232 yX6_isAlive ∈ lw_tbl := (List.mem_of_getElem? (i := 1753) (by decide +kernel))
theorem lL_232 : zLk RL 232 yX6_isAlive := .inl kL_232
theorem kL_235 : Cond.methodLink RL 235 yX6_starter ∈ lw_tbl := (List.mem_of_getElem? (i := 1757) (by decide +kernel))
theorem lL_235 : zLk RL 235 yX6_starter := .inl kL_235
theorem kL_238 : Cond.methodLink RL 238 yX6_isSpreader ∈ lw_tbl := (List.mem_of_getElem? (i := 1761) (by decide +kernel))
theorem lL_238 : zLk RL 238 yX6_isSpreader := .inl kL_238
theorem kL_241 : Cond.methodLink RL 241 yX6_isSceptic ∈ lw_tbl := (List.mem_of_getElem? (i := 1769) (by decide +kernel))
theorem lL_241 : zLk RL 241 yX6_isSceptic := .inl kL_241
theorem kL_244 : Cond.methodLink RL 244 yX6_heardRound ∈ lw_tbl := (List.mem_of_getElem? (i := 1773) (by decide +kernel))
theorem lL_244 : zLk RL 244 yX6_heardRound := .inl kL_244
theorem kL_247 : Cond.methodLink RL 247 yX6_spreaderCount ∈ lw_tbl := (List.mem_of_getElem? (i := 1777) (by decide +kernel))
theorem lL_247 : zLk RL 247 yX6_spreaderCount := .inl kL_247
theorem kL_250 : Cond.methodLink RL 250 yX6_scepticCount ∈ lw_tbl := (List.mem_of_getElem? (i := 1781) (by decide +kernel))
theorem lL_250 : zLk RL 250 yX6_scepticCount := .inl kL_250
theorem kL_253 : Cond.methodLink RL 253 yX6_countedHive ∈ lw_tbl := (List.mem_of_getElem? (i := 1785) (by decide +kernel))
theorem lL_253 : zLk RL 253 yX6_countedHive := .inl kL_253
theorem kL_256 : Cond.methodLink RL 256 yX6_spreadersInHive ∈ lw_tbl := (List.mem_of_getElem? (i := 1793) (by decide +kernel))
theorem lL_256 : zLk RL 256 yX6_spreadersInHive := .inl kL_256
theorem kL_259 : Cond.methodLink RL 259 yX6_distance ∈ lw_tbl := (List.mem_of_getElem? (i := 1797) (by decide +kernel))
theorem lL_259 : zLk RL 259 yX6_distance := .inl kL_259
theorem kL_262 : Cond.methodLink RL 262 yX6_distanceByRelaxation ∈ lw_tbl := (List.mem_of_getElem? (i := 1801) (by decide +kernel))
theorem lL_262 : zLk RL 262 yX6_distanceByRelaxation := .inl kL_262
theorem kL_265 : Cond.methodLink RL 265 yX6_nextSpreaders ∈ lw_tbl := (List.mem_of_getElem? (i := 1806) (by decide +kernel))
theorem lL_265 : zLk RL 265 yX6_nextSpreaders := .inl kL_265
theorem kL_268 : Cond.methodLink RL 268 yX6_roundsUntilHeard ∈ lw_tbl := (List.mem_of_getElem? (i := 1810) (by decide +kernel))
theorem lL_268 : zLk RL 268 yX6_roundsUntilHeard := .inl kL_268
theorem kL_271 : Cond.methodLink RL 271 yX6_spreadersAfter ∈ lw_tbl := (List.mem_of_getElem? (i := 1814) (by decide +kernel))
theorem lL_271 : zLk RL 271 yX6_spreadersAfter := .inl kL_271
theorem kL_274 : Cond.methodLink RL 274 yX6_rumourBySpread ∈ lw_tbl := (List.mem_of_getElem? (i := 1818) (by decide +kernel))
theorem lL_274 : zLk RL 274 yX6_rumourBySpread := .inl kL_274
theorem kL_277 : Cond.methodLink RL 277 yX6_listenerByGossip ∈ lw_tbl := (List.mem_of_getElem? (i := 1822) (by decide +kernel))
theorem lL_277 : zLk RL 277 yX6_listenerByGossip := .inl kL_277
theorem kL_281 : Cond.methodLink RL 281 yX6_round ∈ lw_tbl := (List.mem_of_getElem? (i := 1830) (by decide +kernel))
theorem lL_281 : zLk RL 281 yX6_round := .inl kL_281
theorem kL_285 : Cond.methodLink RL 285 yX6_heardTotal ∈ lw_tbl := (List.mem_of_getElem? (i := 1834) (by decide +kernel))
theorem lL_285 : zLk RL 285 yX6_heardTotal := .inl kL_285
theorem kL_289 : Cond.methodLink RL 289 yX6_successfulChecks ∈ lw_tbl := (List.mem_of_getElem? (i := 1838) (by decide +kernel))
theorem lL_289 : zLk RL 289 yX6_successfulChecks := .inl kL_289
theorem kL_293 : Cond.methodLink RL 293 yX6_meanDoubt ∈ lw_tbl := (List.mem_of_getElem? (i := 1842) (by decide +kernel))
theorem lL_293 : zLk RL 293 yX6_meanDoubt := .inl kL_293
theorem kL_296 : Cond.methodLink RL 296 yX6_gossipShare ∈ lw_tbl := (List.mem_of_getElem? (i := 1846) (by decide +kernel))
theorem lL_296 : zLk RL 296 yX6_gossipShare := .inl kL_296
theorem kL_301 : Cond.methodLink RL 301 yX6_isConsistent ∈ lw_tbl := (List.mem_of_getElem? (i := 1850) (by decide +kernel))
theorem lL_301 : zLk RL 301 yX6_isConsistent := .inl kL_301
theorem kL_304 : Cond.methodLink RL 304 yX6_renderRumour ∈ lw_tbl := (List.mem_of_getElem? (i := 1854) (by decide +kernel))
theorem lL_304 : zLk RL 304 yX6_renderRumour := .inl kL_304
theorem kL_307 : Cond.methodLink RL 307 yX6_renderHive ∈ lw_tbl := (List.mem_of_getElem? (i := 1866) (by decide +kernel))
theorem lL_307 : zLk RL 307 yX6_renderHive := .inl kL_307
theorem kL_310 : Cond.methodLink RL 310 yX6_outputAt ∈ lw_tbl := (List.mem_of_getElem? (i := 1870) (by decide +kernel))
theorem lL_310 : zLk RL 310 yX6_outputAt := .inl kL_310
theorem kL_314 : Cond.methodLink RL 314 yX6_type ∈ lw_tbl := (List.mem_of_getElem? (i := 1874) (by decide +kernel))
theorem lL_314 : zLk RL 314 yX6_type := .inl kL_314
theorem kL_318 : Cond.methodLink RL 318 yX6_runScript ∈ lw_tbl := (List.mem_of_getElem? (i := 1878) (by decide +kernel))
theorem lL_318 : zLk RL 318 yX6_runScript := .inl kL_318
theorem kL_321 : Cond.methodLink RL 321 yX6_errorPosition ∈ lw_tbl := (List.mem_of_getElem? (i := 1914) (by decide +kernel))
theorem lL_321 : zLk RL 321 yX6_errorPosition := .inl kL_321
theorem kL_324 : Cond.methodLink RL 324 yX6_failedCommand ∈ lw_tbl := (List.mem_of_getElem? (i := 1918) (by decide +kernel))
theorem lL_324 : zLk RL 324 yX6_failedCommand := .inl kL_324
theorem kL_327 : Cond.methodLink RL 327 yX6_undo ∈ lw_tbl := (List.mem_of_getElem? (i := 1922) (by decide +kernel))
theorem lL_327 : zLk RL 327 yX6_undo := .inl kL_327
theorem kL_331 : Cond.methodLink RL 331 yX6_save ∈ lw_tbl := (List.mem_of_getElem? (i := 1926) (by decide +kernel))
theorem lL_331 : zLk RL 331 yX6_save := .inl kL_331
theorem kL_334 : Cond.methodLink RL 334 yX6_restore ∈ lw_tbl := (List.mem_of_getElem? (i := 1930) (by decide +kernel))
theorem lL_334 : zLk RL 334 yX6_restore := .inl kL_334
