/-- all words of the reference -/
def VM : List Cond := [.code yX9_isOf cX9_isOf 2 (some .boolean), .code yX9_isSmall cX9_isSmall 1 (some .boolean), .code yX9_isDigit cX9_isDigit 1 (some .boolean), .code yX9_lesser cX9_lesser 2 (some .int), .code yX9_greater cX9_greater 2 (some .int), .code yX9_together cX9_together 2 (some .int), .constant RX9 327 (1048576), .code yX9_timesOf cX9_timesOf 1 (some .int), .code yX9_copies cX9_copies 5 none, .code yX9_tightens cX9_tightens 4 none, .methodLink RX9 182 yX9_lesser, .static yX9_lesser, .initialized RX9, .code yX9_spotOf cX9_spotOf 2 (some .int), .code yX9_in cX9_in 3 (some .boolean), .code yX9_isGood cX9_isGood 1 (some .boolean), .fieldLink RX9 186 "ClockReachModel" "wrong" "I", .code yX9_another cX9_another 1 none, .fieldLink RX9 273 "ClockReachModel" "hasGraph" "Z", .fieldLink RX9 277 "ClockReachModel" "isPlayed" "Z", .code yX9_clocks cX9_clocks 1 (some .int), .fieldLink RX9 43 "ClockReachModel" "clockMany" "[I", .fieldLink RX9 258 "ClockReachModel" "bank" "I", .code yX9_fault cX9_fault 2 (some .int), .fieldLink RX9 142 "ClockReachModel" "thrown" "I", .fieldLink RX9 58 "ClockReachModel" "faultPlace" "I", .fieldLink RX9 264 "ClockReachModel" "faultKind" "I", .code yX9_outOf cX9_outOf 2 (some .int), .fieldLink RX9 22 "ClockReachModel" "edgeFrom" "[I", .code yX9_into cX9_into 2 (some .int), .fieldLink RX9 25 "ClockReachModel" "edgeTo" "[I", .code yX9_setBy cX9_setBy 2 (some .int), .fieldLink RX9 31 "ClockReachModel" "sets" "[I", .code yX9_isUrgent cX9_isUrgent 2 (some .boolean), .fieldLink RX9 16 "ClockReachModel" "urgent" "[I", .code yX9_isWord cX9_isWord 2 (some .boolean), .fieldLink RX9 172 "ClockReachModel" "token" "I", .fieldLink RX9 169 "ClockReachModel" "value" "I", .code yX9_isSign cX9_isSign 2 (some .boolean), .code yX9_fails cX9_fails 2 none, .fieldLink RX9 166 "ClockReachModel" "at" "I", .fieldLink RX9 189 "ClockReachModel" "wrongAt" "I", .code yX9_isKept cX9_isKept 1 (some .boolean), .constant RX9 192 (3554411), .methodLink RX9 193 yX9_isWord, .instanceMethod yX9_isWord, .selects RX9 yX9_isWord yX9_isWord, .constant RX9 196 (17171557), .constant RX9 197 (723752404), .constant RX9 198 (22499628), .constant RX9 199 (20579924), .constant RX9 200 (168165), .constant RX9 201 (762030), .constant RX9 202 (19057844), .code yX9_mustBeName cX9_mustBeName 1 none, .methodLink RX9 210 yX9_fails, .instanceMethod yX9_fails, .selects RX9 yX9_fails yX9_fails, .methodLink RX9 206 yX9_isKept, .instanceMethod yX9_isKept, .selects RX9 yX9_isKept yX9_isKept, .code yX9_edgesOf cX9_edgesOf 5 (some .int), .fieldLink RX9 49 "ClockReachModel" "edgeMany" "[I", .methodLink RX9 292 yX9_into, .instanceMethod yX9_into, .selects RX9 yX9_into yX9_into, .methodLink RX9 289 yX9_outOf, .instanceMethod yX9_outOf, .selects RX9 yX9_outOf yX9_outOf, .code yX9_byteAt cX9_byteAt 2 (some .int), .fieldLink RX9 156 "ClockReachModel" "size" "I", .fieldLink RX9 55 "ClockReachModel" "tape" "[I", .code yX9_next cX9_next 2 none, .fieldLink RX9 159 "ClockReachModel" "behind" "I", .methodLink RX9 162 yX9_byteAt, .instanceMethod yX9_byteAt, .selects RX9 yX9_byteAt yX9_byteAt, .methodLink RX9 175 yX9_isSmall, .static yX9_isSmall, .methodLink RX9 179 yX9_isDigit, .static yX9_isDigit, .code yX9_clockCalled cX9_clockCalled 2 (some .int), .fieldLink RX9 203 "ClockReachModel" "rb" "I", .fieldLink RX9 7 "ClockReachModel" "clockName" "[I", .code yX9_placeCalled cX9_placeCalled 2 (some .int), .fieldLink RX9 46 "ClockReachModel" "placeMany" "[I", .fieldLink RX9 13 "ClockReachModel" "placeName" "[I", .code yX9_freshName cX9_freshName 2 (some .int), .methodLink RX9 213 yX9_mustBeName, .instanceMethod yX9_mustBeName, .selects RX9 yX9_mustBeName yX9_mustBeName, .methodLink RX9 216 yX9_isGood, .instanceMethod yX9_isGood, .selects RX9 yX9_isGood yX9_isGood, .methodLink RX9 219 yX9_clockCalled, .instanceMethod yX9_clockCalled, .selects RX9 yX9_clockCalled yX9_clockCalled, .methodLink RX9 223 yX9_placeCalled, .instanceMethod yX9_placeCalled, .selects RX9 yX9_placeCalled yX9_placeCalled, .methodLink RX9 226 yX9_next, .instanceMethod yX9_next, .selects RX9 yX9_next yX9_next, .code yX9_toldClock cX9_toldClock 2 (some .int), .methodLink RX9 229 yX9_greater, .static yX9_greater, .code yX9_toldPlace cX9_toldPlace 2 (some .int), .code yX9_readCondition cX9_readCondition 7 none, .fieldLink RX9 34 "ClockReachModel" "ofClock" "[I", .methodLink RX9 232 yX9_toldClock, .instanceMethod yX9_toldClock, .selects RX9 yX9_toldClock yX9_toldClock, .methodLink RX9 235 yX9_isSign, .instanceMethod yX9_isSign, .selects RX9 yX9_isSign yX9_isSign, .fieldLink RX9 37 "ClockReachModel" "how" "[I", .fieldLink RX9 40 "ClockReachModel" "limit" "[I", .code yX9_readPlace cX9_readPlace 2 none, .methodLink RX9 238 yX9_freshName, .instanceMethod yX9_freshName, .selects RX9 yX9_freshName yX9_freshName, .fieldLink RX9 19 "ClockReachModel" "untils" "[I", .methodLink RX9 241 yX9_readCondition, .instanceMethod yX9_readCondition, .selects RX9 yX9_readCondition yX9_readCondition, .code yX9_readEdge cX9_readEdge 3 none, .methodLink RX9 245 yX9_toldPlace, .instanceMethod yX9_toldPlace, .selects RX9 yX9_toldPlace yX9_toldPlace, .fieldLink RX9 28 "ClockReachModel" "whens" "[I", .methodLink RX9 248 yX9_isOf, .static yX9_isOf, .code yX9_readLine cX9_readLine 5 none, .fieldLink RX9 52 "ClockReachModel" "begins" "[I", .methodLink RX9 255 yX9_readEdge, .instanceMethod yX9_readEdge, .selects RX9 yX9_readEdge yX9_readEdge, .methodLink RX9 252 yX9_readPlace, .instanceMethod yX9_readPlace, .selects RX9 yX9_readPlace yX9_readPlace, .code yX9_automaton cX9_automaton 1 (some .int), .fieldLink RX9 145 "ClockReachModel" "taped" "I", .methodLink RX9 261 yX9_readLine, .instanceMethod yX9_readLine, .selects RX9 yX9_readLine yX9_readLine, .fieldLink RX9 267 "ClockReachModel" "acts" "I", .methodLink RX9 270 yX9_another, .instanceMethod yX9_another, .selects RX9 yX9_another yX9_another, .code yX9_isClock cX9_isClock 2 (some .boolean), .methodLink RX9 280 yX9_clocks, .instanceMethod yX9_clocks, .selects RX9 yX9_clocks yX9_clocks, .methodLink RX9 152 yX9_in, .static yX9_in, .code yX9_isPlace cX9_isPlace 2 (some .boolean), .code yX9_isEdge cX9_isEdge 2 (some .boolean), .code yX9_manyOf cX9_manyOf 2 (some .int), .methodLink RX9 283 yX9_isEdge, .instanceMethod yX9_isEdge, .selects RX9 yX9_isEdge yX9_isEdge, .methodLink RX9 286 yX9_isPlace, .instanceMethod yX9_isPlace, .selects RX9 yX9_isPlace yX9_isPlace, .code yX9_spot cX9_spot 3 (some .int), .code yX9_isCondition cX9_isCondition 3 (some .boolean), .methodLink RX9 295 yX9_manyOf, .instanceMethod yX9_manyOf, .selects RX9 yX9_manyOf yX9_manyOf, .code yX9_condition cX9_condition 5 (some .int), .methodLink RX9 308 yX9_isCondition, .instanceMethod yX9_isCondition, .selects RX9 yX9_isCondition yX9_isCondition, .methodLink RX9 311 yX9_spot, .instanceMethod yX9_spot, .selects RX9 yX9_spot yX9_spot, .code yX9_about cX9_about 4 (some .int), .fieldLink RX9 92 "ClockReachModel" "stateMany" "[I", .fieldLink RX9 98 "ClockReachModel" "isFull" "[Z", .fieldLink RX9 298 "ClockReachModel" "graphWay" "I", .code yX9_place cX9_place 3 (some .int), .methodLink RX9 301 yX9_edgesOf, .instanceMethod yX9_edgesOf, .selects RX9 yX9_edgesOf yX9_edgesOf, .code yX9_edge cX9_edge 3 (some .int), .methodLink RX9 305 yX9_setBy, .instanceMethod yX9_setBy, .selects RX9 yX9_setBy yX9_setBy, .code yX9_most cX9_most 8 (some .int), .code yX9_limit cX9_limit 3 (some .int), .methodLink RX9 314 yX9_isClock, .instanceMethod yX9_isClock, .selects RX9 yX9_isClock yX9_isClock, .methodLink RX9 317 yX9_most, .instanceMethod yX9_most, .selects RX9 yX9_most yX9_most, .code yX9_keepAct cX9_keepAct 4 none, .fieldLink RX9 62 "ClockReachModel" "actOf" "[I", .fieldLink RX9 65 "ClockReachModel" "actWas" "[I", .code yX9_number cX9_number 5 (some .int), .methodLink RX9 320 yX9_keepAct, .instanceMethod yX9_keepAct, .selects RX9 yX9_keepAct yX9_keepAct, .code yX9_urgent cX9_urgent 3 (some .boolean), .methodLink RX9 324 yX9_isUrgent, .instanceMethod yX9_isUrgent, .selects RX9 yX9_isUrgent yX9_isUrgent, .code yX9_undo cX9_undo 1 (some .boolean), .code yX9_closes cX9_closes 5 (some .boolean), .fieldLink RX9 328 "ClockReachModel" "side" "I", .methodLink RX9 331 yX9_together, .static yX9_together, .code yX9_holds cX9_holds 4 none, .methodLink RX9 334 yX9_tightens, .static yX9_tightens, .code yX9_holdsAll cX9_holdsAll 4 none, .methodLink RX9 338 yX9_holds, .instanceMethod yX9_holds, .selects RX9 yX9_holds yX9_holds, .code yX9_goesBack cX9_goesBack 4 none, .code yX9_delays cX9_delays 4 none, .methodLink RX9 342 yX9_holdsAll, .instanceMethod yX9_holdsAll, .selects RX9 yX9_holdsAll yX9_holdsAll, .methodLink RX9 345 yX9_closes, .instanceMethod yX9_closes, .selects RX9 yX9_closes yX9_closes, .code yX9_layForgotten cX9_layForgotten 4 none, .fieldLink RX9 102 "ClockReachModel" "high" "[I", .fieldLink RX9 105 "ClockReachModel" "low" "[I", .code yX9_forgets cX9_forgets 6 none, .code yX9_hasAll cX9_hasAll 8 (some .boolean), .fieldLink RX9 68 "ClockReachModel" "zone" "[I", .code yX9_goesBy cX9_goesBy 3 (some .boolean), .fieldLink RX9 71 "ClockReachModel" "z" "[I", .methodLink RX9 366 yX9_goesBack, .instanceMethod yX9_goesBack, .selects RX9 yX9_goesBack yX9_goesBack, .code yX9_layPoint cX9_layPoint 8 none, .code yX9_hasPlace cX9_hasPlace 4 (some .boolean), .fieldLink RX9 80 "ClockReachModel" "statePlace" "[I", .methodLink RX9 355 yX9_spotOf, .static yX9_spotOf, .code yX9_comes cX9_comes 10 none, .methodLink RX9 349 yX9_delays, .instanceMethod yX9_delays, .selects RX9 yX9_delays yX9_delays, .methodLink RX9 352 yX9_forgets, .instanceMethod yX9_forgets, .selects RX9 yX9_forgets yX9_forgets, .methodLink RX9 362 yX9_copies, .static yX9_copies, .fieldLink RX9 83 "ClockReachModel" "stateFrom" "[I", .fieldLink RX9 86 "ClockReachModel" "stateBy" "[I", .fieldLink RX9 89 "ClockReachModel" "stateDeep" "[I", .methodLink RX9 358 yX9_hasAll, .instanceMethod yX9_hasAll, .selects RX9 yX9_hasAll yX9_hasAll, .code yX9_explores cX9_explores 10 none, .fieldLink RX9 95 "ClockReachModel" "takenBy" "[I", .methodLink RX9 369 yX9_layForgotten, .instanceMethod yX9_layForgotten, .selects RX9 yX9_layForgotten yX9_layForgotten, .methodLink RX9 372 yX9_comes, .instanceMethod yX9_comes, .selects RX9 yX9_comes yX9_comes, .methodLink RX9 376 yX9_goesBy, .instanceMethod yX9_goesBy, .selects RX9 yX9_goesBy yX9_goesBy, .code yX9_graph cX9_graph 3 (some .int), .methodLink RX9 379 yX9_layPoint, .instanceMethod yX9_layPoint, .selects RX9 yX9_layPoint yX9_layPoint, .methodLink RX9 383 yX9_explores, .instanceMethod yX9_explores, .selects RX9 yX9_explores yX9_explores, .code yX9_isState cX9_isState 2 (some .boolean), .code yX9_boundOf cX9_boundOf 4 (some .int), .code yX9_bound cX9_bound 6 (some .int), .methodLink RX9 387 yX9_isState, .instanceMethod yX9_isState, .selects RX9 yX9_isState yX9_isState, .methodLink RX9 394 yX9_boundOf, .instanceMethod yX9_boundOf, .selects RX9 yX9_boundOf yX9_boundOf, .constant RX9 398 (2147483647), .constant RX9 393 (-2147483648), .code yX9_within cX9_within 3 (some .int), .code yX9_first cX9_first 3 (some .int), .code yX9_reached cX9_reached 3 (some .int), .code yX9_taken cX9_taken 1 (some .int), .code yX9_overlap cX9_overlap 4 (some .int), .code yX9_goesTo cX9_goesTo 6 (some .int), .code yX9_rings cX9_rings 3 (some .int), .methodLink RX9 423 yX9_goesTo, .instanceMethod yX9_goesTo, .selects RX9 yX9_goesTo yX9_goesTo, .code yX9_keepsPiece cX9_keepsPiece 2 none, .fieldLink RX9 74 "ClockReachModel" "y" "[I", .fieldLink RX9 109 "ClockReachModel" "piece" "[I", .fieldLink RX9 405 "ClockReachModel" "pieces" "I", .fieldLink RX9 112 "ClockReachModel" "pieceFrom" "[I", .code yX9_parts cX9_parts 5 (some .boolean), .fieldLink RX9 115 "ClockReachModel" "covers" "[I", .methodLink RX9 408 yX9_keepsPiece, .instanceMethod yX9_keepsPiece, .selects RX9 yX9_keepsPiece yX9_keepsPiece, .code yX9_isOver cX9_isOver 1 (some .boolean), .fieldLink RX9 411 "ClockReachModel" "coverMany" "I", .methodLink RX9 414 yX9_parts, .instanceMethod yX9_parts, .selects RX9 yX9_parts yX9_parts, .code yX9_covered cX9_covered 3 (some .int), .methodLink RX9 417 yX9_isOver, .instanceMethod yX9_isOver, .selects RX9 yX9_isOver yX9_isOver, .code yX9_layAhead cX9_layAhead 4 (some .boolean), .code yX9_isStuck cX9_isStuck 3 (some .boolean), .methodLink RX9 420 yX9_layAhead, .instanceMethod yX9_layAhead, .selects RX9 yX9_layAhead yX9_layAhead, .code yX9_state cX9_state 5 (some .int), .methodLink RX9 390 yX9_isStuck, .instanceMethod yX9_isStuck, .selects RX9 yX9_isStuck yX9_isStuck, .code yX9_layPath cX9_layPath 4 none, .fieldLink RX9 429 "ClockReachModel" "pathMany" "I", .fieldLink RX9 118 "ClockReachModel" "path" "[I", .code yX9_holdsApart cX9_holdsApart 4 none, .fieldLink RX9 121 "ClockReachModel" "later" "[I", .fieldLink RX9 432 "ClockReachModel" "gaps" "I", .fieldLink RX9 124 "ClockReachModel" "sooner" "[I", .fieldLink RX9 127 "ClockReachModel" "gap" "[I", .code yX9_layConditions cX9_layConditions 6 none, .fieldLink RX9 130 "ClockReachModel" "setAt" "[I", .methodLink RX9 438 yX9_holdsApart, .instanceMethod yX9_holdsApart, .selects RX9 yX9_holdsApart yX9_holdsApart, .fieldLink RX9 435 "ClockReachModel" "isBroken" "Z", .code yX9_layGaps cX9_layGaps 4 none, .methodLink RX9 441 yX9_layConditions, .instanceMethod yX9_layConditions, .selects RX9 yX9_layConditions yX9_layConditions, .code yX9_laysLeast cX9_laysLeast 5 (some .boolean), .methodLink RX9 444 yX9_layGaps, .instanceMethod yX9_layGaps, .selects RX9 yX9_layGaps yX9_layGaps, .fieldLink RX9 133 "ClockReachModel" "time" "[I", .methodLink RX9 447 yX9_timesOf, .static yX9_timesOf, .code yX9_laysGreatest cX9_laysGreatest 7 (some .boolean), .constant RX9 450 (1073741824), .code yX9_isStep cX9_isStep 3 (some .boolean), .methodLink RX9 451 yX9_layPath, .instanceMethod yX9_layPath, .selects RX9 yX9_layPath yX9_layPath, .code yX9_run cX9_run 3 (some .int), .methodLink RX9 454 yX9_isStep, .instanceMethod yX9_isStep, .selects RX9 yX9_isStep yX9_isStep, .code yX9_when cX9_when 3 (some .int), .methodLink RX9 457 yX9_laysLeast, .instanceMethod yX9_laysLeast, .selects RX9 yX9_laysLeast yX9_laysLeast, .code yX9_then cX9_then 6 (some .int), .code yX9_latest cX9_latest 4 (some .int), .methodLink RX9 460 yX9_laysGreatest, .instanceMethod yX9_laysGreatest, .selects RX9 yX9_laysGreatest yX9_laysGreatest, .code yX9_spanned cX9_spanned 7 (some .int), .fieldLink RX9 136 "ClockReachModel" "span" "[I", .code yX9_spans cX9_spans 3 (some .int), .methodLink RX9 463 yX9_spanned, .instanceMethod yX9_spanned, .selects RX9 yX9_spanned yX9_spanned, .code yX9_tells cX9_tells 10 (some .int), .code yX9_hasTimes cX9_hasTimes 12 (some .boolean), .constantLong RX9 399 (256), .code yX9_has cX9_has 5 (some .int), .methodLink RX9 401 yX9_hasTimes, .instanceMethod yX9_hasTimes, .selects RX9 yX9_hasTimes yX9_hasTimes, .code yX9_points cX9_points 6 (some .int), .code yX9_from cX9_from 7 (some .int), .methodLink RX9 426 yX9_hasPlace, .instanceMethod yX9_hasPlace, .selects RX9 yX9_hasPlace yX9_hasPlace, .code yX9_avoids cX9_avoids 3 (some .int), .code yX9_soonest cX9_soonest 6 (some .int), .code yX9_lets cX9_lets 9 (some .int), .code yX9_isHeld cX9_isHeld 8 (some .boolean), .fieldLink RX9 139 "ClockReachModel" "clockTime" "[I", .code yX9_beginsPlay cX9_beginsPlay 2 (some .boolean), .fieldLink RX9 466 "ClockReachModel" "playPlace" "I", .fieldLink RX9 469 "ClockReachModel" "played" "I", .methodLink RX9 472 yX9_isHeld, .instanceMethod yX9_isHeld, .selects RX9 yX9_isHeld yX9_isHeld, .code yX9_begin cX9_begin 1 (some .int), .methodLink RX9 475 yX9_beginsPlay, .instanceMethod yX9_beginsPlay, .selects RX9 yX9_beginsPlay yX9_beginsPlay, .code yX9_mayWait cX9_mayWait 4 (some .int), .code yX9_passes cX9_passes 3 none, .code yX9_waits cX9_waits 2 (some .boolean), .methodLink RX9 478 yX9_mayWait, .instanceMethod yX9_mayWait, .selects RX9 yX9_mayWait yX9_mayWait, .methodLink RX9 481 yX9_passes, .instanceMethod yX9_passes, .selects RX9 yX9_passes yX9_passes, .code yX9_canTake cX9_canTake 2 (some .boolean), .code yX9_take cX9_take 3 none, .code yX9_takes cX9_takes 2 (some .int), .methodLink RX9 484 yX9_canTake, .instanceMethod yX9_canTake, .selects RX9 yX9_canTake yX9_canTake, .methodLink RX9 487 yX9_take, .instanceMethod yX9_take, .selects RX9 yX9_take yX9_take, .code yX9_now cX9_now 4 (some .int), .code yX9_clock cX9_clock 2 (some .int), .code yX9_replays cX9_replays 4 (some .boolean), .code yX9_four cX9_four 3 none, .code yX9_feed cX9_feed 6 (some .int), .methodLink RX9 148 yX9_four, .instanceMethod yX9_four, .selects RX9 yX9_four yX9_four, .code yX9_end cX9_end 2 (some .int)] ++ wsX90
theorem vm_0 : (.code yX9_isOf cX9_isOf 2 (some .boolean) : Cond) ∈ VM := List.mem_of_getElem? (i := 0) rfl
theorem vm_1 : (.code yX9_isSmall cX9_isSmall 1 (some .boolean) : Cond) ∈ VM := List.mem_of_getElem? (i := 1) rfl
theorem vm_2 : (.code yX9_isDigit cX9_isDigit 1 (some .boolean) : Cond) ∈ VM := List.mem_of_getElem? (i := 2) rfl
theorem vm_3 : (.code yX9_lesser cX9_lesser 2 (some .int) : Cond) ∈ VM := List.mem_of_getElem? (i := 3) rfl
theorem vm_4 : (.code yX9_greater cX9_greater 2 (some .int) : Cond) ∈ VM := List.mem_of_getElem? (i := 4) rfl
theorem vm_5 : (.code yX9_together cX9_together 2 (some .int) : Cond) ∈ VM := List.mem_of_getElem? (i := 5) rfl
theorem vm_6 : (.constant RX9 327 (1048576) : Cond) ∈ VM := List.mem_of_getElem? (i := 6) rfl
theorem vm_7 : (.code yX9_timesOf cX9_timesOf 1 (some .int) : Cond) ∈ VM := List.mem_of_getElem? (i := 7) rfl
theorem vm_8 : (.code yX9_copies cX9_copies 5 none : Cond) ∈ VM := List.mem_of_getElem? (i := 8) rfl
theorem vm_9 : (.code yX9_tightens cX9_tightens 4 none : Cond) ∈ VM := List.mem_of_getElem? (i := 9) rfl
theorem vm_10 : (.methodLink RX9 182 yX9_lesser : Cond) ∈ VM := List.mem_of_getElem? (i := 10) rfl
theorem vm_11 : (.static yX9_lesser : Cond) ∈ VM := List.mem_of_getElem? (i := 11) rfl
theorem vm_12 : (.initialized RX9 : Cond) ∈ VM := List.mem_of_getElem? (i := 12) rfl
theorem vm_13 : (.code yX9_spotOf cX9_spotOf 2 (some .int) : Cond) ∈ VM := List.mem_of_getElem? (i := 13) rfl
theorem vm_14 : (.code yX9_in cX9_in 3 (some .boolean) : Cond) ∈ VM := List.mem_of_getElem? (i := 14) rfl
theorem vm_15 : (.code yX9_isGood cX9_isGood 1 (some .boolean) : Cond) ∈ VM := List.mem_of_getElem? (i := 15) rfl
theorem vm_16 : (.fieldLink RX9 186 "ClockReachModel" "wrong" "I" : Cond) ∈ VM := List.mem_of_getElem? (i := 16) rfl
theorem vm_17 : (.code yX9_another cX9_another 1 none : Cond) ∈ VM := List.mem_of_getElem? (i := 17) rfl
theorem vm_18 : (.fieldLink RX9 273 "ClockReachModel" "hasGraph" "Z" : Cond) ∈ VM := List.mem_of_getElem? (i := 18) rfl
theorem vm_19 : (.fieldLink RX9 277 "ClockReachModel" "isPlayed" "Z" : Cond) ∈ VM := List.mem_of_getElem? (i := 19) rfl
theorem vm_20 : (.code yX9_clocks cX9_clocks 1 (some .int) : Cond) ∈ VM := List.mem_of_getElem? (i := 20) rfl
theorem vm_21 : (.fieldLink RX9 43 "ClockReachModel" "clockMany" "[I" : Cond) ∈ VM := List.mem_of_getElem? (i := 21) rfl
theorem vm_22 : (.fieldLink RX9 258 "ClockReachModel" "bank" "I" : Cond) ∈ VM := List.mem_of_getElem? (i := 22) rfl
theorem vm_23 : (.code yX9_fault cX9_fault 2 (some .int) : Cond) ∈ VM := List.mem_of_getElem? (i := 23) rfl
theorem vm_24 : (.fieldLink RX9 142 "ClockReachModel" "thrown" "I" : Cond) ∈ VM := List.mem_of_getElem? (i := 24) rfl
theorem vm_25 : (.fieldLink RX9 58 "ClockReachModel" "faultPlace" "I" : Cond) ∈ VM := List.mem_of_getElem? (i := 25) rfl
theorem vm_26 : (.fieldLink RX9 264 "ClockReachModel" "faultKind" "I" : Cond) ∈ VM := List.mem_of_getElem? (i := 26) rfl
theorem vm_27 : (.code yX9_outOf cX9_outOf 2 (some .int) : Cond) ∈ VM := List.mem_of_getElem? (i := 27) rfl
theorem vm_28 : (.fieldLink RX9 22 "ClockReachModel" "edgeFrom" "[I" : Cond) ∈ VM := List.mem_of_getElem? (i := 28) rfl
theorem vm_29 : (.code yX9_into cX9_into 2 (some .int) : Cond) ∈ VM := List.mem_of_getElem? (i := 29) rfl
theorem vm_30 : (.fieldLink RX9 25 "ClockReachModel" "edgeTo" "[I" : Cond) ∈ VM := List.mem_of_getElem? (i := 30) rfl
theorem vm_31 : (.code yX9_setBy cX9_setBy 2 (some .int) : Cond) ∈ VM := List.mem_of_getElem? (i := 31) rfl
theorem vm_32 : (.fieldLink RX9 31 "ClockReachModel" "sets" "[I" : Cond) ∈ VM := List.mem_of_getElem? (i := 32) rfl
theorem vm_33 : (.code yX9_isUrgent cX9_isUrgent 2 (some .boolean) : Cond) ∈ VM := List.mem_of_getElem? (i := 33) rfl
theorem vm_34 : (.fieldLink RX9 16 "ClockReachModel" "urgent" "[I" : Cond) ∈ VM := List.mem_of_getElem? (i := 34) rfl
theorem vm_35 : (.code yX9_isWord cX9_isWord 2 (some .boolean) : Cond) ∈ VM := List.mem_of_getElem? (i := 35) rfl
theorem vm_36 : (.fieldLink RX9 172 "ClockReachModel" "token" "I" : Cond) ∈ VM := List.mem_of_getElem? (i := 36) rfl
theorem vm_37 : (.fieldLink RX9 169 "ClockReachModel" "value" "I" : Cond) ∈ VM := List.mem_of_getElem? (i := 37) rfl
theorem vm_38 : (.code yX9_isSign cX9_isSign 2 (some .boolean) : Cond) ∈ VM := List.mem_of_getElem? (i := 38) rfl
theorem vm_39 : (.code yX9_fails cX9_fails 2 none : Cond) ∈ VM := List.mem_of_getElem? (i := 39) rfl
theorem vm_40 : (.fieldLink RX9 166 "ClockReachModel" "at" "I" : Cond) ∈ VM := List.mem_of_getElem? (i := 40) rfl
theorem vm_41 : (.fieldLink RX9 189 "ClockReachModel" "wrongAt" "I" : Cond) ∈ VM := List.mem_of_getElem? (i := 41) rfl
theorem vm_42 : (.code yX9_isKept cX9_isKept 1 (some .boolean) : Cond) ∈ VM := List.mem_of_getElem? (i := 42) rfl
theorem vm_43 : (.constant RX9 192 (3554411) : Cond) ∈ VM := List.mem_of_getElem? (i := 43) rfl
theorem vm_44 : (.methodLink RX9 193 yX9_isWord : Cond) ∈ VM := List.mem_of_getElem? (i := 44) rfl
theorem vm_45 : (.instanceMethod yX9_isWord : Cond) ∈ VM := List.mem_of_getElem? (i := 45) rfl
theorem vm_46 : (.selects RX9 yX9_isWord yX9_isWord : Cond) ∈ VM := List.mem_of_getElem? (i := 46) rfl
theorem vm_47 : (.constant RX9 196 (17171557) : Cond) ∈ VM := List.mem_of_getElem? (i := 47) rfl
theorem vm_48 : (.constant RX9 197 (723752404) : Cond) ∈ VM := List.mem_of_getElem? (i := 48) rfl
theorem vm_49 : (.constant RX9 198 (22499628) : Cond) ∈ VM := List.mem_of_getElem? (i := 49) rfl
theorem vm_50 : (.constant RX9 199 (20579924) : Cond) ∈ VM := List.mem_of_getElem? (i := 50) rfl
theorem vm_51 : (.constant RX9 200 (168165) : Cond) ∈ VM := List.mem_of_getElem? (i := 51) rfl
theorem vm_52 : (.constant RX9 201 (762030) : Cond) ∈ VM := List.mem_of_getElem? (i := 52) rfl
theorem vm_53 : (.constant RX9 202 (19057844) : Cond) ∈ VM := List.mem_of_getElem? (i := 53) rfl
theorem vm_54 : (.code yX9_mustBeName cX9_mustBeName 1 none : Cond) ∈ VM := List.mem_of_getElem? (i := 54) rfl
theorem vm_55 : (.methodLink RX9 210 yX9_fails : Cond) ∈ VM := List.mem_of_getElem? (i := 55) rfl
theorem vm_56 : (.instanceMethod yX9_fails : Cond) ∈ VM := List.mem_of_getElem? (i := 56) rfl
theorem vm_57 : (.selects RX9 yX9_fails yX9_fails : Cond) ∈ VM := List.mem_of_getElem? (i := 57) rfl
theorem vm_58 : (.methodLink RX9 206 yX9_isKept : Cond) ∈ VM := List.mem_of_getElem? (i := 58) rfl
theorem vm_59 : (.instanceMethod yX9_isKept : Cond) ∈ VM := List.mem_of_getElem? (i := 59) rfl
theorem vm_60 : (.selects RX9 yX9_isKept yX9_isKept : Cond) ∈ VM := List.mem_of_getElem? (i := 60) rfl
theorem vm_61 : (.code yX9_edgesOf cX9_edgesOf 5 (some .int) : Cond) ∈ VM := List.mem_of_getElem? (i := 61) rfl
theorem vm_62 : (.fieldLink RX9 49 "ClockReachModel" "edgeMany" "[I" : Cond) ∈ VM := List.mem_of_getElem? (i := 62) rfl
theorem vm_63 : (.methodLink RX9 292 yX9_into : Cond) ∈ VM := List.mem_of_getElem? (i := 63) rfl
theorem vm_64 : (.instanceMethod yX9_into : Cond) ∈ VM := List.mem_of_getElem? (i := 64) rfl
theorem vm_65 : (.selects RX9 yX9_into yX9_into : Cond) ∈ VM := List.mem_of_getElem? (i := 65) rfl
theorem vm_66 : (.methodLink RX9 289 yX9_outOf : Cond) ∈ VM := List.mem_of_getElem? (i := 66) rfl
theorem vm_67 : (.instanceMethod yX9_outOf : Cond) ∈ VM := List.mem_of_getElem? (i := 67) rfl
theorem vm_68 : (.selects RX9 yX9_outOf yX9_outOf : Cond) ∈ VM := List.mem_of_getElem? (i := 68) rfl
theorem vm_69 : (.code yX9_byteAt cX9_byteAt 2 (some .int) : Cond) ∈ VM := List.mem_of_getElem? (i := 69) rfl
theorem vm_70 : (.fieldLink RX9 156 "ClockReachModel" "size" "I" : Cond) ∈ VM := List.mem_of_getElem? (i := 70) rfl
theorem vm_71 : (.fieldLink RX9 55 "ClockReachModel" "tape" "[I" : Cond) ∈ VM := List.mem_of_getElem? (i := 71) rfl
theorem vm_72 : (.code yX9_next cX9_next 2 none : Cond) ∈ VM := List.mem_of_getElem? (i := 72) rfl
theorem vm_73 : (.fieldLink RX9 159 "ClockReachModel" "behind" "I" : Cond) ∈ VM := List.mem_of_getElem? (i := 73) rfl
theorem vm_74 : (.methodLink RX9 162 yX9_byteAt : Cond) ∈ VM := List.mem_of_getElem? (i := 74) rfl
theorem vm_75 : (.instanceMethod yX9_byteAt : Cond) ∈ VM := List.mem_of_getElem? (i := 75) rfl
theorem vm_76 : (.selects RX9 yX9_byteAt yX9_byteAt : Cond) ∈ VM := List.mem_of_getElem? (i := 76) rfl
theorem vm_77 : (.methodLink RX9 175 yX9_isSmall : Cond) ∈ VM := List.mem_of_getElem? (i := 77) rfl
theorem vm_78 : (.static yX9_isSmall : Cond) ∈ VM := List.mem_of_getElem? (i := 78) rfl
theorem vm_79 : (.methodLink RX9 179 yX9_isDigit : Cond) ∈ VM := List.mem_of_getElem? (i := 79) rfl
theorem vm_80 : (.static yX9_isDigit : Cond) ∈ VM := List.mem_of_getElem? (i := 80) rfl
theorem vm_81 : (.code yX9_clockCalled cX9_clockCalled 2 (some .int) : Cond) ∈ VM := List.mem_of_getElem? (i := 81) rfl
theorem vm_82 : (.fieldLink RX9 203 "ClockReachModel" "rb" "I" : Cond) ∈ VM := List.mem_of_getElem? (i := 82) rfl
theorem vm_83 : (.fieldLink RX9 7 "ClockReachModel" "clockName" "[I" : Cond) ∈ VM := List.mem_of_getElem? (i := 83) rfl
theorem vm_84 : (.code yX9_placeCalled cX9_placeCalled 2 (some .int) : Cond) ∈ VM := List.mem_of_getElem? (i := 84) rfl
theorem vm_85 : (.fieldLink RX9 46 "ClockReachModel" "placeMany" "[I" : Cond) ∈ VM := List.mem_of_getElem? (i := 85) rfl
theorem vm_86 : (.fieldLink RX9 13 "ClockReachModel" "placeName" "[I" : Cond) ∈ VM := List.mem_of_getElem? (i := 86) rfl
theorem vm_87 : (.code yX9_freshName cX9_freshName 2 (some .int) : Cond) ∈ VM := List.mem_of_getElem? (i := 87) rfl
theorem vm_88 : (.methodLink RX9 213 yX9_mustBeName : Cond) ∈ VM := List.mem_of_getElem? (i := 88) rfl
theorem vm_89 : (.instanceMethod yX9_mustBeName : Cond) ∈ VM := List.mem_of_getElem? (i := 89) rfl
theorem vm_90 : (.selects RX9 yX9_mustBeName yX9_mustBeName : Cond) ∈ VM := List.mem_of_getElem? (i := 90) rfl
theorem vm_91 : (.methodLink RX9 216 yX9_isGood : Cond) ∈ VM := List.mem_of_getElem? (i := 91) rfl
theorem vm_92 : (.instanceMethod yX9_isGood : Cond) ∈ VM := List.mem_of_getElem? (i := 92) rfl
theorem vm_93 : (.selects RX9 yX9_isGood yX9_isGood : Cond) ∈ VM := List.mem_of_getElem? (i := 93) rfl
theorem vm_94 : (.methodLink RX9 219 yX9_clockCalled : Cond) ∈ VM := List.mem_of_getElem? (i := 94) rfl
theorem vm_95 : (.instanceMethod yX9_clockCalled : Cond) ∈ VM := List.mem_of_getElem? (i := 95) rfl
theorem vm_96 : (.selects RX9 yX9_clockCalled yX9_clockCalled : Cond) ∈ VM := List.mem_of_getElem? (i := 96) rfl
theorem vm_97 : (.methodLink RX9 223 yX9_placeCalled : Cond) ∈ VM := List.mem_of_getElem? (i := 97) rfl
theorem vm_98 : (.instanceMethod yX9_placeCalled : Cond) ∈ VM := List.mem_of_getElem? (i := 98) rfl
theorem vm_99 : (.selects RX9 yX9_placeCalled yX9_placeCalled : Cond) ∈ VM := List.mem_of_getElem? (i := 99) rfl
theorem vm_100 : (.methodLink RX9 226 yX9_next : Cond) ∈ VM := List.mem_of_getElem? (i := 100) rfl
theorem vm_101 : (.instanceMethod yX9_next : Cond) ∈ VM := List.mem_of_getElem? (i := 101) rfl
theorem vm_102 : (.selects RX9 yX9_next yX9_next : Cond) ∈ VM := List.mem_of_getElem? (i := 102) rfl
theorem vm_103 : (.code yX9_toldClock cX9_toldClock 2 (some .int) : Cond) ∈ VM := List.mem_of_getElem? (i := 103) rfl
theorem vm_104 : (.methodLink RX9 229 yX9_greater : Cond) ∈ VM := List.mem_of_getElem? (i := 104) rfl
theorem vm_105 : (.static yX9_greater : Cond) ∈ VM := List.mem_of_getElem? (i := 105) rfl
theorem vm_106 : (.code yX9_toldPlace cX9_toldPlace 2 (some .int) : Cond) ∈ VM := List.mem_of_getElem? (i := 106) rfl
theorem vm_107 : (.code yX9_readCondition cX9_readCondition 7 none : Cond) ∈ VM := List.mem_of_getElem? (i := 107) rfl
theorem vm_108 : (.fieldLink RX9 34 "ClockReachModel" "ofClock" "[I" : Cond) ∈ VM := List.mem_of_getElem? (i := 108) rfl
theorem vm_109 : (.methodLink RX9 232 yX9_toldClock : Cond) ∈ VM := List.mem_of_getElem? (i := 109) rfl
theorem vm_110 : (.instanceMethod yX9_toldClock : Cond) ∈ VM := List.mem_of_getElem? (i := 110) rfl
theorem vm_111 : (.selects RX9 yX9_toldClock yX9_toldClock : Cond) ∈ VM := List.mem_of_getElem? (i := 111) rfl
theorem vm_112 : (.methodLink RX9 235 yX9_isSign : Cond) ∈ VM := List.mem_of_getElem? (i := 112) rfl
theorem vm_113 : (.instanceMethod yX9_isSign : Cond) ∈ VM := List.mem_of_getElem? (i := 113) rfl
theorem vm_114 : (.selects RX9 yX9_isSign yX9_isSign : Cond) ∈ VM := List.mem_of_getElem? (i := 114) rfl
theorem vm_115 : (.fieldLink RX9 37 "ClockReachModel" "how" "[I" : Cond) ∈ VM := List.mem_of_getElem? (i := 115) rfl
theorem vm_116 : (.fieldLink RX9 40 "ClockReachModel" "limit" "[I" : Cond) ∈ VM := List.mem_of_getElem? (i := 116) rfl
theorem vm_117 : (.code yX9_readPlace cX9_readPlace 2 none : Cond) ∈ VM := List.mem_of_getElem? (i := 117) rfl
theorem vm_118 : (.methodLink RX9 238 yX9_freshName : Cond) ∈ VM := List.mem_of_getElem? (i := 118) rfl
theorem vm_119 : (.instanceMethod yX9_freshName : Cond) ∈ VM := List.mem_of_getElem? (i := 119) rfl
theorem vm_120 : (.selects RX9 yX9_freshName yX9_freshName : Cond) ∈ VM := List.mem_of_getElem? (i := 120) rfl
theorem vm_121 : (.fieldLink RX9 19 "ClockReachModel" "untils" "[I" : Cond) ∈ VM := List.mem_of_getElem? (i := 121) rfl
theorem vm_122 : (.methodLink RX9 241 yX9_readCondition : Cond) ∈ VM := List.mem_of_getElem? (i := 122) rfl
theorem vm_123 : (.instanceMethod yX9_readCondition : Cond) ∈ VM := List.mem_of_getElem? (i := 123) rfl
theorem vm_124 : (.selects RX9 yX9_readCondition yX9_readCondition : Cond) ∈ VM := List.mem_of_getElem? (i := 124) rfl
theorem vm_125 : (.code yX9_readEdge cX9_readEdge 3 none : Cond) ∈ VM := List.mem_of_getElem? (i := 125) rfl
theorem vm_126 : (.methodLink RX9 245 yX9_toldPlace : Cond) ∈ VM := List.mem_of_getElem? (i := 126) rfl
theorem vm_127 : (.instanceMethod yX9_toldPlace : Cond) ∈ VM := List.mem_of_getElem? (i := 127) rfl
theorem vm_128 : (.selects RX9 yX9_toldPlace yX9_toldPlace : Cond) ∈ VM := List.mem_of_getElem? (i := 128) rfl
theorem vm_129 : (.fieldLink RX9 28 "ClockReachModel" "whens" "[I" : Cond) ∈ VM := List.mem_of_getElem? (i := 129) rfl
theorem vm_130 : (.methodLink RX9 248 yX9_isOf : Cond) ∈ VM := List.mem_of_getElem? (i := 130) rfl
theorem vm_131 : (.static yX9_isOf : Cond) ∈ VM := List.mem_of_getElem? (i := 131) rfl
theorem vm_132 : (.code yX9_readLine cX9_readLine 5 none : Cond) ∈ VM := List.mem_of_getElem? (i := 132) rfl
theorem vm_133 : (.fieldLink RX9 52 "ClockReachModel" "begins" "[I" : Cond) ∈ VM := List.mem_of_getElem? (i := 133) rfl
theorem vm_134 : (.methodLink RX9 255 yX9_readEdge : Cond) ∈ VM := List.mem_of_getElem? (i := 134) rfl
theorem vm_135 : (.instanceMethod yX9_readEdge : Cond) ∈ VM := List.mem_of_getElem? (i := 135) rfl
theorem vm_136 : (.selects RX9 yX9_readEdge yX9_readEdge : Cond) ∈ VM := List.mem_of_getElem? (i := 136) rfl
theorem vm_137 : (.methodLink RX9 252 yX9_readPlace : Cond) ∈ VM := List.mem_of_getElem? (i := 137) rfl
theorem vm_138 : (.instanceMethod yX9_readPlace : Cond) ∈ VM := List.mem_of_getElem? (i := 138) rfl
theorem vm_139 : (.selects RX9 yX9_readPlace yX9_readPlace : Cond) ∈ VM := List.mem_of_getElem? (i := 139) rfl
theorem vm_140 : (.code yX9_automaton cX9_automaton 1 (some .int) : Cond) ∈ VM := List.mem_of_getElem? (i := 140) rfl
theorem vm_141 : (.fieldLink RX9 145 "ClockReachModel" "taped" "I" : Cond) ∈ VM := List.mem_of_getElem? (i := 141) rfl
theorem vm_142 : (.methodLink RX9 261 yX9_readLine : Cond) ∈ VM := List.mem_of_getElem? (i := 142) rfl
theorem vm_143 : (.instanceMethod yX9_readLine : Cond) ∈ VM := List.mem_of_getElem? (i := 143) rfl
theorem vm_144 : (.selects RX9 yX9_readLine yX9_readLine : Cond) ∈ VM := List.mem_of_getElem? (i := 144) rfl
theorem vm_145 : (.fieldLink RX9 267 "ClockReachModel" "acts" "I" : Cond) ∈ VM := List.mem_of_getElem? (i := 145) rfl
theorem vm_146 : (.methodLink RX9 270 yX9_another : Cond) ∈ VM := List.mem_of_getElem? (i := 146) rfl
theorem vm_147 : (.instanceMethod yX9_another : Cond) ∈ VM := List.mem_of_getElem? (i := 147) rfl
theorem vm_148 : (.selects RX9 yX9_another yX9_another : Cond) ∈ VM := List.mem_of_getElem? (i := 148) rfl
theorem vm_149 : (.code yX9_isClock cX9_isClock 2 (some .boolean) : Cond) ∈ VM := List.mem_of_getElem? (i := 149) rfl
theorem vm_150 : (.methodLink RX9 280 yX9_clocks : Cond) ∈ VM := List.mem_of_getElem? (i := 150) rfl
theorem vm_151 : (.instanceMethod yX9_clocks : Cond) ∈ VM := List.mem_of_getElem? (i := 151) rfl
theorem vm_152 : (.selects RX9 yX9_clocks yX9_clocks : Cond) ∈ VM := List.mem_of_getElem? (i := 152) rfl
theorem vm_153 : (.methodLink RX9 152 yX9_in : Cond) ∈ VM := List.mem_of_getElem? (i := 153) rfl
theorem vm_154 : (.static yX9_in : Cond) ∈ VM := List.mem_of_getElem? (i := 154) rfl
theorem vm_155 : (.code yX9_isPlace cX9_isPlace 2 (some .boolean) : Cond) ∈ VM := List.mem_of_getElem? (i := 155) rfl
theorem vm_156 : (.code yX9_isEdge cX9_isEdge 2 (some .boolean) : Cond) ∈ VM := List.mem_of_getElem? (i := 156) rfl
theorem vm_157 : (.code yX9_manyOf cX9_manyOf 2 (some .int) : Cond) ∈ VM := List.mem_of_getElem? (i := 157) rfl
theorem vm_158 : (.methodLink RX9 283 yX9_isEdge : Cond) ∈ VM := List.mem_of_getElem? (i := 158) rfl
theorem vm_159 : (.instanceMethod yX9_isEdge : Cond) ∈ VM := List.mem_of_getElem? (i := 159) rfl
theorem vm_160 : (.selects RX9 yX9_isEdge yX9_isEdge : Cond) ∈ VM := List.mem_of_getElem? (i := 160) rfl
theorem vm_161 : (.methodLink RX9 286 yX9_isPlace : Cond) ∈ VM := List.mem_of_getElem? (i := 161) rfl
theorem vm_162 : (.instanceMethod yX9_isPlace : Cond) ∈ VM := List.mem_of_getElem? (i := 162) rfl
theorem vm_163 : (.selects RX9 yX9_isPlace yX9_isPlace : Cond) ∈ VM := List.mem_of_getElem? (i := 163) rfl
theorem vm_164 : (.code yX9_spot cX9_spot 3 (some .int) : Cond) ∈ VM := List.mem_of_getElem? (i := 164) rfl
theorem vm_165 : (.code yX9_isCondition cX9_isCondition 3 (some .boolean) : Cond) ∈ VM := List.mem_of_getElem? (i := 165) rfl
theorem vm_166 : (.methodLink RX9 295 yX9_manyOf : Cond) ∈ VM := List.mem_of_getElem? (i := 166) rfl
theorem vm_167 : (.instanceMethod yX9_manyOf : Cond) ∈ VM := List.mem_of_getElem? (i := 167) rfl
theorem vm_168 : (.selects RX9 yX9_manyOf yX9_manyOf : Cond) ∈ VM := List.mem_of_getElem? (i := 168) rfl
theorem vm_169 : (.code yX9_condition cX9_condition 5 (some .int) : Cond) ∈ VM := List.mem_of_getElem? (i := 169) rfl
theorem vm_170 : (.methodLink RX9 308 yX9_isCondition : Cond) ∈ VM := List.mem_of_getElem? (i := 170) rfl
theorem vm_171 : (.instanceMethod yX9_isCondition : Cond) ∈ VM := List.mem_of_getElem? (i := 171) rfl
theorem vm_172 : (.selects RX9 yX9_isCondition yX9_isCondition : Cond) ∈ VM := List.mem_of_getElem? (i := 172) rfl
theorem vm_173 : (.methodLink RX9 311 yX9_spot : Cond) ∈ VM := List.mem_of_getElem? (i := 173) rfl
theorem vm_174 : (.instanceMethod yX9_spot : Cond) ∈ VM := List.mem_of_getElem? (i := 174) rfl
theorem vm_175 : (.selects RX9 yX9_spot yX9_spot : Cond) ∈ VM := List.mem_of_getElem? (i := 175) rfl
theorem vm_176 : (.code yX9_about cX9_about 4 (some .int) : Cond) ∈ VM := List.mem_of_getElem? (i := 176) rfl
theorem vm_177 : (.fieldLink RX9 92 "ClockReachModel" "stateMany" "[I" : Cond) ∈ VM := List.mem_of_getElem? (i := 177) rfl
theorem vm_178 : (.fieldLink RX9 98 "ClockReachModel" "isFull" "[Z" : Cond) ∈ VM := List.mem_of_getElem? (i := 178) rfl
theorem vm_179 : (.fieldLink RX9 298 "ClockReachModel" "graphWay" "I" : Cond) ∈ VM := List.mem_of_getElem? (i := 179) rfl
theorem vm_180 : (.code yX9_place cX9_place 3 (some .int) : Cond) ∈ VM := List.mem_of_getElem? (i := 180) rfl
theorem vm_181 : (.methodLink RX9 301 yX9_edgesOf : Cond) ∈ VM := List.mem_of_getElem? (i := 181) rfl
theorem vm_182 : (.instanceMethod yX9_edgesOf : Cond) ∈ VM := List.mem_of_getElem? (i := 182) rfl
theorem vm_183 : (.selects RX9 yX9_edgesOf yX9_edgesOf : Cond) ∈ VM := List.mem_of_getElem? (i := 183) rfl
theorem vm_184 : (.code yX9_edge cX9_edge 3 (some .int) : Cond) ∈ VM := List.mem_of_getElem? (i := 184) rfl
theorem vm_185 : (.methodLink RX9 305 yX9_setBy : Cond) ∈ VM := List.mem_of_getElem? (i := 185) rfl
theorem vm_186 : (.instanceMethod yX9_setBy : Cond) ∈ VM := List.mem_of_getElem? (i := 186) rfl
theorem vm_187 : (.selects RX9 yX9_setBy yX9_setBy : Cond) ∈ VM := List.mem_of_getElem? (i := 187) rfl
theorem vm_188 : (.code yX9_most cX9_most 8 (some .int) : Cond) ∈ VM := List.mem_of_getElem? (i := 188) rfl
theorem vm_189 : (.code yX9_limit cX9_limit 3 (some .int) : Cond) ∈ VM := List.mem_of_getElem? (i := 189) rfl
theorem vm_190 : (.methodLink RX9 314 yX9_isClock : Cond) ∈ VM := List.mem_of_getElem? (i := 190) rfl
theorem vm_191 : (.instanceMethod yX9_isClock : Cond) ∈ VM := List.mem_of_getElem? (i := 191) rfl
theorem vm_192 : (.selects RX9 yX9_isClock yX9_isClock : Cond) ∈ VM := List.mem_of_getElem? (i := 192) rfl
theorem vm_193 : (.methodLink RX9 317 yX9_most : Cond) ∈ VM := List.mem_of_getElem? (i := 193) rfl
theorem vm_194 : (.instanceMethod yX9_most : Cond) ∈ VM := List.mem_of_getElem? (i := 194) rfl
theorem vm_195 : (.selects RX9 yX9_most yX9_most : Cond) ∈ VM := List.mem_of_getElem? (i := 195) rfl
theorem vm_196 : (.code yX9_keepAct cX9_keepAct 4 none : Cond) ∈ VM := List.mem_of_getElem? (i := 196) rfl
theorem vm_197 : (.fieldLink RX9 62 "ClockReachModel" "actOf" "[I" : Cond) ∈ VM := List.mem_of_getElem? (i := 197) rfl
theorem vm_198 : (.fieldLink RX9 65 "ClockReachModel" "actWas" "[I" : Cond) ∈ VM := List.mem_of_getElem? (i := 198) rfl
theorem vm_199 : (.code yX9_number cX9_number 5 (some .int) : Cond) ∈ VM := List.mem_of_getElem? (i := 199) rfl
theorem vm_200 : (.methodLink RX9 320 yX9_keepAct : Cond) ∈ VM := List.mem_of_getElem? (i := 200) rfl
theorem vm_201 : (.instanceMethod yX9_keepAct : Cond) ∈ VM := List.mem_of_getElem? (i := 201) rfl
theorem vm_202 : (.selects RX9 yX9_keepAct yX9_keepAct : Cond) ∈ VM := List.mem_of_getElem? (i := 202) rfl
theorem vm_203 : (.code yX9_urgent cX9_urgent 3 (some .boolean) : Cond) ∈ VM := List.mem_of_getElem? (i := 203) rfl
theorem vm_204 : (.methodLink RX9 324 yX9_isUrgent : Cond) ∈ VM := List.mem_of_getElem? (i := 204) rfl
theorem vm_205 : (.instanceMethod yX9_isUrgent : Cond) ∈ VM := List.mem_of_getElem? (i := 205) rfl
theorem vm_206 : (.selects RX9 yX9_isUrgent yX9_isUrgent : Cond) ∈ VM := List.mem_of_getElem? (i := 206) rfl
theorem vm_207 : (.code yX9_undo cX9_undo 1 (some .boolean) : Cond) ∈ VM := List.mem_of_getElem? (i := 207) rfl
theorem vm_208 : (.code yX9_closes cX9_closes 5 (some .boolean) : Cond) ∈ VM := List.mem_of_getElem? (i := 208) rfl
theorem vm_209 : (.fieldLink RX9 328 "ClockReachModel" "side" "I" : Cond) ∈ VM := List.mem_of_getElem? (i := 209) rfl
theorem vm_210 : (.methodLink RX9 331 yX9_together : Cond) ∈ VM := List.mem_of_getElem? (i := 210) rfl
theorem vm_211 : (.static yX9_together : Cond) ∈ VM := List.mem_of_getElem? (i := 211) rfl
theorem vm_212 : (.code yX9_holds cX9_holds 4 none : Cond) ∈ VM := List.mem_of_getElem? (i := 212) rfl
theorem vm_213 : (.methodLink RX9 334 yX9_tightens : Cond) ∈ VM := List.mem_of_getElem? (i := 213) rfl
theorem vm_214 : (.static yX9_tightens : Cond) ∈ VM := List.mem_of_getElem? (i := 214) rfl
theorem vm_215 : (.code yX9_holdsAll cX9_holdsAll 4 none : Cond) ∈ VM := List.mem_of_getElem? (i := 215) rfl
theorem vm_216 : (.methodLink RX9 338 yX9_holds : Cond) ∈ VM := List.mem_of_getElem? (i := 216) rfl
theorem vm_217 : (.instanceMethod yX9_holds : Cond) ∈ VM := List.mem_of_getElem? (i := 217) rfl
theorem vm_218 : (.selects RX9 yX9_holds yX9_holds : Cond) ∈ VM := List.mem_of_getElem? (i := 218) rfl
theorem vm_219 : (.code yX9_goesBack cX9_goesBack 4 none : Cond) ∈ VM := List.mem_of_getElem? (i := 219) rfl
theorem vm_220 : (.code yX9_delays cX9_delays 4 none : Cond) ∈ VM := List.mem_of_getElem? (i := 220) rfl
theorem vm_221 : (.methodLink RX9 342 yX9_holdsAll : Cond) ∈ VM := List.mem_of_getElem? (i := 221) rfl
theorem vm_222 : (.instanceMethod yX9_holdsAll : Cond) ∈ VM := List.mem_of_getElem? (i := 222) rfl
theorem vm_223 : (.selects RX9 yX9_holdsAll yX9_holdsAll : Cond) ∈ VM := List.mem_of_getElem? (i := 223) rfl
theorem vm_224 : (.methodLink RX9 345 yX9_closes : Cond) ∈ VM := List.mem_of_getElem? (i := 224) rfl
theorem vm_225 : (.instanceMethod yX9_closes : Cond) ∈ VM := List.mem_of_getElem? (i := 225) rfl
theorem vm_226 : (.selects RX9 yX9_closes yX9_closes : Cond) ∈ VM := List.mem_of_getElem? (i := 226) rfl
theorem vm_227 : (.code yX9_layForgotten cX9_layForgotten 4 none : Cond) ∈ VM := List.mem_of_getElem? (i := 227) rfl
theorem vm_228 : (.fieldLink RX9 102 "ClockReachModel" "high" "[I" : Cond) ∈ VM := List.mem_of_getElem? (i := 228) rfl
theorem vm_229 : (.fieldLink RX9 105 "ClockReachModel" "low" "[I" : Cond) ∈ VM := List.mem_of_getElem? (i := 229) rfl
theorem vm_230 : (.code yX9_forgets cX9_forgets 6 none : Cond) ∈ VM := List.mem_of_getElem? (i := 230) rfl
theorem vm_231 : (.code yX9_hasAll cX9_hasAll 8 (some .boolean) : Cond) ∈ VM := List.mem_of_getElem? (i := 231) rfl
theorem vm_232 : (.fieldLink RX9 68 "ClockReachModel" "zone" "[I" : Cond) ∈ VM := List.mem_of_getElem? (i := 232) rfl
theorem vm_233 : (.code yX9_goesBy cX9_goesBy 3 (some .boolean) : Cond) ∈ VM := List.mem_of_getElem? (i := 233) rfl
theorem vm_234 : (.fieldLink RX9 71 "ClockReachModel" "z" "[I" : Cond) ∈ VM := List.mem_of_getElem? (i := 234) rfl
theorem vm_235 : (.methodLink RX9 366 yX9_goesBack : Cond) ∈ VM := List.mem_of_getElem? (i := 235) rfl
theorem vm_236 : (.instanceMethod yX9_goesBack : Cond) ∈ VM := List.mem_of_getElem? (i := 236) rfl
theorem vm_237 : (.selects RX9 yX9_goesBack yX9_goesBack : Cond) ∈ VM := List.mem_of_getElem? (i := 237) rfl
theorem vm_238 : (.code yX9_layPoint cX9_layPoint 8 none : Cond) ∈ VM := List.mem_of_getElem? (i := 238) rfl
theorem vm_239 : (.code yX9_hasPlace cX9_hasPlace 4 (some .boolean) : Cond) ∈ VM := List.mem_of_getElem? (i := 239) rfl
theorem vm_240 : (.fieldLink RX9 80 "ClockReachModel" "statePlace" "[I" : Cond) ∈ VM := List.mem_of_getElem? (i := 240) rfl
theorem vm_241 : (.methodLink RX9 355 yX9_spotOf : Cond) ∈ VM := List.mem_of_getElem? (i := 241) rfl
theorem vm_242 : (.static yX9_spotOf : Cond) ∈ VM := List.mem_of_getElem? (i := 242) rfl
theorem vm_243 : (.code yX9_comes cX9_comes 10 none : Cond) ∈ VM := List.mem_of_getElem? (i := 243) rfl
theorem vm_244 : (.methodLink RX9 349 yX9_delays : Cond) ∈ VM := List.mem_of_getElem? (i := 244) rfl
theorem vm_245 : (.instanceMethod yX9_delays : Cond) ∈ VM := List.mem_of_getElem? (i := 245) rfl
theorem vm_246 : (.selects RX9 yX9_delays yX9_delays : Cond) ∈ VM := List.mem_of_getElem? (i := 246) rfl
theorem vm_247 : (.methodLink RX9 352 yX9_forgets : Cond) ∈ VM := List.mem_of_getElem? (i := 247) rfl
theorem vm_248 : (.instanceMethod yX9_forgets : Cond) ∈ VM := List.mem_of_getElem? (i := 248) rfl
theorem vm_249 : (.selects RX9 yX9_forgets yX9_forgets : Cond) ∈ VM := List.mem_of_getElem? (i := 249) rfl
theorem vm_250 : (.methodLink RX9 362 yX9_copies : Cond) ∈ VM := List.mem_of_getElem? (i := 250) rfl
theorem vm_251 : (.static yX9_copies : Cond) ∈ VM := List.mem_of_getElem? (i := 251) rfl
theorem vm_252 : (.fieldLink RX9 83 "ClockReachModel" "stateFrom" "[I" : Cond) ∈ VM := List.mem_of_getElem? (i := 252) rfl
theorem vm_253 : (.fieldLink RX9 86 "ClockReachModel" "stateBy" "[I" : Cond) ∈ VM := List.mem_of_getElem? (i := 253) rfl
theorem vm_254 : (.fieldLink RX9 89 "ClockReachModel" "stateDeep" "[I" : Cond) ∈ VM := List.mem_of_getElem? (i := 254) rfl
theorem vm_255 : (.methodLink RX9 358 yX9_hasAll : Cond) ∈ VM := List.mem_of_getElem? (i := 255) rfl
theorem vm_256 : (.instanceMethod yX9_hasAll : Cond) ∈ VM := List.mem_of_getElem? (i := 256) rfl
theorem vm_257 : (.selects RX9 yX9_hasAll yX9_hasAll : Cond) ∈ VM := List.mem_of_getElem? (i := 257) rfl
theorem vm_258 : (.code yX9_explores cX9_explores 10 none : Cond) ∈ VM := List.mem_of_getElem? (i := 258) rfl
theorem vm_259 : (.fieldLink RX9 95 "ClockReachModel" "takenBy" "[I" : Cond) ∈ VM := List.mem_of_getElem? (i := 259) rfl
theorem vm_260 : (.methodLink RX9 369 yX9_layForgotten : Cond) ∈ VM := List.mem_of_getElem? (i := 260) rfl
theorem vm_261 : (.instanceMethod yX9_layForgotten : Cond) ∈ VM := List.mem_of_getElem? (i := 261) rfl
theorem vm_262 : (.selects RX9 yX9_layForgotten yX9_layForgotten : Cond) ∈ VM := List.mem_of_getElem? (i := 262) rfl
theorem vm_263 : (.methodLink RX9 372 yX9_comes : Cond) ∈ VM := List.mem_of_getElem? (i := 263) rfl
theorem vm_264 : (.instanceMethod yX9_comes : Cond) ∈ VM := List.mem_of_getElem? (i := 264) rfl
theorem vm_265 : (.selects RX9 yX9_comes yX9_comes : Cond) ∈ VM := List.mem_of_getElem? (i := 265) rfl
theorem vm_266 : (.methodLink RX9 376 yX9_goesBy : Cond) ∈ VM := List.mem_of_getElem? (i := 266) rfl
theorem vm_267 : (.instanceMethod yX9_goesBy : Cond) ∈ VM := List.mem_of_getElem? (i := 267) rfl
theorem vm_268 : (.selects RX9 yX9_goesBy yX9_goesBy : Cond) ∈ VM := List.mem_of_getElem? (i := 268) rfl
theorem vm_269 : (.code yX9_graph cX9_graph 3 (some .int) : Cond) ∈ VM := List.mem_of_getElem? (i := 269) rfl
theorem vm_270 : (.methodLink RX9 379 yX9_layPoint : Cond) ∈ VM := List.mem_of_getElem? (i := 270) rfl
theorem vm_271 : (.instanceMethod yX9_layPoint : Cond) ∈ VM := List.mem_of_getElem? (i := 271) rfl
theorem vm_272 : (.selects RX9 yX9_layPoint yX9_layPoint : Cond) ∈ VM := List.mem_of_getElem? (i := 272) rfl
theorem vm_273 : (.methodLink RX9 383 yX9_explores : Cond) ∈ VM := List.mem_of_getElem? (i := 273) rfl
theorem vm_274 : (.instanceMethod yX9_explores : Cond) ∈ VM := List.mem_of_getElem? (i := 274) rfl
theorem vm_275 : (.selects RX9 yX9_explores yX9_explores : Cond) ∈ VM := List.mem_of_getElem? (i := 275) rfl
theorem vm_276 : (.code yX9_isState cX9_isState 2 (some .boolean) : Cond) ∈ VM := List.mem_of_getElem? (i := 276) rfl
theorem vm_277 : (.code yX9_boundOf cX9_boundOf 4 (some .int) : Cond) ∈ VM := List.mem_of_getElem? (i := 277) rfl
theorem vm_278 : (.code yX9_bound cX9_bound 6 (some .int) : Cond) ∈ VM := List.mem_of_getElem? (i := 278) rfl
theorem vm_279 : (.methodLink RX9 387 yX9_isState : Cond) ∈ VM := List.mem_of_getElem? (i := 279) rfl
theorem vm_280 : (.instanceMethod yX9_isState : Cond) ∈ VM := List.mem_of_getElem? (i := 280) rfl
theorem vm_281 : (.selects RX9 yX9_isState yX9_isState : Cond) ∈ VM := List.mem_of_getElem? (i := 281) rfl
theorem vm_282 : (.methodLink RX9 394 yX9_boundOf : Cond) ∈ VM := List.mem_of_getElem? (i := 282) rfl
theorem vm_283 : (.instanceMethod yX9_boundOf : Cond) ∈ VM := List.mem_of_getElem? (i := 283) rfl
theorem vm_284 : (.selects RX9 yX9_boundOf yX9_boundOf : Cond) ∈ VM := List.mem_of_getElem? (i := 284) rfl
theorem vm_285 : (.constant RX9 398 (2147483647) : Cond) ∈ VM := List.mem_of_getElem? (i := 285) rfl
theorem vm_286 : (.constant RX9 393 (-2147483648) : Cond) ∈ VM := List.mem_of_getElem? (i := 286) rfl
theorem vm_287 : (.code yX9_within cX9_within 3 (some .int) : Cond) ∈ VM := List.mem_of_getElem? (i := 287) rfl
theorem vm_288 : (.code yX9_first cX9_first 3 (some .int) : Cond) ∈ VM := List.mem_of_getElem? (i := 288) rfl
theorem vm_289 : (.code yX9_reached cX9_reached 3 (some .int) : Cond) ∈ VM := List.mem_of_getElem? (i := 289) rfl
theorem vm_290 : (.code yX9_taken cX9_taken 1 (some .int) : Cond) ∈ VM := List.mem_of_getElem? (i := 290) rfl
theorem vm_291 : (.code yX9_overlap cX9_overlap 4 (some .int) : Cond) ∈ VM := List.mem_of_getElem? (i := 291) rfl
theorem vm_292 : (.code yX9_goesTo cX9_goesTo 6 (some .int) : Cond) ∈ VM := List.mem_of_getElem? (i := 292) rfl
theorem vm_293 : (.code yX9_rings cX9_rings 3 (some .int) : Cond) ∈ VM := List.mem_of_getElem? (i := 293) rfl
theorem vm_294 : (.methodLink RX9 423 yX9_goesTo : Cond) ∈ VM := List.mem_of_getElem? (i := 294) rfl
theorem vm_295 : (.instanceMethod yX9_goesTo : Cond) ∈ VM := List.mem_of_getElem? (i := 295) rfl
theorem vm_296 : (.selects RX9 yX9_goesTo yX9_goesTo : Cond) ∈ VM := List.mem_of_getElem? (i := 296) rfl
theorem vm_297 : (.code yX9_keepsPiece cX9_keepsPiece 2 none : Cond) ∈ VM := List.mem_of_getElem? (i := 297) rfl
theorem vm_298 : (.fieldLink RX9 74 "ClockReachModel" "y" "[I" : Cond) ∈ VM := List.mem_of_getElem? (i := 298) rfl
theorem vm_299 : (.fieldLink RX9 109 "ClockReachModel" "piece" "[I" : Cond) ∈ VM := List.mem_of_getElem? (i := 299) rfl
theorem vm_300 : (.fieldLink RX9 405 "ClockReachModel" "pieces" "I" : Cond) ∈ VM := List.mem_of_getElem? (i := 300) rfl
theorem vm_301 : (.fieldLink RX9 112 "ClockReachModel" "pieceFrom" "[I" : Cond) ∈ VM := List.mem_of_getElem? (i := 301) rfl
theorem vm_302 : (.code yX9_parts cX9_parts 5 (some .boolean) : Cond) ∈ VM := List.mem_of_getElem? (i := 302) rfl
theorem vm_303 : (.fieldLink RX9 115 "ClockReachModel" "covers" "[I" : Cond) ∈ VM := List.mem_of_getElem? (i := 303) rfl
theorem vm_304 : (.methodLink RX9 408 yX9_keepsPiece : Cond) ∈ VM := List.mem_of_getElem? (i := 304) rfl
theorem vm_305 : (.instanceMethod yX9_keepsPiece : Cond) ∈ VM := List.mem_of_getElem? (i := 305) rfl
theorem vm_306 : (.selects RX9 yX9_keepsPiece yX9_keepsPiece : Cond) ∈ VM := List.mem_of_getElem? (i := 306) rfl
theorem vm_307 : (.code yX9_isOver cX9_isOver 1 (some .boolean) : Cond) ∈ VM := List.mem_of_getElem? (i := 307) rfl
theorem vm_308 : (.fieldLink RX9 411 "ClockReachModel" "coverMany" "I" : Cond) ∈ VM := List.mem_of_getElem? (i := 308) rfl
theorem vm_309 : (.methodLink RX9 414 yX9_parts : Cond) ∈ VM := List.mem_of_getElem? (i := 309) rfl
theorem vm_310 : (.instanceMethod yX9_parts : Cond) ∈ VM := List.mem_of_getElem? (i := 310) rfl
theorem vm_311 : (.selects RX9 yX9_parts yX9_parts : Cond) ∈ VM := List.mem_of_getElem? (i := 311) rfl
theorem vm_312 : (.code yX9_covered cX9_covered 3 (some .int) : Cond) ∈ VM := List.mem_of_getElem? (i := 312) rfl
theorem vm_313 : (.methodLink RX9 417 yX9_isOver : Cond) ∈ VM := List.mem_of_getElem? (i := 313) rfl
theorem vm_314 : (.instanceMethod yX9_isOver : Cond) ∈ VM := List.mem_of_getElem? (i := 314) rfl
theorem vm_315 : (.selects RX9 yX9_isOver yX9_isOver : Cond) ∈ VM := List.mem_of_getElem? (i := 315) rfl
theorem vm_316 : (.code yX9_layAhead cX9_layAhead 4 (some .boolean) : Cond) ∈ VM := List.mem_of_getElem? (i := 316) rfl
theorem vm_317 : (.code yX9_isStuck cX9_isStuck 3 (some .boolean) : Cond) ∈ VM := List.mem_of_getElem? (i := 317) rfl
theorem vm_318 : (.methodLink RX9 420 yX9_layAhead : Cond) ∈ VM := List.mem_of_getElem? (i := 318) rfl
theorem vm_319 : (.instanceMethod yX9_layAhead : Cond) ∈ VM := List.mem_of_getElem? (i := 319) rfl
theorem vm_320 : (.selects RX9 yX9_layAhead yX9_layAhead : Cond) ∈ VM := List.mem_of_getElem? (i := 320) rfl
theorem vm_321 : (.code yX9_state cX9_state 5 (some .int) : Cond) ∈ VM := List.mem_of_getElem? (i := 321) rfl
theorem vm_322 : (.methodLink RX9 390 yX9_isStuck : Cond) ∈ VM := List.mem_of_getElem? (i := 322) rfl
theorem vm_323 : (.instanceMethod yX9_isStuck : Cond) ∈ VM := List.mem_of_getElem? (i := 323) rfl
theorem vm_324 : (.selects RX9 yX9_isStuck yX9_isStuck : Cond) ∈ VM := List.mem_of_getElem? (i := 324) rfl
theorem vm_325 : (.code yX9_layPath cX9_layPath 4 none : Cond) ∈ VM := List.mem_of_getElem? (i := 325) rfl
theorem vm_326 : (.fieldLink RX9 429 "ClockReachModel" "pathMany" "I" : Cond) ∈ VM := List.mem_of_getElem? (i := 326) rfl
theorem vm_327 : (.fieldLink RX9 118 "ClockReachModel" "path" "[I" : Cond) ∈ VM := List.mem_of_getElem? (i := 327) rfl
theorem vm_328 : (.code yX9_holdsApart cX9_holdsApart 4 none : Cond) ∈ VM := List.mem_of_getElem? (i := 328) rfl
theorem vm_329 : (.fieldLink RX9 121 "ClockReachModel" "later" "[I" : Cond) ∈ VM := List.mem_of_getElem? (i := 329) rfl
theorem vm_330 : (.fieldLink RX9 432 "ClockReachModel" "gaps" "I" : Cond) ∈ VM := List.mem_of_getElem? (i := 330) rfl
theorem vm_331 : (.fieldLink RX9 124 "ClockReachModel" "sooner" "[I" : Cond) ∈ VM := List.mem_of_getElem? (i := 331) rfl
theorem vm_332 : (.fieldLink RX9 127 "ClockReachModel" "gap" "[I" : Cond) ∈ VM := List.mem_of_getElem? (i := 332) rfl
theorem vm_333 : (.code yX9_layConditions cX9_layConditions 6 none : Cond) ∈ VM := List.mem_of_getElem? (i := 333) rfl
theorem vm_334 : (.fieldLink RX9 130 "ClockReachModel" "setAt" "[I" : Cond) ∈ VM := List.mem_of_getElem? (i := 334) rfl
theorem vm_335 : (.methodLink RX9 438 yX9_holdsApart : Cond) ∈ VM := List.mem_of_getElem? (i := 335) rfl
theorem vm_336 : (.instanceMethod yX9_holdsApart : Cond) ∈ VM := List.mem_of_getElem? (i := 336) rfl
theorem vm_337 : (.selects RX9 yX9_holdsApart yX9_holdsApart : Cond) ∈ VM := List.mem_of_getElem? (i := 337) rfl
theorem vm_338 : (.fieldLink RX9 435 "ClockReachModel" "isBroken" "Z" : Cond) ∈ VM := List.mem_of_getElem? (i := 338) rfl
theorem vm_339 : (.code yX9_layGaps cX9_layGaps 4 none : Cond) ∈ VM := List.mem_of_getElem? (i := 339) rfl
theorem vm_340 : (.methodLink RX9 441 yX9_layConditions : Cond) ∈ VM := List.mem_of_getElem? (i := 340) rfl
theorem vm_341 : (.instanceMethod yX9_layConditions : Cond) ∈ VM := List.mem_of_getElem? (i := 341) rfl
theorem vm_342 : (.selects RX9 yX9_layConditions yX9_layConditions : Cond) ∈ VM := List.mem_of_getElem? (i := 342) rfl
theorem vm_343 : (.code yX9_laysLeast cX9_laysLeast 5 (some .boolean) : Cond) ∈ VM := List.mem_of_getElem? (i := 343) rfl
theorem vm_344 : (.methodLink RX9 444 yX9_layGaps : Cond) ∈ VM := List.mem_of_getElem? (i := 344) rfl
theorem vm_345 : (.instanceMethod yX9_layGaps : Cond) ∈ VM := List.mem_of_getElem? (i := 345) rfl
theorem vm_346 : (.selects RX9 yX9_layGaps yX9_layGaps : Cond) ∈ VM := List.mem_of_getElem? (i := 346) rfl
theorem vm_347 : (.fieldLink RX9 133 "ClockReachModel" "time" "[I" : Cond) ∈ VM := List.mem_of_getElem? (i := 347) rfl
theorem vm_348 : (.methodLink RX9 447 yX9_timesOf : Cond) ∈ VM := List.mem_of_getElem? (i := 348) rfl
theorem vm_349 : (.static yX9_timesOf : Cond) ∈ VM := List.mem_of_getElem? (i := 349) rfl
theorem vm_350 : (.code yX9_laysGreatest cX9_laysGreatest 7 (some .boolean) : Cond) ∈ VM := List.mem_of_getElem? (i := 350) rfl
theorem vm_351 : (.constant RX9 450 (1073741824) : Cond) ∈ VM := List.mem_of_getElem? (i := 351) rfl
theorem vm_352 : (.code yX9_isStep cX9_isStep 3 (some .boolean) : Cond) ∈ VM := List.mem_of_getElem? (i := 352) rfl
theorem vm_353 : (.methodLink RX9 451 yX9_layPath : Cond) ∈ VM := List.mem_of_getElem? (i := 353) rfl
theorem vm_354 : (.instanceMethod yX9_layPath : Cond) ∈ VM := List.mem_of_getElem? (i := 354) rfl
theorem vm_355 : (.selects RX9 yX9_layPath yX9_layPath : Cond) ∈ VM := List.mem_of_getElem? (i := 355) rfl
theorem vm_356 : (.code yX9_run cX9_run 3 (some .int) : Cond) ∈ VM := List.mem_of_getElem? (i := 356) rfl
theorem vm_357 : (.methodLink RX9 454 yX9_isStep : Cond) ∈ VM := List.mem_of_getElem? (i := 357) rfl
theorem vm_358 : (.instanceMethod yX9_isStep : Cond) ∈ VM := List.mem_of_getElem? (i := 358) rfl
theorem vm_359 : (.selects RX9 yX9_isStep yX9_isStep : Cond) ∈ VM := List.mem_of_getElem? (i := 359) rfl
theorem vm_360 : (.code yX9_when cX9_when 3 (some .int) : Cond) ∈ VM := List.mem_of_getElem? (i := 360) rfl
theorem vm_361 : (.methodLink RX9 457 yX9_laysLeast : Cond) ∈ VM := List.mem_of_getElem? (i := 361) rfl
theorem vm_362 : (.instanceMethod yX9_laysLeast : Cond) ∈ VM := List.mem_of_getElem? (i := 362) rfl
theorem vm_363 : (.selects RX9 yX9_laysLeast yX9_laysLeast : Cond) ∈ VM := List.mem_of_getElem? (i := 363) rfl
theorem vm_364 : (.code yX9_then cX9_then 6 (some .int) : Cond) ∈ VM := List.mem_of_getElem? (i := 364) rfl
theorem vm_365 : (.code yX9_latest cX9_latest 4 (some .int) : Cond) ∈ VM := List.mem_of_getElem? (i := 365) rfl
theorem vm_366 : (.methodLink RX9 460 yX9_laysGreatest : Cond) ∈ VM := List.mem_of_getElem? (i := 366) rfl
theorem vm_367 : (.instanceMethod yX9_laysGreatest : Cond) ∈ VM := List.mem_of_getElem? (i := 367) rfl
theorem vm_368 : (.selects RX9 yX9_laysGreatest yX9_laysGreatest : Cond) ∈ VM := List.mem_of_getElem? (i := 368) rfl
theorem vm_369 : (.code yX9_spanned cX9_spanned 7 (some .int) : Cond) ∈ VM := List.mem_of_getElem? (i := 369) rfl
theorem vm_370 : (.fieldLink RX9 136 "ClockReachModel" "span" "[I" : Cond) ∈ VM := List.mem_of_getElem? (i := 370) rfl
theorem vm_371 : (.code yX9_spans cX9_spans 3 (some .int) : Cond) ∈ VM := List.mem_of_getElem? (i := 371) rfl
theorem vm_372 : (.methodLink RX9 463 yX9_spanned : Cond) ∈ VM := List.mem_of_getElem? (i := 372) rfl
theorem vm_373 : (.instanceMethod yX9_spanned : Cond) ∈ VM := List.mem_of_getElem? (i := 373) rfl
theorem vm_374 : (.selects RX9 yX9_spanned yX9_spanned : Cond) ∈ VM := List.mem_of_getElem? (i := 374) rfl
theorem vm_375 : (.code yX9_tells cX9_tells 10 (some .int) : Cond) ∈ VM := List.mem_of_getElem? (i := 375) rfl
theorem vm_376 : (.code yX9_hasTimes cX9_hasTimes 12 (some .boolean) : Cond) ∈ VM := List.mem_of_getElem? (i := 376) rfl
theorem vm_377 : (.constantLong RX9 399 (256) : Cond) ∈ VM := List.mem_of_getElem? (i := 377) rfl
theorem vm_378 : (.code yX9_has cX9_has 5 (some .int) : Cond) ∈ VM := List.mem_of_getElem? (i := 378) rfl
theorem vm_379 : (.methodLink RX9 401 yX9_hasTimes : Cond) ∈ VM := List.mem_of_getElem? (i := 379) rfl
theorem vm_380 : (.instanceMethod yX9_hasTimes : Cond) ∈ VM := List.mem_of_getElem? (i := 380) rfl
theorem vm_381 : (.selects RX9 yX9_hasTimes yX9_hasTimes : Cond) ∈ VM := List.mem_of_getElem? (i := 381) rfl
theorem vm_382 : (.code yX9_points cX9_points 6 (some .int) : Cond) ∈ VM := List.mem_of_getElem? (i := 382) rfl
theorem vm_383 : (.code yX9_from cX9_from 7 (some .int) : Cond) ∈ VM := List.mem_of_getElem? (i := 383) rfl
theorem vm_384 : (.methodLink RX9 426 yX9_hasPlace : Cond) ∈ VM := List.mem_of_getElem? (i := 384) rfl
theorem vm_385 : (.instanceMethod yX9_hasPlace : Cond) ∈ VM := List.mem_of_getElem? (i := 385) rfl
theorem vm_386 : (.selects RX9 yX9_hasPlace yX9_hasPlace : Cond) ∈ VM := List.mem_of_getElem? (i := 386) rfl
theorem vm_387 : (.code yX9_avoids cX9_avoids 3 (some .int) : Cond) ∈ VM := List.mem_of_getElem? (i := 387) rfl
theorem vm_388 : (.code yX9_soonest cX9_soonest 6 (some .int) : Cond) ∈ VM := List.mem_of_getElem? (i := 388) rfl
theorem vm_389 : (.code yX9_lets cX9_lets 9 (some .int) : Cond) ∈ VM := List.mem_of_getElem? (i := 389) rfl
theorem vm_390 : (.code yX9_isHeld cX9_isHeld 8 (some .boolean) : Cond) ∈ VM := List.mem_of_getElem? (i := 390) rfl
theorem vm_391 : (.fieldLink RX9 139 "ClockReachModel" "clockTime" "[I" : Cond) ∈ VM := List.mem_of_getElem? (i := 391) rfl
theorem vm_392 : (.code yX9_beginsPlay cX9_beginsPlay 2 (some .boolean) : Cond) ∈ VM := List.mem_of_getElem? (i := 392) rfl
theorem vm_393 : (.fieldLink RX9 466 "ClockReachModel" "playPlace" "I" : Cond) ∈ VM := List.mem_of_getElem? (i := 393) rfl
theorem vm_394 : (.fieldLink RX9 469 "ClockReachModel" "played" "I" : Cond) ∈ VM := List.mem_of_getElem? (i := 394) rfl
theorem vm_395 : (.methodLink RX9 472 yX9_isHeld : Cond) ∈ VM := List.mem_of_getElem? (i := 395) rfl
theorem vm_396 : (.instanceMethod yX9_isHeld : Cond) ∈ VM := List.mem_of_getElem? (i := 396) rfl
theorem vm_397 : (.selects RX9 yX9_isHeld yX9_isHeld : Cond) ∈ VM := List.mem_of_getElem? (i := 397) rfl
theorem vm_398 : (.code yX9_begin cX9_begin 1 (some .int) : Cond) ∈ VM := List.mem_of_getElem? (i := 398) rfl
theorem vm_399 : (.methodLink RX9 475 yX9_beginsPlay : Cond) ∈ VM := List.mem_of_getElem? (i := 399) rfl
theorem vm_400 : (.instanceMethod yX9_beginsPlay : Cond) ∈ VM := List.mem_of_getElem? (i := 400) rfl
theorem vm_401 : (.selects RX9 yX9_beginsPlay yX9_beginsPlay : Cond) ∈ VM := List.mem_of_getElem? (i := 401) rfl
theorem vm_402 : (.code yX9_mayWait cX9_mayWait 4 (some .int) : Cond) ∈ VM := List.mem_of_getElem? (i := 402) rfl
theorem vm_403 : (.code yX9_passes cX9_passes 3 none : Cond) ∈ VM := List.mem_of_getElem? (i := 403) rfl
theorem vm_404 : (.code yX9_waits cX9_waits 2 (some .boolean) : Cond) ∈ VM := List.mem_of_getElem? (i := 404) rfl
theorem vm_405 : (.methodLink RX9 478 yX9_mayWait : Cond) ∈ VM := List.mem_of_getElem? (i := 405) rfl
theorem vm_406 : (.instanceMethod yX9_mayWait : Cond) ∈ VM := List.mem_of_getElem? (i := 406) rfl
theorem vm_407 : (.selects RX9 yX9_mayWait yX9_mayWait : Cond) ∈ VM := List.mem_of_getElem? (i := 407) rfl
theorem vm_408 : (.methodLink RX9 481 yX9_passes : Cond) ∈ VM := List.mem_of_getElem? (i := 408) rfl
theorem vm_409 : (.instanceMethod yX9_passes : Cond) ∈ VM := List.mem_of_getElem? (i := 409) rfl
theorem vm_410 : (.selects RX9 yX9_passes yX9_passes : Cond) ∈ VM := List.mem_of_getElem? (i := 410) rfl
theorem vm_411 : (.code yX9_canTake cX9_canTake 2 (some .boolean) : Cond) ∈ VM := List.mem_of_getElem? (i := 411) rfl
theorem vm_412 : (.code yX9_take cX9_take 3 none : Cond) ∈ VM := List.mem_of_getElem? (i := 412) rfl
theorem vm_413 : (.code yX9_takes cX9_takes 2 (some .int) : Cond) ∈ VM := List.mem_of_getElem? (i := 413) rfl
theorem vm_414 : (.methodLink RX9 484 yX9_canTake : Cond) ∈ VM := List.mem_of_getElem? (i := 414) rfl
theorem vm_415 : (.instanceMethod yX9_canTake : Cond) ∈ VM := List.mem_of_getElem? (i := 415) rfl
theorem vm_416 : (.selects RX9 yX9_canTake yX9_canTake : Cond) ∈ VM := List.mem_of_getElem? (i := 416) rfl
theorem vm_417 : (.methodLink RX9 487 yX9_take : Cond) ∈ VM := List.mem_of_getElem? (i := 417) rfl
theorem vm_418 : (.instanceMethod yX9_take : Cond) ∈ VM := List.mem_of_getElem? (i := 418) rfl
theorem vm_419 : (.selects RX9 yX9_take yX9_take : Cond) ∈ VM := List.mem_of_getElem? (i := 419) rfl
theorem vm_420 : (.code yX9_now cX9_now 4 (some .int) : Cond) ∈ VM := List.mem_of_getElem? (i := 420) rfl
theorem vm_421 : (.code yX9_clock cX9_clock 2 (some .int) : Cond) ∈ VM := List.mem_of_getElem? (i := 421) rfl
theorem vm_422 : (.code yX9_replays cX9_replays 4 (some .boolean) : Cond) ∈ VM := List.mem_of_getElem? (i := 422) rfl
theorem vm_423 : (.code yX9_four cX9_four 3 none : Cond) ∈ VM := List.mem_of_getElem? (i := 423) rfl
theorem vm_424 : (.code yX9_feed cX9_feed 6 (some .int) : Cond) ∈ VM := List.mem_of_getElem? (i := 424) rfl
theorem vm_425 : (.methodLink RX9 148 yX9_four : Cond) ∈ VM := List.mem_of_getElem? (i := 425) rfl
theorem vm_426 : (.instanceMethod yX9_four : Cond) ∈ VM := List.mem_of_getElem? (i := 426) rfl
theorem vm_427 : (.selects RX9 yX9_four yX9_four : Cond) ∈ VM := List.mem_of_getElem? (i := 427) rfl
theorem vm_428 : (.code yX9_end cX9_end 2 (some .int) : Cond) ∈ VM := List.mem_of_getElem? (i := 428) rfl
theorem vm_all : VM.all goodWord = true := by decide +kernel
theorem vm_good {w : Cond} (h : w ∈ VM) : (w.onTables && w.keeps) = true ∨ ∃ ty, w = .arrayClass ty := good_of_word (List.all_eq_true.mp vm_all w h)
theorem gm_0 {c0 : Cond} {ws : List Cond} (h : ∀ w ∈ ws, w ∈ VM) : GoodIn (c0 :: VM) ws := fun w hw => ⟨List.mem_cons_of_mem _ (h w hw), vm_good (h w hw)⟩
theorem gm_V {c0 k0 : Cond} {own C : String} {i : Nat} {y : MethodName} (h1 : (.methodLink own i y : Cond) ∈ VM) (h2 : (.instanceMethod y : Cond) ∈ VM) (h3 : (.selects C y y : Cond) ∈ VM) (h4 : (.initialized C : Cond) ∈ VM) (h5 : k0 ∈ VM) : GoodIn (c0 :: VM) (wsV own i C y (k0 :: VM)) := gm_0 (fun w h => by
  rcases List.mem_cons.mp h with rfl | h
  · exact h1
  rcases List.mem_cons.mp h with rfl | h
  · exact h2
  rcases List.mem_cons.mp h with rfl | h
  · exact h3
  rcases List.mem_cons.mp h with rfl | h
  · exact h4
  rcases List.mem_cons.mp h with rfl | h
  · exact h5
  exact h)
theorem gm_S {c0 k0 : Cond} {own : String} {i : Nat} {y : MethodName} (h1 : (.methodLink own i y : Cond) ∈ VM) (h2 : (.static y : Cond) ∈ VM) (h4 : (.initialized y.cls : Cond) ∈ VM) (h5 : k0 ∈ VM) : GoodIn (c0 :: VM) (va_wsS own i y (k0 :: VM)) := gm_0 (fun w h => by
  rcases List.mem_cons.mp h with rfl | h
  · exact h1
  rcases List.mem_cons.mp h with rfl | h
  · exact h2
  rcases List.mem_cons.mp h with rfl | h
  · exact h4
  rcases List.mem_cons.mp h with rfl | h
  · exact h5
  exact h)
