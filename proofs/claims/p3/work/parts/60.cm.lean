/-- all words of the class -/
def CM : List Cond := [.code yX0_hostOfPlace cX0_hostOfPlace 1 (some .int), .code yX0_slot cX0_slot 2 (some .int), .code yX0_clear cX0_clear 2 none, .fieldLink RX0 56 "ClockReach$Automaton" "clocks" "I", .fieldLink RX0 59 "ClockReach$Automaton" "places" "I", .fieldLink RX0 62 "ClockReach$Automaton" "edges" "I", .fieldLink RX0 9 "ClockReach$Automaton" "start" "I", .fieldLink RX0 15 "ClockReach$Automaton" "hurried" "[Z", .fieldLink RX0 29 "ClockReach$Automaton" "counts" "[I", .code yX0_addEdge cX0_addEdge 3 none, .fieldLink RX0 19 "ClockReach$Automaton" "sources" "[I", .fieldLink RX0 23 "ClockReach$Automaton" "targets" "[I", .fieldLink RX0 26 "ClockReach$Automaton" "resets" "[I", .code yX0_addCondition cX0_addCondition 6 none, .fieldLink RX0 32 "ClockReach$Automaton" "conditionClocks" "[I", .fieldLink RX0 35 "ClockReach$Automaton" "hows" "[I", .fieldLink RX0 38 "ClockReach$Automaton" "numbers" "[I", .methodLink RX0 65 yX0_slot, .static yX0_slot, .initialized RX0, .methodLink RX0 69 yX0_setBounds, .instanceMethod yX0_setBounds, .selects RX0 yX0_setBounds yX0_setBounds, .code yX0_setBounds cX0_setBounds 4 none, .fieldLink RX0 41 "ClockReach$Automaton" "ceilings" "[I", .constant RX0 75 (2147483647), .fieldLink RX0 44 "ClockReach$Automaton" "floors" "[I", .code yX0_setNumber cX0_setNumber 3 none, .methodLink RX0 76 yX0_measure, .instanceMethod yX0_measure, .selects RX0 yX0_measure yX0_measure, .code yX0_measure cX0_measure 5 none, .fieldLink RX0 47 "ClockReach$Automaton" "greatest" "[I", .fieldLink RX0 50 "ClockReach$Automaton" "lower" "[I", .fieldLink RX0 53 "ClockReach$Automaton" "upper" "[I", .methodLink RX0 79 Lib.Math.max.name, .static Lib.Math.max.name, .initialized "java/lang/Math", .code Lib.Math.max.name Lib.Math.max.code 2 (some .int), .code yX0_allConditions cX0_allConditions 3 (some .int), .code yX0_edgesWith cX0_edgesWith 5 (some .int), .code yX0_narrowTo cX0_narrowTo 7 (some .boolean), .methodLink RX0 84 yX7_narrow, .instanceMethod yX7_narrow, .selects RX7 yX7_narrow yX7_narrow, .initialized RX7, .code yX7_narrow cX7_narrow 10 (some .boolean), .fieldLink RX7 11 "ClockReach$Zone" "cells" "[I", .fieldLink RX7 18 "ClockReach$Zone" "size" "I", .constant RX7 17 (2147483647), .code yX0_opensIn cX0_opensIn 3 (some .boolean), .methodLink RX0 88 yX0_narrowTo, .instanceMethod yX0_narrowTo, .selects RX0 yX0_narrowTo yX0_narrowTo, .methodLink RX0 92 yX0_hostOfPlace, .static yX0_hostOfPlace, .code yX0_setBackIn cX0_setBackIn 4 none, .methodLink RX0 96 yX7_setBack, .instanceMethod yX7_setBack, .selects RX7 yX7_setBack yX7_setBack, .code yX7_setBack cX7_setBack 3 none, .code yX0_stayIn cX0_stayIn 3 none, .methodLink RX0 99 yX7_delay, .instanceMethod yX7_delay, .selects RX7 yX7_delay yX7_delay, .code yX7_delay cX7_delay 2 none, .code yX0_holdsAt cX0_holdsAt 6 (some .boolean), .methodLink RX0 102 yX7_ticks, .static yX7_ticks, .code yX7_ticks cX7_ticks 1 (some .int), .code yX0_hurriedRings cX0_hurriedRings 3 (some .int), .methodLink RX0 105 yX0_hurriedBehind, .instanceMethod yX0_hurriedBehind, .selects RX0 yX0_hurriedBehind yX0_hurriedBehind, .code yX0_hurriedBehind cX0_hurriedBehind 6 (some .int), .code yX1_plan cX1_plan 6 none, .fieldLink RX1 46 "ClockReach$Graph" "way" "I", .fieldLink RX1 49 "ClockReach$Graph" "leaves" "Z", .fieldLink RX1 53 "ClockReach$Graph" "size" "I", .fieldLink RX1 56 "ClockReach$Graph" "avoided" "I", .fieldLink RX1 59 "ClockReach$Graph" "goal" "I", .fieldLink RX1 62 "ClockReach$Graph" "found" "Z", .fieldLink RX1 65 "ClockReach$Automaton" "clocks" "I", .fieldLink RX1 40 "ClockReach$Graph" "high" "[I", .fieldLink RX1 70 "ClockReach$Automaton" "greatest" "[I", .fieldLink RX1 73 "ClockReach$Automaton" "lower" "[I", .fieldLink RX1 43 "ClockReach$Graph" "low" "[I", .fieldLink RX1 76 "ClockReach$Automaton" "upper" "[I", .code yX1_open cX1_open 5 none, .fieldLink RX1 79 "ClockReach$Graph" "count" "I", .fieldLink RX1 82 "ClockReach$Graph" "full" "Z", .fieldLink RX1 85 "ClockReach$Graph" "crossed" "I", .fieldLink RX1 17 "ClockReach$Graph" "zones" "[LClockReach$Zone;", .methodLink RX1 88 yX7_setPoint, .instanceMethod yX7_setPoint, .selects RX7 yX7_setPoint yX7_setPoint, .code yX7_setPoint cX7_setPoint 5 none, .methodLink RX1 92 yX0_hostOfPlace, .methodLink RX1 96 yX0_narrowTo, .methodLink RX1 100 yX0_stayIn, .instanceMethod yX0_stayIn, .selects RX0 yX0_stayIn yX0_stayIn, .methodLink RX1 104 yX7_forget, .instanceMethod yX7_forget, .selects RX7 yX7_forget yX7_forget, .code yX7_forget cX7_forget 6 none, .methodLink RX7 28 yX7_close, .instanceMethod yX7_close, .selects RX7 yX7_close yX7_close, .code yX7_close cX7_close 7 none, .methodLink RX1 108 yX1_record, .instanceMethod yX1_record, .selects RX1 yX1_record yX1_record, .initialized RX1, .code yX1_record cX1_record 4 none, .fieldLink RX1 24 "ClockReach$Graph" "sites" "[I", .fieldLink RX1 28 "ClockReach$Graph" "parents" "[I", .fieldLink RX1 31 "ClockReach$Graph" "entries" "[I", .fieldLink RX1 34 "ClockReach$Graph" "depths" "[I", .fieldLink RX1 37 "ClockReach$Graph" "broods" "[I", .code yX1_grow cX1_grow 4 none, .fieldLink RX1 112 "ClockReach$Automaton" "edges" "I", .fieldLink RX1 115 "ClockReach$Automaton" "sources" "[I", .fieldLink RX1 118 "ClockReach$Automaton" "targets" "[I", .methodLink RX1 121 yX1_step, .instanceMethod yX1_step, .selects RX1 yX1_step yX1_step, .code yX1_step cX1_step 6 none, .fieldLink RX1 9 "ClockReach$Graph" "most" "I", .methodLink RX1 125 yX7_copyOf, .instanceMethod yX7_copyOf, .selects RX7 yX7_copyOf yX7_copyOf, .code yX7_copyOf cX7_copyOf 3 none, .methodLink RX1 129 yX0_opensIn, .instanceMethod yX0_opensIn, .selects RX0 yX0_opensIn yX0_opensIn, .methodLink RX1 133 yX0_setBackIn, .instanceMethod yX0_setBackIn, .selects RX0 yX0_setBackIn yX0_setBackIn, .methodLink RX1 136 yX1_isKnown, .instanceMethod yX1_isKnown, .selects RX1 yX1_isKnown yX1_isKnown, .code yX1_isKnown cX1_isKnown 4 (some .boolean), .methodLink RX1 139 yX7_holdsAll, .instanceMethod yX7_holdsAll, .selects RX7 yX7_holdsAll yX7_holdsAll, .code yX7_holdsAll cX7_holdsAll 3 (some .boolean), .methodLink RX1 143 yX7_equalTo, .instanceMethod yX7_equalTo, .selects RX7 yX7_equalTo yX7_equalTo, .code yX7_equalTo cX7_equalTo 3 (some .boolean), .code yX1_firstAt cX1_firstAt 3 (some .int), .code yX1_allSites cX1_allSites 3 (some .int), .code yX1_loosestAt cX1_loosestAt 6 (some .int), .constant RX1 148 (-2147483648), .methodLink RX1 153 Lib.Math.max.name, .methodLink RX1 149 yX7_cellOf, .instanceMethod yX7_cellOf, .selects RX7 yX7_cellOf yX7_cellOf, .code yX7_cellOf cX7_cellOf 3 (some .int), .code yX2_codeOfPlace cX2_codeOfPlace 1 (some .int), .code yX2_keep cX2_keep 4 none, .fieldLink RX2 18 "ClockReach$History" "count" "I", .fieldLink RX2 9 "ClockReach$History" "codes" "[I", .fieldLink RX2 15 "ClockReach$History" "olds" "[I", .code yX2_takesBack cX2_takesBack 3 (some .boolean), .fieldLink RX2 22 "ClockReach$Automaton" "hurried" "[Z", .methodLink RX2 28 yX0_setNumber, .instanceMethod yX0_setNumber, .selects RX0 yX0_setNumber yX0_setNumber, .code yX3_startsIn cX3_startsIn 3 (some .boolean), .fieldLink RX3 18 "ClockReach$Play" "on" "Z", .fieldLink RX3 22 "ClockReach$Automaton" "places" "I", .fieldLink RX3 28 "ClockReach$Automaton" "start" "I", .fieldLink RX3 31 "ClockReach$Play" "site" "I", .fieldLink RX3 34 "ClockReach$Play" "time" "I", .fieldLink RX3 9 "ClockReach$Play" "times" "[I", .methodLink RX3 37 yX0_hostOfPlace, .methodLink RX3 41 yX0_holdsAt, .instanceMethod yX0_holdsAt, .selects RX0 yX0_holdsAt yX0_holdsAt, .code yX3_longestWait cX3_longestWait 6 (some .int), .fieldLink RX3 45 "ClockReach$Automaton" "hurried" "[Z", .constant RX3 51 (2147483647), .fieldLink RX3 52 "ClockReach$Automaton" "counts" "[I", .fieldLink RX3 59 "ClockReach$Automaton" "ceilings" "[I", .fieldLink RX3 67 "ClockReach$Automaton" "conditionClocks" "[I", .methodLink RX3 70 Lib.Math.min.name, .static Lib.Math.min.name, .code Lib.Math.min.name Lib.Math.min.code 2 (some .int), .methodLink RX3 55 yX0_slot, .methodLink RX3 62 yX7_ticks, .code yX3_pass cX3_pass 3 none, .code yX3_opens cX3_opens 4 (some .boolean), .fieldLink RX3 75 "ClockReach$Automaton" "sources" "[I", .fieldLink RX3 15 "ClockReach$Play" "behind" "[I", .fieldLink RX3 78 "ClockReach$Automaton" "resets" "[I", .fieldLink RX3 81 "ClockReach$Automaton" "targets" "[I", .code yX3_cross cX3_cross 4 none, .code yX3_openEdges cX3_openEdges 4 (some .int), .fieldLink RX3 84 "ClockReach$Automaton" "edges" "I", .methodLink RX3 87 yX3_opens, .instanceMethod yX3_opens, .selects RX3 yX3_opens yX3_opens, .initialized RX3, .code yX3_goesBy cX3_goesBy 4 (some .boolean), .methodLink RX3 91 yX3_longestWait, .instanceMethod yX3_longestWait, .selects RX3 yX3_longestWait yX3_longestWait, .methodLink RX3 95 yX3_pass, .instanceMethod yX3_pass, .selects RX3 yX3_pass yX3_pass, .methodLink RX3 99 yX3_cross, .instanceMethod yX3_cross, .selects RX3 yX3_cross yX3_cross, .code yX4_reads cX4_reads 6 (some .boolean), .fieldLink RX4 55 "ClockReach$Reader" "text" "[I", .fieldLink RX4 58 "ClockReach$Reader" "length" "I", .fieldLink RX4 60 "ClockReach$Reader" "position" "I", .fieldLink RX4 63 "ClockReach$Reader" "fault" "I", .fieldLink RX4 9 "ClockReach$Reader" "faultAt" "I", .fieldLink RX4 66 "ClockReach$Reader" "into" "LClockReach$Automaton;", .fieldLink RX4 78 "ClockReach$Reader" "kind" "I", .fieldLink RX4 100 "ClockReach$Automaton" "places" "I", .fieldLink RX4 107 "ClockReach$Automaton" "start" "I", .methodLink RX4 109 Lib.Math.max.name, .methodLink RX4 70 yX0_clear, .instanceMethod yX0_clear, .selects RX0 yX0_clear yX0_clear, .methodLink RX4 75 yX4_advance, .instanceMethod yX4_advance, .selects RX4 yX4_advance yX4_advance, .initialized RX4, .code yX4_advance cX4_advance 1 none, .fieldLink RX4 118 "ClockReach$Reader" "tokenAt" "I", .methodLink RX4 170 yX4_scanWord, .instanceMethod yX4_scanWord, .selects RX4 yX4_scanWord yX4_scanWord, .code yX4_scanWord cX4_scanWord 2 none, .fieldLink RX4 127 "ClockReach$Reader" "value" "I", .fieldLink RX4 35 "ClockReach$Reader" "words" "[I", .methodLink RX4 173 yX4_scanNumber, .instanceMethod yX4_scanNumber, .selects RX4 yX4_scanNumber yX4_scanNumber, .code yX4_scanNumber cX4_scanNumber 2 none, .methodLink RX4 176 yX4_scanSign, .instanceMethod yX4_scanSign, .selects RX4 yX4_scanSign yX4_scanSign, .code yX4_scanSign cX4_scanSign 1 none, .methodLink RX4 81 yX4_readsClock, .instanceMethod yX4_readsClock, .selects RX4 yX4_readsClock yX4_readsClock, .code yX4_readsClock cX4_readsClock 1 (some .boolean), .fieldLink RX4 121 "ClockReach$Automaton" "clocks" "I", .fieldLink RX4 39 "ClockReach$Reader" "clockNames" "[I", .methodLink RX4 103 yX4_refuse, .instanceMethod yX4_refuse, .selects RX4 yX4_refuse yX4_refuse, .code yX4_refuse cX4_refuse 2 (some .boolean), .methodLink RX4 124 yX4_isNewName, .instanceMethod yX4_isNewName, .selects RX4 yX4_isNewName yX4_isNewName, .code yX4_isNewName cX4_isNewName 2 (some .boolean), .fieldLink RX4 42 "ClockReach$Reader" "placeNames" "[I", .methodLink RX4 94 yX4_refuseToken, .instanceMethod yX4_refuseToken, .selects RX4 yX4_refuseToken yX4_refuseToken, .code yX4_refuseToken cX4_refuseToken 1 (some .boolean), .methodLink RX4 167 yX4_indexOf, .instanceMethod yX4_indexOf, .selects RX4 yX4_indexOf yX4_indexOf, .code yX4_indexOf cX4_indexOf 4 (some .int), .methodLink RX4 85 yX4_readsPlace, .instanceMethod yX4_readsPlace, .selects RX4 yX4_readsPlace yX4_readsPlace, .code yX4_readsPlace cX4_readsPlace 2 (some .boolean), .fieldLink RX4 130 "ClockReach$Automaton" "hurried" "[Z", .methodLink RX4 134 yX0_hostOfPlace, .methodLink RX4 138 yX4_readsConditions, .instanceMethod yX4_readsConditions, .selects RX4 yX4_readsConditions yX4_readsConditions, .code yX4_readsConditions cX4_readsConditions 7 (some .boolean), .methodLink RX4 142 yX4_toldName, .instanceMethod yX4_toldName, .selects RX4 yX4_toldName yX4_toldName, .code yX4_toldName cX4_toldName 4 (some .int), .methodLink RX4 159 yX4_readHow, .instanceMethod yX4_readHow, .selects RX4 yX4_readHow yX4_readHow, .code yX4_readHow cX4_readHow 3 (some .int), .methodLink RX4 163 yX0_addCondition, .instanceMethod yX0_addCondition, .selects RX0 yX0_addCondition yX0_addCondition, .methodLink RX4 88 yX4_readsStart, .instanceMethod yX4_readsStart, .selects RX4 yX4_readsStart yX4_readsStart, .code yX4_readsStart cX4_readsStart 2 (some .boolean), .methodLink RX4 91 yX4_readsEdge, .instanceMethod yX4_readsEdge, .selects RX4 yX4_readsEdge yX4_readsEdge, .code yX4_readsEdge cX4_readsEdge 4 (some .boolean), .fieldLink RX4 146 "ClockReach$Automaton" "edges" "I", .methodLink RX4 149 yX0_addEdge, .instanceMethod yX0_addEdge, .selects RX0 yX0_addEdge yX0_addEdge, .methodLink RX4 153 yX4_readsResets, .instanceMethod yX4_readsResets, .selects RX4 yX4_readsResets yX4_readsResets, .code yX4_readsResets cX4_readsResets 4 (some .boolean), .fieldLink RX4 156 "ClockReach$Automaton" "resets" "[I", .methodLink RX4 97 yX4_readsStop, .instanceMethod yX4_readsStop, .selects RX4 yX4_readsStop yX4_readsStop, .code yX4_readsStop cX4_readsStop 1 (some .boolean), .methodLink RX4 115 yX0_measure, .code yX5_clear cX5_clear 1 none, .fieldLink RX5 37 "ClockReach$Remainder" "count" "I", .fieldLink RX5 41 "ClockReach$Remainder" "used" "I", .code yX5_add cX5_add 2 none, .fieldLink RX5 11 "ClockReach$Remainder" "covers" "[LClockReach$Zone;", .code yX5_addLeaving cX5_addLeaving 7 none, .fieldLink RX5 17 "ClockReach$Remainder" "made" "[LClockReach$Zone;", .fieldLink RX5 57 "ClockReach$Automaton" "sources" "[I", .fieldLink RX5 63 "ClockReach$Automaton" "hurried" "[Z", .methodLink RX5 44 yX7_setAll, .instanceMethod yX7_setAll, .selects RX7 yX7_setAll yX7_setAll, .code yX7_setAll cX7_setAll 4 none, .methodLink RX5 47 yX0_opensIn, .methodLink RX5 53 yX5_add, .instanceMethod yX5_add, .selects RX5 yX5_add yX5_add, .initialized RX5, .methodLink RX5 60 yX7_copyOf, .methodLink RX5 67 yX0_hostOfPlace, .methodLink RX5 71 yX0_narrowTo, .methodLink RX5 75 yX7_setPast, .instanceMethod yX7_setPast, .selects RX7 yX7_setPast yX7_setPast, .code yX7_setPast cX7_setPast 4 none, .methodLink RX7 22 Lib.Math.min.name, .code yX5_meet cX5_meet 5 (some .boolean), .fieldLink RX5 33 "ClockReach$Remainder" "scratch" "LClockReach$Zone;", .fieldLink RX5 78 "ClockReach$Zone" "size" "I", .methodLink RX5 81 yX7_cellOf, .methodLink RX5 85 yX7_narrow, .code yX5_leavesAny cX5_leavesAny 4 (some .boolean), .fieldLink RX5 23 "ClockReach$Remainder" "pieces" "[LClockReach$Zone;", .fieldLink RX5 26 "ClockReach$Remainder" "cutting" "[I", .fieldLink RX5 30 "ClockReach$Remainder" "cells" "[I", .constant RX5 93 (100000000), .methodLink RX5 89 yX5_nextCover, .instanceMethod yX5_nextCover, .selects RX5 yX5_nextCover yX5_nextCover, .code yX5_nextCover cX5_nextCover 4 (some .int), .methodLink RX5 98 yX7_holdsAll, .methodLink RX5 102 yX5_meet, .instanceMethod yX5_meet, .selects RX5 yX5_meet yX5_meet, .methodLink RX5 94 yX5_splits, .instanceMethod yX5_splits, .selects RX5 yX5_splits yX5_splits, .code yX5_splits cX5_splits 10 (some .boolean), .fieldLink RX5 106 "ClockReach$Zone" "cells" "[I", .code yX6_loadRun cX6_loadRun 5 none, .fieldLink RX6 42 "ClockReach$Graph" "depths" "[I", .fieldLink RX6 47 "ClockReach$Timing" "length" "I", .fieldLink RX6 9 "ClockReach$Timing" "path" "[I", .fieldLink RX6 51 "ClockReach$Graph" "entries" "[I", .fieldLink RX6 54 "ClockReach$Graph" "parents" "[I", .code yX6_layRules cX6_layRules 6 none, .fieldLink RX6 57 "ClockReach$Timing" "rules" "I", .fieldLink RX6 27 "ClockReach$Timing" "since" "[I", .fieldLink RX6 60 "ClockReach$Automaton" "start" "I", .fieldLink RX6 73 "ClockReach$Automaton" "sources" "[I", .fieldLink RX6 80 "ClockReach$Automaton" "hurried" "[Z", .fieldLink RX6 84 "ClockReach$Automaton" "clocks" "I", .fieldLink RX6 87 "ClockReach$Automaton" "resets" "[I", .fieldLink RX6 90 "ClockReach$Automaton" "targets" "[I", .methodLink RX6 65 yX0_hostOfPlace, .methodLink RX6 69 yX6_layConditions, .instanceMethod yX6_layConditions, .selects RX6 yX6_layConditions yX6_layConditions, .initialized RX6, .code yX6_layConditions cX6_layConditions 7 none, .fieldLink RX6 93 "ClockReach$Automaton" "counts" "[I", .fieldLink RX6 100 "ClockReach$Automaton" "conditionClocks" "[I", .fieldLink RX6 103 "ClockReach$Automaton" "ceilings" "[I", .constant RX6 106 (2147483647), .fieldLink RX6 110 "ClockReach$Automaton" "floors" "[I", .methodLink RX6 96 yX0_slot, .methodLink RX6 107 yX7_ticks, .methodLink RX6 76 yX6_layRule, .instanceMethod yX6_layRule, .selects RX6 yX6_layRule yX6_layRule, .code yX6_layRule cX6_layRule 4 none, .fieldLink RX6 18 "ClockReach$Timing" "laters" "[I", .fieldLink RX6 21 "ClockReach$Timing" "earliers" "[I", .fieldLink RX6 24 "ClockReach$Timing" "gaps" "[I", .code yX6_findsLeast cX6_findsLeast 5 (some .boolean), .fieldLink RX6 15 "ClockReach$Timing" "at" "[I", .code yX6_findsGreatest cX6_findsGreatest 6 (some .boolean), .code yX6_clockBehind cX6_clockBehind 6 (some .int), .code yX6_spanOf cX6_spanOf 6 (some .int), .fieldLink RX6 38 "ClockReach$Timing" "zone" "LClockReach$Zone;", .fieldLink RX6 30 "ClockReach$Timing" "zeros" "[I", .methodLink RX6 113 yX7_setPoint, .methodLink RX6 117 yX0_narrowTo, .methodLink RX6 121 yX0_stayIn, .methodLink RX6 125 yX0_opensIn, .methodLink RX6 129 yX0_setBackIn, .methodLink RX6 132 yX7_cellOf, .code yX7_wholePart cX7_wholePart 1 (some .int), .code yX7_holdsTimes cX7_holdsTimes 5 (some .boolean), .methodLink RX7 31 yX7_ticks, .code yX7_wholeValues cX7_wholeValues 2 (some .int), .methodLink RX7 35 yX7_wholeFrom, .static yX7_wholeFrom, .code yX7_wholeFrom cX7_wholeFrom 9 (some .int), .methodLink RX7 42 Lib.Math.max.name, .methodLink RX7 39 yX7_wholePart, .static yX7_wholePart, .code yX8_feed cX8_feed 6 (some .int), .fieldLink RX8 79 "ClockReach" "taped" "I", .methodLink RX8 83 yX8_putBytes, .instanceMethod yX8_putBytes, .selects RX8 yX8_putBytes yX8_putBytes, .initialized RX8, .code yX8_putBytes cX8_putBytes 3 none, .fieldLink RX8 9 "ClockReach" "tape" "[I", .code yX8_end cX8_end 2 (some .int), .code yX8_automaton cX8_automaton 3 (some .int), .fieldLink RX8 16 "ClockReach" "reader" "LClockReach$Reader;", .fieldLink RX8 27 "ClockReach" "draft" "LClockReach$Automaton;", .fieldLink RX8 23 "ClockReach" "model" "LClockReach$Automaton;", .fieldLink RX8 33 "ClockReach" "history" "LClockReach$History;", .fieldLink RX8 91 "ClockReach$History" "count" "I", .fieldLink RX8 97 "ClockReach$Automaton" "places" "I", .methodLink RX8 87 yX4_reads, .instanceMethod yX4_reads, .selects RX4 yX4_reads yX4_reads, .methodLink RX8 94 yX8_dropViews, .instanceMethod yX8_dropViews, .selects RX8 yX8_dropViews yX8_dropViews, .code yX8_dropViews cX8_dropViews 1 none, .fieldLink RX8 100 "ClockReach" "hasShown" "Z", .fieldLink RX8 104 "ClockReach" "soonStands" "Z", .fieldLink RX8 69 "ClockReach" "play" "LClockReach$Play;", .fieldLink RX8 107 "ClockReach$Play" "on" "Z", .code yX8_fault cX8_fault 2 (some .int), .fieldLink RX8 110 "ClockReach$Reader" "fault" "I", .fieldLink RX8 113 "ClockReach$Reader" "faultAt" "I", .code yX8_about cX8_about 2 (some .int), .fieldLink RX8 116 "ClockReach$Automaton" "clocks" "I", .fieldLink RX8 119 "ClockReach$Automaton" "edges" "I", .fieldLink RX8 122 "ClockReach$Automaton" "start" "I", .fieldLink RX8 42 "ClockReach" "shown" "LClockReach$Graph;", .fieldLink RX8 129 "ClockReach$Graph" "count" "I", .fieldLink RX8 130 "ClockReach$Graph" "full" "Z", .fieldLink RX8 137 "ClockReach$Graph" "way" "I", .methodLink RX8 125 yX0_allConditions, .instanceMethod yX0_allConditions, .selects RX0 yX0_allConditions yX0_allConditions, .methodLink RX8 133 yX8_bit, .static yX8_bit, .code yX8_bit cX8_bit 1 (some .int), .code yX8_place cX8_place 3 (some .int), .fieldLink RX8 144 "ClockReach$Automaton" "hurried" "[Z", .fieldLink RX8 148 "ClockReach$Automaton" "counts" "[I", .fieldLink RX8 155 "ClockReach$Automaton" "sources" "[I", .fieldLink RX8 162 "ClockReach$Automaton" "targets" "[I", .methodLink RX8 140 yX8_isPlace, .instanceMethod yX8_isPlace, .selects RX8 yX8_isPlace yX8_isPlace, .code yX8_isPlace cX8_isPlace 2 (some .boolean), .methodLink RX8 151 yX0_hostOfPlace, .methodLink RX8 158 yX0_edgesWith, .instanceMethod yX0_edgesWith, .selects RX0 yX0_edgesWith yX0_edgesWith, .code yX8_isEdge cX8_isEdge 2 (some .boolean), .code yX8_isClock cX8_isClock 2 (some .boolean), .code yX8_edge cX8_edge 3 (some .int), .fieldLink RX8 168 "ClockReach$Automaton" "resets" "[I", .methodLink RX8 165 yX8_isEdge, .instanceMethod yX8_isEdge, .selects RX8 yX8_isEdge yX8_isEdge, .code yX8_condition cX8_condition 5 (some .int), .fieldLink RX8 175 "ClockReach$Automaton" "conditionClocks" "[I", .fieldLink RX8 178 "ClockReach$Automaton" "hows" "[I", .fieldLink RX8 181 "ClockReach$Automaton" "numbers" "[I", .methodLink RX8 171 yX8_slotOf, .instanceMethod yX8_slotOf, .selects RX8 yX8_slotOf yX8_slotOf, .code yX8_slotOf cX8_slotOf 4 (some .int), .methodLink RX8 184 yX0_slot, .code yX8_limit cX8_limit 3 (some .int), .fieldLink RX8 190 "ClockReach$Automaton" "greatest" "[I", .fieldLink RX8 193 "ClockReach$Automaton" "lower" "[I", .fieldLink RX8 196 "ClockReach$Automaton" "upper" "[I", .methodLink RX8 187 yX8_isClock, .instanceMethod yX8_isClock, .selects RX8 yX8_isClock yX8_isClock, .code yX8_number cX8_number 6 (some .int), .methodLink RX8 199 yX2_keep, .instanceMethod yX2_keep, .selects RX2 yX2_keep yX2_keep, .initialized RX2, .methodLink RX8 202 yX0_setNumber, .code yX8_urgent cX8_urgent 3 (some .boolean), .methodLink RX8 205 yX2_codeOfPlace, .static yX2_codeOfPlace, .code yX8_undo cX8_undo 1 (some .boolean), .methodLink RX8 208 yX2_takesBack, .instanceMethod yX2_takesBack, .selects RX2 yX2_takesBack yX2_takesBack, .code yX8_graph cX8_graph 3 (some .int), .methodLink RX8 212 yX1_plan, .instanceMethod yX1_plan, .selects RX1 yX1_plan yX1_plan, .methodLink RX8 216 yX8_beginAtZero, .instanceMethod yX8_beginAtZero, .selects RX8 yX8_beginAtZero yX8_beginAtZero, .code yX8_beginAtZero cX8_beginAtZero 3 none, .fieldLink RX8 73 "ClockReach" "beginUnits" "[I", .methodLink RX8 224 yX1_open, .instanceMethod yX1_open, .selects RX1 yX1_open yX1_open, .methodLink RX8 220 yX1_grow, .instanceMethod yX1_grow, .selects RX1 yX1_grow yX1_grow, .code yX8_isState cX8_isState 2 (some .boolean), .code yX8_state cX8_state 3 (some .int), .fieldLink RX8 231 "ClockReach$Graph" "sites" "[I", .fieldLink RX8 234 "ClockReach$Graph" "parents" "[I", .fieldLink RX8 237 "ClockReach$Graph" "entries" "[I", .fieldLink RX8 240 "ClockReach$Graph" "depths" "[I", .fieldLink RX8 243 "ClockReach$Graph" "broods" "[I", .methodLink RX8 228 yX8_isState, .instanceMethod yX8_isState, .selects RX8 yX8_isState yX8_isState, .methodLink RX8 246 yX8_isStuck, .instanceMethod yX8_isStuck, .selects RX8 yX8_isStuck yX8_isStuck, .code yX8_isStuck cX8_isStuck 5 (some .boolean), .fieldLink RX8 249 "ClockReach$Graph" "zones" "[LClockReach$Zone;", .fieldLink RX8 55 "ClockReach" "remainder" "LClockReach$Remainder;", .fieldLink RX8 256 "ClockReach$Zone" "size" "I", .methodLink RX8 253 yX5_clear, .instanceMethod yX5_clear, .selects RX5 yX5_clear yX5_clear, .methodLink RX8 261 yX5_addLeaving, .instanceMethod yX5_addLeaving, .selects RX5 yX5_addLeaving yX5_addLeaving, .methodLink RX8 265 yX5_leavesAny, .instanceMethod yX5_leavesAny, .selects RX5 yX5_leavesAny yX5_leavesAny, .code yX8_bound cX8_bound 7 (some .int), .constant RX8 271 (-2147483648), .constant RX8 275 (2147483647), .methodLink RX8 272 yX7_cellOf, .code yX8_within cX8_within 3 (some .int), .methodLink RX8 276 yX7_holdsAll, .code yX8_has cX8_has 5 (some .int), .fieldLink RX8 76 "ClockReach" "sample" "[I", .methodLink RX8 279 yX7_holdsTimes, .instanceMethod yX7_holdsTimes, .selects RX7 yX7_holdsTimes yX7_holdsTimes, .code yX8_first cX8_first 2 (some .int), .methodLink RX8 283 yX1_firstAt, .instanceMethod yX1_firstAt, .selects RX1 yX1_firstAt yX1_firstAt, .code yX8_reached cX8_reached 1 (some .int), .methodLink RX8 286 yX1_allSites, .instanceMethod yX1_allSites, .selects RX1 yX1_allSites yX1_allSites, .code yX8_taken cX8_taken 1 (some .int), .fieldLink RX8 289 "ClockReach$Graph" "crossed" "I", .code yX8_overlap cX8_overlap 3 (some .int), .methodLink RX8 292 yX5_meet, .code yX8_covered cX8_covered 3 (some .int), .methodLink RX8 296 yX5_add, .code yX8_points cX8_points 2 (some .int), .methodLink RX8 300 yX7_wholeValues, .instanceMethod yX7_wholeValues, .selects RX7 yX7_wholeValues yX7_wholeValues, .code yX8_rings cX8_rings 1 (some .int), .methodLink RX8 304 yX0_hurriedRings, .instanceMethod yX0_hurriedRings, .selects RX0 yX0_hurriedRings yX0_hurriedRings, .code yX8_from cX8_from 7 (some .int), .fieldLink RX8 46 "ClockReach" "tried" "LClockReach$Graph;", .fieldLink RX8 307 "ClockReach$Graph" "goal" "I", .fieldLink RX8 310 "ClockReach$Graph" "found" "Z", .code yX8_avoids cX8_avoids 3 (some .int), .methodLink RX8 313 yX8_canReach, .instanceMethod yX8_canReach, .selects RX8 yX8_canReach yX8_canReach, .code yX8_canReach cX8_canReach 3 (some .boolean), .fieldLink RX8 317 "ClockReach$Graph" "avoided" "I", .code yX8_isStep cX8_isStep 3 (some .boolean), .code yX8_run cX8_run 3 (some .int), .fieldLink RX8 62 "ClockReach" "timing" "LClockReach$Timing;", .fieldLink RX8 327 "ClockReach$Timing" "path" "[I", .methodLink RX8 320 yX8_isStep, .instanceMethod yX8_isStep, .selects RX8 yX8_isStep yX8_isStep, .methodLink RX8 323 yX6_loadRun, .instanceMethod yX6_loadRun, .selects RX6 yX6_loadRun yX6_loadRun, .code yX8_timesRun cX8_timesRun 2 (some .boolean), .methodLink RX8 330 yX6_layRules, .instanceMethod yX6_layRules, .selects RX6 yX6_layRules yX6_layRules, .methodLink RX8 333 yX6_findsLeast, .instanceMethod yX6_findsLeast, .selects RX6 yX6_findsLeast yX6_findsLeast, .code yX8_when cX8_when 3 (some .int), .fieldLink RX8 340 "ClockReach$Timing" "at" "[I", .methodLink RX8 337 yX8_timesRun, .instanceMethod yX8_timesRun, .selects RX8 yX8_timesRun yX8_timesRun, .code yX8_then cX8_then 4 (some .int), .methodLink RX8 343 yX6_clockBehind, .instanceMethod yX6_clockBehind, .selects RX6 yX6_clockBehind yX6_clockBehind, .code yX8_spans cX8_spans 3 (some .int), .methodLink RX8 347 yX6_spanOf, .instanceMethod yX6_spanOf, .selects RX6 yX6_spanOf yX6_spanOf, .code yX8_tells cX8_tells 10 (some .int), .fieldLink RX8 351 "ClockReach$Timing" "length" "I", .code yX8_latest cX8_latest 4 (some .int), .methodLink RX8 354 yX6_findsGreatest, .instanceMethod yX6_findsGreatest, .selects RX6 yX6_findsGreatest yX6_findsGreatest, .code yX8_soonest cX8_soonest 4 (some .int), .fieldLink RX8 49 "ClockReach" "soon" "LClockReach$Graph;", .methodLink RX8 357 yX1_loosestAt, .instanceMethod yX1_loosestAt, .selects RX1 yX1_loosestAt yX1_loosestAt, .code yX8_lets cX8_lets 10 (some .int), .code yX8_begin cX8_begin 1 (some .int), .fieldLink RX8 364 "ClockReach$Play" "site" "I", .methodLink RX8 361 yX3_startsIn, .instanceMethod yX3_startsIn, .selects RX3 yX3_startsIn yX3_startsIn, .code yX8_waits cX8_waits 2 (some .boolean), .methodLink RX8 367 yX3_longestWait, .methodLink RX8 371 yX3_pass, .code yX8_takes cX8_takes 2 (some .int), .methodLink RX8 374 yX3_opens, .methodLink RX8 378 yX3_cross, .code yX8_now cX8_now 2 (some .int), .fieldLink RX8 382 "ClockReach$Play" "time" "I", .methodLink RX8 385 yX3_openEdges, .instanceMethod yX3_openEdges, .selects RX3 yX3_openEdges yX3_openEdges, .code yX8_replays cX8_replays 3 (some .boolean), .methodLink RX8 394 yX3_goesBy, .instanceMethod yX3_goesBy, .selects RX3 yX3_goesBy yX3_goesBy] ++ (wsX00 ++ (wsX10 ++ (wsX20 ++ (wsX30 ++ (wsX40 ++ (wsX50 ++ (wsX60 ++ (wsX70 ++ (wsX80)))))))))
theorem cm_0 : (.code yX0_hostOfPlace cX0_hostOfPlace 1 (some .int) : Cond) ∈ CM := List.mem_of_getElem? (i := 0) rfl
theorem cm_1 : (.code yX0_slot cX0_slot 2 (some .int) : Cond) ∈ CM := List.mem_of_getElem? (i := 1) rfl
theorem cm_2 : (.code yX0_clear cX0_clear 2 none : Cond) ∈ CM := List.mem_of_getElem? (i := 2) rfl
theorem cm_3 : (.fieldLink RX0 56 "ClockReach$Automaton" "clocks" "I" : Cond) ∈ CM := List.mem_of_getElem? (i := 3) rfl
theorem cm_4 : (.fieldLink RX0 59 "ClockReach$Automaton" "places" "I" : Cond) ∈ CM := List.mem_of_getElem? (i := 4) rfl
theorem cm_5 : (.fieldLink RX0 62 "ClockReach$Automaton" "edges" "I" : Cond) ∈ CM := List.mem_of_getElem? (i := 5) rfl
theorem cm_6 : (.fieldLink RX0 9 "ClockReach$Automaton" "start" "I" : Cond) ∈ CM := List.mem_of_getElem? (i := 6) rfl
theorem cm_7 : (.fieldLink RX0 15 "ClockReach$Automaton" "hurried" "[Z" : Cond) ∈ CM := List.mem_of_getElem? (i := 7) rfl
theorem cm_8 : (.fieldLink RX0 29 "ClockReach$Automaton" "counts" "[I" : Cond) ∈ CM := List.mem_of_getElem? (i := 8) rfl
theorem cm_9 : (.code yX0_addEdge cX0_addEdge 3 none : Cond) ∈ CM := List.mem_of_getElem? (i := 9) rfl
theorem cm_10 : (.fieldLink RX0 19 "ClockReach$Automaton" "sources" "[I" : Cond) ∈ CM := List.mem_of_getElem? (i := 10) rfl
theorem cm_11 : (.fieldLink RX0 23 "ClockReach$Automaton" "targets" "[I" : Cond) ∈ CM := List.mem_of_getElem? (i := 11) rfl
theorem cm_12 : (.fieldLink RX0 26 "ClockReach$Automaton" "resets" "[I" : Cond) ∈ CM := List.mem_of_getElem? (i := 12) rfl
theorem cm_13 : (.code yX0_addCondition cX0_addCondition 6 none : Cond) ∈ CM := List.mem_of_getElem? (i := 13) rfl
theorem cm_14 : (.fieldLink RX0 32 "ClockReach$Automaton" "conditionClocks" "[I" : Cond) ∈ CM := List.mem_of_getElem? (i := 14) rfl
theorem cm_15 : (.fieldLink RX0 35 "ClockReach$Automaton" "hows" "[I" : Cond) ∈ CM := List.mem_of_getElem? (i := 15) rfl
theorem cm_16 : (.fieldLink RX0 38 "ClockReach$Automaton" "numbers" "[I" : Cond) ∈ CM := List.mem_of_getElem? (i := 16) rfl
theorem cm_17 : (.methodLink RX0 65 yX0_slot : Cond) ∈ CM := List.mem_of_getElem? (i := 17) rfl
theorem cm_18 : (.static yX0_slot : Cond) ∈ CM := List.mem_of_getElem? (i := 18) rfl
theorem cm_19 : (.initialized RX0 : Cond) ∈ CM := List.mem_of_getElem? (i := 19) rfl
theorem cm_20 : (.methodLink RX0 69 yX0_setBounds : Cond) ∈ CM := List.mem_of_getElem? (i := 20) rfl
theorem cm_21 : (.instanceMethod yX0_setBounds : Cond) ∈ CM := List.mem_of_getElem? (i := 21) rfl
theorem cm_22 : (.selects RX0 yX0_setBounds yX0_setBounds : Cond) ∈ CM := List.mem_of_getElem? (i := 22) rfl
theorem cm_23 : (.code yX0_setBounds cX0_setBounds 4 none : Cond) ∈ CM := List.mem_of_getElem? (i := 23) rfl
theorem cm_24 : (.fieldLink RX0 41 "ClockReach$Automaton" "ceilings" "[I" : Cond) ∈ CM := List.mem_of_getElem? (i := 24) rfl
theorem cm_25 : (.constant RX0 75 (2147483647) : Cond) ∈ CM := List.mem_of_getElem? (i := 25) rfl
theorem cm_26 : (.fieldLink RX0 44 "ClockReach$Automaton" "floors" "[I" : Cond) ∈ CM := List.mem_of_getElem? (i := 26) rfl
theorem cm_27 : (.code yX0_setNumber cX0_setNumber 3 none : Cond) ∈ CM := List.mem_of_getElem? (i := 27) rfl
theorem cm_28 : (.methodLink RX0 76 yX0_measure : Cond) ∈ CM := List.mem_of_getElem? (i := 28) rfl
theorem cm_29 : (.instanceMethod yX0_measure : Cond) ∈ CM := List.mem_of_getElem? (i := 29) rfl
theorem cm_30 : (.selects RX0 yX0_measure yX0_measure : Cond) ∈ CM := List.mem_of_getElem? (i := 30) rfl
theorem cm_31 : (.code yX0_measure cX0_measure 5 none : Cond) ∈ CM := List.mem_of_getElem? (i := 31) rfl
theorem cm_32 : (.fieldLink RX0 47 "ClockReach$Automaton" "greatest" "[I" : Cond) ∈ CM := List.mem_of_getElem? (i := 32) rfl
theorem cm_33 : (.fieldLink RX0 50 "ClockReach$Automaton" "lower" "[I" : Cond) ∈ CM := List.mem_of_getElem? (i := 33) rfl
theorem cm_34 : (.fieldLink RX0 53 "ClockReach$Automaton" "upper" "[I" : Cond) ∈ CM := List.mem_of_getElem? (i := 34) rfl
theorem cm_35 : (.methodLink RX0 79 Lib.Math.max.name : Cond) ∈ CM := List.mem_of_getElem? (i := 35) rfl
theorem cm_36 : (.static Lib.Math.max.name : Cond) ∈ CM := List.mem_of_getElem? (i := 36) rfl
theorem cm_37 : (.initialized "java/lang/Math" : Cond) ∈ CM := List.mem_of_getElem? (i := 37) rfl
theorem cm_38 : (.code Lib.Math.max.name Lib.Math.max.code 2 (some .int) : Cond) ∈ CM := List.mem_of_getElem? (i := 38) rfl
theorem cm_39 : (.code yX0_allConditions cX0_allConditions 3 (some .int) : Cond) ∈ CM := List.mem_of_getElem? (i := 39) rfl
theorem cm_40 : (.code yX0_edgesWith cX0_edgesWith 5 (some .int) : Cond) ∈ CM := List.mem_of_getElem? (i := 40) rfl
theorem cm_41 : (.code yX0_narrowTo cX0_narrowTo 7 (some .boolean) : Cond) ∈ CM := List.mem_of_getElem? (i := 41) rfl
theorem cm_42 : (.methodLink RX0 84 yX7_narrow : Cond) ∈ CM := List.mem_of_getElem? (i := 42) rfl
theorem cm_43 : (.instanceMethod yX7_narrow : Cond) ∈ CM := List.mem_of_getElem? (i := 43) rfl
theorem cm_44 : (.selects RX7 yX7_narrow yX7_narrow : Cond) ∈ CM := List.mem_of_getElem? (i := 44) rfl
theorem cm_45 : (.initialized RX7 : Cond) ∈ CM := List.mem_of_getElem? (i := 45) rfl
theorem cm_46 : (.code yX7_narrow cX7_narrow 10 (some .boolean) : Cond) ∈ CM := List.mem_of_getElem? (i := 46) rfl
theorem cm_47 : (.fieldLink RX7 11 "ClockReach$Zone" "cells" "[I" : Cond) ∈ CM := List.mem_of_getElem? (i := 47) rfl
theorem cm_48 : (.fieldLink RX7 18 "ClockReach$Zone" "size" "I" : Cond) ∈ CM := List.mem_of_getElem? (i := 48) rfl
theorem cm_49 : (.constant RX7 17 (2147483647) : Cond) ∈ CM := List.mem_of_getElem? (i := 49) rfl
theorem cm_50 : (.code yX0_opensIn cX0_opensIn 3 (some .boolean) : Cond) ∈ CM := List.mem_of_getElem? (i := 50) rfl
theorem cm_51 : (.methodLink RX0 88 yX0_narrowTo : Cond) ∈ CM := List.mem_of_getElem? (i := 51) rfl
theorem cm_52 : (.instanceMethod yX0_narrowTo : Cond) ∈ CM := List.mem_of_getElem? (i := 52) rfl
theorem cm_53 : (.selects RX0 yX0_narrowTo yX0_narrowTo : Cond) ∈ CM := List.mem_of_getElem? (i := 53) rfl
theorem cm_54 : (.methodLink RX0 92 yX0_hostOfPlace : Cond) ∈ CM := List.mem_of_getElem? (i := 54) rfl
theorem cm_55 : (.static yX0_hostOfPlace : Cond) ∈ CM := List.mem_of_getElem? (i := 55) rfl
theorem cm_56 : (.code yX0_setBackIn cX0_setBackIn 4 none : Cond) ∈ CM := List.mem_of_getElem? (i := 56) rfl
theorem cm_57 : (.methodLink RX0 96 yX7_setBack : Cond) ∈ CM := List.mem_of_getElem? (i := 57) rfl
theorem cm_58 : (.instanceMethod yX7_setBack : Cond) ∈ CM := List.mem_of_getElem? (i := 58) rfl
theorem cm_59 : (.selects RX7 yX7_setBack yX7_setBack : Cond) ∈ CM := List.mem_of_getElem? (i := 59) rfl
theorem cm_60 : (.code yX7_setBack cX7_setBack 3 none : Cond) ∈ CM := List.mem_of_getElem? (i := 60) rfl
theorem cm_61 : (.code yX0_stayIn cX0_stayIn 3 none : Cond) ∈ CM := List.mem_of_getElem? (i := 61) rfl
theorem cm_62 : (.methodLink RX0 99 yX7_delay : Cond) ∈ CM := List.mem_of_getElem? (i := 62) rfl
theorem cm_63 : (.instanceMethod yX7_delay : Cond) ∈ CM := List.mem_of_getElem? (i := 63) rfl
theorem cm_64 : (.selects RX7 yX7_delay yX7_delay : Cond) ∈ CM := List.mem_of_getElem? (i := 64) rfl
theorem cm_65 : (.code yX7_delay cX7_delay 2 none : Cond) ∈ CM := List.mem_of_getElem? (i := 65) rfl
theorem cm_66 : (.code yX0_holdsAt cX0_holdsAt 6 (some .boolean) : Cond) ∈ CM := List.mem_of_getElem? (i := 66) rfl
theorem cm_67 : (.methodLink RX0 102 yX7_ticks : Cond) ∈ CM := List.mem_of_getElem? (i := 67) rfl
theorem cm_68 : (.static yX7_ticks : Cond) ∈ CM := List.mem_of_getElem? (i := 68) rfl
theorem cm_69 : (.code yX7_ticks cX7_ticks 1 (some .int) : Cond) ∈ CM := List.mem_of_getElem? (i := 69) rfl
theorem cm_70 : (.code yX0_hurriedRings cX0_hurriedRings 3 (some .int) : Cond) ∈ CM := List.mem_of_getElem? (i := 70) rfl
theorem cm_71 : (.methodLink RX0 105 yX0_hurriedBehind : Cond) ∈ CM := List.mem_of_getElem? (i := 71) rfl
theorem cm_72 : (.instanceMethod yX0_hurriedBehind : Cond) ∈ CM := List.mem_of_getElem? (i := 72) rfl
theorem cm_73 : (.selects RX0 yX0_hurriedBehind yX0_hurriedBehind : Cond) ∈ CM := List.mem_of_getElem? (i := 73) rfl
theorem cm_74 : (.code yX0_hurriedBehind cX0_hurriedBehind 6 (some .int) : Cond) ∈ CM := List.mem_of_getElem? (i := 74) rfl
theorem cm_75 : (.code yX1_plan cX1_plan 6 none : Cond) ∈ CM := List.mem_of_getElem? (i := 75) rfl
theorem cm_76 : (.fieldLink RX1 46 "ClockReach$Graph" "way" "I" : Cond) ∈ CM := List.mem_of_getElem? (i := 76) rfl
theorem cm_77 : (.fieldLink RX1 49 "ClockReach$Graph" "leaves" "Z" : Cond) ∈ CM := List.mem_of_getElem? (i := 77) rfl
theorem cm_78 : (.fieldLink RX1 53 "ClockReach$Graph" "size" "I" : Cond) ∈ CM := List.mem_of_getElem? (i := 78) rfl
theorem cm_79 : (.fieldLink RX1 56 "ClockReach$Graph" "avoided" "I" : Cond) ∈ CM := List.mem_of_getElem? (i := 79) rfl
theorem cm_80 : (.fieldLink RX1 59 "ClockReach$Graph" "goal" "I" : Cond) ∈ CM := List.mem_of_getElem? (i := 80) rfl
theorem cm_81 : (.fieldLink RX1 62 "ClockReach$Graph" "found" "Z" : Cond) ∈ CM := List.mem_of_getElem? (i := 81) rfl
theorem cm_82 : (.fieldLink RX1 65 "ClockReach$Automaton" "clocks" "I" : Cond) ∈ CM := List.mem_of_getElem? (i := 82) rfl
theorem cm_83 : (.fieldLink RX1 40 "ClockReach$Graph" "high" "[I" : Cond) ∈ CM := List.mem_of_getElem? (i := 83) rfl
theorem cm_84 : (.fieldLink RX1 70 "ClockReach$Automaton" "greatest" "[I" : Cond) ∈ CM := List.mem_of_getElem? (i := 84) rfl
theorem cm_85 : (.fieldLink RX1 73 "ClockReach$Automaton" "lower" "[I" : Cond) ∈ CM := List.mem_of_getElem? (i := 85) rfl
theorem cm_86 : (.fieldLink RX1 43 "ClockReach$Graph" "low" "[I" : Cond) ∈ CM := List.mem_of_getElem? (i := 86) rfl
theorem cm_87 : (.fieldLink RX1 76 "ClockReach$Automaton" "upper" "[I" : Cond) ∈ CM := List.mem_of_getElem? (i := 87) rfl
theorem cm_88 : (.code yX1_open cX1_open 5 none : Cond) ∈ CM := List.mem_of_getElem? (i := 88) rfl
theorem cm_89 : (.fieldLink RX1 79 "ClockReach$Graph" "count" "I" : Cond) ∈ CM := List.mem_of_getElem? (i := 89) rfl
theorem cm_90 : (.fieldLink RX1 82 "ClockReach$Graph" "full" "Z" : Cond) ∈ CM := List.mem_of_getElem? (i := 90) rfl
theorem cm_91 : (.fieldLink RX1 85 "ClockReach$Graph" "crossed" "I" : Cond) ∈ CM := List.mem_of_getElem? (i := 91) rfl
theorem cm_92 : (.fieldLink RX1 17 "ClockReach$Graph" "zones" "[LClockReach$Zone;" : Cond) ∈ CM := List.mem_of_getElem? (i := 92) rfl
theorem cm_93 : (.methodLink RX1 88 yX7_setPoint : Cond) ∈ CM := List.mem_of_getElem? (i := 93) rfl
theorem cm_94 : (.instanceMethod yX7_setPoint : Cond) ∈ CM := List.mem_of_getElem? (i := 94) rfl
theorem cm_95 : (.selects RX7 yX7_setPoint yX7_setPoint : Cond) ∈ CM := List.mem_of_getElem? (i := 95) rfl
theorem cm_96 : (.code yX7_setPoint cX7_setPoint 5 none : Cond) ∈ CM := List.mem_of_getElem? (i := 96) rfl
theorem cm_97 : (.methodLink RX1 92 yX0_hostOfPlace : Cond) ∈ CM := List.mem_of_getElem? (i := 97) rfl
theorem cm_98 : (.methodLink RX1 96 yX0_narrowTo : Cond) ∈ CM := List.mem_of_getElem? (i := 98) rfl
theorem cm_99 : (.methodLink RX1 100 yX0_stayIn : Cond) ∈ CM := List.mem_of_getElem? (i := 99) rfl
theorem cm_100 : (.instanceMethod yX0_stayIn : Cond) ∈ CM := List.mem_of_getElem? (i := 100) rfl
theorem cm_101 : (.selects RX0 yX0_stayIn yX0_stayIn : Cond) ∈ CM := List.mem_of_getElem? (i := 101) rfl
theorem cm_102 : (.methodLink RX1 104 yX7_forget : Cond) ∈ CM := List.mem_of_getElem? (i := 102) rfl
theorem cm_103 : (.instanceMethod yX7_forget : Cond) ∈ CM := List.mem_of_getElem? (i := 103) rfl
theorem cm_104 : (.selects RX7 yX7_forget yX7_forget : Cond) ∈ CM := List.mem_of_getElem? (i := 104) rfl
theorem cm_105 : (.code yX7_forget cX7_forget 6 none : Cond) ∈ CM := List.mem_of_getElem? (i := 105) rfl
theorem cm_106 : (.methodLink RX7 28 yX7_close : Cond) ∈ CM := List.mem_of_getElem? (i := 106) rfl
theorem cm_107 : (.instanceMethod yX7_close : Cond) ∈ CM := List.mem_of_getElem? (i := 107) rfl
theorem cm_108 : (.selects RX7 yX7_close yX7_close : Cond) ∈ CM := List.mem_of_getElem? (i := 108) rfl
theorem cm_109 : (.code yX7_close cX7_close 7 none : Cond) ∈ CM := List.mem_of_getElem? (i := 109) rfl
theorem cm_110 : (.methodLink RX1 108 yX1_record : Cond) ∈ CM := List.mem_of_getElem? (i := 110) rfl
theorem cm_111 : (.instanceMethod yX1_record : Cond) ∈ CM := List.mem_of_getElem? (i := 111) rfl
theorem cm_112 : (.selects RX1 yX1_record yX1_record : Cond) ∈ CM := List.mem_of_getElem? (i := 112) rfl
theorem cm_113 : (.initialized RX1 : Cond) ∈ CM := List.mem_of_getElem? (i := 113) rfl
theorem cm_114 : (.code yX1_record cX1_record 4 none : Cond) ∈ CM := List.mem_of_getElem? (i := 114) rfl
theorem cm_115 : (.fieldLink RX1 24 "ClockReach$Graph" "sites" "[I" : Cond) ∈ CM := List.mem_of_getElem? (i := 115) rfl
theorem cm_116 : (.fieldLink RX1 28 "ClockReach$Graph" "parents" "[I" : Cond) ∈ CM := List.mem_of_getElem? (i := 116) rfl
theorem cm_117 : (.fieldLink RX1 31 "ClockReach$Graph" "entries" "[I" : Cond) ∈ CM := List.mem_of_getElem? (i := 117) rfl
theorem cm_118 : (.fieldLink RX1 34 "ClockReach$Graph" "depths" "[I" : Cond) ∈ CM := List.mem_of_getElem? (i := 118) rfl
theorem cm_119 : (.fieldLink RX1 37 "ClockReach$Graph" "broods" "[I" : Cond) ∈ CM := List.mem_of_getElem? (i := 119) rfl
theorem cm_120 : (.code yX1_grow cX1_grow 4 none : Cond) ∈ CM := List.mem_of_getElem? (i := 120) rfl
theorem cm_121 : (.fieldLink RX1 112 "ClockReach$Automaton" "edges" "I" : Cond) ∈ CM := List.mem_of_getElem? (i := 121) rfl
theorem cm_122 : (.fieldLink RX1 115 "ClockReach$Automaton" "sources" "[I" : Cond) ∈ CM := List.mem_of_getElem? (i := 122) rfl
theorem cm_123 : (.fieldLink RX1 118 "ClockReach$Automaton" "targets" "[I" : Cond) ∈ CM := List.mem_of_getElem? (i := 123) rfl
theorem cm_124 : (.methodLink RX1 121 yX1_step : Cond) ∈ CM := List.mem_of_getElem? (i := 124) rfl
theorem cm_125 : (.instanceMethod yX1_step : Cond) ∈ CM := List.mem_of_getElem? (i := 125) rfl
theorem cm_126 : (.selects RX1 yX1_step yX1_step : Cond) ∈ CM := List.mem_of_getElem? (i := 126) rfl
theorem cm_127 : (.code yX1_step cX1_step 6 none : Cond) ∈ CM := List.mem_of_getElem? (i := 127) rfl
theorem cm_128 : (.fieldLink RX1 9 "ClockReach$Graph" "most" "I" : Cond) ∈ CM := List.mem_of_getElem? (i := 128) rfl
theorem cm_129 : (.methodLink RX1 125 yX7_copyOf : Cond) ∈ CM := List.mem_of_getElem? (i := 129) rfl
theorem cm_130 : (.instanceMethod yX7_copyOf : Cond) ∈ CM := List.mem_of_getElem? (i := 130) rfl
theorem cm_131 : (.selects RX7 yX7_copyOf yX7_copyOf : Cond) ∈ CM := List.mem_of_getElem? (i := 131) rfl
theorem cm_132 : (.code yX7_copyOf cX7_copyOf 3 none : Cond) ∈ CM := List.mem_of_getElem? (i := 132) rfl
theorem cm_133 : (.methodLink RX1 129 yX0_opensIn : Cond) ∈ CM := List.mem_of_getElem? (i := 133) rfl
theorem cm_134 : (.instanceMethod yX0_opensIn : Cond) ∈ CM := List.mem_of_getElem? (i := 134) rfl
theorem cm_135 : (.selects RX0 yX0_opensIn yX0_opensIn : Cond) ∈ CM := List.mem_of_getElem? (i := 135) rfl
theorem cm_136 : (.methodLink RX1 133 yX0_setBackIn : Cond) ∈ CM := List.mem_of_getElem? (i := 136) rfl
theorem cm_137 : (.instanceMethod yX0_setBackIn : Cond) ∈ CM := List.mem_of_getElem? (i := 137) rfl
theorem cm_138 : (.selects RX0 yX0_setBackIn yX0_setBackIn : Cond) ∈ CM := List.mem_of_getElem? (i := 138) rfl
theorem cm_139 : (.methodLink RX1 136 yX1_isKnown : Cond) ∈ CM := List.mem_of_getElem? (i := 139) rfl
theorem cm_140 : (.instanceMethod yX1_isKnown : Cond) ∈ CM := List.mem_of_getElem? (i := 140) rfl
theorem cm_141 : (.selects RX1 yX1_isKnown yX1_isKnown : Cond) ∈ CM := List.mem_of_getElem? (i := 141) rfl
theorem cm_142 : (.code yX1_isKnown cX1_isKnown 4 (some .boolean) : Cond) ∈ CM := List.mem_of_getElem? (i := 142) rfl
theorem cm_143 : (.methodLink RX1 139 yX7_holdsAll : Cond) ∈ CM := List.mem_of_getElem? (i := 143) rfl
theorem cm_144 : (.instanceMethod yX7_holdsAll : Cond) ∈ CM := List.mem_of_getElem? (i := 144) rfl
theorem cm_145 : (.selects RX7 yX7_holdsAll yX7_holdsAll : Cond) ∈ CM := List.mem_of_getElem? (i := 145) rfl
theorem cm_146 : (.code yX7_holdsAll cX7_holdsAll 3 (some .boolean) : Cond) ∈ CM := List.mem_of_getElem? (i := 146) rfl
theorem cm_147 : (.methodLink RX1 143 yX7_equalTo : Cond) ∈ CM := List.mem_of_getElem? (i := 147) rfl
theorem cm_148 : (.instanceMethod yX7_equalTo : Cond) ∈ CM := List.mem_of_getElem? (i := 148) rfl
theorem cm_149 : (.selects RX7 yX7_equalTo yX7_equalTo : Cond) ∈ CM := List.mem_of_getElem? (i := 149) rfl
theorem cm_150 : (.code yX7_equalTo cX7_equalTo 3 (some .boolean) : Cond) ∈ CM := List.mem_of_getElem? (i := 150) rfl
theorem cm_151 : (.code yX1_firstAt cX1_firstAt 3 (some .int) : Cond) ∈ CM := List.mem_of_getElem? (i := 151) rfl
theorem cm_152 : (.code yX1_allSites cX1_allSites 3 (some .int) : Cond) ∈ CM := List.mem_of_getElem? (i := 152) rfl
theorem cm_153 : (.code yX1_loosestAt cX1_loosestAt 6 (some .int) : Cond) ∈ CM := List.mem_of_getElem? (i := 153) rfl
theorem cm_154 : (.constant RX1 148 (-2147483648) : Cond) ∈ CM := List.mem_of_getElem? (i := 154) rfl
theorem cm_155 : (.methodLink RX1 153 Lib.Math.max.name : Cond) ∈ CM := List.mem_of_getElem? (i := 155) rfl
theorem cm_156 : (.methodLink RX1 149 yX7_cellOf : Cond) ∈ CM := List.mem_of_getElem? (i := 156) rfl
theorem cm_157 : (.instanceMethod yX7_cellOf : Cond) ∈ CM := List.mem_of_getElem? (i := 157) rfl
theorem cm_158 : (.selects RX7 yX7_cellOf yX7_cellOf : Cond) ∈ CM := List.mem_of_getElem? (i := 158) rfl
theorem cm_159 : (.code yX7_cellOf cX7_cellOf 3 (some .int) : Cond) ∈ CM := List.mem_of_getElem? (i := 159) rfl
theorem cm_160 : (.code yX2_codeOfPlace cX2_codeOfPlace 1 (some .int) : Cond) ∈ CM := List.mem_of_getElem? (i := 160) rfl
theorem cm_161 : (.code yX2_keep cX2_keep 4 none : Cond) ∈ CM := List.mem_of_getElem? (i := 161) rfl
theorem cm_162 : (.fieldLink RX2 18 "ClockReach$History" "count" "I" : Cond) ∈ CM := List.mem_of_getElem? (i := 162) rfl
theorem cm_163 : (.fieldLink RX2 9 "ClockReach$History" "codes" "[I" : Cond) ∈ CM := List.mem_of_getElem? (i := 163) rfl
theorem cm_164 : (.fieldLink RX2 15 "ClockReach$History" "olds" "[I" : Cond) ∈ CM := List.mem_of_getElem? (i := 164) rfl
theorem cm_165 : (.code yX2_takesBack cX2_takesBack 3 (some .boolean) : Cond) ∈ CM := List.mem_of_getElem? (i := 165) rfl
theorem cm_166 : (.fieldLink RX2 22 "ClockReach$Automaton" "hurried" "[Z" : Cond) ∈ CM := List.mem_of_getElem? (i := 166) rfl
theorem cm_167 : (.methodLink RX2 28 yX0_setNumber : Cond) ∈ CM := List.mem_of_getElem? (i := 167) rfl
theorem cm_168 : (.instanceMethod yX0_setNumber : Cond) ∈ CM := List.mem_of_getElem? (i := 168) rfl
theorem cm_169 : (.selects RX0 yX0_setNumber yX0_setNumber : Cond) ∈ CM := List.mem_of_getElem? (i := 169) rfl
theorem cm_170 : (.code yX3_startsIn cX3_startsIn 3 (some .boolean) : Cond) ∈ CM := List.mem_of_getElem? (i := 170) rfl
theorem cm_171 : (.fieldLink RX3 18 "ClockReach$Play" "on" "Z" : Cond) ∈ CM := List.mem_of_getElem? (i := 171) rfl
theorem cm_172 : (.fieldLink RX3 22 "ClockReach$Automaton" "places" "I" : Cond) ∈ CM := List.mem_of_getElem? (i := 172) rfl
theorem cm_173 : (.fieldLink RX3 28 "ClockReach$Automaton" "start" "I" : Cond) ∈ CM := List.mem_of_getElem? (i := 173) rfl
theorem cm_174 : (.fieldLink RX3 31 "ClockReach$Play" "site" "I" : Cond) ∈ CM := List.mem_of_getElem? (i := 174) rfl
theorem cm_175 : (.fieldLink RX3 34 "ClockReach$Play" "time" "I" : Cond) ∈ CM := List.mem_of_getElem? (i := 175) rfl
theorem cm_176 : (.fieldLink RX3 9 "ClockReach$Play" "times" "[I" : Cond) ∈ CM := List.mem_of_getElem? (i := 176) rfl
theorem cm_177 : (.methodLink RX3 37 yX0_hostOfPlace : Cond) ∈ CM := List.mem_of_getElem? (i := 177) rfl
theorem cm_178 : (.methodLink RX3 41 yX0_holdsAt : Cond) ∈ CM := List.mem_of_getElem? (i := 178) rfl
theorem cm_179 : (.instanceMethod yX0_holdsAt : Cond) ∈ CM := List.mem_of_getElem? (i := 179) rfl
theorem cm_180 : (.selects RX0 yX0_holdsAt yX0_holdsAt : Cond) ∈ CM := List.mem_of_getElem? (i := 180) rfl
theorem cm_181 : (.code yX3_longestWait cX3_longestWait 6 (some .int) : Cond) ∈ CM := List.mem_of_getElem? (i := 181) rfl
theorem cm_182 : (.fieldLink RX3 45 "ClockReach$Automaton" "hurried" "[Z" : Cond) ∈ CM := List.mem_of_getElem? (i := 182) rfl
theorem cm_183 : (.constant RX3 51 (2147483647) : Cond) ∈ CM := List.mem_of_getElem? (i := 183) rfl
theorem cm_184 : (.fieldLink RX3 52 "ClockReach$Automaton" "counts" "[I" : Cond) ∈ CM := List.mem_of_getElem? (i := 184) rfl
theorem cm_185 : (.fieldLink RX3 59 "ClockReach$Automaton" "ceilings" "[I" : Cond) ∈ CM := List.mem_of_getElem? (i := 185) rfl
theorem cm_186 : (.fieldLink RX3 67 "ClockReach$Automaton" "conditionClocks" "[I" : Cond) ∈ CM := List.mem_of_getElem? (i := 186) rfl
theorem cm_187 : (.methodLink RX3 70 Lib.Math.min.name : Cond) ∈ CM := List.mem_of_getElem? (i := 187) rfl
theorem cm_188 : (.static Lib.Math.min.name : Cond) ∈ CM := List.mem_of_getElem? (i := 188) rfl
theorem cm_189 : (.code Lib.Math.min.name Lib.Math.min.code 2 (some .int) : Cond) ∈ CM := List.mem_of_getElem? (i := 189) rfl
theorem cm_190 : (.methodLink RX3 55 yX0_slot : Cond) ∈ CM := List.mem_of_getElem? (i := 190) rfl
theorem cm_191 : (.methodLink RX3 62 yX7_ticks : Cond) ∈ CM := List.mem_of_getElem? (i := 191) rfl
theorem cm_192 : (.code yX3_pass cX3_pass 3 none : Cond) ∈ CM := List.mem_of_getElem? (i := 192) rfl
theorem cm_193 : (.code yX3_opens cX3_opens 4 (some .boolean) : Cond) ∈ CM := List.mem_of_getElem? (i := 193) rfl
theorem cm_194 : (.fieldLink RX3 75 "ClockReach$Automaton" "sources" "[I" : Cond) ∈ CM := List.mem_of_getElem? (i := 194) rfl
theorem cm_195 : (.fieldLink RX3 15 "ClockReach$Play" "behind" "[I" : Cond) ∈ CM := List.mem_of_getElem? (i := 195) rfl
theorem cm_196 : (.fieldLink RX3 78 "ClockReach$Automaton" "resets" "[I" : Cond) ∈ CM := List.mem_of_getElem? (i := 196) rfl
theorem cm_197 : (.fieldLink RX3 81 "ClockReach$Automaton" "targets" "[I" : Cond) ∈ CM := List.mem_of_getElem? (i := 197) rfl
theorem cm_198 : (.code yX3_cross cX3_cross 4 none : Cond) ∈ CM := List.mem_of_getElem? (i := 198) rfl
theorem cm_199 : (.code yX3_openEdges cX3_openEdges 4 (some .int) : Cond) ∈ CM := List.mem_of_getElem? (i := 199) rfl
theorem cm_200 : (.fieldLink RX3 84 "ClockReach$Automaton" "edges" "I" : Cond) ∈ CM := List.mem_of_getElem? (i := 200) rfl
theorem cm_201 : (.methodLink RX3 87 yX3_opens : Cond) ∈ CM := List.mem_of_getElem? (i := 201) rfl
theorem cm_202 : (.instanceMethod yX3_opens : Cond) ∈ CM := List.mem_of_getElem? (i := 202) rfl
theorem cm_203 : (.selects RX3 yX3_opens yX3_opens : Cond) ∈ CM := List.mem_of_getElem? (i := 203) rfl
theorem cm_204 : (.initialized RX3 : Cond) ∈ CM := List.mem_of_getElem? (i := 204) rfl
theorem cm_205 : (.code yX3_goesBy cX3_goesBy 4 (some .boolean) : Cond) ∈ CM := List.mem_of_getElem? (i := 205) rfl
theorem cm_206 : (.methodLink RX3 91 yX3_longestWait : Cond) ∈ CM := List.mem_of_getElem? (i := 206) rfl
theorem cm_207 : (.instanceMethod yX3_longestWait : Cond) ∈ CM := List.mem_of_getElem? (i := 207) rfl
theorem cm_208 : (.selects RX3 yX3_longestWait yX3_longestWait : Cond) ∈ CM := List.mem_of_getElem? (i := 208) rfl
theorem cm_209 : (.methodLink RX3 95 yX3_pass : Cond) ∈ CM := List.mem_of_getElem? (i := 209) rfl
theorem cm_210 : (.instanceMethod yX3_pass : Cond) ∈ CM := List.mem_of_getElem? (i := 210) rfl
theorem cm_211 : (.selects RX3 yX3_pass yX3_pass : Cond) ∈ CM := List.mem_of_getElem? (i := 211) rfl
theorem cm_212 : (.methodLink RX3 99 yX3_cross : Cond) ∈ CM := List.mem_of_getElem? (i := 212) rfl
theorem cm_213 : (.instanceMethod yX3_cross : Cond) ∈ CM := List.mem_of_getElem? (i := 213) rfl
theorem cm_214 : (.selects RX3 yX3_cross yX3_cross : Cond) ∈ CM := List.mem_of_getElem? (i := 214) rfl
theorem cm_215 : (.code yX4_reads cX4_reads 6 (some .boolean) : Cond) ∈ CM := List.mem_of_getElem? (i := 215) rfl
theorem cm_216 : (.fieldLink RX4 55 "ClockReach$Reader" "text" "[I" : Cond) ∈ CM := List.mem_of_getElem? (i := 216) rfl
theorem cm_217 : (.fieldLink RX4 58 "ClockReach$Reader" "length" "I" : Cond) ∈ CM := List.mem_of_getElem? (i := 217) rfl
theorem cm_218 : (.fieldLink RX4 60 "ClockReach$Reader" "position" "I" : Cond) ∈ CM := List.mem_of_getElem? (i := 218) rfl
theorem cm_219 : (.fieldLink RX4 63 "ClockReach$Reader" "fault" "I" : Cond) ∈ CM := List.mem_of_getElem? (i := 219) rfl
theorem cm_220 : (.fieldLink RX4 9 "ClockReach$Reader" "faultAt" "I" : Cond) ∈ CM := List.mem_of_getElem? (i := 220) rfl
theorem cm_221 : (.fieldLink RX4 66 "ClockReach$Reader" "into" "LClockReach$Automaton;" : Cond) ∈ CM := List.mem_of_getElem? (i := 221) rfl
theorem cm_222 : (.fieldLink RX4 78 "ClockReach$Reader" "kind" "I" : Cond) ∈ CM := List.mem_of_getElem? (i := 222) rfl
theorem cm_223 : (.fieldLink RX4 100 "ClockReach$Automaton" "places" "I" : Cond) ∈ CM := List.mem_of_getElem? (i := 223) rfl
theorem cm_224 : (.fieldLink RX4 107 "ClockReach$Automaton" "start" "I" : Cond) ∈ CM := List.mem_of_getElem? (i := 224) rfl
theorem cm_225 : (.methodLink RX4 109 Lib.Math.max.name : Cond) ∈ CM := List.mem_of_getElem? (i := 225) rfl
theorem cm_226 : (.methodLink RX4 70 yX0_clear : Cond) ∈ CM := List.mem_of_getElem? (i := 226) rfl
theorem cm_227 : (.instanceMethod yX0_clear : Cond) ∈ CM := List.mem_of_getElem? (i := 227) rfl
theorem cm_228 : (.selects RX0 yX0_clear yX0_clear : Cond) ∈ CM := List.mem_of_getElem? (i := 228) rfl
theorem cm_229 : (.methodLink RX4 75 yX4_advance : Cond) ∈ CM := List.mem_of_getElem? (i := 229) rfl
theorem cm_230 : (.instanceMethod yX4_advance : Cond) ∈ CM := List.mem_of_getElem? (i := 230) rfl
theorem cm_231 : (.selects RX4 yX4_advance yX4_advance : Cond) ∈ CM := List.mem_of_getElem? (i := 231) rfl
theorem cm_232 : (.initialized RX4 : Cond) ∈ CM := List.mem_of_getElem? (i := 232) rfl
theorem cm_233 : (.code yX4_advance cX4_advance 1 none : Cond) ∈ CM := List.mem_of_getElem? (i := 233) rfl
theorem cm_234 : (.fieldLink RX4 118 "ClockReach$Reader" "tokenAt" "I" : Cond) ∈ CM := List.mem_of_getElem? (i := 234) rfl
theorem cm_235 : (.methodLink RX4 170 yX4_scanWord : Cond) ∈ CM := List.mem_of_getElem? (i := 235) rfl
theorem cm_236 : (.instanceMethod yX4_scanWord : Cond) ∈ CM := List.mem_of_getElem? (i := 236) rfl
theorem cm_237 : (.selects RX4 yX4_scanWord yX4_scanWord : Cond) ∈ CM := List.mem_of_getElem? (i := 237) rfl
theorem cm_238 : (.code yX4_scanWord cX4_scanWord 2 none : Cond) ∈ CM := List.mem_of_getElem? (i := 238) rfl
theorem cm_239 : (.fieldLink RX4 127 "ClockReach$Reader" "value" "I" : Cond) ∈ CM := List.mem_of_getElem? (i := 239) rfl
theorem cm_240 : (.fieldLink RX4 35 "ClockReach$Reader" "words" "[I" : Cond) ∈ CM := List.mem_of_getElem? (i := 240) rfl
theorem cm_241 : (.methodLink RX4 173 yX4_scanNumber : Cond) ∈ CM := List.mem_of_getElem? (i := 241) rfl
theorem cm_242 : (.instanceMethod yX4_scanNumber : Cond) ∈ CM := List.mem_of_getElem? (i := 242) rfl
theorem cm_243 : (.selects RX4 yX4_scanNumber yX4_scanNumber : Cond) ∈ CM := List.mem_of_getElem? (i := 243) rfl
theorem cm_244 : (.code yX4_scanNumber cX4_scanNumber 2 none : Cond) ∈ CM := List.mem_of_getElem? (i := 244) rfl
theorem cm_245 : (.methodLink RX4 176 yX4_scanSign : Cond) ∈ CM := List.mem_of_getElem? (i := 245) rfl
theorem cm_246 : (.instanceMethod yX4_scanSign : Cond) ∈ CM := List.mem_of_getElem? (i := 246) rfl
theorem cm_247 : (.selects RX4 yX4_scanSign yX4_scanSign : Cond) ∈ CM := List.mem_of_getElem? (i := 247) rfl
theorem cm_248 : (.code yX4_scanSign cX4_scanSign 1 none : Cond) ∈ CM := List.mem_of_getElem? (i := 248) rfl
theorem cm_249 : (.methodLink RX4 81 yX4_readsClock : Cond) ∈ CM := List.mem_of_getElem? (i := 249) rfl
theorem cm_250 : (.instanceMethod yX4_readsClock : Cond) ∈ CM := List.mem_of_getElem? (i := 250) rfl
theorem cm_251 : (.selects RX4 yX4_readsClock yX4_readsClock : Cond) ∈ CM := List.mem_of_getElem? (i := 251) rfl
theorem cm_252 : (.code yX4_readsClock cX4_readsClock 1 (some .boolean) : Cond) ∈ CM := List.mem_of_getElem? (i := 252) rfl
theorem cm_253 : (.fieldLink RX4 121 "ClockReach$Automaton" "clocks" "I" : Cond) ∈ CM := List.mem_of_getElem? (i := 253) rfl
theorem cm_254 : (.fieldLink RX4 39 "ClockReach$Reader" "clockNames" "[I" : Cond) ∈ CM := List.mem_of_getElem? (i := 254) rfl
theorem cm_255 : (.methodLink RX4 103 yX4_refuse : Cond) ∈ CM := List.mem_of_getElem? (i := 255) rfl
theorem cm_256 : (.instanceMethod yX4_refuse : Cond) ∈ CM := List.mem_of_getElem? (i := 256) rfl
theorem cm_257 : (.selects RX4 yX4_refuse yX4_refuse : Cond) ∈ CM := List.mem_of_getElem? (i := 257) rfl
theorem cm_258 : (.code yX4_refuse cX4_refuse 2 (some .boolean) : Cond) ∈ CM := List.mem_of_getElem? (i := 258) rfl
theorem cm_259 : (.methodLink RX4 124 yX4_isNewName : Cond) ∈ CM := List.mem_of_getElem? (i := 259) rfl
theorem cm_260 : (.instanceMethod yX4_isNewName : Cond) ∈ CM := List.mem_of_getElem? (i := 260) rfl
theorem cm_261 : (.selects RX4 yX4_isNewName yX4_isNewName : Cond) ∈ CM := List.mem_of_getElem? (i := 261) rfl
theorem cm_262 : (.code yX4_isNewName cX4_isNewName 2 (some .boolean) : Cond) ∈ CM := List.mem_of_getElem? (i := 262) rfl
theorem cm_263 : (.fieldLink RX4 42 "ClockReach$Reader" "placeNames" "[I" : Cond) ∈ CM := List.mem_of_getElem? (i := 263) rfl
theorem cm_264 : (.methodLink RX4 94 yX4_refuseToken : Cond) ∈ CM := List.mem_of_getElem? (i := 264) rfl
theorem cm_265 : (.instanceMethod yX4_refuseToken : Cond) ∈ CM := List.mem_of_getElem? (i := 265) rfl
theorem cm_266 : (.selects RX4 yX4_refuseToken yX4_refuseToken : Cond) ∈ CM := List.mem_of_getElem? (i := 266) rfl
theorem cm_267 : (.code yX4_refuseToken cX4_refuseToken 1 (some .boolean) : Cond) ∈ CM := List.mem_of_getElem? (i := 267) rfl
theorem cm_268 : (.methodLink RX4 167 yX4_indexOf : Cond) ∈ CM := List.mem_of_getElem? (i := 268) rfl
theorem cm_269 : (.instanceMethod yX4_indexOf : Cond) ∈ CM := List.mem_of_getElem? (i := 269) rfl
theorem cm_270 : (.selects RX4 yX4_indexOf yX4_indexOf : Cond) ∈ CM := List.mem_of_getElem? (i := 270) rfl
theorem cm_271 : (.code yX4_indexOf cX4_indexOf 4 (some .int) : Cond) ∈ CM := List.mem_of_getElem? (i := 271) rfl
theorem cm_272 : (.methodLink RX4 85 yX4_readsPlace : Cond) ∈ CM := List.mem_of_getElem? (i := 272) rfl
theorem cm_273 : (.instanceMethod yX4_readsPlace : Cond) ∈ CM := List.mem_of_getElem? (i := 273) rfl
theorem cm_274 : (.selects RX4 yX4_readsPlace yX4_readsPlace : Cond) ∈ CM := List.mem_of_getElem? (i := 274) rfl
theorem cm_275 : (.code yX4_readsPlace cX4_readsPlace 2 (some .boolean) : Cond) ∈ CM := List.mem_of_getElem? (i := 275) rfl
theorem cm_276 : (.fieldLink RX4 130 "ClockReach$Automaton" "hurried" "[Z" : Cond) ∈ CM := List.mem_of_getElem? (i := 276) rfl
theorem cm_277 : (.methodLink RX4 134 yX0_hostOfPlace : Cond) ∈ CM := List.mem_of_getElem? (i := 277) rfl
theorem cm_278 : (.methodLink RX4 138 yX4_readsConditions : Cond) ∈ CM := List.mem_of_getElem? (i := 278) rfl
theorem cm_279 : (.instanceMethod yX4_readsConditions : Cond) ∈ CM := List.mem_of_getElem? (i := 279) rfl
theorem cm_280 : (.selects RX4 yX4_readsConditions yX4_readsConditions : Cond) ∈ CM := List.mem_of_getElem? (i := 280) rfl
theorem cm_281 : (.code yX4_readsConditions cX4_readsConditions 7 (some .boolean) : Cond) ∈ CM := List.mem_of_getElem? (i := 281) rfl
theorem cm_282 : (.methodLink RX4 142 yX4_toldName : Cond) ∈ CM := List.mem_of_getElem? (i := 282) rfl
theorem cm_283 : (.instanceMethod yX4_toldName : Cond) ∈ CM := List.mem_of_getElem? (i := 283) rfl
theorem cm_284 : (.selects RX4 yX4_toldName yX4_toldName : Cond) ∈ CM := List.mem_of_getElem? (i := 284) rfl
theorem cm_285 : (.code yX4_toldName cX4_toldName 4 (some .int) : Cond) ∈ CM := List.mem_of_getElem? (i := 285) rfl
theorem cm_286 : (.methodLink RX4 159 yX4_readHow : Cond) ∈ CM := List.mem_of_getElem? (i := 286) rfl
theorem cm_287 : (.instanceMethod yX4_readHow : Cond) ∈ CM := List.mem_of_getElem? (i := 287) rfl
theorem cm_288 : (.selects RX4 yX4_readHow yX4_readHow : Cond) ∈ CM := List.mem_of_getElem? (i := 288) rfl
theorem cm_289 : (.code yX4_readHow cX4_readHow 3 (some .int) : Cond) ∈ CM := List.mem_of_getElem? (i := 289) rfl
theorem cm_290 : (.methodLink RX4 163 yX0_addCondition : Cond) ∈ CM := List.mem_of_getElem? (i := 290) rfl
theorem cm_291 : (.instanceMethod yX0_addCondition : Cond) ∈ CM := List.mem_of_getElem? (i := 291) rfl
theorem cm_292 : (.selects RX0 yX0_addCondition yX0_addCondition : Cond) ∈ CM := List.mem_of_getElem? (i := 292) rfl
theorem cm_293 : (.methodLink RX4 88 yX4_readsStart : Cond) ∈ CM := List.mem_of_getElem? (i := 293) rfl
theorem cm_294 : (.instanceMethod yX4_readsStart : Cond) ∈ CM := List.mem_of_getElem? (i := 294) rfl
theorem cm_295 : (.selects RX4 yX4_readsStart yX4_readsStart : Cond) ∈ CM := List.mem_of_getElem? (i := 295) rfl
theorem cm_296 : (.code yX4_readsStart cX4_readsStart 2 (some .boolean) : Cond) ∈ CM := List.mem_of_getElem? (i := 296) rfl
theorem cm_297 : (.methodLink RX4 91 yX4_readsEdge : Cond) ∈ CM := List.mem_of_getElem? (i := 297) rfl
theorem cm_298 : (.instanceMethod yX4_readsEdge : Cond) ∈ CM := List.mem_of_getElem? (i := 298) rfl
theorem cm_299 : (.selects RX4 yX4_readsEdge yX4_readsEdge : Cond) ∈ CM := List.mem_of_getElem? (i := 299) rfl
theorem cm_300 : (.code yX4_readsEdge cX4_readsEdge 4 (some .boolean) : Cond) ∈ CM := List.mem_of_getElem? (i := 300) rfl
theorem cm_301 : (.fieldLink RX4 146 "ClockReach$Automaton" "edges" "I" : Cond) ∈ CM := List.mem_of_getElem? (i := 301) rfl
theorem cm_302 : (.methodLink RX4 149 yX0_addEdge : Cond) ∈ CM := List.mem_of_getElem? (i := 302) rfl
theorem cm_303 : (.instanceMethod yX0_addEdge : Cond) ∈ CM := List.mem_of_getElem? (i := 303) rfl
theorem cm_304 : (.selects RX0 yX0_addEdge yX0_addEdge : Cond) ∈ CM := List.mem_of_getElem? (i := 304) rfl
theorem cm_305 : (.methodLink RX4 153 yX4_readsResets : Cond) ∈ CM := List.mem_of_getElem? (i := 305) rfl
theorem cm_306 : (.instanceMethod yX4_readsResets : Cond) ∈ CM := List.mem_of_getElem? (i := 306) rfl
theorem cm_307 : (.selects RX4 yX4_readsResets yX4_readsResets : Cond) ∈ CM := List.mem_of_getElem? (i := 307) rfl
theorem cm_308 : (.code yX4_readsResets cX4_readsResets 4 (some .boolean) : Cond) ∈ CM := List.mem_of_getElem? (i := 308) rfl
theorem cm_309 : (.fieldLink RX4 156 "ClockReach$Automaton" "resets" "[I" : Cond) ∈ CM := List.mem_of_getElem? (i := 309) rfl
theorem cm_310 : (.methodLink RX4 97 yX4_readsStop : Cond) ∈ CM := List.mem_of_getElem? (i := 310) rfl
theorem cm_311 : (.instanceMethod yX4_readsStop : Cond) ∈ CM := List.mem_of_getElem? (i := 311) rfl
theorem cm_312 : (.selects RX4 yX4_readsStop yX4_readsStop : Cond) ∈ CM := List.mem_of_getElem? (i := 312) rfl
theorem cm_313 : (.code yX4_readsStop cX4_readsStop 1 (some .boolean) : Cond) ∈ CM := List.mem_of_getElem? (i := 313) rfl
theorem cm_314 : (.methodLink RX4 115 yX0_measure : Cond) ∈ CM := List.mem_of_getElem? (i := 314) rfl
theorem cm_315 : (.code yX5_clear cX5_clear 1 none : Cond) ∈ CM := List.mem_of_getElem? (i := 315) rfl
theorem cm_316 : (.fieldLink RX5 37 "ClockReach$Remainder" "count" "I" : Cond) ∈ CM := List.mem_of_getElem? (i := 316) rfl
theorem cm_317 : (.fieldLink RX5 41 "ClockReach$Remainder" "used" "I" : Cond) ∈ CM := List.mem_of_getElem? (i := 317) rfl
theorem cm_318 : (.code yX5_add cX5_add 2 none : Cond) ∈ CM := List.mem_of_getElem? (i := 318) rfl
theorem cm_319 : (.fieldLink RX5 11 "ClockReach$Remainder" "covers" "[LClockReach$Zone;" : Cond) ∈ CM := List.mem_of_getElem? (i := 319) rfl
theorem cm_320 : (.code yX5_addLeaving cX5_addLeaving 7 none : Cond) ∈ CM := List.mem_of_getElem? (i := 320) rfl
theorem cm_321 : (.fieldLink RX5 17 "ClockReach$Remainder" "made" "[LClockReach$Zone;" : Cond) ∈ CM := List.mem_of_getElem? (i := 321) rfl
theorem cm_322 : (.fieldLink RX5 57 "ClockReach$Automaton" "sources" "[I" : Cond) ∈ CM := List.mem_of_getElem? (i := 322) rfl
theorem cm_323 : (.fieldLink RX5 63 "ClockReach$Automaton" "hurried" "[Z" : Cond) ∈ CM := List.mem_of_getElem? (i := 323) rfl
theorem cm_324 : (.methodLink RX5 44 yX7_setAll : Cond) ∈ CM := List.mem_of_getElem? (i := 324) rfl
theorem cm_325 : (.instanceMethod yX7_setAll : Cond) ∈ CM := List.mem_of_getElem? (i := 325) rfl
theorem cm_326 : (.selects RX7 yX7_setAll yX7_setAll : Cond) ∈ CM := List.mem_of_getElem? (i := 326) rfl
theorem cm_327 : (.code yX7_setAll cX7_setAll 4 none : Cond) ∈ CM := List.mem_of_getElem? (i := 327) rfl
theorem cm_328 : (.methodLink RX5 47 yX0_opensIn : Cond) ∈ CM := List.mem_of_getElem? (i := 328) rfl
theorem cm_329 : (.methodLink RX5 53 yX5_add : Cond) ∈ CM := List.mem_of_getElem? (i := 329) rfl
theorem cm_330 : (.instanceMethod yX5_add : Cond) ∈ CM := List.mem_of_getElem? (i := 330) rfl
theorem cm_331 : (.selects RX5 yX5_add yX5_add : Cond) ∈ CM := List.mem_of_getElem? (i := 331) rfl
theorem cm_332 : (.initialized RX5 : Cond) ∈ CM := List.mem_of_getElem? (i := 332) rfl
theorem cm_333 : (.methodLink RX5 60 yX7_copyOf : Cond) ∈ CM := List.mem_of_getElem? (i := 333) rfl
theorem cm_334 : (.methodLink RX5 67 yX0_hostOfPlace : Cond) ∈ CM := List.mem_of_getElem? (i := 334) rfl
theorem cm_335 : (.methodLink RX5 71 yX0_narrowTo : Cond) ∈ CM := List.mem_of_getElem? (i := 335) rfl
theorem cm_336 : (.methodLink RX5 75 yX7_setPast : Cond) ∈ CM := List.mem_of_getElem? (i := 336) rfl
theorem cm_337 : (.instanceMethod yX7_setPast : Cond) ∈ CM := List.mem_of_getElem? (i := 337) rfl
theorem cm_338 : (.selects RX7 yX7_setPast yX7_setPast : Cond) ∈ CM := List.mem_of_getElem? (i := 338) rfl
theorem cm_339 : (.code yX7_setPast cX7_setPast 4 none : Cond) ∈ CM := List.mem_of_getElem? (i := 339) rfl
theorem cm_340 : (.methodLink RX7 22 Lib.Math.min.name : Cond) ∈ CM := List.mem_of_getElem? (i := 340) rfl
theorem cm_341 : (.code yX5_meet cX5_meet 5 (some .boolean) : Cond) ∈ CM := List.mem_of_getElem? (i := 341) rfl
theorem cm_342 : (.fieldLink RX5 33 "ClockReach$Remainder" "scratch" "LClockReach$Zone;" : Cond) ∈ CM := List.mem_of_getElem? (i := 342) rfl
theorem cm_343 : (.fieldLink RX5 78 "ClockReach$Zone" "size" "I" : Cond) ∈ CM := List.mem_of_getElem? (i := 343) rfl
theorem cm_344 : (.methodLink RX5 81 yX7_cellOf : Cond) ∈ CM := List.mem_of_getElem? (i := 344) rfl
theorem cm_345 : (.methodLink RX5 85 yX7_narrow : Cond) ∈ CM := List.mem_of_getElem? (i := 345) rfl
theorem cm_346 : (.code yX5_leavesAny cX5_leavesAny 4 (some .boolean) : Cond) ∈ CM := List.mem_of_getElem? (i := 346) rfl
theorem cm_347 : (.fieldLink RX5 23 "ClockReach$Remainder" "pieces" "[LClockReach$Zone;" : Cond) ∈ CM := List.mem_of_getElem? (i := 347) rfl
theorem cm_348 : (.fieldLink RX5 26 "ClockReach$Remainder" "cutting" "[I" : Cond) ∈ CM := List.mem_of_getElem? (i := 348) rfl
theorem cm_349 : (.fieldLink RX5 30 "ClockReach$Remainder" "cells" "[I" : Cond) ∈ CM := List.mem_of_getElem? (i := 349) rfl
theorem cm_350 : (.constant RX5 93 (100000000) : Cond) ∈ CM := List.mem_of_getElem? (i := 350) rfl
theorem cm_351 : (.methodLink RX5 89 yX5_nextCover : Cond) ∈ CM := List.mem_of_getElem? (i := 351) rfl
theorem cm_352 : (.instanceMethod yX5_nextCover : Cond) ∈ CM := List.mem_of_getElem? (i := 352) rfl
theorem cm_353 : (.selects RX5 yX5_nextCover yX5_nextCover : Cond) ∈ CM := List.mem_of_getElem? (i := 353) rfl
theorem cm_354 : (.code yX5_nextCover cX5_nextCover 4 (some .int) : Cond) ∈ CM := List.mem_of_getElem? (i := 354) rfl
theorem cm_355 : (.methodLink RX5 98 yX7_holdsAll : Cond) ∈ CM := List.mem_of_getElem? (i := 355) rfl
theorem cm_356 : (.methodLink RX5 102 yX5_meet : Cond) ∈ CM := List.mem_of_getElem? (i := 356) rfl
theorem cm_357 : (.instanceMethod yX5_meet : Cond) ∈ CM := List.mem_of_getElem? (i := 357) rfl
theorem cm_358 : (.selects RX5 yX5_meet yX5_meet : Cond) ∈ CM := List.mem_of_getElem? (i := 358) rfl
theorem cm_359 : (.methodLink RX5 94 yX5_splits : Cond) ∈ CM := List.mem_of_getElem? (i := 359) rfl
theorem cm_360 : (.instanceMethod yX5_splits : Cond) ∈ CM := List.mem_of_getElem? (i := 360) rfl
theorem cm_361 : (.selects RX5 yX5_splits yX5_splits : Cond) ∈ CM := List.mem_of_getElem? (i := 361) rfl
theorem cm_362 : (.code yX5_splits cX5_splits 10 (some .boolean) : Cond) ∈ CM := List.mem_of_getElem? (i := 362) rfl
theorem cm_363 : (.fieldLink RX5 106 "ClockReach$Zone" "cells" "[I" : Cond) ∈ CM := List.mem_of_getElem? (i := 363) rfl
theorem cm_364 : (.code yX6_loadRun cX6_loadRun 5 none : Cond) ∈ CM := List.mem_of_getElem? (i := 364) rfl
theorem cm_365 : (.fieldLink RX6 42 "ClockReach$Graph" "depths" "[I" : Cond) ∈ CM := List.mem_of_getElem? (i := 365) rfl
theorem cm_366 : (.fieldLink RX6 47 "ClockReach$Timing" "length" "I" : Cond) ∈ CM := List.mem_of_getElem? (i := 366) rfl
theorem cm_367 : (.fieldLink RX6 9 "ClockReach$Timing" "path" "[I" : Cond) ∈ CM := List.mem_of_getElem? (i := 367) rfl
theorem cm_368 : (.fieldLink RX6 51 "ClockReach$Graph" "entries" "[I" : Cond) ∈ CM := List.mem_of_getElem? (i := 368) rfl
theorem cm_369 : (.fieldLink RX6 54 "ClockReach$Graph" "parents" "[I" : Cond) ∈ CM := List.mem_of_getElem? (i := 369) rfl
theorem cm_370 : (.code yX6_layRules cX6_layRules 6 none : Cond) ∈ CM := List.mem_of_getElem? (i := 370) rfl
theorem cm_371 : (.fieldLink RX6 57 "ClockReach$Timing" "rules" "I" : Cond) ∈ CM := List.mem_of_getElem? (i := 371) rfl
theorem cm_372 : (.fieldLink RX6 27 "ClockReach$Timing" "since" "[I" : Cond) ∈ CM := List.mem_of_getElem? (i := 372) rfl
theorem cm_373 : (.fieldLink RX6 60 "ClockReach$Automaton" "start" "I" : Cond) ∈ CM := List.mem_of_getElem? (i := 373) rfl
theorem cm_374 : (.fieldLink RX6 73 "ClockReach$Automaton" "sources" "[I" : Cond) ∈ CM := List.mem_of_getElem? (i := 374) rfl
theorem cm_375 : (.fieldLink RX6 80 "ClockReach$Automaton" "hurried" "[Z" : Cond) ∈ CM := List.mem_of_getElem? (i := 375) rfl
theorem cm_376 : (.fieldLink RX6 84 "ClockReach$Automaton" "clocks" "I" : Cond) ∈ CM := List.mem_of_getElem? (i := 376) rfl
theorem cm_377 : (.fieldLink RX6 87 "ClockReach$Automaton" "resets" "[I" : Cond) ∈ CM := List.mem_of_getElem? (i := 377) rfl
theorem cm_378 : (.fieldLink RX6 90 "ClockReach$Automaton" "targets" "[I" : Cond) ∈ CM := List.mem_of_getElem? (i := 378) rfl
theorem cm_379 : (.methodLink RX6 65 yX0_hostOfPlace : Cond) ∈ CM := List.mem_of_getElem? (i := 379) rfl
theorem cm_380 : (.methodLink RX6 69 yX6_layConditions : Cond) ∈ CM := List.mem_of_getElem? (i := 380) rfl
theorem cm_381 : (.instanceMethod yX6_layConditions : Cond) ∈ CM := List.mem_of_getElem? (i := 381) rfl
theorem cm_382 : (.selects RX6 yX6_layConditions yX6_layConditions : Cond) ∈ CM := List.mem_of_getElem? (i := 382) rfl
theorem cm_383 : (.initialized RX6 : Cond) ∈ CM := List.mem_of_getElem? (i := 383) rfl
theorem cm_384 : (.code yX6_layConditions cX6_layConditions 7 none : Cond) ∈ CM := List.mem_of_getElem? (i := 384) rfl
theorem cm_385 : (.fieldLink RX6 93 "ClockReach$Automaton" "counts" "[I" : Cond) ∈ CM := List.mem_of_getElem? (i := 385) rfl
theorem cm_386 : (.fieldLink RX6 100 "ClockReach$Automaton" "conditionClocks" "[I" : Cond) ∈ CM := List.mem_of_getElem? (i := 386) rfl
theorem cm_387 : (.fieldLink RX6 103 "ClockReach$Automaton" "ceilings" "[I" : Cond) ∈ CM := List.mem_of_getElem? (i := 387) rfl
theorem cm_388 : (.constant RX6 106 (2147483647) : Cond) ∈ CM := List.mem_of_getElem? (i := 388) rfl
theorem cm_389 : (.fieldLink RX6 110 "ClockReach$Automaton" "floors" "[I" : Cond) ∈ CM := List.mem_of_getElem? (i := 389) rfl
theorem cm_390 : (.methodLink RX6 96 yX0_slot : Cond) ∈ CM := List.mem_of_getElem? (i := 390) rfl
theorem cm_391 : (.methodLink RX6 107 yX7_ticks : Cond) ∈ CM := List.mem_of_getElem? (i := 391) rfl
theorem cm_392 : (.methodLink RX6 76 yX6_layRule : Cond) ∈ CM := List.mem_of_getElem? (i := 392) rfl
theorem cm_393 : (.instanceMethod yX6_layRule : Cond) ∈ CM := List.mem_of_getElem? (i := 393) rfl
theorem cm_394 : (.selects RX6 yX6_layRule yX6_layRule : Cond) ∈ CM := List.mem_of_getElem? (i := 394) rfl
theorem cm_395 : (.code yX6_layRule cX6_layRule 4 none : Cond) ∈ CM := List.mem_of_getElem? (i := 395) rfl
theorem cm_396 : (.fieldLink RX6 18 "ClockReach$Timing" "laters" "[I" : Cond) ∈ CM := List.mem_of_getElem? (i := 396) rfl
theorem cm_397 : (.fieldLink RX6 21 "ClockReach$Timing" "earliers" "[I" : Cond) ∈ CM := List.mem_of_getElem? (i := 397) rfl
theorem cm_398 : (.fieldLink RX6 24 "ClockReach$Timing" "gaps" "[I" : Cond) ∈ CM := List.mem_of_getElem? (i := 398) rfl
theorem cm_399 : (.code yX6_findsLeast cX6_findsLeast 5 (some .boolean) : Cond) ∈ CM := List.mem_of_getElem? (i := 399) rfl
theorem cm_400 : (.fieldLink RX6 15 "ClockReach$Timing" "at" "[I" : Cond) ∈ CM := List.mem_of_getElem? (i := 400) rfl
theorem cm_401 : (.code yX6_findsGreatest cX6_findsGreatest 6 (some .boolean) : Cond) ∈ CM := List.mem_of_getElem? (i := 401) rfl
theorem cm_402 : (.code yX6_clockBehind cX6_clockBehind 6 (some .int) : Cond) ∈ CM := List.mem_of_getElem? (i := 402) rfl
theorem cm_403 : (.code yX6_spanOf cX6_spanOf 6 (some .int) : Cond) ∈ CM := List.mem_of_getElem? (i := 403) rfl
theorem cm_404 : (.fieldLink RX6 38 "ClockReach$Timing" "zone" "LClockReach$Zone;" : Cond) ∈ CM := List.mem_of_getElem? (i := 404) rfl
theorem cm_405 : (.fieldLink RX6 30 "ClockReach$Timing" "zeros" "[I" : Cond) ∈ CM := List.mem_of_getElem? (i := 405) rfl
theorem cm_406 : (.methodLink RX6 113 yX7_setPoint : Cond) ∈ CM := List.mem_of_getElem? (i := 406) rfl
theorem cm_407 : (.methodLink RX6 117 yX0_narrowTo : Cond) ∈ CM := List.mem_of_getElem? (i := 407) rfl
theorem cm_408 : (.methodLink RX6 121 yX0_stayIn : Cond) ∈ CM := List.mem_of_getElem? (i := 408) rfl
theorem cm_409 : (.methodLink RX6 125 yX0_opensIn : Cond) ∈ CM := List.mem_of_getElem? (i := 409) rfl
theorem cm_410 : (.methodLink RX6 129 yX0_setBackIn : Cond) ∈ CM := List.mem_of_getElem? (i := 410) rfl
theorem cm_411 : (.methodLink RX6 132 yX7_cellOf : Cond) ∈ CM := List.mem_of_getElem? (i := 411) rfl
theorem cm_412 : (.code yX7_wholePart cX7_wholePart 1 (some .int) : Cond) ∈ CM := List.mem_of_getElem? (i := 412) rfl
theorem cm_413 : (.code yX7_holdsTimes cX7_holdsTimes 5 (some .boolean) : Cond) ∈ CM := List.mem_of_getElem? (i := 413) rfl
theorem cm_414 : (.methodLink RX7 31 yX7_ticks : Cond) ∈ CM := List.mem_of_getElem? (i := 414) rfl
theorem cm_415 : (.code yX7_wholeValues cX7_wholeValues 2 (some .int) : Cond) ∈ CM := List.mem_of_getElem? (i := 415) rfl
theorem cm_416 : (.methodLink RX7 35 yX7_wholeFrom : Cond) ∈ CM := List.mem_of_getElem? (i := 416) rfl
theorem cm_417 : (.static yX7_wholeFrom : Cond) ∈ CM := List.mem_of_getElem? (i := 417) rfl
theorem cm_418 : (.code yX7_wholeFrom cX7_wholeFrom 9 (some .int) : Cond) ∈ CM := List.mem_of_getElem? (i := 418) rfl
theorem cm_419 : (.methodLink RX7 42 Lib.Math.max.name : Cond) ∈ CM := List.mem_of_getElem? (i := 419) rfl
theorem cm_420 : (.methodLink RX7 39 yX7_wholePart : Cond) ∈ CM := List.mem_of_getElem? (i := 420) rfl
theorem cm_421 : (.static yX7_wholePart : Cond) ∈ CM := List.mem_of_getElem? (i := 421) rfl
theorem cm_422 : (.code yX8_feed cX8_feed 6 (some .int) : Cond) ∈ CM := List.mem_of_getElem? (i := 422) rfl
theorem cm_423 : (.fieldLink RX8 79 "ClockReach" "taped" "I" : Cond) ∈ CM := List.mem_of_getElem? (i := 423) rfl
theorem cm_424 : (.methodLink RX8 83 yX8_putBytes : Cond) ∈ CM := List.mem_of_getElem? (i := 424) rfl
theorem cm_425 : (.instanceMethod yX8_putBytes : Cond) ∈ CM := List.mem_of_getElem? (i := 425) rfl
theorem cm_426 : (.selects RX8 yX8_putBytes yX8_putBytes : Cond) ∈ CM := List.mem_of_getElem? (i := 426) rfl
theorem cm_427 : (.initialized RX8 : Cond) ∈ CM := List.mem_of_getElem? (i := 427) rfl
theorem cm_428 : (.code yX8_putBytes cX8_putBytes 3 none : Cond) ∈ CM := List.mem_of_getElem? (i := 428) rfl
theorem cm_429 : (.fieldLink RX8 9 "ClockReach" "tape" "[I" : Cond) ∈ CM := List.mem_of_getElem? (i := 429) rfl
theorem cm_430 : (.code yX8_end cX8_end 2 (some .int) : Cond) ∈ CM := List.mem_of_getElem? (i := 430) rfl
theorem cm_431 : (.code yX8_automaton cX8_automaton 3 (some .int) : Cond) ∈ CM := List.mem_of_getElem? (i := 431) rfl
theorem cm_432 : (.fieldLink RX8 16 "ClockReach" "reader" "LClockReach$Reader;" : Cond) ∈ CM := List.mem_of_getElem? (i := 432) rfl
theorem cm_433 : (.fieldLink RX8 27 "ClockReach" "draft" "LClockReach$Automaton;" : Cond) ∈ CM := List.mem_of_getElem? (i := 433) rfl
theorem cm_434 : (.fieldLink RX8 23 "ClockReach" "model" "LClockReach$Automaton;" : Cond) ∈ CM := List.mem_of_getElem? (i := 434) rfl
theorem cm_435 : (.fieldLink RX8 33 "ClockReach" "history" "LClockReach$History;" : Cond) ∈ CM := List.mem_of_getElem? (i := 435) rfl
theorem cm_436 : (.fieldLink RX8 91 "ClockReach$History" "count" "I" : Cond) ∈ CM := List.mem_of_getElem? (i := 436) rfl
theorem cm_437 : (.fieldLink RX8 97 "ClockReach$Automaton" "places" "I" : Cond) ∈ CM := List.mem_of_getElem? (i := 437) rfl
theorem cm_438 : (.methodLink RX8 87 yX4_reads : Cond) ∈ CM := List.mem_of_getElem? (i := 438) rfl
theorem cm_439 : (.instanceMethod yX4_reads : Cond) ∈ CM := List.mem_of_getElem? (i := 439) rfl
theorem cm_440 : (.selects RX4 yX4_reads yX4_reads : Cond) ∈ CM := List.mem_of_getElem? (i := 440) rfl
theorem cm_441 : (.methodLink RX8 94 yX8_dropViews : Cond) ∈ CM := List.mem_of_getElem? (i := 441) rfl
theorem cm_442 : (.instanceMethod yX8_dropViews : Cond) ∈ CM := List.mem_of_getElem? (i := 442) rfl
theorem cm_443 : (.selects RX8 yX8_dropViews yX8_dropViews : Cond) ∈ CM := List.mem_of_getElem? (i := 443) rfl
theorem cm_444 : (.code yX8_dropViews cX8_dropViews 1 none : Cond) ∈ CM := List.mem_of_getElem? (i := 444) rfl
theorem cm_445 : (.fieldLink RX8 100 "ClockReach" "hasShown" "Z" : Cond) ∈ CM := List.mem_of_getElem? (i := 445) rfl
theorem cm_446 : (.fieldLink RX8 104 "ClockReach" "soonStands" "Z" : Cond) ∈ CM := List.mem_of_getElem? (i := 446) rfl
theorem cm_447 : (.fieldLink RX8 69 "ClockReach" "play" "LClockReach$Play;" : Cond) ∈ CM := List.mem_of_getElem? (i := 447) rfl
theorem cm_448 : (.fieldLink RX8 107 "ClockReach$Play" "on" "Z" : Cond) ∈ CM := List.mem_of_getElem? (i := 448) rfl
theorem cm_449 : (.code yX8_fault cX8_fault 2 (some .int) : Cond) ∈ CM := List.mem_of_getElem? (i := 449) rfl
theorem cm_450 : (.fieldLink RX8 110 "ClockReach$Reader" "fault" "I" : Cond) ∈ CM := List.mem_of_getElem? (i := 450) rfl
theorem cm_451 : (.fieldLink RX8 113 "ClockReach$Reader" "faultAt" "I" : Cond) ∈ CM := List.mem_of_getElem? (i := 451) rfl
theorem cm_452 : (.code yX8_about cX8_about 2 (some .int) : Cond) ∈ CM := List.mem_of_getElem? (i := 452) rfl
theorem cm_453 : (.fieldLink RX8 116 "ClockReach$Automaton" "clocks" "I" : Cond) ∈ CM := List.mem_of_getElem? (i := 453) rfl
theorem cm_454 : (.fieldLink RX8 119 "ClockReach$Automaton" "edges" "I" : Cond) ∈ CM := List.mem_of_getElem? (i := 454) rfl
theorem cm_455 : (.fieldLink RX8 122 "ClockReach$Automaton" "start" "I" : Cond) ∈ CM := List.mem_of_getElem? (i := 455) rfl
theorem cm_456 : (.fieldLink RX8 42 "ClockReach" "shown" "LClockReach$Graph;" : Cond) ∈ CM := List.mem_of_getElem? (i := 456) rfl
theorem cm_457 : (.fieldLink RX8 129 "ClockReach$Graph" "count" "I" : Cond) ∈ CM := List.mem_of_getElem? (i := 457) rfl
theorem cm_458 : (.fieldLink RX8 130 "ClockReach$Graph" "full" "Z" : Cond) ∈ CM := List.mem_of_getElem? (i := 458) rfl
theorem cm_459 : (.fieldLink RX8 137 "ClockReach$Graph" "way" "I" : Cond) ∈ CM := List.mem_of_getElem? (i := 459) rfl
theorem cm_460 : (.methodLink RX8 125 yX0_allConditions : Cond) ∈ CM := List.mem_of_getElem? (i := 460) rfl
theorem cm_461 : (.instanceMethod yX0_allConditions : Cond) ∈ CM := List.mem_of_getElem? (i := 461) rfl
theorem cm_462 : (.selects RX0 yX0_allConditions yX0_allConditions : Cond) ∈ CM := List.mem_of_getElem? (i := 462) rfl
theorem cm_463 : (.methodLink RX8 133 yX8_bit : Cond) ∈ CM := List.mem_of_getElem? (i := 463) rfl
theorem cm_464 : (.static yX8_bit : Cond) ∈ CM := List.mem_of_getElem? (i := 464) rfl
theorem cm_465 : (.code yX8_bit cX8_bit 1 (some .int) : Cond) ∈ CM := List.mem_of_getElem? (i := 465) rfl
theorem cm_466 : (.code yX8_place cX8_place 3 (some .int) : Cond) ∈ CM := List.mem_of_getElem? (i := 466) rfl
theorem cm_467 : (.fieldLink RX8 144 "ClockReach$Automaton" "hurried" "[Z" : Cond) ∈ CM := List.mem_of_getElem? (i := 467) rfl
theorem cm_468 : (.fieldLink RX8 148 "ClockReach$Automaton" "counts" "[I" : Cond) ∈ CM := List.mem_of_getElem? (i := 468) rfl
theorem cm_469 : (.fieldLink RX8 155 "ClockReach$Automaton" "sources" "[I" : Cond) ∈ CM := List.mem_of_getElem? (i := 469) rfl
theorem cm_470 : (.fieldLink RX8 162 "ClockReach$Automaton" "targets" "[I" : Cond) ∈ CM := List.mem_of_getElem? (i := 470) rfl
theorem cm_471 : (.methodLink RX8 140 yX8_isPlace : Cond) ∈ CM := List.mem_of_getElem? (i := 471) rfl
theorem cm_472 : (.instanceMethod yX8_isPlace : Cond) ∈ CM := List.mem_of_getElem? (i := 472) rfl
theorem cm_473 : (.selects RX8 yX8_isPlace yX8_isPlace : Cond) ∈ CM := List.mem_of_getElem? (i := 473) rfl
theorem cm_474 : (.code yX8_isPlace cX8_isPlace 2 (some .boolean) : Cond) ∈ CM := List.mem_of_getElem? (i := 474) rfl
theorem cm_475 : (.methodLink RX8 151 yX0_hostOfPlace : Cond) ∈ CM := List.mem_of_getElem? (i := 475) rfl
theorem cm_476 : (.methodLink RX8 158 yX0_edgesWith : Cond) ∈ CM := List.mem_of_getElem? (i := 476) rfl
theorem cm_477 : (.instanceMethod yX0_edgesWith : Cond) ∈ CM := List.mem_of_getElem? (i := 477) rfl
theorem cm_478 : (.selects RX0 yX0_edgesWith yX0_edgesWith : Cond) ∈ CM := List.mem_of_getElem? (i := 478) rfl
theorem cm_479 : (.code yX8_isEdge cX8_isEdge 2 (some .boolean) : Cond) ∈ CM := List.mem_of_getElem? (i := 479) rfl
theorem cm_480 : (.code yX8_isClock cX8_isClock 2 (some .boolean) : Cond) ∈ CM := List.mem_of_getElem? (i := 480) rfl
theorem cm_481 : (.code yX8_edge cX8_edge 3 (some .int) : Cond) ∈ CM := List.mem_of_getElem? (i := 481) rfl
theorem cm_482 : (.fieldLink RX8 168 "ClockReach$Automaton" "resets" "[I" : Cond) ∈ CM := List.mem_of_getElem? (i := 482) rfl
theorem cm_483 : (.methodLink RX8 165 yX8_isEdge : Cond) ∈ CM := List.mem_of_getElem? (i := 483) rfl
theorem cm_484 : (.instanceMethod yX8_isEdge : Cond) ∈ CM := List.mem_of_getElem? (i := 484) rfl
theorem cm_485 : (.selects RX8 yX8_isEdge yX8_isEdge : Cond) ∈ CM := List.mem_of_getElem? (i := 485) rfl
theorem cm_486 : (.code yX8_condition cX8_condition 5 (some .int) : Cond) ∈ CM := List.mem_of_getElem? (i := 486) rfl
theorem cm_487 : (.fieldLink RX8 175 "ClockReach$Automaton" "conditionClocks" "[I" : Cond) ∈ CM := List.mem_of_getElem? (i := 487) rfl
theorem cm_488 : (.fieldLink RX8 178 "ClockReach$Automaton" "hows" "[I" : Cond) ∈ CM := List.mem_of_getElem? (i := 488) rfl
theorem cm_489 : (.fieldLink RX8 181 "ClockReach$Automaton" "numbers" "[I" : Cond) ∈ CM := List.mem_of_getElem? (i := 489) rfl
theorem cm_490 : (.methodLink RX8 171 yX8_slotOf : Cond) ∈ CM := List.mem_of_getElem? (i := 490) rfl
theorem cm_491 : (.instanceMethod yX8_slotOf : Cond) ∈ CM := List.mem_of_getElem? (i := 491) rfl
theorem cm_492 : (.selects RX8 yX8_slotOf yX8_slotOf : Cond) ∈ CM := List.mem_of_getElem? (i := 492) rfl
theorem cm_493 : (.code yX8_slotOf cX8_slotOf 4 (some .int) : Cond) ∈ CM := List.mem_of_getElem? (i := 493) rfl
theorem cm_494 : (.methodLink RX8 184 yX0_slot : Cond) ∈ CM := List.mem_of_getElem? (i := 494) rfl
theorem cm_495 : (.code yX8_limit cX8_limit 3 (some .int) : Cond) ∈ CM := List.mem_of_getElem? (i := 495) rfl
theorem cm_496 : (.fieldLink RX8 190 "ClockReach$Automaton" "greatest" "[I" : Cond) ∈ CM := List.mem_of_getElem? (i := 496) rfl
theorem cm_497 : (.fieldLink RX8 193 "ClockReach$Automaton" "lower" "[I" : Cond) ∈ CM := List.mem_of_getElem? (i := 497) rfl
theorem cm_498 : (.fieldLink RX8 196 "ClockReach$Automaton" "upper" "[I" : Cond) ∈ CM := List.mem_of_getElem? (i := 498) rfl
theorem cm_499 : (.methodLink RX8 187 yX8_isClock : Cond) ∈ CM := List.mem_of_getElem? (i := 499) rfl
theorem cm_500 : (.instanceMethod yX8_isClock : Cond) ∈ CM := List.mem_of_getElem? (i := 500) rfl
theorem cm_501 : (.selects RX8 yX8_isClock yX8_isClock : Cond) ∈ CM := List.mem_of_getElem? (i := 501) rfl
theorem cm_502 : (.code yX8_number cX8_number 6 (some .int) : Cond) ∈ CM := List.mem_of_getElem? (i := 502) rfl
theorem cm_503 : (.methodLink RX8 199 yX2_keep : Cond) ∈ CM := List.mem_of_getElem? (i := 503) rfl
theorem cm_504 : (.instanceMethod yX2_keep : Cond) ∈ CM := List.mem_of_getElem? (i := 504) rfl
theorem cm_505 : (.selects RX2 yX2_keep yX2_keep : Cond) ∈ CM := List.mem_of_getElem? (i := 505) rfl
theorem cm_506 : (.initialized RX2 : Cond) ∈ CM := List.mem_of_getElem? (i := 506) rfl
theorem cm_507 : (.methodLink RX8 202 yX0_setNumber : Cond) ∈ CM := List.mem_of_getElem? (i := 507) rfl
theorem cm_508 : (.code yX8_urgent cX8_urgent 3 (some .boolean) : Cond) ∈ CM := List.mem_of_getElem? (i := 508) rfl
theorem cm_509 : (.methodLink RX8 205 yX2_codeOfPlace : Cond) ∈ CM := List.mem_of_getElem? (i := 509) rfl
theorem cm_510 : (.static yX2_codeOfPlace : Cond) ∈ CM := List.mem_of_getElem? (i := 510) rfl
theorem cm_511 : (.code yX8_undo cX8_undo 1 (some .boolean) : Cond) ∈ CM := List.mem_of_getElem? (i := 511) rfl
theorem cm_512 : (.methodLink RX8 208 yX2_takesBack : Cond) ∈ CM := List.mem_of_getElem? (i := 512) rfl
theorem cm_513 : (.instanceMethod yX2_takesBack : Cond) ∈ CM := List.mem_of_getElem? (i := 513) rfl
theorem cm_514 : (.selects RX2 yX2_takesBack yX2_takesBack : Cond) ∈ CM := List.mem_of_getElem? (i := 514) rfl
theorem cm_515 : (.code yX8_graph cX8_graph 3 (some .int) : Cond) ∈ CM := List.mem_of_getElem? (i := 515) rfl
theorem cm_516 : (.methodLink RX8 212 yX1_plan : Cond) ∈ CM := List.mem_of_getElem? (i := 516) rfl
theorem cm_517 : (.instanceMethod yX1_plan : Cond) ∈ CM := List.mem_of_getElem? (i := 517) rfl
theorem cm_518 : (.selects RX1 yX1_plan yX1_plan : Cond) ∈ CM := List.mem_of_getElem? (i := 518) rfl
theorem cm_519 : (.methodLink RX8 216 yX8_beginAtZero : Cond) ∈ CM := List.mem_of_getElem? (i := 519) rfl
theorem cm_520 : (.instanceMethod yX8_beginAtZero : Cond) ∈ CM := List.mem_of_getElem? (i := 520) rfl
theorem cm_521 : (.selects RX8 yX8_beginAtZero yX8_beginAtZero : Cond) ∈ CM := List.mem_of_getElem? (i := 521) rfl
theorem cm_522 : (.code yX8_beginAtZero cX8_beginAtZero 3 none : Cond) ∈ CM := List.mem_of_getElem? (i := 522) rfl
theorem cm_523 : (.fieldLink RX8 73 "ClockReach" "beginUnits" "[I" : Cond) ∈ CM := List.mem_of_getElem? (i := 523) rfl
theorem cm_524 : (.methodLink RX8 224 yX1_open : Cond) ∈ CM := List.mem_of_getElem? (i := 524) rfl
theorem cm_525 : (.instanceMethod yX1_open : Cond) ∈ CM := List.mem_of_getElem? (i := 525) rfl
theorem cm_526 : (.selects RX1 yX1_open yX1_open : Cond) ∈ CM := List.mem_of_getElem? (i := 526) rfl
theorem cm_527 : (.methodLink RX8 220 yX1_grow : Cond) ∈ CM := List.mem_of_getElem? (i := 527) rfl
theorem cm_528 : (.instanceMethod yX1_grow : Cond) ∈ CM := List.mem_of_getElem? (i := 528) rfl
theorem cm_529 : (.selects RX1 yX1_grow yX1_grow : Cond) ∈ CM := List.mem_of_getElem? (i := 529) rfl
theorem cm_530 : (.code yX8_isState cX8_isState 2 (some .boolean) : Cond) ∈ CM := List.mem_of_getElem? (i := 530) rfl
theorem cm_531 : (.code yX8_state cX8_state 3 (some .int) : Cond) ∈ CM := List.mem_of_getElem? (i := 531) rfl
theorem cm_532 : (.fieldLink RX8 231 "ClockReach$Graph" "sites" "[I" : Cond) ∈ CM := List.mem_of_getElem? (i := 532) rfl
theorem cm_533 : (.fieldLink RX8 234 "ClockReach$Graph" "parents" "[I" : Cond) ∈ CM := List.mem_of_getElem? (i := 533) rfl
theorem cm_534 : (.fieldLink RX8 237 "ClockReach$Graph" "entries" "[I" : Cond) ∈ CM := List.mem_of_getElem? (i := 534) rfl
theorem cm_535 : (.fieldLink RX8 240 "ClockReach$Graph" "depths" "[I" : Cond) ∈ CM := List.mem_of_getElem? (i := 535) rfl
theorem cm_536 : (.fieldLink RX8 243 "ClockReach$Graph" "broods" "[I" : Cond) ∈ CM := List.mem_of_getElem? (i := 536) rfl
theorem cm_537 : (.methodLink RX8 228 yX8_isState : Cond) ∈ CM := List.mem_of_getElem? (i := 537) rfl
theorem cm_538 : (.instanceMethod yX8_isState : Cond) ∈ CM := List.mem_of_getElem? (i := 538) rfl
theorem cm_539 : (.selects RX8 yX8_isState yX8_isState : Cond) ∈ CM := List.mem_of_getElem? (i := 539) rfl
theorem cm_540 : (.methodLink RX8 246 yX8_isStuck : Cond) ∈ CM := List.mem_of_getElem? (i := 540) rfl
theorem cm_541 : (.instanceMethod yX8_isStuck : Cond) ∈ CM := List.mem_of_getElem? (i := 541) rfl
theorem cm_542 : (.selects RX8 yX8_isStuck yX8_isStuck : Cond) ∈ CM := List.mem_of_getElem? (i := 542) rfl
theorem cm_543 : (.code yX8_isStuck cX8_isStuck 5 (some .boolean) : Cond) ∈ CM := List.mem_of_getElem? (i := 543) rfl
theorem cm_544 : (.fieldLink RX8 249 "ClockReach$Graph" "zones" "[LClockReach$Zone;" : Cond) ∈ CM := List.mem_of_getElem? (i := 544) rfl
theorem cm_545 : (.fieldLink RX8 55 "ClockReach" "remainder" "LClockReach$Remainder;" : Cond) ∈ CM := List.mem_of_getElem? (i := 545) rfl
theorem cm_546 : (.fieldLink RX8 256 "ClockReach$Zone" "size" "I" : Cond) ∈ CM := List.mem_of_getElem? (i := 546) rfl
theorem cm_547 : (.methodLink RX8 253 yX5_clear : Cond) ∈ CM := List.mem_of_getElem? (i := 547) rfl
theorem cm_548 : (.instanceMethod yX5_clear : Cond) ∈ CM := List.mem_of_getElem? (i := 548) rfl
theorem cm_549 : (.selects RX5 yX5_clear yX5_clear : Cond) ∈ CM := List.mem_of_getElem? (i := 549) rfl
theorem cm_550 : (.methodLink RX8 261 yX5_addLeaving : Cond) ∈ CM := List.mem_of_getElem? (i := 550) rfl
theorem cm_551 : (.instanceMethod yX5_addLeaving : Cond) ∈ CM := List.mem_of_getElem? (i := 551) rfl
theorem cm_552 : (.selects RX5 yX5_addLeaving yX5_addLeaving : Cond) ∈ CM := List.mem_of_getElem? (i := 552) rfl
theorem cm_553 : (.methodLink RX8 265 yX5_leavesAny : Cond) ∈ CM := List.mem_of_getElem? (i := 553) rfl
theorem cm_554 : (.instanceMethod yX5_leavesAny : Cond) ∈ CM := List.mem_of_getElem? (i := 554) rfl
theorem cm_555 : (.selects RX5 yX5_leavesAny yX5_leavesAny : Cond) ∈ CM := List.mem_of_getElem? (i := 555) rfl
theorem cm_556 : (.code yX8_bound cX8_bound 7 (some .int) : Cond) ∈ CM := List.mem_of_getElem? (i := 556) rfl
theorem cm_557 : (.constant RX8 271 (-2147483648) : Cond) ∈ CM := List.mem_of_getElem? (i := 557) rfl
theorem cm_558 : (.constant RX8 275 (2147483647) : Cond) ∈ CM := List.mem_of_getElem? (i := 558) rfl
theorem cm_559 : (.methodLink RX8 272 yX7_cellOf : Cond) ∈ CM := List.mem_of_getElem? (i := 559) rfl
theorem cm_560 : (.code yX8_within cX8_within 3 (some .int) : Cond) ∈ CM := List.mem_of_getElem? (i := 560) rfl
theorem cm_561 : (.methodLink RX8 276 yX7_holdsAll : Cond) ∈ CM := List.mem_of_getElem? (i := 561) rfl
theorem cm_562 : (.code yX8_has cX8_has 5 (some .int) : Cond) ∈ CM := List.mem_of_getElem? (i := 562) rfl
theorem cm_563 : (.fieldLink RX8 76 "ClockReach" "sample" "[I" : Cond) ∈ CM := List.mem_of_getElem? (i := 563) rfl
theorem cm_564 : (.methodLink RX8 279 yX7_holdsTimes : Cond) ∈ CM := List.mem_of_getElem? (i := 564) rfl
theorem cm_565 : (.instanceMethod yX7_holdsTimes : Cond) ∈ CM := List.mem_of_getElem? (i := 565) rfl
theorem cm_566 : (.selects RX7 yX7_holdsTimes yX7_holdsTimes : Cond) ∈ CM := List.mem_of_getElem? (i := 566) rfl
theorem cm_567 : (.code yX8_first cX8_first 2 (some .int) : Cond) ∈ CM := List.mem_of_getElem? (i := 567) rfl
theorem cm_568 : (.methodLink RX8 283 yX1_firstAt : Cond) ∈ CM := List.mem_of_getElem? (i := 568) rfl
theorem cm_569 : (.instanceMethod yX1_firstAt : Cond) ∈ CM := List.mem_of_getElem? (i := 569) rfl
theorem cm_570 : (.selects RX1 yX1_firstAt yX1_firstAt : Cond) ∈ CM := List.mem_of_getElem? (i := 570) rfl
theorem cm_571 : (.code yX8_reached cX8_reached 1 (some .int) : Cond) ∈ CM := List.mem_of_getElem? (i := 571) rfl
theorem cm_572 : (.methodLink RX8 286 yX1_allSites : Cond) ∈ CM := List.mem_of_getElem? (i := 572) rfl
theorem cm_573 : (.instanceMethod yX1_allSites : Cond) ∈ CM := List.mem_of_getElem? (i := 573) rfl
theorem cm_574 : (.selects RX1 yX1_allSites yX1_allSites : Cond) ∈ CM := List.mem_of_getElem? (i := 574) rfl
theorem cm_575 : (.code yX8_taken cX8_taken 1 (some .int) : Cond) ∈ CM := List.mem_of_getElem? (i := 575) rfl
theorem cm_576 : (.fieldLink RX8 289 "ClockReach$Graph" "crossed" "I" : Cond) ∈ CM := List.mem_of_getElem? (i := 576) rfl
theorem cm_577 : (.code yX8_overlap cX8_overlap 3 (some .int) : Cond) ∈ CM := List.mem_of_getElem? (i := 577) rfl
theorem cm_578 : (.methodLink RX8 292 yX5_meet : Cond) ∈ CM := List.mem_of_getElem? (i := 578) rfl
theorem cm_579 : (.code yX8_covered cX8_covered 3 (some .int) : Cond) ∈ CM := List.mem_of_getElem? (i := 579) rfl
theorem cm_580 : (.methodLink RX8 296 yX5_add : Cond) ∈ CM := List.mem_of_getElem? (i := 580) rfl
theorem cm_581 : (.code yX8_points cX8_points 2 (some .int) : Cond) ∈ CM := List.mem_of_getElem? (i := 581) rfl
theorem cm_582 : (.methodLink RX8 300 yX7_wholeValues : Cond) ∈ CM := List.mem_of_getElem? (i := 582) rfl
theorem cm_583 : (.instanceMethod yX7_wholeValues : Cond) ∈ CM := List.mem_of_getElem? (i := 583) rfl
theorem cm_584 : (.selects RX7 yX7_wholeValues yX7_wholeValues : Cond) ∈ CM := List.mem_of_getElem? (i := 584) rfl
theorem cm_585 : (.code yX8_rings cX8_rings 1 (some .int) : Cond) ∈ CM := List.mem_of_getElem? (i := 585) rfl
theorem cm_586 : (.methodLink RX8 304 yX0_hurriedRings : Cond) ∈ CM := List.mem_of_getElem? (i := 586) rfl
theorem cm_587 : (.instanceMethod yX0_hurriedRings : Cond) ∈ CM := List.mem_of_getElem? (i := 587) rfl
theorem cm_588 : (.selects RX0 yX0_hurriedRings yX0_hurriedRings : Cond) ∈ CM := List.mem_of_getElem? (i := 588) rfl
theorem cm_589 : (.code yX8_from cX8_from 7 (some .int) : Cond) ∈ CM := List.mem_of_getElem? (i := 589) rfl
theorem cm_590 : (.fieldLink RX8 46 "ClockReach" "tried" "LClockReach$Graph;" : Cond) ∈ CM := List.mem_of_getElem? (i := 590) rfl
theorem cm_591 : (.fieldLink RX8 307 "ClockReach$Graph" "goal" "I" : Cond) ∈ CM := List.mem_of_getElem? (i := 591) rfl
theorem cm_592 : (.fieldLink RX8 310 "ClockReach$Graph" "found" "Z" : Cond) ∈ CM := List.mem_of_getElem? (i := 592) rfl
theorem cm_593 : (.code yX8_avoids cX8_avoids 3 (some .int) : Cond) ∈ CM := List.mem_of_getElem? (i := 593) rfl
theorem cm_594 : (.methodLink RX8 313 yX8_canReach : Cond) ∈ CM := List.mem_of_getElem? (i := 594) rfl
theorem cm_595 : (.instanceMethod yX8_canReach : Cond) ∈ CM := List.mem_of_getElem? (i := 595) rfl
theorem cm_596 : (.selects RX8 yX8_canReach yX8_canReach : Cond) ∈ CM := List.mem_of_getElem? (i := 596) rfl
theorem cm_597 : (.code yX8_canReach cX8_canReach 3 (some .boolean) : Cond) ∈ CM := List.mem_of_getElem? (i := 597) rfl
theorem cm_598 : (.fieldLink RX8 317 "ClockReach$Graph" "avoided" "I" : Cond) ∈ CM := List.mem_of_getElem? (i := 598) rfl
theorem cm_599 : (.code yX8_isStep cX8_isStep 3 (some .boolean) : Cond) ∈ CM := List.mem_of_getElem? (i := 599) rfl
theorem cm_600 : (.code yX8_run cX8_run 3 (some .int) : Cond) ∈ CM := List.mem_of_getElem? (i := 600) rfl
theorem cm_601 : (.fieldLink RX8 62 "ClockReach" "timing" "LClockReach$Timing;" : Cond) ∈ CM := List.mem_of_getElem? (i := 601) rfl
theorem cm_602 : (.fieldLink RX8 327 "ClockReach$Timing" "path" "[I" : Cond) ∈ CM := List.mem_of_getElem? (i := 602) rfl
theorem cm_603 : (.methodLink RX8 320 yX8_isStep : Cond) ∈ CM := List.mem_of_getElem? (i := 603) rfl
theorem cm_604 : (.instanceMethod yX8_isStep : Cond) ∈ CM := List.mem_of_getElem? (i := 604) rfl
theorem cm_605 : (.selects RX8 yX8_isStep yX8_isStep : Cond) ∈ CM := List.mem_of_getElem? (i := 605) rfl
theorem cm_606 : (.methodLink RX8 323 yX6_loadRun : Cond) ∈ CM := List.mem_of_getElem? (i := 606) rfl
theorem cm_607 : (.instanceMethod yX6_loadRun : Cond) ∈ CM := List.mem_of_getElem? (i := 607) rfl
theorem cm_608 : (.selects RX6 yX6_loadRun yX6_loadRun : Cond) ∈ CM := List.mem_of_getElem? (i := 608) rfl
theorem cm_609 : (.code yX8_timesRun cX8_timesRun 2 (some .boolean) : Cond) ∈ CM := List.mem_of_getElem? (i := 609) rfl
theorem cm_610 : (.methodLink RX8 330 yX6_layRules : Cond) ∈ CM := List.mem_of_getElem? (i := 610) rfl
theorem cm_611 : (.instanceMethod yX6_layRules : Cond) ∈ CM := List.mem_of_getElem? (i := 611) rfl
theorem cm_612 : (.selects RX6 yX6_layRules yX6_layRules : Cond) ∈ CM := List.mem_of_getElem? (i := 612) rfl
theorem cm_613 : (.methodLink RX8 333 yX6_findsLeast : Cond) ∈ CM := List.mem_of_getElem? (i := 613) rfl
theorem cm_614 : (.instanceMethod yX6_findsLeast : Cond) ∈ CM := List.mem_of_getElem? (i := 614) rfl
theorem cm_615 : (.selects RX6 yX6_findsLeast yX6_findsLeast : Cond) ∈ CM := List.mem_of_getElem? (i := 615) rfl
theorem cm_616 : (.code yX8_when cX8_when 3 (some .int) : Cond) ∈ CM := List.mem_of_getElem? (i := 616) rfl
theorem cm_617 : (.fieldLink RX8 340 "ClockReach$Timing" "at" "[I" : Cond) ∈ CM := List.mem_of_getElem? (i := 617) rfl
theorem cm_618 : (.methodLink RX8 337 yX8_timesRun : Cond) ∈ CM := List.mem_of_getElem? (i := 618) rfl
theorem cm_619 : (.instanceMethod yX8_timesRun : Cond) ∈ CM := List.mem_of_getElem? (i := 619) rfl
theorem cm_620 : (.selects RX8 yX8_timesRun yX8_timesRun : Cond) ∈ CM := List.mem_of_getElem? (i := 620) rfl
theorem cm_621 : (.code yX8_then cX8_then 4 (some .int) : Cond) ∈ CM := List.mem_of_getElem? (i := 621) rfl
theorem cm_622 : (.methodLink RX8 343 yX6_clockBehind : Cond) ∈ CM := List.mem_of_getElem? (i := 622) rfl
theorem cm_623 : (.instanceMethod yX6_clockBehind : Cond) ∈ CM := List.mem_of_getElem? (i := 623) rfl
theorem cm_624 : (.selects RX6 yX6_clockBehind yX6_clockBehind : Cond) ∈ CM := List.mem_of_getElem? (i := 624) rfl
theorem cm_625 : (.code yX8_spans cX8_spans 3 (some .int) : Cond) ∈ CM := List.mem_of_getElem? (i := 625) rfl
theorem cm_626 : (.methodLink RX8 347 yX6_spanOf : Cond) ∈ CM := List.mem_of_getElem? (i := 626) rfl
theorem cm_627 : (.instanceMethod yX6_spanOf : Cond) ∈ CM := List.mem_of_getElem? (i := 627) rfl
theorem cm_628 : (.selects RX6 yX6_spanOf yX6_spanOf : Cond) ∈ CM := List.mem_of_getElem? (i := 628) rfl
theorem cm_629 : (.code yX8_tells cX8_tells 10 (some .int) : Cond) ∈ CM := List.mem_of_getElem? (i := 629) rfl
theorem cm_630 : (.fieldLink RX8 351 "ClockReach$Timing" "length" "I" : Cond) ∈ CM := List.mem_of_getElem? (i := 630) rfl
theorem cm_631 : (.code yX8_latest cX8_latest 4 (some .int) : Cond) ∈ CM := List.mem_of_getElem? (i := 631) rfl
theorem cm_632 : (.methodLink RX8 354 yX6_findsGreatest : Cond) ∈ CM := List.mem_of_getElem? (i := 632) rfl
theorem cm_633 : (.instanceMethod yX6_findsGreatest : Cond) ∈ CM := List.mem_of_getElem? (i := 633) rfl
theorem cm_634 : (.selects RX6 yX6_findsGreatest yX6_findsGreatest : Cond) ∈ CM := List.mem_of_getElem? (i := 634) rfl
theorem cm_635 : (.code yX8_soonest cX8_soonest 4 (some .int) : Cond) ∈ CM := List.mem_of_getElem? (i := 635) rfl
theorem cm_636 : (.fieldLink RX8 49 "ClockReach" "soon" "LClockReach$Graph;" : Cond) ∈ CM := List.mem_of_getElem? (i := 636) rfl
theorem cm_637 : (.methodLink RX8 357 yX1_loosestAt : Cond) ∈ CM := List.mem_of_getElem? (i := 637) rfl
theorem cm_638 : (.instanceMethod yX1_loosestAt : Cond) ∈ CM := List.mem_of_getElem? (i := 638) rfl
theorem cm_639 : (.selects RX1 yX1_loosestAt yX1_loosestAt : Cond) ∈ CM := List.mem_of_getElem? (i := 639) rfl
theorem cm_640 : (.code yX8_lets cX8_lets 10 (some .int) : Cond) ∈ CM := List.mem_of_getElem? (i := 640) rfl
theorem cm_641 : (.code yX8_begin cX8_begin 1 (some .int) : Cond) ∈ CM := List.mem_of_getElem? (i := 641) rfl
theorem cm_642 : (.fieldLink RX8 364 "ClockReach$Play" "site" "I" : Cond) ∈ CM := List.mem_of_getElem? (i := 642) rfl
theorem cm_643 : (.methodLink RX8 361 yX3_startsIn : Cond) ∈ CM := List.mem_of_getElem? (i := 643) rfl
theorem cm_644 : (.instanceMethod yX3_startsIn : Cond) ∈ CM := List.mem_of_getElem? (i := 644) rfl
theorem cm_645 : (.selects RX3 yX3_startsIn yX3_startsIn : Cond) ∈ CM := List.mem_of_getElem? (i := 645) rfl
theorem cm_646 : (.code yX8_waits cX8_waits 2 (some .boolean) : Cond) ∈ CM := List.mem_of_getElem? (i := 646) rfl
theorem cm_647 : (.methodLink RX8 367 yX3_longestWait : Cond) ∈ CM := List.mem_of_getElem? (i := 647) rfl
theorem cm_648 : (.methodLink RX8 371 yX3_pass : Cond) ∈ CM := List.mem_of_getElem? (i := 648) rfl
theorem cm_649 : (.code yX8_takes cX8_takes 2 (some .int) : Cond) ∈ CM := List.mem_of_getElem? (i := 649) rfl
theorem cm_650 : (.methodLink RX8 374 yX3_opens : Cond) ∈ CM := List.mem_of_getElem? (i := 650) rfl
theorem cm_651 : (.methodLink RX8 378 yX3_cross : Cond) ∈ CM := List.mem_of_getElem? (i := 651) rfl
theorem cm_652 : (.code yX8_now cX8_now 2 (some .int) : Cond) ∈ CM := List.mem_of_getElem? (i := 652) rfl
theorem cm_653 : (.fieldLink RX8 382 "ClockReach$Play" "time" "I" : Cond) ∈ CM := List.mem_of_getElem? (i := 653) rfl
theorem cm_654 : (.methodLink RX8 385 yX3_openEdges : Cond) ∈ CM := List.mem_of_getElem? (i := 654) rfl
theorem cm_655 : (.instanceMethod yX3_openEdges : Cond) ∈ CM := List.mem_of_getElem? (i := 655) rfl
theorem cm_656 : (.selects RX3 yX3_openEdges yX3_openEdges : Cond) ∈ CM := List.mem_of_getElem? (i := 656) rfl
theorem cm_657 : (.code yX8_replays cX8_replays 3 (some .boolean) : Cond) ∈ CM := List.mem_of_getElem? (i := 657) rfl
theorem cm_658 : (.methodLink RX8 394 yX3_goesBy : Cond) ∈ CM := List.mem_of_getElem? (i := 658) rfl
theorem cm_659 : (.instanceMethod yX3_goesBy : Cond) ∈ CM := List.mem_of_getElem? (i := 659) rfl
theorem cm_660 : (.selects RX3 yX3_goesBy yX3_goesBy : Cond) ∈ CM := List.mem_of_getElem? (i := 660) rfl
theorem cm_X0 {w : Cond} (h : w ∈ wsX00) : w ∈ CM := List.mem_append_right _ (List.mem_append_left _ h)
theorem cm_X1 {w : Cond} (h : w ∈ wsX10) : w ∈ CM := List.mem_append_right _ (List.mem_append_right _ (List.mem_append_left _ h))
theorem cm_X2 {w : Cond} (h : w ∈ wsX20) : w ∈ CM := List.mem_append_right _ (List.mem_append_right _ (List.mem_append_right _ (List.mem_append_left _ h)))
theorem cm_X3 {w : Cond} (h : w ∈ wsX30) : w ∈ CM := List.mem_append_right _ (List.mem_append_right _ (List.mem_append_right _ (List.mem_append_right _ (List.mem_append_left _ h))))
theorem cm_X4 {w : Cond} (h : w ∈ wsX40) : w ∈ CM := List.mem_append_right _ (List.mem_append_right _ (List.mem_append_right _ (List.mem_append_right _ (List.mem_append_right _ (List.mem_append_left _ h)))))
theorem cm_X5 {w : Cond} (h : w ∈ wsX50) : w ∈ CM := List.mem_append_right _ (List.mem_append_right _ (List.mem_append_right _ (List.mem_append_right _ (List.mem_append_right _ (List.mem_append_right _ (List.mem_append_left _ h))))))
theorem cm_X6 {w : Cond} (h : w ∈ wsX60) : w ∈ CM := List.mem_append_right _ (List.mem_append_right _ (List.mem_append_right _ (List.mem_append_right _ (List.mem_append_right _ (List.mem_append_right _ (List.mem_append_right _ (List.mem_append_left _ h)))))))
theorem cm_X7 {w : Cond} (h : w ∈ wsX70) : w ∈ CM := List.mem_append_right _ (List.mem_append_right _ (List.mem_append_right _ (List.mem_append_right _ (List.mem_append_right _ (List.mem_append_right _ (List.mem_append_right _ (List.mem_append_right _ (List.mem_append_left _ h))))))))
theorem cm_X8 {w : Cond} (h : w ∈ wsX80) : w ∈ CM := List.mem_append_right _ (List.mem_append_right _ (List.mem_append_right _ (List.mem_append_right _ (List.mem_append_right _ (List.mem_append_right _ (List.mem_append_right _ (List.mem_append_right _ (List.mem_append_right _ (h)))))))))
theorem cm_all : CM.all goodWord = true := by decide +kernel
theorem cm_good {w : Cond} (h : w ∈ CM) : (w.onTables && w.keeps) = true ∨ ∃ ty, w = .arrayClass ty := good_of_word (List.all_eq_true.mp cm_all w h)
theorem cm_g0 {c0 : Cond} {ws : List Cond} (h : ∀ w ∈ ws, w ∈ CM) : GoodIn (c0 :: CM) ws := fun w hw => ⟨List.mem_cons_of_mem _ (h w hw), cm_good (h w hw)⟩
theorem cm_gV {c0 k0 : Cond} {own C : String} {i : Nat} {y : MethodName} (h1 : (.methodLink own i y : Cond) ∈ CM) (h2 : (.instanceMethod y : Cond) ∈ CM) (h3 : (.selects C y y : Cond) ∈ CM) (h4 : (.initialized C : Cond) ∈ CM) (h5 : k0 ∈ CM) : GoodIn (c0 :: CM) (wsV own i C y (k0 :: CM)) := cm_g0 (fun w h => by
  rcases List.mem_cons.mp h with rfl | h
  · exact h1
  rcases List.mem_cons.mp h with rfl | h
  · exact h2
  rcases List.mem_cons.mp h with rfl | h
  · exact h3
  rcases List.mem_cons.mp h with rfl | h
  · exact h4
  rcases List.mem_cons.mp h with rfl | h
  · exact h5
  exact h)
theorem cm_gS {c0 k0 : Cond} {own : String} {i : Nat} {y : MethodName} (h1 : (.methodLink own i y : Cond) ∈ CM) (h2 : (.static y : Cond) ∈ CM) (h4 : (.initialized y.cls : Cond) ∈ CM) (h5 : k0 ∈ CM) : GoodIn (c0 :: CM) (va_wsS own i y (k0 :: CM)) := cm_g0 (fun w h => by
  rcases List.mem_cons.mp h with rfl | h
  · exact h1
  rcases List.mem_cons.mp h with rfl | h
  · exact h2
  rcases List.mem_cons.mp h with rfl | h
  · exact h4
  rcases List.mem_cons.mp h with rfl | h
  · exact h5
  exact h)
