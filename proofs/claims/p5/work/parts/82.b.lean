theorem dX8_init_0 : decode cX8_init 0 = .ok (.aload_n 0, 1) := by decide +kernel
theorem dX8_init_1 : decode cX8_init 1 = .ok (.invokespecial 1, 3) := by decide +kernel
theorem dX8_init_4 : decode cX8_init 4 = .ok (.aload_n 0, 1) := by decide +kernel
theorem dX8_init_5 : decode cX8_init 5 = .ok (.sipush 900, 3) := by decide +kernel
theorem dX8_init_8 : decode cX8_init 8 = .ok (.newarray .int, 2) := by decide +kernel
theorem dX8_init_10 : decode cX8_init 10 = .ok (.putfield 9, 3) := by decide +kernel
theorem dX8_init_13 : decode cX8_init 13 = .ok (.aload_n 0, 1) := by decide +kernel
theorem dX8_init_14 : decode cX8_init 14 = .ok (.new 13, 3) := by decide +kernel
theorem dX8_init_17 : decode cX8_init 17 = .ok (.dup, 1) := by decide +kernel
theorem dX8_init_18 : decode cX8_init 18 = .ok (.invokespecial 15, 3) := by decide +kernel
theorem dX8_init_21 : decode cX8_init 21 = .ok (.putfield 16, 3) := by decide +kernel
theorem dX8_init_24 : decode cX8_init 24 = .ok (.aload_n 0, 1) := by decide +kernel
theorem dX8_init_25 : decode cX8_init 25 = .ok (.new 20, 3) := by decide +kernel
theorem dX8_init_28 : decode cX8_init 28 = .ok (.dup, 1) := by decide +kernel
theorem dX8_init_29 : decode cX8_init 29 = .ok (.invokespecial 22, 3) := by decide +kernel
theorem dX8_init_32 : decode cX8_init 32 = .ok (.putfield 23, 3) := by decide +kernel
theorem dX8_init_35 : decode cX8_init 35 = .ok (.aload_n 0, 1) := by decide +kernel
theorem dX8_init_36 : decode cX8_init 36 = .ok (.new 20, 3) := by decide +kernel
theorem dX8_init_39 : decode cX8_init 39 = .ok (.dup, 1) := by decide +kernel
theorem dX8_init_40 : decode cX8_init 40 = .ok (.invokespecial 22, 3) := by decide +kernel
theorem dX8_init_43 : decode cX8_init 43 = .ok (.putfield 27, 3) := by decide +kernel
theorem dX8_init_46 : decode cX8_init 46 = .ok (.aload_n 0, 1) := by decide +kernel
theorem dX8_init_47 : decode cX8_init 47 = .ok (.new 30, 3) := by decide +kernel
theorem dX8_init_50 : decode cX8_init 50 = .ok (.dup, 1) := by decide +kernel
theorem dX8_init_51 : decode cX8_init 51 = .ok (.invokespecial 32, 3) := by decide +kernel
theorem dX8_init_54 : decode cX8_init 54 = .ok (.putfield 33, 3) := by decide +kernel
theorem dX8_init_57 : decode cX8_init 57 = .ok (.aload_n 0, 1) := by decide +kernel
theorem dX8_init_58 : decode cX8_init 58 = .ok (.new 37, 3) := by decide +kernel
theorem dX8_init_61 : decode cX8_init 61 = .ok (.dup, 1) := by decide +kernel
theorem dX8_init_62 : decode cX8_init 62 = .ok (.bipush 120, 2) := by decide +kernel
theorem dX8_init_64 : decode cX8_init 64 = .ok (.iconst 4, 1) := by decide +kernel
theorem dX8_init_65 : decode cX8_init 65 = .ok (.invokespecial 39, 3) := by decide +kernel
theorem dX8_init_68 : decode cX8_init 68 = .ok (.putfield 42, 3) := by decide +kernel
theorem dX8_init_71 : decode cX8_init 71 = .ok (.aload_n 0, 1) := by decide +kernel
theorem dX8_init_72 : decode cX8_init 72 = .ok (.new 37, 3) := by decide +kernel
theorem dX8_init_75 : decode cX8_init 75 = .ok (.dup, 1) := by decide +kernel
theorem dX8_init_76 : decode cX8_init 76 = .ok (.bipush 120, 2) := by decide +kernel
theorem dX8_init_78 : decode cX8_init 78 = .ok (.iconst 4, 1) := by decide +kernel
theorem dX8_init_79 : decode cX8_init 79 = .ok (.invokespecial 39, 3) := by decide +kernel
theorem dX8_init_82 : decode cX8_init 82 = .ok (.putfield 46, 3) := by decide +kernel
theorem dX8_init_85 : decode cX8_init 85 = .ok (.aload_n 0, 1) := by decide +kernel
theorem dX8_init_86 : decode cX8_init 86 = .ok (.new 37, 3) := by decide +kernel
theorem dX8_init_89 : decode cX8_init 89 = .ok (.dup, 1) := by decide +kernel
theorem dX8_init_90 : decode cX8_init 90 = .ok (.sipush 400, 3) := by decide +kernel
theorem dX8_init_93 : decode cX8_init 93 = .ok (.iconst 5, 1) := by decide +kernel
theorem dX8_init_94 : decode cX8_init 94 = .ok (.invokespecial 39, 3) := by decide +kernel
theorem dX8_init_97 : decode cX8_init 97 = .ok (.putfield 49, 3) := by decide +kernel
theorem dX8_init_100 : decode cX8_init 100 = .ok (.aload_n 0, 1) := by decide +kernel
theorem dX8_init_101 : decode cX8_init 101 = .ok (.new 52, 3) := by decide +kernel
theorem dX8_init_104 : decode cX8_init 104 = .ok (.dup, 1) := by decide +kernel
theorem dX8_init_105 : decode cX8_init 105 = .ok (.invokespecial 54, 3) := by decide +kernel
theorem dX8_init_108 : decode cX8_init 108 = .ok (.putfield 55, 3) := by decide +kernel
theorem dX8_init_111 : decode cX8_init 111 = .ok (.aload_n 0, 1) := by decide +kernel
theorem dX8_init_112 : decode cX8_init 112 = .ok (.new 59, 3) := by decide +kernel
theorem dX8_init_115 : decode cX8_init 115 = .ok (.dup, 1) := by decide +kernel
theorem dX8_init_116 : decode cX8_init 116 = .ok (.invokespecial 61, 3) := by decide +kernel
theorem dX8_init_119 : decode cX8_init 119 = .ok (.putfield 62, 3) := by decide +kernel
theorem dX8_init_122 : decode cX8_init 122 = .ok (.aload_n 0, 1) := by decide +kernel
theorem dX8_init_123 : decode cX8_init 123 = .ok (.new 66, 3) := by decide +kernel
theorem dX8_init_126 : decode cX8_init 126 = .ok (.dup, 1) := by decide +kernel
theorem dX8_init_127 : decode cX8_init 127 = .ok (.invokespecial 68, 3) := by decide +kernel
theorem dX8_init_130 : decode cX8_init 130 = .ok (.putfield 69, 3) := by decide +kernel
theorem dX8_init_133 : decode cX8_init 133 = .ok (.aload_n 0, 1) := by decide +kernel
theorem dX8_init_134 : decode cX8_init 134 = .ok (.iconst 5, 1) := by decide +kernel
theorem dX8_init_135 : decode cX8_init 135 = .ok (.newarray .int, 2) := by decide +kernel
theorem dX8_init_137 : decode cX8_init 137 = .ok (.putfield 73, 3) := by decide +kernel
theorem dX8_init_140 : decode cX8_init 140 = .ok (.aload_n 0, 1) := by decide +kernel
theorem dX8_init_141 : decode cX8_init 141 = .ok (.iconst 4, 1) := by decide +kernel
theorem dX8_init_142 : decode cX8_init 142 = .ok (.newarray .int, 2) := by decide +kernel
theorem dX8_init_144 : decode cX8_init 144 = .ok (.putfield 76, 3) := by decide +kernel
theorem dX8_init_147 : decode cX8_init 147 = .ok (.return_, 1) := by decide +kernel
def vs_X8_init : List Cond := .code yX8_init cX8_init 1 none :: ([.methodLink RX8 1 objectInit, .instanceMethod objectInit, .code objectInit ⟨#[0xb1]⟩ 1 none, .arrayClass .int, .fieldLink RX8 9 "ClockReach" "tape" "[I", .classLink RX8 13 RX4, .instantiable RX4 12, .initialized RX4, .code yX4_init cX4_init 1 none, .methodLink RX4 3 objectInit, .fieldLink RX4 9 "ClockReach$Reader" "faultAt" "I", .methodLink RX4 17 yX4_code, .static yX4_code, .code yX4_code cX4_code 3 (some .int), .methodLink RX4 45 yJ0_length_8abf5, .instanceMethod yJ0_length_8abf5, .selects RJ0 yJ0_length_8abf5 yJ0_length_8abf5, .initialized RJ0, .code yJ0_length_8abf5 cJ0_length_8abf5 1 (some .int), .fieldLink RJ0 9 "java/lang/String" "value" "[B", .methodLink RJ0 335 yJ0_coder_7d493, .instanceMethod yJ0_coder_7d493, .selects RJ0 yJ0_coder_7d493 yJ0_coder_7d493, .code yJ0_coder_7d493 cJ0_coder_7d493 1 (some .byte), .fieldLink RJ0 38 "java/lang/String" "COMPACT_STRINGS" "Z", .fieldLink RJ0 15 "java/lang/String" "coder" "B", .methodLink RX4 51 yJ0_charAt_5068e, .instanceMethod yJ0_charAt_5068e, .selects RJ0 yJ0_charAt_5068e yJ0_charAt_5068e, .code yJ0_charAt_5068e cJ0_charAt_5068e 2 (some .char), .methodLink RJ0 492 yJ0_isLatin1_aae02, .instanceMethod yJ0_isLatin1_aae02, .selects RJ0 yJ0_isLatin1_aae02 yJ0_isLatin1_aae02, .code yJ0_isLatin1_aae02 cJ0_isLatin1_aae02 1 (some .boolean), .methodLink RJ0 495 yJ1_charAt_3b067, .static yJ1_charAt_3b067, .initialized RJ1, .code yJ1_charAt_3b067 cJ1_charAt_3b067 2 (some .char), .methodLink RJ1 9 yJ0_checkIndex_df160, .static yJ0_checkIndex_df160, .code yJ0_checkIndex_df160 cJ0_checkIndex_df160 2 none, .fieldLink RJ0 1053 "jdk/internal/util/Preconditions" "SIOOBE_FORMATTER" "Ljava/util/function/BiFunction;", .methodLink RJ0 1059 yJ3_checkIndex_8e157, .static yJ3_checkIndex_8e157, .initialized RJ3, .code yJ3_checkIndex_8e157 cJ3_checkIndex_8e157 3 (some .int), .fieldLink RX4 35 "ClockReach$Reader" "words" "[I", .fieldLink RX4 39 "ClockReach$Reader" "clockNames" "[I", .fieldLink RX4 42 "ClockReach$Reader" "placeNames" "[I", .methodLink RX8 15 yX4_init, .instanceMethod yX4_init, .fieldLink RX8 16 "ClockReach" "reader" "LClockReach$Reader;", .classLink RX8 20 RX0, .instantiable RX0 17, .initialized RX0, .code yX0_init cX0_init 1 none, .methodLink RX0 3 objectInit, .fieldLink RX0 9 "ClockReach$Automaton" "start" "I", .arrayClass .boolean, .fieldLink RX0 15 "ClockReach$Automaton" "hurried" "[Z", .fieldLink RX0 19 "ClockReach$Automaton" "sources" "[I", .fieldLink RX0 23 "ClockReach$Automaton" "targets" "[I", .fieldLink RX0 26 "ClockReach$Automaton" "resets" "[I", .fieldLink RX0 29 "ClockReach$Automaton" "counts" "[I", .fieldLink RX0 32 "ClockReach$Automaton" "conditionClocks" "[I", .fieldLink RX0 35 "ClockReach$Automaton" "hows" "[I", .fieldLink RX0 38 "ClockReach$Automaton" "numbers" "[I", .fieldLink RX0 41 "ClockReach$Automaton" "ceilings" "[I", .fieldLink RX0 44 "ClockReach$Automaton" "floors" "[I", .fieldLink RX0 47 "ClockReach$Automaton" "greatest" "[I", .fieldLink RX0 50 "ClockReach$Automaton" "lower" "[I", .fieldLink RX0 53 "ClockReach$Automaton" "upper" "[I", .methodLink RX8 22 yX0_init, .instanceMethod yX0_init, .fieldLink RX8 23 "ClockReach" "model" "LClockReach$Automaton;", .fieldLink RX8 27 "ClockReach" "draft" "LClockReach$Automaton;", .classLink RX8 30 RX2, .instantiable RX2 3, .initialized RX2, .code yX2_init cX2_init 1 none, .methodLink RX2 3 objectInit, .fieldLink RX2 9 "ClockReach$History" "codes" "[I", .fieldLink RX2 15 "ClockReach$History" "olds" "[I", .methodLink RX8 32 yX2_init, .instanceMethod yX2_init, .fieldLink RX8 33 "ClockReach" "history" "LClockReach$History;", .classLink RX8 37 RX1, .instantiable RX1 18, .initialized RX1, .code yX1_init cX1_init 4 none, .methodLink RX1 3 objectInit, .fieldLink RX1 9 "ClockReach$Graph" "most" "I", .classLink RX1 15 RX7, .fieldLink RX1 17 "ClockReach$Graph" "zones" "[LClockReach$Zone;", .fieldLink RX1 24 "ClockReach$Graph" "sites" "[I", .fieldLink RX1 28 "ClockReach$Graph" "parents" "[I", .fieldLink RX1 31 "ClockReach$Graph" "entries" "[I", .fieldLink RX1 34 "ClockReach$Graph" "depths" "[I", .fieldLink RX1 37 "ClockReach$Graph" "broods" "[I", .fieldLink RX1 40 "ClockReach$Graph" "high" "[I", .fieldLink RX1 43 "ClockReach$Graph" "low" "[I", .instantiable RX7 2, .initialized RX7, .code yX7_init cX7_init 2 none, .methodLink RX7 5 objectInit, .fieldLink RX7 11 "ClockReach$Zone" "cells" "[I", .methodLink RX1 21 yX7_init, .instanceMethod yX7_init, .methodLink RX8 39 yX1_init, .instanceMethod yX1_init, .fieldLink RX8 42 "ClockReach" "shown" "LClockReach$Graph;", .fieldLink RX8 46 "ClockReach" "tried" "LClockReach$Graph;", .fieldLink RX8 49 "ClockReach" "soon" "LClockReach$Graph;", .classLink RX8 52 RX5, .instantiable RX5 8, .initialized RX5, .code yX5_init cX5_init 2 none, .methodLink RX5 3 objectInit, .classLink RX5 9 RX7, .fieldLink RX5 11 "ClockReach$Remainder" "covers" "[LClockReach$Zone;", .fieldLink RX5 17 "ClockReach$Remainder" "made" "[LClockReach$Zone;", .fieldLink RX5 23 "ClockReach$Remainder" "pieces" "[LClockReach$Zone;", .fieldLink RX5 26 "ClockReach$Remainder" "cutting" "[I", .fieldLink RX5 30 "ClockReach$Remainder" "cells" "[I", .methodLink RX5 20 yX7_init, .fieldLink RX5 33 "ClockReach$Remainder" "scratch" "LClockReach$Zone;", .methodLink RX8 54 yX5_init, .instanceMethod yX5_init, .fieldLink RX8 55 "ClockReach" "remainder" "LClockReach$Remainder;", .classLink RX8 59 RX6, .instantiable RX6 10, .initialized RX6, .code yX6_init cX6_init 1 none, .methodLink RX6 3 objectInit, .fieldLink RX6 9 "ClockReach$Timing" "path" "[I", .fieldLink RX6 15 "ClockReach$Timing" "at" "[I", .fieldLink RX6 18 "ClockReach$Timing" "laters" "[I", .fieldLink RX6 21 "ClockReach$Timing" "earliers" "[I", .fieldLink RX6 24 "ClockReach$Timing" "gaps" "[I", .fieldLink RX6 27 "ClockReach$Timing" "since" "[I", .fieldLink RX6 30 "ClockReach$Timing" "zeros" "[I", .classLink RX6 33 RX7, .methodLink RX6 35 yX7_init, .fieldLink RX6 38 "ClockReach$Timing" "zone" "LClockReach$Zone;", .methodLink RX8 61 yX6_init, .instanceMethod yX6_init, .fieldLink RX8 62 "ClockReach" "timing" "LClockReach$Timing;", .classLink RX8 66 RX3, .instantiable RX3 5, .initialized RX3, .code yX3_init cX3_init 1 none, .methodLink RX3 3 objectInit, .fieldLink RX3 9 "ClockReach$Play" "times" "[I", .fieldLink RX3 15 "ClockReach$Play" "behind" "[I", .methodLink RX8 68 yX3_init, .instanceMethod yX3_init, .fieldLink RX8 69 "ClockReach" "play" "LClockReach$Play;", .fieldLink RX8 73 "ClockReach" "beginUnits" "[I", .fieldLink RX8 76 "ClockReach" "sample" "[I"] ++ wsX80 ++ wsX40 ++ wsX00 ++ wsX20 ++ wsX10 ++ wsX70 ++ wsX50 ++ wsX60 ++ wsX30)
theorem g_X8_init_X4_init : GoodIn vs_X8_init vs_X4_init := goodIn_r _ [9, 10, 2, 3, 11, 4, 12, 13, 8, 14, 15, 16, 17, 18, 19, 20, 21, 22, 23, 24, 25, 26, 27, 28, 29, 30, 31, 32, 33, 34, 35, 36, 37, 38, 39, 40, 41, 42, 43, 44, 45, 46, 47, 48, 49, 176, 177, 178, 179, 180, 181, 182, 183, 184, 185, 186, 187] (by decide +kernel) (by decide +kernel)
theorem g_X8_init_X0_init : GoodIn vs_X8_init vs_X0_init := goodIn_r _ [56, 57, 2, 3, 58, 59, 60, 4, 61, 62, 63, 64, 65, 66, 67, 68, 69, 70, 71, 72, 188, 189, 190, 191, 192, 193, 194, 195, 196, 197, 198, 199, 200, 201, 202, 203, 204] (by decide +kernel) (by decide +kernel)
theorem g_X8_init_X2_init : GoodIn vs_X8_init vs_X2_init := goodIn_r _ [80, 81, 2, 3, 4, 82, 83, 205, 206, 207] (by decide +kernel) (by decide +kernel)
theorem g_X8_init_X1_init_120 : GoodIn vs_X8_init vs_X1_init_120 := goodIn_r _ [90, 91, 2, 3, 92, 93, 94, 4, 95, 96, 97, 98, 99, 100, 101, 102, 103, 104, 105, 106, 107, 108, 208, 209, 210, 211, 212, 213, 214, 215, 216, 217, 218, 219, 220, 221, 222, 223, 224, 225, 226, 227] (by decide +kernel) (by decide +kernel)
theorem g_X8_init_X1_init_400 : GoodIn vs_X8_init vs_X1_init_400 := goodIn_r _ [90, 91, 2, 3, 92, 93, 94, 4, 95, 96, 97, 98, 99, 100, 101, 102, 103, 104, 105, 106, 107, 108, 208, 209, 210, 211, 212, 213, 214, 215, 216, 217, 218, 219, 220, 221, 222, 223, 224, 225, 226, 227] (by decide +kernel) (by decide +kernel)
theorem g_X8_init_X5_init : GoodIn vs_X8_init vs_X5_init := goodIn_r _ [117, 118, 2, 3, 119, 120, 121, 122, 4, 123, 124, 102, 103, 104, 105, 106, 125, 108, 126, 228, 229, 230, 231, 232, 233, 234, 235, 226, 227] (by decide +kernel) (by decide +kernel)
theorem g_X8_init_X6_init : GoodIn vs_X8_init vs_X6_init := goodIn_r _ [133, 134, 2, 3, 4, 135, 136, 137, 138, 139, 140, 141, 142, 102, 103, 104, 105, 106, 143, 108, 144, 236, 237, 238, 239, 240, 241, 242, 243, 244, 245, 226, 227] (by decide +kernel) (by decide +kernel)
theorem g_X8_init_X3_init : GoodIn vs_X8_init vs_X3_init := goodIn_r _ [151, 152, 2, 3, 4, 153, 154, 246, 247, 248, 249, 250] (by decide +kernel) (by decide +kernel)
