theorem dX9_automaton_0 : decode cX9_automaton 0 = .ok (.aload_n 0, 1) := by decide +kernel
theorem dX9_automaton_1 : decode cX9_automaton 1 = .ok (.iconst 0, 1) := by decide +kernel
theorem dX9_automaton_2 : decode cX9_automaton 2 = .ok (.putfield 142, 3) := by decide +kernel
theorem dX9_automaton_5 : decode cX9_automaton 5 = .ok (.aload_n 0, 1) := by decide +kernel
theorem dX9_automaton_6 : decode cX9_automaton 6 = .ok (.aload_n 0, 1) := by decide +kernel
theorem dX9_automaton_7 : decode cX9_automaton 7 = .ok (.getfield 145, 3) := by decide +kernel
theorem dX9_automaton_10 : decode cX9_automaton 10 = .ok (.putfield 156, 3) := by decide +kernel
theorem dX9_automaton_13 : decode cX9_automaton 13 = .ok (.aload_n 0, 1) := by decide +kernel
theorem dX9_automaton_14 : decode cX9_automaton 14 = .ok (.iconst 0, 1) := by decide +kernel
theorem dX9_automaton_15 : decode cX9_automaton 15 = .ok (.putfield 145, 3) := by decide +kernel
theorem dX9_automaton_18 : decode cX9_automaton 18 = .ok (.aload_n 0, 1) := by decide +kernel
theorem dX9_automaton_19 : decode cX9_automaton 19 = .ok (.iconst 0, 1) := by decide +kernel
theorem dX9_automaton_20 : decode cX9_automaton 20 = .ok (.putfield 159, 3) := by decide +kernel
theorem dX9_automaton_23 : decode cX9_automaton 23 = .ok (.aload_n 0, 1) := by decide +kernel
theorem dX9_automaton_24 : decode cX9_automaton 24 = .ok (.iconst 0, 1) := by decide +kernel
theorem dX9_automaton_25 : decode cX9_automaton 25 = .ok (.putfield 186, 3) := by decide +kernel
theorem dX9_automaton_28 : decode cX9_automaton 28 = .ok (.aload_n 0, 1) := by decide +kernel
theorem dX9_automaton_29 : decode cX9_automaton 29 = .ok (.iconst 1, 1) := by decide +kernel
theorem dX9_automaton_30 : decode cX9_automaton 30 = .ok (.aload_n 0, 1) := by decide +kernel
theorem dX9_automaton_31 : decode cX9_automaton 31 = .ok (.getfield 258, 3) := by decide +kernel
theorem dX9_automaton_34 : decode cX9_automaton 34 = .ok (.isub, 1) := by decide +kernel
theorem dX9_automaton_35 : decode cX9_automaton 35 = .ok (.putfield 203, 3) := by decide +kernel
theorem dX9_automaton_38 : decode cX9_automaton 38 = .ok (.aload_n 0, 1) := by decide +kernel
theorem dX9_automaton_39 : decode cX9_automaton 39 = .ok (.getfield 43, 3) := by decide +kernel
theorem dX9_automaton_42 : decode cX9_automaton 42 = .ok (.aload_n 0, 1) := by decide +kernel
theorem dX9_automaton_43 : decode cX9_automaton 43 = .ok (.getfield 203, 3) := by decide +kernel
theorem dX9_automaton_46 : decode cX9_automaton 46 = .ok (.iconst 0, 1) := by decide +kernel
theorem dX9_automaton_47 : decode cX9_automaton 47 = .ok (.iastore, 1) := by decide +kernel
theorem dX9_automaton_48 : decode cX9_automaton 48 = .ok (.aload_n 0, 1) := by decide +kernel
theorem dX9_automaton_49 : decode cX9_automaton 49 = .ok (.getfield 46, 3) := by decide +kernel
theorem dX9_automaton_52 : decode cX9_automaton 52 = .ok (.aload_n 0, 1) := by decide +kernel
theorem dX9_automaton_53 : decode cX9_automaton 53 = .ok (.getfield 203, 3) := by decide +kernel
theorem dX9_automaton_56 : decode cX9_automaton 56 = .ok (.iconst 0, 1) := by decide +kernel
theorem dX9_automaton_57 : decode cX9_automaton 57 = .ok (.iastore, 1) := by decide +kernel
theorem dX9_automaton_58 : decode cX9_automaton 58 = .ok (.aload_n 0, 1) := by decide +kernel
theorem dX9_automaton_59 : decode cX9_automaton 59 = .ok (.getfield 49, 3) := by decide +kernel
theorem dX9_automaton_62 : decode cX9_automaton 62 = .ok (.aload_n 0, 1) := by decide +kernel
theorem dX9_automaton_63 : decode cX9_automaton 63 = .ok (.getfield 203, 3) := by decide +kernel
theorem dX9_automaton_66 : decode cX9_automaton 66 = .ok (.iconst 0, 1) := by decide +kernel
theorem dX9_automaton_67 : decode cX9_automaton 67 = .ok (.iastore, 1) := by decide +kernel
theorem dX9_automaton_68 : decode cX9_automaton 68 = .ok (.aload_n 0, 1) := by decide +kernel
theorem dX9_automaton_69 : decode cX9_automaton 69 = .ok (.getfield 52, 3) := by decide +kernel
theorem dX9_automaton_72 : decode cX9_automaton 72 = .ok (.aload_n 0, 1) := by decide +kernel
theorem dX9_automaton_73 : decode cX9_automaton 73 = .ok (.getfield 203, 3) := by decide +kernel
theorem dX9_automaton_76 : decode cX9_automaton 76 = .ok (.iconst (-1), 1) := by decide +kernel
theorem dX9_automaton_77 : decode cX9_automaton 77 = .ok (.iastore, 1) := by decide +kernel
theorem dX9_automaton_78 : decode cX9_automaton 78 = .ok (.aload_n 0, 1) := by decide +kernel
theorem dX9_automaton_79 : decode cX9_automaton 79 = .ok (.invokevirtual 226, 3) := by decide +kernel
theorem dX9_automaton_82 : decode cX9_automaton 82 = .ok (.aload_n 0, 1) := by decide +kernel
theorem dX9_automaton_83 : decode cX9_automaton 83 = .ok (.invokevirtual 216, 3) := by decide +kernel
theorem dX9_automaton_86 : decode cX9_automaton 86 = .ok (.ifCond .eq 49, 3) := by decide +kernel
theorem dX9_automaton_89 : decode cX9_automaton 89 = .ok (.aload_n 0, 1) := by decide +kernel
theorem dX9_automaton_90 : decode cX9_automaton 90 = .ok (.getfield 172, 3) := by decide +kernel
theorem dX9_automaton_93 : decode cX9_automaton 93 = .ok (.ifCond .eq 42, 3) := by decide +kernel
theorem dX9_automaton_96 : decode cX9_automaton 96 = .ok (.aload_n 0, 1) := by decide +kernel
theorem dX9_automaton_97 : decode cX9_automaton 97 = .ok (.invokevirtual 261, 3) := by decide +kernel
theorem dX9_automaton_100 : decode cX9_automaton 100 = .ok (.aload_n 0, 1) := by decide +kernel
theorem dX9_automaton_101 : decode cX9_automaton 101 = .ok (.invokevirtual 216, 3) := by decide +kernel
theorem dX9_automaton_104 : decode cX9_automaton 104 = .ok (.ifCond .eq 17, 3) := by decide +kernel
theorem dX9_automaton_107 : decode cX9_automaton 107 = .ok (.aload_n 0, 1) := by decide +kernel
theorem dX9_automaton_108 : decode cX9_automaton 108 = .ok (.bipush 59, 2) := by decide +kernel
theorem dX9_automaton_110 : decode cX9_automaton 110 = .ok (.invokevirtual 235, 3) := by decide +kernel
theorem dX9_automaton_113 : decode cX9_automaton 113 = .ok (.ifCond .ne 8, 3) := by decide +kernel
theorem dX9_automaton_116 : decode cX9_automaton 116 = .ok (.aload_n 0, 1) := by decide +kernel
theorem dX9_automaton_117 : decode cX9_automaton 117 = .ok (.iconst 2, 1) := by decide +kernel
theorem dX9_automaton_118 : decode cX9_automaton 118 = .ok (.invokevirtual 210, 3) := by decide +kernel
theorem dX9_automaton_121 : decode cX9_automaton 121 = .ok (.aload_n 0, 1) := by decide +kernel
theorem dX9_automaton_122 : decode cX9_automaton 122 = .ok (.invokevirtual 216, 3) := by decide +kernel
theorem dX9_automaton_125 : decode cX9_automaton 125 = .ok (.ifCond .eq (-43), 3) := by decide +kernel
theorem dX9_automaton_128 : decode cX9_automaton 128 = .ok (.aload_n 0, 1) := by decide +kernel
theorem dX9_automaton_129 : decode cX9_automaton 129 = .ok (.invokevirtual 226, 3) := by decide +kernel
theorem dX9_automaton_132 : decode cX9_automaton 132 = .ok (.goto (-50), 3) := by decide +kernel
theorem dX9_automaton_135 : decode cX9_automaton 135 = .ok (.aload_n 0, 1) := by decide +kernel
theorem dX9_automaton_136 : decode cX9_automaton 136 = .ok (.invokevirtual 216, 3) := by decide +kernel
theorem dX9_automaton_139 : decode cX9_automaton 139 = .ok (.ifCond .eq 21, 3) := by decide +kernel
theorem dX9_automaton_142 : decode cX9_automaton 142 = .ok (.aload_n 0, 1) := by decide +kernel
theorem dX9_automaton_143 : decode cX9_automaton 143 = .ok (.getfield 46, 3) := by decide +kernel
theorem dX9_automaton_146 : decode cX9_automaton 146 = .ok (.aload_n 0, 1) := by decide +kernel
theorem dX9_automaton_147 : decode cX9_automaton 147 = .ok (.getfield 203, 3) := by decide +kernel
theorem dX9_automaton_150 : decode cX9_automaton 150 = .ok (.iaload, 1) := by decide +kernel
theorem dX9_automaton_151 : decode cX9_automaton 151 = .ok (.ifCond .ne 9, 3) := by decide +kernel
theorem dX9_automaton_154 : decode cX9_automaton 154 = .ok (.aload_n 0, 1) := by decide +kernel
theorem dX9_automaton_155 : decode cX9_automaton 155 = .ok (.bipush 6, 2) := by decide +kernel
theorem dX9_automaton_157 : decode cX9_automaton 157 = .ok (.invokevirtual 210, 3) := by decide +kernel
theorem dX9_automaton_160 : decode cX9_automaton 160 = .ok (.aload_n 0, 1) := by decide +kernel
theorem dX9_automaton_161 : decode cX9_automaton 161 = .ok (.aload_n 0, 1) := by decide +kernel
theorem dX9_automaton_162 : decode cX9_automaton 162 = .ok (.getfield 186, 3) := by decide +kernel
theorem dX9_automaton_165 : decode cX9_automaton 165 = .ok (.putfield 264, 3) := by decide +kernel
theorem dX9_automaton_168 : decode cX9_automaton 168 = .ok (.aload_n 0, 1) := by decide +kernel
theorem dX9_automaton_169 : decode cX9_automaton 169 = .ok (.aload_n 0, 1) := by decide +kernel
theorem dX9_automaton_170 : decode cX9_automaton 170 = .ok (.getfield 186, 3) := by decide +kernel
theorem dX9_automaton_173 : decode cX9_automaton 173 = .ok (.ifCond .ne 7, 3) := by decide +kernel
theorem dX9_automaton_176 : decode cX9_automaton 176 = .ok (.iconst (-1), 1) := by decide +kernel
theorem dX9_automaton_177 : decode cX9_automaton 177 = .ok (.goto 7, 3) := by decide +kernel
theorem dX9_automaton_180 : decode cX9_automaton 180 = .ok (.aload_n 0, 1) := by decide +kernel
theorem dX9_automaton_181 : decode cX9_automaton 181 = .ok (.getfield 189, 3) := by decide +kernel
theorem dX9_automaton_184 : decode cX9_automaton 184 = .ok (.putfield 58, 3) := by decide +kernel
theorem dX9_automaton_187 : decode cX9_automaton 187 = .ok (.aload_n 0, 1) := by decide +kernel
theorem dX9_automaton_188 : decode cX9_automaton 188 = .ok (.invokevirtual 216, 3) := by decide +kernel
theorem dX9_automaton_191 : decode cX9_automaton 191 = .ok (.ifCond .ne 5, 3) := by decide +kernel
theorem dX9_automaton_194 : decode cX9_automaton 194 = .ok (.iconst (-1), 1) := by decide +kernel
theorem dX9_automaton_195 : decode cX9_automaton 195 = .ok (.ireturn, 1) := by decide +kernel
theorem dX9_automaton_196 : decode cX9_automaton 196 = .ok (.aload_n 0, 1) := by decide +kernel
theorem dX9_automaton_197 : decode cX9_automaton 197 = .ok (.aload_n 0, 1) := by decide +kernel
theorem dX9_automaton_198 : decode cX9_automaton 198 = .ok (.getfield 203, 3) := by decide +kernel
theorem dX9_automaton_201 : decode cX9_automaton 201 = .ok (.putfield 258, 3) := by decide +kernel
theorem dX9_automaton_204 : decode cX9_automaton 204 = .ok (.aload_n 0, 1) := by decide +kernel
theorem dX9_automaton_205 : decode cX9_automaton 205 = .ok (.getfield 52, 3) := by decide +kernel
theorem dX9_automaton_208 : decode cX9_automaton 208 = .ok (.aload_n 0, 1) := by decide +kernel
theorem dX9_automaton_209 : decode cX9_automaton 209 = .ok (.getfield 258, 3) := by decide +kernel
theorem dX9_automaton_212 : decode cX9_automaton 212 = .ok (.iaload, 1) := by decide +kernel
theorem dX9_automaton_213 : decode cX9_automaton 213 = .ok (.ifCond .ge 13, 3) := by decide +kernel
theorem dX9_automaton_216 : decode cX9_automaton 216 = .ok (.aload_n 0, 1) := by decide +kernel
theorem dX9_automaton_217 : decode cX9_automaton 217 = .ok (.getfield 52, 3) := by decide +kernel
theorem dX9_automaton_220 : decode cX9_automaton 220 = .ok (.aload_n 0, 1) := by decide +kernel
theorem dX9_automaton_221 : decode cX9_automaton 221 = .ok (.getfield 258, 3) := by decide +kernel
theorem dX9_automaton_224 : decode cX9_automaton 224 = .ok (.iconst 0, 1) := by decide +kernel
theorem dX9_automaton_225 : decode cX9_automaton 225 = .ok (.iastore, 1) := by decide +kernel
theorem dX9_automaton_226 : decode cX9_automaton 226 = .ok (.aload_n 0, 1) := by decide +kernel
theorem dX9_automaton_227 : decode cX9_automaton 227 = .ok (.iconst 0, 1) := by decide +kernel
theorem dX9_automaton_228 : decode cX9_automaton 228 = .ok (.putfield 267, 3) := by decide +kernel
theorem dX9_automaton_231 : decode cX9_automaton 231 = .ok (.aload_n 0, 1) := by decide +kernel
theorem dX9_automaton_232 : decode cX9_automaton 232 = .ok (.invokevirtual 270, 3) := by decide +kernel
theorem dX9_automaton_235 : decode cX9_automaton 235 = .ok (.aload_n 0, 1) := by decide +kernel
theorem dX9_automaton_236 : decode cX9_automaton 236 = .ok (.getfield 46, 3) := by decide +kernel
theorem dX9_automaton_239 : decode cX9_automaton 239 = .ok (.aload_n 0, 1) := by decide +kernel
theorem dX9_automaton_240 : decode cX9_automaton 240 = .ok (.getfield 258, 3) := by decide +kernel
theorem dX9_automaton_243 : decode cX9_automaton 243 = .ok (.iaload, 1) := by decide +kernel
theorem dX9_automaton_244 : decode cX9_automaton 244 = .ok (.ireturn, 1) := by decide +kernel
