theorem dX9_readPlace_0 : decode cX9_readPlace 0 = .ok (.bipush 8, 2) := by decide +kernel
theorem dX9_readPlace_2 : decode cX9_readPlace 2 = .ok (.aload_n 0, 1) := by decide +kernel
theorem dX9_readPlace_3 : decode cX9_readPlace 3 = .ok (.getfield 203, 3) := by decide +kernel
theorem dX9_readPlace_6 : decode cX9_readPlace 6 = .ok (.imul, 1) := by decide +kernel
theorem dX9_readPlace_7 : decode cX9_readPlace 7 = .ok (.aload_n 0, 1) := by decide +kernel
theorem dX9_readPlace_8 : decode cX9_readPlace 8 = .ok (.getfield 46, 3) := by decide +kernel
theorem dX9_readPlace_11 : decode cX9_readPlace 11 = .ok (.aload_n 0, 1) := by decide +kernel
theorem dX9_readPlace_12 : decode cX9_readPlace 12 = .ok (.getfield 203, 3) := by decide +kernel
theorem dX9_readPlace_15 : decode cX9_readPlace 15 = .ok (.iaload, 1) := by decide +kernel
theorem dX9_readPlace_16 : decode cX9_readPlace 16 = .ok (.iadd, 1) := by decide +kernel
theorem dX9_readPlace_17 : decode cX9_readPlace 17 = .ok (.istore_n 1, 1) := by decide +kernel
theorem dX9_readPlace_18 : decode cX9_readPlace 18 = .ok (.aload_n 0, 1) := by decide +kernel
theorem dX9_readPlace_19 : decode cX9_readPlace 19 = .ok (.getfield 13, 3) := by decide +kernel
theorem dX9_readPlace_22 : decode cX9_readPlace 22 = .ok (.iload_n 1, 1) := by decide +kernel
theorem dX9_readPlace_23 : decode cX9_readPlace 23 = .ok (.aload_n 0, 1) := by decide +kernel
theorem dX9_readPlace_24 : decode cX9_readPlace 24 = .ok (.invokevirtual 238, 3) := by decide +kernel
theorem dX9_readPlace_27 : decode cX9_readPlace 27 = .ok (.iastore, 1) := by decide +kernel
theorem dX9_readPlace_28 : decode cX9_readPlace 28 = .ok (.aload_n 0, 1) := by decide +kernel
theorem dX9_readPlace_29 : decode cX9_readPlace 29 = .ok (.getfield 16, 3) := by decide +kernel
theorem dX9_readPlace_32 : decode cX9_readPlace 32 = .ok (.iload_n 1, 1) := by decide +kernel
theorem dX9_readPlace_33 : decode cX9_readPlace 33 = .ok (.iconst 0, 1) := by decide +kernel
theorem dX9_readPlace_34 : decode cX9_readPlace 34 = .ok (.iastore, 1) := by decide +kernel
theorem dX9_readPlace_35 : decode cX9_readPlace 35 = .ok (.aload_n 0, 1) := by decide +kernel
theorem dX9_readPlace_36 : decode cX9_readPlace 36 = .ok (.getfield 19, 3) := by decide +kernel
theorem dX9_readPlace_39 : decode cX9_readPlace 39 = .ok (.iload_n 1, 1) := by decide +kernel
theorem dX9_readPlace_40 : decode cX9_readPlace 40 = .ok (.iconst 0, 1) := by decide +kernel
theorem dX9_readPlace_41 : decode cX9_readPlace 41 = .ok (.iastore, 1) := by decide +kernel
theorem dX9_readPlace_42 : decode cX9_readPlace 42 = .ok (.aload_n 0, 1) := by decide +kernel
theorem dX9_readPlace_43 : decode cX9_readPlace 43 = .ok (.invokevirtual 216, 3) := by decide +kernel
theorem dX9_readPlace_46 : decode cX9_readPlace 46 = .ok (.ifCond .eq 23, 3) := by decide +kernel
theorem dX9_readPlace_49 : decode cX9_readPlace 49 = .ok (.aload_n 0, 1) := by decide +kernel
theorem dX9_readPlace_50 : decode cX9_readPlace 50 = .ok (.ldc 197, 2) := by decide +kernel
theorem dX9_readPlace_52 : decode cX9_readPlace 52 = .ok (.invokevirtual 193, 3) := by decide +kernel
theorem dX9_readPlace_55 : decode cX9_readPlace 55 = .ok (.ifCond .eq 14, 3) := by decide +kernel
theorem dX9_readPlace_58 : decode cX9_readPlace 58 = .ok (.aload_n 0, 1) := by decide +kernel
theorem dX9_readPlace_59 : decode cX9_readPlace 59 = .ok (.getfield 16, 3) := by decide +kernel
theorem dX9_readPlace_62 : decode cX9_readPlace 62 = .ok (.iload_n 1, 1) := by decide +kernel
theorem dX9_readPlace_63 : decode cX9_readPlace 63 = .ok (.iconst 1, 1) := by decide +kernel
theorem dX9_readPlace_64 : decode cX9_readPlace 64 = .ok (.iastore, 1) := by decide +kernel
theorem dX9_readPlace_65 : decode cX9_readPlace 65 = .ok (.aload_n 0, 1) := by decide +kernel
theorem dX9_readPlace_66 : decode cX9_readPlace 66 = .ok (.invokevirtual 226, 3) := by decide +kernel
theorem dX9_readPlace_69 : decode cX9_readPlace 69 = .ok (.aload_n 0, 1) := by decide +kernel
theorem dX9_readPlace_70 : decode cX9_readPlace 70 = .ok (.invokevirtual 216, 3) := by decide +kernel
theorem dX9_readPlace_73 : decode cX9_readPlace 73 = .ok (.ifCond .eq 75, 3) := by decide +kernel
theorem dX9_readPlace_76 : decode cX9_readPlace 76 = .ok (.aload_n 0, 1) := by decide +kernel
theorem dX9_readPlace_77 : decode cX9_readPlace 77 = .ok (.ldc 198, 2) := by decide +kernel
theorem dX9_readPlace_79 : decode cX9_readPlace 79 = .ok (.invokevirtual 193, 3) := by decide +kernel
theorem dX9_readPlace_82 : decode cX9_readPlace 82 = .ok (.ifCond .eq 66, 3) := by decide +kernel
theorem dX9_readPlace_85 : decode cX9_readPlace 85 = .ok (.aload_n 0, 1) := by decide +kernel
theorem dX9_readPlace_86 : decode cX9_readPlace 86 = .ok (.getfield 19, 3) := by decide +kernel
theorem dX9_readPlace_89 : decode cX9_readPlace 89 = .ok (.iload_n 1, 1) := by decide +kernel
theorem dX9_readPlace_90 : decode cX9_readPlace 90 = .ok (.iaload, 1) := by decide +kernel
theorem dX9_readPlace_91 : decode cX9_readPlace 91 = .ok (.iconst 3, 1) := by decide +kernel
theorem dX9_readPlace_92 : decode cX9_readPlace 92 = .ok (.if_icmp .ne 9, 3) := by decide +kernel
theorem dX9_readPlace_95 : decode cX9_readPlace 95 = .ok (.aload_n 0, 1) := by decide +kernel
theorem dX9_readPlace_96 : decode cX9_readPlace 96 = .ok (.iconst 5, 1) := by decide +kernel
theorem dX9_readPlace_97 : decode cX9_readPlace 97 = .ok (.invokevirtual 210, 3) := by decide +kernel
theorem dX9_readPlace_100 : decode cX9_readPlace 100 = .ok (.return_, 1) := by decide +kernel
theorem dX9_readPlace_101 : decode cX9_readPlace 101 = .ok (.aload_n 0, 1) := by decide +kernel
theorem dX9_readPlace_102 : decode cX9_readPlace 102 = .ok (.bipush 80, 2) := by decide +kernel
theorem dX9_readPlace_104 : decode cX9_readPlace 104 = .ok (.aload_n 0, 1) := by decide +kernel
theorem dX9_readPlace_105 : decode cX9_readPlace 105 = .ok (.getfield 203, 3) := by decide +kernel
theorem dX9_readPlace_108 : decode cX9_readPlace 108 = .ok (.imul, 1) := by decide +kernel
theorem dX9_readPlace_109 : decode cX9_readPlace 109 = .ok (.bipush 56, 2) := by decide +kernel
theorem dX9_readPlace_111 : decode cX9_readPlace 111 = .ok (.iadd, 1) := by decide +kernel
theorem dX9_readPlace_112 : decode cX9_readPlace 112 = .ok (.iconst 3, 1) := by decide +kernel
theorem dX9_readPlace_113 : decode cX9_readPlace 113 = .ok (.aload_n 0, 1) := by decide +kernel
theorem dX9_readPlace_114 : decode cX9_readPlace 114 = .ok (.getfield 46, 3) := by decide +kernel
theorem dX9_readPlace_117 : decode cX9_readPlace 117 = .ok (.aload_n 0, 1) := by decide +kernel
theorem dX9_readPlace_118 : decode cX9_readPlace 118 = .ok (.getfield 203, 3) := by decide +kernel
theorem dX9_readPlace_121 : decode cX9_readPlace 121 = .ok (.iaload, 1) := by decide +kernel
theorem dX9_readPlace_122 : decode cX9_readPlace 122 = .ok (.imul, 1) := by decide +kernel
theorem dX9_readPlace_123 : decode cX9_readPlace 123 = .ok (.iadd, 1) := by decide +kernel
theorem dX9_readPlace_124 : decode cX9_readPlace 124 = .ok (.aload_n 0, 1) := by decide +kernel
theorem dX9_readPlace_125 : decode cX9_readPlace 125 = .ok (.getfield 19, 3) := by decide +kernel
theorem dX9_readPlace_128 : decode cX9_readPlace 128 = .ok (.iload_n 1, 1) := by decide +kernel
theorem dX9_readPlace_129 : decode cX9_readPlace 129 = .ok (.iaload, 1) := by decide +kernel
theorem dX9_readPlace_130 : decode cX9_readPlace 130 = .ok (.iadd, 1) := by decide +kernel
theorem dX9_readPlace_131 : decode cX9_readPlace 131 = .ok (.iconst 1, 1) := by decide +kernel
theorem dX9_readPlace_132 : decode cX9_readPlace 132 = .ok (.invokevirtual 241, 3) := by decide +kernel
theorem dX9_readPlace_135 : decode cX9_readPlace 135 = .ok (.aload_n 0, 1) := by decide +kernel
theorem dX9_readPlace_136 : decode cX9_readPlace 136 = .ok (.getfield 19, 3) := by decide +kernel
theorem dX9_readPlace_139 : decode cX9_readPlace 139 = .ok (.iload_n 1, 1) := by decide +kernel
theorem dX9_readPlace_140 : decode cX9_readPlace 140 = .ok (.dup2, 1) := by decide +kernel
theorem dX9_readPlace_141 : decode cX9_readPlace 141 = .ok (.iaload, 1) := by decide +kernel
theorem dX9_readPlace_142 : decode cX9_readPlace 142 = .ok (.iconst 1, 1) := by decide +kernel
theorem dX9_readPlace_143 : decode cX9_readPlace 143 = .ok (.iadd, 1) := by decide +kernel
theorem dX9_readPlace_144 : decode cX9_readPlace 144 = .ok (.iastore, 1) := by decide +kernel
theorem dX9_readPlace_145 : decode cX9_readPlace 145 = .ok (.goto (-76), 3) := by decide +kernel
theorem dX9_readPlace_148 : decode cX9_readPlace 148 = .ok (.aload_n 0, 1) := by decide +kernel
theorem dX9_readPlace_149 : decode cX9_readPlace 149 = .ok (.getfield 46, 3) := by decide +kernel
theorem dX9_readPlace_152 : decode cX9_readPlace 152 = .ok (.aload_n 0, 1) := by decide +kernel
theorem dX9_readPlace_153 : decode cX9_readPlace 153 = .ok (.getfield 203, 3) := by decide +kernel
theorem dX9_readPlace_156 : decode cX9_readPlace 156 = .ok (.dup2, 1) := by decide +kernel
theorem dX9_readPlace_157 : decode cX9_readPlace 157 = .ok (.iaload, 1) := by decide +kernel
theorem dX9_readPlace_158 : decode cX9_readPlace 158 = .ok (.iconst 1, 1) := by decide +kernel
theorem dX9_readPlace_159 : decode cX9_readPlace 159 = .ok (.iadd, 1) := by decide +kernel
theorem dX9_readPlace_160 : decode cX9_readPlace 160 = .ok (.iastore, 1) := by decide +kernel
theorem dX9_readPlace_161 : decode cX9_readPlace 161 = .ok (.return_, 1) := by decide +kernel
theorem dX9_readEdge_0 : decode cX9_readEdge 0 = .ok (.bipush 14, 2) := by decide +kernel
theorem dX9_readEdge_2 : decode cX9_readEdge 2 = .ok (.aload_n 0, 1) := by decide +kernel
theorem dX9_readEdge_3 : decode cX9_readEdge 3 = .ok (.getfield 203, 3) := by decide +kernel
theorem dX9_readEdge_6 : decode cX9_readEdge 6 = .ok (.imul, 1) := by decide +kernel
theorem dX9_readEdge_7 : decode cX9_readEdge 7 = .ok (.aload_n 0, 1) := by decide +kernel
theorem dX9_readEdge_8 : decode cX9_readEdge 8 = .ok (.getfield 49, 3) := by decide +kernel
theorem dX9_readEdge_11 : decode cX9_readEdge 11 = .ok (.aload_n 0, 1) := by decide +kernel
theorem dX9_readEdge_12 : decode cX9_readEdge 12 = .ok (.getfield 203, 3) := by decide +kernel
theorem dX9_readEdge_15 : decode cX9_readEdge 15 = .ok (.iaload, 1) := by decide +kernel
theorem dX9_readEdge_16 : decode cX9_readEdge 16 = .ok (.iadd, 1) := by decide +kernel
theorem dX9_readEdge_17 : decode cX9_readEdge 17 = .ok (.istore_n 1, 1) := by decide +kernel
theorem dX9_readEdge_18 : decode cX9_readEdge 18 = .ok (.aload_n 0, 1) := by decide +kernel
theorem dX9_readEdge_19 : decode cX9_readEdge 19 = .ok (.getfield 22, 3) := by decide +kernel
theorem dX9_readEdge_22 : decode cX9_readEdge 22 = .ok (.iload_n 1, 1) := by decide +kernel
theorem dX9_readEdge_23 : decode cX9_readEdge 23 = .ok (.aload_n 0, 1) := by decide +kernel
theorem dX9_readEdge_24 : decode cX9_readEdge 24 = .ok (.invokevirtual 245, 3) := by decide +kernel
theorem dX9_readEdge_27 : decode cX9_readEdge 27 = .ok (.iastore, 1) := by decide +kernel
theorem dX9_readEdge_28 : decode cX9_readEdge 28 = .ok (.aload_n 0, 1) := by decide +kernel
theorem dX9_readEdge_29 : decode cX9_readEdge 29 = .ok (.getfield 25, 3) := by decide +kernel
theorem dX9_readEdge_32 : decode cX9_readEdge 32 = .ok (.iload_n 1, 1) := by decide +kernel
theorem dX9_readEdge_33 : decode cX9_readEdge 33 = .ok (.aload_n 0, 1) := by decide +kernel
theorem dX9_readEdge_34 : decode cX9_readEdge 34 = .ok (.invokevirtual 216, 3) := by decide +kernel
theorem dX9_readEdge_37 : decode cX9_readEdge 37 = .ok (.ifCond .eq 10, 3) := by decide +kernel
theorem dX9_readEdge_40 : decode cX9_readEdge 40 = .ok (.aload_n 0, 1) := by decide +kernel
theorem dX9_readEdge_41 : decode cX9_readEdge 41 = .ok (.invokevirtual 245, 3) := by decide +kernel
theorem dX9_readEdge_44 : decode cX9_readEdge 44 = .ok (.goto 4, 3) := by decide +kernel
theorem dX9_readEdge_47 : decode cX9_readEdge 47 = .ok (.iconst 0, 1) := by decide +kernel
theorem dX9_readEdge_48 : decode cX9_readEdge 48 = .ok (.iastore, 1) := by decide +kernel
theorem dX9_readEdge_49 : decode cX9_readEdge 49 = .ok (.aload_n 0, 1) := by decide +kernel
theorem dX9_readEdge_50 : decode cX9_readEdge 50 = .ok (.getfield 28, 3) := by decide +kernel
theorem dX9_readEdge_53 : decode cX9_readEdge 53 = .ok (.iload_n 1, 1) := by decide +kernel
theorem dX9_readEdge_54 : decode cX9_readEdge 54 = .ok (.iconst 0, 1) := by decide +kernel
theorem dX9_readEdge_55 : decode cX9_readEdge 55 = .ok (.iastore, 1) := by decide +kernel
theorem dX9_readEdge_56 : decode cX9_readEdge 56 = .ok (.aload_n 0, 1) := by decide +kernel
theorem dX9_readEdge_57 : decode cX9_readEdge 57 = .ok (.getfield 31, 3) := by decide +kernel
theorem dX9_readEdge_60 : decode cX9_readEdge 60 = .ok (.iload_n 1, 1) := by decide +kernel
theorem dX9_readEdge_61 : decode cX9_readEdge 61 = .ok (.iconst 0, 1) := by decide +kernel
theorem dX9_readEdge_62 : decode cX9_readEdge 62 = .ok (.iastore, 1) := by decide +kernel
theorem dX9_readEdge_63 : decode cX9_readEdge 63 = .ok (.aload_n 0, 1) := by decide +kernel
theorem dX9_readEdge_64 : decode cX9_readEdge 64 = .ok (.invokevirtual 216, 3) := by decide +kernel
theorem dX9_readEdge_67 : decode cX9_readEdge 67 = .ok (.ifCond .eq 72, 3) := by decide +kernel
theorem dX9_readEdge_70 : decode cX9_readEdge 70 = .ok (.aload_n 0, 1) := by decide +kernel
theorem dX9_readEdge_71 : decode cX9_readEdge 71 = .ok (.ldc 201, 2) := by decide +kernel
theorem dX9_readEdge_73 : decode cX9_readEdge 73 = .ok (.invokevirtual 193, 3) := by decide +kernel
theorem dX9_readEdge_76 : decode cX9_readEdge 76 = .ok (.ifCond .eq 63, 3) := by decide +kernel
theorem dX9_readEdge_79 : decode cX9_readEdge 79 = .ok (.aload_n 0, 1) := by decide +kernel
theorem dX9_readEdge_80 : decode cX9_readEdge 80 = .ok (.getfield 28, 3) := by decide +kernel
theorem dX9_readEdge_83 : decode cX9_readEdge 83 = .ok (.iload_n 1, 1) := by decide +kernel
theorem dX9_readEdge_84 : decode cX9_readEdge 84 = .ok (.iaload, 1) := by decide +kernel
theorem dX9_readEdge_85 : decode cX9_readEdge 85 = .ok (.iconst 4, 1) := by decide +kernel
theorem dX9_readEdge_86 : decode cX9_readEdge 86 = .ok (.if_icmp .ne 9, 3) := by decide +kernel
theorem dX9_readEdge_89 : decode cX9_readEdge 89 = .ok (.aload_n 0, 1) := by decide +kernel
theorem dX9_readEdge_90 : decode cX9_readEdge 90 = .ok (.iconst 5, 1) := by decide +kernel
theorem dX9_readEdge_91 : decode cX9_readEdge 91 = .ok (.invokevirtual 210, 3) := by decide +kernel
theorem dX9_readEdge_94 : decode cX9_readEdge 94 = .ok (.return_, 1) := by decide +kernel
theorem dX9_readEdge_95 : decode cX9_readEdge 95 = .ok (.aload_n 0, 1) := by decide +kernel
theorem dX9_readEdge_96 : decode cX9_readEdge 96 = .ok (.bipush 80, 2) := by decide +kernel
theorem dX9_readEdge_98 : decode cX9_readEdge 98 = .ok (.aload_n 0, 1) := by decide +kernel
theorem dX9_readEdge_99 : decode cX9_readEdge 99 = .ok (.getfield 203, 3) := by decide +kernel
theorem dX9_readEdge_102 : decode cX9_readEdge 102 = .ok (.imul, 1) := by decide +kernel
theorem dX9_readEdge_103 : decode cX9_readEdge 103 = .ok (.iconst 4, 1) := by decide +kernel
theorem dX9_readEdge_104 : decode cX9_readEdge 104 = .ok (.aload_n 0, 1) := by decide +kernel
theorem dX9_readEdge_105 : decode cX9_readEdge 105 = .ok (.getfield 49, 3) := by decide +kernel
theorem dX9_readEdge_108 : decode cX9_readEdge 108 = .ok (.aload_n 0, 1) := by decide +kernel
theorem dX9_readEdge_109 : decode cX9_readEdge 109 = .ok (.getfield 203, 3) := by decide +kernel
theorem dX9_readEdge_112 : decode cX9_readEdge 112 = .ok (.iaload, 1) := by decide +kernel
theorem dX9_readEdge_113 : decode cX9_readEdge 113 = .ok (.imul, 1) := by decide +kernel
theorem dX9_readEdge_114 : decode cX9_readEdge 114 = .ok (.iadd, 1) := by decide +kernel
theorem dX9_readEdge_115 : decode cX9_readEdge 115 = .ok (.aload_n 0, 1) := by decide +kernel
theorem dX9_readEdge_116 : decode cX9_readEdge 116 = .ok (.getfield 28, 3) := by decide +kernel
theorem dX9_readEdge_119 : decode cX9_readEdge 119 = .ok (.iload_n 1, 1) := by decide +kernel
theorem dX9_readEdge_120 : decode cX9_readEdge 120 = .ok (.iaload, 1) := by decide +kernel
theorem dX9_readEdge_121 : decode cX9_readEdge 121 = .ok (.iadd, 1) := by decide +kernel
theorem dX9_readEdge_122 : decode cX9_readEdge 122 = .ok (.iconst 0, 1) := by decide +kernel
theorem dX9_readEdge_123 : decode cX9_readEdge 123 = .ok (.invokevirtual 241, 3) := by decide +kernel
theorem dX9_readEdge_126 : decode cX9_readEdge 126 = .ok (.aload_n 0, 1) := by decide +kernel
theorem dX9_readEdge_127 : decode cX9_readEdge 127 = .ok (.getfield 28, 3) := by decide +kernel
theorem dX9_readEdge_130 : decode cX9_readEdge 130 = .ok (.iload_n 1, 1) := by decide +kernel
theorem dX9_readEdge_131 : decode cX9_readEdge 131 = .ok (.dup2, 1) := by decide +kernel
theorem dX9_readEdge_132 : decode cX9_readEdge 132 = .ok (.iaload, 1) := by decide +kernel
theorem dX9_readEdge_133 : decode cX9_readEdge 133 = .ok (.iconst 1, 1) := by decide +kernel
theorem dX9_readEdge_134 : decode cX9_readEdge 134 = .ok (.iadd, 1) := by decide +kernel
theorem dX9_readEdge_135 : decode cX9_readEdge 135 = .ok (.iastore, 1) := by decide +kernel
theorem dX9_readEdge_136 : decode cX9_readEdge 136 = .ok (.goto (-73), 3) := by decide +kernel
theorem dX9_readEdge_139 : decode cX9_readEdge 139 = .ok (.aload_n 0, 1) := by decide +kernel
theorem dX9_readEdge_140 : decode cX9_readEdge 140 = .ok (.invokevirtual 216, 3) := by decide +kernel
theorem dX9_readEdge_143 : decode cX9_readEdge 143 = .ok (.ifCond .eq 72, 3) := by decide +kernel
theorem dX9_readEdge_146 : decode cX9_readEdge 146 = .ok (.aload_n 0, 1) := by decide +kernel
theorem dX9_readEdge_147 : decode cX9_readEdge 147 = .ok (.ldc 202, 2) := by decide +kernel
theorem dX9_readEdge_149 : decode cX9_readEdge 149 = .ok (.invokevirtual 193, 3) := by decide +kernel
theorem dX9_readEdge_152 : decode cX9_readEdge 152 = .ok (.ifCond .eq 63, 3) := by decide +kernel
theorem dX9_readEdge_155 : decode cX9_readEdge 155 = .ok (.aload_n 0, 1) := by decide +kernel
theorem dX9_readEdge_156 : decode cX9_readEdge 156 = .ok (.invokevirtual 226, 3) := by decide +kernel
theorem dX9_readEdge_159 : decode cX9_readEdge 159 = .ok (.aload_n 0, 1) := by decide +kernel
theorem dX9_readEdge_160 : decode cX9_readEdge 160 = .ok (.invokevirtual 232, 3) := by decide +kernel
theorem dX9_readEdge_163 : decode cX9_readEdge 163 = .ok (.istore_n 2, 1) := by decide +kernel
theorem dX9_readEdge_164 : decode cX9_readEdge 164 = .ok (.aload_n 0, 1) := by decide +kernel
theorem dX9_readEdge_165 : decode cX9_readEdge 165 = .ok (.invokevirtual 216, 3) := by decide +kernel
theorem dX9_readEdge_168 : decode cX9_readEdge 168 = .ok (.ifCond .eq 21, 3) := by decide +kernel
theorem dX9_readEdge_171 : decode cX9_readEdge 171 = .ok (.aload_n 0, 1) := by decide +kernel
theorem dX9_readEdge_172 : decode cX9_readEdge 172 = .ok (.getfield 31, 3) := by decide +kernel
theorem dX9_readEdge_175 : decode cX9_readEdge 175 = .ok (.iload_n 1, 1) := by decide +kernel
theorem dX9_readEdge_176 : decode cX9_readEdge 176 = .ok (.iaload, 1) := by decide +kernel
theorem dX9_readEdge_177 : decode cX9_readEdge 177 = .ok (.iload_n 2, 1) := by decide +kernel
theorem dX9_readEdge_178 : decode cX9_readEdge 178 = .ok (.invokestatic 248, 3) := by decide +kernel
theorem dX9_readEdge_181 : decode cX9_readEdge 181 = .ok (.ifCond .eq 8, 3) := by decide +kernel
theorem dX9_readEdge_184 : decode cX9_readEdge 184 = .ok (.aload_n 0, 1) := by decide +kernel
theorem dX9_readEdge_185 : decode cX9_readEdge 185 = .ok (.iconst 5, 1) := by decide +kernel
theorem dX9_readEdge_186 : decode cX9_readEdge 186 = .ok (.invokevirtual 210, 3) := by decide +kernel
theorem dX9_readEdge_189 : decode cX9_readEdge 189 = .ok (.aload_n 0, 1) := by decide +kernel
theorem dX9_readEdge_190 : decode cX9_readEdge 190 = .ok (.getfield 31, 3) := by decide +kernel
theorem dX9_readEdge_193 : decode cX9_readEdge 193 = .ok (.iload_n 1, 1) := by decide +kernel
theorem dX9_readEdge_194 : decode cX9_readEdge 194 = .ok (.dup2, 1) := by decide +kernel
theorem dX9_readEdge_195 : decode cX9_readEdge 195 = .ok (.iaload, 1) := by decide +kernel
theorem dX9_readEdge_196 : decode cX9_readEdge 196 = .ok (.iconst 1, 1) := by decide +kernel
theorem dX9_readEdge_197 : decode cX9_readEdge 197 = .ok (.iload_n 2, 1) := by decide +kernel
theorem dX9_readEdge_198 : decode cX9_readEdge 198 = .ok (.ishl, 1) := by decide +kernel
theorem dX9_readEdge_199 : decode cX9_readEdge 199 = .ok (.ior, 1) := by decide +kernel
theorem dX9_readEdge_200 : decode cX9_readEdge 200 = .ok (.iastore, 1) := by decide +kernel
theorem dX9_readEdge_201 : decode cX9_readEdge 201 = .ok (.aload_n 0, 1) := by decide +kernel
theorem dX9_readEdge_202 : decode cX9_readEdge 202 = .ok (.invokevirtual 216, 3) := by decide +kernel
theorem dX9_readEdge_205 : decode cX9_readEdge 205 = .ok (.ifCond .eq 7, 3) := by decide +kernel
theorem dX9_readEdge_208 : decode cX9_readEdge 208 = .ok (.aload_n 0, 1) := by decide +kernel
theorem dX9_readEdge_209 : decode cX9_readEdge 209 = .ok (.invokevirtual 226, 3) := by decide +kernel
theorem dX9_readEdge_212 : decode cX9_readEdge 212 = .ok (.goto (-73), 3) := by decide +kernel
theorem dX9_readEdge_215 : decode cX9_readEdge 215 = .ok (.aload_n 0, 1) := by decide +kernel
theorem dX9_readEdge_216 : decode cX9_readEdge 216 = .ok (.getfield 49, 3) := by decide +kernel
theorem dX9_readEdge_219 : decode cX9_readEdge 219 = .ok (.aload_n 0, 1) := by decide +kernel
theorem dX9_readEdge_220 : decode cX9_readEdge 220 = .ok (.getfield 203, 3) := by decide +kernel
theorem dX9_readEdge_223 : decode cX9_readEdge 223 = .ok (.dup2, 1) := by decide +kernel
theorem dX9_readEdge_224 : decode cX9_readEdge 224 = .ok (.iaload, 1) := by decide +kernel
theorem dX9_readEdge_225 : decode cX9_readEdge 225 = .ok (.iconst 1, 1) := by decide +kernel
theorem dX9_readEdge_226 : decode cX9_readEdge 226 = .ok (.iadd, 1) := by decide +kernel
theorem dX9_readEdge_227 : decode cX9_readEdge 227 = .ok (.iastore, 1) := by decide +kernel
theorem dX9_readEdge_228 : decode cX9_readEdge 228 = .ok (.return_, 1) := by decide +kernel
theorem dX9_readLine_0 : decode cX9_readLine 0 = .ok (.aload_n 0, 1) := by decide +kernel
theorem dX9_readLine_1 : decode cX9_readLine 1 = .ok (.ldc 192, 2) := by decide +kernel
theorem dX9_readLine_3 : decode cX9_readLine 3 = .ok (.invokevirtual 193, 3) := by decide +kernel
theorem dX9_readLine_6 : decode cX9_readLine 6 = .ok (.istore_n 1, 1) := by decide +kernel
theorem dX9_readLine_7 : decode cX9_readLine 7 = .ok (.aload_n 0, 1) := by decide +kernel
theorem dX9_readLine_8 : decode cX9_readLine 8 = .ok (.ldc 196, 2) := by decide +kernel
theorem dX9_readLine_10 : decode cX9_readLine 10 = .ok (.invokevirtual 193, 3) := by decide +kernel
theorem dX9_readLine_13 : decode cX9_readLine 13 = .ok (.istore_n 2, 1) := by decide +kernel
theorem dX9_readLine_14 : decode cX9_readLine 14 = .ok (.aload_n 0, 1) := by decide +kernel
theorem dX9_readLine_15 : decode cX9_readLine 15 = .ok (.ldc 199, 2) := by decide +kernel
theorem dX9_readLine_17 : decode cX9_readLine 17 = .ok (.invokevirtual 193, 3) := by decide +kernel
theorem dX9_readLine_20 : decode cX9_readLine 20 = .ok (.istore_n 3, 1) := by decide +kernel
theorem dX9_readLine_21 : decode cX9_readLine 21 = .ok (.aload_n 0, 1) := by decide +kernel
theorem dX9_readLine_22 : decode cX9_readLine 22 = .ok (.ldc 200, 2) := by decide +kernel
theorem dX9_readLine_24 : decode cX9_readLine 24 = .ok (.invokevirtual 193, 3) := by decide +kernel
theorem dX9_readLine_27 : decode cX9_readLine 27 = .ok (.istore 4, 2) := by decide +kernel
theorem dX9_readLine_29 : decode cX9_readLine 29 = .ok (.iload_n 1, 1) := by decide +kernel
theorem dX9_readLine_30 : decode cX9_readLine 30 = .ok (.ifCond .ne 24, 3) := by decide +kernel
theorem dX9_readLine_33 : decode cX9_readLine 33 = .ok (.iload_n 2, 1) := by decide +kernel
theorem dX9_readLine_34 : decode cX9_readLine 34 = .ok (.ifCond .ne 20, 3) := by decide +kernel
theorem dX9_readLine_37 : decode cX9_readLine 37 = .ok (.iload_n 3, 1) := by decide +kernel
theorem dX9_readLine_38 : decode cX9_readLine 38 = .ok (.ifCond .ne 16, 3) := by decide +kernel
theorem dX9_readLine_41 : decode cX9_readLine 41 = .ok (.iload 4, 2) := by decide +kernel
theorem dX9_readLine_43 : decode cX9_readLine 43 = .ok (.ifCond .ne 11, 3) := by decide +kernel
theorem dX9_readLine_46 : decode cX9_readLine 46 = .ok (.aload_n 0, 1) := by decide +kernel
theorem dX9_readLine_47 : decode cX9_readLine 47 = .ok (.iconst 2, 1) := by decide +kernel
theorem dX9_readLine_48 : decode cX9_readLine 48 = .ok (.invokevirtual 210, 3) := by decide +kernel
theorem dX9_readLine_51 : decode cX9_readLine 51 = .ok (.goto 78, 3) := by decide +kernel
theorem dX9_readLine_54 : decode cX9_readLine 54 = .ok (.iload_n 1, 1) := by decide +kernel
theorem dX9_readLine_55 : decode cX9_readLine 55 = .ok (.ifCond .eq 16, 3) := by decide +kernel
theorem dX9_readLine_58 : decode cX9_readLine 58 = .ok (.aload_n 0, 1) := by decide +kernel
theorem dX9_readLine_59 : decode cX9_readLine 59 = .ok (.getfield 43, 3) := by decide +kernel
theorem dX9_readLine_62 : decode cX9_readLine 62 = .ok (.aload_n 0, 1) := by decide +kernel
theorem dX9_readLine_63 : decode cX9_readLine 63 = .ok (.getfield 203, 3) := by decide +kernel
theorem dX9_readLine_66 : decode cX9_readLine 66 = .ok (.iaload, 1) := by decide +kernel
theorem dX9_readLine_67 : decode cX9_readLine 67 = .ok (.iconst 3, 1) := by decide +kernel
theorem dX9_readLine_68 : decode cX9_readLine 68 = .ok (.if_icmp .eq 56, 3) := by decide +kernel
theorem dX9_readLine_71 : decode cX9_readLine 71 = .ok (.iload_n 2, 1) := by decide +kernel
theorem dX9_readLine_72 : decode cX9_readLine 72 = .ok (.ifCond .eq 17, 3) := by decide +kernel
theorem dX9_readLine_75 : decode cX9_readLine 75 = .ok (.aload_n 0, 1) := by decide +kernel
theorem dX9_readLine_76 : decode cX9_readLine 76 = .ok (.getfield 46, 3) := by decide +kernel
theorem dX9_readLine_79 : decode cX9_readLine 79 = .ok (.aload_n 0, 1) := by decide +kernel
theorem dX9_readLine_80 : decode cX9_readLine 80 = .ok (.getfield 203, 3) := by decide +kernel
theorem dX9_readLine_83 : decode cX9_readLine 83 = .ok (.iaload, 1) := by decide +kernel
theorem dX9_readLine_84 : decode cX9_readLine 84 = .ok (.bipush 8, 2) := by decide +kernel
theorem dX9_readLine_86 : decode cX9_readLine 86 = .ok (.if_icmp .eq 38, 3) := by decide +kernel
theorem dX9_readLine_89 : decode cX9_readLine 89 = .ok (.iload_n 3, 1) := by decide +kernel
theorem dX9_readLine_90 : decode cX9_readLine 90 = .ok (.ifCond .eq 15, 3) := by decide +kernel
theorem dX9_readLine_93 : decode cX9_readLine 93 = .ok (.aload_n 0, 1) := by decide +kernel
theorem dX9_readLine_94 : decode cX9_readLine 94 = .ok (.getfield 52, 3) := by decide +kernel
theorem dX9_readLine_97 : decode cX9_readLine 97 = .ok (.aload_n 0, 1) := by decide +kernel
theorem dX9_readLine_98 : decode cX9_readLine 98 = .ok (.getfield 203, 3) := by decide +kernel
theorem dX9_readLine_101 : decode cX9_readLine 101 = .ok (.iaload, 1) := by decide +kernel
theorem dX9_readLine_102 : decode cX9_readLine 102 = .ok (.ifCond .ge 22, 3) := by decide +kernel
theorem dX9_readLine_105 : decode cX9_readLine 105 = .ok (.iload 4, 2) := by decide +kernel
theorem dX9_readLine_107 : decode cX9_readLine 107 = .ok (.ifCond .eq 22, 3) := by decide +kernel
theorem dX9_readLine_110 : decode cX9_readLine 110 = .ok (.aload_n 0, 1) := by decide +kernel
theorem dX9_readLine_111 : decode cX9_readLine 111 = .ok (.getfield 49, 3) := by decide +kernel
theorem dX9_readLine_114 : decode cX9_readLine 114 = .ok (.aload_n 0, 1) := by decide +kernel
theorem dX9_readLine_115 : decode cX9_readLine 115 = .ok (.getfield 203, 3) := by decide +kernel
theorem dX9_readLine_118 : decode cX9_readLine 118 = .ok (.iaload, 1) := by decide +kernel
theorem dX9_readLine_119 : decode cX9_readLine 119 = .ok (.bipush 14, 2) := by decide +kernel
theorem dX9_readLine_121 : decode cX9_readLine 121 = .ok (.if_icmp .ne 8, 3) := by decide +kernel
theorem dX9_readLine_124 : decode cX9_readLine 124 = .ok (.aload_n 0, 1) := by decide +kernel
theorem dX9_readLine_125 : decode cX9_readLine 125 = .ok (.iconst 5, 1) := by decide +kernel
theorem dX9_readLine_126 : decode cX9_readLine 126 = .ok (.invokevirtual 210, 3) := by decide +kernel
theorem dX9_readLine_129 : decode cX9_readLine 129 = .ok (.aload_n 0, 1) := by decide +kernel
theorem dX9_readLine_130 : decode cX9_readLine 130 = .ok (.invokevirtual 216, 3) := by decide +kernel
theorem dX9_readLine_133 : decode cX9_readLine 133 = .ok (.ifCond .ne 4, 3) := by decide +kernel
theorem dX9_readLine_136 : decode cX9_readLine 136 = .ok (.return_, 1) := by decide +kernel
theorem dX9_readLine_137 : decode cX9_readLine 137 = .ok (.aload_n 0, 1) := by decide +kernel
theorem dX9_readLine_138 : decode cX9_readLine 138 = .ok (.invokevirtual 226, 3) := by decide +kernel
theorem dX9_readLine_141 : decode cX9_readLine 141 = .ok (.iload_n 1, 1) := by decide +kernel
theorem dX9_readLine_142 : decode cX9_readLine 142 = .ok (.ifCond .eq 44, 3) := by decide +kernel
theorem dX9_readLine_145 : decode cX9_readLine 145 = .ok (.aload_n 0, 1) := by decide +kernel
theorem dX9_readLine_146 : decode cX9_readLine 146 = .ok (.getfield 7, 3) := by decide +kernel
theorem dX9_readLine_149 : decode cX9_readLine 149 = .ok (.iconst 3, 1) := by decide +kernel
theorem dX9_readLine_150 : decode cX9_readLine 150 = .ok (.aload_n 0, 1) := by decide +kernel
theorem dX9_readLine_151 : decode cX9_readLine 151 = .ok (.getfield 203, 3) := by decide +kernel
theorem dX9_readLine_154 : decode cX9_readLine 154 = .ok (.imul, 1) := by decide +kernel
theorem dX9_readLine_155 : decode cX9_readLine 155 = .ok (.aload_n 0, 1) := by decide +kernel
theorem dX9_readLine_156 : decode cX9_readLine 156 = .ok (.getfield 43, 3) := by decide +kernel
theorem dX9_readLine_159 : decode cX9_readLine 159 = .ok (.aload_n 0, 1) := by decide +kernel
theorem dX9_readLine_160 : decode cX9_readLine 160 = .ok (.getfield 203, 3) := by decide +kernel
theorem dX9_readLine_163 : decode cX9_readLine 163 = .ok (.iaload, 1) := by decide +kernel
theorem dX9_readLine_164 : decode cX9_readLine 164 = .ok (.iadd, 1) := by decide +kernel
theorem dX9_readLine_165 : decode cX9_readLine 165 = .ok (.aload_n 0, 1) := by decide +kernel
theorem dX9_readLine_166 : decode cX9_readLine 166 = .ok (.invokevirtual 238, 3) := by decide +kernel
theorem dX9_readLine_169 : decode cX9_readLine 169 = .ok (.iastore, 1) := by decide +kernel
theorem dX9_readLine_170 : decode cX9_readLine 170 = .ok (.aload_n 0, 1) := by decide +kernel
theorem dX9_readLine_171 : decode cX9_readLine 171 = .ok (.getfield 43, 3) := by decide +kernel
theorem dX9_readLine_174 : decode cX9_readLine 174 = .ok (.aload_n 0, 1) := by decide +kernel
theorem dX9_readLine_175 : decode cX9_readLine 175 = .ok (.getfield 203, 3) := by decide +kernel
theorem dX9_readLine_178 : decode cX9_readLine 178 = .ok (.dup2, 1) := by decide +kernel
theorem dX9_readLine_179 : decode cX9_readLine 179 = .ok (.iaload, 1) := by decide +kernel
theorem dX9_readLine_180 : decode cX9_readLine 180 = .ok (.iconst 1, 1) := by decide +kernel
theorem dX9_readLine_181 : decode cX9_readLine 181 = .ok (.iadd, 1) := by decide +kernel
theorem dX9_readLine_182 : decode cX9_readLine 182 = .ok (.iastore, 1) := by decide +kernel
theorem dX9_readLine_183 : decode cX9_readLine 183 = .ok (.goto 38, 3) := by decide +kernel
theorem dX9_readLine_186 : decode cX9_readLine 186 = .ok (.iload_n 2, 1) := by decide +kernel
theorem dX9_readLine_187 : decode cX9_readLine 187 = .ok (.ifCond .eq 10, 3) := by decide +kernel
theorem dX9_readLine_190 : decode cX9_readLine 190 = .ok (.aload_n 0, 1) := by decide +kernel
theorem dX9_readLine_191 : decode cX9_readLine 191 = .ok (.invokevirtual 252, 3) := by decide +kernel
theorem dX9_readLine_194 : decode cX9_readLine 194 = .ok (.goto 27, 3) := by decide +kernel
theorem dX9_readLine_197 : decode cX9_readLine 197 = .ok (.iload_n 3, 1) := by decide +kernel
theorem dX9_readLine_198 : decode cX9_readLine 198 = .ok (.ifCond .eq 19, 3) := by decide +kernel
theorem dX9_readLine_201 : decode cX9_readLine 201 = .ok (.aload_n 0, 1) := by decide +kernel
theorem dX9_readLine_202 : decode cX9_readLine 202 = .ok (.getfield 52, 3) := by decide +kernel
theorem dX9_readLine_205 : decode cX9_readLine 205 = .ok (.aload_n 0, 1) := by decide +kernel
theorem dX9_readLine_206 : decode cX9_readLine 206 = .ok (.getfield 203, 3) := by decide +kernel
theorem dX9_readLine_209 : decode cX9_readLine 209 = .ok (.aload_n 0, 1) := by decide +kernel
theorem dX9_readLine_210 : decode cX9_readLine 210 = .ok (.invokevirtual 245, 3) := by decide +kernel
theorem dX9_readLine_213 : decode cX9_readLine 213 = .ok (.iastore, 1) := by decide +kernel
theorem dX9_readLine_214 : decode cX9_readLine 214 = .ok (.goto 7, 3) := by decide +kernel
theorem dX9_readLine_217 : decode cX9_readLine 217 = .ok (.aload_n 0, 1) := by decide +kernel
theorem dX9_readLine_218 : decode cX9_readLine 218 = .ok (.invokevirtual 255, 3) := by decide +kernel
theorem dX9_readLine_221 : decode cX9_readLine 221 = .ok (.return_, 1) := by decide +kernel
