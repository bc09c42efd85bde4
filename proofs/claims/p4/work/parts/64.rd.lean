theorem eX4_reads_0 : decode cX4_reads 0 = .ok (.aload_n 0, 1) := by decide +kernel
theorem eX4_reads_1 : decode cX4_reads 1 = .ok (.aload_n 1, 1) := by decide +kernel
theorem eX4_reads_2 : decode cX4_reads 2 = .ok (.putfield 55, 3) := by decide +kernel
theorem eX4_reads_5 : decode cX4_reads 5 = .ok (.aload_n 0, 1) := by decide +kernel
theorem eX4_reads_6 : decode cX4_reads 6 = .ok (.iload_n 2, 1) := by decide +kernel
theorem eX4_reads_7 : decode cX4_reads 7 = .ok (.putfield 58, 3) := by decide +kernel
theorem eX4_reads_10 : decode cX4_reads 10 = .ok (.aload_n 0, 1) := by decide +kernel
theorem eX4_reads_11 : decode cX4_reads 11 = .ok (.iconst 0, 1) := by decide +kernel
theorem eX4_reads_12 : decode cX4_reads 12 = .ok (.putfield 60, 3) := by decide +kernel
theorem eX4_reads_15 : decode cX4_reads 15 = .ok (.aload_n 0, 1) := by decide +kernel
theorem eX4_reads_16 : decode cX4_reads 16 = .ok (.iconst 0, 1) := by decide +kernel
theorem eX4_reads_17 : decode cX4_reads 17 = .ok (.putfield 63, 3) := by decide +kernel
theorem eX4_reads_20 : decode cX4_reads 20 = .ok (.aload_n 0, 1) := by decide +kernel
theorem eX4_reads_21 : decode cX4_reads 21 = .ok (.iconst (-1), 1) := by decide +kernel
theorem eX4_reads_22 : decode cX4_reads 22 = .ok (.putfield 9, 3) := by decide +kernel
theorem eX4_reads_25 : decode cX4_reads 25 = .ok (.aload_n 0, 1) := by decide +kernel
theorem eX4_reads_26 : decode cX4_reads 26 = .ok (.aload_n 3, 1) := by decide +kernel
theorem eX4_reads_27 : decode cX4_reads 27 = .ok (.putfield 66, 3) := by decide +kernel
theorem eX4_reads_30 : decode cX4_reads 30 = .ok (.aload_n 0, 1) := by decide +kernel
theorem eX4_reads_31 : decode cX4_reads 31 = .ok (.getfield 66, 3) := by decide +kernel
theorem eX4_reads_34 : decode cX4_reads 34 = .ok (.invokevirtual 70, 3) := by decide +kernel
theorem eX4_reads_37 : decode cX4_reads 37 = .ok (.aload_n 0, 1) := by decide +kernel
theorem eX4_reads_38 : decode cX4_reads 38 = .ok (.invokevirtual 75, 3) := by decide +kernel
theorem eX4_reads_41 : decode cX4_reads 41 = .ok (.iconst 0, 1) := by decide +kernel
theorem eX4_reads_42 : decode cX4_reads 42 = .ok (.istore 4, 2) := by decide +kernel
theorem eX4_reads_44 : decode cX4_reads 44 = .ok (.iload 4, 2) := by decide +kernel
theorem eX4_reads_46 : decode cX4_reads 46 = .ok (.aload_n 0, 1) := by decide +kernel
theorem eX4_reads_47 : decode cX4_reads 47 = .ok (.getfield 58, 3) := by decide +kernel
theorem eX4_reads_50 : decode cX4_reads 50 = .ok (.if_icmp .gt 101, 3) := by decide +kernel
theorem eX4_reads_53 : decode cX4_reads 53 = .ok (.aload_n 0, 1) := by decide +kernel
theorem eX4_reads_54 : decode cX4_reads 54 = .ok (.getfield 78, 3) := by decide +kernel
theorem eX4_reads_57 : decode cX4_reads 57 = .ok (.iconst 1, 1) := by decide +kernel
theorem eX4_reads_58 : decode cX4_reads 58 = .ok (.if_icmp .eq 93, 3) := by decide +kernel
theorem eX4_reads_61 : decode cX4_reads 61 = .ok (.aload_n 0, 1) := by decide +kernel
theorem eX4_reads_62 : decode cX4_reads 62 = .ok (.getfield 78, 3) := by decide +kernel
theorem eX4_reads_65 : decode cX4_reads 65 = .ok (.bipush 8, 2) := by decide +kernel
theorem eX4_reads_67 : decode cX4_reads 67 = .ok (.if_icmp .ne 10, 3) := by decide +kernel
theorem eX4_reads_70 : decode cX4_reads 70 = .ok (.aload_n 0, 1) := by decide +kernel
theorem eX4_reads_71 : decode cX4_reads 71 = .ok (.invokevirtual 81, 3) := by decide +kernel
theorem eX4_reads_74 : decode cX4_reads 74 = .ok (.goto 55, 3) := by decide +kernel
theorem eX4_reads_77 : decode cX4_reads 77 = .ok (.aload_n 0, 1) := by decide +kernel
theorem eX4_reads_78 : decode cX4_reads 78 = .ok (.getfield 78, 3) := by decide +kernel
theorem eX4_reads_81 : decode cX4_reads 81 = .ok (.bipush 9, 2) := by decide +kernel
theorem eX4_reads_83 : decode cX4_reads 83 = .ok (.if_icmp .ne 10, 3) := by decide +kernel
theorem eX4_reads_86 : decode cX4_reads 86 = .ok (.aload_n 0, 1) := by decide +kernel
theorem eX4_reads_87 : decode cX4_reads 87 = .ok (.invokevirtual 85, 3) := by decide +kernel
theorem eX4_reads_90 : decode cX4_reads 90 = .ok (.goto 39, 3) := by decide +kernel
theorem eX4_reads_93 : decode cX4_reads 93 = .ok (.aload_n 0, 1) := by decide +kernel
theorem eX4_reads_94 : decode cX4_reads 94 = .ok (.getfield 78, 3) := by decide +kernel
theorem eX4_reads_97 : decode cX4_reads 97 = .ok (.bipush 12, 2) := by decide +kernel
theorem eX4_reads_99 : decode cX4_reads 99 = .ok (.if_icmp .ne 10, 3) := by decide +kernel
theorem eX4_reads_102 : decode cX4_reads 102 = .ok (.aload_n 0, 1) := by decide +kernel
theorem eX4_reads_103 : decode cX4_reads 103 = .ok (.invokevirtual 88, 3) := by decide +kernel
theorem eX4_reads_106 : decode cX4_reads 106 = .ok (.goto 23, 3) := by decide +kernel
theorem eX4_reads_109 : decode cX4_reads 109 = .ok (.aload_n 0, 1) := by decide +kernel
theorem eX4_reads_110 : decode cX4_reads 110 = .ok (.getfield 78, 3) := by decide +kernel
theorem eX4_reads_113 : decode cX4_reads 113 = .ok (.bipush 13, 2) := by decide +kernel
theorem eX4_reads_115 : decode cX4_reads 115 = .ok (.if_icmp .ne 10, 3) := by decide +kernel
theorem eX4_reads_118 : decode cX4_reads 118 = .ok (.aload_n 0, 1) := by decide +kernel
theorem eX4_reads_119 : decode cX4_reads 119 = .ok (.invokevirtual 91, 3) := by decide +kernel
theorem eX4_reads_122 : decode cX4_reads 122 = .ok (.goto 7, 3) := by decide +kernel
theorem eX4_reads_125 : decode cX4_reads 125 = .ok (.aload_n 0, 1) := by decide +kernel
theorem eX4_reads_126 : decode cX4_reads 126 = .ok (.invokevirtual 94, 3) := by decide +kernel
theorem eX4_reads_129 : decode cX4_reads 129 = .ok (.istore 5, 2) := by decide +kernel
theorem eX4_reads_131 : decode cX4_reads 131 = .ok (.iload 5, 2) := by decide +kernel
theorem eX4_reads_133 : decode cX4_reads 133 = .ok (.ifCond .eq 10, 3) := by decide +kernel
theorem eX4_reads_136 : decode cX4_reads 136 = .ok (.aload_n 0, 1) := by decide +kernel
theorem eX4_reads_137 : decode cX4_reads 137 = .ok (.invokevirtual 97, 3) := by decide +kernel
theorem eX4_reads_140 : decode cX4_reads 140 = .ok (.ifCond .ne 5, 3) := by decide +kernel
theorem eX4_reads_143 : decode cX4_reads 143 = .ok (.iconst 0, 1) := by decide +kernel
theorem eX4_reads_144 : decode cX4_reads 144 = .ok (.ireturn, 1) := by decide +kernel
theorem eX4_reads_145 : decode cX4_reads 145 = .ok (.iinc 4 1, 3) := by decide +kernel
theorem eX4_reads_148 : decode cX4_reads 148 = .ok (.goto (-104), 3) := by decide +kernel
theorem eX4_reads_151 : decode cX4_reads 151 = .ok (.aload_n 0, 1) := by decide +kernel
theorem eX4_reads_152 : decode cX4_reads 152 = .ok (.getfield 66, 3) := by decide +kernel
theorem eX4_reads_155 : decode cX4_reads 155 = .ok (.getfield 100, 3) := by decide +kernel
theorem eX4_reads_158 : decode cX4_reads 158 = .ok (.ifCond .ne 10, 3) := by decide +kernel
theorem eX4_reads_161 : decode cX4_reads 161 = .ok (.aload_n 0, 1) := by decide +kernel
theorem eX4_reads_162 : decode cX4_reads 162 = .ok (.bipush 6, 2) := by decide +kernel
theorem eX4_reads_164 : decode cX4_reads 164 = .ok (.invokevirtual 103, 3) := by decide +kernel
theorem eX4_reads_167 : decode cX4_reads 167 = .ok (.ireturn, 1) := by decide +kernel
theorem eX4_reads_168 : decode cX4_reads 168 = .ok (.aload_n 0, 1) := by decide +kernel
theorem eX4_reads_169 : decode cX4_reads 169 = .ok (.getfield 66, 3) := by decide +kernel
theorem eX4_reads_172 : decode cX4_reads 172 = .ok (.aload_n 0, 1) := by decide +kernel
theorem eX4_reads_173 : decode cX4_reads 173 = .ok (.getfield 66, 3) := by decide +kernel
theorem eX4_reads_176 : decode cX4_reads 176 = .ok (.getfield 107, 3) := by decide +kernel
theorem eX4_reads_179 : decode cX4_reads 179 = .ok (.iconst 0, 1) := by decide +kernel
theorem eX4_reads_180 : decode cX4_reads 180 = .ok (.invokestatic 109, 3) := by decide +kernel
theorem eX4_reads_183 : decode cX4_reads 183 = .ok (.putfield 107, 3) := by decide +kernel
theorem eX4_reads_186 : decode cX4_reads 186 = .ok (.aload_n 0, 1) := by decide +kernel
theorem eX4_reads_187 : decode cX4_reads 187 = .ok (.getfield 66, 3) := by decide +kernel
theorem eX4_reads_190 : decode cX4_reads 190 = .ok (.invokevirtual 115, 3) := by decide +kernel
theorem eX4_reads_193 : decode cX4_reads 193 = .ok (.iconst 1, 1) := by decide +kernel
theorem eX4_reads_194 : decode cX4_reads 194 = .ok (.ireturn, 1) := by decide +kernel
