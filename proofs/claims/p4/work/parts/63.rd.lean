theorem eX4_readsConditions_0 : decode cX4_readsConditions 0 = .ok (.iconst 0, 1) := by decide +kernel
theorem eX4_readsConditions_1 : decode cX4_readsConditions 1 = .ok (.istore 4, 2) := by decide +kernel
theorem eX4_readsConditions_3 : decode cX4_readsConditions 3 = .ok (.iload 4, 2) := by decide +kernel
theorem eX4_readsConditions_5 : decode cX4_readsConditions 5 = .ok (.iload_n 3, 1) := by decide +kernel
theorem eX4_readsConditions_6 : decode cX4_readsConditions 6 = .ok (.if_icmp .gt 135, 3) := by decide +kernel
theorem eX4_readsConditions_9 : decode cX4_readsConditions 9 = .ok (.aload_n 0, 1) := by decide +kernel
theorem eX4_readsConditions_10 : decode cX4_readsConditions 10 = .ok (.getfield 78, 3) := by decide +kernel
theorem eX4_readsConditions_13 : decode cX4_readsConditions 13 = .ok (.iload_n 2, 1) := by decide +kernel
theorem eX4_readsConditions_14 : decode cX4_readsConditions 14 = .ok (.if_icmp .ne 127, 3) := by decide +kernel
theorem eX4_readsConditions_17 : decode cX4_readsConditions 17 = .ok (.iload 4, 2) := by decide +kernel
theorem eX4_readsConditions_19 : decode cX4_readsConditions 19 = .ok (.iload_n 3, 1) := by decide +kernel
theorem eX4_readsConditions_20 : decode cX4_readsConditions 20 = .ok (.if_icmp .ne 9, 3) := by decide +kernel
theorem eX4_readsConditions_23 : decode cX4_readsConditions 23 = .ok (.aload_n 0, 1) := by decide +kernel
theorem eX4_readsConditions_24 : decode cX4_readsConditions 24 = .ok (.iconst 5, 1) := by decide +kernel
theorem eX4_readsConditions_25 : decode cX4_readsConditions 25 = .ok (.invokevirtual 103, 3) := by decide +kernel
theorem eX4_readsConditions_28 : decode cX4_readsConditions 28 = .ok (.ireturn, 1) := by decide +kernel
theorem eX4_readsConditions_29 : decode cX4_readsConditions 29 = .ok (.aload_n 0, 1) := by decide +kernel
theorem eX4_readsConditions_30 : decode cX4_readsConditions 30 = .ok (.invokevirtual 75, 3) := by decide +kernel
theorem eX4_readsConditions_33 : decode cX4_readsConditions 33 = .ok (.aload_n 0, 1) := by decide +kernel
theorem eX4_readsConditions_34 : decode cX4_readsConditions 34 = .ok (.aload_n 0, 1) := by decide +kernel
theorem eX4_readsConditions_35 : decode cX4_readsConditions 35 = .ok (.getfield 39, 3) := by decide +kernel
theorem eX4_readsConditions_38 : decode cX4_readsConditions 38 = .ok (.aload_n 0, 1) := by decide +kernel
theorem eX4_readsConditions_39 : decode cX4_readsConditions 39 = .ok (.getfield 66, 3) := by decide +kernel
theorem eX4_readsConditions_42 : decode cX4_readsConditions 42 = .ok (.getfield 121, 3) := by decide +kernel
theorem eX4_readsConditions_45 : decode cX4_readsConditions 45 = .ok (.invokevirtual 142, 3) := by decide +kernel
theorem eX4_readsConditions_48 : decode cX4_readsConditions 48 = .ok (.istore 5, 2) := by decide +kernel
theorem eX4_readsConditions_50 : decode cX4_readsConditions 50 = .ok (.iload 5, 2) := by decide +kernel
theorem eX4_readsConditions_52 : decode cX4_readsConditions 52 = .ok (.iconst (-1), 1) := by decide +kernel
theorem eX4_readsConditions_53 : decode cX4_readsConditions 53 = .ok (.if_icmp .ne 5, 3) := by decide +kernel
theorem eX4_readsConditions_56 : decode cX4_readsConditions 56 = .ok (.iconst 0, 1) := by decide +kernel
theorem eX4_readsConditions_57 : decode cX4_readsConditions 57 = .ok (.ireturn, 1) := by decide +kernel
theorem eX4_readsConditions_58 : decode cX4_readsConditions 58 = .ok (.aload_n 0, 1) := by decide +kernel
theorem eX4_readsConditions_59 : decode cX4_readsConditions 59 = .ok (.invokevirtual 75, 3) := by decide +kernel
theorem eX4_readsConditions_62 : decode cX4_readsConditions 62 = .ok (.aload_n 0, 1) := by decide +kernel
theorem eX4_readsConditions_63 : decode cX4_readsConditions 63 = .ok (.iload_n 2, 1) := by decide +kernel
theorem eX4_readsConditions_64 : decode cX4_readsConditions 64 = .ok (.bipush 11, 2) := by decide +kernel
theorem eX4_readsConditions_66 : decode cX4_readsConditions 66 = .ok (.if_icmp .ne 7, 3) := by decide +kernel
theorem eX4_readsConditions_69 : decode cX4_readsConditions 69 = .ok (.iconst 1, 1) := by decide +kernel
theorem eX4_readsConditions_70 : decode cX4_readsConditions 70 = .ok (.goto 4, 3) := by decide +kernel
theorem eX4_readsConditions_74 : decode cX4_readsConditions 74 = .ok (.invokevirtual 159, 3) := by decide +kernel
theorem eX4_readsConditions_77 : decode cX4_readsConditions 77 = .ok (.istore 6, 2) := by decide +kernel
theorem eX4_readsConditions_79 : decode cX4_readsConditions 79 = .ok (.iload 6, 2) := by decide +kernel
theorem eX4_readsConditions_81 : decode cX4_readsConditions 81 = .ok (.iconst (-1), 1) := by decide +kernel
theorem eX4_readsConditions_82 : decode cX4_readsConditions 82 = .ok (.if_icmp .ne 5, 3) := by decide +kernel
theorem eX4_readsConditions_85 : decode cX4_readsConditions 85 = .ok (.iconst 0, 1) := by decide +kernel
theorem eX4_readsConditions_86 : decode cX4_readsConditions 86 = .ok (.ireturn, 1) := by decide +kernel
theorem eX4_readsConditions_87 : decode cX4_readsConditions 87 = .ok (.aload_n 0, 1) := by decide +kernel
theorem eX4_readsConditions_88 : decode cX4_readsConditions 88 = .ok (.getfield 78, 3) := by decide +kernel
theorem eX4_readsConditions_91 : decode cX4_readsConditions 91 = .ok (.iconst 3, 1) := by decide +kernel
theorem eX4_readsConditions_92 : decode cX4_readsConditions 92 = .ok (.if_icmp .eq 8, 3) := by decide +kernel
theorem eX4_readsConditions_95 : decode cX4_readsConditions 95 = .ok (.aload_n 0, 1) := by decide +kernel
theorem eX4_readsConditions_96 : decode cX4_readsConditions 96 = .ok (.invokevirtual 94, 3) := by decide +kernel
theorem eX4_readsConditions_99 : decode cX4_readsConditions 99 = .ok (.ireturn, 1) := by decide +kernel
theorem eX4_readsConditions_100 : decode cX4_readsConditions 100 = .ok (.aload_n 0, 1) := by decide +kernel
theorem eX4_readsConditions_101 : decode cX4_readsConditions 101 = .ok (.getfield 127, 3) := by decide +kernel
theorem eX4_readsConditions_104 : decode cX4_readsConditions 104 = .ok (.bipush 20, 2) := by decide +kernel
theorem eX4_readsConditions_106 : decode cX4_readsConditions 106 = .ok (.if_icmp .le 9, 3) := by decide +kernel
theorem eX4_readsConditions_109 : decode cX4_readsConditions 109 = .ok (.aload_n 0, 1) := by decide +kernel
theorem eX4_readsConditions_110 : decode cX4_readsConditions 110 = .ok (.iconst 4, 1) := by decide +kernel
theorem eX4_readsConditions_111 : decode cX4_readsConditions 111 = .ok (.invokevirtual 103, 3) := by decide +kernel
theorem eX4_readsConditions_114 : decode cX4_readsConditions 114 = .ok (.ireturn, 1) := by decide +kernel
theorem eX4_readsConditions_115 : decode cX4_readsConditions 115 = .ok (.aload_n 0, 1) := by decide +kernel
theorem eX4_readsConditions_116 : decode cX4_readsConditions 116 = .ok (.getfield 66, 3) := by decide +kernel
theorem eX4_readsConditions_119 : decode cX4_readsConditions 119 = .ok (.iload_n 1, 1) := by decide +kernel
theorem eX4_readsConditions_120 : decode cX4_readsConditions 120 = .ok (.iload 5, 2) := by decide +kernel
theorem eX4_readsConditions_122 : decode cX4_readsConditions 122 = .ok (.iload 6, 2) := by decide +kernel
theorem eX4_readsConditions_124 : decode cX4_readsConditions 124 = .ok (.aload_n 0, 1) := by decide +kernel
theorem eX4_readsConditions_125 : decode cX4_readsConditions 125 = .ok (.getfield 127, 3) := by decide +kernel
theorem eX4_readsConditions_128 : decode cX4_readsConditions 128 = .ok (.invokevirtual 163, 3) := by decide +kernel
theorem eX4_readsConditions_131 : decode cX4_readsConditions 131 = .ok (.aload_n 0, 1) := by decide +kernel
theorem eX4_readsConditions_132 : decode cX4_readsConditions 132 = .ok (.invokevirtual 75, 3) := by decide +kernel
theorem eX4_readsConditions_135 : decode cX4_readsConditions 135 = .ok (.iinc 4 1, 3) := by decide +kernel
theorem eX4_readsConditions_138 : decode cX4_readsConditions 138 = .ok (.goto (-135), 3) := by decide +kernel
theorem eX4_readsConditions_141 : decode cX4_readsConditions 141 = .ok (.iconst 1, 1) := by decide +kernel
theorem eX4_readsConditions_142 : decode cX4_readsConditions 142 = .ok (.ireturn, 1) := by decide +kernel
theorem eX4_readsConditions_73 : decode cX4_readsConditions 73 = .ok (.iconst 0, 1) := by decide +kernel
theorem eX4_readsResets_0 : decode cX4_readsResets 0 = .ok (.iconst 0, 1) := by decide +kernel
theorem eX4_readsResets_1 : decode cX4_readsResets 1 = .ok (.istore_n 2, 1) := by decide +kernel
theorem eX4_readsResets_2 : decode cX4_readsResets 2 = .ok (.iload_n 2, 1) := by decide +kernel
theorem eX4_readsResets_3 : decode cX4_readsResets 3 = .ok (.iconst 3, 1) := by decide +kernel
theorem eX4_readsResets_4 : decode cX4_readsResets 4 = .ok (.if_icmp .gt 87, 3) := by decide +kernel
theorem eX4_readsResets_7 : decode cX4_readsResets 7 = .ok (.aload_n 0, 1) := by decide +kernel
theorem eX4_readsResets_8 : decode cX4_readsResets 8 = .ok (.getfield 78, 3) := by decide +kernel
theorem eX4_readsResets_11 : decode cX4_readsResets 11 = .ok (.bipush 15, 2) := by decide +kernel
theorem eX4_readsResets_13 : decode cX4_readsResets 13 = .ok (.if_icmp .ne 78, 3) := by decide +kernel
theorem eX4_readsResets_16 : decode cX4_readsResets 16 = .ok (.aload_n 0, 1) := by decide +kernel
theorem eX4_readsResets_17 : decode cX4_readsResets 17 = .ok (.invokevirtual 75, 3) := by decide +kernel
theorem eX4_readsResets_20 : decode cX4_readsResets 20 = .ok (.aload_n 0, 1) := by decide +kernel
theorem eX4_readsResets_21 : decode cX4_readsResets 21 = .ok (.aload_n 0, 1) := by decide +kernel
theorem eX4_readsResets_22 : decode cX4_readsResets 22 = .ok (.getfield 39, 3) := by decide +kernel
theorem eX4_readsResets_25 : decode cX4_readsResets 25 = .ok (.aload_n 0, 1) := by decide +kernel
theorem eX4_readsResets_26 : decode cX4_readsResets 26 = .ok (.getfield 66, 3) := by decide +kernel
theorem eX4_readsResets_29 : decode cX4_readsResets 29 = .ok (.getfield 121, 3) := by decide +kernel
theorem eX4_readsResets_32 : decode cX4_readsResets 32 = .ok (.invokevirtual 142, 3) := by decide +kernel
theorem eX4_readsResets_35 : decode cX4_readsResets 35 = .ok (.istore_n 3, 1) := by decide +kernel
theorem eX4_readsResets_36 : decode cX4_readsResets 36 = .ok (.iload_n 3, 1) := by decide +kernel
theorem eX4_readsResets_37 : decode cX4_readsResets 37 = .ok (.iconst (-1), 1) := by decide +kernel
theorem eX4_readsResets_38 : decode cX4_readsResets 38 = .ok (.if_icmp .ne 5, 3) := by decide +kernel
theorem eX4_readsResets_41 : decode cX4_readsResets 41 = .ok (.iconst 0, 1) := by decide +kernel
theorem eX4_readsResets_42 : decode cX4_readsResets 42 = .ok (.ireturn, 1) := by decide +kernel
theorem eX4_readsResets_43 : decode cX4_readsResets 43 = .ok (.aload_n 0, 1) := by decide +kernel
theorem eX4_readsResets_44 : decode cX4_readsResets 44 = .ok (.getfield 66, 3) := by decide +kernel
theorem eX4_readsResets_47 : decode cX4_readsResets 47 = .ok (.getfield 156, 3) := by decide +kernel
theorem eX4_readsResets_50 : decode cX4_readsResets 50 = .ok (.iload_n 1, 1) := by decide +kernel
theorem eX4_readsResets_51 : decode cX4_readsResets 51 = .ok (.iaload, 1) := by decide +kernel
theorem eX4_readsResets_52 : decode cX4_readsResets 52 = .ok (.iload_n 3, 1) := by decide +kernel
theorem eX4_readsResets_53 : decode cX4_readsResets 53 = .ok (.ishr, 1) := by decide +kernel
theorem eX4_readsResets_54 : decode cX4_readsResets 54 = .ok (.iconst 1, 1) := by decide +kernel
theorem eX4_readsResets_55 : decode cX4_readsResets 55 = .ok (.iand, 1) := by decide +kernel
theorem eX4_readsResets_56 : decode cX4_readsResets 56 = .ok (.iconst 1, 1) := by decide +kernel
theorem eX4_readsResets_57 : decode cX4_readsResets 57 = .ok (.if_icmp .ne 9, 3) := by decide +kernel
theorem eX4_readsResets_60 : decode cX4_readsResets 60 = .ok (.aload_n 0, 1) := by decide +kernel
theorem eX4_readsResets_61 : decode cX4_readsResets 61 = .ok (.iconst 5, 1) := by decide +kernel
theorem eX4_readsResets_62 : decode cX4_readsResets 62 = .ok (.invokevirtual 103, 3) := by decide +kernel
theorem eX4_readsResets_65 : decode cX4_readsResets 65 = .ok (.ireturn, 1) := by decide +kernel
theorem eX4_readsResets_66 : decode cX4_readsResets 66 = .ok (.aload_n 0, 1) := by decide +kernel
theorem eX4_readsResets_67 : decode cX4_readsResets 67 = .ok (.getfield 66, 3) := by decide +kernel
theorem eX4_readsResets_70 : decode cX4_readsResets 70 = .ok (.getfield 156, 3) := by decide +kernel
theorem eX4_readsResets_73 : decode cX4_readsResets 73 = .ok (.iload_n 1, 1) := by decide +kernel
theorem eX4_readsResets_74 : decode cX4_readsResets 74 = .ok (.dup2, 1) := by decide +kernel
theorem eX4_readsResets_75 : decode cX4_readsResets 75 = .ok (.iaload, 1) := by decide +kernel
theorem eX4_readsResets_76 : decode cX4_readsResets 76 = .ok (.iconst 1, 1) := by decide +kernel
theorem eX4_readsResets_77 : decode cX4_readsResets 77 = .ok (.iload_n 3, 1) := by decide +kernel
theorem eX4_readsResets_78 : decode cX4_readsResets 78 = .ok (.ishl, 1) := by decide +kernel
theorem eX4_readsResets_79 : decode cX4_readsResets 79 = .ok (.ior, 1) := by decide +kernel
theorem eX4_readsResets_80 : decode cX4_readsResets 80 = .ok (.iastore, 1) := by decide +kernel
theorem eX4_readsResets_81 : decode cX4_readsResets 81 = .ok (.aload_n 0, 1) := by decide +kernel
theorem eX4_readsResets_82 : decode cX4_readsResets 82 = .ok (.invokevirtual 75, 3) := by decide +kernel
theorem eX4_readsResets_85 : decode cX4_readsResets 85 = .ok (.iinc 2 1, 3) := by decide +kernel
theorem eX4_readsResets_88 : decode cX4_readsResets 88 = .ok (.goto (-86), 3) := by decide +kernel
theorem eX4_readsResets_91 : decode cX4_readsResets 91 = .ok (.iconst 1, 1) := by decide +kernel
theorem eX4_readsResets_92 : decode cX4_readsResets 92 = .ok (.ireturn, 1) := by decide +kernel
theorem eX4_readsClock_0 : decode cX4_readsClock 0 = .ok (.aload_n 0, 1) := by decide +kernel
theorem eX4_readsClock_1 : decode cX4_readsClock 1 = .ok (.getfield 66, 3) := by decide +kernel
theorem eX4_readsClock_4 : decode cX4_readsClock 4 = .ok (.getfield 121, 3) := by decide +kernel
theorem eX4_readsClock_7 : decode cX4_readsClock 7 = .ok (.iconst 3, 1) := by decide +kernel
theorem eX4_readsClock_8 : decode cX4_readsClock 8 = .ok (.if_icmp .lt 9, 3) := by decide +kernel
theorem eX4_readsClock_11 : decode cX4_readsClock 11 = .ok (.aload_n 0, 1) := by decide +kernel
theorem eX4_readsClock_12 : decode cX4_readsClock 12 = .ok (.iconst 5, 1) := by decide +kernel
theorem eX4_readsClock_13 : decode cX4_readsClock 13 = .ok (.invokevirtual 103, 3) := by decide +kernel
theorem eX4_readsClock_16 : decode cX4_readsClock 16 = .ok (.ireturn, 1) := by decide +kernel
theorem eX4_readsClock_17 : decode cX4_readsClock 17 = .ok (.aload_n 0, 1) := by decide +kernel
theorem eX4_readsClock_18 : decode cX4_readsClock 18 = .ok (.invokevirtual 75, 3) := by decide +kernel
theorem eX4_readsClock_21 : decode cX4_readsClock 21 = .ok (.aload_n 0, 1) := by decide +kernel
theorem eX4_readsClock_22 : decode cX4_readsClock 22 = .ok (.invokevirtual 124, 3) := by decide +kernel
theorem eX4_readsClock_25 : decode cX4_readsClock 25 = .ok (.ifCond .ne 5, 3) := by decide +kernel
theorem eX4_readsClock_28 : decode cX4_readsClock 28 = .ok (.iconst 0, 1) := by decide +kernel
theorem eX4_readsClock_29 : decode cX4_readsClock 29 = .ok (.ireturn, 1) := by decide +kernel
theorem eX4_readsClock_30 : decode cX4_readsClock 30 = .ok (.aload_n 0, 1) := by decide +kernel
theorem eX4_readsClock_31 : decode cX4_readsClock 31 = .ok (.getfield 39, 3) := by decide +kernel
theorem eX4_readsClock_34 : decode cX4_readsClock 34 = .ok (.aload_n 0, 1) := by decide +kernel
theorem eX4_readsClock_35 : decode cX4_readsClock 35 = .ok (.getfield 66, 3) := by decide +kernel
theorem eX4_readsClock_38 : decode cX4_readsClock 38 = .ok (.getfield 121, 3) := by decide +kernel
theorem eX4_readsClock_41 : decode cX4_readsClock 41 = .ok (.aload_n 0, 1) := by decide +kernel
theorem eX4_readsClock_42 : decode cX4_readsClock 42 = .ok (.getfield 127, 3) := by decide +kernel
theorem eX4_readsClock_45 : decode cX4_readsClock 45 = .ok (.iastore, 1) := by decide +kernel
theorem eX4_readsClock_46 : decode cX4_readsClock 46 = .ok (.aload_n 0, 1) := by decide +kernel
theorem eX4_readsClock_47 : decode cX4_readsClock 47 = .ok (.getfield 66, 3) := by decide +kernel
theorem eX4_readsClock_50 : decode cX4_readsClock 50 = .ok (.dup, 1) := by decide +kernel
theorem eX4_readsClock_51 : decode cX4_readsClock 51 = .ok (.getfield 121, 3) := by decide +kernel
theorem eX4_readsClock_54 : decode cX4_readsClock 54 = .ok (.iconst 1, 1) := by decide +kernel
theorem eX4_readsClock_55 : decode cX4_readsClock 55 = .ok (.iadd, 1) := by decide +kernel
theorem eX4_readsClock_56 : decode cX4_readsClock 56 = .ok (.putfield 121, 3) := by decide +kernel
theorem eX4_readsClock_59 : decode cX4_readsClock 59 = .ok (.aload_n 0, 1) := by decide +kernel
theorem eX4_readsClock_60 : decode cX4_readsClock 60 = .ok (.invokevirtual 75, 3) := by decide +kernel
theorem eX4_readsClock_63 : decode cX4_readsClock 63 = .ok (.iconst 1, 1) := by decide +kernel
theorem eX4_readsClock_64 : decode cX4_readsClock 64 = .ok (.ireturn, 1) := by decide +kernel
theorem eX4_readsPlace_0 : decode cX4_readsPlace 0 = .ok (.aload_n 0, 1) := by decide +kernel
theorem eX4_readsPlace_1 : decode cX4_readsPlace 1 = .ok (.getfield 66, 3) := by decide +kernel
theorem eX4_readsPlace_4 : decode cX4_readsPlace 4 = .ok (.getfield 100, 3) := by decide +kernel
theorem eX4_readsPlace_7 : decode cX4_readsPlace 7 = .ok (.bipush 8, 2) := by decide +kernel
theorem eX4_readsPlace_9 : decode cX4_readsPlace 9 = .ok (.if_icmp .lt 9, 3) := by decide +kernel
theorem eX4_readsPlace_12 : decode cX4_readsPlace 12 = .ok (.aload_n 0, 1) := by decide +kernel
theorem eX4_readsPlace_13 : decode cX4_readsPlace 13 = .ok (.iconst 5, 1) := by decide +kernel
theorem eX4_readsPlace_14 : decode cX4_readsPlace 14 = .ok (.invokevirtual 103, 3) := by decide +kernel
theorem eX4_readsPlace_17 : decode cX4_readsPlace 17 = .ok (.ireturn, 1) := by decide +kernel
theorem eX4_readsPlace_18 : decode cX4_readsPlace 18 = .ok (.aload_n 0, 1) := by decide +kernel
theorem eX4_readsPlace_19 : decode cX4_readsPlace 19 = .ok (.invokevirtual 75, 3) := by decide +kernel
theorem eX4_readsPlace_22 : decode cX4_readsPlace 22 = .ok (.aload_n 0, 1) := by decide +kernel
theorem eX4_readsPlace_23 : decode cX4_readsPlace 23 = .ok (.invokevirtual 124, 3) := by decide +kernel
theorem eX4_readsPlace_26 : decode cX4_readsPlace 26 = .ok (.ifCond .ne 5, 3) := by decide +kernel
theorem eX4_readsPlace_29 : decode cX4_readsPlace 29 = .ok (.iconst 0, 1) := by decide +kernel
theorem eX4_readsPlace_30 : decode cX4_readsPlace 30 = .ok (.ireturn, 1) := by decide +kernel
theorem eX4_readsPlace_31 : decode cX4_readsPlace 31 = .ok (.aload_n 0, 1) := by decide +kernel
theorem eX4_readsPlace_32 : decode cX4_readsPlace 32 = .ok (.getfield 66, 3) := by decide +kernel
theorem eX4_readsPlace_35 : decode cX4_readsPlace 35 = .ok (.getfield 100, 3) := by decide +kernel
theorem eX4_readsPlace_38 : decode cX4_readsPlace 38 = .ok (.istore_n 1, 1) := by decide +kernel
theorem eX4_readsPlace_39 : decode cX4_readsPlace 39 = .ok (.aload_n 0, 1) := by decide +kernel
theorem eX4_readsPlace_40 : decode cX4_readsPlace 40 = .ok (.getfield 42, 3) := by decide +kernel
theorem eX4_readsPlace_43 : decode cX4_readsPlace 43 = .ok (.iload_n 1, 1) := by decide +kernel
theorem eX4_readsPlace_44 : decode cX4_readsPlace 44 = .ok (.aload_n 0, 1) := by decide +kernel
theorem eX4_readsPlace_45 : decode cX4_readsPlace 45 = .ok (.getfield 127, 3) := by decide +kernel
theorem eX4_readsPlace_48 : decode cX4_readsPlace 48 = .ok (.iastore, 1) := by decide +kernel
theorem eX4_readsPlace_49 : decode cX4_readsPlace 49 = .ok (.aload_n 0, 1) := by decide +kernel
theorem eX4_readsPlace_50 : decode cX4_readsPlace 50 = .ok (.getfield 66, 3) := by decide +kernel
theorem eX4_readsPlace_53 : decode cX4_readsPlace 53 = .ok (.dup, 1) := by decide +kernel
theorem eX4_readsPlace_54 : decode cX4_readsPlace 54 = .ok (.getfield 100, 3) := by decide +kernel
theorem eX4_readsPlace_57 : decode cX4_readsPlace 57 = .ok (.iconst 1, 1) := by decide +kernel
theorem eX4_readsPlace_58 : decode cX4_readsPlace 58 = .ok (.iadd, 1) := by decide +kernel
theorem eX4_readsPlace_59 : decode cX4_readsPlace 59 = .ok (.putfield 100, 3) := by decide +kernel
theorem eX4_readsPlace_62 : decode cX4_readsPlace 62 = .ok (.aload_n 0, 1) := by decide +kernel
theorem eX4_readsPlace_63 : decode cX4_readsPlace 63 = .ok (.invokevirtual 75, 3) := by decide +kernel
theorem eX4_readsPlace_66 : decode cX4_readsPlace 66 = .ok (.aload_n 0, 1) := by decide +kernel
theorem eX4_readsPlace_67 : decode cX4_readsPlace 67 = .ok (.getfield 78, 3) := by decide +kernel
theorem eX4_readsPlace_70 : decode cX4_readsPlace 70 = .ok (.bipush 10, 2) := by decide +kernel
theorem eX4_readsPlace_72 : decode cX4_readsPlace 72 = .ok (.if_icmp .ne 17, 3) := by decide +kernel
theorem eX4_readsPlace_75 : decode cX4_readsPlace 75 = .ok (.aload_n 0, 1) := by decide +kernel
theorem eX4_readsPlace_76 : decode cX4_readsPlace 76 = .ok (.getfield 66, 3) := by decide +kernel
theorem eX4_readsPlace_79 : decode cX4_readsPlace 79 = .ok (.getfield 130, 3) := by decide +kernel
theorem eX4_readsPlace_82 : decode cX4_readsPlace 82 = .ok (.iload_n 1, 1) := by decide +kernel
theorem eX4_readsPlace_83 : decode cX4_readsPlace 83 = .ok (.iconst 1, 1) := by decide +kernel
theorem eX4_readsPlace_84 : decode cX4_readsPlace 84 = .ok (.bastore, 1) := by decide +kernel
theorem eX4_readsPlace_85 : decode cX4_readsPlace 85 = .ok (.aload_n 0, 1) := by decide +kernel
theorem eX4_readsPlace_86 : decode cX4_readsPlace 86 = .ok (.invokevirtual 75, 3) := by decide +kernel
theorem eX4_readsPlace_89 : decode cX4_readsPlace 89 = .ok (.aload_n 0, 1) := by decide +kernel
theorem eX4_readsPlace_90 : decode cX4_readsPlace 90 = .ok (.iload_n 1, 1) := by decide +kernel
theorem eX4_readsPlace_91 : decode cX4_readsPlace 91 = .ok (.invokestatic 134, 3) := by decide +kernel
theorem eX4_readsPlace_94 : decode cX4_readsPlace 94 = .ok (.bipush 11, 2) := by decide +kernel
theorem eX4_readsPlace_96 : decode cX4_readsPlace 96 = .ok (.iconst 3, 1) := by decide +kernel
theorem eX4_readsPlace_97 : decode cX4_readsPlace 97 = .ok (.invokevirtual 138, 3) := by decide +kernel
theorem eX4_readsPlace_100 : decode cX4_readsPlace 100 = .ok (.ireturn, 1) := by decide +kernel
theorem eX4_readsStart_0 : decode cX4_readsStart 0 = .ok (.aload_n 0, 1) := by decide +kernel
theorem eX4_readsStart_1 : decode cX4_readsStart 1 = .ok (.getfield 66, 3) := by decide +kernel
theorem eX4_readsStart_4 : decode cX4_readsStart 4 = .ok (.getfield 107, 3) := by decide +kernel
theorem eX4_readsStart_7 : decode cX4_readsStart 7 = .ok (.iconst (-1), 1) := by decide +kernel
theorem eX4_readsStart_8 : decode cX4_readsStart 8 = .ok (.if_icmp .eq 9, 3) := by decide +kernel
theorem eX4_readsStart_11 : decode cX4_readsStart 11 = .ok (.aload_n 0, 1) := by decide +kernel
theorem eX4_readsStart_12 : decode cX4_readsStart 12 = .ok (.iconst 5, 1) := by decide +kernel
theorem eX4_readsStart_13 : decode cX4_readsStart 13 = .ok (.invokevirtual 103, 3) := by decide +kernel
theorem eX4_readsStart_16 : decode cX4_readsStart 16 = .ok (.ireturn, 1) := by decide +kernel
theorem eX4_readsStart_17 : decode cX4_readsStart 17 = .ok (.aload_n 0, 1) := by decide +kernel
theorem eX4_readsStart_18 : decode cX4_readsStart 18 = .ok (.invokevirtual 75, 3) := by decide +kernel
theorem eX4_readsStart_21 : decode cX4_readsStart 21 = .ok (.aload_n 0, 1) := by decide +kernel
theorem eX4_readsStart_22 : decode cX4_readsStart 22 = .ok (.aload_n 0, 1) := by decide +kernel
theorem eX4_readsStart_23 : decode cX4_readsStart 23 = .ok (.getfield 42, 3) := by decide +kernel
theorem eX4_readsStart_26 : decode cX4_readsStart 26 = .ok (.aload_n 0, 1) := by decide +kernel
theorem eX4_readsStart_27 : decode cX4_readsStart 27 = .ok (.getfield 66, 3) := by decide +kernel
theorem eX4_readsStart_30 : decode cX4_readsStart 30 = .ok (.getfield 100, 3) := by decide +kernel
theorem eX4_readsStart_33 : decode cX4_readsStart 33 = .ok (.invokevirtual 142, 3) := by decide +kernel
theorem eX4_readsStart_36 : decode cX4_readsStart 36 = .ok (.istore_n 1, 1) := by decide +kernel
theorem eX4_readsStart_37 : decode cX4_readsStart 37 = .ok (.iload_n 1, 1) := by decide +kernel
theorem eX4_readsStart_38 : decode cX4_readsStart 38 = .ok (.iconst (-1), 1) := by decide +kernel
theorem eX4_readsStart_39 : decode cX4_readsStart 39 = .ok (.if_icmp .ne 5, 3) := by decide +kernel
theorem eX4_readsStart_42 : decode cX4_readsStart 42 = .ok (.iconst 0, 1) := by decide +kernel
theorem eX4_readsStart_43 : decode cX4_readsStart 43 = .ok (.ireturn, 1) := by decide +kernel
theorem eX4_readsStart_44 : decode cX4_readsStart 44 = .ok (.aload_n 0, 1) := by decide +kernel
theorem eX4_readsStart_45 : decode cX4_readsStart 45 = .ok (.getfield 66, 3) := by decide +kernel
theorem eX4_readsStart_48 : decode cX4_readsStart 48 = .ok (.iload_n 1, 1) := by decide +kernel
theorem eX4_readsStart_49 : decode cX4_readsStart 49 = .ok (.putfield 107, 3) := by decide +kernel
theorem eX4_readsStart_52 : decode cX4_readsStart 52 = .ok (.aload_n 0, 1) := by decide +kernel
theorem eX4_readsStart_53 : decode cX4_readsStart 53 = .ok (.invokevirtual 75, 3) := by decide +kernel
theorem eX4_readsStart_56 : decode cX4_readsStart 56 = .ok (.iconst 1, 1) := by decide +kernel
theorem eX4_readsStart_57 : decode cX4_readsStart 57 = .ok (.ireturn, 1) := by decide +kernel
theorem eX4_readsEdge_0 : decode cX4_readsEdge 0 = .ok (.aload_n 0, 1) := by decide +kernel
theorem eX4_readsEdge_1 : decode cX4_readsEdge 1 = .ok (.getfield 66, 3) := by decide +kernel
theorem eX4_readsEdge_4 : decode cX4_readsEdge 4 = .ok (.getfield 146, 3) := by decide +kernel
theorem eX4_readsEdge_7 : decode cX4_readsEdge 7 = .ok (.bipush 14, 2) := by decide +kernel
theorem eX4_readsEdge_9 : decode cX4_readsEdge 9 = .ok (.if_icmp .lt 9, 3) := by decide +kernel
theorem eX4_readsEdge_12 : decode cX4_readsEdge 12 = .ok (.aload_n 0, 1) := by decide +kernel
theorem eX4_readsEdge_13 : decode cX4_readsEdge 13 = .ok (.iconst 5, 1) := by decide +kernel
theorem eX4_readsEdge_14 : decode cX4_readsEdge 14 = .ok (.invokevirtual 103, 3) := by decide +kernel
theorem eX4_readsEdge_17 : decode cX4_readsEdge 17 = .ok (.ireturn, 1) := by decide +kernel
theorem eX4_readsEdge_18 : decode cX4_readsEdge 18 = .ok (.aload_n 0, 1) := by decide +kernel
theorem eX4_readsEdge_19 : decode cX4_readsEdge 19 = .ok (.invokevirtual 75, 3) := by decide +kernel
theorem eX4_readsEdge_22 : decode cX4_readsEdge 22 = .ok (.aload_n 0, 1) := by decide +kernel
theorem eX4_readsEdge_23 : decode cX4_readsEdge 23 = .ok (.aload_n 0, 1) := by decide +kernel
theorem eX4_readsEdge_24 : decode cX4_readsEdge 24 = .ok (.getfield 42, 3) := by decide +kernel
theorem eX4_readsEdge_27 : decode cX4_readsEdge 27 = .ok (.aload_n 0, 1) := by decide +kernel
theorem eX4_readsEdge_28 : decode cX4_readsEdge 28 = .ok (.getfield 66, 3) := by decide +kernel
theorem eX4_readsEdge_31 : decode cX4_readsEdge 31 = .ok (.getfield 100, 3) := by decide +kernel
theorem eX4_readsEdge_34 : decode cX4_readsEdge 34 = .ok (.invokevirtual 142, 3) := by decide +kernel
theorem eX4_readsEdge_37 : decode cX4_readsEdge 37 = .ok (.istore_n 1, 1) := by decide +kernel
theorem eX4_readsEdge_38 : decode cX4_readsEdge 38 = .ok (.iload_n 1, 1) := by decide +kernel
theorem eX4_readsEdge_39 : decode cX4_readsEdge 39 = .ok (.iconst (-1), 1) := by decide +kernel
theorem eX4_readsEdge_40 : decode cX4_readsEdge 40 = .ok (.if_icmp .ne 5, 3) := by decide +kernel
theorem eX4_readsEdge_43 : decode cX4_readsEdge 43 = .ok (.iconst 0, 1) := by decide +kernel
theorem eX4_readsEdge_44 : decode cX4_readsEdge 44 = .ok (.ireturn, 1) := by decide +kernel
theorem eX4_readsEdge_45 : decode cX4_readsEdge 45 = .ok (.aload_n 0, 1) := by decide +kernel
theorem eX4_readsEdge_46 : decode cX4_readsEdge 46 = .ok (.invokevirtual 75, 3) := by decide +kernel
theorem eX4_readsEdge_49 : decode cX4_readsEdge 49 = .ok (.aload_n 0, 1) := by decide +kernel
theorem eX4_readsEdge_50 : decode cX4_readsEdge 50 = .ok (.aload_n 0, 1) := by decide +kernel
theorem eX4_readsEdge_51 : decode cX4_readsEdge 51 = .ok (.getfield 42, 3) := by decide +kernel
theorem eX4_readsEdge_54 : decode cX4_readsEdge 54 = .ok (.aload_n 0, 1) := by decide +kernel
theorem eX4_readsEdge_55 : decode cX4_readsEdge 55 = .ok (.getfield 66, 3) := by decide +kernel
theorem eX4_readsEdge_58 : decode cX4_readsEdge 58 = .ok (.getfield 100, 3) := by decide +kernel
theorem eX4_readsEdge_61 : decode cX4_readsEdge 61 = .ok (.invokevirtual 142, 3) := by decide +kernel
theorem eX4_readsEdge_64 : decode cX4_readsEdge 64 = .ok (.istore_n 2, 1) := by decide +kernel
theorem eX4_readsEdge_65 : decode cX4_readsEdge 65 = .ok (.iload_n 2, 1) := by decide +kernel
theorem eX4_readsEdge_66 : decode cX4_readsEdge 66 = .ok (.iconst (-1), 1) := by decide +kernel
theorem eX4_readsEdge_67 : decode cX4_readsEdge 67 = .ok (.if_icmp .ne 5, 3) := by decide +kernel
theorem eX4_readsEdge_70 : decode cX4_readsEdge 70 = .ok (.iconst 0, 1) := by decide +kernel
theorem eX4_readsEdge_71 : decode cX4_readsEdge 71 = .ok (.ireturn, 1) := by decide +kernel
theorem eX4_readsEdge_72 : decode cX4_readsEdge 72 = .ok (.aload_n 0, 1) := by decide +kernel
theorem eX4_readsEdge_73 : decode cX4_readsEdge 73 = .ok (.invokevirtual 75, 3) := by decide +kernel
theorem eX4_readsEdge_76 : decode cX4_readsEdge 76 = .ok (.aload_n 0, 1) := by decide +kernel
theorem eX4_readsEdge_77 : decode cX4_readsEdge 77 = .ok (.getfield 66, 3) := by decide +kernel
theorem eX4_readsEdge_80 : decode cX4_readsEdge 80 = .ok (.getfield 146, 3) := by decide +kernel
theorem eX4_readsEdge_83 : decode cX4_readsEdge 83 = .ok (.istore_n 3, 1) := by decide +kernel
theorem eX4_readsEdge_84 : decode cX4_readsEdge 84 = .ok (.aload_n 0, 1) := by decide +kernel
theorem eX4_readsEdge_85 : decode cX4_readsEdge 85 = .ok (.getfield 66, 3) := by decide +kernel
theorem eX4_readsEdge_88 : decode cX4_readsEdge 88 = .ok (.iload_n 1, 1) := by decide +kernel
theorem eX4_readsEdge_89 : decode cX4_readsEdge 89 = .ok (.iload_n 2, 1) := by decide +kernel
theorem eX4_readsEdge_90 : decode cX4_readsEdge 90 = .ok (.invokevirtual 149, 3) := by decide +kernel
theorem eX4_readsEdge_93 : decode cX4_readsEdge 93 = .ok (.aload_n 0, 1) := by decide +kernel
theorem eX4_readsEdge_94 : decode cX4_readsEdge 94 = .ok (.iload_n 3, 1) := by decide +kernel
theorem eX4_readsEdge_95 : decode cX4_readsEdge 95 = .ok (.bipush 14, 2) := by decide +kernel
theorem eX4_readsEdge_97 : decode cX4_readsEdge 97 = .ok (.iconst 4, 1) := by decide +kernel
theorem eX4_readsEdge_98 : decode cX4_readsEdge 98 = .ok (.invokevirtual 138, 3) := by decide +kernel
theorem eX4_readsEdge_101 : decode cX4_readsEdge 101 = .ok (.ifCond .eq 15, 3) := by decide +kernel
theorem eX4_readsEdge_104 : decode cX4_readsEdge 104 = .ok (.aload_n 0, 1) := by decide +kernel
theorem eX4_readsEdge_105 : decode cX4_readsEdge 105 = .ok (.iload_n 3, 1) := by decide +kernel
theorem eX4_readsEdge_106 : decode cX4_readsEdge 106 = .ok (.invokevirtual 153, 3) := by decide +kernel
theorem eX4_readsEdge_109 : decode cX4_readsEdge 109 = .ok (.ifCond .eq 7, 3) := by decide +kernel
theorem eX4_readsEdge_112 : decode cX4_readsEdge 112 = .ok (.iconst 1, 1) := by decide +kernel
theorem eX4_readsEdge_113 : decode cX4_readsEdge 113 = .ok (.goto 4, 3) := by decide +kernel
theorem eX4_readsEdge_116 : decode cX4_readsEdge 116 = .ok (.iconst 0, 1) := by decide +kernel
theorem eX4_readsEdge_117 : decode cX4_readsEdge 117 = .ok (.ireturn, 1) := by decide +kernel
