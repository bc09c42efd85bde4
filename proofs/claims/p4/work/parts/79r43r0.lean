theorem dX9_clockCalled_0 : decode cX9_clockCalled 0 = .ok (.iconst 0, 1) := by decide +kernel
theorem dX9_clockCalled_1 : decode cX9_clockCalled 1 = .ok (.istore_n 1, 1) := by decide +kernel
theorem dX9_clockCalled_2 : decode cX9_clockCalled 2 = .ok (.iload_n 1, 1) := by decide +kernel
theorem dX9_clockCalled_3 : decode cX9_clockCalled 3 = .ok (.aload_n 0, 1) := by decide +kernel
theorem dX9_clockCalled_4 : decode cX9_clockCalled 4 = .ok (.getfield 43, 3) := by decide +kernel
theorem dX9_clockCalled_7 : decode cX9_clockCalled 7 = .ok (.aload_n 0, 1) := by decide +kernel
theorem dX9_clockCalled_8 : decode cX9_clockCalled 8 = .ok (.getfield 203, 3) := by decide +kernel
theorem dX9_clockCalled_11 : decode cX9_clockCalled 11 = .ok (.iaload, 1) := by decide +kernel
theorem dX9_clockCalled_12 : decode cX9_clockCalled 12 = .ok (.if_icmp .ge 31, 3) := by decide +kernel
theorem dX9_clockCalled_15 : decode cX9_clockCalled 15 = .ok (.aload_n 0, 1) := by decide +kernel
theorem dX9_clockCalled_16 : decode cX9_clockCalled 16 = .ok (.getfield 7, 3) := by decide +kernel
theorem dX9_clockCalled_19 : decode cX9_clockCalled 19 = .ok (.iconst 3, 1) := by decide +kernel
theorem dX9_clockCalled_20 : decode cX9_clockCalled 20 = .ok (.aload_n 0, 1) := by decide +kernel
theorem dX9_clockCalled_21 : decode cX9_clockCalled 21 = .ok (.getfield 203, 3) := by decide +kernel
theorem dX9_clockCalled_24 : decode cX9_clockCalled 24 = .ok (.imul, 1) := by decide +kernel
theorem dX9_clockCalled_25 : decode cX9_clockCalled 25 = .ok (.iload_n 1, 1) := by decide +kernel
theorem dX9_clockCalled_26 : decode cX9_clockCalled 26 = .ok (.iadd, 1) := by decide +kernel
theorem dX9_clockCalled_27 : decode cX9_clockCalled 27 = .ok (.iaload, 1) := by decide +kernel
theorem dX9_clockCalled_28 : decode cX9_clockCalled 28 = .ok (.aload_n 0, 1) := by decide +kernel
theorem dX9_clockCalled_29 : decode cX9_clockCalled 29 = .ok (.getfield 169, 3) := by decide +kernel
theorem dX9_clockCalled_32 : decode cX9_clockCalled 32 = .ok (.if_icmp .ne 5, 3) := by decide +kernel
theorem dX9_clockCalled_35 : decode cX9_clockCalled 35 = .ok (.iload_n 1, 1) := by decide +kernel
theorem dX9_clockCalled_36 : decode cX9_clockCalled 36 = .ok (.ireturn, 1) := by decide +kernel
theorem dX9_clockCalled_37 : decode cX9_clockCalled 37 = .ok (.iinc 1 1, 3) := by decide +kernel
theorem dX9_clockCalled_40 : decode cX9_clockCalled 40 = .ok (.goto (-38), 3) := by decide +kernel
theorem dX9_clockCalled_43 : decode cX9_clockCalled 43 = .ok (.iconst (-1), 1) := by decide +kernel
theorem dX9_clockCalled_44 : decode cX9_clockCalled 44 = .ok (.ireturn, 1) := by decide +kernel
theorem dX9_placeCalled_0 : decode cX9_placeCalled 0 = .ok (.iconst 0, 1) := by decide +kernel
theorem dX9_placeCalled_1 : decode cX9_placeCalled 1 = .ok (.istore_n 1, 1) := by decide +kernel
theorem dX9_placeCalled_2 : decode cX9_placeCalled 2 = .ok (.iload_n 1, 1) := by decide +kernel
theorem dX9_placeCalled_3 : decode cX9_placeCalled 3 = .ok (.aload_n 0, 1) := by decide +kernel
theorem dX9_placeCalled_4 : decode cX9_placeCalled 4 = .ok (.getfield 46, 3) := by decide +kernel
theorem dX9_placeCalled_7 : decode cX9_placeCalled 7 = .ok (.aload_n 0, 1) := by decide +kernel
theorem dX9_placeCalled_8 : decode cX9_placeCalled 8 = .ok (.getfield 203, 3) := by decide +kernel
theorem dX9_placeCalled_11 : decode cX9_placeCalled 11 = .ok (.iaload, 1) := by decide +kernel
theorem dX9_placeCalled_12 : decode cX9_placeCalled 12 = .ok (.if_icmp .ge 32, 3) := by decide +kernel
theorem dX9_placeCalled_15 : decode cX9_placeCalled 15 = .ok (.aload_n 0, 1) := by decide +kernel
theorem dX9_placeCalled_16 : decode cX9_placeCalled 16 = .ok (.getfield 13, 3) := by decide +kernel
theorem dX9_placeCalled_19 : decode cX9_placeCalled 19 = .ok (.bipush 8, 2) := by decide +kernel
theorem dX9_placeCalled_21 : decode cX9_placeCalled 21 = .ok (.aload_n 0, 1) := by decide +kernel
theorem dX9_placeCalled_22 : decode cX9_placeCalled 22 = .ok (.getfield 203, 3) := by decide +kernel
theorem dX9_placeCalled_25 : decode cX9_placeCalled 25 = .ok (.imul, 1) := by decide +kernel
theorem dX9_placeCalled_26 : decode cX9_placeCalled 26 = .ok (.iload_n 1, 1) := by decide +kernel
theorem dX9_placeCalled_27 : decode cX9_placeCalled 27 = .ok (.iadd, 1) := by decide +kernel
theorem dX9_placeCalled_28 : decode cX9_placeCalled 28 = .ok (.iaload, 1) := by decide +kernel
theorem dX9_placeCalled_29 : decode cX9_placeCalled 29 = .ok (.aload_n 0, 1) := by decide +kernel
theorem dX9_placeCalled_30 : decode cX9_placeCalled 30 = .ok (.getfield 169, 3) := by decide +kernel
theorem dX9_placeCalled_33 : decode cX9_placeCalled 33 = .ok (.if_icmp .ne 5, 3) := by decide +kernel
theorem dX9_placeCalled_36 : decode cX9_placeCalled 36 = .ok (.iload_n 1, 1) := by decide +kernel
theorem dX9_placeCalled_37 : decode cX9_placeCalled 37 = .ok (.ireturn, 1) := by decide +kernel
theorem dX9_placeCalled_38 : decode cX9_placeCalled 38 = .ok (.iinc 1 1, 3) := by decide +kernel
theorem dX9_placeCalled_41 : decode cX9_placeCalled 41 = .ok (.goto (-39), 3) := by decide +kernel
theorem dX9_placeCalled_44 : decode cX9_placeCalled 44 = .ok (.iconst (-1), 1) := by decide +kernel
theorem dX9_placeCalled_45 : decode cX9_placeCalled 45 = .ok (.ireturn, 1) := by decide +kernel
theorem dX9_freshName_0 : decode cX9_freshName 0 = .ok (.aload_n 0, 1) := by decide +kernel
theorem dX9_freshName_1 : decode cX9_freshName 1 = .ok (.invokevirtual 213, 3) := by decide +kernel
theorem dX9_freshName_4 : decode cX9_freshName 4 = .ok (.aload_n 0, 1) := by decide +kernel
theorem dX9_freshName_5 : decode cX9_freshName 5 = .ok (.invokevirtual 216, 3) := by decide +kernel
theorem dX9_freshName_8 : decode cX9_freshName 8 = .ok (.ifCond .eq 22, 3) := by decide +kernel
theorem dX9_freshName_11 : decode cX9_freshName 11 = .ok (.aload_n 0, 1) := by decide +kernel
theorem dX9_freshName_12 : decode cX9_freshName 12 = .ok (.invokevirtual 219, 3) := by decide +kernel
theorem dX9_freshName_15 : decode cX9_freshName 15 = .ok (.ifCond .ge 10, 3) := by decide +kernel
theorem dX9_freshName_18 : decode cX9_freshName 18 = .ok (.aload_n 0, 1) := by decide +kernel
theorem dX9_freshName_19 : decode cX9_freshName 19 = .ok (.invokevirtual 223, 3) := by decide +kernel
theorem dX9_freshName_22 : decode cX9_freshName 22 = .ok (.ifCond .lt 8, 3) := by decide +kernel
theorem dX9_freshName_25 : decode cX9_freshName 25 = .ok (.aload_n 0, 1) := by decide +kernel
theorem dX9_freshName_26 : decode cX9_freshName 26 = .ok (.iconst 3, 1) := by decide +kernel
theorem dX9_freshName_27 : decode cX9_freshName 27 = .ok (.invokevirtual 210, 3) := by decide +kernel
theorem dX9_freshName_30 : decode cX9_freshName 30 = .ok (.aload_n 0, 1) := by decide +kernel
theorem dX9_freshName_31 : decode cX9_freshName 31 = .ok (.getfield 169, 3) := by decide +kernel
theorem dX9_freshName_34 : decode cX9_freshName 34 = .ok (.istore_n 1, 1) := by decide +kernel
theorem dX9_freshName_35 : decode cX9_freshName 35 = .ok (.aload_n 0, 1) := by decide +kernel
theorem dX9_freshName_36 : decode cX9_freshName 36 = .ok (.invokevirtual 216, 3) := by decide +kernel
theorem dX9_freshName_39 : decode cX9_freshName 39 = .ok (.ifCond .eq 7, 3) := by decide +kernel
theorem dX9_freshName_42 : decode cX9_freshName 42 = .ok (.aload_n 0, 1) := by decide +kernel
theorem dX9_freshName_43 : decode cX9_freshName 43 = .ok (.invokevirtual 226, 3) := by decide +kernel
theorem dX9_freshName_46 : decode cX9_freshName 46 = .ok (.iload_n 1, 1) := by decide +kernel
theorem dX9_freshName_47 : decode cX9_freshName 47 = .ok (.ireturn, 1) := by decide +kernel
theorem dX9_toldClock_0 : decode cX9_toldClock 0 = .ok (.aload_n 0, 1) := by decide +kernel
theorem dX9_toldClock_1 : decode cX9_toldClock 1 = .ok (.invokevirtual 213, 3) := by decide +kernel
theorem dX9_toldClock_4 : decode cX9_toldClock 4 = .ok (.aload_n 0, 1) := by decide +kernel
theorem dX9_toldClock_5 : decode cX9_toldClock 5 = .ok (.invokevirtual 216, 3) := by decide +kernel
theorem dX9_toldClock_8 : decode cX9_toldClock 8 = .ok (.ifCond .eq 10, 3) := by decide +kernel
theorem dX9_toldClock_11 : decode cX9_toldClock 11 = .ok (.aload_n 0, 1) := by decide +kernel
theorem dX9_toldClock_12 : decode cX9_toldClock 12 = .ok (.invokevirtual 219, 3) := by decide +kernel
theorem dX9_toldClock_15 : decode cX9_toldClock 15 = .ok (.goto 4, 3) := by decide +kernel
theorem dX9_toldClock_18 : decode cX9_toldClock 18 = .ok (.iconst 0, 1) := by decide +kernel
theorem dX9_toldClock_19 : decode cX9_toldClock 19 = .ok (.istore_n 1, 1) := by decide +kernel
theorem dX9_toldClock_20 : decode cX9_toldClock 20 = .ok (.iload_n 1, 1) := by decide +kernel
theorem dX9_toldClock_21 : decode cX9_toldClock 21 = .ok (.ifCond .ge 8, 3) := by decide +kernel
theorem dX9_toldClock_24 : decode cX9_toldClock 24 = .ok (.aload_n 0, 1) := by decide +kernel
theorem dX9_toldClock_25 : decode cX9_toldClock 25 = .ok (.iconst 3, 1) := by decide +kernel
theorem dX9_toldClock_26 : decode cX9_toldClock 26 = .ok (.invokevirtual 210, 3) := by decide +kernel
theorem dX9_toldClock_29 : decode cX9_toldClock 29 = .ok (.iconst 0, 1) := by decide +kernel
theorem dX9_toldClock_30 : decode cX9_toldClock 30 = .ok (.iload_n 1, 1) := by decide +kernel
theorem dX9_toldClock_31 : decode cX9_toldClock 31 = .ok (.invokestatic 229, 3) := by decide +kernel
theorem dX9_toldClock_34 : decode cX9_toldClock 34 = .ok (.ireturn, 1) := by decide +kernel
theorem dX9_toldPlace_0 : decode cX9_toldPlace 0 = .ok (.aload_n 0, 1) := by decide +kernel
theorem dX9_toldPlace_1 : decode cX9_toldPlace 1 = .ok (.invokevirtual 213, 3) := by decide +kernel
theorem dX9_toldPlace_4 : decode cX9_toldPlace 4 = .ok (.aload_n 0, 1) := by decide +kernel
theorem dX9_toldPlace_5 : decode cX9_toldPlace 5 = .ok (.invokevirtual 216, 3) := by decide +kernel
theorem dX9_toldPlace_8 : decode cX9_toldPlace 8 = .ok (.ifCond .eq 10, 3) := by decide +kernel
theorem dX9_toldPlace_11 : decode cX9_toldPlace 11 = .ok (.aload_n 0, 1) := by decide +kernel
theorem dX9_toldPlace_12 : decode cX9_toldPlace 12 = .ok (.invokevirtual 223, 3) := by decide +kernel
theorem dX9_toldPlace_15 : decode cX9_toldPlace 15 = .ok (.goto 4, 3) := by decide +kernel
theorem dX9_toldPlace_18 : decode cX9_toldPlace 18 = .ok (.iconst 0, 1) := by decide +kernel
theorem dX9_toldPlace_19 : decode cX9_toldPlace 19 = .ok (.istore_n 1, 1) := by decide +kernel
theorem dX9_toldPlace_20 : decode cX9_toldPlace 20 = .ok (.iload_n 1, 1) := by decide +kernel
theorem dX9_toldPlace_21 : decode cX9_toldPlace 21 = .ok (.ifCond .ge 8, 3) := by decide +kernel
theorem dX9_toldPlace_24 : decode cX9_toldPlace 24 = .ok (.aload_n 0, 1) := by decide +kernel
theorem dX9_toldPlace_25 : decode cX9_toldPlace 25 = .ok (.iconst 3, 1) := by decide +kernel
theorem dX9_toldPlace_26 : decode cX9_toldPlace 26 = .ok (.invokevirtual 210, 3) := by decide +kernel
theorem dX9_toldPlace_29 : decode cX9_toldPlace 29 = .ok (.aload_n 0, 1) := by decide +kernel
theorem dX9_toldPlace_30 : decode cX9_toldPlace 30 = .ok (.invokevirtual 216, 3) := by decide +kernel
theorem dX9_toldPlace_33 : decode cX9_toldPlace 33 = .ok (.ifCond .eq 7, 3) := by decide +kernel
theorem dX9_toldPlace_36 : decode cX9_toldPlace 36 = .ok (.aload_n 0, 1) := by decide +kernel
theorem dX9_toldPlace_37 : decode cX9_toldPlace 37 = .ok (.invokevirtual 226, 3) := by decide +kernel
theorem dX9_toldPlace_40 : decode cX9_toldPlace 40 = .ok (.iconst 0, 1) := by decide +kernel
theorem dX9_toldPlace_41 : decode cX9_toldPlace 41 = .ok (.iload_n 1, 1) := by decide +kernel
theorem dX9_toldPlace_42 : decode cX9_toldPlace 42 = .ok (.invokestatic 229, 3) := by decide +kernel
theorem dX9_toldPlace_45 : decode cX9_toldPlace 45 = .ok (.ireturn, 1) := by decide +kernel
theorem dX9_readCondition_0 : decode cX9_readCondition 0 = .ok (.aload_n 0, 1) := by decide +kernel
theorem dX9_readCondition_1 : decode cX9_readCondition 1 = .ok (.invokevirtual 226, 3) := by decide +kernel
theorem dX9_readCondition_4 : decode cX9_readCondition 4 = .ok (.aload_n 0, 1) := by decide +kernel
theorem dX9_readCondition_5 : decode cX9_readCondition 5 = .ok (.getfield 34, 3) := by decide +kernel
theorem dX9_readCondition_8 : decode cX9_readCondition 8 = .ok (.iload_n 1, 1) := by decide +kernel
theorem dX9_readCondition_9 : decode cX9_readCondition 9 = .ok (.aload_n 0, 1) := by decide +kernel
theorem dX9_readCondition_10 : decode cX9_readCondition 10 = .ok (.invokevirtual 232, 3) := by decide +kernel
theorem dX9_readCondition_13 : decode cX9_readCondition 13 = .ok (.iastore, 1) := by decide +kernel
theorem dX9_readCondition_14 : decode cX9_readCondition 14 = .ok (.aload_n 0, 1) := by decide +kernel
theorem dX9_readCondition_15 : decode cX9_readCondition 15 = .ok (.invokevirtual 216, 3) := by decide +kernel
theorem dX9_readCondition_18 : decode cX9_readCondition 18 = .ok (.ifCond .eq 7, 3) := by decide +kernel
theorem dX9_readCondition_21 : decode cX9_readCondition 21 = .ok (.aload_n 0, 1) := by decide +kernel
theorem dX9_readCondition_22 : decode cX9_readCondition 22 = .ok (.invokevirtual 226, 3) := by decide +kernel
theorem dX9_readCondition_25 : decode cX9_readCondition 25 = .ok (.aload_n 0, 1) := by decide +kernel
theorem dX9_readCondition_26 : decode cX9_readCondition 26 = .ok (.bipush 60, 2) := by decide +kernel
theorem dX9_readCondition_28 : decode cX9_readCondition 28 = .ok (.invokevirtual 235, 3) := by decide +kernel
theorem dX9_readCondition_31 : decode cX9_readCondition 31 = .ok (.istore_n 3, 1) := by decide +kernel
theorem dX9_readCondition_32 : decode cX9_readCondition 32 = .ok (.aload_n 0, 1) := by decide +kernel
theorem dX9_readCondition_33 : decode cX9_readCondition 33 = .ok (.bipush 62, 2) := by decide +kernel
theorem dX9_readCondition_35 : decode cX9_readCondition 35 = .ok (.invokevirtual 235, 3) := by decide +kernel
theorem dX9_readCondition_38 : decode cX9_readCondition 38 = .ok (.ifCond .eq 11, 3) := by decide +kernel
theorem dX9_readCondition_41 : decode cX9_readCondition 41 = .ok (.iload_n 2, 1) := by decide +kernel
theorem dX9_readCondition_42 : decode cX9_readCondition 42 = .ok (.ifCond .ne 7, 3) := by decide +kernel
theorem dX9_readCondition_45 : decode cX9_readCondition 45 = .ok (.iconst 1, 1) := by decide +kernel
theorem dX9_readCondition_46 : decode cX9_readCondition 46 = .ok (.goto 4, 3) := by decide +kernel
theorem dX9_readCondition_49 : decode cX9_readCondition 49 = .ok (.iconst 0, 1) := by decide +kernel
theorem dX9_readCondition_50 : decode cX9_readCondition 50 = .ok (.istore 4, 2) := by decide +kernel
theorem dX9_readCondition_52 : decode cX9_readCondition 52 = .ok (.aload_n 0, 1) := by decide +kernel
theorem dX9_readCondition_53 : decode cX9_readCondition 53 = .ok (.bipush 61, 2) := by decide +kernel
theorem dX9_readCondition_55 : decode cX9_readCondition 55 = .ok (.invokevirtual 235, 3) := by decide +kernel
theorem dX9_readCondition_58 : decode cX9_readCondition 58 = .ok (.ifCond .eq 11, 3) := by decide +kernel
theorem dX9_readCondition_61 : decode cX9_readCondition 61 = .ok (.iload_n 2, 1) := by decide +kernel
theorem dX9_readCondition_62 : decode cX9_readCondition 62 = .ok (.ifCond .ne 7, 3) := by decide +kernel
theorem dX9_readCondition_65 : decode cX9_readCondition 65 = .ok (.iconst 1, 1) := by decide +kernel
theorem dX9_readCondition_66 : decode cX9_readCondition 66 = .ok (.goto 4, 3) := by decide +kernel
theorem dX9_readCondition_69 : decode cX9_readCondition 69 = .ok (.iconst 0, 1) := by decide +kernel
theorem dX9_readCondition_70 : decode cX9_readCondition 70 = .ok (.istore 5, 2) := by decide +kernel
theorem dX9_readCondition_72 : decode cX9_readCondition 72 = .ok (.aload_n 0, 1) := by decide +kernel
theorem dX9_readCondition_73 : decode cX9_readCondition 73 = .ok (.invokevirtual 216, 3) := by decide +kernel
theorem dX9_readCondition_76 : decode cX9_readCondition 76 = .ok (.ifCond .eq 22, 3) := by decide +kernel
theorem dX9_readCondition_79 : decode cX9_readCondition 79 = .ok (.iload_n 3, 1) := by decide +kernel
theorem dX9_readCondition_80 : decode cX9_readCondition 80 = .ok (.ifCond .ne 18, 3) := by decide +kernel
theorem dX9_readCondition_83 : decode cX9_readCondition 83 = .ok (.iload 4, 2) := by decide +kernel
theorem dX9_readCondition_85 : decode cX9_readCondition 85 = .ok (.ifCond .ne 13, 3) := by decide +kernel
theorem dX9_readCondition_88 : decode cX9_readCondition 88 = .ok (.iload 5, 2) := by decide +kernel
theorem dX9_readCondition_90 : decode cX9_readCondition 90 = .ok (.ifCond .ne 8, 3) := by decide +kernel
theorem dX9_readCondition_93 : decode cX9_readCondition 93 = .ok (.aload_n 0, 1) := by decide +kernel
theorem dX9_readCondition_94 : decode cX9_readCondition 94 = .ok (.iconst 2, 1) := by decide +kernel
theorem dX9_readCondition_95 : decode cX9_readCondition 95 = .ok (.invokevirtual 210, 3) := by decide +kernel
theorem dX9_readCondition_98 : decode cX9_readCondition 98 = .ok (.aload_n 0, 1) := by decide +kernel
theorem dX9_readCondition_99 : decode cX9_readCondition 99 = .ok (.invokevirtual 216, 3) := by decide +kernel
theorem dX9_readCondition_102 : decode cX9_readCondition 102 = .ok (.ifCond .ne 4, 3) := by decide +kernel
theorem dX9_readCondition_105 : decode cX9_readCondition 105 = .ok (.return_, 1) := by decide +kernel
theorem dX9_readCondition_106 : decode cX9_readCondition 106 = .ok (.aload_n 0, 1) := by decide +kernel
theorem dX9_readCondition_107 : decode cX9_readCondition 107 = .ok (.invokevirtual 226, 3) := by decide +kernel
theorem dX9_readCondition_110 : decode cX9_readCondition 110 = .ok (.iload 5, 2) := by decide +kernel
theorem dX9_readCondition_112 : decode cX9_readCondition 112 = .ok (.ifCond .ne 16, 3) := by decide +kernel
theorem dX9_readCondition_115 : decode cX9_readCondition 115 = .ok (.aload_n 0, 1) := by decide +kernel
theorem dX9_readCondition_116 : decode cX9_readCondition 116 = .ok (.bipush 61, 2) := by decide +kernel
theorem dX9_readCondition_118 : decode cX9_readCondition 118 = .ok (.invokevirtual 235, 3) := by decide +kernel
theorem dX9_readCondition_121 : decode cX9_readCondition 121 = .ok (.ifCond .eq 7, 3) := by decide +kernel
theorem dX9_readCondition_124 : decode cX9_readCondition 124 = .ok (.iconst 1, 1) := by decide +kernel
theorem dX9_readCondition_125 : decode cX9_readCondition 125 = .ok (.goto 4, 3) := by decide +kernel
theorem dX9_readCondition_128 : decode cX9_readCondition 128 = .ok (.iconst 0, 1) := by decide +kernel
theorem dX9_readCondition_129 : decode cX9_readCondition 129 = .ok (.istore 6, 2) := by decide +kernel
theorem dX9_readCondition_131 : decode cX9_readCondition 131 = .ok (.iload 6, 2) := by decide +kernel
theorem dX9_readCondition_133 : decode cX9_readCondition 133 = .ok (.ifCond .eq 7, 3) := by decide +kernel
theorem dX9_readCondition_136 : decode cX9_readCondition 136 = .ok (.aload_n 0, 1) := by decide +kernel
theorem dX9_readCondition_137 : decode cX9_readCondition 137 = .ok (.invokevirtual 226, 3) := by decide +kernel
theorem dX9_readCondition_140 : decode cX9_readCondition 140 = .ok (.aload_n 0, 1) := by decide +kernel
theorem dX9_readCondition_141 : decode cX9_readCondition 141 = .ok (.getfield 37, 3) := by decide +kernel
theorem dX9_readCondition_144 : decode cX9_readCondition 144 = .ok (.iload_n 1, 1) := by decide +kernel
theorem dX9_readCondition_145 : decode cX9_readCondition 145 = .ok (.iload 5, 2) := by decide +kernel
theorem dX9_readCondition_147 : decode cX9_readCondition 147 = .ok (.ifCond .eq 7, 3) := by decide +kernel
theorem dX9_readCondition_150 : decode cX9_readCondition 150 = .ok (.iconst 2, 1) := by decide +kernel
theorem dX9_readCondition_151 : decode cX9_readCondition 151 = .ok (.goto 30, 3) := by decide +kernel
theorem dX9_readCondition_154 : decode cX9_readCondition 154 = .ok (.iload_n 3, 1) := by decide +kernel
theorem dX9_readCondition_155 : decode cX9_readCondition 155 = .ok (.ifCond .eq 16, 3) := by decide +kernel
theorem dX9_readCondition_158 : decode cX9_readCondition 158 = .ok (.iload 6, 2) := by decide +kernel
theorem dX9_readCondition_160 : decode cX9_readCondition 160 = .ok (.ifCond .eq 7, 3) := by decide +kernel
theorem dX9_readCondition_163 : decode cX9_readCondition 163 = .ok (.iconst 1, 1) := by decide +kernel
theorem dX9_readCondition_164 : decode cX9_readCondition 164 = .ok (.goto 17, 3) := by decide +kernel
theorem dX9_readCondition_167 : decode cX9_readCondition 167 = .ok (.iconst 0, 1) := by decide +kernel
theorem dX9_readCondition_168 : decode cX9_readCondition 168 = .ok (.goto 13, 3) := by decide +kernel
theorem dX9_readCondition_171 : decode cX9_readCondition 171 = .ok (.iload 6, 2) := by decide +kernel
theorem dX9_readCondition_173 : decode cX9_readCondition 173 = .ok (.ifCond .eq 7, 3) := by decide +kernel
theorem dX9_readCondition_176 : decode cX9_readCondition 176 = .ok (.iconst 3, 1) := by decide +kernel
theorem dX9_readCondition_177 : decode cX9_readCondition 177 = .ok (.goto 4, 3) := by decide +kernel
theorem dX9_readCondition_180 : decode cX9_readCondition 180 = .ok (.iconst 4, 1) := by decide +kernel
theorem dX9_readCondition_181 : decode cX9_readCondition 181 = .ok (.iastore, 1) := by decide +kernel
theorem dX9_readCondition_182 : decode cX9_readCondition 182 = .ok (.aload_n 0, 1) := by decide +kernel
theorem dX9_readCondition_183 : decode cX9_readCondition 183 = .ok (.getfield 172, 3) := by decide +kernel
theorem dX9_readCondition_186 : decode cX9_readCondition 186 = .ok (.iconst 2, 1) := by decide +kernel
theorem dX9_readCondition_187 : decode cX9_readCondition 187 = .ok (.if_icmp .eq 11, 3) := by decide +kernel
theorem dX9_readCondition_190 : decode cX9_readCondition 190 = .ok (.aload_n 0, 1) := by decide +kernel
theorem dX9_readCondition_191 : decode cX9_readCondition 191 = .ok (.iconst 2, 1) := by decide +kernel
theorem dX9_readCondition_192 : decode cX9_readCondition 192 = .ok (.invokevirtual 210, 3) := by decide +kernel
theorem dX9_readCondition_195 : decode cX9_readCondition 195 = .ok (.goto 17, 3) := by decide +kernel
theorem dX9_readCondition_198 : decode cX9_readCondition 198 = .ok (.aload_n 0, 1) := by decide +kernel
theorem dX9_readCondition_199 : decode cX9_readCondition 199 = .ok (.getfield 169, 3) := by decide +kernel
theorem dX9_readCondition_202 : decode cX9_readCondition 202 = .ok (.bipush 20, 2) := by decide +kernel
theorem dX9_readCondition_204 : decode cX9_readCondition 204 = .ok (.if_icmp .le 8, 3) := by decide +kernel
theorem dX9_readCondition_207 : decode cX9_readCondition 207 = .ok (.aload_n 0, 1) := by decide +kernel
theorem dX9_readCondition_208 : decode cX9_readCondition 208 = .ok (.iconst 4, 1) := by decide +kernel
theorem dX9_readCondition_209 : decode cX9_readCondition 209 = .ok (.invokevirtual 210, 3) := by decide +kernel
theorem dX9_readCondition_212 : decode cX9_readCondition 212 = .ok (.aload_n 0, 1) := by decide +kernel
theorem dX9_readCondition_213 : decode cX9_readCondition 213 = .ok (.getfield 40, 3) := by decide +kernel
theorem dX9_readCondition_216 : decode cX9_readCondition 216 = .ok (.iload_n 1, 1) := by decide +kernel
theorem dX9_readCondition_217 : decode cX9_readCondition 217 = .ok (.aload_n 0, 1) := by decide +kernel
theorem dX9_readCondition_218 : decode cX9_readCondition 218 = .ok (.getfield 169, 3) := by decide +kernel
theorem dX9_readCondition_221 : decode cX9_readCondition 221 = .ok (.iastore, 1) := by decide +kernel
theorem dX9_readCondition_222 : decode cX9_readCondition 222 = .ok (.aload_n 0, 1) := by decide +kernel
theorem dX9_readCondition_223 : decode cX9_readCondition 223 = .ok (.invokevirtual 216, 3) := by decide +kernel
theorem dX9_readCondition_226 : decode cX9_readCondition 226 = .ok (.ifCond .eq 7, 3) := by decide +kernel
theorem dX9_readCondition_229 : decode cX9_readCondition 229 = .ok (.aload_n 0, 1) := by decide +kernel
theorem dX9_readCondition_230 : decode cX9_readCondition 230 = .ok (.invokevirtual 226, 3) := by decide +kernel
theorem dX9_readCondition_233 : decode cX9_readCondition 233 = .ok (.return_, 1) := by decide +kernel
