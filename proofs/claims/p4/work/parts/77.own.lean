theorem eX8_automaton_0 : decode cX8_automaton 0 = .ok (.aload_n 0, 1) := by decide +kernel
theorem eX8_automaton_1 : decode cX8_automaton 1 = .ok (.getfield 16, 3) := by decide +kernel
theorem eX8_automaton_4 : decode cX8_automaton 4 = .ok (.aload_n 0, 1) := by decide +kernel
theorem eX8_automaton_5 : decode cX8_automaton 5 = .ok (.getfield 9, 3) := by decide +kernel
theorem eX8_automaton_8 : decode cX8_automaton 8 = .ok (.aload_n 0, 1) := by decide +kernel
theorem eX8_automaton_9 : decode cX8_automaton 9 = .ok (.getfield 79, 3) := by decide +kernel
theorem eX8_automaton_12 : decode cX8_automaton 12 = .ok (.aload_n 0, 1) := by decide +kernel
theorem eX8_automaton_13 : decode cX8_automaton 13 = .ok (.getfield 27, 3) := by decide +kernel
theorem eX8_automaton_16 : decode cX8_automaton 16 = .ok (.invokevirtual 87, 3) := by decide +kernel
theorem eX8_automaton_19 : decode cX8_automaton 19 = .ok (.istore_n 1, 1) := by decide +kernel
theorem eX8_automaton_20 : decode cX8_automaton 20 = .ok (.aload_n 0, 1) := by decide +kernel
theorem eX8_automaton_21 : decode cX8_automaton 21 = .ok (.iconst 0, 1) := by decide +kernel
theorem eX8_automaton_22 : decode cX8_automaton 22 = .ok (.putfield 79, 3) := by decide +kernel
theorem eX8_automaton_25 : decode cX8_automaton 25 = .ok (.iload_n 1, 1) := by decide +kernel
theorem eX8_automaton_26 : decode cX8_automaton 26 = .ok (.ifCond .ne 5, 3) := by decide +kernel
theorem eX8_automaton_29 : decode cX8_automaton 29 = .ok (.iconst (-1), 1) := by decide +kernel
theorem eX8_automaton_30 : decode cX8_automaton 30 = .ok (.ireturn, 1) := by decide +kernel
theorem eX8_automaton_31 : decode cX8_automaton 31 = .ok (.aload_n 0, 1) := by decide +kernel
theorem eX8_automaton_32 : decode cX8_automaton 32 = .ok (.getfield 23, 3) := by decide +kernel
theorem eX8_automaton_35 : decode cX8_automaton 35 = .ok (.astore_n 2, 1) := by decide +kernel
theorem eX8_automaton_36 : decode cX8_automaton 36 = .ok (.aload_n 0, 1) := by decide +kernel
theorem eX8_automaton_37 : decode cX8_automaton 37 = .ok (.aload_n 0, 1) := by decide +kernel
theorem eX8_automaton_38 : decode cX8_automaton 38 = .ok (.getfield 27, 3) := by decide +kernel
theorem eX8_automaton_41 : decode cX8_automaton 41 = .ok (.putfield 23, 3) := by decide +kernel
theorem eX8_automaton_44 : decode cX8_automaton 44 = .ok (.aload_n 0, 1) := by decide +kernel
theorem eX8_automaton_45 : decode cX8_automaton 45 = .ok (.aload_n 2, 1) := by decide +kernel
theorem eX8_automaton_46 : decode cX8_automaton 46 = .ok (.putfield 27, 3) := by decide +kernel
theorem eX8_automaton_49 : decode cX8_automaton 49 = .ok (.aload_n 0, 1) := by decide +kernel
theorem eX8_automaton_50 : decode cX8_automaton 50 = .ok (.getfield 33, 3) := by decide +kernel
theorem eX8_automaton_53 : decode cX8_automaton 53 = .ok (.iconst 0, 1) := by decide +kernel
theorem eX8_automaton_54 : decode cX8_automaton 54 = .ok (.putfield 91, 3) := by decide +kernel
theorem eX8_automaton_57 : decode cX8_automaton 57 = .ok (.aload_n 0, 1) := by decide +kernel
theorem eX8_automaton_58 : decode cX8_automaton 58 = .ok (.invokevirtual 94, 3) := by decide +kernel
theorem eX8_automaton_61 : decode cX8_automaton 61 = .ok (.aload_n 0, 1) := by decide +kernel
theorem eX8_automaton_62 : decode cX8_automaton 62 = .ok (.getfield 23, 3) := by decide +kernel
theorem eX8_automaton_65 : decode cX8_automaton 65 = .ok (.getfield 97, 3) := by decide +kernel
theorem eX8_automaton_68 : decode cX8_automaton 68 = .ok (.ireturn, 1) := by decide +kernel
