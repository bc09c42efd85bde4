theorem eX0_addCondition_0 : decode cX0_addCondition 0 = .ok (.iload_n 1, 1) := by decide +kernel
theorem eX0_addCondition_1 : decode cX0_addCondition 1 = .ok (.aload_n 0, 1) := by decide +kernel
theorem eX0_addCondition_2 : decode cX0_addCondition 2 = .ok (.getfield 29, 3) := by decide +kernel
theorem eX0_addCondition_5 : decode cX0_addCondition 5 = .ok (.iload_n 1, 1) := by decide +kernel
theorem eX0_addCondition_6 : decode cX0_addCondition 6 = .ok (.iaload, 1) := by decide +kernel
theorem eX0_addCondition_7 : decode cX0_addCondition 7 = .ok (.invokestatic 65, 3) := by decide +kernel
theorem eX0_addCondition_10 : decode cX0_addCondition 10 = .ok (.istore 5, 2) := by decide +kernel
theorem eX0_addCondition_12 : decode cX0_addCondition 12 = .ok (.aload_n 0, 1) := by decide +kernel
theorem eX0_addCondition_13 : decode cX0_addCondition 13 = .ok (.getfield 32, 3) := by decide +kernel
theorem eX0_addCondition_16 : decode cX0_addCondition 16 = .ok (.iload 5, 2) := by decide +kernel
theorem eX0_addCondition_18 : decode cX0_addCondition 18 = .ok (.iload_n 2, 1) := by decide +kernel
theorem eX0_addCondition_19 : decode cX0_addCondition 19 = .ok (.iastore, 1) := by decide +kernel
theorem eX0_addCondition_20 : decode cX0_addCondition 20 = .ok (.aload_n 0, 1) := by decide +kernel
theorem eX0_addCondition_21 : decode cX0_addCondition 21 = .ok (.getfield 35, 3) := by decide +kernel
theorem eX0_addCondition_24 : decode cX0_addCondition 24 = .ok (.iload 5, 2) := by decide +kernel
theorem eX0_addCondition_26 : decode cX0_addCondition 26 = .ok (.iload_n 3, 1) := by decide +kernel
theorem eX0_addCondition_27 : decode cX0_addCondition 27 = .ok (.iastore, 1) := by decide +kernel
theorem eX0_addCondition_28 : decode cX0_addCondition 28 = .ok (.aload_n 0, 1) := by decide +kernel
theorem eX0_addCondition_29 : decode cX0_addCondition 29 = .ok (.getfield 38, 3) := by decide +kernel
theorem eX0_addCondition_32 : decode cX0_addCondition 32 = .ok (.iload 5, 2) := by decide +kernel
theorem eX0_addCondition_34 : decode cX0_addCondition 34 = .ok (.iload 4, 2) := by decide +kernel
theorem eX0_addCondition_36 : decode cX0_addCondition 36 = .ok (.iastore, 1) := by decide +kernel
theorem eX0_addCondition_37 : decode cX0_addCondition 37 = .ok (.aload_n 0, 1) := by decide +kernel
theorem eX0_addCondition_38 : decode cX0_addCondition 38 = .ok (.iload 5, 2) := by decide +kernel
theorem eX0_addCondition_40 : decode cX0_addCondition 40 = .ok (.invokevirtual 69, 3) := by decide +kernel
theorem eX0_addCondition_43 : decode cX0_addCondition 43 = .ok (.aload_n 0, 1) := by decide +kernel
theorem eX0_addCondition_44 : decode cX0_addCondition 44 = .ok (.getfield 29, 3) := by decide +kernel
theorem eX0_addCondition_47 : decode cX0_addCondition 47 = .ok (.iload_n 1, 1) := by decide +kernel
theorem eX0_addCondition_48 : decode cX0_addCondition 48 = .ok (.dup2, 1) := by decide +kernel
theorem eX0_addCondition_49 : decode cX0_addCondition 49 = .ok (.iaload, 1) := by decide +kernel
theorem eX0_addCondition_50 : decode cX0_addCondition 50 = .ok (.iconst 1, 1) := by decide +kernel
theorem eX0_addCondition_51 : decode cX0_addCondition 51 = .ok (.iadd, 1) := by decide +kernel
theorem eX0_addCondition_52 : decode cX0_addCondition 52 = .ok (.iastore, 1) := by decide +kernel
theorem eX0_addCondition_53 : decode cX0_addCondition 53 = .ok (.return_, 1) := by decide +kernel
theorem eX0_clear_0 : decode cX0_clear 0 = .ok (.aload_n 0, 1) := by decide +kernel
theorem eX0_clear_1 : decode cX0_clear 1 = .ok (.iconst 0, 1) := by decide +kernel
theorem eX0_clear_2 : decode cX0_clear 2 = .ok (.putfield 56, 3) := by decide +kernel
theorem eX0_clear_5 : decode cX0_clear 5 = .ok (.aload_n 0, 1) := by decide +kernel
theorem eX0_clear_6 : decode cX0_clear 6 = .ok (.iconst 0, 1) := by decide +kernel
theorem eX0_clear_7 : decode cX0_clear 7 = .ok (.putfield 59, 3) := by decide +kernel
theorem eX0_clear_10 : decode cX0_clear 10 = .ok (.aload_n 0, 1) := by decide +kernel
theorem eX0_clear_11 : decode cX0_clear 11 = .ok (.iconst 0, 1) := by decide +kernel
theorem eX0_clear_12 : decode cX0_clear 12 = .ok (.putfield 62, 3) := by decide +kernel
theorem eX0_clear_15 : decode cX0_clear 15 = .ok (.aload_n 0, 1) := by decide +kernel
theorem eX0_clear_16 : decode cX0_clear 16 = .ok (.iconst (-1), 1) := by decide +kernel
theorem eX0_clear_17 : decode cX0_clear 17 = .ok (.putfield 9, 3) := by decide +kernel
theorem eX0_clear_20 : decode cX0_clear 20 = .ok (.iconst 0, 1) := by decide +kernel
theorem eX0_clear_21 : decode cX0_clear 21 = .ok (.istore_n 1, 1) := by decide +kernel
theorem eX0_clear_22 : decode cX0_clear 22 = .ok (.iload_n 1, 1) := by decide +kernel
theorem eX0_clear_23 : decode cX0_clear 23 = .ok (.bipush 8, 2) := by decide +kernel
theorem eX0_clear_25 : decode cX0_clear 25 = .ok (.if_icmp .ge 16, 3) := by decide +kernel
theorem eX0_clear_28 : decode cX0_clear 28 = .ok (.aload_n 0, 1) := by decide +kernel
theorem eX0_clear_29 : decode cX0_clear 29 = .ok (.getfield 15, 3) := by decide +kernel
theorem eX0_clear_32 : decode cX0_clear 32 = .ok (.iload_n 1, 1) := by decide +kernel
theorem eX0_clear_33 : decode cX0_clear 33 = .ok (.iconst 0, 1) := by decide +kernel
theorem eX0_clear_34 : decode cX0_clear 34 = .ok (.bastore, 1) := by decide +kernel
theorem eX0_clear_35 : decode cX0_clear 35 = .ok (.iinc 1 1, 3) := by decide +kernel
theorem eX0_clear_38 : decode cX0_clear 38 = .ok (.goto (-16), 3) := by decide +kernel
theorem eX0_clear_41 : decode cX0_clear 41 = .ok (.iconst 0, 1) := by decide +kernel
theorem eX0_clear_42 : decode cX0_clear 42 = .ok (.istore_n 1, 1) := by decide +kernel
theorem eX0_clear_43 : decode cX0_clear 43 = .ok (.iload_n 1, 1) := by decide +kernel
theorem eX0_clear_44 : decode cX0_clear 44 = .ok (.bipush 22, 2) := by decide +kernel
theorem eX0_clear_46 : decode cX0_clear 46 = .ok (.if_icmp .ge 16, 3) := by decide +kernel
theorem eX0_clear_49 : decode cX0_clear 49 = .ok (.aload_n 0, 1) := by decide +kernel
theorem eX0_clear_50 : decode cX0_clear 50 = .ok (.getfield 29, 3) := by decide +kernel
theorem eX0_clear_53 : decode cX0_clear 53 = .ok (.iload_n 1, 1) := by decide +kernel
theorem eX0_clear_54 : decode cX0_clear 54 = .ok (.iconst 0, 1) := by decide +kernel
theorem eX0_clear_55 : decode cX0_clear 55 = .ok (.iastore, 1) := by decide +kernel
theorem eX0_clear_56 : decode cX0_clear 56 = .ok (.iinc 1 1, 3) := by decide +kernel
theorem eX0_clear_59 : decode cX0_clear 59 = .ok (.goto (-16), 3) := by decide +kernel
theorem eX0_clear_62 : decode cX0_clear 62 = .ok (.return_, 1) := by decide +kernel
theorem eX4_refuse_0 : decode cX4_refuse 0 = .ok (.aload_n 0, 1) := by decide +kernel
theorem eX4_refuse_1 : decode cX4_refuse 1 = .ok (.iload_n 1, 1) := by decide +kernel
theorem eX4_refuse_2 : decode cX4_refuse 2 = .ok (.putfield 63, 3) := by decide +kernel
theorem eX4_refuse_5 : decode cX4_refuse 5 = .ok (.aload_n 0, 1) := by decide +kernel
theorem eX4_refuse_6 : decode cX4_refuse 6 = .ok (.aload_n 0, 1) := by decide +kernel
theorem eX4_refuse_7 : decode cX4_refuse 7 = .ok (.getfield 118, 3) := by decide +kernel
theorem eX4_refuse_10 : decode cX4_refuse 10 = .ok (.putfield 9, 3) := by decide +kernel
theorem eX4_refuse_13 : decode cX4_refuse 13 = .ok (.iconst 0, 1) := by decide +kernel
theorem eX4_refuse_14 : decode cX4_refuse 14 = .ok (.ireturn, 1) := by decide +kernel
theorem eX4_refuseToken_0 : decode cX4_refuseToken 0 = .ok (.aload_n 0, 1) := by decide +kernel
theorem eX4_refuseToken_1 : decode cX4_refuseToken 1 = .ok (.aload_n 0, 1) := by decide +kernel
theorem eX4_refuseToken_2 : decode cX4_refuseToken 2 = .ok (.getfield 78, 3) := by decide +kernel
theorem eX4_refuseToken_5 : decode cX4_refuseToken 5 = .ok (.ifCond .ne 7, 3) := by decide +kernel
theorem eX4_refuseToken_8 : decode cX4_refuseToken 8 = .ok (.iconst 1, 1) := by decide +kernel
theorem eX4_refuseToken_9 : decode cX4_refuseToken 9 = .ok (.goto 4, 3) := by decide +kernel
theorem eX4_refuseToken_12 : decode cX4_refuseToken 12 = .ok (.iconst 2, 1) := by decide +kernel
theorem eX4_refuseToken_13 : decode cX4_refuseToken 13 = .ok (.invokevirtual 103, 3) := by decide +kernel
theorem eX4_refuseToken_16 : decode cX4_refuseToken 16 = .ok (.ireturn, 1) := by decide +kernel
theorem eX4_scanSign_0 : decode cX4_scanSign 0 = .ok (.aload_n 0, 1) := by decide +kernel
theorem eX4_scanSign_1 : decode cX4_scanSign 1 = .ok (.getfield 55, 3) := by decide +kernel
theorem eX4_scanSign_4 : decode cX4_scanSign 4 = .ok (.aload_n 0, 1) := by decide +kernel
theorem eX4_scanSign_5 : decode cX4_scanSign 5 = .ok (.getfield 60, 3) := by decide +kernel
theorem eX4_scanSign_8 : decode cX4_scanSign 8 = .ok (.iaload, 1) := by decide +kernel
theorem eX4_scanSign_9 : decode cX4_scanSign 9 = .ok (.tableswitch 65 59 62 #[56, 31, 39, 47], 31) := by decide +kernel
theorem eX4_scanSign_40 : decode cX4_scanSign 40 = .ok (.aload_n 0, 1) := by decide +kernel
theorem eX4_scanSign_41 : decode cX4_scanSign 41 = .ok (.iconst 4, 1) := by decide +kernel
theorem eX4_scanSign_42 : decode cX4_scanSign 42 = .ok (.putfield 78, 3) := by decide +kernel
theorem eX4_scanSign_45 : decode cX4_scanSign 45 = .ok (.goto 34, 3) := by decide +kernel
theorem eX4_scanSign_48 : decode cX4_scanSign 48 = .ok (.aload_n 0, 1) := by decide +kernel
theorem eX4_scanSign_49 : decode cX4_scanSign 49 = .ok (.iconst 5, 1) := by decide +kernel
theorem eX4_scanSign_50 : decode cX4_scanSign 50 = .ok (.putfield 78, 3) := by decide +kernel
theorem eX4_scanSign_53 : decode cX4_scanSign 53 = .ok (.goto 26, 3) := by decide +kernel
theorem eX4_scanSign_56 : decode cX4_scanSign 56 = .ok (.aload_n 0, 1) := by decide +kernel
theorem eX4_scanSign_57 : decode cX4_scanSign 57 = .ok (.bipush 6, 2) := by decide +kernel
theorem eX4_scanSign_59 : decode cX4_scanSign 59 = .ok (.putfield 78, 3) := by decide +kernel
theorem eX4_scanSign_62 : decode cX4_scanSign 62 = .ok (.goto 17, 3) := by decide +kernel
theorem eX4_scanSign_65 : decode cX4_scanSign 65 = .ok (.aload_n 0, 1) := by decide +kernel
theorem eX4_scanSign_66 : decode cX4_scanSign 66 = .ok (.bipush 7, 2) := by decide +kernel
theorem eX4_scanSign_68 : decode cX4_scanSign 68 = .ok (.putfield 78, 3) := by decide +kernel
theorem eX4_scanSign_71 : decode cX4_scanSign 71 = .ok (.goto 8, 3) := by decide +kernel
theorem eX4_scanSign_74 : decode cX4_scanSign 74 = .ok (.aload_n 0, 1) := by decide +kernel
theorem eX4_scanSign_75 : decode cX4_scanSign 75 = .ok (.iconst 0, 1) := by decide +kernel
theorem eX4_scanSign_76 : decode cX4_scanSign 76 = .ok (.putfield 78, 3) := by decide +kernel
theorem eX4_scanSign_79 : decode cX4_scanSign 79 = .ok (.aload_n 0, 1) := by decide +kernel
theorem eX4_scanSign_80 : decode cX4_scanSign 80 = .ok (.dup, 1) := by decide +kernel
theorem eX4_scanSign_81 : decode cX4_scanSign 81 = .ok (.getfield 60, 3) := by decide +kernel
theorem eX4_scanSign_84 : decode cX4_scanSign 84 = .ok (.iconst 1, 1) := by decide +kernel
theorem eX4_scanSign_85 : decode cX4_scanSign 85 = .ok (.iadd, 1) := by decide +kernel
theorem eX4_scanSign_86 : decode cX4_scanSign 86 = .ok (.putfield 60, 3) := by decide +kernel
theorem eX4_scanSign_89 : decode cX4_scanSign 89 = .ok (.return_, 1) := by decide +kernel
theorem eX4_scanWord_0 : decode cX4_scanWord 0 = .ok (.aload_n 0, 1) := by decide +kernel
theorem eX4_scanWord_1 : decode cX4_scanWord 1 = .ok (.iconst 0, 1) := by decide +kernel
theorem eX4_scanWord_2 : decode cX4_scanWord 2 = .ok (.putfield 127, 3) := by decide +kernel
theorem eX4_scanWord_5 : decode cX4_scanWord 5 = .ok (.aload_n 0, 1) := by decide +kernel
theorem eX4_scanWord_6 : decode cX4_scanWord 6 = .ok (.getfield 60, 3) := by decide +kernel
theorem eX4_scanWord_9 : decode cX4_scanWord 9 = .ok (.aload_n 0, 1) := by decide +kernel
theorem eX4_scanWord_10 : decode cX4_scanWord 10 = .ok (.getfield 58, 3) := by decide +kernel
theorem eX4_scanWord_13 : decode cX4_scanWord 13 = .ok (.if_icmp .ge 70, 3) := by decide +kernel
theorem eX4_scanWord_16 : decode cX4_scanWord 16 = .ok (.aload_n 0, 1) := by decide +kernel
theorem eX4_scanWord_17 : decode cX4_scanWord 17 = .ok (.getfield 55, 3) := by decide +kernel
theorem eX4_scanWord_20 : decode cX4_scanWord 20 = .ok (.aload_n 0, 1) := by decide +kernel
theorem eX4_scanWord_21 : decode cX4_scanWord 21 = .ok (.getfield 60, 3) := by decide +kernel
theorem eX4_scanWord_24 : decode cX4_scanWord 24 = .ok (.iaload, 1) := by decide +kernel
theorem eX4_scanWord_25 : decode cX4_scanWord 25 = .ok (.bipush 97, 2) := by decide +kernel
theorem eX4_scanWord_27 : decode cX4_scanWord 27 = .ok (.if_icmp .lt 56, 3) := by decide +kernel
theorem eX4_scanWord_30 : decode cX4_scanWord 30 = .ok (.aload_n 0, 1) := by decide +kernel
theorem eX4_scanWord_31 : decode cX4_scanWord 31 = .ok (.getfield 55, 3) := by decide +kernel
theorem eX4_scanWord_34 : decode cX4_scanWord 34 = .ok (.aload_n 0, 1) := by decide +kernel
theorem eX4_scanWord_35 : decode cX4_scanWord 35 = .ok (.getfield 60, 3) := by decide +kernel
theorem eX4_scanWord_38 : decode cX4_scanWord 38 = .ok (.iaload, 1) := by decide +kernel
theorem eX4_scanWord_39 : decode cX4_scanWord 39 = .ok (.bipush 122, 2) := by decide +kernel
theorem eX4_scanWord_41 : decode cX4_scanWord 41 = .ok (.if_icmp .gt 42, 3) := by decide +kernel
theorem eX4_scanWord_44 : decode cX4_scanWord 44 = .ok (.aload_n 0, 1) := by decide +kernel
theorem eX4_scanWord_45 : decode cX4_scanWord 45 = .ok (.aload_n 0, 1) := by decide +kernel
theorem eX4_scanWord_46 : decode cX4_scanWord 46 = .ok (.getfield 127, 3) := by decide +kernel
theorem eX4_scanWord_49 : decode cX4_scanWord 49 = .ok (.bipush 32, 2) := by decide +kernel
theorem eX4_scanWord_51 : decode cX4_scanWord 51 = .ok (.imul, 1) := by decide +kernel
theorem eX4_scanWord_52 : decode cX4_scanWord 52 = .ok (.aload_n 0, 1) := by decide +kernel
theorem eX4_scanWord_53 : decode cX4_scanWord 53 = .ok (.getfield 55, 3) := by decide +kernel
theorem eX4_scanWord_56 : decode cX4_scanWord 56 = .ok (.aload_n 0, 1) := by decide +kernel
theorem eX4_scanWord_57 : decode cX4_scanWord 57 = .ok (.getfield 60, 3) := by decide +kernel
theorem eX4_scanWord_60 : decode cX4_scanWord 60 = .ok (.iaload, 1) := by decide +kernel
theorem eX4_scanWord_61 : decode cX4_scanWord 61 = .ok (.iadd, 1) := by decide +kernel
theorem eX4_scanWord_62 : decode cX4_scanWord 62 = .ok (.bipush 97, 2) := by decide +kernel
theorem eX4_scanWord_64 : decode cX4_scanWord 64 = .ok (.isub, 1) := by decide +kernel
theorem eX4_scanWord_65 : decode cX4_scanWord 65 = .ok (.iconst 1, 1) := by decide +kernel
theorem eX4_scanWord_66 : decode cX4_scanWord 66 = .ok (.iadd, 1) := by decide +kernel
theorem eX4_scanWord_67 : decode cX4_scanWord 67 = .ok (.putfield 127, 3) := by decide +kernel
theorem eX4_scanWord_70 : decode cX4_scanWord 70 = .ok (.aload_n 0, 1) := by decide +kernel
theorem eX4_scanWord_71 : decode cX4_scanWord 71 = .ok (.dup, 1) := by decide +kernel
theorem eX4_scanWord_72 : decode cX4_scanWord 72 = .ok (.getfield 60, 3) := by decide +kernel
theorem eX4_scanWord_75 : decode cX4_scanWord 75 = .ok (.iconst 1, 1) := by decide +kernel
theorem eX4_scanWord_76 : decode cX4_scanWord 76 = .ok (.iadd, 1) := by decide +kernel
theorem eX4_scanWord_77 : decode cX4_scanWord 77 = .ok (.putfield 60, 3) := by decide +kernel
theorem eX4_scanWord_80 : decode cX4_scanWord 80 = .ok (.goto (-75), 3) := by decide +kernel
theorem eX4_scanWord_83 : decode cX4_scanWord 83 = .ok (.aload_n 0, 1) := by decide +kernel
theorem eX4_scanWord_84 : decode cX4_scanWord 84 = .ok (.aload_n 0, 1) := by decide +kernel
theorem eX4_scanWord_85 : decode cX4_scanWord 85 = .ok (.getfield 60, 3) := by decide +kernel
theorem eX4_scanWord_88 : decode cX4_scanWord 88 = .ok (.aload_n 0, 1) := by decide +kernel
theorem eX4_scanWord_89 : decode cX4_scanWord 89 = .ok (.getfield 118, 3) := by decide +kernel
theorem eX4_scanWord_92 : decode cX4_scanWord 92 = .ok (.isub, 1) := by decide +kernel
theorem eX4_scanWord_93 : decode cX4_scanWord 93 = .ok (.bipush 6, 2) := by decide +kernel
theorem eX4_scanWord_95 : decode cX4_scanWord 95 = .ok (.if_icmp .le 7, 3) := by decide +kernel
theorem eX4_scanWord_98 : decode cX4_scanWord 98 = .ok (.iconst 0, 1) := by decide +kernel
theorem eX4_scanWord_99 : decode cX4_scanWord 99 = .ok (.goto 4, 3) := by decide +kernel
theorem eX4_scanWord_102 : decode cX4_scanWord 102 = .ok (.iconst 2, 1) := by decide +kernel
theorem eX4_scanWord_103 : decode cX4_scanWord 103 = .ok (.putfield 78, 3) := by decide +kernel
theorem eX4_scanWord_106 : decode cX4_scanWord 106 = .ok (.iconst 0, 1) := by decide +kernel
theorem eX4_scanWord_107 : decode cX4_scanWord 107 = .ok (.istore_n 1, 1) := by decide +kernel
theorem eX4_scanWord_108 : decode cX4_scanWord 108 = .ok (.iload_n 1, 1) := by decide +kernel
theorem eX4_scanWord_109 : decode cX4_scanWord 109 = .ok (.aload_n 0, 1) := by decide +kernel
theorem eX4_scanWord_110 : decode cX4_scanWord 110 = .ok (.getfield 35, 3) := by decide +kernel
theorem eX4_scanWord_113 : decode cX4_scanWord 113 = .ok (.arraylength, 1) := by decide +kernel
theorem eX4_scanWord_114 : decode cX4_scanWord 114 = .ok (.if_icmp .ge 38, 3) := by decide +kernel
theorem eX4_scanWord_117 : decode cX4_scanWord 117 = .ok (.aload_n 0, 1) := by decide +kernel
theorem eX4_scanWord_118 : decode cX4_scanWord 118 = .ok (.getfield 78, 3) := by decide +kernel
theorem eX4_scanWord_121 : decode cX4_scanWord 121 = .ok (.iconst 2, 1) := by decide +kernel
theorem eX4_scanWord_122 : decode cX4_scanWord 122 = .ok (.if_icmp .ne 30, 3) := by decide +kernel
theorem eX4_scanWord_125 : decode cX4_scanWord 125 = .ok (.aload_n 0, 1) := by decide +kernel
theorem eX4_scanWord_126 : decode cX4_scanWord 126 = .ok (.getfield 35, 3) := by decide +kernel
theorem eX4_scanWord_129 : decode cX4_scanWord 129 = .ok (.iload_n 1, 1) := by decide +kernel
theorem eX4_scanWord_130 : decode cX4_scanWord 130 = .ok (.iaload, 1) := by decide +kernel
theorem eX4_scanWord_131 : decode cX4_scanWord 131 = .ok (.aload_n 0, 1) := by decide +kernel
theorem eX4_scanWord_132 : decode cX4_scanWord 132 = .ok (.getfield 127, 3) := by decide +kernel
theorem eX4_scanWord_135 : decode cX4_scanWord 135 = .ok (.if_icmp .ne 11, 3) := by decide +kernel
theorem eX4_scanWord_138 : decode cX4_scanWord 138 = .ok (.aload_n 0, 1) := by decide +kernel
theorem eX4_scanWord_139 : decode cX4_scanWord 139 = .ok (.bipush 8, 2) := by decide +kernel
theorem eX4_scanWord_141 : decode cX4_scanWord 141 = .ok (.iload_n 1, 1) := by decide +kernel
theorem eX4_scanWord_142 : decode cX4_scanWord 142 = .ok (.iadd, 1) := by decide +kernel
theorem eX4_scanWord_143 : decode cX4_scanWord 143 = .ok (.putfield 78, 3) := by decide +kernel
theorem eX4_scanWord_146 : decode cX4_scanWord 146 = .ok (.iinc 1 1, 3) := by decide +kernel
theorem eX4_scanWord_149 : decode cX4_scanWord 149 = .ok (.goto (-41), 3) := by decide +kernel
theorem eX4_scanWord_152 : decode cX4_scanWord 152 = .ok (.return_, 1) := by decide +kernel
theorem eX4_scanNumber_0 : decode cX4_scanNumber 0 = .ok (.aload_n 0, 1) := by decide +kernel
theorem eX4_scanNumber_1 : decode cX4_scanNumber 1 = .ok (.iconst 0, 1) := by decide +kernel
theorem eX4_scanNumber_2 : decode cX4_scanNumber 2 = .ok (.putfield 127, 3) := by decide +kernel
theorem eX4_scanNumber_5 : decode cX4_scanNumber 5 = .ok (.aload_n 0, 1) := by decide +kernel
theorem eX4_scanNumber_6 : decode cX4_scanNumber 6 = .ok (.getfield 60, 3) := by decide +kernel
theorem eX4_scanNumber_9 : decode cX4_scanNumber 9 = .ok (.aload_n 0, 1) := by decide +kernel
theorem eX4_scanNumber_10 : decode cX4_scanNumber 10 = .ok (.getfield 58, 3) := by decide +kernel
theorem eX4_scanNumber_13 : decode cX4_scanNumber 13 = .ok (.if_icmp .ge 68, 3) := by decide +kernel
theorem eX4_scanNumber_16 : decode cX4_scanNumber 16 = .ok (.aload_n 0, 1) := by decide +kernel
theorem eX4_scanNumber_17 : decode cX4_scanNumber 17 = .ok (.getfield 55, 3) := by decide +kernel
theorem eX4_scanNumber_20 : decode cX4_scanNumber 20 = .ok (.aload_n 0, 1) := by decide +kernel
theorem eX4_scanNumber_21 : decode cX4_scanNumber 21 = .ok (.getfield 60, 3) := by decide +kernel
theorem eX4_scanNumber_24 : decode cX4_scanNumber 24 = .ok (.iaload, 1) := by decide +kernel
theorem eX4_scanNumber_25 : decode cX4_scanNumber 25 = .ok (.bipush 48, 2) := by decide +kernel
theorem eX4_scanNumber_27 : decode cX4_scanNumber 27 = .ok (.if_icmp .lt 54, 3) := by decide +kernel
theorem eX4_scanNumber_30 : decode cX4_scanNumber 30 = .ok (.aload_n 0, 1) := by decide +kernel
theorem eX4_scanNumber_31 : decode cX4_scanNumber 31 = .ok (.getfield 55, 3) := by decide +kernel
theorem eX4_scanNumber_34 : decode cX4_scanNumber 34 = .ok (.aload_n 0, 1) := by decide +kernel
theorem eX4_scanNumber_35 : decode cX4_scanNumber 35 = .ok (.getfield 60, 3) := by decide +kernel
theorem eX4_scanNumber_38 : decode cX4_scanNumber 38 = .ok (.iaload, 1) := by decide +kernel
theorem eX4_scanNumber_39 : decode cX4_scanNumber 39 = .ok (.bipush 57, 2) := by decide +kernel
theorem eX4_scanNumber_41 : decode cX4_scanNumber 41 = .ok (.if_icmp .gt 40, 3) := by decide +kernel
theorem eX4_scanNumber_44 : decode cX4_scanNumber 44 = .ok (.aload_n 0, 1) := by decide +kernel
theorem eX4_scanNumber_45 : decode cX4_scanNumber 45 = .ok (.aload_n 0, 1) := by decide +kernel
theorem eX4_scanNumber_46 : decode cX4_scanNumber 46 = .ok (.getfield 127, 3) := by decide +kernel
theorem eX4_scanNumber_49 : decode cX4_scanNumber 49 = .ok (.bipush 10, 2) := by decide +kernel
theorem eX4_scanNumber_51 : decode cX4_scanNumber 51 = .ok (.imul, 1) := by decide +kernel
theorem eX4_scanNumber_52 : decode cX4_scanNumber 52 = .ok (.aload_n 0, 1) := by decide +kernel
theorem eX4_scanNumber_53 : decode cX4_scanNumber 53 = .ok (.getfield 55, 3) := by decide +kernel
theorem eX4_scanNumber_56 : decode cX4_scanNumber 56 = .ok (.aload_n 0, 1) := by decide +kernel
theorem eX4_scanNumber_57 : decode cX4_scanNumber 57 = .ok (.getfield 60, 3) := by decide +kernel
theorem eX4_scanNumber_60 : decode cX4_scanNumber 60 = .ok (.iaload, 1) := by decide +kernel
theorem eX4_scanNumber_61 : decode cX4_scanNumber 61 = .ok (.iadd, 1) := by decide +kernel
theorem eX4_scanNumber_62 : decode cX4_scanNumber 62 = .ok (.bipush 48, 2) := by decide +kernel
theorem eX4_scanNumber_64 : decode cX4_scanNumber 64 = .ok (.isub, 1) := by decide +kernel
theorem eX4_scanNumber_65 : decode cX4_scanNumber 65 = .ok (.putfield 127, 3) := by decide +kernel
theorem eX4_scanNumber_68 : decode cX4_scanNumber 68 = .ok (.aload_n 0, 1) := by decide +kernel
theorem eX4_scanNumber_69 : decode cX4_scanNumber 69 = .ok (.dup, 1) := by decide +kernel
theorem eX4_scanNumber_70 : decode cX4_scanNumber 70 = .ok (.getfield 60, 3) := by decide +kernel
theorem eX4_scanNumber_73 : decode cX4_scanNumber 73 = .ok (.iconst 1, 1) := by decide +kernel
theorem eX4_scanNumber_74 : decode cX4_scanNumber 74 = .ok (.iadd, 1) := by decide +kernel
theorem eX4_scanNumber_75 : decode cX4_scanNumber 75 = .ok (.putfield 60, 3) := by decide +kernel
theorem eX4_scanNumber_78 : decode cX4_scanNumber 78 = .ok (.goto (-73), 3) := by decide +kernel
theorem eX4_scanNumber_81 : decode cX4_scanNumber 81 = .ok (.aload_n 0, 1) := by decide +kernel
theorem eX4_scanNumber_82 : decode cX4_scanNumber 82 = .ok (.getfield 60, 3) := by decide +kernel
theorem eX4_scanNumber_85 : decode cX4_scanNumber 85 = .ok (.aload_n 0, 1) := by decide +kernel
theorem eX4_scanNumber_86 : decode cX4_scanNumber 86 = .ok (.getfield 58, 3) := by decide +kernel
theorem eX4_scanNumber_89 : decode cX4_scanNumber 89 = .ok (.if_icmp .ge 35, 3) := by decide +kernel
theorem eX4_scanNumber_92 : decode cX4_scanNumber 92 = .ok (.aload_n 0, 1) := by decide +kernel
theorem eX4_scanNumber_93 : decode cX4_scanNumber 93 = .ok (.getfield 55, 3) := by decide +kernel
theorem eX4_scanNumber_96 : decode cX4_scanNumber 96 = .ok (.aload_n 0, 1) := by decide +kernel
theorem eX4_scanNumber_97 : decode cX4_scanNumber 97 = .ok (.getfield 60, 3) := by decide +kernel
theorem eX4_scanNumber_100 : decode cX4_scanNumber 100 = .ok (.iaload, 1) := by decide +kernel
theorem eX4_scanNumber_101 : decode cX4_scanNumber 101 = .ok (.bipush 97, 2) := by decide +kernel
theorem eX4_scanNumber_103 : decode cX4_scanNumber 103 = .ok (.if_icmp .lt 21, 3) := by decide +kernel
theorem eX4_scanNumber_106 : decode cX4_scanNumber 106 = .ok (.aload_n 0, 1) := by decide +kernel
theorem eX4_scanNumber_107 : decode cX4_scanNumber 107 = .ok (.getfield 55, 3) := by decide +kernel
theorem eX4_scanNumber_110 : decode cX4_scanNumber 110 = .ok (.aload_n 0, 1) := by decide +kernel
theorem eX4_scanNumber_111 : decode cX4_scanNumber 111 = .ok (.getfield 60, 3) := by decide +kernel
theorem eX4_scanNumber_114 : decode cX4_scanNumber 114 = .ok (.iaload, 1) := by decide +kernel
theorem eX4_scanNumber_115 : decode cX4_scanNumber 115 = .ok (.bipush 122, 2) := by decide +kernel
theorem eX4_scanNumber_117 : decode cX4_scanNumber 117 = .ok (.if_icmp .gt 7, 3) := by decide +kernel
theorem eX4_scanNumber_120 : decode cX4_scanNumber 120 = .ok (.iconst 1, 1) := by decide +kernel
theorem eX4_scanNumber_121 : decode cX4_scanNumber 121 = .ok (.goto 4, 3) := by decide +kernel
theorem eX4_scanNumber_124 : decode cX4_scanNumber 124 = .ok (.iconst 0, 1) := by decide +kernel
theorem eX4_scanNumber_125 : decode cX4_scanNumber 125 = .ok (.istore_n 1, 1) := by decide +kernel
theorem eX4_scanNumber_126 : decode cX4_scanNumber 126 = .ok (.aload_n 0, 1) := by decide +kernel
theorem eX4_scanNumber_127 : decode cX4_scanNumber 127 = .ok (.aload_n 0, 1) := by decide +kernel
theorem eX4_scanNumber_128 : decode cX4_scanNumber 128 = .ok (.getfield 60, 3) := by decide +kernel
theorem eX4_scanNumber_131 : decode cX4_scanNumber 131 = .ok (.aload_n 0, 1) := by decide +kernel
theorem eX4_scanNumber_132 : decode cX4_scanNumber 132 = .ok (.getfield 118, 3) := by decide +kernel
theorem eX4_scanNumber_135 : decode cX4_scanNumber 135 = .ok (.isub, 1) := by decide +kernel
theorem eX4_scanNumber_136 : decode cX4_scanNumber 136 = .ok (.iconst 3, 1) := by decide +kernel
theorem eX4_scanNumber_137 : decode cX4_scanNumber 137 = .ok (.if_icmp .gt 7, 3) := by decide +kernel
theorem eX4_scanNumber_140 : decode cX4_scanNumber 140 = .ok (.iload_n 1, 1) := by decide +kernel
theorem eX4_scanNumber_141 : decode cX4_scanNumber 141 = .ok (.ifCond .eq 7, 3) := by decide +kernel
theorem eX4_scanNumber_144 : decode cX4_scanNumber 144 = .ok (.iconst 0, 1) := by decide +kernel
theorem eX4_scanNumber_145 : decode cX4_scanNumber 145 = .ok (.goto 4, 3) := by decide +kernel
theorem eX4_scanNumber_148 : decode cX4_scanNumber 148 = .ok (.iconst 3, 1) := by decide +kernel
theorem eX4_scanNumber_149 : decode cX4_scanNumber 149 = .ok (.putfield 78, 3) := by decide +kernel
theorem eX4_scanNumber_152 : decode cX4_scanNumber 152 = .ok (.return_, 1) := by decide +kernel
theorem eX4_advance_0 : decode cX4_advance 0 = .ok (.aload_n 0, 1) := by decide +kernel
theorem eX4_advance_1 : decode cX4_advance 1 = .ok (.getfield 60, 3) := by decide +kernel
theorem eX4_advance_4 : decode cX4_advance 4 = .ok (.aload_n 0, 1) := by decide +kernel
theorem eX4_advance_5 : decode cX4_advance 5 = .ok (.getfield 58, 3) := by decide +kernel
theorem eX4_advance_8 : decode cX4_advance 8 = .ok (.if_icmp .ge 44, 3) := by decide +kernel
theorem eX4_advance_11 : decode cX4_advance 11 = .ok (.aload_n 0, 1) := by decide +kernel
theorem eX4_advance_12 : decode cX4_advance 12 = .ok (.getfield 55, 3) := by decide +kernel
theorem eX4_advance_15 : decode cX4_advance 15 = .ok (.aload_n 0, 1) := by decide +kernel
theorem eX4_advance_16 : decode cX4_advance 16 = .ok (.getfield 60, 3) := by decide +kernel
theorem eX4_advance_19 : decode cX4_advance 19 = .ok (.iaload, 1) := by decide +kernel
theorem eX4_advance_20 : decode cX4_advance 20 = .ok (.bipush 32, 2) := by decide +kernel
theorem eX4_advance_22 : decode cX4_advance 22 = .ok (.if_icmp .eq 17, 3) := by decide +kernel
theorem eX4_advance_25 : decode cX4_advance 25 = .ok (.aload_n 0, 1) := by decide +kernel
theorem eX4_advance_26 : decode cX4_advance 26 = .ok (.getfield 55, 3) := by decide +kernel
theorem eX4_advance_29 : decode cX4_advance 29 = .ok (.aload_n 0, 1) := by decide +kernel
theorem eX4_advance_30 : decode cX4_advance 30 = .ok (.getfield 60, 3) := by decide +kernel
theorem eX4_advance_33 : decode cX4_advance 33 = .ok (.iaload, 1) := by decide +kernel
theorem eX4_advance_34 : decode cX4_advance 34 = .ok (.bipush 10, 2) := by decide +kernel
theorem eX4_advance_36 : decode cX4_advance 36 = .ok (.if_icmp .ne 16, 3) := by decide +kernel
theorem eX4_advance_39 : decode cX4_advance 39 = .ok (.aload_n 0, 1) := by decide +kernel
theorem eX4_advance_40 : decode cX4_advance 40 = .ok (.dup, 1) := by decide +kernel
theorem eX4_advance_41 : decode cX4_advance 41 = .ok (.getfield 60, 3) := by decide +kernel
theorem eX4_advance_44 : decode cX4_advance 44 = .ok (.iconst 1, 1) := by decide +kernel
theorem eX4_advance_45 : decode cX4_advance 45 = .ok (.iadd, 1) := by decide +kernel
theorem eX4_advance_46 : decode cX4_advance 46 = .ok (.putfield 60, 3) := by decide +kernel
theorem eX4_advance_49 : decode cX4_advance 49 = .ok (.goto (-49), 3) := by decide +kernel
theorem eX4_advance_52 : decode cX4_advance 52 = .ok (.aload_n 0, 1) := by decide +kernel
theorem eX4_advance_53 : decode cX4_advance 53 = .ok (.aload_n 0, 1) := by decide +kernel
theorem eX4_advance_54 : decode cX4_advance 54 = .ok (.getfield 60, 3) := by decide +kernel
theorem eX4_advance_57 : decode cX4_advance 57 = .ok (.putfield 118, 3) := by decide +kernel
theorem eX4_advance_60 : decode cX4_advance 60 = .ok (.aload_n 0, 1) := by decide +kernel
theorem eX4_advance_61 : decode cX4_advance 61 = .ok (.getfield 60, 3) := by decide +kernel
theorem eX4_advance_64 : decode cX4_advance 64 = .ok (.aload_n 0, 1) := by decide +kernel
theorem eX4_advance_65 : decode cX4_advance 65 = .ok (.getfield 58, 3) := by decide +kernel
theorem eX4_advance_68 : decode cX4_advance 68 = .ok (.if_icmp .lt 11, 3) := by decide +kernel
theorem eX4_advance_71 : decode cX4_advance 71 = .ok (.aload_n 0, 1) := by decide +kernel
theorem eX4_advance_72 : decode cX4_advance 72 = .ok (.iconst 1, 1) := by decide +kernel
theorem eX4_advance_73 : decode cX4_advance 73 = .ok (.putfield 78, 3) := by decide +kernel
theorem eX4_advance_76 : decode cX4_advance 76 = .ok (.goto 77, 3) := by decide +kernel
theorem eX4_advance_79 : decode cX4_advance 79 = .ok (.aload_n 0, 1) := by decide +kernel
theorem eX4_advance_80 : decode cX4_advance 80 = .ok (.getfield 55, 3) := by decide +kernel
theorem eX4_advance_83 : decode cX4_advance 83 = .ok (.aload_n 0, 1) := by decide +kernel
theorem eX4_advance_84 : decode cX4_advance 84 = .ok (.getfield 60, 3) := by decide +kernel
theorem eX4_advance_87 : decode cX4_advance 87 = .ok (.iaload, 1) := by decide +kernel
theorem eX4_advance_88 : decode cX4_advance 88 = .ok (.bipush 97, 2) := by decide +kernel
theorem eX4_advance_90 : decode cX4_advance 90 = .ok (.if_icmp .lt 24, 3) := by decide +kernel
theorem eX4_advance_93 : decode cX4_advance 93 = .ok (.aload_n 0, 1) := by decide +kernel
theorem eX4_advance_94 : decode cX4_advance 94 = .ok (.getfield 55, 3) := by decide +kernel
theorem eX4_advance_97 : decode cX4_advance 97 = .ok (.aload_n 0, 1) := by decide +kernel
theorem eX4_advance_98 : decode cX4_advance 98 = .ok (.getfield 60, 3) := by decide +kernel
theorem eX4_advance_101 : decode cX4_advance 101 = .ok (.iaload, 1) := by decide +kernel
theorem eX4_advance_102 : decode cX4_advance 102 = .ok (.bipush 122, 2) := by decide +kernel
theorem eX4_advance_104 : decode cX4_advance 104 = .ok (.if_icmp .gt 10, 3) := by decide +kernel
theorem eX4_advance_107 : decode cX4_advance 107 = .ok (.aload_n 0, 1) := by decide +kernel
theorem eX4_advance_108 : decode cX4_advance 108 = .ok (.invokevirtual 170, 3) := by decide +kernel
theorem eX4_advance_111 : decode cX4_advance 111 = .ok (.goto 42, 3) := by decide +kernel
theorem eX4_advance_114 : decode cX4_advance 114 = .ok (.aload_n 0, 1) := by decide +kernel
theorem eX4_advance_115 : decode cX4_advance 115 = .ok (.getfield 55, 3) := by decide +kernel
theorem eX4_advance_118 : decode cX4_advance 118 = .ok (.aload_n 0, 1) := by decide +kernel
theorem eX4_advance_119 : decode cX4_advance 119 = .ok (.getfield 60, 3) := by decide +kernel
theorem eX4_advance_122 : decode cX4_advance 122 = .ok (.iaload, 1) := by decide +kernel
theorem eX4_advance_123 : decode cX4_advance 123 = .ok (.bipush 48, 2) := by decide +kernel
theorem eX4_advance_125 : decode cX4_advance 125 = .ok (.if_icmp .lt 24, 3) := by decide +kernel
theorem eX4_advance_128 : decode cX4_advance 128 = .ok (.aload_n 0, 1) := by decide +kernel
theorem eX4_advance_129 : decode cX4_advance 129 = .ok (.getfield 55, 3) := by decide +kernel
theorem eX4_advance_132 : decode cX4_advance 132 = .ok (.aload_n 0, 1) := by decide +kernel
theorem eX4_advance_133 : decode cX4_advance 133 = .ok (.getfield 60, 3) := by decide +kernel
theorem eX4_advance_136 : decode cX4_advance 136 = .ok (.iaload, 1) := by decide +kernel
theorem eX4_advance_137 : decode cX4_advance 137 = .ok (.bipush 57, 2) := by decide +kernel
theorem eX4_advance_139 : decode cX4_advance 139 = .ok (.if_icmp .gt 10, 3) := by decide +kernel
theorem eX4_advance_142 : decode cX4_advance 142 = .ok (.aload_n 0, 1) := by decide +kernel
theorem eX4_advance_143 : decode cX4_advance 143 = .ok (.invokevirtual 173, 3) := by decide +kernel
theorem eX4_advance_146 : decode cX4_advance 146 = .ok (.goto 7, 3) := by decide +kernel
theorem eX4_advance_149 : decode cX4_advance 149 = .ok (.aload_n 0, 1) := by decide +kernel
theorem eX4_advance_150 : decode cX4_advance 150 = .ok (.invokevirtual 176, 3) := by decide +kernel
theorem eX4_advance_153 : decode cX4_advance 153 = .ok (.return_, 1) := by decide +kernel
theorem eX4_readsStop_0 : decode cX4_readsStop 0 = .ok (.aload_n 0, 1) := by decide +kernel
theorem eX4_readsStop_1 : decode cX4_readsStop 1 = .ok (.getfield 78, 3) := by decide +kernel
theorem eX4_readsStop_4 : decode cX4_readsStop 4 = .ok (.bipush 7, 2) := by decide +kernel
theorem eX4_readsStop_6 : decode cX4_readsStop 6 = .ok (.if_icmp .eq 8, 3) := by decide +kernel
theorem eX4_readsStop_9 : decode cX4_readsStop 9 = .ok (.aload_n 0, 1) := by decide +kernel
theorem eX4_readsStop_10 : decode cX4_readsStop 10 = .ok (.invokevirtual 94, 3) := by decide +kernel
theorem eX4_readsStop_13 : decode cX4_readsStop 13 = .ok (.ireturn, 1) := by decide +kernel
theorem eX4_readsStop_14 : decode cX4_readsStop 14 = .ok (.aload_n 0, 1) := by decide +kernel
theorem eX4_readsStop_15 : decode cX4_readsStop 15 = .ok (.invokevirtual 75, 3) := by decide +kernel
theorem eX4_readsStop_18 : decode cX4_readsStop 18 = .ok (.iconst 1, 1) := by decide +kernel
theorem eX4_readsStop_19 : decode cX4_readsStop 19 = .ok (.ireturn, 1) := by decide +kernel
theorem eX4_indexOf_0 : decode cX4_indexOf 0 = .ok (.iconst 0, 1) := by decide +kernel
theorem eX4_indexOf_1 : decode cX4_indexOf 1 = .ok (.istore_n 3, 1) := by decide +kernel
theorem eX4_indexOf_2 : decode cX4_indexOf 2 = .ok (.iload_n 3, 1) := by decide +kernel
theorem eX4_indexOf_3 : decode cX4_indexOf 3 = .ok (.iload_n 2, 1) := by decide +kernel
theorem eX4_indexOf_4 : decode cX4_indexOf 4 = .ok (.if_icmp .ge 21, 3) := by decide +kernel
theorem eX4_indexOf_7 : decode cX4_indexOf 7 = .ok (.aload_n 1, 1) := by decide +kernel
theorem eX4_indexOf_8 : decode cX4_indexOf 8 = .ok (.iload_n 3, 1) := by decide +kernel
theorem eX4_indexOf_9 : decode cX4_indexOf 9 = .ok (.iaload, 1) := by decide +kernel
theorem eX4_indexOf_10 : decode cX4_indexOf 10 = .ok (.aload_n 0, 1) := by decide +kernel
theorem eX4_indexOf_11 : decode cX4_indexOf 11 = .ok (.getfield 127, 3) := by decide +kernel
theorem eX4_indexOf_14 : decode cX4_indexOf 14 = .ok (.if_icmp .ne 5, 3) := by decide +kernel
theorem eX4_indexOf_17 : decode cX4_indexOf 17 = .ok (.iload_n 3, 1) := by decide +kernel
theorem eX4_indexOf_18 : decode cX4_indexOf 18 = .ok (.ireturn, 1) := by decide +kernel
theorem eX4_indexOf_19 : decode cX4_indexOf 19 = .ok (.iinc 3 1, 3) := by decide +kernel
theorem eX4_indexOf_22 : decode cX4_indexOf 22 = .ok (.goto (-20), 3) := by decide +kernel
theorem eX4_indexOf_25 : decode cX4_indexOf 25 = .ok (.iconst (-1), 1) := by decide +kernel
theorem eX4_indexOf_26 : decode cX4_indexOf 26 = .ok (.ireturn, 1) := by decide +kernel
theorem eX4_toldName_0 : decode cX4_toldName 0 = .ok (.aload_n 0, 1) := by decide +kernel
theorem eX4_toldName_1 : decode cX4_toldName 1 = .ok (.getfield 78, 3) := by decide +kernel
theorem eX4_toldName_4 : decode cX4_toldName 4 = .ok (.iconst 2, 1) := by decide +kernel
theorem eX4_toldName_5 : decode cX4_toldName 5 = .ok (.if_icmp .eq 10, 3) := by decide +kernel
theorem eX4_toldName_8 : decode cX4_toldName 8 = .ok (.aload_n 0, 1) := by decide +kernel
theorem eX4_toldName_9 : decode cX4_toldName 9 = .ok (.invokevirtual 94, 3) := by decide +kernel
theorem eX4_toldName_12 : decode cX4_toldName 12 = .ok (.pop, 1) := by decide +kernel
theorem eX4_toldName_13 : decode cX4_toldName 13 = .ok (.iconst (-1), 1) := by decide +kernel
theorem eX4_toldName_14 : decode cX4_toldName 14 = .ok (.ireturn, 1) := by decide +kernel
theorem eX4_toldName_15 : decode cX4_toldName 15 = .ok (.aload_n 0, 1) := by decide +kernel
theorem eX4_toldName_16 : decode cX4_toldName 16 = .ok (.aload_n 1, 1) := by decide +kernel
theorem eX4_toldName_17 : decode cX4_toldName 17 = .ok (.iload_n 2, 1) := by decide +kernel
theorem eX4_toldName_18 : decode cX4_toldName 18 = .ok (.invokevirtual 167, 3) := by decide +kernel
theorem eX4_toldName_21 : decode cX4_toldName 21 = .ok (.istore_n 3, 1) := by decide +kernel
theorem eX4_toldName_22 : decode cX4_toldName 22 = .ok (.iload_n 3, 1) := by decide +kernel
theorem eX4_toldName_23 : decode cX4_toldName 23 = .ok (.iconst (-1), 1) := by decide +kernel
theorem eX4_toldName_24 : decode cX4_toldName 24 = .ok (.if_icmp .ne 9, 3) := by decide +kernel
theorem eX4_toldName_27 : decode cX4_toldName 27 = .ok (.aload_n 0, 1) := by decide +kernel
theorem eX4_toldName_28 : decode cX4_toldName 28 = .ok (.iconst 3, 1) := by decide +kernel
theorem eX4_toldName_29 : decode cX4_toldName 29 = .ok (.invokevirtual 103, 3) := by decide +kernel
theorem eX4_toldName_32 : decode cX4_toldName 32 = .ok (.pop, 1) := by decide +kernel
theorem eX4_toldName_33 : decode cX4_toldName 33 = .ok (.iload_n 3, 1) := by decide +kernel
theorem eX4_toldName_34 : decode cX4_toldName 34 = .ok (.ireturn, 1) := by decide +kernel
theorem eX4_isNewName_0 : decode cX4_isNewName 0 = .ok (.aload_n 0, 1) := by decide +kernel
theorem eX4_isNewName_1 : decode cX4_isNewName 1 = .ok (.getfield 78, 3) := by decide +kernel
theorem eX4_isNewName_4 : decode cX4_isNewName 4 = .ok (.iconst 2, 1) := by decide +kernel
theorem eX4_isNewName_5 : decode cX4_isNewName 5 = .ok (.if_icmp .eq 8, 3) := by decide +kernel
theorem eX4_isNewName_8 : decode cX4_isNewName 8 = .ok (.aload_n 0, 1) := by decide +kernel
theorem eX4_isNewName_9 : decode cX4_isNewName 9 = .ok (.invokevirtual 94, 3) := by decide +kernel
theorem eX4_isNewName_12 : decode cX4_isNewName 12 = .ok (.ireturn, 1) := by decide +kernel
theorem eX4_isNewName_13 : decode cX4_isNewName 13 = .ok (.aload_n 0, 1) := by decide +kernel
theorem eX4_isNewName_14 : decode cX4_isNewName 14 = .ok (.aload_n 0, 1) := by decide +kernel
theorem eX4_isNewName_15 : decode cX4_isNewName 15 = .ok (.getfield 39, 3) := by decide +kernel
theorem eX4_isNewName_18 : decode cX4_isNewName 18 = .ok (.aload_n 0, 1) := by decide +kernel
theorem eX4_isNewName_19 : decode cX4_isNewName 19 = .ok (.getfield 66, 3) := by decide +kernel
theorem eX4_isNewName_22 : decode cX4_isNewName 22 = .ok (.getfield 121, 3) := by decide +kernel
theorem eX4_isNewName_25 : decode cX4_isNewName 25 = .ok (.invokevirtual 167, 3) := by decide +kernel
theorem eX4_isNewName_28 : decode cX4_isNewName 28 = .ok (.iconst (-1), 1) := by decide +kernel
theorem eX4_isNewName_29 : decode cX4_isNewName 29 = .ok (.if_icmp .ne 22, 3) := by decide +kernel
theorem eX4_isNewName_32 : decode cX4_isNewName 32 = .ok (.aload_n 0, 1) := by decide +kernel
theorem eX4_isNewName_33 : decode cX4_isNewName 33 = .ok (.aload_n 0, 1) := by decide +kernel
theorem eX4_isNewName_34 : decode cX4_isNewName 34 = .ok (.getfield 42, 3) := by decide +kernel
theorem eX4_isNewName_37 : decode cX4_isNewName 37 = .ok (.aload_n 0, 1) := by decide +kernel
theorem eX4_isNewName_38 : decode cX4_isNewName 38 = .ok (.getfield 66, 3) := by decide +kernel
theorem eX4_isNewName_41 : decode cX4_isNewName 41 = .ok (.getfield 100, 3) := by decide +kernel
theorem eX4_isNewName_44 : decode cX4_isNewName 44 = .ok (.invokevirtual 167, 3) := by decide +kernel
theorem eX4_isNewName_47 : decode cX4_isNewName 47 = .ok (.iconst (-1), 1) := by decide +kernel
theorem eX4_isNewName_48 : decode cX4_isNewName 48 = .ok (.if_icmp .eq 7, 3) := by decide +kernel
theorem eX4_isNewName_51 : decode cX4_isNewName 51 = .ok (.iconst 1, 1) := by decide +kernel
theorem eX4_isNewName_52 : decode cX4_isNewName 52 = .ok (.goto 4, 3) := by decide +kernel
theorem eX4_isNewName_55 : decode cX4_isNewName 55 = .ok (.iconst 0, 1) := by decide +kernel
theorem eX4_isNewName_56 : decode cX4_isNewName 56 = .ok (.istore_n 1, 1) := by decide +kernel
theorem eX4_isNewName_57 : decode cX4_isNewName 57 = .ok (.iload_n 1, 1) := by decide +kernel
theorem eX4_isNewName_58 : decode cX4_isNewName 58 = .ok (.ifCond .eq 11, 3) := by decide +kernel
theorem eX4_isNewName_61 : decode cX4_isNewName 61 = .ok (.aload_n 0, 1) := by decide +kernel
theorem eX4_isNewName_62 : decode cX4_isNewName 62 = .ok (.iconst 3, 1) := by decide +kernel
theorem eX4_isNewName_63 : decode cX4_isNewName 63 = .ok (.invokevirtual 103, 3) := by decide +kernel
theorem eX4_isNewName_66 : decode cX4_isNewName 66 = .ok (.ifCond .eq 7, 3) := by decide +kernel
theorem eX4_isNewName_69 : decode cX4_isNewName 69 = .ok (.iconst 1, 1) := by decide +kernel
theorem eX4_isNewName_70 : decode cX4_isNewName 70 = .ok (.goto 4, 3) := by decide +kernel
theorem eX4_isNewName_73 : decode cX4_isNewName 73 = .ok (.iconst 0, 1) := by decide +kernel
theorem eX4_isNewName_74 : decode cX4_isNewName 74 = .ok (.ireturn, 1) := by decide +kernel
theorem eX4_readHow_0 : decode cX4_readHow 0 = .ok (.aload_n 0, 1) := by decide +kernel
theorem eX4_readHow_1 : decode cX4_readHow 1 = .ok (.getfield 78, 3) := by decide +kernel
theorem eX4_readHow_4 : decode cX4_readHow 4 = .ok (.istore_n 2, 1) := by decide +kernel
theorem eX4_readHow_5 : decode cX4_readHow 5 = .ok (.iload_n 2, 1) := by decide +kernel
theorem eX4_readHow_6 : decode cX4_readHow 6 = .ok (.iconst 4, 1) := by decide +kernel
theorem eX4_readHow_7 : decode cX4_readHow 7 = .ok (.if_icmp .eq 25, 3) := by decide +kernel
theorem eX4_readHow_10 : decode cX4_readHow 10 = .ok (.iload_n 1, 1) := by decide +kernel
theorem eX4_readHow_11 : decode cX4_readHow 11 = .ok (.ifCond .ne 14, 3) := by decide +kernel
theorem eX4_readHow_14 : decode cX4_readHow 14 = .ok (.iload_n 2, 1) := by decide +kernel
theorem eX4_readHow_15 : decode cX4_readHow 15 = .ok (.iconst 5, 1) := by decide +kernel
theorem eX4_readHow_16 : decode cX4_readHow 16 = .ok (.if_icmp .eq 16, 3) := by decide +kernel
theorem eX4_readHow_19 : decode cX4_readHow 19 = .ok (.iload_n 2, 1) := by decide +kernel
theorem eX4_readHow_20 : decode cX4_readHow 20 = .ok (.bipush 6, 2) := by decide +kernel
theorem eX4_readHow_22 : decode cX4_readHow 22 = .ok (.if_icmp .eq 10, 3) := by decide +kernel
theorem eX4_readHow_25 : decode cX4_readHow 25 = .ok (.aload_n 0, 1) := by decide +kernel
theorem eX4_readHow_26 : decode cX4_readHow 26 = .ok (.invokevirtual 94, 3) := by decide +kernel
theorem eX4_readHow_29 : decode cX4_readHow 29 = .ok (.pop, 1) := by decide +kernel
theorem eX4_readHow_30 : decode cX4_readHow 30 = .ok (.iconst (-1), 1) := by decide +kernel
theorem eX4_readHow_31 : decode cX4_readHow 31 = .ok (.ireturn, 1) := by decide +kernel
theorem eX4_readHow_32 : decode cX4_readHow 32 = .ok (.aload_n 0, 1) := by decide +kernel
theorem eX4_readHow_33 : decode cX4_readHow 33 = .ok (.invokevirtual 75, 3) := by decide +kernel
theorem eX4_readHow_36 : decode cX4_readHow 36 = .ok (.iload_n 2, 1) := by decide +kernel
theorem eX4_readHow_37 : decode cX4_readHow 37 = .ok (.iconst 5, 1) := by decide +kernel
theorem eX4_readHow_38 : decode cX4_readHow 38 = .ok (.if_icmp .ne 5, 3) := by decide +kernel
theorem eX4_readHow_41 : decode cX4_readHow 41 = .ok (.iconst 2, 1) := by decide +kernel
theorem eX4_readHow_42 : decode cX4_readHow 42 = .ok (.ireturn, 1) := by decide +kernel
theorem eX4_readHow_43 : decode cX4_readHow 43 = .ok (.aload_n 0, 1) := by decide +kernel
theorem eX4_readHow_44 : decode cX4_readHow 44 = .ok (.getfield 78, 3) := by decide +kernel
theorem eX4_readHow_47 : decode cX4_readHow 47 = .ok (.iconst 5, 1) := by decide +kernel
theorem eX4_readHow_48 : decode cX4_readHow 48 = .ok (.if_icmp .eq 14, 3) := by decide +kernel
theorem eX4_readHow_51 : decode cX4_readHow 51 = .ok (.iload_n 2, 1) := by decide +kernel
theorem eX4_readHow_52 : decode cX4_readHow 52 = .ok (.iconst 4, 1) := by decide +kernel
theorem eX4_readHow_53 : decode cX4_readHow 53 = .ok (.if_icmp .ne 7, 3) := by decide +kernel
theorem eX4_readHow_56 : decode cX4_readHow 56 = .ok (.iconst 0, 1) := by decide +kernel
theorem eX4_readHow_57 : decode cX4_readHow 57 = .ok (.goto 4, 3) := by decide +kernel
theorem eX4_readHow_60 : decode cX4_readHow 60 = .ok (.iconst 4, 1) := by decide +kernel
theorem eX4_readHow_61 : decode cX4_readHow 61 = .ok (.ireturn, 1) := by decide +kernel
theorem eX4_readHow_62 : decode cX4_readHow 62 = .ok (.aload_n 0, 1) := by decide +kernel
theorem eX4_readHow_63 : decode cX4_readHow 63 = .ok (.invokevirtual 75, 3) := by decide +kernel
theorem eX4_readHow_66 : decode cX4_readHow 66 = .ok (.iload_n 2, 1) := by decide +kernel
theorem eX4_readHow_67 : decode cX4_readHow 67 = .ok (.iconst 4, 1) := by decide +kernel
theorem eX4_readHow_68 : decode cX4_readHow 68 = .ok (.if_icmp .ne 7, 3) := by decide +kernel
theorem eX4_readHow_71 : decode cX4_readHow 71 = .ok (.iconst 1, 1) := by decide +kernel
theorem eX4_readHow_72 : decode cX4_readHow 72 = .ok (.goto 4, 3) := by decide +kernel
theorem eX4_readHow_75 : decode cX4_readHow 75 = .ok (.iconst 3, 1) := by decide +kernel
theorem eX4_readHow_76 : decode cX4_readHow 76 = .ok (.ireturn, 1) := by decide +kernel
