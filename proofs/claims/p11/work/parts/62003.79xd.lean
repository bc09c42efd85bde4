theorem eX4_readsConditions_0 : decode cX4_readsConditions 0 = .ok (.iconst 0, 1) := by decide +kernel
theorem eX4_readsConditions_1 : decode cX4_readsConditions 1 = .ok (.istore 4, 2) := by decide +kernel
theorem eX4_readsConditions_3 : decode cX4_readsConditions 3 = .ok (.iload 4, 2) := by decide +kernel
theorem eX4_readsConditions_5 : decode cX4_readsConditions 5 = .ok (.iload_n 3, 1) := by decide +kernel
theorem eX4_readsConditions_6 : decode cX4_readsConditions 6 = .ok (.if_icmp .gt 135, 3) := by decide +kernel
theorem eX4_readsConditions_9 : decode cX4_readsConditions 9 = .ok (.aload_n 0, 1) := by decide +kernel
theorem eX4_readsConditions_10 : decode cX4_readsConditions 10 = .ok (.getfield 78, 3) := by decide +kernel
theorem eX4_readsConditions_13 : decode cX4_readsConditions 13 = .ok (.iload_n 2, 1) := by decide +kernel
theorem eX4_readsConditions_14 : decode cX4_readsConditions 14 = .ok (.if_icmp .ne 127, 3) := by decide +kernel
theorem eX4_readsConditions_17 : decode cX4_readsConditions 17 = .ok (.iload 4, 2) := by decide +kernel
theorem eX4_readsConditions_19 : decode cX4_readsConditions 19 = .ok (.iload_n 3, 1) := by decide +kernel
theorem eX4_readsConditions_20 : decode cX4_readsConditions 20 = .ok (.if_icmp .ne 9, 3) := by decide +kernel
theorem eX4_readsConditions_23 : decode cX4_readsConditions 23 = .ok (.aload_n 0, 1) := by decide +kernel
theorem eX4_readsConditions_24 : decode cX4_readsConditions 24 = .ok (.iconst 5, 1) := by decide +kernel
theorem eX4_readsConditions_25 : decode cX4_readsConditions 25 = .ok (.invokevirtual 103, 3) := by decide +kernel
theorem eX4_readsConditions_28 : decode cX4_readsConditions 28 = .ok (.ireturn, 1) := by decide +kernel
theorem eX4_readsConditions_29 : decode cX4_readsConditions 29 = .ok (.aload_n 0, 1) := by decide +kernel
theorem eX4_readsConditions_30 : decode cX4_readsConditions 30 = .ok (.invokevirtual 75, 3) := by decide +kernel
theorem eX4_readsConditions_33 : decode cX4_readsConditions 33 = .ok (.aload_n 0, 1) := by decide +kernel
theorem eX4_readsConditions_34 : decode cX4_readsConditions 34 = .ok (.aload_n 0, 1) := by decide +kernel
theorem eX4_readsConditions_35 : decode cX4_readsConditions 35 = .ok (.getfield 39, 3) := by decide +kernel
theorem eX4_readsConditions_38 : decode cX4_readsConditions 38 = .ok (.aload_n 0, 1) := by decide +kernel
theorem eX4_readsConditions_39 : decode cX4_readsConditions 39 = .ok (.getfield 66, 3) := by decide +kernel
theorem eX4_readsConditions_42 : decode cX4_readsConditions 42 = .ok (.getfield 121, 3) := by decide +kernel
theorem eX4_readsConditions_45 : decode cX4_readsConditions 45 = .ok (.invokevirtual 142, 3) := by decide +kernel
theorem eX4_readsConditions_48 : decode cX4_readsConditions 48 = .ok (.istore 5, 2) := by decide +kernel
theorem eX4_readsConditions_50 : decode cX4_readsConditions 50 = .ok (.iload 5, 2) := by decide +kernel
theorem eX4_readsConditions_52 : decode cX4_readsConditions 52 = .ok (.iconst (-1), 1) := by decide +kernel
theorem eX4_readsConditions_53 : decode cX4_readsConditions 53 = .ok (.if_icmp .ne 5, 3) := by decide +kernel
theorem eX4_readsConditions_56 : decode cX4_readsConditions 56 = .ok (.iconst 0, 1) := by decide +kernel
theorem eX4_readsConditions_57 : decode cX4_readsConditions 57 = .ok (.ireturn, 1) := by decide +kernel
theorem eX4_readsConditions_58 : decode cX4_readsConditions 58 = .ok (.aload_n 0, 1) := by decide +kernel
theorem eX4_readsConditions_59 : decode cX4_readsConditions 59 = .ok (.invokevirtual 75, 3) := by decide +kernel
theorem eX4_readsConditions_62 : decode cX4_readsConditions 62 = .ok (.aload_n 0, 1) := by decide +kernel
theorem eX4_readsConditions_63 : decode cX4_readsConditions 63 = .ok (.iload_n 2, 1) := by decide +kernel
theorem eX4_readsConditions_64 : decode cX4_readsConditions 64 = .ok (.bipush 11, 2) := by decide +kernel
theorem eX4_readsConditions_66 : decode cX4_readsConditions 66 = .ok (.if_icmp .ne 7, 3) := by decide +kernel
theorem eX4_readsConditions_69 : decode cX4_readsConditions 69 = .ok (.iconst 1, 1) := by decide +kernel
theorem eX4_readsConditions_70 : decode cX4_readsConditions 70 = .ok (.goto 4, 3) := by decide +kernel
theorem eX4_readsConditions_74 : decode cX4_readsConditions 74 = .ok (.invokevirtual 159, 3) := by decide +kernel
theorem eX4_readsConditions_77 : decode cX4_readsConditions 77 = .ok (.istore 6, 2) := by decide +kernel
theorem eX4_readsConditions_79 : decode cX4_readsConditions 79 = .ok (.iload 6, 2) := by decide +kernel
theorem eX4_readsConditions_81 : decode cX4_readsConditions 81 = .ok (.iconst (-1), 1) := by decide +kernel
theorem eX4_readsConditions_82 : decode cX4_readsConditions 82 = .ok (.if_icmp .ne 5, 3) := by decide +kernel
theorem eX4_readsConditions_85 : decode cX4_readsConditions 85 = .ok (.iconst 0, 1) := by decide +kernel
theorem eX4_readsConditions_86 : decode cX4_readsConditions 86 = .ok (.ireturn, 1) := by decide +kernel
theorem eX4_readsConditions_87 : decode cX4_readsConditions 87 = .ok (.aload_n 0, 1) := by decide +kernel
theorem eX4_readsConditions_88 : decode cX4_readsConditions 88 = .ok (.getfield 78, 3) := by decide +kernel
theorem eX4_readsConditions_91 : decode cX4_readsConditions 91 = .ok (.iconst 3, 1) := by decide +kernel
theorem eX4_readsConditions_92 : decode cX4_readsConditions 92 = .ok (.if_icmp .eq 8, 3) := by decide +kernel
theorem eX4_readsConditions_95 : decode cX4_readsConditions 95 = .ok (.aload_n 0, 1) := by decide +kernel
theorem eX4_readsConditions_96 : decode cX4_readsConditions 96 = .ok (.invokevirtual 94, 3) := by decide +kernel
theorem eX4_readsConditions_99 : decode cX4_readsConditions 99 = .ok (.ireturn, 1) := by decide +kernel
theorem eX4_readsConditions_100 : decode cX4_readsConditions 100 = .ok (.aload_n 0, 1) := by decide +kernel
theorem eX4_readsConditions_101 : decode cX4_readsConditions 101 = .ok (.getfield 127, 3) := by decide +kernel
theorem eX4_readsConditions_104 : decode cX4_readsConditions 104 = .ok (.bipush 20, 2) := by decide +kernel
theorem eX4_readsConditions_106 : decode cX4_readsConditions 106 = .ok (.if_icmp .le 9, 3) := by decide +kernel
theorem eX4_readsConditions_109 : decode cX4_readsConditions 109 = .ok (.aload_n 0, 1) := by decide +kernel
theorem eX4_readsConditions_110 : decode cX4_readsConditions 110 = .ok (.iconst 4, 1) := by decide +kernel
theorem eX4_readsConditions_111 : decode cX4_readsConditions 111 = .ok (.invokevirtual 103, 3) := by decide +kernel
theorem eX4_readsConditions_114 : decode cX4_readsConditions 114 = .ok (.ireturn, 1) := by decide +kernel
theorem eX4_readsConditions_115 : decode cX4_readsConditions 115 = .ok (.aload_n 0, 1) := by decide +kernel
theorem eX4_readsConditions_116 : decode cX4_readsConditions 116 = .ok (.getfield 66, 3) := by decide +kernel
theorem eX4_readsConditions_119 : decode cX4_readsConditions 119 = .ok (.iload_n 1, 1) := by decide +kernel
theorem eX4_readsConditions_120 : decode cX4_readsConditions 120 = .ok (.iload 5, 2) := by decide +kernel
theorem eX4_readsConditions_122 : decode cX4_readsConditions 122 = .ok (.iload 6, 2) := by decide +kernel
theorem eX4_readsConditions_124 : decode cX4_readsConditions 124 = .ok (.aload_n 0, 1) := by decide +kernel
theorem eX4_readsConditions_125 : decode cX4_readsConditions 125 = .ok (.getfield 127, 3) := by decide +kernel
theorem eX4_readsConditions_128 : decode cX4_readsConditions 128 = .ok (.invokevirtual 163, 3) := by decide +kernel
theorem eX4_readsConditions_131 : decode cX4_readsConditions 131 = .ok (.aload_n 0, 1) := by decide +kernel
theorem eX4_readsConditions_132 : decode cX4_readsConditions 132 = .ok (.invokevirtual 75, 3) := by decide +kernel
theorem eX4_readsConditions_135 : decode cX4_readsConditions 135 = .ok (.iinc 4 1, 3) := by decide +kernel
theorem eX4_readsConditions_138 : decode cX4_readsConditions 138 = .ok (.goto (-135), 3) := by decide +kernel
theorem eX4_readsConditions_141 : decode cX4_readsConditions 141 = .ok (.iconst 1, 1) := by decide +kernel
theorem eX4_readsConditions_142 : decode cX4_readsConditions 142 = .ok (.ireturn, 1) := by decide +kernel
abbrev vs_E_4_readsConditions_11 : List Cond := .code yX4_readsConditions cX4_readsConditions 7 (some .boolean) :: CM
theorem g_E_4_readsConditions_11_E_4_advance : GoodIn vs_E_4_readsConditions_11 (wsV RX4 75 RX4 yX4_advance vs_E_4_advance) := cm_gV cm_229 cm_230 cm_231 cm_232 cm_233
theorem g_E_4_readsConditions_11_E_4_toldName_c : GoodIn vs_E_4_readsConditions_11 (wsV RX4 142 RX4 yX4_toldName vs_E_4_toldName_c) := cm_gV cm_282 cm_283 cm_284 cm_232 cm_285
theorem g_E_4_readsConditions_11_E_4_readHow : GoodIn vs_E_4_readsConditions_11 (wsV RX4 159 RX4 yX4_readHow vs_E_4_readHow) := cm_gV cm_286 cm_287 cm_288 cm_232 cm_289
theorem g_E_4_readsConditions_11_E_0_addCondition : GoodIn vs_E_4_readsConditions_11 (wsV RX4 163 RX0 yX0_addCondition vs_E_0_addCondition) := cm_gV cm_290 cm_291 cm_292 cm_19 cm_13
theorem g_E_4_readsConditions_11_E_4_refuse : GoodIn vs_E_4_readsConditions_11 (wsV RX4 103 RX4 yX4_refuse vs_E_4_refuse) := cm_gV cm_255 cm_256 cm_257 cm_232 cm_258
theorem g_E_4_readsConditions_11_E_4_refuseToken : GoodIn vs_E_4_readsConditions_11 (wsV RX4 94 RX4 yX4_refuseToken vs_E_4_refuseToken) := cm_gV cm_264 cm_265 cm_266 cm_232 cm_267
noncomputable def sp_E_4_readsConditions_11_L1 (len : Nat) (ft : Nat → Int32) (fw : Nat → Int32) (fcn : Nat → Int32) (nc : Nat) (a0 : Nat) : ((Nat → Nat) × (Nat → Nat) × (Nat → Int32) × (Nat → Int32) × (Nat → Int32) × (Nat → Int32) × Int32 × Int32 × Nat × Nat × Int32 × Int32 × Nat) → ((Nat → Nat) × (Nat → Nat) × (Nat → Int32) × (Nat → Int32) × (Nat → Int32) × (Nat → Int32) × Int32 × Int32 × Nat × Nat × Int32 × Int32 × Nat) ⊕ (Nat × (Nat → Nat) × (Nat → Nat) × (Nat → Int32) × (Nat → Int32) × (Nat → Int32) × (Nat → Int32) × Int32 × Int32 × Nat × Nat × Int32 × Int32) := fun (g_16, g_17, g_18, g_19, g_20, g_21, g_22, g_23, g_24, g_25, g_26, g_27, g_28) => (if g_25 = 11 then (if g_28 = 3 then (Sum.inr (slet (sp_E_4_refuse g_27 5) (fun (z_fa_85, z_fat_86) => (0, g_16, g_17, g_18, g_19, g_20, g_21, z_fa_85, z_fat_86, g_24, g_25, g_26, g_27)))) else (slet (sp_E_4_advance len g_24 g_26 ft fw) (fun (z_pos_41, z_kd_42, z_vl_43, z_tka_44) => (slet (sp_E_4_toldName_c g_22 g_23 z_kd_42 z_vl_43 z_tka_44 fcn nc) (fun (u_48, z_fa_46, z_fat_47) => (if u_48 = 0 then (Sum.inr (0, g_16, g_17, g_18, g_19, g_20, g_21, z_fa_46, z_fat_47, z_pos_41, z_kd_42, z_vl_43, z_tka_44)) else (slet (u_48 - 1) (fun n_49 => (slet (sp_E_4_advance len z_pos_41 z_vl_43 ft fw) (fun (z_pos_51, z_kd_52, z_vl_53, z_tka_54) => (slet (sp_E_4_readHow z_fa_46 z_fat_47 len z_pos_51 z_kd_52 z_vl_53 z_tka_54 ft fw 1) (fun (u_62, z_fa_56, z_fat_57, z_pos_58, z_kd_59, z_vl_60, z_tka_61) => (if u_62 = 0 then (Sum.inr (0, g_16, g_17, g_18, g_19, g_20, g_21, z_fa_56, z_fat_57, z_pos_58, z_kd_59, z_vl_60, z_tka_61)) else (slet (u_62 - 1) (fun n_63 => (if z_kd_59 = 3 then (if (z_vl_60 : Int32) ≤ 20 then (slet (sp_E_0_addCondition g_16 g_17 g_18 g_19 g_20 g_21 a0 n_49 (nI n_63) z_vl_60 g_28) (fun (z_f13_67, z_f8_68, z_f9_69, z_f10_70, z_f11_71, z_f12_72) => (slet (sp_E_4_advance len z_pos_58 z_vl_60 ft fw) (fun (z_pos_74, z_kd_75, z_vl_76, z_tka_77) => (Sum.inl (z_f8_68, z_f9_69, z_f10_70, z_f11_71, z_f12_72, z_f13_67, z_fa_56, z_fat_57, z_pos_74, z_kd_75, z_vl_76, z_tka_77, (g_28 + 1))))))) else (Sum.inr (slet (sp_E_4_refuse z_tka_61 4) (fun (z_fa_79, z_fat_80) => (0, g_16, g_17, g_18, g_19, g_20, g_21, z_fa_79, z_fat_80, z_pos_58, z_kd_59, z_vl_60, z_tka_61))))) else (Sum.inr (slet (sp_E_4_refuseToken z_kd_59 z_tka_61) (fun (z_fa_82, z_fat_83) => (0, g_16, g_17, g_18, g_19, g_20, g_21, z_fa_82, z_fat_83, z_pos_58, z_kd_59, z_vl_60, z_tka_61)))))))))))))))))))) else (Sum.inr (1, g_16, g_17, g_18, g_19, g_20, g_21, g_22, g_23, g_24, g_25, g_26, g_27)))
noncomputable def sp_E_4_readsConditions_11 (fa : Int32) (fat : Int32) (len : Nat) (pos : Nat) (kd : Nat) (vl : Int32) (tka : Int32) (ft : Nat → Int32) (fw : Nat → Int32) (fcn : Nat → Int32) (nc : Nat) (q_f8 : Nat → Nat) (q_f9 : Nat → Nat) (f10 : Nat → Int32) (f11 : Nat → Int32) (f12 : Nat → Int32) (f13 : Nat → Int32) (a0 : Nat) : Nat × (Nat → Nat) × (Nat → Nat) × (Nat → Int32) × (Nat → Int32) × (Nat → Int32) × (Nat → Int32) × Int32 × Int32 × Nat × Nat × Int32 × Int32 := (itrv (α := (Nat → Nat) × (Nat → Nat) × (Nat → Int32) × (Nat → Int32) × (Nat → Int32) × (Nat → Int32) × Int32 × Int32 × Nat × Nat × Int32 × Int32 × Nat) (β := (Nat × (Nat → Nat) × (Nat → Nat) × (Nat → Int32) × (Nat → Int32) × (Nat → Int32) × (Nat → Int32) × Int32 × Int32 × Nat × Nat × Int32 × Int32)) default (sp_E_4_readsConditions_11_L1 len ft fw fcn nc a0) (q_f8, q_f9, f10, f11, f12, f13, fa, fat, pos, kd, vl, tka, 0))
set_option maxHeartbeats 4000000 in
set_option maxRecDepth 100000 in
theorem c_E_4_readsConditions_11 (l : Launch) (dC : Nat → ClassId) (dI : Nat → Nat → Nat) (sz : Nat) (rd : Nat) (fa : Int32) (fat : Int32) (tp : Nat) (len : Nat) (pos : Nat) (kd : Nat) (vl : Int32) (tka : Int32) (au : Nat) (rw : Nat) (rc : Nat) (rp : Nat) (k_ft : ClassId) (ft : Nat → Int32) (k_fw : ClassId) (fw : Nat → Int32) (k_fcn : ClassId) (fcn : Nat → Int32) (k_fpn : ClassId) (fpn : Nat → Int32) (nc : Nat) (np : Nat) (ne : Nat) (st0 : Int32) (q4 : Nat) (q5 : Nat) (q6 : Nat) (q7 : Nat) (q8 : Nat) (q9 : Nat) (q10 : Nat) (q11 : Nat) (q12 : Nat) (q13 : Nat) (q14 : Nat) (q15 : Nat) (q16 : Nat) (k_f4 : ClassId) (f4 : Nat → Int32) (k_f5 : ClassId) (q_f5 : Nat → Nat) (k_f6 : ClassId) (q_f6 : Nat → Nat) (k_f7 : ClassId) (f7 : Nat → Int32) (k_f8 : ClassId) (q_f8 : Nat → Nat) (k_f9 : ClassId) (q_f9 : Nat → Nat) (k_f10 : ClassId) (f10 : Nat → Int32) (k_f11 : ClassId) (f11 : Nat → Int32) (k_f12 : ClassId) (f12 : Nat → Int32) (k_f13 : ClassId) (f13 : Nat → Int32) (k_f14 : ClassId) (f14 : Nat → Int32) (k_f15 : ClassId) (f15 : Nat → Int32) (k_f16 : ClassId) (f16 : Nat → Int32) (a0 : Nat) (hlen : len ≤ 900) (hpos : pos ≤ 900) (hkd : kd ≤ 15) (hnc : nc ≤ 3) (hnp : np ≤ 8) (hne : ne ≤ 14) (hst0 : pm1 7 st0) (ha0 : a0 ≤ 21) (hq0 : bN 4 q_f8 (nI a0).toNatClampNeg = nI 0) : Met l yX4_readsConditions vs_E_4_readsConditions_11 ({ frames := 3, cells := 0, slots := 0, locals := 64 }) (va_Pc [.ref rd, .int (nI a0), .int 11, .int 3] (pu_B (dC, dI) (ra__w rd fa fat tp (nI len) (nI pos) (nI kd) vl tka au rw rc rp k_ft ft k_fw fw k_fcn fcn k_fpn fpn (nI nc) (nI np) (nI ne) st0 q4 q5 q6 q7 q8 q9 q10 q11 q12 q13 q14 q15 q16 k_f4 f4 k_f5 (bN 7 q_f5) k_f6 (bN 7 q_f6) k_f7 f7 k_f8 (bN 4 q_f8) k_f9 (bN 2 q_f9) k_f10 f10 k_f11 f11 k_f12 f12 k_f13 f13 k_f14 f14 k_f15 f15 k_f16 f16) (ra__t k_ft k_fw k_fcn k_fpn k_f4 k_f5 k_f6 k_f7 k_f8 k_f9 k_f10 k_f11 k_f12 k_f13 k_f14 k_f15 k_f16) sz)) (va_Qi (fun (r : Int32) (_ : Unit) => ∃ v : Nat, v ≤ 1 ∧ r = nI v ∧ v = (sp_E_4_readsConditions_11 fa fat len pos kd vl tka ft fw fcn nc q_f8 q_f9 f10 f11 f12 f13 a0).1) (fun _ t => ∃ (z_f8 : Nat → Nat) (z_f9 : Nat → Nat) (z_f10 : Nat → Int32) (z_f11 : Nat → Int32) (z_f12 : Nat → Int32) (z_f13 : Nat → Int32) (z_fa : Int32) (z_fat : Int32) (z_pos : Nat) (z_kd : Nat) (z_vl : Int32) (z_tka : Int32), pu_E (dC, dI) (ra__w rd z_fa z_fat tp (nI len) (nI z_pos) (nI z_kd) z_vl z_tka au rw rc rp k_ft ft k_fw fw k_fcn fcn k_fpn fpn (nI nc) (nI np) (nI ne) st0 q4 q5 q6 q7 q8 q9 q10 q11 q12 q13 q14 q15 q16 k_f4 f4 k_f5 (bN 7 q_f5) k_f6 (bN 7 q_f6) k_f7 f7 k_f8 (bN 4 z_f8) k_f9 (bN 2 z_f9) k_f10 z_f10 k_f11 z_f11 k_f12 z_f12 k_f13 z_f13 k_f14 f14 k_f15 f15 k_f16 f16) (ra__t k_ft k_fw k_fcn k_fpn k_f4 k_f5 k_f6 k_f7 k_f8 k_f9 k_f10 k_f11 k_f12 k_f13 k_f14 k_f15 k_f16) (va_A ((ra__w rd fa fat tp (nI len) (nI pos) (nI kd) vl tka au rw rc rp k_ft ft k_fw fw k_fcn fcn k_fpn fpn (nI nc) (nI np) (nI ne) st0 q4 q5 q6 q7 q8 q9 q10 q11 q12 q13 q14 q15 q16 k_f4 f4 k_f5 (bN 7 q_f5) k_f6 (bN 7 q_f6) k_f7 f7 k_f8 (bN 4 q_f8) k_f9 (bN 2 q_f9) k_f10 f10 k_f11 f11 k_f12 f12 k_f13 f13 k_f14 f14 k_f15 f15 k_f16 f16)) sz) t ∧ (z_pos ≤ 900) ∧ (z_kd ≤ 15) ∧ (co a0 q_f8 z_f8) ∧ ((z_f8, z_f9, z_f10, z_f11, z_f12, z_f13, z_fa, z_fat, z_pos, z_kd, z_vl, z_tka) = (sp_E_4_readsConditions_11 fa fat len pos kd vl tka ft fw fcn nc q_f8 q_f9 f10 f11 f12 f13 a0).2)) (va_A ((ra__w rd fa fat tp (nI len) (nI pos) (nI kd) vl tka au rw rc rp k_ft ft k_fw fw k_fcn fcn k_fpn fpn (nI nc) (nI np) (nI ne) st0 q4 q5 q6 q7 q8 q9 q10 q11 q12 q13 q14 q15 q16 k_f4 f4 k_f5 (bN 7 q_f5) k_f6 (bN 7 q_f6) k_f7 f7 k_f8 (bN 4 q_f8) k_f9 (bN 2 q_f9) k_f10 f10 k_f11 f11 k_f12 f12 k_f13 f13 k_f14 f14 k_f15 f15 k_f16 f16)) sz)) 0 0 (va_A ((ra__w rd fa fat tp (nI len) (nI pos) (nI kd) vl tka au rw rc rp k_ft ft k_fw fw k_fcn fcn k_fpn fpn (nI nc) (nI np) (nI ne) st0 q4 q5 q6 q7 q8 q9 q10 q11 q12 q13 q14 q15 q16 k_f4 f4 k_f5 (bN 7 q_f5) k_f6 (bN 7 q_f6) k_f7 f7 k_f8 (bN 4 q_f8) k_f9 (bN 2 q_f9) k_f10 f10 k_f11 f11 k_f12 f12 k_f13 f13 k_f14 f14 k_f15 f15 k_f16 f16)) sz) := by
  refine Met.ofW (cc := cX4_readsConditions) (maxL := 7) (ret := (some .boolean)) (by decide) rfl ?_
  intro p e s m args below meth c s₁ B hml hv
  obtain ⟨rfl, rfl, hP, hK, hD0⟩ := hv
  have hx := B.exec
  have hb := B.bytes
  have hr := B.returns
  have hts := atoms_spec (ws := vs_E_4_readsConditions_11) B.pre
  have v_1 := hts (.fieldLink RX4 78 "ClockReach$Reader" "kind" "I") (List.mem_cons_of_mem _ cm_222)
  have v_7 := hts (.fieldLink RX4 39 "ClockReach$Reader" "clockNames" "[I") (List.mem_cons_of_mem _ cm_254)
  have v_8 := hts (.fieldLink RX4 66 "ClockReach$Reader" "into" "LClockReach$Automaton;") (List.mem_cons_of_mem _ cm_221)
  have v_9 := hts (.fieldLink RX4 121 "ClockReach$Automaton" "clocks" "I") (List.mem_cons_of_mem _ cm_253)
  have v_18 := hts (.fieldLink RX4 127 "ClockReach$Reader" "value" "I") (List.mem_cons_of_mem _ cm_239)
  have hown : s.vm.findClass RX4 = some m.cls := findClass_of_methodNamed B.named
  have hlocks := B.notSynchronized
  have hiX0 : ∀ w ∈ wsX00, w ∈ vs_E_4_readsConditions_11 := fun _ h => List.mem_cons_of_mem _ (cm_X0 h)
  have hiX4 : ∀ w ∈ wsX40, w ∈ vs_E_4_readsConditions_11 := fun _ h => List.mem_cons_of_mem _ (cm_X4 h)
  have hD := hD0.self (sz := s.heap.size)
  generalize hAe : va_A ((ra__w rd fa fat tp (nI len) (nI pos) (nI kd) vl tka au rw rc rp k_ft ft k_fw fw k_fcn fcn k_fpn fpn (nI nc) (nI np) (nI ne) st0 q4 q5 q6 q7 q8 q9 q10 q11 q12 q13 q14 q15 q16 k_f4 f4 k_f5 (bN 7 q_f5) k_f6 (bN 7 q_f6) k_f7 f7 k_f8 (bN 4 q_f8) k_f9 (bN 2 q_f9) k_f10 f10 k_f11 f11 k_f12 f12 k_f13 f13 k_f14 f14 k_f15 f15 k_f16 f16)) s.heap.size = A at hD ⊢
  have hA : ∀ q : Nat, s.heap.size ≤ q → A q := fun q h => by rw [← hAe]; exact Or.inr h
  have hS : va_S A s.heap s.heap [] := va_S.rf
  have hl := lv_entry ([.ref rd, .int (nI a0), .int 11, .int 3]) (n := 7) (Nat.le_of_ble_eq_true rfl)
  rw [lg_entry_eq]
  generalize (lg_sl ([.ref rd, .int (nI a0), .int 11, .int 3]) ++ List.replicate (7 - (lg_sl ([.ref rd, .int (nI a0), .int 11, .int 3])).length) Slot.unset).toArray = ls at hl ⊢
  have hl : lv_has ls 7 [(0, .ref rd), (1, .int (nI a0)), (2, .int 11), (3, .int 3)] := hl
  obtain ⟨RR, hRR⟩ : ∃ x, x = (sp_E_4_readsConditions_11 fa fat len pos kd vl tka ft fw fcn nc q_f8 q_f9 f10 f11 f12 f13 a0) := ⟨_, rfl⟩
  have hsp := hRR
  refine lv_iconst (v := 0) hx hb eX4_readsConditions_0 (by decide) ?_
  refine lv_istore (lv' := [(4, .int 0), (0, .ref rd), (1, .int (nI a0)), (2, .int 11), (3, .int 3)]) hx hb eX4_readsConditions_1 hl (by decide) rfl (fun ls hl => ?_)
  obtain ⟨lf_32, dlf_32, hlf_32, hsp⟩ := itr_ex hsp
  delta sp_E_4_readsConditions_11_L1 at hlf_32
  refine pu_while (fun nn H locs ls => ∃ (g_16 : Nat → Nat) (g_17 : Nat → Nat) (g_18 : Nat → Int32) (g_19 : Nat → Int32) (g_20 : Nat → Int32) (g_21 : Nat → Int32) (g_22 : Int32) (g_23 : Int32) (g_24 : Nat) (g_25 : Nat) (g_26 : Int32) (g_27 : Int32) (g_28 : Nat), nn = 3 - g_28 ∧ g_24 ≤ 900 ∧ g_25 ≤ 15 ∧ g_28 ≤ 3 ∧ bN 4 g_16 (nI a0).toNatClampNeg = nI g_28 ∧ co a0 q_f8 g_16 ∧ RR = itrv dlf_32 lf_32 (g_16, g_17, g_18, g_19, g_20, g_21, g_22, g_23, g_24, g_25, g_26, g_27, g_28) ∧ va_P (dC, dI) vwCl (ra__w rd g_22 g_23 tp (nI len) (nI g_24) (nI g_25) g_26 g_27 au rw rc rp k_ft ft k_fw fw k_fcn fcn k_fpn fpn (nI nc) (nI np) (nI ne) st0 q4 q5 q6 q7 q8 q9 q10 q11 q12 q13 q14 q15 q16 k_f4 f4 k_f5 (bN 7 q_f5) k_f6 (bN 7 q_f6) k_f7 f7 k_f8 (bN 4 g_16) k_f9 (bN 2 g_17) k_f10 g_18 k_f11 g_19 k_f12 g_20 k_f13 g_21 k_f14 f14 k_f15 f15 k_f16 f16) H ∧ va_D A (ra__w rd g_22 g_23 tp (nI len) (nI g_24) (nI g_25) g_26 g_27 au rw rc rp k_ft ft k_fw fw k_fcn fcn k_fpn fpn (nI nc) (nI np) (nI ne) st0 q4 q5 q6 q7 q8 q9 q10 q11 q12 q13 q14 q15 q16 k_f4 f4 k_f5 (bN 7 q_f5) k_f6 (bN 7 q_f6) k_f7 f7 k_f8 (bN 4 g_16) k_f9 (bN 2 g_17) k_f10 g_18 k_f11 g_19 k_f12 g_20 k_f13 g_21 k_f14 f14 k_f15 f15 k_f16 f16) ∧ va_S A s.heap H locs ∧ lv_has ls 7 [(0, .ref rd), (1, .int (nI a0)), (2, .int 11), (3, .int 3), (4, .int (nI g_28))]) 3 ?_ _ _ _ _ ⟨q_f8, q_f9, f10, f11, f12, f13, fa, fat, pos, kd, vl, tka, 0, rfl, hpos, hkd, (Nat.le_of_ble_eq_true rfl), by assumption, by first | assumption | exact co_refl | exact co_trans (by assumption) (by assumption), hsp, hP, hD, hS, lv_sub hl [1, 2, 3, 4, 0] rfl⟩
  rintro nn ih_31 H locs ls ⟨g_16, g_17, g_18, g_19, g_20, g_21, g_22, g_23, g_24, g_25, g_26, g_27, g_28, rfl, hg_24, hg_25, hg_28, he_29, he_30, he_34, hP, hD, hS, hl⟩
  obtain ⟨S_33, hsp, hin_35, hout_36⟩ := itr_step hlf_32 he_34
  refine lv_iload hx hb eX4_readsConditions_3 (lv_at hl 4 rfl) ?_
  refine lv_iload_n hx hb eX4_readsConditions_5 rfl (lv_at hl 3 rfl) ?_
  refine lv_icmp_gt (tgt := 141) hx hb eX4_readsConditions_6 (by decide) (fun c_37 => ?_) (fun c_37 => ?_)
  · have c_37 : 3 < g_28 := (nI_ltI (a := 3) (b := g_28) (Nat.le_of_ble_eq_true rfl) (Nat.lt_of_le_of_lt hg_28 (Nat.le_of_ble_eq_true rfl))).mp c_37
    exfalso
    omega
  · have c_37 : ¬ 3 < g_28 := fun z => c_37 ((nI_ltI (a := 3) (b := g_28) (Nat.le_of_ble_eq_true rfl) (Nat.lt_of_le_of_lt hg_28 (Nat.le_of_ble_eq_true rfl))).mpr z)
    refine lv_aload_n hx hb eX4_readsConditions_9 rfl (lv_at hl 0 rfl) ?_
    refine va_get (D := (dC, dI)) (ci := 4) (v := .int (nI g_25)) (C := RX4) (T := TX4) (N := 12) hx hb hts hiX4 hown hK hP 0 rfl rfl 5 (by decide) v_1 (fun _ h9 => h9) rfl eX4_readsConditions_10 ?_
    refine lv_iload_n hx hb eX4_readsConditions_13 rfl (lv_at hl 2 rfl) ?_
    refine lv_icmp_ne (tgt := 141) hx hb eX4_readsConditions_14 (by decide) (fun c_38 => ?_) (fun c_38 => ?_)
    · have c_38 : ¬ g_25 = 11 := fun z => c_38 ((nI_eq (a := g_25) (b := 11) (Nat.lt_of_le_of_lt hg_25 (Nat.le_of_ble_eq_true rfl)) (Nat.le_of_ble_eq_true rfl)).mpr z)
      have hsp := hsp.trans (if_neg c_38)
      have hsp := hout_36 _ hsp
      refine lv_iconst (v := 1) hx hb eX4_readsConditions_141 (by decide) ?_
      exact W.zret (v := 1) (ty := .boolean) hx hb hr (rfl) (fun t ht hW => ⟨⟨1, (), rfl, ⟨1, (Nat.le_of_ble_eq_true rfl), rfl, (congrArg Prod.fst (hsp.symm.trans hRR))⟩, ⟨g_16, g_17, g_18, g_19, g_20, g_21, g_22, g_23, g_24, g_25, g_26, g_27, ⟨by rw [ht]; exact hP, va_K.moved hW.alike hK, hD⟩, hg_24, hg_25, by first | assumption | exact co_refl | exact co_trans (by assumption) (by assumption), (congrArg Prod.snd (hsp.symm.trans hRR))⟩⟩, hS.F ht⟩) hS.2.2 eX4_readsConditions_142
    · have c_38 : g_25 = 11 := (nI_eq (a := g_25) (b := 11) (Nat.lt_of_le_of_lt hg_25 (Nat.le_of_ble_eq_true rfl)) (Nat.le_of_ble_eq_true rfl)).mp c_38
      have hsp := hsp.trans (if_pos c_38)
      refine lv_iload hx hb eX4_readsConditions_17 (lv_at hl 4 rfl) ?_
      refine lv_iload_n hx hb eX4_readsConditions_19 rfl (lv_at hl 3 rfl) ?_
      refine lv_icmp_ne (tgt := 29) hx hb eX4_readsConditions_20 (by decide) (fun c_39 => ?_) (fun c_39 => ?_)
      · have c_39 : ¬ g_28 = 3 := fun z => c_39 ((nI_eq (a := g_28) (b := 3) (Nat.lt_of_le_of_lt hg_28 (Nat.le_of_ble_eq_true rfl)) (Nat.le_of_ble_eq_true rfl)).mpr z)
        have hsp := hsp.trans (if_neg c_39)
        refine lv_aload_n hx hb eX4_readsConditions_29 rfl (lv_at hl 0 rfl) ?_
        have hPc : va_P (dC, dI) vwCl (rd__w rd g_22 g_23 tp (nI len) (nI g_24) (nI g_25) g_26 g_27 au rw rc rp k_ft ft k_fw fw k_fcn fcn k_fpn fpn) _ := hP.sub [0, 1, 2, 3, 4] rfl
        have hDc := hD.sub (ws' := (rd__w rd g_22 g_23 tp (nI len) (nI g_24) (nI g_25) g_26 g_27 au rw rc rp k_ft ft k_fw fw k_fcn fcn k_fpn fpn)) [0, 1, 2, 3, 4] (by decide) rfl
        have hKc : va_K (dC, dI) vwCl (rd__t k_ft k_fw k_fcn k_fpn) s := hK.sub [0, 1, 2, 3] rfl
        have hFc := pu_free hDc hS hA
        refine va_callv (va_runV (As := []) (rest := []) ⟨hx, hb, hml, hown, hts⟩ (c_E_4_advance l dC dI _ rd g_22 g_23 tp len g_24 g_25 g_26 g_27 au rw rc rp k_ft ft k_fw fw k_fcn fcn k_fpn fpn hlen hg_24 hg_25) (cwV 0 hts g_E_4_readsConditions_11_E_4_advance rfl rfl rfl (by decide +kernel) ⟨Nat.le_of_ble_eq_true rfl, Nat.le_of_ble_eq_true rfl⟩) ⟨pu_bl, va_recv hK hP (ci := 4) (q0 := 0) rfl rfl, pu_in hPc hKc hDc⟩ rfl rfl hl.1 rfl (lv_room (Nat.le_of_ble_eq_true rfl)) eX4_readsConditions_30 ⟨Nat.le_of_ble_eq_true rfl, Nat.le_of_ble_eq_true rfl⟩) hS (fun q _ h => hFc q h) hFc (fun u t H1 locs ht hvm hw hB hz1 hk1 hS => ?_)
        obtain ⟨z_pos_41, z_kd_42, z_vl_43, z_tka_44, ⟨hP1, -, hD1⟩, hz_pos_41, hz_kd_42, xr_40_0⟩ := hB
        rw [ht] at hP1
        obtain ⟨hP, hD⟩ := pj_a (X := (ra__w rd g_22 g_23 tp (nI len) (nI g_24) (nI g_25) g_26 g_27 au rw rc rp k_ft ft k_fw fw k_fcn fcn k_fpn fpn (nI nc) (nI np) (nI ne) st0 q4 q5 q6 q7 q8 q9 q10 q11 q12 q13 q14 q15 q16 k_f4 f4 k_f5 (bN 7 q_f5) k_f6 (bN 7 q_f6) k_f7 f7 k_f8 (bN 4 g_16) k_f9 (bN 2 g_17) k_f10 g_18 k_f11 g_19 k_f12 g_20 k_f13 g_21 k_f14 f14 k_f15 f15 k_f16 f16)) (X' := (ra__w rd g_22 g_23 tp (nI len) (nI z_pos_41) (nI z_kd_42) z_vl_43 z_tka_44 au rw rc rp k_ft ft k_fw fw k_fcn fcn k_fpn fpn (nI nc) (nI np) (nI ne) st0 q4 q5 q6 q7 q8 q9 q10 q11 q12 q13 q14 q15 q16 k_f4 f4 k_f5 (bN 7 q_f5) k_f6 (bN 7 q_f6) k_f7 f7 k_f8 (bN 4 g_16) k_f9 (bN 2 g_17) k_f10 g_18 k_f11 g_19 k_f12 g_20 k_f13 g_21 k_f14 f14 k_f15 f15 k_f16 f16)) (wc := (rd__w rd g_22 g_23 tp (nI len) (nI g_24) (nI g_25) g_26 g_27 au rw rc rp k_ft ft k_fw fw k_fcn fcn k_fpn fpn)) (w1 := (rd__w rd g_22 g_23 tp (nI len) (nI z_pos_41) (nI z_kd_42) z_vl_43 z_tka_44 au rw rc rp k_ft ft k_fw fw k_fcn fcn k_fpn fpn)) hP hD [0, 1, 2, 3, 4] [0, 1, 2, 3, 4, 10, 11, 12, 13, 14, 15, 16, 17, 18, 19, 20, 21, 22, 23] 5 rfl hk1 hP1 rfl rfl rfl (by decide)
        clear hP1 hD1 hFc hPc hDc hKc
        clear hk1 hz1 ht hvm
        generalize H1 = H at hP hS ⊢
        have hsp := hsp.trans (slet_eq xr_40_0)
        refine lv_aload_n hx hb eX4_readsConditions_33 rfl (lv_at hl 0 rfl) ?_
        refine lv_aload_n hx hb eX4_readsConditions_34 rfl (lv_at hl 0 rfl) ?_
        refine va_get (D := (dC, dI)) (ci := 4) (v := .ref rc) (C := RX4) (T := TX4) (N := 12) hx hb hts hiX4 hown hK hP 0 rfl rfl 10 (by decide) v_7 (fun _ h9 => h9) rfl eX4_readsConditions_35 ?_
        refine lv_aload_n hx hb eX4_readsConditions_38 rfl (lv_at hl 0 rfl) ?_
        refine va_get (D := (dC, dI)) (ci := 4) (v := .ref au) (C := RX4) (T := TX4) (N := 12) hx hb hts hiX4 hown hK hP 0 rfl rfl 8 (by decide) v_8 (fun _ h9 => h9) rfl eX4_readsConditions_39 ?_
        refine va_get (D := (dC, dI)) (ci := 0) (v := .int (nI nc)) (C := RX0) (T := TX0) (N := 17) hx hb hts hiX0 hown hK hP 5 rfl rfl 0 (by decide) v_9 (fun _ h9 => h9) rfl eX4_readsConditions_42 ?_
        have hPc : va_P (dC, dI) vwCl (rd__w rd g_22 g_23 tp (nI len) (nI z_pos_41) (nI z_kd_42) z_vl_43 z_tka_44 au rw rc rp k_ft ft k_fw fw k_fcn fcn k_fpn fpn) _ := hP.sub [0, 1, 2, 3, 4] rfl
        have hDc := hD.sub (ws' := (rd__w rd g_22 g_23 tp (nI len) (nI z_pos_41) (nI z_kd_42) z_vl_43 z_tka_44 au rw rc rp k_ft ft k_fw fw k_fcn fcn k_fpn fpn)) [0, 1, 2, 3, 4] (by decide) rfl
        have hKc : va_K (dC, dI) vwCl (rd__t k_ft k_fw k_fcn k_fpn) s := hK.sub [0, 1, 2, 3] rfl
        have hFc := pu_free hDc hS hA
        refine va_calli (va_runV (As := [.ref rc, .int (nI nc)]) (rest := []) ⟨hx, hb, hml, hown, hts⟩ (c_E_4_toldName_c l dC dI _ rd g_22 g_23 tp len z_pos_41 z_kd_42 z_vl_43 z_tka_44 au rw rc rp k_ft ft k_fw fw k_fcn fcn k_fpn fpn nc hlen hz_pos_41 hz_kd_42 hnc) (cwV 2 hts g_E_4_readsConditions_11_E_4_toldName_c rfl rfl rfl (by decide +kernel) ⟨Nat.le_of_ble_eq_true rfl, Nat.le_of_ble_eq_true rfl⟩) ⟨pu_bl, va_recv hK hP (ci := 4) (q0 := 0) rfl rfl, pu_in hPc hKc hDc⟩ rfl rfl hl.1 rfl (lv_room (Nat.le_of_ble_eq_true rfl)) eX4_readsConditions_45 ⟨Nat.le_of_ble_eq_true rfl, Nat.le_of_ble_eq_true rfl⟩) hS (fun q _ h => hFc q h) hFc (fun r_45 u t H1 locs ht hvm hw hB hz1 hk1 hS => ?_)
        obtain ⟨z_fa_46, z_fat_47, ⟨hP1, -, hD1⟩, xr_45_0⟩ := hB
        rw [ht] at hP1
        obtain ⟨hP, hD⟩ := pj_a (X := (ra__w rd g_22 g_23 tp (nI len) (nI z_pos_41) (nI z_kd_42) z_vl_43 z_tka_44 au rw rc rp k_ft ft k_fw fw k_fcn fcn k_fpn fpn (nI nc) (nI np) (nI ne) st0 q4 q5 q6 q7 q8 q9 q10 q11 q12 q13 q14 q15 q16 k_f4 f4 k_f5 (bN 7 q_f5) k_f6 (bN 7 q_f6) k_f7 f7 k_f8 (bN 4 g_16) k_f9 (bN 2 g_17) k_f10 g_18 k_f11 g_19 k_f12 g_20 k_f13 g_21 k_f14 f14 k_f15 f15 k_f16 f16)) (X' := (ra__w rd z_fa_46 z_fat_47 tp (nI len) (nI z_pos_41) (nI z_kd_42) z_vl_43 z_tka_44 au rw rc rp k_ft ft k_fw fw k_fcn fcn k_fpn fpn (nI nc) (nI np) (nI ne) st0 q4 q5 q6 q7 q8 q9 q10 q11 q12 q13 q14 q15 q16 k_f4 f4 k_f5 (bN 7 q_f5) k_f6 (bN 7 q_f6) k_f7 f7 k_f8 (bN 4 g_16) k_f9 (bN 2 g_17) k_f10 g_18 k_f11 g_19 k_f12 g_20 k_f13 g_21 k_f14 f14 k_f15 f15 k_f16 f16)) (wc := (rd__w rd g_22 g_23 tp (nI len) (nI z_pos_41) (nI z_kd_42) z_vl_43 z_tka_44 au rw rc rp k_ft ft k_fw fw k_fcn fcn k_fpn fpn)) (w1 := (rd__w rd z_fa_46 z_fat_47 tp (nI len) (nI z_pos_41) (nI z_kd_42) z_vl_43 z_tka_44 au rw rc rp k_ft ft k_fw fw k_fcn fcn k_fpn fpn)) hP hD [0, 1, 2, 3, 4] [0, 1, 2, 3, 4, 10, 11, 12, 13, 14, 15, 16, 17, 18, 19, 20, 21, 22, 23] 5 rfl hk1 hP1 rfl rfl rfl (by decide)
        clear hP1 hD1 hFc hPc hDc hKc
        clear hk1 hz1 ht hvm
        generalize H1 = H at hP hS ⊢
        obtain ⟨u_48, hu_48, mu_48, iu_48⟩ := hw
        have iu_48 : (u_48, z_fa_46, z_fat_47) = (sp_E_4_toldName_c g_22 g_23 z_kd_42 z_vl_43 z_tka_44 fcn nc) := Prod.ext iu_48 xr_45_0
        have hsp := hsp.trans (slet_eq iu_48)
        rcases mI_get u_48 with ⟨zn_49, wn_49⟩ | ⟨n_49, zn_49, wn_49⟩
        · obtain rfl : r_45 = -1 := mu_48.trans wn_49
          have hsp := hsp.trans (if_pos zn_49)
          refine lv_istore (lv' := [(5, .int (-1)), (0, .ref rd), (1, .int (nI a0)), (2, .int 11), (3, .int 3), (4, .int (nI g_28))]) hx hb eX4_readsConditions_48 hl (by decide) rfl (fun ls hl => ?_)
          refine lv_iload hx hb eX4_readsConditions_50 (lv_at hl 0 rfl) ?_
          refine lv_iconst (v := (-1)) hx hb eX4_readsConditions_52 (by decide) ?_
          refine lv_icmp_ne (tgt := 58) hx hb eX4_readsConditions_53 (by decide) (fun z => absurd z (by decide)) (fun _ => ?_)
          have hsp := hout_36 _ hsp
          refine lv_iconst (v := 0) hx hb eX4_readsConditions_56 (by decide) ?_
          exact W.zret (v := 0) (ty := .boolean) hx hb hr (rfl) (fun t ht hW => ⟨⟨0, (), rfl, ⟨0, (Nat.le_of_ble_eq_true rfl), rfl, (congrArg Prod.fst (hsp.symm.trans hRR))⟩, ⟨g_16, g_17, g_18, g_19, g_20, g_21, z_fa_46, z_fat_47, z_pos_41, z_kd_42, z_vl_43, z_tka_44, ⟨by rw [ht]; exact hP, va_K.moved hW.alike hK, hD⟩, hz_pos_41, hz_kd_42, by first | assumption | exact co_refl | exact co_trans (by assumption) (by assumption), (congrArg Prod.snd (hsp.symm.trans hRR))⟩⟩, hS.F ht⟩) hS.2.2 eX4_readsConditions_57
        · obtain rfl : r_45 = nI n_49 := mu_48.trans wn_49
          have hn_49 : n_49 ≤ 2 := by omega
          have hsp := hsp.trans (if_neg (by omega))
          have hsp := hsp.trans (slet_eq (by omega : n_49 = u_48 - 1))
          refine lv_istore (lv' := [(5, .int (nI n_49)), (0, .ref rd), (1, .int (nI a0)), (2, .int 11), (3, .int 3), (4, .int (nI g_28))]) hx hb eX4_readsConditions_48 hl (by decide) rfl (fun ls hl => ?_)
          refine lv_iload hx hb eX4_readsConditions_50 (lv_at hl 0 rfl) ?_
          refine lv_iconst (v := (-1)) hx hb eX4_readsConditions_52 (by decide) ?_
          refine lv_icmp_ne (tgt := 58) hx hb eX4_readsConditions_53 (by decide) (fun _ => ?_) (fun z => absurd z (pu_nneg (n := n_49) (by omega) (by decide)))
          refine lv_aload_n hx hb eX4_readsConditions_58 rfl (lv_at hl 1 rfl) ?_
          have hPc : va_P (dC, dI) vwCl (rd__w rd z_fa_46 z_fat_47 tp (nI len) (nI z_pos_41) (nI z_kd_42) z_vl_43 z_tka_44 au rw rc rp k_ft ft k_fw fw k_fcn fcn k_fpn fpn) _ := hP.sub [0, 1, 2, 3, 4] rfl
          have hDc := hD.sub (ws' := (rd__w rd z_fa_46 z_fat_47 tp (nI len) (nI z_pos_41) (nI z_kd_42) z_vl_43 z_tka_44 au rw rc rp k_ft ft k_fw fw k_fcn fcn k_fpn fpn)) [0, 1, 2, 3, 4] (by decide) rfl
          have hKc : va_K (dC, dI) vwCl (rd__t k_ft k_fw k_fcn k_fpn) s := hK.sub [0, 1, 2, 3] rfl
          have hFc := pu_free hDc hS hA
          refine va_callv (va_runV (As := []) (rest := []) ⟨hx, hb, hml, hown, hts⟩ (c_E_4_advance l dC dI _ rd z_fa_46 z_fat_47 tp len z_pos_41 z_kd_42 z_vl_43 z_tka_44 au rw rc rp k_ft ft k_fw fw k_fcn fcn k_fpn fpn hlen hz_pos_41 hz_kd_42) (cwV 0 hts g_E_4_readsConditions_11_E_4_advance rfl rfl rfl (by decide +kernel) ⟨Nat.le_of_ble_eq_true rfl, Nat.le_of_ble_eq_true rfl⟩) ⟨pu_bl, va_recv hK hP (ci := 4) (q0 := 0) rfl rfl, pu_in hPc hKc hDc⟩ rfl rfl hl.1 rfl (lv_room (Nat.le_of_ble_eq_true rfl)) eX4_readsConditions_59 ⟨Nat.le_of_ble_eq_true rfl, Nat.le_of_ble_eq_true rfl⟩) hS (fun q _ h => hFc q h) hFc (fun u t H1 locs ht hvm hw hB hz1 hk1 hS => ?_)
          obtain ⟨z_pos_51, z_kd_52, z_vl_53, z_tka_54, ⟨hP1, -, hD1⟩, hz_pos_51, hz_kd_52, xr_50_0⟩ := hB
          rw [ht] at hP1
          obtain ⟨hP, hD⟩ := pj_a (X := (ra__w rd z_fa_46 z_fat_47 tp (nI len) (nI z_pos_41) (nI z_kd_42) z_vl_43 z_tka_44 au rw rc rp k_ft ft k_fw fw k_fcn fcn k_fpn fpn (nI nc) (nI np) (nI ne) st0 q4 q5 q6 q7 q8 q9 q10 q11 q12 q13 q14 q15 q16 k_f4 f4 k_f5 (bN 7 q_f5) k_f6 (bN 7 q_f6) k_f7 f7 k_f8 (bN 4 g_16) k_f9 (bN 2 g_17) k_f10 g_18 k_f11 g_19 k_f12 g_20 k_f13 g_21 k_f14 f14 k_f15 f15 k_f16 f16)) (X' := (ra__w rd z_fa_46 z_fat_47 tp (nI len) (nI z_pos_51) (nI z_kd_52) z_vl_53 z_tka_54 au rw rc rp k_ft ft k_fw fw k_fcn fcn k_fpn fpn (nI nc) (nI np) (nI ne) st0 q4 q5 q6 q7 q8 q9 q10 q11 q12 q13 q14 q15 q16 k_f4 f4 k_f5 (bN 7 q_f5) k_f6 (bN 7 q_f6) k_f7 f7 k_f8 (bN 4 g_16) k_f9 (bN 2 g_17) k_f10 g_18 k_f11 g_19 k_f12 g_20 k_f13 g_21 k_f14 f14 k_f15 f15 k_f16 f16)) (wc := (rd__w rd z_fa_46 z_fat_47 tp (nI len) (nI z_pos_41) (nI z_kd_42) z_vl_43 z_tka_44 au rw rc rp k_ft ft k_fw fw k_fcn fcn k_fpn fpn)) (w1 := (rd__w rd z_fa_46 z_fat_47 tp (nI len) (nI z_pos_51) (nI z_kd_52) z_vl_53 z_tka_54 au rw rc rp k_ft ft k_fw fw k_fcn fcn k_fpn fpn)) hP hD [0, 1, 2, 3, 4] [0, 1, 2, 3, 4, 10, 11, 12, 13, 14, 15, 16, 17, 18, 19, 20, 21, 22, 23] 5 rfl hk1 hP1 rfl rfl rfl (by decide)
          clear hP1 hD1 hFc hPc hDc hKc
          clear hk1 hz1 ht hvm
          generalize H1 = H at hP hS ⊢
          have hsp := hsp.trans (slet_eq xr_50_0)
          refine lv_aload_n hx hb eX4_readsConditions_62 rfl (lv_at hl 1 rfl) ?_
          refine lv_iload_n hx hb eX4_readsConditions_63 rfl (lv_at hl 3 rfl) ?_
          refine lv_bipush (v := 11) hx hb eX4_readsConditions_64 (by decide) ?_
          refine lv_icmp_ne (tgt := 73) hx hb eX4_readsConditions_66 (by decide) (fun z => absurd z (by decide)) (fun _ => ?_)
          refine lv_iconst (v := 1) hx hb eX4_readsConditions_69 (by decide) ?_
          refine lv_goto (tgt := 74) hx hb eX4_readsConditions_70 (by decide) ?_
          have hPc : va_P (dC, dI) vwCl (rd__w rd z_fa_46 z_fat_47 tp (nI len) (nI z_pos_51) (nI z_kd_52) z_vl_53 z_tka_54 au rw rc rp k_ft ft k_fw fw k_fcn fcn k_fpn fpn) _ := hP.sub [0, 1, 2, 3, 4] rfl
          have hDc := hD.sub (ws' := (rd__w rd z_fa_46 z_fat_47 tp (nI len) (nI z_pos_51) (nI z_kd_52) z_vl_53 z_tka_54 au rw rc rp k_ft ft k_fw fw k_fcn fcn k_fpn fpn)) [0, 1, 2, 3, 4] (by decide) rfl
          have hKc : va_K (dC, dI) vwCl (rd__t k_ft k_fw k_fcn k_fpn) s := hK.sub [0, 1, 2, 3] rfl
          have hFc := pu_free hDc hS hA
          refine va_calli (va_runV (As := [.int 1]) (rest := []) ⟨hx, hb, hml, hown, hts⟩ (c_E_4_readHow l dC dI _ rd z_fa_46 z_fat_47 tp len z_pos_51 z_kd_52 z_vl_53 z_tka_54 au rw rc rp k_ft ft k_fw fw k_fcn fcn k_fpn fpn 1 hlen hz_pos_51 hz_kd_52 (Nat.le_of_ble_eq_true rfl)) (cwV 1 hts g_E_4_readsConditions_11_E_4_readHow rfl rfl rfl (by decide +kernel) ⟨Nat.le_of_ble_eq_true rfl, Nat.le_of_ble_eq_true rfl⟩) ⟨pu_bl, va_recv hK hP (ci := 4) (q0 := 0) rfl rfl, pu_in hPc hKc hDc⟩ rfl rfl hl.1 rfl (lv_room (Nat.le_of_ble_eq_true rfl)) eX4_readsConditions_74 ⟨Nat.le_of_ble_eq_true rfl, Nat.le_of_ble_eq_true rfl⟩) hS (fun q _ h => hFc q h) hFc (fun r_55 u t H1 locs ht hvm hw hB hz1 hk1 hS => ?_)
          obtain ⟨z_fa_56, z_fat_57, z_pos_58, z_kd_59, z_vl_60, z_tka_61, ⟨hP1, -, hD1⟩, hz_pos_58, hz_kd_59, xr_55_0⟩ := hB
          rw [ht] at hP1
          obtain ⟨hP, hD⟩ := pj_a (X := (ra__w rd z_fa_46 z_fat_47 tp (nI len) (nI z_pos_51) (nI z_kd_52) z_vl_53 z_tka_54 au rw rc rp k_ft ft k_fw fw k_fcn fcn k_fpn fpn (nI nc) (nI np) (nI ne) st0 q4 q5 q6 q7 q8 q9 q10 q11 q12 q13 q14 q15 q16 k_f4 f4 k_f5 (bN 7 q_f5) k_f6 (bN 7 q_f6) k_f7 f7 k_f8 (bN 4 g_16) k_f9 (bN 2 g_17) k_f10 g_18 k_f11 g_19 k_f12 g_20 k_f13 g_21 k_f14 f14 k_f15 f15 k_f16 f16)) (X' := (ra__w rd z_fa_56 z_fat_57 tp (nI len) (nI z_pos_58) (nI z_kd_59) z_vl_60 z_tka_61 au rw rc rp k_ft ft k_fw fw k_fcn fcn k_fpn fpn (nI nc) (nI np) (nI ne) st0 q4 q5 q6 q7 q8 q9 q10 q11 q12 q13 q14 q15 q16 k_f4 f4 k_f5 (bN 7 q_f5) k_f6 (bN 7 q_f6) k_f7 f7 k_f8 (bN 4 g_16) k_f9 (bN 2 g_17) k_f10 g_18 k_f11 g_19 k_f12 g_20 k_f13 g_21 k_f14 f14 k_f15 f15 k_f16 f16)) (wc := (rd__w rd z_fa_46 z_fat_47 tp (nI len) (nI z_pos_51) (nI z_kd_52) z_vl_53 z_tka_54 au rw rc rp k_ft ft k_fw fw k_fcn fcn k_fpn fpn)) (w1 := (rd__w rd z_fa_56 z_fat_57 tp (nI len) (nI z_pos_58) (nI z_kd_59) z_vl_60 z_tka_61 au rw rc rp k_ft ft k_fw fw k_fcn fcn k_fpn fpn)) hP hD [0, 1, 2, 3, 4] [0, 1, 2, 3, 4, 10, 11, 12, 13, 14, 15, 16, 17, 18, 19, 20, 21, 22, 23] 5 rfl hk1 hP1 rfl rfl rfl (by decide)
          clear hP1 hD1 hFc hPc hDc hKc
          clear hk1 hz1 ht hvm
          generalize H1 = H at hP hS ⊢
          obtain ⟨u_62, hu_62, mu_62, iu_62⟩ := hw
          have iu_62 : (u_62, z_fa_56, z_fat_57, z_pos_58, z_kd_59, z_vl_60, z_tka_61) = (sp_E_4_readHow z_fa_46 z_fat_47 len z_pos_51 z_kd_52 z_vl_53 z_tka_54 ft fw 1) := Prod.ext iu_62 xr_55_0
          have hsp := hsp.trans (slet_eq iu_62)
          rcases mI_get u_62 with ⟨zn_63, wn_63⟩ | ⟨n_63, zn_63, wn_63⟩
          · obtain rfl : r_55 = -1 := mu_62.trans wn_63
            have hsp := hsp.trans (if_pos zn_63)
            refine lv_istore (lv' := [(6, .int (-1)), (5, .int (nI n_49)), (0, .ref rd), (1, .int (nI a0)), (2, .int 11), (3, .int 3), (4, .int (nI g_28))]) hx hb eX4_readsConditions_77 hl (by decide) rfl (fun ls hl => ?_)
            refine lv_iload hx hb eX4_readsConditions_79 (lv_at hl 0 rfl) ?_
            refine lv_iconst (v := (-1)) hx hb eX4_readsConditions_81 (by decide) ?_
            refine lv_icmp_ne (tgt := 87) hx hb eX4_readsConditions_82 (by decide) (fun z => absurd z (by decide)) (fun _ => ?_)
            have hsp := hout_36 _ hsp
            refine lv_iconst (v := 0) hx hb eX4_readsConditions_85 (by decide) ?_
            exact W.zret (v := 0) (ty := .boolean) hx hb hr (rfl) (fun t ht hW => ⟨⟨0, (), rfl, ⟨0, (Nat.le_of_ble_eq_true rfl), rfl, (congrArg Prod.fst (hsp.symm.trans hRR))⟩, ⟨g_16, g_17, g_18, g_19, g_20, g_21, z_fa_56, z_fat_57, z_pos_58, z_kd_59, z_vl_60, z_tka_61, ⟨by rw [ht]; exact hP, va_K.moved hW.alike hK, hD⟩, hz_pos_58, hz_kd_59, by first | assumption | exact co_refl | exact co_trans (by assumption) (by assumption), (congrArg Prod.snd (hsp.symm.trans hRR))⟩⟩, hS.F ht⟩) hS.2.2 eX4_readsConditions_86
          · obtain rfl : r_55 = nI n_63 := mu_62.trans wn_63
            have hn_63 : n_63 ≤ 4 := by omega
            have hsp := hsp.trans (if_neg (by omega))
            have hsp := hsp.trans (slet_eq (by omega : n_63 = u_62 - 1))
            refine lv_istore (lv' := [(6, .int (nI n_63)), (5, .int (nI n_49)), (0, .ref rd), (1, .int (nI a0)), (2, .int 11), (3, .int 3), (4, .int (nI g_28))]) hx hb eX4_readsConditions_77 hl (by decide) rfl (fun ls hl => ?_)
            refine lv_iload hx hb eX4_readsConditions_79 (lv_at hl 0 rfl) ?_
            refine lv_iconst (v := (-1)) hx hb eX4_readsConditions_81 (by decide) ?_
            refine lv_icmp_ne (tgt := 87) hx hb eX4_readsConditions_82 (by decide) (fun _ => ?_) (fun z => absurd z (pu_nneg (n := n_63) (by omega) (by decide)))
            refine lv_aload_n hx hb eX4_readsConditions_87 rfl (lv_at hl 2 rfl) ?_
            refine va_get (D := (dC, dI)) (ci := 4) (v := .int (nI z_kd_59)) (C := RX4) (T := TX4) (N := 12) hx hb hts hiX4 hown hK hP 0 rfl rfl 5 (by decide) v_1 (fun _ h9 => h9) rfl eX4_readsConditions_88 ?_
            refine lv_iconst (v := 3) hx hb eX4_readsConditions_91 (by decide) ?_
            refine lv_icmp_eq (tgt := 100) hx hb eX4_readsConditions_92 (by decide) (fun c_64 => ?_) (fun c_64 => ?_)
            · have c_64 : z_kd_59 = 3 := (nI_eq (a := z_kd_59) (b := 3) (Nat.lt_of_le_of_lt hz_kd_59 (Nat.le_of_ble_eq_true rfl)) (Nat.le_of_ble_eq_true rfl)).mp c_64
              have hsp := hsp.trans (if_pos c_64)
              refine lv_aload_n hx hb eX4_readsConditions_100 rfl (lv_at hl 2 rfl) ?_
              refine va_get (D := (dC, dI)) (ci := 4) (v := .int z_vl_60) (C := RX4) (T := TX4) (N := 12) hx hb hts hiX4 hown hK hP 0 rfl rfl 6 (by decide) v_18 (fun _ h9 => h9) rfl eX4_readsConditions_101 ?_
              refine lv_bipush (v := 20) hx hb eX4_readsConditions_104 (by decide) ?_
              refine lv_icmp_le (tgt := 115) hx hb eX4_readsConditions_106 (by decide) (fun c_65 => ?_) (fun c_65 => ?_)
              · have hcc_65 := c_65
                have hsp := hsp.trans (if_pos c_65)
                refine lv_aload_n hx hb eX4_readsConditions_115 rfl (lv_at hl 2 rfl) ?_
                refine va_get (D := (dC, dI)) (ci := 4) (v := .ref au) (C := RX4) (T := TX4) (N := 12) hx hb hts hiX4 hown hK hP 0 rfl rfl 8 (by decide) v_8 (fun _ h9 => h9) rfl eX4_readsConditions_116 ?_
                refine lv_iload_n hx hb eX4_readsConditions_119 rfl (lv_at hl 3 rfl) ?_
                refine lv_iload hx hb eX4_readsConditions_120 (lv_at hl 1 rfl) ?_
                refine lv_iload hx hb eX4_readsConditions_122 (lv_at hl 0 rfl) ?_
                refine lv_aload_n hx hb eX4_readsConditions_124 rfl (lv_at hl 2 rfl) ?_
                refine va_get (D := (dC, dI)) (ci := 4) (v := .int z_vl_60) (C := RX4) (T := TX4) (N := 12) hx hb hts hiX4 hown hK hP 0 rfl rfl 6 (by decide) v_18 (fun _ h9 => h9) rfl eX4_readsConditions_125 ?_
                have hPc : va_P (dC, dI) vwCl (au__w au (nI nc) (nI np) (nI ne) st0 q4 q5 q6 q7 q8 q9 q10 q11 q12 q13 q14 q15 q16 k_f4 f4 k_f5 (bN 7 q_f5) k_f6 (bN 7 q_f6) k_f7 f7 k_f8 (bN 4 g_16) k_f9 (bN 2 g_17) k_f10 g_18 k_f11 g_19 k_f12 g_20 k_f13 g_21 k_f14 f14 k_f15 f15 k_f16 f16) _ := hP.sub [5, 6, 7, 8, 9, 10, 11, 12, 13, 14, 15, 16, 17, 18] rfl
                have hDc := hD.sub (ws' := (au__w au (nI nc) (nI np) (nI ne) st0 q4 q5 q6 q7 q8 q9 q10 q11 q12 q13 q14 q15 q16 k_f4 f4 k_f5 (bN 7 q_f5) k_f6 (bN 7 q_f6) k_f7 f7 k_f8 (bN 4 g_16) k_f9 (bN 2 g_17) k_f10 g_18 k_f11 g_19 k_f12 g_20 k_f13 g_21 k_f14 f14 k_f15 f15 k_f16 f16)) [5, 6, 7, 8, 9, 10, 11, 12, 13, 14, 15, 16, 17, 18] (by decide) rfl
                have hKc : va_K (dC, dI) vwCl (au__t k_f4 k_f5 k_f6 k_f7 k_f8 k_f9 k_f10 k_f11 k_f12 k_f13 k_f14 k_f15 k_f16) s := hK.sub [4, 5, 6, 7, 8, 9, 10, 11, 12, 13, 14, 15, 16] rfl
                have hFc := pu_free hDc hS hA
                refine va_callv (va_runV (As := [.int (nI a0), .int (nI n_49), .int (nI n_63), .int z_vl_60]) (rest := []) ⟨hx, hb, hml, hown, hts⟩ (c_E_0_addCondition l dC dI _ au nc np ne st0 q4 q5 q6 q7 q8 q9 q10 q11 q12 q13 q14 q15 q16 k_f4 f4 k_f5 q_f5 k_f6 q_f6 k_f7 f7 k_f8 g_16 k_f9 g_17 k_f10 g_18 k_f11 g_19 k_f12 g_20 k_f13 g_21 k_f14 f14 k_f15 f15 k_f16 f16 a0 n_49 (nI n_63) z_vl_60 g_28 (by omega) hnc hnp hne (hst0) ha0 hn_49 (by assumption)) (cwV 4 hts g_E_4_readsConditions_11_E_0_addCondition rfl rfl rfl (by decide +kernel) ⟨Nat.le_of_ble_eq_true rfl, Nat.le_of_ble_eq_true rfl⟩) ⟨pu_bl, va_recv hK hP (ci := 0) (q0 := 5) rfl rfl, pu_in hPc hKc hDc⟩ rfl rfl hl.1 rfl (lv_room (Nat.le_of_ble_eq_true rfl)) eX4_readsConditions_128 ⟨Nat.le_of_ble_eq_true rfl, Nat.le_of_ble_eq_true rfl⟩) hS (fun q _ h => hFc q h) hFc (fun u t H1 locs ht hvm hw hB hz1 hk1 hS => ?_)
                obtain ⟨z_f13_67, z_f8_68, z_f9_69, z_f10_70, z_f11_71, z_f12_72, ⟨hP1, -, hD1⟩, xr_66_0, xr_66_1, xr_66_2⟩ := hB
                rw [ht] at hP1
                obtain ⟨hP, hD⟩ := pj_a (X := (ra__w rd z_fa_56 z_fat_57 tp (nI len) (nI z_pos_58) (nI z_kd_59) z_vl_60 z_tka_61 au rw rc rp k_ft ft k_fw fw k_fcn fcn k_fpn fpn (nI nc) (nI np) (nI ne) st0 q4 q5 q6 q7 q8 q9 q10 q11 q12 q13 q14 q15 q16 k_f4 f4 k_f5 (bN 7 q_f5) k_f6 (bN 7 q_f6) k_f7 f7 k_f8 (bN 4 g_16) k_f9 (bN 2 g_17) k_f10 g_18 k_f11 g_19 k_f12 g_20 k_f13 g_21 k_f14 f14 k_f15 f15 k_f16 f16)) (X' := (ra__w rd z_fa_56 z_fat_57 tp (nI len) (nI z_pos_58) (nI z_kd_59) z_vl_60 z_tka_61 au rw rc rp k_ft ft k_fw fw k_fcn fcn k_fpn fpn (nI nc) (nI np) (nI ne) st0 q4 q5 q6 q7 q8 q9 q10 q11 q12 q13 q14 q15 q16 k_f4 f4 k_f5 (bN 7 q_f5) k_f6 (bN 7 q_f6) k_f7 f7 k_f8 (bN 4 z_f8_68) k_f9 (bN 2 z_f9_69) k_f10 z_f10_70 k_f11 z_f11_71 k_f12 z_f12_72 k_f13 z_f13_67 k_f14 f14 k_f15 f15 k_f16 f16)) (wc := (au__w au (nI nc) (nI np) (nI ne) st0 q4 q5 q6 q7 q8 q9 q10 q11 q12 q13 q14 q15 q16 k_f4 f4 k_f5 (bN 7 q_f5) k_f6 (bN 7 q_f6) k_f7 f7 k_f8 (bN 4 g_16) k_f9 (bN 2 g_17) k_f10 g_18 k_f11 g_19 k_f12 g_20 k_f13 g_21 k_f14 f14 k_f15 f15 k_f16 f16)) (w1 := (au__w au (nI nc) (nI np) (nI ne) st0 q4 q5 q6 q7 q8 q9 q10 q11 q12 q13 q14 q15 q16 k_f4 f4 k_f5 (bN 7 q_f5) k_f6 (bN 7 q_f6) k_f7 f7 k_f8 (bN 4 z_f8_68) k_f9 (bN 2 z_f9_69) k_f10 z_f10_70 k_f11 z_f11_71 k_f12 z_f12_72 k_f13 z_f13_67 k_f14 f14 k_f15 f15 k_f16 f16)) hP hD [5, 6, 7, 8, 9, 10, 11, 12, 13, 14, 15, 16, 17, 18] [14, 15, 16, 17, 18, 0, 1, 2, 3, 4, 5, 6, 7, 8, 9, 10, 11, 12, 13] 14 rfl hk1 hP1 rfl rfl rfl (by decide)
                clear hP1 hD1 hFc hPc hDc hKc
                clear hk1 hz1 ht hvm
                generalize H1 = H at hP hS ⊢
                have hsp := hsp.trans (slet_eq xr_66_2)
                refine lv_aload_n hx hb eX4_readsConditions_131 rfl (lv_at hl 2 rfl) ?_
                have hPc : va_P (dC, dI) vwCl (rd__w rd z_fa_56 z_fat_57 tp (nI len) (nI z_pos_58) (nI z_kd_59) z_vl_60 z_tka_61 au rw rc rp k_ft ft k_fw fw k_fcn fcn k_fpn fpn) _ := hP.sub [0, 1, 2, 3, 4] rfl
                have hDc := hD.sub (ws' := (rd__w rd z_fa_56 z_fat_57 tp (nI len) (nI z_pos_58) (nI z_kd_59) z_vl_60 z_tka_61 au rw rc rp k_ft ft k_fw fw k_fcn fcn k_fpn fpn)) [0, 1, 2, 3, 4] (by decide) rfl
                have hKc : va_K (dC, dI) vwCl (rd__t k_ft k_fw k_fcn k_fpn) s := hK.sub [0, 1, 2, 3] rfl
                have hFc := pu_free hDc hS hA
                refine va_callv (va_runV (As := []) (rest := []) ⟨hx, hb, hml, hown, hts⟩ (c_E_4_advance l dC dI _ rd z_fa_56 z_fat_57 tp len z_pos_58 z_kd_59 z_vl_60 z_tka_61 au rw rc rp k_ft ft k_fw fw k_fcn fcn k_fpn fpn hlen hz_pos_58 hz_kd_59) (cwV 0 hts g_E_4_readsConditions_11_E_4_advance rfl rfl rfl (by decide +kernel) ⟨Nat.le_of_ble_eq_true rfl, Nat.le_of_ble_eq_true rfl⟩) ⟨pu_bl, va_recv hK hP (ci := 4) (q0 := 0) rfl rfl, pu_in hPc hKc hDc⟩ rfl rfl hl.1 rfl (lv_room (Nat.le_of_ble_eq_true rfl)) eX4_readsConditions_132 ⟨Nat.le_of_ble_eq_true rfl, Nat.le_of_ble_eq_true rfl⟩) hS (fun q _ h => hFc q h) hFc (fun u t H1 locs ht hvm hw hB hz1 hk1 hS => ?_)
                obtain ⟨z_pos_74, z_kd_75, z_vl_76, z_tka_77, ⟨hP1, -, hD1⟩, hz_pos_74, hz_kd_75, xr_73_0⟩ := hB
                rw [ht] at hP1
                obtain ⟨hP, hD⟩ := pj_a (X := (ra__w rd z_fa_56 z_fat_57 tp (nI len) (nI z_pos_58) (nI z_kd_59) z_vl_60 z_tka_61 au rw rc rp k_ft ft k_fw fw k_fcn fcn k_fpn fpn (nI nc) (nI np) (nI ne) st0 q4 q5 q6 q7 q8 q9 q10 q11 q12 q13 q14 q15 q16 k_f4 f4 k_f5 (bN 7 q_f5) k_f6 (bN 7 q_f6) k_f7 f7 k_f8 (bN 4 z_f8_68) k_f9 (bN 2 z_f9_69) k_f10 z_f10_70 k_f11 z_f11_71 k_f12 z_f12_72 k_f13 z_f13_67 k_f14 f14 k_f15 f15 k_f16 f16)) (X' := (ra__w rd z_fa_56 z_fat_57 tp (nI len) (nI z_pos_74) (nI z_kd_75) z_vl_76 z_tka_77 au rw rc rp k_ft ft k_fw fw k_fcn fcn k_fpn fpn (nI nc) (nI np) (nI ne) st0 q4 q5 q6 q7 q8 q9 q10 q11 q12 q13 q14 q15 q16 k_f4 f4 k_f5 (bN 7 q_f5) k_f6 (bN 7 q_f6) k_f7 f7 k_f8 (bN 4 z_f8_68) k_f9 (bN 2 z_f9_69) k_f10 z_f10_70 k_f11 z_f11_71 k_f12 z_f12_72 k_f13 z_f13_67 k_f14 f14 k_f15 f15 k_f16 f16)) (wc := (rd__w rd z_fa_56 z_fat_57 tp (nI len) (nI z_pos_58) (nI z_kd_59) z_vl_60 z_tka_61 au rw rc rp k_ft ft k_fw fw k_fcn fcn k_fpn fpn)) (w1 := (rd__w rd z_fa_56 z_fat_57 tp (nI len) (nI z_pos_74) (nI z_kd_75) z_vl_76 z_tka_77 au rw rc rp k_ft ft k_fw fw k_fcn fcn k_fpn fpn)) hP hD [0, 1, 2, 3, 4] [0, 1, 2, 3, 4, 10, 11, 12, 13, 14, 15, 16, 17, 18, 19, 20, 21, 22, 23] 5 rfl hk1 hP1 rfl rfl rfl (by decide)
                clear hP1 hD1 hFc hPc hDc hKc
                clear hk1 hz1 ht hvm
                generalize H1 = H at hP hS ⊢
                have hsp := hsp.trans (slet_eq xr_73_0)
                refine lv_iinc (v := (nI (g_28 + 1))) (lv' := [(4, .int (nI (g_28 + 1))), (6, .int (nI n_63)), (5, .int (nI n_49)), (0, .ref rd), (1, .int (nI a0)), (2, .int 11), (3, .int 3)]) hx hb eX4_readsConditions_135 hl (k := 6) rfl (nI_1 _) (by decide) rfl (fun ls hl => ?_)
                refine lv_goto (tgt := 3) hx hb eX4_readsConditions_138 (by decide) ?_
                exact ih_31 (3 - (g_28 + 1)) (by omega) _ _ _ ⟨z_f8_68, z_f9_69, z_f10_70, z_f11_71, z_f12_72, z_f13_67, z_fa_56, z_fat_57, z_pos_74, z_kd_75, z_vl_76, z_tka_77, (g_28 + 1), rfl, hz_pos_74, hz_kd_75, (by omega), by assumption, by first | assumption | exact co_refl | exact co_trans (by assumption) (by assumption), hin_35 _ hsp, hP, hD, hS, lv_sub hl [3, 4, 5, 6, 0] rfl⟩
              · have hcc_65 := c_65
                have hsp := hsp.trans (if_neg c_65)
                have hsp := hout_36 _ hsp
                refine lv_aload_n hx hb eX4_readsConditions_109 rfl (lv_at hl 2 rfl) ?_
                refine lv_iconst (v := 4) hx hb eX4_readsConditions_110 (by decide) ?_
                have hPc : va_P (dC, dI) vwCl (rd__w rd z_fa_56 z_fat_57 tp (nI len) (nI z_pos_58) (nI z_kd_59) z_vl_60 z_tka_61 au rw rc rp k_ft ft k_fw fw k_fcn fcn k_fpn fpn) _ := hP.sub [0, 1, 2, 3, 4] rfl
                have hDc := hD.sub (ws' := (rd__w rd z_fa_56 z_fat_57 tp (nI len) (nI z_pos_58) (nI z_kd_59) z_vl_60 z_tka_61 au rw rc rp k_ft ft k_fw fw k_fcn fcn k_fpn fpn)) [0, 1, 2, 3, 4] (by decide) rfl
                have hKc : va_K (dC, dI) vwCl (rd__t k_ft k_fw k_fcn k_fpn) s := hK.sub [0, 1, 2, 3] rfl
                have hFc := pu_free hDc hS hA
                refine va_calli (va_runV (As := [.int 4]) (rest := []) ⟨hx, hb, hml, hown, hts⟩ (c_E_4_refuse l dC dI _ rd z_fa_56 z_fat_57 tp len z_pos_58 z_kd_59 z_vl_60 z_tka_61 au rw rc rp k_ft ft k_fw fw k_fcn fcn k_fpn fpn 4 hlen hz_pos_58 hz_kd_59) (cwV 1 hts g_E_4_readsConditions_11_E_4_refuse rfl rfl rfl (by decide +kernel) ⟨Nat.le_of_ble_eq_true rfl, Nat.le_of_ble_eq_true rfl⟩) ⟨pu_bl, va_recv hK hP (ci := 4) (q0 := 0) rfl rfl, pu_in hPc hKc hDc⟩ rfl rfl hl.1 rfl (lv_room (Nat.le_of_ble_eq_true rfl)) eX4_readsConditions_111 ⟨Nat.le_of_ble_eq_true rfl, Nat.le_of_ble_eq_true rfl⟩) hS (fun q _ h => hFc q h) hFc (fun r_78 u t H1 locs ht hvm hw hB hz1 hk1 hS => ?_)
                obtain ⟨z_fa_79, z_fat_80, ⟨hP1, -, hD1⟩, xr_78_0⟩ := hB
                rw [ht] at hP1
                obtain ⟨hP, hD⟩ := pj_a (X := (ra__w rd z_fa_56 z_fat_57 tp (nI len) (nI z_pos_58) (nI z_kd_59) z_vl_60 z_tka_61 au rw rc rp k_ft ft k_fw fw k_fcn fcn k_fpn fpn (nI nc) (nI np) (nI ne) st0 q4 q5 q6 q7 q8 q9 q10 q11 q12 q13 q14 q15 q16 k_f4 f4 k_f5 (bN 7 q_f5) k_f6 (bN 7 q_f6) k_f7 f7 k_f8 (bN 4 g_16) k_f9 (bN 2 g_17) k_f10 g_18 k_f11 g_19 k_f12 g_20 k_f13 g_21 k_f14 f14 k_f15 f15 k_f16 f16)) (X' := (ra__w rd z_fa_79 z_fat_80 tp (nI len) (nI z_pos_58) (nI z_kd_59) z_vl_60 z_tka_61 au rw rc rp k_ft ft k_fw fw k_fcn fcn k_fpn fpn (nI nc) (nI np) (nI ne) st0 q4 q5 q6 q7 q8 q9 q10 q11 q12 q13 q14 q15 q16 k_f4 f4 k_f5 (bN 7 q_f5) k_f6 (bN 7 q_f6) k_f7 f7 k_f8 (bN 4 g_16) k_f9 (bN 2 g_17) k_f10 g_18 k_f11 g_19 k_f12 g_20 k_f13 g_21 k_f14 f14 k_f15 f15 k_f16 f16)) (wc := (rd__w rd z_fa_56 z_fat_57 tp (nI len) (nI z_pos_58) (nI z_kd_59) z_vl_60 z_tka_61 au rw rc rp k_ft ft k_fw fw k_fcn fcn k_fpn fpn)) (w1 := (rd__w rd z_fa_79 z_fat_80 tp (nI len) (nI z_pos_58) (nI z_kd_59) z_vl_60 z_tka_61 au rw rc rp k_ft ft k_fw fw k_fcn fcn k_fpn fpn)) hP hD [0, 1, 2, 3, 4] [0, 1, 2, 3, 4, 10, 11, 12, 13, 14, 15, 16, 17, 18, 19, 20, 21, 22, 23] 5 rfl hk1 hP1 rfl rfl rfl (by decide)
                clear hP1 hD1 hFc hPc hDc hKc
                clear hk1 hz1 ht hvm
                generalize H1 = H at hP hS ⊢
                have hsp := hsp.trans (slet_eq xr_78_0)
                obtain rfl : r_78 = 0 := hw
                exact W.zret (v := 0) (ty := .boolean) hx hb hr (rfl) (fun t ht hW => ⟨⟨0, (), rfl, ⟨0, (Nat.le_of_ble_eq_true rfl), rfl, (congrArg Prod.fst (hsp.symm.trans hRR))⟩, ⟨g_16, g_17, g_18, g_19, g_20, g_21, z_fa_79, z_fat_80, z_pos_58, z_kd_59, z_vl_60, z_tka_61, ⟨by rw [ht]; exact hP, va_K.moved hW.alike hK, hD⟩, hz_pos_58, hz_kd_59, by first | assumption | exact co_refl | exact co_trans (by assumption) (by assumption), (congrArg Prod.snd (hsp.symm.trans hRR))⟩⟩, hS.F ht⟩) hS.2.2 eX4_readsConditions_114
            · have c_64 : ¬ z_kd_59 = 3 := fun z => c_64 ((nI_eq (a := z_kd_59) (b := 3) (Nat.lt_of_le_of_lt hz_kd_59 (Nat.le_of_ble_eq_true rfl)) (Nat.le_of_ble_eq_true rfl)).mpr z)
              have hsp := hsp.trans (if_neg c_64)
              have hsp := hout_36 _ hsp
              refine lv_aload_n hx hb eX4_readsConditions_95 rfl (lv_at hl 2 rfl) ?_
              have hPc : va_P (dC, dI) vwCl (rd__w rd z_fa_56 z_fat_57 tp (nI len) (nI z_pos_58) (nI z_kd_59) z_vl_60 z_tka_61 au rw rc rp k_ft ft k_fw fw k_fcn fcn k_fpn fpn) _ := hP.sub [0, 1, 2, 3, 4] rfl
              have hDc := hD.sub (ws' := (rd__w rd z_fa_56 z_fat_57 tp (nI len) (nI z_pos_58) (nI z_kd_59) z_vl_60 z_tka_61 au rw rc rp k_ft ft k_fw fw k_fcn fcn k_fpn fpn)) [0, 1, 2, 3, 4] (by decide) rfl
              have hKc : va_K (dC, dI) vwCl (rd__t k_ft k_fw k_fcn k_fpn) s := hK.sub [0, 1, 2, 3] rfl
              have hFc := pu_free hDc hS hA
              refine va_calli (va_runV (As := []) (rest := []) ⟨hx, hb, hml, hown, hts⟩ (c_E_4_refuseToken l dC dI _ rd z_fa_56 z_fat_57 tp len z_pos_58 z_kd_59 z_vl_60 z_tka_61 au rw rc rp k_ft ft k_fw fw k_fcn fcn k_fpn fpn hlen hz_pos_58 hz_kd_59) (cwV 0 hts g_E_4_readsConditions_11_E_4_refuseToken rfl rfl rfl (by decide +kernel) ⟨Nat.le_of_ble_eq_true rfl, Nat.le_of_ble_eq_true rfl⟩) ⟨pu_bl, va_recv hK hP (ci := 4) (q0 := 0) rfl rfl, pu_in hPc hKc hDc⟩ rfl rfl hl.1 rfl (lv_room (Nat.le_of_ble_eq_true rfl)) eX4_readsConditions_96 ⟨Nat.le_of_ble_eq_true rfl, Nat.le_of_ble_eq_true rfl⟩) hS (fun q _ h => hFc q h) hFc (fun r_81 u t H1 locs ht hvm hw hB hz1 hk1 hS => ?_)
              obtain ⟨z_fa_82, z_fat_83, ⟨hP1, -, hD1⟩, xr_81_0⟩ := hB
              rw [ht] at hP1
              obtain ⟨hP, hD⟩ := pj_a (X := (ra__w rd z_fa_56 z_fat_57 tp (nI len) (nI z_pos_58) (nI z_kd_59) z_vl_60 z_tka_61 au rw rc rp k_ft ft k_fw fw k_fcn fcn k_fpn fpn (nI nc) (nI np) (nI ne) st0 q4 q5 q6 q7 q8 q9 q10 q11 q12 q13 q14 q15 q16 k_f4 f4 k_f5 (bN 7 q_f5) k_f6 (bN 7 q_f6) k_f7 f7 k_f8 (bN 4 g_16) k_f9 (bN 2 g_17) k_f10 g_18 k_f11 g_19 k_f12 g_20 k_f13 g_21 k_f14 f14 k_f15 f15 k_f16 f16)) (X' := (ra__w rd z_fa_82 z_fat_83 tp (nI len) (nI z_pos_58) (nI z_kd_59) z_vl_60 z_tka_61 au rw rc rp k_ft ft k_fw fw k_fcn fcn k_fpn fpn (nI nc) (nI np) (nI ne) st0 q4 q5 q6 q7 q8 q9 q10 q11 q12 q13 q14 q15 q16 k_f4 f4 k_f5 (bN 7 q_f5) k_f6 (bN 7 q_f6) k_f7 f7 k_f8 (bN 4 g_16) k_f9 (bN 2 g_17) k_f10 g_18 k_f11 g_19 k_f12 g_20 k_f13 g_21 k_f14 f14 k_f15 f15 k_f16 f16)) (wc := (rd__w rd z_fa_56 z_fat_57 tp (nI len) (nI z_pos_58) (nI z_kd_59) z_vl_60 z_tka_61 au rw rc rp k_ft ft k_fw fw k_fcn fcn k_fpn fpn)) (w1 := (rd__w rd z_fa_82 z_fat_83 tp (nI len) (nI z_pos_58) (nI z_kd_59) z_vl_60 z_tka_61 au rw rc rp k_ft ft k_fw fw k_fcn fcn k_fpn fpn)) hP hD [0, 1, 2, 3, 4] [0, 1, 2, 3, 4, 10, 11, 12, 13, 14, 15, 16, 17, 18, 19, 20, 21, 22, 23] 5 rfl hk1 hP1 rfl rfl rfl (by decide)
              clear hP1 hD1 hFc hPc hDc hKc
              clear hk1 hz1 ht hvm
              generalize H1 = H at hP hS ⊢
              have hsp := hsp.trans (slet_eq xr_81_0)
              obtain rfl : r_81 = 0 := hw
              exact W.zret (v := 0) (ty := .boolean) hx hb hr (rfl) (fun t ht hW => ⟨⟨0, (), rfl, ⟨0, (Nat.le_of_ble_eq_true rfl), rfl, (congrArg Prod.fst (hsp.symm.trans hRR))⟩, ⟨g_16, g_17, g_18, g_19, g_20, g_21, z_fa_82, z_fat_83, z_pos_58, z_kd_59, z_vl_60, z_tka_61, ⟨by rw [ht]; exact hP, va_K.moved hW.alike hK, hD⟩, hz_pos_58, hz_kd_59, by first | assumption | exact co_refl | exact co_trans (by assumption) (by assumption), (congrArg Prod.snd (hsp.symm.trans hRR))⟩⟩, hS.F ht⟩) hS.2.2 eX4_readsConditions_99
      · have c_39 : g_28 = 3 := (nI_eq (a := g_28) (b := 3) (Nat.lt_of_le_of_lt hg_28 (Nat.le_of_ble_eq_true rfl)) (Nat.le_of_ble_eq_true rfl)).mp c_39
        have hsp := hsp.trans (if_pos c_39)
        have hsp := hout_36 _ hsp
        refine lv_aload_n hx hb eX4_readsConditions_23 rfl (lv_at hl 0 rfl) ?_
        refine lv_iconst (v := 5) hx hb eX4_readsConditions_24 (by decide) ?_
        have hPc : va_P (dC, dI) vwCl (rd__w rd g_22 g_23 tp (nI len) (nI g_24) (nI g_25) g_26 g_27 au rw rc rp k_ft ft k_fw fw k_fcn fcn k_fpn fpn) _ := hP.sub [0, 1, 2, 3, 4] rfl
        have hDc := hD.sub (ws' := (rd__w rd g_22 g_23 tp (nI len) (nI g_24) (nI g_25) g_26 g_27 au rw rc rp k_ft ft k_fw fw k_fcn fcn k_fpn fpn)) [0, 1, 2, 3, 4] (by decide) rfl
        have hKc : va_K (dC, dI) vwCl (rd__t k_ft k_fw k_fcn k_fpn) s := hK.sub [0, 1, 2, 3] rfl
        have hFc := pu_free hDc hS hA
        refine va_calli (va_runV (As := [.int 5]) (rest := []) ⟨hx, hb, hml, hown, hts⟩ (c_E_4_refuse l dC dI _ rd g_22 g_23 tp len g_24 g_25 g_26 g_27 au rw rc rp k_ft ft k_fw fw k_fcn fcn k_fpn fpn 5 hlen hg_24 hg_25) (cwV 1 hts g_E_4_readsConditions_11_E_4_refuse rfl rfl rfl (by decide +kernel) ⟨Nat.le_of_ble_eq_true rfl, Nat.le_of_ble_eq_true rfl⟩) ⟨pu_bl, va_recv hK hP (ci := 4) (q0 := 0) rfl rfl, pu_in hPc hKc hDc⟩ rfl rfl hl.1 rfl (lv_room (Nat.le_of_ble_eq_true rfl)) eX4_readsConditions_25 ⟨Nat.le_of_ble_eq_true rfl, Nat.le_of_ble_eq_true rfl⟩) hS (fun q _ h => hFc q h) hFc (fun r_84 u t H1 locs ht hvm hw hB hz1 hk1 hS => ?_)
        obtain ⟨z_fa_85, z_fat_86, ⟨hP1, -, hD1⟩, xr_84_0⟩ := hB
        rw [ht] at hP1
        obtain ⟨hP, hD⟩ := pj_a (X := (ra__w rd g_22 g_23 tp (nI len) (nI g_24) (nI g_25) g_26 g_27 au rw rc rp k_ft ft k_fw fw k_fcn fcn k_fpn fpn (nI nc) (nI np) (nI ne) st0 q4 q5 q6 q7 q8 q9 q10 q11 q12 q13 q14 q15 q16 k_f4 f4 k_f5 (bN 7 q_f5) k_f6 (bN 7 q_f6) k_f7 f7 k_f8 (bN 4 g_16) k_f9 (bN 2 g_17) k_f10 g_18 k_f11 g_19 k_f12 g_20 k_f13 g_21 k_f14 f14 k_f15 f15 k_f16 f16)) (X' := (ra__w rd z_fa_85 z_fat_86 tp (nI len) (nI g_24) (nI g_25) g_26 g_27 au rw rc rp k_ft ft k_fw fw k_fcn fcn k_fpn fpn (nI nc) (nI np) (nI ne) st0 q4 q5 q6 q7 q8 q9 q10 q11 q12 q13 q14 q15 q16 k_f4 f4 k_f5 (bN 7 q_f5) k_f6 (bN 7 q_f6) k_f7 f7 k_f8 (bN 4 g_16) k_f9 (bN 2 g_17) k_f10 g_18 k_f11 g_19 k_f12 g_20 k_f13 g_21 k_f14 f14 k_f15 f15 k_f16 f16)) (wc := (rd__w rd g_22 g_23 tp (nI len) (nI g_24) (nI g_25) g_26 g_27 au rw rc rp k_ft ft k_fw fw k_fcn fcn k_fpn fpn)) (w1 := (rd__w rd z_fa_85 z_fat_86 tp (nI len) (nI g_24) (nI g_25) g_26 g_27 au rw rc rp k_ft ft k_fw fw k_fcn fcn k_fpn fpn)) hP hD [0, 1, 2, 3, 4] [0, 1, 2, 3, 4, 10, 11, 12, 13, 14, 15, 16, 17, 18, 19, 20, 21, 22, 23] 5 rfl hk1 hP1 rfl rfl rfl (by decide)
        clear hP1 hD1 hFc hPc hDc hKc
        clear hk1 hz1 ht hvm
        generalize H1 = H at hP hS ⊢
        have hsp := hsp.trans (slet_eq xr_84_0)
        obtain rfl : r_84 = 0 := hw
        exact W.zret (v := 0) (ty := .boolean) hx hb hr (rfl) (fun t ht hW => ⟨⟨0, (), rfl, ⟨0, (Nat.le_of_ble_eq_true rfl), rfl, (congrArg Prod.fst (hsp.symm.trans hRR))⟩, ⟨g_16, g_17, g_18, g_19, g_20, g_21, z_fa_85, z_fat_86, g_24, g_25, g_26, g_27, ⟨by rw [ht]; exact hP, va_K.moved hW.alike hK, hD⟩, hg_24, hg_25, by first | assumption | exact co_refl | exact co_trans (by assumption) (by assumption), (congrArg Prod.snd (hsp.symm.trans hRR))⟩⟩, hS.F ht⟩) hS.2.2 eX4_readsConditions_28
theorem eX4_readsConditions_73 : decode cX4_readsConditions 73 = .ok (.iconst 0, 1) := by decide +kernel
abbrev vs_E_4_readsConditions_14 : List Cond := .code yX4_readsConditions cX4_readsConditions 7 (some .boolean) :: CM
theorem g_E_4_readsConditions_14_E_4_advance : GoodIn vs_E_4_readsConditions_14 (wsV RX4 75 RX4 yX4_advance vs_E_4_advance) := cm_gV cm_229 cm_230 cm_231 cm_232 cm_233
theorem g_E_4_readsConditions_14_E_4_toldName_c : GoodIn vs_E_4_readsConditions_14 (wsV RX4 142 RX4 yX4_toldName vs_E_4_toldName_c) := cm_gV cm_282 cm_283 cm_284 cm_232 cm_285
theorem g_E_4_readsConditions_14_E_4_readHow : GoodIn vs_E_4_readsConditions_14 (wsV RX4 159 RX4 yX4_readHow vs_E_4_readHow) := cm_gV cm_286 cm_287 cm_288 cm_232 cm_289
theorem g_E_4_readsConditions_14_E_0_addCondition : GoodIn vs_E_4_readsConditions_14 (wsV RX4 163 RX0 yX0_addCondition vs_E_0_addCondition) := cm_gV cm_290 cm_291 cm_292 cm_19 cm_13
theorem g_E_4_readsConditions_14_E_4_refuse : GoodIn vs_E_4_readsConditions_14 (wsV RX4 103 RX4 yX4_refuse vs_E_4_refuse) := cm_gV cm_255 cm_256 cm_257 cm_232 cm_258
theorem g_E_4_readsConditions_14_E_4_refuseToken : GoodIn vs_E_4_readsConditions_14 (wsV RX4 94 RX4 yX4_refuseToken vs_E_4_refuseToken) := cm_gV cm_264 cm_265 cm_266 cm_232 cm_267
noncomputable def sp_E_4_readsConditions_14_L1 (len : Nat) (ft : Nat → Int32) (fw : Nat → Int32) (fcn : Nat → Int32) (nc : Nat) (a0 : Nat) : ((Nat → Nat) × (Nat → Nat) × (Nat → Int32) × (Nat → Int32) × (Nat → Int32) × (Nat → Int32) × Int32 × Int32 × Nat × Nat × Int32 × Int32 × Nat) → ((Nat → Nat) × (Nat → Nat) × (Nat → Int32) × (Nat → Int32) × (Nat → Int32) × (Nat → Int32) × Int32 × Int32 × Nat × Nat × Int32 × Int32 × Nat) ⊕ (Nat × (Nat → Nat) × (Nat → Nat) × (Nat → Int32) × (Nat → Int32) × (Nat → Int32) × (Nat → Int32) × Int32 × Int32 × Nat × Nat × Int32 × Int32) := fun (g_16, g_17, g_18, g_19, g_20, g_21, g_22, g_23, g_24, g_25, g_26, g_27, g_28) => (if g_25 = 14 then (if g_28 = 4 then (Sum.inr (slet (sp_E_4_refuse g_27 5) (fun (z_fa_85, z_fat_86) => (0, g_16, g_17, g_18, g_19, g_20, g_21, z_fa_85, z_fat_86, g_24, g_25, g_26, g_27)))) else (slet (sp_E_4_advance len g_24 g_26 ft fw) (fun (z_pos_41, z_kd_42, z_vl_43, z_tka_44) => (slet (sp_E_4_toldName_c g_22 g_23 z_kd_42 z_vl_43 z_tka_44 fcn nc) (fun (u_48, z_fa_46, z_fat_47) => (if u_48 = 0 then (Sum.inr (0, g_16, g_17, g_18, g_19, g_20, g_21, z_fa_46, z_fat_47, z_pos_41, z_kd_42, z_vl_43, z_tka_44)) else (slet (u_48 - 1) (fun n_49 => (slet (sp_E_4_advance len z_pos_41 z_vl_43 ft fw) (fun (z_pos_51, z_kd_52, z_vl_53, z_tka_54) => (slet (sp_E_4_readHow z_fa_46 z_fat_47 len z_pos_51 z_kd_52 z_vl_53 z_tka_54 ft fw 0) (fun (u_62, z_fa_56, z_fat_57, z_pos_58, z_kd_59, z_vl_60, z_tka_61) => (if u_62 = 0 then (Sum.inr (0, g_16, g_17, g_18, g_19, g_20, g_21, z_fa_56, z_fat_57, z_pos_58, z_kd_59, z_vl_60, z_tka_61)) else (slet (u_62 - 1) (fun n_63 => (if z_kd_59 = 3 then (if (z_vl_60 : Int32) ≤ 20 then (slet (sp_E_0_addCondition g_16 g_17 g_18 g_19 g_20 g_21 a0 n_49 (nI n_63) z_vl_60 g_28) (fun (z_f13_67, z_f8_68, z_f9_69, z_f10_70, z_f11_71, z_f12_72) => (slet (sp_E_4_advance len z_pos_58 z_vl_60 ft fw) (fun (z_pos_74, z_kd_75, z_vl_76, z_tka_77) => (Sum.inl (z_f8_68, z_f9_69, z_f10_70, z_f11_71, z_f12_72, z_f13_67, z_fa_56, z_fat_57, z_pos_74, z_kd_75, z_vl_76, z_tka_77, (g_28 + 1))))))) else (Sum.inr (slet (sp_E_4_refuse z_tka_61 4) (fun (z_fa_79, z_fat_80) => (0, g_16, g_17, g_18, g_19, g_20, g_21, z_fa_79, z_fat_80, z_pos_58, z_kd_59, z_vl_60, z_tka_61))))) else (Sum.inr (slet (sp_E_4_refuseToken z_kd_59 z_tka_61) (fun (z_fa_82, z_fat_83) => (0, g_16, g_17, g_18, g_19, g_20, g_21, z_fa_82, z_fat_83, z_pos_58, z_kd_59, z_vl_60, z_tka_61)))))))))))))))))))) else (Sum.inr (1, g_16, g_17, g_18, g_19, g_20, g_21, g_22, g_23, g_24, g_25, g_26, g_27)))
noncomputable def sp_E_4_readsConditions_14 (fa : Int32) (fat : Int32) (len : Nat) (pos : Nat) (kd : Nat) (vl : Int32) (tka : Int32) (ft : Nat → Int32) (fw : Nat → Int32) (fcn : Nat → Int32) (nc : Nat) (q_f8 : Nat → Nat) (q_f9 : Nat → Nat) (f10 : Nat → Int32) (f11 : Nat → Int32) (f12 : Nat → Int32) (f13 : Nat → Int32) (a0 : Nat) : Nat × (Nat → Nat) × (Nat → Nat) × (Nat → Int32) × (Nat → Int32) × (Nat → Int32) × (Nat → Int32) × Int32 × Int32 × Nat × Nat × Int32 × Int32 := (itrv (α := (Nat → Nat) × (Nat → Nat) × (Nat → Int32) × (Nat → Int32) × (Nat → Int32) × (Nat → Int32) × Int32 × Int32 × Nat × Nat × Int32 × Int32 × Nat) (β := (Nat × (Nat → Nat) × (Nat → Nat) × (Nat → Int32) × (Nat → Int32) × (Nat → Int32) × (Nat → Int32) × Int32 × Int32 × Nat × Nat × Int32 × Int32)) default (sp_E_4_readsConditions_14_L1 len ft fw fcn nc a0) (q_f8, q_f9, f10, f11, f12, f13, fa, fat, pos, kd, vl, tka, 0))
set_option maxHeartbeats 4000000 in
set_option maxRecDepth 100000 in
theorem c_E_4_readsConditions_14 (l : Launch) (dC : Nat → ClassId) (dI : Nat → Nat → Nat) (sz : Nat) (rd : Nat) (fa : Int32) (fat : Int32) (tp : Nat) (len : Nat) (pos : Nat) (kd : Nat) (vl : Int32) (tka : Int32) (au : Nat) (rw : Nat) (rc : Nat) (rp : Nat) (k_ft : ClassId) (ft : Nat → Int32) (k_fw : ClassId) (fw : Nat → Int32) (k_fcn : ClassId) (fcn : Nat → Int32) (k_fpn : ClassId) (fpn : Nat → Int32) (nc : Nat) (np : Nat) (ne : Nat) (st0 : Int32) (q4 : Nat) (q5 : Nat) (q6 : Nat) (q7 : Nat) (q8 : Nat) (q9 : Nat) (q10 : Nat) (q11 : Nat) (q12 : Nat) (q13 : Nat) (q14 : Nat) (q15 : Nat) (q16 : Nat) (k_f4 : ClassId) (f4 : Nat → Int32) (k_f5 : ClassId) (q_f5 : Nat → Nat) (k_f6 : ClassId) (q_f6 : Nat → Nat) (k_f7 : ClassId) (f7 : Nat → Int32) (k_f8 : ClassId) (q_f8 : Nat → Nat) (k_f9 : ClassId) (q_f9 : Nat → Nat) (k_f10 : ClassId) (f10 : Nat → Int32) (k_f11 : ClassId) (f11 : Nat → Int32) (k_f12 : ClassId) (f12 : Nat → Int32) (k_f13 : ClassId) (f13 : Nat → Int32) (k_f14 : ClassId) (f14 : Nat → Int32) (k_f15 : ClassId) (f15 : Nat → Int32) (k_f16 : ClassId) (f16 : Nat → Int32) (a0 : Nat) (hlen : len ≤ 900) (hpos : pos ≤ 900) (hkd : kd ≤ 15) (hnc : nc ≤ 3) (hnp : np ≤ 8) (hne : ne ≤ 14) (hst0 : pm1 7 st0) (ha0 : a0 ≤ 21) (hq0 : bN 4 q_f8 (nI a0).toNatClampNeg = nI 0) : Met l yX4_readsConditions vs_E_4_readsConditions_14 ({ frames := 3, cells := 0, slots := 0, locals := 64 }) (va_Pc [.ref rd, .int (nI a0), .int 14, .int 4] (pu_B (dC, dI) (ra__w rd fa fat tp (nI len) (nI pos) (nI kd) vl tka au rw rc rp k_ft ft k_fw fw k_fcn fcn k_fpn fpn (nI nc) (nI np) (nI ne) st0 q4 q5 q6 q7 q8 q9 q10 q11 q12 q13 q14 q15 q16 k_f4 f4 k_f5 (bN 7 q_f5) k_f6 (bN 7 q_f6) k_f7 f7 k_f8 (bN 4 q_f8) k_f9 (bN 2 q_f9) k_f10 f10 k_f11 f11 k_f12 f12 k_f13 f13 k_f14 f14 k_f15 f15 k_f16 f16) (ra__t k_ft k_fw k_fcn k_fpn k_f4 k_f5 k_f6 k_f7 k_f8 k_f9 k_f10 k_f11 k_f12 k_f13 k_f14 k_f15 k_f16) sz)) (va_Qi (fun (r : Int32) (_ : Unit) => ∃ v : Nat, v ≤ 1 ∧ r = nI v ∧ v = (sp_E_4_readsConditions_14 fa fat len pos kd vl tka ft fw fcn nc q_f8 q_f9 f10 f11 f12 f13 a0).1) (fun _ t => ∃ (z_f8 : Nat → Nat) (z_f9 : Nat → Nat) (z_f10 : Nat → Int32) (z_f11 : Nat → Int32) (z_f12 : Nat → Int32) (z_f13 : Nat → Int32) (z_fa : Int32) (z_fat : Int32) (z_pos : Nat) (z_kd : Nat) (z_vl : Int32) (z_tka : Int32), pu_E (dC, dI) (ra__w rd z_fa z_fat tp (nI len) (nI z_pos) (nI z_kd) z_vl z_tka au rw rc rp k_ft ft k_fw fw k_fcn fcn k_fpn fpn (nI nc) (nI np) (nI ne) st0 q4 q5 q6 q7 q8 q9 q10 q11 q12 q13 q14 q15 q16 k_f4 f4 k_f5 (bN 7 q_f5) k_f6 (bN 7 q_f6) k_f7 f7 k_f8 (bN 4 z_f8) k_f9 (bN 2 z_f9) k_f10 z_f10 k_f11 z_f11 k_f12 z_f12 k_f13 z_f13 k_f14 f14 k_f15 f15 k_f16 f16) (ra__t k_ft k_fw k_fcn k_fpn k_f4 k_f5 k_f6 k_f7 k_f8 k_f9 k_f10 k_f11 k_f12 k_f13 k_f14 k_f15 k_f16) (va_A ((ra__w rd fa fat tp (nI len) (nI pos) (nI kd) vl tka au rw rc rp k_ft ft k_fw fw k_fcn fcn k_fpn fpn (nI nc) (nI np) (nI ne) st0 q4 q5 q6 q7 q8 q9 q10 q11 q12 q13 q14 q15 q16 k_f4 f4 k_f5 (bN 7 q_f5) k_f6 (bN 7 q_f6) k_f7 f7 k_f8 (bN 4 q_f8) k_f9 (bN 2 q_f9) k_f10 f10 k_f11 f11 k_f12 f12 k_f13 f13 k_f14 f14 k_f15 f15 k_f16 f16)) sz) t ∧ (z_pos ≤ 900) ∧ (z_kd ≤ 15) ∧ (co a0 q_f8 z_f8) ∧ ((z_f8, z_f9, z_f10, z_f11, z_f12, z_f13, z_fa, z_fat, z_pos, z_kd, z_vl, z_tka) = (sp_E_4_readsConditions_14 fa fat len pos kd vl tka ft fw fcn nc q_f8 q_f9 f10 f11 f12 f13 a0).2)) (va_A ((ra__w rd fa fat tp (nI len) (nI pos) (nI kd) vl tka au rw rc rp k_ft ft k_fw fw k_fcn fcn k_fpn fpn (nI nc) (nI np) (nI ne) st0 q4 q5 q6 q7 q8 q9 q10 q11 q12 q13 q14 q15 q16 k_f4 f4 k_f5 (bN 7 q_f5) k_f6 (bN 7 q_f6) k_f7 f7 k_f8 (bN 4 q_f8) k_f9 (bN 2 q_f9) k_f10 f10 k_f11 f11 k_f12 f12 k_f13 f13 k_f14 f14 k_f15 f15 k_f16 f16)) sz)) 0 0 (va_A ((ra__w rd fa fat tp (nI len) (nI pos) (nI kd) vl tka au rw rc rp k_ft ft k_fw fw k_fcn fcn k_fpn fpn (nI nc) (nI np) (nI ne) st0 q4 q5 q6 q7 q8 q9 q10 q11 q12 q13 q14 q15 q16 k_f4 f4 k_f5 (bN 7 q_f5) k_f6 (bN 7 q_f6) k_f7 f7 k_f8 (bN 4 q_f8) k_f9 (bN 2 q_f9) k_f10 f10 k_f11 f11 k_f12 f12 k_f13 f13 k_f14 f14 k_f15 f15 k_f16 f16)) sz) := by
  refine Met.ofW (cc := cX4_readsConditions) (maxL := 7) (ret := (some .boolean)) (by decide) rfl ?_
  intro p e s m args below meth c s₁ B hml hv
  obtain ⟨rfl, rfl, hP, hK, hD0⟩ := hv
  have hx := B.exec
  have hb := B.bytes
  have hr := B.returns
  have hts := atoms_spec (ws := vs_E_4_readsConditions_14) B.pre
  have v_1 := hts (.fieldLink RX4 78 "ClockReach$Reader" "kind" "I") (List.mem_cons_of_mem _ cm_222)
  have v_7 := hts (.fieldLink RX4 39 "ClockReach$Reader" "clockNames" "[I") (List.mem_cons_of_mem _ cm_254)
  have v_8 := hts (.fieldLink RX4 66 "ClockReach$Reader" "into" "LClockReach$Automaton;") (List.mem_cons_of_mem _ cm_221)
  have v_9 := hts (.fieldLink RX4 121 "ClockReach$Automaton" "clocks" "I") (List.mem_cons_of_mem _ cm_253)
  have v_18 := hts (.fieldLink RX4 127 "ClockReach$Reader" "value" "I") (List.mem_cons_of_mem _ cm_239)
  have hown : s.vm.findClass RX4 = some m.cls := findClass_of_methodNamed B.named
  have hlocks := B.notSynchronized
  have hiX0 : ∀ w ∈ wsX00, w ∈ vs_E_4_readsConditions_14 := fun _ h => List.mem_cons_of_mem _ (cm_X0 h)
  have hiX4 : ∀ w ∈ wsX40, w ∈ vs_E_4_readsConditions_14 := fun _ h => List.mem_cons_of_mem _ (cm_X4 h)
  have hD := hD0.self (sz := s.heap.size)
  generalize hAe : va_A ((ra__w rd fa fat tp (nI len) (nI pos) (nI kd) vl tka au rw rc rp k_ft ft k_fw fw k_fcn fcn k_fpn fpn (nI nc) (nI np) (nI ne) st0 q4 q5 q6 q7 q8 q9 q10 q11 q12 q13 q14 q15 q16 k_f4 f4 k_f5 (bN 7 q_f5) k_f6 (bN 7 q_f6) k_f7 f7 k_f8 (bN 4 q_f8) k_f9 (bN 2 q_f9) k_f10 f10 k_f11 f11 k_f12 f12 k_f13 f13 k_f14 f14 k_f15 f15 k_f16 f16)) s.heap.size = A at hD ⊢
  have hA : ∀ q : Nat, s.heap.size ≤ q → A q := fun q h => by rw [← hAe]; exact Or.inr h
  have hS : va_S A s.heap s.heap [] := va_S.rf
  have hl := lv_entry ([.ref rd, .int (nI a0), .int 14, .int 4]) (n := 7) (Nat.le_of_ble_eq_true rfl)
  rw [lg_entry_eq]
  generalize (lg_sl ([.ref rd, .int (nI a0), .int 14, .int 4]) ++ List.replicate (7 - (lg_sl ([.ref rd, .int (nI a0), .int 14, .int 4])).length) Slot.unset).toArray = ls at hl ⊢
  have hl : lv_has ls 7 [(0, .ref rd), (1, .int (nI a0)), (2, .int 14), (3, .int 4)] := hl
  obtain ⟨RR, hRR⟩ : ∃ x, x = (sp_E_4_readsConditions_14 fa fat len pos kd vl tka ft fw fcn nc q_f8 q_f9 f10 f11 f12 f13 a0) := ⟨_, rfl⟩
  have hsp := hRR
  refine lv_iconst (v := 0) hx hb eX4_readsConditions_0 (by decide) ?_
  refine lv_istore (lv' := [(4, .int 0), (0, .ref rd), (1, .int (nI a0)), (2, .int 14), (3, .int 4)]) hx hb eX4_readsConditions_1 hl (by decide) rfl (fun ls hl => ?_)
  obtain ⟨lf_32, dlf_32, hlf_32, hsp⟩ := itr_ex hsp
  delta sp_E_4_readsConditions_14_L1 at hlf_32
  refine pu_while (fun nn H locs ls => ∃ (g_16 : Nat → Nat) (g_17 : Nat → Nat) (g_18 : Nat → Int32) (g_19 : Nat → Int32) (g_20 : Nat → Int32) (g_21 : Nat → Int32) (g_22 : Int32) (g_23 : Int32) (g_24 : Nat) (g_25 : Nat) (g_26 : Int32) (g_27 : Int32) (g_28 : Nat), nn = 4 - g_28 ∧ g_24 ≤ 900 ∧ g_25 ≤ 15 ∧ g_28 ≤ 4 ∧ bN 4 g_16 (nI a0).toNatClampNeg = nI g_28 ∧ co a0 q_f8 g_16 ∧ RR = itrv dlf_32 lf_32 (g_16, g_17, g_18, g_19, g_20, g_21, g_22, g_23, g_24, g_25, g_26, g_27, g_28) ∧ va_P (dC, dI) vwCl (ra__w rd g_22 g_23 tp (nI len) (nI g_24) (nI g_25) g_26 g_27 au rw rc rp k_ft ft k_fw fw k_fcn fcn k_fpn fpn (nI nc) (nI np) (nI ne) st0 q4 q5 q6 q7 q8 q9 q10 q11 q12 q13 q14 q15 q16 k_f4 f4 k_f5 (bN 7 q_f5) k_f6 (bN 7 q_f6) k_f7 f7 k_f8 (bN 4 g_16) k_f9 (bN 2 g_17) k_f10 g_18 k_f11 g_19 k_f12 g_20 k_f13 g_21 k_f14 f14 k_f15 f15 k_f16 f16) H ∧ va_D A (ra__w rd g_22 g_23 tp (nI len) (nI g_24) (nI g_25) g_26 g_27 au rw rc rp k_ft ft k_fw fw k_fcn fcn k_fpn fpn (nI nc) (nI np) (nI ne) st0 q4 q5 q6 q7 q8 q9 q10 q11 q12 q13 q14 q15 q16 k_f4 f4 k_f5 (bN 7 q_f5) k_f6 (bN 7 q_f6) k_f7 f7 k_f8 (bN 4 g_16) k_f9 (bN 2 g_17) k_f10 g_18 k_f11 g_19 k_f12 g_20 k_f13 g_21 k_f14 f14 k_f15 f15 k_f16 f16) ∧ va_S A s.heap H locs ∧ lv_has ls 7 [(0, .ref rd), (1, .int (nI a0)), (2, .int 14), (3, .int 4), (4, .int (nI g_28))]) 3 ?_ _ _ _ _ ⟨q_f8, q_f9, f10, f11, f12, f13, fa, fat, pos, kd, vl, tka, 0, rfl, hpos, hkd, (Nat.le_of_ble_eq_true rfl), by assumption, by first | assumption | exact co_refl | exact co_trans (by assumption) (by assumption), hsp, hP, hD, hS, lv_sub hl [1, 2, 3, 4, 0] rfl⟩
  rintro nn ih_31 H locs ls ⟨g_16, g_17, g_18, g_19, g_20, g_21, g_22, g_23, g_24, g_25, g_26, g_27, g_28, rfl, hg_24, hg_25, hg_28, he_29, he_30, he_34, hP, hD, hS, hl⟩
  obtain ⟨S_33, hsp, hin_35, hout_36⟩ := itr_step hlf_32 he_34
  refine lv_iload hx hb eX4_readsConditions_3 (lv_at hl 4 rfl) ?_
  refine lv_iload_n hx hb eX4_readsConditions_5 rfl (lv_at hl 3 rfl) ?_
  refine lv_icmp_gt (tgt := 141) hx hb eX4_readsConditions_6 (by decide) (fun c_37 => ?_) (fun c_37 => ?_)
  · have c_37 : 4 < g_28 := (nI_ltI (a := 4) (b := g_28) (Nat.le_of_ble_eq_true rfl) (Nat.lt_of_le_of_lt hg_28 (Nat.le_of_ble_eq_true rfl))).mp c_37
    exfalso
    omega
  · have c_37 : ¬ 4 < g_28 := fun z => c_37 ((nI_ltI (a := 4) (b := g_28) (Nat.le_of_ble_eq_true rfl) (Nat.lt_of_le_of_lt hg_28 (Nat.le_of_ble_eq_true rfl))).mpr z)
    refine lv_aload_n hx hb eX4_readsConditions_9 rfl (lv_at hl 0 rfl) ?_
    refine va_get (D := (dC, dI)) (ci := 4) (v := .int (nI g_25)) (C := RX4) (T := TX4) (N := 12) hx hb hts hiX4 hown hK hP 0 rfl rfl 5 (by decide) v_1 (fun _ h9 => h9) rfl eX4_readsConditions_10 ?_
    refine lv_iload_n hx hb eX4_readsConditions_13 rfl (lv_at hl 2 rfl) ?_
    refine lv_icmp_ne (tgt := 141) hx hb eX4_readsConditions_14 (by decide) (fun c_38 => ?_) (fun c_38 => ?_)
    · have c_38 : ¬ g_25 = 14 := fun z => c_38 ((nI_eq (a := g_25) (b := 14) (Nat.lt_of_le_of_lt hg_25 (Nat.le_of_ble_eq_true rfl)) (Nat.le_of_ble_eq_true rfl)).mpr z)
      have hsp := hsp.trans (if_neg c_38)
      have hsp := hout_36 _ hsp
      refine lv_iconst (v := 1) hx hb eX4_readsConditions_141 (by decide) ?_
      exact W.zret (v := 1) (ty := .boolean) hx hb hr (rfl) (fun t ht hW => ⟨⟨1, (), rfl, ⟨1, (Nat.le_of_ble_eq_true rfl), rfl, (congrArg Prod.fst (hsp.symm.trans hRR))⟩, ⟨g_16, g_17, g_18, g_19, g_20, g_21, g_22, g_23, g_24, g_25, g_26, g_27, ⟨by rw [ht]; exact hP, va_K.moved hW.alike hK, hD⟩, hg_24, hg_25, by first | assumption | exact co_refl | exact co_trans (by assumption) (by assumption), (congrArg Prod.snd (hsp.symm.trans hRR))⟩⟩, hS.F ht⟩) hS.2.2 eX4_readsConditions_142
    · have c_38 : g_25 = 14 := (nI_eq (a := g_25) (b := 14) (Nat.lt_of_le_of_lt hg_25 (Nat.le_of_ble_eq_true rfl)) (Nat.le_of_ble_eq_true rfl)).mp c_38
      have hsp := hsp.trans (if_pos c_38)
      refine lv_iload hx hb eX4_readsConditions_17 (lv_at hl 4 rfl) ?_
      refine lv_iload_n hx hb eX4_readsConditions_19 rfl (lv_at hl 3 rfl) ?_
      refine lv_icmp_ne (tgt := 29) hx hb eX4_readsConditions_20 (by decide) (fun c_39 => ?_) (fun c_39 => ?_)
      · have c_39 : ¬ g_28 = 4 := fun z => c_39 ((nI_eq (a := g_28) (b := 4) (Nat.lt_of_le_of_lt hg_28 (Nat.le_of_ble_eq_true rfl)) (Nat.le_of_ble_eq_true rfl)).mpr z)
        have hsp := hsp.trans (if_neg c_39)
        refine lv_aload_n hx hb eX4_readsConditions_29 rfl (lv_at hl 0 rfl) ?_
        have hPc : va_P (dC, dI) vwCl (rd__w rd g_22 g_23 tp (nI len) (nI g_24) (nI g_25) g_26 g_27 au rw rc rp k_ft ft k_fw fw k_fcn fcn k_fpn fpn) _ := hP.sub [0, 1, 2, 3, 4] rfl
        have hDc := hD.sub (ws' := (rd__w rd g_22 g_23 tp (nI len) (nI g_24) (nI g_25) g_26 g_27 au rw rc rp k_ft ft k_fw fw k_fcn fcn k_fpn fpn)) [0, 1, 2, 3, 4] (by decide) rfl
        have hKc : va_K (dC, dI) vwCl (rd__t k_ft k_fw k_fcn k_fpn) s := hK.sub [0, 1, 2, 3] rfl
        have hFc := pu_free hDc hS hA
        refine va_callv (va_runV (As := []) (rest := []) ⟨hx, hb, hml, hown, hts⟩ (c_E_4_advance l dC dI _ rd g_22 g_23 tp len g_24 g_25 g_26 g_27 au rw rc rp k_ft ft k_fw fw k_fcn fcn k_fpn fpn hlen hg_24 hg_25) (cwV 0 hts g_E_4_readsConditions_14_E_4_advance rfl rfl rfl (by decide +kernel) ⟨Nat.le_of_ble_eq_true rfl, Nat.le_of_ble_eq_true rfl⟩) ⟨pu_bl, va_recv hK hP (ci := 4) (q0 := 0) rfl rfl, pu_in hPc hKc hDc⟩ rfl rfl hl.1 rfl (lv_room (Nat.le_of_ble_eq_true rfl)) eX4_readsConditions_30 ⟨Nat.le_of_ble_eq_true rfl, Nat.le_of_ble_eq_true rfl⟩) hS (fun q _ h => hFc q h) hFc (fun u t H1 locs ht hvm hw hB hz1 hk1 hS => ?_)
        obtain ⟨z_pos_41, z_kd_42, z_vl_43, z_tka_44, ⟨hP1, -, hD1⟩, hz_pos_41, hz_kd_42, xr_40_0⟩ := hB
        rw [ht] at hP1
        obtain ⟨hP, hD⟩ := pj_a (X := (ra__w rd g_22 g_23 tp (nI len) (nI g_24) (nI g_25) g_26 g_27 au rw rc rp k_ft ft k_fw fw k_fcn fcn k_fpn fpn (nI nc) (nI np) (nI ne) st0 q4 q5 q6 q7 q8 q9 q10 q11 q12 q13 q14 q15 q16 k_f4 f4 k_f5 (bN 7 q_f5) k_f6 (bN 7 q_f6) k_f7 f7 k_f8 (bN 4 g_16) k_f9 (bN 2 g_17) k_f10 g_18 k_f11 g_19 k_f12 g_20 k_f13 g_21 k_f14 f14 k_f15 f15 k_f16 f16)) (X' := (ra__w rd g_22 g_23 tp (nI len) (nI z_pos_41) (nI z_kd_42) z_vl_43 z_tka_44 au rw rc rp k_ft ft k_fw fw k_fcn fcn k_fpn fpn (nI nc) (nI np) (nI ne) st0 q4 q5 q6 q7 q8 q9 q10 q11 q12 q13 q14 q15 q16 k_f4 f4 k_f5 (bN 7 q_f5) k_f6 (bN 7 q_f6) k_f7 f7 k_f8 (bN 4 g_16) k_f9 (bN 2 g_17) k_f10 g_18 k_f11 g_19 k_f12 g_20 k_f13 g_21 k_f14 f14 k_f15 f15 k_f16 f16)) (wc := (rd__w rd g_22 g_23 tp (nI len) (nI g_24) (nI g_25) g_26 g_27 au rw rc rp k_ft ft k_fw fw k_fcn fcn k_fpn fpn)) (w1 := (rd__w rd g_22 g_23 tp (nI len) (nI z_pos_41) (nI z_kd_42) z_vl_43 z_tka_44 au rw rc rp k_ft ft k_fw fw k_fcn fcn k_fpn fpn)) hP hD [0, 1, 2, 3, 4] [0, 1, 2, 3, 4, 10, 11, 12, 13, 14, 15, 16, 17, 18, 19, 20, 21, 22, 23] 5 rfl hk1 hP1 rfl rfl rfl (by decide)
        clear hP1 hD1 hFc hPc hDc hKc
        clear hk1 hz1 ht hvm
        generalize H1 = H at hP hS ⊢
        have hsp := hsp.trans (slet_eq xr_40_0)
        refine lv_aload_n hx hb eX4_readsConditions_33 rfl (lv_at hl 0 rfl) ?_
        refine lv_aload_n hx hb eX4_readsConditions_34 rfl (lv_at hl 0 rfl) ?_
        refine va_get (D := (dC, dI)) (ci := 4) (v := .ref rc) (C := RX4) (T := TX4) (N := 12) hx hb hts hiX4 hown hK hP 0 rfl rfl 10 (by decide) v_7 (fun _ h9 => h9) rfl eX4_readsConditions_35 ?_
        refine lv_aload_n hx hb eX4_readsConditions_38 rfl (lv_at hl 0 rfl) ?_
        refine va_get (D := (dC, dI)) (ci := 4) (v := .ref au) (C := RX4) (T := TX4) (N := 12) hx hb hts hiX4 hown hK hP 0 rfl rfl 8 (by decide) v_8 (fun _ h9 => h9) rfl eX4_readsConditions_39 ?_
        refine va_get (D := (dC, dI)) (ci := 0) (v := .int (nI nc)) (C := RX0) (T := TX0) (N := 17) hx hb hts hiX0 hown hK hP 5 rfl rfl 0 (by decide) v_9 (fun _ h9 => h9) rfl eX4_readsConditions_42 ?_
        have hPc : va_P (dC, dI) vwCl (rd__w rd g_22 g_23 tp (nI len) (nI z_pos_41) (nI z_kd_42) z_vl_43 z_tka_44 au rw rc rp k_ft ft k_fw fw k_fcn fcn k_fpn fpn) _ := hP.sub [0, 1, 2, 3, 4] rfl
        have hDc := hD.sub (ws' := (rd__w rd g_22 g_23 tp (nI len) (nI z_pos_41) (nI z_kd_42) z_vl_43 z_tka_44 au rw rc rp k_ft ft k_fw fw k_fcn fcn k_fpn fpn)) [0, 1, 2, 3, 4] (by decide) rfl
        have hKc : va_K (dC, dI) vwCl (rd__t k_ft k_fw k_fcn k_fpn) s := hK.sub [0, 1, 2, 3] rfl
        have hFc := pu_free hDc hS hA
        refine va_calli (va_runV (As := [.ref rc, .int (nI nc)]) (rest := []) ⟨hx, hb, hml, hown, hts⟩ (c_E_4_toldName_c l dC dI _ rd g_22 g_23 tp len z_pos_41 z_kd_42 z_vl_43 z_tka_44 au rw rc rp k_ft ft k_fw fw k_fcn fcn k_fpn fpn nc hlen hz_pos_41 hz_kd_42 hnc) (cwV 2 hts g_E_4_readsConditions_14_E_4_toldName_c rfl rfl rfl (by decide +kernel) ⟨Nat.le_of_ble_eq_true rfl, Nat.le_of_ble_eq_true rfl⟩) ⟨pu_bl, va_recv hK hP (ci := 4) (q0 := 0) rfl rfl, pu_in hPc hKc hDc⟩ rfl rfl hl.1 rfl (lv_room (Nat.le_of_ble_eq_true rfl)) eX4_readsConditions_45 ⟨Nat.le_of_ble_eq_true rfl, Nat.le_of_ble_eq_true rfl⟩) hS (fun q _ h => hFc q h) hFc (fun r_45 u t H1 locs ht hvm hw hB hz1 hk1 hS => ?_)
        obtain ⟨z_fa_46, z_fat_47, ⟨hP1, -, hD1⟩, xr_45_0⟩ := hB
        rw [ht] at hP1
        obtain ⟨hP, hD⟩ := pj_a (X := (ra__w rd g_22 g_23 tp (nI len) (nI z_pos_41) (nI z_kd_42) z_vl_43 z_tka_44 au rw rc rp k_ft ft k_fw fw k_fcn fcn k_fpn fpn (nI nc) (nI np) (nI ne) st0 q4 q5 q6 q7 q8 q9 q10 q11 q12 q13 q14 q15 q16 k_f4 f4 k_f5 (bN 7 q_f5) k_f6 (bN 7 q_f6) k_f7 f7 k_f8 (bN 4 g_16) k_f9 (bN 2 g_17) k_f10 g_18 k_f11 g_19 k_f12 g_20 k_f13 g_21 k_f14 f14 k_f15 f15 k_f16 f16)) (X' := (ra__w rd z_fa_46 z_fat_47 tp (nI len) (nI z_pos_41) (nI z_kd_42) z_vl_43 z_tka_44 au rw rc rp k_ft ft k_fw fw k_fcn fcn k_fpn fpn (nI nc) (nI np) (nI ne) st0 q4 q5 q6 q7 q8 q9 q10 q11 q12 q13 q14 q15 q16 k_f4 f4 k_f5 (bN 7 q_f5) k_f6 (bN 7 q_f6) k_f7 f7 k_f8 (bN 4 g_16) k_f9 (bN 2 g_17) k_f10 g_18 k_f11 g_19 k_f12 g_20 k_f13 g_21 k_f14 f14 k_f15 f15 k_f16 f16)) (wc := (rd__w rd g_22 g_23 tp (nI len) (nI z_pos_41) (nI z_kd_42) z_vl_43 z_tka_44 au rw rc rp k_ft ft k_fw fw k_fcn fcn k_fpn fpn)) (w1 := (rd__w rd z_fa_46 z_fat_47 tp (nI len) (nI z_pos_41) (nI z_kd_42) z_vl_43 z_tka_44 au rw rc rp k_ft ft k_fw fw k_fcn fcn k_fpn fpn)) hP hD [0, 1, 2, 3, 4] [0, 1, 2, 3, 4, 10, 11, 12, 13, 14, 15, 16, 17, 18, 19, 20, 21, 22, 23] 5 rfl hk1 hP1 rfl rfl rfl (by decide)
        clear hP1 hD1 hFc hPc hDc hKc
        clear hk1 hz1 ht hvm
        generalize H1 = H at hP hS ⊢
        obtain ⟨u_48, hu_48, mu_48, iu_48⟩ := hw
        have iu_48 : (u_48, z_fa_46, z_fat_47) = (sp_E_4_toldName_c g_22 g_23 z_kd_42 z_vl_43 z_tka_44 fcn nc) := Prod.ext iu_48 xr_45_0
        have hsp := hsp.trans (slet_eq iu_48)
        rcases mI_get u_48 with ⟨zn_49, wn_49⟩ | ⟨n_49, zn_49, wn_49⟩
        · obtain rfl : r_45 = -1 := mu_48.trans wn_49
          have hsp := hsp.trans (if_pos zn_49)
          refine lv_istore (lv' := [(5, .int (-1)), (0, .ref rd), (1, .int (nI a0)), (2, .int 14), (3, .int 4), (4, .int (nI g_28))]) hx hb eX4_readsConditions_48 hl (by decide) rfl (fun ls hl => ?_)
          refine lv_iload hx hb eX4_readsConditions_50 (lv_at hl 0 rfl) ?_
          refine lv_iconst (v := (-1)) hx hb eX4_readsConditions_52 (by decide) ?_
          refine lv_icmp_ne (tgt := 58) hx hb eX4_readsConditions_53 (by decide) (fun z => absurd z (by decide)) (fun _ => ?_)
          have hsp := hout_36 _ hsp
          refine lv_iconst (v := 0) hx hb eX4_readsConditions_56 (by decide) ?_
          exact W.zret (v := 0) (ty := .boolean) hx hb hr (rfl) (fun t ht hW => ⟨⟨0, (), rfl, ⟨0, (Nat.le_of_ble_eq_true rfl), rfl, (congrArg Prod.fst (hsp.symm.trans hRR))⟩, ⟨g_16, g_17, g_18, g_19, g_20, g_21, z_fa_46, z_fat_47, z_pos_41, z_kd_42, z_vl_43, z_tka_44, ⟨by rw [ht]; exact hP, va_K.moved hW.alike hK, hD⟩, hz_pos_41, hz_kd_42, by first | assumption | exact co_refl | exact co_trans (by assumption) (by assumption), (congrArg Prod.snd (hsp.symm.trans hRR))⟩⟩, hS.F ht⟩) hS.2.2 eX4_readsConditions_57
        · obtain rfl : r_45 = nI n_49 := mu_48.trans wn_49
          have hn_49 : n_49 ≤ 2 := by omega
          have hsp := hsp.trans (if_neg (by omega))
          have hsp := hsp.trans (slet_eq (by omega : n_49 = u_48 - 1))
          refine lv_istore (lv' := [(5, .int (nI n_49)), (0, .ref rd), (1, .int (nI a0)), (2, .int 14), (3, .int 4), (4, .int (nI g_28))]) hx hb eX4_readsConditions_48 hl (by decide) rfl (fun ls hl => ?_)
          refine lv_iload hx hb eX4_readsConditions_50 (lv_at hl 0 rfl) ?_
          refine lv_iconst (v := (-1)) hx hb eX4_readsConditions_52 (by decide) ?_
          refine lv_icmp_ne (tgt := 58) hx hb eX4_readsConditions_53 (by decide) (fun _ => ?_) (fun z => absurd z (pu_nneg (n := n_49) (by omega) (by decide)))
          refine lv_aload_n hx hb eX4_readsConditions_58 rfl (lv_at hl 1 rfl) ?_
          have hPc : va_P (dC, dI) vwCl (rd__w rd z_fa_46 z_fat_47 tp (nI len) (nI z_pos_41) (nI z_kd_42) z_vl_43 z_tka_44 au rw rc rp k_ft ft k_fw fw k_fcn fcn k_fpn fpn) _ := hP.sub [0, 1, 2, 3, 4] rfl
          have hDc := hD.sub (ws' := (rd__w rd z_fa_46 z_fat_47 tp (nI len) (nI z_pos_41) (nI z_kd_42) z_vl_43 z_tka_44 au rw rc rp k_ft ft k_fw fw k_fcn fcn k_fpn fpn)) [0, 1, 2, 3, 4] (by decide) rfl
          have hKc : va_K (dC, dI) vwCl (rd__t k_ft k_fw k_fcn k_fpn) s := hK.sub [0, 1, 2, 3] rfl
          have hFc := pu_free hDc hS hA
          refine va_callv (va_runV (As := []) (rest := []) ⟨hx, hb, hml, hown, hts⟩ (c_E_4_advance l dC dI _ rd z_fa_46 z_fat_47 tp len z_pos_41 z_kd_42 z_vl_43 z_tka_44 au rw rc rp k_ft ft k_fw fw k_fcn fcn k_fpn fpn hlen hz_pos_41 hz_kd_42) (cwV 0 hts g_E_4_readsConditions_14_E_4_advance rfl rfl rfl (by decide +kernel) ⟨Nat.le_of_ble_eq_true rfl, Nat.le_of_ble_eq_true rfl⟩) ⟨pu_bl, va_recv hK hP (ci := 4) (q0 := 0) rfl rfl, pu_in hPc hKc hDc⟩ rfl rfl hl.1 rfl (lv_room (Nat.le_of_ble_eq_true rfl)) eX4_readsConditions_59 ⟨Nat.le_of_ble_eq_true rfl, Nat.le_of_ble_eq_true rfl⟩) hS (fun q _ h => hFc q h) hFc (fun u t H1 locs ht hvm hw hB hz1 hk1 hS => ?_)
          obtain ⟨z_pos_51, z_kd_52, z_vl_53, z_tka_54, ⟨hP1, -, hD1⟩, hz_pos_51, hz_kd_52, xr_50_0⟩ := hB
          rw [ht] at hP1
          obtain ⟨hP, hD⟩ := pj_a (X := (ra__w rd z_fa_46 z_fat_47 tp (nI len) (nI z_pos_41) (nI z_kd_42) z_vl_43 z_tka_44 au rw rc rp k_ft ft k_fw fw k_fcn fcn k_fpn fpn (nI nc) (nI np) (nI ne) st0 q4 q5 q6 q7 q8 q9 q10 q11 q12 q13 q14 q15 q16 k_f4 f4 k_f5 (bN 7 q_f5) k_f6 (bN 7 q_f6) k_f7 f7 k_f8 (bN 4 g_16) k_f9 (bN 2 g_17) k_f10 g_18 k_f11 g_19 k_f12 g_20 k_f13 g_21 k_f14 f14 k_f15 f15 k_f16 f16)) (X' := (ra__w rd z_fa_46 z_fat_47 tp (nI len) (nI z_pos_51) (nI z_kd_52) z_vl_53 z_tka_54 au rw rc rp k_ft ft k_fw fw k_fcn fcn k_fpn fpn (nI nc) (nI np) (nI ne) st0 q4 q5 q6 q7 q8 q9 q10 q11 q12 q13 q14 q15 q16 k_f4 f4 k_f5 (bN 7 q_f5) k_f6 (bN 7 q_f6) k_f7 f7 k_f8 (bN 4 g_16) k_f9 (bN 2 g_17) k_f10 g_18 k_f11 g_19 k_f12 g_20 k_f13 g_21 k_f14 f14 k_f15 f15 k_f16 f16)) (wc := (rd__w rd z_fa_46 z_fat_47 tp (nI len) (nI z_pos_41) (nI z_kd_42) z_vl_43 z_tka_44 au rw rc rp k_ft ft k_fw fw k_fcn fcn k_fpn fpn)) (w1 := (rd__w rd z_fa_46 z_fat_47 tp (nI len) (nI z_pos_51) (nI z_kd_52) z_vl_53 z_tka_54 au rw rc rp k_ft ft k_fw fw k_fcn fcn k_fpn fpn)) hP hD [0, 1, 2, 3, 4] [0, 1, 2, 3, 4, 10, 11, 12, 13, 14, 15, 16, 17, 18, 19, 20, 21, 22, 23] 5 rfl hk1 hP1 rfl rfl rfl (by decide)
          clear hP1 hD1 hFc hPc hDc hKc
          clear hk1 hz1 ht hvm
          generalize H1 = H at hP hS ⊢
          have hsp := hsp.trans (slet_eq xr_50_0)
          refine lv_aload_n hx hb eX4_readsConditions_62 rfl (lv_at hl 1 rfl) ?_
          refine lv_iload_n hx hb eX4_readsConditions_63 rfl (lv_at hl 3 rfl) ?_
          refine lv_bipush (v := 11) hx hb eX4_readsConditions_64 (by decide) ?_
          refine lv_icmp_ne (tgt := 73) hx hb eX4_readsConditions_66 (by decide) (fun _ => ?_) (fun z => absurd z (by decide))
          refine lv_iconst (v := 0) hx hb eX4_readsConditions_73 (by decide) ?_
          have hPc : va_P (dC, dI) vwCl (rd__w rd z_fa_46 z_fat_47 tp (nI len) (nI z_pos_51) (nI z_kd_52) z_vl_53 z_tka_54 au rw rc rp k_ft ft k_fw fw k_fcn fcn k_fpn fpn) _ := hP.sub [0, 1, 2, 3, 4] rfl
          have hDc := hD.sub (ws' := (rd__w rd z_fa_46 z_fat_47 tp (nI len) (nI z_pos_51) (nI z_kd_52) z_vl_53 z_tka_54 au rw rc rp k_ft ft k_fw fw k_fcn fcn k_fpn fpn)) [0, 1, 2, 3, 4] (by decide) rfl
          have hKc : va_K (dC, dI) vwCl (rd__t k_ft k_fw k_fcn k_fpn) s := hK.sub [0, 1, 2, 3] rfl
          have hFc := pu_free hDc hS hA
          refine va_calli (va_runV (As := [.int 0]) (rest := []) ⟨hx, hb, hml, hown, hts⟩ (c_E_4_readHow l dC dI _ rd z_fa_46 z_fat_47 tp len z_pos_51 z_kd_52 z_vl_53 z_tka_54 au rw rc rp k_ft ft k_fw fw k_fcn fcn k_fpn fpn 0 hlen hz_pos_51 hz_kd_52 (Nat.le_of_ble_eq_true rfl)) (cwV 1 hts g_E_4_readsConditions_14_E_4_readHow rfl rfl rfl (by decide +kernel) ⟨Nat.le_of_ble_eq_true rfl, Nat.le_of_ble_eq_true rfl⟩) ⟨pu_bl, va_recv hK hP (ci := 4) (q0 := 0) rfl rfl, pu_in hPc hKc hDc⟩ rfl rfl hl.1 rfl (lv_room (Nat.le_of_ble_eq_true rfl)) eX4_readsConditions_74 ⟨Nat.le_of_ble_eq_true rfl, Nat.le_of_ble_eq_true rfl⟩) hS (fun q _ h => hFc q h) hFc (fun r_55 u t H1 locs ht hvm hw hB hz1 hk1 hS => ?_)
          obtain ⟨z_fa_56, z_fat_57, z_pos_58, z_kd_59, z_vl_60, z_tka_61, ⟨hP1, -, hD1⟩, hz_pos_58, hz_kd_59, xr_55_0⟩ := hB
          rw [ht] at hP1
          obtain ⟨hP, hD⟩ := pj_a (X := (ra__w rd z_fa_46 z_fat_47 tp (nI len) (nI z_pos_51) (nI z_kd_52) z_vl_53 z_tka_54 au rw rc rp k_ft ft k_fw fw k_fcn fcn k_fpn fpn (nI nc) (nI np) (nI ne) st0 q4 q5 q6 q7 q8 q9 q10 q11 q12 q13 q14 q15 q16 k_f4 f4 k_f5 (bN 7 q_f5) k_f6 (bN 7 q_f6) k_f7 f7 k_f8 (bN 4 g_16) k_f9 (bN 2 g_17) k_f10 g_18 k_f11 g_19 k_f12 g_20 k_f13 g_21 k_f14 f14 k_f15 f15 k_f16 f16)) (X' := (ra__w rd z_fa_56 z_fat_57 tp (nI len) (nI z_pos_58) (nI z_kd_59) z_vl_60 z_tka_61 au rw rc rp k_ft ft k_fw fw k_fcn fcn k_fpn fpn (nI nc) (nI np) (nI ne) st0 q4 q5 q6 q7 q8 q9 q10 q11 q12 q13 q14 q15 q16 k_f4 f4 k_f5 (bN 7 q_f5) k_f6 (bN 7 q_f6) k_f7 f7 k_f8 (bN 4 g_16) k_f9 (bN 2 g_17) k_f10 g_18 k_f11 g_19 k_f12 g_20 k_f13 g_21 k_f14 f14 k_f15 f15 k_f16 f16)) (wc := (rd__w rd z_fa_46 z_fat_47 tp (nI len) (nI z_pos_51) (nI z_kd_52) z_vl_53 z_tka_54 au rw rc rp k_ft ft k_fw fw k_fcn fcn k_fpn fpn)) (w1 := (rd__w rd z_fa_56 z_fat_57 tp (nI len) (nI z_pos_58) (nI z_kd_59) z_vl_60 z_tka_61 au rw rc rp k_ft ft k_fw fw k_fcn fcn k_fpn fpn)) hP hD [0, 1, 2, 3, 4] [0, 1, 2, 3, 4, 10, 11, 12, 13, 14, 15, 16, 17, 18, 19, 20, 21, 22, 23] 5 rfl hk1 hP1 rfl rfl rfl (by decide)
          clear hP1 hD1 hFc hPc hDc hKc
          clear hk1 hz1 ht hvm
          generalize H1 = H at hP hS ⊢
          obtain ⟨u_62, hu_62, mu_62, iu_62⟩ := hw
          have iu_62 : (u_62, z_fa_56, z_fat_57, z_pos_58, z_kd_59, z_vl_60, z_tka_61) = (sp_E_4_readHow z_fa_46 z_fat_47 len z_pos_51 z_kd_52 z_vl_53 z_tka_54 ft fw 0) := Prod.ext iu_62 xr_55_0
          have hsp := hsp.trans (slet_eq iu_62)
          rcases mI_get u_62 with ⟨zn_63, wn_63⟩ | ⟨n_63, zn_63, wn_63⟩
          · obtain rfl : r_55 = -1 := mu_62.trans wn_63
            have hsp := hsp.trans (if_pos zn_63)
            refine lv_istore (lv' := [(6, .int (-1)), (5, .int (nI n_49)), (0, .ref rd), (1, .int (nI a0)), (2, .int 14), (3, .int 4), (4, .int (nI g_28))]) hx hb eX4_readsConditions_77 hl (by decide) rfl (fun ls hl => ?_)
            refine lv_iload hx hb eX4_readsConditions_79 (lv_at hl 0 rfl) ?_
            refine lv_iconst (v := (-1)) hx hb eX4_readsConditions_81 (by decide) ?_
            refine lv_icmp_ne (tgt := 87) hx hb eX4_readsConditions_82 (by decide) (fun z => absurd z (by decide)) (fun _ => ?_)
            have hsp := hout_36 _ hsp
            refine lv_iconst (v := 0) hx hb eX4_readsConditions_85 (by decide) ?_
            exact W.zret (v := 0) (ty := .boolean) hx hb hr (rfl) (fun t ht hW => ⟨⟨0, (), rfl, ⟨0, (Nat.le_of_ble_eq_true rfl), rfl, (congrArg Prod.fst (hsp.symm.trans hRR))⟩, ⟨g_16, g_17, g_18, g_19, g_20, g_21, z_fa_56, z_fat_57, z_pos_58, z_kd_59, z_vl_60, z_tka_61, ⟨by rw [ht]; exact hP, va_K.moved hW.alike hK, hD⟩, hz_pos_58, hz_kd_59, by first | assumption | exact co_refl | exact co_trans (by assumption) (by assumption), (congrArg Prod.snd (hsp.symm.trans hRR))⟩⟩, hS.F ht⟩) hS.2.2 eX4_readsConditions_86
          · obtain rfl : r_55 = nI n_63 := mu_62.trans wn_63
            have hn_63 : n_63 ≤ 4 := by omega
            have hsp := hsp.trans (if_neg (by omega))
            have hsp := hsp.trans (slet_eq (by omega : n_63 = u_62 - 1))
            refine lv_istore (lv' := [(6, .int (nI n_63)), (5, .int (nI n_49)), (0, .ref rd), (1, .int (nI a0)), (2, .int 14), (3, .int 4), (4, .int (nI g_28))]) hx hb eX4_readsConditions_77 hl (by decide) rfl (fun ls hl => ?_)
            refine lv_iload hx hb eX4_readsConditions_79 (lv_at hl 0 rfl) ?_
            refine lv_iconst (v := (-1)) hx hb eX4_readsConditions_81 (by decide) ?_
            refine lv_icmp_ne (tgt := 87) hx hb eX4_readsConditions_82 (by decide) (fun _ => ?_) (fun z => absurd z (pu_nneg (n := n_63) (by omega) (by decide)))
            refine lv_aload_n hx hb eX4_readsConditions_87 rfl (lv_at hl 2 rfl) ?_
            refine va_get (D := (dC, dI)) (ci := 4) (v := .int (nI z_kd_59)) (C := RX4) (T := TX4) (N := 12) hx hb hts hiX4 hown hK hP 0 rfl rfl 5 (by decide) v_1 (fun _ h9 => h9) rfl eX4_readsConditions_88 ?_
            refine lv_iconst (v := 3) hx hb eX4_readsConditions_91 (by decide) ?_
            refine lv_icmp_eq (tgt := 100) hx hb eX4_readsConditions_92 (by decide) (fun c_64 => ?_) (fun c_64 => ?_)
            · have c_64 : z_kd_59 = 3 := (nI_eq (a := z_kd_59) (b := 3) (Nat.lt_of_le_of_lt hz_kd_59 (Nat.le_of_ble_eq_true rfl)) (Nat.le_of_ble_eq_true rfl)).mp c_64
              have hsp := hsp.trans (if_pos c_64)
              refine lv_aload_n hx hb eX4_readsConditions_100 rfl (lv_at hl 2 rfl) ?_
              refine va_get (D := (dC, dI)) (ci := 4) (v := .int z_vl_60) (C := RX4) (T := TX4) (N := 12) hx hb hts hiX4 hown hK hP 0 rfl rfl 6 (by decide) v_18 (fun _ h9 => h9) rfl eX4_readsConditions_101 ?_
              refine lv_bipush (v := 20) hx hb eX4_readsConditions_104 (by decide) ?_
              refine lv_icmp_le (tgt := 115) hx hb eX4_readsConditions_106 (by decide) (fun c_65 => ?_) (fun c_65 => ?_)
              · have hcc_65 := c_65
                have hsp := hsp.trans (if_pos c_65)
                refine lv_aload_n hx hb eX4_readsConditions_115 rfl (lv_at hl 2 rfl) ?_
                refine va_get (D := (dC, dI)) (ci := 4) (v := .ref au) (C := RX4) (T := TX4) (N := 12) hx hb hts hiX4 hown hK hP 0 rfl rfl 8 (by decide) v_8 (fun _ h9 => h9) rfl eX4_readsConditions_116 ?_
                refine lv_iload_n hx hb eX4_readsConditions_119 rfl (lv_at hl 3 rfl) ?_
                refine lv_iload hx hb eX4_readsConditions_120 (lv_at hl 1 rfl) ?_
                refine lv_iload hx hb eX4_readsConditions_122 (lv_at hl 0 rfl) ?_
                refine lv_aload_n hx hb eX4_readsConditions_124 rfl (lv_at hl 2 rfl) ?_
                refine va_get (D := (dC, dI)) (ci := 4) (v := .int z_vl_60) (C := RX4) (T := TX4) (N := 12) hx hb hts hiX4 hown hK hP 0 rfl rfl 6 (by decide) v_18 (fun _ h9 => h9) rfl eX4_readsConditions_125 ?_
                have hPc : va_P (dC, dI) vwCl (au__w au (nI nc) (nI np) (nI ne) st0 q4 q5 q6 q7 q8 q9 q10 q11 q12 q13 q14 q15 q16 k_f4 f4 k_f5 (bN 7 q_f5) k_f6 (bN 7 q_f6) k_f7 f7 k_f8 (bN 4 g_16) k_f9 (bN 2 g_17) k_f10 g_18 k_f11 g_19 k_f12 g_20 k_f13 g_21 k_f14 f14 k_f15 f15 k_f16 f16) _ := hP.sub [5, 6, 7, 8, 9, 10, 11, 12, 13, 14, 15, 16, 17, 18] rfl
                have hDc := hD.sub (ws' := (au__w au (nI nc) (nI np) (nI ne) st0 q4 q5 q6 q7 q8 q9 q10 q11 q12 q13 q14 q15 q16 k_f4 f4 k_f5 (bN 7 q_f5) k_f6 (bN 7 q_f6) k_f7 f7 k_f8 (bN 4 g_16) k_f9 (bN 2 g_17) k_f10 g_18 k_f11 g_19 k_f12 g_20 k_f13 g_21 k_f14 f14 k_f15 f15 k_f16 f16)) [5, 6, 7, 8, 9, 10, 11, 12, 13, 14, 15, 16, 17, 18] (by decide) rfl
                have hKc : va_K (dC, dI) vwCl (au__t k_f4 k_f5 k_f6 k_f7 k_f8 k_f9 k_f10 k_f11 k_f12 k_f13 k_f14 k_f15 k_f16) s := hK.sub [4, 5, 6, 7, 8, 9, 10, 11, 12, 13, 14, 15, 16] rfl
                have hFc := pu_free hDc hS hA
                refine va_callv (va_runV (As := [.int (nI a0), .int (nI n_49), .int (nI n_63), .int z_vl_60]) (rest := []) ⟨hx, hb, hml, hown, hts⟩ (c_E_0_addCondition l dC dI _ au nc np ne st0 q4 q5 q6 q7 q8 q9 q10 q11 q12 q13 q14 q15 q16 k_f4 f4 k_f5 q_f5 k_f6 q_f6 k_f7 f7 k_f8 g_16 k_f9 g_17 k_f10 g_18 k_f11 g_19 k_f12 g_20 k_f13 g_21 k_f14 f14 k_f15 f15 k_f16 f16 a0 n_49 (nI n_63) z_vl_60 g_28 (by omega) hnc hnp hne (hst0) ha0 hn_49 (by assumption)) (cwV 4 hts g_E_4_readsConditions_14_E_0_addCondition rfl rfl rfl (by decide +kernel) ⟨Nat.le_of_ble_eq_true rfl, Nat.le_of_ble_eq_true rfl⟩) ⟨pu_bl, va_recv hK hP (ci := 0) (q0 := 5) rfl rfl, pu_in hPc hKc hDc⟩ rfl rfl hl.1 rfl (lv_room (Nat.le_of_ble_eq_true rfl)) eX4_readsConditions_128 ⟨Nat.le_of_ble_eq_true rfl, Nat.le_of_ble_eq_true rfl⟩) hS (fun q _ h => hFc q h) hFc (fun u t H1 locs ht hvm hw hB hz1 hk1 hS => ?_)
                obtain ⟨z_f13_67, z_f8_68, z_f9_69, z_f10_70, z_f11_71, z_f12_72, ⟨hP1, -, hD1⟩, xr_66_0, xr_66_1, xr_66_2⟩ := hB
                rw [ht] at hP1
                obtain ⟨hP, hD⟩ := pj_a (X := (ra__w rd z_fa_56 z_fat_57 tp (nI len) (nI z_pos_58) (nI z_kd_59) z_vl_60 z_tka_61 au rw rc rp k_ft ft k_fw fw k_fcn fcn k_fpn fpn (nI nc) (nI np) (nI ne) st0 q4 q5 q6 q7 q8 q9 q10 q11 q12 q13 q14 q15 q16 k_f4 f4 k_f5 (bN 7 q_f5) k_f6 (bN 7 q_f6) k_f7 f7 k_f8 (bN 4 g_16) k_f9 (bN 2 g_17) k_f10 g_18 k_f11 g_19 k_f12 g_20 k_f13 g_21 k_f14 f14 k_f15 f15 k_f16 f16)) (X' := (ra__w rd z_fa_56 z_fat_57 tp (nI len) (nI z_pos_58) (nI z_kd_59) z_vl_60 z_tka_61 au rw rc rp k_ft ft k_fw fw k_fcn fcn k_fpn fpn (nI nc) (nI np) (nI ne) st0 q4 q5 q6 q7 q8 q9 q10 q11 q12 q13 q14 q15 q16 k_f4 f4 k_f5 (bN 7 q_f5) k_f6 (bN 7 q_f6) k_f7 f7 k_f8 (bN 4 z_f8_68) k_f9 (bN 2 z_f9_69) k_f10 z_f10_70 k_f11 z_f11_71 k_f12 z_f12_72 k_f13 z_f13_67 k_f14 f14 k_f15 f15 k_f16 f16)) (wc := (au__w au (nI nc) (nI np) (nI ne) st0 q4 q5 q6 q7 q8 q9 q10 q11 q12 q13 q14 q15 q16 k_f4 f4 k_f5 (bN 7 q_f5) k_f6 (bN 7 q_f6) k_f7 f7 k_f8 (bN 4 g_16) k_f9 (bN 2 g_17) k_f10 g_18 k_f11 g_19 k_f12 g_20 k_f13 g_21 k_f14 f14 k_f15 f15 k_f16 f16)) (w1 := (au__w au (nI nc) (nI np) (nI ne) st0 q4 q5 q6 q7 q8 q9 q10 q11 q12 q13 q14 q15 q16 k_f4 f4 k_f5 (bN 7 q_f5) k_f6 (bN 7 q_f6) k_f7 f7 k_f8 (bN 4 z_f8_68) k_f9 (bN 2 z_f9_69) k_f10 z_f10_70 k_f11 z_f11_71 k_f12 z_f12_72 k_f13 z_f13_67 k_f14 f14 k_f15 f15 k_f16 f16)) hP hD [5, 6, 7, 8, 9, 10, 11, 12, 13, 14, 15, 16, 17, 18] [14, 15, 16, 17, 18, 0, 1, 2, 3, 4, 5, 6, 7, 8, 9, 10, 11, 12, 13] 14 rfl hk1 hP1 rfl rfl rfl (by decide)
                clear hP1 hD1 hFc hPc hDc hKc
                clear hk1 hz1 ht hvm
                generalize H1 = H at hP hS ⊢
                have hsp := hsp.trans (slet_eq xr_66_2)
                refine lv_aload_n hx hb eX4_readsConditions_131 rfl (lv_at hl 2 rfl) ?_
                have hPc : va_P (dC, dI) vwCl (rd__w rd z_fa_56 z_fat_57 tp (nI len) (nI z_pos_58) (nI z_kd_59) z_vl_60 z_tka_61 au rw rc rp k_ft ft k_fw fw k_fcn fcn k_fpn fpn) _ := hP.sub [0, 1, 2, 3, 4] rfl
                have hDc := hD.sub (ws' := (rd__w rd z_fa_56 z_fat_57 tp (nI len) (nI z_pos_58) (nI z_kd_59) z_vl_60 z_tka_61 au rw rc rp k_ft ft k_fw fw k_fcn fcn k_fpn fpn)) [0, 1, 2, 3, 4] (by decide) rfl
                have hKc : va_K (dC, dI) vwCl (rd__t k_ft k_fw k_fcn k_fpn) s := hK.sub [0, 1, 2, 3] rfl
                have hFc := pu_free hDc hS hA
                refine va_callv (va_runV (As := []) (rest := []) ⟨hx, hb, hml, hown, hts⟩ (c_E_4_advance l dC dI _ rd z_fa_56 z_fat_57 tp len z_pos_58 z_kd_59 z_vl_60 z_tka_61 au rw rc rp k_ft ft k_fw fw k_fcn fcn k_fpn fpn hlen hz_pos_58 hz_kd_59) (cwV 0 hts g_E_4_readsConditions_14_E_4_advance rfl rfl rfl (by decide +kernel) ⟨Nat.le_of_ble_eq_true rfl, Nat.le_of_ble_eq_true rfl⟩) ⟨pu_bl, va_recv hK hP (ci := 4) (q0 := 0) rfl rfl, pu_in hPc hKc hDc⟩ rfl rfl hl.1 rfl (lv_room (Nat.le_of_ble_eq_true rfl)) eX4_readsConditions_132 ⟨Nat.le_of_ble_eq_true rfl, Nat.le_of_ble_eq_true rfl⟩) hS (fun q _ h => hFc q h) hFc (fun u t H1 locs ht hvm hw hB hz1 hk1 hS => ?_)
                obtain ⟨z_pos_74, z_kd_75, z_vl_76, z_tka_77, ⟨hP1, -, hD1⟩, hz_pos_74, hz_kd_75, xr_73_0⟩ := hB
                rw [ht] at hP1
                obtain ⟨hP, hD⟩ := pj_a (X := (ra__w rd z_fa_56 z_fat_57 tp (nI len) (nI z_pos_58) (nI z_kd_59) z_vl_60 z_tka_61 au rw rc rp k_ft ft k_fw fw k_fcn fcn k_fpn fpn (nI nc) (nI np) (nI ne) st0 q4 q5 q6 q7 q8 q9 q10 q11 q12 q13 q14 q15 q16 k_f4 f4 k_f5 (bN 7 q_f5) k_f6 (bN 7 q_f6) k_f7 f7 k_f8 (bN 4 z_f8_68) k_f9 (bN 2 z_f9_69) k_f10 z_f10_70 k_f11 z_f11_71 k_f12 z_f12_72 k_f13 z_f13_67 k_f14 f14 k_f15 f15 k_f16 f16)) (X' := (ra__w rd z_fa_56 z_fat_57 tp (nI len) (nI z_pos_74) (nI z_kd_75) z_vl_76 z_tka_77 au rw rc rp k_ft ft k_fw fw k_fcn fcn k_fpn fpn (nI nc) (nI np) (nI ne) st0 q4 q5 q6 q7 q8 q9 q10 q11 q12 q13 q14 q15 q16 k_f4 f4 k_f5 (bN 7 q_f5) k_f6 (bN 7 q_f6) k_f7 f7 k_f8 (bN 4 z_f8_68) k_f9 (bN 2 z_f9_69) k_f10 z_f10_70 k_f11 z_f11_71 k_f12 z_f12_72 k_f13 z_f13_67 k_f14 f14 k_f15 f15 k_f16 f16)) (wc := (rd__w rd z_fa_56 z_fat_57 tp (nI len) (nI z_pos_58) (nI z_kd_59) z_vl_60 z_tka_61 au rw rc rp k_ft ft k_fw fw k_fcn fcn k_fpn fpn)) (w1 := (rd__w rd z_fa_56 z_fat_57 tp (nI len) (nI z_pos_74) (nI z_kd_75) z_vl_76 z_tka_77 au rw rc rp k_ft ft k_fw fw k_fcn fcn k_fpn fpn)) hP hD [0, 1, 2, 3, 4] [0, 1, 2, 3, 4, 10, 11, 12, 13, 14, 15, 16, 17, 18, 19, 20, 21, 22, 23] 5 rfl hk1 hP1 rfl rfl rfl (by decide)
                clear hP1 hD1 hFc hPc hDc hKc
                clear hk1 hz1 ht hvm
                generalize H1 = H at hP hS ⊢
                have hsp := hsp.trans (slet_eq xr_73_0)
                refine lv_iinc (v := (nI (g_28 + 1))) (lv' := [(4, .int (nI (g_28 + 1))), (6, .int (nI n_63)), (5, .int (nI n_49)), (0, .ref rd), (1, .int (nI a0)), (2, .int 14), (3, .int 4)]) hx hb eX4_readsConditions_135 hl (k := 6) rfl (nI_1 _) (by decide) rfl (fun ls hl => ?_)
                refine lv_goto (tgt := 3) hx hb eX4_readsConditions_138 (by decide) ?_
                exact ih_31 (4 - (g_28 + 1)) (by omega) _ _ _ ⟨z_f8_68, z_f9_69, z_f10_70, z_f11_71, z_f12_72, z_f13_67, z_fa_56, z_fat_57, z_pos_74, z_kd_75, z_vl_76, z_tka_77, (g_28 + 1), rfl, hz_pos_74, hz_kd_75, (by omega), by assumption, by first | assumption | exact co_refl | exact co_trans (by assumption) (by assumption), hin_35 _ hsp, hP, hD, hS, lv_sub hl [3, 4, 5, 6, 0] rfl⟩
              · have hcc_65 := c_65
                have hsp := hsp.trans (if_neg c_65)
                have hsp := hout_36 _ hsp
                refine lv_aload_n hx hb eX4_readsConditions_109 rfl (lv_at hl 2 rfl) ?_
                refine lv_iconst (v := 4) hx hb eX4_readsConditions_110 (by decide) ?_
                have hPc : va_P (dC, dI) vwCl (rd__w rd z_fa_56 z_fat_57 tp (nI len) (nI z_pos_58) (nI z_kd_59) z_vl_60 z_tka_61 au rw rc rp k_ft ft k_fw fw k_fcn fcn k_fpn fpn) _ := hP.sub [0, 1, 2, 3, 4] rfl
                have hDc := hD.sub (ws' := (rd__w rd z_fa_56 z_fat_57 tp (nI len) (nI z_pos_58) (nI z_kd_59) z_vl_60 z_tka_61 au rw rc rp k_ft ft k_fw fw k_fcn fcn k_fpn fpn)) [0, 1, 2, 3, 4] (by decide) rfl
                have hKc : va_K (dC, dI) vwCl (rd__t k_ft k_fw k_fcn k_fpn) s := hK.sub [0, 1, 2, 3] rfl
                have hFc := pu_free hDc hS hA
                refine va_calli (va_runV (As := [.int 4]) (rest := []) ⟨hx, hb, hml, hown, hts⟩ (c_E_4_refuse l dC dI _ rd z_fa_56 z_fat_57 tp len z_pos_58 z_kd_59 z_vl_60 z_tka_61 au rw rc rp k_ft ft k_fw fw k_fcn fcn k_fpn fpn 4 hlen hz_pos_58 hz_kd_59) (cwV 1 hts g_E_4_readsConditions_14_E_4_refuse rfl rfl rfl (by decide +kernel) ⟨Nat.le_of_ble_eq_true rfl, Nat.le_of_ble_eq_true rfl⟩) ⟨pu_bl, va_recv hK hP (ci := 4) (q0 := 0) rfl rfl, pu_in hPc hKc hDc⟩ rfl rfl hl.1 rfl (lv_room (Nat.le_of_ble_eq_true rfl)) eX4_readsConditions_111 ⟨Nat.le_of_ble_eq_true rfl, Nat.le_of_ble_eq_true rfl⟩) hS (fun q _ h => hFc q h) hFc (fun r_78 u t H1 locs ht hvm hw hB hz1 hk1 hS => ?_)
                obtain ⟨z_fa_79, z_fat_80, ⟨hP1, -, hD1⟩, xr_78_0⟩ := hB
                rw [ht] at hP1
                obtain ⟨hP, hD⟩ := pj_a (X := (ra__w rd z_fa_56 z_fat_57 tp (nI len) (nI z_pos_58) (nI z_kd_59) z_vl_60 z_tka_61 au rw rc rp k_ft ft k_fw fw k_fcn fcn k_fpn fpn (nI nc) (nI np) (nI ne) st0 q4 q5 q6 q7 q8 q9 q10 q11 q12 q13 q14 q15 q16 k_f4 f4 k_f5 (bN 7 q_f5) k_f6 (bN 7 q_f6) k_f7 f7 k_f8 (bN 4 g_16) k_f9 (bN 2 g_17) k_f10 g_18 k_f11 g_19 k_f12 g_20 k_f13 g_21 k_f14 f14 k_f15 f15 k_f16 f16)) (X' := (ra__w rd z_fa_79 z_fat_80 tp (nI len) (nI z_pos_58) (nI z_kd_59) z_vl_60 z_tka_61 au rw rc rp k_ft ft k_fw fw k_fcn fcn k_fpn fpn (nI nc) (nI np) (nI ne) st0 q4 q5 q6 q7 q8 q9 q10 q11 q12 q13 q14 q15 q16 k_f4 f4 k_f5 (bN 7 q_f5) k_f6 (bN 7 q_f6) k_f7 f7 k_f8 (bN 4 g_16) k_f9 (bN 2 g_17) k_f10 g_18 k_f11 g_19 k_f12 g_20 k_f13 g_21 k_f14 f14 k_f15 f15 k_f16 f16)) (wc := (rd__w rd z_fa_56 z_fat_57 tp (nI len) (nI z_pos_58) (nI z_kd_59) z_vl_60 z_tka_61 au rw rc rp k_ft ft k_fw fw k_fcn fcn k_fpn fpn)) (w1 := (rd__w rd z_fa_79 z_fat_80 tp (nI len) (nI z_pos_58) (nI z_kd_59) z_vl_60 z_tka_61 au rw rc rp k_ft ft k_fw fw k_fcn fcn k_fpn fpn)) hP hD [0, 1, 2, 3, 4] [0, 1, 2, 3, 4, 10, 11, 12, 13, 14, 15, 16, 17, 18, 19, 20, 21, 22, 23] 5 rfl hk1 hP1 rfl rfl rfl (by decide)
                clear hP1 hD1 hFc hPc hDc hKc
                clear hk1 hz1 ht hvm
                generalize H1 = H at hP hS ⊢
                have hsp := hsp.trans (slet_eq xr_78_0)
                obtain rfl : r_78 = 0 := hw
                exact W.zret (v := 0) (ty := .boolean) hx hb hr (rfl) (fun t ht hW => ⟨⟨0, (), rfl, ⟨0, (Nat.le_of_ble_eq_true rfl), rfl, (congrArg Prod.fst (hsp.symm.trans hRR))⟩, ⟨g_16, g_17, g_18, g_19, g_20, g_21, z_fa_79, z_fat_80, z_pos_58, z_kd_59, z_vl_60, z_tka_61, ⟨by rw [ht]; exact hP, va_K.moved hW.alike hK, hD⟩, hz_pos_58, hz_kd_59, by first | assumption | exact co_refl | exact co_trans (by assumption) (by assumption), (congrArg Prod.snd (hsp.symm.trans hRR))⟩⟩, hS.F ht⟩) hS.2.2 eX4_readsConditions_114
            · have c_64 : ¬ z_kd_59 = 3 := fun z => c_64 ((nI_eq (a := z_kd_59) (b := 3) (Nat.lt_of_le_of_lt hz_kd_59 (Nat.le_of_ble_eq_true rfl)) (Nat.le_of_ble_eq_true rfl)).mpr z)
              have hsp := hsp.trans (if_neg c_64)
              have hsp := hout_36 _ hsp
              refine lv_aload_n hx hb eX4_readsConditions_95 rfl (lv_at hl 2 rfl) ?_
              have hPc : va_P (dC, dI) vwCl (rd__w rd z_fa_56 z_fat_57 tp (nI len) (nI z_pos_58) (nI z_kd_59) z_vl_60 z_tka_61 au rw rc rp k_ft ft k_fw fw k_fcn fcn k_fpn fpn) _ := hP.sub [0, 1, 2, 3, 4] rfl
              have hDc := hD.sub (ws' := (rd__w rd z_fa_56 z_fat_57 tp (nI len) (nI z_pos_58) (nI z_kd_59) z_vl_60 z_tka_61 au rw rc rp k_ft ft k_fw fw k_fcn fcn k_fpn fpn)) [0, 1, 2, 3, 4] (by decide) rfl
              have hKc : va_K (dC, dI) vwCl (rd__t k_ft k_fw k_fcn k_fpn) s := hK.sub [0, 1, 2, 3] rfl
              have hFc := pu_free hDc hS hA
              refine va_calli (va_runV (As := []) (rest := []) ⟨hx, hb, hml, hown, hts⟩ (c_E_4_refuseToken l dC dI _ rd z_fa_56 z_fat_57 tp len z_pos_58 z_kd_59 z_vl_60 z_tka_61 au rw rc rp k_ft ft k_fw fw k_fcn fcn k_fpn fpn hlen hz_pos_58 hz_kd_59) (cwV 0 hts g_E_4_readsConditions_14_E_4_refuseToken rfl rfl rfl (by decide +kernel) ⟨Nat.le_of_ble_eq_true rfl, Nat.le_of_ble_eq_true rfl⟩) ⟨pu_bl, va_recv hK hP (ci := 4) (q0 := 0) rfl rfl, pu_in hPc hKc hDc⟩ rfl rfl hl.1 rfl (lv_room (Nat.le_of_ble_eq_true rfl)) eX4_readsConditions_96 ⟨Nat.le_of_ble_eq_true rfl, Nat.le_of_ble_eq_true rfl⟩) hS (fun q _ h => hFc q h) hFc (fun r_81 u t H1 locs ht hvm hw hB hz1 hk1 hS => ?_)
              obtain ⟨z_fa_82, z_fat_83, ⟨hP1, -, hD1⟩, xr_81_0⟩ := hB
              rw [ht] at hP1
              obtain ⟨hP, hD⟩ := pj_a (X := (ra__w rd z_fa_56 z_fat_57 tp (nI len) (nI z_pos_58) (nI z_kd_59) z_vl_60 z_tka_61 au rw rc rp k_ft ft k_fw fw k_fcn fcn k_fpn fpn (nI nc) (nI np) (nI ne) st0 q4 q5 q6 q7 q8 q9 q10 q11 q12 q13 q14 q15 q16 k_f4 f4 k_f5 (bN 7 q_f5) k_f6 (bN 7 q_f6) k_f7 f7 k_f8 (bN 4 g_16) k_f9 (bN 2 g_17) k_f10 g_18 k_f11 g_19 k_f12 g_20 k_f13 g_21 k_f14 f14 k_f15 f15 k_f16 f16)) (X' := (ra__w rd z_fa_82 z_fat_83 tp (nI len) (nI z_pos_58) (nI z_kd_59) z_vl_60 z_tka_61 au rw rc rp k_ft ft k_fw fw k_fcn fcn k_fpn fpn (nI nc) (nI np) (nI ne) st0 q4 q5 q6 q7 q8 q9 q10 q11 q12 q13 q14 q15 q16 k_f4 f4 k_f5 (bN 7 q_f5) k_f6 (bN 7 q_f6) k_f7 f7 k_f8 (bN 4 g_16) k_f9 (bN 2 g_17) k_f10 g_18 k_f11 g_19 k_f12 g_20 k_f13 g_21 k_f14 f14 k_f15 f15 k_f16 f16)) (wc := (rd__w rd z_fa_56 z_fat_57 tp (nI len) (nI z_pos_58) (nI z_kd_59) z_vl_60 z_tka_61 au rw rc rp k_ft ft k_fw fw k_fcn fcn k_fpn fpn)) (w1 := (rd__w rd z_fa_82 z_fat_83 tp (nI len) (nI z_pos_58) (nI z_kd_59) z_vl_60 z_tka_61 au rw rc rp k_ft ft k_fw fw k_fcn fcn k_fpn fpn)) hP hD [0, 1, 2, 3, 4] [0, 1, 2, 3, 4, 10, 11, 12, 13, 14, 15, 16, 17, 18, 19, 20, 21, 22, 23] 5 rfl hk1 hP1 rfl rfl rfl (by decide)
              clear hP1 hD1 hFc hPc hDc hKc
              clear hk1 hz1 ht hvm
              generalize H1 = H at hP hS ⊢
              have hsp := hsp.trans (slet_eq xr_81_0)
              obtain rfl : r_81 = 0 := hw
              exact W.zret (v := 0) (ty := .boolean) hx hb hr (rfl) (fun t ht hW => ⟨⟨0, (), rfl, ⟨0, (Nat.le_of_ble_eq_true rfl), rfl, (congrArg Prod.fst (hsp.symm.trans hRR))⟩, ⟨g_16, g_17, g_18, g_19, g_20, g_21, z_fa_82, z_fat_83, z_pos_58, z_kd_59, z_vl_60, z_tka_61, ⟨by rw [ht]; exact hP, va_K.moved hW.alike hK, hD⟩, hz_pos_58, hz_kd_59, by first | assumption | exact co_refl | exact co_trans (by assumption) (by assumption), (congrArg Prod.snd (hsp.symm.trans hRR))⟩⟩, hS.F ht⟩) hS.2.2 eX4_readsConditions_99
      · have c_39 : g_28 = 4 := (nI_eq (a := g_28) (b := 4) (Nat.lt_of_le_of_lt hg_28 (Nat.le_of_ble_eq_true rfl)) (Nat.le_of_ble_eq_true rfl)).mp c_39
        have hsp := hsp.trans (if_pos c_39)
        have hsp := hout_36 _ hsp
        refine lv_aload_n hx hb eX4_readsConditions_23 rfl (lv_at hl 0 rfl) ?_
        refine lv_iconst (v := 5) hx hb eX4_readsConditions_24 (by decide) ?_
        have hPc : va_P (dC, dI) vwCl (rd__w rd g_22 g_23 tp (nI len) (nI g_24) (nI g_25) g_26 g_27 au rw rc rp k_ft ft k_fw fw k_fcn fcn k_fpn fpn) _ := hP.sub [0, 1, 2, 3, 4] rfl
        have hDc := hD.sub (ws' := (rd__w rd g_22 g_23 tp (nI len) (nI g_24) (nI g_25) g_26 g_27 au rw rc rp k_ft ft k_fw fw k_fcn fcn k_fpn fpn)) [0, 1, 2, 3, 4] (by decide) rfl
        have hKc : va_K (dC, dI) vwCl (rd__t k_ft k_fw k_fcn k_fpn) s := hK.sub [0, 1, 2, 3] rfl
        have hFc := pu_free hDc hS hA
        refine va_calli (va_runV (As := [.int 5]) (rest := []) ⟨hx, hb, hml, hown, hts⟩ (c_E_4_refuse l dC dI _ rd g_22 g_23 tp len g_24 g_25 g_26 g_27 au rw rc rp k_ft ft k_fw fw k_fcn fcn k_fpn fpn 5 hlen hg_24 hg_25) (cwV 1 hts g_E_4_readsConditions_14_E_4_refuse rfl rfl rfl (by decide +kernel) ⟨Nat.le_of_ble_eq_true rfl, Nat.le_of_ble_eq_true rfl⟩) ⟨pu_bl, va_recv hK hP (ci := 4) (q0 := 0) rfl rfl, pu_in hPc hKc hDc⟩ rfl rfl hl.1 rfl (lv_room (Nat.le_of_ble_eq_true rfl)) eX4_readsConditions_25 ⟨Nat.le_of_ble_eq_true rfl, Nat.le_of_ble_eq_true rfl⟩) hS (fun q _ h => hFc q h) hFc (fun r_84 u t H1 locs ht hvm hw hB hz1 hk1 hS => ?_)
        obtain ⟨z_fa_85, z_fat_86, ⟨hP1, -, hD1⟩, xr_84_0⟩ := hB
        rw [ht] at hP1
        obtain ⟨hP, hD⟩ := pj_a (X := (ra__w rd g_22 g_23 tp (nI len) (nI g_24) (nI g_25) g_26 g_27 au rw rc rp k_ft ft k_fw fw k_fcn fcn k_fpn fpn (nI nc) (nI np) (nI ne) st0 q4 q5 q6 q7 q8 q9 q10 q11 q12 q13 q14 q15 q16 k_f4 f4 k_f5 (bN 7 q_f5) k_f6 (bN 7 q_f6) k_f7 f7 k_f8 (bN 4 g_16) k_f9 (bN 2 g_17) k_f10 g_18 k_f11 g_19 k_f12 g_20 k_f13 g_21 k_f14 f14 k_f15 f15 k_f16 f16)) (X' := (ra__w rd z_fa_85 z_fat_86 tp (nI len) (nI g_24) (nI g_25) g_26 g_27 au rw rc rp k_ft ft k_fw fw k_fcn fcn k_fpn fpn (nI nc) (nI np) (nI ne) st0 q4 q5 q6 q7 q8 q9 q10 q11 q12 q13 q14 q15 q16 k_f4 f4 k_f5 (bN 7 q_f5) k_f6 (bN 7 q_f6) k_f7 f7 k_f8 (bN 4 g_16) k_f9 (bN 2 g_17) k_f10 g_18 k_f11 g_19 k_f12 g_20 k_f13 g_21 k_f14 f14 k_f15 f15 k_f16 f16)) (wc := (rd__w rd g_22 g_23 tp (nI len) (nI g_24) (nI g_25) g_26 g_27 au rw rc rp k_ft ft k_fw fw k_fcn fcn k_fpn fpn)) (w1 := (rd__w rd z_fa_85 z_fat_86 tp (nI len) (nI g_24) (nI g_25) g_26 g_27 au rw rc rp k_ft ft k_fw fw k_fcn fcn k_fpn fpn)) hP hD [0, 1, 2, 3, 4] [0, 1, 2, 3, 4, 10, 11, 12, 13, 14, 15, 16, 17, 18, 19, 20, 21, 22, 23] 5 rfl hk1 hP1 rfl rfl rfl (by decide)
        clear hP1 hD1 hFc hPc hDc hKc
        clear hk1 hz1 ht hvm
        generalize H1 = H at hP hS ⊢
        have hsp := hsp.trans (slet_eq xr_84_0)
        obtain rfl : r_84 = 0 := hw
        exact W.zret (v := 0) (ty := .boolean) hx hb hr (rfl) (fun t ht hW => ⟨⟨0, (), rfl, ⟨0, (Nat.le_of_ble_eq_true rfl), rfl, (congrArg Prod.fst (hsp.symm.trans hRR))⟩, ⟨g_16, g_17, g_18, g_19, g_20, g_21, z_fa_85, z_fat_86, g_24, g_25, g_26, g_27, ⟨by rw [ht]; exact hP, va_K.moved hW.alike hK, hD⟩, hg_24, hg_25, by first | assumption | exact co_refl | exact co_trans (by assumption) (by assumption), (congrArg Prod.snd (hsp.symm.trans hRR))⟩⟩, hS.F ht⟩) hS.2.2 eX4_readsConditions_28
theorem eX4_readsResets_0 : decode cX4_readsResets 0 = .ok (.iconst 0, 1) := by decide +kernel
theorem eX4_readsResets_1 : decode cX4_readsResets 1 = .ok (.istore_n 2, 1) := by decide +kernel
theorem eX4_readsResets_2 : decode cX4_readsResets 2 = .ok (.iload_n 2, 1) := by decide +kernel
theorem eX4_readsResets_3 : decode cX4_readsResets 3 = .ok (.iconst 3, 1) := by decide +kernel
theorem eX4_readsResets_4 : decode cX4_readsResets 4 = .ok (.if_icmp .gt 87, 3) := by decide +kernel
theorem eX4_readsResets_7 : decode cX4_readsResets 7 = .ok (.aload_n 0, 1) := by decide +kernel
theorem eX4_readsResets_8 : decode cX4_readsResets 8 = .ok (.getfield 78, 3) := by decide +kernel
theorem eX4_readsResets_11 : decode cX4_readsResets 11 = .ok (.bipush 15, 2) := by decide +kernel
theorem eX4_readsResets_13 : decode cX4_readsResets 13 = .ok (.if_icmp .ne 78, 3) := by decide +kernel
theorem eX4_readsResets_16 : decode cX4_readsResets 16 = .ok (.aload_n 0, 1) := by decide +kernel
theorem eX4_readsResets_17 : decode cX4_readsResets 17 = .ok (.invokevirtual 75, 3) := by decide +kernel
theorem eX4_readsResets_20 : decode cX4_readsResets 20 = .ok (.aload_n 0, 1) := by decide +kernel
theorem eX4_readsResets_21 : decode cX4_readsResets 21 = .ok (.aload_n 0, 1) := by decide +kernel
theorem eX4_readsResets_22 : decode cX4_readsResets 22 = .ok (.getfield 39, 3) := by decide +kernel
theorem eX4_readsResets_25 : decode cX4_readsResets 25 = .ok (.aload_n 0, 1) := by decide +kernel
theorem eX4_readsResets_26 : decode cX4_readsResets 26 = .ok (.getfield 66, 3) := by decide +kernel
theorem eX4_readsResets_29 : decode cX4_readsResets 29 = .ok (.getfield 121, 3) := by decide +kernel
theorem eX4_readsResets_32 : decode cX4_readsResets 32 = .ok (.invokevirtual 142, 3) := by decide +kernel
theorem eX4_readsResets_35 : decode cX4_readsResets 35 = .ok (.istore_n 3, 1) := by decide +kernel
theorem eX4_readsResets_36 : decode cX4_readsResets 36 = .ok (.iload_n 3, 1) := by decide +kernel
theorem eX4_readsResets_37 : decode cX4_readsResets 37 = .ok (.iconst (-1), 1) := by decide +kernel
theorem eX4_readsResets_38 : decode cX4_readsResets 38 = .ok (.if_icmp .ne 5, 3) := by decide +kernel
theorem eX4_readsResets_41 : decode cX4_readsResets 41 = .ok (.iconst 0, 1) := by decide +kernel
theorem eX4_readsResets_42 : decode cX4_readsResets 42 = .ok (.ireturn, 1) := by decide +kernel
theorem eX4_readsResets_43 : decode cX4_readsResets 43 = .ok (.aload_n 0, 1) := by decide +kernel
theorem eX4_readsResets_44 : decode cX4_readsResets 44 = .ok (.getfield 66, 3) := by decide +kernel
theorem eX4_readsResets_47 : decode cX4_readsResets 47 = .ok (.getfield 156, 3) := by decide +kernel
theorem eX4_readsResets_50 : decode cX4_readsResets 50 = .ok (.iload_n 1, 1) := by decide +kernel
theorem eX4_readsResets_51 : decode cX4_readsResets 51 = .ok (.iaload, 1) := by decide +kernel
theorem eX4_readsResets_52 : decode cX4_readsResets 52 = .ok (.iload_n 3, 1) := by decide +kernel
theorem eX4_readsResets_53 : decode cX4_readsResets 53 = .ok (.ishr, 1) := by decide +kernel
theorem eX4_readsResets_54 : decode cX4_readsResets 54 = .ok (.iconst 1, 1) := by decide +kernel
theorem eX4_readsResets_55 : decode cX4_readsResets 55 = .ok (.iand, 1) := by decide +kernel
theorem eX4_readsResets_56 : decode cX4_readsResets 56 = .ok (.iconst 1, 1) := by decide +kernel
theorem eX4_readsResets_57 : decode cX4_readsResets 57 = .ok (.if_icmp .ne 9, 3) := by decide +kernel
theorem eX4_readsResets_60 : decode cX4_readsResets 60 = .ok (.aload_n 0, 1) := by decide +kernel
theorem eX4_readsResets_61 : decode cX4_readsResets 61 = .ok (.iconst 5, 1) := by decide +kernel
theorem eX4_readsResets_62 : decode cX4_readsResets 62 = .ok (.invokevirtual 103, 3) := by decide +kernel
theorem eX4_readsResets_65 : decode cX4_readsResets 65 = .ok (.ireturn, 1) := by decide +kernel
theorem eX4_readsResets_66 : decode cX4_readsResets 66 = .ok (.aload_n 0, 1) := by decide +kernel
theorem eX4_readsResets_67 : decode cX4_readsResets 67 = .ok (.getfield 66, 3) := by decide +kernel
theorem eX4_readsResets_70 : decode cX4_readsResets 70 = .ok (.getfield 156, 3) := by decide +kernel
theorem eX4_readsResets_73 : decode cX4_readsResets 73 = .ok (.iload_n 1, 1) := by decide +kernel
theorem eX4_readsResets_74 : decode cX4_readsResets 74 = .ok (.dup2, 1) := by decide +kernel
theorem eX4_readsResets_75 : decode cX4_readsResets 75 = .ok (.iaload, 1) := by decide +kernel
theorem eX4_readsResets_76 : decode cX4_readsResets 76 = .ok (.iconst 1, 1) := by decide +kernel
theorem eX4_readsResets_77 : decode cX4_readsResets 77 = .ok (.iload_n 3, 1) := by decide +kernel
theorem eX4_readsResets_78 : decode cX4_readsResets 78 = .ok (.ishl, 1) := by decide +kernel
theorem eX4_readsResets_79 : decode cX4_readsResets 79 = .ok (.ior, 1) := by decide +kernel
theorem eX4_readsResets_80 : decode cX4_readsResets 80 = .ok (.iastore, 1) := by decide +kernel
theorem eX4_readsResets_81 : decode cX4_readsResets 81 = .ok (.aload_n 0, 1) := by decide +kernel
theorem eX4_readsResets_82 : decode cX4_readsResets 82 = .ok (.invokevirtual 75, 3) := by decide +kernel
theorem eX4_readsResets_85 : decode cX4_readsResets 85 = .ok (.iinc 2 1, 3) := by decide +kernel
theorem eX4_readsResets_88 : decode cX4_readsResets 88 = .ok (.goto (-86), 3) := by decide +kernel
theorem eX4_readsResets_91 : decode cX4_readsResets 91 = .ok (.iconst 1, 1) := by decide +kernel
theorem eX4_readsResets_92 : decode cX4_readsResets 92 = .ok (.ireturn, 1) := by decide +kernel
abbrev vs_E_4_readsResets : List Cond := .code yX4_readsResets cX4_readsResets 4 (some .boolean) :: CM
theorem g_E_4_readsResets_E_4_advance : GoodIn vs_E_4_readsResets (wsV RX4 75 RX4 yX4_advance vs_E_4_advance) := cm_gV cm_229 cm_230 cm_231 cm_232 cm_233
theorem g_E_4_readsResets_E_4_toldName_c : GoodIn vs_E_4_readsResets (wsV RX4 142 RX4 yX4_toldName vs_E_4_toldName_c) := cm_gV cm_282 cm_283 cm_284 cm_232 cm_285
theorem g_E_4_readsResets_E_4_refuse : GoodIn vs_E_4_readsResets (wsV RX4 103 RX4 yX4_refuse vs_E_4_refuse) := cm_gV cm_255 cm_256 cm_257 cm_232 cm_258
noncomputable def sp_E_4_readsResets_L1 (len : Nat) (ft : Nat → Int32) (fw : Nat → Int32) (fcn : Nat → Int32) (nc : Nat) (a0 : Nat) : ((Nat → Int32) × Int32 × Int32 × Nat × Nat × Int32 × Int32 × Nat) → ((Nat → Int32) × Int32 × Int32 × Nat × Nat × Int32 × Int32 × Nat) ⊕ (Nat × (Nat → Int32) × Int32 × Int32 × Nat × Nat × Int32 × Int32) := fun (g_9, g_10, g_11, g_12, g_13, g_14, g_15, g_16) => (if 3 < g_16 then (Sum.inr (1, g_9, g_10, g_11, g_12, g_13, g_14, g_15)) else (if g_13 = 15 then (slet (sp_E_4_advance len g_12 g_14 ft fw) (fun (z_pos_26, z_kd_27, z_vl_28, z_tka_29) => (slet (sp_E_4_toldName_c g_10 g_11 z_kd_27 z_vl_28 z_tka_29 fcn nc) (fun (u_33, z_fa_31, z_fat_32) => (if u_33 = 0 then (Sum.inr (0, g_9, z_fa_31, z_fat_32, z_pos_26, z_kd_27, z_vl_28, z_tka_29)) else (slet (u_33 - 1) (fun n_34 => (slet (g_9 a0) (fun y_35 => (slet ((y_35 : Int32) >>> (((nI n_34) : Int32) &&& 31)) (fun y_36 => (slet ((y_36 : Int32) &&& (1 : Int32)) (fun y_37 => (if (y_37 : Int32) = 1 then (Sum.inr (slet (sp_E_4_refuse z_tka_29 5) (fun (z_fa_49, z_fat_50) => (0, g_9, z_fa_49, z_fat_50, z_pos_26, z_kd_27, z_vl_28, z_tka_29)))) else (slet (g_9 a0) (fun y_39 => (slet ((1 : Int32) <<< (((nI n_34) : Int32) &&& 31)) (fun y_40 => (slet ((y_39 : Int32) ||| (y_40 : Int32)) (fun y_41 => (slet (upd g_9 a0 y_41) (fun f_42 => (slet (sp_E_4_advance len z_pos_26 z_vl_28 ft fw) (fun (z_pos_44, z_kd_45, z_vl_46, z_tka_47) => (Sum.inl (f_42, z_fa_31, z_fat_32, z_pos_44, z_kd_45, z_vl_46, z_tka_47, (g_16 + 1))))))))))))))))))))))))))) else (Sum.inr (1, g_9, g_10, g_11, g_12, g_13, g_14, g_15))))
noncomputable def sp_E_4_readsResets (fa : Int32) (fat : Int32) (len : Nat) (pos : Nat) (kd : Nat) (vl : Int32) (tka : Int32) (ft : Nat → Int32) (fw : Nat → Int32) (fcn : Nat → Int32) (nc : Nat) (f7 : Nat → Int32) (a0 : Nat) : Nat × (Nat → Int32) × Int32 × Int32 × Nat × Nat × Int32 × Int32 := (itrv (α := (Nat → Int32) × Int32 × Int32 × Nat × Nat × Int32 × Int32 × Nat) (β := (Nat × (Nat → Int32) × Int32 × Int32 × Nat × Nat × Int32 × Int32)) default (sp_E_4_readsResets_L1 len ft fw fcn nc a0) (f7, fa, fat, pos, kd, vl, tka, 0))
set_option maxHeartbeats 4000000 in
set_option maxRecDepth 100000 in
theorem c_E_4_readsResets (l : Launch) (dC : Nat → ClassId) (dI : Nat → Nat → Nat) (sz : Nat) (rd : Nat) (fa : Int32) (fat : Int32) (tp : Nat) (len : Nat) (pos : Nat) (kd : Nat) (vl : Int32) (tka : Int32) (au : Nat) (rw : Nat) (rc : Nat) (rp : Nat) (k_ft : ClassId) (ft : Nat → Int32) (k_fw : ClassId) (fw : Nat → Int32) (k_fcn : ClassId) (fcn : Nat → Int32) (k_fpn : ClassId) (fpn : Nat → Int32) (nc : Nat) (np : Nat) (ne : Nat) (st0 : Int32) (q4 : Nat) (q5 : Nat) (q6 : Nat) (q7 : Nat) (q8 : Nat) (q9 : Nat) (q10 : Nat) (q11 : Nat) (q12 : Nat) (q13 : Nat) (q14 : Nat) (q15 : Nat) (q16 : Nat) (k_f4 : ClassId) (f4 : Nat → Int32) (k_f5 : ClassId) (q_f5 : Nat → Nat) (k_f6 : ClassId) (q_f6 : Nat → Nat) (k_f7 : ClassId) (f7 : Nat → Int32) (k_f8 : ClassId) (q_f8 : Nat → Nat) (k_f9 : ClassId) (q_f9 : Nat → Nat) (k_f10 : ClassId) (f10 : Nat → Int32) (k_f11 : ClassId) (f11 : Nat → Int32) (k_f12 : ClassId) (f12 : Nat → Int32) (k_f13 : ClassId) (f13 : Nat → Int32) (k_f14 : ClassId) (f14 : Nat → Int32) (k_f15 : ClassId) (f15 : Nat → Int32) (k_f16 : ClassId) (f16 : Nat → Int32) (a0 : Nat) (hlen : len ≤ 900) (hpos : pos ≤ 900) (hkd : kd ≤ 15) (hnc : nc ≤ 3) (hnp : np ≤ 8) (hne : ne ≤ 14) (hst0 : pm1 7 st0) (ha0 : a0 ≤ 13) : Met l yX4_readsResets vs_E_4_readsResets ({ frames := 3, cells := 0, slots := 0, locals := 64 }) (va_Pc [.ref rd, .int (nI a0)] (pu_B (dC, dI) (ra__w rd fa fat tp (nI len) (nI pos) (nI kd) vl tka au rw rc rp k_ft ft k_fw fw k_fcn fcn k_fpn fpn (nI nc) (nI np) (nI ne) st0 q4 q5 q6 q7 q8 q9 q10 q11 q12 q13 q14 q15 q16 k_f4 f4 k_f5 (bN 7 q_f5) k_f6 (bN 7 q_f6) k_f7 f7 k_f8 (bN 4 q_f8) k_f9 (bN 2 q_f9) k_f10 f10 k_f11 f11 k_f12 f12 k_f13 f13 k_f14 f14 k_f15 f15 k_f16 f16) (ra__t k_ft k_fw k_fcn k_fpn k_f4 k_f5 k_f6 k_f7 k_f8 k_f9 k_f10 k_f11 k_f12 k_f13 k_f14 k_f15 k_f16) sz)) (va_Qi (fun (r : Int32) (_ : Unit) => ∃ v : Nat, v ≤ 1 ∧ r = nI v ∧ v = (sp_E_4_readsResets fa fat len pos kd vl tka ft fw fcn nc f7 a0).1) (fun _ t => ∃ (z_f7 : Nat → Int32) (z_fa : Int32) (z_fat : Int32) (z_pos : Nat) (z_kd : Nat) (z_vl : Int32) (z_tka : Int32), pu_E (dC, dI) (ra__w rd z_fa z_fat tp (nI len) (nI z_pos) (nI z_kd) z_vl z_tka au rw rc rp k_ft ft k_fw fw k_fcn fcn k_fpn fpn (nI nc) (nI np) (nI ne) st0 q4 q5 q6 q7 q8 q9 q10 q11 q12 q13 q14 q15 q16 k_f4 f4 k_f5 (bN 7 q_f5) k_f6 (bN 7 q_f6) k_f7 z_f7 k_f8 (bN 4 q_f8) k_f9 (bN 2 q_f9) k_f10 f10 k_f11 f11 k_f12 f12 k_f13 f13 k_f14 f14 k_f15 f15 k_f16 f16) (ra__t k_ft k_fw k_fcn k_fpn k_f4 k_f5 k_f6 k_f7 k_f8 k_f9 k_f10 k_f11 k_f12 k_f13 k_f14 k_f15 k_f16) (va_A ((ra__w rd fa fat tp (nI len) (nI pos) (nI kd) vl tka au rw rc rp k_ft ft k_fw fw k_fcn fcn k_fpn fpn (nI nc) (nI np) (nI ne) st0 q4 q5 q6 q7 q8 q9 q10 q11 q12 q13 q14 q15 q16 k_f4 f4 k_f5 (bN 7 q_f5) k_f6 (bN 7 q_f6) k_f7 f7 k_f8 (bN 4 q_f8) k_f9 (bN 2 q_f9) k_f10 f10 k_f11 f11 k_f12 f12 k_f13 f13 k_f14 f14 k_f15 f15 k_f16 f16)) sz) t ∧ (z_pos ≤ 900) ∧ (z_kd ≤ 15) ∧ ((z_f7, z_fa, z_fat, z_pos, z_kd, z_vl, z_tka) = (sp_E_4_readsResets fa fat len pos kd vl tka ft fw fcn nc f7 a0).2)) (va_A ((ra__w rd fa fat tp (nI len) (nI pos) (nI kd) vl tka au rw rc rp k_ft ft k_fw fw k_fcn fcn k_fpn fpn (nI nc) (nI np) (nI ne) st0 q4 q5 q6 q7 q8 q9 q10 q11 q12 q13 q14 q15 q16 k_f4 f4 k_f5 (bN 7 q_f5) k_f6 (bN 7 q_f6) k_f7 f7 k_f8 (bN 4 q_f8) k_f9 (bN 2 q_f9) k_f10 f10 k_f11 f11 k_f12 f12 k_f13 f13 k_f14 f14 k_f15 f15 k_f16 f16)) sz)) 0 0 (va_A ((ra__w rd fa fat tp (nI len) (nI pos) (nI kd) vl tka au rw rc rp k_ft ft k_fw fw k_fcn fcn k_fpn fpn (nI nc) (nI np) (nI ne) st0 q4 q5 q6 q7 q8 q9 q10 q11 q12 q13 q14 q15 q16 k_f4 f4 k_f5 (bN 7 q_f5) k_f6 (bN 7 q_f6) k_f7 f7 k_f8 (bN 4 q_f8) k_f9 (bN 2 q_f9) k_f10 f10 k_f11 f11 k_f12 f12 k_f13 f13 k_f14 f14 k_f15 f15 k_f16 f16)) sz) := by
  refine Met.ofW (cc := cX4_readsResets) (maxL := 4) (ret := (some .boolean)) (by decide) rfl ?_
  intro p e s m args below meth c s₁ B hml hv
  obtain ⟨rfl, rfl, hP, hK, hD0⟩ := hv
  have hx := B.exec
  have hb := B.bytes
  have hr := B.returns
  have hts := atoms_spec (ws := vs_E_4_readsResets) B.pre
  have v_1 := hts (.fieldLink RX4 78 "ClockReach$Reader" "kind" "I") (List.mem_cons_of_mem _ cm_222)
  have v_7 := hts (.fieldLink RX4 39 "ClockReach$Reader" "clockNames" "[I") (List.mem_cons_of_mem _ cm_254)
  have v_8 := hts (.fieldLink RX4 66 "ClockReach$Reader" "into" "LClockReach$Automaton;") (List.mem_cons_of_mem _ cm_221)
  have v_9 := hts (.fieldLink RX4 121 "ClockReach$Automaton" "clocks" "I") (List.mem_cons_of_mem _ cm_253)
  have v_14 := hts (.fieldLink RX4 156 "ClockReach$Automaton" "resets" "[I") (List.mem_cons_of_mem _ cm_309)
  have hown : s.vm.findClass RX4 = some m.cls := findClass_of_methodNamed B.named
  have hlocks := B.notSynchronized
  have hiX0 : ∀ w ∈ wsX00, w ∈ vs_E_4_readsResets := fun _ h => List.mem_cons_of_mem _ (cm_X0 h)
  have hiX4 : ∀ w ∈ wsX40, w ∈ vs_E_4_readsResets := fun _ h => List.mem_cons_of_mem _ (cm_X4 h)
  have hD := hD0.self (sz := s.heap.size)
  generalize hAe : va_A ((ra__w rd fa fat tp (nI len) (nI pos) (nI kd) vl tka au rw rc rp k_ft ft k_fw fw k_fcn fcn k_fpn fpn (nI nc) (nI np) (nI ne) st0 q4 q5 q6 q7 q8 q9 q10 q11 q12 q13 q14 q15 q16 k_f4 f4 k_f5 (bN 7 q_f5) k_f6 (bN 7 q_f6) k_f7 f7 k_f8 (bN 4 q_f8) k_f9 (bN 2 q_f9) k_f10 f10 k_f11 f11 k_f12 f12 k_f13 f13 k_f14 f14 k_f15 f15 k_f16 f16)) s.heap.size = A at hD ⊢
  have hA : ∀ q : Nat, s.heap.size ≤ q → A q := fun q h => by rw [← hAe]; exact Or.inr h
  have hS : va_S A s.heap s.heap [] := va_S.rf
  have hl := lv_entry ([.ref rd, .int (nI a0)]) (n := 4) (Nat.le_of_ble_eq_true rfl)
  rw [lg_entry_eq]
  generalize (lg_sl ([.ref rd, .int (nI a0)]) ++ List.replicate (4 - (lg_sl ([.ref rd, .int (nI a0)])).length) Slot.unset).toArray = ls at hl ⊢
  have hl : lv_has ls 4 [(0, .ref rd), (1, .int (nI a0))] := hl
  obtain ⟨RR, hRR⟩ : ∃ x, x = (sp_E_4_readsResets fa fat len pos kd vl tka ft fw fcn nc f7 a0) := ⟨_, rfl⟩
  have hsp := hRR
  refine lv_iconst (v := 0) hx hb eX4_readsResets_0 (by decide) ?_
  refine lv_istore_n (lv' := [(2, .int 0), (0, .ref rd), (1, .int (nI a0))]) hx hb eX4_readsResets_1 rfl hl (by decide) rfl (fun ls hl => ?_)
  obtain ⟨lf_18, dlf_18, hlf_18, hsp⟩ := itr_ex hsp
  delta sp_E_4_readsResets_L1 at hlf_18
  refine pu_while (fun nn H locs ls => ∃ (g_9 : Nat → Int32) (g_10 : Int32) (g_11 : Int32) (g_12 : Nat) (g_13 : Nat) (g_14 : Int32) (g_15 : Int32) (g_16 : Nat), nn = 4 - g_16 ∧ g_12 ≤ 900 ∧ g_13 ≤ 15 ∧ g_16 ≤ 4 ∧ RR = itrv dlf_18 lf_18 (g_9, g_10, g_11, g_12, g_13, g_14, g_15, g_16) ∧ va_P (dC, dI) vwCl (ra__w rd g_10 g_11 tp (nI len) (nI g_12) (nI g_13) g_14 g_15 au rw rc rp k_ft ft k_fw fw k_fcn fcn k_fpn fpn (nI nc) (nI np) (nI ne) st0 q4 q5 q6 q7 q8 q9 q10 q11 q12 q13 q14 q15 q16 k_f4 f4 k_f5 (bN 7 q_f5) k_f6 (bN 7 q_f6) k_f7 g_9 k_f8 (bN 4 q_f8) k_f9 (bN 2 q_f9) k_f10 f10 k_f11 f11 k_f12 f12 k_f13 f13 k_f14 f14 k_f15 f15 k_f16 f16) H ∧ va_D A (ra__w rd g_10 g_11 tp (nI len) (nI g_12) (nI g_13) g_14 g_15 au rw rc rp k_ft ft k_fw fw k_fcn fcn k_fpn fpn (nI nc) (nI np) (nI ne) st0 q4 q5 q6 q7 q8 q9 q10 q11 q12 q13 q14 q15 q16 k_f4 f4 k_f5 (bN 7 q_f5) k_f6 (bN 7 q_f6) k_f7 g_9 k_f8 (bN 4 q_f8) k_f9 (bN 2 q_f9) k_f10 f10 k_f11 f11 k_f12 f12 k_f13 f13 k_f14 f14 k_f15 f15 k_f16 f16) ∧ va_S A s.heap H locs ∧ lv_has ls 4 [(0, .ref rd), (1, .int (nI a0)), (2, .int (nI g_16))]) 2 ?_ _ _ _ _ ⟨f7, fa, fat, pos, kd, vl, tka, 0, rfl, hpos, hkd, (Nat.le_of_ble_eq_true rfl), hsp, hP, hD, hS, lv_sub hl [1, 2, 0] rfl⟩
  rintro nn ih_17 H locs ls ⟨g_9, g_10, g_11, g_12, g_13, g_14, g_15, g_16, rfl, hg_12, hg_13, hg_16, he_20, hP, hD, hS, hl⟩
  obtain ⟨S_19, hsp, hin_21, hout_22⟩ := itr_step hlf_18 he_20
  refine lv_iload_n hx hb eX4_readsResets_2 rfl (lv_at hl 2 rfl) ?_
  refine lv_iconst (v := 3) hx hb eX4_readsResets_3 (by decide) ?_
  refine lv_icmp_gt (tgt := 91) hx hb eX4_readsResets_4 (by decide) (fun c_23 => ?_) (fun c_23 => ?_)
  · have c_23 : 3 < g_16 := (nI_ltI (a := 3) (b := g_16) (Nat.le_of_ble_eq_true rfl) (Nat.lt_of_le_of_lt hg_16 (Nat.le_of_ble_eq_true rfl))).mp c_23
    have hsp := hsp.trans (if_pos c_23)
    have hsp := hout_22 _ hsp
    refine lv_iconst (v := 1) hx hb eX4_readsResets_91 (by decide) ?_
    exact W.zret (v := 1) (ty := .boolean) hx hb hr (rfl) (fun t ht hW => ⟨⟨1, (), rfl, ⟨1, (Nat.le_of_ble_eq_true rfl), rfl, (congrArg Prod.fst (hsp.symm.trans hRR))⟩, ⟨g_9, g_10, g_11, g_12, g_13, g_14, g_15, ⟨by rw [ht]; exact hP, va_K.moved hW.alike hK, hD⟩, hg_12, hg_13, (congrArg Prod.snd (hsp.symm.trans hRR))⟩⟩, hS.F ht⟩) hS.2.2 eX4_readsResets_92
  · have c_23 : ¬ 3 < g_16 := fun z => c_23 ((nI_ltI (a := 3) (b := g_16) (Nat.le_of_ble_eq_true rfl) (Nat.lt_of_le_of_lt hg_16 (Nat.le_of_ble_eq_true rfl))).mpr z)
    have hsp := hsp.trans (if_neg c_23)
    refine lv_aload_n hx hb eX4_readsResets_7 rfl (lv_at hl 0 rfl) ?_
    refine va_get (D := (dC, dI)) (ci := 4) (v := .int (nI g_13)) (C := RX4) (T := TX4) (N := 12) hx hb hts hiX4 hown hK hP 0 rfl rfl 5 (by decide) v_1 (fun _ h9 => h9) rfl eX4_readsResets_8 ?_
    refine lv_bipush (v := 15) hx hb eX4_readsResets_11 (by decide) ?_
    refine lv_icmp_ne (tgt := 91) hx hb eX4_readsResets_13 (by decide) (fun c_24 => ?_) (fun c_24 => ?_)
    · have c_24 : ¬ g_13 = 15 := fun z => c_24 ((nI_eq (a := g_13) (b := 15) (Nat.lt_of_le_of_lt hg_13 (Nat.le_of_ble_eq_true rfl)) (Nat.le_of_ble_eq_true rfl)).mpr z)
      have hsp := hsp.trans (if_neg c_24)
      have hsp := hout_22 _ hsp
      refine lv_iconst (v := 1) hx hb eX4_readsResets_91 (by decide) ?_
      exact W.zret (v := 1) (ty := .boolean) hx hb hr (rfl) (fun t ht hW => ⟨⟨1, (), rfl, ⟨1, (Nat.le_of_ble_eq_true rfl), rfl, (congrArg Prod.fst (hsp.symm.trans hRR))⟩, ⟨g_9, g_10, g_11, g_12, g_13, g_14, g_15, ⟨by rw [ht]; exact hP, va_K.moved hW.alike hK, hD⟩, hg_12, hg_13, (congrArg Prod.snd (hsp.symm.trans hRR))⟩⟩, hS.F ht⟩) hS.2.2 eX4_readsResets_92
    · have c_24 : g_13 = 15 := (nI_eq (a := g_13) (b := 15) (Nat.lt_of_le_of_lt hg_13 (Nat.le_of_ble_eq_true rfl)) (Nat.le_of_ble_eq_true rfl)).mp c_24
      have hsp := hsp.trans (if_pos c_24)
      refine lv_aload_n hx hb eX4_readsResets_16 rfl (lv_at hl 0 rfl) ?_
      have hPc : va_P (dC, dI) vwCl (rd__w rd g_10 g_11 tp (nI len) (nI g_12) (nI g_13) g_14 g_15 au rw rc rp k_ft ft k_fw fw k_fcn fcn k_fpn fpn) _ := hP.sub [0, 1, 2, 3, 4] rfl
      have hDc := hD.sub (ws' := (rd__w rd g_10 g_11 tp (nI len) (nI g_12) (nI g_13) g_14 g_15 au rw rc rp k_ft ft k_fw fw k_fcn fcn k_fpn fpn)) [0, 1, 2, 3, 4] (by decide) rfl
      have hKc : va_K (dC, dI) vwCl (rd__t k_ft k_fw k_fcn k_fpn) s := hK.sub [0, 1, 2, 3] rfl
      have hFc := pu_free hDc hS hA
      refine va_callv (va_runV (As := []) (rest := []) ⟨hx, hb, hml, hown, hts⟩ (c_E_4_advance l dC dI _ rd g_10 g_11 tp len g_12 g_13 g_14 g_15 au rw rc rp k_ft ft k_fw fw k_fcn fcn k_fpn fpn hlen hg_12 hg_13) (cwV 0 hts g_E_4_readsResets_E_4_advance rfl rfl rfl (by decide +kernel) ⟨Nat.le_of_ble_eq_true rfl, Nat.le_of_ble_eq_true rfl⟩) ⟨pu_bl, va_recv hK hP (ci := 4) (q0 := 0) rfl rfl, pu_in hPc hKc hDc⟩ rfl rfl hl.1 rfl (lv_room (Nat.le_of_ble_eq_true rfl)) eX4_readsResets_17 ⟨Nat.le_of_ble_eq_true rfl, Nat.le_of_ble_eq_true rfl⟩) hS (fun q _ h => hFc q h) hFc (fun u t H1 locs ht hvm hw hB hz1 hk1 hS => ?_)
      obtain ⟨z_pos_26, z_kd_27, z_vl_28, z_tka_29, ⟨hP1, -, hD1⟩, hz_pos_26, hz_kd_27, xr_25_0⟩ := hB
      rw [ht] at hP1
      obtain ⟨hP, hD⟩ := pj_a (X := (ra__w rd g_10 g_11 tp (nI len) (nI g_12) (nI g_13) g_14 g_15 au rw rc rp k_ft ft k_fw fw k_fcn fcn k_fpn fpn (nI nc) (nI np) (nI ne) st0 q4 q5 q6 q7 q8 q9 q10 q11 q12 q13 q14 q15 q16 k_f4 f4 k_f5 (bN 7 q_f5) k_f6 (bN 7 q_f6) k_f7 g_9 k_f8 (bN 4 q_f8) k_f9 (bN 2 q_f9) k_f10 f10 k_f11 f11 k_f12 f12 k_f13 f13 k_f14 f14 k_f15 f15 k_f16 f16)) (X' := (ra__w rd g_10 g_11 tp (nI len) (nI z_pos_26) (nI z_kd_27) z_vl_28 z_tka_29 au rw rc rp k_ft ft k_fw fw k_fcn fcn k_fpn fpn (nI nc) (nI np) (nI ne) st0 q4 q5 q6 q7 q8 q9 q10 q11 q12 q13 q14 q15 q16 k_f4 f4 k_f5 (bN 7 q_f5) k_f6 (bN 7 q_f6) k_f7 g_9 k_f8 (bN 4 q_f8) k_f9 (bN 2 q_f9) k_f10 f10 k_f11 f11 k_f12 f12 k_f13 f13 k_f14 f14 k_f15 f15 k_f16 f16)) (wc := (rd__w rd g_10 g_11 tp (nI len) (nI g_12) (nI g_13) g_14 g_15 au rw rc rp k_ft ft k_fw fw k_fcn fcn k_fpn fpn)) (w1 := (rd__w rd g_10 g_11 tp (nI len) (nI z_pos_26) (nI z_kd_27) z_vl_28 z_tka_29 au rw rc rp k_ft ft k_fw fw k_fcn fcn k_fpn fpn)) hP hD [0, 1, 2, 3, 4] [0, 1, 2, 3, 4, 10, 11, 12, 13, 14, 15, 16, 17, 18, 19, 20, 21, 22, 23] 5 rfl hk1 hP1 rfl rfl rfl (by decide)
      clear hP1 hD1 hFc hPc hDc hKc
      clear hk1 hz1 ht hvm
      generalize H1 = H at hP hS ⊢
      have hsp := hsp.trans (slet_eq xr_25_0)
      refine lv_aload_n hx hb eX4_readsResets_20 rfl (lv_at hl 0 rfl) ?_
      refine lv_aload_n hx hb eX4_readsResets_21 rfl (lv_at hl 0 rfl) ?_
      refine va_get (D := (dC, dI)) (ci := 4) (v := .ref rc) (C := RX4) (T := TX4) (N := 12) hx hb hts hiX4 hown hK hP 0 rfl rfl 10 (by decide) v_7 (fun _ h9 => h9) rfl eX4_readsResets_22 ?_
      refine lv_aload_n hx hb eX4_readsResets_25 rfl (lv_at hl 0 rfl) ?_
      refine va_get (D := (dC, dI)) (ci := 4) (v := .ref au) (C := RX4) (T := TX4) (N := 12) hx hb hts hiX4 hown hK hP 0 rfl rfl 8 (by decide) v_8 (fun _ h9 => h9) rfl eX4_readsResets_26 ?_
      refine va_get (D := (dC, dI)) (ci := 0) (v := .int (nI nc)) (C := RX0) (T := TX0) (N := 17) hx hb hts hiX0 hown hK hP 5 rfl rfl 0 (by decide) v_9 (fun _ h9 => h9) rfl eX4_readsResets_29 ?_
      have hPc : va_P (dC, dI) vwCl (rd__w rd g_10 g_11 tp (nI len) (nI z_pos_26) (nI z_kd_27) z_vl_28 z_tka_29 au rw rc rp k_ft ft k_fw fw k_fcn fcn k_fpn fpn) _ := hP.sub [0, 1, 2, 3, 4] rfl
      have hDc := hD.sub (ws' := (rd__w rd g_10 g_11 tp (nI len) (nI z_pos_26) (nI z_kd_27) z_vl_28 z_tka_29 au rw rc rp k_ft ft k_fw fw k_fcn fcn k_fpn fpn)) [0, 1, 2, 3, 4] (by decide) rfl
      have hKc : va_K (dC, dI) vwCl (rd__t k_ft k_fw k_fcn k_fpn) s := hK.sub [0, 1, 2, 3] rfl
      have hFc := pu_free hDc hS hA
      refine va_calli (va_runV (As := [.ref rc, .int (nI nc)]) (rest := []) ⟨hx, hb, hml, hown, hts⟩ (c_E_4_toldName_c l dC dI _ rd g_10 g_11 tp len z_pos_26 z_kd_27 z_vl_28 z_tka_29 au rw rc rp k_ft ft k_fw fw k_fcn fcn k_fpn fpn nc hlen hz_pos_26 hz_kd_27 hnc) (cwV 2 hts g_E_4_readsResets_E_4_toldName_c rfl rfl rfl (by decide +kernel) ⟨Nat.le_of_ble_eq_true rfl, Nat.le_of_ble_eq_true rfl⟩) ⟨pu_bl, va_recv hK hP (ci := 4) (q0 := 0) rfl rfl, pu_in hPc hKc hDc⟩ rfl rfl hl.1 rfl (lv_room (Nat.le_of_ble_eq_true rfl)) eX4_readsResets_32 ⟨Nat.le_of_ble_eq_true rfl, Nat.le_of_ble_eq_true rfl⟩) hS (fun q _ h => hFc q h) hFc (fun r_30 u t H1 locs ht hvm hw hB hz1 hk1 hS => ?_)
      obtain ⟨z_fa_31, z_fat_32, ⟨hP1, -, hD1⟩, xr_30_0⟩ := hB
      rw [ht] at hP1
      obtain ⟨hP, hD⟩ := pj_a (X := (ra__w rd g_10 g_11 tp (nI len) (nI z_pos_26) (nI z_kd_27) z_vl_28 z_tka_29 au rw rc rp k_ft ft k_fw fw k_fcn fcn k_fpn fpn (nI nc) (nI np) (nI ne) st0 q4 q5 q6 q7 q8 q9 q10 q11 q12 q13 q14 q15 q16 k_f4 f4 k_f5 (bN 7 q_f5) k_f6 (bN 7 q_f6) k_f7 g_9 k_f8 (bN 4 q_f8) k_f9 (bN 2 q_f9) k_f10 f10 k_f11 f11 k_f12 f12 k_f13 f13 k_f14 f14 k_f15 f15 k_f16 f16)) (X' := (ra__w rd z_fa_31 z_fat_32 tp (nI len) (nI z_pos_26) (nI z_kd_27) z_vl_28 z_tka_29 au rw rc rp k_ft ft k_fw fw k_fcn fcn k_fpn fpn (nI nc) (nI np) (nI ne) st0 q4 q5 q6 q7 q8 q9 q10 q11 q12 q13 q14 q15 q16 k_f4 f4 k_f5 (bN 7 q_f5) k_f6 (bN 7 q_f6) k_f7 g_9 k_f8 (bN 4 q_f8) k_f9 (bN 2 q_f9) k_f10 f10 k_f11 f11 k_f12 f12 k_f13 f13 k_f14 f14 k_f15 f15 k_f16 f16)) (wc := (rd__w rd g_10 g_11 tp (nI len) (nI z_pos_26) (nI z_kd_27) z_vl_28 z_tka_29 au rw rc rp k_ft ft k_fw fw k_fcn fcn k_fpn fpn)) (w1 := (rd__w rd z_fa_31 z_fat_32 tp (nI len) (nI z_pos_26) (nI z_kd_27) z_vl_28 z_tka_29 au rw rc rp k_ft ft k_fw fw k_fcn fcn k_fpn fpn)) hP hD [0, 1, 2, 3, 4] [0, 1, 2, 3, 4, 10, 11, 12, 13, 14, 15, 16, 17, 18, 19, 20, 21, 22, 23] 5 rfl hk1 hP1 rfl rfl rfl (by decide)
      clear hP1 hD1 hFc hPc hDc hKc
      clear hk1 hz1 ht hvm
      generalize H1 = H at hP hS ⊢
      obtain ⟨u_33, hu_33, mu_33, iu_33⟩ := hw
      have iu_33 : (u_33, z_fa_31, z_fat_32) = (sp_E_4_toldName_c g_10 g_11 z_kd_27 z_vl_28 z_tka_29 fcn nc) := Prod.ext iu_33 xr_30_0
      have hsp := hsp.trans (slet_eq iu_33)
      rcases mI_get u_33 with ⟨zn_34, wn_34⟩ | ⟨n_34, zn_34, wn_34⟩
      · obtain rfl : r_30 = -1 := mu_33.trans wn_34
        have hsp := hsp.trans (if_pos zn_34)
        refine lv_istore_n (lv' := [(3, .int (-1)), (0, .ref rd), (1, .int (nI a0)), (2, .int (nI g_16))]) hx hb eX4_readsResets_35 rfl hl (by decide) rfl (fun ls hl => ?_)
        refine lv_iload_n hx hb eX4_readsResets_36 rfl (lv_at hl 0 rfl) ?_
        refine lv_iconst (v := (-1)) hx hb eX4_readsResets_37 (by decide) ?_
        refine lv_icmp_ne (tgt := 43) hx hb eX4_readsResets_38 (by decide) (fun z => absurd z (by decide)) (fun _ => ?_)
        have hsp := hout_22 _ hsp
        refine lv_iconst (v := 0) hx hb eX4_readsResets_41 (by decide) ?_
        exact W.zret (v := 0) (ty := .boolean) hx hb hr (rfl) (fun t ht hW => ⟨⟨0, (), rfl, ⟨0, (Nat.le_of_ble_eq_true rfl), rfl, (congrArg Prod.fst (hsp.symm.trans hRR))⟩, ⟨g_9, z_fa_31, z_fat_32, z_pos_26, z_kd_27, z_vl_28, z_tka_29, ⟨by rw [ht]; exact hP, va_K.moved hW.alike hK, hD⟩, hz_pos_26, hz_kd_27, (congrArg Prod.snd (hsp.symm.trans hRR))⟩⟩, hS.F ht⟩) hS.2.2 eX4_readsResets_42
      · obtain rfl : r_30 = nI n_34 := mu_33.trans wn_34
        have hn_34 : n_34 ≤ 2 := by omega
        have hsp := hsp.trans (if_neg (by omega))
        have hsp := hsp.trans (slet_eq (by omega : n_34 = u_33 - 1))
        refine lv_istore_n (lv' := [(3, .int (nI n_34)), (0, .ref rd), (1, .int (nI a0)), (2, .int (nI g_16))]) hx hb eX4_readsResets_35 rfl hl (by decide) rfl (fun ls hl => ?_)
        refine lv_iload_n hx hb eX4_readsResets_36 rfl (lv_at hl 0 rfl) ?_
        refine lv_iconst (v := (-1)) hx hb eX4_readsResets_37 (by decide) ?_
        refine lv_icmp_ne (tgt := 43) hx hb eX4_readsResets_38 (by decide) (fun _ => ?_) (fun z => absurd z (pu_nneg (n := n_34) (by omega) (by decide)))
        refine lv_aload_n hx hb eX4_readsResets_43 rfl (lv_at hl 1 rfl) ?_
        refine va_get (D := (dC, dI)) (ci := 4) (v := .ref au) (C := RX4) (T := TX4) (N := 12) hx hb hts hiX4 hown hK hP 0 rfl rfl 8 (by decide) v_8 (fun _ h9 => h9) rfl eX4_readsResets_44 ?_
        refine va_get (D := (dC, dI)) (ci := 0) (v := .ref q7) (C := RX0) (T := TX0) (N := 17) hx hb hts hiX0 hown hK hP 5 rfl rfl 7 (by decide) v_14 (fun _ h9 => h9) rfl eX4_readsResets_47 ?_
        refine lv_iload_n hx hb eX4_readsResets_50 rfl (lv_at hl 2 rfl) ?_
        refine va_iald hx hb hK hP 9 7 rfl rfl (vp_in_nI (n := a0) (Nat.lt_of_le_of_lt ha0 (Nat.le_of_ble_eq_true rfl)) (Nat.le_of_ble_eq_true rfl)) eX4_readsResets_51 ?_
        refine lv_topi (fun y_35 ey_35 => ?_)
        have ey_35 : y_35 = g_9 a0 := ey_35.trans (congrArg g_9 (nI_clamp (n := a0) (Nat.lt_of_le_of_lt ha0 (Nat.le_of_ble_eq_true rfl))))
        have hsp := hsp.trans (slet_eq ey_35)
        refine lv_iload_n hx hb eX4_readsResets_52 rfl (lv_at hl 0 rfl) ?_
        refine lv_ishr hx hb eX4_readsResets_53 ?_
        refine lv_topi (fun y_36 ey_36 => ?_)
        have hsp := hsp.trans (slet_eq ey_36)
        refine lv_iconst (v := 1) hx hb eX4_readsResets_54 (by decide) ?_
        refine lv_iand hx hb eX4_readsResets_55 ?_
        refine lv_topi (fun y_37 ey_37 => ?_)
        have hsp := hsp.trans (slet_eq ey_37)
        refine lv_iconst (v := 1) hx hb eX4_readsResets_56 (by decide) ?_
        refine lv_icmp_ne (tgt := 66) hx hb eX4_readsResets_57 (by decide) (fun c_38 => ?_) (fun c_38 => ?_)
        · have hcc_38 := c_38
          have hsp := hsp.trans (if_neg c_38)
          refine lv_aload_n hx hb eX4_readsResets_66 rfl (lv_at hl 1 rfl) ?_
          refine va_get (D := (dC, dI)) (ci := 4) (v := .ref au) (C := RX4) (T := TX4) (N := 12) hx hb hts hiX4 hown hK hP 0 rfl rfl 8 (by decide) v_8 (fun _ h9 => h9) rfl eX4_readsResets_67 ?_
          refine va_get (D := (dC, dI)) (ci := 0) (v := .ref q7) (C := RX0) (T := TX0) (N := 17) hx hb hts hiX0 hown hK hP 5 rfl rfl 7 (by decide) v_14 (fun _ h9 => h9) rfl eX4_readsResets_70 ?_
          refine lv_iload_n hx hb eX4_readsResets_73 rfl (lv_at hl 2 rfl) ?_
          refine lv_dup2_11 hx hb eX4_readsResets_74 rfl rfl ?_
          refine va_iald hx hb hK hP 9 7 rfl rfl (vp_in_nI (n := a0) (Nat.lt_of_le_of_lt ha0 (Nat.le_of_ble_eq_true rfl)) (Nat.le_of_ble_eq_true rfl)) eX4_readsResets_75 ?_
          refine lv_topi (fun y_39 ey_39 => ?_)
          have ey_39 : y_39 = g_9 a0 := ey_39.trans (congrArg g_9 (nI_clamp (n := a0) (Nat.lt_of_le_of_lt ha0 (Nat.le_of_ble_eq_true rfl))))
          have hsp := hsp.trans (slet_eq ey_39)
          refine lv_iconst (v := 1) hx hb eX4_readsResets_76 (by decide) ?_
          refine lv_iload_n hx hb eX4_readsResets_77 rfl (lv_at hl 0 rfl) ?_
          refine lv_ishl hx hb eX4_readsResets_78 ?_
          refine lv_topi (fun y_40 ey_40 => ?_)
          have hsp := hsp.trans (slet_eq ey_40)
          refine lv_ior hx hb eX4_readsResets_79 ?_
          refine lv_topi (fun y_41 ey_41 => ?_)
          have hsp := hsp.trans (slet_eq ey_41)
          refine va_iast hx hb hK hP hD hS 9 7 rfl rfl (vp_in_nI (n := a0) (Nat.lt_of_le_of_lt ha0 (Nat.le_of_ble_eq_true rfl)) (Nat.le_of_ble_eq_true rfl)) eX4_readsResets_80 (fun H locs hP hD hS => ?_)
          obtain ⟨f_42, ef_42, xf_42⟩ := up_x g_9 (n := a0) y_41 (Nat.lt_of_le_of_lt ha0 (Nat.le_of_ble_eq_true rfl))
          have hP : va_P (dC, dI) vwCl (ra__w rd z_fa_31 z_fat_32 tp (nI len) (nI z_pos_26) (nI z_kd_27) z_vl_28 z_tka_29 au rw rc rp k_ft ft k_fw fw k_fcn fcn k_fpn fpn (nI nc) (nI np) (nI ne) st0 q4 q5 q6 q7 q8 q9 q10 q11 q12 q13 q14 q15 q16 k_f4 f4 k_f5 (bN 7 q_f5) k_f6 (bN 7 q_f6) k_f7 f_42 k_f8 (bN 4 q_f8) k_f9 (bN 2 q_f9) k_f10 f10 k_f11 f11 k_f12 f12 k_f13 f13 k_f14 f14 k_f15 f15 k_f16 f16) H := by rw [← ef_42]; exact hP
          have hD : va_D A (ra__w rd z_fa_31 z_fat_32 tp (nI len) (nI z_pos_26) (nI z_kd_27) z_vl_28 z_tka_29 au rw rc rp k_ft ft k_fw fw k_fcn fcn k_fpn fpn (nI nc) (nI np) (nI ne) st0 q4 q5 q6 q7 q8 q9 q10 q11 q12 q13 q14 q15 q16 k_f4 f4 k_f5 (bN 7 q_f5) k_f6 (bN 7 q_f6) k_f7 f_42 k_f8 (bN 4 q_f8) k_f9 (bN 2 q_f9) k_f10 f10 k_f11 f11 k_f12 f12 k_f13 f13 k_f14 f14 k_f15 f15 k_f16 f16) := by rw [← ef_42]; exact hD
          have hsp := hsp.trans (slet_eq xf_42)
          refine lv_aload_n hx hb eX4_readsResets_81 rfl (lv_at hl 1 rfl) ?_
          have hPc : va_P (dC, dI) vwCl (rd__w rd z_fa_31 z_fat_32 tp (nI len) (nI z_pos_26) (nI z_kd_27) z_vl_28 z_tka_29 au rw rc rp k_ft ft k_fw fw k_fcn fcn k_fpn fpn) _ := hP.sub [0, 1, 2, 3, 4] rfl
          have hDc := hD.sub (ws' := (rd__w rd z_fa_31 z_fat_32 tp (nI len) (nI z_pos_26) (nI z_kd_27) z_vl_28 z_tka_29 au rw rc rp k_ft ft k_fw fw k_fcn fcn k_fpn fpn)) [0, 1, 2, 3, 4] (by decide) rfl
          have hKc : va_K (dC, dI) vwCl (rd__t k_ft k_fw k_fcn k_fpn) s := hK.sub [0, 1, 2, 3] rfl
          have hFc := pu_free hDc hS hA
          refine va_callv (va_runV (As := []) (rest := []) ⟨hx, hb, hml, hown, hts⟩ (c_E_4_advance l dC dI _ rd z_fa_31 z_fat_32 tp len z_pos_26 z_kd_27 z_vl_28 z_tka_29 au rw rc rp k_ft ft k_fw fw k_fcn fcn k_fpn fpn hlen hz_pos_26 hz_kd_27) (cwV 0 hts g_E_4_readsResets_E_4_advance rfl rfl rfl (by decide +kernel) ⟨Nat.le_of_ble_eq_true rfl, Nat.le_of_ble_eq_true rfl⟩) ⟨pu_bl, va_recv hK hP (ci := 4) (q0 := 0) rfl rfl, pu_in hPc hKc hDc⟩ rfl rfl hl.1 rfl (lv_room (Nat.le_of_ble_eq_true rfl)) eX4_readsResets_82 ⟨Nat.le_of_ble_eq_true rfl, Nat.le_of_ble_eq_true rfl⟩) hS (fun q _ h => hFc q h) hFc (fun u t H1 locs ht hvm hw hB hz1 hk1 hS => ?_)
          obtain ⟨z_pos_44, z_kd_45, z_vl_46, z_tka_47, ⟨hP1, -, hD1⟩, hz_pos_44, hz_kd_45, xr_43_0⟩ := hB
          rw [ht] at hP1
          obtain ⟨hP, hD⟩ := pj_a (X := (ra__w rd z_fa_31 z_fat_32 tp (nI len) (nI z_pos_26) (nI z_kd_27) z_vl_28 z_tka_29 au rw rc rp k_ft ft k_fw fw k_fcn fcn k_fpn fpn (nI nc) (nI np) (nI ne) st0 q4 q5 q6 q7 q8 q9 q10 q11 q12 q13 q14 q15 q16 k_f4 f4 k_f5 (bN 7 q_f5) k_f6 (bN 7 q_f6) k_f7 f_42 k_f8 (bN 4 q_f8) k_f9 (bN 2 q_f9) k_f10 f10 k_f11 f11 k_f12 f12 k_f13 f13 k_f14 f14 k_f15 f15 k_f16 f16)) (X' := (ra__w rd z_fa_31 z_fat_32 tp (nI len) (nI z_pos_44) (nI z_kd_45) z_vl_46 z_tka_47 au rw rc rp k_ft ft k_fw fw k_fcn fcn k_fpn fpn (nI nc) (nI np) (nI ne) st0 q4 q5 q6 q7 q8 q9 q10 q11 q12 q13 q14 q15 q16 k_f4 f4 k_f5 (bN 7 q_f5) k_f6 (bN 7 q_f6) k_f7 f_42 k_f8 (bN 4 q_f8) k_f9 (bN 2 q_f9) k_f10 f10 k_f11 f11 k_f12 f12 k_f13 f13 k_f14 f14 k_f15 f15 k_f16 f16)) (wc := (rd__w rd z_fa_31 z_fat_32 tp (nI len) (nI z_pos_26) (nI z_kd_27) z_vl_28 z_tka_29 au rw rc rp k_ft ft k_fw fw k_fcn fcn k_fpn fpn)) (w1 := (rd__w rd z_fa_31 z_fat_32 tp (nI len) (nI z_pos_44) (nI z_kd_45) z_vl_46 z_tka_47 au rw rc rp k_ft ft k_fw fw k_fcn fcn k_fpn fpn)) hP hD [0, 1, 2, 3, 4] [0, 1, 2, 3, 4, 10, 11, 12, 13, 14, 15, 16, 17, 18, 19, 20, 21, 22, 23] 5 rfl hk1 hP1 rfl rfl rfl (by decide)
          clear hP1 hD1 hFc hPc hDc hKc
          clear hk1 hz1 ht hvm
          generalize H1 = H at hP hS ⊢
          have hsp := hsp.trans (slet_eq xr_43_0)
          refine lv_iinc (v := (nI (g_16 + 1))) (lv' := [(2, .int (nI (g_16 + 1))), (3, .int (nI n_34)), (0, .ref rd), (1, .int (nI a0))]) hx hb eX4_readsResets_85 hl (k := 3) rfl (nI_1 _) (by decide) rfl (fun ls hl => ?_)
          refine lv_goto (tgt := 2) hx hb eX4_readsResets_88 (by decide) ?_
          exact ih_17 (4 - (g_16 + 1)) (by omega) _ _ _ ⟨f_42, z_fa_31, z_fat_32, z_pos_44, z_kd_45, z_vl_46, z_tka_47, (g_16 + 1), rfl, hz_pos_44, hz_kd_45, (by omega), hin_21 _ hsp, hP, hD, hS, lv_sub hl [2, 3, 0] rfl⟩
        · have hcc_38 := c_38
          have hsp := hsp.trans (if_pos c_38)
          have hsp := hout_22 _ hsp
          refine lv_aload_n hx hb eX4_readsResets_60 rfl (lv_at hl 1 rfl) ?_
          refine lv_iconst (v := 5) hx hb eX4_readsResets_61 (by decide) ?_
          have hPc : va_P (dC, dI) vwCl (rd__w rd z_fa_31 z_fat_32 tp (nI len) (nI z_pos_26) (nI z_kd_27) z_vl_28 z_tka_29 au rw rc rp k_ft ft k_fw fw k_fcn fcn k_fpn fpn) _ := hP.sub [0, 1, 2, 3, 4] rfl
          have hDc := hD.sub (ws' := (rd__w rd z_fa_31 z_fat_32 tp (nI len) (nI z_pos_26) (nI z_kd_27) z_vl_28 z_tka_29 au rw rc rp k_ft ft k_fw fw k_fcn fcn k_fpn fpn)) [0, 1, 2, 3, 4] (by decide) rfl
          have hKc : va_K (dC, dI) vwCl (rd__t k_ft k_fw k_fcn k_fpn) s := hK.sub [0, 1, 2, 3] rfl
          have hFc := pu_free hDc hS hA
          refine va_calli (va_runV (As := [.int 5]) (rest := []) ⟨hx, hb, hml, hown, hts⟩ (c_E_4_refuse l dC dI _ rd z_fa_31 z_fat_32 tp len z_pos_26 z_kd_27 z_vl_28 z_tka_29 au rw rc rp k_ft ft k_fw fw k_fcn fcn k_fpn fpn 5 hlen hz_pos_26 hz_kd_27) (cwV 1 hts g_E_4_readsResets_E_4_refuse rfl rfl rfl (by decide +kernel) ⟨Nat.le_of_ble_eq_true rfl, Nat.le_of_ble_eq_true rfl⟩) ⟨pu_bl, va_recv hK hP (ci := 4) (q0 := 0) rfl rfl, pu_in hPc hKc hDc⟩ rfl rfl hl.1 rfl (lv_room (Nat.le_of_ble_eq_true rfl)) eX4_readsResets_62 ⟨Nat.le_of_ble_eq_true rfl, Nat.le_of_ble_eq_true rfl⟩) hS (fun q _ h => hFc q h) hFc (fun r_48 u t H1 locs ht hvm hw hB hz1 hk1 hS => ?_)
          obtain ⟨z_fa_49, z_fat_50, ⟨hP1, -, hD1⟩, xr_48_0⟩ := hB
          rw [ht] at hP1
          obtain ⟨hP, hD⟩ := pj_a (X := (ra__w rd z_fa_31 z_fat_32 tp (nI len) (nI z_pos_26) (nI z_kd_27) z_vl_28 z_tka_29 au rw rc rp k_ft ft k_fw fw k_fcn fcn k_fpn fpn (nI nc) (nI np) (nI ne) st0 q4 q5 q6 q7 q8 q9 q10 q11 q12 q13 q14 q15 q16 k_f4 f4 k_f5 (bN 7 q_f5) k_f6 (bN 7 q_f6) k_f7 g_9 k_f8 (bN 4 q_f8) k_f9 (bN 2 q_f9) k_f10 f10 k_f11 f11 k_f12 f12 k_f13 f13 k_f14 f14 k_f15 f15 k_f16 f16)) (X' := (ra__w rd z_fa_49 z_fat_50 tp (nI len) (nI z_pos_26) (nI z_kd_27) z_vl_28 z_tka_29 au rw rc rp k_ft ft k_fw fw k_fcn fcn k_fpn fpn (nI nc) (nI np) (nI ne) st0 q4 q5 q6 q7 q8 q9 q10 q11 q12 q13 q14 q15 q16 k_f4 f4 k_f5 (bN 7 q_f5) k_f6 (bN 7 q_f6) k_f7 g_9 k_f8 (bN 4 q_f8) k_f9 (bN 2 q_f9) k_f10 f10 k_f11 f11 k_f12 f12 k_f13 f13 k_f14 f14 k_f15 f15 k_f16 f16)) (wc := (rd__w rd z_fa_31 z_fat_32 tp (nI len) (nI z_pos_26) (nI z_kd_27) z_vl_28 z_tka_29 au rw rc rp k_ft ft k_fw fw k_fcn fcn k_fpn fpn)) (w1 := (rd__w rd z_fa_49 z_fat_50 tp (nI len) (nI z_pos_26) (nI z_kd_27) z_vl_28 z_tka_29 au rw rc rp k_ft ft k_fw fw k_fcn fcn k_fpn fpn)) hP hD [0, 1, 2, 3, 4] [0, 1, 2, 3, 4, 10, 11, 12, 13, 14, 15, 16, 17, 18, 19, 20, 21, 22, 23] 5 rfl hk1 hP1 rfl rfl rfl (by decide)
          clear hP1 hD1 hFc hPc hDc hKc
          clear hk1 hz1 ht hvm
          generalize H1 = H at hP hS ⊢
          have hsp := hsp.trans (slet_eq xr_48_0)
          obtain rfl : r_48 = 0 := hw
          exact W.zret (v := 0) (ty := .boolean) hx hb hr (rfl) (fun t ht hW => ⟨⟨0, (), rfl, ⟨0, (Nat.le_of_ble_eq_true rfl), rfl, (congrArg Prod.fst (hsp.symm.trans hRR))⟩, ⟨g_9, z_fa_49, z_fat_50, z_pos_26, z_kd_27, z_vl_28, z_tka_29, ⟨by rw [ht]; exact hP, va_K.moved hW.alike hK, hD⟩, hz_pos_26, hz_kd_27, (congrArg Prod.snd (hsp.symm.trans hRR))⟩⟩, hS.F ht⟩) hS.2.2 eX4_readsResets_65
theorem eX4_readsClock_0 : decode cX4_readsClock 0 = .ok (.aload_n 0, 1) := by decide +kernel
theorem eX4_readsClock_1 : decode cX4_readsClock 1 = .ok (.getfield 66, 3) := by decide +kernel
theorem eX4_readsClock_4 : decode cX4_readsClock 4 = .ok (.getfield 121, 3) := by decide +kernel
theorem eX4_readsClock_7 : decode cX4_readsClock 7 = .ok (.iconst 3, 1) := by decide +kernel
theorem eX4_readsClock_8 : decode cX4_readsClock 8 = .ok (.if_icmp .lt 9, 3) := by decide +kernel
theorem eX4_readsClock_11 : decode cX4_readsClock 11 = .ok (.aload_n 0, 1) := by decide +kernel
theorem eX4_readsClock_12 : decode cX4_readsClock 12 = .ok (.iconst 5, 1) := by decide +kernel
theorem eX4_readsClock_13 : decode cX4_readsClock 13 = .ok (.invokevirtual 103, 3) := by decide +kernel
theorem eX4_readsClock_16 : decode cX4_readsClock 16 = .ok (.ireturn, 1) := by decide +kernel
theorem eX4_readsClock_17 : decode cX4_readsClock 17 = .ok (.aload_n 0, 1) := by decide +kernel
theorem eX4_readsClock_18 : decode cX4_readsClock 18 = .ok (.invokevirtual 75, 3) := by decide +kernel
theorem eX4_readsClock_21 : decode cX4_readsClock 21 = .ok (.aload_n 0, 1) := by decide +kernel
theorem eX4_readsClock_22 : decode cX4_readsClock 22 = .ok (.invokevirtual 124, 3) := by decide +kernel
theorem eX4_readsClock_25 : decode cX4_readsClock 25 = .ok (.ifCond .ne 5, 3) := by decide +kernel
theorem eX4_readsClock_28 : decode cX4_readsClock 28 = .ok (.iconst 0, 1) := by decide +kernel
theorem eX4_readsClock_29 : decode cX4_readsClock 29 = .ok (.ireturn, 1) := by decide +kernel
theorem eX4_readsClock_30 : decode cX4_readsClock 30 = .ok (.aload_n 0, 1) := by decide +kernel
theorem eX4_readsClock_31 : decode cX4_readsClock 31 = .ok (.getfield 39, 3) := by decide +kernel
theorem eX4_readsClock_34 : decode cX4_readsClock 34 = .ok (.aload_n 0, 1) := by decide +kernel
theorem eX4_readsClock_35 : decode cX4_readsClock 35 = .ok (.getfield 66, 3) := by decide +kernel
theorem eX4_readsClock_38 : decode cX4_readsClock 38 = .ok (.getfield 121, 3) := by decide +kernel
theorem eX4_readsClock_41 : decode cX4_readsClock 41 = .ok (.aload_n 0, 1) := by decide +kernel
theorem eX4_readsClock_42 : decode cX4_readsClock 42 = .ok (.getfield 127, 3) := by decide +kernel
theorem eX4_readsClock_45 : decode cX4_readsClock 45 = .ok (.iastore, 1) := by decide +kernel
theorem eX4_readsClock_46 : decode cX4_readsClock 46 = .ok (.aload_n 0, 1) := by decide +kernel
theorem eX4_readsClock_47 : decode cX4_readsClock 47 = .ok (.getfield 66, 3) := by decide +kernel
theorem eX4_readsClock_50 : decode cX4_readsClock 50 = .ok (.dup, 1) := by decide +kernel
theorem eX4_readsClock_51 : decode cX4_readsClock 51 = .ok (.getfield 121, 3) := by decide +kernel
theorem eX4_readsClock_54 : decode cX4_readsClock 54 = .ok (.iconst 1, 1) := by decide +kernel
theorem eX4_readsClock_55 : decode cX4_readsClock 55 = .ok (.iadd, 1) := by decide +kernel
theorem eX4_readsClock_56 : decode cX4_readsClock 56 = .ok (.putfield 121, 3) := by decide +kernel
theorem eX4_readsClock_59 : decode cX4_readsClock 59 = .ok (.aload_n 0, 1) := by decide +kernel
theorem eX4_readsClock_60 : decode cX4_readsClock 60 = .ok (.invokevirtual 75, 3) := by decide +kernel
theorem eX4_readsClock_63 : decode cX4_readsClock 63 = .ok (.iconst 1, 1) := by decide +kernel
theorem eX4_readsClock_64 : decode cX4_readsClock 64 = .ok (.ireturn, 1) := by decide +kernel
abbrev vs_E_4_readsClock : List Cond := .code yX4_readsClock cX4_readsClock 1 (some .boolean) :: CM
theorem g_E_4_readsClock_E_4_advance : GoodIn vs_E_4_readsClock (wsV RX4 75 RX4 yX4_advance vs_E_4_advance) := cm_gV cm_229 cm_230 cm_231 cm_232 cm_233
theorem g_E_4_readsClock_E_4_isNewName : GoodIn vs_E_4_readsClock (wsV RX4 124 RX4 yX4_isNewName vs_E_4_isNewName) := cm_gV cm_259 cm_260 cm_261 cm_232 cm_262
theorem g_E_4_readsClock_E_4_refuse : GoodIn vs_E_4_readsClock (wsV RX4 103 RX4 yX4_refuse vs_E_4_refuse) := cm_gV cm_255 cm_256 cm_257 cm_232 cm_258
noncomputable def sp_E_4_readsClock (fa : Int32) (fat : Int32) (len : Nat) (pos : Nat) (kd : Nat) (vl : Int32) (tka : Int32) (ft : Nat → Int32) (fw : Nat → Int32) (fcn : Nat → Int32) (fpn : Nat → Int32) (nc : Nat) (np : Nat) : Nat × (Nat → Int32) × Int32 × Int32 × Nat × Nat × Int32 × Int32 × Nat := (if nc < 3 then (slet (sp_E_4_advance len pos vl ft fw) (fun (z_pos_3, z_kd_4, z_vl_5, z_tka_6) => (slet (sp_E_4_isNewName fa fat z_kd_4 z_vl_5 z_tka_6 fcn fpn nc np) (fun (u_10, z_fa_8, z_fat_9) => (if u_10 = 0 then (0, fcn, z_fa_8, z_fat_9, z_pos_3, z_kd_4, z_vl_5, z_tka_6, nc) else (slet (upd fcn nc z_vl_5) (fun f_12 => (slet (sp_E_4_advance len z_pos_3 z_vl_5 ft fw) (fun (z_pos_15, z_kd_16, z_vl_17, z_tka_18) => (1, f_12, z_fa_8, z_fat_9, z_pos_15, z_kd_16, z_vl_17, z_tka_18, (nc + 1))))))))))) else (slet (sp_E_4_refuse tka 5) (fun (z_fa_20, z_fat_21) => (0, fcn, z_fa_20, z_fat_21, pos, kd, vl, tka, nc))))
set_option maxHeartbeats 4000000 in
set_option maxRecDepth 100000 in
theorem c_E_4_readsClock (l : Launch) (dC : Nat → ClassId) (dI : Nat → Nat → Nat) (sz : Nat) (rd : Nat) (fa : Int32) (fat : Int32) (tp : Nat) (len : Nat) (pos : Nat) (kd : Nat) (vl : Int32) (tka : Int32) (au : Nat) (rw : Nat) (rc : Nat) (rp : Nat) (k_ft : ClassId) (ft : Nat → Int32) (k_fw : ClassId) (fw : Nat → Int32) (k_fcn : ClassId) (fcn : Nat → Int32) (k_fpn : ClassId) (fpn : Nat → Int32) (nc : Nat) (np : Nat) (ne : Nat) (st0 : Int32) (q4 : Nat) (q5 : Nat) (q6 : Nat) (q7 : Nat) (q8 : Nat) (q9 : Nat) (q10 : Nat) (q11 : Nat) (q12 : Nat) (q13 : Nat) (q14 : Nat) (q15 : Nat) (q16 : Nat) (k_f4 : ClassId) (f4 : Nat → Int32) (k_f5 : ClassId) (q_f5 : Nat → Nat) (k_f6 : ClassId) (q_f6 : Nat → Nat) (k_f7 : ClassId) (f7 : Nat → Int32) (k_f8 : ClassId) (q_f8 : Nat → Nat) (k_f9 : ClassId) (q_f9 : Nat → Nat) (k_f10 : ClassId) (f10 : Nat → Int32) (k_f11 : ClassId) (f11 : Nat → Int32) (k_f12 : ClassId) (f12 : Nat → Int32) (k_f13 : ClassId) (f13 : Nat → Int32) (k_f14 : ClassId) (f14 : Nat → Int32) (k_f15 : ClassId) (f15 : Nat → Int32) (k_f16 : ClassId) (f16 : Nat → Int32) (hlen : len ≤ 900) (hpos : pos ≤ 900) (hkd : kd ≤ 15) (hnc : nc ≤ 3) (hnp : np ≤ 8) (hne : ne ≤ 14) (hst0 : pm1 7 st0) : Met l yX4_readsClock vs_E_4_readsClock ({ frames := 3, cells := 0, slots := 0, locals := 62 }) (va_Pc [.ref rd] (pu_B (dC, dI) (ra__w rd fa fat tp (nI len) (nI pos) (nI kd) vl tka au rw rc rp k_ft ft k_fw fw k_fcn fcn k_fpn fpn (nI nc) (nI np) (nI ne) st0 q4 q5 q6 q7 q8 q9 q10 q11 q12 q13 q14 q15 q16 k_f4 f4 k_f5 (bN 7 q_f5) k_f6 (bN 7 q_f6) k_f7 f7 k_f8 (bN 4 q_f8) k_f9 (bN 2 q_f9) k_f10 f10 k_f11 f11 k_f12 f12 k_f13 f13 k_f14 f14 k_f15 f15 k_f16 f16) (ra__t k_ft k_fw k_fcn k_fpn k_f4 k_f5 k_f6 k_f7 k_f8 k_f9 k_f10 k_f11 k_f12 k_f13 k_f14 k_f15 k_f16) sz)) (va_Qi (fun (r : Int32) (_ : Unit) => ∃ v : Nat, v ≤ 1 ∧ r = nI v ∧ v = (sp_E_4_readsClock fa fat len pos kd vl tka ft fw fcn fpn nc np).1) (fun _ t => ∃ (z_fcn : Nat → Int32) (z_fa : Int32) (z_fat : Int32) (z_pos : Nat) (z_kd : Nat) (z_vl : Int32) (z_tka : Int32) (z_nc : Nat), pu_E (dC, dI) (ra__w rd z_fa z_fat tp (nI len) (nI z_pos) (nI z_kd) z_vl z_tka au rw rc rp k_ft ft k_fw fw k_fcn z_fcn k_fpn fpn (nI z_nc) (nI np) (nI ne) st0 q4 q5 q6 q7 q8 q9 q10 q11 q12 q13 q14 q15 q16 k_f4 f4 k_f5 (bN 7 q_f5) k_f6 (bN 7 q_f6) k_f7 f7 k_f8 (bN 4 q_f8) k_f9 (bN 2 q_f9) k_f10 f10 k_f11 f11 k_f12 f12 k_f13 f13 k_f14 f14 k_f15 f15 k_f16 f16) (ra__t k_ft k_fw k_fcn k_fpn k_f4 k_f5 k_f6 k_f7 k_f8 k_f9 k_f10 k_f11 k_f12 k_f13 k_f14 k_f15 k_f16) (va_A ((ra__w rd fa fat tp (nI len) (nI pos) (nI kd) vl tka au rw rc rp k_ft ft k_fw fw k_fcn fcn k_fpn fpn (nI nc) (nI np) (nI ne) st0 q4 q5 q6 q7 q8 q9 q10 q11 q12 q13 q14 q15 q16 k_f4 f4 k_f5 (bN 7 q_f5) k_f6 (bN 7 q_f6) k_f7 f7 k_f8 (bN 4 q_f8) k_f9 (bN 2 q_f9) k_f10 f10 k_f11 f11 k_f12 f12 k_f13 f13 k_f14 f14 k_f15 f15 k_f16 f16)) sz) t ∧ (z_pos ≤ 900) ∧ (z_kd ≤ 15) ∧ (z_nc ≤ 3) ∧ ((z_fcn, z_fa, z_fat, z_pos, z_kd, z_vl, z_tka, z_nc) = (sp_E_4_readsClock fa fat len pos kd vl tka ft fw fcn fpn nc np).2)) (va_A ((ra__w rd fa fat tp (nI len) (nI pos) (nI kd) vl tka au rw rc rp k_ft ft k_fw fw k_fcn fcn k_fpn fpn (nI nc) (nI np) (nI ne) st0 q4 q5 q6 q7 q8 q9 q10 q11 q12 q13 q14 q15 q16 k_f4 f4 k_f5 (bN 7 q_f5) k_f6 (bN 7 q_f6) k_f7 f7 k_f8 (bN 4 q_f8) k_f9 (bN 2 q_f9) k_f10 f10 k_f11 f11 k_f12 f12 k_f13 f13 k_f14 f14 k_f15 f15 k_f16 f16)) sz)) 0 0 (va_A ((ra__w rd fa fat tp (nI len) (nI pos) (nI kd) vl tka au rw rc rp k_ft ft k_fw fw k_fcn fcn k_fpn fpn (nI nc) (nI np) (nI ne) st0 q4 q5 q6 q7 q8 q9 q10 q11 q12 q13 q14 q15 q16 k_f4 f4 k_f5 (bN 7 q_f5) k_f6 (bN 7 q_f6) k_f7 f7 k_f8 (bN 4 q_f8) k_f9 (bN 2 q_f9) k_f10 f10 k_f11 f11 k_f12 f12 k_f13 f13 k_f14 f14 k_f15 f15 k_f16 f16)) sz) := by
  refine Met.ofW (cc := cX4_readsClock) (maxL := 1) (ret := (some .boolean)) (by decide) rfl ?_
  intro p e s m args below meth c s₁ B hml hv
  obtain ⟨rfl, rfl, hP, hK, hD0⟩ := hv
  have hx := B.exec
  have hb := B.bytes
  have hr := B.returns
  have hts := atoms_spec (ws := vs_E_4_readsClock) B.pre
  have v_1 := hts (.fieldLink RX4 66 "ClockReach$Reader" "into" "LClockReach$Automaton;") (List.mem_cons_of_mem _ cm_221)
  have v_2 := hts (.fieldLink RX4 121 "ClockReach$Automaton" "clocks" "I") (List.mem_cons_of_mem _ cm_253)
  have v_12 := hts (.fieldLink RX4 39 "ClockReach$Reader" "clockNames" "[I") (List.mem_cons_of_mem _ cm_254)
  have v_13 := hts (.fieldLink RX4 127 "ClockReach$Reader" "value" "I") (List.mem_cons_of_mem _ cm_239)
  have hown : s.vm.findClass RX4 = some m.cls := findClass_of_methodNamed B.named
  have hlocks := B.notSynchronized
  have hiX0 : ∀ w ∈ wsX00, w ∈ vs_E_4_readsClock := fun _ h => List.mem_cons_of_mem _ (cm_X0 h)
  have hiX4 : ∀ w ∈ wsX40, w ∈ vs_E_4_readsClock := fun _ h => List.mem_cons_of_mem _ (cm_X4 h)
  have hD := hD0.self (sz := s.heap.size)
  generalize hAe : va_A ((ra__w rd fa fat tp (nI len) (nI pos) (nI kd) vl tka au rw rc rp k_ft ft k_fw fw k_fcn fcn k_fpn fpn (nI nc) (nI np) (nI ne) st0 q4 q5 q6 q7 q8 q9 q10 q11 q12 q13 q14 q15 q16 k_f4 f4 k_f5 (bN 7 q_f5) k_f6 (bN 7 q_f6) k_f7 f7 k_f8 (bN 4 q_f8) k_f9 (bN 2 q_f9) k_f10 f10 k_f11 f11 k_f12 f12 k_f13 f13 k_f14 f14 k_f15 f15 k_f16 f16)) s.heap.size = A at hD ⊢
  have hA : ∀ q : Nat, s.heap.size ≤ q → A q := fun q h => by rw [← hAe]; exact Or.inr h
  have hS : va_S A s.heap s.heap [] := va_S.rf
  have hl := lv_entry ([.ref rd]) (n := 1) (Nat.le_of_ble_eq_true rfl)
  rw [lg_entry_eq]
  generalize (lg_sl ([.ref rd]) ++ List.replicate (1 - (lg_sl ([.ref rd])).length) Slot.unset).toArray = ls at hl ⊢
  have hl : lv_has ls 1 [(0, .ref rd)] := hl
  obtain ⟨RR, hRR⟩ : ∃ x, x = (sp_E_4_readsClock fa fat len pos kd vl tka ft fw fcn fpn nc np) := ⟨_, rfl⟩
  have hsp := hRR
  refine lv_aload_n hx hb eX4_readsClock_0 rfl (lv_at hl 0 rfl) ?_
  refine va_get (D := (dC, dI)) (ci := 4) (v := .ref au) (C := RX4) (T := TX4) (N := 12) hx hb hts hiX4 hown hK hP 0 rfl rfl 8 (by decide) v_1 (fun _ h9 => h9) rfl eX4_readsClock_1 ?_
  refine va_get (D := (dC, dI)) (ci := 0) (v := .int (nI nc)) (C := RX0) (T := TX0) (N := 17) hx hb hts hiX0 hown hK hP 5 rfl rfl 0 (by decide) v_2 (fun _ h9 => h9) rfl eX4_readsClock_4 ?_
  refine lv_iconst (v := 3) hx hb eX4_readsClock_7 (by decide) ?_
  refine lv_icmp_lt (tgt := 17) hx hb eX4_readsClock_8 (by decide) (fun c_1 => ?_) (fun c_1 => ?_)
  · have c_1 : nc < 3 := (nI_ltI (a := nc) (b := 3) (Nat.lt_of_le_of_lt hnc (Nat.le_of_ble_eq_true rfl)) (Nat.le_of_ble_eq_true rfl)).mp c_1
    have hsp := hsp.trans (if_pos c_1)
    refine lv_aload_n hx hb eX4_readsClock_17 rfl (lv_at hl 0 rfl) ?_
    have hPc : va_P (dC, dI) vwCl (rd__w rd fa fat tp (nI len) (nI pos) (nI kd) vl tka au rw rc rp k_ft ft k_fw fw k_fcn fcn k_fpn fpn) _ := hP.sub [0, 1, 2, 3, 4] rfl
    have hDc := hD.sub (ws' := (rd__w rd fa fat tp (nI len) (nI pos) (nI kd) vl tka au rw rc rp k_ft ft k_fw fw k_fcn fcn k_fpn fpn)) [0, 1, 2, 3, 4] (by decide) rfl
    have hKc : va_K (dC, dI) vwCl (rd__t k_ft k_fw k_fcn k_fpn) s := hK.sub [0, 1, 2, 3] rfl
    have hFc := pu_free hDc hS hA
    refine va_callv (va_runV (As := []) (rest := []) ⟨hx, hb, hml, hown, hts⟩ (c_E_4_advance l dC dI _ rd fa fat tp len pos kd vl tka au rw rc rp k_ft ft k_fw fw k_fcn fcn k_fpn fpn hlen hpos hkd) (cwV 0 hts g_E_4_readsClock_E_4_advance rfl rfl rfl (by decide +kernel) ⟨Nat.le_of_ble_eq_true rfl, Nat.le_of_ble_eq_true rfl⟩) ⟨pu_bl, va_recv hK hP (ci := 4) (q0 := 0) rfl rfl, pu_in hPc hKc hDc⟩ rfl rfl hl.1 rfl (lv_room (Nat.le_of_ble_eq_true rfl)) eX4_readsClock_18 ⟨Nat.le_of_ble_eq_true rfl, Nat.le_of_ble_eq_true rfl⟩) hS (fun q _ h => hFc q h) hFc (fun u t H1 locs ht hvm hw hB hz1 hk1 hS => ?_)
    obtain ⟨z_pos_3, z_kd_4, z_vl_5, z_tka_6, ⟨hP1, -, hD1⟩, hz_pos_3, hz_kd_4, xr_2_0⟩ := hB
    rw [ht] at hP1
    obtain ⟨hP, hD⟩ := pj_a (X := (ra__w rd fa fat tp (nI len) (nI pos) (nI kd) vl tka au rw rc rp k_ft ft k_fw fw k_fcn fcn k_fpn fpn (nI nc) (nI np) (nI ne) st0 q4 q5 q6 q7 q8 q9 q10 q11 q12 q13 q14 q15 q16 k_f4 f4 k_f5 (bN 7 q_f5) k_f6 (bN 7 q_f6) k_f7 f7 k_f8 (bN 4 q_f8) k_f9 (bN 2 q_f9) k_f10 f10 k_f11 f11 k_f12 f12 k_f13 f13 k_f14 f14 k_f15 f15 k_f16 f16)) (X' := (ra__w rd fa fat tp (nI len) (nI z_pos_3) (nI z_kd_4) z_vl_5 z_tka_6 au rw rc rp k_ft ft k_fw fw k_fcn fcn k_fpn fpn (nI nc) (nI np) (nI ne) st0 q4 q5 q6 q7 q8 q9 q10 q11 q12 q13 q14 q15 q16 k_f4 f4 k_f5 (bN 7 q_f5) k_f6 (bN 7 q_f6) k_f7 f7 k_f8 (bN 4 q_f8) k_f9 (bN 2 q_f9) k_f10 f10 k_f11 f11 k_f12 f12 k_f13 f13 k_f14 f14 k_f15 f15 k_f16 f16)) (wc := (rd__w rd fa fat tp (nI len) (nI pos) (nI kd) vl tka au rw rc rp k_ft ft k_fw fw k_fcn fcn k_fpn fpn)) (w1 := (rd__w rd fa fat tp (nI len) (nI z_pos_3) (nI z_kd_4) z_vl_5 z_tka_6 au rw rc rp k_ft ft k_fw fw k_fcn fcn k_fpn fpn)) hP hD [0, 1, 2, 3, 4] [0, 1, 2, 3, 4, 10, 11, 12, 13, 14, 15, 16, 17, 18, 19, 20, 21, 22, 23] 5 rfl hk1 hP1 rfl rfl rfl (by decide)
    clear hP1 hD1 hFc hPc hDc hKc
    clear hk1 hz1 ht hvm
    generalize H1 = H at hP hS ⊢
    have hsp := hsp.trans (slet_eq xr_2_0)
    refine lv_aload_n hx hb eX4_readsClock_21 rfl (lv_at hl 0 rfl) ?_
    have hFc := pu_free hD hS hA
    refine va_calli (va_runV (As := []) (rest := []) ⟨hx, hb, hml, hown, hts⟩ (c_E_4_isNewName l dC dI _ rd fa fat tp len z_pos_3 z_kd_4 z_vl_5 z_tka_6 au rw rc rp k_ft ft k_fw fw k_fcn fcn k_fpn fpn nc np ne st0 q4 q5 q6 q7 q8 q9 q10 q11 q12 q13 q14 q15 q16 k_f4 f4 k_f5 q_f5 k_f6 q_f6 k_f7 f7 k_f8 q_f8 k_f9 q_f9 k_f10 f10 k_f11 f11 k_f12 f12 k_f13 f13 k_f14 f14 k_f15 f15 k_f16 f16 hlen hz_pos_3 hz_kd_4 hnc hnp hne (hst0)) (cwV 0 hts g_E_4_readsClock_E_4_isNewName rfl rfl rfl (by decide +kernel) ⟨Nat.le_of_ble_eq_true rfl, Nat.le_of_ble_eq_true rfl⟩) ⟨pu_bl, va_recv hK hP (ci := 4) (q0 := 0) rfl rfl, pu_in hP hK hD⟩ rfl rfl hl.1 rfl (lv_room (Nat.le_of_ble_eq_true rfl)) eX4_readsClock_22 ⟨Nat.le_of_ble_eq_true rfl, Nat.le_of_ble_eq_true rfl⟩) hS (fun q _ h => hFc q h) hFc (fun r_7 u t H1 locs ht hvm hw hB hz1 hk1 hS => ?_)
    obtain ⟨z_fa_8, z_fat_9, ⟨hP1, -, hD1⟩, xr_7_0⟩ := hB
    rw [ht] at hP1
    have hP := hP1
    have hD := pu_all hFc hD1
    clear hP1 hD1 hFc
    clear hk1 hz1 ht hvm
    generalize H1 = H at hP hS ⊢
    obtain ⟨u_10, hu_10, rfl, iu_10⟩ := hw
    have iu_10 : (u_10, z_fa_8, z_fat_9) = (sp_E_4_isNewName fa fat z_kd_4 z_vl_5 z_tka_6 fcn fpn nc np) := Prod.ext iu_10 xr_7_0
    have hsp := hsp.trans (slet_eq iu_10)
    refine lv_if_ne (tgt := 30) hx hb eX4_readsClock_25 (by decide) (fun c_11 => ?_) (fun c_11 => ?_)
    · have c_11 : ¬ u_10 = 0 := fun z => c_11 ((nI_eq (a := u_10) (b := 0) (Nat.lt_of_le_of_lt hu_10 (Nat.le_of_ble_eq_true rfl)) (Nat.le_of_ble_eq_true rfl)).mpr z)
      have hsp := hsp.trans (if_neg c_11)
      refine lv_aload_n hx hb eX4_readsClock_30 rfl (lv_at hl 0 rfl) ?_
      refine va_get (D := (dC, dI)) (ci := 4) (v := .ref rc) (C := RX4) (T := TX4) (N := 12) hx hb hts hiX4 hown hK hP 0 rfl rfl 10 (by decide) v_12 (fun _ h9 => h9) rfl eX4_readsClock_31 ?_
      refine lv_aload_n hx hb eX4_readsClock_34 rfl (lv_at hl 0 rfl) ?_
      refine va_get (D := (dC, dI)) (ci := 4) (v := .ref au) (C := RX4) (T := TX4) (N := 12) hx hb hts hiX4 hown hK hP 0 rfl rfl 8 (by decide) v_1 (fun _ h9 => h9) rfl eX4_readsClock_35 ?_
      refine va_get (D := (dC, dI)) (ci := 0) (v := .int (nI nc)) (C := RX0) (T := TX0) (N := 17) hx hb hts hiX0 hown hK hP 5 rfl rfl 0 (by decide) v_2 (fun _ h9 => h9) rfl eX4_readsClock_38 ?_
      refine lv_aload_n hx hb eX4_readsClock_41 rfl (lv_at hl 0 rfl) ?_
      refine va_get (D := (dC, dI)) (ci := 4) (v := .int z_vl_5) (C := RX4) (T := TX4) (N := 12) hx hb hts hiX4 hown hK hP 0 rfl rfl 6 (by decide) v_13 (fun _ h9 => h9) rfl eX4_readsClock_42 ?_
      refine va_iast hx hb hK hP hD hS 3 2 rfl rfl (vp_in_nI (n := nc) (by omega) (Nat.le_of_ble_eq_true rfl)) eX4_readsClock_45 (fun H locs hP hD hS => ?_)
      obtain ⟨f_12, ef_12, xf_12⟩ := up_x fcn (n := nc) z_vl_5 (Nat.lt_of_le_of_lt hnc (Nat.le_of_ble_eq_true rfl))
      have hP : va_P (dC, dI) vwCl (ra__w rd z_fa_8 z_fat_9 tp (nI len) (nI z_pos_3) (nI z_kd_4) z_vl_5 z_tka_6 au rw rc rp k_ft ft k_fw fw k_fcn f_12 k_fpn fpn (nI nc) (nI np) (nI ne) st0 q4 q5 q6 q7 q8 q9 q10 q11 q12 q13 q14 q15 q16 k_f4 f4 k_f5 (bN 7 q_f5) k_f6 (bN 7 q_f6) k_f7 f7 k_f8 (bN 4 q_f8) k_f9 (bN 2 q_f9) k_f10 f10 k_f11 f11 k_f12 f12 k_f13 f13 k_f14 f14 k_f15 f15 k_f16 f16) H := by rw [← ef_12]; exact hP
      have hD : va_D A (ra__w rd z_fa_8 z_fat_9 tp (nI len) (nI z_pos_3) (nI z_kd_4) z_vl_5 z_tka_6 au rw rc rp k_ft ft k_fw fw k_fcn f_12 k_fpn fpn (nI nc) (nI np) (nI ne) st0 q4 q5 q6 q7 q8 q9 q10 q11 q12 q13 q14 q15 q16 k_f4 f4 k_f5 (bN 7 q_f5) k_f6 (bN 7 q_f6) k_f7 f7 k_f8 (bN 4 q_f8) k_f9 (bN 2 q_f9) k_f10 f10 k_f11 f11 k_f12 f12 k_f13 f13 k_f14 f14 k_f15 f15 k_f16 f16) := by rw [← ef_12]; exact hD
      have hsp := hsp.trans (slet_eq xf_12)
      refine lv_aload_n hx hb eX4_readsClock_46 rfl (lv_at hl 0 rfl) ?_
      refine va_get (D := (dC, dI)) (ci := 4) (v := .ref au) (C := RX4) (T := TX4) (N := 12) hx hb hts hiX4 hown hK hP 0 rfl rfl 8 (by decide) v_1 (fun _ h9 => h9) rfl eX4_readsClock_47 ?_
      refine lv_dup hx hb eX4_readsClock_50 rfl ?_
      refine va_get (D := (dC, dI)) (ci := 0) (v := .int (nI nc)) (C := RX0) (T := TX0) (N := 17) hx hb hts hiX0 hown hK hP 5 rfl rfl 0 (by decide) v_2 (fun _ h9 => h9) rfl eX4_readsClock_51 ?_
      refine lv_iconst (v := 1) hx hb eX4_readsClock_54 (by decide) ?_
      refine lv_iadd hx hb eX4_readsClock_55 ?_
      refine lv_topi (fun y_13 ey_13 => ?_)
      obtain rfl : y_13 = (nI (nc + 1)) := ey_13.trans (nI_add nc 1)
      refine va_put (D := (dC, dI)) (ci := 0) (v := .int (nI (nc + 1))) (ty := .int) (C := RX0) (T := TX0) (N := 17) hx hb hts hiX0 tyX0 tyX0_ok nmX0 hown hK hP hD hS 5 rfl rfl 0 (by decide) v_2 (fun _ h9 => h9) rfl (by decide +kernel) rfl rfl (Nat.le_of_ble_eq_true rfl) eX4_readsClock_56 (fun H locs hP hD hS => ?_)
      have hP : va_P (dC, dI) vwCl (ra__w rd z_fa_8 z_fat_9 tp (nI len) (nI z_pos_3) (nI z_kd_4) z_vl_5 z_tka_6 au rw rc rp k_ft ft k_fw fw k_fcn f_12 k_fpn fpn (nI (nc + 1)) (nI np) (nI ne) st0 q4 q5 q6 q7 q8 q9 q10 q11 q12 q13 q14 q15 q16 k_f4 f4 k_f5 (bN 7 q_f5) k_f6 (bN 7 q_f6) k_f7 f7 k_f8 (bN 4 q_f8) k_f9 (bN 2 q_f9) k_f10 f10 k_f11 f11 k_f12 f12 k_f13 f13 k_f14 f14 k_f15 f15 k_f16 f16) H := hP
      have hD : va_D A (ra__w rd z_fa_8 z_fat_9 tp (nI len) (nI z_pos_3) (nI z_kd_4) z_vl_5 z_tka_6 au rw rc rp k_ft ft k_fw fw k_fcn f_12 k_fpn fpn (nI (nc + 1)) (nI np) (nI ne) st0 q4 q5 q6 q7 q8 q9 q10 q11 q12 q13 q14 q15 q16 k_f4 f4 k_f5 (bN 7 q_f5) k_f6 (bN 7 q_f6) k_f7 f7 k_f8 (bN 4 q_f8) k_f9 (bN 2 q_f9) k_f10 f10 k_f11 f11 k_f12 f12 k_f13 f13 k_f14 f14 k_f15 f15 k_f16 f16) := hD
      refine lv_aload_n hx hb eX4_readsClock_59 rfl (lv_at hl 0 rfl) ?_
      have hPc : va_P (dC, dI) vwCl (rd__w rd z_fa_8 z_fat_9 tp (nI len) (nI z_pos_3) (nI z_kd_4) z_vl_5 z_tka_6 au rw rc rp k_ft ft k_fw fw k_fcn f_12 k_fpn fpn) _ := hP.sub [0, 1, 2, 3, 4] rfl
      have hDc := hD.sub (ws' := (rd__w rd z_fa_8 z_fat_9 tp (nI len) (nI z_pos_3) (nI z_kd_4) z_vl_5 z_tka_6 au rw rc rp k_ft ft k_fw fw k_fcn f_12 k_fpn fpn)) [0, 1, 2, 3, 4] (by decide) rfl
      have hKc : va_K (dC, dI) vwCl (rd__t k_ft k_fw k_fcn k_fpn) s := hK.sub [0, 1, 2, 3] rfl
      have hFc := pu_free hDc hS hA
      refine va_callv (va_runV (As := []) (rest := []) ⟨hx, hb, hml, hown, hts⟩ (c_E_4_advance l dC dI _ rd z_fa_8 z_fat_9 tp len z_pos_3 z_kd_4 z_vl_5 z_tka_6 au rw rc rp k_ft ft k_fw fw k_fcn f_12 k_fpn fpn hlen hz_pos_3 hz_kd_4) (cwV 0 hts g_E_4_readsClock_E_4_advance rfl rfl rfl (by decide +kernel) ⟨Nat.le_of_ble_eq_true rfl, Nat.le_of_ble_eq_true rfl⟩) ⟨pu_bl, va_recv hK hP (ci := 4) (q0 := 0) rfl rfl, pu_in hPc hKc hDc⟩ rfl rfl hl.1 rfl (lv_room (Nat.le_of_ble_eq_true rfl)) eX4_readsClock_60 ⟨Nat.le_of_ble_eq_true rfl, Nat.le_of_ble_eq_true rfl⟩) hS (fun q _ h => hFc q h) hFc (fun u t H1 locs ht hvm hw hB hz1 hk1 hS => ?_)
      obtain ⟨z_pos_15, z_kd_16, z_vl_17, z_tka_18, ⟨hP1, -, hD1⟩, hz_pos_15, hz_kd_16, xr_14_0⟩ := hB
      rw [ht] at hP1
      obtain ⟨hP, hD⟩ := pj_a (X := (ra__w rd z_fa_8 z_fat_9 tp (nI len) (nI z_pos_3) (nI z_kd_4) z_vl_5 z_tka_6 au rw rc rp k_ft ft k_fw fw k_fcn f_12 k_fpn fpn (nI (nc + 1)) (nI np) (nI ne) st0 q4 q5 q6 q7 q8 q9 q10 q11 q12 q13 q14 q15 q16 k_f4 f4 k_f5 (bN 7 q_f5) k_f6 (bN 7 q_f6) k_f7 f7 k_f8 (bN 4 q_f8) k_f9 (bN 2 q_f9) k_f10 f10 k_f11 f11 k_f12 f12 k_f13 f13 k_f14 f14 k_f15 f15 k_f16 f16)) (X' := (ra__w rd z_fa_8 z_fat_9 tp (nI len) (nI z_pos_15) (nI z_kd_16) z_vl_17 z_tka_18 au rw rc rp k_ft ft k_fw fw k_fcn f_12 k_fpn fpn (nI (nc + 1)) (nI np) (nI ne) st0 q4 q5 q6 q7 q8 q9 q10 q11 q12 q13 q14 q15 q16 k_f4 f4 k_f5 (bN 7 q_f5) k_f6 (bN 7 q_f6) k_f7 f7 k_f8 (bN 4 q_f8) k_f9 (bN 2 q_f9) k_f10 f10 k_f11 f11 k_f12 f12 k_f13 f13 k_f14 f14 k_f15 f15 k_f16 f16)) (wc := (rd__w rd z_fa_8 z_fat_9 tp (nI len) (nI z_pos_3) (nI z_kd_4) z_vl_5 z_tka_6 au rw rc rp k_ft ft k_fw fw k_fcn f_12 k_fpn fpn)) (w1 := (rd__w rd z_fa_8 z_fat_9 tp (nI len) (nI z_pos_15) (nI z_kd_16) z_vl_17 z_tka_18 au rw rc rp k_ft ft k_fw fw k_fcn f_12 k_fpn fpn)) hP hD [0, 1, 2, 3, 4] [0, 1, 2, 3, 4, 10, 11, 12, 13, 14, 15, 16, 17, 18, 19, 20, 21, 22, 23] 5 rfl hk1 hP1 rfl rfl rfl (by decide)
      clear hP1 hD1 hFc hPc hDc hKc
      clear hk1 hz1 ht hvm
      generalize H1 = H at hP hS ⊢
      have hsp := hsp.trans (slet_eq xr_14_0)
      refine lv_iconst (v := 1) hx hb eX4_readsClock_63 (by decide) ?_
      exact W.zret (v := 1) (ty := .boolean) hx hb hr (rfl) (fun t ht hW => ⟨⟨1, (), rfl, ⟨1, (Nat.le_of_ble_eq_true rfl), rfl, (congrArg Prod.fst (hsp.symm.trans hRR))⟩, ⟨f_12, z_fa_8, z_fat_9, z_pos_15, z_kd_16, z_vl_17, z_tka_18, (nc + 1), ⟨by rw [ht]; exact hP, va_K.moved hW.alike hK, hD⟩, hz_pos_15, hz_kd_16, (by omega), (congrArg Prod.snd (hsp.symm.trans hRR))⟩⟩, hS.F ht⟩) hS.2.2 eX4_readsClock_64
    · have c_11 : u_10 = 0 := (nI_eq (a := u_10) (b := 0) (Nat.lt_of_le_of_lt hu_10 (Nat.le_of_ble_eq_true rfl)) (Nat.le_of_ble_eq_true rfl)).mp c_11
      have hsp := hsp.trans (if_pos c_11)
      refine lv_iconst (v := 0) hx hb eX4_readsClock_28 (by decide) ?_
      exact W.zret (v := 0) (ty := .boolean) hx hb hr (rfl) (fun t ht hW => ⟨⟨0, (), rfl, ⟨0, (Nat.le_of_ble_eq_true rfl), rfl, (congrArg Prod.fst (hsp.symm.trans hRR))⟩, ⟨fcn, z_fa_8, z_fat_9, z_pos_3, z_kd_4, z_vl_5, z_tka_6, nc, ⟨by rw [ht]; exact hP, va_K.moved hW.alike hK, hD⟩, hz_pos_3, hz_kd_4, hnc, (congrArg Prod.snd (hsp.symm.trans hRR))⟩⟩, hS.F ht⟩) hS.2.2 eX4_readsClock_29
  · have c_1 : ¬ nc < 3 := fun z => c_1 ((nI_ltI (a := nc) (b := 3) (Nat.lt_of_le_of_lt hnc (Nat.le_of_ble_eq_true rfl)) (Nat.le_of_ble_eq_true rfl)).mpr z)
    have hsp := hsp.trans (if_neg c_1)
    refine lv_aload_n hx hb eX4_readsClock_11 rfl (lv_at hl 0 rfl) ?_
    refine lv_iconst (v := 5) hx hb eX4_readsClock_12 (by decide) ?_
    have hPc : va_P (dC, dI) vwCl (rd__w rd fa fat tp (nI len) (nI pos) (nI kd) vl tka au rw rc rp k_ft ft k_fw fw k_fcn fcn k_fpn fpn) _ := hP.sub [0, 1, 2, 3, 4] rfl
    have hDc := hD.sub (ws' := (rd__w rd fa fat tp (nI len) (nI pos) (nI kd) vl tka au rw rc rp k_ft ft k_fw fw k_fcn fcn k_fpn fpn)) [0, 1, 2, 3, 4] (by decide) rfl
    have hKc : va_K (dC, dI) vwCl (rd__t k_ft k_fw k_fcn k_fpn) s := hK.sub [0, 1, 2, 3] rfl
    have hFc := pu_free hDc hS hA
    refine va_calli (va_runV (As := [.int 5]) (rest := []) ⟨hx, hb, hml, hown, hts⟩ (c_E_4_refuse l dC dI _ rd fa fat tp len pos kd vl tka au rw rc rp k_ft ft k_fw fw k_fcn fcn k_fpn fpn 5 hlen hpos hkd) (cwV 1 hts g_E_4_readsClock_E_4_refuse rfl rfl rfl (by decide +kernel) ⟨Nat.le_of_ble_eq_true rfl, Nat.le_of_ble_eq_true rfl⟩) ⟨pu_bl, va_recv hK hP (ci := 4) (q0 := 0) rfl rfl, pu_in hPc hKc hDc⟩ rfl rfl hl.1 rfl (lv_room (Nat.le_of_ble_eq_true rfl)) eX4_readsClock_13 ⟨Nat.le_of_ble_eq_true rfl, Nat.le_of_ble_eq_true rfl⟩) hS (fun q _ h => hFc q h) hFc (fun r_19 u t H1 locs ht hvm hw hB hz1 hk1 hS => ?_)
    obtain ⟨z_fa_20, z_fat_21, ⟨hP1, -, hD1⟩, xr_19_0⟩ := hB
    rw [ht] at hP1
    obtain ⟨hP, hD⟩ := pj_a (X := (ra__w rd fa fat tp (nI len) (nI pos) (nI kd) vl tka au rw rc rp k_ft ft k_fw fw k_fcn fcn k_fpn fpn (nI nc) (nI np) (nI ne) st0 q4 q5 q6 q7 q8 q9 q10 q11 q12 q13 q14 q15 q16 k_f4 f4 k_f5 (bN 7 q_f5) k_f6 (bN 7 q_f6) k_f7 f7 k_f8 (bN 4 q_f8) k_f9 (bN 2 q_f9) k_f10 f10 k_f11 f11 k_f12 f12 k_f13 f13 k_f14 f14 k_f15 f15 k_f16 f16)) (X' := (ra__w rd z_fa_20 z_fat_21 tp (nI len) (nI pos) (nI kd) vl tka au rw rc rp k_ft ft k_fw fw k_fcn fcn k_fpn fpn (nI nc) (nI np) (nI ne) st0 q4 q5 q6 q7 q8 q9 q10 q11 q12 q13 q14 q15 q16 k_f4 f4 k_f5 (bN 7 q_f5) k_f6 (bN 7 q_f6) k_f7 f7 k_f8 (bN 4 q_f8) k_f9 (bN 2 q_f9) k_f10 f10 k_f11 f11 k_f12 f12 k_f13 f13 k_f14 f14 k_f15 f15 k_f16 f16)) (wc := (rd__w rd fa fat tp (nI len) (nI pos) (nI kd) vl tka au rw rc rp k_ft ft k_fw fw k_fcn fcn k_fpn fpn)) (w1 := (rd__w rd z_fa_20 z_fat_21 tp (nI len) (nI pos) (nI kd) vl tka au rw rc rp k_ft ft k_fw fw k_fcn fcn k_fpn fpn)) hP hD [0, 1, 2, 3, 4] [0, 1, 2, 3, 4, 10, 11, 12, 13, 14, 15, 16, 17, 18, 19, 20, 21, 22, 23] 5 rfl hk1 hP1 rfl rfl rfl (by decide)
    clear hP1 hD1 hFc hPc hDc hKc
    clear hk1 hz1 ht hvm
    generalize H1 = H at hP hS ⊢
    have hsp := hsp.trans (slet_eq xr_19_0)
    obtain rfl : r_19 = 0 := hw
    exact W.zret (v := 0) (ty := .boolean) hx hb hr (rfl) (fun t ht hW => ⟨⟨0, (), rfl, ⟨0, (Nat.le_of_ble_eq_true rfl), rfl, (congrArg Prod.fst (hsp.symm.trans hRR))⟩, ⟨fcn, z_fa_20, z_fat_21, pos, kd, vl, tka, nc, ⟨by rw [ht]; exact hP, va_K.moved hW.alike hK, hD⟩, hpos, hkd, hnc, (congrArg Prod.snd (hsp.symm.trans hRR))⟩⟩, hS.F ht⟩) hS.2.2 eX4_readsClock_16
theorem eX4_readsPlace_0 : decode cX4_readsPlace 0 = .ok (.aload_n 0, 1) := by decide +kernel
theorem eX4_readsPlace_1 : decode cX4_readsPlace 1 = .ok (.getfield 66, 3) := by decide +kernel
theorem eX4_readsPlace_4 : decode cX4_readsPlace 4 = .ok (.getfield 100, 3) := by decide +kernel
theorem eX4_readsPlace_7 : decode cX4_readsPlace 7 = .ok (.bipush 8, 2) := by decide +kernel
theorem eX4_readsPlace_9 : decode cX4_readsPlace 9 = .ok (.if_icmp .lt 9, 3) := by decide +kernel
theorem eX4_readsPlace_12 : decode cX4_readsPlace 12 = .ok (.aload_n 0, 1) := by decide +kernel
theorem eX4_readsPlace_13 : decode cX4_readsPlace 13 = .ok (.iconst 5, 1) := by decide +kernel
theorem eX4_readsPlace_14 : decode cX4_readsPlace 14 = .ok (.invokevirtual 103, 3) := by decide +kernel
theorem eX4_readsPlace_17 : decode cX4_readsPlace 17 = .ok (.ireturn, 1) := by decide +kernel
theorem eX4_readsPlace_18 : decode cX4_readsPlace 18 = .ok (.aload_n 0, 1) := by decide +kernel
theorem eX4_readsPlace_19 : decode cX4_readsPlace 19 = .ok (.invokevirtual 75, 3) := by decide +kernel
theorem eX4_readsPlace_22 : decode cX4_readsPlace 22 = .ok (.aload_n 0, 1) := by decide +kernel
theorem eX4_readsPlace_23 : decode cX4_readsPlace 23 = .ok (.invokevirtual 124, 3) := by decide +kernel
theorem eX4_readsPlace_26 : decode cX4_readsPlace 26 = .ok (.ifCond .ne 5, 3) := by decide +kernel
theorem eX4_readsPlace_29 : decode cX4_readsPlace 29 = .ok (.iconst 0, 1) := by decide +kernel
theorem eX4_readsPlace_30 : decode cX4_readsPlace 30 = .ok (.ireturn, 1) := by decide +kernel
theorem eX4_readsPlace_31 : decode cX4_readsPlace 31 = .ok (.aload_n 0, 1) := by decide +kernel
theorem eX4_readsPlace_32 : decode cX4_readsPlace 32 = .ok (.getfield 66, 3) := by decide +kernel
theorem eX4_readsPlace_35 : decode cX4_readsPlace 35 = .ok (.getfield 100, 3) := by decide +kernel
theorem eX4_readsPlace_38 : decode cX4_readsPlace 38 = .ok (.istore_n 1, 1) := by decide +kernel
theorem eX4_readsPlace_39 : decode cX4_readsPlace 39 = .ok (.aload_n 0, 1) := by decide +kernel
theorem eX4_readsPlace_40 : decode cX4_readsPlace 40 = .ok (.getfield 42, 3) := by decide +kernel
theorem eX4_readsPlace_43 : decode cX4_readsPlace 43 = .ok (.iload_n 1, 1) := by decide +kernel
theorem eX4_readsPlace_44 : decode cX4_readsPlace 44 = .ok (.aload_n 0, 1) := by decide +kernel
theorem eX4_readsPlace_45 : decode cX4_readsPlace 45 = .ok (.getfield 127, 3) := by decide +kernel
theorem eX4_readsPlace_48 : decode cX4_readsPlace 48 = .ok (.iastore, 1) := by decide +kernel
theorem eX4_readsPlace_49 : decode cX4_readsPlace 49 = .ok (.aload_n 0, 1) := by decide +kernel
theorem eX4_readsPlace_50 : decode cX4_readsPlace 50 = .ok (.getfield 66, 3) := by decide +kernel
theorem eX4_readsPlace_53 : decode cX4_readsPlace 53 = .ok (.dup, 1) := by decide +kernel
theorem eX4_readsPlace_54 : decode cX4_readsPlace 54 = .ok (.getfield 100, 3) := by decide +kernel
theorem eX4_readsPlace_57 : decode cX4_readsPlace 57 = .ok (.iconst 1, 1) := by decide +kernel
theorem eX4_readsPlace_58 : decode cX4_readsPlace 58 = .ok (.iadd, 1) := by decide +kernel
theorem eX4_readsPlace_59 : decode cX4_readsPlace 59 = .ok (.putfield 100, 3) := by decide +kernel
theorem eX4_readsPlace_62 : decode cX4_readsPlace 62 = .ok (.aload_n 0, 1) := by decide +kernel
theorem eX4_readsPlace_63 : decode cX4_readsPlace 63 = .ok (.invokevirtual 75, 3) := by decide +kernel
theorem eX4_readsPlace_66 : decode cX4_readsPlace 66 = .ok (.aload_n 0, 1) := by decide +kernel
theorem eX4_readsPlace_67 : decode cX4_readsPlace 67 = .ok (.getfield 78, 3) := by decide +kernel
theorem eX4_readsPlace_70 : decode cX4_readsPlace 70 = .ok (.bipush 10, 2) := by decide +kernel
theorem eX4_readsPlace_72 : decode cX4_readsPlace 72 = .ok (.if_icmp .ne 17, 3) := by decide +kernel
theorem eX4_readsPlace_75 : decode cX4_readsPlace 75 = .ok (.aload_n 0, 1) := by decide +kernel
theorem eX4_readsPlace_76 : decode cX4_readsPlace 76 = .ok (.getfield 66, 3) := by decide +kernel
theorem eX4_readsPlace_79 : decode cX4_readsPlace 79 = .ok (.getfield 130, 3) := by decide +kernel
theorem eX4_readsPlace_82 : decode cX4_readsPlace 82 = .ok (.iload_n 1, 1) := by decide +kernel
theorem eX4_readsPlace_83 : decode cX4_readsPlace 83 = .ok (.iconst 1, 1) := by decide +kernel
theorem eX4_readsPlace_84 : decode cX4_readsPlace 84 = .ok (.bastore, 1) := by decide +kernel
theorem eX4_readsPlace_85 : decode cX4_readsPlace 85 = .ok (.aload_n 0, 1) := by decide +kernel
theorem eX4_readsPlace_86 : decode cX4_readsPlace 86 = .ok (.invokevirtual 75, 3) := by decide +kernel
theorem eX4_readsPlace_89 : decode cX4_readsPlace 89 = .ok (.aload_n 0, 1) := by decide +kernel
theorem eX4_readsPlace_90 : decode cX4_readsPlace 90 = .ok (.iload_n 1, 1) := by decide +kernel
theorem eX4_readsPlace_91 : decode cX4_readsPlace 91 = .ok (.invokestatic 134, 3) := by decide +kernel
theorem eX4_readsPlace_94 : decode cX4_readsPlace 94 = .ok (.bipush 11, 2) := by decide +kernel
theorem eX4_readsPlace_96 : decode cX4_readsPlace 96 = .ok (.iconst 3, 1) := by decide +kernel
theorem eX4_readsPlace_97 : decode cX4_readsPlace 97 = .ok (.invokevirtual 138, 3) := by decide +kernel
theorem eX4_readsPlace_100 : decode cX4_readsPlace 100 = .ok (.ireturn, 1) := by decide +kernel
abbrev vs_E_4_readsPlace : List Cond := .code yX4_readsPlace cX4_readsPlace 2 (some .boolean) :: CM
theorem g_E_4_readsPlace_E_4_advance : GoodIn vs_E_4_readsPlace (wsV RX4 75 RX4 yX4_advance vs_E_4_advance) := cm_gV cm_229 cm_230 cm_231 cm_232 cm_233
theorem g_E_4_readsPlace_E_4_isNewName : GoodIn vs_E_4_readsPlace (wsV RX4 124 RX4 yX4_isNewName vs_E_4_isNewName) := cm_gV cm_259 cm_260 cm_261 cm_232 cm_262
theorem g_E_4_readsPlace_E_0_hostOfPlace : GoodIn vs_E_4_readsPlace (va_wsS RX4 134 yX0_hostOfPlace vs_E_0_hostOfPlace) := cm_gS cm_277 cm_55 cm_19 cm_0
theorem g_E_4_readsPlace_E_4_readsConditions_11 : GoodIn vs_E_4_readsPlace (wsV RX4 138 RX4 yX4_readsConditions vs_E_4_readsConditions_11) := cm_gV cm_278 cm_279 cm_280 cm_232 cm_281
theorem g_E_4_readsPlace_E_4_refuse : GoodIn vs_E_4_readsPlace (wsV RX4 103 RX4 yX4_refuse vs_E_4_refuse) := cm_gV cm_255 cm_256 cm_257 cm_232 cm_258
noncomputable def sp_E_4_readsPlace (fa : Int32) (fat : Int32) (len : Nat) (pos : Nat) (kd : Nat) (vl : Int32) (tka : Int32) (ft : Nat → Int32) (fw : Nat → Int32) (fcn : Nat → Int32) (fpn : Nat → Int32) (nc : Nat) (np : Nat) (f4 : Nat → Int32) (q_f8 : Nat → Nat) (q_f9 : Nat → Nat) (f10 : Nat → Int32) (f11 : Nat → Int32) (f12 : Nat → Int32) (f13 : Nat → Int32) : Nat × (Nat → Nat) × (Nat → Nat) × (Nat → Int32) × (Nat → Int32) × (Nat → Int32) × (Nat → Int32) × (Nat → Int32) × (Nat → Int32) × Int32 × Int32 × Nat × Nat × Int32 × Int32 × Nat := (if np < 8 then (slet (sp_E_4_advance len pos vl ft fw) (fun (z_pos_3, z_kd_4, z_vl_5, z_tka_6) => (slet (sp_E_4_isNewName fa fat z_kd_4 z_vl_5 z_tka_6 fcn fpn nc np) (fun (u_10, z_fa_8, z_fat_9) => (if u_10 = 0 then (0, q_f8, q_f9, f10, f11, f12, f13, fpn, f4, z_fa_8, z_fat_9, z_pos_3, z_kd_4, z_vl_5, z_tka_6, np) else (slet (upd fpn np z_vl_5) (fun f_12 => (slet (sp_E_4_advance len z_pos_3 z_vl_5 ft fw) (fun (z_pos_15, z_kd_16, z_vl_17, z_tka_18) => (slet (α := Nat × Nat × Int32 × Int32 × (Nat → Int32)) (if z_kd_16 = 10 then (slet (upd f4 np (vp_nar .boolean 1)) (fun f_43 => (slet (sp_E_4_advance len z_pos_15 z_vl_17 ft fw) (fun (z_pos_45, z_kd_46, z_vl_47, z_tka_48) => (z_pos_45, z_kd_46, z_vl_47, z_tka_48, f_43))))) else (z_pos_15, z_kd_16, z_vl_17, z_tka_18, f4)) (fun (g_19, g_20, g_21, g_22, g_23) => (slet (sp_E_4_readsConditions_11 z_fa_8 z_fat_9 len g_19 g_20 g_21 g_22 ft fw fcn nc q_f8 q_f9 f10 f11 f12 f13 (14 + np)) (fun (u_41, z_f8_29, z_f9_30, z_f10_31, z_f11_32, z_f12_33, z_f13_34, z_fa_35, z_fat_36, z_pos_37, z_kd_38, z_vl_39, z_tka_40) => (u_41, z_f8_29, z_f9_30, z_f10_31, z_f11_32, z_f12_33, z_f13_34, f_12, g_23, z_fa_35, z_fat_36, z_pos_37, z_kd_38, z_vl_39, z_tka_40, (np + 1))))))))))))))) else (slet (sp_E_4_refuse tka 5) (fun (z_fa_50, z_fat_51) => (0, q_f8, q_f9, f10, f11, f12, f13, fpn, f4, z_fa_50, z_fat_51, pos, kd, vl, tka, np))))
set_option maxHeartbeats 4000000 in
set_option maxRecDepth 100000 in
theorem c_E_4_readsPlace (l : Launch) (dC : Nat → ClassId) (dI : Nat → Nat → Nat) (sz : Nat) (rd : Nat) (fa : Int32) (fat : Int32) (tp : Nat) (len : Nat) (pos : Nat) (kd : Nat) (vl : Int32) (tka : Int32) (au : Nat) (rw : Nat) (rc : Nat) (rp : Nat) (k_ft : ClassId) (ft : Nat → Int32) (k_fw : ClassId) (fw : Nat → Int32) (k_fcn : ClassId) (fcn : Nat → Int32) (k_fpn : ClassId) (fpn : Nat → Int32) (nc : Nat) (np : Nat) (ne : Nat) (st0 : Int32) (q4 : Nat) (q5 : Nat) (q6 : Nat) (q7 : Nat) (q8 : Nat) (q9 : Nat) (q10 : Nat) (q11 : Nat) (q12 : Nat) (q13 : Nat) (q14 : Nat) (q15 : Nat) (q16 : Nat) (k_f4 : ClassId) (f4 : Nat → Int32) (k_f5 : ClassId) (q_f5 : Nat → Nat) (k_f6 : ClassId) (q_f6 : Nat → Nat) (k_f7 : ClassId) (f7 : Nat → Int32) (k_f8 : ClassId) (q_f8 : Nat → Nat) (k_f9 : ClassId) (q_f9 : Nat → Nat) (k_f10 : ClassId) (f10 : Nat → Int32) (k_f11 : ClassId) (f11 : Nat → Int32) (k_f12 : ClassId) (f12 : Nat → Int32) (k_f13 : ClassId) (f13 : Nat → Int32) (k_f14 : ClassId) (f14 : Nat → Int32) (k_f15 : ClassId) (f15 : Nat → Int32) (k_f16 : ClassId) (f16 : Nat → Int32) (hlen : len ≤ 900) (hpos : pos ≤ 900) (hkd : kd ≤ 15) (hnc : nc ≤ 3) (hnp : np ≤ 8) (hne : ne ≤ 14) (hst0 : pm1 7 st0) (hq0 : cz np ne q_f8) : Met l yX4_readsPlace vs_E_4_readsPlace ({ frames := 4, cells := 0, slots := 0, locals := 90 }) (va_Pc [.ref rd] (pu_B (dC, dI) (ra__w rd fa fat tp (nI len) (nI pos) (nI kd) vl tka au rw rc rp k_ft ft k_fw fw k_fcn fcn k_fpn fpn (nI nc) (nI np) (nI ne) st0 q4 q5 q6 q7 q8 q9 q10 q11 q12 q13 q14 q15 q16 k_f4 f4 k_f5 (bN 7 q_f5) k_f6 (bN 7 q_f6) k_f7 f7 k_f8 (bN 4 q_f8) k_f9 (bN 2 q_f9) k_f10 f10 k_f11 f11 k_f12 f12 k_f13 f13 k_f14 f14 k_f15 f15 k_f16 f16) (ra__t k_ft k_fw k_fcn k_fpn k_f4 k_f5 k_f6 k_f7 k_f8 k_f9 k_f10 k_f11 k_f12 k_f13 k_f14 k_f15 k_f16) sz)) (va_Qi (fun (r : Int32) (_ : Unit) => ∃ v : Nat, v ≤ 1 ∧ r = nI v ∧ v = (sp_E_4_readsPlace fa fat len pos kd vl tka ft fw fcn fpn nc np f4 q_f8 q_f9 f10 f11 f12 f13).1) (fun _ t => ∃ (z_f8 : Nat → Nat) (z_f9 : Nat → Nat) (z_f10 : Nat → Int32) (z_f11 : Nat → Int32) (z_f12 : Nat → Int32) (z_f13 : Nat → Int32) (z_fpn : Nat → Int32) (z_f4 : Nat → Int32) (z_fa : Int32) (z_fat : Int32) (z_pos : Nat) (z_kd : Nat) (z_vl : Int32) (z_tka : Int32) (z_np : Nat), pu_E (dC, dI) (ra__w rd z_fa z_fat tp (nI len) (nI z_pos) (nI z_kd) z_vl z_tka au rw rc rp k_ft ft k_fw fw k_fcn fcn k_fpn z_fpn (nI nc) (nI z_np) (nI ne) st0 q4 q5 q6 q7 q8 q9 q10 q11 q12 q13 q14 q15 q16 k_f4 z_f4 k_f5 (bN 7 q_f5) k_f6 (bN 7 q_f6) k_f7 f7 k_f8 (bN 4 z_f8) k_f9 (bN 2 z_f9) k_f10 z_f10 k_f11 z_f11 k_f12 z_f12 k_f13 z_f13 k_f14 f14 k_f15 f15 k_f16 f16) (ra__t k_ft k_fw k_fcn k_fpn k_f4 k_f5 k_f6 k_f7 k_f8 k_f9 k_f10 k_f11 k_f12 k_f13 k_f14 k_f15 k_f16) (va_A ((ra__w rd fa fat tp (nI len) (nI pos) (nI kd) vl tka au rw rc rp k_ft ft k_fw fw k_fcn fcn k_fpn fpn (nI nc) (nI np) (nI ne) st0 q4 q5 q6 q7 q8 q9 q10 q11 q12 q13 q14 q15 q16 k_f4 f4 k_f5 (bN 7 q_f5) k_f6 (bN 7 q_f6) k_f7 f7 k_f8 (bN 4 q_f8) k_f9 (bN 2 q_f9) k_f10 f10 k_f11 f11 k_f12 f12 k_f13 f13 k_f14 f14 k_f15 f15 k_f16 f16)) sz) t ∧ (z_pos ≤ 900) ∧ (z_kd ≤ 15) ∧ (z_np ≤ 8) ∧ (cz z_np ne z_f8) ∧ ((z_f8, z_f9, z_f10, z_f11, z_f12, z_f13, z_fpn, z_f4, z_fa, z_fat, z_pos, z_kd, z_vl, z_tka, z_np) = (sp_E_4_readsPlace fa fat len pos kd vl tka ft fw fcn fpn nc np f4 q_f8 q_f9 f10 f11 f12 f13).2)) (va_A ((ra__w rd fa fat tp (nI len) (nI pos) (nI kd) vl tka au rw rc rp k_ft ft k_fw fw k_fcn fcn k_fpn fpn (nI nc) (nI np) (nI ne) st0 q4 q5 q6 q7 q8 q9 q10 q11 q12 q13 q14 q15 q16 k_f4 f4 k_f5 (bN 7 q_f5) k_f6 (bN 7 q_f6) k_f7 f7 k_f8 (bN 4 q_f8) k_f9 (bN 2 q_f9) k_f10 f10 k_f11 f11 k_f12 f12 k_f13 f13 k_f14 f14 k_f15 f15 k_f16 f16)) sz)) 0 0 (va_A ((ra__w rd fa fat tp (nI len) (nI pos) (nI kd) vl tka au rw rc rp k_ft ft k_fw fw k_fcn fcn k_fpn fpn (nI nc) (nI np) (nI ne) st0 q4 q5 q6 q7 q8 q9 q10 q11 q12 q13 q14 q15 q16 k_f4 f4 k_f5 (bN 7 q_f5) k_f6 (bN 7 q_f6) k_f7 f7 k_f8 (bN 4 q_f8) k_f9 (bN 2 q_f9) k_f10 f10 k_f11 f11 k_f12 f12 k_f13 f13 k_f14 f14 k_f15 f15 k_f16 f16)) sz) := by
  refine Met.ofW (cc := cX4_readsPlace) (maxL := 2) (ret := (some .boolean)) (by decide) rfl ?_
  intro p e s m args below meth c s₁ B hml hv
  obtain ⟨rfl, rfl, hP, hK, hD0⟩ := hv
  have hx := B.exec
  have hb := B.bytes
  have hr := B.returns
  have hts := atoms_spec (ws := vs_E_4_readsPlace) B.pre
  have v_1 := hts (.fieldLink RX4 66 "ClockReach$Reader" "into" "LClockReach$Automaton;") (List.mem_cons_of_mem _ cm_221)
  have v_2 := hts (.fieldLink RX4 100 "ClockReach$Automaton" "places" "I") (List.mem_cons_of_mem _ cm_223)
  have v_12 := hts (.fieldLink RX4 42 "ClockReach$Reader" "placeNames" "[I") (List.mem_cons_of_mem _ cm_263)
  have v_13 := hts (.fieldLink RX4 127 "ClockReach$Reader" "value" "I") (List.mem_cons_of_mem _ cm_239)
  have v_14 := hts (.fieldLink RX4 78 "ClockReach$Reader" "kind" "I") (List.mem_cons_of_mem _ cm_222)
  have v_15 := hts (.fieldLink RX4 130 "ClockReach$Automaton" "hurried" "[Z") (List.mem_cons_of_mem _ cm_276)
  have hown : s.vm.findClass RX4 = some m.cls := findClass_of_methodNamed B.named
  have hlocks := B.notSynchronized
  have hiX0 : ∀ w ∈ wsX00, w ∈ vs_E_4_readsPlace := fun _ h => List.mem_cons_of_mem _ (cm_X0 h)
  have hiX4 : ∀ w ∈ wsX40, w ∈ vs_E_4_readsPlace := fun _ h => List.mem_cons_of_mem _ (cm_X4 h)
  have hD := hD0.self (sz := s.heap.size)
  generalize hAe : va_A ((ra__w rd fa fat tp (nI len) (nI pos) (nI kd) vl tka au rw rc rp k_ft ft k_fw fw k_fcn fcn k_fpn fpn (nI nc) (nI np) (nI ne) st0 q4 q5 q6 q7 q8 q9 q10 q11 q12 q13 q14 q15 q16 k_f4 f4 k_f5 (bN 7 q_f5) k_f6 (bN 7 q_f6) k_f7 f7 k_f8 (bN 4 q_f8) k_f9 (bN 2 q_f9) k_f10 f10 k_f11 f11 k_f12 f12 k_f13 f13 k_f14 f14 k_f15 f15 k_f16 f16)) s.heap.size = A at hD ⊢
  have hA : ∀ q : Nat, s.heap.size ≤ q → A q := fun q h => by rw [← hAe]; exact Or.inr h
  have hS : va_S A s.heap s.heap [] := va_S.rf
  have hl := lv_entry ([.ref rd]) (n := 2) (Nat.le_of_ble_eq_true rfl)
  rw [lg_entry_eq]
  generalize (lg_sl ([.ref rd]) ++ List.replicate (2 - (lg_sl ([.ref rd])).length) Slot.unset).toArray = ls at hl ⊢
  have hl : lv_has ls 2 [(0, .ref rd)] := hl
  obtain ⟨RR, hRR⟩ : ∃ x, x = (sp_E_4_readsPlace fa fat len pos kd vl tka ft fw fcn fpn nc np f4 q_f8 q_f9 f10 f11 f12 f13) := ⟨_, rfl⟩
  have hsp := hRR
  refine lv_aload_n hx hb eX4_readsPlace_0 rfl (lv_at hl 0 rfl) ?_
  refine va_get (D := (dC, dI)) (ci := 4) (v := .ref au) (C := RX4) (T := TX4) (N := 12) hx hb hts hiX4 hown hK hP 0 rfl rfl 8 (by decide) v_1 (fun _ h9 => h9) rfl eX4_readsPlace_1 ?_
  refine va_get (D := (dC, dI)) (ci := 0) (v := .int (nI np)) (C := RX0) (T := TX0) (N := 17) hx hb hts hiX0 hown hK hP 5 rfl rfl 1 (by decide) v_2 (fun _ h9 => h9) rfl eX4_readsPlace_4 ?_
  refine lv_bipush (v := 8) hx hb eX4_readsPlace_7 (by decide) ?_
  refine lv_icmp_lt (tgt := 18) hx hb eX4_readsPlace_9 (by decide) (fun c_1 => ?_) (fun c_1 => ?_)
  · have c_1 : np < 8 := (nI_ltI (a := np) (b := 8) (Nat.lt_of_le_of_lt hnp (Nat.le_of_ble_eq_true rfl)) (Nat.le_of_ble_eq_true rfl)).mp c_1
    have hsp := hsp.trans (if_pos c_1)
    refine lv_aload_n hx hb eX4_readsPlace_18 rfl (lv_at hl 0 rfl) ?_
    have hPc : va_P (dC, dI) vwCl (rd__w rd fa fat tp (nI len) (nI pos) (nI kd) vl tka au rw rc rp k_ft ft k_fw fw k_fcn fcn k_fpn fpn) _ := hP.sub [0, 1, 2, 3, 4] rfl
    have hDc := hD.sub (ws' := (rd__w rd fa fat tp (nI len) (nI pos) (nI kd) vl tka au rw rc rp k_ft ft k_fw fw k_fcn fcn k_fpn fpn)) [0, 1, 2, 3, 4] (by decide) rfl
    have hKc : va_K (dC, dI) vwCl (rd__t k_ft k_fw k_fcn k_fpn) s := hK.sub [0, 1, 2, 3] rfl
    have hFc := pu_free hDc hS hA
    refine va_callv (va_runV (As := []) (rest := []) ⟨hx, hb, hml, hown, hts⟩ (c_E_4_advance l dC dI _ rd fa fat tp len pos kd vl tka au rw rc rp k_ft ft k_fw fw k_fcn fcn k_fpn fpn hlen hpos hkd) (cwV 0 hts g_E_4_readsPlace_E_4_advance rfl rfl rfl (by decide +kernel) ⟨Nat.le_of_ble_eq_true rfl, Nat.le_of_ble_eq_true rfl⟩) ⟨pu_bl, va_recv hK hP (ci := 4) (q0 := 0) rfl rfl, pu_in hPc hKc hDc⟩ rfl rfl hl.1 rfl (lv_room (Nat.le_of_ble_eq_true rfl)) eX4_readsPlace_19 ⟨Nat.le_of_ble_eq_true rfl, Nat.le_of_ble_eq_true rfl⟩) hS (fun q _ h => hFc q h) hFc (fun u t H1 locs ht hvm hw hB hz1 hk1 hS => ?_)
    obtain ⟨z_pos_3, z_kd_4, z_vl_5, z_tka_6, ⟨hP1, -, hD1⟩, hz_pos_3, hz_kd_4, xr_2_0⟩ := hB
    rw [ht] at hP1
    obtain ⟨hP, hD⟩ := pj_a (X := (ra__w rd fa fat tp (nI len) (nI pos) (nI kd) vl tka au rw rc rp k_ft ft k_fw fw k_fcn fcn k_fpn fpn (nI nc) (nI np) (nI ne) st0 q4 q5 q6 q7 q8 q9 q10 q11 q12 q13 q14 q15 q16 k_f4 f4 k_f5 (bN 7 q_f5) k_f6 (bN 7 q_f6) k_f7 f7 k_f8 (bN 4 q_f8) k_f9 (bN 2 q_f9) k_f10 f10 k_f11 f11 k_f12 f12 k_f13 f13 k_f14 f14 k_f15 f15 k_f16 f16)) (X' := (ra__w rd fa fat tp (nI len) (nI z_pos_3) (nI z_kd_4) z_vl_5 z_tka_6 au rw rc rp k_ft ft k_fw fw k_fcn fcn k_fpn fpn (nI nc) (nI np) (nI ne) st0 q4 q5 q6 q7 q8 q9 q10 q11 q12 q13 q14 q15 q16 k_f4 f4 k_f5 (bN 7 q_f5) k_f6 (bN 7 q_f6) k_f7 f7 k_f8 (bN 4 q_f8) k_f9 (bN 2 q_f9) k_f10 f10 k_f11 f11 k_f12 f12 k_f13 f13 k_f14 f14 k_f15 f15 k_f16 f16)) (wc := (rd__w rd fa fat tp (nI len) (nI pos) (nI kd) vl tka au rw rc rp k_ft ft k_fw fw k_fcn fcn k_fpn fpn)) (w1 := (rd__w rd fa fat tp (nI len) (nI z_pos_3) (nI z_kd_4) z_vl_5 z_tka_6 au rw rc rp k_ft ft k_fw fw k_fcn fcn k_fpn fpn)) hP hD [0, 1, 2, 3, 4] [0, 1, 2, 3, 4, 10, 11, 12, 13, 14, 15, 16, 17, 18, 19, 20, 21, 22, 23] 5 rfl hk1 hP1 rfl rfl rfl (by decide)
    clear hP1 hD1 hFc hPc hDc hKc
    clear hk1 hz1 ht hvm
    generalize H1 = H at hP hS ⊢
    have hsp := hsp.trans (slet_eq xr_2_0)
    refine lv_aload_n hx hb eX4_readsPlace_22 rfl (lv_at hl 0 rfl) ?_
    have hFc := pu_free hD hS hA
    refine va_calli (va_runV (As := []) (rest := []) ⟨hx, hb, hml, hown, hts⟩ (c_E_4_isNewName l dC dI _ rd fa fat tp len z_pos_3 z_kd_4 z_vl_5 z_tka_6 au rw rc rp k_ft ft k_fw fw k_fcn fcn k_fpn fpn nc np ne st0 q4 q5 q6 q7 q8 q9 q10 q11 q12 q13 q14 q15 q16 k_f4 f4 k_f5 q_f5 k_f6 q_f6 k_f7 f7 k_f8 q_f8 k_f9 q_f9 k_f10 f10 k_f11 f11 k_f12 f12 k_f13 f13 k_f14 f14 k_f15 f15 k_f16 f16 hlen hz_pos_3 hz_kd_4 hnc hnp hne (hst0)) (cwV 0 hts g_E_4_readsPlace_E_4_isNewName rfl rfl rfl (by decide +kernel) ⟨Nat.le_of_ble_eq_true rfl, Nat.le_of_ble_eq_true rfl⟩) ⟨pu_bl, va_recv hK hP (ci := 4) (q0 := 0) rfl rfl, pu_in hP hK hD⟩ rfl rfl hl.1 rfl (lv_room (Nat.le_of_ble_eq_true rfl)) eX4_readsPlace_23 ⟨Nat.le_of_ble_eq_true rfl, Nat.le_of_ble_eq_true rfl⟩) hS (fun q _ h => hFc q h) hFc (fun r_7 u t H1 locs ht hvm hw hB hz1 hk1 hS => ?_)
    obtain ⟨z_fa_8, z_fat_9, ⟨hP1, -, hD1⟩, xr_7_0⟩ := hB
    rw [ht] at hP1
    have hP := hP1
    have hD := pu_all hFc hD1
    clear hP1 hD1 hFc
    clear hk1 hz1 ht hvm
    generalize H1 = H at hP hS ⊢
    obtain ⟨u_10, hu_10, rfl, iu_10⟩ := hw
    have iu_10 : (u_10, z_fa_8, z_fat_9) = (sp_E_4_isNewName fa fat z_kd_4 z_vl_5 z_tka_6 fcn fpn nc np) := Prod.ext iu_10 xr_7_0
    have hsp := hsp.trans (slet_eq iu_10)
    refine lv_if_ne (tgt := 31) hx hb eX4_readsPlace_26 (by decide) (fun c_11 => ?_) (fun c_11 => ?_)
    · have c_11 : ¬ u_10 = 0 := fun z => c_11 ((nI_eq (a := u_10) (b := 0) (Nat.lt_of_le_of_lt hu_10 (Nat.le_of_ble_eq_true rfl)) (Nat.le_of_ble_eq_true rfl)).mpr z)
      have hsp := hsp.trans (if_neg c_11)
      refine lv_aload_n hx hb eX4_readsPlace_31 rfl (lv_at hl 0 rfl) ?_
      refine va_get (D := (dC, dI)) (ci := 4) (v := .ref au) (C := RX4) (T := TX4) (N := 12) hx hb hts hiX4 hown hK hP 0 rfl rfl 8 (by decide) v_1 (fun _ h9 => h9) rfl eX4_readsPlace_32 ?_
      refine va_get (D := (dC, dI)) (ci := 0) (v := .int (nI np)) (C := RX0) (T := TX0) (N := 17) hx hb hts hiX0 hown hK hP 5 rfl rfl 1 (by decide) v_2 (fun _ h9 => h9) rfl eX4_readsPlace_35 ?_
      refine lv_istore_n (lv' := [(1, .int (nI np)), (0, .ref rd)]) hx hb eX4_readsPlace_38 rfl hl (by decide) rfl (fun ls hl => ?_)
      refine lv_aload_n hx hb eX4_readsPlace_39 rfl (lv_at hl 1 rfl) ?_
      refine va_get (D := (dC, dI)) (ci := 4) (v := .ref rp) (C := RX4) (T := TX4) (N := 12) hx hb hts hiX4 hown hK hP 0 rfl rfl 11 (by decide) v_12 (fun _ h9 => h9) rfl eX4_readsPlace_40 ?_
      refine lv_iload_n hx hb eX4_readsPlace_43 rfl (lv_at hl 0 rfl) ?_
      refine lv_aload_n hx hb eX4_readsPlace_44 rfl (lv_at hl 1 rfl) ?_
      refine va_get (D := (dC, dI)) (ci := 4) (v := .int z_vl_5) (C := RX4) (T := TX4) (N := 12) hx hb hts hiX4 hown hK hP 0 rfl rfl 6 (by decide) v_13 (fun _ h9 => h9) rfl eX4_readsPlace_45 ?_
      refine va_iast hx hb hK hP hD hS 4 3 rfl rfl (vp_in_nI (n := np) (by omega) (Nat.le_of_ble_eq_true rfl)) eX4_readsPlace_48 (fun H locs hP hD hS => ?_)
      obtain ⟨f_12, ef_12, xf_12⟩ := up_x fpn (n := np) z_vl_5 (Nat.lt_of_le_of_lt hnp (Nat.le_of_ble_eq_true rfl))
      have hP : va_P (dC, dI) vwCl (ra__w rd z_fa_8 z_fat_9 tp (nI len) (nI z_pos_3) (nI z_kd_4) z_vl_5 z_tka_6 au rw rc rp k_ft ft k_fw fw k_fcn fcn k_fpn f_12 (nI nc) (nI np) (nI ne) st0 q4 q5 q6 q7 q8 q9 q10 q11 q12 q13 q14 q15 q16 k_f4 f4 k_f5 (bN 7 q_f5) k_f6 (bN 7 q_f6) k_f7 f7 k_f8 (bN 4 q_f8) k_f9 (bN 2 q_f9) k_f10 f10 k_f11 f11 k_f12 f12 k_f13 f13 k_f14 f14 k_f15 f15 k_f16 f16) H := by rw [← ef_12]; exact hP
      have hD : va_D A (ra__w rd z_fa_8 z_fat_9 tp (nI len) (nI z_pos_3) (nI z_kd_4) z_vl_5 z_tka_6 au rw rc rp k_ft ft k_fw fw k_fcn fcn k_fpn f_12 (nI nc) (nI np) (nI ne) st0 q4 q5 q6 q7 q8 q9 q10 q11 q12 q13 q14 q15 q16 k_f4 f4 k_f5 (bN 7 q_f5) k_f6 (bN 7 q_f6) k_f7 f7 k_f8 (bN 4 q_f8) k_f9 (bN 2 q_f9) k_f10 f10 k_f11 f11 k_f12 f12 k_f13 f13 k_f14 f14 k_f15 f15 k_f16 f16) := by rw [← ef_12]; exact hD
      have hsp := hsp.trans (slet_eq xf_12)
      refine lv_aload_n hx hb eX4_readsPlace_49 rfl (lv_at hl 1 rfl) ?_
      refine va_get (D := (dC, dI)) (ci := 4) (v := .ref au) (C := RX4) (T := TX4) (N := 12) hx hb hts hiX4 hown hK hP 0 rfl rfl 8 (by decide) v_1 (fun _ h9 => h9) rfl eX4_readsPlace_50 ?_
      refine lv_dup hx hb eX4_readsPlace_53 rfl ?_
      refine va_get (D := (dC, dI)) (ci := 0) (v := .int (nI np)) (C := RX0) (T := TX0) (N := 17) hx hb hts hiX0 hown hK hP 5 rfl rfl 1 (by decide) v_2 (fun _ h9 => h9) rfl eX4_readsPlace_54 ?_
      refine lv_iconst (v := 1) hx hb eX4_readsPlace_57 (by decide) ?_
      refine lv_iadd hx hb eX4_readsPlace_58 ?_
      refine lv_topi (fun y_13 ey_13 => ?_)
      obtain rfl : y_13 = (nI (np + 1)) := ey_13.trans (nI_add np 1)
      refine va_put (D := (dC, dI)) (ci := 0) (v := .int (nI (np + 1))) (ty := .int) (C := RX0) (T := TX0) (N := 17) hx hb hts hiX0 tyX0 tyX0_ok nmX0 hown hK hP hD hS 5 rfl rfl 1 (by decide) v_2 (fun _ h9 => h9) rfl (by decide +kernel) rfl rfl (Nat.le_of_ble_eq_true rfl) eX4_readsPlace_59 (fun H locs hP hD hS => ?_)
      have hP : va_P (dC, dI) vwCl (ra__w rd z_fa_8 z_fat_9 tp (nI len) (nI z_pos_3) (nI z_kd_4) z_vl_5 z_tka_6 au rw rc rp k_ft ft k_fw fw k_fcn fcn k_fpn f_12 (nI nc) (nI (np + 1)) (nI ne) st0 q4 q5 q6 q7 q8 q9 q10 q11 q12 q13 q14 q15 q16 k_f4 f4 k_f5 (bN 7 q_f5) k_f6 (bN 7 q_f6) k_f7 f7 k_f8 (bN 4 q_f8) k_f9 (bN 2 q_f9) k_f10 f10 k_f11 f11 k_f12 f12 k_f13 f13 k_f14 f14 k_f15 f15 k_f16 f16) H := hP
      have hD : va_D A (ra__w rd z_fa_8 z_fat_9 tp (nI len) (nI z_pos_3) (nI z_kd_4) z_vl_5 z_tka_6 au rw rc rp k_ft ft k_fw fw k_fcn fcn k_fpn f_12 (nI nc) (nI (np + 1)) (nI ne) st0 q4 q5 q6 q7 q8 q9 q10 q11 q12 q13 q14 q15 q16 k_f4 f4 k_f5 (bN 7 q_f5) k_f6 (bN 7 q_f6) k_f7 f7 k_f8 (bN 4 q_f8) k_f9 (bN 2 q_f9) k_f10 f10 k_f11 f11 k_f12 f12 k_f13 f13 k_f14 f14 k_f15 f15 k_f16 f16) := hD
      refine lv_aload_n hx hb eX4_readsPlace_62 rfl (lv_at hl 1 rfl) ?_
      have hPc : va_P (dC, dI) vwCl (rd__w rd z_fa_8 z_fat_9 tp (nI len) (nI z_pos_3) (nI z_kd_4) z_vl_5 z_tka_6 au rw rc rp k_ft ft k_fw fw k_fcn fcn k_fpn f_12) _ := hP.sub [0, 1, 2, 3, 4] rfl
      have hDc := hD.sub (ws' := (rd__w rd z_fa_8 z_fat_9 tp (nI len) (nI z_pos_3) (nI z_kd_4) z_vl_5 z_tka_6 au rw rc rp k_ft ft k_fw fw k_fcn fcn k_fpn f_12)) [0, 1, 2, 3, 4] (by decide) rfl
      have hKc : va_K (dC, dI) vwCl (rd__t k_ft k_fw k_fcn k_fpn) s := hK.sub [0, 1, 2, 3] rfl
      have hFc := pu_free hDc hS hA
      refine va_callv (va_runV (As := []) (rest := []) ⟨hx, hb, hml, hown, hts⟩ (c_E_4_advance l dC dI _ rd z_fa_8 z_fat_9 tp len z_pos_3 z_kd_4 z_vl_5 z_tka_6 au rw rc rp k_ft ft k_fw fw k_fcn fcn k_fpn f_12 hlen hz_pos_3 hz_kd_4) (cwV 0 hts g_E_4_readsPlace_E_4_advance rfl rfl rfl (by decide +kernel) ⟨Nat.le_of_ble_eq_true rfl, Nat.le_of_ble_eq_true rfl⟩) ⟨pu_bl, va_recv hK hP (ci := 4) (q0 := 0) rfl rfl, pu_in hPc hKc hDc⟩ rfl rfl hl.1 rfl (lv_room (Nat.le_of_ble_eq_true rfl)) eX4_readsPlace_63 ⟨Nat.le_of_ble_eq_true rfl, Nat.le_of_ble_eq_true rfl⟩) hS (fun q _ h => hFc q h) hFc (fun u t H1 locs ht hvm hw hB hz1 hk1 hS => ?_)
      obtain ⟨z_pos_15, z_kd_16, z_vl_17, z_tka_18, ⟨hP1, -, hD1⟩, hz_pos_15, hz_kd_16, xr_14_0⟩ := hB
      rw [ht] at hP1
      obtain ⟨hP, hD⟩ := pj_a (X := (ra__w rd z_fa_8 z_fat_9 tp (nI len) (nI z_pos_3) (nI z_kd_4) z_vl_5 z_tka_6 au rw rc rp k_ft ft k_fw fw k_fcn fcn k_fpn f_12 (nI nc) (nI (np + 1)) (nI ne) st0 q4 q5 q6 q7 q8 q9 q10 q11 q12 q13 q14 q15 q16 k_f4 f4 k_f5 (bN 7 q_f5) k_f6 (bN 7 q_f6) k_f7 f7 k_f8 (bN 4 q_f8) k_f9 (bN 2 q_f9) k_f10 f10 k_f11 f11 k_f12 f12 k_f13 f13 k_f14 f14 k_f15 f15 k_f16 f16)) (X' := (ra__w rd z_fa_8 z_fat_9 tp (nI len) (nI z_pos_15) (nI z_kd_16) z_vl_17 z_tka_18 au rw rc rp k_ft ft k_fw fw k_fcn fcn k_fpn f_12 (nI nc) (nI (np + 1)) (nI ne) st0 q4 q5 q6 q7 q8 q9 q10 q11 q12 q13 q14 q15 q16 k_f4 f4 k_f5 (bN 7 q_f5) k_f6 (bN 7 q_f6) k_f7 f7 k_f8 (bN 4 q_f8) k_f9 (bN 2 q_f9) k_f10 f10 k_f11 f11 k_f12 f12 k_f13 f13 k_f14 f14 k_f15 f15 k_f16 f16)) (wc := (rd__w rd z_fa_8 z_fat_9 tp (nI len) (nI z_pos_3) (nI z_kd_4) z_vl_5 z_tka_6 au rw rc rp k_ft ft k_fw fw k_fcn fcn k_fpn f_12)) (w1 := (rd__w rd z_fa_8 z_fat_9 tp (nI len) (nI z_pos_15) (nI z_kd_16) z_vl_17 z_tka_18 au rw rc rp k_ft ft k_fw fw k_fcn fcn k_fpn f_12)) hP hD [0, 1, 2, 3, 4] [0, 1, 2, 3, 4, 10, 11, 12, 13, 14, 15, 16, 17, 18, 19, 20, 21, 22, 23] 5 rfl hk1 hP1 rfl rfl rfl (by decide)
      clear hP1 hD1 hFc hPc hDc hKc
      clear hk1 hz1 ht hvm
      generalize H1 = H at hP hS ⊢
      have hsp := hsp.trans (slet_eq xr_14_0)
      refine lv_aload_n hx hb eX4_readsPlace_66 rfl (lv_at hl 1 rfl) ?_
      refine va_get (D := (dC, dI)) (ci := 4) (v := .int (nI z_kd_16)) (C := RX4) (T := TX4) (N := 12) hx hb hts hiX4 hown hK hP 0 rfl rfl 5 (by decide) v_14 (fun _ h9 => h9) rfl eX4_readsPlace_67 ?_
      refine lv_bipush (v := 10) hx hb eX4_readsPlace_70 (by decide) ?_
      obtain ⟨JR_25, hJR_25, hsp⟩ := slet_ex hsp
      refine pu_join (fun H locs ls st => ∃ (g_19 : Nat) (g_20 : Nat) (g_21 : Int32) (g_22 : Int32) (g_23 : Nat → Int32), st = [] ∧ g_19 ≤ 900 ∧ g_20 ≤ 15 ∧ (g_19, g_20, g_21, g_22, g_23) = JR_25 ∧ va_P (dC, dI) vwCl (ra__w rd z_fa_8 z_fat_9 tp (nI len) (nI g_19) (nI g_20) g_21 g_22 au rw rc rp k_ft ft k_fw fw k_fcn fcn k_fpn f_12 (nI nc) (nI (np + 1)) (nI ne) st0 q4 q5 q6 q7 q8 q9 q10 q11 q12 q13 q14 q15 q16 k_f4 g_23 k_f5 (bN 7 q_f5) k_f6 (bN 7 q_f6) k_f7 f7 k_f8 (bN 4 q_f8) k_f9 (bN 2 q_f9) k_f10 f10 k_f11 f11 k_f12 f12 k_f13 f13 k_f14 f14 k_f15 f15 k_f16 f16) H ∧ va_D A (ra__w rd z_fa_8 z_fat_9 tp (nI len) (nI g_19) (nI g_20) g_21 g_22 au rw rc rp k_ft ft k_fw fw k_fcn fcn k_fpn f_12 (nI nc) (nI (np + 1)) (nI ne) st0 q4 q5 q6 q7 q8 q9 q10 q11 q12 q13 q14 q15 q16 k_f4 g_23 k_f5 (bN 7 q_f5) k_f6 (bN 7 q_f6) k_f7 f7 k_f8 (bN 4 q_f8) k_f9 (bN 2 q_f9) k_f10 f10 k_f11 f11 k_f12 f12 k_f13 f13 k_f14 f14 k_f15 f15 k_f16 f16) ∧ va_S A s.heap H locs ∧ lv_has ls 2 [(0, .ref rd), (1, .int (nI np))]) 89 ?_ (fun j_24 => ?_)
      · rintro H locs ls st ⟨g_19, g_20, g_21, g_22, g_23, rfl, hg_19, hg_20, he_26, hP, hD, hS, hl⟩
        rw [← he_26] at hsp
        refine lv_aload_n hx hb eX4_readsPlace_89 rfl (lv_at hl 0 rfl) ?_
        refine lv_iload_n hx hb eX4_readsPlace_90 rfl (lv_at hl 1 rfl) ?_
        refine va_calli (va_runS (As := [.int (nI np)]) (rest := [.ref rd]) ⟨hx, hb, hml, hown, hts⟩ (c_E_0_hostOfPlace l dC dI _ np (by omega)) (va_cwS 1 hts g_E_4_readsPlace_E_0_hostOfPlace rfl rfl rfl (by decide +kernel) ⟨Nat.le_of_ble_eq_true rfl, Nat.le_of_ble_eq_true rfl⟩) ⟨pu_bl, pu_in (hP.sub [] rfl) (hK.sub [] rfl) (hD.sub [] (by decide) rfl)⟩ rfl rfl hl.1 rfl (lv_room (Nat.le_of_ble_eq_true rfl)) eX4_readsPlace_91 ⟨Nat.le_of_ble_eq_true rfl, Nat.le_of_ble_eq_true rfl⟩) hS (fun q _ h => pu_fr hS hA q h) (pu_fr hS hA) (fun r_27 u t H1 locs ht hvm hw hB hz1 hk1 hS => ?_)
        have hP := pu_keep hP hk1
        clear hk1 hz1 ht hvm
        generalize H1 = H at hP hS ⊢
        obtain rfl : r_27 = nI (14 + np) := hw
        refine lv_bipush (v := 11) hx hb eX4_readsPlace_94 (by decide) ?_
        refine lv_iconst (v := 3) hx hb eX4_readsPlace_96 (by decide) ?_
        have hFc := pu_free hD hS hA
        refine va_calli (va_runV (As := [.int (nI (14 + np)), .int 11, .int 3]) (rest := []) ⟨hx, hb, hml, hown, hts⟩ (c_E_4_readsConditions_11 l dC dI _ rd z_fa_8 z_fat_9 tp len g_19 g_20 g_21 g_22 au rw rc rp k_ft ft k_fw fw k_fcn fcn k_fpn f_12 nc (np + 1) ne st0 q4 q5 q6 q7 q8 q9 q10 q11 q12 q13 q14 q15 q16 k_f4 g_23 k_f5 q_f5 k_f6 q_f6 k_f7 f7 k_f8 q_f8 k_f9 q_f9 k_f10 f10 k_f11 f11 k_f12 f12 k_f13 f13 k_f14 f14 k_f15 f15 k_f16 f16 (14 + np) hlen hg_19 hg_20 hnc (by omega) hne (hst0) (by omega) (cz_p (by assumption) (by omega))) (cwV 3 hts g_E_4_readsPlace_E_4_readsConditions_11 rfl rfl rfl (by decide +kernel) ⟨Nat.le_of_ble_eq_true rfl, Nat.le_of_ble_eq_true rfl⟩) ⟨pu_bl, va_recv hK hP (ci := 4) (q0 := 0) rfl rfl, pu_in hP hK hD⟩ rfl rfl hl.1 rfl (lv_room (Nat.le_of_ble_eq_true rfl)) eX4_readsPlace_97 ⟨Nat.le_of_ble_eq_true rfl, Nat.le_of_ble_eq_true rfl⟩) hS (fun q _ h => hFc q h) hFc (fun r_28 u t H1 locs ht hvm hw hB hz1 hk1 hS => ?_)
        obtain ⟨z_f8_29, z_f9_30, z_f10_31, z_f11_32, z_f12_33, z_f13_34, z_fa_35, z_fat_36, z_pos_37, z_kd_38, z_vl_39, z_tka_40, ⟨hP1, -, hD1⟩, hz_pos_37, hz_kd_38, xr_28_0, xr_28_1⟩ := hB
        rw [ht] at hP1
        have hP := hP1
        have hD := pu_all hFc hD1
        clear hP1 hD1 hFc
        clear hk1 hz1 ht hvm
        generalize H1 = H at hP hS ⊢
        obtain ⟨u_41, hu_41, rfl, iu_41⟩ := hw
        have iu_41 : (u_41, z_f8_29, z_f9_30, z_f10_31, z_f11_32, z_f12_33, z_f13_34, z_fa_35, z_fat_36, z_pos_37, z_kd_38, z_vl_39, z_tka_40) = (sp_E_4_readsConditions_11 z_fa_8 z_fat_9 len g_19 g_20 g_21 g_22 ft fw fcn nc q_f8 q_f9 f10 f11 f12 f13 (14 + np)) := Prod.ext iu_41 xr_28_1
        have hsp := hsp.trans (slet_eq iu_41)
        exact W.zret (v := (nI u_41)) (ty := .boolean) hx hb hr (pu_nz (pu_b1 (n := u_41) (by omega))) (fun t ht hW => ⟨⟨(nI u_41), (), rfl, ⟨u_41, hu_41, rfl, (congrArg Prod.fst (hsp.symm.trans hRR))⟩, ⟨z_f8_29, z_f9_30, z_f10_31, z_f11_32, z_f12_33, z_f13_34, f_12, g_23, z_fa_35, z_fat_36, z_pos_37, z_kd_38, z_vl_39, z_tka_40, (np + 1), ⟨by rw [ht]; exact hP, va_K.moved hW.alike hK, hD⟩, hz_pos_37, hz_kd_38, (by omega), by first | assumption | exact cz_np (by assumption) (by assumption) | exact cz_up (by assumption) | exact cz_ne (by assumption) (by omega) (by assumption) | exact cz_ue (by assumption), (congrArg Prod.snd (hsp.symm.trans hRR))⟩⟩, hS.F ht⟩) hS.2.2 eX4_readsPlace_100
      have hsp := hJR_25
      refine lv_icmp_ne (tgt := 89) hx hb eX4_readsPlace_72 (by decide) (fun c_42 => ?_) (fun c_42 => ?_)
      · have c_42 : ¬ z_kd_16 = 10 := fun z => c_42 ((nI_eq (a := z_kd_16) (b := 10) (Nat.lt_of_le_of_lt hz_kd_16 (Nat.le_of_ble_eq_true rfl)) (Nat.le_of_ble_eq_true rfl)).mpr z)
        have hsp := hsp.trans (if_neg c_42)
        exact j_24 _ _ _ _ ⟨z_pos_15, z_kd_16, z_vl_17, z_tka_18, f4, rfl, hz_pos_15, hz_kd_16, hsp.symm, hP, hD, hS, lv_sub hl [1, 0] rfl⟩
      · have c_42 : z_kd_16 = 10 := (nI_eq (a := z_kd_16) (b := 10) (Nat.lt_of_le_of_lt hz_kd_16 (Nat.le_of_ble_eq_true rfl)) (Nat.le_of_ble_eq_true rfl)).mp c_42
        have hsp := hsp.trans (if_pos c_42)
        refine lv_aload_n hx hb eX4_readsPlace_75 rfl (lv_at hl 1 rfl) ?_
        refine va_get (D := (dC, dI)) (ci := 4) (v := .ref au) (C := RX4) (T := TX4) (N := 12) hx hb hts hiX4 hown hK hP 0 rfl rfl 8 (by decide) v_1 (fun _ h9 => h9) rfl eX4_readsPlace_76 ?_
        refine va_get (D := (dC, dI)) (ci := 0) (v := .ref q4) (C := RX0) (T := TX0) (N := 17) hx hb hts hiX0 hown hK hP 5 rfl rfl 4 (by decide) v_15 (fun _ h9 => h9) rfl eX4_readsPlace_79 ?_
        refine lv_iload_n hx hb eX4_readsPlace_82 rfl (lv_at hl 0 rfl) ?_
        refine lv_iconst (v := 1) hx hb eX4_readsPlace_83 (by decide) ?_
        refine va_zast hx hb hK hP hD hS 6 4 rfl rfl (vp_in_nI (n := np) (by omega) (Nat.le_of_ble_eq_true rfl)) eX4_readsPlace_84 (fun H locs hP hD hS => ?_)
        obtain ⟨f_43, ef_43, xf_43⟩ := up_x f4 (n := np) (vp_nar .boolean 1) (Nat.lt_of_le_of_lt hnp (Nat.le_of_ble_eq_true rfl))
        have hP : va_P (dC, dI) vwCl (ra__w rd z_fa_8 z_fat_9 tp (nI len) (nI z_pos_15) (nI z_kd_16) z_vl_17 z_tka_18 au rw rc rp k_ft ft k_fw fw k_fcn fcn k_fpn f_12 (nI nc) (nI (np + 1)) (nI ne) st0 q4 q5 q6 q7 q8 q9 q10 q11 q12 q13 q14 q15 q16 k_f4 f_43 k_f5 (bN 7 q_f5) k_f6 (bN 7 q_f6) k_f7 f7 k_f8 (bN 4 q_f8) k_f9 (bN 2 q_f9) k_f10 f10 k_f11 f11 k_f12 f12 k_f13 f13 k_f14 f14 k_f15 f15 k_f16 f16) H := by rw [← ef_43]; exact hP
        have hD : va_D A (ra__w rd z_fa_8 z_fat_9 tp (nI len) (nI z_pos_15) (nI z_kd_16) z_vl_17 z_tka_18 au rw rc rp k_ft ft k_fw fw k_fcn fcn k_fpn f_12 (nI nc) (nI (np + 1)) (nI ne) st0 q4 q5 q6 q7 q8 q9 q10 q11 q12 q13 q14 q15 q16 k_f4 f_43 k_f5 (bN 7 q_f5) k_f6 (bN 7 q_f6) k_f7 f7 k_f8 (bN 4 q_f8) k_f9 (bN 2 q_f9) k_f10 f10 k_f11 f11 k_f12 f12 k_f13 f13 k_f14 f14 k_f15 f15 k_f16 f16) := by rw [← ef_43]; exact hD
        have hsp := hsp.trans (slet_eq xf_43)
        refine lv_aload_n hx hb eX4_readsPlace_85 rfl (lv_at hl 1 rfl) ?_
        have hPc : va_P (dC, dI) vwCl (rd__w rd z_fa_8 z_fat_9 tp (nI len) (nI z_pos_15) (nI z_kd_16) z_vl_17 z_tka_18 au rw rc rp k_ft ft k_fw fw k_fcn fcn k_fpn f_12) _ := hP.sub [0, 1, 2, 3, 4] rfl
        have hDc := hD.sub (ws' := (rd__w rd z_fa_8 z_fat_9 tp (nI len) (nI z_pos_15) (nI z_kd_16) z_vl_17 z_tka_18 au rw rc rp k_ft ft k_fw fw k_fcn fcn k_fpn f_12)) [0, 1, 2, 3, 4] (by decide) rfl
        have hKc : va_K (dC, dI) vwCl (rd__t k_ft k_fw k_fcn k_fpn) s := hK.sub [0, 1, 2, 3] rfl
        have hFc := pu_free hDc hS hA
        refine va_callv (va_runV (As := []) (rest := []) ⟨hx, hb, hml, hown, hts⟩ (c_E_4_advance l dC dI _ rd z_fa_8 z_fat_9 tp len z_pos_15 z_kd_16 z_vl_17 z_tka_18 au rw rc rp k_ft ft k_fw fw k_fcn fcn k_fpn f_12 hlen hz_pos_15 hz_kd_16) (cwV 0 hts g_E_4_readsPlace_E_4_advance rfl rfl rfl (by decide +kernel) ⟨Nat.le_of_ble_eq_true rfl, Nat.le_of_ble_eq_true rfl⟩) ⟨pu_bl, va_recv hK hP (ci := 4) (q0 := 0) rfl rfl, pu_in hPc hKc hDc⟩ rfl rfl hl.1 rfl (lv_room (Nat.le_of_ble_eq_true rfl)) eX4_readsPlace_86 ⟨Nat.le_of_ble_eq_true rfl, Nat.le_of_ble_eq_true rfl⟩) hS (fun q _ h => hFc q h) hFc (fun u t H1 locs ht hvm hw hB hz1 hk1 hS => ?_)
        obtain ⟨z_pos_45, z_kd_46, z_vl_47, z_tka_48, ⟨hP1, -, hD1⟩, hz_pos_45, hz_kd_46, xr_44_0⟩ := hB
        rw [ht] at hP1
        obtain ⟨hP, hD⟩ := pj_a (X := (ra__w rd z_fa_8 z_fat_9 tp (nI len) (nI z_pos_15) (nI z_kd_16) z_vl_17 z_tka_18 au rw rc rp k_ft ft k_fw fw k_fcn fcn k_fpn f_12 (nI nc) (nI (np + 1)) (nI ne) st0 q4 q5 q6 q7 q8 q9 q10 q11 q12 q13 q14 q15 q16 k_f4 f_43 k_f5 (bN 7 q_f5) k_f6 (bN 7 q_f6) k_f7 f7 k_f8 (bN 4 q_f8) k_f9 (bN 2 q_f9) k_f10 f10 k_f11 f11 k_f12 f12 k_f13 f13 k_f14 f14 k_f15 f15 k_f16 f16)) (X' := (ra__w rd z_fa_8 z_fat_9 tp (nI len) (nI z_pos_45) (nI z_kd_46) z_vl_47 z_tka_48 au rw rc rp k_ft ft k_fw fw k_fcn fcn k_fpn f_12 (nI nc) (nI (np + 1)) (nI ne) st0 q4 q5 q6 q7 q8 q9 q10 q11 q12 q13 q14 q15 q16 k_f4 f_43 k_f5 (bN 7 q_f5) k_f6 (bN 7 q_f6) k_f7 f7 k_f8 (bN 4 q_f8) k_f9 (bN 2 q_f9) k_f10 f10 k_f11 f11 k_f12 f12 k_f13 f13 k_f14 f14 k_f15 f15 k_f16 f16)) (wc := (rd__w rd z_fa_8 z_fat_9 tp (nI len) (nI z_pos_15) (nI z_kd_16) z_vl_17 z_tka_18 au rw rc rp k_ft ft k_fw fw k_fcn fcn k_fpn f_12)) (w1 := (rd__w rd z_fa_8 z_fat_9 tp (nI len) (nI z_pos_45) (nI z_kd_46) z_vl_47 z_tka_48 au rw rc rp k_ft ft k_fw fw k_fcn fcn k_fpn f_12)) hP hD [0, 1, 2, 3, 4] [0, 1, 2, 3, 4, 10, 11, 12, 13, 14, 15, 16, 17, 18, 19, 20, 21, 22, 23] 5 rfl hk1 hP1 rfl rfl rfl (by decide)
        clear hP1 hD1 hFc hPc hDc hKc
        clear hk1 hz1 ht hvm
        generalize H1 = H at hP hS ⊢
        have hsp := hsp.trans (slet_eq xr_44_0)
        exact j_24 _ _ _ _ ⟨z_pos_45, z_kd_46, z_vl_47, z_tka_48, f_43, rfl, hz_pos_45, hz_kd_46, hsp.symm, hP, hD, hS, lv_sub hl [1, 0] rfl⟩
    · have c_11 : u_10 = 0 := (nI_eq (a := u_10) (b := 0) (Nat.lt_of_le_of_lt hu_10 (Nat.le_of_ble_eq_true rfl)) (Nat.le_of_ble_eq_true rfl)).mp c_11
      have hsp := hsp.trans (if_pos c_11)
      refine lv_iconst (v := 0) hx hb eX4_readsPlace_29 (by decide) ?_
      exact W.zret (v := 0) (ty := .boolean) hx hb hr (rfl) (fun t ht hW => ⟨⟨0, (), rfl, ⟨0, (Nat.le_of_ble_eq_true rfl), rfl, (congrArg Prod.fst (hsp.symm.trans hRR))⟩, ⟨q_f8, q_f9, f10, f11, f12, f13, fpn, f4, z_fa_8, z_fat_9, z_pos_3, z_kd_4, z_vl_5, z_tka_6, np, ⟨by rw [ht]; exact hP, va_K.moved hW.alike hK, hD⟩, hz_pos_3, hz_kd_4, hnp, by first | assumption | exact cz_np (by assumption) (by assumption) | exact cz_up (by assumption) | exact cz_ne (by assumption) (by omega) (by assumption) | exact cz_ue (by assumption), (congrArg Prod.snd (hsp.symm.trans hRR))⟩⟩, hS.F ht⟩) hS.2.2 eX4_readsPlace_30
  · have c_1 : ¬ np < 8 := fun z => c_1 ((nI_ltI (a := np) (b := 8) (Nat.lt_of_le_of_lt hnp (Nat.le_of_ble_eq_true rfl)) (Nat.le_of_ble_eq_true rfl)).mpr z)
    have hsp := hsp.trans (if_neg c_1)
    refine lv_aload_n hx hb eX4_readsPlace_12 rfl (lv_at hl 0 rfl) ?_
    refine lv_iconst (v := 5) hx hb eX4_readsPlace_13 (by decide) ?_
    have hPc : va_P (dC, dI) vwCl (rd__w rd fa fat tp (nI len) (nI pos) (nI kd) vl tka au rw rc rp k_ft ft k_fw fw k_fcn fcn k_fpn fpn) _ := hP.sub [0, 1, 2, 3, 4] rfl
    have hDc := hD.sub (ws' := (rd__w rd fa fat tp (nI len) (nI pos) (nI kd) vl tka au rw rc rp k_ft ft k_fw fw k_fcn fcn k_fpn fpn)) [0, 1, 2, 3, 4] (by decide) rfl
    have hKc : va_K (dC, dI) vwCl (rd__t k_ft k_fw k_fcn k_fpn) s := hK.sub [0, 1, 2, 3] rfl
    have hFc := pu_free hDc hS hA
    refine va_calli (va_runV (As := [.int 5]) (rest := []) ⟨hx, hb, hml, hown, hts⟩ (c_E_4_refuse l dC dI _ rd fa fat tp len pos kd vl tka au rw rc rp k_ft ft k_fw fw k_fcn fcn k_fpn fpn 5 hlen hpos hkd) (cwV 1 hts g_E_4_readsPlace_E_4_refuse rfl rfl rfl (by decide +kernel) ⟨Nat.le_of_ble_eq_true rfl, Nat.le_of_ble_eq_true rfl⟩) ⟨pu_bl, va_recv hK hP (ci := 4) (q0 := 0) rfl rfl, pu_in hPc hKc hDc⟩ rfl rfl hl.1 rfl (lv_room (Nat.le_of_ble_eq_true rfl)) eX4_readsPlace_14 ⟨Nat.le_of_ble_eq_true rfl, Nat.le_of_ble_eq_true rfl⟩) hS (fun q _ h => hFc q h) hFc (fun r_49 u t H1 locs ht hvm hw hB hz1 hk1 hS => ?_)
    obtain ⟨z_fa_50, z_fat_51, ⟨hP1, -, hD1⟩, xr_49_0⟩ := hB
    rw [ht] at hP1
    obtain ⟨hP, hD⟩ := pj_a (X := (ra__w rd fa fat tp (nI len) (nI pos) (nI kd) vl tka au rw rc rp k_ft ft k_fw fw k_fcn fcn k_fpn fpn (nI nc) (nI np) (nI ne) st0 q4 q5 q6 q7 q8 q9 q10 q11 q12 q13 q14 q15 q16 k_f4 f4 k_f5 (bN 7 q_f5) k_f6 (bN 7 q_f6) k_f7 f7 k_f8 (bN 4 q_f8) k_f9 (bN 2 q_f9) k_f10 f10 k_f11 f11 k_f12 f12 k_f13 f13 k_f14 f14 k_f15 f15 k_f16 f16)) (X' := (ra__w rd z_fa_50 z_fat_51 tp (nI len) (nI pos) (nI kd) vl tka au rw rc rp k_ft ft k_fw fw k_fcn fcn k_fpn fpn (nI nc) (nI np) (nI ne) st0 q4 q5 q6 q7 q8 q9 q10 q11 q12 q13 q14 q15 q16 k_f4 f4 k_f5 (bN 7 q_f5) k_f6 (bN 7 q_f6) k_f7 f7 k_f8 (bN 4 q_f8) k_f9 (bN 2 q_f9) k_f10 f10 k_f11 f11 k_f12 f12 k_f13 f13 k_f14 f14 k_f15 f15 k_f16 f16)) (wc := (rd__w rd fa fat tp (nI len) (nI pos) (nI kd) vl tka au rw rc rp k_ft ft k_fw fw k_fcn fcn k_fpn fpn)) (w1 := (rd__w rd z_fa_50 z_fat_51 tp (nI len) (nI pos) (nI kd) vl tka au rw rc rp k_ft ft k_fw fw k_fcn fcn k_fpn fpn)) hP hD [0, 1, 2, 3, 4] [0, 1, 2, 3, 4, 10, 11, 12, 13, 14, 15, 16, 17, 18, 19, 20, 21, 22, 23] 5 rfl hk1 hP1 rfl rfl rfl (by decide)
    clear hP1 hD1 hFc hPc hDc hKc
    clear hk1 hz1 ht hvm
    generalize H1 = H at hP hS ⊢
    have hsp := hsp.trans (slet_eq xr_49_0)
    obtain rfl : r_49 = 0 := hw
    exact W.zret (v := 0) (ty := .boolean) hx hb hr (rfl) (fun t ht hW => ⟨⟨0, (), rfl, ⟨0, (Nat.le_of_ble_eq_true rfl), rfl, (congrArg Prod.fst (hsp.symm.trans hRR))⟩, ⟨q_f8, q_f9, f10, f11, f12, f13, fpn, f4, z_fa_50, z_fat_51, pos, kd, vl, tka, np, ⟨by rw [ht]; exact hP, va_K.moved hW.alike hK, hD⟩, hpos, hkd, hnp, by first | assumption | exact cz_np (by assumption) (by assumption) | exact cz_up (by assumption) | exact cz_ne (by assumption) (by omega) (by assumption) | exact cz_ue (by assumption), (congrArg Prod.snd (hsp.symm.trans hRR))⟩⟩, hS.F ht⟩) hS.2.2 eX4_readsPlace_17
theorem eX4_readsStart_0 : decode cX4_readsStart 0 = .ok (.aload_n 0, 1) := by decide +kernel
theorem eX4_readsStart_1 : decode cX4_readsStart 1 = .ok (.getfield 66, 3) := by decide +kernel
theorem eX4_readsStart_4 : decode cX4_readsStart 4 = .ok (.getfield 107, 3) := by decide +kernel
theorem eX4_readsStart_7 : decode cX4_readsStart 7 = .ok (.iconst (-1), 1) := by decide +kernel
theorem eX4_readsStart_8 : decode cX4_readsStart 8 = .ok (.if_icmp .eq 9, 3) := by decide +kernel
theorem eX4_readsStart_11 : decode cX4_readsStart 11 = .ok (.aload_n 0, 1) := by decide +kernel
theorem eX4_readsStart_12 : decode cX4_readsStart 12 = .ok (.iconst 5, 1) := by decide +kernel
theorem eX4_readsStart_13 : decode cX4_readsStart 13 = .ok (.invokevirtual 103, 3) := by decide +kernel
theorem eX4_readsStart_16 : decode cX4_readsStart 16 = .ok (.ireturn, 1) := by decide +kernel
theorem eX4_readsStart_17 : decode cX4_readsStart 17 = .ok (.aload_n 0, 1) := by decide +kernel
theorem eX4_readsStart_18 : decode cX4_readsStart 18 = .ok (.invokevirtual 75, 3) := by decide +kernel
theorem eX4_readsStart_21 : decode cX4_readsStart 21 = .ok (.aload_n 0, 1) := by decide +kernel
theorem eX4_readsStart_22 : decode cX4_readsStart 22 = .ok (.aload_n 0, 1) := by decide +kernel
theorem eX4_readsStart_23 : decode cX4_readsStart 23 = .ok (.getfield 42, 3) := by decide +kernel
theorem eX4_readsStart_26 : decode cX4_readsStart 26 = .ok (.aload_n 0, 1) := by decide +kernel
theorem eX4_readsStart_27 : decode cX4_readsStart 27 = .ok (.getfield 66, 3) := by decide +kernel
theorem eX4_readsStart_30 : decode cX4_readsStart 30 = .ok (.getfield 100, 3) := by decide +kernel
theorem eX4_readsStart_33 : decode cX4_readsStart 33 = .ok (.invokevirtual 142, 3) := by decide +kernel
theorem eX4_readsStart_36 : decode cX4_readsStart 36 = .ok (.istore_n 1, 1) := by decide +kernel
theorem eX4_readsStart_37 : decode cX4_readsStart 37 = .ok (.iload_n 1, 1) := by decide +kernel
theorem eX4_readsStart_38 : decode cX4_readsStart 38 = .ok (.iconst (-1), 1) := by decide +kernel
theorem eX4_readsStart_39 : decode cX4_readsStart 39 = .ok (.if_icmp .ne 5, 3) := by decide +kernel
theorem eX4_readsStart_42 : decode cX4_readsStart 42 = .ok (.iconst 0, 1) := by decide +kernel
theorem eX4_readsStart_43 : decode cX4_readsStart 43 = .ok (.ireturn, 1) := by decide +kernel
theorem eX4_readsStart_44 : decode cX4_readsStart 44 = .ok (.aload_n 0, 1) := by decide +kernel
theorem eX4_readsStart_45 : decode cX4_readsStart 45 = .ok (.getfield 66, 3) := by decide +kernel
theorem eX4_readsStart_48 : decode cX4_readsStart 48 = .ok (.iload_n 1, 1) := by decide +kernel
theorem eX4_readsStart_49 : decode cX4_readsStart 49 = .ok (.putfield 107, 3) := by decide +kernel
theorem eX4_readsStart_52 : decode cX4_readsStart 52 = .ok (.aload_n 0, 1) := by decide +kernel
theorem eX4_readsStart_53 : decode cX4_readsStart 53 = .ok (.invokevirtual 75, 3) := by decide +kernel
theorem eX4_readsStart_56 : decode cX4_readsStart 56 = .ok (.iconst 1, 1) := by decide +kernel
theorem eX4_readsStart_57 : decode cX4_readsStart 57 = .ok (.ireturn, 1) := by decide +kernel
abbrev vs_E_4_readsStart : List Cond := .code yX4_readsStart cX4_readsStart 2 (some .boolean) :: CM
theorem g_E_4_readsStart_E_4_advance : GoodIn vs_E_4_readsStart (wsV RX4 75 RX4 yX4_advance vs_E_4_advance) := cm_gV cm_229 cm_230 cm_231 cm_232 cm_233
theorem g_E_4_readsStart_E_4_toldName_p : GoodIn vs_E_4_readsStart (wsV RX4 142 RX4 yX4_toldName vs_E_4_toldName_p) := cm_gV cm_282 cm_283 cm_284 cm_232 cm_285
theorem g_E_4_readsStart_E_4_refuse : GoodIn vs_E_4_readsStart (wsV RX4 103 RX4 yX4_refuse vs_E_4_refuse) := cm_gV cm_255 cm_256 cm_257 cm_232 cm_258
noncomputable def sp_E_4_readsStart (fa : Int32) (fat : Int32) (len : Nat) (pos : Nat) (kd : Nat) (vl : Int32) (tka : Int32) (ft : Nat → Int32) (fw : Nat → Int32) (fpn : Nat → Int32) (np : Nat) (st0 : Int32) : Nat × Int32 × Int32 × Nat × Nat × Int32 × Int32 × Int32 := (if (st0 : Int32) = -1 then (slet (sp_E_4_advance len pos vl ft fw) (fun (z_pos_4, z_kd_5, z_vl_6, z_tka_7) => (slet (sp_E_4_toldName_p fa fat z_kd_5 z_vl_6 z_tka_7 fpn np) (fun (u_11, z_fa_9, z_fat_10) => (if u_11 = 0 then (0, z_fa_9, z_fat_10, z_pos_4, z_kd_5, z_vl_6, z_tka_7, st0) else (slet (u_11 - 1) (fun n_12 => (slet (sp_E_4_advance len z_pos_4 z_vl_6 ft fw) (fun (z_pos_14, z_kd_15, z_vl_16, z_tka_17) => (1, z_fa_9, z_fat_10, z_pos_14, z_kd_15, z_vl_16, z_tka_17, (nI n_12))))))))))) else (slet ((st0 : Int32).toNatClampNeg) (fun n_2 => (slet (sp_E_4_refuse tka 5) (fun (z_fa_19, z_fat_20) => (0, z_fa_19, z_fat_20, pos, kd, vl, tka, st0))))))
set_option maxHeartbeats 4000000 in
set_option maxRecDepth 100000 in
theorem c_E_4_readsStart (l : Launch) (dC : Nat → ClassId) (dI : Nat → Nat → Nat) (sz : Nat) (rd : Nat) (fa : Int32) (fat : Int32) (tp : Nat) (len : Nat) (pos : Nat) (kd : Nat) (vl : Int32) (tka : Int32) (au : Nat) (rw : Nat) (rc : Nat) (rp : Nat) (k_ft : ClassId) (ft : Nat → Int32) (k_fw : ClassId) (fw : Nat → Int32) (k_fcn : ClassId) (fcn : Nat → Int32) (k_fpn : ClassId) (fpn : Nat → Int32) (nc : Nat) (np : Nat) (ne : Nat) (st0 : Int32) (q4 : Nat) (q5 : Nat) (q6 : Nat) (q7 : Nat) (q8 : Nat) (q9 : Nat) (q10 : Nat) (q11 : Nat) (q12 : Nat) (q13 : Nat) (q14 : Nat) (q15 : Nat) (q16 : Nat) (k_f4 : ClassId) (f4 : Nat → Int32) (k_f5 : ClassId) (q_f5 : Nat → Nat) (k_f6 : ClassId) (q_f6 : Nat → Nat) (k_f7 : ClassId) (f7 : Nat → Int32) (k_f8 : ClassId) (q_f8 : Nat → Nat) (k_f9 : ClassId) (q_f9 : Nat → Nat) (k_f10 : ClassId) (f10 : Nat → Int32) (k_f11 : ClassId) (f11 : Nat → Int32) (k_f12 : ClassId) (f12 : Nat → Int32) (k_f13 : ClassId) (f13 : Nat → Int32) (k_f14 : ClassId) (f14 : Nat → Int32) (k_f15 : ClassId) (f15 : Nat → Int32) (k_f16 : ClassId) (f16 : Nat → Int32) (hlen : len ≤ 900) (hpos : pos ≤ 900) (hkd : kd ≤ 15) (hnc : nc ≤ 3) (hnp : np ≤ 8) (hne : ne ≤ 14) (hst0 : pm1 7 st0) : Met l yX4_readsStart vs_E_4_readsStart ({ frames := 3, cells := 0, slots := 0, locals := 64 }) (va_Pc [.ref rd] (pu_B (dC, dI) (ra__w rd fa fat tp (nI len) (nI pos) (nI kd) vl tka au rw rc rp k_ft ft k_fw fw k_fcn fcn k_fpn fpn (nI nc) (nI np) (nI ne) st0 q4 q5 q6 q7 q8 q9 q10 q11 q12 q13 q14 q15 q16 k_f4 f4 k_f5 (bN 7 q_f5) k_f6 (bN 7 q_f6) k_f7 f7 k_f8 (bN 4 q_f8) k_f9 (bN 2 q_f9) k_f10 f10 k_f11 f11 k_f12 f12 k_f13 f13 k_f14 f14 k_f15 f15 k_f16 f16) (ra__t k_ft k_fw k_fcn k_fpn k_f4 k_f5 k_f6 k_f7 k_f8 k_f9 k_f10 k_f11 k_f12 k_f13 k_f14 k_f15 k_f16) sz)) (va_Qi (fun (r : Int32) (_ : Unit) => ∃ v : Nat, v ≤ 1 ∧ r = nI v ∧ v = (sp_E_4_readsStart fa fat len pos kd vl tka ft fw fpn np st0).1) (fun _ t => ∃ (z_fa : Int32) (z_fat : Int32) (z_pos : Nat) (z_kd : Nat) (z_vl : Int32) (z_tka : Int32) (z_st0 : Int32), pu_E (dC, dI) (ra__w rd z_fa z_fat tp (nI len) (nI z_pos) (nI z_kd) z_vl z_tka au rw rc rp k_ft ft k_fw fw k_fcn fcn k_fpn fpn (nI nc) (nI np) (nI ne) z_st0 q4 q5 q6 q7 q8 q9 q10 q11 q12 q13 q14 q15 q16 k_f4 f4 k_f5 (bN 7 q_f5) k_f6 (bN 7 q_f6) k_f7 f7 k_f8 (bN 4 q_f8) k_f9 (bN 2 q_f9) k_f10 f10 k_f11 f11 k_f12 f12 k_f13 f13 k_f14 f14 k_f15 f15 k_f16 f16) (ra__t k_ft k_fw k_fcn k_fpn k_f4 k_f5 k_f6 k_f7 k_f8 k_f9 k_f10 k_f11 k_f12 k_f13 k_f14 k_f15 k_f16) (va_A ((ra__w rd fa fat tp (nI len) (nI pos) (nI kd) vl tka au rw rc rp k_ft ft k_fw fw k_fcn fcn k_fpn fpn (nI nc) (nI np) (nI ne) st0 q4 q5 q6 q7 q8 q9 q10 q11 q12 q13 q14 q15 q16 k_f4 f4 k_f5 (bN 7 q_f5) k_f6 (bN 7 q_f6) k_f7 f7 k_f8 (bN 4 q_f8) k_f9 (bN 2 q_f9) k_f10 f10 k_f11 f11 k_f12 f12 k_f13 f13 k_f14 f14 k_f15 f15 k_f16 f16)) sz) t ∧ (z_pos ≤ 900) ∧ (z_kd ≤ 15) ∧ (z_st0 = -1 ∨ (∃ q : Nat, q ≤ 7 ∧ z_st0 = nI q)) ∧ ((z_fa, z_fat, z_pos, z_kd, z_vl, z_tka, z_st0) = (sp_E_4_readsStart fa fat len pos kd vl tka ft fw fpn np st0).2)) (va_A ((ra__w rd fa fat tp (nI len) (nI pos) (nI kd) vl tka au rw rc rp k_ft ft k_fw fw k_fcn fcn k_fpn fpn (nI nc) (nI np) (nI ne) st0 q4 q5 q6 q7 q8 q9 q10 q11 q12 q13 q14 q15 q16 k_f4 f4 k_f5 (bN 7 q_f5) k_f6 (bN 7 q_f6) k_f7 f7 k_f8 (bN 4 q_f8) k_f9 (bN 2 q_f9) k_f10 f10 k_f11 f11 k_f12 f12 k_f13 f13 k_f14 f14 k_f15 f15 k_f16 f16)) sz)) 0 0 (va_A ((ra__w rd fa fat tp (nI len) (nI pos) (nI kd) vl tka au rw rc rp k_ft ft k_fw fw k_fcn fcn k_fpn fpn (nI nc) (nI np) (nI ne) st0 q4 q5 q6 q7 q8 q9 q10 q11 q12 q13 q14 q15 q16 k_f4 f4 k_f5 (bN 7 q_f5) k_f6 (bN 7 q_f6) k_f7 f7 k_f8 (bN 4 q_f8) k_f9 (bN 2 q_f9) k_f10 f10 k_f11 f11 k_f12 f12 k_f13 f13 k_f14 f14 k_f15 f15 k_f16 f16)) sz) := by
  refine Met.ofW (cc := cX4_readsStart) (maxL := 2) (ret := (some .boolean)) (by decide) rfl ?_
  intro p e s m args below meth c s₁ B hml hv
  obtain ⟨rfl, rfl, hP, hK, hD0⟩ := hv
  have hx := B.exec
  have hb := B.bytes
  have hr := B.returns
  have hts := atoms_spec (ws := vs_E_4_readsStart) B.pre
  have v_1 := hts (.fieldLink RX4 66 "ClockReach$Reader" "into" "LClockReach$Automaton;") (List.mem_cons_of_mem _ cm_221)
  have v_2 := hts (.fieldLink RX4 107 "ClockReach$Automaton" "start" "I") (List.mem_cons_of_mem _ cm_224)
  have v_8 := hts (.fieldLink RX4 42 "ClockReach$Reader" "placeNames" "[I") (List.mem_cons_of_mem _ cm_263)
  have v_9 := hts (.fieldLink RX4 100 "ClockReach$Automaton" "places" "I") (List.mem_cons_of_mem _ cm_223)
  have hown : s.vm.findClass RX4 = some m.cls := findClass_of_methodNamed B.named
  have hlocks := B.notSynchronized
  have hiX0 : ∀ w ∈ wsX00, w ∈ vs_E_4_readsStart := fun _ h => List.mem_cons_of_mem _ (cm_X0 h)
  have hiX4 : ∀ w ∈ wsX40, w ∈ vs_E_4_readsStart := fun _ h => List.mem_cons_of_mem _ (cm_X4 h)
  have hD := hD0.self (sz := s.heap.size)
  generalize hAe : va_A ((ra__w rd fa fat tp (nI len) (nI pos) (nI kd) vl tka au rw rc rp k_ft ft k_fw fw k_fcn fcn k_fpn fpn (nI nc) (nI np) (nI ne) st0 q4 q5 q6 q7 q8 q9 q10 q11 q12 q13 q14 q15 q16 k_f4 f4 k_f5 (bN 7 q_f5) k_f6 (bN 7 q_f6) k_f7 f7 k_f8 (bN 4 q_f8) k_f9 (bN 2 q_f9) k_f10 f10 k_f11 f11 k_f12 f12 k_f13 f13 k_f14 f14 k_f15 f15 k_f16 f16)) s.heap.size = A at hD ⊢
  have hA : ∀ q : Nat, s.heap.size ≤ q → A q := fun q h => by rw [← hAe]; exact Or.inr h
  have hS : va_S A s.heap s.heap [] := va_S.rf
  have hl := lv_entry ([.ref rd]) (n := 2) (Nat.le_of_ble_eq_true rfl)
  rw [lg_entry_eq]
  generalize (lg_sl ([.ref rd]) ++ List.replicate (2 - (lg_sl ([.ref rd])).length) Slot.unset).toArray = ls at hl ⊢
  have hl : lv_has ls 2 [(0, .ref rd)] := hl
  obtain ⟨RR, hRR⟩ : ∃ x, x = (sp_E_4_readsStart fa fat len pos kd vl tka ft fw fpn np st0) := ⟨_, rfl⟩
  have hsp := hRR
  refine lv_aload_n hx hb eX4_readsStart_0 rfl (lv_at hl 0 rfl) ?_
  refine va_get (D := (dC, dI)) (ci := 4) (v := .ref au) (C := RX4) (T := TX4) (N := 12) hx hb hts hiX4 hown hK hP 0 rfl rfl 8 (by decide) v_1 (fun _ h9 => h9) rfl eX4_readsStart_1 ?_
  refine va_get (D := (dC, dI)) (ci := 0) (v := .int st0) (C := RX0) (T := TX0) (N := 17) hx hb hts hiX0 hown hK hP 5 rfl rfl 3 (by decide) v_2 (fun _ h9 => h9) rfl eX4_readsStart_4 ?_
  refine lv_topi (fun y_1 ey_1 => ?_)
  have mn_2 := hst0
  rcases mn_2 with en_2 | ⟨n_2, hn_2, en_2⟩
  · obtain rfl : y_1 = (-1) := ey_1.trans en_2
    have hsp := hsp.trans (if_pos en_2)
    refine lv_iconst (v := (-1)) hx hb eX4_readsStart_7 (by decide) ?_
    refine lv_icmp_eq (tgt := 17) hx hb eX4_readsStart_8 (by decide) (fun _ => ?_) (fun z => absurd z (by decide))
    refine lv_aload_n hx hb eX4_readsStart_17 rfl (lv_at hl 0 rfl) ?_
    have hPc : va_P (dC, dI) vwCl (rd__w rd fa fat tp (nI len) (nI pos) (nI kd) vl tka au rw rc rp k_ft ft k_fw fw k_fcn fcn k_fpn fpn) _ := hP.sub [0, 1, 2, 3, 4] rfl
    have hDc := hD.sub (ws' := (rd__w rd fa fat tp (nI len) (nI pos) (nI kd) vl tka au rw rc rp k_ft ft k_fw fw k_fcn fcn k_fpn fpn)) [0, 1, 2, 3, 4] (by decide) rfl
    have hKc : va_K (dC, dI) vwCl (rd__t k_ft k_fw k_fcn k_fpn) s := hK.sub [0, 1, 2, 3] rfl
    have hFc := pu_free hDc hS hA
    refine va_callv (va_runV (As := []) (rest := []) ⟨hx, hb, hml, hown, hts⟩ (c_E_4_advance l dC dI _ rd fa fat tp len pos kd vl tka au rw rc rp k_ft ft k_fw fw k_fcn fcn k_fpn fpn hlen hpos hkd) (cwV 0 hts g_E_4_readsStart_E_4_advance rfl rfl rfl (by decide +kernel) ⟨Nat.le_of_ble_eq_true rfl, Nat.le_of_ble_eq_true rfl⟩) ⟨pu_bl, va_recv hK hP (ci := 4) (q0 := 0) rfl rfl, pu_in hPc hKc hDc⟩ rfl rfl hl.1 rfl (lv_room (Nat.le_of_ble_eq_true rfl)) eX4_readsStart_18 ⟨Nat.le_of_ble_eq_true rfl, Nat.le_of_ble_eq_true rfl⟩) hS (fun q _ h => hFc q h) hFc (fun u t H1 locs ht hvm hw hB hz1 hk1 hS => ?_)
    obtain ⟨z_pos_4, z_kd_5, z_vl_6, z_tka_7, ⟨hP1, -, hD1⟩, hz_pos_4, hz_kd_5, xr_3_0⟩ := hB
    rw [ht] at hP1
    obtain ⟨hP, hD⟩ := pj_a (X := (ra__w rd fa fat tp (nI len) (nI pos) (nI kd) vl tka au rw rc rp k_ft ft k_fw fw k_fcn fcn k_fpn fpn (nI nc) (nI np) (nI ne) st0 q4 q5 q6 q7 q8 q9 q10 q11 q12 q13 q14 q15 q16 k_f4 f4 k_f5 (bN 7 q_f5) k_f6 (bN 7 q_f6) k_f7 f7 k_f8 (bN 4 q_f8) k_f9 (bN 2 q_f9) k_f10 f10 k_f11 f11 k_f12 f12 k_f13 f13 k_f14 f14 k_f15 f15 k_f16 f16)) (X' := (ra__w rd fa fat tp (nI len) (nI z_pos_4) (nI z_kd_5) z_vl_6 z_tka_7 au rw rc rp k_ft ft k_fw fw k_fcn fcn k_fpn fpn (nI nc) (nI np) (nI ne) st0 q4 q5 q6 q7 q8 q9 q10 q11 q12 q13 q14 q15 q16 k_f4 f4 k_f5 (bN 7 q_f5) k_f6 (bN 7 q_f6) k_f7 f7 k_f8 (bN 4 q_f8) k_f9 (bN 2 q_f9) k_f10 f10 k_f11 f11 k_f12 f12 k_f13 f13 k_f14 f14 k_f15 f15 k_f16 f16)) (wc := (rd__w rd fa fat tp (nI len) (nI pos) (nI kd) vl tka au rw rc rp k_ft ft k_fw fw k_fcn fcn k_fpn fpn)) (w1 := (rd__w rd fa fat tp (nI len) (nI z_pos_4) (nI z_kd_5) z_vl_6 z_tka_7 au rw rc rp k_ft ft k_fw fw k_fcn fcn k_fpn fpn)) hP hD [0, 1, 2, 3, 4] [0, 1, 2, 3, 4, 10, 11, 12, 13, 14, 15, 16, 17, 18, 19, 20, 21, 22, 23] 5 rfl hk1 hP1 rfl rfl rfl (by decide)
    clear hP1 hD1 hFc hPc hDc hKc
    clear hk1 hz1 ht hvm
    generalize H1 = H at hP hS ⊢
    have hsp := hsp.trans (slet_eq xr_3_0)
    refine lv_aload_n hx hb eX4_readsStart_21 rfl (lv_at hl 0 rfl) ?_
    refine lv_aload_n hx hb eX4_readsStart_22 rfl (lv_at hl 0 rfl) ?_
    refine va_get (D := (dC, dI)) (ci := 4) (v := .ref rp) (C := RX4) (T := TX4) (N := 12) hx hb hts hiX4 hown hK hP 0 rfl rfl 11 (by decide) v_8 (fun _ h9 => h9) rfl eX4_readsStart_23 ?_
    refine lv_aload_n hx hb eX4_readsStart_26 rfl (lv_at hl 0 rfl) ?_
    refine va_get (D := (dC, dI)) (ci := 4) (v := .ref au) (C := RX4) (T := TX4) (N := 12) hx hb hts hiX4 hown hK hP 0 rfl rfl 8 (by decide) v_1 (fun _ h9 => h9) rfl eX4_readsStart_27 ?_
    refine va_get (D := (dC, dI)) (ci := 0) (v := .int (nI np)) (C := RX0) (T := TX0) (N := 17) hx hb hts hiX0 hown hK hP 5 rfl rfl 1 (by decide) v_9 (fun _ h9 => h9) rfl eX4_readsStart_30 ?_
    have hPc : va_P (dC, dI) vwCl (rd__w rd fa fat tp (nI len) (nI z_pos_4) (nI z_kd_5) z_vl_6 z_tka_7 au rw rc rp k_ft ft k_fw fw k_fcn fcn k_fpn fpn) _ := hP.sub [0, 1, 2, 3, 4] rfl
    have hDc := hD.sub (ws' := (rd__w rd fa fat tp (nI len) (nI z_pos_4) (nI z_kd_5) z_vl_6 z_tka_7 au rw rc rp k_ft ft k_fw fw k_fcn fcn k_fpn fpn)) [0, 1, 2, 3, 4] (by decide) rfl
    have hKc : va_K (dC, dI) vwCl (rd__t k_ft k_fw k_fcn k_fpn) s := hK.sub [0, 1, 2, 3] rfl
    have hFc := pu_free hDc hS hA
    refine va_calli (va_runV (As := [.ref rp, .int (nI np)]) (rest := []) ⟨hx, hb, hml, hown, hts⟩ (c_E_4_toldName_p l dC dI _ rd fa fat tp len z_pos_4 z_kd_5 z_vl_6 z_tka_7 au rw rc rp k_ft ft k_fw fw k_fcn fcn k_fpn fpn np hlen hz_pos_4 hz_kd_5 hnp) (cwV 2 hts g_E_4_readsStart_E_4_toldName_p rfl rfl rfl (by decide +kernel) ⟨Nat.le_of_ble_eq_true rfl, Nat.le_of_ble_eq_true rfl⟩) ⟨pu_bl, va_recv hK hP (ci := 4) (q0 := 0) rfl rfl, pu_in hPc hKc hDc⟩ rfl rfl hl.1 rfl (lv_room (Nat.le_of_ble_eq_true rfl)) eX4_readsStart_33 ⟨Nat.le_of_ble_eq_true rfl, Nat.le_of_ble_eq_true rfl⟩) hS (fun q _ h => hFc q h) hFc (fun r_8 u t H1 locs ht hvm hw hB hz1 hk1 hS => ?_)
    obtain ⟨z_fa_9, z_fat_10, ⟨hP1, -, hD1⟩, xr_8_0⟩ := hB
    rw [ht] at hP1
    obtain ⟨hP, hD⟩ := pj_a (X := (ra__w rd fa fat tp (nI len) (nI z_pos_4) (nI z_kd_5) z_vl_6 z_tka_7 au rw rc rp k_ft ft k_fw fw k_fcn fcn k_fpn fpn (nI nc) (nI np) (nI ne) st0 q4 q5 q6 q7 q8 q9 q10 q11 q12 q13 q14 q15 q16 k_f4 f4 k_f5 (bN 7 q_f5) k_f6 (bN 7 q_f6) k_f7 f7 k_f8 (bN 4 q_f8) k_f9 (bN 2 q_f9) k_f10 f10 k_f11 f11 k_f12 f12 k_f13 f13 k_f14 f14 k_f15 f15 k_f16 f16)) (X' := (ra__w rd z_fa_9 z_fat_10 tp (nI len) (nI z_pos_4) (nI z_kd_5) z_vl_6 z_tka_7 au rw rc rp k_ft ft k_fw fw k_fcn fcn k_fpn fpn (nI nc) (nI np) (nI ne) st0 q4 q5 q6 q7 q8 q9 q10 q11 q12 q13 q14 q15 q16 k_f4 f4 k_f5 (bN 7 q_f5) k_f6 (bN 7 q_f6) k_f7 f7 k_f8 (bN 4 q_f8) k_f9 (bN 2 q_f9) k_f10 f10 k_f11 f11 k_f12 f12 k_f13 f13 k_f14 f14 k_f15 f15 k_f16 f16)) (wc := (rd__w rd fa fat tp (nI len) (nI z_pos_4) (nI z_kd_5) z_vl_6 z_tka_7 au rw rc rp k_ft ft k_fw fw k_fcn fcn k_fpn fpn)) (w1 := (rd__w rd z_fa_9 z_fat_10 tp (nI len) (nI z_pos_4) (nI z_kd_5) z_vl_6 z_tka_7 au rw rc rp k_ft ft k_fw fw k_fcn fcn k_fpn fpn)) hP hD [0, 1, 2, 3, 4] [0, 1, 2, 3, 4, 10, 11, 12, 13, 14, 15, 16, 17, 18, 19, 20, 21, 22, 23] 5 rfl hk1 hP1 rfl rfl rfl (by decide)
    clear hP1 hD1 hFc hPc hDc hKc
    clear hk1 hz1 ht hvm
    generalize H1 = H at hP hS ⊢
    obtain ⟨u_11, hu_11, mu_11, iu_11⟩ := hw
    have iu_11 : (u_11, z_fa_9, z_fat_10) = (sp_E_4_toldName_p fa fat z_kd_5 z_vl_6 z_tka_7 fpn np) := Prod.ext iu_11 xr_8_0
    have hsp := hsp.trans (slet_eq iu_11)
    rcases mI_get u_11 with ⟨zn_12, wn_12⟩ | ⟨n_12, zn_12, wn_12⟩
    · obtain rfl : r_8 = -1 := mu_11.trans wn_12
      have hsp := hsp.trans (if_pos zn_12)
      refine lv_istore_n (lv' := [(1, .int (-1)), (0, .ref rd)]) hx hb eX4_readsStart_36 rfl hl (by decide) rfl (fun ls hl => ?_)
      refine lv_iload_n hx hb eX4_readsStart_37 rfl (lv_at hl 0 rfl) ?_
      refine lv_iconst (v := (-1)) hx hb eX4_readsStart_38 (by decide) ?_
      refine lv_icmp_ne (tgt := 44) hx hb eX4_readsStart_39 (by decide) (fun z => absurd z (by decide)) (fun _ => ?_)
      refine lv_iconst (v := 0) hx hb eX4_readsStart_42 (by decide) ?_
      exact W.zret (v := 0) (ty := .boolean) hx hb hr (rfl) (fun t ht hW => ⟨⟨0, (), rfl, ⟨0, (Nat.le_of_ble_eq_true rfl), rfl, (congrArg Prod.fst (hsp.symm.trans hRR))⟩, ⟨z_fa_9, z_fat_10, z_pos_4, z_kd_5, z_vl_6, z_tka_7, st0, ⟨by rw [ht]; exact hP, va_K.moved hW.alike hK, hD⟩, hz_pos_4, hz_kd_5, hst0, (congrArg Prod.snd (hsp.symm.trans hRR))⟩⟩, hS.F ht⟩) hS.2.2 eX4_readsStart_43
    · obtain rfl : r_8 = nI n_12 := mu_11.trans wn_12
      have hn_12 : n_12 ≤ 7 := by omega
      have hsp := hsp.trans (if_neg (by omega))
      have hsp := hsp.trans (slet_eq (by omega : n_12 = u_11 - 1))
      refine lv_istore_n (lv' := [(1, .int (nI n_12)), (0, .ref rd)]) hx hb eX4_readsStart_36 rfl hl (by decide) rfl (fun ls hl => ?_)
      refine lv_iload_n hx hb eX4_readsStart_37 rfl (lv_at hl 0 rfl) ?_
      refine lv_iconst (v := (-1)) hx hb eX4_readsStart_38 (by decide) ?_
      refine lv_icmp_ne (tgt := 44) hx hb eX4_readsStart_39 (by decide) (fun _ => ?_) (fun z => absurd z (pu_nneg (n := n_12) (by omega) (by decide)))
      refine lv_aload_n hx hb eX4_readsStart_44 rfl (lv_at hl 1 rfl) ?_
      refine va_get (D := (dC, dI)) (ci := 4) (v := .ref au) (C := RX4) (T := TX4) (N := 12) hx hb hts hiX4 hown hK hP 0 rfl rfl 8 (by decide) v_1 (fun _ h9 => h9) rfl eX4_readsStart_45 ?_
      refine lv_iload_n hx hb eX4_readsStart_48 rfl (lv_at hl 0 rfl) ?_
      refine va_put (D := (dC, dI)) (ci := 0) (v := .int (nI n_12)) (ty := .int) (C := RX0) (T := TX0) (N := 17) hx hb hts hiX0 tyX0 tyX0_ok nmX0 hown hK hP hD hS 5 rfl rfl 3 (by decide) v_2 (fun _ h9 => h9) rfl (by decide +kernel) rfl rfl (Nat.le_of_ble_eq_true rfl) eX4_readsStart_49 (fun H locs hP hD hS => ?_)
      have hP : va_P (dC, dI) vwCl (ra__w rd z_fa_9 z_fat_10 tp (nI len) (nI z_pos_4) (nI z_kd_5) z_vl_6 z_tka_7 au rw rc rp k_ft ft k_fw fw k_fcn fcn k_fpn fpn (nI nc) (nI np) (nI ne) (nI n_12) q4 q5 q6 q7 q8 q9 q10 q11 q12 q13 q14 q15 q16 k_f4 f4 k_f5 (bN 7 q_f5) k_f6 (bN 7 q_f6) k_f7 f7 k_f8 (bN 4 q_f8) k_f9 (bN 2 q_f9) k_f10 f10 k_f11 f11 k_f12 f12 k_f13 f13 k_f14 f14 k_f15 f15 k_f16 f16) H := hP
      have hD : va_D A (ra__w rd z_fa_9 z_fat_10 tp (nI len) (nI z_pos_4) (nI z_kd_5) z_vl_6 z_tka_7 au rw rc rp k_ft ft k_fw fw k_fcn fcn k_fpn fpn (nI nc) (nI np) (nI ne) (nI n_12) q4 q5 q6 q7 q8 q9 q10 q11 q12 q13 q14 q15 q16 k_f4 f4 k_f5 (bN 7 q_f5) k_f6 (bN 7 q_f6) k_f7 f7 k_f8 (bN 4 q_f8) k_f9 (bN 2 q_f9) k_f10 f10 k_f11 f11 k_f12 f12 k_f13 f13 k_f14 f14 k_f15 f15 k_f16 f16) := hD
      refine lv_aload_n hx hb eX4_readsStart_52 rfl (lv_at hl 1 rfl) ?_
      have hPc : va_P (dC, dI) vwCl (rd__w rd z_fa_9 z_fat_10 tp (nI len) (nI z_pos_4) (nI z_kd_5) z_vl_6 z_tka_7 au rw rc rp k_ft ft k_fw fw k_fcn fcn k_fpn fpn) _ := hP.sub [0, 1, 2, 3, 4] rfl
      have hDc := hD.sub (ws' := (rd__w rd z_fa_9 z_fat_10 tp (nI len) (nI z_pos_4) (nI z_kd_5) z_vl_6 z_tka_7 au rw rc rp k_ft ft k_fw fw k_fcn fcn k_fpn fpn)) [0, 1, 2, 3, 4] (by decide) rfl
      have hKc : va_K (dC, dI) vwCl (rd__t k_ft k_fw k_fcn k_fpn) s := hK.sub [0, 1, 2, 3] rfl
      have hFc := pu_free hDc hS hA
      refine va_callv (va_runV (As := []) (rest := []) ⟨hx, hb, hml, hown, hts⟩ (c_E_4_advance l dC dI _ rd z_fa_9 z_fat_10 tp len z_pos_4 z_kd_5 z_vl_6 z_tka_7 au rw rc rp k_ft ft k_fw fw k_fcn fcn k_fpn fpn hlen hz_pos_4 hz_kd_5) (cwV 0 hts g_E_4_readsStart_E_4_advance rfl rfl rfl (by decide +kernel) ⟨Nat.le_of_ble_eq_true rfl, Nat.le_of_ble_eq_true rfl⟩) ⟨pu_bl, va_recv hK hP (ci := 4) (q0 := 0) rfl rfl, pu_in hPc hKc hDc⟩ rfl rfl hl.1 rfl (lv_room (Nat.le_of_ble_eq_true rfl)) eX4_readsStart_53 ⟨Nat.le_of_ble_eq_true rfl, Nat.le_of_ble_eq_true rfl⟩) hS (fun q _ h => hFc q h) hFc (fun u t H1 locs ht hvm hw hB hz1 hk1 hS => ?_)
      obtain ⟨z_pos_14, z_kd_15, z_vl_16, z_tka_17, ⟨hP1, -, hD1⟩, hz_pos_14, hz_kd_15, xr_13_0⟩ := hB
      rw [ht] at hP1
      obtain ⟨hP, hD⟩ := pj_a (X := (ra__w rd z_fa_9 z_fat_10 tp (nI len) (nI z_pos_4) (nI z_kd_5) z_vl_6 z_tka_7 au rw rc rp k_ft ft k_fw fw k_fcn fcn k_fpn fpn (nI nc) (nI np) (nI ne) (nI n_12) q4 q5 q6 q7 q8 q9 q10 q11 q12 q13 q14 q15 q16 k_f4 f4 k_f5 (bN 7 q_f5) k_f6 (bN 7 q_f6) k_f7 f7 k_f8 (bN 4 q_f8) k_f9 (bN 2 q_f9) k_f10 f10 k_f11 f11 k_f12 f12 k_f13 f13 k_f14 f14 k_f15 f15 k_f16 f16)) (X' := (ra__w rd z_fa_9 z_fat_10 tp (nI len) (nI z_pos_14) (nI z_kd_15) z_vl_16 z_tka_17 au rw rc rp k_ft ft k_fw fw k_fcn fcn k_fpn fpn (nI nc) (nI np) (nI ne) (nI n_12) q4 q5 q6 q7 q8 q9 q10 q11 q12 q13 q14 q15 q16 k_f4 f4 k_f5 (bN 7 q_f5) k_f6 (bN 7 q_f6) k_f7 f7 k_f8 (bN 4 q_f8) k_f9 (bN 2 q_f9) k_f10 f10 k_f11 f11 k_f12 f12 k_f13 f13 k_f14 f14 k_f15 f15 k_f16 f16)) (wc := (rd__w rd z_fa_9 z_fat_10 tp (nI len) (nI z_pos_4) (nI z_kd_5) z_vl_6 z_tka_7 au rw rc rp k_ft ft k_fw fw k_fcn fcn k_fpn fpn)) (w1 := (rd__w rd z_fa_9 z_fat_10 tp (nI len) (nI z_pos_14) (nI z_kd_15) z_vl_16 z_tka_17 au rw rc rp k_ft ft k_fw fw k_fcn fcn k_fpn fpn)) hP hD [0, 1, 2, 3, 4] [0, 1, 2, 3, 4, 10, 11, 12, 13, 14, 15, 16, 17, 18, 19, 20, 21, 22, 23] 5 rfl hk1 hP1 rfl rfl rfl (by decide)
      clear hP1 hD1 hFc hPc hDc hKc
      clear hk1 hz1 ht hvm
      generalize H1 = H at hP hS ⊢
      have hsp := hsp.trans (slet_eq xr_13_0)
      refine lv_iconst (v := 1) hx hb eX4_readsStart_56 (by decide) ?_
      exact W.zret (v := 1) (ty := .boolean) hx hb hr (rfl) (fun t ht hW => ⟨⟨1, (), rfl, ⟨1, (Nat.le_of_ble_eq_true rfl), rfl, (congrArg Prod.fst (hsp.symm.trans hRR))⟩, ⟨z_fa_9, z_fat_10, z_pos_14, z_kd_15, z_vl_16, z_tka_17, (nI n_12), ⟨by rw [ht]; exact hP, va_K.moved hW.alike hK, hD⟩, hz_pos_14, hz_kd_15, Or.inr ⟨n_12, hn_12, rfl⟩, (congrArg Prod.snd (hsp.symm.trans hRR))⟩⟩, hS.F ht⟩) hS.2.2 eX4_readsStart_57
  · obtain rfl : y_1 = (nI n_2) := ey_1.trans en_2
    have hsp := hsp.trans (if_neg (fun z => pu_nneg (n := n_2) (k := -1) (by omega) (by decide) (en_2.symm.trans z)))
    have hsp := hsp.trans (slet_eq (by rw [en_2]; exact nI_cl (by omega) : n_2 = (st0 : Int32).toNatClampNeg))
    refine lv_iconst (v := (-1)) hx hb eX4_readsStart_7 (by decide) ?_
    refine lv_icmp_eq (tgt := 17) hx hb eX4_readsStart_8 (by decide) (fun z => absurd z (pu_nneg (n := n_2) (by omega) (by decide))) (fun _ => ?_)
    refine lv_aload_n hx hb eX4_readsStart_11 rfl (lv_at hl 0 rfl) ?_
    refine lv_iconst (v := 5) hx hb eX4_readsStart_12 (by decide) ?_
    have hPc : va_P (dC, dI) vwCl (rd__w rd fa fat tp (nI len) (nI pos) (nI kd) vl tka au rw rc rp k_ft ft k_fw fw k_fcn fcn k_fpn fpn) _ := hP.sub [0, 1, 2, 3, 4] rfl
    have hDc := hD.sub (ws' := (rd__w rd fa fat tp (nI len) (nI pos) (nI kd) vl tka au rw rc rp k_ft ft k_fw fw k_fcn fcn k_fpn fpn)) [0, 1, 2, 3, 4] (by decide) rfl
    have hKc : va_K (dC, dI) vwCl (rd__t k_ft k_fw k_fcn k_fpn) s := hK.sub [0, 1, 2, 3] rfl
    have hFc := pu_free hDc hS hA
    refine va_calli (va_runV (As := [.int 5]) (rest := []) ⟨hx, hb, hml, hown, hts⟩ (c_E_4_refuse l dC dI _ rd fa fat tp len pos kd vl tka au rw rc rp k_ft ft k_fw fw k_fcn fcn k_fpn fpn 5 hlen hpos hkd) (cwV 1 hts g_E_4_readsStart_E_4_refuse rfl rfl rfl (by decide +kernel) ⟨Nat.le_of_ble_eq_true rfl, Nat.le_of_ble_eq_true rfl⟩) ⟨pu_bl, va_recv hK hP (ci := 4) (q0 := 0) rfl rfl, pu_in hPc hKc hDc⟩ rfl rfl hl.1 rfl (lv_room (Nat.le_of_ble_eq_true rfl)) eX4_readsStart_13 ⟨Nat.le_of_ble_eq_true rfl, Nat.le_of_ble_eq_true rfl⟩) hS (fun q _ h => hFc q h) hFc (fun r_18 u t H1 locs ht hvm hw hB hz1 hk1 hS => ?_)
    obtain ⟨z_fa_19, z_fat_20, ⟨hP1, -, hD1⟩, xr_18_0⟩ := hB
    rw [ht] at hP1
    obtain ⟨hP, hD⟩ := pj_a (X := (ra__w rd fa fat tp (nI len) (nI pos) (nI kd) vl tka au rw rc rp k_ft ft k_fw fw k_fcn fcn k_fpn fpn (nI nc) (nI np) (nI ne) st0 q4 q5 q6 q7 q8 q9 q10 q11 q12 q13 q14 q15 q16 k_f4 f4 k_f5 (bN 7 q_f5) k_f6 (bN 7 q_f6) k_f7 f7 k_f8 (bN 4 q_f8) k_f9 (bN 2 q_f9) k_f10 f10 k_f11 f11 k_f12 f12 k_f13 f13 k_f14 f14 k_f15 f15 k_f16 f16)) (X' := (ra__w rd z_fa_19 z_fat_20 tp (nI len) (nI pos) (nI kd) vl tka au rw rc rp k_ft ft k_fw fw k_fcn fcn k_fpn fpn (nI nc) (nI np) (nI ne) st0 q4 q5 q6 q7 q8 q9 q10 q11 q12 q13 q14 q15 q16 k_f4 f4 k_f5 (bN 7 q_f5) k_f6 (bN 7 q_f6) k_f7 f7 k_f8 (bN 4 q_f8) k_f9 (bN 2 q_f9) k_f10 f10 k_f11 f11 k_f12 f12 k_f13 f13 k_f14 f14 k_f15 f15 k_f16 f16)) (wc := (rd__w rd fa fat tp (nI len) (nI pos) (nI kd) vl tka au rw rc rp k_ft ft k_fw fw k_fcn fcn k_fpn fpn)) (w1 := (rd__w rd z_fa_19 z_fat_20 tp (nI len) (nI pos) (nI kd) vl tka au rw rc rp k_ft ft k_fw fw k_fcn fcn k_fpn fpn)) hP hD [0, 1, 2, 3, 4] [0, 1, 2, 3, 4, 10, 11, 12, 13, 14, 15, 16, 17, 18, 19, 20, 21, 22, 23] 5 rfl hk1 hP1 rfl rfl rfl (by decide)
    clear hP1 hD1 hFc hPc hDc hKc
    clear hk1 hz1 ht hvm
    generalize H1 = H at hP hS ⊢
    have hsp := hsp.trans (slet_eq xr_18_0)
    obtain rfl : r_18 = 0 := hw
    exact W.zret (v := 0) (ty := .boolean) hx hb hr (rfl) (fun t ht hW => ⟨⟨0, (), rfl, ⟨0, (Nat.le_of_ble_eq_true rfl), rfl, (congrArg Prod.fst (hsp.symm.trans hRR))⟩, ⟨z_fa_19, z_fat_20, pos, kd, vl, tka, st0, ⟨by rw [ht]; exact hP, va_K.moved hW.alike hK, hD⟩, hpos, hkd, hst0, (congrArg Prod.snd (hsp.symm.trans hRR))⟩⟩, hS.F ht⟩) hS.2.2 eX4_readsStart_16
theorem eX4_readsEdge_0 : decode cX4_readsEdge 0 = .ok (.aload_n 0, 1) := by decide +kernel
theorem eX4_readsEdge_1 : decode cX4_readsEdge 1 = .ok (.getfield 66, 3) := by decide +kernel
theorem eX4_readsEdge_4 : decode cX4_readsEdge 4 = .ok (.getfield 146, 3) := by decide +kernel
theorem eX4_readsEdge_7 : decode cX4_readsEdge 7 = .ok (.bipush 14, 2) := by decide +kernel
theorem eX4_readsEdge_9 : decode cX4_readsEdge 9 = .ok (.if_icmp .lt 9, 3) := by decide +kernel
theorem eX4_readsEdge_12 : decode cX4_readsEdge 12 = .ok (.aload_n 0, 1) := by decide +kernel
theorem eX4_readsEdge_13 : decode cX4_readsEdge 13 = .ok (.iconst 5, 1) := by decide +kernel
theorem eX4_readsEdge_14 : decode cX4_readsEdge 14 = .ok (.invokevirtual 103, 3) := by decide +kernel
theorem eX4_readsEdge_17 : decode cX4_readsEdge 17 = .ok (.ireturn, 1) := by decide +kernel
theorem eX4_readsEdge_18 : decode cX4_readsEdge 18 = .ok (.aload_n 0, 1) := by decide +kernel
theorem eX4_readsEdge_19 : decode cX4_readsEdge 19 = .ok (.invokevirtual 75, 3) := by decide +kernel
theorem eX4_readsEdge_22 : decode cX4_readsEdge 22 = .ok (.aload_n 0, 1) := by decide +kernel
theorem eX4_readsEdge_23 : decode cX4_readsEdge 23 = .ok (.aload_n 0, 1) := by decide +kernel
theorem eX4_readsEdge_24 : decode cX4_readsEdge 24 = .ok (.getfield 42, 3) := by decide +kernel
theorem eX4_readsEdge_27 : decode cX4_readsEdge 27 = .ok (.aload_n 0, 1) := by decide +kernel
theorem eX4_readsEdge_28 : decode cX4_readsEdge 28 = .ok (.getfield 66, 3) := by decide +kernel
theorem eX4_readsEdge_31 : decode cX4_readsEdge 31 = .ok (.getfield 100, 3) := by decide +kernel
theorem eX4_readsEdge_34 : decode cX4_readsEdge 34 = .ok (.invokevirtual 142, 3) := by decide +kernel
theorem eX4_readsEdge_37 : decode cX4_readsEdge 37 = .ok (.istore_n 1, 1) := by decide +kernel
theorem eX4_readsEdge_38 : decode cX4_readsEdge 38 = .ok (.iload_n 1, 1) := by decide +kernel
theorem eX4_readsEdge_39 : decode cX4_readsEdge 39 = .ok (.iconst (-1), 1) := by decide +kernel
theorem eX4_readsEdge_40 : decode cX4_readsEdge 40 = .ok (.if_icmp .ne 5, 3) := by decide +kernel
theorem eX4_readsEdge_43 : decode cX4_readsEdge 43 = .ok (.iconst 0, 1) := by decide +kernel
theorem eX4_readsEdge_44 : decode cX4_readsEdge 44 = .ok (.ireturn, 1) := by decide +kernel
theorem eX4_readsEdge_45 : decode cX4_readsEdge 45 = .ok (.aload_n 0, 1) := by decide +kernel
theorem eX4_readsEdge_46 : decode cX4_readsEdge 46 = .ok (.invokevirtual 75, 3) := by decide +kernel
theorem eX4_readsEdge_49 : decode cX4_readsEdge 49 = .ok (.aload_n 0, 1) := by decide +kernel
theorem eX4_readsEdge_50 : decode cX4_readsEdge 50 = .ok (.aload_n 0, 1) := by decide +kernel
theorem eX4_readsEdge_51 : decode cX4_readsEdge 51 = .ok (.getfield 42, 3) := by decide +kernel
theorem eX4_readsEdge_54 : decode cX4_readsEdge 54 = .ok (.aload_n 0, 1) := by decide +kernel
theorem eX4_readsEdge_55 : decode cX4_readsEdge 55 = .ok (.getfield 66, 3) := by decide +kernel
theorem eX4_readsEdge_58 : decode cX4_readsEdge 58 = .ok (.getfield 100, 3) := by decide +kernel
theorem eX4_readsEdge_61 : decode cX4_readsEdge 61 = .ok (.invokevirtual 142, 3) := by decide +kernel
theorem eX4_readsEdge_64 : decode cX4_readsEdge 64 = .ok (.istore_n 2, 1) := by decide +kernel
theorem eX4_readsEdge_65 : decode cX4_readsEdge 65 = .ok (.iload_n 2, 1) := by decide +kernel
theorem eX4_readsEdge_66 : decode cX4_readsEdge 66 = .ok (.iconst (-1), 1) := by decide +kernel
theorem eX4_readsEdge_67 : decode cX4_readsEdge 67 = .ok (.if_icmp .ne 5, 3) := by decide +kernel
theorem eX4_readsEdge_70 : decode cX4_readsEdge 70 = .ok (.iconst 0, 1) := by decide +kernel
theorem eX4_readsEdge_71 : decode cX4_readsEdge 71 = .ok (.ireturn, 1) := by decide +kernel
theorem eX4_readsEdge_72 : decode cX4_readsEdge 72 = .ok (.aload_n 0, 1) := by decide +kernel
theorem eX4_readsEdge_73 : decode cX4_readsEdge 73 = .ok (.invokevirtual 75, 3) := by decide +kernel
theorem eX4_readsEdge_76 : decode cX4_readsEdge 76 = .ok (.aload_n 0, 1) := by decide +kernel
theorem eX4_readsEdge_77 : decode cX4_readsEdge 77 = .ok (.getfield 66, 3) := by decide +kernel
theorem eX4_readsEdge_80 : decode cX4_readsEdge 80 = .ok (.getfield 146, 3) := by decide +kernel
theorem eX4_readsEdge_83 : decode cX4_readsEdge 83 = .ok (.istore_n 3, 1) := by decide +kernel
theorem eX4_readsEdge_84 : decode cX4_readsEdge 84 = .ok (.aload_n 0, 1) := by decide +kernel
theorem eX4_readsEdge_85 : decode cX4_readsEdge 85 = .ok (.getfield 66, 3) := by decide +kernel
theorem eX4_readsEdge_88 : decode cX4_readsEdge 88 = .ok (.iload_n 1, 1) := by decide +kernel
theorem eX4_readsEdge_89 : decode cX4_readsEdge 89 = .ok (.iload_n 2, 1) := by decide +kernel
theorem eX4_readsEdge_90 : decode cX4_readsEdge 90 = .ok (.invokevirtual 149, 3) := by decide +kernel
theorem eX4_readsEdge_93 : decode cX4_readsEdge 93 = .ok (.aload_n 0, 1) := by decide +kernel
theorem eX4_readsEdge_94 : decode cX4_readsEdge 94 = .ok (.iload_n 3, 1) := by decide +kernel
theorem eX4_readsEdge_95 : decode cX4_readsEdge 95 = .ok (.bipush 14, 2) := by decide +kernel
theorem eX4_readsEdge_97 : decode cX4_readsEdge 97 = .ok (.iconst 4, 1) := by decide +kernel
theorem eX4_readsEdge_98 : decode cX4_readsEdge 98 = .ok (.invokevirtual 138, 3) := by decide +kernel
theorem eX4_readsEdge_101 : decode cX4_readsEdge 101 = .ok (.ifCond .eq 15, 3) := by decide +kernel
theorem eX4_readsEdge_104 : decode cX4_readsEdge 104 = .ok (.aload_n 0, 1) := by decide +kernel
theorem eX4_readsEdge_105 : decode cX4_readsEdge 105 = .ok (.iload_n 3, 1) := by decide +kernel
theorem eX4_readsEdge_106 : decode cX4_readsEdge 106 = .ok (.invokevirtual 153, 3) := by decide +kernel
theorem eX4_readsEdge_109 : decode cX4_readsEdge 109 = .ok (.ifCond .eq 7, 3) := by decide +kernel
theorem eX4_readsEdge_112 : decode cX4_readsEdge 112 = .ok (.iconst 1, 1) := by decide +kernel
theorem eX4_readsEdge_113 : decode cX4_readsEdge 113 = .ok (.goto 4, 3) := by decide +kernel
theorem eX4_readsEdge_116 : decode cX4_readsEdge 116 = .ok (.iconst 0, 1) := by decide +kernel
theorem eX4_readsEdge_117 : decode cX4_readsEdge 117 = .ok (.ireturn, 1) := by decide +kernel
abbrev vs_E_4_readsEdge : List Cond := .code yX4_readsEdge cX4_readsEdge 4 (some .boolean) :: CM
theorem g_E_4_readsEdge_E_4_advance : GoodIn vs_E_4_readsEdge (wsV RX4 75 RX4 yX4_advance vs_E_4_advance) := cm_gV cm_229 cm_230 cm_231 cm_232 cm_233
theorem g_E_4_readsEdge_E_4_toldName_p : GoodIn vs_E_4_readsEdge (wsV RX4 142 RX4 yX4_toldName vs_E_4_toldName_p) := cm_gV cm_282 cm_283 cm_284 cm_232 cm_285
theorem g_E_4_readsEdge_E_0_addEdge : GoodIn vs_E_4_readsEdge (wsV RX4 149 RX0 yX0_addEdge vs_E_0_addEdge) := cm_gV cm_302 cm_303 cm_304 cm_19 cm_9
theorem g_E_4_readsEdge_E_4_readsConditions_14 : GoodIn vs_E_4_readsEdge (wsV RX4 138 RX4 yX4_readsConditions vs_E_4_readsConditions_14) := cm_gV cm_278 cm_279 cm_280 cm_232 cm_281
theorem g_E_4_readsEdge_E_4_readsResets : GoodIn vs_E_4_readsEdge (wsV RX4 153 RX4 yX4_readsResets vs_E_4_readsResets) := cm_gV cm_305 cm_306 cm_307 cm_232 cm_308
theorem g_E_4_readsEdge_E_4_refuse : GoodIn vs_E_4_readsEdge (wsV RX4 103 RX4 yX4_refuse vs_E_4_refuse) := cm_gV cm_255 cm_256 cm_257 cm_232 cm_258
noncomputable def sp_E_4_readsEdge (fa : Int32) (fat : Int32) (len : Nat) (pos : Nat) (kd : Nat) (vl : Int32) (tka : Int32) (ft : Nat → Int32) (fw : Nat → Int32) (fcn : Nat → Int32) (fpn : Nat → Int32) (nc : Nat) (np : Nat) (ne : Nat) (q_f5 : Nat → Nat) (q_f6 : Nat → Nat) (f7 : Nat → Int32) (q_f8 : Nat → Nat) (q_f9 : Nat → Nat) (f10 : Nat → Int32) (f11 : Nat → Int32) (f12 : Nat → Int32) (f13 : Nat → Int32) : Nat × (Nat → Nat) × (Nat → Nat) × (Nat → Int32) × (Nat → Int32) × (Nat → Int32) × (Nat → Int32) × (Nat → Nat) × (Nat → Nat) × (Nat → Int32) × Int32 × Int32 × Nat × Nat × Int32 × Int32 × Nat := (if ne < 14 then (slet (sp_E_4_advance len pos vl ft fw) (fun (z_pos_3, z_kd_4, z_vl_5, z_tka_6) => (slet (sp_E_4_toldName_p fa fat z_kd_4 z_vl_5 z_tka_6 fpn np) (fun (u_10, z_fa_8, z_fat_9) => (if u_10 = 0 then (0, q_f8, q_f9, f10, f11, f12, f13, q_f5, q_f6, f7, z_fa_8, z_fat_9, z_pos_3, z_kd_4, z_vl_5, z_tka_6, ne) else (slet (u_10 - 1) (fun n_11 => (slet (sp_E_4_advance len z_pos_3 z_vl_5 ft fw) (fun (z_pos_13, z_kd_14, z_vl_15, z_tka_16) => (slet (sp_E_4_toldName_p z_fa_8 z_fat_9 z_kd_14 z_vl_15 z_tka_16 fpn np) (fun (u_20, z_fa_18, z_fat_19) => (if u_20 = 0 then (0, q_f8, q_f9, f10, f11, f12, f13, q_f5, q_f6, f7, z_fa_18, z_fat_19, z_pos_13, z_kd_14, z_vl_15, z_tka_16, ne) else (slet (u_20 - 1) (fun n_21 => (slet (sp_E_4_advance len z_pos_13 z_vl_15 ft fw) (fun (z_pos_23, z_kd_24, z_vl_25, z_tka_26) => (slet (sp_E_0_addEdge ne q_f5 q_f6 f7 n_11 n_21) (fun (z_f5_28, z_f6_29, z_f7_30) => (slet (sp_E_4_readsConditions_14 z_fa_18 z_fat_19 len z_pos_23 z_kd_24 z_vl_25 z_tka_26 ft fw fcn nc q_f8 q_f9 f10 f11 f12 f13 ne) (fun (u_44, z_f8_32, z_f9_33, z_f10_34, z_f11_35, z_f12_36, z_f13_37, z_fa_38, z_fat_39, z_pos_40, z_kd_41, z_vl_42, z_tka_43) => (if u_44 = 0 then (0, z_f8_32, z_f9_33, z_f10_34, z_f11_35, z_f12_36, z_f13_37, z_f5_28, z_f6_29, z_f7_30, z_fa_38, z_fat_39, z_pos_40, z_kd_41, z_vl_42, z_tka_43, (ne + 1)) else (slet (sp_E_4_readsResets z_fa_38 z_fat_39 len z_pos_40 z_kd_41 z_vl_42 z_tka_43 ft fw fcn nc z_f7_30 ne) (fun (u_54, z_f7_47, z_fa_48, z_fat_49, z_pos_50, z_kd_51, z_vl_52, z_tka_53) => (if u_54 = 0 then (0, z_f8_32, z_f9_33, z_f10_34, z_f11_35, z_f12_36, z_f13_37, z_f5_28, z_f6_29, z_f7_47, z_fa_48, z_fat_49, z_pos_50, z_kd_51, z_vl_52, z_tka_53, (ne + 1)) else (1, z_f8_32, z_f9_33, z_f10_34, z_f11_35, z_f12_36, z_f13_37, z_f5_28, z_f6_29, z_f7_47, z_fa_48, z_fat_49, z_pos_50, z_kd_51, z_vl_52, z_tka_53, (ne + 1)))))))))))))))))))))))))) else (slet (sp_E_4_refuse tka 5) (fun (z_fa_57, z_fat_58) => (0, q_f8, q_f9, f10, f11, f12, f13, q_f5, q_f6, f7, z_fa_57, z_fat_58, pos, kd, vl, tka, ne))))
set_option maxHeartbeats 4000000 in
set_option maxRecDepth 100000 in
theorem c_E_4_readsEdge (l : Launch) (dC : Nat → ClassId) (dI : Nat → Nat → Nat) (sz : Nat) (rd : Nat) (fa : Int32) (fat : Int32) (tp : Nat) (len : Nat) (pos : Nat) (kd : Nat) (vl : Int32) (tka : Int32) (au : Nat) (rw : Nat) (rc : Nat) (rp : Nat) (k_ft : ClassId) (ft : Nat → Int32) (k_fw : ClassId) (fw : Nat → Int32) (k_fcn : ClassId) (fcn : Nat → Int32) (k_fpn : ClassId) (fpn : Nat → Int32) (nc : Nat) (np : Nat) (ne : Nat) (st0 : Int32) (q4 : Nat) (q5 : Nat) (q6 : Nat) (q7 : Nat) (q8 : Nat) (q9 : Nat) (q10 : Nat) (q11 : Nat) (q12 : Nat) (q13 : Nat) (q14 : Nat) (q15 : Nat) (q16 : Nat) (k_f4 : ClassId) (f4 : Nat → Int32) (k_f5 : ClassId) (q_f5 : Nat → Nat) (k_f6 : ClassId) (q_f6 : Nat → Nat) (k_f7 : ClassId) (f7 : Nat → Int32) (k_f8 : ClassId) (q_f8 : Nat → Nat) (k_f9 : ClassId) (q_f9 : Nat → Nat) (k_f10 : ClassId) (f10 : Nat → Int32) (k_f11 : ClassId) (f11 : Nat → Int32) (k_f12 : ClassId) (f12 : Nat → Int32) (k_f13 : ClassId) (f13 : Nat → Int32) (k_f14 : ClassId) (f14 : Nat → Int32) (k_f15 : ClassId) (f15 : Nat → Int32) (k_f16 : ClassId) (f16 : Nat → Int32) (hlen : len ≤ 900) (hpos : pos ≤ 900) (hkd : kd ≤ 15) (hnc : nc ≤ 3) (hnp : np ≤ 8) (hne : ne ≤ 14) (hst0 : pm1 7 st0) (hq0 : cz np ne q_f8) : Met l yX4_readsEdge vs_E_4_readsEdge ({ frames := 4, cells := 0, slots := 0, locals := 90 }) (va_Pc [.ref rd] (pu_B (dC, dI) (ra__w rd fa fat tp (nI len) (nI pos) (nI kd) vl tka au rw rc rp k_ft ft k_fw fw k_fcn fcn k_fpn fpn (nI nc) (nI np) (nI ne) st0 q4 q5 q6 q7 q8 q9 q10 q11 q12 q13 q14 q15 q16 k_f4 f4 k_f5 (bN 7 q_f5) k_f6 (bN 7 q_f6) k_f7 f7 k_f8 (bN 4 q_f8) k_f9 (bN 2 q_f9) k_f10 f10 k_f11 f11 k_f12 f12 k_f13 f13 k_f14 f14 k_f15 f15 k_f16 f16) (ra__t k_ft k_fw k_fcn k_fpn k_f4 k_f5 k_f6 k_f7 k_f8 k_f9 k_f10 k_f11 k_f12 k_f13 k_f14 k_f15 k_f16) sz)) (va_Qi (fun (r : Int32) (_ : Unit) => ∃ v : Nat, v ≤ 1 ∧ r = nI v ∧ v = (sp_E_4_readsEdge fa fat len pos kd vl tka ft fw fcn fpn nc np ne q_f5 q_f6 f7 q_f8 q_f9 f10 f11 f12 f13).1) (fun _ t => ∃ (z_f8 : Nat → Nat) (z_f9 : Nat → Nat) (z_f10 : Nat → Int32) (z_f11 : Nat → Int32) (z_f12 : Nat → Int32) (z_f13 : Nat → Int32) (z_f5 : Nat → Nat) (z_f6 : Nat → Nat) (z_f7 : Nat → Int32) (z_fa : Int32) (z_fat : Int32) (z_pos : Nat) (z_kd : Nat) (z_vl : Int32) (z_tka : Int32) (z_ne : Nat), pu_E (dC, dI) (ra__w rd z_fa z_fat tp (nI len) (nI z_pos) (nI z_kd) z_vl z_tka au rw rc rp k_ft ft k_fw fw k_fcn fcn k_fpn fpn (nI nc) (nI np) (nI z_ne) st0 q4 q5 q6 q7 q8 q9 q10 q11 q12 q13 q14 q15 q16 k_f4 f4 k_f5 (bN 7 z_f5) k_f6 (bN 7 z_f6) k_f7 z_f7 k_f8 (bN 4 z_f8) k_f9 (bN 2 z_f9) k_f10 z_f10 k_f11 z_f11 k_f12 z_f12 k_f13 z_f13 k_f14 f14 k_f15 f15 k_f16 f16) (ra__t k_ft k_fw k_fcn k_fpn k_f4 k_f5 k_f6 k_f7 k_f8 k_f9 k_f10 k_f11 k_f12 k_f13 k_f14 k_f15 k_f16) (va_A ((ra__w rd fa fat tp (nI len) (nI pos) (nI kd) vl tka au rw rc rp k_ft ft k_fw fw k_fcn fcn k_fpn fpn (nI nc) (nI np) (nI ne) st0 q4 q5 q6 q7 q8 q9 q10 q11 q12 q13 q14 q15 q16 k_f4 f4 k_f5 (bN 7 q_f5) k_f6 (bN 7 q_f6) k_f7 f7 k_f8 (bN 4 q_f8) k_f9 (bN 2 q_f9) k_f10 f10 k_f11 f11 k_f12 f12 k_f13 f13 k_f14 f14 k_f15 f15 k_f16 f16)) sz) t ∧ (z_pos ≤ 900) ∧ (z_kd ≤ 15) ∧ (z_ne ≤ 14) ∧ (cz np z_ne z_f8) ∧ ((z_f8, z_f9, z_f10, z_f11, z_f12, z_f13, z_f5, z_f6, z_f7, z_fa, z_fat, z_pos, z_kd, z_vl, z_tka, z_ne) = (sp_E_4_readsEdge fa fat len pos kd vl tka ft fw fcn fpn nc np ne q_f5 q_f6 f7 q_f8 q_f9 f10 f11 f12 f13).2)) (va_A ((ra__w rd fa fat tp (nI len) (nI pos) (nI kd) vl tka au rw rc rp k_ft ft k_fw fw k_fcn fcn k_fpn fpn (nI nc) (nI np) (nI ne) st0 q4 q5 q6 q7 q8 q9 q10 q11 q12 q13 q14 q15 q16 k_f4 f4 k_f5 (bN 7 q_f5) k_f6 (bN 7 q_f6) k_f7 f7 k_f8 (bN 4 q_f8) k_f9 (bN 2 q_f9) k_f10 f10 k_f11 f11 k_f12 f12 k_f13 f13 k_f14 f14 k_f15 f15 k_f16 f16)) sz)) 0 0 (va_A ((ra__w rd fa fat tp (nI len) (nI pos) (nI kd) vl tka au rw rc rp k_ft ft k_fw fw k_fcn fcn k_fpn fpn (nI nc) (nI np) (nI ne) st0 q4 q5 q6 q7 q8 q9 q10 q11 q12 q13 q14 q15 q16 k_f4 f4 k_f5 (bN 7 q_f5) k_f6 (bN 7 q_f6) k_f7 f7 k_f8 (bN 4 q_f8) k_f9 (bN 2 q_f9) k_f10 f10 k_f11 f11 k_f12 f12 k_f13 f13 k_f14 f14 k_f15 f15 k_f16 f16)) sz) := by
  refine Met.ofW (cc := cX4_readsEdge) (maxL := 4) (ret := (some .boolean)) (by decide) rfl ?_
  intro p e s m args below meth c s₁ B hml hv
  obtain ⟨rfl, rfl, hP, hK, hD0⟩ := hv
  have hx := B.exec
  have hb := B.bytes
  have hr := B.returns
  have hts := atoms_spec (ws := vs_E_4_readsEdge) B.pre
  have v_1 := hts (.fieldLink RX4 66 "ClockReach$Reader" "into" "LClockReach$Automaton;") (List.mem_cons_of_mem _ cm_221)
  have v_2 := hts (.fieldLink RX4 146 "ClockReach$Automaton" "edges" "I") (List.mem_cons_of_mem _ cm_301)
  have v_8 := hts (.fieldLink RX4 42 "ClockReach$Reader" "placeNames" "[I") (List.mem_cons_of_mem _ cm_263)
  have v_9 := hts (.fieldLink RX4 100 "ClockReach$Automaton" "places" "I") (List.mem_cons_of_mem _ cm_223)
  have hown : s.vm.findClass RX4 = some m.cls := findClass_of_methodNamed B.named
  have hlocks := B.notSynchronized
  have hiX0 : ∀ w ∈ wsX00, w ∈ vs_E_4_readsEdge := fun _ h => List.mem_cons_of_mem _ (cm_X0 h)
  have hiX4 : ∀ w ∈ wsX40, w ∈ vs_E_4_readsEdge := fun _ h => List.mem_cons_of_mem _ (cm_X4 h)
  have hD := hD0.self (sz := s.heap.size)
  generalize hAe : va_A ((ra__w rd fa fat tp (nI len) (nI pos) (nI kd) vl tka au rw rc rp k_ft ft k_fw fw k_fcn fcn k_fpn fpn (nI nc) (nI np) (nI ne) st0 q4 q5 q6 q7 q8 q9 q10 q11 q12 q13 q14 q15 q16 k_f4 f4 k_f5 (bN 7 q_f5) k_f6 (bN 7 q_f6) k_f7 f7 k_f8 (bN 4 q_f8) k_f9 (bN 2 q_f9) k_f10 f10 k_f11 f11 k_f12 f12 k_f13 f13 k_f14 f14 k_f15 f15 k_f16 f16)) s.heap.size = A at hD ⊢
  have hA : ∀ q : Nat, s.heap.size ≤ q → A q := fun q h => by rw [← hAe]; exact Or.inr h
  have hS : va_S A s.heap s.heap [] := va_S.rf
  have hl := lv_entry ([.ref rd]) (n := 4) (Nat.le_of_ble_eq_true rfl)
  rw [lg_entry_eq]
  generalize (lg_sl ([.ref rd]) ++ List.replicate (4 - (lg_sl ([.ref rd])).length) Slot.unset).toArray = ls at hl ⊢
  have hl : lv_has ls 4 [(0, .ref rd)] := hl
  obtain ⟨RR, hRR⟩ : ∃ x, x = (sp_E_4_readsEdge fa fat len pos kd vl tka ft fw fcn fpn nc np ne q_f5 q_f6 f7 q_f8 q_f9 f10 f11 f12 f13) := ⟨_, rfl⟩
  have hsp := hRR
  refine lv_aload_n hx hb eX4_readsEdge_0 rfl (lv_at hl 0 rfl) ?_
  refine va_get (D := (dC, dI)) (ci := 4) (v := .ref au) (C := RX4) (T := TX4) (N := 12) hx hb hts hiX4 hown hK hP 0 rfl rfl 8 (by decide) v_1 (fun _ h9 => h9) rfl eX4_readsEdge_1 ?_
  refine va_get (D := (dC, dI)) (ci := 0) (v := .int (nI ne)) (C := RX0) (T := TX0) (N := 17) hx hb hts hiX0 hown hK hP 5 rfl rfl 2 (by decide) v_2 (fun _ h9 => h9) rfl eX4_readsEdge_4 ?_
  refine lv_bipush (v := 14) hx hb eX4_readsEdge_7 (by decide) ?_
  refine lv_icmp_lt (tgt := 18) hx hb eX4_readsEdge_9 (by decide) (fun c_1 => ?_) (fun c_1 => ?_)
  · have c_1 : ne < 14 := (nI_ltI (a := ne) (b := 14) (Nat.lt_of_le_of_lt hne (Nat.le_of_ble_eq_true rfl)) (Nat.le_of_ble_eq_true rfl)).mp c_1
    have hsp := hsp.trans (if_pos c_1)
    refine lv_aload_n hx hb eX4_readsEdge_18 rfl (lv_at hl 0 rfl) ?_
    have hPc : va_P (dC, dI) vwCl (rd__w rd fa fat tp (nI len) (nI pos) (nI kd) vl tka au rw rc rp k_ft ft k_fw fw k_fcn fcn k_fpn fpn) _ := hP.sub [0, 1, 2, 3, 4] rfl
    have hDc := hD.sub (ws' := (rd__w rd fa fat tp (nI len) (nI pos) (nI kd) vl tka au rw rc rp k_ft ft k_fw fw k_fcn fcn k_fpn fpn)) [0, 1, 2, 3, 4] (by decide) rfl
    have hKc : va_K (dC, dI) vwCl (rd__t k_ft k_fw k_fcn k_fpn) s := hK.sub [0, 1, 2, 3] rfl
    have hFc := pu_free hDc hS hA
    refine va_callv (va_runV (As := []) (rest := []) ⟨hx, hb, hml, hown, hts⟩ (c_E_4_advance l dC dI _ rd fa fat tp len pos kd vl tka au rw rc rp k_ft ft k_fw fw k_fcn fcn k_fpn fpn hlen hpos hkd) (cwV 0 hts g_E_4_readsEdge_E_4_advance rfl rfl rfl (by decide +kernel) ⟨Nat.le_of_ble_eq_true rfl, Nat.le_of_ble_eq_true rfl⟩) ⟨pu_bl, va_recv hK hP (ci := 4) (q0 := 0) rfl rfl, pu_in hPc hKc hDc⟩ rfl rfl hl.1 rfl (lv_room (Nat.le_of_ble_eq_true rfl)) eX4_readsEdge_19 ⟨Nat.le_of_ble_eq_true rfl, Nat.le_of_ble_eq_true rfl⟩) hS (fun q _ h => hFc q h) hFc (fun u t H1 locs ht hvm hw hB hz1 hk1 hS => ?_)
    obtain ⟨z_pos_3, z_kd_4, z_vl_5, z_tka_6, ⟨hP1, -, hD1⟩, hz_pos_3, hz_kd_4, xr_2_0⟩ := hB
    rw [ht] at hP1
    obtain ⟨hP, hD⟩ := pj_a (X := (ra__w rd fa fat tp (nI len) (nI pos) (nI kd) vl tka au rw rc rp k_ft ft k_fw fw k_fcn fcn k_fpn fpn (nI nc) (nI np) (nI ne) st0 q4 q5 q6 q7 q8 q9 q10 q11 q12 q13 q14 q15 q16 k_f4 f4 k_f5 (bN 7 q_f5) k_f6 (bN 7 q_f6) k_f7 f7 k_f8 (bN 4 q_f8) k_f9 (bN 2 q_f9) k_f10 f10 k_f11 f11 k_f12 f12 k_f13 f13 k_f14 f14 k_f15 f15 k_f16 f16)) (X' := (ra__w rd fa fat tp (nI len) (nI z_pos_3) (nI z_kd_4) z_vl_5 z_tka_6 au rw rc rp k_ft ft k_fw fw k_fcn fcn k_fpn fpn (nI nc) (nI np) (nI ne) st0 q4 q5 q6 q7 q8 q9 q10 q11 q12 q13 q14 q15 q16 k_f4 f4 k_f5 (bN 7 q_f5) k_f6 (bN 7 q_f6) k_f7 f7 k_f8 (bN 4 q_f8) k_f9 (bN 2 q_f9) k_f10 f10 k_f11 f11 k_f12 f12 k_f13 f13 k_f14 f14 k_f15 f15 k_f16 f16)) (wc := (rd__w rd fa fat tp (nI len) (nI pos) (nI kd) vl tka au rw rc rp k_ft ft k_fw fw k_fcn fcn k_fpn fpn)) (w1 := (rd__w rd fa fat tp (nI len) (nI z_pos_3) (nI z_kd_4) z_vl_5 z_tka_6 au rw rc rp k_ft ft k_fw fw k_fcn fcn k_fpn fpn)) hP hD [0, 1, 2, 3, 4] [0, 1, 2, 3, 4, 10, 11, 12, 13, 14, 15, 16, 17, 18, 19, 20, 21, 22, 23] 5 rfl hk1 hP1 rfl rfl rfl (by decide)
    clear hP1 hD1 hFc hPc hDc hKc
    clear hk1 hz1 ht hvm
    generalize H1 = H at hP hS ⊢
    have hsp := hsp.trans (slet_eq xr_2_0)
    refine lv_aload_n hx hb eX4_readsEdge_22 rfl (lv_at hl 0 rfl) ?_
    refine lv_aload_n hx hb eX4_readsEdge_23 rfl (lv_at hl 0 rfl) ?_
    refine va_get (D := (dC, dI)) (ci := 4) (v := .ref rp) (C := RX4) (T := TX4) (N := 12) hx hb hts hiX4 hown hK hP 0 rfl rfl 11 (by decide) v_8 (fun _ h9 => h9) rfl eX4_readsEdge_24 ?_
    refine lv_aload_n hx hb eX4_readsEdge_27 rfl (lv_at hl 0 rfl) ?_
    refine va_get (D := (dC, dI)) (ci := 4) (v := .ref au) (C := RX4) (T := TX4) (N := 12) hx hb hts hiX4 hown hK hP 0 rfl rfl 8 (by decide) v_1 (fun _ h9 => h9) rfl eX4_readsEdge_28 ?_
    refine va_get (D := (dC, dI)) (ci := 0) (v := .int (nI np)) (C := RX0) (T := TX0) (N := 17) hx hb hts hiX0 hown hK hP 5 rfl rfl 1 (by decide) v_9 (fun _ h9 => h9) rfl eX4_readsEdge_31 ?_
    have hPc : va_P (dC, dI) vwCl (rd__w rd fa fat tp (nI len) (nI z_pos_3) (nI z_kd_4) z_vl_5 z_tka_6 au rw rc rp k_ft ft k_fw fw k_fcn fcn k_fpn fpn) _ := hP.sub [0, 1, 2, 3, 4] rfl
    have hDc := hD.sub (ws' := (rd__w rd fa fat tp (nI len) (nI z_pos_3) (nI z_kd_4) z_vl_5 z_tka_6 au rw rc rp k_ft ft k_fw fw k_fcn fcn k_fpn fpn)) [0, 1, 2, 3, 4] (by decide) rfl
    have hKc : va_K (dC, dI) vwCl (rd__t k_ft k_fw k_fcn k_fpn) s := hK.sub [0, 1, 2, 3] rfl
    have hFc := pu_free hDc hS hA
    refine va_calli (va_runV (As := [.ref rp, .int (nI np)]) (rest := []) ⟨hx, hb, hml, hown, hts⟩ (c_E_4_toldName_p l dC dI _ rd fa fat tp len z_pos_3 z_kd_4 z_vl_5 z_tka_6 au rw rc rp k_ft ft k_fw fw k_fcn fcn k_fpn fpn np hlen hz_pos_3 hz_kd_4 hnp) (cwV 2 hts g_E_4_readsEdge_E_4_toldName_p rfl rfl rfl (by decide +kernel) ⟨Nat.le_of_ble_eq_true rfl, Nat.le_of_ble_eq_true rfl⟩) ⟨pu_bl, va_recv hK hP (ci := 4) (q0 := 0) rfl rfl, pu_in hPc hKc hDc⟩ rfl rfl hl.1 rfl (lv_room (Nat.le_of_ble_eq_true rfl)) eX4_readsEdge_34 ⟨Nat.le_of_ble_eq_true rfl, Nat.le_of_ble_eq_true rfl⟩) hS (fun q _ h => hFc q h) hFc (fun r_7 u t H1 locs ht hvm hw hB hz1 hk1 hS => ?_)
    obtain ⟨z_fa_8, z_fat_9, ⟨hP1, -, hD1⟩, xr_7_0⟩ := hB
    rw [ht] at hP1
    obtain ⟨hP, hD⟩ := pj_a (X := (ra__w rd fa fat tp (nI len) (nI z_pos_3) (nI z_kd_4) z_vl_5 z_tka_6 au rw rc rp k_ft ft k_fw fw k_fcn fcn k_fpn fpn (nI nc) (nI np) (nI ne) st0 q4 q5 q6 q7 q8 q9 q10 q11 q12 q13 q14 q15 q16 k_f4 f4 k_f5 (bN 7 q_f5) k_f6 (bN 7 q_f6) k_f7 f7 k_f8 (bN 4 q_f8) k_f9 (bN 2 q_f9) k_f10 f10 k_f11 f11 k_f12 f12 k_f13 f13 k_f14 f14 k_f15 f15 k_f16 f16)) (X' := (ra__w rd z_fa_8 z_fat_9 tp (nI len) (nI z_pos_3) (nI z_kd_4) z_vl_5 z_tka_6 au rw rc rp k_ft ft k_fw fw k_fcn fcn k_fpn fpn (nI nc) (nI np) (nI ne) st0 q4 q5 q6 q7 q8 q9 q10 q11 q12 q13 q14 q15 q16 k_f4 f4 k_f5 (bN 7 q_f5) k_f6 (bN 7 q_f6) k_f7 f7 k_f8 (bN 4 q_f8) k_f9 (bN 2 q_f9) k_f10 f10 k_f11 f11 k_f12 f12 k_f13 f13 k_f14 f14 k_f15 f15 k_f16 f16)) (wc := (rd__w rd fa fat tp (nI len) (nI z_pos_3) (nI z_kd_4) z_vl_5 z_tka_6 au rw rc rp k_ft ft k_fw fw k_fcn fcn k_fpn fpn)) (w1 := (rd__w rd z_fa_8 z_fat_9 tp (nI len) (nI z_pos_3) (nI z_kd_4) z_vl_5 z_tka_6 au rw rc rp k_ft ft k_fw fw k_fcn fcn k_fpn fpn)) hP hD [0, 1, 2, 3, 4] [0, 1, 2, 3, 4, 10, 11, 12, 13, 14, 15, 16, 17, 18, 19, 20, 21, 22, 23] 5 rfl hk1 hP1 rfl rfl rfl (by decide)
    clear hP1 hD1 hFc hPc hDc hKc
    clear hk1 hz1 ht hvm
    generalize H1 = H at hP hS ⊢
    obtain ⟨u_10, hu_10, mu_10, iu_10⟩ := hw
    have iu_10 : (u_10, z_fa_8, z_fat_9) = (sp_E_4_toldName_p fa fat z_kd_4 z_vl_5 z_tka_6 fpn np) := Prod.ext iu_10 xr_7_0
    have hsp := hsp.trans (slet_eq iu_10)
    rcases mI_get u_10 with ⟨zn_11, wn_11⟩ | ⟨n_11, zn_11, wn_11⟩
    · obtain rfl : r_7 = -1 := mu_10.trans wn_11
      have hsp := hsp.trans (if_pos zn_11)
      refine lv_istore_n (lv' := [(1, .int (-1)), (0, .ref rd)]) hx hb eX4_readsEdge_37 rfl hl (by decide) rfl (fun ls hl => ?_)
      refine lv_iload_n hx hb eX4_readsEdge_38 rfl (lv_at hl 0 rfl) ?_
      refine lv_iconst (v := (-1)) hx hb eX4_readsEdge_39 (by decide) ?_
      refine lv_icmp_ne (tgt := 45) hx hb eX4_readsEdge_40 (by decide) (fun z => absurd z (by decide)) (fun _ => ?_)
      refine lv_iconst (v := 0) hx hb eX4_readsEdge_43 (by decide) ?_
      exact W.zret (v := 0) (ty := .boolean) hx hb hr (rfl) (fun t ht hW => ⟨⟨0, (), rfl, ⟨0, (Nat.le_of_ble_eq_true rfl), rfl, (congrArg Prod.fst (hsp.symm.trans hRR))⟩, ⟨q_f8, q_f9, f10, f11, f12, f13, q_f5, q_f6, f7, z_fa_8, z_fat_9, z_pos_3, z_kd_4, z_vl_5, z_tka_6, ne, ⟨by rw [ht]; exact hP, va_K.moved hW.alike hK, hD⟩, hz_pos_3, hz_kd_4, hne, by first | assumption | exact cz_np (by assumption) (by assumption) | exact cz_up (by assumption) | exact cz_ne (by assumption) (by omega) (by assumption) | exact cz_ue (by assumption), (congrArg Prod.snd (hsp.symm.trans hRR))⟩⟩, hS.F ht⟩) hS.2.2 eX4_readsEdge_44
    · obtain rfl : r_7 = nI n_11 := mu_10.trans wn_11
      have hn_11 : n_11 ≤ 7 := by omega
      have hsp := hsp.trans (if_neg (by omega))
      have hsp := hsp.trans (slet_eq (by omega : n_11 = u_10 - 1))
      refine lv_istore_n (lv' := [(1, .int (nI n_11)), (0, .ref rd)]) hx hb eX4_readsEdge_37 rfl hl (by decide) rfl (fun ls hl => ?_)
      refine lv_iload_n hx hb eX4_readsEdge_38 rfl (lv_at hl 0 rfl) ?_
      refine lv_iconst (v := (-1)) hx hb eX4_readsEdge_39 (by decide) ?_
      refine lv_icmp_ne (tgt := 45) hx hb eX4_readsEdge_40 (by decide) (fun _ => ?_) (fun z => absurd z (pu_nneg (n := n_11) (by omega) (by decide)))
      refine lv_aload_n hx hb eX4_readsEdge_45 rfl (lv_at hl 1 rfl) ?_
      have hPc : va_P (dC, dI) vwCl (rd__w rd z_fa_8 z_fat_9 tp (nI len) (nI z_pos_3) (nI z_kd_4) z_vl_5 z_tka_6 au rw rc rp k_ft ft k_fw fw k_fcn fcn k_fpn fpn) _ := hP.sub [0, 1, 2, 3, 4] rfl
      have hDc := hD.sub (ws' := (rd__w rd z_fa_8 z_fat_9 tp (nI len) (nI z_pos_3) (nI z_kd_4) z_vl_5 z_tka_6 au rw rc rp k_ft ft k_fw fw k_fcn fcn k_fpn fpn)) [0, 1, 2, 3, 4] (by decide) rfl
      have hKc : va_K (dC, dI) vwCl (rd__t k_ft k_fw k_fcn k_fpn) s := hK.sub [0, 1, 2, 3] rfl
      have hFc := pu_free hDc hS hA
      refine va_callv (va_runV (As := []) (rest := []) ⟨hx, hb, hml, hown, hts⟩ (c_E_4_advance l dC dI _ rd z_fa_8 z_fat_9 tp len z_pos_3 z_kd_4 z_vl_5 z_tka_6 au rw rc rp k_ft ft k_fw fw k_fcn fcn k_fpn fpn hlen hz_pos_3 hz_kd_4) (cwV 0 hts g_E_4_readsEdge_E_4_advance rfl rfl rfl (by decide +kernel) ⟨Nat.le_of_ble_eq_true rfl, Nat.le_of_ble_eq_true rfl⟩) ⟨pu_bl, va_recv hK hP (ci := 4) (q0 := 0) rfl rfl, pu_in hPc hKc hDc⟩ rfl rfl hl.1 rfl (lv_room (Nat.le_of_ble_eq_true rfl)) eX4_readsEdge_46 ⟨Nat.le_of_ble_eq_true rfl, Nat.le_of_ble_eq_true rfl⟩) hS (fun q _ h => hFc q h) hFc (fun u t H1 locs ht hvm hw hB hz1 hk1 hS => ?_)
      obtain ⟨z_pos_13, z_kd_14, z_vl_15, z_tka_16, ⟨hP1, -, hD1⟩, hz_pos_13, hz_kd_14, xr_12_0⟩ := hB
      rw [ht] at hP1
      obtain ⟨hP, hD⟩ := pj_a (X := (ra__w rd z_fa_8 z_fat_9 tp (nI len) (nI z_pos_3) (nI z_kd_4) z_vl_5 z_tka_6 au rw rc rp k_ft ft k_fw fw k_fcn fcn k_fpn fpn (nI nc) (nI np) (nI ne) st0 q4 q5 q6 q7 q8 q9 q10 q11 q12 q13 q14 q15 q16 k_f4 f4 k_f5 (bN 7 q_f5) k_f6 (bN 7 q_f6) k_f7 f7 k_f8 (bN 4 q_f8) k_f9 (bN 2 q_f9) k_f10 f10 k_f11 f11 k_f12 f12 k_f13 f13 k_f14 f14 k_f15 f15 k_f16 f16)) (X' := (ra__w rd z_fa_8 z_fat_9 tp (nI len) (nI z_pos_13) (nI z_kd_14) z_vl_15 z_tka_16 au rw rc rp k_ft ft k_fw fw k_fcn fcn k_fpn fpn (nI nc) (nI np) (nI ne) st0 q4 q5 q6 q7 q8 q9 q10 q11 q12 q13 q14 q15 q16 k_f4 f4 k_f5 (bN 7 q_f5) k_f6 (bN 7 q_f6) k_f7 f7 k_f8 (bN 4 q_f8) k_f9 (bN 2 q_f9) k_f10 f10 k_f11 f11 k_f12 f12 k_f13 f13 k_f14 f14 k_f15 f15 k_f16 f16)) (wc := (rd__w rd z_fa_8 z_fat_9 tp (nI len) (nI z_pos_3) (nI z_kd_4) z_vl_5 z_tka_6 au rw rc rp k_ft ft k_fw fw k_fcn fcn k_fpn fpn)) (w1 := (rd__w rd z_fa_8 z_fat_9 tp (nI len) (nI z_pos_13) (nI z_kd_14) z_vl_15 z_tka_16 au rw rc rp k_ft ft k_fw fw k_fcn fcn k_fpn fpn)) hP hD [0, 1, 2, 3, 4] [0, 1, 2, 3, 4, 10, 11, 12, 13, 14, 15, 16, 17, 18, 19, 20, 21, 22, 23] 5 rfl hk1 hP1 rfl rfl rfl (by decide)
      clear hP1 hD1 hFc hPc hDc hKc
      clear hk1 hz1 ht hvm
      generalize H1 = H at hP hS ⊢
      have hsp := hsp.trans (slet_eq xr_12_0)
      refine lv_aload_n hx hb eX4_readsEdge_49 rfl (lv_at hl 1 rfl) ?_
      refine lv_aload_n hx hb eX4_readsEdge_50 rfl (lv_at hl 1 rfl) ?_
      refine va_get (D := (dC, dI)) (ci := 4) (v := .ref rp) (C := RX4) (T := TX4) (N := 12) hx hb hts hiX4 hown hK hP 0 rfl rfl 11 (by decide) v_8 (fun _ h9 => h9) rfl eX4_readsEdge_51 ?_
      refine lv_aload_n hx hb eX4_readsEdge_54 rfl (lv_at hl 1 rfl) ?_
      refine va_get (D := (dC, dI)) (ci := 4) (v := .ref au) (C := RX4) (T := TX4) (N := 12) hx hb hts hiX4 hown hK hP 0 rfl rfl 8 (by decide) v_1 (fun _ h9 => h9) rfl eX4_readsEdge_55 ?_
      refine va_get (D := (dC, dI)) (ci := 0) (v := .int (nI np)) (C := RX0) (T := TX0) (N := 17) hx hb hts hiX0 hown hK hP 5 rfl rfl 1 (by decide) v_9 (fun _ h9 => h9) rfl eX4_readsEdge_58 ?_
      have hPc : va_P (dC, dI) vwCl (rd__w rd z_fa_8 z_fat_9 tp (nI len) (nI z_pos_13) (nI z_kd_14) z_vl_15 z_tka_16 au rw rc rp k_ft ft k_fw fw k_fcn fcn k_fpn fpn) _ := hP.sub [0, 1, 2, 3, 4] rfl
      have hDc := hD.sub (ws' := (rd__w rd z_fa_8 z_fat_9 tp (nI len) (nI z_pos_13) (nI z_kd_14) z_vl_15 z_tka_16 au rw rc rp k_ft ft k_fw fw k_fcn fcn k_fpn fpn)) [0, 1, 2, 3, 4] (by decide) rfl
      have hKc : va_K (dC, dI) vwCl (rd__t k_ft k_fw k_fcn k_fpn) s := hK.sub [0, 1, 2, 3] rfl
      have hFc := pu_free hDc hS hA
      refine va_calli (va_runV (As := [.ref rp, .int (nI np)]) (rest := []) ⟨hx, hb, hml, hown, hts⟩ (c_E_4_toldName_p l dC dI _ rd z_fa_8 z_fat_9 tp len z_pos_13 z_kd_14 z_vl_15 z_tka_16 au rw rc rp k_ft ft k_fw fw k_fcn fcn k_fpn fpn np hlen hz_pos_13 hz_kd_14 hnp) (cwV 2 hts g_E_4_readsEdge_E_4_toldName_p rfl rfl rfl (by decide +kernel) ⟨Nat.le_of_ble_eq_true rfl, Nat.le_of_ble_eq_true rfl⟩) ⟨pu_bl, va_recv hK hP (ci := 4) (q0 := 0) rfl rfl, pu_in hPc hKc hDc⟩ rfl rfl hl.1 rfl (lv_room (Nat.le_of_ble_eq_true rfl)) eX4_readsEdge_61 ⟨Nat.le_of_ble_eq_true rfl, Nat.le_of_ble_eq_true rfl⟩) hS (fun q _ h => hFc q h) hFc (fun r_17 u t H1 locs ht hvm hw hB hz1 hk1 hS => ?_)
      obtain ⟨z_fa_18, z_fat_19, ⟨hP1, -, hD1⟩, xr_17_0⟩ := hB
      rw [ht] at hP1
      obtain ⟨hP, hD⟩ := pj_a (X := (ra__w rd z_fa_8 z_fat_9 tp (nI len) (nI z_pos_13) (nI z_kd_14) z_vl_15 z_tka_16 au rw rc rp k_ft ft k_fw fw k_fcn fcn k_fpn fpn (nI nc) (nI np) (nI ne) st0 q4 q5 q6 q7 q8 q9 q10 q11 q12 q13 q14 q15 q16 k_f4 f4 k_f5 (bN 7 q_f5) k_f6 (bN 7 q_f6) k_f7 f7 k_f8 (bN 4 q_f8) k_f9 (bN 2 q_f9) k_f10 f10 k_f11 f11 k_f12 f12 k_f13 f13 k_f14 f14 k_f15 f15 k_f16 f16)) (X' := (ra__w rd z_fa_18 z_fat_19 tp (nI len) (nI z_pos_13) (nI z_kd_14) z_vl_15 z_tka_16 au rw rc rp k_ft ft k_fw fw k_fcn fcn k_fpn fpn (nI nc) (nI np) (nI ne) st0 q4 q5 q6 q7 q8 q9 q10 q11 q12 q13 q14 q15 q16 k_f4 f4 k_f5 (bN 7 q_f5) k_f6 (bN 7 q_f6) k_f7 f7 k_f8 (bN 4 q_f8) k_f9 (bN 2 q_f9) k_f10 f10 k_f11 f11 k_f12 f12 k_f13 f13 k_f14 f14 k_f15 f15 k_f16 f16)) (wc := (rd__w rd z_fa_8 z_fat_9 tp (nI len) (nI z_pos_13) (nI z_kd_14) z_vl_15 z_tka_16 au rw rc rp k_ft ft k_fw fw k_fcn fcn k_fpn fpn)) (w1 := (rd__w rd z_fa_18 z_fat_19 tp (nI len) (nI z_pos_13) (nI z_kd_14) z_vl_15 z_tka_16 au rw rc rp k_ft ft k_fw fw k_fcn fcn k_fpn fpn)) hP hD [0, 1, 2, 3, 4] [0, 1, 2, 3, 4, 10, 11, 12, 13, 14, 15, 16, 17, 18, 19, 20, 21, 22, 23] 5 rfl hk1 hP1 rfl rfl rfl (by decide)
      clear hP1 hD1 hFc hPc hDc hKc
      clear hk1 hz1 ht hvm
      generalize H1 = H at hP hS ⊢
      obtain ⟨u_20, hu_20, mu_20, iu_20⟩ := hw
      have iu_20 : (u_20, z_fa_18, z_fat_19) = (sp_E_4_toldName_p z_fa_8 z_fat_9 z_kd_14 z_vl_15 z_tka_16 fpn np) := Prod.ext iu_20 xr_17_0
      have hsp := hsp.trans (slet_eq iu_20)
      rcases mI_get u_20 with ⟨zn_21, wn_21⟩ | ⟨n_21, zn_21, wn_21⟩
      · obtain rfl : r_17 = -1 := mu_20.trans wn_21
        have hsp := hsp.trans (if_pos zn_21)
        refine lv_istore_n (lv' := [(2, .int (-1)), (1, .int (nI n_11)), (0, .ref rd)]) hx hb eX4_readsEdge_64 rfl hl (by decide) rfl (fun ls hl => ?_)
        refine lv_iload_n hx hb eX4_readsEdge_65 rfl (lv_at hl 0 rfl) ?_
        refine lv_iconst (v := (-1)) hx hb eX4_readsEdge_66 (by decide) ?_
        refine lv_icmp_ne (tgt := 72) hx hb eX4_readsEdge_67 (by decide) (fun z => absurd z (by decide)) (fun _ => ?_)
        refine lv_iconst (v := 0) hx hb eX4_readsEdge_70 (by decide) ?_
        exact W.zret (v := 0) (ty := .boolean) hx hb hr (rfl) (fun t ht hW => ⟨⟨0, (), rfl, ⟨0, (Nat.le_of_ble_eq_true rfl), rfl, (congrArg Prod.fst (hsp.symm.trans hRR))⟩, ⟨q_f8, q_f9, f10, f11, f12, f13, q_f5, q_f6, f7, z_fa_18, z_fat_19, z_pos_13, z_kd_14, z_vl_15, z_tka_16, ne, ⟨by rw [ht]; exact hP, va_K.moved hW.alike hK, hD⟩, hz_pos_13, hz_kd_14, hne, by first | assumption | exact cz_np (by assumption) (by assumption) | exact cz_up (by assumption) | exact cz_ne (by assumption) (by omega) (by assumption) | exact cz_ue (by assumption), (congrArg Prod.snd (hsp.symm.trans hRR))⟩⟩, hS.F ht⟩) hS.2.2 eX4_readsEdge_71
      · obtain rfl : r_17 = nI n_21 := mu_20.trans wn_21
        have hn_21 : n_21 ≤ 7 := by omega
        have hsp := hsp.trans (if_neg (by omega))
        have hsp := hsp.trans (slet_eq (by omega : n_21 = u_20 - 1))
        refine lv_istore_n (lv' := [(2, .int (nI n_21)), (1, .int (nI n_11)), (0, .ref rd)]) hx hb eX4_readsEdge_64 rfl hl (by decide) rfl (fun ls hl => ?_)
        refine lv_iload_n hx hb eX4_readsEdge_65 rfl (lv_at hl 0 rfl) ?_
        refine lv_iconst (v := (-1)) hx hb eX4_readsEdge_66 (by decide) ?_
        refine lv_icmp_ne (tgt := 72) hx hb eX4_readsEdge_67 (by decide) (fun _ => ?_) (fun z => absurd z (pu_nneg (n := n_21) (by omega) (by decide)))
        refine lv_aload_n hx hb eX4_readsEdge_72 rfl (lv_at hl 2 rfl) ?_
        have hPc : va_P (dC, dI) vwCl (rd__w rd z_fa_18 z_fat_19 tp (nI len) (nI z_pos_13) (nI z_kd_14) z_vl_15 z_tka_16 au rw rc rp k_ft ft k_fw fw k_fcn fcn k_fpn fpn) _ := hP.sub [0, 1, 2, 3, 4] rfl
        have hDc := hD.sub (ws' := (rd__w rd z_fa_18 z_fat_19 tp (nI len) (nI z_pos_13) (nI z_kd_14) z_vl_15 z_tka_16 au rw rc rp k_ft ft k_fw fw k_fcn fcn k_fpn fpn)) [0, 1, 2, 3, 4] (by decide) rfl
        have hKc : va_K (dC, dI) vwCl (rd__t k_ft k_fw k_fcn k_fpn) s := hK.sub [0, 1, 2, 3] rfl
        have hFc := pu_free hDc hS hA
        refine va_callv (va_runV (As := []) (rest := []) ⟨hx, hb, hml, hown, hts⟩ (c_E_4_advance l dC dI _ rd z_fa_18 z_fat_19 tp len z_pos_13 z_kd_14 z_vl_15 z_tka_16 au rw rc rp k_ft ft k_fw fw k_fcn fcn k_fpn fpn hlen hz_pos_13 hz_kd_14) (cwV 0 hts g_E_4_readsEdge_E_4_advance rfl rfl rfl (by decide +kernel) ⟨Nat.le_of_ble_eq_true rfl, Nat.le_of_ble_eq_true rfl⟩) ⟨pu_bl, va_recv hK hP (ci := 4) (q0 := 0) rfl rfl, pu_in hPc hKc hDc⟩ rfl rfl hl.1 rfl (lv_room (Nat.le_of_ble_eq_true rfl)) eX4_readsEdge_73 ⟨Nat.le_of_ble_eq_true rfl, Nat.le_of_ble_eq_true rfl⟩) hS (fun q _ h => hFc q h) hFc (fun u t H1 locs ht hvm hw hB hz1 hk1 hS => ?_)
        obtain ⟨z_pos_23, z_kd_24, z_vl_25, z_tka_26, ⟨hP1, -, hD1⟩, hz_pos_23, hz_kd_24, xr_22_0⟩ := hB
        rw [ht] at hP1
        obtain ⟨hP, hD⟩ := pj_a (X := (ra__w rd z_fa_18 z_fat_19 tp (nI len) (nI z_pos_13) (nI z_kd_14) z_vl_15 z_tka_16 au rw rc rp k_ft ft k_fw fw k_fcn fcn k_fpn fpn (nI nc) (nI np) (nI ne) st0 q4 q5 q6 q7 q8 q9 q10 q11 q12 q13 q14 q15 q16 k_f4 f4 k_f5 (bN 7 q_f5) k_f6 (bN 7 q_f6) k_f7 f7 k_f8 (bN 4 q_f8) k_f9 (bN 2 q_f9) k_f10 f10 k_f11 f11 k_f12 f12 k_f13 f13 k_f14 f14 k_f15 f15 k_f16 f16)) (X' := (ra__w rd z_fa_18 z_fat_19 tp (nI len) (nI z_pos_23) (nI z_kd_24) z_vl_25 z_tka_26 au rw rc rp k_ft ft k_fw fw k_fcn fcn k_fpn fpn (nI nc) (nI np) (nI ne) st0 q4 q5 q6 q7 q8 q9 q10 q11 q12 q13 q14 q15 q16 k_f4 f4 k_f5 (bN 7 q_f5) k_f6 (bN 7 q_f6) k_f7 f7 k_f8 (bN 4 q_f8) k_f9 (bN 2 q_f9) k_f10 f10 k_f11 f11 k_f12 f12 k_f13 f13 k_f14 f14 k_f15 f15 k_f16 f16)) (wc := (rd__w rd z_fa_18 z_fat_19 tp (nI len) (nI z_pos_13) (nI z_kd_14) z_vl_15 z_tka_16 au rw rc rp k_ft ft k_fw fw k_fcn fcn k_fpn fpn)) (w1 := (rd__w rd z_fa_18 z_fat_19 tp (nI len) (nI z_pos_23) (nI z_kd_24) z_vl_25 z_tka_26 au rw rc rp k_ft ft k_fw fw k_fcn fcn k_fpn fpn)) hP hD [0, 1, 2, 3, 4] [0, 1, 2, 3, 4, 10, 11, 12, 13, 14, 15, 16, 17, 18, 19, 20, 21, 22, 23] 5 rfl hk1 hP1 rfl rfl rfl (by decide)
        clear hP1 hD1 hFc hPc hDc hKc
        clear hk1 hz1 ht hvm
        generalize H1 = H at hP hS ⊢
        have hsp := hsp.trans (slet_eq xr_22_0)
        refine lv_aload_n hx hb eX4_readsEdge_76 rfl (lv_at hl 2 rfl) ?_
        refine va_get (D := (dC, dI)) (ci := 4) (v := .ref au) (C := RX4) (T := TX4) (N := 12) hx hb hts hiX4 hown hK hP 0 rfl rfl 8 (by decide) v_1 (fun _ h9 => h9) rfl eX4_readsEdge_77 ?_
        refine va_get (D := (dC, dI)) (ci := 0) (v := .int (nI ne)) (C := RX0) (T := TX0) (N := 17) hx hb hts hiX0 hown hK hP 5 rfl rfl 2 (by decide) v_2 (fun _ h9 => h9) rfl eX4_readsEdge_80 ?_
        refine lv_istore_n (lv' := [(3, .int (nI ne)), (2, .int (nI n_21)), (1, .int (nI n_11)), (0, .ref rd)]) hx hb eX4_readsEdge_83 rfl hl (by decide) rfl (fun ls hl => ?_)
        refine lv_aload_n hx hb eX4_readsEdge_84 rfl (lv_at hl 3 rfl) ?_
        refine va_get (D := (dC, dI)) (ci := 4) (v := .ref au) (C := RX4) (T := TX4) (N := 12) hx hb hts hiX4 hown hK hP 0 rfl rfl 8 (by decide) v_1 (fun _ h9 => h9) rfl eX4_readsEdge_85 ?_
        refine lv_iload_n hx hb eX4_readsEdge_88 rfl (lv_at hl 2 rfl) ?_
        refine lv_iload_n hx hb eX4_readsEdge_89 rfl (lv_at hl 1 rfl) ?_
        have hPc : va_P (dC, dI) vwCl (au__w au (nI nc) (nI np) (nI ne) st0 q4 q5 q6 q7 q8 q9 q10 q11 q12 q13 q14 q15 q16 k_f4 f4 k_f5 (bN 7 q_f5) k_f6 (bN 7 q_f6) k_f7 f7 k_f8 (bN 4 q_f8) k_f9 (bN 2 q_f9) k_f10 f10 k_f11 f11 k_f12 f12 k_f13 f13 k_f14 f14 k_f15 f15 k_f16 f16) _ := hP.sub [5, 6, 7, 8, 9, 10, 11, 12, 13, 14, 15, 16, 17, 18] rfl
        have hDc := hD.sub (ws' := (au__w au (nI nc) (nI np) (nI ne) st0 q4 q5 q6 q7 q8 q9 q10 q11 q12 q13 q14 q15 q16 k_f4 f4 k_f5 (bN 7 q_f5) k_f6 (bN 7 q_f6) k_f7 f7 k_f8 (bN 4 q_f8) k_f9 (bN 2 q_f9) k_f10 f10 k_f11 f11 k_f12 f12 k_f13 f13 k_f14 f14 k_f15 f15 k_f16 f16)) [5, 6, 7, 8, 9, 10, 11, 12, 13, 14, 15, 16, 17, 18] (by decide) rfl
        have hKc : va_K (dC, dI) vwCl (au__t k_f4 k_f5 k_f6 k_f7 k_f8 k_f9 k_f10 k_f11 k_f12 k_f13 k_f14 k_f15 k_f16) s := hK.sub [4, 5, 6, 7, 8, 9, 10, 11, 12, 13, 14, 15, 16] rfl
        have hFc := pu_free hDc hS hA
        refine va_callv (va_runV (As := [.int (nI n_11), .int (nI n_21)]) (rest := []) ⟨hx, hb, hml, hown, hts⟩ (c_E_0_addEdge l dC dI _ au nc np ne st0 q4 q5 q6 q7 q8 q9 q10 q11 q12 q13 q14 q15 q16 k_f4 f4 k_f5 q_f5 k_f6 q_f6 k_f7 f7 k_f8 q_f8 k_f9 q_f9 k_f10 f10 k_f11 f11 k_f12 f12 k_f13 f13 k_f14 f14 k_f15 f15 k_f16 f16 n_11 n_21 hnc hnp (by omega) (hst0) hn_11 hn_21) (cwV 2 hts g_E_4_readsEdge_E_0_addEdge rfl rfl rfl (by decide +kernel) ⟨Nat.le_of_ble_eq_true rfl, Nat.le_of_ble_eq_true rfl⟩) ⟨pu_bl, va_recv hK hP (ci := 0) (q0 := 5) rfl rfl, pu_in hPc hKc hDc⟩ rfl rfl hl.1 rfl (lv_room (Nat.le_of_ble_eq_true rfl)) eX4_readsEdge_90 ⟨Nat.le_of_ble_eq_true rfl, Nat.le_of_ble_eq_true rfl⟩) hS (fun q _ h => hFc q h) hFc (fun u t H1 locs ht hvm hw hB hz1 hk1 hS => ?_)
        obtain ⟨z_f5_28, z_f6_29, z_f7_30, ⟨hP1, -, hD1⟩, xr_27_0⟩ := hB
        rw [ht] at hP1
        obtain ⟨hP, hD⟩ := pj_a (X := (ra__w rd z_fa_18 z_fat_19 tp (nI len) (nI z_pos_23) (nI z_kd_24) z_vl_25 z_tka_26 au rw rc rp k_ft ft k_fw fw k_fcn fcn k_fpn fpn (nI nc) (nI np) (nI ne) st0 q4 q5 q6 q7 q8 q9 q10 q11 q12 q13 q14 q15 q16 k_f4 f4 k_f5 (bN 7 q_f5) k_f6 (bN 7 q_f6) k_f7 f7 k_f8 (bN 4 q_f8) k_f9 (bN 2 q_f9) k_f10 f10 k_f11 f11 k_f12 f12 k_f13 f13 k_f14 f14 k_f15 f15 k_f16 f16)) (X' := (ra__w rd z_fa_18 z_fat_19 tp (nI len) (nI z_pos_23) (nI z_kd_24) z_vl_25 z_tka_26 au rw rc rp k_ft ft k_fw fw k_fcn fcn k_fpn fpn (nI nc) (nI np) (nI (ne + 1)) st0 q4 q5 q6 q7 q8 q9 q10 q11 q12 q13 q14 q15 q16 k_f4 f4 k_f5 (bN 7 z_f5_28) k_f6 (bN 7 z_f6_29) k_f7 z_f7_30 k_f8 (bN 4 q_f8) k_f9 (bN 2 q_f9) k_f10 f10 k_f11 f11 k_f12 f12 k_f13 f13 k_f14 f14 k_f15 f15 k_f16 f16)) (wc := (au__w au (nI nc) (nI np) (nI ne) st0 q4 q5 q6 q7 q8 q9 q10 q11 q12 q13 q14 q15 q16 k_f4 f4 k_f5 (bN 7 q_f5) k_f6 (bN 7 q_f6) k_f7 f7 k_f8 (bN 4 q_f8) k_f9 (bN 2 q_f9) k_f10 f10 k_f11 f11 k_f12 f12 k_f13 f13 k_f14 f14 k_f15 f15 k_f16 f16)) (w1 := (au__w au (nI nc) (nI np) (nI (ne + 1)) st0 q4 q5 q6 q7 q8 q9 q10 q11 q12 q13 q14 q15 q16 k_f4 f4 k_f5 (bN 7 z_f5_28) k_f6 (bN 7 z_f6_29) k_f7 z_f7_30 k_f8 (bN 4 q_f8) k_f9 (bN 2 q_f9) k_f10 f10 k_f11 f11 k_f12 f12 k_f13 f13 k_f14 f14 k_f15 f15 k_f16 f16)) hP hD [5, 6, 7, 8, 9, 10, 11, 12, 13, 14, 15, 16, 17, 18] [14, 15, 16, 17, 18, 0, 1, 2, 3, 4, 5, 6, 7, 8, 9, 10, 11, 12, 13] 14 rfl hk1 hP1 rfl rfl rfl (by decide)
        clear hP1 hD1 hFc hPc hDc hKc
        clear hk1 hz1 ht hvm
        generalize H1 = H at hP hS ⊢
        have hsp := hsp.trans (slet_eq xr_27_0)
        refine lv_aload_n hx hb eX4_readsEdge_93 rfl (lv_at hl 3 rfl) ?_
        refine lv_iload_n hx hb eX4_readsEdge_94 rfl (lv_at hl 0 rfl) ?_
        refine lv_bipush (v := 14) hx hb eX4_readsEdge_95 (by decide) ?_
        refine lv_iconst (v := 4) hx hb eX4_readsEdge_97 (by decide) ?_
        have hFc := pu_free hD hS hA
        refine va_calli (va_runV (As := [.int (nI ne), .int 14, .int 4]) (rest := []) ⟨hx, hb, hml, hown, hts⟩ (c_E_4_readsConditions_14 l dC dI _ rd z_fa_18 z_fat_19 tp len z_pos_23 z_kd_24 z_vl_25 z_tka_26 au rw rc rp k_ft ft k_fw fw k_fcn fcn k_fpn fpn nc np (ne + 1) st0 q4 q5 q6 q7 q8 q9 q10 q11 q12 q13 q14 q15 q16 k_f4 f4 k_f5 z_f5_28 k_f6 z_f6_29 k_f7 z_f7_30 k_f8 q_f8 k_f9 q_f9 k_f10 f10 k_f11 f11 k_f12 f12 k_f13 f13 k_f14 f14 k_f15 f15 k_f16 f16 ne hlen hz_pos_23 hz_kd_24 hnc hnp (by omega) (hst0) (Nat.le_trans hne (Nat.le_of_ble_eq_true rfl)) (cz_e (by assumption) (by omega))) (cwV 3 hts g_E_4_readsEdge_E_4_readsConditions_14 rfl rfl rfl (by decide +kernel) ⟨Nat.le_of_ble_eq_true rfl, Nat.le_of_ble_eq_true rfl⟩) ⟨pu_bl, va_recv hK hP (ci := 4) (q0 := 0) rfl rfl, pu_in hP hK hD⟩ rfl rfl hl.1 rfl (lv_room (Nat.le_of_ble_eq_true rfl)) eX4_readsEdge_98 ⟨Nat.le_of_ble_eq_true rfl, Nat.le_of_ble_eq_true rfl⟩) hS (fun q _ h => hFc q h) hFc (fun r_31 u t H1 locs ht hvm hw hB hz1 hk1 hS => ?_)
        obtain ⟨z_f8_32, z_f9_33, z_f10_34, z_f11_35, z_f12_36, z_f13_37, z_fa_38, z_fat_39, z_pos_40, z_kd_41, z_vl_42, z_tka_43, ⟨hP1, -, hD1⟩, hz_pos_40, hz_kd_41, xr_31_0, xr_31_1⟩ := hB
        rw [ht] at hP1
        have hP := hP1
        have hD := pu_all hFc hD1
        clear hP1 hD1 hFc
        clear hk1 hz1 ht hvm
        generalize H1 = H at hP hS ⊢
        obtain ⟨u_44, hu_44, rfl, iu_44⟩ := hw
        have iu_44 : (u_44, z_f8_32, z_f9_33, z_f10_34, z_f11_35, z_f12_36, z_f13_37, z_fa_38, z_fat_39, z_pos_40, z_kd_41, z_vl_42, z_tka_43) = (sp_E_4_readsConditions_14 z_fa_18 z_fat_19 len z_pos_23 z_kd_24 z_vl_25 z_tka_26 ft fw fcn nc q_f8 q_f9 f10 f11 f12 f13 ne) := Prod.ext iu_44 xr_31_1
        have hsp := hsp.trans (slet_eq iu_44)
        refine lv_if_eq (tgt := 116) hx hb eX4_readsEdge_101 (by decide) (fun c_45 => ?_) (fun c_45 => ?_)
        · have c_45 : u_44 = 0 := (nI_eq (a := u_44) (b := 0) (Nat.lt_of_le_of_lt hu_44 (Nat.le_of_ble_eq_true rfl)) (Nat.le_of_ble_eq_true rfl)).mp c_45
          have hsp := hsp.trans (if_pos c_45)
          refine lv_iconst (v := 0) hx hb eX4_readsEdge_116 (by decide) ?_
          exact W.zret (v := 0) (ty := .boolean) hx hb hr (rfl) (fun t ht hW => ⟨⟨0, (), rfl, ⟨0, (Nat.le_of_ble_eq_true rfl), rfl, (congrArg Prod.fst (hsp.symm.trans hRR))⟩, ⟨z_f8_32, z_f9_33, z_f10_34, z_f11_35, z_f12_36, z_f13_37, z_f5_28, z_f6_29, z_f7_30, z_fa_38, z_fat_39, z_pos_40, z_kd_41, z_vl_42, z_tka_43, (ne + 1), ⟨by rw [ht]; exact hP, va_K.moved hW.alike hK, hD⟩, hz_pos_40, hz_kd_41, (by omega), by first | assumption | exact cz_np (by assumption) (by assumption) | exact cz_up (by assumption) | exact cz_ne (by assumption) (by omega) (by assumption) | exact cz_ue (by assumption), (congrArg Prod.snd (hsp.symm.trans hRR))⟩⟩, hS.F ht⟩) hS.2.2 eX4_readsEdge_117
        · have c_45 : ¬ u_44 = 0 := fun z => c_45 ((nI_eq (a := u_44) (b := 0) (Nat.lt_of_le_of_lt hu_44 (Nat.le_of_ble_eq_true rfl)) (Nat.le_of_ble_eq_true rfl)).mpr z)
          have hsp := hsp.trans (if_neg c_45)
          refine lv_aload_n hx hb eX4_readsEdge_104 rfl (lv_at hl 3 rfl) ?_
          refine lv_iload_n hx hb eX4_readsEdge_105 rfl (lv_at hl 0 rfl) ?_
          have hFc := pu_free hD hS hA
          refine va_calli (va_runV (As := [.int (nI ne)]) (rest := []) ⟨hx, hb, hml, hown, hts⟩ (c_E_4_readsResets l dC dI _ rd z_fa_38 z_fat_39 tp len z_pos_40 z_kd_41 z_vl_42 z_tka_43 au rw rc rp k_ft ft k_fw fw k_fcn fcn k_fpn fpn nc np (ne + 1) st0 q4 q5 q6 q7 q8 q9 q10 q11 q12 q13 q14 q15 q16 k_f4 f4 k_f5 z_f5_28 k_f6 z_f6_29 k_f7 z_f7_30 k_f8 z_f8_32 k_f9 z_f9_33 k_f10 z_f10_34 k_f11 z_f11_35 k_f12 z_f12_36 k_f13 z_f13_37 k_f14 f14 k_f15 f15 k_f16 f16 ne hlen hz_pos_40 hz_kd_41 hnc hnp (by omega) (hst0) (by omega)) (cwV 1 hts g_E_4_readsEdge_E_4_readsResets rfl rfl rfl (by decide +kernel) ⟨Nat.le_of_ble_eq_true rfl, Nat.le_of_ble_eq_true rfl⟩) ⟨pu_bl, va_recv hK hP (ci := 4) (q0 := 0) rfl rfl, pu_in hP hK hD⟩ rfl rfl hl.1 rfl (lv_room (Nat.le_of_ble_eq_true rfl)) eX4_readsEdge_106 ⟨Nat.le_of_ble_eq_true rfl, Nat.le_of_ble_eq_true rfl⟩) hS (fun q _ h => hFc q h) hFc (fun r_46 u t H1 locs ht hvm hw hB hz1 hk1 hS => ?_)
          obtain ⟨z_f7_47, z_fa_48, z_fat_49, z_pos_50, z_kd_51, z_vl_52, z_tka_53, ⟨hP1, -, hD1⟩, hz_pos_50, hz_kd_51, xr_46_0⟩ := hB
          rw [ht] at hP1
          have hP := hP1
          have hD := pu_all hFc hD1
          clear hP1 hD1 hFc
          clear hk1 hz1 ht hvm
          generalize H1 = H at hP hS ⊢
          obtain ⟨u_54, hu_54, rfl, iu_54⟩ := hw
          have iu_54 : (u_54, z_f7_47, z_fa_48, z_fat_49, z_pos_50, z_kd_51, z_vl_52, z_tka_53) = (sp_E_4_readsResets z_fa_38 z_fat_39 len z_pos_40 z_kd_41 z_vl_42 z_tka_43 ft fw fcn nc z_f7_30 ne) := Prod.ext iu_54 xr_46_0
          have hsp := hsp.trans (slet_eq iu_54)
          refine lv_if_eq (tgt := 116) hx hb eX4_readsEdge_109 (by decide) (fun c_55 => ?_) (fun c_55 => ?_)
          · have c_55 : u_54 = 0 := (nI_eq (a := u_54) (b := 0) (Nat.lt_of_le_of_lt hu_54 (Nat.le_of_ble_eq_true rfl)) (Nat.le_of_ble_eq_true rfl)).mp c_55
            have hsp := hsp.trans (if_pos c_55)
            refine lv_iconst (v := 0) hx hb eX4_readsEdge_116 (by decide) ?_
            exact W.zret (v := 0) (ty := .boolean) hx hb hr (rfl) (fun t ht hW => ⟨⟨0, (), rfl, ⟨0, (Nat.le_of_ble_eq_true rfl), rfl, (congrArg Prod.fst (hsp.symm.trans hRR))⟩, ⟨z_f8_32, z_f9_33, z_f10_34, z_f11_35, z_f12_36, z_f13_37, z_f5_28, z_f6_29, z_f7_47, z_fa_48, z_fat_49, z_pos_50, z_kd_51, z_vl_52, z_tka_53, (ne + 1), ⟨by rw [ht]; exact hP, va_K.moved hW.alike hK, hD⟩, hz_pos_50, hz_kd_51, (by omega), by first | assumption | exact cz_np (by assumption) (by assumption) | exact cz_up (by assumption) | exact cz_ne (by assumption) (by omega) (by assumption) | exact cz_ue (by assumption), (congrArg Prod.snd (hsp.symm.trans hRR))⟩⟩, hS.F ht⟩) hS.2.2 eX4_readsEdge_117
          · have c_55 : ¬ u_54 = 0 := fun z => c_55 ((nI_eq (a := u_54) (b := 0) (Nat.lt_of_le_of_lt hu_54 (Nat.le_of_ble_eq_true rfl)) (Nat.le_of_ble_eq_true rfl)).mpr z)
            have hsp := hsp.trans (if_neg c_55)
            refine lv_iconst (v := 1) hx hb eX4_readsEdge_112 (by decide) ?_
            refine lv_goto (tgt := 117) hx hb eX4_readsEdge_113 (by decide) ?_
            exact W.zret (v := 1) (ty := .boolean) hx hb hr (rfl) (fun t ht hW => ⟨⟨1, (), rfl, ⟨1, (Nat.le_of_ble_eq_true rfl), rfl, (congrArg Prod.fst (hsp.symm.trans hRR))⟩, ⟨z_f8_32, z_f9_33, z_f10_34, z_f11_35, z_f12_36, z_f13_37, z_f5_28, z_f6_29, z_f7_47, z_fa_48, z_fat_49, z_pos_50, z_kd_51, z_vl_52, z_tka_53, (ne + 1), ⟨by rw [ht]; exact hP, va_K.moved hW.alike hK, hD⟩, hz_pos_50, hz_kd_51, (by omega), by first | assumption | exact cz_np (by assumption) (by assumption) | exact cz_up (by assumption) | exact cz_ne (by assumption) (by omega) (by assumption) | exact cz_ue (by assumption), (congrArg Prod.snd (hsp.symm.trans hRR))⟩⟩, hS.F ht⟩) hS.2.2 eX4_readsEdge_117
  · have c_1 : ¬ ne < 14 := fun z => c_1 ((nI_ltI (a := ne) (b := 14) (Nat.lt_of_le_of_lt hne (Nat.le_of_ble_eq_true rfl)) (Nat.le_of_ble_eq_true rfl)).mpr z)
    have hsp := hsp.trans (if_neg c_1)
    refine lv_aload_n hx hb eX4_readsEdge_12 rfl (lv_at hl 0 rfl) ?_
    refine lv_iconst (v := 5) hx hb eX4_readsEdge_13 (by decide) ?_
    have hPc : va_P (dC, dI) vwCl (rd__w rd fa fat tp (nI len) (nI pos) (nI kd) vl tka au rw rc rp k_ft ft k_fw fw k_fcn fcn k_fpn fpn) _ := hP.sub [0, 1, 2, 3, 4] rfl
    have hDc := hD.sub (ws' := (rd__w rd fa fat tp (nI len) (nI pos) (nI kd) vl tka au rw rc rp k_ft ft k_fw fw k_fcn fcn k_fpn fpn)) [0, 1, 2, 3, 4] (by decide) rfl
    have hKc : va_K (dC, dI) vwCl (rd__t k_ft k_fw k_fcn k_fpn) s := hK.sub [0, 1, 2, 3] rfl
    have hFc := pu_free hDc hS hA
    refine va_calli (va_runV (As := [.int 5]) (rest := []) ⟨hx, hb, hml, hown, hts⟩ (c_E_4_refuse l dC dI _ rd fa fat tp len pos kd vl tka au rw rc rp k_ft ft k_fw fw k_fcn fcn k_fpn fpn 5 hlen hpos hkd) (cwV 1 hts g_E_4_readsEdge_E_4_refuse rfl rfl rfl (by decide +kernel) ⟨Nat.le_of_ble_eq_true rfl, Nat.le_of_ble_eq_true rfl⟩) ⟨pu_bl, va_recv hK hP (ci := 4) (q0 := 0) rfl rfl, pu_in hPc hKc hDc⟩ rfl rfl hl.1 rfl (lv_room (Nat.le_of_ble_eq_true rfl)) eX4_readsEdge_14 ⟨Nat.le_of_ble_eq_true rfl, Nat.le_of_ble_eq_true rfl⟩) hS (fun q _ h => hFc q h) hFc (fun r_56 u t H1 locs ht hvm hw hB hz1 hk1 hS => ?_)
    obtain ⟨z_fa_57, z_fat_58, ⟨hP1, -, hD1⟩, xr_56_0⟩ := hB
    rw [ht] at hP1
    obtain ⟨hP, hD⟩ := pj_a (X := (ra__w rd fa fat tp (nI len) (nI pos) (nI kd) vl tka au rw rc rp k_ft ft k_fw fw k_fcn fcn k_fpn fpn (nI nc) (nI np) (nI ne) st0 q4 q5 q6 q7 q8 q9 q10 q11 q12 q13 q14 q15 q16 k_f4 f4 k_f5 (bN 7 q_f5) k_f6 (bN 7 q_f6) k_f7 f7 k_f8 (bN 4 q_f8) k_f9 (bN 2 q_f9) k_f10 f10 k_f11 f11 k_f12 f12 k_f13 f13 k_f14 f14 k_f15 f15 k_f16 f16)) (X' := (ra__w rd z_fa_57 z_fat_58 tp (nI len) (nI pos) (nI kd) vl tka au rw rc rp k_ft ft k_fw fw k_fcn fcn k_fpn fpn (nI nc) (nI np) (nI ne) st0 q4 q5 q6 q7 q8 q9 q10 q11 q12 q13 q14 q15 q16 k_f4 f4 k_f5 (bN 7 q_f5) k_f6 (bN 7 q_f6) k_f7 f7 k_f8 (bN 4 q_f8) k_f9 (bN 2 q_f9) k_f10 f10 k_f11 f11 k_f12 f12 k_f13 f13 k_f14 f14 k_f15 f15 k_f16 f16)) (wc := (rd__w rd fa fat tp (nI len) (nI pos) (nI kd) vl tka au rw rc rp k_ft ft k_fw fw k_fcn fcn k_fpn fpn)) (w1 := (rd__w rd z_fa_57 z_fat_58 tp (nI len) (nI pos) (nI kd) vl tka au rw rc rp k_ft ft k_fw fw k_fcn fcn k_fpn fpn)) hP hD [0, 1, 2, 3, 4] [0, 1, 2, 3, 4, 10, 11, 12, 13, 14, 15, 16, 17, 18, 19, 20, 21, 22, 23] 5 rfl hk1 hP1 rfl rfl rfl (by decide)
    clear hP1 hD1 hFc hPc hDc hKc
    clear hk1 hz1 ht hvm
    generalize H1 = H at hP hS ⊢
    have hsp := hsp.trans (slet_eq xr_56_0)
    obtain rfl : r_56 = 0 := hw
    exact W.zret (v := 0) (ty := .boolean) hx hb hr (rfl) (fun t ht hW => ⟨⟨0, (), rfl, ⟨0, (Nat.le_of_ble_eq_true rfl), rfl, (congrArg Prod.fst (hsp.symm.trans hRR))⟩, ⟨q_f8, q_f9, f10, f11, f12, f13, q_f5, q_f6, f7, z_fa_57, z_fat_58, pos, kd, vl, tka, ne, ⟨by rw [ht]; exact hP, va_K.moved hW.alike hK, hD⟩, hpos, hkd, hne, by first | assumption | exact cz_np (by assumption) (by assumption) | exact cz_up (by assumption) | exact cz_ne (by assumption) (by omega) (by assumption) | exact cz_ue (by assumption), (congrArg Prod.snd (hsp.symm.trans hRR))⟩⟩, hS.F ht⟩) hS.2.2 eX4_readsEdge_17
