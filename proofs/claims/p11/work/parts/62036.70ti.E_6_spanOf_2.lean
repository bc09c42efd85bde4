theorem eX6_spanOf_0 : decode cX6_spanOf 0 = .ok (.aload_n 1, 1) := by decide +kernel
theorem eX6_spanOf_1 : decode cX6_spanOf 1 = .ok (.getfield 84, 3) := by decide +kernel
theorem eX6_spanOf_4 : decode cX6_spanOf 4 = .ok (.iconst 1, 1) := by decide +kernel
theorem eX6_spanOf_5 : decode cX6_spanOf 5 = .ok (.iadd, 1) := by decide +kernel
theorem eX6_spanOf_6 : decode cX6_spanOf 6 = .ok (.istore_n 3, 1) := by decide +kernel
theorem eX6_spanOf_7 : decode cX6_spanOf 7 = .ok (.aload_n 0, 1) := by decide +kernel
theorem eX6_spanOf_8 : decode cX6_spanOf 8 = .ok (.getfield 38, 3) := by decide +kernel
theorem eX6_spanOf_11 : decode cX6_spanOf 11 = .ok (.iload_n 3, 1) := by decide +kernel
theorem eX6_spanOf_12 : decode cX6_spanOf 12 = .ok (.iconst 1, 1) := by decide +kernel
theorem eX6_spanOf_13 : decode cX6_spanOf 13 = .ok (.iadd, 1) := by decide +kernel
theorem eX6_spanOf_14 : decode cX6_spanOf 14 = .ok (.aload_n 0, 1) := by decide +kernel
theorem eX6_spanOf_15 : decode cX6_spanOf 15 = .ok (.getfield 30, 3) := by decide +kernel
theorem eX6_spanOf_18 : decode cX6_spanOf 18 = .ok (.invokevirtual 113, 3) := by decide +kernel
theorem eX6_spanOf_21 : decode cX6_spanOf 21 = .ok (.aload_n 1, 1) := by decide +kernel
theorem eX6_spanOf_22 : decode cX6_spanOf 22 = .ok (.aload_n 0, 1) := by decide +kernel
theorem eX6_spanOf_23 : decode cX6_spanOf 23 = .ok (.getfield 38, 3) := by decide +kernel
theorem eX6_spanOf_26 : decode cX6_spanOf 26 = .ok (.aload_n 1, 1) := by decide +kernel
theorem eX6_spanOf_27 : decode cX6_spanOf 27 = .ok (.getfield 60, 3) := by decide +kernel
theorem eX6_spanOf_30 : decode cX6_spanOf 30 = .ok (.invokestatic 65, 3) := by decide +kernel
theorem eX6_spanOf_33 : decode cX6_spanOf 33 = .ok (.iconst 0, 1) := by decide +kernel
theorem eX6_spanOf_34 : decode cX6_spanOf 34 = .ok (.invokevirtual 117, 3) := by decide +kernel
theorem eX6_spanOf_37 : decode cX6_spanOf 37 = .ok (.ifCond .ne 5, 3) := by decide +kernel
theorem eX6_spanOf_40 : decode cX6_spanOf 40 = .ok (.iconst (-1), 1) := by decide +kernel
theorem eX6_spanOf_41 : decode cX6_spanOf 41 = .ok (.ireturn, 1) := by decide +kernel
theorem eX6_spanOf_42 : decode cX6_spanOf 42 = .ok (.iconst 0, 1) := by decide +kernel
theorem eX6_spanOf_43 : decode cX6_spanOf 43 = .ok (.istore 4, 2) := by decide +kernel
theorem eX6_spanOf_45 : decode cX6_spanOf 45 = .ok (.iload 4, 2) := by decide +kernel
theorem eX6_spanOf_47 : decode cX6_spanOf 47 = .ok (.aload_n 0, 1) := by decide +kernel
theorem eX6_spanOf_48 : decode cX6_spanOf 48 = .ok (.getfield 47, 3) := by decide +kernel
theorem eX6_spanOf_51 : decode cX6_spanOf 51 = .ok (.if_icmp .ge 64, 3) := by decide +kernel
theorem eX6_spanOf_54 : decode cX6_spanOf 54 = .ok (.aload_n 1, 1) := by decide +kernel
theorem eX6_spanOf_55 : decode cX6_spanOf 55 = .ok (.aload_n 0, 1) := by decide +kernel
theorem eX6_spanOf_56 : decode cX6_spanOf 56 = .ok (.getfield 38, 3) := by decide +kernel
theorem eX6_spanOf_59 : decode cX6_spanOf 59 = .ok (.aload_n 1, 1) := by decide +kernel
theorem eX6_spanOf_60 : decode cX6_spanOf 60 = .ok (.getfield 73, 3) := by decide +kernel
theorem eX6_spanOf_63 : decode cX6_spanOf 63 = .ok (.aload_n 0, 1) := by decide +kernel
theorem eX6_spanOf_64 : decode cX6_spanOf 64 = .ok (.getfield 9, 3) := by decide +kernel
theorem eX6_spanOf_67 : decode cX6_spanOf 67 = .ok (.iload 4, 2) := by decide +kernel
theorem eX6_spanOf_69 : decode cX6_spanOf 69 = .ok (.iaload, 1) := by decide +kernel
theorem eX6_spanOf_70 : decode cX6_spanOf 70 = .ok (.iaload, 1) := by decide +kernel
theorem eX6_spanOf_71 : decode cX6_spanOf 71 = .ok (.invokevirtual 121, 3) := by decide +kernel
theorem eX6_spanOf_74 : decode cX6_spanOf 74 = .ok (.aload_n 1, 1) := by decide +kernel
theorem eX6_spanOf_75 : decode cX6_spanOf 75 = .ok (.aload_n 0, 1) := by decide +kernel
theorem eX6_spanOf_76 : decode cX6_spanOf 76 = .ok (.getfield 38, 3) := by decide +kernel
theorem eX6_spanOf_79 : decode cX6_spanOf 79 = .ok (.aload_n 0, 1) := by decide +kernel
theorem eX6_spanOf_80 : decode cX6_spanOf 80 = .ok (.getfield 9, 3) := by decide +kernel
theorem eX6_spanOf_83 : decode cX6_spanOf 83 = .ok (.iload 4, 2) := by decide +kernel
theorem eX6_spanOf_85 : decode cX6_spanOf 85 = .ok (.iaload, 1) := by decide +kernel
theorem eX6_spanOf_86 : decode cX6_spanOf 86 = .ok (.invokevirtual 125, 3) := by decide +kernel
theorem eX6_spanOf_89 : decode cX6_spanOf 89 = .ok (.ifCond .ne 5, 3) := by decide +kernel
theorem eX6_spanOf_92 : decode cX6_spanOf 92 = .ok (.iconst (-1), 1) := by decide +kernel
theorem eX6_spanOf_93 : decode cX6_spanOf 93 = .ok (.ireturn, 1) := by decide +kernel
theorem eX6_spanOf_94 : decode cX6_spanOf 94 = .ok (.aload_n 1, 1) := by decide +kernel
theorem eX6_spanOf_95 : decode cX6_spanOf 95 = .ok (.aload_n 0, 1) := by decide +kernel
theorem eX6_spanOf_96 : decode cX6_spanOf 96 = .ok (.getfield 38, 3) := by decide +kernel
theorem eX6_spanOf_99 : decode cX6_spanOf 99 = .ok (.aload_n 0, 1) := by decide +kernel
theorem eX6_spanOf_100 : decode cX6_spanOf 100 = .ok (.getfield 9, 3) := by decide +kernel
theorem eX6_spanOf_103 : decode cX6_spanOf 103 = .ok (.iload 4, 2) := by decide +kernel
theorem eX6_spanOf_105 : decode cX6_spanOf 105 = .ok (.iaload, 1) := by decide +kernel
theorem eX6_spanOf_106 : decode cX6_spanOf 106 = .ok (.invokevirtual 129, 3) := by decide +kernel
theorem eX6_spanOf_109 : decode cX6_spanOf 109 = .ok (.iinc 4 1, 3) := by decide +kernel
theorem eX6_spanOf_112 : decode cX6_spanOf 112 = .ok (.goto (-67), 3) := by decide +kernel
theorem eX6_spanOf_115 : decode cX6_spanOf 115 = .ok (.aload_n 0, 1) := by decide +kernel
theorem eX6_spanOf_116 : decode cX6_spanOf 116 = .ok (.getfield 38, 3) := by decide +kernel
theorem eX6_spanOf_119 : decode cX6_spanOf 119 = .ok (.iconst 0, 1) := by decide +kernel
theorem eX6_spanOf_120 : decode cX6_spanOf 120 = .ok (.iload_n 3, 1) := by decide +kernel
theorem eX6_spanOf_121 : decode cX6_spanOf 121 = .ok (.invokevirtual 132, 3) := by decide +kernel
theorem eX6_spanOf_124 : decode cX6_spanOf 124 = .ok (.istore 4, 2) := by decide +kernel
theorem eX6_spanOf_126 : decode cX6_spanOf 126 = .ok (.aload_n 0, 1) := by decide +kernel
theorem eX6_spanOf_127 : decode cX6_spanOf 127 = .ok (.getfield 38, 3) := by decide +kernel
theorem eX6_spanOf_130 : decode cX6_spanOf 130 = .ok (.iload_n 3, 1) := by decide +kernel
theorem eX6_spanOf_131 : decode cX6_spanOf 131 = .ok (.iconst 0, 1) := by decide +kernel
theorem eX6_spanOf_132 : decode cX6_spanOf 132 = .ok (.invokevirtual 132, 3) := by decide +kernel
theorem eX6_spanOf_135 : decode cX6_spanOf 135 = .ok (.istore 5, 2) := by decide +kernel
theorem eX6_spanOf_137 : decode cX6_spanOf 137 = .ok (.iload_n 2, 1) := by decide +kernel
theorem eX6_spanOf_138 : decode cX6_spanOf 138 = .ok (.tableswitch 74 0 3 #[30, 36, 41, 58], 30) := by decide +kernel
theorem eX6_spanOf_168 : decode cX6_spanOf 168 = .ok (.iload 4, 2) := by decide +kernel
theorem eX6_spanOf_170 : decode cX6_spanOf 170 = .ok (.iconst 1, 1) := by decide +kernel
theorem eX6_spanOf_171 : decode cX6_spanOf 171 = .ok (.ishr, 1) := by decide +kernel
theorem eX6_spanOf_172 : decode cX6_spanOf 172 = .ok (.ineg, 1) := by decide +kernel
theorem eX6_spanOf_173 : decode cX6_spanOf 173 = .ok (.ireturn, 1) := by decide +kernel
theorem eX6_spanOf_174 : decode cX6_spanOf 174 = .ok (.iload 4, 2) := by decide +kernel
theorem eX6_spanOf_176 : decode cX6_spanOf 176 = .ok (.iconst 1, 1) := by decide +kernel
theorem eX6_spanOf_177 : decode cX6_spanOf 177 = .ok (.iand, 1) := by decide +kernel
theorem eX6_spanOf_178 : decode cX6_spanOf 178 = .ok (.ireturn, 1) := by decide +kernel
theorem eX6_spanOf_179 : decode cX6_spanOf 179 = .ok (.iload 5, 2) := by decide +kernel
theorem eX6_spanOf_181 : decode cX6_spanOf 181 = .ok (.ldc 106, 2) := by decide +kernel
theorem eX6_spanOf_183 : decode cX6_spanOf 183 = .ok (.if_icmp .ne 8, 3) := by decide +kernel
theorem eX6_spanOf_186 : decode cX6_spanOf 186 = .ok (.ldc 106, 2) := by decide +kernel
theorem eX6_spanOf_188 : decode cX6_spanOf 188 = .ok (.goto 7, 3) := by decide +kernel
theorem eX6_spanOf_191 : decode cX6_spanOf 191 = .ok (.iload 5, 2) := by decide +kernel
theorem eX6_spanOf_193 : decode cX6_spanOf 193 = .ok (.iconst 1, 1) := by decide +kernel
theorem eX6_spanOf_194 : decode cX6_spanOf 194 = .ok (.ishr, 1) := by decide +kernel
theorem eX6_spanOf_195 : decode cX6_spanOf 195 = .ok (.ireturn, 1) := by decide +kernel
theorem eX6_spanOf_196 : decode cX6_spanOf 196 = .ok (.iload 5, 2) := by decide +kernel
theorem eX6_spanOf_198 : decode cX6_spanOf 198 = .ok (.ldc 106, 2) := by decide +kernel
theorem eX6_spanOf_200 : decode cX6_spanOf 200 = .ok (.if_icmp .ne 7, 3) := by decide +kernel
theorem eX6_spanOf_203 : decode cX6_spanOf 203 = .ok (.iconst 0, 1) := by decide +kernel
theorem eX6_spanOf_204 : decode cX6_spanOf 204 = .ok (.goto 7, 3) := by decide +kernel
theorem eX6_spanOf_207 : decode cX6_spanOf 207 = .ok (.iload 5, 2) := by decide +kernel
theorem eX6_spanOf_209 : decode cX6_spanOf 209 = .ok (.iconst 1, 1) := by decide +kernel
theorem eX6_spanOf_210 : decode cX6_spanOf 210 = .ok (.iand, 1) := by decide +kernel
theorem eX6_spanOf_211 : decode cX6_spanOf 211 = .ok (.ireturn, 1) := by decide +kernel
theorem eX6_spanOf_212 : decode cX6_spanOf 212 = .ok (.iconst (-1), 1) := by decide +kernel
theorem eX6_spanOf_213 : decode cX6_spanOf 213 = .ok (.ireturn, 1) := by decide +kernel
abbrev vs_E_6_spanOf : List Cond := .code yX6_spanOf cX6_spanOf 6 (some .int) :: CM
theorem g_E_6_spanOf_E_7_setPoint_25 : GoodIn vs_E_6_spanOf (wsV RX6 113 RX7 yX7_setPoint vs_E_7_setPoint_25) := cm_gV cm_406 cm_94 cm_95 cm_45 cm_96
theorem g_E_6_spanOf_E_0_hostOfPlace : GoodIn vs_E_6_spanOf (va_wsS RX6 65 yX0_hostOfPlace vs_E_0_hostOfPlace) := cm_gS cm_379 cm_55 cm_19 cm_0
theorem g_E_6_spanOf_E_0_narrowTo_25 : GoodIn vs_E_6_spanOf (wsV RX6 117 RX0 yX0_narrowTo vs_E_0_narrowTo_25) := cm_gV cm_407 cm_52 cm_53 cm_19 cm_41
theorem g_E_6_spanOf_E_7_cellOf_25 : GoodIn vs_E_6_spanOf (wsV RX6 132 RX7 yX7_cellOf vs_E_7_cellOf_25) := cm_gV cm_411 cm_157 cm_158 cm_45 cm_159
theorem g_E_6_spanOf_E_0_stayIn_25 : GoodIn vs_E_6_spanOf (wsV RX6 121 RX0 yX0_stayIn vs_E_0_stayIn_25) := cm_gV cm_408 cm_100 cm_101 cm_19 cm_61
theorem g_E_6_spanOf_E_0_opensIn_25 : GoodIn vs_E_6_spanOf (wsV RX6 125 RX0 yX0_opensIn vs_E_0_opensIn_25) := cm_gV cm_409 cm_134 cm_135 cm_19 cm_50
theorem g_E_6_spanOf_E_0_setBackIn_25 : GoodIn vs_E_6_spanOf (wsV RX6 129 RX0 yX0_setBackIn vs_E_0_setBackIn_25) := cm_gV cm_410 cm_137 cm_138 cm_19 cm_56
noncomputable def sp_E_6_spanOf_L1 (ln : Nat) (q_j0 : Nat → Nat) (nc : Nat) (f4 : Nat → Int32) (q_f5 : Nat → Nat) (q_f6 : Nat → Nat) (f7 : Nat → Int32) (q_f8 : Nat → Nat) (q_f9 : Nat → Nat) (f12 : Nat → Int32) (f13 : Nat → Int32) (p1 : Int32) : ((Nat → Int32) × Nat) → ((Nat → Int32) × Nat) ⊕ (Int32 × (Nat → Int32) × Nat) := fun (g_12, g_13) => (if ln ≤ g_13 then (Sum.inr (slet (sp_E_7_cellOf_25 ((nc + 1) + 1) g_12 0 (nc + 1)) (fun r_21 => (slet (sp_E_7_cellOf_25 ((nc + 1) + 1) g_12 (nc + 1) 0) (fun r_22 => (if (p1 : Int32) = 0 then (slet ((r_21 : Int32) >>> ((1 : Int32) &&& 31)) (fun y_24 => (slet (-(y_24 : Int32)) (fun y_25 => (y_25, g_12, ((nc + 1) + 1)))))) else (if (p1 : Int32) = 1 then (slet ((r_21 : Int32) &&& (1 : Int32)) (fun y_27 => (y_27, g_12, ((nc + 1) + 1)))) else (if (p1 : Int32) = 2 then (if (r_22 : Int32) = 2147483647 then (2147483647, g_12, ((nc + 1) + 1)) else (slet ((r_22 : Int32) >>> ((1 : Int32) &&& 31)) (fun y_30 => (y_30, g_12, ((nc + 1) + 1))))) else (if (p1 : Int32) = 3 then (if (r_22 : Int32) = 2147483647 then (0, g_12, ((nc + 1) + 1)) else (slet ((r_22 : Int32) &&& (1 : Int32)) (fun y_33 => (y_33, g_12, ((nc + 1) + 1))))) else ((-1), g_12, ((nc + 1) + 1))))))))))) else (slet (min (q_j0 g_13) 13) (fun u_35 => (slet (min (q_f5 u_35) 7) (fun u_37 => (slet (sp_E_0_stayIn_25 f4 q_f8 q_f9 f12 f13 ((nc + 1) + 1) g_12 u_37) (fun z_fz_39 => (slet (sp_E_0_opensIn_25 q_f6 f7 q_f8 q_f9 f12 f13 ((nc + 1) + 1) z_fz_39 u_35) (fun (u_44, z_fz_43) => (if u_44 = 0 then (Sum.inr ((-1), z_fz_43, ((nc + 1) + 1))) else (slet (sp_E_0_setBackIn_25 nc f7 ((nc + 1) + 1) z_fz_43 u_35) (fun z_fz_49 => (Sum.inl (z_fz_49, (g_13 + 1)))))))))))))))
noncomputable def sp_E_6_spanOf (ln : Nat) (q_j0 : Nat → Nat) (j8 : Nat → Int32) (nc : Nat) (st0 : Nat) (f4 : Nat → Int32) (q_f5 : Nat → Nat) (q_f6 : Nat → Nat) (f7 : Nat → Int32) (q_f8 : Nat → Nat) (q_f9 : Nat → Nat) (f12 : Nat → Int32) (f13 : Nat → Int32) (ftz : Nat → Int32) (p1 : Int32) : Int32 × (Nat → Int32) × Nat := (slet (sp_E_7_setPoint_25 j8 ftz ((nc + 1) + 1)) (fun z_fz_4 => (slet (sp_E_0_narrowTo_25 q_f8 q_f9 f12 f13 ((nc + 1) + 1) z_fz_4 (14 + st0) 0) (fun (u_8, z_fz_7) => (if u_8 = 0 then ((-1), z_fz_7, ((nc + 1) + 1)) else (itrv (α := (Nat → Int32) × Nat) (β := (Int32 × (Nat → Int32) × Nat)) default (sp_E_6_spanOf_L1 ln q_j0 nc f4 q_f5 q_f6 f7 q_f8 q_f9 f12 f13 p1) (z_fz_7, 0)))))))
set_option maxHeartbeats 4000000 in
set_option maxRecDepth 100000 in
theorem c_E_6_spanOf (l : Launch) (dC : Nat → ClassId) (dI : Nat → Nat → Nat) (sz : Nat) (ti : Nat) (r0 : Nat) (ln : Nat) (r2 : Nat) (r3 : Nat) (r4 : Nat) (r5 : Nat) (nr : Nat) (r7 : Nat) (r8 : Nat) (tz : Nat) (k_j0 : ClassId) (q_j0 : Nat → Nat) (k_j2 : ClassId) (j2 : Nat → Int32) (k_j3 : ClassId) (q_j3 : Nat → Nat) (k_j4 : ClassId) (q_j4 : Nat → Nat) (k_j5 : ClassId) (j5 : Nat → Int32) (k_j7 : ClassId) (q_j7 : Nat → Nat) (k_j8 : ClassId) (j8 : Nat → Int32) (au : Nat) (nc : Nat) (np : Nat) (ne : Nat) (st0 : Nat) (q4 : Nat) (q5 : Nat) (q6 : Nat) (q7 : Nat) (q8 : Nat) (q9 : Nat) (q10 : Nat) (q11 : Nat) (q12 : Nat) (q13 : Nat) (q14 : Nat) (q15 : Nat) (q16 : Nat) (k_f4 : ClassId) (f4 : Nat → Int32) (k_f5 : ClassId) (q_f5 : Nat → Nat) (k_f6 : ClassId) (q_f6 : Nat → Nat) (k_f7 : ClassId) (f7 : Nat → Int32) (k_f8 : ClassId) (q_f8 : Nat → Nat) (k_f9 : ClassId) (q_f9 : Nat → Nat) (k_f10 : ClassId) (f10 : Nat → Int32) (k_f11 : ClassId) (f11 : Nat → Int32) (k_f12 : ClassId) (f12 : Nat → Int32) (k_f13 : ClassId) (f13 : Nat → Int32) (k_f14 : ClassId) (f14 : Nat → Int32) (k_f15 : ClassId) (f15 : Nat → Int32) (k_f16 : ClassId) (f16 : Nat → Int32) (tzc : Nat) (tzn : Nat) (k_ftz : ClassId) (ftz : Nat → Int32) (p1 : Int32) (hln : ln ≤ 119) (hnr : nr ≤ 1920) (hnc : nc ≤ 3) (hnp : np ≤ 8) (hne : ne ≤ 14) (hst0 : st0 ≤ 7) (htzn : tzn ≤ 5) : Met l yX6_spanOf vs_E_6_spanOf ({ frames := 3, cells := 0, slots := 0, locals := 77 }) (va_Pc [.ref ti, .ref au, .int p1] (pu_B (dC, dI) (tz__w ti r0 (nI ln) r2 r3 r4 r5 (nI nr) r7 r8 tz k_j0 (bN 13 q_j0) k_j2 j2 k_j3 (bN 120 q_j3) k_j4 (bN 120 q_j4) k_j5 j5 k_j7 (bN 120 q_j7) k_j8 j8 au (nI nc) (nI np) (nI ne) (nI st0) q4 q5 q6 q7 q8 q9 q10 q11 q12 q13 q14 q15 q16 k_f4 f4 k_f5 (bN 7 q_f5) k_f6 (bN 7 q_f6) k_f7 f7 k_f8 (bN 4 q_f8) k_f9 (bN 2 q_f9) k_f10 f10 k_f11 f11 k_f12 f12 k_f13 f13 k_f14 f14 k_f15 f15 k_f16 f16 tzc (nI tzn) k_ftz ftz) (tz__t k_j0 k_j2 k_j3 k_j4 k_j5 k_j7 k_j8 k_f4 k_f5 k_f6 k_f7 k_f8 k_f9 k_f10 k_f11 k_f12 k_f13 k_f14 k_f15 k_f16 k_ftz) sz)) (va_Qi (fun (r : Int32) (_ : Unit) => r = (sp_E_6_spanOf ln q_j0 j8 nc st0 f4 q_f5 q_f6 f7 q_f8 q_f9 f12 f13 ftz p1).1) (fun _ t => ∃ (z_ftz : Nat → Int32) (z_tzn : Nat), pu_E (dC, dI) (tz__w ti r0 (nI ln) r2 r3 r4 r5 (nI nr) r7 r8 tz k_j0 (bN 13 q_j0) k_j2 j2 k_j3 (bN 120 q_j3) k_j4 (bN 120 q_j4) k_j5 j5 k_j7 (bN 120 q_j7) k_j8 j8 au (nI nc) (nI np) (nI ne) (nI st0) q4 q5 q6 q7 q8 q9 q10 q11 q12 q13 q14 q15 q16 k_f4 f4 k_f5 (bN 7 q_f5) k_f6 (bN 7 q_f6) k_f7 f7 k_f8 (bN 4 q_f8) k_f9 (bN 2 q_f9) k_f10 f10 k_f11 f11 k_f12 f12 k_f13 f13 k_f14 f14 k_f15 f15 k_f16 f16 tzc (nI z_tzn) k_ftz z_ftz) (tz__t k_j0 k_j2 k_j3 k_j4 k_j5 k_j7 k_j8 k_f4 k_f5 k_f6 k_f7 k_f8 k_f9 k_f10 k_f11 k_f12 k_f13 k_f14 k_f15 k_f16 k_ftz) (va_A ((tz__w ti r0 (nI ln) r2 r3 r4 r5 (nI nr) r7 r8 tz k_j0 (bN 13 q_j0) k_j2 j2 k_j3 (bN 120 q_j3) k_j4 (bN 120 q_j4) k_j5 j5 k_j7 (bN 120 q_j7) k_j8 j8 au (nI nc) (nI np) (nI ne) (nI st0) q4 q5 q6 q7 q8 q9 q10 q11 q12 q13 q14 q15 q16 k_f4 f4 k_f5 (bN 7 q_f5) k_f6 (bN 7 q_f6) k_f7 f7 k_f8 (bN 4 q_f8) k_f9 (bN 2 q_f9) k_f10 f10 k_f11 f11 k_f12 f12 k_f13 f13 k_f14 f14 k_f15 f15 k_f16 f16 tzc (nI tzn) k_ftz ftz)) sz) t ∧ (z_tzn ≤ 5) ∧ ((z_ftz, z_tzn) = (sp_E_6_spanOf ln q_j0 j8 nc st0 f4 q_f5 q_f6 f7 q_f8 q_f9 f12 f13 ftz p1).2)) (va_A ((tz__w ti r0 (nI ln) r2 r3 r4 r5 (nI nr) r7 r8 tz k_j0 (bN 13 q_j0) k_j2 j2 k_j3 (bN 120 q_j3) k_j4 (bN 120 q_j4) k_j5 j5 k_j7 (bN 120 q_j7) k_j8 j8 au (nI nc) (nI np) (nI ne) (nI st0) q4 q5 q6 q7 q8 q9 q10 q11 q12 q13 q14 q15 q16 k_f4 f4 k_f5 (bN 7 q_f5) k_f6 (bN 7 q_f6) k_f7 f7 k_f8 (bN 4 q_f8) k_f9 (bN 2 q_f9) k_f10 f10 k_f11 f11 k_f12 f12 k_f13 f13 k_f14 f14 k_f15 f15 k_f16 f16 tzc (nI tzn) k_ftz ftz)) sz)) 0 0 (va_A ((tz__w ti r0 (nI ln) r2 r3 r4 r5 (nI nr) r7 r8 tz k_j0 (bN 13 q_j0) k_j2 j2 k_j3 (bN 120 q_j3) k_j4 (bN 120 q_j4) k_j5 j5 k_j7 (bN 120 q_j7) k_j8 j8 au (nI nc) (nI np) (nI ne) (nI st0) q4 q5 q6 q7 q8 q9 q10 q11 q12 q13 q14 q15 q16 k_f4 f4 k_f5 (bN 7 q_f5) k_f6 (bN 7 q_f6) k_f7 f7 k_f8 (bN 4 q_f8) k_f9 (bN 2 q_f9) k_f10 f10 k_f11 f11 k_f12 f12 k_f13 f13 k_f14 f14 k_f15 f15 k_f16 f16 tzc (nI tzn) k_ftz ftz)) sz) := by
  refine Met.ofW (cc := cX6_spanOf) (maxL := 6) (ret := (some .int)) (by decide) rfl ?_
  intro p e s m args below meth c s₁ B hml hv
  obtain ⟨rfl, rfl, hP, hK, hD0⟩ := hv
  have hx := B.exec
  have hb := B.bytes
  have hr := B.returns
  have hts := atoms_spec (ws := vs_E_6_spanOf) B.pre
  have v_1 := hts (.fieldLink RX6 84 "ClockReach$Automaton" "clocks" "I") (List.mem_cons_of_mem _ cm_376)
  have v_2 := hts (.fieldLink RX6 38 "ClockReach$Timing" "zone" "LClockReach$Zone;") (List.mem_cons_of_mem _ cm_404)
  have v_3 := hts (.fieldLink RX6 30 "ClockReach$Timing" "zeros" "[I") (List.mem_cons_of_mem _ cm_405)
  have v_9 := hts (.fieldLink RX6 60 "ClockReach$Automaton" "start" "I") (List.mem_cons_of_mem _ cm_373)
  have v_18 := hts (.fieldLink RX6 47 "ClockReach$Timing" "length" "I") (List.mem_cons_of_mem _ cm_366)
  have v_23 := hts (.constant RX6 106 (2147483647)) (List.mem_cons_of_mem _ cm_388)
  have v_24 := hts (.fieldLink RX6 73 "ClockReach$Automaton" "sources" "[I") (List.mem_cons_of_mem _ cm_374)
  have v_25 := hts (.fieldLink RX6 9 "ClockReach$Timing" "path" "[I") (List.mem_cons_of_mem _ cm_367)
  have hown : s.vm.findClass RX6 = some m.cls := findClass_of_methodNamed B.named
  have hlocks := B.notSynchronized
  have hiX0 : ∀ w ∈ wsX00, w ∈ vs_E_6_spanOf := fun _ h => List.mem_cons_of_mem _ (cm_X0 h)
  have hiX6 : ∀ w ∈ wsX60, w ∈ vs_E_6_spanOf := fun _ h => List.mem_cons_of_mem _ (cm_X6 h)
  have hD := hD0.self (sz := s.heap.size)
  generalize hAe : va_A ((tz__w ti r0 (nI ln) r2 r3 r4 r5 (nI nr) r7 r8 tz k_j0 (bN 13 q_j0) k_j2 j2 k_j3 (bN 120 q_j3) k_j4 (bN 120 q_j4) k_j5 j5 k_j7 (bN 120 q_j7) k_j8 j8 au (nI nc) (nI np) (nI ne) (nI st0) q4 q5 q6 q7 q8 q9 q10 q11 q12 q13 q14 q15 q16 k_f4 f4 k_f5 (bN 7 q_f5) k_f6 (bN 7 q_f6) k_f7 f7 k_f8 (bN 4 q_f8) k_f9 (bN 2 q_f9) k_f10 f10 k_f11 f11 k_f12 f12 k_f13 f13 k_f14 f14 k_f15 f15 k_f16 f16 tzc (nI tzn) k_ftz ftz)) s.heap.size = A at hD ⊢
  have hA : ∀ q : Nat, s.heap.size ≤ q → A q := fun q h => by rw [← hAe]; exact Or.inr h
  have hS : va_S A s.heap s.heap [] := va_S.rf
  have hl := lv_entry ([.ref ti, .ref au, .int p1]) (n := 6) (Nat.le_of_ble_eq_true rfl)
  rw [lg_entry_eq]
  generalize (lg_sl ([.ref ti, .ref au, .int p1]) ++ List.replicate (6 - (lg_sl ([.ref ti, .ref au, .int p1])).length) Slot.unset).toArray = ls at hl ⊢
  have hl : lv_has ls 6 [(0, .ref ti), (1, .ref au), (2, .int p1)] := hl
  obtain ⟨RR, hRR⟩ : ∃ x, x = (sp_E_6_spanOf ln q_j0 j8 nc st0 f4 q_f5 q_f6 f7 q_f8 q_f9 f12 f13 ftz p1) := ⟨_, rfl⟩
  have hsp := hRR
  refine lv_aload_n hx hb eX6_spanOf_0 rfl (lv_at hl 1 rfl) ?_
  refine va_get (D := (dC, dI)) (ci := 0) (v := .int (nI nc)) (C := RX0) (T := TX0) (N := 17) hx hb hts hiX0 hown hK hP 8 rfl rfl 0 (by decide) v_1 (fun _ h9 => h9) rfl eX6_spanOf_1 ?_
  refine lv_iconst (v := 1) hx hb eX6_spanOf_4 (by decide) ?_
  refine lv_iadd hx hb eX6_spanOf_5 ?_
  refine lv_topi (fun y_1 ey_1 => ?_)
  obtain rfl : y_1 = (nI (nc + 1)) := ey_1.trans (nI_add nc 1)
  refine lv_istore_n (lv' := [(3, .int (nI (nc + 1))), (0, .ref ti), (1, .ref au), (2, .int p1)]) hx hb eX6_spanOf_6 rfl hl (by decide) rfl (fun ls hl => ?_)
  refine lv_aload_n hx hb eX6_spanOf_7 rfl (lv_at hl 1 rfl) ?_
  refine va_get (D := (dC, dI)) (ci := 6) (v := .ref tz) (C := RX6) (T := TX6) (N := 10) hx hb hts hiX6 hown hK hP 0 rfl rfl 9 (by decide) v_2 (fun _ h9 => h9) rfl eX6_spanOf_8 ?_
  refine lv_iload_n hx hb eX6_spanOf_11 rfl (lv_at hl 0 rfl) ?_
  refine lv_iconst (v := 1) hx hb eX6_spanOf_12 (by decide) ?_
  refine lv_iadd hx hb eX6_spanOf_13 ?_
  refine lv_topi (fun y_2 ey_2 => ?_)
  obtain rfl : y_2 = (nI ((nc + 1) + 1)) := ey_2.trans (nI_add (nc + 1) 1)
  refine lv_aload_n hx hb eX6_spanOf_14 rfl (lv_at hl 1 rfl) ?_
  refine va_get (D := (dC, dI)) (ci := 6) (v := .ref r8) (C := RX6) (T := TX6) (N := 10) hx hb hts hiX6 hown hK hP 0 rfl rfl 8 (by decide) v_3 (fun _ h9 => h9) rfl eX6_spanOf_15 ?_
  have hPc : va_P (dC, dI) vwCl (zu25__w r8 k_j8 j8 tz tzc (nI tzn) k_ftz ftz) _ := hP.sub [7, 22, 23] rfl
  have hDc := hD.sub (ws' := (zu25__w r8 k_j8 j8 tz tzc (nI tzn) k_ftz ftz)) [7, 22, 23] (by decide) rfl
  have hKc : va_K (dC, dI) vwCl (zu25__t k_j8 k_ftz) s := hK.sub [6, 20] rfl
  have hFc := pu_free hDc hS hA
  refine va_callv (va_runV (As := [.int (nI ((nc + 1) + 1)), .ref r8]) (rest := []) ⟨hx, hb, hml, hown, hts⟩ (c_E_7_setPoint_25 l dC dI _ r8 k_j8 j8 tz tzc tzn k_ftz ftz ((nc + 1) + 1) htzn (by omega)) (cwV 2 hts g_E_6_spanOf_E_7_setPoint_25 rfl rfl rfl (by decide +kernel) ⟨Nat.le_of_ble_eq_true rfl, Nat.le_of_ble_eq_true rfl⟩) ⟨pu_bl, va_recv hK hP (ci := 7) (q0 := 22) rfl rfl, pu_in hPc hKc hDc⟩ rfl rfl hl.1 rfl (lv_room (Nat.le_of_ble_eq_true rfl)) eX6_spanOf_18 ⟨Nat.le_of_ble_eq_true rfl, Nat.le_of_ble_eq_true rfl⟩) hS (fun q _ h => hFc q h) hFc (fun u t H1 locs ht hvm hw hB hz1 hk1 hS => ?_)
  obtain ⟨z_fz_4, ⟨hP1, -, hD1⟩, xr_3_0⟩ := hB
  rw [ht] at hP1
  obtain ⟨hP, hD⟩ := pj_a (X := (tz__w ti r0 (nI ln) r2 r3 r4 r5 (nI nr) r7 r8 tz k_j0 (bN 13 q_j0) k_j2 j2 k_j3 (bN 120 q_j3) k_j4 (bN 120 q_j4) k_j5 j5 k_j7 (bN 120 q_j7) k_j8 j8 au (nI nc) (nI np) (nI ne) (nI st0) q4 q5 q6 q7 q8 q9 q10 q11 q12 q13 q14 q15 q16 k_f4 f4 k_f5 (bN 7 q_f5) k_f6 (bN 7 q_f6) k_f7 f7 k_f8 (bN 4 q_f8) k_f9 (bN 2 q_f9) k_f10 f10 k_f11 f11 k_f12 f12 k_f13 f13 k_f14 f14 k_f15 f15 k_f16 f16 tzc (nI tzn) k_ftz ftz)) (X' := (tz__w ti r0 (nI ln) r2 r3 r4 r5 (nI nr) r7 r8 tz k_j0 (bN 13 q_j0) k_j2 j2 k_j3 (bN 120 q_j3) k_j4 (bN 120 q_j4) k_j5 j5 k_j7 (bN 120 q_j7) k_j8 j8 au (nI nc) (nI np) (nI ne) (nI st0) q4 q5 q6 q7 q8 q9 q10 q11 q12 q13 q14 q15 q16 k_f4 f4 k_f5 (bN 7 q_f5) k_f6 (bN 7 q_f6) k_f7 f7 k_f8 (bN 4 q_f8) k_f9 (bN 2 q_f9) k_f10 f10 k_f11 f11 k_f12 f12 k_f13 f13 k_f14 f14 k_f15 f15 k_f16 f16 tzc (nI ((nc + 1) + 1)) k_ftz z_fz_4)) (wc := (zu25__w r8 k_j8 j8 tz tzc (nI tzn) k_ftz ftz)) (w1 := (zu25__w r8 k_j8 j8 tz tzc (nI ((nc + 1) + 1)) k_ftz z_fz_4)) hP hD [7, 22, 23] [3, 4, 5, 6, 7, 8, 9, 0, 11, 12, 13, 14, 15, 16, 17, 18, 19, 20, 21, 22, 23, 24, 1, 2] 3 rfl hk1 hP1 rfl rfl rfl (by decide)
  clear hP1 hD1 hFc hPc hDc hKc
  clear hk1 hz1 ht hvm
  generalize H1 = H at hP hS ⊢
  have hsp := hsp.trans (slet_eq xr_3_0)
  refine lv_aload_n hx hb eX6_spanOf_21 rfl (lv_at hl 2 rfl) ?_
  refine lv_aload_n hx hb eX6_spanOf_22 rfl (lv_at hl 1 rfl) ?_
  refine va_get (D := (dC, dI)) (ci := 6) (v := .ref tz) (C := RX6) (T := TX6) (N := 10) hx hb hts hiX6 hown hK hP 0 rfl rfl 9 (by decide) v_2 (fun _ h9 => h9) rfl eX6_spanOf_23 ?_
  refine lv_aload_n hx hb eX6_spanOf_26 rfl (lv_at hl 2 rfl) ?_
  refine va_get (D := (dC, dI)) (ci := 0) (v := .int (nI st0)) (C := RX0) (T := TX0) (N := 17) hx hb hts hiX0 hown hK hP 8 rfl rfl 3 (by decide) v_9 (fun _ h9 => h9) rfl eX6_spanOf_27 ?_
  refine va_calli (va_runS (As := [.int (nI st0)]) (rest := [.ref tz, .ref au]) ⟨hx, hb, hml, hown, hts⟩ (c_E_0_hostOfPlace l dC dI _ st0 hst0) (va_cwS 1 hts g_E_6_spanOf_E_0_hostOfPlace rfl rfl rfl (by decide +kernel) ⟨Nat.le_of_ble_eq_true rfl, Nat.le_of_ble_eq_true rfl⟩) ⟨pu_bl, pu_in (hP.sub [] rfl) (hK.sub [] rfl) (hD.sub [] (by decide) rfl)⟩ rfl rfl hl.1 rfl (lv_room (Nat.le_of_ble_eq_true rfl)) eX6_spanOf_30 ⟨Nat.le_of_ble_eq_true rfl, Nat.le_of_ble_eq_true rfl⟩) hS (fun q _ h => pu_fr hS hA q h) (pu_fr hS hA) (fun r_5 u t H1 locs ht hvm hw hB hz1 hk1 hS => ?_)
  have hP := pu_keep hP hk1
  clear hk1 hz1 ht hvm
  generalize H1 = H at hP hS ⊢
  obtain rfl : r_5 = nI (14 + st0) := hw
  refine lv_iconst (v := 0) hx hb eX6_spanOf_33 (by decide) ?_
  have hPc : va_P (dC, dI) vwCl (az25__w au (nI nc) (nI np) (nI ne) (nI st0) q4 q5 q6 q7 q8 q9 q10 q11 q12 q13 q14 q15 q16 k_f4 f4 k_f5 (bN 7 q_f5) k_f6 (bN 7 q_f6) k_f7 f7 k_f8 (bN 4 q_f8) k_f9 (bN 2 q_f9) k_f10 f10 k_f11 f11 k_f12 f12 k_f13 f13 k_f14 f14 k_f15 f15 k_f16 f16 tz tzc (nI ((nc + 1) + 1)) k_ftz z_fz_4) _ := hP.sub [8, 9, 10, 11, 12, 13, 14, 15, 16, 17, 18, 19, 20, 21, 22, 23] rfl
  have hDc := hD.sub (ws' := (az25__w au (nI nc) (nI np) (nI ne) (nI st0) q4 q5 q6 q7 q8 q9 q10 q11 q12 q13 q14 q15 q16 k_f4 f4 k_f5 (bN 7 q_f5) k_f6 (bN 7 q_f6) k_f7 f7 k_f8 (bN 4 q_f8) k_f9 (bN 2 q_f9) k_f10 f10 k_f11 f11 k_f12 f12 k_f13 f13 k_f14 f14 k_f15 f15 k_f16 f16 tz tzc (nI ((nc + 1) + 1)) k_ftz z_fz_4)) [8, 9, 10, 11, 12, 13, 14, 15, 16, 17, 18, 19, 20, 21, 22, 23] (by decide) rfl
  have hKc : va_K (dC, dI) vwCl (az25__t k_f4 k_f5 k_f6 k_f7 k_f8 k_f9 k_f10 k_f11 k_f12 k_f13 k_f14 k_f15 k_f16 k_ftz) s := hK.sub [7, 8, 9, 10, 11, 12, 13, 14, 15, 16, 17, 18, 19, 20] rfl
  have hFc := pu_free hDc hS hA
  refine va_calli (va_runV (As := [.ref tz, .int (nI (14 + st0)), .int 0]) (rest := []) ⟨hx, hb, hml, hown, hts⟩ (c_E_0_narrowTo_25 l dC dI _ au nc np ne (nI st0) q4 q5 q6 q7 q8 q9 q10 q11 q12 q13 q14 q15 q16 k_f4 f4 k_f5 q_f5 k_f6 q_f6 k_f7 f7 k_f8 q_f8 k_f9 q_f9 k_f10 f10 k_f11 f11 k_f12 f12 k_f13 f13 k_f14 f14 k_f15 f15 k_f16 f16 tz tzc ((nc + 1) + 1) k_ftz z_fz_4 (14 + st0) 0 hnc hnp hne (Or.inr ⟨st0, hst0, rfl⟩) (by omega) (by omega)) (cwV 3 hts g_E_6_spanOf_E_0_narrowTo_25 rfl rfl rfl (by decide +kernel) ⟨Nat.le_of_ble_eq_true rfl, Nat.le_of_ble_eq_true rfl⟩) ⟨pu_bl, va_recv hK hP (ci := 0) (q0 := 8) rfl rfl, pu_in hPc hKc hDc⟩ rfl rfl hl.1 rfl (lv_room (Nat.le_of_ble_eq_true rfl)) eX6_spanOf_34 ⟨Nat.le_of_ble_eq_true rfl, Nat.le_of_ble_eq_true rfl⟩) hS (fun q _ h => hFc q h) hFc (fun r_6 u t H1 locs ht hvm hw hB hz1 hk1 hS => ?_)
  obtain ⟨z_fz_7, ⟨hP1, -, hD1⟩, xr_6_0⟩ := hB
  rw [ht] at hP1
  obtain ⟨hP, hD⟩ := pj_a (X := (tz__w ti r0 (nI ln) r2 r3 r4 r5 (nI nr) r7 r8 tz k_j0 (bN 13 q_j0) k_j2 j2 k_j3 (bN 120 q_j3) k_j4 (bN 120 q_j4) k_j5 j5 k_j7 (bN 120 q_j7) k_j8 j8 au (nI nc) (nI np) (nI ne) (nI st0) q4 q5 q6 q7 q8 q9 q10 q11 q12 q13 q14 q15 q16 k_f4 f4 k_f5 (bN 7 q_f5) k_f6 (bN 7 q_f6) k_f7 f7 k_f8 (bN 4 q_f8) k_f9 (bN 2 q_f9) k_f10 f10 k_f11 f11 k_f12 f12 k_f13 f13 k_f14 f14 k_f15 f15 k_f16 f16 tzc (nI ((nc + 1) + 1)) k_ftz z_fz_4)) (X' := (tz__w ti r0 (nI ln) r2 r3 r4 r5 (nI nr) r7 r8 tz k_j0 (bN 13 q_j0) k_j2 j2 k_j3 (bN 120 q_j3) k_j4 (bN 120 q_j4) k_j5 j5 k_j7 (bN 120 q_j7) k_j8 j8 au (nI nc) (nI np) (nI ne) (nI st0) q4 q5 q6 q7 q8 q9 q10 q11 q12 q13 q14 q15 q16 k_f4 f4 k_f5 (bN 7 q_f5) k_f6 (bN 7 q_f6) k_f7 f7 k_f8 (bN 4 q_f8) k_f9 (bN 2 q_f9) k_f10 f10 k_f11 f11 k_f12 f12 k_f13 f13 k_f14 f14 k_f15 f15 k_f16 f16 tzc (nI ((nc + 1) + 1)) k_ftz z_fz_7)) (wc := (az25__w au (nI nc) (nI np) (nI ne) (nI st0) q4 q5 q6 q7 q8 q9 q10 q11 q12 q13 q14 q15 q16 k_f4 f4 k_f5 (bN 7 q_f5) k_f6 (bN 7 q_f6) k_f7 f7 k_f8 (bN 4 q_f8) k_f9 (bN 2 q_f9) k_f10 f10 k_f11 f11 k_f12 f12 k_f13 f13 k_f14 f14 k_f15 f15 k_f16 f16 tz tzc (nI ((nc + 1) + 1)) k_ftz z_fz_4)) (w1 := (az25__w au (nI nc) (nI np) (nI ne) (nI st0) q4 q5 q6 q7 q8 q9 q10 q11 q12 q13 q14 q15 q16 k_f4 f4 k_f5 (bN 7 q_f5) k_f6 (bN 7 q_f6) k_f7 f7 k_f8 (bN 4 q_f8) k_f9 (bN 2 q_f9) k_f10 f10 k_f11 f11 k_f12 f12 k_f13 f13 k_f14 f14 k_f15 f15 k_f16 f16 tz tzc (nI ((nc + 1) + 1)) k_ftz z_fz_7)) hP hD [8, 9, 10, 11, 12, 13, 14, 15, 16, 17, 18, 19, 20, 21, 22, 23] [16, 17, 18, 19, 20, 21, 22, 23, 0, 1, 2, 3, 4, 5, 6, 7, 8, 9, 10, 11, 12, 13, 14, 15] 16 rfl hk1 hP1 rfl rfl rfl (by decide)
  clear hP1 hD1 hFc hPc hDc hKc
  clear hk1 hz1 ht hvm
  generalize H1 = H at hP hS ⊢
  obtain ⟨u_8, hu_8, rfl, iu_8⟩ := hw
  have iu_8 : (u_8, z_fz_7) = (sp_E_0_narrowTo_25 q_f8 q_f9 f12 f13 ((nc + 1) + 1) z_fz_4 (14 + st0) 0) := Prod.ext iu_8 xr_6_0
  have hsp := hsp.trans (slet_eq iu_8)
  refine lv_if_ne (tgt := 42) hx hb eX6_spanOf_37 (by decide) (fun c_9 => ?_) (fun c_9 => ?_)
  · have c_9 : ¬ u_8 = 0 := fun z => c_9 ((nI_eq (a := u_8) (b := 0) (Nat.lt_of_le_of_lt hu_8 (Nat.le_of_ble_eq_true rfl)) (Nat.le_of_ble_eq_true rfl)).mpr z)
    have hsp := hsp.trans (if_neg c_9)
    refine lv_iconst (v := 0) hx hb eX6_spanOf_42 (by decide) ?_
    refine lv_istore (lv' := [(4, .int 0), (3, .int (nI (nc + 1))), (0, .ref ti), (1, .ref au), (2, .int p1)]) hx hb eX6_spanOf_43 hl (by decide) rfl (fun ls hl => ?_)
    obtain ⟨lf_15, dlf_15, hlf_15, hsp⟩ := itr_ex hsp
    delta sp_E_6_spanOf_L1 at hlf_15
    refine pu_while (fun nn H locs ls => ∃ (g_12 : Nat → Int32) (g_13 : Nat), nn = 119 - g_13 ∧ g_13 ≤ 119 ∧ RR = itrv dlf_15 lf_15 (g_12, g_13) ∧ va_P (dC, dI) vwCl (tz__w ti r0 (nI ln) r2 r3 r4 r5 (nI nr) r7 r8 tz k_j0 (bN 13 q_j0) k_j2 j2 k_j3 (bN 120 q_j3) k_j4 (bN 120 q_j4) k_j5 j5 k_j7 (bN 120 q_j7) k_j8 j8 au (nI nc) (nI np) (nI ne) (nI st0) q4 q5 q6 q7 q8 q9 q10 q11 q12 q13 q14 q15 q16 k_f4 f4 k_f5 (bN 7 q_f5) k_f6 (bN 7 q_f6) k_f7 f7 k_f8 (bN 4 q_f8) k_f9 (bN 2 q_f9) k_f10 f10 k_f11 f11 k_f12 f12 k_f13 f13 k_f14 f14 k_f15 f15 k_f16 f16 tzc (nI ((nc + 1) + 1)) k_ftz g_12) H ∧ va_D A (tz__w ti r0 (nI ln) r2 r3 r4 r5 (nI nr) r7 r8 tz k_j0 (bN 13 q_j0) k_j2 j2 k_j3 (bN 120 q_j3) k_j4 (bN 120 q_j4) k_j5 j5 k_j7 (bN 120 q_j7) k_j8 j8 au (nI nc) (nI np) (nI ne) (nI st0) q4 q5 q6 q7 q8 q9 q10 q11 q12 q13 q14 q15 q16 k_f4 f4 k_f5 (bN 7 q_f5) k_f6 (bN 7 q_f6) k_f7 f7 k_f8 (bN 4 q_f8) k_f9 (bN 2 q_f9) k_f10 f10 k_f11 f11 k_f12 f12 k_f13 f13 k_f14 f14 k_f15 f15 k_f16 f16 tzc (nI ((nc + 1) + 1)) k_ftz g_12) ∧ va_S A s.heap H locs ∧ lv_has ls 6 [(0, .ref ti), (1, .ref au), (2, .int p1), (3, .int (nI (nc + 1))), (4, .int (nI g_13))]) 45 ?_ _ _ _ _ ⟨z_fz_7, 0, rfl, (Nat.le_of_ble_eq_true rfl), hsp, hP, hD, hS, lv_sub hl [2, 3, 4, 1, 0] rfl⟩
    rintro nn ih_14 H locs ls ⟨g_12, g_13, rfl, hg_13, he_17, hP, hD, hS, hl⟩
    obtain ⟨S_16, hsp, hin_18, hout_19⟩ := itr_step hlf_15 he_17
    refine lv_iload hx hb eX6_spanOf_45 (lv_at hl 4 rfl) ?_
    refine lv_aload_n hx hb eX6_spanOf_47 rfl (lv_at hl 0 rfl) ?_
    refine va_get (D := (dC, dI)) (ci := 6) (v := .int (nI ln)) (C := RX6) (T := TX6) (N := 10) hx hb hts hiX6 hown hK hP 0 rfl rfl 1 (by decide) v_18 (fun _ h9 => h9) rfl eX6_spanOf_48 ?_
    refine lv_icmp_ge (tgt := 115) hx hb eX6_spanOf_51 (by decide) (fun c_20 => ?_) (fun c_20 => ?_)
    · have c_20 : ln ≤ g_13 := (nI_leI (a := ln) (b := g_13) (Nat.lt_of_le_of_lt hln (Nat.le_of_ble_eq_true rfl)) (Nat.lt_of_le_of_lt hg_13 (Nat.le_of_ble_eq_true rfl))).mp c_20
      have hsp := hsp.trans (if_pos c_20)
      have hsp := hout_19 _ hsp
      refine lv_aload_n hx hb eX6_spanOf_115 rfl (lv_at hl 0 rfl) ?_
      refine va_get (D := (dC, dI)) (ci := 6) (v := .ref tz) (C := RX6) (T := TX6) (N := 10) hx hb hts hiX6 hown hK hP 0 rfl rfl 9 (by decide) v_2 (fun _ h9 => h9) rfl eX6_spanOf_116 ?_
      refine lv_iconst (v := 0) hx hb eX6_spanOf_119 (by decide) ?_
      refine lv_iload_n hx hb eX6_spanOf_120 rfl (lv_at hl 3 rfl) ?_
      have hPc : va_P (dC, dI) vwCl (z25__w tz tzc (nI ((nc + 1) + 1)) k_ftz g_12) _ := hP.sub [22, 23] rfl
      have hDc := hD.sub (ws' := (z25__w tz tzc (nI ((nc + 1) + 1)) k_ftz g_12)) [22, 23] (by decide) rfl
      have hKc : va_K (dC, dI) vwCl (z25__t k_ftz) s := hK.sub [20] rfl
      refine va_calli (va_runV (As := [.int 0, .int (nI (nc + 1))]) (rest := []) ⟨hx, hb, hml, hown, hts⟩ (c_E_7_cellOf_25 l dC dI _ tz tzc ((nc + 1) + 1) k_ftz g_12 0 (nc + 1) (by omega) (Nat.le_of_ble_eq_true rfl) (by omega)) (cwV 2 hts g_E_6_spanOf_E_7_cellOf_25 rfl rfl rfl (by decide +kernel) ⟨Nat.le_of_ble_eq_true rfl, Nat.le_of_ble_eq_true rfl⟩) ⟨pu_bl, va_recv hK hP (ci := 7) (q0 := 22) rfl rfl, pu_in hPc hKc hDc⟩ rfl rfl hl.1 rfl (lv_room (Nat.le_of_ble_eq_true rfl)) eX6_spanOf_121 ⟨Nat.le_of_ble_eq_true rfl, Nat.le_of_ble_eq_true rfl⟩) hS (fun q _ h => pu_fr hS hA q h) (pu_fr hS hA) (fun r_21 u t H1 locs ht hvm hw hB hz1 hk1 hS => ?_)
      have hP := pu_keep hP hk1
      clear hk1 hz1 ht hvm
      generalize H1 = H at hP hS ⊢
      have ir_21 := hw
      have hsp := hsp.trans (slet_eq ir_21)
      refine lv_istore (lv' := [(4, .int r_21), (0, .ref ti), (1, .ref au), (2, .int p1), (3, .int (nI (nc + 1)))]) hx hb eX6_spanOf_124 hl (by decide) rfl (fun ls hl => ?_)
      refine lv_aload_n hx hb eX6_spanOf_126 rfl (lv_at hl 1 rfl) ?_
      refine va_get (D := (dC, dI)) (ci := 6) (v := .ref tz) (C := RX6) (T := TX6) (N := 10) hx hb hts hiX6 hown hK hP 0 rfl rfl 9 (by decide) v_2 (fun _ h9 => h9) rfl eX6_spanOf_127 ?_
      refine lv_iload_n hx hb eX6_spanOf_130 rfl (lv_at hl 4 rfl) ?_
      refine lv_iconst (v := 0) hx hb eX6_spanOf_131 (by decide) ?_
      have hPc : va_P (dC, dI) vwCl (z25__w tz tzc (nI ((nc + 1) + 1)) k_ftz g_12) _ := hP.sub [22, 23] rfl
      have hDc := hD.sub (ws' := (z25__w tz tzc (nI ((nc + 1) + 1)) k_ftz g_12)) [22, 23] (by decide) rfl
      have hKc : va_K (dC, dI) vwCl (z25__t k_ftz) s := hK.sub [20] rfl
      refine va_calli (va_runV (As := [.int (nI (nc + 1)), .int 0]) (rest := []) ⟨hx, hb, hml, hown, hts⟩ (c_E_7_cellOf_25 l dC dI _ tz tzc ((nc + 1) + 1) k_ftz g_12 (nc + 1) 0 (by omega) (by omega) (Nat.le_of_ble_eq_true rfl)) (cwV 2 hts g_E_6_spanOf_E_7_cellOf_25 rfl rfl rfl (by decide +kernel) ⟨Nat.le_of_ble_eq_true rfl, Nat.le_of_ble_eq_true rfl⟩) ⟨pu_bl, va_recv hK hP (ci := 7) (q0 := 22) rfl rfl, pu_in hPc hKc hDc⟩ rfl rfl hl.1 rfl (lv_room (Nat.le_of_ble_eq_true rfl)) eX6_spanOf_132 ⟨Nat.le_of_ble_eq_true rfl, Nat.le_of_ble_eq_true rfl⟩) hS (fun q _ h => pu_fr hS hA q h) (pu_fr hS hA) (fun r_22 u t H1 locs ht hvm hw hB hz1 hk1 hS => ?_)
      have hP := pu_keep hP hk1
      clear hk1 hz1 ht hvm
      generalize H1 = H at hP hS ⊢
      have ir_22 := hw
      have hsp := hsp.trans (slet_eq ir_22)
      refine lv_istore (lv' := [(5, .int r_22), (4, .int r_21), (0, .ref ti), (1, .ref au), (2, .int p1), (3, .int (nI (nc + 1)))]) hx hb eX6_spanOf_135 hl (by decide) rfl (fun ls hl => ?_)
      refine lv_iload_n hx hb eX6_spanOf_137 rfl (lv_at hl 4 rfl) ?_
      by_cases w_23 : p1 = 0
      · subst w_23
        have hsp := hsp.trans (if_pos rfl)
        refine lv_tableIn (tgt := 168) (off := 30) hx hb eX6_spanOf_138 (by decide) (by decide) rfl (by decide) ?_
        refine lv_iload hx hb eX6_spanOf_168 (lv_at hl 1 rfl) ?_
        refine lv_iconst (v := 1) hx hb eX6_spanOf_170 (by decide) ?_
        refine lv_ishr hx hb eX6_spanOf_171 ?_
        refine lv_topi (fun y_24 ey_24 => ?_)
        have hsp := hsp.trans (slet_eq ey_24)
        refine lv_ineg hx hb eX6_spanOf_172 ?_
        refine lv_topi (fun y_25 ey_25 => ?_)
        have hsp := hsp.trans (slet_eq ey_25)
        exact W.iret (v := y_25) hx hb hr (fun t ht hW => ⟨⟨y_25, (), rfl, (congrArg Prod.fst (hsp.symm.trans hRR)), ⟨g_12, ((nc + 1) + 1), ⟨by rw [ht]; exact hP, va_K.moved hW.alike hK, hD⟩, (by omega), (congrArg Prod.snd (hsp.symm.trans hRR))⟩⟩, hS.F ht⟩) hS.2.2 eX6_spanOf_173
      have hsp := hsp.trans (if_neg w_23)
      by_cases w_26 : p1 = 1
      · subst w_26
        have hsp := hsp.trans (if_pos rfl)
        refine lv_tableIn (tgt := 174) (off := 36) hx hb eX6_spanOf_138 (by decide) (by decide) rfl (by decide) ?_
        refine lv_iload hx hb eX6_spanOf_174 (lv_at hl 1 rfl) ?_
        refine lv_iconst (v := 1) hx hb eX6_spanOf_176 (by decide) ?_
        refine lv_iand hx hb eX6_spanOf_177 ?_
        refine lv_topi (fun y_27 ey_27 => ?_)
        have hsp := hsp.trans (slet_eq ey_27)
        exact W.iret (v := y_27) hx hb hr (fun t ht hW => ⟨⟨y_27, (), rfl, (congrArg Prod.fst (hsp.symm.trans hRR)), ⟨g_12, ((nc + 1) + 1), ⟨by rw [ht]; exact hP, va_K.moved hW.alike hK, hD⟩, (by omega), (congrArg Prod.snd (hsp.symm.trans hRR))⟩⟩, hS.F ht⟩) hS.2.2 eX6_spanOf_178
      have hsp := hsp.trans (if_neg w_26)
      by_cases w_28 : p1 = 2
      · subst w_28
        have hsp := hsp.trans (if_pos rfl)
        refine lv_tableIn (tgt := 179) (off := 41) hx hb eX6_spanOf_138 (by decide) (by decide) rfl (by decide) ?_
        refine lv_iload hx hb eX6_spanOf_179 (lv_at hl 0 rfl) ?_
        refine lv_ldc hx hb hown v_23 eX6_spanOf_181 ?_
        refine lv_icmp_ne (tgt := 191) hx hb eX6_spanOf_183 (by decide) (fun c_29 => ?_) (fun c_29 => ?_)
        · have hcc_29 := c_29
          have hsp := hsp.trans (if_neg c_29)
          refine lv_iload hx hb eX6_spanOf_191 (lv_at hl 0 rfl) ?_
          refine lv_iconst (v := 1) hx hb eX6_spanOf_193 (by decide) ?_
          refine lv_ishr hx hb eX6_spanOf_194 ?_
          refine lv_topi (fun y_30 ey_30 => ?_)
          have hsp := hsp.trans (slet_eq ey_30)
          exact W.iret (v := y_30) hx hb hr (fun t ht hW => ⟨⟨y_30, (), rfl, (congrArg Prod.fst (hsp.symm.trans hRR)), ⟨g_12, ((nc + 1) + 1), ⟨by rw [ht]; exact hP, va_K.moved hW.alike hK, hD⟩, (by omega), (congrArg Prod.snd (hsp.symm.trans hRR))⟩⟩, hS.F ht⟩) hS.2.2 eX6_spanOf_195
        · have hcc_29 := c_29
          have hsp := hsp.trans (if_pos c_29)
          refine lv_ldc hx hb hown v_23 eX6_spanOf_186 ?_
          refine lv_goto (tgt := 195) hx hb eX6_spanOf_188 (by decide) ?_
          exact W.iret (v := 2147483647) hx hb hr (fun t ht hW => ⟨⟨2147483647, (), rfl, (congrArg Prod.fst (hsp.symm.trans hRR)), ⟨g_12, ((nc + 1) + 1), ⟨by rw [ht]; exact hP, va_K.moved hW.alike hK, hD⟩, (by omega), (congrArg Prod.snd (hsp.symm.trans hRR))⟩⟩, hS.F ht⟩) hS.2.2 eX6_spanOf_195
      have hsp := hsp.trans (if_neg w_28)
      by_cases w_31 : p1 = 3
      · subst w_31
        have hsp := hsp.trans (if_pos rfl)
        refine lv_tableIn (tgt := 196) (off := 58) hx hb eX6_spanOf_138 (by decide) (by decide) rfl (by decide) ?_
        refine lv_iload hx hb eX6_spanOf_196 (lv_at hl 0 rfl) ?_
        refine lv_ldc hx hb hown v_23 eX6_spanOf_198 ?_
        refine lv_icmp_ne (tgt := 207) hx hb eX6_spanOf_200 (by decide) (fun c_32 => ?_) (fun c_32 => ?_)
        · have hcc_32 := c_32
          have hsp := hsp.trans (if_neg c_32)
          refine lv_iload hx hb eX6_spanOf_207 (lv_at hl 0 rfl) ?_
          refine lv_iconst (v := 1) hx hb eX6_spanOf_209 (by decide) ?_
          refine lv_iand hx hb eX6_spanOf_210 ?_
          refine lv_topi (fun y_33 ey_33 => ?_)
          have hsp := hsp.trans (slet_eq ey_33)
          exact W.iret (v := y_33) hx hb hr (fun t ht hW => ⟨⟨y_33, (), rfl, (congrArg Prod.fst (hsp.symm.trans hRR)), ⟨g_12, ((nc + 1) + 1), ⟨by rw [ht]; exact hP, va_K.moved hW.alike hK, hD⟩, (by omega), (congrArg Prod.snd (hsp.symm.trans hRR))⟩⟩, hS.F ht⟩) hS.2.2 eX6_spanOf_211
        · have hcc_32 := c_32
          have hsp := hsp.trans (if_pos c_32)
          refine lv_iconst (v := 0) hx hb eX6_spanOf_203 (by decide) ?_
          refine lv_goto (tgt := 211) hx hb eX6_spanOf_204 (by decide) ?_
          exact W.iret (v := 0) hx hb hr (fun t ht hW => ⟨⟨0, (), rfl, (congrArg Prod.fst (hsp.symm.trans hRR)), ⟨g_12, ((nc + 1) + 1), ⟨by rw [ht]; exact hP, va_K.moved hW.alike hK, hD⟩, (by omega), (congrArg Prod.snd (hsp.symm.trans hRR))⟩⟩, hS.F ht⟩) hS.2.2 eX6_spanOf_211
      have hsp := hsp.trans (if_neg w_31)
      refine lv_tableOut (tgt := 212) hx hb eX6_spanOf_138 (by
          have zw_23 : Int32.toInt p1 ≠ 0 := fun g => w_23 ((fa_eq _ _).mpr g)
          have zw_26 : Int32.toInt p1 ≠ 1 := fun g => w_26 ((fa_eq _ _).mpr g)
          have zw_28 : Int32.toInt p1 ≠ 2 := fun g => w_28 ((fa_eq _ _).mpr g)
          have zw_31 : Int32.toInt p1 ≠ 3 := fun g => w_31 ((fa_eq _ _).mpr g)
          omega) (by decide) ?_
      refine lv_iconst (v := (-1)) hx hb eX6_spanOf_212 (by decide) ?_
      exact W.iret (v := (-1)) hx hb hr (fun t ht hW => ⟨⟨(-1), (), rfl, (congrArg Prod.fst (hsp.symm.trans hRR)), ⟨g_12, ((nc + 1) + 1), ⟨by rw [ht]; exact hP, va_K.moved hW.alike hK, hD⟩, (by omega), (congrArg Prod.snd (hsp.symm.trans hRR))⟩⟩, hS.F ht⟩) hS.2.2 eX6_spanOf_213
    · have c_20 : ¬ ln ≤ g_13 := fun z => c_20 ((nI_leI (a := ln) (b := g_13) (Nat.lt_of_le_of_lt hln (Nat.le_of_ble_eq_true rfl)) (Nat.lt_of_le_of_lt hg_13 (Nat.le_of_ble_eq_true rfl))).mpr z)
      have hsp := hsp.trans (if_neg c_20)
      refine lv_aload_n hx hb eX6_spanOf_54 rfl (lv_at hl 1 rfl) ?_
      refine lv_aload_n hx hb eX6_spanOf_55 rfl (lv_at hl 0 rfl) ?_
      refine va_get (D := (dC, dI)) (ci := 6) (v := .ref tz) (C := RX6) (T := TX6) (N := 10) hx hb hts hiX6 hown hK hP 0 rfl rfl 9 (by decide) v_2 (fun _ h9 => h9) rfl eX6_spanOf_56 ?_
      refine lv_aload_n hx hb eX6_spanOf_59 rfl (lv_at hl 1 rfl) ?_
      refine va_get (D := (dC, dI)) (ci := 0) (v := .ref q5) (C := RX0) (T := TX0) (N := 17) hx hb hts hiX0 hown hK hP 8 rfl rfl 5 (by decide) v_24 (fun _ h9 => h9) rfl eX6_spanOf_60 ?_
      refine lv_aload_n hx hb eX6_spanOf_63 rfl (lv_at hl 0 rfl) ?_
      refine va_get (D := (dC, dI)) (ci := 6) (v := .ref r0) (C := RX6) (T := TX6) (N := 10) hx hb hts hiX6 hown hK hP 0 rfl rfl 0 (by decide) v_25 (fun _ h9 => h9) rfl eX6_spanOf_64 ?_
      refine lv_iload hx hb eX6_spanOf_67 (lv_at hl 4 rfl) ?_
      refine va_iald hx hb hK hP 1 0 rfl rfl (vp_in_nI (n := g_13) (Nat.lt_of_le_of_lt hg_13 (Nat.le_of_ble_eq_true rfl)) (Nat.le_of_ble_eq_true rfl)) eX6_spanOf_69 ?_
      refine lv_topi (fun y_34 ey_34 => ?_)
      obtain ⟨u_35, hu_35, qu_35, xu_35⟩ := bN_getx 13 q_j0 (n := g_13) (Nat.lt_of_le_of_lt hg_13 (Nat.le_of_ble_eq_true rfl))
      obtain rfl : y_34 = nI u_35 := ey_34.trans qu_35
      have hsp := hsp.trans (slet_eq xu_35)
      refine va_iald hx hb hK hP 10 8 rfl rfl (vp_in_nI (n := u_35) (Nat.lt_of_le_of_lt hu_35 (Nat.le_of_ble_eq_true rfl)) (Nat.le_of_ble_eq_true rfl)) eX6_spanOf_70 ?_
      refine lv_topi (fun y_36 ey_36 => ?_)
      obtain ⟨u_37, hu_37, qu_37, xu_37⟩ := bN_getx 7 q_f5 (n := u_35) (Nat.lt_of_le_of_lt hu_35 (Nat.le_of_ble_eq_true rfl))
      obtain rfl : y_36 = nI u_37 := ey_36.trans qu_37
      have hsp := hsp.trans (slet_eq xu_37)
      have hPc : va_P (dC, dI) vwCl (az25__w au (nI nc) (nI np) (nI ne) (nI st0) q4 q5 q6 q7 q8 q9 q10 q11 q12 q13 q14 q15 q16 k_f4 f4 k_f5 (bN 7 q_f5) k_f6 (bN 7 q_f6) k_f7 f7 k_f8 (bN 4 q_f8) k_f9 (bN 2 q_f9) k_f10 f10 k_f11 f11 k_f12 f12 k_f13 f13 k_f14 f14 k_f15 f15 k_f16 f16 tz tzc (nI ((nc + 1) + 1)) k_ftz g_12) _ := hP.sub [8, 9, 10, 11, 12, 13, 14, 15, 16, 17, 18, 19, 20, 21, 22, 23] rfl
      have hDc := hD.sub (ws' := (az25__w au (nI nc) (nI np) (nI ne) (nI st0) q4 q5 q6 q7 q8 q9 q10 q11 q12 q13 q14 q15 q16 k_f4 f4 k_f5 (bN 7 q_f5) k_f6 (bN 7 q_f6) k_f7 f7 k_f8 (bN 4 q_f8) k_f9 (bN 2 q_f9) k_f10 f10 k_f11 f11 k_f12 f12 k_f13 f13 k_f14 f14 k_f15 f15 k_f16 f16 tz tzc (nI ((nc + 1) + 1)) k_ftz g_12)) [8, 9, 10, 11, 12, 13, 14, 15, 16, 17, 18, 19, 20, 21, 22, 23] (by decide) rfl
      have hKc : va_K (dC, dI) vwCl (az25__t k_f4 k_f5 k_f6 k_f7 k_f8 k_f9 k_f10 k_f11 k_f12 k_f13 k_f14 k_f15 k_f16 k_ftz) s := hK.sub [7, 8, 9, 10, 11, 12, 13, 14, 15, 16, 17, 18, 19, 20] rfl
      have hFc := pu_free hDc hS hA
      refine va_callv (va_runV (As := [.ref tz, .int (nI u_37)]) (rest := []) ⟨hx, hb, hml, hown, hts⟩ (c_E_0_stayIn_25 l dC dI _ au nc np ne (nI st0) q4 q5 q6 q7 q8 q9 q10 q11 q12 q13 q14 q15 q16 k_f4 f4 k_f5 q_f5 k_f6 q_f6 k_f7 f7 k_f8 q_f8 k_f9 q_f9 k_f10 f10 k_f11 f11 k_f12 f12 k_f13 f13 k_f14 f14 k_f15 f15 k_f16 f16 tz tzc ((nc + 1) + 1) k_ftz g_12 u_37 hnc hnp hne (Or.inr ⟨st0, hst0, rfl⟩) (by omega) hu_37) (cwV 2 hts g_E_6_spanOf_E_0_stayIn_25 rfl rfl rfl (by decide +kernel) ⟨Nat.le_of_ble_eq_true rfl, Nat.le_of_ble_eq_true rfl⟩) ⟨pu_bl, va_recv hK hP (ci := 0) (q0 := 8) rfl rfl, pu_in hPc hKc hDc⟩ rfl rfl hl.1 rfl (lv_room (Nat.le_of_ble_eq_true rfl)) eX6_spanOf_71 ⟨Nat.le_of_ble_eq_true rfl, Nat.le_of_ble_eq_true rfl⟩) hS (fun q _ h => hFc q h) hFc (fun u t H1 locs ht hvm hw hB hz1 hk1 hS => ?_)
      obtain ⟨z_fz_39, ⟨hP1, -, hD1⟩, xr_38_0⟩ := hB
      rw [ht] at hP1
      obtain ⟨hP, hD⟩ := pj_a (X := (tz__w ti r0 (nI ln) r2 r3 r4 r5 (nI nr) r7 r8 tz k_j0 (bN 13 q_j0) k_j2 j2 k_j3 (bN 120 q_j3) k_j4 (bN 120 q_j4) k_j5 j5 k_j7 (bN 120 q_j7) k_j8 j8 au (nI nc) (nI np) (nI ne) (nI st0) q4 q5 q6 q7 q8 q9 q10 q11 q12 q13 q14 q15 q16 k_f4 f4 k_f5 (bN 7 q_f5) k_f6 (bN 7 q_f6) k_f7 f7 k_f8 (bN 4 q_f8) k_f9 (bN 2 q_f9) k_f10 f10 k_f11 f11 k_f12 f12 k_f13 f13 k_f14 f14 k_f15 f15 k_f16 f16 tzc (nI ((nc + 1) + 1)) k_ftz g_12)) (X' := (tz__w ti r0 (nI ln) r2 r3 r4 r5 (nI nr) r7 r8 tz k_j0 (bN 13 q_j0) k_j2 j2 k_j3 (bN 120 q_j3) k_j4 (bN 120 q_j4) k_j5 j5 k_j7 (bN 120 q_j7) k_j8 j8 au (nI nc) (nI np) (nI ne) (nI st0) q4 q5 q6 q7 q8 q9 q10 q11 q12 q13 q14 q15 q16 k_f4 f4 k_f5 (bN 7 q_f5) k_f6 (bN 7 q_f6) k_f7 f7 k_f8 (bN 4 q_f8) k_f9 (bN 2 q_f9) k_f10 f10 k_f11 f11 k_f12 f12 k_f13 f13 k_f14 f14 k_f15 f15 k_f16 f16 tzc (nI ((nc + 1) + 1)) k_ftz z_fz_39)) (wc := (az25__w au (nI nc) (nI np) (nI ne) (nI st0) q4 q5 q6 q7 q8 q9 q10 q11 q12 q13 q14 q15 q16 k_f4 f4 k_f5 (bN 7 q_f5) k_f6 (bN 7 q_f6) k_f7 f7 k_f8 (bN 4 q_f8) k_f9 (bN 2 q_f9) k_f10 f10 k_f11 f11 k_f12 f12 k_f13 f13 k_f14 f14 k_f15 f15 k_f16 f16 tz tzc (nI ((nc + 1) + 1)) k_ftz g_12)) (w1 := (az25__w au (nI nc) (nI np) (nI ne) (nI st0) q4 q5 q6 q7 q8 q9 q10 q11 q12 q13 q14 q15 q16 k_f4 f4 k_f5 (bN 7 q_f5) k_f6 (bN 7 q_f6) k_f7 f7 k_f8 (bN 4 q_f8) k_f9 (bN 2 q_f9) k_f10 f10 k_f11 f11 k_f12 f12 k_f13 f13 k_f14 f14 k_f15 f15 k_f16 f16 tz tzc (nI ((nc + 1) + 1)) k_ftz z_fz_39)) hP hD [8, 9, 10, 11, 12, 13, 14, 15, 16, 17, 18, 19, 20, 21, 22, 23] [16, 17, 18, 19, 20, 21, 22, 23, 0, 1, 2, 3, 4, 5, 6, 7, 8, 9, 10, 11, 12, 13, 14, 15] 16 rfl hk1 hP1 rfl rfl rfl (by decide)
      clear hP1 hD1 hFc hPc hDc hKc
      clear hk1 hz1 ht hvm
      generalize H1 = H at hP hS ⊢
      have hsp := hsp.trans (slet_eq xr_38_0)
      refine lv_aload_n hx hb eX6_spanOf_74 rfl (lv_at hl 1 rfl) ?_
      refine lv_aload_n hx hb eX6_spanOf_75 rfl (lv_at hl 0 rfl) ?_
      refine va_get (D := (dC, dI)) (ci := 6) (v := .ref tz) (C := RX6) (T := TX6) (N := 10) hx hb hts hiX6 hown hK hP 0 rfl rfl 9 (by decide) v_2 (fun _ h9 => h9) rfl eX6_spanOf_76 ?_
      refine lv_aload_n hx hb eX6_spanOf_79 rfl (lv_at hl 0 rfl) ?_
      refine va_get (D := (dC, dI)) (ci := 6) (v := .ref r0) (C := RX6) (T := TX6) (N := 10) hx hb hts hiX6 hown hK hP 0 rfl rfl 0 (by decide) v_25 (fun _ h9 => h9) rfl eX6_spanOf_80 ?_
      refine lv_iload hx hb eX6_spanOf_83 (lv_at hl 4 rfl) ?_
      refine va_iald hx hb hK hP 1 0 rfl rfl (vp_in_nI (n := g_13) (Nat.lt_of_le_of_lt hg_13 (Nat.le_of_ble_eq_true rfl)) (Nat.le_of_ble_eq_true rfl)) eX6_spanOf_85 ?_
      refine lv_topi (fun y_40 ey_40 => ?_)
      obtain rfl : y_40 = nI u_35 := ey_40.trans qu_35
      have hPc : va_P (dC, dI) vwCl (az25__w au (nI nc) (nI np) (nI ne) (nI st0) q4 q5 q6 q7 q8 q9 q10 q11 q12 q13 q14 q15 q16 k_f4 f4 k_f5 (bN 7 q_f5) k_f6 (bN 7 q_f6) k_f7 f7 k_f8 (bN 4 q_f8) k_f9 (bN 2 q_f9) k_f10 f10 k_f11 f11 k_f12 f12 k_f13 f13 k_f14 f14 k_f15 f15 k_f16 f16 tz tzc (nI ((nc + 1) + 1)) k_ftz z_fz_39) _ := hP.sub [8, 9, 10, 11, 12, 13, 14, 15, 16, 17, 18, 19, 20, 21, 22, 23] rfl
      have hDc := hD.sub (ws' := (az25__w au (nI nc) (nI np) (nI ne) (nI st0) q4 q5 q6 q7 q8 q9 q10 q11 q12 q13 q14 q15 q16 k_f4 f4 k_f5 (bN 7 q_f5) k_f6 (bN 7 q_f6) k_f7 f7 k_f8 (bN 4 q_f8) k_f9 (bN 2 q_f9) k_f10 f10 k_f11 f11 k_f12 f12 k_f13 f13 k_f14 f14 k_f15 f15 k_f16 f16 tz tzc (nI ((nc + 1) + 1)) k_ftz z_fz_39)) [8, 9, 10, 11, 12, 13, 14, 15, 16, 17, 18, 19, 20, 21, 22, 23] (by decide) rfl
      have hKc : va_K (dC, dI) vwCl (az25__t k_f4 k_f5 k_f6 k_f7 k_f8 k_f9 k_f10 k_f11 k_f12 k_f13 k_f14 k_f15 k_f16 k_ftz) s := hK.sub [7, 8, 9, 10, 11, 12, 13, 14, 15, 16, 17, 18, 19, 20] rfl
      have hFc := pu_free hDc hS hA
      refine va_calli (va_runV (As := [.ref tz, .int (nI u_35)]) (rest := []) ⟨hx, hb, hml, hown, hts⟩ (c_E_0_opensIn_25 l dC dI _ au nc np ne (nI st0) q4 q5 q6 q7 q8 q9 q10 q11 q12 q13 q14 q15 q16 k_f4 f4 k_f5 q_f5 k_f6 q_f6 k_f7 f7 k_f8 q_f8 k_f9 q_f9 k_f10 f10 k_f11 f11 k_f12 f12 k_f13 f13 k_f14 f14 k_f15 f15 k_f16 f16 tz tzc ((nc + 1) + 1) k_ftz z_fz_39 u_35 hnc hnp hne (Or.inr ⟨st0, hst0, rfl⟩) (by omega) hu_35) (cwV 2 hts g_E_6_spanOf_E_0_opensIn_25 rfl rfl rfl (by decide +kernel) ⟨Nat.le_of_ble_eq_true rfl, Nat.le_of_ble_eq_true rfl⟩) ⟨pu_bl, va_recv hK hP (ci := 0) (q0 := 8) rfl rfl, pu_in hPc hKc hDc⟩ rfl rfl hl.1 rfl (lv_room (Nat.le_of_ble_eq_true rfl)) eX6_spanOf_86 ⟨Nat.le_of_ble_eq_true rfl, Nat.le_of_ble_eq_true rfl⟩) hS (fun q _ h => hFc q h) hFc (fun r_42 u t H1 locs ht hvm hw hB hz1 hk1 hS => ?_)
      obtain ⟨z_fz_43, ⟨hP1, -, hD1⟩, xr_42_0⟩ := hB
      rw [ht] at hP1
      obtain ⟨hP, hD⟩ := pj_a (X := (tz__w ti r0 (nI ln) r2 r3 r4 r5 (nI nr) r7 r8 tz k_j0 (bN 13 q_j0) k_j2 j2 k_j3 (bN 120 q_j3) k_j4 (bN 120 q_j4) k_j5 j5 k_j7 (bN 120 q_j7) k_j8 j8 au (nI nc) (nI np) (nI ne) (nI st0) q4 q5 q6 q7 q8 q9 q10 q11 q12 q13 q14 q15 q16 k_f4 f4 k_f5 (bN 7 q_f5) k_f6 (bN 7 q_f6) k_f7 f7 k_f8 (bN 4 q_f8) k_f9 (bN 2 q_f9) k_f10 f10 k_f11 f11 k_f12 f12 k_f13 f13 k_f14 f14 k_f15 f15 k_f16 f16 tzc (nI ((nc + 1) + 1)) k_ftz z_fz_39)) (X' := (tz__w ti r0 (nI ln) r2 r3 r4 r5 (nI nr) r7 r8 tz k_j0 (bN 13 q_j0) k_j2 j2 k_j3 (bN 120 q_j3) k_j4 (bN 120 q_j4) k_j5 j5 k_j7 (bN 120 q_j7) k_j8 j8 au (nI nc) (nI np) (nI ne) (nI st0) q4 q5 q6 q7 q8 q9 q10 q11 q12 q13 q14 q15 q16 k_f4 f4 k_f5 (bN 7 q_f5) k_f6 (bN 7 q_f6) k_f7 f7 k_f8 (bN 4 q_f8) k_f9 (bN 2 q_f9) k_f10 f10 k_f11 f11 k_f12 f12 k_f13 f13 k_f14 f14 k_f15 f15 k_f16 f16 tzc (nI ((nc + 1) + 1)) k_ftz z_fz_43)) (wc := (az25__w au (nI nc) (nI np) (nI ne) (nI st0) q4 q5 q6 q7 q8 q9 q10 q11 q12 q13 q14 q15 q16 k_f4 f4 k_f5 (bN 7 q_f5) k_f6 (bN 7 q_f6) k_f7 f7 k_f8 (bN 4 q_f8) k_f9 (bN 2 q_f9) k_f10 f10 k_f11 f11 k_f12 f12 k_f13 f13 k_f14 f14 k_f15 f15 k_f16 f16 tz tzc (nI ((nc + 1) + 1)) k_ftz z_fz_39)) (w1 := (az25__w au (nI nc) (nI np) (nI ne) (nI st0) q4 q5 q6 q7 q8 q9 q10 q11 q12 q13 q14 q15 q16 k_f4 f4 k_f5 (bN 7 q_f5) k_f6 (bN 7 q_f6) k_f7 f7 k_f8 (bN 4 q_f8) k_f9 (bN 2 q_f9) k_f10 f10 k_f11 f11 k_f12 f12 k_f13 f13 k_f14 f14 k_f15 f15 k_f16 f16 tz tzc (nI ((nc + 1) + 1)) k_ftz z_fz_43)) hP hD [8, 9, 10, 11, 12, 13, 14, 15, 16, 17, 18, 19, 20, 21, 22, 23] [16, 17, 18, 19, 20, 21, 22, 23, 0, 1, 2, 3, 4, 5, 6, 7, 8, 9, 10, 11, 12, 13, 14, 15] 16 rfl hk1 hP1 rfl rfl rfl (by decide)
      clear hP1 hD1 hFc hPc hDc hKc
      clear hk1 hz1 ht hvm
      generalize H1 = H at hP hS ⊢
      obtain ⟨u_44, hu_44, rfl, iu_44⟩ := hw
      have iu_44 : (u_44, z_fz_43) = (sp_E_0_opensIn_25 q_f6 f7 q_f8 q_f9 f12 f13 ((nc + 1) + 1) z_fz_39 u_35) := Prod.ext iu_44 xr_42_0
      have hsp := hsp.trans (slet_eq iu_44)
      refine lv_if_ne (tgt := 94) hx hb eX6_spanOf_89 (by decide) (fun c_45 => ?_) (fun c_45 => ?_)
      · have c_45 : ¬ u_44 = 0 := fun z => c_45 ((nI_eq (a := u_44) (b := 0) (Nat.lt_of_le_of_lt hu_44 (Nat.le_of_ble_eq_true rfl)) (Nat.le_of_ble_eq_true rfl)).mpr z)
        have hsp := hsp.trans (if_neg c_45)
        refine lv_aload_n hx hb eX6_spanOf_94 rfl (lv_at hl 1 rfl) ?_
        refine lv_aload_n hx hb eX6_spanOf_95 rfl (lv_at hl 0 rfl) ?_
        refine va_get (D := (dC, dI)) (ci := 6) (v := .ref tz) (C := RX6) (T := TX6) (N := 10) hx hb hts hiX6 hown hK hP 0 rfl rfl 9 (by decide) v_2 (fun _ h9 => h9) rfl eX6_spanOf_96 ?_
        refine lv_aload_n hx hb eX6_spanOf_99 rfl (lv_at hl 0 rfl) ?_
        refine va_get (D := (dC, dI)) (ci := 6) (v := .ref r0) (C := RX6) (T := TX6) (N := 10) hx hb hts hiX6 hown hK hP 0 rfl rfl 0 (by decide) v_25 (fun _ h9 => h9) rfl eX6_spanOf_100 ?_
        refine lv_iload hx hb eX6_spanOf_103 (lv_at hl 4 rfl) ?_
        refine va_iald hx hb hK hP 1 0 rfl rfl (vp_in_nI (n := g_13) (Nat.lt_of_le_of_lt hg_13 (Nat.le_of_ble_eq_true rfl)) (Nat.le_of_ble_eq_true rfl)) eX6_spanOf_105 ?_
        refine lv_topi (fun y_46 ey_46 => ?_)
        obtain rfl : y_46 = nI u_35 := ey_46.trans qu_35
        have hPc : va_P (dC, dI) vwCl (az25__w au (nI nc) (nI np) (nI ne) (nI st0) q4 q5 q6 q7 q8 q9 q10 q11 q12 q13 q14 q15 q16 k_f4 f4 k_f5 (bN 7 q_f5) k_f6 (bN 7 q_f6) k_f7 f7 k_f8 (bN 4 q_f8) k_f9 (bN 2 q_f9) k_f10 f10 k_f11 f11 k_f12 f12 k_f13 f13 k_f14 f14 k_f15 f15 k_f16 f16 tz tzc (nI ((nc + 1) + 1)) k_ftz z_fz_43) _ := hP.sub [8, 9, 10, 11, 12, 13, 14, 15, 16, 17, 18, 19, 20, 21, 22, 23] rfl
        have hDc := hD.sub (ws' := (az25__w au (nI nc) (nI np) (nI ne) (nI st0) q4 q5 q6 q7 q8 q9 q10 q11 q12 q13 q14 q15 q16 k_f4 f4 k_f5 (bN 7 q_f5) k_f6 (bN 7 q_f6) k_f7 f7 k_f8 (bN 4 q_f8) k_f9 (bN 2 q_f9) k_f10 f10 k_f11 f11 k_f12 f12 k_f13 f13 k_f14 f14 k_f15 f15 k_f16 f16 tz tzc (nI ((nc + 1) + 1)) k_ftz z_fz_43)) [8, 9, 10, 11, 12, 13, 14, 15, 16, 17, 18, 19, 20, 21, 22, 23] (by decide) rfl
        have hKc : va_K (dC, dI) vwCl (az25__t k_f4 k_f5 k_f6 k_f7 k_f8 k_f9 k_f10 k_f11 k_f12 k_f13 k_f14 k_f15 k_f16 k_ftz) s := hK.sub [7, 8, 9, 10, 11, 12, 13, 14, 15, 16, 17, 18, 19, 20] rfl
        have hFc := pu_free hDc hS hA
        refine va_callv (va_runV (As := [.ref tz, .int (nI u_35)]) (rest := []) ⟨hx, hb, hml, hown, hts⟩ (c_E_0_setBackIn_25 l dC dI _ au nc np ne (nI st0) q4 q5 q6 q7 q8 q9 q10 q11 q12 q13 q14 q15 q16 k_f4 f4 k_f5 q_f5 k_f6 q_f6 k_f7 f7 k_f8 q_f8 k_f9 q_f9 k_f10 f10 k_f11 f11 k_f12 f12 k_f13 f13 k_f14 f14 k_f15 f15 k_f16 f16 tz tzc ((nc + 1) + 1) k_ftz z_fz_43 u_35 hnc hnp hne (Or.inr ⟨st0, hst0, rfl⟩) (by omega) hu_35) (cwV 2 hts g_E_6_spanOf_E_0_setBackIn_25 rfl rfl rfl (by decide +kernel) ⟨Nat.le_of_ble_eq_true rfl, Nat.le_of_ble_eq_true rfl⟩) ⟨pu_bl, va_recv hK hP (ci := 0) (q0 := 8) rfl rfl, pu_in hPc hKc hDc⟩ rfl rfl hl.1 rfl (lv_room (Nat.le_of_ble_eq_true rfl)) eX6_spanOf_106 ⟨Nat.le_of_ble_eq_true rfl, Nat.le_of_ble_eq_true rfl⟩) hS (fun q _ h => hFc q h) hFc (fun u t H1 locs ht hvm hw hB hz1 hk1 hS => ?_)
        obtain ⟨z_fz_49, ⟨hP1, -, hD1⟩, xr_48_0⟩ := hB
        rw [ht] at hP1
        obtain ⟨hP, hD⟩ := pj_a (X := (tz__w ti r0 (nI ln) r2 r3 r4 r5 (nI nr) r7 r8 tz k_j0 (bN 13 q_j0) k_j2 j2 k_j3 (bN 120 q_j3) k_j4 (bN 120 q_j4) k_j5 j5 k_j7 (bN 120 q_j7) k_j8 j8 au (nI nc) (nI np) (nI ne) (nI st0) q4 q5 q6 q7 q8 q9 q10 q11 q12 q13 q14 q15 q16 k_f4 f4 k_f5 (bN 7 q_f5) k_f6 (bN 7 q_f6) k_f7 f7 k_f8 (bN 4 q_f8) k_f9 (bN 2 q_f9) k_f10 f10 k_f11 f11 k_f12 f12 k_f13 f13 k_f14 f14 k_f15 f15 k_f16 f16 tzc (nI ((nc + 1) + 1)) k_ftz z_fz_43)) (X' := (tz__w ti r0 (nI ln) r2 r3 r4 r5 (nI nr) r7 r8 tz k_j0 (bN 13 q_j0) k_j2 j2 k_j3 (bN 120 q_j3) k_j4 (bN 120 q_j4) k_j5 j5 k_j7 (bN 120 q_j7) k_j8 j8 au (nI nc) (nI np) (nI ne) (nI st0) q4 q5 q6 q7 q8 q9 q10 q11 q12 q13 q14 q15 q16 k_f4 f4 k_f5 (bN 7 q_f5) k_f6 (bN 7 q_f6) k_f7 f7 k_f8 (bN 4 q_f8) k_f9 (bN 2 q_f9) k_f10 f10 k_f11 f11 k_f12 f12 k_f13 f13 k_f14 f14 k_f15 f15 k_f16 f16 tzc (nI ((nc + 1) + 1)) k_ftz z_fz_49)) (wc := (az25__w au (nI nc) (nI np) (nI ne) (nI st0) q4 q5 q6 q7 q8 q9 q10 q11 q12 q13 q14 q15 q16 k_f4 f4 k_f5 (bN 7 q_f5) k_f6 (bN 7 q_f6) k_f7 f7 k_f8 (bN 4 q_f8) k_f9 (bN 2 q_f9) k_f10 f10 k_f11 f11 k_f12 f12 k_f13 f13 k_f14 f14 k_f15 f15 k_f16 f16 tz tzc (nI ((nc + 1) + 1)) k_ftz z_fz_43)) (w1 := (az25__w au (nI nc) (nI np) (nI ne) (nI st0) q4 q5 q6 q7 q8 q9 q10 q11 q12 q13 q14 q15 q16 k_f4 f4 k_f5 (bN 7 q_f5) k_f6 (bN 7 q_f6) k_f7 f7 k_f8 (bN 4 q_f8) k_f9 (bN 2 q_f9) k_f10 f10 k_f11 f11 k_f12 f12 k_f13 f13 k_f14 f14 k_f15 f15 k_f16 f16 tz tzc (nI ((nc + 1) + 1)) k_ftz z_fz_49)) hP hD [8, 9, 10, 11, 12, 13, 14, 15, 16, 17, 18, 19, 20, 21, 22, 23] [16, 17, 18, 19, 20, 21, 22, 23, 0, 1, 2, 3, 4, 5, 6, 7, 8, 9, 10, 11, 12, 13, 14, 15] 16 rfl hk1 hP1 rfl rfl rfl (by decide)
        clear hP1 hD1 hFc hPc hDc hKc
        clear hk1 hz1 ht hvm
        generalize H1 = H at hP hS ⊢
        have hsp := hsp.trans (slet_eq xr_48_0)
        refine lv_iinc (v := (nI (g_13 + 1))) (lv' := [(4, .int (nI (g_13 + 1))), (0, .ref ti), (1, .ref au), (2, .int p1), (3, .int (nI (nc + 1)))]) hx hb eX6_spanOf_109 hl (k := 4) rfl (nI_1 _) (by decide) rfl (fun ls hl => ?_)
        refine lv_goto (tgt := 45) hx hb eX6_spanOf_112 (by decide) ?_
        exact ih_14 (119 - (g_13 + 1)) (by omega) _ _ _ ⟨z_fz_49, (g_13 + 1), rfl, (by omega), hin_18 _ hsp, hP, hD, hS, lv_sub hl [1, 2, 3, 4, 0] rfl⟩
      · have c_45 : u_44 = 0 := (nI_eq (a := u_44) (b := 0) (Nat.lt_of_le_of_lt hu_44 (Nat.le_of_ble_eq_true rfl)) (Nat.le_of_ble_eq_true rfl)).mp c_45
        have hsp := hsp.trans (if_pos c_45)
        have hsp := hout_19 _ hsp
        refine lv_iconst (v := (-1)) hx hb eX6_spanOf_92 (by decide) ?_
        exact W.iret (v := (-1)) hx hb hr (fun t ht hW => ⟨⟨(-1), (), rfl, (congrArg Prod.fst (hsp.symm.trans hRR)), ⟨z_fz_43, ((nc + 1) + 1), ⟨by rw [ht]; exact hP, va_K.moved hW.alike hK, hD⟩, (by omega), (congrArg Prod.snd (hsp.symm.trans hRR))⟩⟩, hS.F ht⟩) hS.2.2 eX6_spanOf_93
  · have c_9 : u_8 = 0 := (nI_eq (a := u_8) (b := 0) (Nat.lt_of_le_of_lt hu_8 (Nat.le_of_ble_eq_true rfl)) (Nat.le_of_ble_eq_true rfl)).mp c_9
    have hsp := hsp.trans (if_pos c_9)
    refine lv_iconst (v := (-1)) hx hb eX6_spanOf_40 (by decide) ?_
    exact W.iret (v := (-1)) hx hb hr (fun t ht hW => ⟨⟨(-1), (), rfl, (congrArg Prod.fst (hsp.symm.trans hRR)), ⟨z_fz_7, ((nc + 1) + 1), ⟨by rw [ht]; exact hP, va_K.moved hW.alike hK, hD⟩, (by omega), (congrArg Prod.snd (hsp.symm.trans hRR))⟩⟩, hS.F ht⟩) hS.2.2 eX6_spanOf_41
theorem eX6_loadRun_0 : decode cX6_loadRun 0 = .ok (.aload_n 0, 1) := by decide +kernel
theorem eX6_loadRun_1 : decode cX6_loadRun 1 = .ok (.aload_n 1, 1) := by decide +kernel
theorem eX6_loadRun_2 : decode cX6_loadRun 2 = .ok (.getfield 42, 3) := by decide +kernel
theorem eX6_loadRun_5 : decode cX6_loadRun 5 = .ok (.iload_n 2, 1) := by decide +kernel
theorem eX6_loadRun_6 : decode cX6_loadRun 6 = .ok (.iaload, 1) := by decide +kernel
theorem eX6_loadRun_7 : decode cX6_loadRun 7 = .ok (.putfield 47, 3) := by decide +kernel
theorem eX6_loadRun_10 : decode cX6_loadRun 10 = .ok (.iload_n 2, 1) := by decide +kernel
theorem eX6_loadRun_11 : decode cX6_loadRun 11 = .ok (.istore_n 3, 1) := by decide +kernel
theorem eX6_loadRun_12 : decode cX6_loadRun 12 = .ok (.aload_n 0, 1) := by decide +kernel
theorem eX6_loadRun_13 : decode cX6_loadRun 13 = .ok (.getfield 47, 3) := by decide +kernel
theorem eX6_loadRun_16 : decode cX6_loadRun 16 = .ok (.iconst 1, 1) := by decide +kernel
theorem eX6_loadRun_17 : decode cX6_loadRun 17 = .ok (.isub, 1) := by decide +kernel
theorem eX6_loadRun_18 : decode cX6_loadRun 18 = .ok (.istore 4, 2) := by decide +kernel
theorem eX6_loadRun_20 : decode cX6_loadRun 20 = .ok (.iload 4, 2) := by decide +kernel
theorem eX6_loadRun_22 : decode cX6_loadRun 22 = .ok (.ifCond .lt 29, 3) := by decide +kernel
theorem eX6_loadRun_25 : decode cX6_loadRun 25 = .ok (.aload_n 0, 1) := by decide +kernel
theorem eX6_loadRun_26 : decode cX6_loadRun 26 = .ok (.getfield 9, 3) := by decide +kernel
theorem eX6_loadRun_29 : decode cX6_loadRun 29 = .ok (.iload 4, 2) := by decide +kernel
theorem eX6_loadRun_31 : decode cX6_loadRun 31 = .ok (.aload_n 1, 1) := by decide +kernel
theorem eX6_loadRun_32 : decode cX6_loadRun 32 = .ok (.getfield 51, 3) := by decide +kernel
theorem eX6_loadRun_35 : decode cX6_loadRun 35 = .ok (.iload_n 3, 1) := by decide +kernel
theorem eX6_loadRun_36 : decode cX6_loadRun 36 = .ok (.iaload, 1) := by decide +kernel
theorem eX6_loadRun_37 : decode cX6_loadRun 37 = .ok (.iastore, 1) := by decide +kernel
theorem eX6_loadRun_38 : decode cX6_loadRun 38 = .ok (.aload_n 1, 1) := by decide +kernel
theorem eX6_loadRun_39 : decode cX6_loadRun 39 = .ok (.getfield 54, 3) := by decide +kernel
theorem eX6_loadRun_42 : decode cX6_loadRun 42 = .ok (.iload_n 3, 1) := by decide +kernel
theorem eX6_loadRun_43 : decode cX6_loadRun 43 = .ok (.iaload, 1) := by decide +kernel
theorem eX6_loadRun_44 : decode cX6_loadRun 44 = .ok (.istore_n 3, 1) := by decide +kernel
theorem eX6_loadRun_45 : decode cX6_loadRun 45 = .ok (.iinc 4 (-1), 3) := by decide +kernel
theorem eX6_loadRun_48 : decode cX6_loadRun 48 = .ok (.goto (-28), 3) := by decide +kernel
theorem eX6_loadRun_51 : decode cX6_loadRun 51 = .ok (.return_, 1) := by decide +kernel
abbrev vs_E_6_loadRun : List Cond := .code yX6_loadRun cX6_loadRun 5 none :: CM
noncomputable def sp_E_6_loadRun_L1 (fs2 : Nat → Int32) (fs3 : Nat → Int32) (d_1 : Nat) : (Nat × Nat × (Nat → Nat)) → (Nat × Nat × (Nat → Nat)) ⊕ ((Nat → Nat) × Nat) := fun (kk_3, ss_4, q_5) => (if kk_3 = 0 then (Sum.inr (q_5, d_1)) else (slet (kk_3 - 1) (fun kk_3 => (slet ((fs2 ss_4 : Int32).toNatClampNeg) (fun pp_12 => (slet ((fs3 ss_4 : Int32).toNatClampNeg) (fun ee_13 => (slet (updN q_5 kk_3 ee_13) (fun q_16 => (Sum.inl (kk_3, pp_12, q_16)))))))))))
noncomputable def sp_E_6_loadRun (q_j0 : Nat → Nat) (fs2 : Nat → Int32) (fs3 : Nat → Int32) (fs4 : Nat → Int32) (a1 : Nat) : (Nat → Nat) × Nat := (slet ((fs4 a1 : Int32).toNatClampNeg) (fun d_1 => (itrv (α := Nat × Nat × (Nat → Nat)) (β := ((Nat → Nat) × Nat)) default (sp_E_6_loadRun_L1 fs2 fs3 d_1) (d_1, a1, q_j0))))
set_option maxHeartbeats 4000000 in
set_option maxRecDepth 100000 in
theorem c_E_6_loadRun (l : Launch) (dC : Nat → ClassId) (dI : Nat → Nat → Nat) (sz : Nat) (ti : Nat) (r0 : Nat) (ln : Nat) (r2 : Nat) (r3 : Nat) (r4 : Nat) (r5 : Nat) (nr : Nat) (r7 : Nat) (r8 : Nat) (tz : Nat) (k_j0 : ClassId) (q_j0 : Nat → Nat) (k_j2 : ClassId) (j2 : Nat → Int32) (k_j3 : ClassId) (q_j3 : Nat → Nat) (k_j4 : ClassId) (q_j4 : Nat → Nat) (k_j5 : ClassId) (j5 : Nat → Int32) (k_j7 : ClassId) (q_j7 : Nat → Nat) (k_j8 : ClassId) (j8 : Nat → Int32) (g : Nat) (gz : Nat) (g1 : Nat) (g2 : Nat) (g3 : Nat) (g4 : Nat) (g5 : Nat) (gc : Nat) (gfull : Nat) (gx : Int32) (gway : Int32) (gav : Int32) (ggoal : Int32) (gfound : Nat) (gl : Nat) (gsz : Nat) (g16 : Nat) (g17 : Nat) (k_fs2 : ClassId) (fs2 : Nat → Int32) (k_fs3 : ClassId) (fs3 : Nat → Int32) (k_fs4 : ClassId) (fs4 : Nat → Int32) (a1 : Nat) (hln : ln ≤ 119) (hnr : nr ≤ 1920) (hgc : gc ≤ 120) (hgfull : gfull ≤ 1) (hgfound : gfound ≤ 1) (hgl : gl ≤ 1) (hgsz : gsz ≤ 4) (ha1 : a1 ≤ 119) (hq0 : gz_ok gc fs2 fs3 fs4) (hq1 : a1 < gc) : Met l yX6_loadRun vs_E_6_loadRun ({ frames := 0, cells := 0, slots := 0, locals := 0 }) (va_Pc [.ref ti, .ref g, .int (nI a1)] (pu_B (dC, dI) (tg__w ti r0 (nI ln) r2 r3 r4 r5 (nI nr) r7 r8 tz k_j0 (bN 13 q_j0) k_j2 j2 k_j3 (bN 120 q_j3) k_j4 (bN 120 q_j4) k_j5 j5 k_j7 (bN 120 q_j7) k_j8 j8 g gz g1 g2 g3 g4 g5 (nI gc) (nI gfull) gx gway gav ggoal (nI gfound) 120 (nI gl) (nI gsz) g16 g17 k_fs2 fs2 k_fs3 fs3 k_fs4 fs4) (tg__t k_j0 k_j2 k_j3 k_j4 k_j5 k_j7 k_j8 k_fs2 k_fs3 k_fs4) sz)) (va_Qv (fun (_ : Unit) => True) (fun _ t => ∃ (z_j0 : Nat → Nat) (z_ln : Nat), pu_E (dC, dI) (tg__w ti r0 (nI z_ln) r2 r3 r4 r5 (nI nr) r7 r8 tz k_j0 (bN 13 z_j0) k_j2 j2 k_j3 (bN 120 q_j3) k_j4 (bN 120 q_j4) k_j5 j5 k_j7 (bN 120 q_j7) k_j8 j8 g gz g1 g2 g3 g4 g5 (nI gc) (nI gfull) gx gway gav ggoal (nI gfound) 120 (nI gl) (nI gsz) g16 g17 k_fs2 fs2 k_fs3 fs3 k_fs4 fs4) (tg__t k_j0 k_j2 k_j3 k_j4 k_j5 k_j7 k_j8 k_fs2 k_fs3 k_fs4) (va_A ((tg__w ti r0 (nI ln) r2 r3 r4 r5 (nI nr) r7 r8 tz k_j0 (bN 13 q_j0) k_j2 j2 k_j3 (bN 120 q_j3) k_j4 (bN 120 q_j4) k_j5 j5 k_j7 (bN 120 q_j7) k_j8 j8 g gz g1 g2 g3 g4 g5 (nI gc) (nI gfull) gx gway gav ggoal (nI gfound) 120 (nI gl) (nI gsz) g16 g17 k_fs2 fs2 k_fs3 fs3 k_fs4 fs4)) sz) t ∧ (z_ln ≤ 119) ∧ ((z_j0, z_ln) = (sp_E_6_loadRun q_j0 fs2 fs3 fs4 a1))) (va_A ((tg__w ti r0 (nI ln) r2 r3 r4 r5 (nI nr) r7 r8 tz k_j0 (bN 13 q_j0) k_j2 j2 k_j3 (bN 120 q_j3) k_j4 (bN 120 q_j4) k_j5 j5 k_j7 (bN 120 q_j7) k_j8 j8 g gz g1 g2 g3 g4 g5 (nI gc) (nI gfull) gx gway gav ggoal (nI gfound) 120 (nI gl) (nI gsz) g16 g17 k_fs2 fs2 k_fs3 fs3 k_fs4 fs4)) sz)) 0 0 (va_A ((tg__w ti r0 (nI ln) r2 r3 r4 r5 (nI nr) r7 r8 tz k_j0 (bN 13 q_j0) k_j2 j2 k_j3 (bN 120 q_j3) k_j4 (bN 120 q_j4) k_j5 j5 k_j7 (bN 120 q_j7) k_j8 j8 g gz g1 g2 g3 g4 g5 (nI gc) (nI gfull) gx gway gav ggoal (nI gfound) 120 (nI gl) (nI gsz) g16 g17 k_fs2 fs2 k_fs3 fs3 k_fs4 fs4)) sz) := by
  refine Met.ofW (cc := cX6_loadRun) (maxL := 5) (ret := none) (by decide) rfl ?_
  intro p e s m args below meth c s₁ B hml hv
  obtain ⟨rfl, rfl, hP, hK, hD0⟩ := hv
  have hx := B.exec
  have hb := B.bytes
  have hr := B.returns
  have hts := atoms_spec (ws := vs_E_6_loadRun) B.pre
  have v_1 := hts (.fieldLink RX6 42 "ClockReach$Graph" "depths" "[I") (List.mem_cons_of_mem _ cm_365)
  have v_2 := hts (.fieldLink RX6 47 "ClockReach$Timing" "length" "I") (List.mem_cons_of_mem _ cm_366)
  have v_3 := hts (.fieldLink RX6 9 "ClockReach$Timing" "path" "[I") (List.mem_cons_of_mem _ cm_367)
  have v_4 := hts (.fieldLink RX6 51 "ClockReach$Graph" "entries" "[I") (List.mem_cons_of_mem _ cm_368)
  have v_5 := hts (.fieldLink RX6 54 "ClockReach$Graph" "parents" "[I") (List.mem_cons_of_mem _ cm_369)
  have hown : s.vm.findClass RX6 = some m.cls := findClass_of_methodNamed B.named
  have hlocks := B.notSynchronized
  have hiX1 : ∀ w ∈ wsX10, w ∈ vs_E_6_loadRun := fun _ h => List.mem_cons_of_mem _ (cm_X1 h)
  have hiX6 : ∀ w ∈ wsX60, w ∈ vs_E_6_loadRun := fun _ h => List.mem_cons_of_mem _ (cm_X6 h)
  have hD := hD0.self (sz := s.heap.size)
  generalize hAe : va_A ((tg__w ti r0 (nI ln) r2 r3 r4 r5 (nI nr) r7 r8 tz k_j0 (bN 13 q_j0) k_j2 j2 k_j3 (bN 120 q_j3) k_j4 (bN 120 q_j4) k_j5 j5 k_j7 (bN 120 q_j7) k_j8 j8 g gz g1 g2 g3 g4 g5 (nI gc) (nI gfull) gx gway gav ggoal (nI gfound) 120 (nI gl) (nI gsz) g16 g17 k_fs2 fs2 k_fs3 fs3 k_fs4 fs4)) s.heap.size = A at hD ⊢
  have hA : ∀ q : Nat, s.heap.size ≤ q → A q := fun q h => by rw [← hAe]; exact Or.inr h
  have hS : va_S A s.heap s.heap [] := va_S.rf
  have hl := lv_entry ([.ref ti, .ref g, .int (nI a1)]) (n := 5) (Nat.le_of_ble_eq_true rfl)
  rw [lg_entry_eq]
  generalize (lg_sl ([.ref ti, .ref g, .int (nI a1)]) ++ List.replicate (5 - (lg_sl ([.ref ti, .ref g, .int (nI a1)])).length) Slot.unset).toArray = ls at hl ⊢
  have hl : lv_has ls 5 [(0, .ref ti), (1, .ref g), (2, .int (nI a1))] := hl
  obtain ⟨RR, hRR⟩ : ∃ x, x = (sp_E_6_loadRun q_j0 fs2 fs3 fs4 a1) := ⟨_, rfl⟩
  have hsp := hRR
  refine lv_aload_n hx hb eX6_loadRun_0 rfl (lv_at hl 0 rfl) ?_
  refine lv_aload_n hx hb eX6_loadRun_1 rfl (lv_at hl 1 rfl) ?_
  refine va_get (D := (dC, dI)) (ci := 1) (v := .ref g4) (C := RX1) (T := TX1) (N := 18) hx hb hts hiX1 hown hK hP 8 rfl rfl 4 (by decide) v_1 (fun _ h9 => h9) rfl eX6_loadRun_2 ?_
  refine lv_iload_n hx hb eX6_loadRun_5 rfl (lv_at hl 2 rfl) ?_
  obtain ⟨d_1, hd_1, fd_1, gd_1⟩ := gz_get hq0 (i := a1) (by omega) (by omega)
  have hsp := hsp.trans (slet_eq (by rw [gd_1]; exact nI_cl (n := d_1) (by omega) : d_1 = (fs4 a1 : Int32).toNatClampNeg))
  refine va_iald hx hb hK hP 11 9 rfl rfl (vp_in_nI (n := a1) (Nat.lt_of_le_of_lt ha1 (Nat.le_of_ble_eq_true rfl)) (Nat.le_of_ble_eq_true rfl)) eX6_loadRun_6 ?_
  refine lv_topi (fun y_2 ey_2 => ?_)
  obtain rfl : y_2 = nI d_1 := ey_2.trans fd_1
  refine va_put (D := (dC, dI)) (ci := 6) (v := .int (nI d_1)) (ty := .int) (C := RX6) (T := TX6) (N := 10) hx hb hts hiX6 tyX6 tyX6_ok nmX6 hown hK hP hD hS 0 rfl rfl 1 (by decide) v_2 (fun _ h9 => h9) rfl (by decide +kernel) rfl rfl (Nat.le_of_ble_eq_true rfl) eX6_loadRun_7 (fun H locs hP hD hS => ?_)
  have hP : va_P (dC, dI) vwCl (tg__w ti r0 (nI d_1) r2 r3 r4 r5 (nI nr) r7 r8 tz k_j0 (bN 13 q_j0) k_j2 j2 k_j3 (bN 120 q_j3) k_j4 (bN 120 q_j4) k_j5 j5 k_j7 (bN 120 q_j7) k_j8 j8 g gz g1 g2 g3 g4 g5 (nI gc) (nI gfull) gx gway gav ggoal (nI gfound) 120 (nI gl) (nI gsz) g16 g17 k_fs2 fs2 k_fs3 fs3 k_fs4 fs4) H := hP
  have hD : va_D A (tg__w ti r0 (nI d_1) r2 r3 r4 r5 (nI nr) r7 r8 tz k_j0 (bN 13 q_j0) k_j2 j2 k_j3 (bN 120 q_j3) k_j4 (bN 120 q_j4) k_j5 j5 k_j7 (bN 120 q_j7) k_j8 j8 g gz g1 g2 g3 g4 g5 (nI gc) (nI gfull) gx gway gav ggoal (nI gfound) 120 (nI gl) (nI gsz) g16 g17 k_fs2 fs2 k_fs3 fs3 k_fs4 fs4) := hD
  refine lv_iload_n hx hb eX6_loadRun_10 rfl (lv_at hl 2 rfl) ?_
  refine lv_istore_n (lv' := [(3, .int (nI a1)), (0, .ref ti), (1, .ref g), (2, .int (nI a1))]) hx hb eX6_loadRun_11 rfl hl (by decide) rfl (fun ls hl => ?_)
  refine lv_aload_n hx hb eX6_loadRun_12 rfl (lv_at hl 1 rfl) ?_
  refine va_get (D := (dC, dI)) (ci := 6) (v := .int (nI d_1)) (C := RX6) (T := TX6) (N := 10) hx hb hts hiX6 hown hK hP 0 rfl rfl 1 (by decide) v_2 (fun _ h9 => h9) rfl eX6_loadRun_13 ?_
  refine lv_iconst (v := 1) hx hb eX6_loadRun_16 (by decide) ?_
  refine lv_isub hx hb eX6_loadRun_17 ?_
  refine lv_istore (lv' := [(4, .int ((nI d_1) - 1)), (3, .int (nI a1)), (0, .ref ti), (1, .ref g), (2, .int (nI a1))]) hx hb eX6_loadRun_18 hl (by decide) rfl (fun ls hl => ?_)
  obtain ⟨lf_6, dlf_6, hlf_6, hsp⟩ := itr_ex hsp
  delta sp_E_6_loadRun_L1 at hlf_6
  refine pu_while (fun nn H locs ls => ∃ (kk_3 ss_4 : Nat) (q_5 : Nat → Nat), RR = itrv dlf_6 lf_6 (kk_3, ss_4, q_5) ∧ nn = kk_3 + 0 ∧ ss_4 < gc ∧ kk_3 ≤ 119 ∧ fs4 ss_4 = nI kk_3 ∧ va_P (dC, dI) vwCl (tg__w ti r0 (nI d_1) r2 r3 r4 r5 (nI nr) r7 r8 tz k_j0 (bN 13 q_5) k_j2 j2 k_j3 (bN 120 q_j3) k_j4 (bN 120 q_j4) k_j5 j5 k_j7 (bN 120 q_j7) k_j8 j8 g gz g1 g2 g3 g4 g5 (nI gc) (nI gfull) gx gway gav ggoal (nI gfound) 120 (nI gl) (nI gsz) g16 g17 k_fs2 fs2 k_fs3 fs3 k_fs4 fs4) H ∧ va_D A (tg__w ti r0 (nI d_1) r2 r3 r4 r5 (nI nr) r7 r8 tz k_j0 (bN 13 q_5) k_j2 j2 k_j3 (bN 120 q_j3) k_j4 (bN 120 q_j4) k_j5 j5 k_j7 (bN 120 q_j7) k_j8 j8 g gz g1 g2 g3 g4 g5 (nI gc) (nI gfull) gx gway gav ggoal (nI gfound) 120 (nI gl) (nI gsz) g16 g17 k_fs2 fs2 k_fs3 fs3 k_fs4 fs4) ∧ va_S A s.heap H locs ∧ lv_has ls 5 [(0, .ref ti), (1, .ref g), (3, .int (nI ss_4)), (4, .int (nI kk_3 - 1))]) 20 ?_ _ _ _ _ ⟨d_1, a1, q_j0, hsp, rfl, by omega, by omega, by assumption, hP, hD, hS, lv_sub hl [2, 3, 1, 0] rfl⟩
  rintro nn ih_8 H locs ls ⟨kk_3, ss_4, q_5, e_7, hnn, hss_4, hkk_3, fkk_3, hP, hD, hS, hl⟩
  obtain ⟨S_9, hsp, hin_10, hout_11⟩ := itr_step hlf_6 e_7
  rcases kk_3 with _ | kk_3
  · have hsp := hsp.trans (if_pos rfl)
    rw [pu_k0] at hl
    have hsp := hout_11 _ hsp
    refine lv_iload hx hb eX6_loadRun_20 (lv_at hl 3 rfl) ?_
    refine lv_if_lt (tgt := 51) hx hb eX6_loadRun_22 (by decide) (fun _ => ?_) (fun z => absurd z (by decide))
    exact W.vret hx hb hr (fun t ht hW => ⟨⟨(), rfl, trivial, ⟨q_5, d_1, ⟨by rw [ht]; exact hP, va_K.moved hW.alike hK, hD⟩, (by omega), (hsp.symm.trans hRR)⟩⟩, hS.F ht⟩) hS.2.2 eX6_loadRun_51
  · have hsp := hsp.trans (if_neg (Nat.succ_ne_zero _))
    rw [nI_pred] at hl
    obtain ⟨pp_12, ee_13, hpp_12, hee_13, xpp_12, ypp_12, zpp_12⟩ := gz_up hq0 hss_4 (by omega) fkk_3 (by omega)
    have hsp := hsp.trans (slet_eq (by omega : kk_3 = kk_3 + 1 - 1))
    have hsp := hsp.trans (slet_eq (cl_of xpp_12 (by omega) (by omega)))
    have hsp := hsp.trans (slet_eq (cl_of ypp_12 (by omega) (by omega)))
    refine lv_iload hx hb eX6_loadRun_20 (lv_at hl 3 rfl) ?_
    refine lv_if_lt (tgt := 51) hx hb eX6_loadRun_22 (by decide) (fun c_14 => ?_) (fun c_14 => ?_)
    · have c_14 : kk_3 < 0 := (nI_ltI (a := kk_3) (b := 0) (by omega) (Nat.le_of_ble_eq_true rfl)).mp c_14
      exfalso
      omega
    · have c_14 : ¬ kk_3 < 0 := fun z => c_14 ((nI_ltI (a := kk_3) (b := 0) (by omega) (Nat.le_of_ble_eq_true rfl)).mpr z)
      refine lv_aload_n hx hb eX6_loadRun_25 rfl (lv_at hl 0 rfl) ?_
      refine va_get (D := (dC, dI)) (ci := 6) (v := .ref r0) (C := RX6) (T := TX6) (N := 10) hx hb hts hiX6 hown hK hP 0 rfl rfl 0 (by decide) v_3 (fun _ h9 => h9) rfl eX6_loadRun_26 ?_
      refine lv_iload hx hb eX6_loadRun_29 (lv_at hl 3 rfl) ?_
      refine lv_aload_n hx hb eX6_loadRun_31 rfl (lv_at hl 1 rfl) ?_
      refine va_get (D := (dC, dI)) (ci := 1) (v := .ref g3) (C := RX1) (T := TX1) (N := 18) hx hb hts hiX1 hown hK hP 8 rfl rfl 3 (by decide) v_4 (fun _ h9 => h9) rfl eX6_loadRun_32 ?_
      refine lv_iload_n hx hb eX6_loadRun_35 rfl (lv_at hl 2 rfl) ?_
      refine va_iald hx hb hK hP 10 8 rfl rfl (vp_in_nI (n := ss_4) (by omega) (Nat.le_of_ble_eq_true rfl)) eX6_loadRun_36 ?_
      refine lv_topi (fun y_15 ey_15 => ?_)
      obtain rfl : y_15 = nI ee_13 := ey_15.trans ypp_12
      refine va_iast hx hb hK hP hD hS 1 0 rfl rfl (vp_in_nI (n := kk_3) (by omega) (Nat.le_of_ble_eq_true rfl)) eX6_loadRun_37 (fun H locs hP hD hS => ?_)
      obtain ⟨q_16, eq_16, kq_16, oq_16, xq_16⟩ := bN_upx 13 q_5 (n := kk_3) (v := ee_13) (by omega) (by omega)
      have hP : va_P (dC, dI) vwCl (tg__w ti r0 (nI d_1) r2 r3 r4 r5 (nI nr) r7 r8 tz k_j0 (bN 13 q_16) k_j2 j2 k_j3 (bN 120 q_j3) k_j4 (bN 120 q_j4) k_j5 j5 k_j7 (bN 120 q_j7) k_j8 j8 g gz g1 g2 g3 g4 g5 (nI gc) (nI gfull) gx gway gav ggoal (nI gfound) 120 (nI gl) (nI gsz) g16 g17 k_fs2 fs2 k_fs3 fs3 k_fs4 fs4) H := by rw [← eq_16]; exact hP
      have hD : va_D A (tg__w ti r0 (nI d_1) r2 r3 r4 r5 (nI nr) r7 r8 tz k_j0 (bN 13 q_16) k_j2 j2 k_j3 (bN 120 q_j3) k_j4 (bN 120 q_j4) k_j5 j5 k_j7 (bN 120 q_j7) k_j8 j8 g gz g1 g2 g3 g4 g5 (nI gc) (nI gfull) gx gway gav ggoal (nI gfound) 120 (nI gl) (nI gsz) g16 g17 k_fs2 fs2 k_fs3 fs3 k_fs4 fs4) := by rw [← eq_16]; exact hD
      have hsp := hsp.trans (slet_eq xq_16)
      refine lv_aload_n hx hb eX6_loadRun_38 rfl (lv_at hl 1 rfl) ?_
      refine va_get (D := (dC, dI)) (ci := 1) (v := .ref g2) (C := RX1) (T := TX1) (N := 18) hx hb hts hiX1 hown hK hP 8 rfl rfl 2 (by decide) v_5 (fun _ h9 => h9) rfl eX6_loadRun_39 ?_
      refine lv_iload_n hx hb eX6_loadRun_42 rfl (lv_at hl 2 rfl) ?_
      refine va_iald hx hb hK hP 9 7 rfl rfl (vp_in_nI (n := ss_4) (by omega) (Nat.le_of_ble_eq_true rfl)) eX6_loadRun_43 ?_
      refine lv_topi (fun y_17 ey_17 => ?_)
      obtain rfl : y_17 = nI pp_12 := ey_17.trans xpp_12
      refine lv_istore_n (lv' := [(3, .int (nI pp_12)), (0, .ref ti), (1, .ref g), (4, .int (nI kk_3))]) hx hb eX6_loadRun_44 rfl hl (by decide) rfl (fun ls hl => ?_)
      refine lv_iinc (v := (nI kk_3 - 1)) (lv' := [(4, .int (nI kk_3 - 1)), (3, .int (nI pp_12)), (0, .ref ti), (1, .ref g)]) hx hb eX6_loadRun_45 hl (k := 3) rfl (pu_decm _) (by decide) rfl (fun ls hl => ?_)
      refine lv_goto (tgt := 20) hx hb eX6_loadRun_48 (by decide) ?_
      exact ih_8 kk_3 (by omega) _ _ _ ⟨kk_3, pp_12, q_16, hin_10 _ hsp, rfl, by omega, by omega, by assumption, hP, hD, hS, lv_sub hl [2, 3, 1, 0] rfl⟩
