theorem eX1_grow_0 : decode cX1_grow 0 = .ok (.iconst 0, 1) := by decide +kernel
theorem eX1_grow_1 : decode cX1_grow 1 = .ok (.istore_n 2, 1) := by decide +kernel
theorem eX1_grow_2 : decode cX1_grow 2 = .ok (.iload_n 2, 1) := by decide +kernel
theorem eX1_grow_3 : decode cX1_grow 3 = .ok (.aload_n 0, 1) := by decide +kernel
theorem eX1_grow_4 : decode cX1_grow 4 = .ok (.getfield 79, 3) := by decide +kernel
theorem eX1_grow_7 : decode cX1_grow 7 = .ok (.if_icmp .ge 74, 3) := by decide +kernel
theorem eX1_grow_10 : decode cX1_grow 10 = .ok (.aload_n 0, 1) := by decide +kernel
theorem eX1_grow_11 : decode cX1_grow 11 = .ok (.getfield 62, 3) := by decide +kernel
theorem eX1_grow_14 : decode cX1_grow 14 = .ok (.ifCond .ne 67, 3) := by decide +kernel
theorem eX1_grow_17 : decode cX1_grow 17 = .ok (.iconst 0, 1) := by decide +kernel
theorem eX1_grow_18 : decode cX1_grow 18 = .ok (.istore_n 3, 1) := by decide +kernel
theorem eX1_grow_19 : decode cX1_grow 19 = .ok (.iload_n 3, 1) := by decide +kernel
theorem eX1_grow_20 : decode cX1_grow 20 = .ok (.aload_n 1, 1) := by decide +kernel
theorem eX1_grow_21 : decode cX1_grow 21 = .ok (.getfield 112, 3) := by decide +kernel
theorem eX1_grow_24 : decode cX1_grow 24 = .ok (.if_icmp .ge 51, 3) := by decide +kernel
theorem eX1_grow_27 : decode cX1_grow 27 = .ok (.aload_n 0, 1) := by decide +kernel
theorem eX1_grow_28 : decode cX1_grow 28 = .ok (.getfield 62, 3) := by decide +kernel
theorem eX1_grow_31 : decode cX1_grow 31 = .ok (.ifCond .ne 44, 3) := by decide +kernel
theorem eX1_grow_34 : decode cX1_grow 34 = .ok (.aload_n 1, 1) := by decide +kernel
theorem eX1_grow_35 : decode cX1_grow 35 = .ok (.getfield 115, 3) := by decide +kernel
theorem eX1_grow_38 : decode cX1_grow 38 = .ok (.iload_n 3, 1) := by decide +kernel
theorem eX1_grow_39 : decode cX1_grow 39 = .ok (.iaload, 1) := by decide +kernel
theorem eX1_grow_40 : decode cX1_grow 40 = .ok (.aload_n 0, 1) := by decide +kernel
theorem eX1_grow_41 : decode cX1_grow 41 = .ok (.getfield 24, 3) := by decide +kernel
theorem eX1_grow_44 : decode cX1_grow 44 = .ok (.iload_n 2, 1) := by decide +kernel
theorem eX1_grow_45 : decode cX1_grow 45 = .ok (.iaload, 1) := by decide +kernel
theorem eX1_grow_46 : decode cX1_grow 46 = .ok (.if_icmp .ne 23, 3) := by decide +kernel
theorem eX1_grow_49 : decode cX1_grow 49 = .ok (.aload_n 1, 1) := by decide +kernel
theorem eX1_grow_50 : decode cX1_grow 50 = .ok (.getfield 118, 3) := by decide +kernel
theorem eX1_grow_53 : decode cX1_grow 53 = .ok (.iload_n 3, 1) := by decide +kernel
theorem eX1_grow_54 : decode cX1_grow 54 = .ok (.iaload, 1) := by decide +kernel
theorem eX1_grow_55 : decode cX1_grow 55 = .ok (.aload_n 0, 1) := by decide +kernel
theorem eX1_grow_56 : decode cX1_grow 56 = .ok (.getfield 56, 3) := by decide +kernel
theorem eX1_grow_59 : decode cX1_grow 59 = .ok (.if_icmp .eq 10, 3) := by decide +kernel
theorem eX1_grow_62 : decode cX1_grow 62 = .ok (.aload_n 0, 1) := by decide +kernel
theorem eX1_grow_63 : decode cX1_grow 63 = .ok (.aload_n 1, 1) := by decide +kernel
theorem eX1_grow_64 : decode cX1_grow 64 = .ok (.iload_n 2, 1) := by decide +kernel
theorem eX1_grow_65 : decode cX1_grow 65 = .ok (.iload_n 3, 1) := by decide +kernel
theorem eX1_grow_66 : decode cX1_grow 66 = .ok (.invokevirtual 121, 3) := by decide +kernel
theorem eX1_grow_69 : decode cX1_grow 69 = .ok (.iinc 3 1, 3) := by decide +kernel
theorem eX1_grow_72 : decode cX1_grow 72 = .ok (.goto (-53), 3) := by decide +kernel
theorem eX1_grow_75 : decode cX1_grow 75 = .ok (.iinc 2 1, 3) := by decide +kernel
theorem eX1_grow_78 : decode cX1_grow 78 = .ok (.goto (-76), 3) := by decide +kernel
theorem eX1_grow_81 : decode cX1_grow 81 = .ok (.return_, 1) := by decide +kernel
abbrev vs_E_1_grow_16 : List Cond := .code yX1_grow cX1_grow 4 none :: CM
theorem g_E_1_grow_16_E_1_step_16 : GoodIn vs_E_1_grow_16 (wsV RX1 121 RX1 yX1_step vs_E_1_step_16) := cm_gV cm_124 cm_125 cm_126 cm_113 cm_127
noncomputable def sp_E_1_grow_16_L1 (gway : Int32) (gav : Int32) (ggoal : Int32) (gl : Nat) (fhi : Nat → Int32) (flo : Nat → Int32) (nc : Nat) (ne : Nat) (f4 : Nat → Int32) (q_f5 : Nat → Nat) (q_f6 : Nat → Nat) (f7 : Nat → Int32) (q_f8 : Nat → Nat) (q_f9 : Nat → Nat) (f12 : Nat → Int32) (f13 : Nat → Int32) (o : Nat) (g_23 : Nat) : ((Nat → Nat) × (Nat → Int32) × (Nat → Int32) × (Nat → Int32) × (Nat → Int32) × Nat × Nat × Nat × Int32 × Nat × (Nat → Nat → Int32) × (Nat → Nat)) → ((Nat → Nat) × (Nat → Int32) × (Nat → Int32) × (Nat → Int32) × (Nat → Int32) × Nat × Nat × Nat × Int32 × Nat × (Nat → Nat → Int32) × (Nat → Nat)) ⊕ (Nat × Nat × Nat × Int32 × Nat × (Nat → Nat) × (Nat → Int32) × (Nat → Int32) × (Nat → Int32) × (Nat → Int32) × (Nat → Nat) × (Nat → Nat → Int32)) := fun (g_66, g_67, g_68, g_69, g_70, g_71, g_72, g_73, g_74, g_75, g_76, g_77) => (if ne ≤ g_75 then (Sum.inr (g_75, g_72, g_73, g_74, g_71, g_66, g_67, g_68, g_69, g_70, g_77, g_76)) else (if g_71 = 0 then (slet (min (q_f5 g_75) 7) (fun u_89 => (slet (min (g_66 g_23) 7) (fun u_91 => (slet (α := Nat × Nat × Int32 × Nat × (Nat → Nat) × (Nat → Int32) × (Nat → Int32) × (Nat → Int32) × (Nat → Int32) × (Nat → Nat) × (Nat → Nat → Int32)) (if u_89 = u_91 then (slet (min (q_f6 g_75) 7) (fun u_110 => (if ((nI u_110) : Int32) = gav then (g_72, g_73, g_74, g_71, g_66, g_67, g_68, g_69, g_70, g_77, g_76) else (slet (sp_E_1_step_16 g_72 g_73 g_74 gway ggoal g_71 gl g_66 g_67 g_68 g_69 g_70 fhi flo nc f4 q_f6 f7 q_f8 q_f9 f12 f13 o g_77 g_76 g_23 g_75) (fun (z_fs1_113, z_fs2_114, z_fs3_115, z_fs4_116, z_fs5_117, z_gfound_118, z_gc_119, z_gfull_120, z_gx_121, z_fz_122, z_qs_123) => (z_gc_119, z_gfull_120, z_gx_121, z_gfound_118, z_fs1_113, z_fs2_114, z_fs3_115, z_fs4_116, z_fs5_117, z_qs_123, z_fz_122)))))) else (g_72, g_73, g_74, g_71, g_66, g_67, g_68, g_69, g_70, g_77, g_76)) (fun (g_92, g_93, g_94, g_95, g_96, g_97, g_98, g_99, g_100, g_101, g_102) => (Sum.inl (g_96, g_97, g_98, g_99, g_100, g_95, g_92, g_93, g_94, (g_75 + 1), g_102, g_101)))))))) else (Sum.inr (g_75, g_72, g_73, g_74, g_71, g_66, g_67, g_68, g_69, g_70, g_77, g_76))))
noncomputable def sp_E_1_grow_16_L2 (gway : Int32) (gav : Int32) (ggoal : Int32) (gl : Nat) (fhi : Nat → Int32) (flo : Nat → Int32) (nc : Nat) (ne : Nat) (f4 : Nat → Int32) (q_f5 : Nat → Nat) (q_f6 : Nat → Nat) (f7 : Nat → Int32) (q_f8 : Nat → Nat) (q_f9 : Nat → Nat) (f12 : Nat → Int32) (f13 : Nat → Int32) (o : Nat) : ((Nat → Nat) × (Nat → Int32) × (Nat → Int32) × (Nat → Int32) × (Nat → Int32) × Nat × Nat × Nat × Int32 × Nat × (Nat → Nat → Int32) × (Nat → Nat)) → ((Nat → Nat) × (Nat → Int32) × (Nat → Int32) × (Nat → Int32) × (Nat → Int32) × Nat × Nat × Nat × Int32 × Nat × (Nat → Nat → Int32) × (Nat → Nat)) ⊕ ((Nat → Nat) × (Nat → Int32) × (Nat → Int32) × (Nat → Int32) × (Nat → Int32) × Nat × Nat × Nat × Int32 × (Nat → Nat → Int32) × (Nat → Nat)) := fun (g_14, g_15, g_16, g_17, g_18, g_19, g_20, g_21, g_22, g_23, g_24, g_25) => (if g_20 ≤ g_23 then (Sum.inr (g_14, g_15, g_16, g_17, g_18, g_19, g_20, g_21, g_22, g_24, g_25)) else (if g_19 = 0 then (slet (α := Nat × Nat × Nat × Int32 × Nat × (Nat → Nat) × (Nat → Int32) × (Nat → Int32) × (Nat → Int32) × (Nat → Int32) × (Nat → Nat) × (Nat → Nat → Int32)) (itrv (α := (Nat → Nat) × (Nat → Int32) × (Nat → Int32) × (Nat → Int32) × (Nat → Int32) × Nat × Nat × Nat × Int32 × Nat × (Nat → Nat → Int32) × (Nat → Nat)) (β := (Nat × Nat × Nat × Int32 × Nat × (Nat → Nat) × (Nat → Int32) × (Nat → Int32) × (Nat → Int32) × (Nat → Int32) × (Nat → Nat) × (Nat → Nat → Int32))) default (sp_E_1_grow_16_L1 gway gav ggoal gl fhi flo nc ne f4 q_f5 q_f6 f7 q_f8 q_f9 f12 f13 o g_23) (g_14, g_15, g_16, g_17, g_18, g_19, g_20, g_21, g_22, 0, g_24, g_25)) (fun (g_35, g_36, g_37, g_38, g_39, g_40, g_41, g_42, g_43, g_44, g_45, g_46) => (Sum.inl (g_40, g_41, g_42, g_43, g_44, g_39, g_36, g_37, g_38, (g_23 + 1), g_46, g_45)))) else (Sum.inr (g_14, g_15, g_16, g_17, g_18, g_19, g_20, g_21, g_22, g_24, g_25))))
noncomputable def sp_E_1_grow_16 (gc : Nat) (gfull : Nat) (gx : Int32) (gway : Int32) (gav : Int32) (ggoal : Int32) (gfound : Nat) (gl : Nat) (q_fs1 : Nat → Nat) (fs2 : Nat → Int32) (fs3 : Nat → Int32) (fs4 : Nat → Int32) (fs5 : Nat → Int32) (fhi : Nat → Int32) (flo : Nat → Int32) (nc : Nat) (ne : Nat) (f4 : Nat → Int32) (q_f5 : Nat → Nat) (q_f6 : Nat → Nat) (f7 : Nat → Int32) (q_f8 : Nat → Nat) (q_f9 : Nat → Nat) (f12 : Nat → Int32) (f13 : Nat → Int32) (o : Nat) (qs : Nat → Nat) (fz : Nat → Nat → Int32) : (Nat → Nat) × (Nat → Int32) × (Nat → Int32) × (Nat → Int32) × (Nat → Int32) × Nat × Nat × Nat × Int32 × (Nat → Nat → Int32) × (Nat → Nat) := (itrv (α := (Nat → Nat) × (Nat → Int32) × (Nat → Int32) × (Nat → Int32) × (Nat → Int32) × Nat × Nat × Nat × Int32 × Nat × (Nat → Nat → Int32) × (Nat → Nat)) (β := ((Nat → Nat) × (Nat → Int32) × (Nat → Int32) × (Nat → Int32) × (Nat → Int32) × Nat × Nat × Nat × Int32 × (Nat → Nat → Int32) × (Nat → Nat))) default (sp_E_1_grow_16_L2 gway gav ggoal gl fhi flo nc ne f4 q_f5 q_f6 f7 q_f8 q_f9 f12 f13 o) (q_fs1, fs2, fs3, fs4, fs5, gfound, gc, gfull, gx, 0, fz, qs))
set_option maxHeartbeats 4000000 in
set_option maxRecDepth 100000 in
theorem c_E_1_grow_16 (l : Launch) (dC : Nat → ClassId) (dI : Nat → Nat → Nat) (sz : Nat) (g : Nat) (gz : Nat) (g1 : Nat) (g2 : Nat) (g3 : Nat) (g4 : Nat) (g5 : Nat) (gc : Nat) (gfull : Nat) (gx : Int32) (gway : Int32) (gav : Int32) (ggoal : Int32) (gfound : Nat) (gl : Nat) (gsz : Nat) (g16 : Nat) (g17 : Nat) (k_fgz : ClassId) (k_fs1 : ClassId) (q_fs1 : Nat → Nat) (k_fs2 : ClassId) (fs2 : Nat → Int32) (k_fs3 : ClassId) (fs3 : Nat → Int32) (k_fs4 : ClassId) (fs4 : Nat → Int32) (k_fs5 : ClassId) (fs5 : Nat → Int32) (k_fhi : ClassId) (fhi : Nat → Int32) (k_flo : ClassId) (flo : Nat → Int32) (au : Nat) (nc : Nat) (np : Nat) (ne : Nat) (st0 : Int32) (q4 : Nat) (q5 : Nat) (q6 : Nat) (q7 : Nat) (q8 : Nat) (q9 : Nat) (q10 : Nat) (q11 : Nat) (q12 : Nat) (q13 : Nat) (q14 : Nat) (q15 : Nat) (q16 : Nat) (k_f4 : ClassId) (f4 : Nat → Int32) (k_f5 : ClassId) (q_f5 : Nat → Nat) (k_f6 : ClassId) (q_f6 : Nat → Nat) (k_f7 : ClassId) (f7 : Nat → Int32) (k_f8 : ClassId) (q_f8 : Nat → Nat) (k_f9 : ClassId) (q_f9 : Nat → Nat) (k_f10 : ClassId) (f10 : Nat → Int32) (k_f11 : ClassId) (f11 : Nat → Int32) (k_f12 : ClassId) (f12 : Nat → Int32) (k_f13 : ClassId) (f13 : Nat → Int32) (k_f14 : ClassId) (f14 : Nat → Int32) (k_f15 : ClassId) (f15 : Nat → Int32) (k_f16 : ClassId) (f16 : Nat → Int32) (N : Nat) (o : Nat) (az ac : Nat → Nat) (kz : Nat → ClassId) (qs : Nat → Nat) (fz : Nat → Nat → Int32) (hgc : gc ≤ 120) (hgfull : gfull ≤ 1) (hgfound : gfound ≤ 1) (hgl : gl ≤ 1) (hgsz : gsz ≤ 4) (hnc : nc ≤ 3) (hnp : np ≤ 8) (hne : ne ≤ 14) (hst0 : pm1 7 st0) (hN : o + 121 ≤ N) (hq0 : gz_ok gc fs2 fs3 fs4) : Met l yX1_grow vs_E_1_grow_16 ({ frames := 4, cells := 0, slots := 0, locals := 102 }) (va_Pc [.ref g, .ref au] (pu_B (dC, dI) ((gs1__w g gz g1 g2 g3 g4 g5 (nI gc) (nI gfull) gx gway gav ggoal (nI gfound) 120 (nI gl) (nI gsz) g16 g17 k_fgz (zs o 121 az) k_fs1 (bN 7 q_fs1) k_fs2 fs2 k_fs3 fs3 k_fs4 fs4 k_fs5 fs5 k_fhi fhi k_flo flo au (nI nc) (nI np) (nI ne) st0 q4 q5 q6 q7 q8 q9 q10 q11 q12 q13 q14 q15 q16 k_f4 f4 k_f5 (bN 7 q_f5) k_f6 (bN 7 q_f6) k_f7 f7 k_f8 (bN 4 q_f8) k_f9 (bN 2 q_f9) k_f10 f10 k_f11 f11 k_f12 f12 k_f13 f13 k_f14 f14 k_f15 f15 k_f16 f16) ++ zp 4 16 N az ac kz qs fz) ((gs1__t k_fgz k_fs1 k_fs2 k_fs3 k_fs4 k_fs5 k_fhi k_flo k_f4 k_f5 k_f6 k_f7 k_f8 k_f9 k_f10 k_f11 k_f12 k_f13 k_f14 k_f15 k_f16) ++ zt N kz) sz)) (va_Qv (fun (_ : Unit) => True) (fun _ t => ∃ (z_fs1 : Nat → Nat) (z_fs2 : Nat → Int32) (z_fs3 : Nat → Int32) (z_fs4 : Nat → Int32) (z_fs5 : Nat → Int32) (z_gfound : Nat) (z_gc : Nat) (z_gfull : Nat) (z_gx : Int32) (z_fz : Nat → Nat → Int32) (z_qs : Nat → Nat), pu_E (dC, dI) ((gs1__w g gz g1 g2 g3 g4 g5 (nI z_gc) (nI z_gfull) z_gx gway gav ggoal (nI z_gfound) 120 (nI gl) (nI gsz) g16 g17 k_fgz (zs o 121 az) k_fs1 (bN 7 z_fs1) k_fs2 z_fs2 k_fs3 z_fs3 k_fs4 z_fs4 k_fs5 z_fs5 k_fhi fhi k_flo flo au (nI nc) (nI np) (nI ne) st0 q4 q5 q6 q7 q8 q9 q10 q11 q12 q13 q14 q15 q16 k_f4 f4 k_f5 (bN 7 q_f5) k_f6 (bN 7 q_f6) k_f7 f7 k_f8 (bN 4 q_f8) k_f9 (bN 2 q_f9) k_f10 f10 k_f11 f11 k_f12 f12 k_f13 f13 k_f14 f14 k_f15 f15 k_f16 f16) ++ zp 4 16 N az ac kz z_qs z_fz) ((gs1__t k_fgz k_fs1 k_fs2 k_fs3 k_fs4 k_fs5 k_fhi k_flo k_f4 k_f5 k_f6 k_f7 k_f8 k_f9 k_f10 k_f11 k_f12 k_f13 k_f14 k_f15 k_f16) ++ zt N kz) (va_A (((gs1__w g gz g1 g2 g3 g4 g5 (nI gc) (nI gfull) gx gway gav ggoal (nI gfound) 120 (nI gl) (nI gsz) g16 g17 k_fgz (zs o 121 az) k_fs1 (bN 7 q_fs1) k_fs2 fs2 k_fs3 fs3 k_fs4 fs4 k_fs5 fs5 k_fhi fhi k_flo flo au (nI nc) (nI np) (nI ne) st0 q4 q5 q6 q7 q8 q9 q10 q11 q12 q13 q14 q15 q16 k_f4 f4 k_f5 (bN 7 q_f5) k_f6 (bN 7 q_f6) k_f7 f7 k_f8 (bN 4 q_f8) k_f9 (bN 2 q_f9) k_f10 f10 k_f11 f11 k_f12 f12 k_f13 f13 k_f14 f14 k_f15 f15 k_f16 f16) ++ zp 4 16 N az ac kz qs fz)) sz) t ∧ (z_gfound ≤ 1) ∧ (z_gc ≤ 120) ∧ (z_gfull ≤ 1) ∧ (gz_ok z_gc z_fs2 z_fs3 z_fs4) ∧ ((z_fs1, z_fs2, z_fs3, z_fs4, z_fs5, z_gfound, z_gc, z_gfull, z_gx, z_fz, z_qs) = (sp_E_1_grow_16 gc gfull gx gway gav ggoal gfound gl q_fs1 fs2 fs3 fs4 fs5 fhi flo nc ne f4 q_f5 q_f6 f7 q_f8 q_f9 f12 f13 o qs fz))) (va_A (((gs1__w g gz g1 g2 g3 g4 g5 (nI gc) (nI gfull) gx gway gav ggoal (nI gfound) 120 (nI gl) (nI gsz) g16 g17 k_fgz (zs o 121 az) k_fs1 (bN 7 q_fs1) k_fs2 fs2 k_fs3 fs3 k_fs4 fs4 k_fs5 fs5 k_fhi fhi k_flo flo au (nI nc) (nI np) (nI ne) st0 q4 q5 q6 q7 q8 q9 q10 q11 q12 q13 q14 q15 q16 k_f4 f4 k_f5 (bN 7 q_f5) k_f6 (bN 7 q_f6) k_f7 f7 k_f8 (bN 4 q_f8) k_f9 (bN 2 q_f9) k_f10 f10 k_f11 f11 k_f12 f12 k_f13 f13 k_f14 f14 k_f15 f15 k_f16 f16) ++ zp 4 16 N az ac kz qs fz)) sz)) 0 0 (va_A (((gs1__w g gz g1 g2 g3 g4 g5 (nI gc) (nI gfull) gx gway gav ggoal (nI gfound) 120 (nI gl) (nI gsz) g16 g17 k_fgz (zs o 121 az) k_fs1 (bN 7 q_fs1) k_fs2 fs2 k_fs3 fs3 k_fs4 fs4 k_fs5 fs5 k_fhi fhi k_flo flo au (nI nc) (nI np) (nI ne) st0 q4 q5 q6 q7 q8 q9 q10 q11 q12 q13 q14 q15 q16 k_f4 f4 k_f5 (bN 7 q_f5) k_f6 (bN 7 q_f6) k_f7 f7 k_f8 (bN 4 q_f8) k_f9 (bN 2 q_f9) k_f10 f10 k_f11 f11 k_f12 f12 k_f13 f13 k_f14 f14 k_f15 f15 k_f16 f16) ++ zp 4 16 N az ac kz qs fz)) sz) := by
  refine Met.ofW (cc := cX1_grow) (maxL := 4) (ret := none) (by decide) rfl ?_
  intro p e s m args below meth c s₁ B hml hv
  obtain ⟨rfl, rfl, hP, hK, hD0⟩ := hv
  have hx := B.exec
  have hb := B.bytes
  have hr := B.returns
  have hts := atoms_spec (ws := vs_E_1_grow_16) B.pre
  have v_1 := hts (.fieldLink RX1 79 "ClockReach$Graph" "count" "I") (List.mem_cons_of_mem _ cm_89)
  have v_2 := hts (.fieldLink RX1 62 "ClockReach$Graph" "found" "Z") (List.mem_cons_of_mem _ cm_81)
  have v_3 := hts (.fieldLink RX1 112 "ClockReach$Automaton" "edges" "I") (List.mem_cons_of_mem _ cm_121)
  have v_4 := hts (.fieldLink RX1 115 "ClockReach$Automaton" "sources" "[I") (List.mem_cons_of_mem _ cm_122)
  have v_5 := hts (.fieldLink RX1 24 "ClockReach$Graph" "sites" "[I") (List.mem_cons_of_mem _ cm_115)
  have v_6 := hts (.fieldLink RX1 118 "ClockReach$Automaton" "targets" "[I") (List.mem_cons_of_mem _ cm_123)
  have v_7 := hts (.fieldLink RX1 56 "ClockReach$Graph" "avoided" "I") (List.mem_cons_of_mem _ cm_79)
  have hown : s.vm.findClass RX1 = some m.cls := findClass_of_methodNamed B.named
  have hlocks := B.notSynchronized
  have hiX0 : ∀ w ∈ wsX00, w ∈ vs_E_1_grow_16 := fun _ h => List.mem_cons_of_mem _ (cm_X0 h)
  have hiX1 : ∀ w ∈ wsX10, w ∈ vs_E_1_grow_16 := fun _ h => List.mem_cons_of_mem _ (cm_X1 h)
  have hD := hD0.self (sz := s.heap.size)
  generalize hAe : va_A (((gs1__w g gz g1 g2 g3 g4 g5 (nI gc) (nI gfull) gx gway gav ggoal (nI gfound) 120 (nI gl) (nI gsz) g16 g17 k_fgz (zs o 121 az) k_fs1 (bN 7 q_fs1) k_fs2 fs2 k_fs3 fs3 k_fs4 fs4 k_fs5 fs5 k_fhi fhi k_flo flo au (nI nc) (nI np) (nI ne) st0 q4 q5 q6 q7 q8 q9 q10 q11 q12 q13 q14 q15 q16 k_f4 f4 k_f5 (bN 7 q_f5) k_f6 (bN 7 q_f6) k_f7 f7 k_f8 (bN 4 q_f8) k_f9 (bN 2 q_f9) k_f10 f10 k_f11 f11 k_f12 f12 k_f13 f13 k_f14 f14 k_f15 f15 k_f16 f16) ++ zp 4 16 N az ac kz qs fz)) s.heap.size = A at hD ⊢
  have hA : ∀ q : Nat, s.heap.size ≤ q → A q := fun q h => by rw [← hAe]; exact Or.inr h
  have hS : va_S A s.heap s.heap [] := va_S.rf
  have hl := lv_entry ([.ref g, .ref au]) (n := 4) (Nat.le_of_ble_eq_true rfl)
  rw [lg_entry_eq]
  generalize (lg_sl ([.ref g, .ref au]) ++ List.replicate (4 - (lg_sl ([.ref g, .ref au])).length) Slot.unset).toArray = ls at hl ⊢
  have hl : lv_has ls 4 [(0, .ref g), (1, .ref au)] := hl
  obtain ⟨RR, hRR⟩ : ∃ x, x = (sp_E_1_grow_16 gc gfull gx gway gav ggoal gfound gl q_fs1 fs2 fs3 fs4 fs5 fhi flo nc ne f4 q_f5 q_f6 f7 q_f8 q_f9 f12 f13 o qs fz) := ⟨_, rfl⟩
  have hsp := hRR
  refine lv_iconst (v := 0) hx hb eX1_grow_0 (by decide) ?_
  refine lv_istore_n (lv' := [(2, .int 0), (0, .ref g), (1, .ref au)]) hx hb eX1_grow_1 rfl hl (by decide) rfl (fun ls hl => ?_)
  obtain ⟨lf_28, dlf_28, hlf_28, hsp⟩ := itr_ex hsp
  delta sp_E_1_grow_16_L2 at hlf_28
  refine pu_while (fun nn H locs ls => ∃ (g_14 : Nat → Nat) (g_15 : Nat → Int32) (g_16 : Nat → Int32) (g_17 : Nat → Int32) (g_18 : Nat → Int32) (g_19 : Nat) (g_20 : Nat) (g_21 : Nat) (g_22 : Int32) (g_23 : Nat) (g_24 : Nat → Nat → Int32) (g_25 : Nat → Nat), nn = 120 - g_23 ∧ g_19 ≤ 1 ∧ g_20 ≤ 120 ∧ g_21 ≤ 1 ∧ g_23 ≤ 120 ∧ gz_ok g_20 g_15 g_16 g_17 ∧ RR = itrv dlf_28 lf_28 (g_14, g_15, g_16, g_17, g_18, g_19, g_20, g_21, g_22, g_23, g_24, g_25) ∧ va_P (dC, dI) vwCl ((gs1__w g gz g1 g2 g3 g4 g5 (nI g_20) (nI g_21) g_22 gway gav ggoal (nI g_19) 120 (nI gl) (nI gsz) g16 g17 k_fgz (zs o 121 az) k_fs1 (bN 7 g_14) k_fs2 g_15 k_fs3 g_16 k_fs4 g_17 k_fs5 g_18 k_fhi fhi k_flo flo au (nI nc) (nI np) (nI ne) st0 q4 q5 q6 q7 q8 q9 q10 q11 q12 q13 q14 q15 q16 k_f4 f4 k_f5 (bN 7 q_f5) k_f6 (bN 7 q_f6) k_f7 f7 k_f8 (bN 4 q_f8) k_f9 (bN 2 q_f9) k_f10 f10 k_f11 f11 k_f12 f12 k_f13 f13 k_f14 f14 k_f15 f15 k_f16 f16) ++ zp 4 16 N az ac kz g_25 g_24) H ∧ va_D A ((gs1__w g gz g1 g2 g3 g4 g5 (nI g_20) (nI g_21) g_22 gway gav ggoal (nI g_19) 120 (nI gl) (nI gsz) g16 g17 k_fgz (zs o 121 az) k_fs1 (bN 7 g_14) k_fs2 g_15 k_fs3 g_16 k_fs4 g_17 k_fs5 g_18 k_fhi fhi k_flo flo au (nI nc) (nI np) (nI ne) st0 q4 q5 q6 q7 q8 q9 q10 q11 q12 q13 q14 q15 q16 k_f4 f4 k_f5 (bN 7 q_f5) k_f6 (bN 7 q_f6) k_f7 f7 k_f8 (bN 4 q_f8) k_f9 (bN 2 q_f9) k_f10 f10 k_f11 f11 k_f12 f12 k_f13 f13 k_f14 f14 k_f15 f15 k_f16 f16) ++ zp 4 16 N az ac kz g_25 g_24) ∧ va_S A s.heap H locs ∧ lv_has ls 4 [(0, .ref g), (1, .ref au), (2, .int (nI g_23))]) 2 ?_ _ _ _ _ ⟨q_fs1, fs2, fs3, fs4, fs5, gfound, gc, gfull, gx, 0, fz, qs, rfl, hgfound, hgc, hgfull, (Nat.le_of_ble_eq_true rfl), by first | assumption | exact gz_0, hsp, hP, hD, hS, lv_sub hl [1, 2, 0] rfl⟩
  rintro nn ih_27 H locs ls ⟨g_14, g_15, g_16, g_17, g_18, g_19, g_20, g_21, g_22, g_23, g_24, g_25, rfl, hg_19, hg_20, hg_21, hg_23, he_26, he_30, hP, hD, hS, hl⟩
  obtain ⟨S_29, hsp, hin_31, hout_32⟩ := itr_step hlf_28 he_30
  refine lv_iload_n hx hb eX1_grow_2 rfl (lv_at hl 2 rfl) ?_
  refine lv_aload_n hx hb eX1_grow_3 rfl (lv_at hl 0 rfl) ?_
  refine va_get (D := (dC, dI)) (ci := 1) (v := .int (nI g_20)) (C := RX1) (T := TX1) (N := 18) hx hb hts hiX1 hown hK hP 0 rfl rfl 6 (by decide) v_1 (fun _ h9 => h9) rfl eX1_grow_4 ?_
  refine lv_icmp_ge (tgt := 81) hx hb eX1_grow_7 (by decide) (fun c_33 => ?_) (fun c_33 => ?_)
  · have c_33 : g_20 ≤ g_23 := (nI_leI (a := g_20) (b := g_23) (Nat.lt_of_le_of_lt hg_20 (Nat.le_of_ble_eq_true rfl)) (Nat.lt_of_le_of_lt hg_23 (Nat.le_of_ble_eq_true rfl))).mp c_33
    have hsp := hsp.trans (if_pos c_33)
    have hsp := hout_32 _ hsp
    exact W.vret hx hb hr (fun t ht hW => ⟨⟨(), rfl, trivial, ⟨g_14, g_15, g_16, g_17, g_18, g_19, g_20, g_21, g_22, g_24, g_25, ⟨by rw [ht]; exact hP, va_K.moved hW.alike hK, hD⟩, hg_19, hg_20, hg_21, by first | assumption | exact gz_0, (hsp.symm.trans hRR)⟩⟩, hS.F ht⟩) hS.2.2 eX1_grow_81
  · have c_33 : ¬ g_20 ≤ g_23 := fun z => c_33 ((nI_leI (a := g_20) (b := g_23) (Nat.lt_of_le_of_lt hg_20 (Nat.le_of_ble_eq_true rfl)) (Nat.lt_of_le_of_lt hg_23 (Nat.le_of_ble_eq_true rfl))).mpr z)
    have hsp := hsp.trans (if_neg c_33)
    refine lv_aload_n hx hb eX1_grow_10 rfl (lv_at hl 0 rfl) ?_
    refine va_get (D := (dC, dI)) (ci := 1) (v := .int (nI g_19)) (C := RX1) (T := TX1) (N := 18) hx hb hts hiX1 hown hK hP 0 rfl rfl 12 (by decide) v_2 (fun _ h9 => h9) rfl eX1_grow_11 ?_
    refine lv_if_ne (tgt := 81) hx hb eX1_grow_14 (by decide) (fun c_34 => ?_) (fun c_34 => ?_)
    · have c_34 : ¬ g_19 = 0 := fun z => c_34 ((nI_eq (a := g_19) (b := 0) (Nat.lt_of_le_of_lt hg_19 (Nat.le_of_ble_eq_true rfl)) (Nat.le_of_ble_eq_true rfl)).mpr z)
      have hsp := hsp.trans (if_neg c_34)
      have hsp := hout_32 _ hsp
      exact W.vret hx hb hr (fun t ht hW => ⟨⟨(), rfl, trivial, ⟨g_14, g_15, g_16, g_17, g_18, g_19, g_20, g_21, g_22, g_24, g_25, ⟨by rw [ht]; exact hP, va_K.moved hW.alike hK, hD⟩, hg_19, hg_20, hg_21, by first | assumption | exact gz_0, (hsp.symm.trans hRR)⟩⟩, hS.F ht⟩) hS.2.2 eX1_grow_81
    · have c_34 : g_19 = 0 := (nI_eq (a := g_19) (b := 0) (Nat.lt_of_le_of_lt hg_19 (Nat.le_of_ble_eq_true rfl)) (Nat.le_of_ble_eq_true rfl)).mp c_34
      have hsp := hsp.trans (if_pos c_34)
      refine lv_iconst (v := 0) hx hb eX1_grow_17 (by decide) ?_
      refine lv_istore_n (lv' := [(3, .int 0), (0, .ref g), (1, .ref au), (2, .int (nI g_23))]) hx hb eX1_grow_18 rfl hl (by decide) rfl (fun ls hl => ?_)
      obtain ⟨JR_50, hJR_50, hsp⟩ := slet_ex hsp
      refine pu_join (fun H locs ls st => ∃ (g_35 : Nat) (g_36 : Nat) (g_37 : Nat) (g_38 : Int32) (g_39 : Nat) (g_40 : Nat → Nat) (g_41 : Nat → Int32) (g_42 : Nat → Int32) (g_43 : Nat → Int32) (g_44 : Nat → Int32) (g_45 : Nat → Nat) (g_46 : Nat → Nat → Int32), st = [] ∧ g_35 ≤ 14 ∧ g_36 ≤ 120 ∧ g_37 ≤ 1 ∧ g_39 ≤ 1 ∧ gz_ok g_36 g_41 g_42 g_43 ∧ g_23 < g_36 ∧ (g_35, g_36, g_37, g_38, g_39, g_40, g_41, g_42, g_43, g_44, g_45, g_46) = JR_50 ∧ va_P (dC, dI) vwCl ((gs1__w g gz g1 g2 g3 g4 g5 (nI g_36) (nI g_37) g_38 gway gav ggoal (nI g_39) 120 (nI gl) (nI gsz) g16 g17 k_fgz (zs o 121 az) k_fs1 (bN 7 g_40) k_fs2 g_41 k_fs3 g_42 k_fs4 g_43 k_fs5 g_44 k_fhi fhi k_flo flo au (nI nc) (nI np) (nI ne) st0 q4 q5 q6 q7 q8 q9 q10 q11 q12 q13 q14 q15 q16 k_f4 f4 k_f5 (bN 7 q_f5) k_f6 (bN 7 q_f6) k_f7 f7 k_f8 (bN 4 q_f8) k_f9 (bN 2 q_f9) k_f10 f10 k_f11 f11 k_f12 f12 k_f13 f13 k_f14 f14 k_f15 f15 k_f16 f16) ++ zp 4 16 N az ac kz g_45 g_46) H ∧ va_D A ((gs1__w g gz g1 g2 g3 g4 g5 (nI g_36) (nI g_37) g_38 gway gav ggoal (nI g_39) 120 (nI gl) (nI gsz) g16 g17 k_fgz (zs o 121 az) k_fs1 (bN 7 g_40) k_fs2 g_41 k_fs3 g_42 k_fs4 g_43 k_fs5 g_44 k_fhi fhi k_flo flo au (nI nc) (nI np) (nI ne) st0 q4 q5 q6 q7 q8 q9 q10 q11 q12 q13 q14 q15 q16 k_f4 f4 k_f5 (bN 7 q_f5) k_f6 (bN 7 q_f6) k_f7 f7 k_f8 (bN 4 q_f8) k_f9 (bN 2 q_f9) k_f10 f10 k_f11 f11 k_f12 f12 k_f13 f13 k_f14 f14 k_f15 f15 k_f16 f16) ++ zp 4 16 N az ac kz g_45 g_46) ∧ va_S A s.heap H locs ∧ lv_has ls 4 [(0, .ref g), (1, .ref au), (2, .int (nI g_23)), (3, .int (nI g_35))]) 75 ?_ (fun j_49 => ?_)
      · rintro H locs ls st ⟨g_35, g_36, g_37, g_38, g_39, g_40, g_41, g_42, g_43, g_44, g_45, g_46, rfl, hg_35, hg_36, hg_37, hg_39, he_47, he_48, he_51, hP, hD, hS, hl⟩
        rw [← he_51] at hsp
        refine lv_iinc (v := (nI (g_23 + 1))) (lv' := [(2, .int (nI (g_23 + 1))), (0, .ref g), (1, .ref au), (3, .int (nI g_35))]) hx hb eX1_grow_75 hl (k := 2) rfl (nI_1 _) (by decide) rfl (fun ls hl => ?_)
        refine lv_goto (tgt := 2) hx hb eX1_grow_78 (by decide) ?_
        exact ih_27 (120 - (g_23 + 1)) (by omega) _ _ _ ⟨g_40, g_41, g_42, g_43, g_44, g_39, g_36, g_37, g_38, (g_23 + 1), g_46, g_45, rfl, hg_39, hg_36, hg_37, (by omega), by first | assumption | exact gz_0, hin_31 _ hsp, hP, hD, hS, lv_sub hl [1, 2, 0] rfl⟩
      have hsp := hJR_50
      obtain ⟨lf_81, dlf_81, hlf_81, hsp⟩ := itr_ex hsp
      delta sp_E_1_grow_16_L1 at hlf_81
      refine pu_while (fun nn H locs ls => ∃ (g_66 : Nat → Nat) (g_67 : Nat → Int32) (g_68 : Nat → Int32) (g_69 : Nat → Int32) (g_70 : Nat → Int32) (g_71 : Nat) (g_72 : Nat) (g_73 : Nat) (g_74 : Int32) (g_75 : Nat) (g_76 : Nat → Nat → Int32) (g_77 : Nat → Nat), nn = 14 - g_75 ∧ g_71 ≤ 1 ∧ g_72 ≤ 120 ∧ g_73 ≤ 1 ∧ g_75 ≤ 14 ∧ gz_ok g_72 g_67 g_68 g_69 ∧ g_23 < g_72 ∧ JR_50 = itrv dlf_81 lf_81 (g_66, g_67, g_68, g_69, g_70, g_71, g_72, g_73, g_74, g_75, g_76, g_77) ∧ va_P (dC, dI) vwCl ((gs1__w g gz g1 g2 g3 g4 g5 (nI g_72) (nI g_73) g_74 gway gav ggoal (nI g_71) 120 (nI gl) (nI gsz) g16 g17 k_fgz (zs o 121 az) k_fs1 (bN 7 g_66) k_fs2 g_67 k_fs3 g_68 k_fs4 g_69 k_fs5 g_70 k_fhi fhi k_flo flo au (nI nc) (nI np) (nI ne) st0 q4 q5 q6 q7 q8 q9 q10 q11 q12 q13 q14 q15 q16 k_f4 f4 k_f5 (bN 7 q_f5) k_f6 (bN 7 q_f6) k_f7 f7 k_f8 (bN 4 q_f8) k_f9 (bN 2 q_f9) k_f10 f10 k_f11 f11 k_f12 f12 k_f13 f13 k_f14 f14 k_f15 f15 k_f16 f16) ++ zp 4 16 N az ac kz g_77 g_76) H ∧ va_D A ((gs1__w g gz g1 g2 g3 g4 g5 (nI g_72) (nI g_73) g_74 gway gav ggoal (nI g_71) 120 (nI gl) (nI gsz) g16 g17 k_fgz (zs o 121 az) k_fs1 (bN 7 g_66) k_fs2 g_67 k_fs3 g_68 k_fs4 g_69 k_fs5 g_70 k_fhi fhi k_flo flo au (nI nc) (nI np) (nI ne) st0 q4 q5 q6 q7 q8 q9 q10 q11 q12 q13 q14 q15 q16 k_f4 f4 k_f5 (bN 7 q_f5) k_f6 (bN 7 q_f6) k_f7 f7 k_f8 (bN 4 q_f8) k_f9 (bN 2 q_f9) k_f10 f10 k_f11 f11 k_f12 f12 k_f13 f13 k_f14 f14 k_f15 f15 k_f16 f16) ++ zp 4 16 N az ac kz g_77 g_76) ∧ va_S A s.heap H locs ∧ lv_has ls 4 [(0, .ref g), (1, .ref au), (2, .int (nI g_23)), (3, .int (nI g_75))]) 19 ?_ _ _ _ _ ⟨g_14, g_15, g_16, g_17, g_18, g_19, g_20, g_21, g_22, 0, g_24, g_25, rfl, hg_19, hg_20, hg_21, (Nat.le_of_ble_eq_true rfl), by first | assumption | exact gz_0, by omega, hsp, hP, hD, hS, lv_sub hl [1, 2, 3, 0] rfl⟩
      rintro nn ih_80 H locs ls ⟨g_66, g_67, g_68, g_69, g_70, g_71, g_72, g_73, g_74, g_75, g_76, g_77, rfl, hg_71, hg_72, hg_73, hg_75, he_78, he_79, he_83, hP, hD, hS, hl⟩
      obtain ⟨S_82, hsp, hin_84, hout_85⟩ := itr_step hlf_81 he_83
      refine lv_iload_n hx hb eX1_grow_19 rfl (lv_at hl 3 rfl) ?_
      refine lv_aload_n hx hb eX1_grow_20 rfl (lv_at hl 1 rfl) ?_
      refine va_get (D := (dC, dI)) (ci := 0) (v := .int (nI ne)) (C := RX0) (T := TX0) (N := 17) hx hb hts hiX0 hown hK hP 9 rfl rfl 2 (by decide) v_3 (fun _ h9 => h9) rfl eX1_grow_21 ?_
      refine lv_icmp_ge (tgt := 75) hx hb eX1_grow_24 (by decide) (fun c_86 => ?_) (fun c_86 => ?_)
      · have c_86 : ne ≤ g_75 := (nI_leI (a := ne) (b := g_75) (Nat.lt_of_le_of_lt hne (Nat.le_of_ble_eq_true rfl)) (Nat.lt_of_le_of_lt hg_75 (Nat.le_of_ble_eq_true rfl))).mp c_86
        have hsp := hsp.trans (if_pos c_86)
        have hsp := hout_85 _ hsp
        exact j_49 _ _ _ _ ⟨g_75, g_72, g_73, g_74, g_71, g_66, g_67, g_68, g_69, g_70, g_77, g_76, rfl, hg_75, hg_72, hg_73, hg_71, by first | assumption | exact gz_0, by omega, hsp.symm, hP, hD, hS, lv_sub hl [0, 1, 2, 3] rfl⟩
      · have c_86 : ¬ ne ≤ g_75 := fun z => c_86 ((nI_leI (a := ne) (b := g_75) (Nat.lt_of_le_of_lt hne (Nat.le_of_ble_eq_true rfl)) (Nat.lt_of_le_of_lt hg_75 (Nat.le_of_ble_eq_true rfl))).mpr z)
        have hsp := hsp.trans (if_neg c_86)
        refine lv_aload_n hx hb eX1_grow_27 rfl (lv_at hl 0 rfl) ?_
        refine va_get (D := (dC, dI)) (ci := 1) (v := .int (nI g_71)) (C := RX1) (T := TX1) (N := 18) hx hb hts hiX1 hown hK hP 0 rfl rfl 12 (by decide) v_2 (fun _ h9 => h9) rfl eX1_grow_28 ?_
        refine lv_if_ne (tgt := 75) hx hb eX1_grow_31 (by decide) (fun c_87 => ?_) (fun c_87 => ?_)
        · have c_87 : ¬ g_71 = 0 := fun z => c_87 ((nI_eq (a := g_71) (b := 0) (Nat.lt_of_le_of_lt hg_71 (Nat.le_of_ble_eq_true rfl)) (Nat.le_of_ble_eq_true rfl)).mpr z)
          have hsp := hsp.trans (if_neg c_87)
          have hsp := hout_85 _ hsp
          exact j_49 _ _ _ _ ⟨g_75, g_72, g_73, g_74, g_71, g_66, g_67, g_68, g_69, g_70, g_77, g_76, rfl, hg_75, hg_72, hg_73, hg_71, by first | assumption | exact gz_0, by omega, hsp.symm, hP, hD, hS, lv_sub hl [0, 1, 2, 3] rfl⟩
        · have c_87 : g_71 = 0 := (nI_eq (a := g_71) (b := 0) (Nat.lt_of_le_of_lt hg_71 (Nat.le_of_ble_eq_true rfl)) (Nat.le_of_ble_eq_true rfl)).mp c_87
          have hsp := hsp.trans (if_pos c_87)
          refine lv_aload_n hx hb eX1_grow_34 rfl (lv_at hl 1 rfl) ?_
          refine va_get (D := (dC, dI)) (ci := 0) (v := .ref q5) (C := RX0) (T := TX0) (N := 17) hx hb hts hiX0 hown hK hP 9 rfl rfl 5 (by decide) v_4 (fun _ h9 => h9) rfl eX1_grow_35 ?_
          refine lv_iload_n hx hb eX1_grow_38 rfl (lv_at hl 3 rfl) ?_
          refine va_iald hx hb hK hP 11 9 rfl rfl (vp_in_nI (n := g_75) (by omega) (Nat.le_of_ble_eq_true rfl)) eX1_grow_39 ?_
          refine lv_topi (fun y_88 ey_88 => ?_)
          obtain ⟨u_89, hu_89, qu_89, xu_89⟩ := bN_getx 7 q_f5 (n := g_75) (Nat.lt_of_le_of_lt hg_75 (Nat.le_of_ble_eq_true rfl))
          obtain rfl : y_88 = nI u_89 := ey_88.trans qu_89
          have hsp := hsp.trans (slet_eq xu_89)
          refine lv_aload_n hx hb eX1_grow_40 rfl (lv_at hl 0 rfl) ?_
          refine va_get (D := (dC, dI)) (ci := 1) (v := .ref g1) (C := RX1) (T := TX1) (N := 18) hx hb hts hiX1 hown hK hP 0 rfl rfl 1 (by decide) v_5 (fun _ h9 => h9) rfl eX1_grow_41 ?_
          refine lv_iload_n hx hb eX1_grow_44 rfl (lv_at hl 2 rfl) ?_
          refine va_iald hx hb hK hP 2 1 rfl rfl (vp_in_nI (n := g_23) (by omega) (Nat.le_of_ble_eq_true rfl)) eX1_grow_45 ?_
          refine lv_topi (fun y_90 ey_90 => ?_)
          obtain ⟨u_91, hu_91, qu_91, xu_91⟩ := bN_getx 7 g_66 (n := g_23) (Nat.lt_of_le_of_lt hg_23 (Nat.le_of_ble_eq_true rfl))
          obtain rfl : y_90 = nI u_91 := ey_90.trans qu_91
          have hsp := hsp.trans (slet_eq xu_91)
          obtain ⟨JR_106, hJR_106, hsp⟩ := slet_ex hsp
          refine pu_join (fun H locs ls st => ∃ (g_92 : Nat) (g_93 : Nat) (g_94 : Int32) (g_95 : Nat) (g_96 : Nat → Nat) (g_97 : Nat → Int32) (g_98 : Nat → Int32) (g_99 : Nat → Int32) (g_100 : Nat → Int32) (g_101 : Nat → Nat) (g_102 : Nat → Nat → Int32), st = [] ∧ g_92 ≤ 120 ∧ g_93 ≤ 1 ∧ g_95 ≤ 1 ∧ gz_ok g_92 g_97 g_98 g_99 ∧ g_23 < g_92 ∧ (g_92, g_93, g_94, g_95, g_96, g_97, g_98, g_99, g_100, g_101, g_102) = JR_106 ∧ va_P (dC, dI) vwCl ((gs1__w g gz g1 g2 g3 g4 g5 (nI g_92) (nI g_93) g_94 gway gav ggoal (nI g_95) 120 (nI gl) (nI gsz) g16 g17 k_fgz (zs o 121 az) k_fs1 (bN 7 g_96) k_fs2 g_97 k_fs3 g_98 k_fs4 g_99 k_fs5 g_100 k_fhi fhi k_flo flo au (nI nc) (nI np) (nI ne) st0 q4 q5 q6 q7 q8 q9 q10 q11 q12 q13 q14 q15 q16 k_f4 f4 k_f5 (bN 7 q_f5) k_f6 (bN 7 q_f6) k_f7 f7 k_f8 (bN 4 q_f8) k_f9 (bN 2 q_f9) k_f10 f10 k_f11 f11 k_f12 f12 k_f13 f13 k_f14 f14 k_f15 f15 k_f16 f16) ++ zp 4 16 N az ac kz g_101 g_102) H ∧ va_D A ((gs1__w g gz g1 g2 g3 g4 g5 (nI g_92) (nI g_93) g_94 gway gav ggoal (nI g_95) 120 (nI gl) (nI gsz) g16 g17 k_fgz (zs o 121 az) k_fs1 (bN 7 g_96) k_fs2 g_97 k_fs3 g_98 k_fs4 g_99 k_fs5 g_100 k_fhi fhi k_flo flo au (nI nc) (nI np) (nI ne) st0 q4 q5 q6 q7 q8 q9 q10 q11 q12 q13 q14 q15 q16 k_f4 f4 k_f5 (bN 7 q_f5) k_f6 (bN 7 q_f6) k_f7 f7 k_f8 (bN 4 q_f8) k_f9 (bN 2 q_f9) k_f10 f10 k_f11 f11 k_f12 f12 k_f13 f13 k_f14 f14 k_f15 f15 k_f16 f16) ++ zp 4 16 N az ac kz g_101 g_102) ∧ va_S A s.heap H locs ∧ lv_has ls 4 [(0, .ref g), (1, .ref au), (2, .int (nI g_23)), (3, .int (nI g_75))]) 69 ?_ (fun j_105 => ?_)
          · rintro H locs ls st ⟨g_92, g_93, g_94, g_95, g_96, g_97, g_98, g_99, g_100, g_101, g_102, rfl, hg_92, hg_93, hg_95, he_103, he_104, he_107, hP, hD, hS, hl⟩
            rw [← he_107] at hsp
            refine lv_iinc (v := (nI (g_75 + 1))) (lv' := [(3, .int (nI (g_75 + 1))), (0, .ref g), (1, .ref au), (2, .int (nI g_23))]) hx hb eX1_grow_69 hl (k := 3) rfl (nI_1 _) (by decide) rfl (fun ls hl => ?_)
            refine lv_goto (tgt := 19) hx hb eX1_grow_72 (by decide) ?_
            exact ih_80 (14 - (g_75 + 1)) (by omega) _ _ _ ⟨g_96, g_97, g_98, g_99, g_100, g_95, g_92, g_93, g_94, (g_75 + 1), g_102, g_101, rfl, hg_95, hg_92, hg_93, (by omega), by first | assumption | exact gz_0, by omega, hin_84 _ hsp, hP, hD, hS, lv_sub hl [1, 2, 3, 0] rfl⟩
          have hsp := hJR_106
          refine lv_icmp_ne (tgt := 69) hx hb eX1_grow_46 (by decide) (fun c_108 => ?_) (fun c_108 => ?_)
          · have c_108 : ¬ u_89 = u_91 := fun z => c_108 ((nI_eq (a := u_89) (b := u_91) (Nat.lt_of_le_of_lt hu_89 (Nat.le_of_ble_eq_true rfl)) (Nat.lt_of_le_of_lt hu_91 (Nat.le_of_ble_eq_true rfl))).mpr z)
            have hsp := hsp.trans (if_neg c_108)
            exact j_105 _ _ _ _ ⟨g_72, g_73, g_74, g_71, g_66, g_67, g_68, g_69, g_70, g_77, g_76, rfl, hg_72, hg_73, hg_71, by first | assumption | exact gz_0, by omega, hsp.symm, hP, hD, hS, lv_sub hl [0, 1, 2, 3] rfl⟩
          · have c_108 : u_89 = u_91 := (nI_eq (a := u_89) (b := u_91) (Nat.lt_of_le_of_lt hu_89 (Nat.le_of_ble_eq_true rfl)) (Nat.lt_of_le_of_lt hu_91 (Nat.le_of_ble_eq_true rfl))).mp c_108
            have hsp := hsp.trans (if_pos c_108)
            refine lv_aload_n hx hb eX1_grow_49 rfl (lv_at hl 1 rfl) ?_
            refine va_get (D := (dC, dI)) (ci := 0) (v := .ref q6) (C := RX0) (T := TX0) (N := 17) hx hb hts hiX0 hown hK hP 9 rfl rfl 6 (by decide) v_6 (fun _ h9 => h9) rfl eX1_grow_50 ?_
            refine lv_iload_n hx hb eX1_grow_53 rfl (lv_at hl 3 rfl) ?_
            refine va_iald hx hb hK hP 12 10 rfl rfl (vp_in_nI (n := g_75) (by omega) (Nat.le_of_ble_eq_true rfl)) eX1_grow_54 ?_
            refine lv_topi (fun y_109 ey_109 => ?_)
            obtain ⟨u_110, hu_110, qu_110, xu_110⟩ := bN_getx 7 q_f6 (n := g_75) (Nat.lt_of_le_of_lt hg_75 (Nat.le_of_ble_eq_true rfl))
            obtain rfl : y_109 = nI u_110 := ey_109.trans qu_110
            have hsp := hsp.trans (slet_eq xu_110)
            refine lv_aload_n hx hb eX1_grow_55 rfl (lv_at hl 0 rfl) ?_
            refine va_get (D := (dC, dI)) (ci := 1) (v := .int gav) (C := RX1) (T := TX1) (N := 18) hx hb hts hiX1 hown hK hP 0 rfl rfl 10 (by decide) v_7 (fun _ h9 => h9) rfl eX1_grow_56 ?_
            refine lv_icmp_eq (tgt := 69) hx hb eX1_grow_59 (by decide) (fun c_111 => ?_) (fun c_111 => ?_)
            · have hcc_111 := c_111
              have hsp := hsp.trans (if_pos c_111)
              exact j_105 _ _ _ _ ⟨g_72, g_73, g_74, g_71, g_66, g_67, g_68, g_69, g_70, g_77, g_76, rfl, hg_72, hg_73, hg_71, by first | assumption | exact gz_0, by omega, hsp.symm, hP, hD, hS, lv_sub hl [0, 1, 2, 3] rfl⟩
            · have hcc_111 := c_111
              have hsp := hsp.trans (if_neg c_111)
              refine lv_aload_n hx hb eX1_grow_62 rfl (lv_at hl 0 rfl) ?_
              refine lv_aload_n hx hb eX1_grow_63 rfl (lv_at hl 1 rfl) ?_
              refine lv_iload_n hx hb eX1_grow_64 rfl (lv_at hl 2 rfl) ?_
              refine lv_iload_n hx hb eX1_grow_65 rfl (lv_at hl 3 rfl) ?_
              have hFc := pu_free hD hS hA
              refine va_callv (va_runV (As := [.ref au, .int (nI g_23), .int (nI g_75)]) (rest := []) ⟨hx, hb, hml, hown, hts⟩ (c_E_1_step_16 l dC dI _ g gz g1 g2 g3 g4 g5 g_72 g_73 g_74 gway gav ggoal g_71 gl gsz g16 g17 k_fgz k_fs1 g_66 k_fs2 g_67 k_fs3 g_68 k_fs4 g_69 k_fs5 g_70 k_fhi fhi k_flo flo au nc np ne st0 q4 q5 q6 q7 q8 q9 q10 q11 q12 q13 q14 q15 q16 k_f4 f4 k_f5 q_f5 k_f6 q_f6 k_f7 f7 k_f8 q_f8 k_f9 q_f9 k_f10 f10 k_f11 f11 k_f12 f12 k_f13 f13 k_f14 f14 k_f15 f15 k_f16 f16 N o az ac kz g_77 g_76 g_23 g_75 hg_72 hg_73 hg_71 hgl hgsz hnc hnp hne (hst0) (by omega) (by omega) (by omega) (by first | assumption | exact gz_0) (by omega)) (cwV 3 hts g_E_1_grow_16_E_1_step_16 rfl rfl rfl (by decide +kernel) ⟨Nat.le_of_ble_eq_true rfl, Nat.le_of_ble_eq_true rfl⟩) ⟨pu_bl, va_recv hK hP (ci := 1) (q0 := 0) rfl rfl, pu_in hP hK hD⟩ rfl rfl hl.1 rfl (lv_room (Nat.le_of_ble_eq_true rfl)) eX1_grow_66 ⟨Nat.le_of_ble_eq_true rfl, Nat.le_of_ble_eq_true rfl⟩) hS (fun q _ h => hFc q h) hFc (fun u t H1 locs ht hvm hw hB hz1 hk1 hS => ?_)
              obtain ⟨z_fs1_113, z_fs2_114, z_fs3_115, z_fs4_116, z_fs5_117, z_gfound_118, z_gc_119, z_gfull_120, z_gx_121, z_fz_122, z_qs_123, ⟨hP1, -, hD1⟩, hz_gfound_118, hz_gc_119, hz_gfull_120, xr_112_0, xr_112_1, xr_112_2⟩ := hB
              rw [ht] at hP1
              have hP := hP1
              have hD := pu_all hFc hD1
              clear hP1 hD1 hFc
              clear hk1 hz1 ht hvm
              generalize H1 = H at hP hS ⊢
              have hsp := hsp.trans (slet_eq xr_112_2)
              exact j_105 _ _ _ _ ⟨z_gc_119, z_gfull_120, z_gx_121, z_gfound_118, z_fs1_113, z_fs2_114, z_fs3_115, z_fs4_116, z_fs5_117, z_qs_123, z_fz_122, rfl, hz_gc_119, hz_gfull_120, hz_gfound_118, by first | assumption | exact gz_0, by omega, hsp.symm, hP, hD, hS, lv_sub hl [0, 1, 2, 3] rfl⟩
