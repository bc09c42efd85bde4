theorem eX1_open_0 : decode cX1_open 0 = .ok (.aload_n 0, 1) := by decide +kernel
theorem eX1_open_1 : decode cX1_open 1 = .ok (.iconst 0, 1) := by decide +kernel
theorem eX1_open_2 : decode cX1_open 2 = .ok (.putfield 79, 3) := by decide +kernel
theorem eX1_open_5 : decode cX1_open 5 = .ok (.aload_n 0, 1) := by decide +kernel
theorem eX1_open_6 : decode cX1_open 6 = .ok (.iconst 0, 1) := by decide +kernel
theorem eX1_open_7 : decode cX1_open 7 = .ok (.putfield 82, 3) := by decide +kernel
theorem eX1_open_10 : decode cX1_open 10 = .ok (.aload_n 0, 1) := by decide +kernel
theorem eX1_open_11 : decode cX1_open 11 = .ok (.iconst 0, 1) := by decide +kernel
theorem eX1_open_12 : decode cX1_open 12 = .ok (.putfield 85, 3) := by decide +kernel
theorem eX1_open_15 : decode cX1_open 15 = .ok (.aload_n 0, 1) := by decide +kernel
theorem eX1_open_16 : decode cX1_open 16 = .ok (.getfield 17, 3) := by decide +kernel
theorem eX1_open_19 : decode cX1_open 19 = .ok (.iconst 0, 1) := by decide +kernel
theorem eX1_open_20 : decode cX1_open 20 = .ok (.aaload, 1) := by decide +kernel
theorem eX1_open_21 : decode cX1_open 21 = .ok (.astore 4, 2) := by decide +kernel
theorem eX1_open_23 : decode cX1_open 23 = .ok (.aload 4, 2) := by decide +kernel
theorem eX1_open_25 : decode cX1_open 25 = .ok (.aload_n 0, 1) := by decide +kernel
theorem eX1_open_26 : decode cX1_open 26 = .ok (.getfield 53, 3) := by decide +kernel
theorem eX1_open_29 : decode cX1_open 29 = .ok (.aload_n 3, 1) := by decide +kernel
theorem eX1_open_30 : decode cX1_open 30 = .ok (.invokevirtual 88, 3) := by decide +kernel
theorem eX1_open_33 : decode cX1_open 33 = .ok (.iload_n 2, 1) := by decide +kernel
theorem eX1_open_34 : decode cX1_open 34 = .ok (.aload_n 0, 1) := by decide +kernel
theorem eX1_open_35 : decode cX1_open 35 = .ok (.getfield 56, 3) := by decide +kernel
theorem eX1_open_38 : decode cX1_open 38 = .ok (.if_icmp .eq 51, 3) := by decide +kernel
theorem eX1_open_41 : decode cX1_open 41 = .ok (.aload_n 1, 1) := by decide +kernel
theorem eX1_open_42 : decode cX1_open 42 = .ok (.aload 4, 2) := by decide +kernel
theorem eX1_open_44 : decode cX1_open 44 = .ok (.iload_n 2, 1) := by decide +kernel
theorem eX1_open_45 : decode cX1_open 45 = .ok (.invokestatic 92, 3) := by decide +kernel
theorem eX1_open_48 : decode cX1_open 48 = .ok (.iconst 0, 1) := by decide +kernel
theorem eX1_open_49 : decode cX1_open 49 = .ok (.invokevirtual 96, 3) := by decide +kernel
theorem eX1_open_52 : decode cX1_open 52 = .ok (.ifCond .eq 37, 3) := by decide +kernel
theorem eX1_open_55 : decode cX1_open 55 = .ok (.aload_n 1, 1) := by decide +kernel
theorem eX1_open_56 : decode cX1_open 56 = .ok (.aload 4, 2) := by decide +kernel
theorem eX1_open_58 : decode cX1_open 58 = .ok (.iload_n 2, 1) := by decide +kernel
theorem eX1_open_59 : decode cX1_open 59 = .ok (.invokevirtual 100, 3) := by decide +kernel
theorem eX1_open_62 : decode cX1_open 62 = .ok (.aload_n 0, 1) := by decide +kernel
theorem eX1_open_63 : decode cX1_open 63 = .ok (.getfield 46, 3) := by decide +kernel
theorem eX1_open_66 : decode cX1_open 66 = .ok (.ifCond .eq 16, 3) := by decide +kernel
theorem eX1_open_69 : decode cX1_open 69 = .ok (.aload 4, 2) := by decide +kernel
theorem eX1_open_71 : decode cX1_open 71 = .ok (.aload_n 0, 1) := by decide +kernel
theorem eX1_open_72 : decode cX1_open 72 = .ok (.getfield 40, 3) := by decide +kernel
theorem eX1_open_75 : decode cX1_open 75 = .ok (.aload_n 0, 1) := by decide +kernel
theorem eX1_open_76 : decode cX1_open 76 = .ok (.getfield 43, 3) := by decide +kernel
theorem eX1_open_79 : decode cX1_open 79 = .ok (.invokevirtual 104, 3) := by decide +kernel
theorem eX1_open_82 : decode cX1_open 82 = .ok (.aload_n 0, 1) := by decide +kernel
theorem eX1_open_83 : decode cX1_open 83 = .ok (.iload_n 2, 1) := by decide +kernel
theorem eX1_open_84 : decode cX1_open 84 = .ok (.iconst (-1), 1) := by decide +kernel
theorem eX1_open_85 : decode cX1_open 85 = .ok (.iconst (-1), 1) := by decide +kernel
theorem eX1_open_86 : decode cX1_open 86 = .ok (.invokevirtual 108, 3) := by decide +kernel
theorem eX1_open_89 : decode cX1_open 89 = .ok (.return_, 1) := by decide +kernel
abbrev vs_E_1_open_16 : List Cond := .code yX1_open cX1_open 5 none :: CM
theorem g_E_1_open_16_E_7_setPoint_16 : GoodIn vs_E_1_open_16 (wsV RX1 88 RX7 yX7_setPoint vs_E_7_setPoint_16) := cm_gV cm_93 cm_94 cm_95 cm_45 cm_96
theorem g_E_1_open_16_E_0_hostOfPlace : GoodIn vs_E_1_open_16 (va_wsS RX1 92 yX0_hostOfPlace vs_E_0_hostOfPlace) := cm_gS cm_97 cm_55 cm_19 cm_0
theorem g_E_1_open_16_E_0_narrowTo_16 : GoodIn vs_E_1_open_16 (wsV RX1 96 RX0 yX0_narrowTo vs_E_0_narrowTo_16) := cm_gV cm_98 cm_52 cm_53 cm_19 cm_41
theorem g_E_1_open_16_E_0_stayIn_16 : GoodIn vs_E_1_open_16 (wsV RX1 100 RX0 yX0_stayIn vs_E_0_stayIn_16) := cm_gV cm_99 cm_100 cm_101 cm_19 cm_61
theorem g_E_1_open_16_E_1_record0_16 : GoodIn vs_E_1_open_16 (wsV RX1 108 RX1 yX1_record vs_E_1_record0_16) := cm_gV cm_110 cm_111 cm_112 cm_113 cm_114
theorem g_E_1_open_16_E_7_forget_16 : GoodIn vs_E_1_open_16 (wsV RX1 104 RX7 yX7_forget vs_E_7_forget_16) := cm_gV cm_102 cm_103 cm_104 cm_45 cm_105
noncomputable def sp_E_1_open_16 (gway : Int32) (gav : Int32) (ggoal : Int32) (gfound : Nat) (gsz : Nat) (q_fs1 : Nat → Nat) (fs2 : Nat → Int32) (fs3 : Nat → Int32) (fs4 : Nat → Int32) (fs5 : Nat → Int32) (fhi : Nat → Int32) (flo : Nat → Int32) (f4 : Nat → Int32) (q_f8 : Nat → Nat) (q_f9 : Nat → Nat) (f12 : Nat → Int32) (f13 : Nat → Int32) (fbu : Nat → Int32) (o : Nat) (qs : Nat → Nat) (fz : Nat → Nat → Int32) (a1 : Nat) : (Nat → Nat) × (Nat → Int32) × (Nat → Int32) × (Nat → Int32) × (Nat → Int32) × Nat × Nat × Nat × Int32 × (Nat → Nat → Int32) × (Nat → Nat) := (slet (sp_E_7_setPoint_16 fbu (fz (o + 0)) gsz) (fun z_fz_2 => (slet (updN qs (o + 0) gsz) (fun qs_3 => (slet (updZ fz (o + 0) z_fz_2) (fun fz_4 => (if ((nI a1) : Int32) = gav then (q_fs1, fs2, fs3, fs4, fs5, gfound, 0, 0, 0, fz_4, qs_3) else (slet (sp_E_0_narrowTo_16 q_f8 q_f9 f12 f13 (min (qs_3 (o + 0)) 4) (fz_4 (o + 0)) (14 + a1) 0) (fun (u_11, z_fz_8) => (slet (updZ fz_4 (o + 0) z_fz_8) (fun fz_10 => (if u_11 = 0 then (q_fs1, fs2, fs3, fs4, fs5, gfound, 0, 0, 0, fz_10, qs_3) else (slet (sp_E_0_stayIn_16 f4 q_f8 q_f9 f12 f13 (min (qs_3 (o + 0)) 4) (fz_10 (o + 0)) a1) (fun z_fz_14 => (slet (updZ fz_10 (o + 0) z_fz_14) (fun fz_16 => (slet (α := (Nat → Nat → Int32)) (if (gway : Int32) = 0 then fz_16 else (slet (sp_E_7_forget_16 fhi flo (min (qs_3 (o + 0)) 4) (fz_16 (o + 0))) (fun z_fz_30 => (slet (updZ fz_16 (o + 0) z_fz_30) (fun fz_32 => fz_32))))) (fun g_17 => (slet (sp_E_1_record0_16 0 ggoal gfound q_fs1 fs2 fs3 fs4 fs5 a1) (fun (z_fs1_22, z_fs2_23, z_fs3_24, z_fs4_25, z_fs5_26, z_gfound_27) => (z_fs1_22, z_fs2_23, z_fs3_24, z_fs4_25, z_fs5_26, z_gfound_27, (0 + 1), 0, 0, g_17, qs_3)))))))))))))))))))))
set_option maxHeartbeats 4000000 in
set_option maxRecDepth 100000 in
theorem c_E_1_open_16 (l : Launch) (dC : Nat → ClassId) (dI : Nat → Nat → Nat) (sz : Nat) (g : Nat) (gz : Nat) (g1 : Nat) (g2 : Nat) (g3 : Nat) (g4 : Nat) (g5 : Nat) (gc : Nat) (gfull : Nat) (gx : Int32) (gway : Int32) (gav : Int32) (ggoal : Int32) (gfound : Nat) (gl : Nat) (gsz : Nat) (g16 : Nat) (g17 : Nat) (k_fgz : ClassId) (k_fs1 : ClassId) (q_fs1 : Nat → Nat) (k_fs2 : ClassId) (fs2 : Nat → Int32) (k_fs3 : ClassId) (fs3 : Nat → Int32) (k_fs4 : ClassId) (fs4 : Nat → Int32) (k_fs5 : ClassId) (fs5 : Nat → Int32) (k_fhi : ClassId) (fhi : Nat → Int32) (k_flo : ClassId) (flo : Nat → Int32) (au : Nat) (nc : Nat) (np : Nat) (ne : Nat) (st0 : Int32) (q4 : Nat) (q5 : Nat) (q6 : Nat) (q7 : Nat) (q8 : Nat) (q9 : Nat) (q10 : Nat) (q11 : Nat) (q12 : Nat) (q13 : Nat) (q14 : Nat) (q15 : Nat) (q16 : Nat) (k_f4 : ClassId) (f4 : Nat → Int32) (k_f5 : ClassId) (q_f5 : Nat → Nat) (k_f6 : ClassId) (q_f6 : Nat → Nat) (k_f7 : ClassId) (f7 : Nat → Int32) (k_f8 : ClassId) (q_f8 : Nat → Nat) (k_f9 : ClassId) (q_f9 : Nat → Nat) (k_f10 : ClassId) (f10 : Nat → Int32) (k_f11 : ClassId) (f11 : Nat → Int32) (k_f12 : ClassId) (f12 : Nat → Int32) (k_f13 : ClassId) (f13 : Nat → Int32) (k_f14 : ClassId) (f14 : Nat → Int32) (k_f15 : ClassId) (f15 : Nat → Int32) (k_f16 : ClassId) (f16 : Nat → Int32) (bu : Nat) (k_fbu : ClassId) (fbu : Nat → Int32) (N : Nat) (o : Nat) (az ac : Nat → Nat) (kz : Nat → ClassId) (qs : Nat → Nat) (fz : Nat → Nat → Int32) (a1 : Nat) (hgc : gc ≤ 120) (hgfull : gfull ≤ 1) (hgfound : gfound ≤ 1) (hgl : gl ≤ 1) (hgsz : gsz ≤ 4) (hnc : nc ≤ 3) (hnp : np ≤ 8) (hne : ne ≤ 14) (hst0 : pm1 7 st0) (hN : o + 121 ≤ N) (ha1 : a1 ≤ 7) : Met l yX1_open vs_E_1_open_16 ({ frames := 3, cells := 0, slots := 0, locals := 77 }) (va_Pc [.ref g, .ref au, .int (nI a1), .ref bu] (pu_B (dC, dI) ((gs2__w g gz g1 g2 g3 g4 g5 (nI gc) (nI gfull) gx gway gav ggoal (nI gfound) 120 (nI gl) (nI gsz) g16 g17 k_fgz (zs o 121 az) k_fs1 (bN 7 q_fs1) k_fs2 fs2 k_fs3 fs3 k_fs4 fs4 k_fs5 fs5 k_fhi fhi k_flo flo au (nI nc) (nI np) (nI ne) st0 q4 q5 q6 q7 q8 q9 q10 q11 q12 q13 q14 q15 q16 k_f4 f4 k_f5 (bN 7 q_f5) k_f6 (bN 7 q_f6) k_f7 f7 k_f8 (bN 4 q_f8) k_f9 (bN 2 q_f9) k_f10 f10 k_f11 f11 k_f12 f12 k_f13 f13 k_f14 f14 k_f15 f15 k_f16 f16 bu k_fbu fbu) ++ zp 4 16 N az ac kz qs fz) ((gs2__t k_fgz k_fs1 k_fs2 k_fs3 k_fs4 k_fs5 k_fhi k_flo k_f4 k_f5 k_f6 k_f7 k_f8 k_f9 k_f10 k_f11 k_f12 k_f13 k_f14 k_f15 k_f16 k_fbu) ++ zt N kz) sz)) (va_Qv (fun (_ : Unit) => True) (fun _ t => ∃ (z_fs1 : Nat → Nat) (z_fs2 : Nat → Int32) (z_fs3 : Nat → Int32) (z_fs4 : Nat → Int32) (z_fs5 : Nat → Int32) (z_gfound : Nat) (z_gc : Nat) (z_gfull : Nat) (z_gx : Int32) (z_fz : Nat → Nat → Int32) (z_qs : Nat → Nat), pu_E (dC, dI) ((gs2__w g gz g1 g2 g3 g4 g5 (nI z_gc) (nI z_gfull) z_gx gway gav ggoal (nI z_gfound) 120 (nI gl) (nI gsz) g16 g17 k_fgz (zs o 121 az) k_fs1 (bN 7 z_fs1) k_fs2 z_fs2 k_fs3 z_fs3 k_fs4 z_fs4 k_fs5 z_fs5 k_fhi fhi k_flo flo au (nI nc) (nI np) (nI ne) st0 q4 q5 q6 q7 q8 q9 q10 q11 q12 q13 q14 q15 q16 k_f4 f4 k_f5 (bN 7 q_f5) k_f6 (bN 7 q_f6) k_f7 f7 k_f8 (bN 4 q_f8) k_f9 (bN 2 q_f9) k_f10 f10 k_f11 f11 k_f12 f12 k_f13 f13 k_f14 f14 k_f15 f15 k_f16 f16 bu k_fbu fbu) ++ zp 4 16 N az ac kz z_qs z_fz) ((gs2__t k_fgz k_fs1 k_fs2 k_fs3 k_fs4 k_fs5 k_fhi k_flo k_f4 k_f5 k_f6 k_f7 k_f8 k_f9 k_f10 k_f11 k_f12 k_f13 k_f14 k_f15 k_f16 k_fbu) ++ zt N kz) (va_A (((gs2__w g gz g1 g2 g3 g4 g5 (nI gc) (nI gfull) gx gway gav ggoal (nI gfound) 120 (nI gl) (nI gsz) g16 g17 k_fgz (zs o 121 az) k_fs1 (bN 7 q_fs1) k_fs2 fs2 k_fs3 fs3 k_fs4 fs4 k_fs5 fs5 k_fhi fhi k_flo flo au (nI nc) (nI np) (nI ne) st0 q4 q5 q6 q7 q8 q9 q10 q11 q12 q13 q14 q15 q16 k_f4 f4 k_f5 (bN 7 q_f5) k_f6 (bN 7 q_f6) k_f7 f7 k_f8 (bN 4 q_f8) k_f9 (bN 2 q_f9) k_f10 f10 k_f11 f11 k_f12 f12 k_f13 f13 k_f14 f14 k_f15 f15 k_f16 f16 bu k_fbu fbu) ++ zp 4 16 N az ac kz qs fz)) sz) t ∧ (z_gfound ≤ 1) ∧ (z_gc ≤ 120) ∧ (z_gfull ≤ 1) ∧ (gz_ok z_gc z_fs2 z_fs3 z_fs4) ∧ ((z_fs1, z_fs2, z_fs3, z_fs4, z_fs5, z_gfound, z_gc, z_gfull, z_gx, z_fz, z_qs) = (sp_E_1_open_16 gway gav ggoal gfound gsz q_fs1 fs2 fs3 fs4 fs5 fhi flo f4 q_f8 q_f9 f12 f13 fbu o qs fz a1))) (va_A (((gs2__w g gz g1 g2 g3 g4 g5 (nI gc) (nI gfull) gx gway gav ggoal (nI gfound) 120 (nI gl) (nI gsz) g16 g17 k_fgz (zs o 121 az) k_fs1 (bN 7 q_fs1) k_fs2 fs2 k_fs3 fs3 k_fs4 fs4 k_fs5 fs5 k_fhi fhi k_flo flo au (nI nc) (nI np) (nI ne) st0 q4 q5 q6 q7 q8 q9 q10 q11 q12 q13 q14 q15 q16 k_f4 f4 k_f5 (bN 7 q_f5) k_f6 (bN 7 q_f6) k_f7 f7 k_f8 (bN 4 q_f8) k_f9 (bN 2 q_f9) k_f10 f10 k_f11 f11 k_f12 f12 k_f13 f13 k_f14 f14 k_f15 f15 k_f16 f16 bu k_fbu fbu) ++ zp 4 16 N az ac kz qs fz)) sz)) 0 0 (va_A (((gs2__w g gz g1 g2 g3 g4 g5 (nI gc) (nI gfull) gx gway gav ggoal (nI gfound) 120 (nI gl) (nI gsz) g16 g17 k_fgz (zs o 121 az) k_fs1 (bN 7 q_fs1) k_fs2 fs2 k_fs3 fs3 k_fs4 fs4 k_fs5 fs5 k_fhi fhi k_flo flo au (nI nc) (nI np) (nI ne) st0 q4 q5 q6 q7 q8 q9 q10 q11 q12 q13 q14 q15 q16 k_f4 f4 k_f5 (bN 7 q_f5) k_f6 (bN 7 q_f6) k_f7 f7 k_f8 (bN 4 q_f8) k_f9 (bN 2 q_f9) k_f10 f10 k_f11 f11 k_f12 f12 k_f13 f13 k_f14 f14 k_f15 f15 k_f16 f16 bu k_fbu fbu) ++ zp 4 16 N az ac kz qs fz)) sz) := by
  refine Met.ofW (cc := cX1_open) (maxL := 5) (ret := none) (by decide) rfl ?_
  intro p e s m args below meth c s₁ B hml hv
  obtain ⟨rfl, rfl, hP, hK, hD0⟩ := hv
  have hx := B.exec
  have hb := B.bytes
  have hr := B.returns
  have hts := atoms_spec (ws := vs_E_1_open_16) B.pre
  have v_1 := hts (.fieldLink RX1 79 "ClockReach$Graph" "count" "I") (List.mem_cons_of_mem _ cm_89)
  have v_2 := hts (.fieldLink RX1 82 "ClockReach$Graph" "full" "Z") (List.mem_cons_of_mem _ cm_90)
  have v_3 := hts (.fieldLink RX1 85 "ClockReach$Graph" "crossed" "I") (List.mem_cons_of_mem _ cm_91)
  have v_4 := hts (.fieldLink RX1 17 "ClockReach$Graph" "zones" "[LClockReach$Zone;") (List.mem_cons_of_mem _ cm_92)
  have v_5 := hts (.fieldLink RX1 53 "ClockReach$Graph" "size" "I") (List.mem_cons_of_mem _ cm_78)
  have v_11 := hts (.fieldLink RX1 56 "ClockReach$Graph" "avoided" "I") (List.mem_cons_of_mem _ cm_79)
  have v_24 := hts (.fieldLink RX1 46 "ClockReach$Graph" "way" "I") (List.mem_cons_of_mem _ cm_76)
  have v_25 := hts (.fieldLink RX1 40 "ClockReach$Graph" "high" "[I") (List.mem_cons_of_mem _ cm_83)
  have v_26 := hts (.fieldLink RX1 43 "ClockReach$Graph" "low" "[I") (List.mem_cons_of_mem _ cm_86)
  have hown : s.vm.findClass RX1 = some m.cls := findClass_of_methodNamed B.named
  have hlocks := B.notSynchronized
  have hiX1 : ∀ w ∈ wsX10, w ∈ vs_E_1_open_16 := fun _ h => List.mem_cons_of_mem _ (cm_X1 h)
  have hD := hD0.self (sz := s.heap.size)
  generalize hAe : va_A (((gs2__w g gz g1 g2 g3 g4 g5 (nI gc) (nI gfull) gx gway gav ggoal (nI gfound) 120 (nI gl) (nI gsz) g16 g17 k_fgz (zs o 121 az) k_fs1 (bN 7 q_fs1) k_fs2 fs2 k_fs3 fs3 k_fs4 fs4 k_fs5 fs5 k_fhi fhi k_flo flo au (nI nc) (nI np) (nI ne) st0 q4 q5 q6 q7 q8 q9 q10 q11 q12 q13 q14 q15 q16 k_f4 f4 k_f5 (bN 7 q_f5) k_f6 (bN 7 q_f6) k_f7 f7 k_f8 (bN 4 q_f8) k_f9 (bN 2 q_f9) k_f10 f10 k_f11 f11 k_f12 f12 k_f13 f13 k_f14 f14 k_f15 f15 k_f16 f16 bu k_fbu fbu) ++ zp 4 16 N az ac kz qs fz)) s.heap.size = A at hD ⊢
  have hA : ∀ q : Nat, s.heap.size ≤ q → A q := fun q h => by rw [← hAe]; exact Or.inr h
  have hS : va_S A s.heap s.heap [] := va_S.rf
  have hl := lv_entry ([.ref g, .ref au, .int (nI a1), .ref bu]) (n := 5) (Nat.le_of_ble_eq_true rfl)
  rw [lg_entry_eq]
  generalize (lg_sl ([.ref g, .ref au, .int (nI a1), .ref bu]) ++ List.replicate (5 - (lg_sl ([.ref g, .ref au, .int (nI a1), .ref bu])).length) Slot.unset).toArray = ls at hl ⊢
  have hl : lv_has ls 5 [(0, .ref g), (1, .ref au), (2, .int (nI a1)), (3, .ref bu)] := hl
  obtain ⟨RR, hRR⟩ : ∃ x, x = (sp_E_1_open_16 gway gav ggoal gfound gsz q_fs1 fs2 fs3 fs4 fs5 fhi flo f4 q_f8 q_f9 f12 f13 fbu o qs fz a1) := ⟨_, rfl⟩
  have hsp := hRR
  refine lv_aload_n hx hb eX1_open_0 rfl (lv_at hl 0 rfl) ?_
  refine lv_iconst (v := 0) hx hb eX1_open_1 (by decide) ?_
  refine va_put (D := (dC, dI)) (ci := 1) (v := .int 0) (ty := .int) (C := RX1) (T := TX1) (N := 18) hx hb hts hiX1 tyX1 tyX1_ok nmX1 hown hK hP hD hS 0 rfl rfl 6 (by decide) v_1 (fun _ h9 => h9) rfl (by decide +kernel) rfl rfl (Nat.le_of_ble_eq_true rfl) eX1_open_2 (fun H locs hP hD hS => ?_)
  have hP : va_P (dC, dI) vwCl ((gs2__w g gz g1 g2 g3 g4 g5 0 (nI gfull) gx gway gav ggoal (nI gfound) 120 (nI gl) (nI gsz) g16 g17 k_fgz (zs o 121 az) k_fs1 (bN 7 q_fs1) k_fs2 fs2 k_fs3 fs3 k_fs4 fs4 k_fs5 fs5 k_fhi fhi k_flo flo au (nI nc) (nI np) (nI ne) st0 q4 q5 q6 q7 q8 q9 q10 q11 q12 q13 q14 q15 q16 k_f4 f4 k_f5 (bN 7 q_f5) k_f6 (bN 7 q_f6) k_f7 f7 k_f8 (bN 4 q_f8) k_f9 (bN 2 q_f9) k_f10 f10 k_f11 f11 k_f12 f12 k_f13 f13 k_f14 f14 k_f15 f15 k_f16 f16 bu k_fbu fbu) ++ zp 4 16 N az ac kz qs fz) H := hP
  have hD : va_D A ((gs2__w g gz g1 g2 g3 g4 g5 0 (nI gfull) gx gway gav ggoal (nI gfound) 120 (nI gl) (nI gsz) g16 g17 k_fgz (zs o 121 az) k_fs1 (bN 7 q_fs1) k_fs2 fs2 k_fs3 fs3 k_fs4 fs4 k_fs5 fs5 k_fhi fhi k_flo flo au (nI nc) (nI np) (nI ne) st0 q4 q5 q6 q7 q8 q9 q10 q11 q12 q13 q14 q15 q16 k_f4 f4 k_f5 (bN 7 q_f5) k_f6 (bN 7 q_f6) k_f7 f7 k_f8 (bN 4 q_f8) k_f9 (bN 2 q_f9) k_f10 f10 k_f11 f11 k_f12 f12 k_f13 f13 k_f14 f14 k_f15 f15 k_f16 f16 bu k_fbu fbu) ++ zp 4 16 N az ac kz qs fz) := hD
  refine lv_aload_n hx hb eX1_open_5 rfl (lv_at hl 0 rfl) ?_
  refine lv_iconst (v := 0) hx hb eX1_open_6 (by decide) ?_
  refine va_put (D := (dC, dI)) (ci := 1) (v := .int 0) (ty := .boolean) (C := RX1) (T := TX1) (N := 18) hx hb hts hiX1 tyX1 tyX1_ok nmX1 hown hK hP hD hS 0 rfl rfl 7 (by decide) v_2 (fun _ h9 => h9) rfl (by decide +kernel) rfl rfl (Nat.le_of_ble_eq_true rfl) eX1_open_7 (fun H locs hP hD hS => ?_)
  have hP : va_P (dC, dI) vwCl ((gs2__w g gz g1 g2 g3 g4 g5 0 0 gx gway gav ggoal (nI gfound) 120 (nI gl) (nI gsz) g16 g17 k_fgz (zs o 121 az) k_fs1 (bN 7 q_fs1) k_fs2 fs2 k_fs3 fs3 k_fs4 fs4 k_fs5 fs5 k_fhi fhi k_flo flo au (nI nc) (nI np) (nI ne) st0 q4 q5 q6 q7 q8 q9 q10 q11 q12 q13 q14 q15 q16 k_f4 f4 k_f5 (bN 7 q_f5) k_f6 (bN 7 q_f6) k_f7 f7 k_f8 (bN 4 q_f8) k_f9 (bN 2 q_f9) k_f10 f10 k_f11 f11 k_f12 f12 k_f13 f13 k_f14 f14 k_f15 f15 k_f16 f16 bu k_fbu fbu) ++ zp 4 16 N az ac kz qs fz) H := hP
  have hD : va_D A ((gs2__w g gz g1 g2 g3 g4 g5 0 0 gx gway gav ggoal (nI gfound) 120 (nI gl) (nI gsz) g16 g17 k_fgz (zs o 121 az) k_fs1 (bN 7 q_fs1) k_fs2 fs2 k_fs3 fs3 k_fs4 fs4 k_fs5 fs5 k_fhi fhi k_flo flo au (nI nc) (nI np) (nI ne) st0 q4 q5 q6 q7 q8 q9 q10 q11 q12 q13 q14 q15 q16 k_f4 f4 k_f5 (bN 7 q_f5) k_f6 (bN 7 q_f6) k_f7 f7 k_f8 (bN 4 q_f8) k_f9 (bN 2 q_f9) k_f10 f10 k_f11 f11 k_f12 f12 k_f13 f13 k_f14 f14 k_f15 f15 k_f16 f16 bu k_fbu fbu) ++ zp 4 16 N az ac kz qs fz) := hD
  refine lv_aload_n hx hb eX1_open_10 rfl (lv_at hl 0 rfl) ?_
  refine lv_iconst (v := 0) hx hb eX1_open_11 (by decide) ?_
  refine va_put (D := (dC, dI)) (ci := 1) (v := .int 0) (ty := .int) (C := RX1) (T := TX1) (N := 18) hx hb hts hiX1 tyX1 tyX1_ok nmX1 hown hK hP hD hS 0 rfl rfl 8 (by decide) v_3 (fun _ h9 => h9) rfl (by decide +kernel) rfl rfl (Nat.le_of_ble_eq_true rfl) eX1_open_12 (fun H locs hP hD hS => ?_)
  have hP : va_P (dC, dI) vwCl ((gs2__w g gz g1 g2 g3 g4 g5 0 0 0 gway gav ggoal (nI gfound) 120 (nI gl) (nI gsz) g16 g17 k_fgz (zs o 121 az) k_fs1 (bN 7 q_fs1) k_fs2 fs2 k_fs3 fs3 k_fs4 fs4 k_fs5 fs5 k_fhi fhi k_flo flo au (nI nc) (nI np) (nI ne) st0 q4 q5 q6 q7 q8 q9 q10 q11 q12 q13 q14 q15 q16 k_f4 f4 k_f5 (bN 7 q_f5) k_f6 (bN 7 q_f6) k_f7 f7 k_f8 (bN 4 q_f8) k_f9 (bN 2 q_f9) k_f10 f10 k_f11 f11 k_f12 f12 k_f13 f13 k_f14 f14 k_f15 f15 k_f16 f16 bu k_fbu fbu) ++ zp 4 16 N az ac kz qs fz) H := hP
  have hD : va_D A ((gs2__w g gz g1 g2 g3 g4 g5 0 0 0 gway gav ggoal (nI gfound) 120 (nI gl) (nI gsz) g16 g17 k_fgz (zs o 121 az) k_fs1 (bN 7 q_fs1) k_fs2 fs2 k_fs3 fs3 k_fs4 fs4 k_fs5 fs5 k_fhi fhi k_flo flo au (nI nc) (nI np) (nI ne) st0 q4 q5 q6 q7 q8 q9 q10 q11 q12 q13 q14 q15 q16 k_f4 f4 k_f5 (bN 7 q_f5) k_f6 (bN 7 q_f6) k_f7 f7 k_f8 (bN 4 q_f8) k_f9 (bN 2 q_f9) k_f10 f10 k_f11 f11 k_f12 f12 k_f13 f13 k_f14 f14 k_f15 f15 k_f16 f16 bu k_fbu fbu) ++ zp 4 16 N az ac kz qs fz) := hD
  refine lv_aload_n hx hb eX1_open_15 rfl (lv_at hl 0 rfl) ?_
  refine va_get (D := (dC, dI)) (ci := 1) (v := .ref gz) (C := RX1) (T := TX1) (N := 18) hx hb hts hiX1 hown hK hP 0 rfl rfl 0 (by decide) v_4 (fun _ h9 => h9) rfl eX1_open_16 ?_
  refine lv_iconst (v := 0) hx hb eX1_open_19 (by decide) ?_
  refine va_aldq hx hb hK hP 1 0 rfl rfl (vp_in_nI (n := 0) (Nat.le_of_ble_eq_true rfl) (Nat.le_of_ble_eq_true rfl)) eX1_open_20 ?_
  refine W.eq (g2 := F0 m 21 ls [.ref (az (o + 0))]) (by rw [← zs_get (o := o) (n := 121) (k := 0) (az := az) (Nat.le_of_ble_eq_true rfl) (by omega)]; rfl) ?_
  refine lv_astore (lv' := [(4, .ref (az (o + 0))), (0, .ref g), (1, .ref au), (2, .int (nI a1)), (3, .ref bu)]) hx hb eX1_open_21 hl (by decide) rfl (fun ls hl => ?_)
  refine lv_aload hx hb eX1_open_23 (lv_at hl 0 rfl) ?_
  refine lv_aload_n hx hb eX1_open_25 rfl (lv_at hl 1 rfl) ?_
  refine va_get (D := (dC, dI)) (ci := 1) (v := .int (nI gsz)) (C := RX1) (T := TX1) (N := 18) hx hb hts hiX1 hown hK hP 0 rfl rfl 15 (by decide) v_5 (fun _ h9 => h9) rfl eX1_open_26 ?_
  refine lv_aload_n hx hb eX1_open_29 rfl (lv_at hl 4 rfl) ?_
  have hPz := zp_cut (k := (o + 0)) hP (by omega)
  have hPc : va_P (dC, dI) vwCl ([(bu, .inl (k_fbu, 5, .inl fbu))] ++ [(az (o + 0), .inr (7, [.ref (ac (o + 0)), .int (nI (min (qs (o + 0)) 4))])), (ac (o + 0), .inl (kz (o + 0), 16, .inl (fz (o + 0))))]) _ := va_P.app (hP.sub [23] rfl) hPz
  have hDc : va_D A ([(bu, .inl (k_fbu, 5, .inl fbu))] ++ [(az (o + 0), .inr (7, [.ref (ac (o + 0)), .int (nI (min (qs (o + 0)) 4))])), (ac (o + 0), .inl (kz (o + 0), 16, .inl (fz (o + 0))))]) := zp_cutD hD (by omega) [23] (by decide) rfl
  have hKc : va_K (dC, dI) vwCl ([(k_fbu, .int)] ++ [(kz (o + 0), .int)]) s := zp_K hK (by omega) [21] rfl
  have hFc := pu_free hDc hS hA
  refine va_callv (va_runV (As := [.int (nI gsz), .ref bu]) (rest := []) ⟨hx, hb, hml, hown, hts⟩ (c_E_7_setPoint_16 l dC dI _ bu k_fbu fbu (az (o + 0)) (ac (o + 0)) (min (qs (o + 0)) 4) (kz (o + 0)) (fz (o + 0)) gsz (Nat.min_le_right _ _) hgsz) (cwV 2 hts g_E_1_open_16_E_7_setPoint_16 rfl rfl rfl (by decide +kernel) ⟨Nat.le_of_ble_eq_true rfl, Nat.le_of_ble_eq_true rfl⟩) ⟨pu_bl, va_recv hK hPz (ci := 7) (q0 := 0) rfl rfl, pu_in hPc hKc hDc⟩ rfl rfl hl.1 rfl (lv_room (Nat.le_of_ble_eq_true rfl)) eX1_open_30 ⟨Nat.le_of_ble_eq_true rfl, Nat.le_of_ble_eq_true rfl⟩) hS (fun q _ h => hFc q h) hFc (fun u t H1 locs ht hvm hw hB hz1 hk1 hS => ?_)
  obtain ⟨z_fz_2, ⟨hP1, -, hD1⟩, xr_1_0⟩ := hB
  rw [ht] at hP1
  obtain ⟨hP, hD⟩ := zp_putx (wr := [(bu, .inl (k_fbu, 5, .inl fbu))]) (k := (o + 0)) hP hD (by omega) (fun q h => List.mem_append_left _ (pu_subm [23] rfl q h)) hk1 hgsz hP1
  obtain ⟨qs_3, xqs_3⟩ : ∃ q, q = updN qs (o + 0) gsz := ⟨_, rfl⟩
  rw [← xqs_3] at hP hD
  obtain ⟨fz_4, xfz_4⟩ : ∃ q, q = updZ fz (o + 0) z_fz_2 := ⟨_, rfl⟩
  rw [← xfz_4] at hP hD
  clear hP1 hD1 hFc
  clear hPc hDc hKc
  clear hk1 hz1 ht hvm
  generalize H1 = H at hP hS ⊢
  have hsp := hsp.trans (slet_eq xr_1_0)
  have hsp := hsp.trans (slet_eq xqs_3)
  have hsp := hsp.trans (slet_eq xfz_4)
  refine lv_iload_n hx hb eX1_open_33 rfl (lv_at hl 3 rfl) ?_
  refine lv_aload_n hx hb eX1_open_34 rfl (lv_at hl 1 rfl) ?_
  refine va_get (D := (dC, dI)) (ci := 1) (v := .int gav) (C := RX1) (T := TX1) (N := 18) hx hb hts hiX1 hown hK hP 0 rfl rfl 10 (by decide) v_11 (fun _ h9 => h9) rfl eX1_open_35 ?_
  refine lv_icmp_eq (tgt := 89) hx hb eX1_open_38 (by decide) (fun c_5 => ?_) (fun c_5 => ?_)
  · have hcc_5 := c_5
    have hsp := hsp.trans (if_pos c_5)
    exact W.vret hx hb hr (fun t ht hW => ⟨⟨(), rfl, trivial, ⟨q_fs1, fs2, fs3, fs4, fs5, gfound, 0, 0, 0, fz_4, qs_3, ⟨by rw [ht]; exact hP, va_K.moved hW.alike hK, hD⟩, hgfound, (Nat.le_of_ble_eq_true rfl), (Nat.le_of_ble_eq_true rfl), by first | assumption | exact gz_0, (hsp.symm.trans hRR)⟩⟩, hS.F ht⟩) hS.2.2 eX1_open_89
  · have hcc_5 := c_5
    have hsp := hsp.trans (if_neg c_5)
    refine lv_aload_n hx hb eX1_open_41 rfl (lv_at hl 2 rfl) ?_
    refine lv_aload hx hb eX1_open_42 (lv_at hl 0 rfl) ?_
    refine lv_iload_n hx hb eX1_open_44 rfl (lv_at hl 3 rfl) ?_
    have hPc : va_P (dC, dI) vwCl [] _ := hP.sub [] rfl
    have hDc : va_D A [] := (zp_left hD).sub [] (by decide) rfl
    have hKc : va_K (dC, dI) vwCl [] s := hK.sub [] rfl
    refine va_calli (va_runS (As := [.int (nI a1)]) (rest := [.ref (az (o + 0)), .ref au]) ⟨hx, hb, hml, hown, hts⟩ (c_E_0_hostOfPlace l dC dI _ a1 ha1) (va_cwS 1 hts g_E_1_open_16_E_0_hostOfPlace rfl rfl rfl (by decide +kernel) ⟨Nat.le_of_ble_eq_true rfl, Nat.le_of_ble_eq_true rfl⟩) ⟨pu_bl, pu_in hPc hKc hDc⟩ rfl rfl hl.1 rfl (lv_room (Nat.le_of_ble_eq_true rfl)) eX1_open_45 ⟨Nat.le_of_ble_eq_true rfl, Nat.le_of_ble_eq_true rfl⟩) hS (fun q _ h => pu_fr hS hA q h) (pu_fr hS hA) (fun r_6 u t H1 locs ht hvm hw hB hz1 hk1 hS => ?_)
    have hP := pu_keep hP hk1
    clear hPc hDc hKc
    clear hk1 hz1 ht hvm
    generalize H1 = H at hP hS ⊢
    obtain rfl : r_6 = nI (14 + a1) := hw
    refine lv_iconst (v := 0) hx hb eX1_open_48 (by decide) ?_
    have hPz := zp_cut (k := (o + 0)) hP (by omega)
    have hPc : va_P (dC, dI) vwCl ([(au, .inr (0, [.int (nI nc), .int (nI np), .int (nI ne), .int st0, .ref q4, .ref q5, .ref q6, .ref q7, .ref q8, .ref q9, .ref q10, .ref q11, .ref q12, .ref q13, .ref q14, .ref q15, .ref q16])), (q4, .inl (k_f4, 8, .inl f4)), (q5, .inl (k_f5, 14, .inl (bN 7 q_f5))), (q6, .inl (k_f6, 14, .inl (bN 7 q_f6))), (q7, .inl (k_f7, 14, .inl f7)), (q8, .inl (k_f8, 22, .inl (bN 4 q_f8))), (q9, .inl (k_f9, 88, .inl (bN 2 q_f9))), (q10, .inl (k_f10, 88, .inl f10)), (q11, .inl (k_f11, 88, .inl f11)), (q12, .inl (k_f12, 88, .inl f12)), (q13, .inl (k_f13, 88, .inl f13)), (q14, .inl (k_f14, 4, .inl f14)), (q15, .inl (k_f15, 4, .inl f15)), (q16, .inl (k_f16, 4, .inl f16))] ++ [(az (o + 0), .inr (7, [.ref (ac (o + 0)), .int (nI (min (qs_3 (o + 0)) 4))])), (ac (o + 0), .inl (kz (o + 0), 16, .inl (fz_4 (o + 0))))]) _ := va_P.app (hP.sub [9, 10, 11, 12, 13, 14, 15, 16, 17, 18, 19, 20, 21, 22] rfl) hPz
    have hDc : va_D A ([(au, .inr (0, [.int (nI nc), .int (nI np), .int (nI ne), .int st0, .ref q4, .ref q5, .ref q6, .ref q7, .ref q8, .ref q9, .ref q10, .ref q11, .ref q12, .ref q13, .ref q14, .ref q15, .ref q16])), (q4, .inl (k_f4, 8, .inl f4)), (q5, .inl (k_f5, 14, .inl (bN 7 q_f5))), (q6, .inl (k_f6, 14, .inl (bN 7 q_f6))), (q7, .inl (k_f7, 14, .inl f7)), (q8, .inl (k_f8, 22, .inl (bN 4 q_f8))), (q9, .inl (k_f9, 88, .inl (bN 2 q_f9))), (q10, .inl (k_f10, 88, .inl f10)), (q11, .inl (k_f11, 88, .inl f11)), (q12, .inl (k_f12, 88, .inl f12)), (q13, .inl (k_f13, 88, .inl f13)), (q14, .inl (k_f14, 4, .inl f14)), (q15, .inl (k_f15, 4, .inl f15)), (q16, .inl (k_f16, 4, .inl f16))] ++ [(az (o + 0), .inr (7, [.ref (ac (o + 0)), .int (nI (min (qs_3 (o + 0)) 4))])), (ac (o + 0), .inl (kz (o + 0), 16, .inl (fz_4 (o + 0))))]) := zp_cutD hD (by omega) [9, 10, 11, 12, 13, 14, 15, 16, 17, 18, 19, 20, 21, 22] (by decide) rfl
    have hKc : va_K (dC, dI) vwCl ([(k_f4, .boolean), (k_f5, .int), (k_f6, .int), (k_f7, .int), (k_f8, .int), (k_f9, .int), (k_f10, .int), (k_f11, .int), (k_f12, .int), (k_f13, .int), (k_f14, .int), (k_f15, .int), (k_f16, .int)] ++ [(kz (o + 0), .int)]) s := zp_K hK (by omega) [8, 9, 10, 11, 12, 13, 14, 15, 16, 17, 18, 19, 20] rfl
    have hFc := pu_free hDc hS hA
    refine va_calli (va_runV (As := [.ref (az (o + 0)), .int (nI (14 + a1)), .int 0]) (rest := []) ⟨hx, hb, hml, hown, hts⟩ (c_E_0_narrowTo_16 l dC dI _ au nc np ne st0 q4 q5 q6 q7 q8 q9 q10 q11 q12 q13 q14 q15 q16 k_f4 f4 k_f5 q_f5 k_f6 q_f6 k_f7 f7 k_f8 q_f8 k_f9 q_f9 k_f10 f10 k_f11 f11 k_f12 f12 k_f13 f13 k_f14 f14 k_f15 f15 k_f16 f16 (az (o + 0)) (ac (o + 0)) (min (qs_3 (o + 0)) 4) (kz (o + 0)) (fz_4 (o + 0)) (14 + a1) 0 hnc hnp hne (hst0) (Nat.min_le_right _ _) (by omega)) (cwV 3 hts g_E_1_open_16_E_0_narrowTo_16 rfl rfl rfl (by decide +kernel) ⟨Nat.le_of_ble_eq_true rfl, Nat.le_of_ble_eq_true rfl⟩) ⟨pu_bl, va_recv hK hP (ci := 0) (q0 := 9) rfl rfl, pu_in hPc hKc hDc⟩ rfl rfl hl.1 rfl (lv_room (Nat.le_of_ble_eq_true rfl)) eX1_open_49 ⟨Nat.le_of_ble_eq_true rfl, Nat.le_of_ble_eq_true rfl⟩) hS (fun q _ h => hFc q h) hFc (fun r_7 u t H1 locs ht hvm hw hB hz1 hk1 hS => ?_)
    obtain ⟨z_fz_8, ⟨hP1, -, hD1⟩, xr_7_0⟩ := hB
    rw [ht] at hP1
    obtain ⟨hP, hD⟩ := zp_putx (wr := [(au, .inr (0, [.int (nI nc), .int (nI np), .int (nI ne), .int st0, .ref q4, .ref q5, .ref q6, .ref q7, .ref q8, .ref q9, .ref q10, .ref q11, .ref q12, .ref q13, .ref q14, .ref q15, .ref q16])), (q4, .inl (k_f4, 8, .inl f4)), (q5, .inl (k_f5, 14, .inl (bN 7 q_f5))), (q6, .inl (k_f6, 14, .inl (bN 7 q_f6))), (q7, .inl (k_f7, 14, .inl f7)), (q8, .inl (k_f8, 22, .inl (bN 4 q_f8))), (q9, .inl (k_f9, 88, .inl (bN 2 q_f9))), (q10, .inl (k_f10, 88, .inl f10)), (q11, .inl (k_f11, 88, .inl f11)), (q12, .inl (k_f12, 88, .inl f12)), (q13, .inl (k_f13, 88, .inl f13)), (q14, .inl (k_f14, 4, .inl f14)), (q15, .inl (k_f15, 4, .inl f15)), (q16, .inl (k_f16, 4, .inl f16))]) (k := (o + 0)) hP hD (by omega) (fun q h => List.mem_append_left _ (pu_subm [9, 10, 11, 12, 13, 14, 15, 16, 17, 18, 19, 20, 21, 22] rfl q h)) hk1 (Nat.min_le_right _ _) hP1
    rw [zp_qsame] at hP hD
    obtain ⟨fz_10, xfz_10⟩ : ∃ q, q = updZ fz_4 (o + 0) z_fz_8 := ⟨_, rfl⟩
    rw [← xfz_10] at hP hD
    clear hP1 hD1 hFc
    clear hPc hDc hKc
    clear hk1 hz1 ht hvm
    generalize H1 = H at hP hS ⊢
    obtain ⟨u_11, hu_11, rfl, iu_11⟩ := hw
    have iu_11 : (u_11, z_fz_8) = (sp_E_0_narrowTo_16 q_f8 q_f9 f12 f13 (min (qs_3 (o + 0)) 4) (fz_4 (o + 0)) (14 + a1) 0) := Prod.ext iu_11 xr_7_0
    have hsp := hsp.trans (slet_eq iu_11)
    have hsp := hsp.trans (slet_eq xfz_10)
    refine lv_if_eq (tgt := 89) hx hb eX1_open_52 (by decide) (fun c_12 => ?_) (fun c_12 => ?_)
    · have c_12 : u_11 = 0 := (nI_eq (a := u_11) (b := 0) (Nat.lt_of_le_of_lt hu_11 (Nat.le_of_ble_eq_true rfl)) (Nat.le_of_ble_eq_true rfl)).mp c_12
      have hsp := hsp.trans (if_pos c_12)
      exact W.vret hx hb hr (fun t ht hW => ⟨⟨(), rfl, trivial, ⟨q_fs1, fs2, fs3, fs4, fs5, gfound, 0, 0, 0, fz_10, qs_3, ⟨by rw [ht]; exact hP, va_K.moved hW.alike hK, hD⟩, hgfound, (Nat.le_of_ble_eq_true rfl), (Nat.le_of_ble_eq_true rfl), by first | assumption | exact gz_0, (hsp.symm.trans hRR)⟩⟩, hS.F ht⟩) hS.2.2 eX1_open_89
    · have c_12 : ¬ u_11 = 0 := fun z => c_12 ((nI_eq (a := u_11) (b := 0) (Nat.lt_of_le_of_lt hu_11 (Nat.le_of_ble_eq_true rfl)) (Nat.le_of_ble_eq_true rfl)).mpr z)
      have hsp := hsp.trans (if_neg c_12)
      refine lv_aload_n hx hb eX1_open_55 rfl (lv_at hl 2 rfl) ?_
      refine lv_aload hx hb eX1_open_56 (lv_at hl 0 rfl) ?_
      refine lv_iload_n hx hb eX1_open_58 rfl (lv_at hl 3 rfl) ?_
      have hPz := zp_cut (k := (o + 0)) hP (by omega)
      have hPc : va_P (dC, dI) vwCl ([(au, .inr (0, [.int (nI nc), .int (nI np), .int (nI ne), .int st0, .ref q4, .ref q5, .ref q6, .ref q7, .ref q8, .ref q9, .ref q10, .ref q11, .ref q12, .ref q13, .ref q14, .ref q15, .ref q16])), (q4, .inl (k_f4, 8, .inl f4)), (q5, .inl (k_f5, 14, .inl (bN 7 q_f5))), (q6, .inl (k_f6, 14, .inl (bN 7 q_f6))), (q7, .inl (k_f7, 14, .inl f7)), (q8, .inl (k_f8, 22, .inl (bN 4 q_f8))), (q9, .inl (k_f9, 88, .inl (bN 2 q_f9))), (q10, .inl (k_f10, 88, .inl f10)), (q11, .inl (k_f11, 88, .inl f11)), (q12, .inl (k_f12, 88, .inl f12)), (q13, .inl (k_f13, 88, .inl f13)), (q14, .inl (k_f14, 4, .inl f14)), (q15, .inl (k_f15, 4, .inl f15)), (q16, .inl (k_f16, 4, .inl f16))] ++ [(az (o + 0), .inr (7, [.ref (ac (o + 0)), .int (nI (min (qs_3 (o + 0)) 4))])), (ac (o + 0), .inl (kz (o + 0), 16, .inl (fz_10 (o + 0))))]) _ := va_P.app (hP.sub [9, 10, 11, 12, 13, 14, 15, 16, 17, 18, 19, 20, 21, 22] rfl) hPz
      have hDc : va_D A ([(au, .inr (0, [.int (nI nc), .int (nI np), .int (nI ne), .int st0, .ref q4, .ref q5, .ref q6, .ref q7, .ref q8, .ref q9, .ref q10, .ref q11, .ref q12, .ref q13, .ref q14, .ref q15, .ref q16])), (q4, .inl (k_f4, 8, .inl f4)), (q5, .inl (k_f5, 14, .inl (bN 7 q_f5))), (q6, .inl (k_f6, 14, .inl (bN 7 q_f6))), (q7, .inl (k_f7, 14, .inl f7)), (q8, .inl (k_f8, 22, .inl (bN 4 q_f8))), (q9, .inl (k_f9, 88, .inl (bN 2 q_f9))), (q10, .inl (k_f10, 88, .inl f10)), (q11, .inl (k_f11, 88, .inl f11)), (q12, .inl (k_f12, 88, .inl f12)), (q13, .inl (k_f13, 88, .inl f13)), (q14, .inl (k_f14, 4, .inl f14)), (q15, .inl (k_f15, 4, .inl f15)), (q16, .inl (k_f16, 4, .inl f16))] ++ [(az (o + 0), .inr (7, [.ref (ac (o + 0)), .int (nI (min (qs_3 (o + 0)) 4))])), (ac (o + 0), .inl (kz (o + 0), 16, .inl (fz_10 (o + 0))))]) := zp_cutD hD (by omega) [9, 10, 11, 12, 13, 14, 15, 16, 17, 18, 19, 20, 21, 22] (by decide) rfl
      have hKc : va_K (dC, dI) vwCl ([(k_f4, .boolean), (k_f5, .int), (k_f6, .int), (k_f7, .int), (k_f8, .int), (k_f9, .int), (k_f10, .int), (k_f11, .int), (k_f12, .int), (k_f13, .int), (k_f14, .int), (k_f15, .int), (k_f16, .int)] ++ [(kz (o + 0), .int)]) s := zp_K hK (by omega) [8, 9, 10, 11, 12, 13, 14, 15, 16, 17, 18, 19, 20] rfl
      have hFc := pu_free hDc hS hA
      refine va_callv (va_runV (As := [.ref (az (o + 0)), .int (nI a1)]) (rest := []) ⟨hx, hb, hml, hown, hts⟩ (c_E_0_stayIn_16 l dC dI _ au nc np ne st0 q4 q5 q6 q7 q8 q9 q10 q11 q12 q13 q14 q15 q16 k_f4 f4 k_f5 q_f5 k_f6 q_f6 k_f7 f7 k_f8 q_f8 k_f9 q_f9 k_f10 f10 k_f11 f11 k_f12 f12 k_f13 f13 k_f14 f14 k_f15 f15 k_f16 f16 (az (o + 0)) (ac (o + 0)) (min (qs_3 (o + 0)) 4) (kz (o + 0)) (fz_10 (o + 0)) a1 hnc hnp hne (hst0) (Nat.min_le_right _ _) ha1) (cwV 2 hts g_E_1_open_16_E_0_stayIn_16 rfl rfl rfl (by decide +kernel) ⟨Nat.le_of_ble_eq_true rfl, Nat.le_of_ble_eq_true rfl⟩) ⟨pu_bl, va_recv hK hP (ci := 0) (q0 := 9) rfl rfl, pu_in hPc hKc hDc⟩ rfl rfl hl.1 rfl (lv_room (Nat.le_of_ble_eq_true rfl)) eX1_open_59 ⟨Nat.le_of_ble_eq_true rfl, Nat.le_of_ble_eq_true rfl⟩) hS (fun q _ h => hFc q h) hFc (fun u t H1 locs ht hvm hw hB hz1 hk1 hS => ?_)
      obtain ⟨z_fz_14, ⟨hP1, -, hD1⟩, xr_13_0⟩ := hB
      rw [ht] at hP1
      obtain ⟨hP, hD⟩ := zp_putx (wr := [(au, .inr (0, [.int (nI nc), .int (nI np), .int (nI ne), .int st0, .ref q4, .ref q5, .ref q6, .ref q7, .ref q8, .ref q9, .ref q10, .ref q11, .ref q12, .ref q13, .ref q14, .ref q15, .ref q16])), (q4, .inl (k_f4, 8, .inl f4)), (q5, .inl (k_f5, 14, .inl (bN 7 q_f5))), (q6, .inl (k_f6, 14, .inl (bN 7 q_f6))), (q7, .inl (k_f7, 14, .inl f7)), (q8, .inl (k_f8, 22, .inl (bN 4 q_f8))), (q9, .inl (k_f9, 88, .inl (bN 2 q_f9))), (q10, .inl (k_f10, 88, .inl f10)), (q11, .inl (k_f11, 88, .inl f11)), (q12, .inl (k_f12, 88, .inl f12)), (q13, .inl (k_f13, 88, .inl f13)), (q14, .inl (k_f14, 4, .inl f14)), (q15, .inl (k_f15, 4, .inl f15)), (q16, .inl (k_f16, 4, .inl f16))]) (k := (o + 0)) hP hD (by omega) (fun q h => List.mem_append_left _ (pu_subm [9, 10, 11, 12, 13, 14, 15, 16, 17, 18, 19, 20, 21, 22] rfl q h)) hk1 (Nat.min_le_right _ _) hP1
      rw [zp_qsame] at hP hD
      obtain ⟨fz_16, xfz_16⟩ : ∃ q, q = updZ fz_10 (o + 0) z_fz_14 := ⟨_, rfl⟩
      rw [← xfz_16] at hP hD
      clear hP1 hD1 hFc
      clear hPc hDc hKc
      clear hk1 hz1 ht hvm
      generalize H1 = H at hP hS ⊢
      have hsp := hsp.trans (slet_eq xr_13_0)
      have hsp := hsp.trans (slet_eq xfz_16)
      refine lv_aload_n hx hb eX1_open_62 rfl (lv_at hl 1 rfl) ?_
      refine va_get (D := (dC, dI)) (ci := 1) (v := .int gway) (C := RX1) (T := TX1) (N := 18) hx hb hts hiX1 hown hK hP 0 rfl rfl 9 (by decide) v_24 (fun _ h9 => h9) rfl eX1_open_63 ?_
      obtain ⟨JR_19, hJR_19, hsp⟩ := slet_ex hsp
      refine pu_join (fun H locs ls st => ∃ (g_17 : Nat → Nat → Int32), st = [] ∧ g_17 = JR_19 ∧ va_P (dC, dI) vwCl ((gs2__w g gz g1 g2 g3 g4 g5 0 0 0 gway gav ggoal (nI gfound) 120 (nI gl) (nI gsz) g16 g17 k_fgz (zs o 121 az) k_fs1 (bN 7 q_fs1) k_fs2 fs2 k_fs3 fs3 k_fs4 fs4 k_fs5 fs5 k_fhi fhi k_flo flo au (nI nc) (nI np) (nI ne) st0 q4 q5 q6 q7 q8 q9 q10 q11 q12 q13 q14 q15 q16 k_f4 f4 k_f5 (bN 7 q_f5) k_f6 (bN 7 q_f6) k_f7 f7 k_f8 (bN 4 q_f8) k_f9 (bN 2 q_f9) k_f10 f10 k_f11 f11 k_f12 f12 k_f13 f13 k_f14 f14 k_f15 f15 k_f16 f16 bu k_fbu fbu) ++ zp 4 16 N az ac kz qs_3 g_17) H ∧ va_D A ((gs2__w g gz g1 g2 g3 g4 g5 0 0 0 gway gav ggoal (nI gfound) 120 (nI gl) (nI gsz) g16 g17 k_fgz (zs o 121 az) k_fs1 (bN 7 q_fs1) k_fs2 fs2 k_fs3 fs3 k_fs4 fs4 k_fs5 fs5 k_fhi fhi k_flo flo au (nI nc) (nI np) (nI ne) st0 q4 q5 q6 q7 q8 q9 q10 q11 q12 q13 q14 q15 q16 k_f4 f4 k_f5 (bN 7 q_f5) k_f6 (bN 7 q_f6) k_f7 f7 k_f8 (bN 4 q_f8) k_f9 (bN 2 q_f9) k_f10 f10 k_f11 f11 k_f12 f12 k_f13 f13 k_f14 f14 k_f15 f15 k_f16 f16 bu k_fbu fbu) ++ zp 4 16 N az ac kz qs_3 g_17) ∧ va_S A s.heap H locs ∧ lv_has ls 5 [(0, .ref g), (1, .ref au), (2, .int (nI a1)), (3, .ref bu), (4, .ref (az (o + 0)))]) 82 ?_ (fun j_18 => ?_)
      · rintro H locs ls st ⟨g_17, rfl, he_20, hP, hD, hS, hl⟩
        rw [← he_20] at hsp
        refine lv_aload_n hx hb eX1_open_82 rfl (lv_at hl 0 rfl) ?_
        refine lv_iload_n hx hb eX1_open_83 rfl (lv_at hl 2 rfl) ?_
        refine lv_iconst (v := (-1)) hx hb eX1_open_84 (by decide) ?_
        refine lv_iconst (v := (-1)) hx hb eX1_open_85 (by decide) ?_
        have hPc : va_P (dC, dI) vwCl ([(g, .inr (1, [.ref gz, .ref g1, .ref g2, .ref g3, .ref g4, .ref g5, .int 0, .int 0, .int 0, .int gway, .int gav, .int ggoal, .int (nI gfound), .int 120, .int (nI gl), .int (nI gsz), .ref g16, .ref g17])), (gz, .inl (k_fgz, 121, .inr (.inr (.inr (.inr (zs o 121 az)))))), (g1, .inl (k_fs1, 120, .inl (bN 7 q_fs1))), (g2, .inl (k_fs2, 120, .inl fs2)), (g3, .inl (k_fs3, 120, .inl fs3)), (g4, .inl (k_fs4, 120, .inl fs4)), (g5, .inl (k_fs5, 120, .inl fs5)), (g16, .inl (k_fhi, 5, .inl fhi)), (g17, .inl (k_flo, 5, .inl flo))] ++ zp 4 16 N az ac kz qs_3 g_17) _ := hP.part [0, 1, 2, 3, 4, 5, 6, 7, 8] rfl
        have hDc : va_D A ([(g, .inr (1, [.ref gz, .ref g1, .ref g2, .ref g3, .ref g4, .ref g5, .int 0, .int 0, .int 0, .int gway, .int gav, .int ggoal, .int (nI gfound), .int 120, .int (nI gl), .int (nI gsz), .ref g16, .ref g17])), (gz, .inl (k_fgz, 121, .inr (.inr (.inr (.inr (zs o 121 az)))))), (g1, .inl (k_fs1, 120, .inl (bN 7 q_fs1))), (g2, .inl (k_fs2, 120, .inl fs2)), (g3, .inl (k_fs3, 120, .inl fs3)), (g4, .inl (k_fs4, 120, .inl fs4)), (g5, .inl (k_fs5, 120, .inl fs5)), (g16, .inl (k_fhi, 5, .inl fhi)), (g17, .inl (k_flo, 5, .inl flo))] ++ zp 4 16 N az ac kz qs_3 g_17) := hD.part [0, 1, 2, 3, 4, 5, 6, 7, 8] (by decide) rfl
        have hKc : va_K (dC, dI) vwCl ([(k_fgz, .object RX7), (k_fs1, .int), (k_fs2, .int), (k_fs3, .int), (k_fs4, .int), (k_fs5, .int), (k_fhi, .int), (k_flo, .int)] ++ zt N kz) s := zk_part hK [0, 1, 2, 3, 4, 5, 6, 7] rfl
        have hFc := pu_free hDc hS hA
        refine va_callv (va_runV (As := [.int (nI a1), .int (-1), .int (-1)]) (rest := []) ⟨hx, hb, hml, hown, hts⟩ (c_E_1_record0_16 l dC dI _ g gz g1 g2 g3 g4 g5 0 0 0 gway gav ggoal gfound gl gsz g16 g17 k_fgz k_fs1 q_fs1 k_fs2 fs2 k_fs3 fs3 k_fs4 fs4 k_fs5 fs5 k_fhi fhi k_flo flo N o az ac kz qs_3 g_17 a1 (Nat.le_of_ble_eq_true rfl) (Nat.le_of_ble_eq_true rfl) hgfound hgl hgsz (by omega) ha1 (by first | assumption | exact gz_0)) (cwV 3 hts g_E_1_open_16_E_1_record0_16 rfl rfl rfl (by decide +kernel) ⟨Nat.le_of_ble_eq_true rfl, Nat.le_of_ble_eq_true rfl⟩) ⟨pu_bl, va_recv hK hP (ci := 1) (q0 := 0) rfl rfl, pu_in hPc hKc hDc⟩ rfl rfl hl.1 rfl (lv_room (Nat.le_of_ble_eq_true rfl)) eX1_open_86 ⟨Nat.le_of_ble_eq_true rfl, Nat.le_of_ble_eq_true rfl⟩) hS (fun q _ h => hFc q h) hFc (fun u t H1 locs ht hvm hw hB hz1 hk1 hS => ?_)
        obtain ⟨z_fs1_22, z_fs2_23, z_fs3_24, z_fs4_25, z_fs5_26, z_gfound_27, ⟨hP1, -, hD1⟩, hz_gfound_27, xr_21_0, xr_21_1⟩ := hB
        rw [ht] at hP1
        obtain ⟨hP, hD⟩ := pj_c (X := (gs2__w g gz g1 g2 g3 g4 g5 0 0 0 gway gav ggoal (nI gfound) 120 (nI gl) (nI gsz) g16 g17 k_fgz (zs o 121 az) k_fs1 (bN 7 q_fs1) k_fs2 fs2 k_fs3 fs3 k_fs4 fs4 k_fs5 fs5 k_fhi fhi k_flo flo au (nI nc) (nI np) (nI ne) st0 q4 q5 q6 q7 q8 q9 q10 q11 q12 q13 q14 q15 q16 k_f4 f4 k_f5 (bN 7 q_f5) k_f6 (bN 7 q_f6) k_f7 f7 k_f8 (bN 4 q_f8) k_f9 (bN 2 q_f9) k_f10 f10 k_f11 f11 k_f12 f12 k_f13 f13 k_f14 f14 k_f15 f15 k_f16 f16 bu k_fbu fbu)) (X' := (gs2__w g gz g1 g2 g3 g4 g5 (nI (0 + 1)) 0 0 gway gav ggoal (nI z_gfound_27) 120 (nI gl) (nI gsz) g16 g17 k_fgz (zs o 121 az) k_fs1 (bN 7 z_fs1_22) k_fs2 z_fs2_23 k_fs3 z_fs3_24 k_fs4 z_fs4_25 k_fs5 z_fs5_26 k_fhi fhi k_flo flo au (nI nc) (nI np) (nI ne) st0 q4 q5 q6 q7 q8 q9 q10 q11 q12 q13 q14 q15 q16 k_f4 f4 k_f5 (bN 7 q_f5) k_f6 (bN 7 q_f6) k_f7 f7 k_f8 (bN 4 q_f8) k_f9 (bN 2 q_f9) k_f10 f10 k_f11 f11 k_f12 f12 k_f13 f13 k_f14 f14 k_f15 f15 k_f16 f16 bu k_fbu fbu)) (wc := (gs0__w g gz g1 g2 g3 g4 g5 0 0 0 gway gav ggoal (nI gfound) 120 (nI gl) (nI gsz) g16 g17 k_fgz (zs o 121 az) k_fs1 (bN 7 q_fs1) k_fs2 fs2 k_fs3 fs3 k_fs4 fs4 k_fs5 fs5 k_fhi fhi k_flo flo)) (w1 := (gs0__w g gz g1 g2 g3 g4 g5 (nI (0 + 1)) 0 0 gway gav ggoal (nI z_gfound_27) 120 (nI gl) (nI gsz) g16 g17 k_fgz (zs o 121 az) k_fs1 (bN 7 z_fs1_22) k_fs2 z_fs2_23 k_fs3 z_fs3_24 k_fs4 z_fs4_25 k_fs5 z_fs5_26 k_fhi fhi k_flo flo)) hP hD [0, 1, 2, 3, 4, 5, 6, 7, 8] [0, 1, 2, 3, 4, 5, 6, 7, 8, 18, 19, 20, 21, 22, 23, 24, 25, 26, 27, 28, 29, 30, 31, 32] 9 rfl hk1 hP1 rfl zp_f rfl rfl (by decide)
        clear hP1 hD1 hFc
        clear hPc hDc hKc
        clear hk1 hz1 ht hvm
        generalize H1 = H at hP hS ⊢
        have hsp := hsp.trans (slet_eq xr_21_1)
        exact W.vret hx hb hr (fun t ht hW => ⟨⟨(), rfl, trivial, ⟨z_fs1_22, z_fs2_23, z_fs3_24, z_fs4_25, z_fs5_26, z_gfound_27, (0 + 1), 0, 0, g_17, qs_3, ⟨by rw [ht]; exact hP, va_K.moved hW.alike hK, hD⟩, hz_gfound_27, (by omega), (Nat.le_of_ble_eq_true rfl), by first | assumption | exact gz_0, (hsp.symm.trans hRR)⟩⟩, hS.F ht⟩) hS.2.2 eX1_open_89
      have hsp := hJR_19
      refine lv_if_eq (tgt := 82) hx hb eX1_open_66 (by decide) (fun c_28 => ?_) (fun c_28 => ?_)
      · have hcc_28 := c_28
        have hsp := hsp.trans (if_pos c_28)
        exact j_18 _ _ _ _ ⟨fz_16, rfl, hsp.symm, hP, hD, hS, lv_sub hl [1, 2, 3, 4, 0] rfl⟩
      · have hcc_28 := c_28
        have hsp := hsp.trans (if_neg c_28)
        refine lv_aload hx hb eX1_open_69 (lv_at hl 0 rfl) ?_
        refine lv_aload_n hx hb eX1_open_71 rfl (lv_at hl 1 rfl) ?_
        refine va_get (D := (dC, dI)) (ci := 1) (v := .ref g16) (C := RX1) (T := TX1) (N := 18) hx hb hts hiX1 hown hK hP 0 rfl rfl 16 (by decide) v_25 (fun _ h9 => h9) rfl eX1_open_72 ?_
        refine lv_aload_n hx hb eX1_open_75 rfl (lv_at hl 1 rfl) ?_
        refine va_get (D := (dC, dI)) (ci := 1) (v := .ref g17) (C := RX1) (T := TX1) (N := 18) hx hb hts hiX1 hown hK hP 0 rfl rfl 17 (by decide) v_26 (fun _ h9 => h9) rfl eX1_open_76 ?_
        have hPz := zp_cut (k := (o + 0)) hP (by omega)
        have hPc : va_P (dC, dI) vwCl ([(g16, .inl (k_fhi, 5, .inl fhi)), (g17, .inl (k_flo, 5, .inl flo))] ++ [(az (o + 0), .inr (7, [.ref (ac (o + 0)), .int (nI (min (qs_3 (o + 0)) 4))])), (ac (o + 0), .inl (kz (o + 0), 16, .inl (fz_16 (o + 0))))]) _ := va_P.app (hP.sub [7, 8] rfl) hPz
        have hDc : va_D A ([(g16, .inl (k_fhi, 5, .inl fhi)), (g17, .inl (k_flo, 5, .inl flo))] ++ [(az (o + 0), .inr (7, [.ref (ac (o + 0)), .int (nI (min (qs_3 (o + 0)) 4))])), (ac (o + 0), .inl (kz (o + 0), 16, .inl (fz_16 (o + 0))))]) := zp_cutD hD (by omega) [7, 8] (by decide) rfl
        have hKc : va_K (dC, dI) vwCl ([(k_fhi, .int), (k_flo, .int)] ++ [(kz (o + 0), .int)]) s := zp_K hK (by omega) [6, 7] rfl
        have hFc := pu_free hDc hS hA
        refine va_callv (va_runV (As := [.ref g16, .ref g17]) (rest := []) ⟨hx, hb, hml, hown, hts⟩ (c_E_7_forget_16 l dC dI _ g16 k_fhi fhi g17 k_flo flo (az (o + 0)) (ac (o + 0)) (min (qs_3 (o + 0)) 4) (kz (o + 0)) (fz_16 (o + 0)) (Nat.min_le_right _ _)) (cwV 2 hts g_E_1_open_16_E_7_forget_16 rfl rfl rfl (by decide +kernel) ⟨Nat.le_of_ble_eq_true rfl, Nat.le_of_ble_eq_true rfl⟩) ⟨pu_bl, va_recv hK hPz (ci := 7) (q0 := 0) rfl rfl, pu_in hPc hKc hDc⟩ rfl rfl hl.1 rfl (lv_room (Nat.le_of_ble_eq_true rfl)) eX1_open_79 ⟨Nat.le_of_ble_eq_true rfl, Nat.le_of_ble_eq_true rfl⟩) hS (fun q _ h => hFc q h) hFc (fun u t H1 locs ht hvm hw hB hz1 hk1 hS => ?_)
        obtain ⟨z_fz_30, ⟨hP1, -, hD1⟩, xr_29_0⟩ := hB
        rw [ht] at hP1
        obtain ⟨hP, hD⟩ := zp_putx (wr := [(g16, .inl (k_fhi, 5, .inl fhi)), (g17, .inl (k_flo, 5, .inl flo))]) (k := (o + 0)) hP hD (by omega) (fun q h => List.mem_append_left _ (pu_subm [7, 8] rfl q h)) hk1 (Nat.min_le_right _ _) hP1
        rw [zp_qsame] at hP hD
        obtain ⟨fz_32, xfz_32⟩ : ∃ q, q = updZ fz_16 (o + 0) z_fz_30 := ⟨_, rfl⟩
        rw [← xfz_32] at hP hD
        clear hP1 hD1 hFc
        clear hPc hDc hKc
        clear hk1 hz1 ht hvm
        generalize H1 = H at hP hS ⊢
        have hsp := hsp.trans (slet_eq xr_29_0)
        have hsp := hsp.trans (slet_eq xfz_32)
        exact j_18 _ _ _ _ ⟨fz_32, rfl, hsp.symm, hP, hD, hS, lv_sub hl [1, 2, 3, 4, 0] rfl⟩
