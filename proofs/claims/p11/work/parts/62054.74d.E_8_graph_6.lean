theorem eX8_graph_21 : decode cX8_graph 21 = .ok (.aload_n 0, 1) := by decide +kernel
theorem eX8_graph_22 : decode cX8_graph 22 = .ok (.getfield 42, 3) := by decide +kernel
theorem eX8_graph_25 : decode cX8_graph 25 = .ok (.aload_n 0, 1) := by decide +kernel
theorem eX8_graph_26 : decode cX8_graph 26 = .ok (.getfield 23, 3) := by decide +kernel
theorem eX8_graph_29 : decode cX8_graph 29 = .ok (.iload_n 1, 1) := by decide +kernel
theorem eX8_graph_30 : decode cX8_graph 30 = .ok (.iload_n 2, 1) := by decide +kernel
theorem eX8_graph_31 : decode cX8_graph 31 = .ok (.aload_n 0, 1) := by decide +kernel
theorem eX8_graph_32 : decode cX8_graph 32 = .ok (.getfield 23, 3) := by decide +kernel
theorem eX8_graph_35 : decode cX8_graph 35 = .ok (.getfield 116, 3) := by decide +kernel
theorem eX8_graph_38 : decode cX8_graph 38 = .ok (.iconst 1, 1) := by decide +kernel
theorem eX8_graph_39 : decode cX8_graph 39 = .ok (.iadd, 1) := by decide +kernel
theorem eX8_graph_40 : decode cX8_graph 40 = .ok (.invokevirtual 212, 3) := by decide +kernel
theorem eX8_graph_43 : decode cX8_graph 43 = .ok (.aload_n 0, 1) := by decide +kernel
theorem eX8_graph_44 : decode cX8_graph 44 = .ok (.aload_n 0, 1) := by decide +kernel
theorem eX8_graph_45 : decode cX8_graph 45 = .ok (.getfield 42, 3) := by decide +kernel
theorem eX8_graph_48 : decode cX8_graph 48 = .ok (.invokevirtual 216, 3) := by decide +kernel
theorem eX8_graph_51 : decode cX8_graph 51 = .ok (.aload_n 0, 1) := by decide +kernel
theorem eX8_graph_52 : decode cX8_graph 52 = .ok (.getfield 42, 3) := by decide +kernel
theorem eX8_graph_55 : decode cX8_graph 55 = .ok (.aload_n 0, 1) := by decide +kernel
theorem eX8_graph_56 : decode cX8_graph 56 = .ok (.getfield 23, 3) := by decide +kernel
theorem eX8_graph_59 : decode cX8_graph 59 = .ok (.invokevirtual 220, 3) := by decide +kernel
theorem eX8_graph_62 : decode cX8_graph 62 = .ok (.aload_n 0, 1) := by decide +kernel
theorem eX8_graph_63 : decode cX8_graph 63 = .ok (.iconst 1, 1) := by decide +kernel
theorem eX8_graph_64 : decode cX8_graph 64 = .ok (.putfield 100, 3) := by decide +kernel
theorem eX8_graph_67 : decode cX8_graph 67 = .ok (.aload_n 0, 1) := by decide +kernel
theorem eX8_graph_68 : decode cX8_graph 68 = .ok (.getfield 42, 3) := by decide +kernel
theorem eX8_graph_71 : decode cX8_graph 71 = .ok (.getfield 129, 3) := by decide +kernel
theorem eX8_graph_74 : decode cX8_graph 74 = .ok (.ireturn, 1) := by decide +kernel
abbrev vs_E_8_graph : List Cond := .code yX8_graph cX8_graph 3 (some .int) :: CM
theorem g_E_8_graph_E_1_plan_16 : GoodIn vs_E_8_graph (wsV RX8 212 RX1 yX1_plan vs_E_1_plan_16) := cm_gV cm_516 cm_517 cm_518 cm_113 cm_75
theorem g_E_8_graph_E_8_beginAtZero_16 : GoodIn vs_E_8_graph (wsV RX8 216 RX8 yX8_beginAtZero vs_E_8_beginAtZero_16) := cm_gV cm_519 cm_520 cm_521 cm_427 cm_522
theorem g_E_8_graph_E_1_grow_16 : GoodIn vs_E_8_graph (wsV RX8 220 RX1 yX1_grow vs_E_1_grow_16) := cm_gV cm_527 cm_528 cm_529 cm_113 cm_120
noncomputable def sp_E_8_graph (hs : Nat) (nc : Nat) (np : Nat) (ne : Nat) (st0 : Nat) (f4 : Nat → Int32) (q_f5 : Nat → Nat) (q_f6 : Nat → Nat) (f7 : Nat → Int32) (q_f8 : Nat → Nat) (q_f9 : Nat → Nat) (f12 : Nat → Int32) (f13 : Nat → Int32) (f14 : Nat → Int32) (f15 : Nat → Int32) (f16 : Nat → Int32) (gc : Nat) (gfull : Nat) (gx : Int32) (gway : Int32) (gav : Int32) (ggoal : Int32) (gfound : Nat) (gl : Nat) (gsz : Nat) (q_s1g : Nat → Nat) (s2g : Nat → Int32) (s3g : Nat → Int32) (s4g : Nat → Int32) (s5g : Nat → Int32) (hig : Nat → Int32) (log : Nat → Int32) (fbu : Nat → Int32) (o : Nat) (qs : Nat → Nat) (fz : Nat → Nat → Int32) (p0 : Int32) (a1 : Nat) : Int32 × (Nat → Nat) × (Nat → Int32) × (Nat → Int32) × (Nat → Int32) × (Nat → Int32) × (Nat → Int32) × (Nat → Int32) × (Nat → Int32) × Nat × Int32 × Int32 × Nat × Nat × Nat × Nat × Nat × Int32 × Int32 × (Nat → Nat → Int32) × (Nat → Nat) := (if (p0 : Int32) < 0 then ((-1), q_s1g, s2g, s3g, s4g, s5g, hig, log, fbu, hs, gav, ggoal, gfound, gl, gsz, gc, gfull, gx, gway, fz, qs) else (if (2 : Int32) < p0 then ((-1), q_s1g, s2g, s3g, s4g, s5g, hig, log, fbu, hs, gav, ggoal, gfound, gl, gsz, gc, gfull, gx, gway, fz, qs) else (slet ((p0 : Int32).toNatClampNeg) (fun n_3 => (if np = 0 then ((-1), q_s1g, s2g, s3g, s4g, s5g, hig, log, fbu, hs, gav, ggoal, gfound, gl, gsz, gc, gfull, gx, gway, fz, qs) else (slet (sp_E_1_plan_16 hig log nc f14 f15 f16 (nI n_3) a1 (nc + 1)) (fun (z_fhi_7, z_flo_8, z_gav_9, z_ggoal_10, z_gfound_11, z_gl_12, z_gsz_13, z_gway_14) => (slet (sp_E_8_beginAtZero_16 st0 f4 q_f8 q_f9 f12 f13 z_gway_14 z_gav_9 z_ggoal_10 z_gfound_11 z_gsz_13 q_s1g s2g s3g s4g s5g z_fhi_7 z_flo_8 fbu o qs fz) (fun (z_s1gx_16, z_s2gx_17, z_s3gx_18, z_s4gx_19, z_s5gx_20, z_fbu_21, z_gxfound_22, z_gxc_23, z_gxfull_24, z_gxx_25, z_fz_26, z_qs_27) => (slet (sp_E_1_grow_16 z_gxc_23 z_gxfull_24 z_gxx_25 z_gway_14 z_gav_9 z_ggoal_10 z_gxfound_22 z_gl_12 z_s1gx_16 z_s2gx_17 z_s3gx_18 z_s4gx_19 z_s5gx_20 z_fhi_7 z_flo_8 nc ne f4 q_f5 q_f6 f7 q_f8 q_f9 f12 f13 o z_qs_27 z_fz_26) (fun (z_fs1_29, z_fs2_30, z_fs3_31, z_fs4_32, z_fs5_33, z_gfound_34, z_gc_35, z_gfull_36, z_gx_37, z_fz_38, z_qs_39) => ((nI z_gc_35), z_fs1_29, z_fs2_30, z_fs3_31, z_fs4_32, z_fs5_33, z_fhi_7, z_flo_8, z_fbu_21, 1, z_gav_9, z_ggoal_10, z_gfound_34, z_gl_12, z_gsz_13, z_gc_35, z_gfull_36, z_gx_37, z_gway_14, z_fz_38, z_qs_39))))))))))))
set_option maxHeartbeats 4000000 in
set_option maxRecDepth 100000 in
theorem c_E_8_graph (l : Launch) (dC : Nat → ClassId) (dI : Nat → Nat → Nat) (sz : Nat) (xa : Nat) (xtape : Nat) (tp : Nat) (rd : Nat) (au : Nat) (xdr : Nat) (hy : Nat) (g : Nat) (hs : Nat) (tg : Nat) (sg : Nat) (ss : Nat) (rm : Nat) (ti : Nat) (py : Nat) (bu : Nat) (sm : Nat) (nc : Nat) (np : Nat) (ne : Nat) (st0 : Nat) (q4 : Nat) (q5 : Nat) (q6 : Nat) (q7 : Nat) (q8 : Nat) (q9 : Nat) (q10 : Nat) (q11 : Nat) (q12 : Nat) (q13 : Nat) (q14 : Nat) (q15 : Nat) (q16 : Nat) (k_f4 : ClassId) (f4 : Nat → Int32) (k_f5 : ClassId) (q_f5 : Nat → Nat) (k_f6 : ClassId) (q_f6 : Nat → Nat) (k_f7 : ClassId) (f7 : Nat → Int32) (k_f8 : ClassId) (q_f8 : Nat → Nat) (k_f9 : ClassId) (q_f9 : Nat → Nat) (k_f10 : ClassId) (f10 : Nat → Int32) (k_f11 : ClassId) (f11 : Nat → Int32) (k_f12 : ClassId) (f12 : Nat → Int32) (k_f13 : ClassId) (f13 : Nat → Int32) (k_f14 : ClassId) (f14 : Nat → Int32) (k_f15 : ClassId) (f15 : Nat → Int32) (k_f16 : ClassId) (f16 : Nat → Int32) (gz : Nat) (g1 : Nat) (g2 : Nat) (g3 : Nat) (g4 : Nat) (g5 : Nat) (gc : Nat) (gfull : Nat) (gx : Int32) (gway : Int32) (gav : Int32) (ggoal : Int32) (gfound : Nat) (gl : Nat) (gsz : Nat) (g16 : Nat) (g17 : Nat) (k_fgz : ClassId) (k_s1g : ClassId) (q_s1g : Nat → Nat) (k_s2g : ClassId) (s2g : Nat → Int32) (k_s3g : ClassId) (s3g : Nat → Int32) (k_s4g : ClassId) (s4g : Nat → Int32) (k_s5g : ClassId) (s5g : Nat → Int32) (k_hig : ClassId) (hig : Nat → Int32) (k_log : ClassId) (log : Nat → Int32) (k_fbu : ClassId) (fbu : Nat → Int32) (N : Nat) (o : Nat) (az ac : Nat → Nat) (kz : Nat → ClassId) (qs : Nat → Nat) (fz : Nat → Nat → Int32) (p0 : Int32) (a1 : Nat) (htp : tp ≤ 900) (hhs : hs ≤ 1) (hss : ss ≤ 1) (hnc : nc ≤ 3) (hnp : np ≤ 8) (hne : ne ≤ 14) (hst0 : st0 ≤ 7) (hgc : gc ≤ 120) (hgfull : gfull ≤ 1) (hgfound : gfound ≤ 1) (hgl : gl ≤ 1) (hgsz : gsz ≤ 4) (hN : o + 121 ≤ N) (ha1 : a1 ≤ 1) (hq0 : gz_ok gc s2g s3g s4g) : Met l yX8_graph vs_E_8_graph ({ frames := 5, cells := 0, slots := 0, locals := 125 }) (va_Pc [.ref xa, .int p0, .int (nI a1)] (pu_B (dC, dI) ((xg__w xa xtape (nI tp) rd au xdr hy g (nI hs) tg sg (nI ss) rm ti py bu sm (nI nc) (nI np) (nI ne) (nI st0) q4 q5 q6 q7 q8 q9 q10 q11 q12 q13 q14 q15 q16 k_f4 f4 k_f5 (bN 7 q_f5) k_f6 (bN 7 q_f6) k_f7 f7 k_f8 (bN 4 q_f8) k_f9 (bN 2 q_f9) k_f10 f10 k_f11 f11 k_f12 f12 k_f13 f13 k_f14 f14 k_f15 f15 k_f16 f16 gz g1 g2 g3 g4 g5 (nI gc) (nI gfull) gx gway gav ggoal (nI gfound) 120 (nI gl) (nI gsz) g16 g17 k_fgz (zs o 121 az) k_s1g (bN 7 q_s1g) k_s2g s2g k_s3g s3g k_s4g s4g k_s5g s5g k_hig hig k_log log k_fbu fbu) ++ zp 4 16 N az ac kz qs fz) ((xg__t k_f4 k_f5 k_f6 k_f7 k_f8 k_f9 k_f10 k_f11 k_f12 k_f13 k_f14 k_f15 k_f16 k_fgz k_s1g k_s2g k_s3g k_s4g k_s5g k_hig k_log k_fbu) ++ zt N kz) sz)) (va_Qi (fun (r : Int32) (_ : Unit) => r = (sp_E_8_graph hs nc np ne st0 f4 q_f5 q_f6 f7 q_f8 q_f9 f12 f13 f14 f15 f16 gc gfull gx gway gav ggoal gfound gl gsz q_s1g s2g s3g s4g s5g hig log fbu o qs fz p0 a1).1) (fun _ t => ∃ (z_s1g : Nat → Nat) (z_s2g : Nat → Int32) (z_s3g : Nat → Int32) (z_s4g : Nat → Int32) (z_s5g : Nat → Int32) (z_hig : Nat → Int32) (z_log : Nat → Int32) (z_fbu : Nat → Int32) (z_hs : Nat) (z_gav : Int32) (z_ggoal : Int32) (z_gfound : Nat) (z_gl : Nat) (z_gsz : Nat) (z_gc : Nat) (z_gfull : Nat) (z_gx : Int32) (z_gway : Int32) (z_fz : Nat → Nat → Int32) (z_qs : Nat → Nat), pu_E (dC, dI) ((xg__w xa xtape (nI tp) rd au xdr hy g (nI z_hs) tg sg (nI ss) rm ti py bu sm (nI nc) (nI np) (nI ne) (nI st0) q4 q5 q6 q7 q8 q9 q10 q11 q12 q13 q14 q15 q16 k_f4 f4 k_f5 (bN 7 q_f5) k_f6 (bN 7 q_f6) k_f7 f7 k_f8 (bN 4 q_f8) k_f9 (bN 2 q_f9) k_f10 f10 k_f11 f11 k_f12 f12 k_f13 f13 k_f14 f14 k_f15 f15 k_f16 f16 gz g1 g2 g3 g4 g5 (nI z_gc) (nI z_gfull) z_gx z_gway z_gav z_ggoal (nI z_gfound) 120 (nI z_gl) (nI z_gsz) g16 g17 k_fgz (zs o 121 az) k_s1g (bN 7 z_s1g) k_s2g z_s2g k_s3g z_s3g k_s4g z_s4g k_s5g z_s5g k_hig z_hig k_log z_log k_fbu z_fbu) ++ zp 4 16 N az ac kz z_qs z_fz) ((xg__t k_f4 k_f5 k_f6 k_f7 k_f8 k_f9 k_f10 k_f11 k_f12 k_f13 k_f14 k_f15 k_f16 k_fgz k_s1g k_s2g k_s3g k_s4g k_s5g k_hig k_log k_fbu) ++ zt N kz) (va_A (((xg__w xa xtape (nI tp) rd au xdr hy g (nI hs) tg sg (nI ss) rm ti py bu sm (nI nc) (nI np) (nI ne) (nI st0) q4 q5 q6 q7 q8 q9 q10 q11 q12 q13 q14 q15 q16 k_f4 f4 k_f5 (bN 7 q_f5) k_f6 (bN 7 q_f6) k_f7 f7 k_f8 (bN 4 q_f8) k_f9 (bN 2 q_f9) k_f10 f10 k_f11 f11 k_f12 f12 k_f13 f13 k_f14 f14 k_f15 f15 k_f16 f16 gz g1 g2 g3 g4 g5 (nI gc) (nI gfull) gx gway gav ggoal (nI gfound) 120 (nI gl) (nI gsz) g16 g17 k_fgz (zs o 121 az) k_s1g (bN 7 q_s1g) k_s2g s2g k_s3g s3g k_s4g s4g k_s5g s5g k_hig hig k_log log k_fbu fbu) ++ zp 4 16 N az ac kz qs fz)) sz) t ∧ (z_hs ≤ 1) ∧ (z_gfound ≤ 1) ∧ (z_gl ≤ 1) ∧ (z_gsz ≤ 4) ∧ (z_gc ≤ 120) ∧ (z_gfull ≤ 1) ∧ (gz_ok z_gc z_s2g z_s3g z_s4g) ∧ ((z_s1g, z_s2g, z_s3g, z_s4g, z_s5g, z_hig, z_log, z_fbu, z_hs, z_gav, z_ggoal, z_gfound, z_gl, z_gsz, z_gc, z_gfull, z_gx, z_gway, z_fz, z_qs) = (sp_E_8_graph hs nc np ne st0 f4 q_f5 q_f6 f7 q_f8 q_f9 f12 f13 f14 f15 f16 gc gfull gx gway gav ggoal gfound gl gsz q_s1g s2g s3g s4g s5g hig log fbu o qs fz p0 a1).2)) (va_A (((xg__w xa xtape (nI tp) rd au xdr hy g (nI hs) tg sg (nI ss) rm ti py bu sm (nI nc) (nI np) (nI ne) (nI st0) q4 q5 q6 q7 q8 q9 q10 q11 q12 q13 q14 q15 q16 k_f4 f4 k_f5 (bN 7 q_f5) k_f6 (bN 7 q_f6) k_f7 f7 k_f8 (bN 4 q_f8) k_f9 (bN 2 q_f9) k_f10 f10 k_f11 f11 k_f12 f12 k_f13 f13 k_f14 f14 k_f15 f15 k_f16 f16 gz g1 g2 g3 g4 g5 (nI gc) (nI gfull) gx gway gav ggoal (nI gfound) 120 (nI gl) (nI gsz) g16 g17 k_fgz (zs o 121 az) k_s1g (bN 7 q_s1g) k_s2g s2g k_s3g s3g k_s4g s4g k_s5g s5g k_hig hig k_log log k_fbu fbu) ++ zp 4 16 N az ac kz qs fz)) sz)) 0 0 (va_A (((xg__w xa xtape (nI tp) rd au xdr hy g (nI hs) tg sg (nI ss) rm ti py bu sm (nI nc) (nI np) (nI ne) (nI st0) q4 q5 q6 q7 q8 q9 q10 q11 q12 q13 q14 q15 q16 k_f4 f4 k_f5 (bN 7 q_f5) k_f6 (bN 7 q_f6) k_f7 f7 k_f8 (bN 4 q_f8) k_f9 (bN 2 q_f9) k_f10 f10 k_f11 f11 k_f12 f12 k_f13 f13 k_f14 f14 k_f15 f15 k_f16 f16 gz g1 g2 g3 g4 g5 (nI gc) (nI gfull) gx gway gav ggoal (nI gfound) 120 (nI gl) (nI gsz) g16 g17 k_fgz (zs o 121 az) k_s1g (bN 7 q_s1g) k_s2g s2g k_s3g s3g k_s4g s4g k_s5g s5g k_hig hig k_log log k_fbu fbu) ++ zp 4 16 N az ac kz qs fz)) sz) := by
  refine Met.ofW (cc := cX8_graph) (maxL := 3) (ret := (some .int)) (by decide) rfl ?_
  intro p e s m args below meth c s₁ B hml hv
  obtain ⟨rfl, rfl, hP, hK, hD0⟩ := hv
  have hx := B.exec
  have hb := B.bytes
  have hr := B.returns
  have hts := atoms_spec (ws := vs_E_8_graph) B.pre
  have v_1 := hts (.fieldLink RX8 23 "ClockReach" "model" "LClockReach$Automaton;") (List.mem_cons_of_mem _ cm_434)
  have v_2 := hts (.fieldLink RX8 97 "ClockReach$Automaton" "places" "I") (List.mem_cons_of_mem _ cm_437)
  have v_3 := hts (.fieldLink RX8 42 "ClockReach" "shown" "LClockReach$Graph;") (List.mem_cons_of_mem _ cm_456)
  have v_4 := hts (.fieldLink RX8 116 "ClockReach$Automaton" "clocks" "I") (List.mem_cons_of_mem _ cm_453)
  have v_19 := hts (.fieldLink RX8 100 "ClockReach" "hasShown" "Z") (List.mem_cons_of_mem _ cm_445)
  have v_20 := hts (.fieldLink RX8 129 "ClockReach$Graph" "count" "I") (List.mem_cons_of_mem _ cm_457)
  have hown : s.vm.findClass RX8 = some m.cls := findClass_of_methodNamed B.named
  have hlocks := B.notSynchronized
  have hiX0 : ∀ w ∈ wsX00, w ∈ vs_E_8_graph := fun _ h => List.mem_cons_of_mem _ (cm_X0 h)
  have hiX1 : ∀ w ∈ wsX10, w ∈ vs_E_8_graph := fun _ h => List.mem_cons_of_mem _ (cm_X1 h)
  have hiX8 : ∀ w ∈ wsX80, w ∈ vs_E_8_graph := fun _ h => List.mem_cons_of_mem _ (cm_X8 h)
  have hD := hD0.self (sz := s.heap.size)
  generalize hAe : va_A (((xg__w xa xtape (nI tp) rd au xdr hy g (nI hs) tg sg (nI ss) rm ti py bu sm (nI nc) (nI np) (nI ne) (nI st0) q4 q5 q6 q7 q8 q9 q10 q11 q12 q13 q14 q15 q16 k_f4 f4 k_f5 (bN 7 q_f5) k_f6 (bN 7 q_f6) k_f7 f7 k_f8 (bN 4 q_f8) k_f9 (bN 2 q_f9) k_f10 f10 k_f11 f11 k_f12 f12 k_f13 f13 k_f14 f14 k_f15 f15 k_f16 f16 gz g1 g2 g3 g4 g5 (nI gc) (nI gfull) gx gway gav ggoal (nI gfound) 120 (nI gl) (nI gsz) g16 g17 k_fgz (zs o 121 az) k_s1g (bN 7 q_s1g) k_s2g s2g k_s3g s3g k_s4g s4g k_s5g s5g k_hig hig k_log log k_fbu fbu) ++ zp 4 16 N az ac kz qs fz)) s.heap.size = A at hD ⊢
  have hA : ∀ q : Nat, s.heap.size ≤ q → A q := fun q h => by rw [← hAe]; exact Or.inr h
  have hS : va_S A s.heap s.heap [] := va_S.rf
  have hl := lv_entry ([.ref xa, .int p0, .int (nI a1)]) (n := 3) (Nat.le_of_ble_eq_true rfl)
  rw [lg_entry_eq]
  generalize (lg_sl ([.ref xa, .int p0, .int (nI a1)]) ++ List.replicate (3 - (lg_sl ([.ref xa, .int p0, .int (nI a1)])).length) Slot.unset).toArray = ls at hl ⊢
  have hl : lv_has ls 3 [(0, .ref xa), (1, .int p0), (2, .int (nI a1))] := hl
  obtain ⟨RR, hRR⟩ : ∃ x, x = (sp_E_8_graph hs nc np ne st0 f4 q_f5 q_f6 f7 q_f8 q_f9 f12 f13 f14 f15 f16 gc gfull gx gway gav ggoal gfound gl gsz q_s1g s2g s3g s4g s5g hig log fbu o qs fz p0 a1) := ⟨_, rfl⟩
  have hsp := hRR
  refine lv_iload_n hx hb eX8_graph_0 rfl (lv_at hl 1 rfl) ?_
  refine lv_if_lt (tgt := 19) hx hb eX8_graph_1 (by decide) (fun c_1 => ?_) (fun c_1 => ?_)
  · have hcc_1 := c_1
    have hsp := hsp.trans (if_pos c_1)
    refine lv_iconst (v := (-1)) hx hb eX8_graph_19 (by decide) ?_
    exact W.iret (v := (-1)) hx hb hr (fun t ht hW => ⟨⟨(-1), (), rfl, (congrArg Prod.fst (hsp.symm.trans hRR)), ⟨q_s1g, s2g, s3g, s4g, s5g, hig, log, fbu, hs, gav, ggoal, gfound, gl, gsz, gc, gfull, gx, gway, fz, qs, ⟨by rw [ht]; exact hP, va_K.moved hW.alike hK, hD⟩, hhs, hgfound, hgl, hgsz, hgc, hgfull, by first | assumption | exact gz_0, (congrArg Prod.snd (hsp.symm.trans hRR))⟩⟩, hS.F ht⟩) hS.2.2 eX8_graph_20
  · have hcc_1 := c_1
    have hsp := hsp.trans (if_neg c_1)
    have lp0 : ¬ p0 < 0 := c_1
    refine lv_iload_n hx hb eX8_graph_4 rfl (lv_at hl 1 rfl) ?_
    refine lv_iconst (v := 2) hx hb eX8_graph_5 (by decide) ?_
    refine lv_icmp_gt (tgt := 19) hx hb eX8_graph_6 (by decide) (fun c_2 => ?_) (fun c_2 => ?_)
    · have hcc_2 := c_2
      have hsp := hsp.trans (if_pos c_2)
      refine lv_iconst (v := (-1)) hx hb eX8_graph_19 (by decide) ?_
      exact W.iret (v := (-1)) hx hb hr (fun t ht hW => ⟨⟨(-1), (), rfl, (congrArg Prod.fst (hsp.symm.trans hRR)), ⟨q_s1g, s2g, s3g, s4g, s5g, hig, log, fbu, hs, gav, ggoal, gfound, gl, gsz, gc, gfull, gx, gway, fz, qs, ⟨by rw [ht]; exact hP, va_K.moved hW.alike hK, hD⟩, hhs, hgfound, hgl, hgsz, hgc, hgfull, by first | assumption | exact gz_0, (congrArg Prod.snd (hsp.symm.trans hRR))⟩⟩, hS.F ht⟩) hS.2.2 eX8_graph_20
    · have hcc_2 := c_2
      have hsp := hsp.trans (if_neg c_2)
      obtain ⟨n_3, hn_3, rfl⟩ := pu_ule (b := 2) (by omega) lp0 (Int32.not_lt.mp c_2)
      have hsp := hsp.trans (slet_eq (nI_cl (n := n_3) (by omega)))
      refine lv_aload_n hx hb eX8_graph_9 rfl (lv_at hl 0 rfl) ?_
      refine va_get (D := (dC, dI)) (ci := 8) (v := .ref au) (C := RX8) (T := TX8) (N := 16) hx hb hts hiX8 hown hK hP 0 rfl rfl 3 (by decide) v_1 (fun _ h9 => h9) rfl eX8_graph_10 ?_
      refine va_get (D := (dC, dI)) (ci := 0) (v := .int (nI np)) (C := RX0) (T := TX0) (N := 17) hx hb hts hiX0 hown hK hP 1 rfl rfl 1 (by decide) v_2 (fun _ h9 => h9) rfl eX8_graph_13 ?_
      refine lv_if_ne (tgt := 21) hx hb eX8_graph_16 (by decide) (fun c_4 => ?_) (fun c_4 => ?_)
      · have c_4 : ¬ np = 0 := fun z => c_4 ((nI_eq (a := np) (b := 0) (Nat.lt_of_le_of_lt hnp (Nat.le_of_ble_eq_true rfl)) (Nat.le_of_ble_eq_true rfl)).mpr z)
        have hsp := hsp.trans (if_neg c_4)
        refine lv_aload_n hx hb eX8_graph_21 rfl (lv_at hl 0 rfl) ?_
        refine va_get (D := (dC, dI)) (ci := 8) (v := .ref g) (C := RX8) (T := TX8) (N := 16) hx hb hts hiX8 hown hK hP 0 rfl rfl 6 (by decide) v_3 (fun _ h9 => h9) rfl eX8_graph_22 ?_
        refine lv_aload_n hx hb eX8_graph_25 rfl (lv_at hl 0 rfl) ?_
        refine va_get (D := (dC, dI)) (ci := 8) (v := .ref au) (C := RX8) (T := TX8) (N := 16) hx hb hts hiX8 hown hK hP 0 rfl rfl 3 (by decide) v_1 (fun _ h9 => h9) rfl eX8_graph_26 ?_
        refine lv_iload_n hx hb eX8_graph_29 rfl (lv_at hl 1 rfl) ?_
        refine lv_iload_n hx hb eX8_graph_30 rfl (lv_at hl 2 rfl) ?_
        refine lv_aload_n hx hb eX8_graph_31 rfl (lv_at hl 0 rfl) ?_
        refine va_get (D := (dC, dI)) (ci := 8) (v := .ref au) (C := RX8) (T := TX8) (N := 16) hx hb hts hiX8 hown hK hP 0 rfl rfl 3 (by decide) v_1 (fun _ h9 => h9) rfl eX8_graph_32 ?_
        refine va_get (D := (dC, dI)) (ci := 0) (v := .int (nI nc)) (C := RX0) (T := TX0) (N := 17) hx hb hts hiX0 hown hK hP 1 rfl rfl 0 (by decide) v_4 (fun _ h9 => h9) rfl eX8_graph_35 ?_
        refine lv_iconst (v := 1) hx hb eX8_graph_38 (by decide) ?_
        refine lv_iadd hx hb eX8_graph_39 ?_
        refine lv_topi (fun y_5 ey_5 => ?_)
        obtain rfl : y_5 = (nI (nc + 1)) := ey_5.trans (nI_add nc 1)
        have hPc : va_P (dC, dI) vwCl ([(g, .inr (1, [.ref gz, .ref g1, .ref g2, .ref g3, .ref g4, .ref g5, .int (nI gc), .int (nI gfull), .int gx, .int gway, .int gav, .int ggoal, .int (nI gfound), .int 120, .int (nI gl), .int (nI gsz), .ref g16, .ref g17])), (gz, .inl (k_fgz, 121, .inr (.inr (.inr (.inr (zs o 121 az)))))), (g1, .inl (k_s1g, 120, .inl (bN 7 q_s1g))), (g2, .inl (k_s2g, 120, .inl s2g)), (g3, .inl (k_s3g, 120, .inl s3g)), (g4, .inl (k_s4g, 120, .inl s4g)), (g5, .inl (k_s5g, 120, .inl s5g)), (g16, .inl (k_hig, 5, .inl hig)), (g17, .inl (k_log, 5, .inl log)), (au, .inr (0, [.int (nI nc), .int (nI np), .int (nI ne), .int (nI st0), .ref q4, .ref q5, .ref q6, .ref q7, .ref q8, .ref q9, .ref q10, .ref q11, .ref q12, .ref q13, .ref q14, .ref q15, .ref q16])), (q4, .inl (k_f4, 8, .inl f4)), (q5, .inl (k_f5, 14, .inl (bN 7 q_f5))), (q6, .inl (k_f6, 14, .inl (bN 7 q_f6))), (q7, .inl (k_f7, 14, .inl f7)), (q8, .inl (k_f8, 22, .inl (bN 4 q_f8))), (q9, .inl (k_f9, 88, .inl (bN 2 q_f9))), (q10, .inl (k_f10, 88, .inl f10)), (q11, .inl (k_f11, 88, .inl f11)), (q12, .inl (k_f12, 88, .inl f12)), (q13, .inl (k_f13, 88, .inl f13)), (q14, .inl (k_f14, 4, .inl f14)), (q15, .inl (k_f15, 4, .inl f15)), (q16, .inl (k_f16, 4, .inl f16))] ++ zp 4 16 N az ac kz qs fz) _ := hP.part [15, 16, 17, 18, 19, 20, 21, 22, 23, 1, 2, 3, 4, 5, 6, 7, 8, 9, 10, 11, 12, 13, 14] rfl
        have hDc : va_D A ([(g, .inr (1, [.ref gz, .ref g1, .ref g2, .ref g3, .ref g4, .ref g5, .int (nI gc), .int (nI gfull), .int gx, .int gway, .int gav, .int ggoal, .int (nI gfound), .int 120, .int (nI gl), .int (nI gsz), .ref g16, .ref g17])), (gz, .inl (k_fgz, 121, .inr (.inr (.inr (.inr (zs o 121 az)))))), (g1, .inl (k_s1g, 120, .inl (bN 7 q_s1g))), (g2, .inl (k_s2g, 120, .inl s2g)), (g3, .inl (k_s3g, 120, .inl s3g)), (g4, .inl (k_s4g, 120, .inl s4g)), (g5, .inl (k_s5g, 120, .inl s5g)), (g16, .inl (k_hig, 5, .inl hig)), (g17, .inl (k_log, 5, .inl log)), (au, .inr (0, [.int (nI nc), .int (nI np), .int (nI ne), .int (nI st0), .ref q4, .ref q5, .ref q6, .ref q7, .ref q8, .ref q9, .ref q10, .ref q11, .ref q12, .ref q13, .ref q14, .ref q15, .ref q16])), (q4, .inl (k_f4, 8, .inl f4)), (q5, .inl (k_f5, 14, .inl (bN 7 q_f5))), (q6, .inl (k_f6, 14, .inl (bN 7 q_f6))), (q7, .inl (k_f7, 14, .inl f7)), (q8, .inl (k_f8, 22, .inl (bN 4 q_f8))), (q9, .inl (k_f9, 88, .inl (bN 2 q_f9))), (q10, .inl (k_f10, 88, .inl f10)), (q11, .inl (k_f11, 88, .inl f11)), (q12, .inl (k_f12, 88, .inl f12)), (q13, .inl (k_f13, 88, .inl f13)), (q14, .inl (k_f14, 4, .inl f14)), (q15, .inl (k_f15, 4, .inl f15)), (q16, .inl (k_f16, 4, .inl f16))] ++ zp 4 16 N az ac kz qs fz) := hD.part [15, 16, 17, 18, 19, 20, 21, 22, 23, 1, 2, 3, 4, 5, 6, 7, 8, 9, 10, 11, 12, 13, 14] (by decide) rfl
        have hKc : va_K (dC, dI) vwCl ([(k_fgz, .object RX7), (k_s1g, .int), (k_s2g, .int), (k_s3g, .int), (k_s4g, .int), (k_s5g, .int), (k_hig, .int), (k_log, .int), (k_f4, .boolean), (k_f5, .int), (k_f6, .int), (k_f7, .int), (k_f8, .int), (k_f9, .int), (k_f10, .int), (k_f11, .int), (k_f12, .int), (k_f13, .int), (k_f14, .int), (k_f15, .int), (k_f16, .int)] ++ zt N kz) s := zk_part hK [13, 14, 15, 16, 17, 18, 19, 20, 0, 1, 2, 3, 4, 5, 6, 7, 8, 9, 10, 11, 12] rfl
        have hFc := pu_free hDc hS hA
        refine va_callv (va_runV (As := [.ref au, .int (nI n_3), .int (nI a1), .int (nI (nc + 1))]) (rest := []) ⟨hx, hb, hml, hown, hts⟩ (c_E_1_plan_16 l dC dI _ g gz g1 g2 g3 g4 g5 gc gfull gx gway gav ggoal gfound gl gsz g16 g17 k_fgz k_s1g q_s1g k_s2g s2g k_s3g s3g k_s4g s4g k_s5g s5g k_hig hig k_log log au nc np ne (nI st0) q4 q5 q6 q7 q8 q9 q10 q11 q12 q13 q14 q15 q16 k_f4 f4 k_f5 q_f5 k_f6 q_f6 k_f7 f7 k_f8 q_f8 k_f9 q_f9 k_f10 f10 k_f11 f11 k_f12 f12 k_f13 f13 k_f14 f14 k_f15 f15 k_f16 f16 N o az ac kz qs fz (nI n_3) a1 (nc + 1) hgc hgfull hgfound hgl hgsz hnc hnp hne (Or.inr ⟨st0, hst0, rfl⟩) (by omega) ha1 (by omega)) (cwV 4 hts g_E_8_graph_E_1_plan_16 rfl rfl rfl (by decide +kernel) ⟨Nat.le_of_ble_eq_true rfl, Nat.le_of_ble_eq_true rfl⟩) ⟨pu_bl, va_recv hK hP (ci := 1) (q0 := 15) rfl rfl, pu_in hPc hKc hDc⟩ rfl rfl hl.1 rfl (lv_room (Nat.le_of_ble_eq_true rfl)) eX8_graph_40 ⟨Nat.le_of_ble_eq_true rfl, Nat.le_of_ble_eq_true rfl⟩) hS (fun q _ h => hFc q h) hFc (fun u t H1 locs ht hvm hw hB hz1 hk1 hS => ?_)
        obtain ⟨z_fhi_7, z_flo_8, z_gav_9, z_ggoal_10, z_gfound_11, z_gl_12, z_gsz_13, z_gway_14, ⟨hP1, -, hD1⟩, hz_gfound_11, hz_gl_12, hz_gsz_13, xr_6_0⟩ := hB
        rw [ht] at hP1
        obtain ⟨hP, hD⟩ := pj_c (X := (xg__w xa xtape (nI tp) rd au xdr hy g (nI hs) tg sg (nI ss) rm ti py bu sm (nI nc) (nI np) (nI ne) (nI st0) q4 q5 q6 q7 q8 q9 q10 q11 q12 q13 q14 q15 q16 k_f4 f4 k_f5 (bN 7 q_f5) k_f6 (bN 7 q_f6) k_f7 f7 k_f8 (bN 4 q_f8) k_f9 (bN 2 q_f9) k_f10 f10 k_f11 f11 k_f12 f12 k_f13 f13 k_f14 f14 k_f15 f15 k_f16 f16 gz g1 g2 g3 g4 g5 (nI gc) (nI gfull) gx gway gav ggoal (nI gfound) 120 (nI gl) (nI gsz) g16 g17 k_fgz (zs o 121 az) k_s1g (bN 7 q_s1g) k_s2g s2g k_s3g s3g k_s4g s4g k_s5g s5g k_hig hig k_log log k_fbu fbu)) (X' := (xg__w xa xtape (nI tp) rd au xdr hy g (nI hs) tg sg (nI ss) rm ti py bu sm (nI nc) (nI np) (nI ne) (nI st0) q4 q5 q6 q7 q8 q9 q10 q11 q12 q13 q14 q15 q16 k_f4 f4 k_f5 (bN 7 q_f5) k_f6 (bN 7 q_f6) k_f7 f7 k_f8 (bN 4 q_f8) k_f9 (bN 2 q_f9) k_f10 f10 k_f11 f11 k_f12 f12 k_f13 f13 k_f14 f14 k_f15 f15 k_f16 f16 gz g1 g2 g3 g4 g5 (nI gc) (nI gfull) gx z_gway_14 z_gav_9 z_ggoal_10 (nI z_gfound_11) 120 (nI z_gl_12) (nI z_gsz_13) g16 g17 k_fgz (zs o 121 az) k_s1g (bN 7 q_s1g) k_s2g s2g k_s3g s3g k_s4g s4g k_s5g s5g k_hig z_fhi_7 k_log z_flo_8 k_fbu fbu)) (wc := (gs1__w g gz g1 g2 g3 g4 g5 (nI gc) (nI gfull) gx gway gav ggoal (nI gfound) 120 (nI gl) (nI gsz) g16 g17 k_fgz (zs o 121 az) k_s1g (bN 7 q_s1g) k_s2g s2g k_s3g s3g k_s4g s4g k_s5g s5g k_hig hig k_log log au (nI nc) (nI np) (nI ne) (nI st0) q4 q5 q6 q7 q8 q9 q10 q11 q12 q13 q14 q15 q16 k_f4 f4 k_f5 (bN 7 q_f5) k_f6 (bN 7 q_f6) k_f7 f7 k_f8 (bN 4 q_f8) k_f9 (bN 2 q_f9) k_f10 f10 k_f11 f11 k_f12 f12 k_f13 f13 k_f14 f14 k_f15 f15 k_f16 f16)) (w1 := (gs1__w g gz g1 g2 g3 g4 g5 (nI gc) (nI gfull) gx z_gway_14 z_gav_9 z_ggoal_10 (nI z_gfound_11) 120 (nI z_gl_12) (nI z_gsz_13) g16 g17 k_fgz (zs o 121 az) k_s1g (bN 7 q_s1g) k_s2g s2g k_s3g s3g k_s4g s4g k_s5g s5g k_hig z_fhi_7 k_log z_flo_8 au (nI nc) (nI np) (nI ne) (nI st0) q4 q5 q6 q7 q8 q9 q10 q11 q12 q13 q14 q15 q16 k_f4 f4 k_f5 (bN 7 q_f5) k_f6 (bN 7 q_f6) k_f7 f7 k_f8 (bN 4 q_f8) k_f9 (bN 2 q_f9) k_f10 f10 k_f11 f11 k_f12 f12 k_f13 f13 k_f14 f14 k_f15 f15 k_f16 f16)) hP hD [15, 16, 17, 18, 19, 20, 21, 22, 23, 1, 2, 3, 4, 5, 6, 7, 8, 9, 10, 11, 12, 13, 14] [23, 9, 10, 11, 12, 13, 14, 15, 16, 17, 18, 19, 20, 21, 22, 0, 1, 2, 3, 4, 5, 6, 7, 8, 47] 23 rfl hk1 hP1 rfl zp_f rfl rfl (by decide)
        clear hP1 hD1 hFc
        clear hPc hDc hKc
        clear hk1 hz1 ht hvm
        generalize H1 = H at hP hS ⊢
        have hsp := hsp.trans (slet_eq xr_6_0)
        refine lv_aload_n hx hb eX8_graph_43 rfl (lv_at hl 0 rfl) ?_
        refine lv_aload_n hx hb eX8_graph_44 rfl (lv_at hl 0 rfl) ?_
        refine va_get (D := (dC, dI)) (ci := 8) (v := .ref g) (C := RX8) (T := TX8) (N := 16) hx hb hts hiX8 hown hK hP 0 rfl rfl 6 (by decide) v_3 (fun _ h9 => h9) rfl eX8_graph_45 ?_
        have hFc := pu_free hD hS hA
        refine va_callv (va_runV (As := [.ref g]) (rest := []) ⟨hx, hb, hml, hown, hts⟩ (c_E_8_beginAtZero_16 l dC dI _ xa xtape tp rd au xdr hy g hs tg sg ss rm ti py bu sm nc np ne st0 q4 q5 q6 q7 q8 q9 q10 q11 q12 q13 q14 q15 q16 k_f4 f4 k_f5 q_f5 k_f6 q_f6 k_f7 f7 k_f8 q_f8 k_f9 q_f9 k_f10 f10 k_f11 f11 k_f12 f12 k_f13 f13 k_f14 f14 k_f15 f15 k_f16 f16 g gz g1 g2 g3 g4 g5 gc gfull gx z_gway_14 z_gav_9 z_ggoal_10 z_gfound_11 z_gl_12 z_gsz_13 g16 g17 k_fgz k_s1g q_s1g k_s2g s2g k_s3g s3g k_s4g s4g k_s5g s5g k_hig z_fhi_7 k_log z_flo_8 k_fbu fbu N o az ac kz qs fz htp hhs hss hnc hnp hne hst0 hgc hgfull hz_gfound_11 hz_gl_12 hz_gsz_13 (by omega)) (cwV 1 hts g_E_8_graph_E_8_beginAtZero_16 rfl rfl rfl (by decide +kernel) ⟨Nat.le_of_ble_eq_true rfl, Nat.le_of_ble_eq_true rfl⟩) ⟨pu_bl, va_recv hK hP (ci := 8) (q0 := 0) rfl rfl, pu_in hP hK hD⟩ rfl rfl hl.1 rfl (lv_room (Nat.le_of_ble_eq_true rfl)) eX8_graph_48 ⟨Nat.le_of_ble_eq_true rfl, Nat.le_of_ble_eq_true rfl⟩) hS (fun q _ h => hFc q h) hFc (fun u t H1 locs ht hvm hw hB hz1 hk1 hS => ?_)
        obtain ⟨z_s1gx_16, z_s2gx_17, z_s3gx_18, z_s4gx_19, z_s5gx_20, z_fbu_21, z_gxfound_22, z_gxc_23, z_gxfull_24, z_gxx_25, z_fz_26, z_qs_27, ⟨hP1, -, hD1⟩, hz_gxfound_22, hz_gxc_23, hz_gxfull_24, xr_15_0, xr_15_1⟩ := hB
        rw [ht] at hP1
        have hP := hP1
        have hD := pu_all hFc hD1
        clear hP1 hD1 hFc
        clear hk1 hz1 ht hvm
        generalize H1 = H at hP hS ⊢
        have hsp := hsp.trans (slet_eq xr_15_1)
        refine lv_aload_n hx hb eX8_graph_51 rfl (lv_at hl 0 rfl) ?_
        refine va_get (D := (dC, dI)) (ci := 8) (v := .ref g) (C := RX8) (T := TX8) (N := 16) hx hb hts hiX8 hown hK hP 0 rfl rfl 6 (by decide) v_3 (fun _ h9 => h9) rfl eX8_graph_52 ?_
        refine lv_aload_n hx hb eX8_graph_55 rfl (lv_at hl 0 rfl) ?_
        refine va_get (D := (dC, dI)) (ci := 8) (v := .ref au) (C := RX8) (T := TX8) (N := 16) hx hb hts hiX8 hown hK hP 0 rfl rfl 3 (by decide) v_1 (fun _ h9 => h9) rfl eX8_graph_56 ?_
        have hPc : va_P (dC, dI) vwCl ([(g, .inr (1, [.ref gz, .ref g1, .ref g2, .ref g3, .ref g4, .ref g5, .int (nI z_gxc_23), .int (nI z_gxfull_24), .int z_gxx_25, .int z_gway_14, .int z_gav_9, .int z_ggoal_10, .int (nI z_gxfound_22), .int 120, .int (nI z_gl_12), .int (nI z_gsz_13), .ref g16, .ref g17])), (gz, .inl (k_fgz, 121, .inr (.inr (.inr (.inr (zs o 121 az)))))), (g1, .inl (k_s1g, 120, .inl (bN 7 z_s1gx_16))), (g2, .inl (k_s2g, 120, .inl z_s2gx_17)), (g3, .inl (k_s3g, 120, .inl z_s3gx_18)), (g4, .inl (k_s4g, 120, .inl z_s4gx_19)), (g5, .inl (k_s5g, 120, .inl z_s5gx_20)), (g16, .inl (k_hig, 5, .inl z_fhi_7)), (g17, .inl (k_log, 5, .inl z_flo_8)), (au, .inr (0, [.int (nI nc), .int (nI np), .int (nI ne), .int (nI st0), .ref q4, .ref q5, .ref q6, .ref q7, .ref q8, .ref q9, .ref q10, .ref q11, .ref q12, .ref q13, .ref q14, .ref q15, .ref q16])), (q4, .inl (k_f4, 8, .inl f4)), (q5, .inl (k_f5, 14, .inl (bN 7 q_f5))), (q6, .inl (k_f6, 14, .inl (bN 7 q_f6))), (q7, .inl (k_f7, 14, .inl f7)), (q8, .inl (k_f8, 22, .inl (bN 4 q_f8))), (q9, .inl (k_f9, 88, .inl (bN 2 q_f9))), (q10, .inl (k_f10, 88, .inl f10)), (q11, .inl (k_f11, 88, .inl f11)), (q12, .inl (k_f12, 88, .inl f12)), (q13, .inl (k_f13, 88, .inl f13)), (q14, .inl (k_f14, 4, .inl f14)), (q15, .inl (k_f15, 4, .inl f15)), (q16, .inl (k_f16, 4, .inl f16))] ++ zp 4 16 N az ac kz z_qs_27 z_fz_26) _ := hP.part [15, 16, 17, 18, 19, 20, 21, 22, 23, 1, 2, 3, 4, 5, 6, 7, 8, 9, 10, 11, 12, 13, 14] rfl
        have hDc : va_D A ([(g, .inr (1, [.ref gz, .ref g1, .ref g2, .ref g3, .ref g4, .ref g5, .int (nI z_gxc_23), .int (nI z_gxfull_24), .int z_gxx_25, .int z_gway_14, .int z_gav_9, .int z_ggoal_10, .int (nI z_gxfound_22), .int 120, .int (nI z_gl_12), .int (nI z_gsz_13), .ref g16, .ref g17])), (gz, .inl (k_fgz, 121, .inr (.inr (.inr (.inr (zs o 121 az)))))), (g1, .inl (k_s1g, 120, .inl (bN 7 z_s1gx_16))), (g2, .inl (k_s2g, 120, .inl z_s2gx_17)), (g3, .inl (k_s3g, 120, .inl z_s3gx_18)), (g4, .inl (k_s4g, 120, .inl z_s4gx_19)), (g5, .inl (k_s5g, 120, .inl z_s5gx_20)), (g16, .inl (k_hig, 5, .inl z_fhi_7)), (g17, .inl (k_log, 5, .inl z_flo_8)), (au, .inr (0, [.int (nI nc), .int (nI np), .int (nI ne), .int (nI st0), .ref q4, .ref q5, .ref q6, .ref q7, .ref q8, .ref q9, .ref q10, .ref q11, .ref q12, .ref q13, .ref q14, .ref q15, .ref q16])), (q4, .inl (k_f4, 8, .inl f4)), (q5, .inl (k_f5, 14, .inl (bN 7 q_f5))), (q6, .inl (k_f6, 14, .inl (bN 7 q_f6))), (q7, .inl (k_f7, 14, .inl f7)), (q8, .inl (k_f8, 22, .inl (bN 4 q_f8))), (q9, .inl (k_f9, 88, .inl (bN 2 q_f9))), (q10, .inl (k_f10, 88, .inl f10)), (q11, .inl (k_f11, 88, .inl f11)), (q12, .inl (k_f12, 88, .inl f12)), (q13, .inl (k_f13, 88, .inl f13)), (q14, .inl (k_f14, 4, .inl f14)), (q15, .inl (k_f15, 4, .inl f15)), (q16, .inl (k_f16, 4, .inl f16))] ++ zp 4 16 N az ac kz z_qs_27 z_fz_26) := hD.part [15, 16, 17, 18, 19, 20, 21, 22, 23, 1, 2, 3, 4, 5, 6, 7, 8, 9, 10, 11, 12, 13, 14] (by decide) rfl
        have hKc : va_K (dC, dI) vwCl ([(k_fgz, .object RX7), (k_s1g, .int), (k_s2g, .int), (k_s3g, .int), (k_s4g, .int), (k_s5g, .int), (k_hig, .int), (k_log, .int), (k_f4, .boolean), (k_f5, .int), (k_f6, .int), (k_f7, .int), (k_f8, .int), (k_f9, .int), (k_f10, .int), (k_f11, .int), (k_f12, .int), (k_f13, .int), (k_f14, .int), (k_f15, .int), (k_f16, .int)] ++ zt N kz) s := zk_part hK [13, 14, 15, 16, 17, 18, 19, 20, 0, 1, 2, 3, 4, 5, 6, 7, 8, 9, 10, 11, 12] rfl
        have hFc := pu_free hDc hS hA
        refine va_callv (va_runV (As := [.ref au]) (rest := []) ⟨hx, hb, hml, hown, hts⟩ (c_E_1_grow_16 l dC dI _ g gz g1 g2 g3 g4 g5 z_gxc_23 z_gxfull_24 z_gxx_25 z_gway_14 z_gav_9 z_ggoal_10 z_gxfound_22 z_gl_12 z_gsz_13 g16 g17 k_fgz k_s1g z_s1gx_16 k_s2g z_s2gx_17 k_s3g z_s3gx_18 k_s4g z_s4gx_19 k_s5g z_s5gx_20 k_hig z_fhi_7 k_log z_flo_8 au nc np ne (nI st0) q4 q5 q6 q7 q8 q9 q10 q11 q12 q13 q14 q15 q16 k_f4 f4 k_f5 q_f5 k_f6 q_f6 k_f7 f7 k_f8 q_f8 k_f9 q_f9 k_f10 f10 k_f11 f11 k_f12 f12 k_f13 f13 k_f14 f14 k_f15 f15 k_f16 f16 N o az ac kz z_qs_27 z_fz_26 hz_gxc_23 hz_gxfull_24 hz_gxfound_22 hz_gl_12 hz_gsz_13 hnc hnp hne (Or.inr ⟨st0, hst0, rfl⟩) (by omega) (by first | assumption | exact gz_0)) (cwV 1 hts g_E_8_graph_E_1_grow_16 rfl rfl rfl (by decide +kernel) ⟨Nat.le_of_ble_eq_true rfl, Nat.le_of_ble_eq_true rfl⟩) ⟨pu_bl, va_recv hK hP (ci := 1) (q0 := 15) rfl rfl, pu_in hPc hKc hDc⟩ rfl rfl hl.1 rfl (lv_room (Nat.le_of_ble_eq_true rfl)) eX8_graph_59 ⟨Nat.le_of_ble_eq_true rfl, Nat.le_of_ble_eq_true rfl⟩) hS (fun q _ h => hFc q h) hFc (fun u t H1 locs ht hvm hw hB hz1 hk1 hS => ?_)
        obtain ⟨z_fs1_29, z_fs2_30, z_fs3_31, z_fs4_32, z_fs5_33, z_gfound_34, z_gc_35, z_gfull_36, z_gx_37, z_fz_38, z_qs_39, ⟨hP1, -, hD1⟩, hz_gfound_34, hz_gc_35, hz_gfull_36, xr_28_0, xr_28_1⟩ := hB
        rw [ht] at hP1
        obtain ⟨hP, hD⟩ := pj_c (X := (xg__w xa xtape (nI tp) rd au xdr hy g (nI hs) tg sg (nI ss) rm ti py bu sm (nI nc) (nI np) (nI ne) (nI st0) q4 q5 q6 q7 q8 q9 q10 q11 q12 q13 q14 q15 q16 k_f4 f4 k_f5 (bN 7 q_f5) k_f6 (bN 7 q_f6) k_f7 f7 k_f8 (bN 4 q_f8) k_f9 (bN 2 q_f9) k_f10 f10 k_f11 f11 k_f12 f12 k_f13 f13 k_f14 f14 k_f15 f15 k_f16 f16 gz g1 g2 g3 g4 g5 (nI z_gxc_23) (nI z_gxfull_24) z_gxx_25 z_gway_14 z_gav_9 z_ggoal_10 (nI z_gxfound_22) 120 (nI z_gl_12) (nI z_gsz_13) g16 g17 k_fgz (zs o 121 az) k_s1g (bN 7 z_s1gx_16) k_s2g z_s2gx_17 k_s3g z_s3gx_18 k_s4g z_s4gx_19 k_s5g z_s5gx_20 k_hig z_fhi_7 k_log z_flo_8 k_fbu z_fbu_21)) (X' := (xg__w xa xtape (nI tp) rd au xdr hy g (nI hs) tg sg (nI ss) rm ti py bu sm (nI nc) (nI np) (nI ne) (nI st0) q4 q5 q6 q7 q8 q9 q10 q11 q12 q13 q14 q15 q16 k_f4 f4 k_f5 (bN 7 q_f5) k_f6 (bN 7 q_f6) k_f7 f7 k_f8 (bN 4 q_f8) k_f9 (bN 2 q_f9) k_f10 f10 k_f11 f11 k_f12 f12 k_f13 f13 k_f14 f14 k_f15 f15 k_f16 f16 gz g1 g2 g3 g4 g5 (nI z_gc_35) (nI z_gfull_36) z_gx_37 z_gway_14 z_gav_9 z_ggoal_10 (nI z_gfound_34) 120 (nI z_gl_12) (nI z_gsz_13) g16 g17 k_fgz (zs o 121 az) k_s1g (bN 7 z_fs1_29) k_s2g z_fs2_30 k_s3g z_fs3_31 k_s4g z_fs4_32 k_s5g z_fs5_33 k_hig z_fhi_7 k_log z_flo_8 k_fbu z_fbu_21)) (wc := (gs1__w g gz g1 g2 g3 g4 g5 (nI z_gxc_23) (nI z_gxfull_24) z_gxx_25 z_gway_14 z_gav_9 z_ggoal_10 (nI z_gxfound_22) 120 (nI z_gl_12) (nI z_gsz_13) g16 g17 k_fgz (zs o 121 az) k_s1g (bN 7 z_s1gx_16) k_s2g z_s2gx_17 k_s3g z_s3gx_18 k_s4g z_s4gx_19 k_s5g z_s5gx_20 k_hig z_fhi_7 k_log z_flo_8 au (nI nc) (nI np) (nI ne) (nI st0) q4 q5 q6 q7 q8 q9 q10 q11 q12 q13 q14 q15 q16 k_f4 f4 k_f5 (bN 7 q_f5) k_f6 (bN 7 q_f6) k_f7 f7 k_f8 (bN 4 q_f8) k_f9 (bN 2 q_f9) k_f10 f10 k_f11 f11 k_f12 f12 k_f13 f13 k_f14 f14 k_f15 f15 k_f16 f16)) (w1 := (gs1__w g gz g1 g2 g3 g4 g5 (nI z_gc_35) (nI z_gfull_36) z_gx_37 z_gway_14 z_gav_9 z_ggoal_10 (nI z_gfound_34) 120 (nI z_gl_12) (nI z_gsz_13) g16 g17 k_fgz (zs o 121 az) k_s1g (bN 7 z_fs1_29) k_s2g z_fs2_30 k_s3g z_fs3_31 k_s4g z_fs4_32 k_s5g z_fs5_33 k_hig z_fhi_7 k_log z_flo_8 au (nI nc) (nI np) (nI ne) (nI st0) q4 q5 q6 q7 q8 q9 q10 q11 q12 q13 q14 q15 q16 k_f4 f4 k_f5 (bN 7 q_f5) k_f6 (bN 7 q_f6) k_f7 f7 k_f8 (bN 4 q_f8) k_f9 (bN 2 q_f9) k_f10 f10 k_f11 f11 k_f12 f12 k_f13 f13 k_f14 f14 k_f15 f15 k_f16 f16)) hP hD [15, 16, 17, 18, 19, 20, 21, 22, 23, 1, 2, 3, 4, 5, 6, 7, 8, 9, 10, 11, 12, 13, 14] [23, 9, 10, 11, 12, 13, 14, 15, 16, 17, 18, 19, 20, 21, 22, 0, 1, 2, 3, 4, 5, 6, 7, 8, 47] 23 rfl hk1 hP1 rfl zp_f rfl rfl (by decide)
        clear hP1 hD1 hFc
        clear hPc hDc hKc
        clear hk1 hz1 ht hvm
        generalize H1 = H at hP hS ⊢
        have hsp := hsp.trans (slet_eq xr_28_1)
        refine lv_aload_n hx hb eX8_graph_62 rfl (lv_at hl 0 rfl) ?_
        refine lv_iconst (v := 1) hx hb eX8_graph_63 (by decide) ?_
        refine va_put (D := (dC, dI)) (ci := 8) (v := .int 1) (ty := .boolean) (C := RX8) (T := TX8) (N := 16) hx hb hts hiX8 tyX8 tyX8_ok nmX8 hown hK hP hD hS 0 rfl rfl 7 (by decide) v_19 (fun _ h9 => h9) rfl (by decide +kernel) rfl rfl (Nat.le_of_ble_eq_true rfl) eX8_graph_64 (fun H locs hP hD hS => ?_)
        have hP : va_P (dC, dI) vwCl ((xg__w xa xtape (nI tp) rd au xdr hy g 1 tg sg (nI ss) rm ti py bu sm (nI nc) (nI np) (nI ne) (nI st0) q4 q5 q6 q7 q8 q9 q10 q11 q12 q13 q14 q15 q16 k_f4 f4 k_f5 (bN 7 q_f5) k_f6 (bN 7 q_f6) k_f7 f7 k_f8 (bN 4 q_f8) k_f9 (bN 2 q_f9) k_f10 f10 k_f11 f11 k_f12 f12 k_f13 f13 k_f14 f14 k_f15 f15 k_f16 f16 gz g1 g2 g3 g4 g5 (nI z_gc_35) (nI z_gfull_36) z_gx_37 z_gway_14 z_gav_9 z_ggoal_10 (nI z_gfound_34) 120 (nI z_gl_12) (nI z_gsz_13) g16 g17 k_fgz (zs o 121 az) k_s1g (bN 7 z_fs1_29) k_s2g z_fs2_30 k_s3g z_fs3_31 k_s4g z_fs4_32 k_s5g z_fs5_33 k_hig z_fhi_7 k_log z_flo_8 k_fbu z_fbu_21) ++ zp 4 16 N az ac kz z_qs_39 z_fz_38) H := hP
        have hD : va_D A ((xg__w xa xtape (nI tp) rd au xdr hy g 1 tg sg (nI ss) rm ti py bu sm (nI nc) (nI np) (nI ne) (nI st0) q4 q5 q6 q7 q8 q9 q10 q11 q12 q13 q14 q15 q16 k_f4 f4 k_f5 (bN 7 q_f5) k_f6 (bN 7 q_f6) k_f7 f7 k_f8 (bN 4 q_f8) k_f9 (bN 2 q_f9) k_f10 f10 k_f11 f11 k_f12 f12 k_f13 f13 k_f14 f14 k_f15 f15 k_f16 f16 gz g1 g2 g3 g4 g5 (nI z_gc_35) (nI z_gfull_36) z_gx_37 z_gway_14 z_gav_9 z_ggoal_10 (nI z_gfound_34) 120 (nI z_gl_12) (nI z_gsz_13) g16 g17 k_fgz (zs o 121 az) k_s1g (bN 7 z_fs1_29) k_s2g z_fs2_30 k_s3g z_fs3_31 k_s4g z_fs4_32 k_s5g z_fs5_33 k_hig z_fhi_7 k_log z_flo_8 k_fbu z_fbu_21) ++ zp 4 16 N az ac kz z_qs_39 z_fz_38) := hD
        refine lv_aload_n hx hb eX8_graph_67 rfl (lv_at hl 0 rfl) ?_
        refine va_get (D := (dC, dI)) (ci := 8) (v := .ref g) (C := RX8) (T := TX8) (N := 16) hx hb hts hiX8 hown hK hP 0 rfl rfl 6 (by decide) v_3 (fun _ h9 => h9) rfl eX8_graph_68 ?_
        refine va_get (D := (dC, dI)) (ci := 1) (v := .int (nI z_gc_35)) (C := RX1) (T := TX1) (N := 18) hx hb hts hiX1 hown hK hP 15 rfl rfl 6 (by decide) v_20 (fun _ h9 => h9) rfl eX8_graph_71 ?_
        exact W.iret (v := (nI z_gc_35)) hx hb hr (fun t ht hW => ⟨⟨(nI z_gc_35), (), rfl, (congrArg Prod.fst (hsp.symm.trans hRR)), ⟨z_fs1_29, z_fs2_30, z_fs3_31, z_fs4_32, z_fs5_33, z_fhi_7, z_flo_8, z_fbu_21, 1, z_gav_9, z_ggoal_10, z_gfound_34, z_gl_12, z_gsz_13, z_gc_35, z_gfull_36, z_gx_37, z_gway_14, z_fz_38, z_qs_39, ⟨by rw [ht]; exact hP, va_K.moved hW.alike hK, hD⟩, (Nat.le_of_ble_eq_true rfl), hz_gfound_34, hz_gl_12, hz_gsz_13, hz_gc_35, hz_gfull_36, by first | assumption | exact gz_0, (congrArg Prod.snd (hsp.symm.trans hRR))⟩⟩, hS.F ht⟩) hS.2.2 eX8_graph_74
      · have c_4 : np = 0 := (nI_eq (a := np) (b := 0) (Nat.lt_of_le_of_lt hnp (Nat.le_of_ble_eq_true rfl)) (Nat.le_of_ble_eq_true rfl)).mp c_4
        have hsp := hsp.trans (if_pos c_4)
        refine lv_iconst (v := (-1)) hx hb eX8_graph_19 (by decide) ?_
        exact W.iret (v := (-1)) hx hb hr (fun t ht hW => ⟨⟨(-1), (), rfl, (congrArg Prod.fst (hsp.symm.trans hRR)), ⟨q_s1g, s2g, s3g, s4g, s5g, hig, log, fbu, hs, gav, ggoal, gfound, gl, gsz, gc, gfull, gx, gway, fz, qs, ⟨by rw [ht]; exact hP, va_K.moved hW.alike hK, hD⟩, hhs, hgfound, hgl, hgsz, hgc, hgfull, by first | assumption | exact gz_0, (congrArg Prod.snd (hsp.symm.trans hRR))⟩⟩, hS.F ht⟩) hS.2.2 eX8_graph_20
theorem eX8_first_0 : decode cX8_first 0 = .ok (.aload_n 0, 1) := by decide +kernel
theorem eX8_first_1 : decode cX8_first 1 = .ok (.getfield 100, 3) := by decide +kernel
theorem eX8_first_4 : decode cX8_first 4 = .ok (.ifCond .eq 11, 3) := by decide +kernel
theorem eX8_first_7 : decode cX8_first 7 = .ok (.aload_n 0, 1) := by decide +kernel
theorem eX8_first_8 : decode cX8_first 8 = .ok (.iload_n 1, 1) := by decide +kernel
theorem eX8_first_9 : decode cX8_first 9 = .ok (.invokevirtual 140, 3) := by decide +kernel
theorem eX8_first_12 : decode cX8_first 12 = .ok (.ifCond .ne 5, 3) := by decide +kernel
theorem eX8_first_15 : decode cX8_first 15 = .ok (.iconst (-1), 1) := by decide +kernel
theorem eX8_first_16 : decode cX8_first 16 = .ok (.ireturn, 1) := by decide +kernel
theorem eX8_first_17 : decode cX8_first 17 = .ok (.aload_n 0, 1) := by decide +kernel
theorem eX8_first_18 : decode cX8_first 18 = .ok (.getfield 42, 3) := by decide +kernel
theorem eX8_first_21 : decode cX8_first 21 = .ok (.iload_n 1, 1) := by decide +kernel
theorem eX8_first_22 : decode cX8_first 22 = .ok (.invokevirtual 283, 3) := by decide +kernel
theorem eX8_first_25 : decode cX8_first 25 = .ok (.ireturn, 1) := by decide +kernel
abbrev vs_E_8_first : List Cond := .code yX8_first cX8_first 2 (some .int) :: CM
theorem g_E_8_first_E_8_isPlace : GoodIn vs_E_8_first (wsV RX8 140 RX8 yX8_isPlace vs_E_8_isPlace) := cm_gV cm_471 cm_472 cm_473 cm_427 cm_474
theorem g_E_8_first_E_1_firstAt_16 : GoodIn vs_E_8_first (wsV RX8 283 RX1 yX1_firstAt vs_E_1_firstAt_16) := cm_gV cm_568 cm_569 cm_570 cm_113 cm_151
noncomputable def sp_E_8_first (hs : Nat) (np : Nat) (gc : Nat) (q_s1g : Nat → Nat) (p0 : Int32) : Int32 := (if hs = 0 then (-1) else (if (0 : Int32) ≤ p0 ∧ p0 < nI np then (slet ((p0 : Int32).toNatClampNeg) (fun n_3 => (slet (sp_E_1_firstAt_16 gc q_s1g (nI n_3)) (fun r_4 => r_4)))) else (-1)))
set_option maxHeartbeats 4000000 in
set_option maxRecDepth 100000 in
theorem c_E_8_first (l : Launch) (dC : Nat → ClassId) (dI : Nat → Nat → Nat) (sz : Nat) (xa : Nat) (xtape : Nat) (tp : Nat) (rd : Nat) (au : Nat) (xdr : Nat) (hy : Nat) (g : Nat) (hs : Nat) (tg : Nat) (sg : Nat) (ss : Nat) (rm : Nat) (ti : Nat) (py : Nat) (bu : Nat) (sm : Nat) (nc : Nat) (np : Nat) (ne : Nat) (st0 : Int32) (q4 : Nat) (q5 : Nat) (q6 : Nat) (q7 : Nat) (q8 : Nat) (q9 : Nat) (q10 : Nat) (q11 : Nat) (q12 : Nat) (q13 : Nat) (q14 : Nat) (q15 : Nat) (q16 : Nat) (k_f4 : ClassId) (f4 : Nat → Int32) (k_f5 : ClassId) (q_f5 : Nat → Nat) (k_f6 : ClassId) (q_f6 : Nat → Nat) (k_f7 : ClassId) (f7 : Nat → Int32) (k_f8 : ClassId) (q_f8 : Nat → Nat) (k_f9 : ClassId) (q_f9 : Nat → Nat) (k_f10 : ClassId) (f10 : Nat → Int32) (k_f11 : ClassId) (f11 : Nat → Int32) (k_f12 : ClassId) (f12 : Nat → Int32) (k_f13 : ClassId) (f13 : Nat → Int32) (k_f14 : ClassId) (f14 : Nat → Int32) (k_f15 : ClassId) (f15 : Nat → Int32) (k_f16 : ClassId) (f16 : Nat → Int32) (gz : Nat) (g1 : Nat) (g2 : Nat) (g3 : Nat) (g4 : Nat) (g5 : Nat) (gc : Nat) (gfull : Nat) (gx : Int32) (gway : Int32) (gav : Int32) (ggoal : Int32) (gfound : Nat) (gl : Nat) (gsz : Nat) (g16 : Nat) (g17 : Nat) (k_fgz : ClassId) (k_s1g : ClassId) (q_s1g : Nat → Nat) (k_s2g : ClassId) (s2g : Nat → Int32) (k_s3g : ClassId) (s3g : Nat → Int32) (k_s4g : ClassId) (s4g : Nat → Int32) (k_s5g : ClassId) (s5g : Nat → Int32) (k_hig : ClassId) (hig : Nat → Int32) (k_log : ClassId) (log : Nat → Int32) (k_fbu : ClassId) (fbu : Nat → Int32) (N : Nat) (o : Nat) (az ac : Nat → Nat) (kz : Nat → ClassId) (qs : Nat → Nat) (fz : Nat → Nat → Int32) (p0 : Int32) (htp : tp ≤ 900) (hhs : hs ≤ 1) (hss : ss ≤ 1) (hnc : nc ≤ 3) (hnp : np ≤ 8) (hne : ne ≤ 14) (hst0 : pm1 7 st0) (hgc : gc ≤ 120) (hgfull : gfull ≤ 1) (hgfound : gfound ≤ 1) (hgl : gl ≤ 1) (hgsz : gsz ≤ 4) (hN : o + 121 ≤ N) : Met l yX8_first vs_E_8_first ({ frames := 1, cells := 0, slots := 0, locals := 22 }) (va_Pc [.ref xa, .int p0] (pu_B (dC, dI) ((xg__w xa xtape (nI tp) rd au xdr hy g (nI hs) tg sg (nI ss) rm ti py bu sm (nI nc) (nI np) (nI ne) st0 q4 q5 q6 q7 q8 q9 q10 q11 q12 q13 q14 q15 q16 k_f4 f4 k_f5 (bN 7 q_f5) k_f6 (bN 7 q_f6) k_f7 f7 k_f8 (bN 4 q_f8) k_f9 (bN 2 q_f9) k_f10 f10 k_f11 f11 k_f12 f12 k_f13 f13 k_f14 f14 k_f15 f15 k_f16 f16 gz g1 g2 g3 g4 g5 (nI gc) (nI gfull) gx gway gav ggoal (nI gfound) 120 (nI gl) (nI gsz) g16 g17 k_fgz (zs o 121 az) k_s1g (bN 7 q_s1g) k_s2g s2g k_s3g s3g k_s4g s4g k_s5g s5g k_hig hig k_log log k_fbu fbu) ++ zp 4 16 N az ac kz qs fz) ((xg__t k_f4 k_f5 k_f6 k_f7 k_f8 k_f9 k_f10 k_f11 k_f12 k_f13 k_f14 k_f15 k_f16 k_fgz k_s1g k_s2g k_s3g k_s4g k_s5g k_hig k_log k_fbu) ++ zt N kz) sz)) (va_Qi (fun (r : Int32) (_ : Unit) => r = (sp_E_8_first hs np gc q_s1g p0)) (fun _ _ => True) (va_A [] sz)) 0 0 (va_A [] sz) := by
  refine Met.ofW (cc := cX8_first) (maxL := 2) (ret := (some .int)) (by decide) rfl ?_
  intro p e s m args below meth c s₁ B hml hv
  obtain ⟨rfl, rfl, hP, hK, hD0⟩ := hv
  have hx := B.exec
  have hb := B.bytes
  have hr := B.returns
  have hts := atoms_spec (ws := vs_E_8_first) B.pre
  have v_1 := hts (.fieldLink RX8 100 "ClockReach" "hasShown" "Z") (List.mem_cons_of_mem _ cm_445)
  have v_7 := hts (.fieldLink RX8 42 "ClockReach" "shown" "LClockReach$Graph;") (List.mem_cons_of_mem _ cm_456)
  have hown : s.vm.findClass RX8 = some m.cls := findClass_of_methodNamed B.named
  have hlocks := B.notSynchronized
  have hiX8 : ∀ w ∈ wsX80, w ∈ vs_E_8_first := fun _ h => List.mem_cons_of_mem _ (cm_X8 h)
  have hD := hD0
  have hA : ∀ q : Nat, s.heap.size ≤ q → va_A [] s.heap.size q := fun _ h => Or.inr h
  have hS : va_S (va_A [] s.heap.size) s.heap s.heap [] := va_S.rf
  have hl := lv_entry ([.ref xa, .int p0]) (n := 2) (Nat.le_of_ble_eq_true rfl)
  rw [lg_entry_eq]
  generalize (lg_sl ([.ref xa, .int p0]) ++ List.replicate (2 - (lg_sl ([.ref xa, .int p0])).length) Slot.unset).toArray = ls at hl ⊢
  have hl : lv_has ls 2 [(0, .ref xa), (1, .int p0)] := hl
  obtain ⟨RR, hRR⟩ : ∃ x, x = (sp_E_8_first hs np gc q_s1g p0) := ⟨_, rfl⟩
  have hsp := hRR
  refine lv_aload_n hx hb eX8_first_0 rfl (lv_at hl 0 rfl) ?_
  refine va_get (D := (dC, dI)) (ci := 8) (v := .int (nI hs)) (C := RX8) (T := TX8) (N := 16) hx hb hts hiX8 hown hK hP 0 rfl rfl 7 (by decide) v_1 (fun _ h9 => h9) rfl eX8_first_1 ?_
  refine lv_if_eq (tgt := 15) hx hb eX8_first_4 (by decide) (fun c_1 => ?_) (fun c_1 => ?_)
  · have c_1 : hs = 0 := (nI_eq (a := hs) (b := 0) (Nat.lt_of_le_of_lt hhs (Nat.le_of_ble_eq_true rfl)) (Nat.le_of_ble_eq_true rfl)).mp c_1
    have hsp := hsp.trans (if_pos c_1)
    refine lv_iconst (v := (-1)) hx hb eX8_first_15 (by decide) ?_
    exact W.iret (v := (-1)) hx hb hr (fun t ht hW => ⟨⟨(-1), (), rfl, (hsp.symm.trans hRR), trivial⟩, hS.F ht⟩) hS.2.2 eX8_first_16
  · have c_1 : ¬ hs = 0 := fun z => c_1 ((nI_eq (a := hs) (b := 0) (Nat.lt_of_le_of_lt hhs (Nat.le_of_ble_eq_true rfl)) (Nat.le_of_ble_eq_true rfl)).mpr z)
    have hsp := hsp.trans (if_neg c_1)
    refine lv_aload_n hx hb eX8_first_7 rfl (lv_at hl 0 rfl) ?_
    refine lv_iload_n hx hb eX8_first_8 rfl (lv_at hl 1 rfl) ?_
    have hPc : va_P (dC, dI) vwCl [(xa, .inr (8, [.ref xtape, .int (nI tp), .ref rd, .ref au, .ref xdr, .ref hy, .ref g, .int (nI hs), .ref tg, .ref sg, .int (nI ss), .ref rm, .ref ti, .ref py, .ref bu, .ref sm])), (au, .inr (0, [.int (nI nc), .int (nI np), .int (nI ne), .int st0, .ref q4, .ref q5, .ref q6, .ref q7, .ref q8, .ref q9, .ref q10, .ref q11, .ref q12, .ref q13, .ref q14, .ref q15, .ref q16]))] _ := hP.sub [0, 1] rfl
    have hDc : va_D (fun _ => True) [(xa, .inr (8, [.ref xtape, .int (nI tp), .ref rd, .ref au, .ref xdr, .ref hy, .ref g, .int (nI hs), .ref tg, .ref sg, .int (nI ss), .ref rm, .ref ti, .ref py, .ref bu, .ref sm])), (au, .inr (0, [.int (nI nc), .int (nI np), .int (nI ne), .int st0, .ref q4, .ref q5, .ref q6, .ref q7, .ref q8, .ref q9, .ref q10, .ref q11, .ref q12, .ref q13, .ref q14, .ref q15, .ref q16]))] := (zp_left hD).sub [0, 1] (by decide) rfl
    have hKc : va_K (dC, dI) vwCl [] s := hK.sub [] rfl
    refine va_calli (va_runV (As := [.int p0]) (rest := []) ⟨hx, hb, hml, hown, hts⟩ (c_E_8_isPlace l dC dI _ xa xtape tp rd au xdr hy g hs tg sg ss rm ti py bu sm nc np ne st0 q4 q5 q6 q7 q8 q9 q10 q11 q12 q13 q14 q15 q16 p0 htp hhs hss hnc hnp hne (hst0)) (cwV 1 hts g_E_8_first_E_8_isPlace rfl rfl rfl (by decide +kernel) ⟨Nat.le_of_ble_eq_true rfl, Nat.le_of_ble_eq_true rfl⟩) ⟨pu_bl, va_recv hK hP (ci := 8) (q0 := 0) rfl rfl, pu_in hPc hKc hDc⟩ rfl rfl hl.1 rfl (lv_room (Nat.le_of_ble_eq_true rfl)) eX8_first_9 ⟨Nat.le_of_ble_eq_true rfl, Nat.le_of_ble_eq_true rfl⟩) hS (fun q _ h => pu_fr hS hA q h) (pu_fr hS hA) (fun r_2 u t H1 locs ht hvm hw hB hz1 hk1 hS => ?_)
    have hP := pu_keep hP hk1
    clear hPc hDc hKc
    clear hk1 hz1 ht hvm
    generalize H1 = H at hP hS ⊢
    rcases hw with ⟨rfl, hw⟩ | ⟨rfl, hn⟩
    · obtain ⟨n_3, hn_3, rfl⟩ := hw
      have hsp := hsp.trans (if_pos (in_q hn_3 (by omega)))
      have hsp := hsp.trans (slet_eq (nI_cl (n := n_3) (by omega)))
      refine lv_if_ne (tgt := 17) hx hb eX8_first_12 (by decide) (fun _ => ?_) (fun z => absurd z (by decide))
      refine lv_aload_n hx hb eX8_first_17 rfl (lv_at hl 0 rfl) ?_
      refine va_get (D := (dC, dI)) (ci := 8) (v := .ref g) (C := RX8) (T := TX8) (N := 16) hx hb hts hiX8 hown hK hP 0 rfl rfl 6 (by decide) v_7 (fun _ h9 => h9) rfl eX8_first_18 ?_
      refine lv_iload_n hx hb eX8_first_21 rfl (lv_at hl 1 rfl) ?_
      have hPc : va_P (dC, dI) vwCl ([(g, .inr (1, [.ref gz, .ref g1, .ref g2, .ref g3, .ref g4, .ref g5, .int (nI gc), .int (nI gfull), .int gx, .int gway, .int gav, .int ggoal, .int (nI gfound), .int 120, .int (nI gl), .int (nI gsz), .ref g16, .ref g17])), (gz, .inl (k_fgz, 121, .inr (.inr (.inr (.inr (zs o 121 az)))))), (g1, .inl (k_s1g, 120, .inl (bN 7 q_s1g))), (g2, .inl (k_s2g, 120, .inl s2g)), (g3, .inl (k_s3g, 120, .inl s3g)), (g4, .inl (k_s4g, 120, .inl s4g)), (g5, .inl (k_s5g, 120, .inl s5g)), (g16, .inl (k_hig, 5, .inl hig)), (g17, .inl (k_log, 5, .inl log))] ++ zp 4 16 N az ac kz qs fz) _ := hP.part [15, 16, 17, 18, 19, 20, 21, 22, 23] rfl
      have hDc : va_D (fun _ => True) ([(g, .inr (1, [.ref gz, .ref g1, .ref g2, .ref g3, .ref g4, .ref g5, .int (nI gc), .int (nI gfull), .int gx, .int gway, .int gav, .int ggoal, .int (nI gfound), .int 120, .int (nI gl), .int (nI gsz), .ref g16, .ref g17])), (gz, .inl (k_fgz, 121, .inr (.inr (.inr (.inr (zs o 121 az)))))), (g1, .inl (k_s1g, 120, .inl (bN 7 q_s1g))), (g2, .inl (k_s2g, 120, .inl s2g)), (g3, .inl (k_s3g, 120, .inl s3g)), (g4, .inl (k_s4g, 120, .inl s4g)), (g5, .inl (k_s5g, 120, .inl s5g)), (g16, .inl (k_hig, 5, .inl hig)), (g17, .inl (k_log, 5, .inl log))] ++ zp 4 16 N az ac kz qs fz) := hD.part [15, 16, 17, 18, 19, 20, 21, 22, 23] (by decide) rfl
      have hKc : va_K (dC, dI) vwCl ([(k_fgz, .object RX7), (k_s1g, .int), (k_s2g, .int), (k_s3g, .int), (k_s4g, .int), (k_s5g, .int), (k_hig, .int), (k_log, .int)] ++ zt N kz) s := zk_part hK [13, 14, 15, 16, 17, 18, 19, 20] rfl
      refine va_calli (va_runV (As := [.int (nI n_3)]) (rest := []) ⟨hx, hb, hml, hown, hts⟩ (c_E_1_firstAt_16 l dC dI _ g gz g1 g2 g3 g4 g5 gc gfull gx gway gav ggoal gfound gl gsz g16 g17 k_fgz k_s1g q_s1g k_s2g s2g k_s3g s3g k_s4g s4g k_s5g s5g k_hig hig k_log log N o az ac kz qs fz (nI n_3) hgc hgfull hgfound hgl hgsz (by omega)) (cwV 1 hts g_E_8_first_E_1_firstAt_16 rfl rfl rfl (by decide +kernel) ⟨Nat.le_of_ble_eq_true rfl, Nat.le_of_ble_eq_true rfl⟩) ⟨pu_bl, va_recv hK hP (ci := 1) (q0 := 15) rfl rfl, pu_in hPc hKc hDc⟩ rfl rfl hl.1 rfl (lv_room (Nat.le_of_ble_eq_true rfl)) eX8_first_22 ⟨Nat.le_of_ble_eq_true rfl, Nat.le_of_ble_eq_true rfl⟩) hS (fun q _ h => pu_fr hS hA q h) (pu_fr hS hA) (fun r_4 u t H1 locs ht hvm hw hB hz1 hk1 hS => ?_)
      have hP := pu_keep hP hk1
      clear hPc hDc hKc
      clear hk1 hz1 ht hvm
      generalize H1 = H at hP hS ⊢
      have ir_4 := hw
      have hsp := hsp.trans (slet_eq ir_4)
      exact W.iret (v := r_4) hx hb hr (fun t ht hW => ⟨⟨r_4, (), rfl, (hsp.symm.trans hRR), trivial⟩, hS.F ht⟩) hS.2.2 eX8_first_25
    · have hsp := hsp.trans (if_neg hn)
      refine lv_if_ne (tgt := 17) hx hb eX8_first_12 (by decide) (fun z => absurd z (by decide)) (fun _ => ?_)
      refine lv_iconst (v := (-1)) hx hb eX8_first_15 (by decide) ?_
      exact W.iret (v := (-1)) hx hb hr (fun t ht hW => ⟨⟨(-1), (), rfl, (hsp.symm.trans hRR), trivial⟩, hS.F ht⟩) hS.2.2 eX8_first_16
theorem eX8_reached_0 : decode cX8_reached 0 = .ok (.aload_n 0, 1) := by decide +kernel
theorem eX8_reached_1 : decode cX8_reached 1 = .ok (.getfield 100, 3) := by decide +kernel
theorem eX8_reached_4 : decode cX8_reached 4 = .ok (.ifCond .eq 13, 3) := by decide +kernel
theorem eX8_reached_7 : decode cX8_reached 7 = .ok (.aload_n 0, 1) := by decide +kernel
theorem eX8_reached_8 : decode cX8_reached 8 = .ok (.getfield 42, 3) := by decide +kernel
theorem eX8_reached_11 : decode cX8_reached 11 = .ok (.invokevirtual 286, 3) := by decide +kernel
theorem eX8_reached_14 : decode cX8_reached 14 = .ok (.goto 4, 3) := by decide +kernel
theorem eX8_reached_17 : decode cX8_reached 17 = .ok (.iconst (-1), 1) := by decide +kernel
theorem eX8_reached_18 : decode cX8_reached 18 = .ok (.ireturn, 1) := by decide +kernel
abbrev vs_E_8_reached : List Cond := .code yX8_reached cX8_reached 1 (some .int) :: CM
theorem g_E_8_reached_E_1_allSites_16 : GoodIn vs_E_8_reached (wsV RX8 286 RX1 yX1_allSites vs_E_1_allSites_16) := cm_gV cm_572 cm_573 cm_574 cm_113 cm_152
noncomputable def sp_E_8_reached (hs : Nat) (gc : Nat) (q_s1g : Nat → Nat) : Int32 := (if hs = 0 then (-1) else (slet (sp_E_1_allSites_16 gc q_s1g) (fun r_2 => r_2)))
set_option maxHeartbeats 4000000 in
set_option maxRecDepth 100000 in
theorem c_E_8_reached (l : Launch) (dC : Nat → ClassId) (dI : Nat → Nat → Nat) (sz : Nat) (xa : Nat) (xtape : Nat) (tp : Nat) (rd : Nat) (au : Nat) (xdr : Nat) (hy : Nat) (g : Nat) (hs : Nat) (tg : Nat) (sg : Nat) (ss : Nat) (rm : Nat) (ti : Nat) (py : Nat) (bu : Nat) (sm : Nat) (nc : Nat) (np : Nat) (ne : Nat) (st0 : Int32) (q4 : Nat) (q5 : Nat) (q6 : Nat) (q7 : Nat) (q8 : Nat) (q9 : Nat) (q10 : Nat) (q11 : Nat) (q12 : Nat) (q13 : Nat) (q14 : Nat) (q15 : Nat) (q16 : Nat) (k_f4 : ClassId) (f4 : Nat → Int32) (k_f5 : ClassId) (q_f5 : Nat → Nat) (k_f6 : ClassId) (q_f6 : Nat → Nat) (k_f7 : ClassId) (f7 : Nat → Int32) (k_f8 : ClassId) (q_f8 : Nat → Nat) (k_f9 : ClassId) (q_f9 : Nat → Nat) (k_f10 : ClassId) (f10 : Nat → Int32) (k_f11 : ClassId) (f11 : Nat → Int32) (k_f12 : ClassId) (f12 : Nat → Int32) (k_f13 : ClassId) (f13 : Nat → Int32) (k_f14 : ClassId) (f14 : Nat → Int32) (k_f15 : ClassId) (f15 : Nat → Int32) (k_f16 : ClassId) (f16 : Nat → Int32) (gz : Nat) (g1 : Nat) (g2 : Nat) (g3 : Nat) (g4 : Nat) (g5 : Nat) (gc : Nat) (gfull : Nat) (gx : Int32) (gway : Int32) (gav : Int32) (ggoal : Int32) (gfound : Nat) (gl : Nat) (gsz : Nat) (g16 : Nat) (g17 : Nat) (k_fgz : ClassId) (k_s1g : ClassId) (q_s1g : Nat → Nat) (k_s2g : ClassId) (s2g : Nat → Int32) (k_s3g : ClassId) (s3g : Nat → Int32) (k_s4g : ClassId) (s4g : Nat → Int32) (k_s5g : ClassId) (s5g : Nat → Int32) (k_hig : ClassId) (hig : Nat → Int32) (k_log : ClassId) (log : Nat → Int32) (k_fbu : ClassId) (fbu : Nat → Int32) (N : Nat) (o : Nat) (az ac : Nat → Nat) (kz : Nat → ClassId) (qs : Nat → Nat) (fz : Nat → Nat → Int32) (htp : tp ≤ 900) (hhs : hs ≤ 1) (hss : ss ≤ 1) (hnc : nc ≤ 3) (hnp : np ≤ 8) (hne : ne ≤ 14) (hst0 : pm1 7 st0) (hgc : gc ≤ 120) (hgfull : gfull ≤ 1) (hgfound : gfound ≤ 1) (hgl : gl ≤ 1) (hgsz : gsz ≤ 4) (hN : o + 121 ≤ N) : Met l yX8_reached vs_E_8_reached ({ frames := 1, cells := 0, slots := 0, locals := 22 }) (va_Pc [.ref xa] (pu_B (dC, dI) ((xg__w xa xtape (nI tp) rd au xdr hy g (nI hs) tg sg (nI ss) rm ti py bu sm (nI nc) (nI np) (nI ne) st0 q4 q5 q6 q7 q8 q9 q10 q11 q12 q13 q14 q15 q16 k_f4 f4 k_f5 (bN 7 q_f5) k_f6 (bN 7 q_f6) k_f7 f7 k_f8 (bN 4 q_f8) k_f9 (bN 2 q_f9) k_f10 f10 k_f11 f11 k_f12 f12 k_f13 f13 k_f14 f14 k_f15 f15 k_f16 f16 gz g1 g2 g3 g4 g5 (nI gc) (nI gfull) gx gway gav ggoal (nI gfound) 120 (nI gl) (nI gsz) g16 g17 k_fgz (zs o 121 az) k_s1g (bN 7 q_s1g) k_s2g s2g k_s3g s3g k_s4g s4g k_s5g s5g k_hig hig k_log log k_fbu fbu) ++ zp 4 16 N az ac kz qs fz) ((xg__t k_f4 k_f5 k_f6 k_f7 k_f8 k_f9 k_f10 k_f11 k_f12 k_f13 k_f14 k_f15 k_f16 k_fgz k_s1g k_s2g k_s3g k_s4g k_s5g k_hig k_log k_fbu) ++ zt N kz) sz)) (va_Qi (fun (r : Int32) (_ : Unit) => r = (sp_E_8_reached hs gc q_s1g)) (fun _ _ => True) (va_A [] sz)) 0 0 (va_A [] sz) := by
  refine Met.ofW (cc := cX8_reached) (maxL := 1) (ret := (some .int)) (by decide) rfl ?_
  intro p e s m args below meth c s₁ B hml hv
  obtain ⟨rfl, rfl, hP, hK, hD0⟩ := hv
  have hx := B.exec
  have hb := B.bytes
  have hr := B.returns
  have hts := atoms_spec (ws := vs_E_8_reached) B.pre
  have v_1 := hts (.fieldLink RX8 100 "ClockReach" "hasShown" "Z") (List.mem_cons_of_mem _ cm_445)
  have v_2 := hts (.fieldLink RX8 42 "ClockReach" "shown" "LClockReach$Graph;") (List.mem_cons_of_mem _ cm_456)
  have hown : s.vm.findClass RX8 = some m.cls := findClass_of_methodNamed B.named
  have hlocks := B.notSynchronized
  have hiX8 : ∀ w ∈ wsX80, w ∈ vs_E_8_reached := fun _ h => List.mem_cons_of_mem _ (cm_X8 h)
  have hD := hD0
  have hA : ∀ q : Nat, s.heap.size ≤ q → va_A [] s.heap.size q := fun _ h => Or.inr h
  have hS : va_S (va_A [] s.heap.size) s.heap s.heap [] := va_S.rf
  have hl := lv_entry ([.ref xa]) (n := 1) (Nat.le_of_ble_eq_true rfl)
  rw [lg_entry_eq]
  generalize (lg_sl ([.ref xa]) ++ List.replicate (1 - (lg_sl ([.ref xa])).length) Slot.unset).toArray = ls at hl ⊢
  have hl : lv_has ls 1 [(0, .ref xa)] := hl
  obtain ⟨RR, hRR⟩ : ∃ x, x = (sp_E_8_reached hs gc q_s1g) := ⟨_, rfl⟩
  have hsp := hRR
  refine lv_aload_n hx hb eX8_reached_0 rfl (lv_at hl 0 rfl) ?_
  refine va_get (D := (dC, dI)) (ci := 8) (v := .int (nI hs)) (C := RX8) (T := TX8) (N := 16) hx hb hts hiX8 hown hK hP 0 rfl rfl 7 (by decide) v_1 (fun _ h9 => h9) rfl eX8_reached_1 ?_
  refine lv_if_eq (tgt := 17) hx hb eX8_reached_4 (by decide) (fun c_1 => ?_) (fun c_1 => ?_)
  · have c_1 : hs = 0 := (nI_eq (a := hs) (b := 0) (Nat.lt_of_le_of_lt hhs (Nat.le_of_ble_eq_true rfl)) (Nat.le_of_ble_eq_true rfl)).mp c_1
    have hsp := hsp.trans (if_pos c_1)
    refine lv_iconst (v := (-1)) hx hb eX8_reached_17 (by decide) ?_
    exact W.iret (v := (-1)) hx hb hr (fun t ht hW => ⟨⟨(-1), (), rfl, (hsp.symm.trans hRR), trivial⟩, hS.F ht⟩) hS.2.2 eX8_reached_18
  · have c_1 : ¬ hs = 0 := fun z => c_1 ((nI_eq (a := hs) (b := 0) (Nat.lt_of_le_of_lt hhs (Nat.le_of_ble_eq_true rfl)) (Nat.le_of_ble_eq_true rfl)).mpr z)
    have hsp := hsp.trans (if_neg c_1)
    refine lv_aload_n hx hb eX8_reached_7 rfl (lv_at hl 0 rfl) ?_
    refine va_get (D := (dC, dI)) (ci := 8) (v := .ref g) (C := RX8) (T := TX8) (N := 16) hx hb hts hiX8 hown hK hP 0 rfl rfl 6 (by decide) v_2 (fun _ h9 => h9) rfl eX8_reached_8 ?_
    have hPc : va_P (dC, dI) vwCl ([(g, .inr (1, [.ref gz, .ref g1, .ref g2, .ref g3, .ref g4, .ref g5, .int (nI gc), .int (nI gfull), .int gx, .int gway, .int gav, .int ggoal, .int (nI gfound), .int 120, .int (nI gl), .int (nI gsz), .ref g16, .ref g17])), (gz, .inl (k_fgz, 121, .inr (.inr (.inr (.inr (zs o 121 az)))))), (g1, .inl (k_s1g, 120, .inl (bN 7 q_s1g))), (g2, .inl (k_s2g, 120, .inl s2g)), (g3, .inl (k_s3g, 120, .inl s3g)), (g4, .inl (k_s4g, 120, .inl s4g)), (g5, .inl (k_s5g, 120, .inl s5g)), (g16, .inl (k_hig, 5, .inl hig)), (g17, .inl (k_log, 5, .inl log))] ++ zp 4 16 N az ac kz qs fz) _ := hP.part [15, 16, 17, 18, 19, 20, 21, 22, 23] rfl
    have hDc : va_D (fun _ => True) ([(g, .inr (1, [.ref gz, .ref g1, .ref g2, .ref g3, .ref g4, .ref g5, .int (nI gc), .int (nI gfull), .int gx, .int gway, .int gav, .int ggoal, .int (nI gfound), .int 120, .int (nI gl), .int (nI gsz), .ref g16, .ref g17])), (gz, .inl (k_fgz, 121, .inr (.inr (.inr (.inr (zs o 121 az)))))), (g1, .inl (k_s1g, 120, .inl (bN 7 q_s1g))), (g2, .inl (k_s2g, 120, .inl s2g)), (g3, .inl (k_s3g, 120, .inl s3g)), (g4, .inl (k_s4g, 120, .inl s4g)), (g5, .inl (k_s5g, 120, .inl s5g)), (g16, .inl (k_hig, 5, .inl hig)), (g17, .inl (k_log, 5, .inl log))] ++ zp 4 16 N az ac kz qs fz) := hD.part [15, 16, 17, 18, 19, 20, 21, 22, 23] (by decide) rfl
    have hKc : va_K (dC, dI) vwCl ([(k_fgz, .object RX7), (k_s1g, .int), (k_s2g, .int), (k_s3g, .int), (k_s4g, .int), (k_s5g, .int), (k_hig, .int), (k_log, .int)] ++ zt N kz) s := zk_part hK [13, 14, 15, 16, 17, 18, 19, 20] rfl
    refine va_calli (va_runV (As := []) (rest := []) ⟨hx, hb, hml, hown, hts⟩ (c_E_1_allSites_16 l dC dI _ g gz g1 g2 g3 g4 g5 gc gfull gx gway gav ggoal gfound gl gsz g16 g17 k_fgz k_s1g q_s1g k_s2g s2g k_s3g s3g k_s4g s4g k_s5g s5g k_hig hig k_log log N o az ac kz qs fz hgc hgfull hgfound hgl hgsz (by omega)) (cwV 0 hts g_E_8_reached_E_1_allSites_16 rfl rfl rfl (by decide +kernel) ⟨Nat.le_of_ble_eq_true rfl, Nat.le_of_ble_eq_true rfl⟩) ⟨pu_bl, va_recv hK hP (ci := 1) (q0 := 15) rfl rfl, pu_in hPc hKc hDc⟩ rfl rfl hl.1 rfl (lv_room (Nat.le_of_ble_eq_true rfl)) eX8_reached_11 ⟨Nat.le_of_ble_eq_true rfl, Nat.le_of_ble_eq_true rfl⟩) hS (fun q _ h => pu_fr hS hA q h) (pu_fr hS hA) (fun r_2 u t H1 locs ht hvm hw hB hz1 hk1 hS => ?_)
    have hP := pu_keep hP hk1
    clear hPc hDc hKc
    clear hk1 hz1 ht hvm
    generalize H1 = H at hP hS ⊢
    have ir_2 := hw
    have hsp := hsp.trans (slet_eq ir_2)
    refine lv_goto (tgt := 18) hx hb eX8_reached_14 (by decide) ?_
    exact W.iret (v := r_2) hx hb hr (fun t ht hW => ⟨⟨r_2, (), rfl, (hsp.symm.trans hRR), trivial⟩, hS.F ht⟩) hS.2.2 eX8_reached_18
theorem eX8_taken_0 : decode cX8_taken 0 = .ok (.aload_n 0, 1) := by decide +kernel
theorem eX8_taken_1 : decode cX8_taken 1 = .ok (.getfield 100, 3) := by decide +kernel
theorem eX8_taken_4 : decode cX8_taken 4 = .ok (.ifCond .eq 13, 3) := by decide +kernel
theorem eX8_taken_7 : decode cX8_taken 7 = .ok (.aload_n 0, 1) := by decide +kernel
theorem eX8_taken_8 : decode cX8_taken 8 = .ok (.getfield 42, 3) := by decide +kernel
theorem eX8_taken_11 : decode cX8_taken 11 = .ok (.getfield 289, 3) := by decide +kernel
theorem eX8_taken_14 : decode cX8_taken 14 = .ok (.goto 4, 3) := by decide +kernel
theorem eX8_taken_17 : decode cX8_taken 17 = .ok (.iconst (-1), 1) := by decide +kernel
theorem eX8_taken_18 : decode cX8_taken 18 = .ok (.ireturn, 1) := by decide +kernel
abbrev vs_E_8_taken : List Cond := .code yX8_taken cX8_taken 1 (some .int) :: CM
noncomputable def sp_E_8_taken (hs : Nat) (gx : Int32) : Int32 := (if hs = 0 then (-1) else gx)
set_option maxHeartbeats 4000000 in
set_option maxRecDepth 100000 in
theorem c_E_8_taken (l : Launch) (dC : Nat → ClassId) (dI : Nat → Nat → Nat) (sz : Nat) (xa : Nat) (xtape : Nat) (tp : Nat) (rd : Nat) (au : Nat) (xdr : Nat) (hy : Nat) (g : Nat) (hs : Nat) (tg : Nat) (sg : Nat) (ss : Nat) (rm : Nat) (ti : Nat) (py : Nat) (bu : Nat) (sm : Nat) (gz : Nat) (g1 : Nat) (g2 : Nat) (g3 : Nat) (g4 : Nat) (g5 : Nat) (gc : Nat) (gfull : Nat) (gx : Int32) (gway : Int32) (gav : Int32) (ggoal : Int32) (gfound : Nat) (gl : Nat) (gsz : Nat) (g16 : Nat) (g17 : Nat) (htp : tp ≤ 900) (hhs : hs ≤ 1) (hss : ss ≤ 1) (hgc : gc ≤ 120) (hgfull : gfull ≤ 1) (hgfound : gfound ≤ 1) (hgl : gl ≤ 1) (hgsz : gsz ≤ 4) : Met l yX8_taken vs_E_8_taken ({ frames := 0, cells := 0, slots := 0, locals := 0 }) (va_Pc [.ref xa] (pu_B (dC, dI) (xg0__w xa xtape (nI tp) rd au xdr hy g (nI hs) tg sg (nI ss) rm ti py bu sm gz g1 g2 g3 g4 g5 (nI gc) (nI gfull) gx gway gav ggoal (nI gfound) 120 (nI gl) (nI gsz) g16 g17) (xg0__t ) sz)) (va_Qi (fun (r : Int32) (_ : Unit) => r = (sp_E_8_taken hs gx)) (fun _ _ => True) (va_A [] sz)) 0 0 (va_A [] sz) := by
  refine Met.ofW (cc := cX8_taken) (maxL := 1) (ret := (some .int)) (by decide) rfl ?_
  intro p e s m args below meth c s₁ B hml hv
  obtain ⟨rfl, rfl, hP, hK, hD0⟩ := hv
  have hx := B.exec
  have hb := B.bytes
  have hr := B.returns
  have hts := atoms_spec (ws := vs_E_8_taken) B.pre
  have v_1 := hts (.fieldLink RX8 100 "ClockReach" "hasShown" "Z") (List.mem_cons_of_mem _ cm_445)
  have v_2 := hts (.fieldLink RX8 42 "ClockReach" "shown" "LClockReach$Graph;") (List.mem_cons_of_mem _ cm_456)
  have v_3 := hts (.fieldLink RX8 289 "ClockReach$Graph" "crossed" "I") (List.mem_cons_of_mem _ cm_576)
  have hown : s.vm.findClass RX8 = some m.cls := findClass_of_methodNamed B.named
  have hlocks := B.notSynchronized
  have hiX1 : ∀ w ∈ wsX10, w ∈ vs_E_8_taken := fun _ h => List.mem_cons_of_mem _ (cm_X1 h)
  have hiX8 : ∀ w ∈ wsX80, w ∈ vs_E_8_taken := fun _ h => List.mem_cons_of_mem _ (cm_X8 h)
  have hD := hD0
  have hA : ∀ q : Nat, s.heap.size ≤ q → va_A [] s.heap.size q := fun _ h => Or.inr h
  have hS : va_S (va_A [] s.heap.size) s.heap s.heap [] := va_S.rf
  have hl := lv_entry ([.ref xa]) (n := 1) (Nat.le_of_ble_eq_true rfl)
  rw [lg_entry_eq]
  generalize (lg_sl ([.ref xa]) ++ List.replicate (1 - (lg_sl ([.ref xa])).length) Slot.unset).toArray = ls at hl ⊢
  have hl : lv_has ls 1 [(0, .ref xa)] := hl
  obtain ⟨RR, hRR⟩ : ∃ x, x = (sp_E_8_taken hs gx) := ⟨_, rfl⟩
  have hsp := hRR
  refine lv_aload_n hx hb eX8_taken_0 rfl (lv_at hl 0 rfl) ?_
  refine va_get (D := (dC, dI)) (ci := 8) (v := .int (nI hs)) (C := RX8) (T := TX8) (N := 16) hx hb hts hiX8 hown hK hP 0 rfl rfl 7 (by decide) v_1 (fun _ h9 => h9) rfl eX8_taken_1 ?_
  refine lv_if_eq (tgt := 17) hx hb eX8_taken_4 (by decide) (fun c_1 => ?_) (fun c_1 => ?_)
  · have c_1 : hs = 0 := (nI_eq (a := hs) (b := 0) (Nat.lt_of_le_of_lt hhs (Nat.le_of_ble_eq_true rfl)) (Nat.le_of_ble_eq_true rfl)).mp c_1
    have hsp := hsp.trans (if_pos c_1)
    refine lv_iconst (v := (-1)) hx hb eX8_taken_17 (by decide) ?_
    exact W.iret (v := (-1)) hx hb hr (fun t ht hW => ⟨⟨(-1), (), rfl, (hsp.symm.trans hRR), trivial⟩, hS.F ht⟩) hS.2.2 eX8_taken_18
  · have c_1 : ¬ hs = 0 := fun z => c_1 ((nI_eq (a := hs) (b := 0) (Nat.lt_of_le_of_lt hhs (Nat.le_of_ble_eq_true rfl)) (Nat.le_of_ble_eq_true rfl)).mpr z)
    have hsp := hsp.trans (if_neg c_1)
    refine lv_aload_n hx hb eX8_taken_7 rfl (lv_at hl 0 rfl) ?_
    refine va_get (D := (dC, dI)) (ci := 8) (v := .ref g) (C := RX8) (T := TX8) (N := 16) hx hb hts hiX8 hown hK hP 0 rfl rfl 6 (by decide) v_2 (fun _ h9 => h9) rfl eX8_taken_8 ?_
    refine va_get (D := (dC, dI)) (ci := 1) (v := .int gx) (C := RX1) (T := TX1) (N := 18) hx hb hts hiX1 hown hK hP 1 rfl rfl 8 (by decide) v_3 (fun _ h9 => h9) rfl eX8_taken_11 ?_
    refine lv_goto (tgt := 18) hx hb eX8_taken_14 (by decide) ?_
    exact W.iret (v := gx) hx hb hr (fun t ht hW => ⟨⟨gx, (), rfl, (hsp.symm.trans hRR), trivial⟩, hS.F ht⟩) hS.2.2 eX8_taken_18
theorem eX8_canReach_0 : decode cX8_canReach 0 = .ok (.aload_n 0, 1) := by decide +kernel
theorem eX8_canReach_1 : decode cX8_canReach 1 = .ok (.getfield 46, 3) := by decide +kernel
theorem eX8_canReach_4 : decode cX8_canReach 4 = .ok (.aload_n 0, 1) := by decide +kernel
theorem eX8_canReach_5 : decode cX8_canReach 5 = .ok (.getfield 23, 3) := by decide +kernel
theorem eX8_canReach_8 : decode cX8_canReach 8 = .ok (.iconst 2, 1) := by decide +kernel
theorem eX8_canReach_9 : decode cX8_canReach 9 = .ok (.iconst 1, 1) := by decide +kernel
theorem eX8_canReach_10 : decode cX8_canReach 10 = .ok (.aload_n 0, 1) := by decide +kernel
theorem eX8_canReach_11 : decode cX8_canReach 11 = .ok (.getfield 23, 3) := by decide +kernel
theorem eX8_canReach_14 : decode cX8_canReach 14 = .ok (.getfield 116, 3) := by decide +kernel
theorem eX8_canReach_17 : decode cX8_canReach 17 = .ok (.iconst 1, 1) := by decide +kernel
theorem eX8_canReach_18 : decode cX8_canReach 18 = .ok (.iadd, 1) := by decide +kernel
theorem eX8_canReach_19 : decode cX8_canReach 19 = .ok (.invokevirtual 212, 3) := by decide +kernel
theorem eX8_canReach_22 : decode cX8_canReach 22 = .ok (.aload_n 0, 1) := by decide +kernel
theorem eX8_canReach_23 : decode cX8_canReach 23 = .ok (.getfield 46, 3) := by decide +kernel
theorem eX8_canReach_26 : decode cX8_canReach 26 = .ok (.iload_n 1, 1) := by decide +kernel
theorem eX8_canReach_27 : decode cX8_canReach 27 = .ok (.putfield 307, 3) := by decide +kernel
theorem eX8_canReach_30 : decode cX8_canReach 30 = .ok (.aload_n 0, 1) := by decide +kernel
theorem eX8_canReach_31 : decode cX8_canReach 31 = .ok (.getfield 46, 3) := by decide +kernel
theorem eX8_canReach_34 : decode cX8_canReach 34 = .ok (.iload_n 2, 1) := by decide +kernel
theorem eX8_canReach_35 : decode cX8_canReach 35 = .ok (.putfield 317, 3) := by decide +kernel
theorem eX8_canReach_38 : decode cX8_canReach 38 = .ok (.aload_n 0, 1) := by decide +kernel
theorem eX8_canReach_39 : decode cX8_canReach 39 = .ok (.aload_n 0, 1) := by decide +kernel
theorem eX8_canReach_40 : decode cX8_canReach 40 = .ok (.getfield 46, 3) := by decide +kernel
theorem eX8_canReach_43 : decode cX8_canReach 43 = .ok (.invokevirtual 216, 3) := by decide +kernel
theorem eX8_canReach_46 : decode cX8_canReach 46 = .ok (.aload_n 0, 1) := by decide +kernel
theorem eX8_canReach_47 : decode cX8_canReach 47 = .ok (.getfield 46, 3) := by decide +kernel
theorem eX8_canReach_50 : decode cX8_canReach 50 = .ok (.aload_n 0, 1) := by decide +kernel
theorem eX8_canReach_51 : decode cX8_canReach 51 = .ok (.getfield 23, 3) := by decide +kernel
theorem eX8_canReach_54 : decode cX8_canReach 54 = .ok (.invokevirtual 220, 3) := by decide +kernel
theorem eX8_canReach_57 : decode cX8_canReach 57 = .ok (.aload_n 0, 1) := by decide +kernel
theorem eX8_canReach_58 : decode cX8_canReach 58 = .ok (.getfield 46, 3) := by decide +kernel
theorem eX8_canReach_61 : decode cX8_canReach 61 = .ok (.getfield 310, 3) := by decide +kernel
theorem eX8_canReach_64 : decode cX8_canReach 64 = .ok (.ireturn, 1) := by decide +kernel
abbrev vs_E_8_canReach : List Cond := .code yX8_canReach cX8_canReach 3 (some .boolean) :: CM
theorem g_E_8_canReach_E_1_plan_16 : GoodIn vs_E_8_canReach (wsV RX8 212 RX1 yX1_plan vs_E_1_plan_16) := cm_gV cm_516 cm_517 cm_518 cm_113 cm_75
theorem g_E_8_canReach_E_8_beginAtZero_16 : GoodIn vs_E_8_canReach (wsV RX8 216 RX8 yX8_beginAtZero vs_E_8_beginAtZero_16) := cm_gV cm_519 cm_520 cm_521 cm_427 cm_522
theorem g_E_8_canReach_E_1_grow_16 : GoodIn vs_E_8_canReach (wsV RX8 220 RX1 yX1_grow vs_E_1_grow_16) := cm_gV cm_527 cm_528 cm_529 cm_113 cm_120
noncomputable def sp_E_8_canReach (nc : Nat) (ne : Nat) (st0 : Nat) (f4 : Nat → Int32) (q_f5 : Nat → Nat) (q_f6 : Nat → Nat) (f7 : Nat → Int32) (q_f8 : Nat → Nat) (q_f9 : Nat → Nat) (f12 : Nat → Int32) (f13 : Nat → Int32) (f14 : Nat → Int32) (f15 : Nat → Int32) (f16 : Nat → Int32) (q_s1t : Nat → Nat) (s2t : Nat → Int32) (s3t : Nat → Int32) (s4t : Nat → Int32) (s5t : Nat → Int32) (hit : Nat → Int32) (lot : Nat → Int32) (fbu : Nat → Int32) (o : Nat) (qs : Nat → Nat) (fz : Nat → Nat → Int32) (p0 : Int32) (p1 : Int32) : Nat × (Nat → Nat) × (Nat → Int32) × (Nat → Int32) × (Nat → Int32) × (Nat → Int32) × (Nat → Int32) × (Nat → Int32) × (Nat → Int32) × Int32 × Int32 × Nat × Nat × Nat × Nat × Nat × Int32 × Int32 × (Nat → Nat → Int32) × (Nat → Nat) := (slet (sp_E_1_plan_16 hit lot nc f14 f15 f16 2 1 (nc + 1)) (fun (z_fhi_3, z_flo_4, z_gav_5, z_ggoal_6, z_gfound_7, z_gl_8, z_gsz_9, z_gway_10) => (slet (sp_E_8_beginAtZero_16 st0 f4 q_f8 q_f9 f12 f13 z_gway_10 p1 p0 z_gfound_7 z_gsz_9 q_s1t s2t s3t s4t s5t z_fhi_3 z_flo_4 fbu o qs fz) (fun (z_s1gx_12, z_s2gx_13, z_s3gx_14, z_s4gx_15, z_s5gx_16, z_fbu_17, z_gxfound_18, z_gxc_19, z_gxfull_20, z_gxx_21, z_fz_22, z_qs_23) => (slet (sp_E_1_grow_16 z_gxc_19 z_gxfull_20 z_gxx_21 z_gway_10 p1 p0 z_gxfound_18 z_gl_8 z_s1gx_12 z_s2gx_13 z_s3gx_14 z_s4gx_15 z_s5gx_16 z_fhi_3 z_flo_4 nc ne f4 q_f5 q_f6 f7 q_f8 q_f9 f12 f13 o z_qs_23 z_fz_22) (fun (z_fs1_25, z_fs2_26, z_fs3_27, z_fs4_28, z_fs5_29, z_gfound_30, z_gc_31, z_gfull_32, z_gx_33, z_fz_34, z_qs_35) => (z_gfound_30, z_fs1_25, z_fs2_26, z_fs3_27, z_fs4_28, z_fs5_29, z_fhi_3, z_flo_4, z_fbu_17, p1, p0, z_gfound_30, z_gl_8, z_gsz_9, z_gc_31, z_gfull_32, z_gx_33, z_gway_10, z_fz_34, z_qs_35)))))))
set_option maxHeartbeats 4000000 in
set_option maxRecDepth 100000 in
theorem c_E_8_canReach (l : Launch) (dC : Nat → ClassId) (dI : Nat → Nat → Nat) (sz : Nat) (xa : Nat) (xtape : Nat) (tp : Nat) (rd : Nat) (au : Nat) (xdr : Nat) (hy : Nat) (g : Nat) (hs : Nat) (tg : Nat) (sg : Nat) (ss : Nat) (rm : Nat) (ti : Nat) (py : Nat) (bu : Nat) (sm : Nat) (nc : Nat) (np : Nat) (ne : Nat) (st0 : Nat) (q4 : Nat) (q5 : Nat) (q6 : Nat) (q7 : Nat) (q8 : Nat) (q9 : Nat) (q10 : Nat) (q11 : Nat) (q12 : Nat) (q13 : Nat) (q14 : Nat) (q15 : Nat) (q16 : Nat) (k_f4 : ClassId) (f4 : Nat → Int32) (k_f5 : ClassId) (q_f5 : Nat → Nat) (k_f6 : ClassId) (q_f6 : Nat → Nat) (k_f7 : ClassId) (f7 : Nat → Int32) (k_f8 : ClassId) (q_f8 : Nat → Nat) (k_f9 : ClassId) (q_f9 : Nat → Nat) (k_f10 : ClassId) (f10 : Nat → Int32) (k_f11 : ClassId) (f11 : Nat → Int32) (k_f12 : ClassId) (f12 : Nat → Int32) (k_f13 : ClassId) (f13 : Nat → Int32) (k_f14 : ClassId) (f14 : Nat → Int32) (k_f15 : ClassId) (f15 : Nat → Int32) (k_f16 : ClassId) (f16 : Nat → Int32) (tz : Nat) (t1 : Nat) (t2 : Nat) (t3 : Nat) (t4 : Nat) (t5 : Nat) (tc : Nat) (tfull : Nat) (tx : Int32) (tway : Int32) (tav : Int32) (tgoal : Int32) (tfound : Nat) (tl : Nat) (tsz : Nat) (t16 : Nat) (t17 : Nat) (k_ftz : ClassId) (k_s1t : ClassId) (q_s1t : Nat → Nat) (k_s2t : ClassId) (s2t : Nat → Int32) (k_s3t : ClassId) (s3t : Nat → Int32) (k_s4t : ClassId) (s4t : Nat → Int32) (k_s5t : ClassId) (s5t : Nat → Int32) (k_hit : ClassId) (hit : Nat → Int32) (k_lot : ClassId) (lot : Nat → Int32) (k_fbu : ClassId) (fbu : Nat → Int32) (N : Nat) (o : Nat) (az ac : Nat → Nat) (kz : Nat → ClassId) (qs : Nat → Nat) (fz : Nat → Nat → Int32) (p0 : Int32) (p1 : Int32) (htp : tp ≤ 900) (hhs : hs ≤ 1) (hss : ss ≤ 1) (hnc : nc ≤ 3) (hnp : np ≤ 8) (hne : ne ≤ 14) (hst0 : st0 ≤ 7) (htc : tc ≤ 120) (htfull : tfull ≤ 1) (htfound : tfound ≤ 1) (htl : tl ≤ 1) (htsz : tsz ≤ 4) (hN : o + 121 ≤ N) (hq0 : gz_ok tc s2t s3t s4t) : Met l yX8_canReach vs_E_8_canReach ({ frames := 5, cells := 0, slots := 0, locals := 125 }) (va_Pc [.ref xa, .int p0, .int p1] (pu_B (dC, dI) ((xtr__w xa xtape (nI tp) rd au xdr hy g (nI hs) tg sg (nI ss) rm ti py bu sm (nI nc) (nI np) (nI ne) (nI st0) q4 q5 q6 q7 q8 q9 q10 q11 q12 q13 q14 q15 q16 k_f4 f4 k_f5 (bN 7 q_f5) k_f6 (bN 7 q_f6) k_f7 f7 k_f8 (bN 4 q_f8) k_f9 (bN 2 q_f9) k_f10 f10 k_f11 f11 k_f12 f12 k_f13 f13 k_f14 f14 k_f15 f15 k_f16 f16 tz t1 t2 t3 t4 t5 (nI tc) (nI tfull) tx tway tav tgoal (nI tfound) 120 (nI tl) (nI tsz) t16 t17 k_ftz (zs o 121 az) k_s1t (bN 7 q_s1t) k_s2t s2t k_s3t s3t k_s4t s4t k_s5t s5t k_hit hit k_lot lot k_fbu fbu) ++ zp 4 16 N az ac kz qs fz) ((xtr__t k_f4 k_f5 k_f6 k_f7 k_f8 k_f9 k_f10 k_f11 k_f12 k_f13 k_f14 k_f15 k_f16 k_ftz k_s1t k_s2t k_s3t k_s4t k_s5t k_hit k_lot k_fbu) ++ zt N kz) sz)) (va_Qi (fun (r : Int32) (_ : Unit) => ∃ v : Nat, v ≤ 1 ∧ r = nI v ∧ v = (sp_E_8_canReach nc ne st0 f4 q_f5 q_f6 f7 q_f8 q_f9 f12 f13 f14 f15 f16 q_s1t s2t s3t s4t s5t hit lot fbu o qs fz p0 p1).1) (fun _ t => ∃ (z_s1t : Nat → Nat) (z_s2t : Nat → Int32) (z_s3t : Nat → Int32) (z_s4t : Nat → Int32) (z_s5t : Nat → Int32) (z_hit : Nat → Int32) (z_lot : Nat → Int32) (z_fbu : Nat → Int32) (z_tav : Int32) (z_tgoal : Int32) (z_tfound : Nat) (z_tl : Nat) (z_tsz : Nat) (z_tc : Nat) (z_tfull : Nat) (z_tx : Int32) (z_tway : Int32) (z_fz : Nat → Nat → Int32) (z_qs : Nat → Nat), pu_E (dC, dI) ((xtr__w xa xtape (nI tp) rd au xdr hy g (nI hs) tg sg (nI ss) rm ti py bu sm (nI nc) (nI np) (nI ne) (nI st0) q4 q5 q6 q7 q8 q9 q10 q11 q12 q13 q14 q15 q16 k_f4 f4 k_f5 (bN 7 q_f5) k_f6 (bN 7 q_f6) k_f7 f7 k_f8 (bN 4 q_f8) k_f9 (bN 2 q_f9) k_f10 f10 k_f11 f11 k_f12 f12 k_f13 f13 k_f14 f14 k_f15 f15 k_f16 f16 tz t1 t2 t3 t4 t5 (nI z_tc) (nI z_tfull) z_tx z_tway z_tav z_tgoal (nI z_tfound) 120 (nI z_tl) (nI z_tsz) t16 t17 k_ftz (zs o 121 az) k_s1t (bN 7 z_s1t) k_s2t z_s2t k_s3t z_s3t k_s4t z_s4t k_s5t z_s5t k_hit z_hit k_lot z_lot k_fbu z_fbu) ++ zp 4 16 N az ac kz z_qs z_fz) ((xtr__t k_f4 k_f5 k_f6 k_f7 k_f8 k_f9 k_f10 k_f11 k_f12 k_f13 k_f14 k_f15 k_f16 k_ftz k_s1t k_s2t k_s3t k_s4t k_s5t k_hit k_lot k_fbu) ++ zt N kz) (va_A (((xtr__w xa xtape (nI tp) rd au xdr hy g (nI hs) tg sg (nI ss) rm ti py bu sm (nI nc) (nI np) (nI ne) (nI st0) q4 q5 q6 q7 q8 q9 q10 q11 q12 q13 q14 q15 q16 k_f4 f4 k_f5 (bN 7 q_f5) k_f6 (bN 7 q_f6) k_f7 f7 k_f8 (bN 4 q_f8) k_f9 (bN 2 q_f9) k_f10 f10 k_f11 f11 k_f12 f12 k_f13 f13 k_f14 f14 k_f15 f15 k_f16 f16 tz t1 t2 t3 t4 t5 (nI tc) (nI tfull) tx tway tav tgoal (nI tfound) 120 (nI tl) (nI tsz) t16 t17 k_ftz (zs o 121 az) k_s1t (bN 7 q_s1t) k_s2t s2t k_s3t s3t k_s4t s4t k_s5t s5t k_hit hit k_lot lot k_fbu fbu) ++ zp 4 16 N az ac kz qs fz)) sz) t ∧ (z_tfound ≤ 1) ∧ (z_tl ≤ 1) ∧ (z_tsz ≤ 4) ∧ (z_tc ≤ 120) ∧ (z_tfull ≤ 1) ∧ (gz_ok z_tc z_s2t z_s3t z_s4t) ∧ ((z_s1t, z_s2t, z_s3t, z_s4t, z_s5t, z_hit, z_lot, z_fbu, z_tav, z_tgoal, z_tfound, z_tl, z_tsz, z_tc, z_tfull, z_tx, z_tway, z_fz, z_qs) = (sp_E_8_canReach nc ne st0 f4 q_f5 q_f6 f7 q_f8 q_f9 f12 f13 f14 f15 f16 q_s1t s2t s3t s4t s5t hit lot fbu o qs fz p0 p1).2)) (va_A (((xtr__w xa xtape (nI tp) rd au xdr hy g (nI hs) tg sg (nI ss) rm ti py bu sm (nI nc) (nI np) (nI ne) (nI st0) q4 q5 q6 q7 q8 q9 q10 q11 q12 q13 q14 q15 q16 k_f4 f4 k_f5 (bN 7 q_f5) k_f6 (bN 7 q_f6) k_f7 f7 k_f8 (bN 4 q_f8) k_f9 (bN 2 q_f9) k_f10 f10 k_f11 f11 k_f12 f12 k_f13 f13 k_f14 f14 k_f15 f15 k_f16 f16 tz t1 t2 t3 t4 t5 (nI tc) (nI tfull) tx tway tav tgoal (nI tfound) 120 (nI tl) (nI tsz) t16 t17 k_ftz (zs o 121 az) k_s1t (bN 7 q_s1t) k_s2t s2t k_s3t s3t k_s4t s4t k_s5t s5t k_hit hit k_lot lot k_fbu fbu) ++ zp 4 16 N az ac kz qs fz)) sz)) 0 0 (va_A (((xtr__w xa xtape (nI tp) rd au xdr hy g (nI hs) tg sg (nI ss) rm ti py bu sm (nI nc) (nI np) (nI ne) (nI st0) q4 q5 q6 q7 q8 q9 q10 q11 q12 q13 q14 q15 q16 k_f4 f4 k_f5 (bN 7 q_f5) k_f6 (bN 7 q_f6) k_f7 f7 k_f8 (bN 4 q_f8) k_f9 (bN 2 q_f9) k_f10 f10 k_f11 f11 k_f12 f12 k_f13 f13 k_f14 f14 k_f15 f15 k_f16 f16 tz t1 t2 t3 t4 t5 (nI tc) (nI tfull) tx tway tav tgoal (nI tfound) 120 (nI tl) (nI tsz) t16 t17 k_ftz (zs o 121 az) k_s1t (bN 7 q_s1t) k_s2t s2t k_s3t s3t k_s4t s4t k_s5t s5t k_hit hit k_lot lot k_fbu fbu) ++ zp 4 16 N az ac kz qs fz)) sz) := by
  refine Met.ofW (cc := cX8_canReach) (maxL := 3) (ret := (some .boolean)) (by decide) rfl ?_
  intro p e s m args below meth c s₁ B hml hv
  obtain ⟨rfl, rfl, hP, hK, hD0⟩ := hv
  have hx := B.exec
  have hb := B.bytes
  have hr := B.returns
  have hts := atoms_spec (ws := vs_E_8_canReach) B.pre
  have v_1 := hts (.fieldLink RX8 46 "ClockReach" "tried" "LClockReach$Graph;") (List.mem_cons_of_mem _ cm_590)
  have v_2 := hts (.fieldLink RX8 23 "ClockReach" "model" "LClockReach$Automaton;") (List.mem_cons_of_mem _ cm_434)
  have v_3 := hts (.fieldLink RX8 116 "ClockReach$Automaton" "clocks" "I") (List.mem_cons_of_mem _ cm_453)
  have v_9 := hts (.fieldLink RX8 307 "ClockReach$Graph" "goal" "I") (List.mem_cons_of_mem _ cm_591)
  have v_10 := hts (.fieldLink RX8 317 "ClockReach$Graph" "avoided" "I") (List.mem_cons_of_mem _ cm_598)
  have v_20 := hts (.fieldLink RX8 310 "ClockReach$Graph" "found" "Z") (List.mem_cons_of_mem _ cm_592)
  have hown : s.vm.findClass RX8 = some m.cls := findClass_of_methodNamed B.named
  have hlocks := B.notSynchronized
  have hiX0 : ∀ w ∈ wsX00, w ∈ vs_E_8_canReach := fun _ h => List.mem_cons_of_mem _ (cm_X0 h)
  have hiX1 : ∀ w ∈ wsX10, w ∈ vs_E_8_canReach := fun _ h => List.mem_cons_of_mem _ (cm_X1 h)
  have hiX8 : ∀ w ∈ wsX80, w ∈ vs_E_8_canReach := fun _ h => List.mem_cons_of_mem _ (cm_X8 h)
  have hD := hD0.self (sz := s.heap.size)
  generalize hAe : va_A (((xtr__w xa xtape (nI tp) rd au xdr hy g (nI hs) tg sg (nI ss) rm ti py bu sm (nI nc) (nI np) (nI ne) (nI st0) q4 q5 q6 q7 q8 q9 q10 q11 q12 q13 q14 q15 q16 k_f4 f4 k_f5 (bN 7 q_f5) k_f6 (bN 7 q_f6) k_f7 f7 k_f8 (bN 4 q_f8) k_f9 (bN 2 q_f9) k_f10 f10 k_f11 f11 k_f12 f12 k_f13 f13 k_f14 f14 k_f15 f15 k_f16 f16 tz t1 t2 t3 t4 t5 (nI tc) (nI tfull) tx tway tav tgoal (nI tfound) 120 (nI tl) (nI tsz) t16 t17 k_ftz (zs o 121 az) k_s1t (bN 7 q_s1t) k_s2t s2t k_s3t s3t k_s4t s4t k_s5t s5t k_hit hit k_lot lot k_fbu fbu) ++ zp 4 16 N az ac kz qs fz)) s.heap.size = A at hD ⊢
  have hA : ∀ q : Nat, s.heap.size ≤ q → A q := fun q h => by rw [← hAe]; exact Or.inr h
  have hS : va_S A s.heap s.heap [] := va_S.rf
  have hl := lv_entry ([.ref xa, .int p0, .int p1]) (n := 3) (Nat.le_of_ble_eq_true rfl)
  rw [lg_entry_eq]
  generalize (lg_sl ([.ref xa, .int p0, .int p1]) ++ List.replicate (3 - (lg_sl ([.ref xa, .int p0, .int p1])).length) Slot.unset).toArray = ls at hl ⊢
  have hl : lv_has ls 3 [(0, .ref xa), (1, .int p0), (2, .int p1)] := hl
  obtain ⟨RR, hRR⟩ : ∃ x, x = (sp_E_8_canReach nc ne st0 f4 q_f5 q_f6 f7 q_f8 q_f9 f12 f13 f14 f15 f16 q_s1t s2t s3t s4t s5t hit lot fbu o qs fz p0 p1) := ⟨_, rfl⟩
  have hsp := hRR
  refine lv_aload_n hx hb eX8_canReach_0 rfl (lv_at hl 0 rfl) ?_
  refine va_get (D := (dC, dI)) (ci := 8) (v := .ref tg) (C := RX8) (T := TX8) (N := 16) hx hb hts hiX8 hown hK hP 0 rfl rfl 8 (by decide) v_1 (fun _ h9 => h9) rfl eX8_canReach_1 ?_
  refine lv_aload_n hx hb eX8_canReach_4 rfl (lv_at hl 0 rfl) ?_
  refine va_get (D := (dC, dI)) (ci := 8) (v := .ref au) (C := RX8) (T := TX8) (N := 16) hx hb hts hiX8 hown hK hP 0 rfl rfl 3 (by decide) v_2 (fun _ h9 => h9) rfl eX8_canReach_5 ?_
  refine lv_iconst (v := 2) hx hb eX8_canReach_8 (by decide) ?_
  refine lv_iconst (v := 1) hx hb eX8_canReach_9 (by decide) ?_
  refine lv_aload_n hx hb eX8_canReach_10 rfl (lv_at hl 0 rfl) ?_
  refine va_get (D := (dC, dI)) (ci := 8) (v := .ref au) (C := RX8) (T := TX8) (N := 16) hx hb hts hiX8 hown hK hP 0 rfl rfl 3 (by decide) v_2 (fun _ h9 => h9) rfl eX8_canReach_11 ?_
  refine va_get (D := (dC, dI)) (ci := 0) (v := .int (nI nc)) (C := RX0) (T := TX0) (N := 17) hx hb hts hiX0 hown hK hP 1 rfl rfl 0 (by decide) v_3 (fun _ h9 => h9) rfl eX8_canReach_14 ?_
  refine lv_iconst (v := 1) hx hb eX8_canReach_17 (by decide) ?_
  refine lv_iadd hx hb eX8_canReach_18 ?_
  refine lv_topi (fun y_1 ey_1 => ?_)
  obtain rfl : y_1 = (nI (nc + 1)) := ey_1.trans (nI_add nc 1)
  have hPc : va_P (dC, dI) vwCl ([(tg, .inr (1, [.ref tz, .ref t1, .ref t2, .ref t3, .ref t4, .ref t5, .int (nI tc), .int (nI tfull), .int tx, .int tway, .int tav, .int tgoal, .int (nI tfound), .int 120, .int (nI tl), .int (nI tsz), .ref t16, .ref t17])), (tz, .inl (k_ftz, 121, .inr (.inr (.inr (.inr (zs o 121 az)))))), (t1, .inl (k_s1t, 120, .inl (bN 7 q_s1t))), (t2, .inl (k_s2t, 120, .inl s2t)), (t3, .inl (k_s3t, 120, .inl s3t)), (t4, .inl (k_s4t, 120, .inl s4t)), (t5, .inl (k_s5t, 120, .inl s5t)), (t16, .inl (k_hit, 5, .inl hit)), (t17, .inl (k_lot, 5, .inl lot)), (au, .inr (0, [.int (nI nc), .int (nI np), .int (nI ne), .int (nI st0), .ref q4, .ref q5, .ref q6, .ref q7, .ref q8, .ref q9, .ref q10, .ref q11, .ref q12, .ref q13, .ref q14, .ref q15, .ref q16])), (q4, .inl (k_f4, 8, .inl f4)), (q5, .inl (k_f5, 14, .inl (bN 7 q_f5))), (q6, .inl (k_f6, 14, .inl (bN 7 q_f6))), (q7, .inl (k_f7, 14, .inl f7)), (q8, .inl (k_f8, 22, .inl (bN 4 q_f8))), (q9, .inl (k_f9, 88, .inl (bN 2 q_f9))), (q10, .inl (k_f10, 88, .inl f10)), (q11, .inl (k_f11, 88, .inl f11)), (q12, .inl (k_f12, 88, .inl f12)), (q13, .inl (k_f13, 88, .inl f13)), (q14, .inl (k_f14, 4, .inl f14)), (q15, .inl (k_f15, 4, .inl f15)), (q16, .inl (k_f16, 4, .inl f16))] ++ zp 4 16 N az ac kz qs fz) _ := hP.part [15, 16, 17, 18, 19, 20, 21, 22, 23, 1, 2, 3, 4, 5, 6, 7, 8, 9, 10, 11, 12, 13, 14] rfl
  have hDc : va_D A ([(tg, .inr (1, [.ref tz, .ref t1, .ref t2, .ref t3, .ref t4, .ref t5, .int (nI tc), .int (nI tfull), .int tx, .int tway, .int tav, .int tgoal, .int (nI tfound), .int 120, .int (nI tl), .int (nI tsz), .ref t16, .ref t17])), (tz, .inl (k_ftz, 121, .inr (.inr (.inr (.inr (zs o 121 az)))))), (t1, .inl (k_s1t, 120, .inl (bN 7 q_s1t))), (t2, .inl (k_s2t, 120, .inl s2t)), (t3, .inl (k_s3t, 120, .inl s3t)), (t4, .inl (k_s4t, 120, .inl s4t)), (t5, .inl (k_s5t, 120, .inl s5t)), (t16, .inl (k_hit, 5, .inl hit)), (t17, .inl (k_lot, 5, .inl lot)), (au, .inr (0, [.int (nI nc), .int (nI np), .int (nI ne), .int (nI st0), .ref q4, .ref q5, .ref q6, .ref q7, .ref q8, .ref q9, .ref q10, .ref q11, .ref q12, .ref q13, .ref q14, .ref q15, .ref q16])), (q4, .inl (k_f4, 8, .inl f4)), (q5, .inl (k_f5, 14, .inl (bN 7 q_f5))), (q6, .inl (k_f6, 14, .inl (bN 7 q_f6))), (q7, .inl (k_f7, 14, .inl f7)), (q8, .inl (k_f8, 22, .inl (bN 4 q_f8))), (q9, .inl (k_f9, 88, .inl (bN 2 q_f9))), (q10, .inl (k_f10, 88, .inl f10)), (q11, .inl (k_f11, 88, .inl f11)), (q12, .inl (k_f12, 88, .inl f12)), (q13, .inl (k_f13, 88, .inl f13)), (q14, .inl (k_f14, 4, .inl f14)), (q15, .inl (k_f15, 4, .inl f15)), (q16, .inl (k_f16, 4, .inl f16))] ++ zp 4 16 N az ac kz qs fz) := hD.part [15, 16, 17, 18, 19, 20, 21, 22, 23, 1, 2, 3, 4, 5, 6, 7, 8, 9, 10, 11, 12, 13, 14] (by decide) rfl
  have hKc : va_K (dC, dI) vwCl ([(k_ftz, .object RX7), (k_s1t, .int), (k_s2t, .int), (k_s3t, .int), (k_s4t, .int), (k_s5t, .int), (k_hit, .int), (k_lot, .int), (k_f4, .boolean), (k_f5, .int), (k_f6, .int), (k_f7, .int), (k_f8, .int), (k_f9, .int), (k_f10, .int), (k_f11, .int), (k_f12, .int), (k_f13, .int), (k_f14, .int), (k_f15, .int), (k_f16, .int)] ++ zt N kz) s := zk_part hK [13, 14, 15, 16, 17, 18, 19, 20, 0, 1, 2, 3, 4, 5, 6, 7, 8, 9, 10, 11, 12] rfl
  have hFc := pu_free hDc hS hA
  refine va_callv (va_runV (As := [.ref au, .int 2, .int 1, .int (nI (nc + 1))]) (rest := []) ⟨hx, hb, hml, hown, hts⟩ (c_E_1_plan_16 l dC dI _ tg tz t1 t2 t3 t4 t5 tc tfull tx tway tav tgoal tfound tl tsz t16 t17 k_ftz k_s1t q_s1t k_s2t s2t k_s3t s3t k_s4t s4t k_s5t s5t k_hit hit k_lot lot au nc np ne (nI st0) q4 q5 q6 q7 q8 q9 q10 q11 q12 q13 q14 q15 q16 k_f4 f4 k_f5 q_f5 k_f6 q_f6 k_f7 f7 k_f8 q_f8 k_f9 q_f9 k_f10 f10 k_f11 f11 k_f12 f12 k_f13 f13 k_f14 f14 k_f15 f15 k_f16 f16 N o az ac kz qs fz 2 1 (nc + 1) htc htfull htfound htl htsz hnc hnp hne (Or.inr ⟨st0, hst0, rfl⟩) (by omega) (Nat.le_of_ble_eq_true rfl) (by omega)) (cwV 4 hts g_E_8_canReach_E_1_plan_16 rfl rfl rfl (by decide +kernel) ⟨Nat.le_of_ble_eq_true rfl, Nat.le_of_ble_eq_true rfl⟩) ⟨pu_bl, va_recv hK hP (ci := 1) (q0 := 15) rfl rfl, pu_in hPc hKc hDc⟩ rfl rfl hl.1 rfl (lv_room (Nat.le_of_ble_eq_true rfl)) eX8_canReach_19 ⟨Nat.le_of_ble_eq_true rfl, Nat.le_of_ble_eq_true rfl⟩) hS (fun q _ h => hFc q h) hFc (fun u t H1 locs ht hvm hw hB hz1 hk1 hS => ?_)
  obtain ⟨z_fhi_3, z_flo_4, z_gav_5, z_ggoal_6, z_gfound_7, z_gl_8, z_gsz_9, z_gway_10, ⟨hP1, -, hD1⟩, hz_gfound_7, hz_gl_8, hz_gsz_9, xr_2_0⟩ := hB
  rw [ht] at hP1
  obtain ⟨hP, hD⟩ := pj_c (X := (xtr__w xa xtape (nI tp) rd au xdr hy g (nI hs) tg sg (nI ss) rm ti py bu sm (nI nc) (nI np) (nI ne) (nI st0) q4 q5 q6 q7 q8 q9 q10 q11 q12 q13 q14 q15 q16 k_f4 f4 k_f5 (bN 7 q_f5) k_f6 (bN 7 q_f6) k_f7 f7 k_f8 (bN 4 q_f8) k_f9 (bN 2 q_f9) k_f10 f10 k_f11 f11 k_f12 f12 k_f13 f13 k_f14 f14 k_f15 f15 k_f16 f16 tz t1 t2 t3 t4 t5 (nI tc) (nI tfull) tx tway tav tgoal (nI tfound) 120 (nI tl) (nI tsz) t16 t17 k_ftz (zs o 121 az) k_s1t (bN 7 q_s1t) k_s2t s2t k_s3t s3t k_s4t s4t k_s5t s5t k_hit hit k_lot lot k_fbu fbu)) (X' := (xtr__w xa xtape (nI tp) rd au xdr hy g (nI hs) tg sg (nI ss) rm ti py bu sm (nI nc) (nI np) (nI ne) (nI st0) q4 q5 q6 q7 q8 q9 q10 q11 q12 q13 q14 q15 q16 k_f4 f4 k_f5 (bN 7 q_f5) k_f6 (bN 7 q_f6) k_f7 f7 k_f8 (bN 4 q_f8) k_f9 (bN 2 q_f9) k_f10 f10 k_f11 f11 k_f12 f12 k_f13 f13 k_f14 f14 k_f15 f15 k_f16 f16 tz t1 t2 t3 t4 t5 (nI tc) (nI tfull) tx z_gway_10 z_gav_5 z_ggoal_6 (nI z_gfound_7) 120 (nI z_gl_8) (nI z_gsz_9) t16 t17 k_ftz (zs o 121 az) k_s1t (bN 7 q_s1t) k_s2t s2t k_s3t s3t k_s4t s4t k_s5t s5t k_hit z_fhi_3 k_lot z_flo_4 k_fbu fbu)) (wc := (gs1__w tg tz t1 t2 t3 t4 t5 (nI tc) (nI tfull) tx tway tav tgoal (nI tfound) 120 (nI tl) (nI tsz) t16 t17 k_ftz (zs o 121 az) k_s1t (bN 7 q_s1t) k_s2t s2t k_s3t s3t k_s4t s4t k_s5t s5t k_hit hit k_lot lot au (nI nc) (nI np) (nI ne) (nI st0) q4 q5 q6 q7 q8 q9 q10 q11 q12 q13 q14 q15 q16 k_f4 f4 k_f5 (bN 7 q_f5) k_f6 (bN 7 q_f6) k_f7 f7 k_f8 (bN 4 q_f8) k_f9 (bN 2 q_f9) k_f10 f10 k_f11 f11 k_f12 f12 k_f13 f13 k_f14 f14 k_f15 f15 k_f16 f16)) (w1 := (gs1__w tg tz t1 t2 t3 t4 t5 (nI tc) (nI tfull) tx z_gway_10 z_gav_5 z_ggoal_6 (nI z_gfound_7) 120 (nI z_gl_8) (nI z_gsz_9) t16 t17 k_ftz (zs o 121 az) k_s1t (bN 7 q_s1t) k_s2t s2t k_s3t s3t k_s4t s4t k_s5t s5t k_hit z_fhi_3 k_lot z_flo_4 au (nI nc) (nI np) (nI ne) (nI st0) q4 q5 q6 q7 q8 q9 q10 q11 q12 q13 q14 q15 q16 k_f4 f4 k_f5 (bN 7 q_f5) k_f6 (bN 7 q_f6) k_f7 f7 k_f8 (bN 4 q_f8) k_f9 (bN 2 q_f9) k_f10 f10 k_f11 f11 k_f12 f12 k_f13 f13 k_f14 f14 k_f15 f15 k_f16 f16)) hP hD [15, 16, 17, 18, 19, 20, 21, 22, 23, 1, 2, 3, 4, 5, 6, 7, 8, 9, 10, 11, 12, 13, 14] [23, 9, 10, 11, 12, 13, 14, 15, 16, 17, 18, 19, 20, 21, 22, 0, 1, 2, 3, 4, 5, 6, 7, 8, 47] 23 rfl hk1 hP1 rfl zp_f rfl rfl (by decide)
  clear hP1 hD1 hFc
  clear hPc hDc hKc
  clear hk1 hz1 ht hvm
  generalize H1 = H at hP hS ⊢
  have hsp := hsp.trans (slet_eq xr_2_0)
  refine lv_aload_n hx hb eX8_canReach_22 rfl (lv_at hl 0 rfl) ?_
  refine va_get (D := (dC, dI)) (ci := 8) (v := .ref tg) (C := RX8) (T := TX8) (N := 16) hx hb hts hiX8 hown hK hP 0 rfl rfl 8 (by decide) v_1 (fun _ h9 => h9) rfl eX8_canReach_23 ?_
  refine lv_iload_n hx hb eX8_canReach_26 rfl (lv_at hl 1 rfl) ?_
  refine va_put (D := (dC, dI)) (ci := 1) (v := .int p0) (ty := .int) (C := RX1) (T := TX1) (N := 18) hx hb hts hiX1 tyX1 tyX1_ok nmX1 hown hK hP hD hS 15 rfl rfl 11 (by decide) v_9 (fun _ h9 => h9) rfl (by decide +kernel) rfl rfl (Nat.le_of_ble_eq_true rfl) eX8_canReach_27 (fun H locs hP hD hS => ?_)
  have hP : va_P (dC, dI) vwCl ((xtr__w xa xtape (nI tp) rd au xdr hy g (nI hs) tg sg (nI ss) rm ti py bu sm (nI nc) (nI np) (nI ne) (nI st0) q4 q5 q6 q7 q8 q9 q10 q11 q12 q13 q14 q15 q16 k_f4 f4 k_f5 (bN 7 q_f5) k_f6 (bN 7 q_f6) k_f7 f7 k_f8 (bN 4 q_f8) k_f9 (bN 2 q_f9) k_f10 f10 k_f11 f11 k_f12 f12 k_f13 f13 k_f14 f14 k_f15 f15 k_f16 f16 tz t1 t2 t3 t4 t5 (nI tc) (nI tfull) tx z_gway_10 z_gav_5 p0 (nI z_gfound_7) 120 (nI z_gl_8) (nI z_gsz_9) t16 t17 k_ftz (zs o 121 az) k_s1t (bN 7 q_s1t) k_s2t s2t k_s3t s3t k_s4t s4t k_s5t s5t k_hit z_fhi_3 k_lot z_flo_4 k_fbu fbu) ++ zp 4 16 N az ac kz qs fz) H := hP
  have hD : va_D A ((xtr__w xa xtape (nI tp) rd au xdr hy g (nI hs) tg sg (nI ss) rm ti py bu sm (nI nc) (nI np) (nI ne) (nI st0) q4 q5 q6 q7 q8 q9 q10 q11 q12 q13 q14 q15 q16 k_f4 f4 k_f5 (bN 7 q_f5) k_f6 (bN 7 q_f6) k_f7 f7 k_f8 (bN 4 q_f8) k_f9 (bN 2 q_f9) k_f10 f10 k_f11 f11 k_f12 f12 k_f13 f13 k_f14 f14 k_f15 f15 k_f16 f16 tz t1 t2 t3 t4 t5 (nI tc) (nI tfull) tx z_gway_10 z_gav_5 p0 (nI z_gfound_7) 120 (nI z_gl_8) (nI z_gsz_9) t16 t17 k_ftz (zs o 121 az) k_s1t (bN 7 q_s1t) k_s2t s2t k_s3t s3t k_s4t s4t k_s5t s5t k_hit z_fhi_3 k_lot z_flo_4 k_fbu fbu) ++ zp 4 16 N az ac kz qs fz) := hD
  refine lv_aload_n hx hb eX8_canReach_30 rfl (lv_at hl 0 rfl) ?_
  refine va_get (D := (dC, dI)) (ci := 8) (v := .ref tg) (C := RX8) (T := TX8) (N := 16) hx hb hts hiX8 hown hK hP 0 rfl rfl 8 (by decide) v_1 (fun _ h9 => h9) rfl eX8_canReach_31 ?_
  refine lv_iload_n hx hb eX8_canReach_34 rfl (lv_at hl 2 rfl) ?_
  refine va_put (D := (dC, dI)) (ci := 1) (v := .int p1) (ty := .int) (C := RX1) (T := TX1) (N := 18) hx hb hts hiX1 tyX1 tyX1_ok nmX1 hown hK hP hD hS 15 rfl rfl 10 (by decide) v_10 (fun _ h9 => h9) rfl (by decide +kernel) rfl rfl (Nat.le_of_ble_eq_true rfl) eX8_canReach_35 (fun H locs hP hD hS => ?_)
  have hP : va_P (dC, dI) vwCl ((xtr__w xa xtape (nI tp) rd au xdr hy g (nI hs) tg sg (nI ss) rm ti py bu sm (nI nc) (nI np) (nI ne) (nI st0) q4 q5 q6 q7 q8 q9 q10 q11 q12 q13 q14 q15 q16 k_f4 f4 k_f5 (bN 7 q_f5) k_f6 (bN 7 q_f6) k_f7 f7 k_f8 (bN 4 q_f8) k_f9 (bN 2 q_f9) k_f10 f10 k_f11 f11 k_f12 f12 k_f13 f13 k_f14 f14 k_f15 f15 k_f16 f16 tz t1 t2 t3 t4 t5 (nI tc) (nI tfull) tx z_gway_10 p1 p0 (nI z_gfound_7) 120 (nI z_gl_8) (nI z_gsz_9) t16 t17 k_ftz (zs o 121 az) k_s1t (bN 7 q_s1t) k_s2t s2t k_s3t s3t k_s4t s4t k_s5t s5t k_hit z_fhi_3 k_lot z_flo_4 k_fbu fbu) ++ zp 4 16 N az ac kz qs fz) H := hP
  have hD : va_D A ((xtr__w xa xtape (nI tp) rd au xdr hy g (nI hs) tg sg (nI ss) rm ti py bu sm (nI nc) (nI np) (nI ne) (nI st0) q4 q5 q6 q7 q8 q9 q10 q11 q12 q13 q14 q15 q16 k_f4 f4 k_f5 (bN 7 q_f5) k_f6 (bN 7 q_f6) k_f7 f7 k_f8 (bN 4 q_f8) k_f9 (bN 2 q_f9) k_f10 f10 k_f11 f11 k_f12 f12 k_f13 f13 k_f14 f14 k_f15 f15 k_f16 f16 tz t1 t2 t3 t4 t5 (nI tc) (nI tfull) tx z_gway_10 p1 p0 (nI z_gfound_7) 120 (nI z_gl_8) (nI z_gsz_9) t16 t17 k_ftz (zs o 121 az) k_s1t (bN 7 q_s1t) k_s2t s2t k_s3t s3t k_s4t s4t k_s5t s5t k_hit z_fhi_3 k_lot z_flo_4 k_fbu fbu) ++ zp 4 16 N az ac kz qs fz) := hD
  refine lv_aload_n hx hb eX8_canReach_38 rfl (lv_at hl 0 rfl) ?_
  refine lv_aload_n hx hb eX8_canReach_39 rfl (lv_at hl 0 rfl) ?_
  refine va_get (D := (dC, dI)) (ci := 8) (v := .ref tg) (C := RX8) (T := TX8) (N := 16) hx hb hts hiX8 hown hK hP 0 rfl rfl 8 (by decide) v_1 (fun _ h9 => h9) rfl eX8_canReach_40 ?_
  have hFc := pu_free hD hS hA
  refine va_callv (va_runV (As := [.ref tg]) (rest := []) ⟨hx, hb, hml, hown, hts⟩ (c_E_8_beginAtZero_16 l dC dI _ xa xtape tp rd au xdr hy g hs tg sg ss rm ti py bu sm nc np ne st0 q4 q5 q6 q7 q8 q9 q10 q11 q12 q13 q14 q15 q16 k_f4 f4 k_f5 q_f5 k_f6 q_f6 k_f7 f7 k_f8 q_f8 k_f9 q_f9 k_f10 f10 k_f11 f11 k_f12 f12 k_f13 f13 k_f14 f14 k_f15 f15 k_f16 f16 tg tz t1 t2 t3 t4 t5 tc tfull tx z_gway_10 p1 p0 z_gfound_7 z_gl_8 z_gsz_9 t16 t17 k_ftz k_s1t q_s1t k_s2t s2t k_s3t s3t k_s4t s4t k_s5t s5t k_hit z_fhi_3 k_lot z_flo_4 k_fbu fbu N o az ac kz qs fz htp hhs hss hnc hnp hne hst0 htc htfull hz_gfound_7 hz_gl_8 hz_gsz_9 (by omega)) (cwV 1 hts g_E_8_canReach_E_8_beginAtZero_16 rfl rfl rfl (by decide +kernel) ⟨Nat.le_of_ble_eq_true rfl, Nat.le_of_ble_eq_true rfl⟩) ⟨pu_bl, va_recv hK hP (ci := 8) (q0 := 0) rfl rfl, pu_in hP hK hD⟩ rfl rfl hl.1 rfl (lv_room (Nat.le_of_ble_eq_true rfl)) eX8_canReach_43 ⟨Nat.le_of_ble_eq_true rfl, Nat.le_of_ble_eq_true rfl⟩) hS (fun q _ h => hFc q h) hFc (fun u t H1 locs ht hvm hw hB hz1 hk1 hS => ?_)
  obtain ⟨z_s1gx_12, z_s2gx_13, z_s3gx_14, z_s4gx_15, z_s5gx_16, z_fbu_17, z_gxfound_18, z_gxc_19, z_gxfull_20, z_gxx_21, z_fz_22, z_qs_23, ⟨hP1, -, hD1⟩, hz_gxfound_18, hz_gxc_19, hz_gxfull_20, xr_11_0, xr_11_1⟩ := hB
  rw [ht] at hP1
  have hP := hP1
  have hD := pu_all hFc hD1
  clear hP1 hD1 hFc
  clear hk1 hz1 ht hvm
  generalize H1 = H at hP hS ⊢
  have hsp := hsp.trans (slet_eq xr_11_1)
  refine lv_aload_n hx hb eX8_canReach_46 rfl (lv_at hl 0 rfl) ?_
  refine va_get (D := (dC, dI)) (ci := 8) (v := .ref tg) (C := RX8) (T := TX8) (N := 16) hx hb hts hiX8 hown hK hP 0 rfl rfl 8 (by decide) v_1 (fun _ h9 => h9) rfl eX8_canReach_47 ?_
  refine lv_aload_n hx hb eX8_canReach_50 rfl (lv_at hl 0 rfl) ?_
  refine va_get (D := (dC, dI)) (ci := 8) (v := .ref au) (C := RX8) (T := TX8) (N := 16) hx hb hts hiX8 hown hK hP 0 rfl rfl 3 (by decide) v_2 (fun _ h9 => h9) rfl eX8_canReach_51 ?_
  have hPc : va_P (dC, dI) vwCl ([(tg, .inr (1, [.ref tz, .ref t1, .ref t2, .ref t3, .ref t4, .ref t5, .int (nI z_gxc_19), .int (nI z_gxfull_20), .int z_gxx_21, .int z_gway_10, .int p1, .int p0, .int (nI z_gxfound_18), .int 120, .int (nI z_gl_8), .int (nI z_gsz_9), .ref t16, .ref t17])), (tz, .inl (k_ftz, 121, .inr (.inr (.inr (.inr (zs o 121 az)))))), (t1, .inl (k_s1t, 120, .inl (bN 7 z_s1gx_12))), (t2, .inl (k_s2t, 120, .inl z_s2gx_13)), (t3, .inl (k_s3t, 120, .inl z_s3gx_14)), (t4, .inl (k_s4t, 120, .inl z_s4gx_15)), (t5, .inl (k_s5t, 120, .inl z_s5gx_16)), (t16, .inl (k_hit, 5, .inl z_fhi_3)), (t17, .inl (k_lot, 5, .inl z_flo_4)), (au, .inr (0, [.int (nI nc), .int (nI np), .int (nI ne), .int (nI st0), .ref q4, .ref q5, .ref q6, .ref q7, .ref q8, .ref q9, .ref q10, .ref q11, .ref q12, .ref q13, .ref q14, .ref q15, .ref q16])), (q4, .inl (k_f4, 8, .inl f4)), (q5, .inl (k_f5, 14, .inl (bN 7 q_f5))), (q6, .inl (k_f6, 14, .inl (bN 7 q_f6))), (q7, .inl (k_f7, 14, .inl f7)), (q8, .inl (k_f8, 22, .inl (bN 4 q_f8))), (q9, .inl (k_f9, 88, .inl (bN 2 q_f9))), (q10, .inl (k_f10, 88, .inl f10)), (q11, .inl (k_f11, 88, .inl f11)), (q12, .inl (k_f12, 88, .inl f12)), (q13, .inl (k_f13, 88, .inl f13)), (q14, .inl (k_f14, 4, .inl f14)), (q15, .inl (k_f15, 4, .inl f15)), (q16, .inl (k_f16, 4, .inl f16))] ++ zp 4 16 N az ac kz z_qs_23 z_fz_22) _ := hP.part [15, 16, 17, 18, 19, 20, 21, 22, 23, 1, 2, 3, 4, 5, 6, 7, 8, 9, 10, 11, 12, 13, 14] rfl
  have hDc : va_D A ([(tg, .inr (1, [.ref tz, .ref t1, .ref t2, .ref t3, .ref t4, .ref t5, .int (nI z_gxc_19), .int (nI z_gxfull_20), .int z_gxx_21, .int z_gway_10, .int p1, .int p0, .int (nI z_gxfound_18), .int 120, .int (nI z_gl_8), .int (nI z_gsz_9), .ref t16, .ref t17])), (tz, .inl (k_ftz, 121, .inr (.inr (.inr (.inr (zs o 121 az)))))), (t1, .inl (k_s1t, 120, .inl (bN 7 z_s1gx_12))), (t2, .inl (k_s2t, 120, .inl z_s2gx_13)), (t3, .inl (k_s3t, 120, .inl z_s3gx_14)), (t4, .inl (k_s4t, 120, .inl z_s4gx_15)), (t5, .inl (k_s5t, 120, .inl z_s5gx_16)), (t16, .inl (k_hit, 5, .inl z_fhi_3)), (t17, .inl (k_lot, 5, .inl z_flo_4)), (au, .inr (0, [.int (nI nc), .int (nI np), .int (nI ne), .int (nI st0), .ref q4, .ref q5, .ref q6, .ref q7, .ref q8, .ref q9, .ref q10, .ref q11, .ref q12, .ref q13, .ref q14, .ref q15, .ref q16])), (q4, .inl (k_f4, 8, .inl f4)), (q5, .inl (k_f5, 14, .inl (bN 7 q_f5))), (q6, .inl (k_f6, 14, .inl (bN 7 q_f6))), (q7, .inl (k_f7, 14, .inl f7)), (q8, .inl (k_f8, 22, .inl (bN 4 q_f8))), (q9, .inl (k_f9, 88, .inl (bN 2 q_f9))), (q10, .inl (k_f10, 88, .inl f10)), (q11, .inl (k_f11, 88, .inl f11)), (q12, .inl (k_f12, 88, .inl f12)), (q13, .inl (k_f13, 88, .inl f13)), (q14, .inl (k_f14, 4, .inl f14)), (q15, .inl (k_f15, 4, .inl f15)), (q16, .inl (k_f16, 4, .inl f16))] ++ zp 4 16 N az ac kz z_qs_23 z_fz_22) := hD.part [15, 16, 17, 18, 19, 20, 21, 22, 23, 1, 2, 3, 4, 5, 6, 7, 8, 9, 10, 11, 12, 13, 14] (by decide) rfl
  have hKc : va_K (dC, dI) vwCl ([(k_ftz, .object RX7), (k_s1t, .int), (k_s2t, .int), (k_s3t, .int), (k_s4t, .int), (k_s5t, .int), (k_hit, .int), (k_lot, .int), (k_f4, .boolean), (k_f5, .int), (k_f6, .int), (k_f7, .int), (k_f8, .int), (k_f9, .int), (k_f10, .int), (k_f11, .int), (k_f12, .int), (k_f13, .int), (k_f14, .int), (k_f15, .int), (k_f16, .int)] ++ zt N kz) s := zk_part hK [13, 14, 15, 16, 17, 18, 19, 20, 0, 1, 2, 3, 4, 5, 6, 7, 8, 9, 10, 11, 12] rfl
  have hFc := pu_free hDc hS hA
  refine va_callv (va_runV (As := [.ref au]) (rest := []) ⟨hx, hb, hml, hown, hts⟩ (c_E_1_grow_16 l dC dI _ tg tz t1 t2 t3 t4 t5 z_gxc_19 z_gxfull_20 z_gxx_21 z_gway_10 p1 p0 z_gxfound_18 z_gl_8 z_gsz_9 t16 t17 k_ftz k_s1t z_s1gx_12 k_s2t z_s2gx_13 k_s3t z_s3gx_14 k_s4t z_s4gx_15 k_s5t z_s5gx_16 k_hit z_fhi_3 k_lot z_flo_4 au nc np ne (nI st0) q4 q5 q6 q7 q8 q9 q10 q11 q12 q13 q14 q15 q16 k_f4 f4 k_f5 q_f5 k_f6 q_f6 k_f7 f7 k_f8 q_f8 k_f9 q_f9 k_f10 f10 k_f11 f11 k_f12 f12 k_f13 f13 k_f14 f14 k_f15 f15 k_f16 f16 N o az ac kz z_qs_23 z_fz_22 hz_gxc_19 hz_gxfull_20 hz_gxfound_18 hz_gl_8 hz_gsz_9 hnc hnp hne (Or.inr ⟨st0, hst0, rfl⟩) (by omega) (by first | assumption | exact gz_0)) (cwV 1 hts g_E_8_canReach_E_1_grow_16 rfl rfl rfl (by decide +kernel) ⟨Nat.le_of_ble_eq_true rfl, Nat.le_of_ble_eq_true rfl⟩) ⟨pu_bl, va_recv hK hP (ci := 1) (q0 := 15) rfl rfl, pu_in hPc hKc hDc⟩ rfl rfl hl.1 rfl (lv_room (Nat.le_of_ble_eq_true rfl)) eX8_canReach_54 ⟨Nat.le_of_ble_eq_true rfl, Nat.le_of_ble_eq_true rfl⟩) hS (fun q _ h => hFc q h) hFc (fun u t H1 locs ht hvm hw hB hz1 hk1 hS => ?_)
  obtain ⟨z_fs1_25, z_fs2_26, z_fs3_27, z_fs4_28, z_fs5_29, z_gfound_30, z_gc_31, z_gfull_32, z_gx_33, z_fz_34, z_qs_35, ⟨hP1, -, hD1⟩, hz_gfound_30, hz_gc_31, hz_gfull_32, xr_24_0, xr_24_1⟩ := hB
  rw [ht] at hP1
  obtain ⟨hP, hD⟩ := pj_c (X := (xtr__w xa xtape (nI tp) rd au xdr hy g (nI hs) tg sg (nI ss) rm ti py bu sm (nI nc) (nI np) (nI ne) (nI st0) q4 q5 q6 q7 q8 q9 q10 q11 q12 q13 q14 q15 q16 k_f4 f4 k_f5 (bN 7 q_f5) k_f6 (bN 7 q_f6) k_f7 f7 k_f8 (bN 4 q_f8) k_f9 (bN 2 q_f9) k_f10 f10 k_f11 f11 k_f12 f12 k_f13 f13 k_f14 f14 k_f15 f15 k_f16 f16 tz t1 t2 t3 t4 t5 (nI z_gxc_19) (nI z_gxfull_20) z_gxx_21 z_gway_10 p1 p0 (nI z_gxfound_18) 120 (nI z_gl_8) (nI z_gsz_9) t16 t17 k_ftz (zs o 121 az) k_s1t (bN 7 z_s1gx_12) k_s2t z_s2gx_13 k_s3t z_s3gx_14 k_s4t z_s4gx_15 k_s5t z_s5gx_16 k_hit z_fhi_3 k_lot z_flo_4 k_fbu z_fbu_17)) (X' := (xtr__w xa xtape (nI tp) rd au xdr hy g (nI hs) tg sg (nI ss) rm ti py bu sm (nI nc) (nI np) (nI ne) (nI st0) q4 q5 q6 q7 q8 q9 q10 q11 q12 q13 q14 q15 q16 k_f4 f4 k_f5 (bN 7 q_f5) k_f6 (bN 7 q_f6) k_f7 f7 k_f8 (bN 4 q_f8) k_f9 (bN 2 q_f9) k_f10 f10 k_f11 f11 k_f12 f12 k_f13 f13 k_f14 f14 k_f15 f15 k_f16 f16 tz t1 t2 t3 t4 t5 (nI z_gc_31) (nI z_gfull_32) z_gx_33 z_gway_10 p1 p0 (nI z_gfound_30) 120 (nI z_gl_8) (nI z_gsz_9) t16 t17 k_ftz (zs o 121 az) k_s1t (bN 7 z_fs1_25) k_s2t z_fs2_26 k_s3t z_fs3_27 k_s4t z_fs4_28 k_s5t z_fs5_29 k_hit z_fhi_3 k_lot z_flo_4 k_fbu z_fbu_17)) (wc := (gs1__w tg tz t1 t2 t3 t4 t5 (nI z_gxc_19) (nI z_gxfull_20) z_gxx_21 z_gway_10 p1 p0 (nI z_gxfound_18) 120 (nI z_gl_8) (nI z_gsz_9) t16 t17 k_ftz (zs o 121 az) k_s1t (bN 7 z_s1gx_12) k_s2t z_s2gx_13 k_s3t z_s3gx_14 k_s4t z_s4gx_15 k_s5t z_s5gx_16 k_hit z_fhi_3 k_lot z_flo_4 au (nI nc) (nI np) (nI ne) (nI st0) q4 q5 q6 q7 q8 q9 q10 q11 q12 q13 q14 q15 q16 k_f4 f4 k_f5 (bN 7 q_f5) k_f6 (bN 7 q_f6) k_f7 f7 k_f8 (bN 4 q_f8) k_f9 (bN 2 q_f9) k_f10 f10 k_f11 f11 k_f12 f12 k_f13 f13 k_f14 f14 k_f15 f15 k_f16 f16)) (w1 := (gs1__w tg tz t1 t2 t3 t4 t5 (nI z_gc_31) (nI z_gfull_32) z_gx_33 z_gway_10 p1 p0 (nI z_gfound_30) 120 (nI z_gl_8) (nI z_gsz_9) t16 t17 k_ftz (zs o 121 az) k_s1t (bN 7 z_fs1_25) k_s2t z_fs2_26 k_s3t z_fs3_27 k_s4t z_fs4_28 k_s5t z_fs5_29 k_hit z_fhi_3 k_lot z_flo_4 au (nI nc) (nI np) (nI ne) (nI st0) q4 q5 q6 q7 q8 q9 q10 q11 q12 q13 q14 q15 q16 k_f4 f4 k_f5 (bN 7 q_f5) k_f6 (bN 7 q_f6) k_f7 f7 k_f8 (bN 4 q_f8) k_f9 (bN 2 q_f9) k_f10 f10 k_f11 f11 k_f12 f12 k_f13 f13 k_f14 f14 k_f15 f15 k_f16 f16)) hP hD [15, 16, 17, 18, 19, 20, 21, 22, 23, 1, 2, 3, 4, 5, 6, 7, 8, 9, 10, 11, 12, 13, 14] [23, 9, 10, 11, 12, 13, 14, 15, 16, 17, 18, 19, 20, 21, 22, 0, 1, 2, 3, 4, 5, 6, 7, 8, 47] 23 rfl hk1 hP1 rfl zp_f rfl rfl (by decide)
  clear hP1 hD1 hFc
  clear hPc hDc hKc
  clear hk1 hz1 ht hvm
  generalize H1 = H at hP hS ⊢
  have hsp := hsp.trans (slet_eq xr_24_1)
  refine lv_aload_n hx hb eX8_canReach_57 rfl (lv_at hl 0 rfl) ?_
  refine va_get (D := (dC, dI)) (ci := 8) (v := .ref tg) (C := RX8) (T := TX8) (N := 16) hx hb hts hiX8 hown hK hP 0 rfl rfl 8 (by decide) v_1 (fun _ h9 => h9) rfl eX8_canReach_58 ?_
  refine va_get (D := (dC, dI)) (ci := 1) (v := .int (nI z_gfound_30)) (C := RX1) (T := TX1) (N := 18) hx hb hts hiX1 hown hK hP 15 rfl rfl 12 (by decide) v_20 (fun _ h9 => h9) rfl eX8_canReach_61 ?_
  exact W.zret (v := (nI z_gfound_30)) (ty := .boolean) hx hb hr (pu_nz (pu_b1 (n := z_gfound_30) (by omega))) (fun t ht hW => ⟨⟨(nI z_gfound_30), (), rfl, ⟨z_gfound_30, hz_gfound_30, rfl, (congrArg Prod.fst (hsp.symm.trans hRR))⟩, ⟨z_fs1_25, z_fs2_26, z_fs3_27, z_fs4_28, z_fs5_29, z_fhi_3, z_flo_4, z_fbu_17, p1, p0, z_gfound_30, z_gl_8, z_gsz_9, z_gc_31, z_gfull_32, z_gx_33, z_gway_10, z_fz_34, z_qs_35, ⟨by rw [ht]; exact hP, va_K.moved hW.alike hK, hD⟩, hz_gfound_30, hz_gl_8, hz_gsz_9, hz_gc_31, hz_gfull_32, by first | assumption | exact gz_0, (congrArg Prod.snd (hsp.symm.trans hRR))⟩⟩, hS.F ht⟩) hS.2.2 eX8_canReach_64
theorem eX8_avoids_0 : decode cX8_avoids 0 = .ok (.aload_n 0, 1) := by decide +kernel
theorem eX8_avoids_1 : decode cX8_avoids 1 = .ok (.iload_n 1, 1) := by decide +kernel
theorem eX8_avoids_2 : decode cX8_avoids 2 = .ok (.invokevirtual 140, 3) := by decide +kernel
theorem eX8_avoids_5 : decode cX8_avoids 5 = .ok (.ifCond .eq 11, 3) := by decide +kernel
theorem eX8_avoids_16 : decode cX8_avoids 16 = .ok (.iconst (-1), 1) := by decide +kernel
theorem eX8_avoids_17 : decode cX8_avoids 17 = .ok (.ireturn, 1) := by decide +kernel
abbrev vs_E_8_avoids_0 : List Cond := .code yX8_avoids cX8_avoids 3 (some .int) :: CM
theorem g_E_8_avoids_0_E_8_isPlace : GoodIn vs_E_8_avoids_0 (wsV RX8 140 RX8 yX8_isPlace vs_E_8_isPlace) := cm_gV cm_471 cm_472 cm_473 cm_427 cm_474
noncomputable def sp_E_8_avoids_0 : Int32 := (-1)
set_option maxHeartbeats 4000000 in
set_option maxRecDepth 100000 in
theorem c_E_8_avoids_0 (l : Launch) (dC : Nat → ClassId) (dI : Nat → Nat → Nat) (sz : Nat) (xa : Nat) (xtape : Nat) (tp : Nat) (rd : Nat) (au : Nat) (xdr : Nat) (hy : Nat) (g : Nat) (tg : Nat) (sg : Nat) (rm : Nat) (ti : Nat) (py : Nat) (bu : Nat) (sm : Nat) (nc : Nat) (ne : Nat) (st0 : Int32) (q4 : Nat) (q5 : Nat) (q6 : Nat) (q7 : Nat) (q8 : Nat) (q9 : Nat) (q10 : Nat) (q11 : Nat) (q12 : Nat) (q13 : Nat) (q14 : Nat) (q15 : Nat) (q16 : Nat) (k_f4 : ClassId) (f4 : Nat → Int32) (k_f5 : ClassId) (q_f5 : Nat → Nat) (k_f6 : ClassId) (q_f6 : Nat → Nat) (k_f7 : ClassId) (f7 : Nat → Int32) (k_f8 : ClassId) (q_f8 : Nat → Nat) (k_f9 : ClassId) (q_f9 : Nat → Nat) (k_f10 : ClassId) (f10 : Nat → Int32) (k_f11 : ClassId) (f11 : Nat → Int32) (k_f12 : ClassId) (f12 : Nat → Int32) (k_f13 : ClassId) (f13 : Nat → Int32) (k_f14 : ClassId) (f14 : Nat → Int32) (k_f15 : ClassId) (f15 : Nat → Int32) (k_f16 : ClassId) (f16 : Nat → Int32) (tz : Nat) (t1 : Nat) (t2 : Nat) (t3 : Nat) (t4 : Nat) (t5 : Nat) (tc : Nat) (tfull : Nat) (tx : Int32) (tway : Int32) (tav : Int32) (tgoal : Int32) (tfound : Nat) (tl : Nat) (tsz : Nat) (t16 : Nat) (t17 : Nat) (k_ftz : ClassId) (k_s1t : ClassId) (q_s1t : Nat → Nat) (k_s2t : ClassId) (s2t : Nat → Int32) (k_s3t : ClassId) (s3t : Nat → Int32) (k_s4t : ClassId) (s4t : Nat → Int32) (k_s5t : ClassId) (s5t : Nat → Int32) (k_hit : ClassId) (hit : Nat → Int32) (k_lot : ClassId) (lot : Nat → Int32) (k_fbu : ClassId) (fbu : Nat → Int32) (N : Nat) (o : Nat) (az ac : Nat → Nat) (kz : Nat → ClassId) (qs : Nat → Nat) (fz : Nat → Nat → Int32) (p0 : Int32) (p1 : Int32) (htp : tp ≤ 900) (hnc : nc ≤ 3) (hne : ne ≤ 14) (hst0 : pm1 7 st0) (htc : tc ≤ 120) (htfull : tfull ≤ 1) (htfound : tfound ≤ 1) (htl : tl ≤ 1) (htsz : tsz ≤ 4) (hN : o + 121 ≤ N) : Met l yX8_avoids vs_E_8_avoids_0 ({ frames := 1, cells := 0, slots := 0, locals := 21 }) (va_Pc [.ref xa, .int p0, .int p1] (pu_B (dC, dI) ((xtr__w xa xtape (nI tp) rd au xdr hy g 0 tg sg 0 rm ti py bu sm (nI nc) 0 (nI ne) st0 q4 q5 q6 q7 q8 q9 q10 q11 q12 q13 q14 q15 q16 k_f4 f4 k_f5 (bN 7 q_f5) k_f6 (bN 7 q_f6) k_f7 f7 k_f8 (bN 4 q_f8) k_f9 (bN 2 q_f9) k_f10 f10 k_f11 f11 k_f12 f12 k_f13 f13 k_f14 f14 k_f15 f15 k_f16 f16 tz t1 t2 t3 t4 t5 (nI tc) (nI tfull) tx tway tav tgoal (nI tfound) 120 (nI tl) (nI tsz) t16 t17 k_ftz (zs o 121 az) k_s1t (bN 7 q_s1t) k_s2t s2t k_s3t s3t k_s4t s4t k_s5t s5t k_hit hit k_lot lot k_fbu fbu) ++ zp 4 16 N az ac kz qs fz) ((xtr__t k_f4 k_f5 k_f6 k_f7 k_f8 k_f9 k_f10 k_f11 k_f12 k_f13 k_f14 k_f15 k_f16 k_ftz k_s1t k_s2t k_s3t k_s4t k_s5t k_hit k_lot k_fbu) ++ zt N kz) sz)) (va_Qi (fun (r : Int32) (_ : Unit) => r = sp_E_8_avoids_0) (fun _ _ => True) (va_A [] sz)) 0 0 (va_A [] sz) := by
  refine Met.ofW (cc := cX8_avoids) (maxL := 3) (ret := (some .int)) (by decide) rfl ?_
  intro p e s m args below meth c s₁ B hml hv
  obtain ⟨rfl, rfl, hP, hK, hD0⟩ := hv
  have hx := B.exec
  have hb := B.bytes
  have hr := B.returns
  have hts := atoms_spec (ws := vs_E_8_avoids_0) B.pre
  have hown : s.vm.findClass RX8 = some m.cls := findClass_of_methodNamed B.named
  have hlocks := B.notSynchronized
  have hD := hD0
  have hA : ∀ q : Nat, s.heap.size ≤ q → va_A [] s.heap.size q := fun _ h => Or.inr h
  have hS : va_S (va_A [] s.heap.size) s.heap s.heap [] := va_S.rf
  have hl := lv_entry ([.ref xa, .int p0, .int p1]) (n := 3) (Nat.le_of_ble_eq_true rfl)
  rw [lg_entry_eq]
  generalize (lg_sl ([.ref xa, .int p0, .int p1]) ++ List.replicate (3 - (lg_sl ([.ref xa, .int p0, .int p1])).length) Slot.unset).toArray = ls at hl ⊢
  have hl : lv_has ls 3 [(0, .ref xa), (1, .int p0), (2, .int p1)] := hl
  obtain ⟨RR, hRR⟩ : ∃ x, x = sp_E_8_avoids_0 := ⟨_, rfl⟩
  have hsp := hRR
  refine lv_aload_n hx hb eX8_avoids_0 rfl (lv_at hl 0 rfl) ?_
  refine lv_iload_n hx hb eX8_avoids_1 rfl (lv_at hl 1 rfl) ?_
  have hPc : va_P (dC, dI) vwCl [(xa, .inr (8, [.ref xtape, .int (nI tp), .ref rd, .ref au, .ref xdr, .ref hy, .ref g, .int 0, .ref tg, .ref sg, .int 0, .ref rm, .ref ti, .ref py, .ref bu, .ref sm])), (au, .inr (0, [.int (nI nc), .int 0, .int (nI ne), .int st0, .ref q4, .ref q5, .ref q6, .ref q7, .ref q8, .ref q9, .ref q10, .ref q11, .ref q12, .ref q13, .ref q14, .ref q15, .ref q16]))] _ := hP.sub [0, 1] rfl
  have hDc : va_D (fun _ => True) [(xa, .inr (8, [.ref xtape, .int (nI tp), .ref rd, .ref au, .ref xdr, .ref hy, .ref g, .int 0, .ref tg, .ref sg, .int 0, .ref rm, .ref ti, .ref py, .ref bu, .ref sm])), (au, .inr (0, [.int (nI nc), .int 0, .int (nI ne), .int st0, .ref q4, .ref q5, .ref q6, .ref q7, .ref q8, .ref q9, .ref q10, .ref q11, .ref q12, .ref q13, .ref q14, .ref q15, .ref q16]))] := (zp_left hD).sub [0, 1] (by decide) rfl
  have hKc : va_K (dC, dI) vwCl [] s := hK.sub [] rfl
  refine va_calli (va_runV (As := [.int p0]) (rest := []) ⟨hx, hb, hml, hown, hts⟩ (c_E_8_isPlace l dC dI _ xa xtape tp rd au xdr hy g 0 tg sg 0 rm ti py bu sm nc 0 ne st0 q4 q5 q6 q7 q8 q9 q10 q11 q12 q13 q14 q15 q16 p0 htp (Nat.le_of_ble_eq_true rfl) (Nat.le_of_ble_eq_true rfl) hnc (Nat.le_of_ble_eq_true rfl) hne (hst0)) (cwV 1 hts g_E_8_avoids_0_E_8_isPlace rfl rfl rfl (by decide +kernel) ⟨Nat.le_of_ble_eq_true rfl, Nat.le_of_ble_eq_true rfl⟩) ⟨pu_bl, va_recv hK hP (ci := 8) (q0 := 0) rfl rfl, pu_in hPc hKc hDc⟩ rfl rfl hl.1 rfl (lv_room (Nat.le_of_ble_eq_true rfl)) eX8_avoids_2 ⟨Nat.le_of_ble_eq_true rfl, Nat.le_of_ble_eq_true rfl⟩) hS (fun q _ h => pu_fr hS hA q h) (pu_fr hS hA) (fun r_1 u t H1 locs ht hvm hw hB hz1 hk1 hS => ?_)
  have hP := pu_keep hP hk1
  clear hPc hDc hKc
  clear hk1 hz1 ht hvm
  generalize H1 = H at hP hS ⊢
  rcases hw with ⟨rfl, hw⟩ | ⟨rfl, hn⟩
  · obtain ⟨n_2, hn_2, -⟩ := hw
    exact absurd hn_2 (Nat.not_lt_zero _)
  · refine lv_if_eq (tgt := 16) hx hb eX8_avoids_5 (by decide) (fun _ => ?_) (fun z => absurd z (by decide))
    refine lv_iconst (v := (-1)) hx hb eX8_avoids_16 (by decide) ?_
    exact W.iret (v := (-1)) hx hb hr (fun t ht hW => ⟨⟨(-1), (), rfl, (hsp.symm.trans hRR), trivial⟩, hS.F ht⟩) hS.2.2 eX8_avoids_17
theorem eX8_avoids_8 : decode cX8_avoids 8 = .ok (.aload_n 0, 1) := by decide +kernel
theorem eX8_avoids_9 : decode cX8_avoids 9 = .ok (.iload_n 2, 1) := by decide +kernel
theorem eX8_avoids_10 : decode cX8_avoids 10 = .ok (.invokevirtual 140, 3) := by decide +kernel
theorem eX8_avoids_13 : decode cX8_avoids 13 = .ok (.ifCond .ne 5, 3) := by decide +kernel
theorem eX8_avoids_18 : decode cX8_avoids 18 = .ok (.aload_n 0, 1) := by decide +kernel
theorem eX8_avoids_19 : decode cX8_avoids 19 = .ok (.iload_n 2, 1) := by decide +kernel
theorem eX8_avoids_20 : decode cX8_avoids 20 = .ok (.iload_n 1, 1) := by decide +kernel
theorem eX8_avoids_21 : decode cX8_avoids 21 = .ok (.invokevirtual 313, 3) := by decide +kernel
theorem eX8_avoids_24 : decode cX8_avoids 24 = .ok (.invokestatic 133, 3) := by decide +kernel
theorem eX8_avoids_27 : decode cX8_avoids 27 = .ok (.ireturn, 1) := by decide +kernel
abbrev vs_E_8_avoids : List Cond := .code yX8_avoids cX8_avoids 3 (some .int) :: CM
theorem g_E_8_avoids_E_8_isPlace : GoodIn vs_E_8_avoids (wsV RX8 140 RX8 yX8_isPlace vs_E_8_isPlace) := cm_gV cm_471 cm_472 cm_473 cm_427 cm_474
theorem g_E_8_avoids_E_8_canReach : GoodIn vs_E_8_avoids (wsV RX8 313 RX8 yX8_canReach vs_E_8_canReach) := cm_gV cm_594 cm_595 cm_596 cm_427 cm_597
theorem g_E_8_avoids_E_8_bit : GoodIn vs_E_8_avoids (va_wsS RX8 133 yX8_bit vs_E_8_bit) := cm_gS cm_463 cm_464 cm_427 cm_465
noncomputable def sp_E_8_avoids (nc : Nat) (np : Nat) (ne : Nat) (st0 : Nat) (f4 : Nat → Int32) (q_f5 : Nat → Nat) (q_f6 : Nat → Nat) (f7 : Nat → Int32) (q_f8 : Nat → Nat) (q_f9 : Nat → Nat) (f12 : Nat → Int32) (f13 : Nat → Int32) (f14 : Nat → Int32) (f15 : Nat → Int32) (f16 : Nat → Int32) (tc : Nat) (tfull : Nat) (tx : Int32) (tway : Int32) (tav : Int32) (tgoal : Int32) (tfound : Nat) (tl : Nat) (tsz : Nat) (q_s1t : Nat → Nat) (s2t : Nat → Int32) (s3t : Nat → Int32) (s4t : Nat → Int32) (s5t : Nat → Int32) (hit : Nat → Int32) (lot : Nat → Int32) (fbu : Nat → Int32) (o : Nat) (qs : Nat → Nat) (fz : Nat → Nat → Int32) (p0 : Int32) (p1 : Int32) : Int32 × (Nat → Nat) × (Nat → Int32) × (Nat → Int32) × (Nat → Int32) × (Nat → Int32) × (Nat → Int32) × (Nat → Int32) × (Nat → Int32) × Int32 × Int32 × Nat × Nat × Nat × Nat × Nat × Int32 × Int32 × (Nat → Nat → Int32) × (Nat → Nat) := (if (0 : Int32) ≤ p0 ∧ p0 < nI np then (slet ((p0 : Int32).toNatClampNeg) (fun n_2 => (if (0 : Int32) ≤ p1 ∧ p1 < nI np then (slet ((p1 : Int32).toNatClampNeg) (fun n_4 => (slet (sp_E_8_canReach nc ne st0 f4 q_f5 q_f6 f7 q_f8 q_f9 f12 f13 f14 f15 f16 q_s1t s2t s3t s4t s5t hit lot fbu o qs fz (nI n_4) (nI n_2)) (fun (u_25, z_s1t_6, z_s2t_7, z_s3t_8, z_s4t_9, z_s5t_10, z_hit_11, z_lot_12, z_fbu_13, z_tav_14, z_tgoal_15, z_tfound_16, z_tl_17, z_tsz_18, z_tc_19, z_tfull_20, z_tx_21, z_tway_22, z_fz_23, z_qs_24) => (slet (sp_E_8_bit (nI u_25)) (fun u_27 => ((nI u_27), z_s1t_6, z_s2t_7, z_s3t_8, z_s4t_9, z_s5t_10, z_hit_11, z_lot_12, z_fbu_13, z_tav_14, z_tgoal_15, z_tfound_16, z_tl_17, z_tsz_18, z_tc_19, z_tfull_20, z_tx_21, z_tway_22, z_fz_23, z_qs_24))))))) else ((-1), q_s1t, s2t, s3t, s4t, s5t, hit, lot, fbu, tav, tgoal, tfound, tl, tsz, tc, tfull, tx, tway, fz, qs)))) else ((-1), q_s1t, s2t, s3t, s4t, s5t, hit, lot, fbu, tav, tgoal, tfound, tl, tsz, tc, tfull, tx, tway, fz, qs))
set_option maxHeartbeats 4000000 in
set_option maxRecDepth 100000 in
theorem c_E_8_avoids (l : Launch) (dC : Nat → ClassId) (dI : Nat → Nat → Nat) (sz : Nat) (xa : Nat) (xtape : Nat) (tp : Nat) (rd : Nat) (au : Nat) (xdr : Nat) (hy : Nat) (g : Nat) (hs : Nat) (tg : Nat) (sg : Nat) (ss : Nat) (rm : Nat) (ti : Nat) (py : Nat) (bu : Nat) (sm : Nat) (nc : Nat) (np : Nat) (ne : Nat) (st0 : Nat) (q4 : Nat) (q5 : Nat) (q6 : Nat) (q7 : Nat) (q8 : Nat) (q9 : Nat) (q10 : Nat) (q11 : Nat) (q12 : Nat) (q13 : Nat) (q14 : Nat) (q15 : Nat) (q16 : Nat) (k_f4 : ClassId) (f4 : Nat → Int32) (k_f5 : ClassId) (q_f5 : Nat → Nat) (k_f6 : ClassId) (q_f6 : Nat → Nat) (k_f7 : ClassId) (f7 : Nat → Int32) (k_f8 : ClassId) (q_f8 : Nat → Nat) (k_f9 : ClassId) (q_f9 : Nat → Nat) (k_f10 : ClassId) (f10 : Nat → Int32) (k_f11 : ClassId) (f11 : Nat → Int32) (k_f12 : ClassId) (f12 : Nat → Int32) (k_f13 : ClassId) (f13 : Nat → Int32) (k_f14 : ClassId) (f14 : Nat → Int32) (k_f15 : ClassId) (f15 : Nat → Int32) (k_f16 : ClassId) (f16 : Nat → Int32) (tz : Nat) (t1 : Nat) (t2 : Nat) (t3 : Nat) (t4 : Nat) (t5 : Nat) (tc : Nat) (tfull : Nat) (tx : Int32) (tway : Int32) (tav : Int32) (tgoal : Int32) (tfound : Nat) (tl : Nat) (tsz : Nat) (t16 : Nat) (t17 : Nat) (k_ftz : ClassId) (k_s1t : ClassId) (q_s1t : Nat → Nat) (k_s2t : ClassId) (s2t : Nat → Int32) (k_s3t : ClassId) (s3t : Nat → Int32) (k_s4t : ClassId) (s4t : Nat → Int32) (k_s5t : ClassId) (s5t : Nat → Int32) (k_hit : ClassId) (hit : Nat → Int32) (k_lot : ClassId) (lot : Nat → Int32) (k_fbu : ClassId) (fbu : Nat → Int32) (N : Nat) (o : Nat) (az ac : Nat → Nat) (kz : Nat → ClassId) (qs : Nat → Nat) (fz : Nat → Nat → Int32) (p0 : Int32) (p1 : Int32) (htp : tp ≤ 900) (hhs : hs ≤ 1) (hss : ss ≤ 1) (hnc : nc ≤ 3) (hnp : np ≤ 8) (hne : ne ≤ 14) (hst0 : st0 ≤ 7) (htc : tc ≤ 120) (htfull : tfull ≤ 1) (htfound : tfound ≤ 1) (htl : tl ≤ 1) (htsz : tsz ≤ 4) (hN : o + 121 ≤ N) (hq0 : gz_ok tc s2t s3t s4t) : Met l yX8_avoids vs_E_8_avoids ({ frames := 6, cells := 0, slots := 0, locals := 147 }) (va_Pc [.ref xa, .int p0, .int p1] (pu_B (dC, dI) ((xtr__w xa xtape (nI tp) rd au xdr hy g (nI hs) tg sg (nI ss) rm ti py bu sm (nI nc) (nI np) (nI ne) (nI st0) q4 q5 q6 q7 q8 q9 q10 q11 q12 q13 q14 q15 q16 k_f4 f4 k_f5 (bN 7 q_f5) k_f6 (bN 7 q_f6) k_f7 f7 k_f8 (bN 4 q_f8) k_f9 (bN 2 q_f9) k_f10 f10 k_f11 f11 k_f12 f12 k_f13 f13 k_f14 f14 k_f15 f15 k_f16 f16 tz t1 t2 t3 t4 t5 (nI tc) (nI tfull) tx tway tav tgoal (nI tfound) 120 (nI tl) (nI tsz) t16 t17 k_ftz (zs o 121 az) k_s1t (bN 7 q_s1t) k_s2t s2t k_s3t s3t k_s4t s4t k_s5t s5t k_hit hit k_lot lot k_fbu fbu) ++ zp 4 16 N az ac kz qs fz) ((xtr__t k_f4 k_f5 k_f6 k_f7 k_f8 k_f9 k_f10 k_f11 k_f12 k_f13 k_f14 k_f15 k_f16 k_ftz k_s1t k_s2t k_s3t k_s4t k_s5t k_hit k_lot k_fbu) ++ zt N kz) sz)) (va_Qi (fun (r : Int32) (_ : Unit) => r = (sp_E_8_avoids nc np ne st0 f4 q_f5 q_f6 f7 q_f8 q_f9 f12 f13 f14 f15 f16 tc tfull tx tway tav tgoal tfound tl tsz q_s1t s2t s3t s4t s5t hit lot fbu o qs fz p0 p1).1) (fun _ t => ∃ (z_s1t : Nat → Nat) (z_s2t : Nat → Int32) (z_s3t : Nat → Int32) (z_s4t : Nat → Int32) (z_s5t : Nat → Int32) (z_hit : Nat → Int32) (z_lot : Nat → Int32) (z_fbu : Nat → Int32) (z_tav : Int32) (z_tgoal : Int32) (z_tfound : Nat) (z_tl : Nat) (z_tsz : Nat) (z_tc : Nat) (z_tfull : Nat) (z_tx : Int32) (z_tway : Int32) (z_fz : Nat → Nat → Int32) (z_qs : Nat → Nat), pu_E (dC, dI) ((xtr__w xa xtape (nI tp) rd au xdr hy g (nI hs) tg sg (nI ss) rm ti py bu sm (nI nc) (nI np) (nI ne) (nI st0) q4 q5 q6 q7 q8 q9 q10 q11 q12 q13 q14 q15 q16 k_f4 f4 k_f5 (bN 7 q_f5) k_f6 (bN 7 q_f6) k_f7 f7 k_f8 (bN 4 q_f8) k_f9 (bN 2 q_f9) k_f10 f10 k_f11 f11 k_f12 f12 k_f13 f13 k_f14 f14 k_f15 f15 k_f16 f16 tz t1 t2 t3 t4 t5 (nI z_tc) (nI z_tfull) z_tx z_tway z_tav z_tgoal (nI z_tfound) 120 (nI z_tl) (nI z_tsz) t16 t17 k_ftz (zs o 121 az) k_s1t (bN 7 z_s1t) k_s2t z_s2t k_s3t z_s3t k_s4t z_s4t k_s5t z_s5t k_hit z_hit k_lot z_lot k_fbu z_fbu) ++ zp 4 16 N az ac kz z_qs z_fz) ((xtr__t k_f4 k_f5 k_f6 k_f7 k_f8 k_f9 k_f10 k_f11 k_f12 k_f13 k_f14 k_f15 k_f16 k_ftz k_s1t k_s2t k_s3t k_s4t k_s5t k_hit k_lot k_fbu) ++ zt N kz) (va_A (((xtr__w xa xtape (nI tp) rd au xdr hy g (nI hs) tg sg (nI ss) rm ti py bu sm (nI nc) (nI np) (nI ne) (nI st0) q4 q5 q6 q7 q8 q9 q10 q11 q12 q13 q14 q15 q16 k_f4 f4 k_f5 (bN 7 q_f5) k_f6 (bN 7 q_f6) k_f7 f7 k_f8 (bN 4 q_f8) k_f9 (bN 2 q_f9) k_f10 f10 k_f11 f11 k_f12 f12 k_f13 f13 k_f14 f14 k_f15 f15 k_f16 f16 tz t1 t2 t3 t4 t5 (nI tc) (nI tfull) tx tway tav tgoal (nI tfound) 120 (nI tl) (nI tsz) t16 t17 k_ftz (zs o 121 az) k_s1t (bN 7 q_s1t) k_s2t s2t k_s3t s3t k_s4t s4t k_s5t s5t k_hit hit k_lot lot k_fbu fbu) ++ zp 4 16 N az ac kz qs fz)) sz) t ∧ (z_tfound ≤ 1) ∧ (z_tl ≤ 1) ∧ (z_tsz ≤ 4) ∧ (z_tc ≤ 120) ∧ (z_tfull ≤ 1) ∧ (gz_ok z_tc z_s2t z_s3t z_s4t) ∧ ((z_s1t, z_s2t, z_s3t, z_s4t, z_s5t, z_hit, z_lot, z_fbu, z_tav, z_tgoal, z_tfound, z_tl, z_tsz, z_tc, z_tfull, z_tx, z_tway, z_fz, z_qs) = (sp_E_8_avoids nc np ne st0 f4 q_f5 q_f6 f7 q_f8 q_f9 f12 f13 f14 f15 f16 tc tfull tx tway tav tgoal tfound tl tsz q_s1t s2t s3t s4t s5t hit lot fbu o qs fz p0 p1).2)) (va_A (((xtr__w xa xtape (nI tp) rd au xdr hy g (nI hs) tg sg (nI ss) rm ti py bu sm (nI nc) (nI np) (nI ne) (nI st0) q4 q5 q6 q7 q8 q9 q10 q11 q12 q13 q14 q15 q16 k_f4 f4 k_f5 (bN 7 q_f5) k_f6 (bN 7 q_f6) k_f7 f7 k_f8 (bN 4 q_f8) k_f9 (bN 2 q_f9) k_f10 f10 k_f11 f11 k_f12 f12 k_f13 f13 k_f14 f14 k_f15 f15 k_f16 f16 tz t1 t2 t3 t4 t5 (nI tc) (nI tfull) tx tway tav tgoal (nI tfound) 120 (nI tl) (nI tsz) t16 t17 k_ftz (zs o 121 az) k_s1t (bN 7 q_s1t) k_s2t s2t k_s3t s3t k_s4t s4t k_s5t s5t k_hit hit k_lot lot k_fbu fbu) ++ zp 4 16 N az ac kz qs fz)) sz)) 0 0 (va_A (((xtr__w xa xtape (nI tp) rd au xdr hy g (nI hs) tg sg (nI ss) rm ti py bu sm (nI nc) (nI np) (nI ne) (nI st0) q4 q5 q6 q7 q8 q9 q10 q11 q12 q13 q14 q15 q16 k_f4 f4 k_f5 (bN 7 q_f5) k_f6 (bN 7 q_f6) k_f7 f7 k_f8 (bN 4 q_f8) k_f9 (bN 2 q_f9) k_f10 f10 k_f11 f11 k_f12 f12 k_f13 f13 k_f14 f14 k_f15 f15 k_f16 f16 tz t1 t2 t3 t4 t5 (nI tc) (nI tfull) tx tway tav tgoal (nI tfound) 120 (nI tl) (nI tsz) t16 t17 k_ftz (zs o 121 az) k_s1t (bN 7 q_s1t) k_s2t s2t k_s3t s3t k_s4t s4t k_s5t s5t k_hit hit k_lot lot k_fbu fbu) ++ zp 4 16 N az ac kz qs fz)) sz) := by
  refine Met.ofW (cc := cX8_avoids) (maxL := 3) (ret := (some .int)) (by decide) rfl ?_
  intro p e s m args below meth c s₁ B hml hv
  obtain ⟨rfl, rfl, hP, hK, hD0⟩ := hv
  have hx := B.exec
  have hb := B.bytes
  have hr := B.returns
  have hts := atoms_spec (ws := vs_E_8_avoids) B.pre
  have hown : s.vm.findClass RX8 = some m.cls := findClass_of_methodNamed B.named
  have hlocks := B.notSynchronized
  have hD := hD0.self (sz := s.heap.size)
  generalize hAe : va_A (((xtr__w xa xtape (nI tp) rd au xdr hy g (nI hs) tg sg (nI ss) rm ti py bu sm (nI nc) (nI np) (nI ne) (nI st0) q4 q5 q6 q7 q8 q9 q10 q11 q12 q13 q14 q15 q16 k_f4 f4 k_f5 (bN 7 q_f5) k_f6 (bN 7 q_f6) k_f7 f7 k_f8 (bN 4 q_f8) k_f9 (bN 2 q_f9) k_f10 f10 k_f11 f11 k_f12 f12 k_f13 f13 k_f14 f14 k_f15 f15 k_f16 f16 tz t1 t2 t3 t4 t5 (nI tc) (nI tfull) tx tway tav tgoal (nI tfound) 120 (nI tl) (nI tsz) t16 t17 k_ftz (zs o 121 az) k_s1t (bN 7 q_s1t) k_s2t s2t k_s3t s3t k_s4t s4t k_s5t s5t k_hit hit k_lot lot k_fbu fbu) ++ zp 4 16 N az ac kz qs fz)) s.heap.size = A at hD ⊢
  have hA : ∀ q : Nat, s.heap.size ≤ q → A q := fun q h => by rw [← hAe]; exact Or.inr h
  have hS : va_S A s.heap s.heap [] := va_S.rf
  have hl := lv_entry ([.ref xa, .int p0, .int p1]) (n := 3) (Nat.le_of_ble_eq_true rfl)
  rw [lg_entry_eq]
  generalize (lg_sl ([.ref xa, .int p0, .int p1]) ++ List.replicate (3 - (lg_sl ([.ref xa, .int p0, .int p1])).length) Slot.unset).toArray = ls at hl ⊢
  have hl : lv_has ls 3 [(0, .ref xa), (1, .int p0), (2, .int p1)] := hl
  obtain ⟨RR, hRR⟩ : ∃ x, x = (sp_E_8_avoids nc np ne st0 f4 q_f5 q_f6 f7 q_f8 q_f9 f12 f13 f14 f15 f16 tc tfull tx tway tav tgoal tfound tl tsz q_s1t s2t s3t s4t s5t hit lot fbu o qs fz p0 p1) := ⟨_, rfl⟩
  have hsp := hRR
  refine lv_aload_n hx hb eX8_avoids_0 rfl (lv_at hl 0 rfl) ?_
  refine lv_iload_n hx hb eX8_avoids_1 rfl (lv_at hl 1 rfl) ?_
  have hPc : va_P (dC, dI) vwCl [(xa, .inr (8, [.ref xtape, .int (nI tp), .ref rd, .ref au, .ref xdr, .ref hy, .ref g, .int (nI hs), .ref tg, .ref sg, .int (nI ss), .ref rm, .ref ti, .ref py, .ref bu, .ref sm])), (au, .inr (0, [.int (nI nc), .int (nI np), .int (nI ne), .int (nI st0), .ref q4, .ref q5, .ref q6, .ref q7, .ref q8, .ref q9, .ref q10, .ref q11, .ref q12, .ref q13, .ref q14, .ref q15, .ref q16]))] _ := hP.sub [0, 1] rfl
  have hDc : va_D A [(xa, .inr (8, [.ref xtape, .int (nI tp), .ref rd, .ref au, .ref xdr, .ref hy, .ref g, .int (nI hs), .ref tg, .ref sg, .int (nI ss), .ref rm, .ref ti, .ref py, .ref bu, .ref sm])), (au, .inr (0, [.int (nI nc), .int (nI np), .int (nI ne), .int (nI st0), .ref q4, .ref q5, .ref q6, .ref q7, .ref q8, .ref q9, .ref q10, .ref q11, .ref q12, .ref q13, .ref q14, .ref q15, .ref q16]))] := (zp_left hD).sub [0, 1] (by decide) rfl
  have hKc : va_K (dC, dI) vwCl [] s := hK.sub [] rfl
  refine va_calli (va_runV (As := [.int p0]) (rest := []) ⟨hx, hb, hml, hown, hts⟩ (c_E_8_isPlace l dC dI _ xa xtape tp rd au xdr hy g hs tg sg ss rm ti py bu sm nc np ne (nI st0) q4 q5 q6 q7 q8 q9 q10 q11 q12 q13 q14 q15 q16 p0 htp hhs hss hnc hnp hne (Or.inr ⟨st0, hst0, rfl⟩)) (cwV 1 hts g_E_8_avoids_E_8_isPlace rfl rfl rfl (by decide +kernel) ⟨Nat.le_of_ble_eq_true rfl, Nat.le_of_ble_eq_true rfl⟩) ⟨pu_bl, va_recv hK hP (ci := 8) (q0 := 0) rfl rfl, pu_in hPc hKc hDc⟩ rfl rfl hl.1 rfl (lv_room (Nat.le_of_ble_eq_true rfl)) eX8_avoids_2 ⟨Nat.le_of_ble_eq_true rfl, Nat.le_of_ble_eq_true rfl⟩) hS (fun q _ h => pu_fr hS hA q h) (pu_fr hS hA) (fun r_1 u t H1 locs ht hvm hw hB hz1 hk1 hS => ?_)
  have hP := pu_keep hP hk1
  clear hPc hDc hKc
  clear hk1 hz1 ht hvm
  generalize H1 = H at hP hS ⊢
  rcases hw with ⟨rfl, hw⟩ | ⟨rfl, hn⟩
  · obtain ⟨n_2, hn_2, rfl⟩ := hw
    have hsp := hsp.trans (if_pos (in_q hn_2 (by omega)))
    have hsp := hsp.trans (slet_eq (nI_cl (n := n_2) (by omega)))
    refine lv_if_eq (tgt := 16) hx hb eX8_avoids_5 (by decide) (fun z => absurd z (by decide)) (fun _ => ?_)
    refine lv_aload_n hx hb eX8_avoids_8 rfl (lv_at hl 0 rfl) ?_
    refine lv_iload_n hx hb eX8_avoids_9 rfl (lv_at hl 2 rfl) ?_
    have hPc : va_P (dC, dI) vwCl [(xa, .inr (8, [.ref xtape, .int (nI tp), .ref rd, .ref au, .ref xdr, .ref hy, .ref g, .int (nI hs), .ref tg, .ref sg, .int (nI ss), .ref rm, .ref ti, .ref py, .ref bu, .ref sm])), (au, .inr (0, [.int (nI nc), .int (nI np), .int (nI ne), .int (nI st0), .ref q4, .ref q5, .ref q6, .ref q7, .ref q8, .ref q9, .ref q10, .ref q11, .ref q12, .ref q13, .ref q14, .ref q15, .ref q16]))] _ := hP.sub [0, 1] rfl
    have hDc : va_D A [(xa, .inr (8, [.ref xtape, .int (nI tp), .ref rd, .ref au, .ref xdr, .ref hy, .ref g, .int (nI hs), .ref tg, .ref sg, .int (nI ss), .ref rm, .ref ti, .ref py, .ref bu, .ref sm])), (au, .inr (0, [.int (nI nc), .int (nI np), .int (nI ne), .int (nI st0), .ref q4, .ref q5, .ref q6, .ref q7, .ref q8, .ref q9, .ref q10, .ref q11, .ref q12, .ref q13, .ref q14, .ref q15, .ref q16]))] := (zp_left hD).sub [0, 1] (by decide) rfl
    have hKc : va_K (dC, dI) vwCl [] s := hK.sub [] rfl
    refine va_calli (va_runV (As := [.int p1]) (rest := []) ⟨hx, hb, hml, hown, hts⟩ (c_E_8_isPlace l dC dI _ xa xtape tp rd au xdr hy g hs tg sg ss rm ti py bu sm nc np ne (nI st0) q4 q5 q6 q7 q8 q9 q10 q11 q12 q13 q14 q15 q16 p1 htp hhs hss hnc hnp hne (Or.inr ⟨st0, hst0, rfl⟩)) (cwV 1 hts g_E_8_avoids_E_8_isPlace rfl rfl rfl (by decide +kernel) ⟨Nat.le_of_ble_eq_true rfl, Nat.le_of_ble_eq_true rfl⟩) ⟨pu_bl, va_recv hK hP (ci := 8) (q0 := 0) rfl rfl, pu_in hPc hKc hDc⟩ rfl rfl hl.1 rfl (lv_room (Nat.le_of_ble_eq_true rfl)) eX8_avoids_10 ⟨Nat.le_of_ble_eq_true rfl, Nat.le_of_ble_eq_true rfl⟩) hS (fun q _ h => pu_fr hS hA q h) (pu_fr hS hA) (fun r_3 u t H1 locs ht hvm hw hB hz1 hk1 hS => ?_)
    have hP := pu_keep hP hk1
    clear hPc hDc hKc
    clear hk1 hz1 ht hvm
    generalize H1 = H at hP hS ⊢
    rcases hw with ⟨rfl, hw⟩ | ⟨rfl, hn⟩
    · obtain ⟨n_4, hn_4, rfl⟩ := hw
      have hsp := hsp.trans (if_pos (in_q hn_4 (by omega)))
      have hsp := hsp.trans (slet_eq (nI_cl (n := n_4) (by omega)))
      refine lv_if_ne (tgt := 18) hx hb eX8_avoids_13 (by decide) (fun _ => ?_) (fun z => absurd z (by decide))
      refine lv_aload_n hx hb eX8_avoids_18 rfl (lv_at hl 0 rfl) ?_
      refine lv_iload_n hx hb eX8_avoids_19 rfl (lv_at hl 2 rfl) ?_
      refine lv_iload_n hx hb eX8_avoids_20 rfl (lv_at hl 1 rfl) ?_
      have hFc := pu_free hD hS hA
      refine va_calli (va_runV (As := [.int (nI n_4), .int (nI n_2)]) (rest := []) ⟨hx, hb, hml, hown, hts⟩ (c_E_8_canReach l dC dI _ xa xtape tp rd au xdr hy g hs tg sg ss rm ti py bu sm nc np ne st0 q4 q5 q6 q7 q8 q9 q10 q11 q12 q13 q14 q15 q16 k_f4 f4 k_f5 q_f5 k_f6 q_f6 k_f7 f7 k_f8 q_f8 k_f9 q_f9 k_f10 f10 k_f11 f11 k_f12 f12 k_f13 f13 k_f14 f14 k_f15 f15 k_f16 f16 tz t1 t2 t3 t4 t5 tc tfull tx tway tav tgoal tfound tl tsz t16 t17 k_ftz k_s1t q_s1t k_s2t s2t k_s3t s3t k_s4t s4t k_s5t s5t k_hit hit k_lot lot k_fbu fbu N o az ac kz qs fz (nI n_4) (nI n_2) htp hhs hss hnc hnp hne hst0 htc htfull htfound htl htsz (by omega) (by assumption)) (cwV 2 hts g_E_8_avoids_E_8_canReach rfl rfl rfl (by decide +kernel) ⟨Nat.le_of_ble_eq_true rfl, Nat.le_of_ble_eq_true rfl⟩) ⟨pu_bl, va_recv hK hP (ci := 8) (q0 := 0) rfl rfl, pu_in hP hK hD⟩ rfl rfl hl.1 rfl (lv_room (Nat.le_of_ble_eq_true rfl)) eX8_avoids_21 ⟨Nat.le_of_ble_eq_true rfl, Nat.le_of_ble_eq_true rfl⟩) hS (fun q _ h => hFc q h) hFc (fun r_5 u t H1 locs ht hvm hw hB hz1 hk1 hS => ?_)
      obtain ⟨z_s1t_6, z_s2t_7, z_s3t_8, z_s4t_9, z_s5t_10, z_hit_11, z_lot_12, z_fbu_13, z_tav_14, z_tgoal_15, z_tfound_16, z_tl_17, z_tsz_18, z_tc_19, z_tfull_20, z_tx_21, z_tway_22, z_fz_23, z_qs_24, ⟨hP1, -, hD1⟩, hz_tfound_16, hz_tl_17, hz_tsz_18, hz_tc_19, hz_tfull_20, xr_5_0, xr_5_1⟩ := hB
      rw [ht] at hP1
      have hP := hP1
      have hD := pu_all hFc hD1
      clear hP1 hD1 hFc
      clear hk1 hz1 ht hvm
      generalize H1 = H at hP hS ⊢
      obtain ⟨u_25, hu_25, rfl, iu_25⟩ := hw
      have iu_25 : (u_25, z_s1t_6, z_s2t_7, z_s3t_8, z_s4t_9, z_s5t_10, z_hit_11, z_lot_12, z_fbu_13, z_tav_14, z_tgoal_15, z_tfound_16, z_tl_17, z_tsz_18, z_tc_19, z_tfull_20, z_tx_21, z_tway_22, z_fz_23, z_qs_24) = (sp_E_8_canReach nc ne st0 f4 q_f5 q_f6 f7 q_f8 q_f9 f12 f13 f14 f15 f16 q_s1t s2t s3t s4t s5t hit lot fbu o qs fz (nI n_4) (nI n_2)) := Prod.ext iu_25 xr_5_1
      have hsp := hsp.trans (slet_eq iu_25)
      have hPc : va_P (dC, dI) vwCl [] _ := hP.sub [] rfl
      have hDc : va_D A [] := (zp_left hD).sub [] (by decide) rfl
      have hKc : va_K (dC, dI) vwCl [] s := hK.sub [] rfl
      refine va_calli (va_runS (As := [.int (nI u_25)]) (rest := []) ⟨hx, hb, hml, hown, hts⟩ (c_E_8_bit l dC dI _ (nI u_25)) (va_cwS 1 hts g_E_8_avoids_E_8_bit rfl rfl rfl (by decide +kernel) ⟨Nat.le_of_ble_eq_true rfl, Nat.le_of_ble_eq_true rfl⟩) ⟨pu_bl, pu_in hPc hKc hDc⟩ rfl rfl hl.1 rfl (lv_room (Nat.le_of_ble_eq_true rfl)) eX8_avoids_24 ⟨Nat.le_of_ble_eq_true rfl, Nat.le_of_ble_eq_true rfl⟩) hS (fun q _ h => pu_fr hS hA q h) (pu_fr hS hA) (fun r_26 u t H1 locs ht hvm hw hB hz1 hk1 hS => ?_)
      have hP := pu_keep hP hk1
      clear hPc hDc hKc
      clear hk1 hz1 ht hvm
      generalize H1 = H at hP hS ⊢
      obtain ⟨u_27, hu_27, rfl, iu_27⟩ := hw
      have hsp := hsp.trans (slet_eq iu_27)
      exact W.iret (v := (nI u_27)) hx hb hr (fun t ht hW => ⟨⟨(nI u_27), (), rfl, (congrArg Prod.fst (hsp.symm.trans hRR)), ⟨z_s1t_6, z_s2t_7, z_s3t_8, z_s4t_9, z_s5t_10, z_hit_11, z_lot_12, z_fbu_13, z_tav_14, z_tgoal_15, z_tfound_16, z_tl_17, z_tsz_18, z_tc_19, z_tfull_20, z_tx_21, z_tway_22, z_fz_23, z_qs_24, ⟨by rw [ht]; exact hP, va_K.moved hW.alike hK, hD⟩, hz_tfound_16, hz_tl_17, hz_tsz_18, hz_tc_19, hz_tfull_20, by first | assumption | exact gz_0, (congrArg Prod.snd (hsp.symm.trans hRR))⟩⟩, hS.F ht⟩) hS.2.2 eX8_avoids_27
    · have hsp := hsp.trans (if_neg hn)
      refine lv_if_ne (tgt := 18) hx hb eX8_avoids_13 (by decide) (fun z => absurd z (by decide)) (fun _ => ?_)
      refine lv_iconst (v := (-1)) hx hb eX8_avoids_16 (by decide) ?_
      exact W.iret (v := (-1)) hx hb hr (fun t ht hW => ⟨⟨(-1), (), rfl, (congrArg Prod.fst (hsp.symm.trans hRR)), ⟨q_s1t, s2t, s3t, s4t, s5t, hit, lot, fbu, tav, tgoal, tfound, tl, tsz, tc, tfull, tx, tway, fz, qs, ⟨by rw [ht]; exact hP, va_K.moved hW.alike hK, hD⟩, htfound, htl, htsz, htc, htfull, by first | assumption | exact gz_0, (congrArg Prod.snd (hsp.symm.trans hRR))⟩⟩, hS.F ht⟩) hS.2.2 eX8_avoids_17
  · have hsp := hsp.trans (if_neg hn)
    refine lv_if_eq (tgt := 16) hx hb eX8_avoids_5 (by decide) (fun _ => ?_) (fun z => absurd z (by decide))
    refine lv_iconst (v := (-1)) hx hb eX8_avoids_16 (by decide) ?_
    exact W.iret (v := (-1)) hx hb hr (fun t ht hW => ⟨⟨(-1), (), rfl, (congrArg Prod.fst (hsp.symm.trans hRR)), ⟨q_s1t, s2t, s3t, s4t, s5t, hit, lot, fbu, tav, tgoal, tfound, tl, tsz, tc, tfull, tx, tway, fz, qs, ⟨by rw [ht]; exact hP, va_K.moved hW.alike hK, hD⟩, htfound, htl, htsz, htc, htfull, by first | assumption | exact gz_0, (congrArg Prod.snd (hsp.symm.trans hRR))⟩⟩, hS.F ht⟩) hS.2.2 eX8_avoids_17
theorem eX8_from_0 : decode cX8_from 0 = .ok (.aload_n 0, 1) := by decide +kernel
theorem eX8_from_1 : decode cX8_from 1 = .ok (.iload_n 1, 1) := by decide +kernel
theorem eX8_from_2 : decode cX8_from 2 = .ok (.invokevirtual 140, 3) := by decide +kernel
theorem eX8_from_5 : decode cX8_from 5 = .ok (.ifCond .eq 12, 3) := by decide +kernel
theorem eX8_from_17 : decode cX8_from 17 = .ok (.iconst (-1), 1) := by decide +kernel
theorem eX8_from_18 : decode cX8_from 18 = .ok (.ireturn, 1) := by decide +kernel
abbrev vs_E_8_from_0 : List Cond := .code yX8_from cX8_from 7 (some .int) :: CM
theorem g_E_8_from_0_E_8_isPlace : GoodIn vs_E_8_from_0 (wsV RX8 140 RX8 yX8_isPlace vs_E_8_isPlace) := cm_gV cm_471 cm_472 cm_473 cm_427 cm_474
noncomputable def sp_E_8_from_0 : Int32 := (-1)
set_option maxHeartbeats 4000000 in
set_option maxRecDepth 100000 in
theorem c_E_8_from_0 (l : Launch) (dC : Nat → ClassId) (dI : Nat → Nat → Nat) (sz : Nat) (xa : Nat) (xtape : Nat) (tp : Nat) (rd : Nat) (au : Nat) (xdr : Nat) (hy : Nat) (g : Nat) (tg : Nat) (sg : Nat) (rm : Nat) (ti : Nat) (py : Nat) (bu : Nat) (sm : Nat) (nc : Nat) (ne : Nat) (st0 : Int32) (q4 : Nat) (q5 : Nat) (q6 : Nat) (q7 : Nat) (q8 : Nat) (q9 : Nat) (q10 : Nat) (q11 : Nat) (q12 : Nat) (q13 : Nat) (q14 : Nat) (q15 : Nat) (q16 : Nat) (k_f4 : ClassId) (f4 : Nat → Int32) (k_f5 : ClassId) (q_f5 : Nat → Nat) (k_f6 : ClassId) (q_f6 : Nat → Nat) (k_f7 : ClassId) (f7 : Nat → Int32) (k_f8 : ClassId) (q_f8 : Nat → Nat) (k_f9 : ClassId) (q_f9 : Nat → Nat) (k_f10 : ClassId) (f10 : Nat → Int32) (k_f11 : ClassId) (f11 : Nat → Int32) (k_f12 : ClassId) (f12 : Nat → Int32) (k_f13 : ClassId) (f13 : Nat → Int32) (k_f14 : ClassId) (f14 : Nat → Int32) (k_f15 : ClassId) (f15 : Nat → Int32) (k_f16 : ClassId) (f16 : Nat → Int32) (tz : Nat) (t1 : Nat) (t2 : Nat) (t3 : Nat) (t4 : Nat) (t5 : Nat) (tc : Nat) (tfull : Nat) (tx : Int32) (tway : Int32) (tav : Int32) (tgoal : Int32) (tfound : Nat) (tl : Nat) (tsz : Nat) (t16 : Nat) (t17 : Nat) (k_ftz : ClassId) (k_s1t : ClassId) (q_s1t : Nat → Nat) (k_s2t : ClassId) (s2t : Nat → Int32) (k_s3t : ClassId) (s3t : Nat → Int32) (k_s4t : ClassId) (s4t : Nat → Int32) (k_s5t : ClassId) (s5t : Nat → Int32) (k_hit : ClassId) (hit : Nat → Int32) (k_lot : ClassId) (lot : Nat → Int32) (k_fbu : ClassId) (fbu : Nat → Int32) (N : Nat) (o : Nat) (az ac : Nat → Nat) (kz : Nat → ClassId) (qs : Nat → Nat) (fz : Nat → Nat → Int32) (p0 : Int32) (p1 : Int32) (p2 : Int32) (p3 : Int32) (p4 : Int32) (htp : tp ≤ 900) (hnc : nc ≤ 3) (hne : ne ≤ 14) (hst0 : pm1 7 st0) (htc : tc ≤ 120) (htfull : tfull ≤ 1) (htfound : tfound ≤ 1) (htl : tl ≤ 1) (htsz : tsz ≤ 4) (hN : o + 121 ≤ N) : Met l yX8_from vs_E_8_from_0 ({ frames := 1, cells := 0, slots := 0, locals := 21 }) (va_Pc [.ref xa, .int p0, .int p1, .int p2, .int p3, .int p4] (pu_B (dC, dI) ((xtr__w xa xtape (nI tp) rd au xdr hy g 0 tg sg 0 rm ti py bu sm (nI nc) 0 (nI ne) st0 q4 q5 q6 q7 q8 q9 q10 q11 q12 q13 q14 q15 q16 k_f4 f4 k_f5 (bN 7 q_f5) k_f6 (bN 7 q_f6) k_f7 f7 k_f8 (bN 4 q_f8) k_f9 (bN 2 q_f9) k_f10 f10 k_f11 f11 k_f12 f12 k_f13 f13 k_f14 f14 k_f15 f15 k_f16 f16 tz t1 t2 t3 t4 t5 (nI tc) (nI tfull) tx tway tav tgoal (nI tfound) 120 (nI tl) (nI tsz) t16 t17 k_ftz (zs o 121 az) k_s1t (bN 7 q_s1t) k_s2t s2t k_s3t s3t k_s4t s4t k_s5t s5t k_hit hit k_lot lot k_fbu fbu) ++ zp 4 16 N az ac kz qs fz) ((xtr__t k_f4 k_f5 k_f6 k_f7 k_f8 k_f9 k_f10 k_f11 k_f12 k_f13 k_f14 k_f15 k_f16 k_ftz k_s1t k_s2t k_s3t k_s4t k_s5t k_hit k_lot k_fbu) ++ zt N kz) sz)) (va_Qi (fun (r : Int32) (_ : Unit) => r = sp_E_8_from_0) (fun _ _ => True) (va_A [] sz)) 0 0 (va_A [] sz) := by
  refine Met.ofW (cc := cX8_from) (maxL := 7) (ret := (some .int)) (by decide) rfl ?_
  intro p e s m args below meth c s₁ B hml hv
  obtain ⟨rfl, rfl, hP, hK, hD0⟩ := hv
  have hx := B.exec
  have hb := B.bytes
  have hr := B.returns
  have hts := atoms_spec (ws := vs_E_8_from_0) B.pre
  have hown : s.vm.findClass RX8 = some m.cls := findClass_of_methodNamed B.named
  have hlocks := B.notSynchronized
  have hD := hD0
  have hA : ∀ q : Nat, s.heap.size ≤ q → va_A [] s.heap.size q := fun _ h => Or.inr h
  have hS : va_S (va_A [] s.heap.size) s.heap s.heap [] := va_S.rf
  have hl := lv_entry ([.ref xa, .int p0, .int p1, .int p2, .int p3, .int p4]) (n := 7) (Nat.le_of_ble_eq_true rfl)
  rw [lg_entry_eq]
  generalize (lg_sl ([.ref xa, .int p0, .int p1, .int p2, .int p3, .int p4]) ++ List.replicate (7 - (lg_sl ([.ref xa, .int p0, .int p1, .int p2, .int p3, .int p4])).length) Slot.unset).toArray = ls at hl ⊢
  have hl : lv_has ls 7 [(0, .ref xa), (1, .int p0), (2, .int p1), (3, .int p2), (4, .int p3), (5, .int p4)] := hl
  obtain ⟨RR, hRR⟩ : ∃ x, x = sp_E_8_from_0 := ⟨_, rfl⟩
  have hsp := hRR
  refine lv_aload_n hx hb eX8_from_0 rfl (lv_at hl 0 rfl) ?_
  refine lv_iload_n hx hb eX8_from_1 rfl (lv_at hl 1 rfl) ?_
  have hPc : va_P (dC, dI) vwCl [(xa, .inr (8, [.ref xtape, .int (nI tp), .ref rd, .ref au, .ref xdr, .ref hy, .ref g, .int 0, .ref tg, .ref sg, .int 0, .ref rm, .ref ti, .ref py, .ref bu, .ref sm])), (au, .inr (0, [.int (nI nc), .int 0, .int (nI ne), .int st0, .ref q4, .ref q5, .ref q6, .ref q7, .ref q8, .ref q9, .ref q10, .ref q11, .ref q12, .ref q13, .ref q14, .ref q15, .ref q16]))] _ := hP.sub [0, 1] rfl
  have hDc : va_D (fun _ => True) [(xa, .inr (8, [.ref xtape, .int (nI tp), .ref rd, .ref au, .ref xdr, .ref hy, .ref g, .int 0, .ref tg, .ref sg, .int 0, .ref rm, .ref ti, .ref py, .ref bu, .ref sm])), (au, .inr (0, [.int (nI nc), .int 0, .int (nI ne), .int st0, .ref q4, .ref q5, .ref q6, .ref q7, .ref q8, .ref q9, .ref q10, .ref q11, .ref q12, .ref q13, .ref q14, .ref q15, .ref q16]))] := (zp_left hD).sub [0, 1] (by decide) rfl
  have hKc : va_K (dC, dI) vwCl [] s := hK.sub [] rfl
  refine va_calli (va_runV (As := [.int p0]) (rest := []) ⟨hx, hb, hml, hown, hts⟩ (c_E_8_isPlace l dC dI _ xa xtape tp rd au xdr hy g 0 tg sg 0 rm ti py bu sm nc 0 ne st0 q4 q5 q6 q7 q8 q9 q10 q11 q12 q13 q14 q15 q16 p0 htp (Nat.le_of_ble_eq_true rfl) (Nat.le_of_ble_eq_true rfl) hnc (Nat.le_of_ble_eq_true rfl) hne (hst0)) (cwV 1 hts g_E_8_from_0_E_8_isPlace rfl rfl rfl (by decide +kernel) ⟨Nat.le_of_ble_eq_true rfl, Nat.le_of_ble_eq_true rfl⟩) ⟨pu_bl, va_recv hK hP (ci := 8) (q0 := 0) rfl rfl, pu_in hPc hKc hDc⟩ rfl rfl hl.1 rfl (lv_room (Nat.le_of_ble_eq_true rfl)) eX8_from_2 ⟨Nat.le_of_ble_eq_true rfl, Nat.le_of_ble_eq_true rfl⟩) hS (fun q _ h => pu_fr hS hA q h) (pu_fr hS hA) (fun r_1 u t H1 locs ht hvm hw hB hz1 hk1 hS => ?_)
  have hP := pu_keep hP hk1
  clear hPc hDc hKc
  clear hk1 hz1 ht hvm
  generalize H1 = H at hP hS ⊢
  rcases hw with ⟨rfl, hw⟩ | ⟨rfl, hn⟩
  · obtain ⟨n_2, hn_2, -⟩ := hw
    exact absurd hn_2 (Nat.not_lt_zero _)
  · refine lv_if_eq (tgt := 17) hx hb eX8_from_5 (by decide) (fun _ => ?_) (fun z => absurd z (by decide))
    refine lv_iconst (v := (-1)) hx hb eX8_from_17 (by decide) ?_
    exact W.iret (v := (-1)) hx hb hr (fun t ht hW => ⟨⟨(-1), (), rfl, (hsp.symm.trans hRR), trivial⟩, hS.F ht⟩) hS.2.2 eX8_from_18
