abbrev vs_E_1_open_25 : List Cond := .code yX1_open cX1_open 5 none :: CM
theorem g_E_1_open_25_E_7_setPoint_25 : GoodIn vs_E_1_open_25 (wsV RX1 88 RX7 yX7_setPoint vs_E_7_setPoint_25) := cm_gV cm_93 cm_94 cm_95 cm_45 cm_96
theorem g_E_1_open_25_E_0_hostOfPlace : GoodIn vs_E_1_open_25 (va_wsS RX1 92 yX0_hostOfPlace vs_E_0_hostOfPlace) := cm_gS cm_97 cm_55 cm_19 cm_0
theorem g_E_1_open_25_E_0_narrowTo_25 : GoodIn vs_E_1_open_25 (wsV RX1 96 RX0 yX0_narrowTo vs_E_0_narrowTo_25) := cm_gV cm_98 cm_52 cm_53 cm_19 cm_41
theorem g_E_1_open_25_E_0_stayIn_25 : GoodIn vs_E_1_open_25 (wsV RX1 100 RX0 yX0_stayIn vs_E_0_stayIn_25) := cm_gV cm_99 cm_100 cm_101 cm_19 cm_61
theorem g_E_1_open_25_E_1_record0_25 : GoodIn vs_E_1_open_25 (wsV RX1 108 RX1 yX1_record vs_E_1_record0_25) := cm_gV cm_110 cm_111 cm_112 cm_113 cm_114
theorem g_E_1_open_25_E_7_forget_25 : GoodIn vs_E_1_open_25 (wsV RX1 104 RX7 yX7_forget vs_E_7_forget_25) := cm_gV cm_102 cm_103 cm_104 cm_45 cm_105
noncomputable def sp_E_1_open_25 (gway : Int32) (gav : Int32) (ggoal : Int32) (gfound : Nat) (gsz : Nat) (q_fs1 : Nat → Nat) (fs2 : Nat → Int32) (fs3 : Nat → Int32) (fs4 : Nat → Int32) (fs5 : Nat → Int32) (fhi : Nat → Int32) (flo : Nat → Int32) (f4 : Nat → Int32) (q_f8 : Nat → Nat) (q_f9 : Nat → Nat) (f12 : Nat → Int32) (f13 : Nat → Int32) (fbu : Nat → Int32) (o : Nat) (qs : Nat → Nat) (fz : Nat → Nat → Int32) (a1 : Nat) : (Nat → Nat) × (Nat → Int32) × (Nat → Int32) × (Nat → Int32) × (Nat → Int32) × Nat × Nat × Nat × Int32 × (Nat → Nat → Int32) × (Nat → Nat) := (slet (sp_E_7_setPoint_25 fbu (fz (o + 0)) gsz) (fun z_fz_2 => (slet (updN qs (o + 0) gsz) (fun qs_3 => (slet (updZ fz (o + 0) z_fz_2) (fun fz_4 => (if ((nI a1) : Int32) = gav then (q_fs1, fs2, fs3, fs4, fs5, gfound, 0, 0, 0, fz_4, qs_3) else (slet (sp_E_0_narrowTo_25 q_f8 q_f9 f12 f13 (min (qs_3 (o + 0)) 5) (fz_4 (o + 0)) (14 + a1) 0) (fun (u_11, z_fz_8) => (slet (updZ fz_4 (o + 0) z_fz_8) (fun fz_10 => (if u_11 = 0 then (q_fs1, fs2, fs3, fs4, fs5, gfound, 0, 0, 0, fz_10, qs_3) else (slet (sp_E_0_stayIn_25 f4 q_f8 q_f9 f12 f13 (min (qs_3 (o + 0)) 5) (fz_10 (o + 0)) a1) (fun z_fz_14 => (slet (updZ fz_10 (o + 0) z_fz_14) (fun fz_16 => (slet (α := (Nat → Nat → Int32)) (if (gway : Int32) = 0 then fz_16 else (slet (sp_E_7_forget_25 fhi flo (min (qs_3 (o + 0)) 5) (fz_16 (o + 0))) (fun z_fz_30 => (slet (updZ fz_16 (o + 0) z_fz_30) (fun fz_32 => fz_32))))) (fun g_17 => (slet (sp_E_1_record0_25 0 ggoal gfound q_fs1 fs2 fs3 fs4 fs5 a1) (fun (z_fs1_22, z_fs2_23, z_fs3_24, z_fs4_25, z_fs5_26, z_gfound_27) => (z_fs1_22, z_fs2_23, z_fs3_24, z_fs4_25, z_fs5_26, z_gfound_27, (0 + 1), 0, 0, g_17, qs_3)))))))))))))))))))))
set_option maxHeartbeats 4000000 in
set_option maxRecDepth 100000 in
theorem c_E_1_open_25 (l : Launch) (dC : Nat → ClassId) (dI : Nat → Nat → Nat) (sz : Nat) (g : Nat) (gz : Nat) (g1 : Nat) (g2 : Nat) (g3 : Nat) (g4 : Nat) (g5 : Nat) (gc : Nat) (gfull : Nat) (gx : Int32) (gway : Int32) (gav : Int32) (ggoal : Int32) (gfound : Nat) (gl : Nat) (gsz : Nat) (g16 : Nat) (g17 : Nat) (k_fgz : ClassId) (k_fs1 : ClassId) (q_fs1 : Nat → Nat) (k_fs2 : ClassId) (fs2 : Nat → Int32) (k_fs3 : ClassId) (fs3 : Nat → Int32) (k_fs4 : ClassId) (fs4 : Nat → Int32) (k_fs5 : ClassId) (fs5 : Nat → Int32) (k_fhi : ClassId) (fhi : Nat → Int32) (k_flo : ClassId) (flo : Nat → Int32) (au : Nat) (nc : Nat) (np : Nat) (ne : Nat) (st0 : Int32) (q4 : Nat) (q5 : Nat) (q6 : Nat) (q7 : Nat) (q8 : Nat) (q9 : Nat) (q10 : Nat) (q11 : Nat) (q12 : Nat) (q13 : Nat) (q14 : Nat) (q15 : Nat) (q16 : Nat) (k_f4 : ClassId) (f4 : Nat → Int32) (k_f5 : ClassId) (q_f5 : Nat → Nat) (k_f6 : ClassId) (q_f6 : Nat → Nat) (k_f7 : ClassId) (f7 : Nat → Int32) (k_f8 : ClassId) (q_f8 : Nat → Nat) (k_f9 : ClassId) (q_f9 : Nat → Nat) (k_f10 : ClassId) (f10 : Nat → Int32) (k_f11 : ClassId) (f11 : Nat → Int32) (k_f12 : ClassId) (f12 : Nat → Int32) (k_f13 : ClassId) (f13 : Nat → Int32) (k_f14 : ClassId) (f14 : Nat → Int32) (k_f15 : ClassId) (f15 : Nat → Int32) (k_f16 : ClassId) (f16 : Nat → Int32) (bu : Nat) (k_fbu : ClassId) (fbu : Nat → Int32) (N : Nat) (o : Nat) (az ac : Nat → Nat) (kz : Nat → ClassId) (qs : Nat → Nat) (fz : Nat → Nat → Int32) (a1 : Nat) (hgc : gc ≤ 400) (hgfull : gfull ≤ 1) (hgfound : gfound ≤ 1) (hgl : gl ≤ 1) (hgsz : gsz ≤ 5) (hnc : nc ≤ 3) (hnp : np ≤ 8) (hne : ne ≤ 14) (hst0 : pm1 7 st0) (hN : o + 401 ≤ N) (ha1 : a1 ≤ 7) : Met l yX1_open vs_E_1_open_25 ({ frames := 3, cells := 0, slots := 0, locals := 77 }) (va_Pc [.ref g, .ref au, .int (nI a1), .ref bu] (pu_B (dC, dI) ((gt2__w g gz g1 g2 g3 g4 g5 (nI gc) (nI gfull) gx gway gav ggoal (nI gfound) 400 (nI gl) (nI gsz) g16 g17 k_fgz (zs o 401 az) k_fs1 (bN 7 q_fs1) k_fs2 fs2 k_fs3 fs3 k_fs4 fs4 k_fs5 fs5 k_fhi fhi k_flo flo au (nI nc) (nI np) (nI ne) st0 q4 q5 q6 q7 q8 q9 q10 q11 q12 q13 q14 q15 q16 k_f4 f4 k_f5 (bN 7 q_f5) k_f6 (bN 7 q_f6) k_f7 f7 k_f8 (bN 4 q_f8) k_f9 (bN 2 q_f9) k_f10 f10 k_f11 f11 k_f12 f12 k_f13 f13 k_f14 f14 k_f15 f15 k_f16 f16 bu k_fbu fbu) ++ zp 5 25 N az ac kz qs fz) ((gt2__t k_fgz k_fs1 k_fs2 k_fs3 k_fs4 k_fs5 k_fhi k_flo k_f4 k_f5 k_f6 k_f7 k_f8 k_f9 k_f10 k_f11 k_f12 k_f13 k_f14 k_f15 k_f16 k_fbu) ++ zt N kz) sz)) (va_Qv (fun (_ : Unit) => True) (fun _ t => ∃ (z_fs1 : Nat → Nat) (z_fs2 : Nat → Int32) (z_fs3 : Nat → Int32) (z_fs4 : Nat → Int32) (z_fs5 : Nat → Int32) (z_gfound : Nat) (z_gc : Nat) (z_gfull : Nat) (z_gx : Int32) (z_fz : Nat → Nat → Int32) (z_qs : Nat → Nat), pu_E (dC, dI) ((gt2__w g gz g1 g2 g3 g4 g5 (nI z_gc) (nI z_gfull) z_gx gway gav ggoal (nI z_gfound) 400 (nI gl) (nI gsz) g16 g17 k_fgz (zs o 401 az) k_fs1 (bN 7 z_fs1) k_fs2 z_fs2 k_fs3 z_fs3 k_fs4 z_fs4 k_fs5 z_fs5 k_fhi fhi k_flo flo au (nI nc) (nI np) (nI ne) st0 q4 q5 q6 q7 q8 q9 q10 q11 q12 q13 q14 q15 q16 k_f4 f4 k_f5 (bN 7 q_f5) k_f6 (bN 7 q_f6) k_f7 f7 k_f8 (bN 4 q_f8) k_f9 (bN 2 q_f9) k_f10 f10 k_f11 f11 k_f12 f12 k_f13 f13 k_f14 f14 k_f15 f15 k_f16 f16 bu k_fbu fbu) ++ zp 5 25 N az ac kz z_qs z_fz) ((gt2__t k_fgz k_fs1 k_fs2 k_fs3 k_fs4 k_fs5 k_fhi k_flo k_f4 k_f5 k_f6 k_f7 k_f8 k_f9 k_f10 k_f11 k_f12 k_f13 k_f14 k_f15 k_f16 k_fbu) ++ zt N kz) (va_A (((gt2__w g gz g1 g2 g3 g4 g5 (nI gc) (nI gfull) gx gway gav ggoal (nI gfound) 400 (nI gl) (nI gsz) g16 g17 k_fgz (zs o 401 az) k_fs1 (bN 7 q_fs1) k_fs2 fs2 k_fs3 fs3 k_fs4 fs4 k_fs5 fs5 k_fhi fhi k_flo flo au (nI nc) (nI np) (nI ne) st0 q4 q5 q6 q7 q8 q9 q10 q11 q12 q13 q14 q15 q16 k_f4 f4 k_f5 (bN 7 q_f5) k_f6 (bN 7 q_f6) k_f7 f7 k_f8 (bN 4 q_f8) k_f9 (bN 2 q_f9) k_f10 f10 k_f11 f11 k_f12 f12 k_f13 f13 k_f14 f14 k_f15 f15 k_f16 f16 bu k_fbu fbu) ++ zp 5 25 N az ac kz qs fz)) sz) t ∧ (z_gfound ≤ 1) ∧ (z_gc ≤ 400) ∧ (z_gfull ≤ 1) ∧ (gz_ok z_gc z_fs2 z_fs3 z_fs4) ∧ ((z_fs1, z_fs2, z_fs3, z_fs4, z_fs5, z_gfound, z_gc, z_gfull, z_gx, z_fz, z_qs) = (sp_E_1_open_25 gway gav ggoal gfound gsz q_fs1 fs2 fs3 fs4 fs5 fhi flo f4 q_f8 q_f9 f12 f13 fbu o qs fz a1))) (va_A (((gt2__w g gz g1 g2 g3 g4 g5 (nI gc) (nI gfull) gx gway gav ggoal (nI gfound) 400 (nI gl) (nI gsz) g16 g17 k_fgz (zs o 401 az) k_fs1 (bN 7 q_fs1) k_fs2 fs2 k_fs3 fs3 k_fs4 fs4 k_fs5 fs5 k_fhi fhi k_flo flo au (nI nc) (nI np) (nI ne) st0 q4 q5 q6 q7 q8 q9 q10 q11 q12 q13 q14 q15 q16 k_f4 f4 k_f5 (bN 7 q_f5) k_f6 (bN 7 q_f6) k_f7 f7 k_f8 (bN 4 q_f8) k_f9 (bN 2 q_f9) k_f10 f10 k_f11 f11 k_f12 f12 k_f13 f13 k_f14 f14 k_f15 f15 k_f16 f16 bu k_fbu fbu) ++ zp 5 25 N az ac kz qs fz)) sz)) 0 0 (va_A (((gt2__w g gz g1 g2 g3 g4 g5 (nI gc) (nI gfull) gx gway gav ggoal (nI gfound) 400 (nI gl) (nI gsz) g16 g17 k_fgz (zs o 401 az) k_fs1 (bN 7 q_fs1) k_fs2 fs2 k_fs3 fs3 k_fs4 fs4 k_fs5 fs5 k_fhi fhi k_flo flo au (nI nc) (nI np) (nI ne) st0 q4 q5 q6 q7 q8 q9 q10 q11 q12 q13 q14 q15 q16 k_f4 f4 k_f5 (bN 7 q_f5) k_f6 (bN 7 q_f6) k_f7 f7 k_f8 (bN 4 q_f8) k_f9 (bN 2 q_f9) k_f10 f10 k_f11 f11 k_f12 f12 k_f13 f13 k_f14 f14 k_f15 f15 k_f16 f16 bu k_fbu fbu) ++ zp 5 25 N az ac kz qs fz)) sz) := by
  refine Met.ofW (cc := cX1_open) (maxL := 5) (ret := none) (by decide) rfl ?_
  intro p e s m args below meth c s₁ B hml hv
  obtain ⟨rfl, rfl, hP, hK, hD0⟩ := hv
  have hx := B.exec
  have hb := B.bytes
  have hr := B.returns
  have hts := atoms_spec (ws := vs_E_1_open_25) B.pre
  have v_1 := hts (.fieldLink RX1 79 "ClockReach$Graph" "count" "I") (List.mem_cons_of_mem _ cm_89)
  have v_2 := hts (.fieldLink RX1 82 "ClockReach$Graph" "full" "Z") (List.mem_cons_of_mem _ cm_90)
  have v_3 := hts (.fieldLink RX1 85 "ClockReach$Graph" "crossed" "I") (List.mem_cons_of_mem _ cm_91)
  have v_4 := hts (.fieldLink RX1 17 "ClockReach$Graph" "zones" "[LClockReach$Zone;") (List.mem_cons_of_mem _ cm_92)
  have v_5 := hts (.fieldLink RX1 53 "ClockReach$Graph" "size" "I") (List.mem_cons_of_mem _ cm_78)
  have v_11 := hts (.fieldLink RX1 56 "ClockReach$Graph" "avoided" "I") (List.mem_cons_of_mem _ cm_79)
  have v_24 := hts (.fieldLink RX1 46 "ClockReach$Graph" "way" "I") (List.mem_cons_of_mem _ cm_76)
  have v_25 := hts (.fieldLink RX1 40 "ClockReach$Graph" "high" "[I") (List.mem_cons_of_mem _ cm_83)
  have v_26 := hts (.fieldLink RX1 43 "ClockReach$Graph" "low" "[I") (List.mem_cons_of_mem _ cm_86)
  have hown : s.vm.findClass RX1 = some m.cls := findClass_of_methodNamed B.named
  have hlocks := B.notSynchronized
  have hiX1 : ∀ w ∈ wsX10, w ∈ vs_E_1_open_25 := fun _ h => List.mem_cons_of_mem _ (cm_X1 h)
  have hD := hD0.self (sz := s.heap.size)
  generalize hAe : va_A (((gt2__w g gz g1 g2 g3 g4 g5 (nI gc) (nI gfull) gx gway gav ggoal (nI gfound) 400 (nI gl) (nI gsz) g16 g17 k_fgz (zs o 401 az) k_fs1 (bN 7 q_fs1) k_fs2 fs2 k_fs3 fs3 k_fs4 fs4 k_fs5 fs5 k_fhi fhi k_flo flo au (nI nc) (nI np) (nI ne) st0 q4 q5 q6 q7 q8 q9 q10 q11 q12 q13 q14 q15 q16 k_f4 f4 k_f5 (bN 7 q_f5) k_f6 (bN 7 q_f6) k_f7 f7 k_f8 (bN 4 q_f8) k_f9 (bN 2 q_f9) k_f10 f10 k_f11 f11 k_f12 f12 k_f13 f13 k_f14 f14 k_f15 f15 k_f16 f16 bu k_fbu fbu) ++ zp 5 25 N az ac kz qs fz)) s.heap.size = A at hD ⊢
  have hA : ∀ q : Nat, s.heap.size ≤ q → A q := fun q h => by rw [← hAe]; exact Or.inr h
  have hS : va_S A s.heap s.heap [] := va_S.rf
  have hl := lv_entry ([.ref g, .ref au, .int (nI a1), .ref bu]) (n := 5) (Nat.le_of_ble_eq_true rfl)
  rw [lg_entry_eq]
  generalize (lg_sl ([.ref g, .ref au, .int (nI a1), .ref bu]) ++ List.replicate (5 - (lg_sl ([.ref g, .ref au, .int (nI a1), .ref bu])).length) Slot.unset).toArray = ls at hl ⊢
  have hl : lv_has ls 5 [(0, .ref g), (1, .ref au), (2, .int (nI a1)), (3, .ref bu)] := hl
  obtain ⟨RR, hRR⟩ : ∃ x, x = (sp_E_1_open_25 gway gav ggoal gfound gsz q_fs1 fs2 fs3 fs4 fs5 fhi flo f4 q_f8 q_f9 f12 f13 fbu o qs fz a1) := ⟨_, rfl⟩
  have hsp := hRR
  refine lv_aload_n hx hb eX1_open_0 rfl (lv_at hl 0 rfl) ?_
  refine lv_iconst (v := 0) hx hb eX1_open_1 (by decide) ?_
  refine va_put (D := (dC, dI)) (ci := 1) (v := .int 0) (ty := .int) (C := RX1) (T := TX1) (N := 18) hx hb hts hiX1 tyX1 tyX1_ok nmX1 hown hK hP hD hS 0 rfl rfl 6 (by decide) v_1 (fun _ h9 => h9) rfl (by decide +kernel) rfl rfl (Nat.le_of_ble_eq_true rfl) eX1_open_2 (fun H locs hP hD hS => ?_)
  have hP : va_P (dC, dI) vwCl ((gt2__w g gz g1 g2 g3 g4 g5 0 (nI gfull) gx gway gav ggoal (nI gfound) 400 (nI gl) (nI gsz) g16 g17 k_fgz (zs o 401 az) k_fs1 (bN 7 q_fs1) k_fs2 fs2 k_fs3 fs3 k_fs4 fs4 k_fs5 fs5 k_fhi fhi k_flo flo au (nI nc) (nI np) (nI ne) st0 q4 q5 q6 q7 q8 q9 q10 q11 q12 q13 q14 q15 q16 k_f4 f4 k_f5 (bN 7 q_f5) k_f6 (bN 7 q_f6) k_f7 f7 k_f8 (bN 4 q_f8) k_f9 (bN 2 q_f9) k_f10 f10 k_f11 f11 k_f12 f12 k_f13 f13 k_f14 f14 k_f15 f15 k_f16 f16 bu k_fbu fbu) ++ zp 5 25 N az ac kz qs fz) H := hP
  have hD : va_D A ((gt2__w g gz g1 g2 g3 g4 g5 0 (nI gfull) gx gway gav ggoal (nI gfound) 400 (nI gl) (nI gsz) g16 g17 k_fgz (zs o 401 az) k_fs1 (bN 7 q_fs1) k_fs2 fs2 k_fs3 fs3 k_fs4 fs4 k_fs5 fs5 k_fhi fhi k_flo flo au (nI nc) (nI np) (nI ne) st0 q4 q5 q6 q7 q8 q9 q10 q11 q12 q13 q14 q15 q16 k_f4 f4 k_f5 (bN 7 q_f5) k_f6 (bN 7 q_f6) k_f7 f7 k_f8 (bN 4 q_f8) k_f9 (bN 2 q_f9) k_f10 f10 k_f11 f11 k_f12 f12 k_f13 f13 k_f14 f14 k_f15 f15 k_f16 f16 bu k_fbu fbu) ++ zp 5 25 N az ac kz qs fz) := hD
  refine lv_aload_n hx hb eX1_open_5 rfl (lv_at hl 0 rfl) ?_
  refine lv_iconst (v := 0) hx hb eX1_open_6 (by decide) ?_
  refine va_put (D := (dC, dI)) (ci := 1) (v := .int 0) (ty := .boolean) (C := RX1) (T := TX1) (N := 18) hx hb hts hiX1 tyX1 tyX1_ok nmX1 hown hK hP hD hS 0 rfl rfl 7 (by decide) v_2 (fun _ h9 => h9) rfl (by decide +kernel) rfl rfl (Nat.le_of_ble_eq_true rfl) eX1_open_7 (fun H locs hP hD hS => ?_)
  have hP : va_P (dC, dI) vwCl ((gt2__w g gz g1 g2 g3 g4 g5 0 0 gx gway gav ggoal (nI gfound) 400 (nI gl) (nI gsz) g16 g17 k_fgz (zs o 401 az) k_fs1 (bN 7 q_fs1) k_fs2 fs2 k_fs3 fs3 k_fs4 fs4 k_fs5 fs5 k_fhi fhi k_flo flo au (nI nc) (nI np) (nI ne) st0 q4 q5 q6 q7 q8 q9 q10 q11 q12 q13 q14 q15 q16 k_f4 f4 k_f5 (bN 7 q_f5) k_f6 (bN 7 q_f6) k_f7 f7 k_f8 (bN 4 q_f8) k_f9 (bN 2 q_f9) k_f10 f10 k_f11 f11 k_f12 f12 k_f13 f13 k_f14 f14 k_f15 f15 k_f16 f16 bu k_fbu fbu) ++ zp 5 25 N az ac kz qs fz) H := hP
  have hD : va_D A ((gt2__w g gz g1 g2 g3 g4 g5 0 0 gx gway gav ggoal (nI gfound) 400 (nI gl) (nI gsz) g16 g17 k_fgz (zs o 401 az) k_fs1 (bN 7 q_fs1) k_fs2 fs2 k_fs3 fs3 k_fs4 fs4 k_fs5 fs5 k_fhi fhi k_flo flo au (nI nc) (nI np) (nI ne) st0 q4 q5 q6 q7 q8 q9 q10 q11 q12 q13 q14 q15 q16 k_f4 f4 k_f5 (bN 7 q_f5) k_f6 (bN 7 q_f6) k_f7 f7 k_f8 (bN 4 q_f8) k_f9 (bN 2 q_f9) k_f10 f10 k_f11 f11 k_f12 f12 k_f13 f13 k_f14 f14 k_f15 f15 k_f16 f16 bu k_fbu fbu) ++ zp 5 25 N az ac kz qs fz) := hD
  refine lv_aload_n hx hb eX1_open_10 rfl (lv_at hl 0 rfl) ?_
  refine lv_iconst (v := 0) hx hb eX1_open_11 (by decide) ?_
  refine va_put (D := (dC, dI)) (ci := 1) (v := .int 0) (ty := .int) (C := RX1) (T := TX1) (N := 18) hx hb hts hiX1 tyX1 tyX1_ok nmX1 hown hK hP hD hS 0 rfl rfl 8 (by decide) v_3 (fun _ h9 => h9) rfl (by decide +kernel) rfl rfl (Nat.le_of_ble_eq_true rfl) eX1_open_12 (fun H locs hP hD hS => ?_)
  have hP : va_P (dC, dI) vwCl ((gt2__w g gz g1 g2 g3 g4 g5 0 0 0 gway gav ggoal (nI gfound) 400 (nI gl) (nI gsz) g16 g17 k_fgz (zs o 401 az) k_fs1 (bN 7 q_fs1) k_fs2 fs2 k_fs3 fs3 k_fs4 fs4 k_fs5 fs5 k_fhi fhi k_flo flo au (nI nc) (nI np) (nI ne) st0 q4 q5 q6 q7 q8 q9 q10 q11 q12 q13 q14 q15 q16 k_f4 f4 k_f5 (bN 7 q_f5) k_f6 (bN 7 q_f6) k_f7 f7 k_f8 (bN 4 q_f8) k_f9 (bN 2 q_f9) k_f10 f10 k_f11 f11 k_f12 f12 k_f13 f13 k_f14 f14 k_f15 f15 k_f16 f16 bu k_fbu fbu) ++ zp 5 25 N az ac kz qs fz) H := hP
  have hD : va_D A ((gt2__w g gz g1 g2 g3 g4 g5 0 0 0 gway gav ggoal (nI gfound) 400 (nI gl) (nI gsz) g16 g17 k_fgz (zs o 401 az) k_fs1 (bN 7 q_fs1) k_fs2 fs2 k_fs3 fs3 k_fs4 fs4 k_fs5 fs5 k_fhi fhi k_flo flo au (nI nc) (nI np) (nI ne) st0 q4 q5 q6 q7 q8 q9 q10 q11 q12 q13 q14 q15 q16 k_f4 f4 k_f5 (bN 7 q_f5) k_f6 (bN 7 q_f6) k_f7 f7 k_f8 (bN 4 q_f8) k_f9 (bN 2 q_f9) k_f10 f10 k_f11 f11 k_f12 f12 k_f13 f13 k_f14 f14 k_f15 f15 k_f16 f16 bu k_fbu fbu) ++ zp 5 25 N az ac kz qs fz) := hD
  refine lv_aload_n hx hb eX1_open_15 rfl (lv_at hl 0 rfl) ?_
  refine va_get (D := (dC, dI)) (ci := 1) (v := .ref gz) (C := RX1) (T := TX1) (N := 18) hx hb hts hiX1 hown hK hP 0 rfl rfl 0 (by decide) v_4 (fun _ h9 => h9) rfl eX1_open_16 ?_
  refine lv_iconst (v := 0) hx hb eX1_open_19 (by decide) ?_
  refine va_aldq hx hb hK hP 1 0 rfl rfl (vp_in_nI (n := 0) (Nat.le_of_ble_eq_true rfl) (Nat.le_of_ble_eq_true rfl)) eX1_open_20 ?_
  refine W.eq (g2 := F0 m 21 ls [.ref (az (o + 0))]) (by rw [← zs_get (o := o) (n := 401) (k := 0) (az := az) (Nat.le_of_ble_eq_true rfl) (by omega)]; rfl) ?_
  refine lv_astore (lv' := [(4, .ref (az (o + 0))), (0, .ref g), (1, .ref au), (2, .int (nI a1)), (3, .ref bu)]) hx hb eX1_open_21 hl (by decide) rfl (fun ls hl => ?_)
  refine lv_aload hx hb eX1_open_23 (lv_at hl 0 rfl) ?_
  refine lv_aload_n hx hb eX1_open_25 rfl (lv_at hl 1 rfl) ?_
  refine va_get (D := (dC, dI)) (ci := 1) (v := .int (nI gsz)) (C := RX1) (T := TX1) (N := 18) hx hb hts hiX1 hown hK hP 0 rfl rfl 15 (by decide) v_5 (fun _ h9 => h9) rfl eX1_open_26 ?_
  refine lv_aload_n hx hb eX1_open_29 rfl (lv_at hl 4 rfl) ?_
  have hPz := zp_cut (k := (o + 0)) hP (by omega)
  have hPc : va_P (dC, dI) vwCl ([(bu, .inl (k_fbu, 5, .inl fbu))] ++ [(az (o + 0), .inr (7, [.ref (ac (o + 0)), .int (nI (min (qs (o + 0)) 5))])), (ac (o + 0), .inl (kz (o + 0), 25, .inl (fz (o + 0))))]) _ := va_P.app (hP.sub [23] rfl) hPz
  have hDc : va_D A ([(bu, .inl (k_fbu, 5, .inl fbu))] ++ [(az (o + 0), .inr (7, [.ref (ac (o + 0)), .int (nI (min (qs (o + 0)) 5))])), (ac (o + 0), .inl (kz (o + 0), 25, .inl (fz (o + 0))))]) := zp_cutD hD (by omega) [23] (by decide) rfl
  have hKc : va_K (dC, dI) vwCl ([(k_fbu, .int)] ++ [(kz (o + 0), .int)]) s := zp_K hK (by omega) [21] rfl
  have hFc := pu_free hDc hS hA
  refine va_callv (va_runV (As := [.int (nI gsz), .ref bu]) (rest := []) ⟨hx, hb, hml, hown, hts⟩ (c_E_7_setPoint_25 l dC dI _ bu k_fbu fbu (az (o + 0)) (ac (o + 0)) (min (qs (o + 0)) 5) (kz (o + 0)) (fz (o + 0)) gsz (Nat.min_le_right _ _) hgsz) (cwV 2 hts g_E_1_open_25_E_7_setPoint_25 rfl rfl rfl (by decide +kernel) ⟨Nat.le_of_ble_eq_true rfl, Nat.le_of_ble_eq_true rfl⟩) ⟨pu_bl, va_recv hK hPz (ci := 7) (q0 := 0) rfl rfl, pu_in hPc hKc hDc⟩ rfl rfl hl.1 rfl (lv_room (Nat.le_of_ble_eq_true rfl)) eX1_open_30 ⟨Nat.le_of_ble_eq_true rfl, Nat.le_of_ble_eq_true rfl⟩) hS (fun q _ h => hFc q h) hFc (fun u t H1 locs ht hvm hw hB hz1 hk1 hS => ?_)
  obtain ⟨z_fz_2, ⟨hP1, -, hD1⟩, xr_1_0⟩ := hB
  rw [ht] at hP1
  obtain ⟨hP, hD⟩ := zp_putx (wr := [(bu, .inl (k_fbu, 5, .inl fbu))]) (k := (o + 0)) hP hD (by omega) (fun q h => List.mem_append_left _ (pu_subm [23] rfl q h)) hk1 hgsz hP1
  obtain ⟨qs_3, xqs_3⟩ : ∃ q, q = updN qs (o + 0) gsz := ⟨_, rfl⟩
  rw [← xqs_3] at hP hD
  obtain ⟨fz_4, xfz_4⟩ : ∃ q, q = updZ fz (o + 0) z_fz_2 := ⟨_, rfl⟩
  rw [← xfz_4] at hP hD
  clear hP1 hD1 hFc
  clear hPc hDc hKc
  clear hk1 hz1 ht hvm
  generalize H1 = H at hP hS ⊢
  have hsp := hsp.trans (slet_eq xr_1_0)
  have hsp := hsp.trans (slet_eq xqs_3)
  have hsp := hsp.trans (slet_eq xfz_4)
  refine lv_iload_n hx hb eX1_open_33 rfl (lv_at hl 3 rfl) ?_
  refine lv_aload_n hx hb eX1_open_34 rfl (lv_at hl 1 rfl) ?_
  refine va_get (D := (dC, dI)) (ci := 1) (v := .int gav) (C := RX1) (T := TX1) (N := 18) hx hb hts hiX1 hown hK hP 0 rfl rfl 10 (by decide) v_11 (fun _ h9 => h9) rfl eX1_open_35 ?_
  refine lv_icmp_eq (tgt := 89) hx hb eX1_open_38 (by decide) (fun c_5 => ?_) (fun c_5 => ?_)
  · have hcc_5 := c_5
    have hsp := hsp.trans (if_pos c_5)
    exact W.vret hx hb hr (fun t ht hW => ⟨⟨(), rfl, trivial, ⟨q_fs1, fs2, fs3, fs4, fs5, gfound, 0, 0, 0, fz_4, qs_3, ⟨by rw [ht]; exact hP, va_K.moved hW.alike hK, hD⟩, hgfound, (Nat.le_of_ble_eq_true rfl), (Nat.le_of_ble_eq_true rfl), by first | assumption | exact gz_0, (hsp.symm.trans hRR)⟩⟩, hS.F ht⟩) hS.2.2 eX1_open_89
  · have hcc_5 := c_5
    have hsp := hsp.trans (if_neg c_5)
    refine lv_aload_n hx hb eX1_open_41 rfl (lv_at hl 2 rfl) ?_
    refine lv_aload hx hb eX1_open_42 (lv_at hl 0 rfl) ?_
    refine lv_iload_n hx hb eX1_open_44 rfl (lv_at hl 3 rfl) ?_
    have hPc : va_P (dC, dI) vwCl [] _ := hP.sub [] rfl
    have hDc : va_D A [] := (zp_left hD).sub [] (by decide) rfl
    have hKc : va_K (dC, dI) vwCl [] s := hK.sub [] rfl
    refine va_calli (va_runS (As := [.int (nI a1)]) (rest := [.ref (az (o + 0)), .ref au]) ⟨hx, hb, hml, hown, hts⟩ (c_E_0_hostOfPlace l dC dI _ a1 ha1) (va_cwS 1 hts g_E_1_open_25_E_0_hostOfPlace rfl rfl rfl (by decide +kernel) ⟨Nat.le_of_ble_eq_true rfl, Nat.le_of_ble_eq_true rfl⟩) ⟨pu_bl, pu_in hPc hKc hDc⟩ rfl rfl hl.1 rfl (lv_room (Nat.le_of_ble_eq_true rfl)) eX1_open_45 ⟨Nat.le_of_ble_eq_true rfl, Nat.le_of_ble_eq_true rfl⟩) hS (fun q _ h => pu_fr hS hA q h) (pu_fr hS hA) (fun r_6 u t H1 locs ht hvm hw hB hz1 hk1 hS => ?_)
    have hP := pu_keep hP hk1
    clear hPc hDc hKc
    clear hk1 hz1 ht hvm
    generalize H1 = H at hP hS ⊢
    obtain rfl : r_6 = nI (14 + a1) := hw
    refine lv_iconst (v := 0) hx hb eX1_open_48 (by decide) ?_
    have hPz := zp_cut (k := (o + 0)) hP (by omega)
    have hPc : va_P (dC, dI) vwCl ([(au, .inr (0, [.int (nI nc), .int (nI np), .int (nI ne), .int st0, .ref q4, .ref q5, .ref q6, .ref q7, .ref q8, .ref q9, .ref q10, .ref q11, .ref q12, .ref q13, .ref q14, .ref q15, .ref q16])), (q4, .inl (k_f4, 8, .inl f4)), (q5, .inl (k_f5, 14, .inl (bN 7 q_f5))), (q6, .inl (k_f6, 14, .inl (bN 7 q_f6))), (q7, .inl (k_f7, 14, .inl f7)), (q8, .inl (k_f8, 22, .inl (bN 4 q_f8))), (q9, .inl (k_f9, 88, .inl (bN 2 q_f9))), (q10, .inl (k_f10, 88, .inl f10)), (q11, .inl (k_f11, 88, .inl f11)), (q12, .inl (k_f12, 88, .inl f12)), (q13, .inl (k_f13, 88, .inl f13)), (q14, .inl (k_f14, 4, .inl f14)), (q15, .inl (k_f15, 4, .inl f15)), (q16, .inl (k_f16, 4, .inl f16))] ++ [(az (o + 0), .inr (7, [.ref (ac (o + 0)), .int (nI (min (qs_3 (o + 0)) 5))])), (ac (o + 0), .inl (kz (o + 0), 25, .inl (fz_4 (o + 0))))]) _ := va_P.app (hP.sub [9, 10, 11, 12, 13, 14, 15, 16, 17, 18, 19, 20, 21, 22] rfl) hPz
    have hDc : va_D A ([(au, .inr (0, [.int (nI nc), .int (nI np), .int (nI ne), .int st0, .ref q4, .ref q5, .ref q6, .ref q7, .ref q8, .ref q9, .ref q10, .ref q11, .ref q12, .ref q13, .ref q14, .ref q15, .ref q16])), (q4, .inl (k_f4, 8, .inl f4)), (q5, .inl (k_f5, 14, .inl (bN 7 q_f5))), (q6, .inl (k_f6, 14, .inl (bN 7 q_f6))), (q7, .inl (k_f7, 14, .inl f7)), (q8, .inl (k_f8, 22, .inl (bN 4 q_f8))), (q9, .inl (k_f9, 88, .inl (bN 2 q_f9))), (q10, .inl (k_f10, 88, .inl f10)), (q11, .inl (k_f11, 88, .inl f11)), (q12, .inl (k_f12, 88, .inl f12)), (q13, .inl (k_f13, 88, .inl f13)), (q14, .inl (k_f14, 4, .inl f14)), (q15, .inl (k_f15, 4, .inl f15)), (q16, .inl (k_f16, 4, .inl f16))] ++ [(az (o + 0), .inr (7, [.ref (ac (o + 0)), .int (nI (min (qs_3 (o + 0)) 5))])), (ac (o + 0), .inl (kz (o + 0), 25, .inl (fz_4 (o + 0))))]) := zp_cutD hD (by omega) [9, 10, 11, 12, 13, 14, 15, 16, 17, 18, 19, 20, 21, 22] (by decide) rfl
    have hKc : va_K (dC, dI) vwCl ([(k_f4, .boolean), (k_f5, .int), (k_f6, .int), (k_f7, .int), (k_f8, .int), (k_f9, .int), (k_f10, .int), (k_f11, .int), (k_f12, .int), (k_f13, .int), (k_f14, .int), (k_f15, .int), (k_f16, .int)] ++ [(kz (o + 0), .int)]) s := zp_K hK (by omega) [8, 9, 10, 11, 12, 13, 14, 15, 16, 17, 18, 19, 20] rfl
    have hFc := pu_free hDc hS hA
    refine va_calli (va_runV (As := [.ref (az (o + 0)), .int (nI (14 + a1)), .int 0]) (rest := []) ⟨hx, hb, hml, hown, hts⟩ (c_E_0_narrowTo_25 l dC dI _ au nc np ne st0 q4 q5 q6 q7 q8 q9 q10 q11 q12 q13 q14 q15 q16 k_f4 f4 k_f5 q_f5 k_f6 q_f6 k_f7 f7 k_f8 q_f8 k_f9 q_f9 k_f10 f10 k_f11 f11 k_f12 f12 k_f13 f13 k_f14 f14 k_f15 f15 k_f16 f16 (az (o + 0)) (ac (o + 0)) (min (qs_3 (o + 0)) 5) (kz (o + 0)) (fz_4 (o + 0)) (14 + a1) 0 hnc hnp hne (hst0) (Nat.min_le_right _ _) (by omega)) (cwV 3 hts g_E_1_open_25_E_0_narrowTo_25 rfl rfl rfl (by decide +kernel) ⟨Nat.le_of_ble_eq_true rfl, Nat.le_of_ble_eq_true rfl⟩) ⟨pu_bl, va_recv hK hP (ci := 0) (q0 := 9) rfl rfl, pu_in hPc hKc hDc⟩ rfl rfl hl.1 rfl (lv_room (Nat.le_of_ble_eq_true rfl)) eX1_open_49 ⟨Nat.le_of_ble_eq_true rfl, Nat.le_of_ble_eq_true rfl⟩) hS (fun q _ h => hFc q h) hFc (fun r_7 u t H1 locs ht hvm hw hB hz1 hk1 hS => ?_)
    obtain ⟨z_fz_8, ⟨hP1, -, hD1⟩, xr_7_0⟩ := hB
    rw [ht] at hP1
    obtain ⟨hP, hD⟩ := zp_putx (wr := [(au, .inr (0, [.int (nI nc), .int (nI np), .int (nI ne), .int st0, .ref q4, .ref q5, .ref q6, .ref q7, .ref q8, .ref q9, .ref q10, .ref q11, .ref q12, .ref q13, .ref q14, .ref q15, .ref q16])), (q4, .inl (k_f4, 8, .inl f4)), (q5, .inl (k_f5, 14, .inl (bN 7 q_f5))), (q6, .inl (k_f6, 14, .inl (bN 7 q_f6))), (q7, .inl (k_f7, 14, .inl f7)), (q8, .inl (k_f8, 22, .inl (bN 4 q_f8))), (q9, .inl (k_f9, 88, .inl (bN 2 q_f9))), (q10, .inl (k_f10, 88, .inl f10)), (q11, .inl (k_f11, 88, .inl f11)), (q12, .inl (k_f12, 88, .inl f12)), (q13, .inl (k_f13, 88, .inl f13)), (q14, .inl (k_f14, 4, .inl f14)), (q15, .inl (k_f15, 4, .inl f15)), (q16, .inl (k_f16, 4, .inl f16))]) (k := (o + 0)) hP hD (by omega) (fun q h => List.mem_append_left _ (pu_subm [9, 10, 11, 12, 13, 14, 15, 16, 17, 18, 19, 20, 21, 22] rfl q h)) hk1 (Nat.min_le_right _ _) hP1
    rw [zp_qsame] at hP hD
    obtain ⟨fz_10, xfz_10⟩ : ∃ q, q = updZ fz_4 (o + 0) z_fz_8 := ⟨_, rfl⟩
    rw [← xfz_10] at hP hD
    clear hP1 hD1 hFc
    clear hPc hDc hKc
    clear hk1 hz1 ht hvm
    generalize H1 = H at hP hS ⊢
    obtain ⟨u_11, hu_11, rfl, iu_11⟩ := hw
    have iu_11 : (u_11, z_fz_8) = (sp_E_0_narrowTo_25 q_f8 q_f9 f12 f13 (min (qs_3 (o + 0)) 5) (fz_4 (o + 0)) (14 + a1) 0) := Prod.ext iu_11 xr_7_0
    have hsp := hsp.trans (slet_eq iu_11)
    have hsp := hsp.trans (slet_eq xfz_10)
    refine lv_if_eq (tgt := 89) hx hb eX1_open_52 (by decide) (fun c_12 => ?_) (fun c_12 => ?_)
    · have c_12 : u_11 = 0 := (nI_eq (a := u_11) (b := 0) (Nat.lt_of_le_of_lt hu_11 (Nat.le_of_ble_eq_true rfl)) (Nat.le_of_ble_eq_true rfl)).mp c_12
      have hsp := hsp.trans (if_pos c_12)
      exact W.vret hx hb hr (fun t ht hW => ⟨⟨(), rfl, trivial, ⟨q_fs1, fs2, fs3, fs4, fs5, gfound, 0, 0, 0, fz_10, qs_3, ⟨by rw [ht]; exact hP, va_K.moved hW.alike hK, hD⟩, hgfound, (Nat.le_of_ble_eq_true rfl), (Nat.le_of_ble_eq_true rfl), by first | assumption | exact gz_0, (hsp.symm.trans hRR)⟩⟩, hS.F ht⟩) hS.2.2 eX1_open_89
    · have c_12 : ¬ u_11 = 0 := fun z => c_12 ((nI_eq (a := u_11) (b := 0) (Nat.lt_of_le_of_lt hu_11 (Nat.le_of_ble_eq_true rfl)) (Nat.le_of_ble_eq_true rfl)).mpr z)
      have hsp := hsp.trans (if_neg c_12)
      refine lv_aload_n hx hb eX1_open_55 rfl (lv_at hl 2 rfl) ?_
      refine lv_aload hx hb eX1_open_56 (lv_at hl 0 rfl) ?_
      refine lv_iload_n hx hb eX1_open_58 rfl (lv_at hl 3 rfl) ?_
      have hPz := zp_cut (k := (o + 0)) hP (by omega)
      have hPc : va_P (dC, dI) vwCl ([(au, .inr (0, [.int (nI nc), .int (nI np), .int (nI ne), .int st0, .ref q4, .ref q5, .ref q6, .ref q7, .ref q8, .ref q9, .ref q10, .ref q11, .ref q12, .ref q13, .ref q14, .ref q15, .ref q16])), (q4, .inl (k_f4, 8, .inl f4)), (q5, .inl (k_f5, 14, .inl (bN 7 q_f5))), (q6, .inl (k_f6, 14, .inl (bN 7 q_f6))), (q7, .inl (k_f7, 14, .inl f7)), (q8, .inl (k_f8, 22, .inl (bN 4 q_f8))), (q9, .inl (k_f9, 88, .inl (bN 2 q_f9))), (q10, .inl (k_f10, 88, .inl f10)), (q11, .inl (k_f11, 88, .inl f11)), (q12, .inl (k_f12, 88, .inl f12)), (q13, .inl (k_f13, 88, .inl f13)), (q14, .inl (k_f14, 4, .inl f14)), (q15, .inl (k_f15, 4, .inl f15)), (q16, .inl (k_f16, 4, .inl f16))] ++ [(az (o + 0), .inr (7, [.ref (ac (o + 0)), .int (nI (min (qs_3 (o + 0)) 5))])), (ac (o + 0), .inl (kz (o + 0), 25, .inl (fz_10 (o + 0))))]) _ := va_P.app (hP.sub [9, 10, 11, 12, 13, 14, 15, 16, 17, 18, 19, 20, 21, 22] rfl) hPz
      have hDc : va_D A ([(au, .inr (0, [.int (nI nc), .int (nI np), .int (nI ne), .int st0, .ref q4, .ref q5, .ref q6, .ref q7, .ref q8, .ref q9, .ref q10, .ref q11, .ref q12, .ref q13, .ref q14, .ref q15, .ref q16])), (q4, .inl (k_f4, 8, .inl f4)), (q5, .inl (k_f5, 14, .inl (bN 7 q_f5))), (q6, .inl (k_f6, 14, .inl (bN 7 q_f6))), (q7, .inl (k_f7, 14, .inl f7)), (q8, .inl (k_f8, 22, .inl (bN 4 q_f8))), (q9, .inl (k_f9, 88, .inl (bN 2 q_f9))), (q10, .inl (k_f10, 88, .inl f10)), (q11, .inl (k_f11, 88, .inl f11)), (q12, .inl (k_f12, 88, .inl f12)), (q13, .inl (k_f13, 88, .inl f13)), (q14, .inl (k_f14, 4, .inl f14)), (q15, .inl (k_f15, 4, .inl f15)), (q16, .inl (k_f16, 4, .inl f16))] ++ [(az (o + 0), .inr (7, [.ref (ac (o + 0)), .int (nI (min (qs_3 (o + 0)) 5))])), (ac (o + 0), .inl (kz (o + 0), 25, .inl (fz_10 (o + 0))))]) := zp_cutD hD (by omega) [9, 10, 11, 12, 13, 14, 15, 16, 17, 18, 19, 20, 21, 22] (by decide) rfl
      have hKc : va_K (dC, dI) vwCl ([(k_f4, .boolean), (k_f5, .int), (k_f6, .int), (k_f7, .int), (k_f8, .int), (k_f9, .int), (k_f10, .int), (k_f11, .int), (k_f12, .int), (k_f13, .int), (k_f14, .int), (k_f15, .int), (k_f16, .int)] ++ [(kz (o + 0), .int)]) s := zp_K hK (by omega) [8, 9, 10, 11, 12, 13, 14, 15, 16, 17, 18, 19, 20] rfl
      have hFc := pu_free hDc hS hA
      refine va_callv (va_runV (As := [.ref (az (o + 0)), .int (nI a1)]) (rest := []) ⟨hx, hb, hml, hown, hts⟩ (c_E_0_stayIn_25 l dC dI _ au nc np ne st0 q4 q5 q6 q7 q8 q9 q10 q11 q12 q13 q14 q15 q16 k_f4 f4 k_f5 q_f5 k_f6 q_f6 k_f7 f7 k_f8 q_f8 k_f9 q_f9 k_f10 f10 k_f11 f11 k_f12 f12 k_f13 f13 k_f14 f14 k_f15 f15 k_f16 f16 (az (o + 0)) (ac (o + 0)) (min (qs_3 (o + 0)) 5) (kz (o + 0)) (fz_10 (o + 0)) a1 hnc hnp hne (hst0) (Nat.min_le_right _ _) ha1) (cwV 2 hts g_E_1_open_25_E_0_stayIn_25 rfl rfl rfl (by decide +kernel) ⟨Nat.le_of_ble_eq_true rfl, Nat.le_of_ble_eq_true rfl⟩) ⟨pu_bl, va_recv hK hP (ci := 0) (q0 := 9) rfl rfl, pu_in hPc hKc hDc⟩ rfl rfl hl.1 rfl (lv_room (Nat.le_of_ble_eq_true rfl)) eX1_open_59 ⟨Nat.le_of_ble_eq_true rfl, Nat.le_of_ble_eq_true rfl⟩) hS (fun q _ h => hFc q h) hFc (fun u t H1 locs ht hvm hw hB hz1 hk1 hS => ?_)
      obtain ⟨z_fz_14, ⟨hP1, -, hD1⟩, xr_13_0⟩ := hB
      rw [ht] at hP1
      obtain ⟨hP, hD⟩ := zp_putx (wr := [(au, .inr (0, [.int (nI nc), .int (nI np), .int (nI ne), .int st0, .ref q4, .ref q5, .ref q6, .ref q7, .ref q8, .ref q9, .ref q10, .ref q11, .ref q12, .ref q13, .ref q14, .ref q15, .ref q16])), (q4, .inl (k_f4, 8, .inl f4)), (q5, .inl (k_f5, 14, .inl (bN 7 q_f5))), (q6, .inl (k_f6, 14, .inl (bN 7 q_f6))), (q7, .inl (k_f7, 14, .inl f7)), (q8, .inl (k_f8, 22, .inl (bN 4 q_f8))), (q9, .inl (k_f9, 88, .inl (bN 2 q_f9))), (q10, .inl (k_f10, 88, .inl f10)), (q11, .inl (k_f11, 88, .inl f11)), (q12, .inl (k_f12, 88, .inl f12)), (q13, .inl (k_f13, 88, .inl f13)), (q14, .inl (k_f14, 4, .inl f14)), (q15, .inl (k_f15, 4, .inl f15)), (q16, .inl (k_f16, 4, .inl f16))]) (k := (o + 0)) hP hD (by omega) (fun q h => List.mem_append_left _ (pu_subm [9, 10, 11, 12, 13, 14, 15, 16, 17, 18, 19, 20, 21, 22] rfl q h)) hk1 (Nat.min_le_right _ _) hP1
      rw [zp_qsame] at hP hD
      obtain ⟨fz_16, xfz_16⟩ : ∃ q, q = updZ fz_10 (o + 0) z_fz_14 := ⟨_, rfl⟩
      rw [← xfz_16] at hP hD
      clear hP1 hD1 hFc
      clear hPc hDc hKc
      clear hk1 hz1 ht hvm
      generalize H1 = H at hP hS ⊢
      have hsp := hsp.trans (slet_eq xr_13_0)
      have hsp := hsp.trans (slet_eq xfz_16)
      refine lv_aload_n hx hb eX1_open_62 rfl (lv_at hl 1 rfl) ?_
      refine va_get (D := (dC, dI)) (ci := 1) (v := .int gway) (C := RX1) (T := TX1) (N := 18) hx hb hts hiX1 hown hK hP 0 rfl rfl 9 (by decide) v_24 (fun _ h9 => h9) rfl eX1_open_63 ?_
      obtain ⟨JR_19, hJR_19, hsp⟩ := slet_ex hsp
      refine pu_join (fun H locs ls st => ∃ (g_17 : Nat → Nat → Int32), st = [] ∧ g_17 = JR_19 ∧ va_P (dC, dI) vwCl ((gt2__w g gz g1 g2 g3 g4 g5 0 0 0 gway gav ggoal (nI gfound) 400 (nI gl) (nI gsz) g16 g17 k_fgz (zs o 401 az) k_fs1 (bN 7 q_fs1) k_fs2 fs2 k_fs3 fs3 k_fs4 fs4 k_fs5 fs5 k_fhi fhi k_flo flo au (nI nc) (nI np) (nI ne) st0 q4 q5 q6 q7 q8 q9 q10 q11 q12 q13 q14 q15 q16 k_f4 f4 k_f5 (bN 7 q_f5) k_f6 (bN 7 q_f6) k_f7 f7 k_f8 (bN 4 q_f8) k_f9 (bN 2 q_f9) k_f10 f10 k_f11 f11 k_f12 f12 k_f13 f13 k_f14 f14 k_f15 f15 k_f16 f16 bu k_fbu fbu) ++ zp 5 25 N az ac kz qs_3 g_17) H ∧ va_D A ((gt2__w g gz g1 g2 g3 g4 g5 0 0 0 gway gav ggoal (nI gfound) 400 (nI gl) (nI gsz) g16 g17 k_fgz (zs o 401 az) k_fs1 (bN 7 q_fs1) k_fs2 fs2 k_fs3 fs3 k_fs4 fs4 k_fs5 fs5 k_fhi fhi k_flo flo au (nI nc) (nI np) (nI ne) st0 q4 q5 q6 q7 q8 q9 q10 q11 q12 q13 q14 q15 q16 k_f4 f4 k_f5 (bN 7 q_f5) k_f6 (bN 7 q_f6) k_f7 f7 k_f8 (bN 4 q_f8) k_f9 (bN 2 q_f9) k_f10 f10 k_f11 f11 k_f12 f12 k_f13 f13 k_f14 f14 k_f15 f15 k_f16 f16 bu k_fbu fbu) ++ zp 5 25 N az ac kz qs_3 g_17) ∧ va_S A s.heap H locs ∧ lv_has ls 5 [(0, .ref g), (1, .ref au), (2, .int (nI a1)), (3, .ref bu), (4, .ref (az (o + 0)))]) 82 ?_ (fun j_18 => ?_)
      · rintro H locs ls st ⟨g_17, rfl, he_20, hP, hD, hS, hl⟩
        rw [← he_20] at hsp
        refine lv_aload_n hx hb eX1_open_82 rfl (lv_at hl 0 rfl) ?_
        refine lv_iload_n hx hb eX1_open_83 rfl (lv_at hl 2 rfl) ?_
        refine lv_iconst (v := (-1)) hx hb eX1_open_84 (by decide) ?_
        refine lv_iconst (v := (-1)) hx hb eX1_open_85 (by decide) ?_
        have hPc : va_P (dC, dI) vwCl ([(g, .inr (1, [.ref gz, .ref g1, .ref g2, .ref g3, .ref g4, .ref g5, .int 0, .int 0, .int 0, .int gway, .int gav, .int ggoal, .int (nI gfound), .int 400, .int (nI gl), .int (nI gsz), .ref g16, .ref g17])), (gz, .inl (k_fgz, 401, .inr (.inr (.inr (.inr (zs o 401 az)))))), (g1, .inl (k_fs1, 400, .inl (bN 7 q_fs1))), (g2, .inl (k_fs2, 400, .inl fs2)), (g3, .inl (k_fs3, 400, .inl fs3)), (g4, .inl (k_fs4, 400, .inl fs4)), (g5, .inl (k_fs5, 400, .inl fs5)), (g16, .inl (k_fhi, 5, .inl fhi)), (g17, .inl (k_flo, 5, .inl flo))] ++ zp 5 25 N az ac kz qs_3 g_17) _ := hP.part [0, 1, 2, 3, 4, 5, 6, 7, 8] rfl
        have hDc : va_D A ([(g, .inr (1, [.ref gz, .ref g1, .ref g2, .ref g3, .ref g4, .ref g5, .int 0, .int 0, .int 0, .int gway, .int gav, .int ggoal, .int (nI gfound), .int 400, .int (nI gl), .int (nI gsz), .ref g16, .ref g17])), (gz, .inl (k_fgz, 401, .inr (.inr (.inr (.inr (zs o 401 az)))))), (g1, .inl (k_fs1, 400, .inl (bN 7 q_fs1))), (g2, .inl (k_fs2, 400, .inl fs2)), (g3, .inl (k_fs3, 400, .inl fs3)), (g4, .inl (k_fs4, 400, .inl fs4)), (g5, .inl (k_fs5, 400, .inl fs5)), (g16, .inl (k_fhi, 5, .inl fhi)), (g17, .inl (k_flo, 5, .inl flo))] ++ zp 5 25 N az ac kz qs_3 g_17) := hD.part [0, 1, 2, 3, 4, 5, 6, 7, 8] (by decide) rfl
        have hKc : va_K (dC, dI) vwCl ([(k_fgz, .object RX7), (k_fs1, .int), (k_fs2, .int), (k_fs3, .int), (k_fs4, .int), (k_fs5, .int), (k_fhi, .int), (k_flo, .int)] ++ zt N kz) s := zk_part hK [0, 1, 2, 3, 4, 5, 6, 7] rfl
        have hFc := pu_free hDc hS hA
        refine va_callv (va_runV (As := [.int (nI a1), .int (-1), .int (-1)]) (rest := []) ⟨hx, hb, hml, hown, hts⟩ (c_E_1_record0_25 l dC dI _ g gz g1 g2 g3 g4 g5 0 0 0 gway gav ggoal gfound gl gsz g16 g17 k_fgz k_fs1 q_fs1 k_fs2 fs2 k_fs3 fs3 k_fs4 fs4 k_fs5 fs5 k_fhi fhi k_flo flo N o az ac kz qs_3 g_17 a1 (Nat.le_of_ble_eq_true rfl) (Nat.le_of_ble_eq_true rfl) hgfound hgl hgsz (by omega) ha1 (by first | assumption | exact gz_0)) (cwV 3 hts g_E_1_open_25_E_1_record0_25 rfl rfl rfl (by decide +kernel) ⟨Nat.le_of_ble_eq_true rfl, Nat.le_of_ble_eq_true rfl⟩) ⟨pu_bl, va_recv hK hP (ci := 1) (q0 := 0) rfl rfl, pu_in hPc hKc hDc⟩ rfl rfl hl.1 rfl (lv_room (Nat.le_of_ble_eq_true rfl)) eX1_open_86 ⟨Nat.le_of_ble_eq_true rfl, Nat.le_of_ble_eq_true rfl⟩) hS (fun q _ h => hFc q h) hFc (fun u t H1 locs ht hvm hw hB hz1 hk1 hS => ?_)
        obtain ⟨z_fs1_22, z_fs2_23, z_fs3_24, z_fs4_25, z_fs5_26, z_gfound_27, ⟨hP1, -, hD1⟩, hz_gfound_27, xr_21_0, xr_21_1⟩ := hB
        rw [ht] at hP1
        obtain ⟨hP, hD⟩ := pj_c (X := (gt2__w g gz g1 g2 g3 g4 g5 0 0 0 gway gav ggoal (nI gfound) 400 (nI gl) (nI gsz) g16 g17 k_fgz (zs o 401 az) k_fs1 (bN 7 q_fs1) k_fs2 fs2 k_fs3 fs3 k_fs4 fs4 k_fs5 fs5 k_fhi fhi k_flo flo au (nI nc) (nI np) (nI ne) st0 q4 q5 q6 q7 q8 q9 q10 q11 q12 q13 q14 q15 q16 k_f4 f4 k_f5 (bN 7 q_f5) k_f6 (bN 7 q_f6) k_f7 f7 k_f8 (bN 4 q_f8) k_f9 (bN 2 q_f9) k_f10 f10 k_f11 f11 k_f12 f12 k_f13 f13 k_f14 f14 k_f15 f15 k_f16 f16 bu k_fbu fbu)) (X' := (gt2__w g gz g1 g2 g3 g4 g5 (nI (0 + 1)) 0 0 gway gav ggoal (nI z_gfound_27) 400 (nI gl) (nI gsz) g16 g17 k_fgz (zs o 401 az) k_fs1 (bN 7 z_fs1_22) k_fs2 z_fs2_23 k_fs3 z_fs3_24 k_fs4 z_fs4_25 k_fs5 z_fs5_26 k_fhi fhi k_flo flo au (nI nc) (nI np) (nI ne) st0 q4 q5 q6 q7 q8 q9 q10 q11 q12 q13 q14 q15 q16 k_f4 f4 k_f5 (bN 7 q_f5) k_f6 (bN 7 q_f6) k_f7 f7 k_f8 (bN 4 q_f8) k_f9 (bN 2 q_f9) k_f10 f10 k_f11 f11 k_f12 f12 k_f13 f13 k_f14 f14 k_f15 f15 k_f16 f16 bu k_fbu fbu)) (wc := (gt0__w g gz g1 g2 g3 g4 g5 0 0 0 gway gav ggoal (nI gfound) 400 (nI gl) (nI gsz) g16 g17 k_fgz (zs o 401 az) k_fs1 (bN 7 q_fs1) k_fs2 fs2 k_fs3 fs3 k_fs4 fs4 k_fs5 fs5 k_fhi fhi k_flo flo)) (w1 := (gt0__w g gz g1 g2 g3 g4 g5 (nI (0 + 1)) 0 0 gway gav ggoal (nI z_gfound_27) 400 (nI gl) (nI gsz) g16 g17 k_fgz (zs o 401 az) k_fs1 (bN 7 z_fs1_22) k_fs2 z_fs2_23 k_fs3 z_fs3_24 k_fs4 z_fs4_25 k_fs5 z_fs5_26 k_fhi fhi k_flo flo)) hP hD [0, 1, 2, 3, 4, 5, 6, 7, 8] [0, 1, 2, 3, 4, 5, 6, 7, 8, 18, 19, 20, 21, 22, 23, 24, 25, 26, 27, 28, 29, 30, 31, 32] 9 rfl hk1 hP1 rfl zp_f rfl rfl (by decide)
        clear hP1 hD1 hFc
        clear hPc hDc hKc
        clear hk1 hz1 ht hvm
        generalize H1 = H at hP hS ⊢
        have hsp := hsp.trans (slet_eq xr_21_1)
        exact W.vret hx hb hr (fun t ht hW => ⟨⟨(), rfl, trivial, ⟨z_fs1_22, z_fs2_23, z_fs3_24, z_fs4_25, z_fs5_26, z_gfound_27, (0 + 1), 0, 0, g_17, qs_3, ⟨by rw [ht]; exact hP, va_K.moved hW.alike hK, hD⟩, hz_gfound_27, (by omega), (Nat.le_of_ble_eq_true rfl), by first | assumption | exact gz_0, (hsp.symm.trans hRR)⟩⟩, hS.F ht⟩) hS.2.2 eX1_open_89
      have hsp := hJR_19
      refine lv_if_eq (tgt := 82) hx hb eX1_open_66 (by decide) (fun c_28 => ?_) (fun c_28 => ?_)
      · have hcc_28 := c_28
        have hsp := hsp.trans (if_pos c_28)
        exact j_18 _ _ _ _ ⟨fz_16, rfl, hsp.symm, hP, hD, hS, lv_sub hl [1, 2, 3, 4, 0] rfl⟩
      · have hcc_28 := c_28
        have hsp := hsp.trans (if_neg c_28)
        refine lv_aload hx hb eX1_open_69 (lv_at hl 0 rfl) ?_
        refine lv_aload_n hx hb eX1_open_71 rfl (lv_at hl 1 rfl) ?_
        refine va_get (D := (dC, dI)) (ci := 1) (v := .ref g16) (C := RX1) (T := TX1) (N := 18) hx hb hts hiX1 hown hK hP 0 rfl rfl 16 (by decide) v_25 (fun _ h9 => h9) rfl eX1_open_72 ?_
        refine lv_aload_n hx hb eX1_open_75 rfl (lv_at hl 1 rfl) ?_
        refine va_get (D := (dC, dI)) (ci := 1) (v := .ref g17) (C := RX1) (T := TX1) (N := 18) hx hb hts hiX1 hown hK hP 0 rfl rfl 17 (by decide) v_26 (fun _ h9 => h9) rfl eX1_open_76 ?_
        have hPz := zp_cut (k := (o + 0)) hP (by omega)
        have hPc : va_P (dC, dI) vwCl ([(g16, .inl (k_fhi, 5, .inl fhi)), (g17, .inl (k_flo, 5, .inl flo))] ++ [(az (o + 0), .inr (7, [.ref (ac (o + 0)), .int (nI (min (qs_3 (o + 0)) 5))])), (ac (o + 0), .inl (kz (o + 0), 25, .inl (fz_16 (o + 0))))]) _ := va_P.app (hP.sub [7, 8] rfl) hPz
        have hDc : va_D A ([(g16, .inl (k_fhi, 5, .inl fhi)), (g17, .inl (k_flo, 5, .inl flo))] ++ [(az (o + 0), .inr (7, [.ref (ac (o + 0)), .int (nI (min (qs_3 (o + 0)) 5))])), (ac (o + 0), .inl (kz (o + 0), 25, .inl (fz_16 (o + 0))))]) := zp_cutD hD (by omega) [7, 8] (by decide) rfl
        have hKc : va_K (dC, dI) vwCl ([(k_fhi, .int), (k_flo, .int)] ++ [(kz (o + 0), .int)]) s := zp_K hK (by omega) [6, 7] rfl
        have hFc := pu_free hDc hS hA
        refine va_callv (va_runV (As := [.ref g16, .ref g17]) (rest := []) ⟨hx, hb, hml, hown, hts⟩ (c_E_7_forget_25 l dC dI _ g16 k_fhi fhi g17 k_flo flo (az (o + 0)) (ac (o + 0)) (min (qs_3 (o + 0)) 5) (kz (o + 0)) (fz_16 (o + 0)) (Nat.min_le_right _ _)) (cwV 2 hts g_E_1_open_25_E_7_forget_25 rfl rfl rfl (by decide +kernel) ⟨Nat.le_of_ble_eq_true rfl, Nat.le_of_ble_eq_true rfl⟩) ⟨pu_bl, va_recv hK hPz (ci := 7) (q0 := 0) rfl rfl, pu_in hPc hKc hDc⟩ rfl rfl hl.1 rfl (lv_room (Nat.le_of_ble_eq_true rfl)) eX1_open_79 ⟨Nat.le_of_ble_eq_true rfl, Nat.le_of_ble_eq_true rfl⟩) hS (fun q _ h => hFc q h) hFc (fun u t H1 locs ht hvm hw hB hz1 hk1 hS => ?_)
        obtain ⟨z_fz_30, ⟨hP1, -, hD1⟩, xr_29_0⟩ := hB
        rw [ht] at hP1
        obtain ⟨hP, hD⟩ := zp_putx (wr := [(g16, .inl (k_fhi, 5, .inl fhi)), (g17, .inl (k_flo, 5, .inl flo))]) (k := (o + 0)) hP hD (by omega) (fun q h => List.mem_append_left _ (pu_subm [7, 8] rfl q h)) hk1 (Nat.min_le_right _ _) hP1
        rw [zp_qsame] at hP hD
        obtain ⟨fz_32, xfz_32⟩ : ∃ q, q = updZ fz_16 (o + 0) z_fz_30 := ⟨_, rfl⟩
        rw [← xfz_32] at hP hD
        clear hP1 hD1 hFc
        clear hPc hDc hKc
        clear hk1 hz1 ht hvm
        generalize H1 = H at hP hS ⊢
        have hsp := hsp.trans (slet_eq xr_29_0)
        have hsp := hsp.trans (slet_eq xfz_32)
        exact j_18 _ _ _ _ ⟨fz_32, rfl, hsp.symm, hP, hD, hS, lv_sub hl [1, 2, 3, 4, 0] rfl⟩
abbrev vs_E_1_step_25 : List Cond := .code yX1_step cX1_step 6 none :: CM
theorem g_E_1_step_25_E_7_copyOf_25 : GoodIn vs_E_1_step_25 (wsV RX1 125 RX7 yX7_copyOf vs_E_7_copyOf_25) := cm_gV cm_129 cm_130 cm_131 cm_45 cm_132
theorem g_E_1_step_25_E_0_opensIn_25 : GoodIn vs_E_1_step_25 (wsV RX1 129 RX0 yX0_opensIn vs_E_0_opensIn_25) := cm_gV cm_133 cm_134 cm_135 cm_19 cm_50
theorem g_E_1_step_25_E_0_setBackIn_25 : GoodIn vs_E_1_step_25 (wsV RX1 133 RX0 yX0_setBackIn vs_E_0_setBackIn_25) := cm_gV cm_136 cm_137 cm_138 cm_19 cm_56
theorem g_E_1_step_25_E_0_stayIn_25 : GoodIn vs_E_1_step_25 (wsV RX1 100 RX0 yX0_stayIn vs_E_0_stayIn_25) := cm_gV cm_99 cm_100 cm_101 cm_19 cm_61
theorem g_E_1_step_25_E_1_isKnown_25 : GoodIn vs_E_1_step_25 (wsV RX1 136 RX1 yX1_isKnown vs_E_1_isKnown_25) := cm_gV cm_139 cm_140 cm_141 cm_113 cm_142
theorem g_E_1_step_25_E_1_record1_25 : GoodIn vs_E_1_step_25 (wsV RX1 108 RX1 yX1_record vs_E_1_record1_25) := cm_gV cm_110 cm_111 cm_112 cm_113 cm_114
theorem g_E_1_step_25_E_7_forget_25 : GoodIn vs_E_1_step_25 (wsV RX1 104 RX7 yX7_forget vs_E_7_forget_25) := cm_gV cm_102 cm_103 cm_104 cm_45 cm_105
noncomputable def sp_E_1_step_25 (gc : Nat) (gfull : Nat) (gx : Int32) (gway : Int32) (ggoal : Int32) (gfound : Nat) (gl : Nat) (q_fs1 : Nat → Nat) (fs2 : Nat → Int32) (fs3 : Nat → Int32) (fs4 : Nat → Int32) (fs5 : Nat → Int32) (fhi : Nat → Int32) (flo : Nat → Int32) (nc : Nat) (f4 : Nat → Int32) (q_f6 : Nat → Nat) (f7 : Nat → Int32) (q_f8 : Nat → Nat) (q_f9 : Nat → Nat) (f12 : Nat → Int32) (f13 : Nat → Int32) (o : Nat) (qs : Nat → Nat) (fz : Nat → Nat → Int32) (a1 : Nat) (a2 : Nat) : (Nat → Nat) × (Nat → Int32) × (Nat → Int32) × (Nat → Int32) × (Nat → Int32) × Nat × Nat × Nat × Int32 × (Nat → Nat → Int32) × (Nat → Nat) := (slet (sp_E_7_copyOf_25 (min (qs (o + a1)) 5) (fz (o + a1)) (fz (o + gc))) (fun z_fz_2 => (slet (updN qs (o + gc) (min (qs (o + a1)) 5)) (fun qs_3 => (slet (updZ fz (o + gc) z_fz_2) (fun fz_4 => (slet (sp_E_0_opensIn_25 q_f6 f7 q_f8 q_f9 f12 f13 (min (qs_3 (o + gc)) 5) (fz_4 (o + gc)) a2) (fun (u_9, z_fz_6) => (slet (updZ fz_4 (o + gc) z_fz_6) (fun fz_8 => (if u_9 = 0 then (q_fs1, fs2, fs3, fs4, fs5, gfound, gc, gfull, gx, fz_8, qs_3) else (slet ((1 : Int32) <<< (((nI a2) : Int32) &&& 31)) (fun y_11 => (slet ((gx : Int32) ||| (y_11 : Int32)) (fun y_12 => (slet (sp_E_0_setBackIn_25 nc f7 (min (qs_3 (o + gc)) 5) (fz_8 (o + gc)) a2) (fun z_fz_14 => (slet (updZ fz_8 (o + gc) z_fz_14) (fun fz_16 => (slet (min (q_f6 a2) 7) (fun u_18 => (slet (sp_E_0_stayIn_25 f4 q_f8 q_f9 f12 f13 (min (qs_3 (o + gc)) 5) (fz_16 (o + gc)) u_18) (fun z_fz_20 => (slet (updZ fz_16 (o + gc) z_fz_20) (fun fz_22 => (slet (α := (Nat → Nat → Int32)) (if (gway : Int32) = 0 then fz_22 else (slet (sp_E_7_forget_25 fhi flo (min (qs_3 (o + gc)) 5) (fz_22 (o + gc))) (fun z_fz_40 => (slet (updZ fz_22 (o + gc) z_fz_40) (fun fz_42 => fz_42))))) (fun g_23 => (slet (sp_E_1_isKnown_25 gc gl q_fs1 o qs_3 g_23 (o + gc) u_18) (fun u_28 => (if u_28 = 0 then (if gc = 400 then (q_fs1, fs2, fs3, fs4, fs5, gfound, gc, 1, y_12, g_23, qs_3) else (slet (sp_E_1_record1_25 gc ggoal gfound q_fs1 fs2 fs3 fs4 fs5 u_18 a1 a2) (fun (z_fs1_32, z_fs2_33, z_fs3_34, z_fs4_35, z_fs5_36, z_gfound_37) => (z_fs1_32, z_fs2_33, z_fs3_34, z_fs4_35, z_fs5_36, z_gfound_37, (gc + 1), gfull, y_12, g_23, qs_3)))) else (q_fs1, fs2, fs3, fs4, fs5, gfound, gc, gfull, y_12, g_23, qs_3)))))))))))))))))))))))))))))))
set_option maxHeartbeats 4000000 in
set_option maxRecDepth 100000 in
theorem c_E_1_step_25 (l : Launch) (dC : Nat → ClassId) (dI : Nat → Nat → Nat) (sz : Nat) (g : Nat) (gz : Nat) (g1 : Nat) (g2 : Nat) (g3 : Nat) (g4 : Nat) (g5 : Nat) (gc : Nat) (gfull : Nat) (gx : Int32) (gway : Int32) (gav : Int32) (ggoal : Int32) (gfound : Nat) (gl : Nat) (gsz : Nat) (g16 : Nat) (g17 : Nat) (k_fgz : ClassId) (k_fs1 : ClassId) (q_fs1 : Nat → Nat) (k_fs2 : ClassId) (fs2 : Nat → Int32) (k_fs3 : ClassId) (fs3 : Nat → Int32) (k_fs4 : ClassId) (fs4 : Nat → Int32) (k_fs5 : ClassId) (fs5 : Nat → Int32) (k_fhi : ClassId) (fhi : Nat → Int32) (k_flo : ClassId) (flo : Nat → Int32) (au : Nat) (nc : Nat) (np : Nat) (ne : Nat) (st0 : Int32) (q4 : Nat) (q5 : Nat) (q6 : Nat) (q7 : Nat) (q8 : Nat) (q9 : Nat) (q10 : Nat) (q11 : Nat) (q12 : Nat) (q13 : Nat) (q14 : Nat) (q15 : Nat) (q16 : Nat) (k_f4 : ClassId) (f4 : Nat → Int32) (k_f5 : ClassId) (q_f5 : Nat → Nat) (k_f6 : ClassId) (q_f6 : Nat → Nat) (k_f7 : ClassId) (f7 : Nat → Int32) (k_f8 : ClassId) (q_f8 : Nat → Nat) (k_f9 : ClassId) (q_f9 : Nat → Nat) (k_f10 : ClassId) (f10 : Nat → Int32) (k_f11 : ClassId) (f11 : Nat → Int32) (k_f12 : ClassId) (f12 : Nat → Int32) (k_f13 : ClassId) (f13 : Nat → Int32) (k_f14 : ClassId) (f14 : Nat → Int32) (k_f15 : ClassId) (f15 : Nat → Int32) (k_f16 : ClassId) (f16 : Nat → Int32) (N : Nat) (o : Nat) (az ac : Nat → Nat) (kz : Nat → ClassId) (qs : Nat → Nat) (fz : Nat → Nat → Int32) (a1 : Nat) (a2 : Nat) (hgc : gc ≤ 400) (hgfull : gfull ≤ 1) (hgfound : gfound ≤ 1) (hgl : gl ≤ 1) (hgsz : gsz ≤ 5) (hnc : nc ≤ 3) (hnp : np ≤ 8) (hne : ne ≤ 14) (hst0 : pm1 7 st0) (hN : o + 401 ≤ N) (ha1 : a1 ≤ 399) (ha2 : a2 ≤ 13) (hq0 : gz_ok gc fs2 fs3 fs4) (hq1 : a1 < gc) : Met l yX1_step vs_E_1_step_25 ({ frames := 3, cells := 0, slots := 0, locals := 77 }) (va_Pc [.ref g, .ref au, .int (nI a1), .int (nI a2)] (pu_B (dC, dI) ((gt1__w g gz g1 g2 g3 g4 g5 (nI gc) (nI gfull) gx gway gav ggoal (nI gfound) 400 (nI gl) (nI gsz) g16 g17 k_fgz (zs o 401 az) k_fs1 (bN 7 q_fs1) k_fs2 fs2 k_fs3 fs3 k_fs4 fs4 k_fs5 fs5 k_fhi fhi k_flo flo au (nI nc) (nI np) (nI ne) st0 q4 q5 q6 q7 q8 q9 q10 q11 q12 q13 q14 q15 q16 k_f4 f4 k_f5 (bN 7 q_f5) k_f6 (bN 7 q_f6) k_f7 f7 k_f8 (bN 4 q_f8) k_f9 (bN 2 q_f9) k_f10 f10 k_f11 f11 k_f12 f12 k_f13 f13 k_f14 f14 k_f15 f15 k_f16 f16) ++ zp 5 25 N az ac kz qs fz) ((gt1__t k_fgz k_fs1 k_fs2 k_fs3 k_fs4 k_fs5 k_fhi k_flo k_f4 k_f5 k_f6 k_f7 k_f8 k_f9 k_f10 k_f11 k_f12 k_f13 k_f14 k_f15 k_f16) ++ zt N kz) sz)) (va_Qv (fun (_ : Unit) => True) (fun _ t => ∃ (z_fs1 : Nat → Nat) (z_fs2 : Nat → Int32) (z_fs3 : Nat → Int32) (z_fs4 : Nat → Int32) (z_fs5 : Nat → Int32) (z_gfound : Nat) (z_gc : Nat) (z_gfull : Nat) (z_gx : Int32) (z_fz : Nat → Nat → Int32) (z_qs : Nat → Nat), pu_E (dC, dI) ((gt1__w g gz g1 g2 g3 g4 g5 (nI z_gc) (nI z_gfull) z_gx gway gav ggoal (nI z_gfound) 400 (nI gl) (nI gsz) g16 g17 k_fgz (zs o 401 az) k_fs1 (bN 7 z_fs1) k_fs2 z_fs2 k_fs3 z_fs3 k_fs4 z_fs4 k_fs5 z_fs5 k_fhi fhi k_flo flo au (nI nc) (nI np) (nI ne) st0 q4 q5 q6 q7 q8 q9 q10 q11 q12 q13 q14 q15 q16 k_f4 f4 k_f5 (bN 7 q_f5) k_f6 (bN 7 q_f6) k_f7 f7 k_f8 (bN 4 q_f8) k_f9 (bN 2 q_f9) k_f10 f10 k_f11 f11 k_f12 f12 k_f13 f13 k_f14 f14 k_f15 f15 k_f16 f16) ++ zp 5 25 N az ac kz z_qs z_fz) ((gt1__t k_fgz k_fs1 k_fs2 k_fs3 k_fs4 k_fs5 k_fhi k_flo k_f4 k_f5 k_f6 k_f7 k_f8 k_f9 k_f10 k_f11 k_f12 k_f13 k_f14 k_f15 k_f16) ++ zt N kz) (va_A (((gt1__w g gz g1 g2 g3 g4 g5 (nI gc) (nI gfull) gx gway gav ggoal (nI gfound) 400 (nI gl) (nI gsz) g16 g17 k_fgz (zs o 401 az) k_fs1 (bN 7 q_fs1) k_fs2 fs2 k_fs3 fs3 k_fs4 fs4 k_fs5 fs5 k_fhi fhi k_flo flo au (nI nc) (nI np) (nI ne) st0 q4 q5 q6 q7 q8 q9 q10 q11 q12 q13 q14 q15 q16 k_f4 f4 k_f5 (bN 7 q_f5) k_f6 (bN 7 q_f6) k_f7 f7 k_f8 (bN 4 q_f8) k_f9 (bN 2 q_f9) k_f10 f10 k_f11 f11 k_f12 f12 k_f13 f13 k_f14 f14 k_f15 f15 k_f16 f16) ++ zp 5 25 N az ac kz qs fz)) sz) t ∧ (z_gfound ≤ 1) ∧ (z_gc ≤ 400) ∧ (z_gfull ≤ 1) ∧ (gz_ok z_gc z_fs2 z_fs3 z_fs4) ∧ (gc ≤ z_gc) ∧ ((z_fs1, z_fs2, z_fs3, z_fs4, z_fs5, z_gfound, z_gc, z_gfull, z_gx, z_fz, z_qs) = (sp_E_1_step_25 gc gfull gx gway ggoal gfound gl q_fs1 fs2 fs3 fs4 fs5 fhi flo nc f4 q_f6 f7 q_f8 q_f9 f12 f13 o qs fz a1 a2))) (va_A (((gt1__w g gz g1 g2 g3 g4 g5 (nI gc) (nI gfull) gx gway gav ggoal (nI gfound) 400 (nI gl) (nI gsz) g16 g17 k_fgz (zs o 401 az) k_fs1 (bN 7 q_fs1) k_fs2 fs2 k_fs3 fs3 k_fs4 fs4 k_fs5 fs5 k_fhi fhi k_flo flo au (nI nc) (nI np) (nI ne) st0 q4 q5 q6 q7 q8 q9 q10 q11 q12 q13 q14 q15 q16 k_f4 f4 k_f5 (bN 7 q_f5) k_f6 (bN 7 q_f6) k_f7 f7 k_f8 (bN 4 q_f8) k_f9 (bN 2 q_f9) k_f10 f10 k_f11 f11 k_f12 f12 k_f13 f13 k_f14 f14 k_f15 f15 k_f16 f16) ++ zp 5 25 N az ac kz qs fz)) sz)) 0 0 (va_A (((gt1__w g gz g1 g2 g3 g4 g5 (nI gc) (nI gfull) gx gway gav ggoal (nI gfound) 400 (nI gl) (nI gsz) g16 g17 k_fgz (zs o 401 az) k_fs1 (bN 7 q_fs1) k_fs2 fs2 k_fs3 fs3 k_fs4 fs4 k_fs5 fs5 k_fhi fhi k_flo flo au (nI nc) (nI np) (nI ne) st0 q4 q5 q6 q7 q8 q9 q10 q11 q12 q13 q14 q15 q16 k_f4 f4 k_f5 (bN 7 q_f5) k_f6 (bN 7 q_f6) k_f7 f7 k_f8 (bN 4 q_f8) k_f9 (bN 2 q_f9) k_f10 f10 k_f11 f11 k_f12 f12 k_f13 f13 k_f14 f14 k_f15 f15 k_f16 f16) ++ zp 5 25 N az ac kz qs fz)) sz) := by
  refine Met.ofW (cc := cX1_step) (maxL := 6) (ret := none) (by decide) rfl ?_
  intro p e s m args below meth c s₁ B hml hv
  obtain ⟨rfl, rfl, hP, hK, hD0⟩ := hv
  have hx := B.exec
  have hb := B.bytes
  have hr := B.returns
  have hts := atoms_spec (ws := vs_E_1_step_25) B.pre
  have v_1 := hts (.fieldLink RX1 17 "ClockReach$Graph" "zones" "[LClockReach$Zone;") (List.mem_cons_of_mem _ cm_92)
  have v_2 := hts (.fieldLink RX1 79 "ClockReach$Graph" "count" "I") (List.mem_cons_of_mem _ cm_89)
  have v_13 := hts (.fieldLink RX1 85 "ClockReach$Graph" "crossed" "I") (List.mem_cons_of_mem _ cm_91)
  have v_18 := hts (.fieldLink RX1 118 "ClockReach$Automaton" "targets" "[I") (List.mem_cons_of_mem _ cm_123)
  have v_23 := hts (.fieldLink RX1 46 "ClockReach$Graph" "way" "I") (List.mem_cons_of_mem _ cm_76)
  have v_24 := hts (.fieldLink RX1 40 "ClockReach$Graph" "high" "[I") (List.mem_cons_of_mem _ cm_83)
  have v_25 := hts (.fieldLink RX1 43 "ClockReach$Graph" "low" "[I") (List.mem_cons_of_mem _ cm_86)
  have v_35 := hts (.fieldLink RX1 9 "ClockReach$Graph" "most" "I") (List.mem_cons_of_mem _ cm_128)
  have v_40 := hts (.fieldLink RX1 82 "ClockReach$Graph" "full" "Z") (List.mem_cons_of_mem _ cm_90)
  have hown : s.vm.findClass RX1 = some m.cls := findClass_of_methodNamed B.named
  have hlocks := B.notSynchronized
  have hiX0 : ∀ w ∈ wsX00, w ∈ vs_E_1_step_25 := fun _ h => List.mem_cons_of_mem _ (cm_X0 h)
  have hiX1 : ∀ w ∈ wsX10, w ∈ vs_E_1_step_25 := fun _ h => List.mem_cons_of_mem _ (cm_X1 h)
  have hD := hD0.self (sz := s.heap.size)
  generalize hAe : va_A (((gt1__w g gz g1 g2 g3 g4 g5 (nI gc) (nI gfull) gx gway gav ggoal (nI gfound) 400 (nI gl) (nI gsz) g16 g17 k_fgz (zs o 401 az) k_fs1 (bN 7 q_fs1) k_fs2 fs2 k_fs3 fs3 k_fs4 fs4 k_fs5 fs5 k_fhi fhi k_flo flo au (nI nc) (nI np) (nI ne) st0 q4 q5 q6 q7 q8 q9 q10 q11 q12 q13 q14 q15 q16 k_f4 f4 k_f5 (bN 7 q_f5) k_f6 (bN 7 q_f6) k_f7 f7 k_f8 (bN 4 q_f8) k_f9 (bN 2 q_f9) k_f10 f10 k_f11 f11 k_f12 f12 k_f13 f13 k_f14 f14 k_f15 f15 k_f16 f16) ++ zp 5 25 N az ac kz qs fz)) s.heap.size = A at hD ⊢
  have hA : ∀ q : Nat, s.heap.size ≤ q → A q := fun q h => by rw [← hAe]; exact Or.inr h
  have hS : va_S A s.heap s.heap [] := va_S.rf
  have hl := lv_entry ([.ref g, .ref au, .int (nI a1), .int (nI a2)]) (n := 6) (Nat.le_of_ble_eq_true rfl)
  rw [lg_entry_eq]
  generalize (lg_sl ([.ref g, .ref au, .int (nI a1), .int (nI a2)]) ++ List.replicate (6 - (lg_sl ([.ref g, .ref au, .int (nI a1), .int (nI a2)])).length) Slot.unset).toArray = ls at hl ⊢
  have hl : lv_has ls 6 [(0, .ref g), (1, .ref au), (2, .int (nI a1)), (3, .int (nI a2))] := hl
  obtain ⟨RR, hRR⟩ : ∃ x, x = (sp_E_1_step_25 gc gfull gx gway ggoal gfound gl q_fs1 fs2 fs3 fs4 fs5 fhi flo nc f4 q_f6 f7 q_f8 q_f9 f12 f13 o qs fz a1 a2) := ⟨_, rfl⟩
  have hsp := hRR
  refine lv_aload_n hx hb eX1_step_0 rfl (lv_at hl 0 rfl) ?_
  refine va_get (D := (dC, dI)) (ci := 1) (v := .ref gz) (C := RX1) (T := TX1) (N := 18) hx hb hts hiX1 hown hK hP 0 rfl rfl 0 (by decide) v_1 (fun _ h9 => h9) rfl eX1_step_1 ?_
  refine lv_aload_n hx hb eX1_step_4 rfl (lv_at hl 0 rfl) ?_
  refine va_get (D := (dC, dI)) (ci := 1) (v := .int (nI gc)) (C := RX1) (T := TX1) (N := 18) hx hb hts hiX1 hown hK hP 0 rfl rfl 6 (by decide) v_2 (fun _ h9 => h9) rfl eX1_step_5 ?_
  refine va_aldq hx hb hK hP 1 0 rfl rfl (vp_in_nI (n := gc) (Nat.lt_of_le_of_lt hgc (Nat.le_of_ble_eq_true rfl)) (Nat.le_of_ble_eq_true rfl)) eX1_step_8 ?_
  refine W.eq (g2 := F0 m 9 ls [.ref (az (o + gc))]) (by rw [zs_get (Nat.lt_of_le_of_lt hgc (Nat.le_of_ble_eq_true rfl)) (by omega)]) ?_
  refine lv_astore (lv' := [(4, .ref (az (o + gc))), (0, .ref g), (1, .ref au), (2, .int (nI a1)), (3, .int (nI a2))]) hx hb eX1_step_9 hl (by decide) rfl (fun ls hl => ?_)
  refine lv_aload hx hb eX1_step_11 (lv_at hl 0 rfl) ?_
  refine lv_aload_n hx hb eX1_step_13 rfl (lv_at hl 1 rfl) ?_
  refine va_get (D := (dC, dI)) (ci := 1) (v := .ref gz) (C := RX1) (T := TX1) (N := 18) hx hb hts hiX1 hown hK hP 0 rfl rfl 0 (by decide) v_1 (fun _ h9 => h9) rfl eX1_step_14 ?_
  refine lv_iload_n hx hb eX1_step_17 rfl (lv_at hl 3 rfl) ?_
  refine va_aldq hx hb hK hP 1 0 rfl rfl (vp_in_nI (n := a1) (Nat.lt_of_le_of_lt ha1 (Nat.le_of_ble_eq_true rfl)) (Nat.le_of_ble_eq_true rfl)) eX1_step_18 ?_
  refine W.eq (g2 := F0 m 19 ls [.ref (az (o + a1)), .ref (az (o + gc))]) (by rw [zs_get (Nat.lt_of_le_of_lt ha1 (Nat.le_of_ble_eq_true rfl)) (by omega)]) ?_
  have hPz := zp_cut (k := (o + gc)) hP (by omega)
  have hPy := zp_cut (k := (o + a1)) hP (by omega)
  have hPc : va_P (dC, dI) vwCl ([(az (o + a1), .inr (7, [.ref (ac (o + a1)), .int (nI (min (qs (o + a1)) 5))])), (ac (o + a1), .inl (kz (o + a1), 25, .inl (fz (o + a1))))] ++ [(az (o + gc), .inr (7, [.ref (ac (o + gc)), .int (nI (min (qs (o + gc)) 5))])), (ac (o + gc), .inl (kz (o + gc), 25, .inl (fz (o + gc))))]) _ := va_P.app hPy hPz
  have hDc : va_D A ([(az (o + a1), .inr (7, [.ref (ac (o + a1)), .int (nI (min (qs (o + a1)) 5))])), (ac (o + a1), .inl (kz (o + a1), 25, .inl (fz (o + a1))))] ++ [(az (o + gc), .inr (7, [.ref (ac (o + gc)), .int (nI (min (qs (o + gc)) 5))])), (ac (o + gc), .inl (kz (o + gc), 25, .inl (fz (o + gc))))]) := zp_cutD2 hD (by omega) (by omega) (by omega)
  have hKc : va_K (dC, dI) vwCl [(kz (o + a1), .int), (kz (o + gc), .int)] s := zp_K2 hK (by omega) (by omega)
  have hFc := pu_free hDc hS hA
  refine va_callv (va_runV (As := [.ref (az (o + a1))]) (rest := []) ⟨hx, hb, hml, hown, hts⟩ (c_E_7_copyOf_25 l dC dI _ (az (o + a1)) (ac (o + a1)) (min (qs (o + a1)) 5) (kz (o + a1)) (fz (o + a1)) (az (o + gc)) (ac (o + gc)) (min (qs (o + gc)) 5) (kz (o + gc)) (fz (o + gc)) (Nat.min_le_right _ _) (Nat.min_le_right _ _)) (cwV 1 hts g_E_1_step_25_E_7_copyOf_25 rfl rfl rfl (by decide +kernel) ⟨Nat.le_of_ble_eq_true rfl, Nat.le_of_ble_eq_true rfl⟩) ⟨pu_bl, va_recv hK hPz (ci := 7) (q0 := 0) rfl rfl, pu_in hPc hKc hDc⟩ rfl rfl hl.1 rfl (lv_room (Nat.le_of_ble_eq_true rfl)) eX1_step_19 ⟨Nat.le_of_ble_eq_true rfl, Nat.le_of_ble_eq_true rfl⟩) hS (fun q _ h => hFc q h) hFc (fun u t H1 locs ht hvm hw hB hz1 hk1 hS => ?_)
  obtain ⟨z_fz_2, ⟨hP1, -, hD1⟩, xr_1_0⟩ := hB
  rw [ht] at hP1
  obtain ⟨hP, hD⟩ := zp_putx (wr := [(az (o + a1), .inr (7, [.ref (ac (o + a1)), .int (nI (min (qs (o + a1)) 5))])), (ac (o + a1), .inl (kz (o + a1), 25, .inl (fz (o + a1))))]) (k := (o + gc)) hP hD (by omega) (zp_two (by omega)) hk1 (Nat.min_le_right _ _) hP1
  obtain ⟨qs_3, xqs_3⟩ : ∃ q, q = updN qs (o + gc) (min (qs (o + a1)) 5) := ⟨_, rfl⟩
  rw [← xqs_3] at hP hD
  obtain ⟨fz_4, xfz_4⟩ : ∃ q, q = updZ fz (o + gc) z_fz_2 := ⟨_, rfl⟩
  rw [← xfz_4] at hP hD
  clear hP1 hD1 hFc
  clear hPc hDc hKc
  clear hk1 hz1 ht hvm
  generalize H1 = H at hP hS ⊢
  have hsp := hsp.trans (slet_eq xr_1_0)
  have hsp := hsp.trans (slet_eq xqs_3)
  have hsp := hsp.trans (slet_eq xfz_4)
  refine lv_aload_n hx hb eX1_step_22 rfl (lv_at hl 2 rfl) ?_
  refine lv_aload hx hb eX1_step_23 (lv_at hl 0 rfl) ?_
  refine lv_iload_n hx hb eX1_step_25 rfl (lv_at hl 4 rfl) ?_
  have hPz := zp_cut (k := (o + gc)) hP (by omega)
  have hPc : va_P (dC, dI) vwCl ([(au, .inr (0, [.int (nI nc), .int (nI np), .int (nI ne), .int st0, .ref q4, .ref q5, .ref q6, .ref q7, .ref q8, .ref q9, .ref q10, .ref q11, .ref q12, .ref q13, .ref q14, .ref q15, .ref q16])), (q4, .inl (k_f4, 8, .inl f4)), (q5, .inl (k_f5, 14, .inl (bN 7 q_f5))), (q6, .inl (k_f6, 14, .inl (bN 7 q_f6))), (q7, .inl (k_f7, 14, .inl f7)), (q8, .inl (k_f8, 22, .inl (bN 4 q_f8))), (q9, .inl (k_f9, 88, .inl (bN 2 q_f9))), (q10, .inl (k_f10, 88, .inl f10)), (q11, .inl (k_f11, 88, .inl f11)), (q12, .inl (k_f12, 88, .inl f12)), (q13, .inl (k_f13, 88, .inl f13)), (q14, .inl (k_f14, 4, .inl f14)), (q15, .inl (k_f15, 4, .inl f15)), (q16, .inl (k_f16, 4, .inl f16))] ++ [(az (o + gc), .inr (7, [.ref (ac (o + gc)), .int (nI (min (qs_3 (o + gc)) 5))])), (ac (o + gc), .inl (kz (o + gc), 25, .inl (fz_4 (o + gc))))]) _ := va_P.app (hP.sub [9, 10, 11, 12, 13, 14, 15, 16, 17, 18, 19, 20, 21, 22] rfl) hPz
  have hDc : va_D A ([(au, .inr (0, [.int (nI nc), .int (nI np), .int (nI ne), .int st0, .ref q4, .ref q5, .ref q6, .ref q7, .ref q8, .ref q9, .ref q10, .ref q11, .ref q12, .ref q13, .ref q14, .ref q15, .ref q16])), (q4, .inl (k_f4, 8, .inl f4)), (q5, .inl (k_f5, 14, .inl (bN 7 q_f5))), (q6, .inl (k_f6, 14, .inl (bN 7 q_f6))), (q7, .inl (k_f7, 14, .inl f7)), (q8, .inl (k_f8, 22, .inl (bN 4 q_f8))), (q9, .inl (k_f9, 88, .inl (bN 2 q_f9))), (q10, .inl (k_f10, 88, .inl f10)), (q11, .inl (k_f11, 88, .inl f11)), (q12, .inl (k_f12, 88, .inl f12)), (q13, .inl (k_f13, 88, .inl f13)), (q14, .inl (k_f14, 4, .inl f14)), (q15, .inl (k_f15, 4, .inl f15)), (q16, .inl (k_f16, 4, .inl f16))] ++ [(az (o + gc), .inr (7, [.ref (ac (o + gc)), .int (nI (min (qs_3 (o + gc)) 5))])), (ac (o + gc), .inl (kz (o + gc), 25, .inl (fz_4 (o + gc))))]) := zp_cutD hD (by omega) [9, 10, 11, 12, 13, 14, 15, 16, 17, 18, 19, 20, 21, 22] (by decide) rfl
  have hKc : va_K (dC, dI) vwCl ([(k_f4, .boolean), (k_f5, .int), (k_f6, .int), (k_f7, .int), (k_f8, .int), (k_f9, .int), (k_f10, .int), (k_f11, .int), (k_f12, .int), (k_f13, .int), (k_f14, .int), (k_f15, .int), (k_f16, .int)] ++ [(kz (o + gc), .int)]) s := zp_K hK (by omega) [8, 9, 10, 11, 12, 13, 14, 15, 16, 17, 18, 19, 20] rfl
  have hFc := pu_free hDc hS hA
  refine va_calli (va_runV (As := [.ref (az (o + gc)), .int (nI a2)]) (rest := []) ⟨hx, hb, hml, hown, hts⟩ (c_E_0_opensIn_25 l dC dI _ au nc np ne st0 q4 q5 q6 q7 q8 q9 q10 q11 q12 q13 q14 q15 q16 k_f4 f4 k_f5 q_f5 k_f6 q_f6 k_f7 f7 k_f8 q_f8 k_f9 q_f9 k_f10 f10 k_f11 f11 k_f12 f12 k_f13 f13 k_f14 f14 k_f15 f15 k_f16 f16 (az (o + gc)) (ac (o + gc)) (min (qs_3 (o + gc)) 5) (kz (o + gc)) (fz_4 (o + gc)) a2 hnc hnp hne (hst0) (Nat.min_le_right _ _) ha2) (cwV 2 hts g_E_1_step_25_E_0_opensIn_25 rfl rfl rfl (by decide +kernel) ⟨Nat.le_of_ble_eq_true rfl, Nat.le_of_ble_eq_true rfl⟩) ⟨pu_bl, va_recv hK hP (ci := 0) (q0 := 9) rfl rfl, pu_in hPc hKc hDc⟩ rfl rfl hl.1 rfl (lv_room (Nat.le_of_ble_eq_true rfl)) eX1_step_26 ⟨Nat.le_of_ble_eq_true rfl, Nat.le_of_ble_eq_true rfl⟩) hS (fun q _ h => hFc q h) hFc (fun r_5 u t H1 locs ht hvm hw hB hz1 hk1 hS => ?_)
  obtain ⟨z_fz_6, ⟨hP1, -, hD1⟩, xr_5_0⟩ := hB
  rw [ht] at hP1
  obtain ⟨hP, hD⟩ := zp_putx (wr := [(au, .inr (0, [.int (nI nc), .int (nI np), .int (nI ne), .int st0, .ref q4, .ref q5, .ref q6, .ref q7, .ref q8, .ref q9, .ref q10, .ref q11, .ref q12, .ref q13, .ref q14, .ref q15, .ref q16])), (q4, .inl (k_f4, 8, .inl f4)), (q5, .inl (k_f5, 14, .inl (bN 7 q_f5))), (q6, .inl (k_f6, 14, .inl (bN 7 q_f6))), (q7, .inl (k_f7, 14, .inl f7)), (q8, .inl (k_f8, 22, .inl (bN 4 q_f8))), (q9, .inl (k_f9, 88, .inl (bN 2 q_f9))), (q10, .inl (k_f10, 88, .inl f10)), (q11, .inl (k_f11, 88, .inl f11)), (q12, .inl (k_f12, 88, .inl f12)), (q13, .inl (k_f13, 88, .inl f13)), (q14, .inl (k_f14, 4, .inl f14)), (q15, .inl (k_f15, 4, .inl f15)), (q16, .inl (k_f16, 4, .inl f16))]) (k := (o + gc)) hP hD (by omega) (fun q h => List.mem_append_left _ (pu_subm [9, 10, 11, 12, 13, 14, 15, 16, 17, 18, 19, 20, 21, 22] rfl q h)) hk1 (Nat.min_le_right _ _) hP1
  rw [zp_qsame] at hP hD
  obtain ⟨fz_8, xfz_8⟩ : ∃ q, q = updZ fz_4 (o + gc) z_fz_6 := ⟨_, rfl⟩
  rw [← xfz_8] at hP hD
  clear hP1 hD1 hFc
  clear hPc hDc hKc
  clear hk1 hz1 ht hvm
  generalize H1 = H at hP hS ⊢
  obtain ⟨u_9, hu_9, rfl, iu_9⟩ := hw
  have iu_9 : (u_9, z_fz_6) = (sp_E_0_opensIn_25 q_f6 f7 q_f8 q_f9 f12 f13 (min (qs_3 (o + gc)) 5) (fz_4 (o + gc)) a2) := Prod.ext iu_9 xr_5_0
  have hsp := hsp.trans (slet_eq iu_9)
  have hsp := hsp.trans (slet_eq xfz_8)
  refine lv_if_ne (tgt := 33) hx hb eX1_step_29 (by decide) (fun c_10 => ?_) (fun c_10 => ?_)
  · have c_10 : ¬ u_9 = 0 := fun z => c_10 ((nI_eq (a := u_9) (b := 0) (Nat.lt_of_le_of_lt hu_9 (Nat.le_of_ble_eq_true rfl)) (Nat.le_of_ble_eq_true rfl)).mpr z)
    have hsp := hsp.trans (if_neg c_10)
    refine lv_aload_n hx hb eX1_step_33 rfl (lv_at hl 1 rfl) ?_
    refine lv_dup hx hb eX1_step_34 rfl ?_
    refine va_get (D := (dC, dI)) (ci := 1) (v := .int gx) (C := RX1) (T := TX1) (N := 18) hx hb hts hiX1 hown hK hP 0 rfl rfl 8 (by decide) v_13 (fun _ h9 => h9) rfl eX1_step_35 ?_
    refine lv_iconst (v := 1) hx hb eX1_step_38 (by decide) ?_
    refine lv_iload_n hx hb eX1_step_39 rfl (lv_at hl 4 rfl) ?_
    refine lv_ishl hx hb eX1_step_40 ?_
    refine lv_topi (fun y_11 ey_11 => ?_)
    have hsp := hsp.trans (slet_eq ey_11)
    refine lv_ior hx hb eX1_step_41 ?_
    refine lv_topi (fun y_12 ey_12 => ?_)
    have hsp := hsp.trans (slet_eq ey_12)
    refine va_put (D := (dC, dI)) (ci := 1) (v := .int y_12) (ty := .int) (C := RX1) (T := TX1) (N := 18) hx hb hts hiX1 tyX1 tyX1_ok nmX1 hown hK hP hD hS 0 rfl rfl 8 (by decide) v_13 (fun _ h9 => h9) rfl (by decide +kernel) rfl rfl (Nat.le_of_ble_eq_true rfl) eX1_step_42 (fun H locs hP hD hS => ?_)
    have hP : va_P (dC, dI) vwCl ((gt1__w g gz g1 g2 g3 g4 g5 (nI gc) (nI gfull) y_12 gway gav ggoal (nI gfound) 400 (nI gl) (nI gsz) g16 g17 k_fgz (zs o 401 az) k_fs1 (bN 7 q_fs1) k_fs2 fs2 k_fs3 fs3 k_fs4 fs4 k_fs5 fs5 k_fhi fhi k_flo flo au (nI nc) (nI np) (nI ne) st0 q4 q5 q6 q7 q8 q9 q10 q11 q12 q13 q14 q15 q16 k_f4 f4 k_f5 (bN 7 q_f5) k_f6 (bN 7 q_f6) k_f7 f7 k_f8 (bN 4 q_f8) k_f9 (bN 2 q_f9) k_f10 f10 k_f11 f11 k_f12 f12 k_f13 f13 k_f14 f14 k_f15 f15 k_f16 f16) ++ zp 5 25 N az ac kz qs_3 fz_8) H := hP
    have hD : va_D A ((gt1__w g gz g1 g2 g3 g4 g5 (nI gc) (nI gfull) y_12 gway gav ggoal (nI gfound) 400 (nI gl) (nI gsz) g16 g17 k_fgz (zs o 401 az) k_fs1 (bN 7 q_fs1) k_fs2 fs2 k_fs3 fs3 k_fs4 fs4 k_fs5 fs5 k_fhi fhi k_flo flo au (nI nc) (nI np) (nI ne) st0 q4 q5 q6 q7 q8 q9 q10 q11 q12 q13 q14 q15 q16 k_f4 f4 k_f5 (bN 7 q_f5) k_f6 (bN 7 q_f6) k_f7 f7 k_f8 (bN 4 q_f8) k_f9 (bN 2 q_f9) k_f10 f10 k_f11 f11 k_f12 f12 k_f13 f13 k_f14 f14 k_f15 f15 k_f16 f16) ++ zp 5 25 N az ac kz qs_3 fz_8) := hD
    refine lv_aload_n hx hb eX1_step_45 rfl (lv_at hl 2 rfl) ?_
    refine lv_aload hx hb eX1_step_46 (lv_at hl 0 rfl) ?_
    refine lv_iload_n hx hb eX1_step_48 rfl (lv_at hl 4 rfl) ?_
    have hPz := zp_cut (k := (o + gc)) hP (by omega)
    have hPc : va_P (dC, dI) vwCl ([(au, .inr (0, [.int (nI nc), .int (nI np), .int (nI ne), .int st0, .ref q4, .ref q5, .ref q6, .ref q7, .ref q8, .ref q9, .ref q10, .ref q11, .ref q12, .ref q13, .ref q14, .ref q15, .ref q16])), (q4, .inl (k_f4, 8, .inl f4)), (q5, .inl (k_f5, 14, .inl (bN 7 q_f5))), (q6, .inl (k_f6, 14, .inl (bN 7 q_f6))), (q7, .inl (k_f7, 14, .inl f7)), (q8, .inl (k_f8, 22, .inl (bN 4 q_f8))), (q9, .inl (k_f9, 88, .inl (bN 2 q_f9))), (q10, .inl (k_f10, 88, .inl f10)), (q11, .inl (k_f11, 88, .inl f11)), (q12, .inl (k_f12, 88, .inl f12)), (q13, .inl (k_f13, 88, .inl f13)), (q14, .inl (k_f14, 4, .inl f14)), (q15, .inl (k_f15, 4, .inl f15)), (q16, .inl (k_f16, 4, .inl f16))] ++ [(az (o + gc), .inr (7, [.ref (ac (o + gc)), .int (nI (min (qs_3 (o + gc)) 5))])), (ac (o + gc), .inl (kz (o + gc), 25, .inl (fz_8 (o + gc))))]) _ := va_P.app (hP.sub [9, 10, 11, 12, 13, 14, 15, 16, 17, 18, 19, 20, 21, 22] rfl) hPz
    have hDc : va_D A ([(au, .inr (0, [.int (nI nc), .int (nI np), .int (nI ne), .int st0, .ref q4, .ref q5, .ref q6, .ref q7, .ref q8, .ref q9, .ref q10, .ref q11, .ref q12, .ref q13, .ref q14, .ref q15, .ref q16])), (q4, .inl (k_f4, 8, .inl f4)), (q5, .inl (k_f5, 14, .inl (bN 7 q_f5))), (q6, .inl (k_f6, 14, .inl (bN 7 q_f6))), (q7, .inl (k_f7, 14, .inl f7)), (q8, .inl (k_f8, 22, .inl (bN 4 q_f8))), (q9, .inl (k_f9, 88, .inl (bN 2 q_f9))), (q10, .inl (k_f10, 88, .inl f10)), (q11, .inl (k_f11, 88, .inl f11)), (q12, .inl (k_f12, 88, .inl f12)), (q13, .inl (k_f13, 88, .inl f13)), (q14, .inl (k_f14, 4, .inl f14)), (q15, .inl (k_f15, 4, .inl f15)), (q16, .inl (k_f16, 4, .inl f16))] ++ [(az (o + gc), .inr (7, [.ref (ac (o + gc)), .int (nI (min (qs_3 (o + gc)) 5))])), (ac (o + gc), .inl (kz (o + gc), 25, .inl (fz_8 (o + gc))))]) := zp_cutD hD (by omega) [9, 10, 11, 12, 13, 14, 15, 16, 17, 18, 19, 20, 21, 22] (by decide) rfl
    have hKc : va_K (dC, dI) vwCl ([(k_f4, .boolean), (k_f5, .int), (k_f6, .int), (k_f7, .int), (k_f8, .int), (k_f9, .int), (k_f10, .int), (k_f11, .int), (k_f12, .int), (k_f13, .int), (k_f14, .int), (k_f15, .int), (k_f16, .int)] ++ [(kz (o + gc), .int)]) s := zp_K hK (by omega) [8, 9, 10, 11, 12, 13, 14, 15, 16, 17, 18, 19, 20] rfl
    have hFc := pu_free hDc hS hA
    refine va_callv (va_runV (As := [.ref (az (o + gc)), .int (nI a2)]) (rest := []) ⟨hx, hb, hml, hown, hts⟩ (c_E_0_setBackIn_25 l dC dI _ au nc np ne st0 q4 q5 q6 q7 q8 q9 q10 q11 q12 q13 q14 q15 q16 k_f4 f4 k_f5 q_f5 k_f6 q_f6 k_f7 f7 k_f8 q_f8 k_f9 q_f9 k_f10 f10 k_f11 f11 k_f12 f12 k_f13 f13 k_f14 f14 k_f15 f15 k_f16 f16 (az (o + gc)) (ac (o + gc)) (min (qs_3 (o + gc)) 5) (kz (o + gc)) (fz_8 (o + gc)) a2 hnc hnp hne (hst0) (Nat.min_le_right _ _) ha2) (cwV 2 hts g_E_1_step_25_E_0_setBackIn_25 rfl rfl rfl (by decide +kernel) ⟨Nat.le_of_ble_eq_true rfl, Nat.le_of_ble_eq_true rfl⟩) ⟨pu_bl, va_recv hK hP (ci := 0) (q0 := 9) rfl rfl, pu_in hPc hKc hDc⟩ rfl rfl hl.1 rfl (lv_room (Nat.le_of_ble_eq_true rfl)) eX1_step_49 ⟨Nat.le_of_ble_eq_true rfl, Nat.le_of_ble_eq_true rfl⟩) hS (fun q _ h => hFc q h) hFc (fun u t H1 locs ht hvm hw hB hz1 hk1 hS => ?_)
    obtain ⟨z_fz_14, ⟨hP1, -, hD1⟩, xr_13_0⟩ := hB
    rw [ht] at hP1
    obtain ⟨hP, hD⟩ := zp_putx (wr := [(au, .inr (0, [.int (nI nc), .int (nI np), .int (nI ne), .int st0, .ref q4, .ref q5, .ref q6, .ref q7, .ref q8, .ref q9, .ref q10, .ref q11, .ref q12, .ref q13, .ref q14, .ref q15, .ref q16])), (q4, .inl (k_f4, 8, .inl f4)), (q5, .inl (k_f5, 14, .inl (bN 7 q_f5))), (q6, .inl (k_f6, 14, .inl (bN 7 q_f6))), (q7, .inl (k_f7, 14, .inl f7)), (q8, .inl (k_f8, 22, .inl (bN 4 q_f8))), (q9, .inl (k_f9, 88, .inl (bN 2 q_f9))), (q10, .inl (k_f10, 88, .inl f10)), (q11, .inl (k_f11, 88, .inl f11)), (q12, .inl (k_f12, 88, .inl f12)), (q13, .inl (k_f13, 88, .inl f13)), (q14, .inl (k_f14, 4, .inl f14)), (q15, .inl (k_f15, 4, .inl f15)), (q16, .inl (k_f16, 4, .inl f16))]) (k := (o + gc)) hP hD (by omega) (fun q h => List.mem_append_left _ (pu_subm [9, 10, 11, 12, 13, 14, 15, 16, 17, 18, 19, 20, 21, 22] rfl q h)) hk1 (Nat.min_le_right _ _) hP1
    rw [zp_qsame] at hP hD
    obtain ⟨fz_16, xfz_16⟩ : ∃ q, q = updZ fz_8 (o + gc) z_fz_14 := ⟨_, rfl⟩
    rw [← xfz_16] at hP hD
    clear hP1 hD1 hFc
    clear hPc hDc hKc
    clear hk1 hz1 ht hvm
    generalize H1 = H at hP hS ⊢
    have hsp := hsp.trans (slet_eq xr_13_0)
    have hsp := hsp.trans (slet_eq xfz_16)
    refine lv_aload_n hx hb eX1_step_52 rfl (lv_at hl 2 rfl) ?_
    refine va_get (D := (dC, dI)) (ci := 0) (v := .ref q6) (C := RX0) (T := TX0) (N := 17) hx hb hts hiX0 hown hK hP 9 rfl rfl 6 (by decide) v_18 (fun _ h9 => h9) rfl eX1_step_53 ?_
    refine lv_iload_n hx hb eX1_step_56 rfl (lv_at hl 4 rfl) ?_
    refine va_iald hx hb hK hP 12 10 rfl rfl (vp_in_nI (n := a2) (Nat.lt_of_le_of_lt ha2 (Nat.le_of_ble_eq_true rfl)) (Nat.le_of_ble_eq_true rfl)) eX1_step_57 ?_
    refine lv_topi (fun y_17 ey_17 => ?_)
    obtain ⟨u_18, hu_18, qu_18, xu_18⟩ := bN_getx 7 q_f6 (n := a2) (Nat.lt_of_le_of_lt ha2 (Nat.le_of_ble_eq_true rfl))
    obtain rfl : y_17 = nI u_18 := ey_17.trans qu_18
    have hsp := hsp.trans (slet_eq xu_18)
    refine lv_istore (lv' := [(5, .int (nI u_18)), (4, .ref (az (o + gc))), (0, .ref g), (1, .ref au), (2, .int (nI a1)), (3, .int (nI a2))]) hx hb eX1_step_58 hl (by decide) rfl (fun ls hl => ?_)
    refine lv_aload_n hx hb eX1_step_60 rfl (lv_at hl 3 rfl) ?_
    refine lv_aload hx hb eX1_step_61 (lv_at hl 1 rfl) ?_
    refine lv_iload hx hb eX1_step_63 (lv_at hl 0 rfl) ?_
    have hPz := zp_cut (k := (o + gc)) hP (by omega)
    have hPc : va_P (dC, dI) vwCl ([(au, .inr (0, [.int (nI nc), .int (nI np), .int (nI ne), .int st0, .ref q4, .ref q5, .ref q6, .ref q7, .ref q8, .ref q9, .ref q10, .ref q11, .ref q12, .ref q13, .ref q14, .ref q15, .ref q16])), (q4, .inl (k_f4, 8, .inl f4)), (q5, .inl (k_f5, 14, .inl (bN 7 q_f5))), (q6, .inl (k_f6, 14, .inl (bN 7 q_f6))), (q7, .inl (k_f7, 14, .inl f7)), (q8, .inl (k_f8, 22, .inl (bN 4 q_f8))), (q9, .inl (k_f9, 88, .inl (bN 2 q_f9))), (q10, .inl (k_f10, 88, .inl f10)), (q11, .inl (k_f11, 88, .inl f11)), (q12, .inl (k_f12, 88, .inl f12)), (q13, .inl (k_f13, 88, .inl f13)), (q14, .inl (k_f14, 4, .inl f14)), (q15, .inl (k_f15, 4, .inl f15)), (q16, .inl (k_f16, 4, .inl f16))] ++ [(az (o + gc), .inr (7, [.ref (ac (o + gc)), .int (nI (min (qs_3 (o + gc)) 5))])), (ac (o + gc), .inl (kz (o + gc), 25, .inl (fz_16 (o + gc))))]) _ := va_P.app (hP.sub [9, 10, 11, 12, 13, 14, 15, 16, 17, 18, 19, 20, 21, 22] rfl) hPz
    have hDc : va_D A ([(au, .inr (0, [.int (nI nc), .int (nI np), .int (nI ne), .int st0, .ref q4, .ref q5, .ref q6, .ref q7, .ref q8, .ref q9, .ref q10, .ref q11, .ref q12, .ref q13, .ref q14, .ref q15, .ref q16])), (q4, .inl (k_f4, 8, .inl f4)), (q5, .inl (k_f5, 14, .inl (bN 7 q_f5))), (q6, .inl (k_f6, 14, .inl (bN 7 q_f6))), (q7, .inl (k_f7, 14, .inl f7)), (q8, .inl (k_f8, 22, .inl (bN 4 q_f8))), (q9, .inl (k_f9, 88, .inl (bN 2 q_f9))), (q10, .inl (k_f10, 88, .inl f10)), (q11, .inl (k_f11, 88, .inl f11)), (q12, .inl (k_f12, 88, .inl f12)), (q13, .inl (k_f13, 88, .inl f13)), (q14, .inl (k_f14, 4, .inl f14)), (q15, .inl (k_f15, 4, .inl f15)), (q16, .inl (k_f16, 4, .inl f16))] ++ [(az (o + gc), .inr (7, [.ref (ac (o + gc)), .int (nI (min (qs_3 (o + gc)) 5))])), (ac (o + gc), .inl (kz (o + gc), 25, .inl (fz_16 (o + gc))))]) := zp_cutD hD (by omega) [9, 10, 11, 12, 13, 14, 15, 16, 17, 18, 19, 20, 21, 22] (by decide) rfl
    have hKc : va_K (dC, dI) vwCl ([(k_f4, .boolean), (k_f5, .int), (k_f6, .int), (k_f7, .int), (k_f8, .int), (k_f9, .int), (k_f10, .int), (k_f11, .int), (k_f12, .int), (k_f13, .int), (k_f14, .int), (k_f15, .int), (k_f16, .int)] ++ [(kz (o + gc), .int)]) s := zp_K hK (by omega) [8, 9, 10, 11, 12, 13, 14, 15, 16, 17, 18, 19, 20] rfl
    have hFc := pu_free hDc hS hA
    refine va_callv (va_runV (As := [.ref (az (o + gc)), .int (nI u_18)]) (rest := []) ⟨hx, hb, hml, hown, hts⟩ (c_E_0_stayIn_25 l dC dI _ au nc np ne st0 q4 q5 q6 q7 q8 q9 q10 q11 q12 q13 q14 q15 q16 k_f4 f4 k_f5 q_f5 k_f6 q_f6 k_f7 f7 k_f8 q_f8 k_f9 q_f9 k_f10 f10 k_f11 f11 k_f12 f12 k_f13 f13 k_f14 f14 k_f15 f15 k_f16 f16 (az (o + gc)) (ac (o + gc)) (min (qs_3 (o + gc)) 5) (kz (o + gc)) (fz_16 (o + gc)) u_18 hnc hnp hne (hst0) (Nat.min_le_right _ _) hu_18) (cwV 2 hts g_E_1_step_25_E_0_stayIn_25 rfl rfl rfl (by decide +kernel) ⟨Nat.le_of_ble_eq_true rfl, Nat.le_of_ble_eq_true rfl⟩) ⟨pu_bl, va_recv hK hP (ci := 0) (q0 := 9) rfl rfl, pu_in hPc hKc hDc⟩ rfl rfl hl.1 rfl (lv_room (Nat.le_of_ble_eq_true rfl)) eX1_step_65 ⟨Nat.le_of_ble_eq_true rfl, Nat.le_of_ble_eq_true rfl⟩) hS (fun q _ h => hFc q h) hFc (fun u t H1 locs ht hvm hw hB hz1 hk1 hS => ?_)
    obtain ⟨z_fz_20, ⟨hP1, -, hD1⟩, xr_19_0⟩ := hB
    rw [ht] at hP1
    obtain ⟨hP, hD⟩ := zp_putx (wr := [(au, .inr (0, [.int (nI nc), .int (nI np), .int (nI ne), .int st0, .ref q4, .ref q5, .ref q6, .ref q7, .ref q8, .ref q9, .ref q10, .ref q11, .ref q12, .ref q13, .ref q14, .ref q15, .ref q16])), (q4, .inl (k_f4, 8, .inl f4)), (q5, .inl (k_f5, 14, .inl (bN 7 q_f5))), (q6, .inl (k_f6, 14, .inl (bN 7 q_f6))), (q7, .inl (k_f7, 14, .inl f7)), (q8, .inl (k_f8, 22, .inl (bN 4 q_f8))), (q9, .inl (k_f9, 88, .inl (bN 2 q_f9))), (q10, .inl (k_f10, 88, .inl f10)), (q11, .inl (k_f11, 88, .inl f11)), (q12, .inl (k_f12, 88, .inl f12)), (q13, .inl (k_f13, 88, .inl f13)), (q14, .inl (k_f14, 4, .inl f14)), (q15, .inl (k_f15, 4, .inl f15)), (q16, .inl (k_f16, 4, .inl f16))]) (k := (o + gc)) hP hD (by omega) (fun q h => List.mem_append_left _ (pu_subm [9, 10, 11, 12, 13, 14, 15, 16, 17, 18, 19, 20, 21, 22] rfl q h)) hk1 (Nat.min_le_right _ _) hP1
    rw [zp_qsame] at hP hD
    obtain ⟨fz_22, xfz_22⟩ : ∃ q, q = updZ fz_16 (o + gc) z_fz_20 := ⟨_, rfl⟩
    rw [← xfz_22] at hP hD
    clear hP1 hD1 hFc
    clear hPc hDc hKc
    clear hk1 hz1 ht hvm
    generalize H1 = H at hP hS ⊢
    have hsp := hsp.trans (slet_eq xr_19_0)
    have hsp := hsp.trans (slet_eq xfz_22)
    refine lv_aload_n hx hb eX1_step_68 rfl (lv_at hl 2 rfl) ?_
    refine va_get (D := (dC, dI)) (ci := 1) (v := .int gway) (C := RX1) (T := TX1) (N := 18) hx hb hts hiX1 hown hK hP 0 rfl rfl 9 (by decide) v_23 (fun _ h9 => h9) rfl eX1_step_69 ?_
    obtain ⟨JR_25, hJR_25, hsp⟩ := slet_ex hsp
    refine pu_join (fun H locs ls st => ∃ (g_23 : Nat → Nat → Int32), st = [] ∧ g_23 = JR_25 ∧ va_P (dC, dI) vwCl ((gt1__w g gz g1 g2 g3 g4 g5 (nI gc) (nI gfull) y_12 gway gav ggoal (nI gfound) 400 (nI gl) (nI gsz) g16 g17 k_fgz (zs o 401 az) k_fs1 (bN 7 q_fs1) k_fs2 fs2 k_fs3 fs3 k_fs4 fs4 k_fs5 fs5 k_fhi fhi k_flo flo au (nI nc) (nI np) (nI ne) st0 q4 q5 q6 q7 q8 q9 q10 q11 q12 q13 q14 q15 q16 k_f4 f4 k_f5 (bN 7 q_f5) k_f6 (bN 7 q_f6) k_f7 f7 k_f8 (bN 4 q_f8) k_f9 (bN 2 q_f9) k_f10 f10 k_f11 f11 k_f12 f12 k_f13 f13 k_f14 f14 k_f15 f15 k_f16 f16) ++ zp 5 25 N az ac kz qs_3 g_23) H ∧ va_D A ((gt1__w g gz g1 g2 g3 g4 g5 (nI gc) (nI gfull) y_12 gway gav ggoal (nI gfound) 400 (nI gl) (nI gsz) g16 g17 k_fgz (zs o 401 az) k_fs1 (bN 7 q_fs1) k_fs2 fs2 k_fs3 fs3 k_fs4 fs4 k_fs5 fs5 k_fhi fhi k_flo flo au (nI nc) (nI np) (nI ne) st0 q4 q5 q6 q7 q8 q9 q10 q11 q12 q13 q14 q15 q16 k_f4 f4 k_f5 (bN 7 q_f5) k_f6 (bN 7 q_f6) k_f7 f7 k_f8 (bN 4 q_f8) k_f9 (bN 2 q_f9) k_f10 f10 k_f11 f11 k_f12 f12 k_f13 f13 k_f14 f14 k_f15 f15 k_f16 f16) ++ zp 5 25 N az ac kz qs_3 g_23) ∧ va_S A s.heap H locs ∧ lv_has ls 6 [(0, .ref g), (1, .ref au), (2, .int (nI a1)), (3, .int (nI a2)), (4, .ref (az (o + gc))), (5, .int (nI u_18))]) 88 ?_ (fun j_24 => ?_)
    · rintro H locs ls st ⟨g_23, rfl, he_26, hP, hD, hS, hl⟩
      rw [← he_26] at hsp
      refine lv_aload_n hx hb eX1_step_88 rfl (lv_at hl 0 rfl) ?_
      refine lv_aload hx hb eX1_step_89 (lv_at hl 4 rfl) ?_
      refine lv_iload hx hb eX1_step_91 (lv_at hl 5 rfl) ?_
      have hPc : va_P (dC, dI) vwCl ([(g, .inr (1, [.ref gz, .ref g1, .ref g2, .ref g3, .ref g4, .ref g5, .int (nI gc), .int (nI gfull), .int y_12, .int gway, .int gav, .int ggoal, .int (nI gfound), .int 400, .int (nI gl), .int (nI gsz), .ref g16, .ref g17])), (gz, .inl (k_fgz, 401, .inr (.inr (.inr (.inr (zs o 401 az)))))), (g1, .inl (k_fs1, 400, .inl (bN 7 q_fs1))), (g2, .inl (k_fs2, 400, .inl fs2)), (g3, .inl (k_fs3, 400, .inl fs3)), (g4, .inl (k_fs4, 400, .inl fs4)), (g5, .inl (k_fs5, 400, .inl fs5)), (g16, .inl (k_fhi, 5, .inl fhi)), (g17, .inl (k_flo, 5, .inl flo))] ++ zp 5 25 N az ac kz qs_3 g_23) _ := hP.part [0, 1, 2, 3, 4, 5, 6, 7, 8] rfl
      have hDc : va_D A ([(g, .inr (1, [.ref gz, .ref g1, .ref g2, .ref g3, .ref g4, .ref g5, .int (nI gc), .int (nI gfull), .int y_12, .int gway, .int gav, .int ggoal, .int (nI gfound), .int 400, .int (nI gl), .int (nI gsz), .ref g16, .ref g17])), (gz, .inl (k_fgz, 401, .inr (.inr (.inr (.inr (zs o 401 az)))))), (g1, .inl (k_fs1, 400, .inl (bN 7 q_fs1))), (g2, .inl (k_fs2, 400, .inl fs2)), (g3, .inl (k_fs3, 400, .inl fs3)), (g4, .inl (k_fs4, 400, .inl fs4)), (g5, .inl (k_fs5, 400, .inl fs5)), (g16, .inl (k_fhi, 5, .inl fhi)), (g17, .inl (k_flo, 5, .inl flo))] ++ zp 5 25 N az ac kz qs_3 g_23) := hD.part [0, 1, 2, 3, 4, 5, 6, 7, 8] (by decide) rfl
      have hKc : va_K (dC, dI) vwCl ([(k_fgz, .object RX7), (k_fs1, .int), (k_fs2, .int), (k_fs3, .int), (k_fs4, .int), (k_fs5, .int), (k_fhi, .int), (k_flo, .int)] ++ zt N kz) s := zk_part hK [0, 1, 2, 3, 4, 5, 6, 7] rfl
      refine va_calli (va_runV (As := [.ref (az (o + gc)), .int (nI u_18)]) (rest := []) ⟨hx, hb, hml, hown, hts⟩ (c_E_1_isKnown_25 l dC dI _ g gz g1 g2 g3 g4 g5 gc gfull y_12 gway gav ggoal gfound gl gsz g16 g17 k_fgz k_fs1 q_fs1 k_fs2 fs2 k_fs3 fs3 k_fs4 fs4 k_fs5 fs5 k_fhi fhi k_flo flo N o az ac kz qs_3 g_23 (o + gc) u_18 hgc hgfull hgfound hgl hgsz (by omega) (by omega) hu_18 (by omega)) (cwV 2 hts g_E_1_step_25_E_1_isKnown_25 rfl rfl rfl (by decide +kernel) ⟨Nat.le_of_ble_eq_true rfl, Nat.le_of_ble_eq_true rfl⟩) ⟨pu_bl, va_recv hK hP (ci := 1) (q0 := 0) rfl rfl, pu_in hPc hKc hDc⟩ rfl rfl hl.1 rfl (lv_room (Nat.le_of_ble_eq_true rfl)) eX1_step_93 ⟨Nat.le_of_ble_eq_true rfl, Nat.le_of_ble_eq_true rfl⟩) hS (fun q _ h => pu_fr hS hA q h) (pu_fr hS hA) (fun r_27 u t H1 locs ht hvm hw hB hz1 hk1 hS => ?_)
      have hP := pu_keep hP hk1
      clear hPc hDc hKc
      clear hk1 hz1 ht hvm
      generalize H1 = H at hP hS ⊢
      obtain ⟨u_28, hu_28, rfl, iu_28⟩ := hw
      have hsp := hsp.trans (slet_eq iu_28)
      refine lv_if_eq (tgt := 100) hx hb eX1_step_96 (by decide) (fun c_29 => ?_) (fun c_29 => ?_)
      · have c_29 : u_28 = 0 := (nI_eq (a := u_28) (b := 0) (Nat.lt_of_le_of_lt hu_28 (Nat.le_of_ble_eq_true rfl)) (Nat.le_of_ble_eq_true rfl)).mp c_29
        have hsp := hsp.trans (if_pos c_29)
        refine lv_aload_n hx hb eX1_step_100 rfl (lv_at hl 0 rfl) ?_
        refine va_get (D := (dC, dI)) (ci := 1) (v := .int (nI gc)) (C := RX1) (T := TX1) (N := 18) hx hb hts hiX1 hown hK hP 0 rfl rfl 6 (by decide) v_2 (fun _ h9 => h9) rfl eX1_step_101 ?_
        refine lv_aload_n hx hb eX1_step_104 rfl (lv_at hl 0 rfl) ?_
        refine va_get (D := (dC, dI)) (ci := 1) (v := .int 400) (C := RX1) (T := TX1) (N := 18) hx hb hts hiX1 hown hK hP 0 rfl rfl 13 (by decide) v_35 (fun _ h9 => h9) rfl eX1_step_105 ?_
        refine lv_icmp_ne (tgt := 117) hx hb eX1_step_108 (by decide) (fun c_30 => ?_) (fun c_30 => ?_)
        · have c_30 : ¬ gc = 400 := fun z => c_30 ((nI_eq (a := gc) (b := 400) (Nat.lt_of_le_of_lt hgc (Nat.le_of_ble_eq_true rfl)) (Nat.le_of_ble_eq_true rfl)).mpr z)
          have hsp := hsp.trans (if_neg c_30)
          refine lv_aload_n hx hb eX1_step_117 rfl (lv_at hl 0 rfl) ?_
          refine lv_iload hx hb eX1_step_118 (lv_at hl 5 rfl) ?_
          refine lv_iload_n hx hb eX1_step_120 rfl (lv_at hl 2 rfl) ?_
          refine lv_iload_n hx hb eX1_step_121 rfl (lv_at hl 3 rfl) ?_
          have hPc : va_P (dC, dI) vwCl ([(g, .inr (1, [.ref gz, .ref g1, .ref g2, .ref g3, .ref g4, .ref g5, .int (nI gc), .int (nI gfull), .int y_12, .int gway, .int gav, .int ggoal, .int (nI gfound), .int 400, .int (nI gl), .int (nI gsz), .ref g16, .ref g17])), (gz, .inl (k_fgz, 401, .inr (.inr (.inr (.inr (zs o 401 az)))))), (g1, .inl (k_fs1, 400, .inl (bN 7 q_fs1))), (g2, .inl (k_fs2, 400, .inl fs2)), (g3, .inl (k_fs3, 400, .inl fs3)), (g4, .inl (k_fs4, 400, .inl fs4)), (g5, .inl (k_fs5, 400, .inl fs5)), (g16, .inl (k_fhi, 5, .inl fhi)), (g17, .inl (k_flo, 5, .inl flo))] ++ zp 5 25 N az ac kz qs_3 g_23) _ := hP.part [0, 1, 2, 3, 4, 5, 6, 7, 8] rfl
          have hDc : va_D A ([(g, .inr (1, [.ref gz, .ref g1, .ref g2, .ref g3, .ref g4, .ref g5, .int (nI gc), .int (nI gfull), .int y_12, .int gway, .int gav, .int ggoal, .int (nI gfound), .int 400, .int (nI gl), .int (nI gsz), .ref g16, .ref g17])), (gz, .inl (k_fgz, 401, .inr (.inr (.inr (.inr (zs o 401 az)))))), (g1, .inl (k_fs1, 400, .inl (bN 7 q_fs1))), (g2, .inl (k_fs2, 400, .inl fs2)), (g3, .inl (k_fs3, 400, .inl fs3)), (g4, .inl (k_fs4, 400, .inl fs4)), (g5, .inl (k_fs5, 400, .inl fs5)), (g16, .inl (k_fhi, 5, .inl fhi)), (g17, .inl (k_flo, 5, .inl flo))] ++ zp 5 25 N az ac kz qs_3 g_23) := hD.part [0, 1, 2, 3, 4, 5, 6, 7, 8] (by decide) rfl
          have hKc : va_K (dC, dI) vwCl ([(k_fgz, .object RX7), (k_fs1, .int), (k_fs2, .int), (k_fs3, .int), (k_fs4, .int), (k_fs5, .int), (k_fhi, .int), (k_flo, .int)] ++ zt N kz) s := zk_part hK [0, 1, 2, 3, 4, 5, 6, 7] rfl
          have hFc := pu_free hDc hS hA
          refine va_callv (va_runV (As := [.int (nI u_18), .int (nI a1), .int (nI a2)]) (rest := []) ⟨hx, hb, hml, hown, hts⟩ (c_E_1_record1_25 l dC dI _ g gz g1 g2 g3 g4 g5 gc gfull y_12 gway gav ggoal gfound gl gsz g16 g17 k_fgz k_fs1 q_fs1 k_fs2 fs2 k_fs3 fs3 k_fs4 fs4 k_fs5 fs5 k_fhi fhi k_flo flo N o az ac kz qs_3 g_23 u_18 a1 a2 (by omega) hgfull hgfound hgl hgsz (by omega) hu_18 ha1 ha2 (by first | assumption | exact gz_0) (by omega)) (cwV 3 hts g_E_1_step_25_E_1_record1_25 rfl rfl rfl (by decide +kernel) ⟨Nat.le_of_ble_eq_true rfl, Nat.le_of_ble_eq_true rfl⟩) ⟨pu_bl, va_recv hK hP (ci := 1) (q0 := 0) rfl rfl, pu_in hPc hKc hDc⟩ rfl rfl hl.1 rfl (lv_room (Nat.le_of_ble_eq_true rfl)) eX1_step_122 ⟨Nat.le_of_ble_eq_true rfl, Nat.le_of_ble_eq_true rfl⟩) hS (fun q _ h => hFc q h) hFc (fun u t H1 locs ht hvm hw hB hz1 hk1 hS => ?_)
          obtain ⟨z_fs1_32, z_fs2_33, z_fs3_34, z_fs4_35, z_fs5_36, z_gfound_37, ⟨hP1, -, hD1⟩, hz_gfound_37, xr_31_0, xr_31_1⟩ := hB
          rw [ht] at hP1
          obtain ⟨hP, hD⟩ := pj_c (X := (gt1__w g gz g1 g2 g3 g4 g5 (nI gc) (nI gfull) y_12 gway gav ggoal (nI gfound) 400 (nI gl) (nI gsz) g16 g17 k_fgz (zs o 401 az) k_fs1 (bN 7 q_fs1) k_fs2 fs2 k_fs3 fs3 k_fs4 fs4 k_fs5 fs5 k_fhi fhi k_flo flo au (nI nc) (nI np) (nI ne) st0 q4 q5 q6 q7 q8 q9 q10 q11 q12 q13 q14 q15 q16 k_f4 f4 k_f5 (bN 7 q_f5) k_f6 (bN 7 q_f6) k_f7 f7 k_f8 (bN 4 q_f8) k_f9 (bN 2 q_f9) k_f10 f10 k_f11 f11 k_f12 f12 k_f13 f13 k_f14 f14 k_f15 f15 k_f16 f16)) (X' := (gt1__w g gz g1 g2 g3 g4 g5 (nI (gc + 1)) (nI gfull) y_12 gway gav ggoal (nI z_gfound_37) 400 (nI gl) (nI gsz) g16 g17 k_fgz (zs o 401 az) k_fs1 (bN 7 z_fs1_32) k_fs2 z_fs2_33 k_fs3 z_fs3_34 k_fs4 z_fs4_35 k_fs5 z_fs5_36 k_fhi fhi k_flo flo au (nI nc) (nI np) (nI ne) st0 q4 q5 q6 q7 q8 q9 q10 q11 q12 q13 q14 q15 q16 k_f4 f4 k_f5 (bN 7 q_f5) k_f6 (bN 7 q_f6) k_f7 f7 k_f8 (bN 4 q_f8) k_f9 (bN 2 q_f9) k_f10 f10 k_f11 f11 k_f12 f12 k_f13 f13 k_f14 f14 k_f15 f15 k_f16 f16)) (wc := (gt0__w g gz g1 g2 g3 g4 g5 (nI gc) (nI gfull) y_12 gway gav ggoal (nI gfound) 400 (nI gl) (nI gsz) g16 g17 k_fgz (zs o 401 az) k_fs1 (bN 7 q_fs1) k_fs2 fs2 k_fs3 fs3 k_fs4 fs4 k_fs5 fs5 k_fhi fhi k_flo flo)) (w1 := (gt0__w g gz g1 g2 g3 g4 g5 (nI (gc + 1)) (nI gfull) y_12 gway gav ggoal (nI z_gfound_37) 400 (nI gl) (nI gsz) g16 g17 k_fgz (zs o 401 az) k_fs1 (bN 7 z_fs1_32) k_fs2 z_fs2_33 k_fs3 z_fs3_34 k_fs4 z_fs4_35 k_fs5 z_fs5_36 k_fhi fhi k_flo flo)) hP hD [0, 1, 2, 3, 4, 5, 6, 7, 8] [0, 1, 2, 3, 4, 5, 6, 7, 8, 18, 19, 20, 21, 22, 23, 24, 25, 26, 27, 28, 29, 30, 31] 9 rfl hk1 hP1 rfl zp_f rfl rfl (by decide)
          clear hP1 hD1 hFc
          clear hPc hDc hKc
          clear hk1 hz1 ht hvm
          generalize H1 = H at hP hS ⊢
          have hsp := hsp.trans (slet_eq xr_31_1)
          exact W.vret hx hb hr (fun t ht hW => ⟨⟨(), rfl, trivial, ⟨z_fs1_32, z_fs2_33, z_fs3_34, z_fs4_35, z_fs5_36, z_gfound_37, (gc + 1), gfull, y_12, g_23, qs_3, ⟨by rw [ht]; exact hP, va_K.moved hW.alike hK, hD⟩, hz_gfound_37, (by omega), hgfull, by first | assumption | exact gz_0, by omega, (hsp.symm.trans hRR)⟩⟩, hS.F ht⟩) hS.2.2 eX1_step_125
        · have c_30 : gc = 400 := (nI_eq (a := gc) (b := 400) (Nat.lt_of_le_of_lt hgc (Nat.le_of_ble_eq_true rfl)) (Nat.le_of_ble_eq_true rfl)).mp c_30
          have hsp := hsp.trans (if_pos c_30)
          refine lv_aload_n hx hb eX1_step_111 rfl (lv_at hl 0 rfl) ?_
          refine lv_iconst (v := 1) hx hb eX1_step_112 (by decide) ?_
          refine va_put (D := (dC, dI)) (ci := 1) (v := .int 1) (ty := .boolean) (C := RX1) (T := TX1) (N := 18) hx hb hts hiX1 tyX1 tyX1_ok nmX1 hown hK hP hD hS 0 rfl rfl 7 (by decide) v_40 (fun _ h9 => h9) rfl (by decide +kernel) rfl rfl (Nat.le_of_ble_eq_true rfl) eX1_step_113 (fun H locs hP hD hS => ?_)
          have hP : va_P (dC, dI) vwCl ((gt1__w g gz g1 g2 g3 g4 g5 (nI gc) 1 y_12 gway gav ggoal (nI gfound) 400 (nI gl) (nI gsz) g16 g17 k_fgz (zs o 401 az) k_fs1 (bN 7 q_fs1) k_fs2 fs2 k_fs3 fs3 k_fs4 fs4 k_fs5 fs5 k_fhi fhi k_flo flo au (nI nc) (nI np) (nI ne) st0 q4 q5 q6 q7 q8 q9 q10 q11 q12 q13 q14 q15 q16 k_f4 f4 k_f5 (bN 7 q_f5) k_f6 (bN 7 q_f6) k_f7 f7 k_f8 (bN 4 q_f8) k_f9 (bN 2 q_f9) k_f10 f10 k_f11 f11 k_f12 f12 k_f13 f13 k_f14 f14 k_f15 f15 k_f16 f16) ++ zp 5 25 N az ac kz qs_3 g_23) H := hP
          have hD : va_D A ((gt1__w g gz g1 g2 g3 g4 g5 (nI gc) 1 y_12 gway gav ggoal (nI gfound) 400 (nI gl) (nI gsz) g16 g17 k_fgz (zs o 401 az) k_fs1 (bN 7 q_fs1) k_fs2 fs2 k_fs3 fs3 k_fs4 fs4 k_fs5 fs5 k_fhi fhi k_flo flo au (nI nc) (nI np) (nI ne) st0 q4 q5 q6 q7 q8 q9 q10 q11 q12 q13 q14 q15 q16 k_f4 f4 k_f5 (bN 7 q_f5) k_f6 (bN 7 q_f6) k_f7 f7 k_f8 (bN 4 q_f8) k_f9 (bN 2 q_f9) k_f10 f10 k_f11 f11 k_f12 f12 k_f13 f13 k_f14 f14 k_f15 f15 k_f16 f16) ++ zp 5 25 N az ac kz qs_3 g_23) := hD
          exact W.vret hx hb hr (fun t ht hW => ⟨⟨(), rfl, trivial, ⟨q_fs1, fs2, fs3, fs4, fs5, gfound, gc, 1, y_12, g_23, qs_3, ⟨by rw [ht]; exact hP, va_K.moved hW.alike hK, hD⟩, hgfound, hgc, (Nat.le_of_ble_eq_true rfl), by first | assumption | exact gz_0, by omega, (hsp.symm.trans hRR)⟩⟩, hS.F ht⟩) hS.2.2 eX1_step_116
      · have c_29 : ¬ u_28 = 0 := fun z => c_29 ((nI_eq (a := u_28) (b := 0) (Nat.lt_of_le_of_lt hu_28 (Nat.le_of_ble_eq_true rfl)) (Nat.le_of_ble_eq_true rfl)).mpr z)
        have hsp := hsp.trans (if_neg c_29)
        exact W.vret hx hb hr (fun t ht hW => ⟨⟨(), rfl, trivial, ⟨q_fs1, fs2, fs3, fs4, fs5, gfound, gc, gfull, y_12, g_23, qs_3, ⟨by rw [ht]; exact hP, va_K.moved hW.alike hK, hD⟩, hgfound, hgc, hgfull, by first | assumption | exact gz_0, by omega, (hsp.symm.trans hRR)⟩⟩, hS.F ht⟩) hS.2.2 eX1_step_99
    have hsp := hJR_25
    refine lv_if_eq (tgt := 88) hx hb eX1_step_72 (by decide) (fun c_38 => ?_) (fun c_38 => ?_)
    · have hcc_38 := c_38
      have hsp := hsp.trans (if_pos c_38)
      exact j_24 _ _ _ _ ⟨fz_22, rfl, hsp.symm, hP, hD, hS, lv_sub hl [2, 3, 4, 5, 1, 0] rfl⟩
    · have hcc_38 := c_38
      have hsp := hsp.trans (if_neg c_38)
      refine lv_aload hx hb eX1_step_75 (lv_at hl 1 rfl) ?_
      refine lv_aload_n hx hb eX1_step_77 rfl (lv_at hl 2 rfl) ?_
      refine va_get (D := (dC, dI)) (ci := 1) (v := .ref g16) (C := RX1) (T := TX1) (N := 18) hx hb hts hiX1 hown hK hP 0 rfl rfl 16 (by decide) v_24 (fun _ h9 => h9) rfl eX1_step_78 ?_
      refine lv_aload_n hx hb eX1_step_81 rfl (lv_at hl 2 rfl) ?_
      refine va_get (D := (dC, dI)) (ci := 1) (v := .ref g17) (C := RX1) (T := TX1) (N := 18) hx hb hts hiX1 hown hK hP 0 rfl rfl 17 (by decide) v_25 (fun _ h9 => h9) rfl eX1_step_82 ?_
      have hPz := zp_cut (k := (o + gc)) hP (by omega)
      have hPc : va_P (dC, dI) vwCl ([(g16, .inl (k_fhi, 5, .inl fhi)), (g17, .inl (k_flo, 5, .inl flo))] ++ [(az (o + gc), .inr (7, [.ref (ac (o + gc)), .int (nI (min (qs_3 (o + gc)) 5))])), (ac (o + gc), .inl (kz (o + gc), 25, .inl (fz_22 (o + gc))))]) _ := va_P.app (hP.sub [7, 8] rfl) hPz
      have hDc : va_D A ([(g16, .inl (k_fhi, 5, .inl fhi)), (g17, .inl (k_flo, 5, .inl flo))] ++ [(az (o + gc), .inr (7, [.ref (ac (o + gc)), .int (nI (min (qs_3 (o + gc)) 5))])), (ac (o + gc), .inl (kz (o + gc), 25, .inl (fz_22 (o + gc))))]) := zp_cutD hD (by omega) [7, 8] (by decide) rfl
      have hKc : va_K (dC, dI) vwCl ([(k_fhi, .int), (k_flo, .int)] ++ [(kz (o + gc), .int)]) s := zp_K hK (by omega) [6, 7] rfl
      have hFc := pu_free hDc hS hA
      refine va_callv (va_runV (As := [.ref g16, .ref g17]) (rest := []) ⟨hx, hb, hml, hown, hts⟩ (c_E_7_forget_25 l dC dI _ g16 k_fhi fhi g17 k_flo flo (az (o + gc)) (ac (o + gc)) (min (qs_3 (o + gc)) 5) (kz (o + gc)) (fz_22 (o + gc)) (Nat.min_le_right _ _)) (cwV 2 hts g_E_1_step_25_E_7_forget_25 rfl rfl rfl (by decide +kernel) ⟨Nat.le_of_ble_eq_true rfl, Nat.le_of_ble_eq_true rfl⟩) ⟨pu_bl, va_recv hK hPz (ci := 7) (q0 := 0) rfl rfl, pu_in hPc hKc hDc⟩ rfl rfl hl.1 rfl (lv_room (Nat.le_of_ble_eq_true rfl)) eX1_step_85 ⟨Nat.le_of_ble_eq_true rfl, Nat.le_of_ble_eq_true rfl⟩) hS (fun q _ h => hFc q h) hFc (fun u t H1 locs ht hvm hw hB hz1 hk1 hS => ?_)
      obtain ⟨z_fz_40, ⟨hP1, -, hD1⟩, xr_39_0⟩ := hB
      rw [ht] at hP1
      obtain ⟨hP, hD⟩ := zp_putx (wr := [(g16, .inl (k_fhi, 5, .inl fhi)), (g17, .inl (k_flo, 5, .inl flo))]) (k := (o + gc)) hP hD (by omega) (fun q h => List.mem_append_left _ (pu_subm [7, 8] rfl q h)) hk1 (Nat.min_le_right _ _) hP1
      rw [zp_qsame] at hP hD
      obtain ⟨fz_42, xfz_42⟩ : ∃ q, q = updZ fz_22 (o + gc) z_fz_40 := ⟨_, rfl⟩
      rw [← xfz_42] at hP hD
      clear hP1 hD1 hFc
      clear hPc hDc hKc
      clear hk1 hz1 ht hvm
      generalize H1 = H at hP hS ⊢
      have hsp := hsp.trans (slet_eq xr_39_0)
      have hsp := hsp.trans (slet_eq xfz_42)
      exact j_24 _ _ _ _ ⟨fz_42, rfl, hsp.symm, hP, hD, hS, lv_sub hl [2, 3, 4, 5, 1, 0] rfl⟩
  · have c_10 : u_9 = 0 := (nI_eq (a := u_9) (b := 0) (Nat.lt_of_le_of_lt hu_9 (Nat.le_of_ble_eq_true rfl)) (Nat.le_of_ble_eq_true rfl)).mp c_10
    have hsp := hsp.trans (if_pos c_10)
    exact W.vret hx hb hr (fun t ht hW => ⟨⟨(), rfl, trivial, ⟨q_fs1, fs2, fs3, fs4, fs5, gfound, gc, gfull, gx, fz_8, qs_3, ⟨by rw [ht]; exact hP, va_K.moved hW.alike hK, hD⟩, hgfound, hgc, hgfull, by first | assumption | exact gz_0, by omega, (hsp.symm.trans hRR)⟩⟩, hS.F ht⟩) hS.2.2 eX1_step_32
abbrev vs_E_1_grow_25 : List Cond := .code yX1_grow cX1_grow 4 none :: CM
theorem g_E_1_grow_25_E_1_step_25 : GoodIn vs_E_1_grow_25 (wsV RX1 121 RX1 yX1_step vs_E_1_step_25) := cm_gV cm_124 cm_125 cm_126 cm_113 cm_127
noncomputable def sp_E_1_grow_25_L1 (gway : Int32) (gav : Int32) (ggoal : Int32) (gl : Nat) (fhi : Nat → Int32) (flo : Nat → Int32) (nc : Nat) (ne : Nat) (f4 : Nat → Int32) (q_f5 : Nat → Nat) (q_f6 : Nat → Nat) (f7 : Nat → Int32) (q_f8 : Nat → Nat) (q_f9 : Nat → Nat) (f12 : Nat → Int32) (f13 : Nat → Int32) (o : Nat) (g_23 : Nat) : ((Nat → Nat) × (Nat → Int32) × (Nat → Int32) × (Nat → Int32) × (Nat → Int32) × Nat × Nat × Nat × Int32 × Nat × (Nat → Nat → Int32) × (Nat → Nat)) → ((Nat → Nat) × (Nat → Int32) × (Nat → Int32) × (Nat → Int32) × (Nat → Int32) × Nat × Nat × Nat × Int32 × Nat × (Nat → Nat → Int32) × (Nat → Nat)) ⊕ (Nat × Nat × Nat × Int32 × Nat × (Nat → Nat) × (Nat → Int32) × (Nat → Int32) × (Nat → Int32) × (Nat → Int32) × (Nat → Nat) × (Nat → Nat → Int32)) := fun (g_66, g_67, g_68, g_69, g_70, g_71, g_72, g_73, g_74, g_75, g_76, g_77) => (if ne ≤ g_75 then (Sum.inr (g_75, g_72, g_73, g_74, g_71, g_66, g_67, g_68, g_69, g_70, g_77, g_76)) else (if g_71 = 0 then (slet (min (q_f5 g_75) 7) (fun u_89 => (slet (min (g_66 g_23) 7) (fun u_91 => (slet (α := Nat × Nat × Int32 × Nat × (Nat → Nat) × (Nat → Int32) × (Nat → Int32) × (Nat → Int32) × (Nat → Int32) × (Nat → Nat) × (Nat → Nat → Int32)) (if u_89 = u_91 then (slet (min (q_f6 g_75) 7) (fun u_110 => (if ((nI u_110) : Int32) = gav then (g_72, g_73, g_74, g_71, g_66, g_67, g_68, g_69, g_70, g_77, g_76) else (slet (sp_E_1_step_25 g_72 g_73 g_74 gway ggoal g_71 gl g_66 g_67 g_68 g_69 g_70 fhi flo nc f4 q_f6 f7 q_f8 q_f9 f12 f13 o g_77 g_76 g_23 g_75) (fun (z_fs1_113, z_fs2_114, z_fs3_115, z_fs4_116, z_fs5_117, z_gfound_118, z_gc_119, z_gfull_120, z_gx_121, z_fz_122, z_qs_123) => (z_gc_119, z_gfull_120, z_gx_121, z_gfound_118, z_fs1_113, z_fs2_114, z_fs3_115, z_fs4_116, z_fs5_117, z_qs_123, z_fz_122)))))) else (g_72, g_73, g_74, g_71, g_66, g_67, g_68, g_69, g_70, g_77, g_76)) (fun (g_92, g_93, g_94, g_95, g_96, g_97, g_98, g_99, g_100, g_101, g_102) => (Sum.inl (g_96, g_97, g_98, g_99, g_100, g_95, g_92, g_93, g_94, (g_75 + 1), g_102, g_101)))))))) else (Sum.inr (g_75, g_72, g_73, g_74, g_71, g_66, g_67, g_68, g_69, g_70, g_77, g_76))))
noncomputable def sp_E_1_grow_25_L2 (gway : Int32) (gav : Int32) (ggoal : Int32) (gl : Nat) (fhi : Nat → Int32) (flo : Nat → Int32) (nc : Nat) (ne : Nat) (f4 : Nat → Int32) (q_f5 : Nat → Nat) (q_f6 : Nat → Nat) (f7 : Nat → Int32) (q_f8 : Nat → Nat) (q_f9 : Nat → Nat) (f12 : Nat → Int32) (f13 : Nat → Int32) (o : Nat) : ((Nat → Nat) × (Nat → Int32) × (Nat → Int32) × (Nat → Int32) × (Nat → Int32) × Nat × Nat × Nat × Int32 × Nat × (Nat → Nat → Int32) × (Nat → Nat)) → ((Nat → Nat) × (Nat → Int32) × (Nat → Int32) × (Nat → Int32) × (Nat → Int32) × Nat × Nat × Nat × Int32 × Nat × (Nat → Nat → Int32) × (Nat → Nat)) ⊕ ((Nat → Nat) × (Nat → Int32) × (Nat → Int32) × (Nat → Int32) × (Nat → Int32) × Nat × Nat × Nat × Int32 × (Nat → Nat → Int32) × (Nat → Nat)) := fun (g_14, g_15, g_16, g_17, g_18, g_19, g_20, g_21, g_22, g_23, g_24, g_25) => (if g_20 ≤ g_23 then (Sum.inr (g_14, g_15, g_16, g_17, g_18, g_19, g_20, g_21, g_22, g_24, g_25)) else (if g_19 = 0 then (slet (α := Nat × Nat × Nat × Int32 × Nat × (Nat → Nat) × (Nat → Int32) × (Nat → Int32) × (Nat → Int32) × (Nat → Int32) × (Nat → Nat) × (Nat → Nat → Int32)) (itrv (α := (Nat → Nat) × (Nat → Int32) × (Nat → Int32) × (Nat → Int32) × (Nat → Int32) × Nat × Nat × Nat × Int32 × Nat × (Nat → Nat → Int32) × (Nat → Nat)) (β := (Nat × Nat × Nat × Int32 × Nat × (Nat → Nat) × (Nat → Int32) × (Nat → Int32) × (Nat → Int32) × (Nat → Int32) × (Nat → Nat) × (Nat → Nat → Int32))) default (sp_E_1_grow_25_L1 gway gav ggoal gl fhi flo nc ne f4 q_f5 q_f6 f7 q_f8 q_f9 f12 f13 o g_23) (g_14, g_15, g_16, g_17, g_18, g_19, g_20, g_21, g_22, 0, g_24, g_25)) (fun (g_35, g_36, g_37, g_38, g_39, g_40, g_41, g_42, g_43, g_44, g_45, g_46) => (Sum.inl (g_40, g_41, g_42, g_43, g_44, g_39, g_36, g_37, g_38, (g_23 + 1), g_46, g_45)))) else (Sum.inr (g_14, g_15, g_16, g_17, g_18, g_19, g_20, g_21, g_22, g_24, g_25))))
noncomputable def sp_E_1_grow_25 (gc : Nat) (gfull : Nat) (gx : Int32) (gway : Int32) (gav : Int32) (ggoal : Int32) (gfound : Nat) (gl : Nat) (q_fs1 : Nat → Nat) (fs2 : Nat → Int32) (fs3 : Nat → Int32) (fs4 : Nat → Int32) (fs5 : Nat → Int32) (fhi : Nat → Int32) (flo : Nat → Int32) (nc : Nat) (ne : Nat) (f4 : Nat → Int32) (q_f5 : Nat → Nat) (q_f6 : Nat → Nat) (f7 : Nat → Int32) (q_f8 : Nat → Nat) (q_f9 : Nat → Nat) (f12 : Nat → Int32) (f13 : Nat → Int32) (o : Nat) (qs : Nat → Nat) (fz : Nat → Nat → Int32) : (Nat → Nat) × (Nat → Int32) × (Nat → Int32) × (Nat → Int32) × (Nat → Int32) × Nat × Nat × Nat × Int32 × (Nat → Nat → Int32) × (Nat → Nat) := (itrv (α := (Nat → Nat) × (Nat → Int32) × (Nat → Int32) × (Nat → Int32) × (Nat → Int32) × Nat × Nat × Nat × Int32 × Nat × (Nat → Nat → Int32) × (Nat → Nat)) (β := ((Nat → Nat) × (Nat → Int32) × (Nat → Int32) × (Nat → Int32) × (Nat → Int32) × Nat × Nat × Nat × Int32 × (Nat → Nat → Int32) × (Nat → Nat))) default (sp_E_1_grow_25_L2 gway gav ggoal gl fhi flo nc ne f4 q_f5 q_f6 f7 q_f8 q_f9 f12 f13 o) (q_fs1, fs2, fs3, fs4, fs5, gfound, gc, gfull, gx, 0, fz, qs))
set_option maxHeartbeats 4000000 in
set_option maxRecDepth 100000 in
theorem c_E_1_grow_25 (l : Launch) (dC : Nat → ClassId) (dI : Nat → Nat → Nat) (sz : Nat) (g : Nat) (gz : Nat) (g1 : Nat) (g2 : Nat) (g3 : Nat) (g4 : Nat) (g5 : Nat) (gc : Nat) (gfull : Nat) (gx : Int32) (gway : Int32) (gav : Int32) (ggoal : Int32) (gfound : Nat) (gl : Nat) (gsz : Nat) (g16 : Nat) (g17 : Nat) (k_fgz : ClassId) (k_fs1 : ClassId) (q_fs1 : Nat → Nat) (k_fs2 : ClassId) (fs2 : Nat → Int32) (k_fs3 : ClassId) (fs3 : Nat → Int32) (k_fs4 : ClassId) (fs4 : Nat → Int32) (k_fs5 : ClassId) (fs5 : Nat → Int32) (k_fhi : ClassId) (fhi : Nat → Int32) (k_flo : ClassId) (flo : Nat → Int32) (au : Nat) (nc : Nat) (np : Nat) (ne : Nat) (st0 : Int32) (q4 : Nat) (q5 : Nat) (q6 : Nat) (q7 : Nat) (q8 : Nat) (q9 : Nat) (q10 : Nat) (q11 : Nat) (q12 : Nat) (q13 : Nat) (q14 : Nat) (q15 : Nat) (q16 : Nat) (k_f4 : ClassId) (f4 : Nat → Int32) (k_f5 : ClassId) (q_f5 : Nat → Nat) (k_f6 : ClassId) (q_f6 : Nat → Nat) (k_f7 : ClassId) (f7 : Nat → Int32) (k_f8 : ClassId) (q_f8 : Nat → Nat) (k_f9 : ClassId) (q_f9 : Nat → Nat) (k_f10 : ClassId) (f10 : Nat → Int32) (k_f11 : ClassId) (f11 : Nat → Int32) (k_f12 : ClassId) (f12 : Nat → Int32) (k_f13 : ClassId) (f13 : Nat → Int32) (k_f14 : ClassId) (f14 : Nat → Int32) (k_f15 : ClassId) (f15 : Nat → Int32) (k_f16 : ClassId) (f16 : Nat → Int32) (N : Nat) (o : Nat) (az ac : Nat → Nat) (kz : Nat → ClassId) (qs : Nat → Nat) (fz : Nat → Nat → Int32) (hgc : gc ≤ 400) (hgfull : gfull ≤ 1) (hgfound : gfound ≤ 1) (hgl : gl ≤ 1) (hgsz : gsz ≤ 5) (hnc : nc ≤ 3) (hnp : np ≤ 8) (hne : ne ≤ 14) (hst0 : pm1 7 st0) (hN : o + 401 ≤ N) (hq0 : gz_ok gc fs2 fs3 fs4) : Met l yX1_grow vs_E_1_grow_25 ({ frames := 4, cells := 0, slots := 0, locals := 102 }) (va_Pc [.ref g, .ref au] (pu_B (dC, dI) ((gt1__w g gz g1 g2 g3 g4 g5 (nI gc) (nI gfull) gx gway gav ggoal (nI gfound) 400 (nI gl) (nI gsz) g16 g17 k_fgz (zs o 401 az) k_fs1 (bN 7 q_fs1) k_fs2 fs2 k_fs3 fs3 k_fs4 fs4 k_fs5 fs5 k_fhi fhi k_flo flo au (nI nc) (nI np) (nI ne) st0 q4 q5 q6 q7 q8 q9 q10 q11 q12 q13 q14 q15 q16 k_f4 f4 k_f5 (bN 7 q_f5) k_f6 (bN 7 q_f6) k_f7 f7 k_f8 (bN 4 q_f8) k_f9 (bN 2 q_f9) k_f10 f10 k_f11 f11 k_f12 f12 k_f13 f13 k_f14 f14 k_f15 f15 k_f16 f16) ++ zp 5 25 N az ac kz qs fz) ((gt1__t k_fgz k_fs1 k_fs2 k_fs3 k_fs4 k_fs5 k_fhi k_flo k_f4 k_f5 k_f6 k_f7 k_f8 k_f9 k_f10 k_f11 k_f12 k_f13 k_f14 k_f15 k_f16) ++ zt N kz) sz)) (va_Qv (fun (_ : Unit) => True) (fun _ t => ∃ (z_fs1 : Nat → Nat) (z_fs2 : Nat → Int32) (z_fs3 : Nat → Int32) (z_fs4 : Nat → Int32) (z_fs5 : Nat → Int32) (z_gfound : Nat) (z_gc : Nat) (z_gfull : Nat) (z_gx : Int32) (z_fz : Nat → Nat → Int32) (z_qs : Nat → Nat), pu_E (dC, dI) ((gt1__w g gz g1 g2 g3 g4 g5 (nI z_gc) (nI z_gfull) z_gx gway gav ggoal (nI z_gfound) 400 (nI gl) (nI gsz) g16 g17 k_fgz (zs o 401 az) k_fs1 (bN 7 z_fs1) k_fs2 z_fs2 k_fs3 z_fs3 k_fs4 z_fs4 k_fs5 z_fs5 k_fhi fhi k_flo flo au (nI nc) (nI np) (nI ne) st0 q4 q5 q6 q7 q8 q9 q10 q11 q12 q13 q14 q15 q16 k_f4 f4 k_f5 (bN 7 q_f5) k_f6 (bN 7 q_f6) k_f7 f7 k_f8 (bN 4 q_f8) k_f9 (bN 2 q_f9) k_f10 f10 k_f11 f11 k_f12 f12 k_f13 f13 k_f14 f14 k_f15 f15 k_f16 f16) ++ zp 5 25 N az ac kz z_qs z_fz) ((gt1__t k_fgz k_fs1 k_fs2 k_fs3 k_fs4 k_fs5 k_fhi k_flo k_f4 k_f5 k_f6 k_f7 k_f8 k_f9 k_f10 k_f11 k_f12 k_f13 k_f14 k_f15 k_f16) ++ zt N kz) (va_A (((gt1__w g gz g1 g2 g3 g4 g5 (nI gc) (nI gfull) gx gway gav ggoal (nI gfound) 400 (nI gl) (nI gsz) g16 g17 k_fgz (zs o 401 az) k_fs1 (bN 7 q_fs1) k_fs2 fs2 k_fs3 fs3 k_fs4 fs4 k_fs5 fs5 k_fhi fhi k_flo flo au (nI nc) (nI np) (nI ne) st0 q4 q5 q6 q7 q8 q9 q10 q11 q12 q13 q14 q15 q16 k_f4 f4 k_f5 (bN 7 q_f5) k_f6 (bN 7 q_f6) k_f7 f7 k_f8 (bN 4 q_f8) k_f9 (bN 2 q_f9) k_f10 f10 k_f11 f11 k_f12 f12 k_f13 f13 k_f14 f14 k_f15 f15 k_f16 f16) ++ zp 5 25 N az ac kz qs fz)) sz) t ∧ (z_gfound ≤ 1) ∧ (z_gc ≤ 400) ∧ (z_gfull ≤ 1) ∧ (gz_ok z_gc z_fs2 z_fs3 z_fs4) ∧ ((z_fs1, z_fs2, z_fs3, z_fs4, z_fs5, z_gfound, z_gc, z_gfull, z_gx, z_fz, z_qs) = (sp_E_1_grow_25 gc gfull gx gway gav ggoal gfound gl q_fs1 fs2 fs3 fs4 fs5 fhi flo nc ne f4 q_f5 q_f6 f7 q_f8 q_f9 f12 f13 o qs fz))) (va_A (((gt1__w g gz g1 g2 g3 g4 g5 (nI gc) (nI gfull) gx gway gav ggoal (nI gfound) 400 (nI gl) (nI gsz) g16 g17 k_fgz (zs o 401 az) k_fs1 (bN 7 q_fs1) k_fs2 fs2 k_fs3 fs3 k_fs4 fs4 k_fs5 fs5 k_fhi fhi k_flo flo au (nI nc) (nI np) (nI ne) st0 q4 q5 q6 q7 q8 q9 q10 q11 q12 q13 q14 q15 q16 k_f4 f4 k_f5 (bN 7 q_f5) k_f6 (bN 7 q_f6) k_f7 f7 k_f8 (bN 4 q_f8) k_f9 (bN 2 q_f9) k_f10 f10 k_f11 f11 k_f12 f12 k_f13 f13 k_f14 f14 k_f15 f15 k_f16 f16) ++ zp 5 25 N az ac kz qs fz)) sz)) 0 0 (va_A (((gt1__w g gz g1 g2 g3 g4 g5 (nI gc) (nI gfull) gx gway gav ggoal (nI gfound) 400 (nI gl) (nI gsz) g16 g17 k_fgz (zs o 401 az) k_fs1 (bN 7 q_fs1) k_fs2 fs2 k_fs3 fs3 k_fs4 fs4 k_fs5 fs5 k_fhi fhi k_flo flo au (nI nc) (nI np) (nI ne) st0 q4 q5 q6 q7 q8 q9 q10 q11 q12 q13 q14 q15 q16 k_f4 f4 k_f5 (bN 7 q_f5) k_f6 (bN 7 q_f6) k_f7 f7 k_f8 (bN 4 q_f8) k_f9 (bN 2 q_f9) k_f10 f10 k_f11 f11 k_f12 f12 k_f13 f13 k_f14 f14 k_f15 f15 k_f16 f16) ++ zp 5 25 N az ac kz qs fz)) sz) := by
  refine Met.ofW (cc := cX1_grow) (maxL := 4) (ret := none) (by decide) rfl ?_
  intro p e s m args below meth c s₁ B hml hv
  obtain ⟨rfl, rfl, hP, hK, hD0⟩ := hv
  have hx := B.exec
  have hb := B.bytes
  have hr := B.returns
  have hts := atoms_spec (ws := vs_E_1_grow_25) B.pre
  have v_1 := hts (.fieldLink RX1 79 "ClockReach$Graph" "count" "I") (List.mem_cons_of_mem _ cm_89)
  have v_2 := hts (.fieldLink RX1 62 "ClockReach$Graph" "found" "Z") (List.mem_cons_of_mem _ cm_81)
  have v_3 := hts (.fieldLink RX1 112 "ClockReach$Automaton" "edges" "I") (List.mem_cons_of_mem _ cm_121)
  have v_4 := hts (.fieldLink RX1 115 "ClockReach$Automaton" "sources" "[I") (List.mem_cons_of_mem _ cm_122)
  have v_5 := hts (.fieldLink RX1 24 "ClockReach$Graph" "sites" "[I") (List.mem_cons_of_mem _ cm_115)
  have v_6 := hts (.fieldLink RX1 118 "ClockReach$Automaton" "targets" "[I") (List.mem_cons_of_mem _ cm_123)
  have v_7 := hts (.fieldLink RX1 56 "ClockReach$Graph" "avoided" "I") (List.mem_cons_of_mem _ cm_79)
  have hown : s.vm.findClass RX1 = some m.cls := findClass_of_methodNamed B.named
  have hlocks := B.notSynchronized
  have hiX0 : ∀ w ∈ wsX00, w ∈ vs_E_1_grow_25 := fun _ h => List.mem_cons_of_mem _ (cm_X0 h)
  have hiX1 : ∀ w ∈ wsX10, w ∈ vs_E_1_grow_25 := fun _ h => List.mem_cons_of_mem _ (cm_X1 h)
  have hD := hD0.self (sz := s.heap.size)
  generalize hAe : va_A (((gt1__w g gz g1 g2 g3 g4 g5 (nI gc) (nI gfull) gx gway gav ggoal (nI gfound) 400 (nI gl) (nI gsz) g16 g17 k_fgz (zs o 401 az) k_fs1 (bN 7 q_fs1) k_fs2 fs2 k_fs3 fs3 k_fs4 fs4 k_fs5 fs5 k_fhi fhi k_flo flo au (nI nc) (nI np) (nI ne) st0 q4 q5 q6 q7 q8 q9 q10 q11 q12 q13 q14 q15 q16 k_f4 f4 k_f5 (bN 7 q_f5) k_f6 (bN 7 q_f6) k_f7 f7 k_f8 (bN 4 q_f8) k_f9 (bN 2 q_f9) k_f10 f10 k_f11 f11 k_f12 f12 k_f13 f13 k_f14 f14 k_f15 f15 k_f16 f16) ++ zp 5 25 N az ac kz qs fz)) s.heap.size = A at hD ⊢
  have hA : ∀ q : Nat, s.heap.size ≤ q → A q := fun q h => by rw [← hAe]; exact Or.inr h
  have hS : va_S A s.heap s.heap [] := va_S.rf
  have hl := lv_entry ([.ref g, .ref au]) (n := 4) (Nat.le_of_ble_eq_true rfl)
  rw [lg_entry_eq]
  generalize (lg_sl ([.ref g, .ref au]) ++ List.replicate (4 - (lg_sl ([.ref g, .ref au])).length) Slot.unset).toArray = ls at hl ⊢
  have hl : lv_has ls 4 [(0, .ref g), (1, .ref au)] := hl
  obtain ⟨RR, hRR⟩ : ∃ x, x = (sp_E_1_grow_25 gc gfull gx gway gav ggoal gfound gl q_fs1 fs2 fs3 fs4 fs5 fhi flo nc ne f4 q_f5 q_f6 f7 q_f8 q_f9 f12 f13 o qs fz) := ⟨_, rfl⟩
  have hsp := hRR
  refine lv_iconst (v := 0) hx hb eX1_grow_0 (by decide) ?_
  refine lv_istore_n (lv' := [(2, .int 0), (0, .ref g), (1, .ref au)]) hx hb eX1_grow_1 rfl hl (by decide) rfl (fun ls hl => ?_)
  obtain ⟨lf_28, dlf_28, hlf_28, hsp⟩ := itr_ex hsp
  delta sp_E_1_grow_25_L2 at hlf_28
  refine pu_while (fun nn H locs ls => ∃ (g_14 : Nat → Nat) (g_15 : Nat → Int32) (g_16 : Nat → Int32) (g_17 : Nat → Int32) (g_18 : Nat → Int32) (g_19 : Nat) (g_20 : Nat) (g_21 : Nat) (g_22 : Int32) (g_23 : Nat) (g_24 : Nat → Nat → Int32) (g_25 : Nat → Nat), nn = 400 - g_23 ∧ g_19 ≤ 1 ∧ g_20 ≤ 400 ∧ g_21 ≤ 1 ∧ g_23 ≤ 400 ∧ gz_ok g_20 g_15 g_16 g_17 ∧ RR = itrv dlf_28 lf_28 (g_14, g_15, g_16, g_17, g_18, g_19, g_20, g_21, g_22, g_23, g_24, g_25) ∧ va_P (dC, dI) vwCl ((gt1__w g gz g1 g2 g3 g4 g5 (nI g_20) (nI g_21) g_22 gway gav ggoal (nI g_19) 400 (nI gl) (nI gsz) g16 g17 k_fgz (zs o 401 az) k_fs1 (bN 7 g_14) k_fs2 g_15 k_fs3 g_16 k_fs4 g_17 k_fs5 g_18 k_fhi fhi k_flo flo au (nI nc) (nI np) (nI ne) st0 q4 q5 q6 q7 q8 q9 q10 q11 q12 q13 q14 q15 q16 k_f4 f4 k_f5 (bN 7 q_f5) k_f6 (bN 7 q_f6) k_f7 f7 k_f8 (bN 4 q_f8) k_f9 (bN 2 q_f9) k_f10 f10 k_f11 f11 k_f12 f12 k_f13 f13 k_f14 f14 k_f15 f15 k_f16 f16) ++ zp 5 25 N az ac kz g_25 g_24) H ∧ va_D A ((gt1__w g gz g1 g2 g3 g4 g5 (nI g_20) (nI g_21) g_22 gway gav ggoal (nI g_19) 400 (nI gl) (nI gsz) g16 g17 k_fgz (zs o 401 az) k_fs1 (bN 7 g_14) k_fs2 g_15 k_fs3 g_16 k_fs4 g_17 k_fs5 g_18 k_fhi fhi k_flo flo au (nI nc) (nI np) (nI ne) st0 q4 q5 q6 q7 q8 q9 q10 q11 q12 q13 q14 q15 q16 k_f4 f4 k_f5 (bN 7 q_f5) k_f6 (bN 7 q_f6) k_f7 f7 k_f8 (bN 4 q_f8) k_f9 (bN 2 q_f9) k_f10 f10 k_f11 f11 k_f12 f12 k_f13 f13 k_f14 f14 k_f15 f15 k_f16 f16) ++ zp 5 25 N az ac kz g_25 g_24) ∧ va_S A s.heap H locs ∧ lv_has ls 4 [(0, .ref g), (1, .ref au), (2, .int (nI g_23))]) 2 ?_ _ _ _ _ ⟨q_fs1, fs2, fs3, fs4, fs5, gfound, gc, gfull, gx, 0, fz, qs, rfl, hgfound, hgc, hgfull, (Nat.le_of_ble_eq_true rfl), by first | assumption | exact gz_0, hsp, hP, hD, hS, lv_sub hl [1, 2, 0] rfl⟩
  rintro nn ih_27 H locs ls ⟨g_14, g_15, g_16, g_17, g_18, g_19, g_20, g_21, g_22, g_23, g_24, g_25, rfl, hg_19, hg_20, hg_21, hg_23, he_26, he_30, hP, hD, hS, hl⟩
  obtain ⟨S_29, hsp, hin_31, hout_32⟩ := itr_step hlf_28 he_30
  refine lv_iload_n hx hb eX1_grow_2 rfl (lv_at hl 2 rfl) ?_
  refine lv_aload_n hx hb eX1_grow_3 rfl (lv_at hl 0 rfl) ?_
  refine va_get (D := (dC, dI)) (ci := 1) (v := .int (nI g_20)) (C := RX1) (T := TX1) (N := 18) hx hb hts hiX1 hown hK hP 0 rfl rfl 6 (by decide) v_1 (fun _ h9 => h9) rfl eX1_grow_4 ?_
  refine lv_icmp_ge (tgt := 81) hx hb eX1_grow_7 (by decide) (fun c_33 => ?_) (fun c_33 => ?_)
  · have c_33 : g_20 ≤ g_23 := (nI_leI (a := g_20) (b := g_23) (Nat.lt_of_le_of_lt hg_20 (Nat.le_of_ble_eq_true rfl)) (Nat.lt_of_le_of_lt hg_23 (Nat.le_of_ble_eq_true rfl))).mp c_33
    have hsp := hsp.trans (if_pos c_33)
    have hsp := hout_32 _ hsp
    exact W.vret hx hb hr (fun t ht hW => ⟨⟨(), rfl, trivial, ⟨g_14, g_15, g_16, g_17, g_18, g_19, g_20, g_21, g_22, g_24, g_25, ⟨by rw [ht]; exact hP, va_K.moved hW.alike hK, hD⟩, hg_19, hg_20, hg_21, by first | assumption | exact gz_0, (hsp.symm.trans hRR)⟩⟩, hS.F ht⟩) hS.2.2 eX1_grow_81
  · have c_33 : ¬ g_20 ≤ g_23 := fun z => c_33 ((nI_leI (a := g_20) (b := g_23) (Nat.lt_of_le_of_lt hg_20 (Nat.le_of_ble_eq_true rfl)) (Nat.lt_of_le_of_lt hg_23 (Nat.le_of_ble_eq_true rfl))).mpr z)
    have hsp := hsp.trans (if_neg c_33)
    refine lv_aload_n hx hb eX1_grow_10 rfl (lv_at hl 0 rfl) ?_
    refine va_get (D := (dC, dI)) (ci := 1) (v := .int (nI g_19)) (C := RX1) (T := TX1) (N := 18) hx hb hts hiX1 hown hK hP 0 rfl rfl 12 (by decide) v_2 (fun _ h9 => h9) rfl eX1_grow_11 ?_
    refine lv_if_ne (tgt := 81) hx hb eX1_grow_14 (by decide) (fun c_34 => ?_) (fun c_34 => ?_)
    · have c_34 : ¬ g_19 = 0 := fun z => c_34 ((nI_eq (a := g_19) (b := 0) (Nat.lt_of_le_of_lt hg_19 (Nat.le_of_ble_eq_true rfl)) (Nat.le_of_ble_eq_true rfl)).mpr z)
      have hsp := hsp.trans (if_neg c_34)
      have hsp := hout_32 _ hsp
      exact W.vret hx hb hr (fun t ht hW => ⟨⟨(), rfl, trivial, ⟨g_14, g_15, g_16, g_17, g_18, g_19, g_20, g_21, g_22, g_24, g_25, ⟨by rw [ht]; exact hP, va_K.moved hW.alike hK, hD⟩, hg_19, hg_20, hg_21, by first | assumption | exact gz_0, (hsp.symm.trans hRR)⟩⟩, hS.F ht⟩) hS.2.2 eX1_grow_81
    · have c_34 : g_19 = 0 := (nI_eq (a := g_19) (b := 0) (Nat.lt_of_le_of_lt hg_19 (Nat.le_of_ble_eq_true rfl)) (Nat.le_of_ble_eq_true rfl)).mp c_34
      have hsp := hsp.trans (if_pos c_34)
      refine lv_iconst (v := 0) hx hb eX1_grow_17 (by decide) ?_
      refine lv_istore_n (lv' := [(3, .int 0), (0, .ref g), (1, .ref au), (2, .int (nI g_23))]) hx hb eX1_grow_18 rfl hl (by decide) rfl (fun ls hl => ?_)
      obtain ⟨JR_50, hJR_50, hsp⟩ := slet_ex hsp
      refine pu_join (fun H locs ls st => ∃ (g_35 : Nat) (g_36 : Nat) (g_37 : Nat) (g_38 : Int32) (g_39 : Nat) (g_40 : Nat → Nat) (g_41 : Nat → Int32) (g_42 : Nat → Int32) (g_43 : Nat → Int32) (g_44 : Nat → Int32) (g_45 : Nat → Nat) (g_46 : Nat → Nat → Int32), st = [] ∧ g_35 ≤ 14 ∧ g_36 ≤ 400 ∧ g_37 ≤ 1 ∧ g_39 ≤ 1 ∧ gz_ok g_36 g_41 g_42 g_43 ∧ g_23 < g_36 ∧ (g_35, g_36, g_37, g_38, g_39, g_40, g_41, g_42, g_43, g_44, g_45, g_46) = JR_50 ∧ va_P (dC, dI) vwCl ((gt1__w g gz g1 g2 g3 g4 g5 (nI g_36) (nI g_37) g_38 gway gav ggoal (nI g_39) 400 (nI gl) (nI gsz) g16 g17 k_fgz (zs o 401 az) k_fs1 (bN 7 g_40) k_fs2 g_41 k_fs3 g_42 k_fs4 g_43 k_fs5 g_44 k_fhi fhi k_flo flo au (nI nc) (nI np) (nI ne) st0 q4 q5 q6 q7 q8 q9 q10 q11 q12 q13 q14 q15 q16 k_f4 f4 k_f5 (bN 7 q_f5) k_f6 (bN 7 q_f6) k_f7 f7 k_f8 (bN 4 q_f8) k_f9 (bN 2 q_f9) k_f10 f10 k_f11 f11 k_f12 f12 k_f13 f13 k_f14 f14 k_f15 f15 k_f16 f16) ++ zp 5 25 N az ac kz g_45 g_46) H ∧ va_D A ((gt1__w g gz g1 g2 g3 g4 g5 (nI g_36) (nI g_37) g_38 gway gav ggoal (nI g_39) 400 (nI gl) (nI gsz) g16 g17 k_fgz (zs o 401 az) k_fs1 (bN 7 g_40) k_fs2 g_41 k_fs3 g_42 k_fs4 g_43 k_fs5 g_44 k_fhi fhi k_flo flo au (nI nc) (nI np) (nI ne) st0 q4 q5 q6 q7 q8 q9 q10 q11 q12 q13 q14 q15 q16 k_f4 f4 k_f5 (bN 7 q_f5) k_f6 (bN 7 q_f6) k_f7 f7 k_f8 (bN 4 q_f8) k_f9 (bN 2 q_f9) k_f10 f10 k_f11 f11 k_f12 f12 k_f13 f13 k_f14 f14 k_f15 f15 k_f16 f16) ++ zp 5 25 N az ac kz g_45 g_46) ∧ va_S A s.heap H locs ∧ lv_has ls 4 [(0, .ref g), (1, .ref au), (2, .int (nI g_23)), (3, .int (nI g_35))]) 75 ?_ (fun j_49 => ?_)
      · rintro H locs ls st ⟨g_35, g_36, g_37, g_38, g_39, g_40, g_41, g_42, g_43, g_44, g_45, g_46, rfl, hg_35, hg_36, hg_37, hg_39, he_47, he_48, he_51, hP, hD, hS, hl⟩
        rw [← he_51] at hsp
        refine lv_iinc (v := (nI (g_23 + 1))) (lv' := [(2, .int (nI (g_23 + 1))), (0, .ref g), (1, .ref au), (3, .int (nI g_35))]) hx hb eX1_grow_75 hl (k := 2) rfl (nI_1 _) (by decide) rfl (fun ls hl => ?_)
        refine lv_goto (tgt := 2) hx hb eX1_grow_78 (by decide) ?_
        exact ih_27 (400 - (g_23 + 1)) (by omega) _ _ _ ⟨g_40, g_41, g_42, g_43, g_44, g_39, g_36, g_37, g_38, (g_23 + 1), g_46, g_45, rfl, hg_39, hg_36, hg_37, (by omega), by first | assumption | exact gz_0, hin_31 _ hsp, hP, hD, hS, lv_sub hl [1, 2, 0] rfl⟩
      have hsp := hJR_50
      obtain ⟨lf_81, dlf_81, hlf_81, hsp⟩ := itr_ex hsp
      delta sp_E_1_grow_25_L1 at hlf_81
      refine pu_while (fun nn H locs ls => ∃ (g_66 : Nat → Nat) (g_67 : Nat → Int32) (g_68 : Nat → Int32) (g_69 : Nat → Int32) (g_70 : Nat → Int32) (g_71 : Nat) (g_72 : Nat) (g_73 : Nat) (g_74 : Int32) (g_75 : Nat) (g_76 : Nat → Nat → Int32) (g_77 : Nat → Nat), nn = 14 - g_75 ∧ g_71 ≤ 1 ∧ g_72 ≤ 400 ∧ g_73 ≤ 1 ∧ g_75 ≤ 14 ∧ gz_ok g_72 g_67 g_68 g_69 ∧ g_23 < g_72 ∧ JR_50 = itrv dlf_81 lf_81 (g_66, g_67, g_68, g_69, g_70, g_71, g_72, g_73, g_74, g_75, g_76, g_77) ∧ va_P (dC, dI) vwCl ((gt1__w g gz g1 g2 g3 g4 g5 (nI g_72) (nI g_73) g_74 gway gav ggoal (nI g_71) 400 (nI gl) (nI gsz) g16 g17 k_fgz (zs o 401 az) k_fs1 (bN 7 g_66) k_fs2 g_67 k_fs3 g_68 k_fs4 g_69 k_fs5 g_70 k_fhi fhi k_flo flo au (nI nc) (nI np) (nI ne) st0 q4 q5 q6 q7 q8 q9 q10 q11 q12 q13 q14 q15 q16 k_f4 f4 k_f5 (bN 7 q_f5) k_f6 (bN 7 q_f6) k_f7 f7 k_f8 (bN 4 q_f8) k_f9 (bN 2 q_f9) k_f10 f10 k_f11 f11 k_f12 f12 k_f13 f13 k_f14 f14 k_f15 f15 k_f16 f16) ++ zp 5 25 N az ac kz g_77 g_76) H ∧ va_D A ((gt1__w g gz g1 g2 g3 g4 g5 (nI g_72) (nI g_73) g_74 gway gav ggoal (nI g_71) 400 (nI gl) (nI gsz) g16 g17 k_fgz (zs o 401 az) k_fs1 (bN 7 g_66) k_fs2 g_67 k_fs3 g_68 k_fs4 g_69 k_fs5 g_70 k_fhi fhi k_flo flo au (nI nc) (nI np) (nI ne) st0 q4 q5 q6 q7 q8 q9 q10 q11 q12 q13 q14 q15 q16 k_f4 f4 k_f5 (bN 7 q_f5) k_f6 (bN 7 q_f6) k_f7 f7 k_f8 (bN 4 q_f8) k_f9 (bN 2 q_f9) k_f10 f10 k_f11 f11 k_f12 f12 k_f13 f13 k_f14 f14 k_f15 f15 k_f16 f16) ++ zp 5 25 N az ac kz g_77 g_76) ∧ va_S A s.heap H locs ∧ lv_has ls 4 [(0, .ref g), (1, .ref au), (2, .int (nI g_23)), (3, .int (nI g_75))]) 19 ?_ _ _ _ _ ⟨g_14, g_15, g_16, g_17, g_18, g_19, g_20, g_21, g_22, 0, g_24, g_25, rfl, hg_19, hg_20, hg_21, (Nat.le_of_ble_eq_true rfl), by first | assumption | exact gz_0, by omega, hsp, hP, hD, hS, lv_sub hl [1, 2, 3, 0] rfl⟩
      rintro nn ih_80 H locs ls ⟨g_66, g_67, g_68, g_69, g_70, g_71, g_72, g_73, g_74, g_75, g_76, g_77, rfl, hg_71, hg_72, hg_73, hg_75, he_78, he_79, he_83, hP, hD, hS, hl⟩
      obtain ⟨S_82, hsp, hin_84, hout_85⟩ := itr_step hlf_81 he_83
      refine lv_iload_n hx hb eX1_grow_19 rfl (lv_at hl 3 rfl) ?_
      refine lv_aload_n hx hb eX1_grow_20 rfl (lv_at hl 1 rfl) ?_
      refine va_get (D := (dC, dI)) (ci := 0) (v := .int (nI ne)) (C := RX0) (T := TX0) (N := 17) hx hb hts hiX0 hown hK hP 9 rfl rfl 2 (by decide) v_3 (fun _ h9 => h9) rfl eX1_grow_21 ?_
      refine lv_icmp_ge (tgt := 75) hx hb eX1_grow_24 (by decide) (fun c_86 => ?_) (fun c_86 => ?_)
      · have c_86 : ne ≤ g_75 := (nI_leI (a := ne) (b := g_75) (Nat.lt_of_le_of_lt hne (Nat.le_of_ble_eq_true rfl)) (Nat.lt_of_le_of_lt hg_75 (Nat.le_of_ble_eq_true rfl))).mp c_86
        have hsp := hsp.trans (if_pos c_86)
        have hsp := hout_85 _ hsp
        exact j_49 _ _ _ _ ⟨g_75, g_72, g_73, g_74, g_71, g_66, g_67, g_68, g_69, g_70, g_77, g_76, rfl, hg_75, hg_72, hg_73, hg_71, by first | assumption | exact gz_0, by omega, hsp.symm, hP, hD, hS, lv_sub hl [0, 1, 2, 3] rfl⟩
      · have c_86 : ¬ ne ≤ g_75 := fun z => c_86 ((nI_leI (a := ne) (b := g_75) (Nat.lt_of_le_of_lt hne (Nat.le_of_ble_eq_true rfl)) (Nat.lt_of_le_of_lt hg_75 (Nat.le_of_ble_eq_true rfl))).mpr z)
        have hsp := hsp.trans (if_neg c_86)
        refine lv_aload_n hx hb eX1_grow_27 rfl (lv_at hl 0 rfl) ?_
        refine va_get (D := (dC, dI)) (ci := 1) (v := .int (nI g_71)) (C := RX1) (T := TX1) (N := 18) hx hb hts hiX1 hown hK hP 0 rfl rfl 12 (by decide) v_2 (fun _ h9 => h9) rfl eX1_grow_28 ?_
        refine lv_if_ne (tgt := 75) hx hb eX1_grow_31 (by decide) (fun c_87 => ?_) (fun c_87 => ?_)
        · have c_87 : ¬ g_71 = 0 := fun z => c_87 ((nI_eq (a := g_71) (b := 0) (Nat.lt_of_le_of_lt hg_71 (Nat.le_of_ble_eq_true rfl)) (Nat.le_of_ble_eq_true rfl)).mpr z)
          have hsp := hsp.trans (if_neg c_87)
          have hsp := hout_85 _ hsp
          exact j_49 _ _ _ _ ⟨g_75, g_72, g_73, g_74, g_71, g_66, g_67, g_68, g_69, g_70, g_77, g_76, rfl, hg_75, hg_72, hg_73, hg_71, by first | assumption | exact gz_0, by omega, hsp.symm, hP, hD, hS, lv_sub hl [0, 1, 2, 3] rfl⟩
        · have c_87 : g_71 = 0 := (nI_eq (a := g_71) (b := 0) (Nat.lt_of_le_of_lt hg_71 (Nat.le_of_ble_eq_true rfl)) (Nat.le_of_ble_eq_true rfl)).mp c_87
          have hsp := hsp.trans (if_pos c_87)
          refine lv_aload_n hx hb eX1_grow_34 rfl (lv_at hl 1 rfl) ?_
          refine va_get (D := (dC, dI)) (ci := 0) (v := .ref q5) (C := RX0) (T := TX0) (N := 17) hx hb hts hiX0 hown hK hP 9 rfl rfl 5 (by decide) v_4 (fun _ h9 => h9) rfl eX1_grow_35 ?_
          refine lv_iload_n hx hb eX1_grow_38 rfl (lv_at hl 3 rfl) ?_
          refine va_iald hx hb hK hP 11 9 rfl rfl (vp_in_nI (n := g_75) (by omega) (Nat.le_of_ble_eq_true rfl)) eX1_grow_39 ?_
          refine lv_topi (fun y_88 ey_88 => ?_)
          obtain ⟨u_89, hu_89, qu_89, xu_89⟩ := bN_getx 7 q_f5 (n := g_75) (Nat.lt_of_le_of_lt hg_75 (Nat.le_of_ble_eq_true rfl))
          obtain rfl : y_88 = nI u_89 := ey_88.trans qu_89
          have hsp := hsp.trans (slet_eq xu_89)
          refine lv_aload_n hx hb eX1_grow_40 rfl (lv_at hl 0 rfl) ?_
          refine va_get (D := (dC, dI)) (ci := 1) (v := .ref g1) (C := RX1) (T := TX1) (N := 18) hx hb hts hiX1 hown hK hP 0 rfl rfl 1 (by decide) v_5 (fun _ h9 => h9) rfl eX1_grow_41 ?_
          refine lv_iload_n hx hb eX1_grow_44 rfl (lv_at hl 2 rfl) ?_
          refine va_iald hx hb hK hP 2 1 rfl rfl (vp_in_nI (n := g_23) (by omega) (Nat.le_of_ble_eq_true rfl)) eX1_grow_45 ?_
          refine lv_topi (fun y_90 ey_90 => ?_)
          obtain ⟨u_91, hu_91, qu_91, xu_91⟩ := bN_getx 7 g_66 (n := g_23) (Nat.lt_of_le_of_lt hg_23 (Nat.le_of_ble_eq_true rfl))
          obtain rfl : y_90 = nI u_91 := ey_90.trans qu_91
          have hsp := hsp.trans (slet_eq xu_91)
          obtain ⟨JR_106, hJR_106, hsp⟩ := slet_ex hsp
          refine pu_join (fun H locs ls st => ∃ (g_92 : Nat) (g_93 : Nat) (g_94 : Int32) (g_95 : Nat) (g_96 : Nat → Nat) (g_97 : Nat → Int32) (g_98 : Nat → Int32) (g_99 : Nat → Int32) (g_100 : Nat → Int32) (g_101 : Nat → Nat) (g_102 : Nat → Nat → Int32), st = [] ∧ g_92 ≤ 400 ∧ g_93 ≤ 1 ∧ g_95 ≤ 1 ∧ gz_ok g_92 g_97 g_98 g_99 ∧ g_23 < g_92 ∧ (g_92, g_93, g_94, g_95, g_96, g_97, g_98, g_99, g_100, g_101, g_102) = JR_106 ∧ va_P (dC, dI) vwCl ((gt1__w g gz g1 g2 g3 g4 g5 (nI g_92) (nI g_93) g_94 gway gav ggoal (nI g_95) 400 (nI gl) (nI gsz) g16 g17 k_fgz (zs o 401 az) k_fs1 (bN 7 g_96) k_fs2 g_97 k_fs3 g_98 k_fs4 g_99 k_fs5 g_100 k_fhi fhi k_flo flo au (nI nc) (nI np) (nI ne) st0 q4 q5 q6 q7 q8 q9 q10 q11 q12 q13 q14 q15 q16 k_f4 f4 k_f5 (bN 7 q_f5) k_f6 (bN 7 q_f6) k_f7 f7 k_f8 (bN 4 q_f8) k_f9 (bN 2 q_f9) k_f10 f10 k_f11 f11 k_f12 f12 k_f13 f13 k_f14 f14 k_f15 f15 k_f16 f16) ++ zp 5 25 N az ac kz g_101 g_102) H ∧ va_D A ((gt1__w g gz g1 g2 g3 g4 g5 (nI g_92) (nI g_93) g_94 gway gav ggoal (nI g_95) 400 (nI gl) (nI gsz) g16 g17 k_fgz (zs o 401 az) k_fs1 (bN 7 g_96) k_fs2 g_97 k_fs3 g_98 k_fs4 g_99 k_fs5 g_100 k_fhi fhi k_flo flo au (nI nc) (nI np) (nI ne) st0 q4 q5 q6 q7 q8 q9 q10 q11 q12 q13 q14 q15 q16 k_f4 f4 k_f5 (bN 7 q_f5) k_f6 (bN 7 q_f6) k_f7 f7 k_f8 (bN 4 q_f8) k_f9 (bN 2 q_f9) k_f10 f10 k_f11 f11 k_f12 f12 k_f13 f13 k_f14 f14 k_f15 f15 k_f16 f16) ++ zp 5 25 N az ac kz g_101 g_102) ∧ va_S A s.heap H locs ∧ lv_has ls 4 [(0, .ref g), (1, .ref au), (2, .int (nI g_23)), (3, .int (nI g_75))]) 69 ?_ (fun j_105 => ?_)
          · rintro H locs ls st ⟨g_92, g_93, g_94, g_95, g_96, g_97, g_98, g_99, g_100, g_101, g_102, rfl, hg_92, hg_93, hg_95, he_103, he_104, he_107, hP, hD, hS, hl⟩
            rw [← he_107] at hsp
            refine lv_iinc (v := (nI (g_75 + 1))) (lv' := [(3, .int (nI (g_75 + 1))), (0, .ref g), (1, .ref au), (2, .int (nI g_23))]) hx hb eX1_grow_69 hl (k := 3) rfl (nI_1 _) (by decide) rfl (fun ls hl => ?_)
            refine lv_goto (tgt := 19) hx hb eX1_grow_72 (by decide) ?_
            exact ih_80 (14 - (g_75 + 1)) (by omega) _ _ _ ⟨g_96, g_97, g_98, g_99, g_100, g_95, g_92, g_93, g_94, (g_75 + 1), g_102, g_101, rfl, hg_95, hg_92, hg_93, (by omega), by first | assumption | exact gz_0, by omega, hin_84 _ hsp, hP, hD, hS, lv_sub hl [1, 2, 3, 0] rfl⟩
          have hsp := hJR_106
          refine lv_icmp_ne (tgt := 69) hx hb eX1_grow_46 (by decide) (fun c_108 => ?_) (fun c_108 => ?_)
          · have c_108 : ¬ u_89 = u_91 := fun z => c_108 ((nI_eq (a := u_89) (b := u_91) (Nat.lt_of_le_of_lt hu_89 (Nat.le_of_ble_eq_true rfl)) (Nat.lt_of_le_of_lt hu_91 (Nat.le_of_ble_eq_true rfl))).mpr z)
            have hsp := hsp.trans (if_neg c_108)
            exact j_105 _ _ _ _ ⟨g_72, g_73, g_74, g_71, g_66, g_67, g_68, g_69, g_70, g_77, g_76, rfl, hg_72, hg_73, hg_71, by first | assumption | exact gz_0, by omega, hsp.symm, hP, hD, hS, lv_sub hl [0, 1, 2, 3] rfl⟩
          · have c_108 : u_89 = u_91 := (nI_eq (a := u_89) (b := u_91) (Nat.lt_of_le_of_lt hu_89 (Nat.le_of_ble_eq_true rfl)) (Nat.lt_of_le_of_lt hu_91 (Nat.le_of_ble_eq_true rfl))).mp c_108
            have hsp := hsp.trans (if_pos c_108)
            refine lv_aload_n hx hb eX1_grow_49 rfl (lv_at hl 1 rfl) ?_
            refine va_get (D := (dC, dI)) (ci := 0) (v := .ref q6) (C := RX0) (T := TX0) (N := 17) hx hb hts hiX0 hown hK hP 9 rfl rfl 6 (by decide) v_6 (fun _ h9 => h9) rfl eX1_grow_50 ?_
            refine lv_iload_n hx hb eX1_grow_53 rfl (lv_at hl 3 rfl) ?_
            refine va_iald hx hb hK hP 12 10 rfl rfl (vp_in_nI (n := g_75) (by omega) (Nat.le_of_ble_eq_true rfl)) eX1_grow_54 ?_
            refine lv_topi (fun y_109 ey_109 => ?_)
            obtain ⟨u_110, hu_110, qu_110, xu_110⟩ := bN_getx 7 q_f6 (n := g_75) (Nat.lt_of_le_of_lt hg_75 (Nat.le_of_ble_eq_true rfl))
            obtain rfl : y_109 = nI u_110 := ey_109.trans qu_110
            have hsp := hsp.trans (slet_eq xu_110)
            refine lv_aload_n hx hb eX1_grow_55 rfl (lv_at hl 0 rfl) ?_
            refine va_get (D := (dC, dI)) (ci := 1) (v := .int gav) (C := RX1) (T := TX1) (N := 18) hx hb hts hiX1 hown hK hP 0 rfl rfl 10 (by decide) v_7 (fun _ h9 => h9) rfl eX1_grow_56 ?_
            refine lv_icmp_eq (tgt := 69) hx hb eX1_grow_59 (by decide) (fun c_111 => ?_) (fun c_111 => ?_)
            · have hcc_111 := c_111
              have hsp := hsp.trans (if_pos c_111)
              exact j_105 _ _ _ _ ⟨g_72, g_73, g_74, g_71, g_66, g_67, g_68, g_69, g_70, g_77, g_76, rfl, hg_72, hg_73, hg_71, by first | assumption | exact gz_0, by omega, hsp.symm, hP, hD, hS, lv_sub hl [0, 1, 2, 3] rfl⟩
            · have hcc_111 := c_111
              have hsp := hsp.trans (if_neg c_111)
              refine lv_aload_n hx hb eX1_grow_62 rfl (lv_at hl 0 rfl) ?_
              refine lv_aload_n hx hb eX1_grow_63 rfl (lv_at hl 1 rfl) ?_
              refine lv_iload_n hx hb eX1_grow_64 rfl (lv_at hl 2 rfl) ?_
              refine lv_iload_n hx hb eX1_grow_65 rfl (lv_at hl 3 rfl) ?_
              have hFc := pu_free hD hS hA
              refine va_callv (va_runV (As := [.ref au, .int (nI g_23), .int (nI g_75)]) (rest := []) ⟨hx, hb, hml, hown, hts⟩ (c_E_1_step_25 l dC dI _ g gz g1 g2 g3 g4 g5 g_72 g_73 g_74 gway gav ggoal g_71 gl gsz g16 g17 k_fgz k_fs1 g_66 k_fs2 g_67 k_fs3 g_68 k_fs4 g_69 k_fs5 g_70 k_fhi fhi k_flo flo au nc np ne st0 q4 q5 q6 q7 q8 q9 q10 q11 q12 q13 q14 q15 q16 k_f4 f4 k_f5 q_f5 k_f6 q_f6 k_f7 f7 k_f8 q_f8 k_f9 q_f9 k_f10 f10 k_f11 f11 k_f12 f12 k_f13 f13 k_f14 f14 k_f15 f15 k_f16 f16 N o az ac kz g_77 g_76 g_23 g_75 hg_72 hg_73 hg_71 hgl hgsz hnc hnp hne (hst0) (by omega) (by omega) (by omega) (by first | assumption | exact gz_0) (by omega)) (cwV 3 hts g_E_1_grow_25_E_1_step_25 rfl rfl rfl (by decide +kernel) ⟨Nat.le_of_ble_eq_true rfl, Nat.le_of_ble_eq_true rfl⟩) ⟨pu_bl, va_recv hK hP (ci := 1) (q0 := 0) rfl rfl, pu_in hP hK hD⟩ rfl rfl hl.1 rfl (lv_room (Nat.le_of_ble_eq_true rfl)) eX1_grow_66 ⟨Nat.le_of_ble_eq_true rfl, Nat.le_of_ble_eq_true rfl⟩) hS (fun q _ h => hFc q h) hFc (fun u t H1 locs ht hvm hw hB hz1 hk1 hS => ?_)
              obtain ⟨z_fs1_113, z_fs2_114, z_fs3_115, z_fs4_116, z_fs5_117, z_gfound_118, z_gc_119, z_gfull_120, z_gx_121, z_fz_122, z_qs_123, ⟨hP1, -, hD1⟩, hz_gfound_118, hz_gc_119, hz_gfull_120, xr_112_0, xr_112_1, xr_112_2⟩ := hB
              rw [ht] at hP1
              have hP := hP1
              have hD := pu_all hFc hD1
              clear hP1 hD1 hFc
              clear hk1 hz1 ht hvm
              generalize H1 = H at hP hS ⊢
              have hsp := hsp.trans (slet_eq xr_112_2)
              exact j_105 _ _ _ _ ⟨z_gc_119, z_gfull_120, z_gx_121, z_gfound_118, z_fs1_113, z_fs2_114, z_fs3_115, z_fs4_116, z_fs5_117, z_qs_123, z_fz_122, rfl, hz_gc_119, hz_gfull_120, hz_gfound_118, by first | assumption | exact gz_0, by omega, hsp.symm, hP, hD, hS, lv_sub hl [0, 1, 2, 3] rfl⟩
abbrev vs_E_1_firstAt_25 : List Cond := .code yX1_firstAt cX1_firstAt 3 (some .int) :: CM
noncomputable def sp_E_1_firstAt_25_L1 (gc : Nat) (q_fs1 : Nat → Nat) (p0 : Int32) : (Nat) → (Nat) ⊕ (Int32) := fun g_2 => (if gc ≤ g_2 then (Sum.inr (-1)) else (slet (min (q_fs1 g_2) 7) (fun u_11 => (if ((nI u_11) : Int32) = p0 then (Sum.inr (nI g_2)) else (Sum.inl (g_2 + 1))))))
noncomputable def sp_E_1_firstAt_25 (gc : Nat) (q_fs1 : Nat → Nat) (p0 : Int32) : Int32 := (itrv (α := Nat) (β := (Int32)) default (sp_E_1_firstAt_25_L1 gc q_fs1 p0) 0)
set_option maxHeartbeats 4000000 in
set_option maxRecDepth 100000 in
theorem c_E_1_firstAt_25 (l : Launch) (dC : Nat → ClassId) (dI : Nat → Nat → Nat) (sz : Nat) (g : Nat) (gz : Nat) (g1 : Nat) (g2 : Nat) (g3 : Nat) (g4 : Nat) (g5 : Nat) (gc : Nat) (gfull : Nat) (gx : Int32) (gway : Int32) (gav : Int32) (ggoal : Int32) (gfound : Nat) (gl : Nat) (gsz : Nat) (g16 : Nat) (g17 : Nat) (k_fgz : ClassId) (k_fs1 : ClassId) (q_fs1 : Nat → Nat) (k_fs2 : ClassId) (fs2 : Nat → Int32) (k_fs3 : ClassId) (fs3 : Nat → Int32) (k_fs4 : ClassId) (fs4 : Nat → Int32) (k_fs5 : ClassId) (fs5 : Nat → Int32) (k_fhi : ClassId) (fhi : Nat → Int32) (k_flo : ClassId) (flo : Nat → Int32) (N : Nat) (o : Nat) (az ac : Nat → Nat) (kz : Nat → ClassId) (qs : Nat → Nat) (fz : Nat → Nat → Int32) (p0 : Int32) (hgc : gc ≤ 400) (hgfull : gfull ≤ 1) (hgfound : gfound ≤ 1) (hgl : gl ≤ 1) (hgsz : gsz ≤ 5) (hN : o + 401 ≤ N) : Met l yX1_firstAt vs_E_1_firstAt_25 ({ frames := 0, cells := 0, slots := 0, locals := 0 }) (va_Pc [.ref g, .int p0] (pu_B (dC, dI) ((gt0__w g gz g1 g2 g3 g4 g5 (nI gc) (nI gfull) gx gway gav ggoal (nI gfound) 400 (nI gl) (nI gsz) g16 g17 k_fgz (zs o 401 az) k_fs1 (bN 7 q_fs1) k_fs2 fs2 k_fs3 fs3 k_fs4 fs4 k_fs5 fs5 k_fhi fhi k_flo flo) ++ zp 5 25 N az ac kz qs fz) ((gt0__t k_fgz k_fs1 k_fs2 k_fs3 k_fs4 k_fs5 k_fhi k_flo) ++ zt N kz) sz)) (va_Qi (fun (r : Int32) (_ : Unit) => r = (sp_E_1_firstAt_25 gc q_fs1 p0)) (fun _ _ => True) (va_A [] sz)) 0 0 (va_A [] sz) := by
  refine Met.ofW (cc := cX1_firstAt) (maxL := 3) (ret := (some .int)) (by decide) rfl ?_
  intro p e s m args below meth c s₁ B hml hv
  obtain ⟨rfl, rfl, hP, hK, hD0⟩ := hv
  have hx := B.exec
  have hb := B.bytes
  have hr := B.returns
  have hts := atoms_spec (ws := vs_E_1_firstAt_25) B.pre
  have v_1 := hts (.fieldLink RX1 79 "ClockReach$Graph" "count" "I") (List.mem_cons_of_mem _ cm_89)
  have v_2 := hts (.fieldLink RX1 24 "ClockReach$Graph" "sites" "[I") (List.mem_cons_of_mem _ cm_115)
  have hown : s.vm.findClass RX1 = some m.cls := findClass_of_methodNamed B.named
  have hlocks := B.notSynchronized
  have hiX1 : ∀ w ∈ wsX10, w ∈ vs_E_1_firstAt_25 := fun _ h => List.mem_cons_of_mem _ (cm_X1 h)
  have hD := hD0
  have hA : ∀ q : Nat, s.heap.size ≤ q → va_A [] s.heap.size q := fun _ h => Or.inr h
  have hS : va_S (va_A [] s.heap.size) s.heap s.heap [] := va_S.rf
  have hl := lv_entry ([.ref g, .int p0]) (n := 3) (Nat.le_of_ble_eq_true rfl)
  rw [lg_entry_eq]
  generalize (lg_sl ([.ref g, .int p0]) ++ List.replicate (3 - (lg_sl ([.ref g, .int p0])).length) Slot.unset).toArray = ls at hl ⊢
  have hl : lv_has ls 3 [(0, .ref g), (1, .int p0)] := hl
  obtain ⟨RR, hRR⟩ : ∃ x, x = (sp_E_1_firstAt_25 gc q_fs1 p0) := ⟨_, rfl⟩
  have hsp := hRR
  refine lv_iconst (v := 0) hx hb eX1_firstAt_0 (by decide) ?_
  refine lv_istore_n (lv' := [(2, .int 0), (0, .ref g), (1, .int p0)]) hx hb eX1_firstAt_1 rfl hl (by decide) rfl (fun ls hl => ?_)
  obtain ⟨lf_4, dlf_4, hlf_4, hsp⟩ := itr_ex hsp
  delta sp_E_1_firstAt_25_L1 at hlf_4
  refine pu_while (fun nn H locs ls => ∃ (g_2 : Nat), nn = 400 - g_2 ∧ g_2 ≤ 400 ∧ RR = itrv dlf_4 lf_4 g_2 ∧ va_P (dC, dI) vwCl ((gt0__w g gz g1 g2 g3 g4 g5 (nI gc) (nI gfull) gx gway gav ggoal (nI gfound) 400 (nI gl) (nI gsz) g16 g17 k_fgz (zs o 401 az) k_fs1 (bN 7 q_fs1) k_fs2 fs2 k_fs3 fs3 k_fs4 fs4 k_fs5 fs5 k_fhi fhi k_flo flo) ++ zp 5 25 N az ac kz qs fz) H ∧ va_D (fun _ => True) ((gt0__w g gz g1 g2 g3 g4 g5 (nI gc) (nI gfull) gx gway gav ggoal (nI gfound) 400 (nI gl) (nI gsz) g16 g17 k_fgz (zs o 401 az) k_fs1 (bN 7 q_fs1) k_fs2 fs2 k_fs3 fs3 k_fs4 fs4 k_fs5 fs5 k_fhi fhi k_flo flo) ++ zp 5 25 N az ac kz qs fz) ∧ va_S (va_A [] s.heap.size) s.heap H locs ∧ lv_has ls 3 [(0, .ref g), (1, .int p0), (2, .int (nI g_2))]) 2 ?_ _ _ _ _ ⟨0, rfl, (Nat.le_of_ble_eq_true rfl), hsp, hP, hD, hS, lv_sub hl [1, 2, 0] rfl⟩
  rintro nn ih_3 H locs ls ⟨g_2, rfl, hg_2, he_6, hP, hD, hS, hl⟩
  obtain ⟨S_5, hsp, hin_7, hout_8⟩ := itr_step hlf_4 he_6
  refine lv_iload_n hx hb eX1_firstAt_2 rfl (lv_at hl 2 rfl) ?_
  refine lv_aload_n hx hb eX1_firstAt_3 rfl (lv_at hl 0 rfl) ?_
  refine va_get (D := (dC, dI)) (ci := 1) (v := .int (nI gc)) (C := RX1) (T := TX1) (N := 18) hx hb hts hiX1 hown hK hP 0 rfl rfl 6 (by decide) v_1 (fun _ h9 => h9) rfl eX1_firstAt_4 ?_
  refine lv_icmp_ge (tgt := 28) hx hb eX1_firstAt_7 (by decide) (fun c_9 => ?_) (fun c_9 => ?_)
  · have c_9 : gc ≤ g_2 := (nI_leI (a := gc) (b := g_2) (Nat.lt_of_le_of_lt hgc (Nat.le_of_ble_eq_true rfl)) (Nat.lt_of_le_of_lt hg_2 (Nat.le_of_ble_eq_true rfl))).mp c_9
    have hsp := hsp.trans (if_pos c_9)
    have hsp := hout_8 _ hsp
    refine lv_iconst (v := (-1)) hx hb eX1_firstAt_28 (by decide) ?_
    exact W.iret (v := (-1)) hx hb hr (fun t ht hW => ⟨⟨(-1), (), rfl, (hsp.symm.trans hRR), trivial⟩, hS.F ht⟩) hS.2.2 eX1_firstAt_29
  · have c_9 : ¬ gc ≤ g_2 := fun z => c_9 ((nI_leI (a := gc) (b := g_2) (Nat.lt_of_le_of_lt hgc (Nat.le_of_ble_eq_true rfl)) (Nat.lt_of_le_of_lt hg_2 (Nat.le_of_ble_eq_true rfl))).mpr z)
    have hsp := hsp.trans (if_neg c_9)
    refine lv_aload_n hx hb eX1_firstAt_10 rfl (lv_at hl 0 rfl) ?_
    refine va_get (D := (dC, dI)) (ci := 1) (v := .ref g1) (C := RX1) (T := TX1) (N := 18) hx hb hts hiX1 hown hK hP 0 rfl rfl 1 (by decide) v_2 (fun _ h9 => h9) rfl eX1_firstAt_11 ?_
    refine lv_iload_n hx hb eX1_firstAt_14 rfl (lv_at hl 2 rfl) ?_
    refine va_iald hx hb hK hP 2 1 rfl rfl (vp_in_nI (n := g_2) (by omega) (Nat.le_of_ble_eq_true rfl)) eX1_firstAt_15 ?_
    refine lv_topi (fun y_10 ey_10 => ?_)
    obtain ⟨u_11, hu_11, qu_11, xu_11⟩ := bN_getx 7 q_fs1 (n := g_2) (Nat.lt_of_le_of_lt hg_2 (Nat.le_of_ble_eq_true rfl))
    obtain rfl : y_10 = nI u_11 := ey_10.trans qu_11
    have hsp := hsp.trans (slet_eq xu_11)
    refine lv_iload_n hx hb eX1_firstAt_16 rfl (lv_at hl 1 rfl) ?_
    refine lv_icmp_ne (tgt := 22) hx hb eX1_firstAt_17 (by decide) (fun c_12 => ?_) (fun c_12 => ?_)
    · have hcc_12 := c_12
      have hsp := hsp.trans (if_neg c_12)
      refine lv_iinc (v := (nI (g_2 + 1))) (lv' := [(2, .int (nI (g_2 + 1))), (0, .ref g), (1, .int p0)]) hx hb eX1_firstAt_22 hl (k := 2) rfl (nI_1 _) (by decide) rfl (fun ls hl => ?_)
      refine lv_goto (tgt := 2) hx hb eX1_firstAt_25 (by decide) ?_
      exact ih_3 (400 - (g_2 + 1)) (by omega) _ _ _ ⟨(g_2 + 1), rfl, (by omega), hin_7 _ hsp, hP, hD, hS, lv_sub hl [1, 2, 0] rfl⟩
    · have hcc_12 := c_12
      have hsp := hsp.trans (if_pos c_12)
      have hsp := hout_8 _ hsp
      refine lv_iload_n hx hb eX1_firstAt_20 rfl (lv_at hl 2 rfl) ?_
      exact W.iret (v := (nI g_2)) hx hb hr (fun t ht hW => ⟨⟨(nI g_2), (), rfl, (hsp.symm.trans hRR), trivial⟩, hS.F ht⟩) hS.2.2 eX1_firstAt_21
abbrev vs_E_1_allSites_25 : List Cond := .code yX1_allSites cX1_allSites 3 (some .int) :: CM
noncomputable def sp_E_1_allSites_25_L1 (gc : Nat) (q_fs1 : Nat → Nat) : (Int32 × Nat) → (Int32 × Nat) ⊕ (Int32) := fun (g_3, g_4) => (if gc ≤ g_4 then (Sum.inr g_3) else (slet (min (q_fs1 g_4) 7) (fun u_13 => (slet ((1 : Int32) <<< (((nI u_13) : Int32) &&& 31)) (fun y_14 => (slet ((g_3 : Int32) ||| (y_14 : Int32)) (fun y_15 => (Sum.inl (y_15, (g_4 + 1))))))))))
noncomputable def sp_E_1_allSites_25 (gc : Nat) (q_fs1 : Nat → Nat) : Int32 := (itrv (α := Int32 × Nat) (β := (Int32)) default (sp_E_1_allSites_25_L1 gc q_fs1) (0, 0))
set_option maxHeartbeats 4000000 in
set_option maxRecDepth 100000 in
theorem c_E_1_allSites_25 (l : Launch) (dC : Nat → ClassId) (dI : Nat → Nat → Nat) (sz : Nat) (g : Nat) (gz : Nat) (g1 : Nat) (g2 : Nat) (g3 : Nat) (g4 : Nat) (g5 : Nat) (gc : Nat) (gfull : Nat) (gx : Int32) (gway : Int32) (gav : Int32) (ggoal : Int32) (gfound : Nat) (gl : Nat) (gsz : Nat) (g16 : Nat) (g17 : Nat) (k_fgz : ClassId) (k_fs1 : ClassId) (q_fs1 : Nat → Nat) (k_fs2 : ClassId) (fs2 : Nat → Int32) (k_fs3 : ClassId) (fs3 : Nat → Int32) (k_fs4 : ClassId) (fs4 : Nat → Int32) (k_fs5 : ClassId) (fs5 : Nat → Int32) (k_fhi : ClassId) (fhi : Nat → Int32) (k_flo : ClassId) (flo : Nat → Int32) (N : Nat) (o : Nat) (az ac : Nat → Nat) (kz : Nat → ClassId) (qs : Nat → Nat) (fz : Nat → Nat → Int32) (hgc : gc ≤ 400) (hgfull : gfull ≤ 1) (hgfound : gfound ≤ 1) (hgl : gl ≤ 1) (hgsz : gsz ≤ 5) (hN : o + 401 ≤ N) : Met l yX1_allSites vs_E_1_allSites_25 ({ frames := 0, cells := 0, slots := 0, locals := 0 }) (va_Pc [.ref g] (pu_B (dC, dI) ((gt0__w g gz g1 g2 g3 g4 g5 (nI gc) (nI gfull) gx gway gav ggoal (nI gfound) 400 (nI gl) (nI gsz) g16 g17 k_fgz (zs o 401 az) k_fs1 (bN 7 q_fs1) k_fs2 fs2 k_fs3 fs3 k_fs4 fs4 k_fs5 fs5 k_fhi fhi k_flo flo) ++ zp 5 25 N az ac kz qs fz) ((gt0__t k_fgz k_fs1 k_fs2 k_fs3 k_fs4 k_fs5 k_fhi k_flo) ++ zt N kz) sz)) (va_Qi (fun (r : Int32) (_ : Unit) => r = (sp_E_1_allSites_25 gc q_fs1)) (fun _ _ => True) (va_A [] sz)) 0 0 (va_A [] sz) := by
  refine Met.ofW (cc := cX1_allSites) (maxL := 3) (ret := (some .int)) (by decide) rfl ?_
  intro p e s m args below meth c s₁ B hml hv
  obtain ⟨rfl, rfl, hP, hK, hD0⟩ := hv
  have hx := B.exec
  have hb := B.bytes
  have hr := B.returns
  have hts := atoms_spec (ws := vs_E_1_allSites_25) B.pre
  have v_1 := hts (.fieldLink RX1 79 "ClockReach$Graph" "count" "I") (List.mem_cons_of_mem _ cm_89)
  have v_2 := hts (.fieldLink RX1 24 "ClockReach$Graph" "sites" "[I") (List.mem_cons_of_mem _ cm_115)
  have hown : s.vm.findClass RX1 = some m.cls := findClass_of_methodNamed B.named
  have hlocks := B.notSynchronized
  have hiX1 : ∀ w ∈ wsX10, w ∈ vs_E_1_allSites_25 := fun _ h => List.mem_cons_of_mem _ (cm_X1 h)
  have hD := hD0
  have hA : ∀ q : Nat, s.heap.size ≤ q → va_A [] s.heap.size q := fun _ h => Or.inr h
  have hS : va_S (va_A [] s.heap.size) s.heap s.heap [] := va_S.rf
  have hl := lv_entry ([.ref g]) (n := 3) (Nat.le_of_ble_eq_true rfl)
  rw [lg_entry_eq]
  generalize (lg_sl ([.ref g]) ++ List.replicate (3 - (lg_sl ([.ref g])).length) Slot.unset).toArray = ls at hl ⊢
  have hl : lv_has ls 3 [(0, .ref g)] := hl
  obtain ⟨RR, hRR⟩ : ∃ x, x = (sp_E_1_allSites_25 gc q_fs1) := ⟨_, rfl⟩
  have hsp := hRR
  refine lv_iconst (v := 0) hx hb eX1_allSites_0 (by decide) ?_
  refine lv_istore_n (lv' := [(1, .int 0), (0, .ref g)]) hx hb eX1_allSites_1 rfl hl (by decide) rfl (fun ls hl => ?_)
  refine lv_iconst (v := 0) hx hb eX1_allSites_2 (by decide) ?_
  refine lv_istore_n (lv' := [(2, .int 0), (1, .int 0), (0, .ref g)]) hx hb eX1_allSites_3 rfl hl (by decide) rfl (fun ls hl => ?_)
  obtain ⟨lf_6, dlf_6, hlf_6, hsp⟩ := itr_ex hsp
  delta sp_E_1_allSites_25_L1 at hlf_6
  refine pu_while (fun nn H locs ls => ∃ (g_3 : Int32) (g_4 : Nat), nn = 400 - g_4 ∧ g_4 ≤ 400 ∧ RR = itrv dlf_6 lf_6 (g_3, g_4) ∧ va_P (dC, dI) vwCl ((gt0__w g gz g1 g2 g3 g4 g5 (nI gc) (nI gfull) gx gway gav ggoal (nI gfound) 400 (nI gl) (nI gsz) g16 g17 k_fgz (zs o 401 az) k_fs1 (bN 7 q_fs1) k_fs2 fs2 k_fs3 fs3 k_fs4 fs4 k_fs5 fs5 k_fhi fhi k_flo flo) ++ zp 5 25 N az ac kz qs fz) H ∧ va_D (fun _ => True) ((gt0__w g gz g1 g2 g3 g4 g5 (nI gc) (nI gfull) gx gway gav ggoal (nI gfound) 400 (nI gl) (nI gsz) g16 g17 k_fgz (zs o 401 az) k_fs1 (bN 7 q_fs1) k_fs2 fs2 k_fs3 fs3 k_fs4 fs4 k_fs5 fs5 k_fhi fhi k_flo flo) ++ zp 5 25 N az ac kz qs fz) ∧ va_S (va_A [] s.heap.size) s.heap H locs ∧ lv_has ls 3 [(0, .ref g), (1, .int g_3), (2, .int (nI g_4))]) 4 ?_ _ _ _ _ ⟨0, 0, rfl, (Nat.le_of_ble_eq_true rfl), hsp, hP, hD, hS, lv_sub hl [2, 1, 0] rfl⟩
  rintro nn ih_5 H locs ls ⟨g_3, g_4, rfl, hg_4, he_8, hP, hD, hS, hl⟩
  obtain ⟨S_7, hsp, hin_9, hout_10⟩ := itr_step hlf_6 he_8
  refine lv_iload_n hx hb eX1_allSites_4 rfl (lv_at hl 2 rfl) ?_
  refine lv_aload_n hx hb eX1_allSites_5 rfl (lv_at hl 0 rfl) ?_
  refine va_get (D := (dC, dI)) (ci := 1) (v := .int (nI gc)) (C := RX1) (T := TX1) (N := 18) hx hb hts hiX1 hown hK hP 0 rfl rfl 6 (by decide) v_1 (fun _ h9 => h9) rfl eX1_allSites_6 ?_
  refine lv_icmp_ge (tgt := 29) hx hb eX1_allSites_9 (by decide) (fun c_11 => ?_) (fun c_11 => ?_)
  · have c_11 : gc ≤ g_4 := (nI_leI (a := gc) (b := g_4) (Nat.lt_of_le_of_lt hgc (Nat.le_of_ble_eq_true rfl)) (Nat.lt_of_le_of_lt hg_4 (Nat.le_of_ble_eq_true rfl))).mp c_11
    have hsp := hsp.trans (if_pos c_11)
    have hsp := hout_10 _ hsp
    refine lv_iload_n hx hb eX1_allSites_29 rfl (lv_at hl 1 rfl) ?_
    exact W.iret (v := g_3) hx hb hr (fun t ht hW => ⟨⟨g_3, (), rfl, (hsp.symm.trans hRR), trivial⟩, hS.F ht⟩) hS.2.2 eX1_allSites_30
  · have c_11 : ¬ gc ≤ g_4 := fun z => c_11 ((nI_leI (a := gc) (b := g_4) (Nat.lt_of_le_of_lt hgc (Nat.le_of_ble_eq_true rfl)) (Nat.lt_of_le_of_lt hg_4 (Nat.le_of_ble_eq_true rfl))).mpr z)
    have hsp := hsp.trans (if_neg c_11)
    refine lv_iload_n hx hb eX1_allSites_12 rfl (lv_at hl 1 rfl) ?_
    refine lv_iconst (v := 1) hx hb eX1_allSites_13 (by decide) ?_
    refine lv_aload_n hx hb eX1_allSites_14 rfl (lv_at hl 0 rfl) ?_
    refine va_get (D := (dC, dI)) (ci := 1) (v := .ref g1) (C := RX1) (T := TX1) (N := 18) hx hb hts hiX1 hown hK hP 0 rfl rfl 1 (by decide) v_2 (fun _ h9 => h9) rfl eX1_allSites_15 ?_
    refine lv_iload_n hx hb eX1_allSites_18 rfl (lv_at hl 2 rfl) ?_
    refine va_iald hx hb hK hP 2 1 rfl rfl (vp_in_nI (n := g_4) (by omega) (Nat.le_of_ble_eq_true rfl)) eX1_allSites_19 ?_
    refine lv_topi (fun y_12 ey_12 => ?_)
    obtain ⟨u_13, hu_13, qu_13, xu_13⟩ := bN_getx 7 q_fs1 (n := g_4) (Nat.lt_of_le_of_lt hg_4 (Nat.le_of_ble_eq_true rfl))
    obtain rfl : y_12 = nI u_13 := ey_12.trans qu_13
    have hsp := hsp.trans (slet_eq xu_13)
    refine lv_ishl hx hb eX1_allSites_20 ?_
    refine lv_topi (fun y_14 ey_14 => ?_)
    have hsp := hsp.trans (slet_eq ey_14)
    refine lv_ior hx hb eX1_allSites_21 ?_
    refine lv_topi (fun y_15 ey_15 => ?_)
    have hsp := hsp.trans (slet_eq ey_15)
    refine lv_istore_n (lv' := [(1, .int y_15), (0, .ref g), (2, .int (nI g_4))]) hx hb eX1_allSites_22 rfl hl (by decide) rfl (fun ls hl => ?_)
    refine lv_iinc (v := (nI (g_4 + 1))) (lv' := [(2, .int (nI (g_4 + 1))), (1, .int y_15), (0, .ref g)]) hx hb eX1_allSites_23 hl (k := 2) rfl (nI_1 _) (by decide) rfl (fun ls hl => ?_)
    refine lv_goto (tgt := 4) hx hb eX1_allSites_26 (by decide) ?_
    exact ih_5 (400 - (g_4 + 1)) (by omega) _ _ _ ⟨y_15, (g_4 + 1), rfl, (by omega), hin_9 _ hsp, hP, hD, hS, lv_sub hl [2, 1, 0] rfl⟩
