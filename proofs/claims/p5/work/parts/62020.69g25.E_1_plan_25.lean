abbrev vs_E_1_plan_25 : List Cond := .code yX1_plan cX1_plan 6 none :: CM
noncomputable def sp_E_1_plan_25_L1 (p1 : Int32) (a2 : Nat) (a3 : Nat) : ((Nat → Int32) × (Nat → Int32) × Nat) → ((Nat → Int32) × (Nat → Int32) × Nat) ⊕ ((Nat → Int32) × (Nat → Int32) × Int32 × Int32 × Nat × Nat × Nat × Int32) := fun (g_18, g_19, g_20) => (if a3 ≤ g_20 then (Sum.inr (g_18, g_19, (-1), (-1), 0, a2, a3, p1)) else (slet (upd g_18 g_20 0) (fun f_28 => (slet (upd g_19 g_20 60) (fun f_29 => (Sum.inl (f_28, f_29, (g_20 + 1))))))))
noncomputable def sp_E_1_plan_25_L2 (nc : Nat) (f14 : Nat → Int32) (f15 : Nat → Int32) (f16 : Nat → Int32) (p1 : Int32) (a2 : Nat) (a3 : Nat) : ((Nat → Int32) × (Nat → Int32) × Nat) → ((Nat → Int32) × (Nat → Int32) × Nat) ⊕ ((Nat → Int32) × (Nat → Int32) × Int32 × Int32 × Nat × Nat × Nat × Int32) := fun (g_4, g_5, g_6) => (if nc < g_6 then (Sum.inr (itrv (α := (Nat → Int32) × (Nat → Int32) × Nat) (β := ((Nat → Int32) × (Nat → Int32) × Int32 × Int32 × Nat × Nat × Nat × Int32)) default (sp_E_1_plan_25_L1 p1 a2 a3) (g_4, g_5, (nc + 1)))) else (slet (α := Int32) (if (p1 : Int32) = 1 then (slet (f14 g_6) (fun y_45 => y_45)) else (slet (f15 g_6) (fun y_44 => y_44))) (fun g_30 => (slet (upd g_4 g_6 g_30) (fun f_34 => (slet (α := Int32) (if (p1 : Int32) = 1 then (slet (f14 g_6) (fun y_42 => y_42)) else (slet (f16 g_6) (fun y_41 => y_41))) (fun g_35 => (slet (upd g_5 g_6 g_35) (fun f_39 => (Sum.inl (f_34, f_39, (g_6 + 1))))))))))))
noncomputable def sp_E_1_plan_25 (fhi : Nat → Int32) (flo : Nat → Int32) (nc : Nat) (f14 : Nat → Int32) (f15 : Nat → Int32) (f16 : Nat → Int32) (p1 : Int32) (a2 : Nat) (a3 : Nat) : (Nat → Int32) × (Nat → Int32) × Int32 × Int32 × Nat × Nat × Nat × Int32 := (itrv (α := (Nat → Int32) × (Nat → Int32) × Nat) (β := ((Nat → Int32) × (Nat → Int32) × Int32 × Int32 × Nat × Nat × Nat × Int32)) default (sp_E_1_plan_25_L2 nc f14 f15 f16 p1 a2 a3) (fhi, flo, 0))
set_option maxHeartbeats 4000000 in
set_option maxRecDepth 100000 in
theorem c_E_1_plan_25 (l : Launch) (dC : Nat → ClassId) (dI : Nat → Nat → Nat) (sz : Nat) (g : Nat) (gz : Nat) (g1 : Nat) (g2 : Nat) (g3 : Nat) (g4 : Nat) (g5 : Nat) (gc : Nat) (gfull : Nat) (gx : Int32) (gway : Int32) (gav : Int32) (ggoal : Int32) (gfound : Nat) (gl : Nat) (gsz : Nat) (g16 : Nat) (g17 : Nat) (k_fgz : ClassId) (k_fs1 : ClassId) (q_fs1 : Nat → Nat) (k_fs2 : ClassId) (fs2 : Nat → Int32) (k_fs3 : ClassId) (fs3 : Nat → Int32) (k_fs4 : ClassId) (fs4 : Nat → Int32) (k_fs5 : ClassId) (fs5 : Nat → Int32) (k_fhi : ClassId) (fhi : Nat → Int32) (k_flo : ClassId) (flo : Nat → Int32) (au : Nat) (nc : Nat) (np : Nat) (ne : Nat) (st0 : Int32) (q4 : Nat) (q5 : Nat) (q6 : Nat) (q7 : Nat) (q8 : Nat) (q9 : Nat) (q10 : Nat) (q11 : Nat) (q12 : Nat) (q13 : Nat) (q14 : Nat) (q15 : Nat) (q16 : Nat) (k_f4 : ClassId) (f4 : Nat → Int32) (k_f5 : ClassId) (q_f5 : Nat → Nat) (k_f6 : ClassId) (q_f6 : Nat → Nat) (k_f7 : ClassId) (f7 : Nat → Int32) (k_f8 : ClassId) (q_f8 : Nat → Nat) (k_f9 : ClassId) (q_f9 : Nat → Nat) (k_f10 : ClassId) (f10 : Nat → Int32) (k_f11 : ClassId) (f11 : Nat → Int32) (k_f12 : ClassId) (f12 : Nat → Int32) (k_f13 : ClassId) (f13 : Nat → Int32) (k_f14 : ClassId) (f14 : Nat → Int32) (k_f15 : ClassId) (f15 : Nat → Int32) (k_f16 : ClassId) (f16 : Nat → Int32) (N : Nat) (o : Nat) (az ac : Nat → Nat) (kz : Nat → ClassId) (qs : Nat → Nat) (fz : Nat → Nat → Int32) (p1 : Int32) (a2 : Nat) (a3 : Nat) (hgc : gc ≤ 400) (hgfull : gfull ≤ 1) (hgfound : gfound ≤ 1) (hgl : gl ≤ 1) (hgsz : gsz ≤ 5) (hnc : nc ≤ 3) (hnp : np ≤ 8) (hne : ne ≤ 14) (hst0 : pm1 7 st0) (hN : o + 401 ≤ N) (ha2 : a2 ≤ 1) (ha3 : a3 ≤ 5) : Met l yX1_plan vs_E_1_plan_25 ({ frames := 0, cells := 0, slots := 0, locals := 0 }) (va_Pc [.ref g, .ref au, .int p1, .int (nI a2), .int (nI a3)] (pu_B (dC, dI) ((gt1__w g gz g1 g2 g3 g4 g5 (nI gc) (nI gfull) gx gway gav ggoal (nI gfound) 400 (nI gl) (nI gsz) g16 g17 k_fgz (zs o 401 az) k_fs1 (bN 7 q_fs1) k_fs2 fs2 k_fs3 fs3 k_fs4 fs4 k_fs5 fs5 k_fhi fhi k_flo flo au (nI nc) (nI np) (nI ne) st0 q4 q5 q6 q7 q8 q9 q10 q11 q12 q13 q14 q15 q16 k_f4 f4 k_f5 (bN 7 q_f5) k_f6 (bN 7 q_f6) k_f7 f7 k_f8 (bN 4 q_f8) k_f9 (bN 2 q_f9) k_f10 f10 k_f11 f11 k_f12 f12 k_f13 f13 k_f14 f14 k_f15 f15 k_f16 f16) ++ zp 5 25 N az ac kz qs fz) ((gt1__t k_fgz k_fs1 k_fs2 k_fs3 k_fs4 k_fs5 k_fhi k_flo k_f4 k_f5 k_f6 k_f7 k_f8 k_f9 k_f10 k_f11 k_f12 k_f13 k_f14 k_f15 k_f16) ++ zt N kz) sz)) (va_Qv (fun (_ : Unit) => True) (fun _ t => ∃ (z_fhi : Nat → Int32) (z_flo : Nat → Int32) (z_gav : Int32) (z_ggoal : Int32) (z_gfound : Nat) (z_gl : Nat) (z_gsz : Nat) (z_gway : Int32), pu_E (dC, dI) ((gt1__w g gz g1 g2 g3 g4 g5 (nI gc) (nI gfull) gx z_gway z_gav z_ggoal (nI z_gfound) 400 (nI z_gl) (nI z_gsz) g16 g17 k_fgz (zs o 401 az) k_fs1 (bN 7 q_fs1) k_fs2 fs2 k_fs3 fs3 k_fs4 fs4 k_fs5 fs5 k_fhi z_fhi k_flo z_flo au (nI nc) (nI np) (nI ne) st0 q4 q5 q6 q7 q8 q9 q10 q11 q12 q13 q14 q15 q16 k_f4 f4 k_f5 (bN 7 q_f5) k_f6 (bN 7 q_f6) k_f7 f7 k_f8 (bN 4 q_f8) k_f9 (bN 2 q_f9) k_f10 f10 k_f11 f11 k_f12 f12 k_f13 f13 k_f14 f14 k_f15 f15 k_f16 f16) ++ zp 5 25 N az ac kz qs fz) ((gt1__t k_fgz k_fs1 k_fs2 k_fs3 k_fs4 k_fs5 k_fhi k_flo k_f4 k_f5 k_f6 k_f7 k_f8 k_f9 k_f10 k_f11 k_f12 k_f13 k_f14 k_f15 k_f16) ++ zt N kz) (va_A (((gt1__w g gz g1 g2 g3 g4 g5 (nI gc) (nI gfull) gx gway gav ggoal (nI gfound) 400 (nI gl) (nI gsz) g16 g17 k_fgz (zs o 401 az) k_fs1 (bN 7 q_fs1) k_fs2 fs2 k_fs3 fs3 k_fs4 fs4 k_fs5 fs5 k_fhi fhi k_flo flo au (nI nc) (nI np) (nI ne) st0 q4 q5 q6 q7 q8 q9 q10 q11 q12 q13 q14 q15 q16 k_f4 f4 k_f5 (bN 7 q_f5) k_f6 (bN 7 q_f6) k_f7 f7 k_f8 (bN 4 q_f8) k_f9 (bN 2 q_f9) k_f10 f10 k_f11 f11 k_f12 f12 k_f13 f13 k_f14 f14 k_f15 f15 k_f16 f16) ++ zp 5 25 N az ac kz qs fz)) sz) t ∧ (z_gfound ≤ 1) ∧ (z_gl ≤ 1) ∧ (z_gsz ≤ 5) ∧ ((z_fhi, z_flo, z_gav, z_ggoal, z_gfound, z_gl, z_gsz, z_gway) = (sp_E_1_plan_25 fhi flo nc f14 f15 f16 p1 a2 a3))) (va_A (((gt1__w g gz g1 g2 g3 g4 g5 (nI gc) (nI gfull) gx gway gav ggoal (nI gfound) 400 (nI gl) (nI gsz) g16 g17 k_fgz (zs o 401 az) k_fs1 (bN 7 q_fs1) k_fs2 fs2 k_fs3 fs3 k_fs4 fs4 k_fs5 fs5 k_fhi fhi k_flo flo au (nI nc) (nI np) (nI ne) st0 q4 q5 q6 q7 q8 q9 q10 q11 q12 q13 q14 q15 q16 k_f4 f4 k_f5 (bN 7 q_f5) k_f6 (bN 7 q_f6) k_f7 f7 k_f8 (bN 4 q_f8) k_f9 (bN 2 q_f9) k_f10 f10 k_f11 f11 k_f12 f12 k_f13 f13 k_f14 f14 k_f15 f15 k_f16 f16) ++ zp 5 25 N az ac kz qs fz)) sz)) 0 0 (va_A (((gt1__w g gz g1 g2 g3 g4 g5 (nI gc) (nI gfull) gx gway gav ggoal (nI gfound) 400 (nI gl) (nI gsz) g16 g17 k_fgz (zs o 401 az) k_fs1 (bN 7 q_fs1) k_fs2 fs2 k_fs3 fs3 k_fs4 fs4 k_fs5 fs5 k_fhi fhi k_flo flo au (nI nc) (nI np) (nI ne) st0 q4 q5 q6 q7 q8 q9 q10 q11 q12 q13 q14 q15 q16 k_f4 f4 k_f5 (bN 7 q_f5) k_f6 (bN 7 q_f6) k_f7 f7 k_f8 (bN 4 q_f8) k_f9 (bN 2 q_f9) k_f10 f10 k_f11 f11 k_f12 f12 k_f13 f13 k_f14 f14 k_f15 f15 k_f16 f16) ++ zp 5 25 N az ac kz qs fz)) sz) := by
  refine Met.ofW (cc := cX1_plan) (maxL := 6) (ret := none) (by decide) rfl ?_
  intro p e s m args below meth c s₁ B hml hv
  obtain ⟨rfl, rfl, hP, hK, hD0⟩ := hv
  have hx := B.exec
  have hb := B.bytes
  have hr := B.returns
  have hts := atoms_spec (ws := vs_E_1_plan_25) B.pre
  have v_1 := hts (.fieldLink RX1 46 "ClockReach$Graph" "way" "I") (List.mem_cons_of_mem _ cm_76)
  have v_2 := hts (.fieldLink RX1 49 "ClockReach$Graph" "leaves" "Z") (List.mem_cons_of_mem _ cm_77)
  have v_3 := hts (.fieldLink RX1 53 "ClockReach$Graph" "size" "I") (List.mem_cons_of_mem _ cm_78)
  have v_4 := hts (.fieldLink RX1 56 "ClockReach$Graph" "avoided" "I") (List.mem_cons_of_mem _ cm_79)
  have v_5 := hts (.fieldLink RX1 59 "ClockReach$Graph" "goal" "I") (List.mem_cons_of_mem _ cm_80)
  have v_6 := hts (.fieldLink RX1 62 "ClockReach$Graph" "found" "Z") (List.mem_cons_of_mem _ cm_81)
  have v_7 := hts (.fieldLink RX1 65 "ClockReach$Automaton" "clocks" "I") (List.mem_cons_of_mem _ cm_82)
  have v_8 := hts (.fieldLink RX1 40 "ClockReach$Graph" "high" "[I") (List.mem_cons_of_mem _ cm_83)
  have v_9 := hts (.fieldLink RX1 73 "ClockReach$Automaton" "lower" "[I") (List.mem_cons_of_mem _ cm_85)
  have v_10 := hts (.fieldLink RX1 70 "ClockReach$Automaton" "greatest" "[I") (List.mem_cons_of_mem _ cm_84)
  have v_11 := hts (.fieldLink RX1 43 "ClockReach$Graph" "low" "[I") (List.mem_cons_of_mem _ cm_86)
  have v_12 := hts (.fieldLink RX1 76 "ClockReach$Automaton" "upper" "[I") (List.mem_cons_of_mem _ cm_87)
  have hown : s.vm.findClass RX1 = some m.cls := findClass_of_methodNamed B.named
  have hlocks := B.notSynchronized
  have hiX0 : ∀ w ∈ wsX00, w ∈ vs_E_1_plan_25 := fun _ h => List.mem_cons_of_mem _ (cm_X0 h)
  have hiX1 : ∀ w ∈ wsX10, w ∈ vs_E_1_plan_25 := fun _ h => List.mem_cons_of_mem _ (cm_X1 h)
  have hD := hD0.self (sz := s.heap.size)
  generalize hAe : va_A (((gt1__w g gz g1 g2 g3 g4 g5 (nI gc) (nI gfull) gx gway gav ggoal (nI gfound) 400 (nI gl) (nI gsz) g16 g17 k_fgz (zs o 401 az) k_fs1 (bN 7 q_fs1) k_fs2 fs2 k_fs3 fs3 k_fs4 fs4 k_fs5 fs5 k_fhi fhi k_flo flo au (nI nc) (nI np) (nI ne) st0 q4 q5 q6 q7 q8 q9 q10 q11 q12 q13 q14 q15 q16 k_f4 f4 k_f5 (bN 7 q_f5) k_f6 (bN 7 q_f6) k_f7 f7 k_f8 (bN 4 q_f8) k_f9 (bN 2 q_f9) k_f10 f10 k_f11 f11 k_f12 f12 k_f13 f13 k_f14 f14 k_f15 f15 k_f16 f16) ++ zp 5 25 N az ac kz qs fz)) s.heap.size = A at hD ⊢
  have hA : ∀ q : Nat, s.heap.size ≤ q → A q := fun q h => by rw [← hAe]; exact Or.inr h
  have hS : va_S A s.heap s.heap [] := va_S.rf
  have hl := lv_entry ([.ref g, .ref au, .int p1, .int (nI a2), .int (nI a3)]) (n := 6) (Nat.le_of_ble_eq_true rfl)
  rw [lg_entry_eq]
  generalize (lg_sl ([.ref g, .ref au, .int p1, .int (nI a2), .int (nI a3)]) ++ List.replicate (6 - (lg_sl ([.ref g, .ref au, .int p1, .int (nI a2), .int (nI a3)])).length) Slot.unset).toArray = ls at hl ⊢
  have hl : lv_has ls 6 [(0, .ref g), (1, .ref au), (2, .int p1), (3, .int (nI a2)), (4, .int (nI a3))] := hl
  obtain ⟨RR, hRR⟩ : ∃ x, x = (sp_E_1_plan_25 fhi flo nc f14 f15 f16 p1 a2 a3) := ⟨_, rfl⟩
  have hsp := hRR
  refine lv_aload_n hx hb eX1_plan_0 rfl (lv_at hl 0 rfl) ?_
  refine lv_iload_n hx hb eX1_plan_1 rfl (lv_at hl 2 rfl) ?_
  refine va_put (D := (dC, dI)) (ci := 1) (v := .int p1) (ty := .int) (C := RX1) (T := TX1) (N := 18) hx hb hts hiX1 tyX1 tyX1_ok nmX1 hown hK hP hD hS 0 rfl rfl 9 (by decide) v_1 (fun _ h9 => h9) rfl (by decide +kernel) rfl rfl (Nat.le_of_ble_eq_true rfl) eX1_plan_2 (fun H locs hP hD hS => ?_)
  have hP : va_P (dC, dI) vwCl ((gt1__w g gz g1 g2 g3 g4 g5 (nI gc) (nI gfull) gx p1 gav ggoal (nI gfound) 400 (nI gl) (nI gsz) g16 g17 k_fgz (zs o 401 az) k_fs1 (bN 7 q_fs1) k_fs2 fs2 k_fs3 fs3 k_fs4 fs4 k_fs5 fs5 k_fhi fhi k_flo flo au (nI nc) (nI np) (nI ne) st0 q4 q5 q6 q7 q8 q9 q10 q11 q12 q13 q14 q15 q16 k_f4 f4 k_f5 (bN 7 q_f5) k_f6 (bN 7 q_f6) k_f7 f7 k_f8 (bN 4 q_f8) k_f9 (bN 2 q_f9) k_f10 f10 k_f11 f11 k_f12 f12 k_f13 f13 k_f14 f14 k_f15 f15 k_f16 f16) ++ zp 5 25 N az ac kz qs fz) H := hP
  have hD : va_D A ((gt1__w g gz g1 g2 g3 g4 g5 (nI gc) (nI gfull) gx p1 gav ggoal (nI gfound) 400 (nI gl) (nI gsz) g16 g17 k_fgz (zs o 401 az) k_fs1 (bN 7 q_fs1) k_fs2 fs2 k_fs3 fs3 k_fs4 fs4 k_fs5 fs5 k_fhi fhi k_flo flo au (nI nc) (nI np) (nI ne) st0 q4 q5 q6 q7 q8 q9 q10 q11 q12 q13 q14 q15 q16 k_f4 f4 k_f5 (bN 7 q_f5) k_f6 (bN 7 q_f6) k_f7 f7 k_f8 (bN 4 q_f8) k_f9 (bN 2 q_f9) k_f10 f10 k_f11 f11 k_f12 f12 k_f13 f13 k_f14 f14 k_f15 f15 k_f16 f16) ++ zp 5 25 N az ac kz qs fz) := hD
  refine lv_aload_n hx hb eX1_plan_5 rfl (lv_at hl 0 rfl) ?_
  refine lv_iload_n hx hb eX1_plan_6 rfl (lv_at hl 3 rfl) ?_
  refine va_put (D := (dC, dI)) (ci := 1) (v := .int (nI a2)) (ty := .boolean) (C := RX1) (T := TX1) (N := 18) hx hb hts hiX1 tyX1 tyX1_ok nmX1 hown hK hP hD hS 0 rfl rfl 14 (by decide) v_2 (fun _ h9 => h9) rfl (by decide +kernel) (pu_nz (pu_b1 (n := a2) (by omega))) (pu_fz (pu_b1 (n := a2) (by omega))) (Nat.le_of_ble_eq_true rfl) eX1_plan_7 (fun H locs hP hD hS => ?_)
  have hP : va_P (dC, dI) vwCl ((gt1__w g gz g1 g2 g3 g4 g5 (nI gc) (nI gfull) gx p1 gav ggoal (nI gfound) 400 (nI a2) (nI gsz) g16 g17 k_fgz (zs o 401 az) k_fs1 (bN 7 q_fs1) k_fs2 fs2 k_fs3 fs3 k_fs4 fs4 k_fs5 fs5 k_fhi fhi k_flo flo au (nI nc) (nI np) (nI ne) st0 q4 q5 q6 q7 q8 q9 q10 q11 q12 q13 q14 q15 q16 k_f4 f4 k_f5 (bN 7 q_f5) k_f6 (bN 7 q_f6) k_f7 f7 k_f8 (bN 4 q_f8) k_f9 (bN 2 q_f9) k_f10 f10 k_f11 f11 k_f12 f12 k_f13 f13 k_f14 f14 k_f15 f15 k_f16 f16) ++ zp 5 25 N az ac kz qs fz) H := hP
  have hD : va_D A ((gt1__w g gz g1 g2 g3 g4 g5 (nI gc) (nI gfull) gx p1 gav ggoal (nI gfound) 400 (nI a2) (nI gsz) g16 g17 k_fgz (zs o 401 az) k_fs1 (bN 7 q_fs1) k_fs2 fs2 k_fs3 fs3 k_fs4 fs4 k_fs5 fs5 k_fhi fhi k_flo flo au (nI nc) (nI np) (nI ne) st0 q4 q5 q6 q7 q8 q9 q10 q11 q12 q13 q14 q15 q16 k_f4 f4 k_f5 (bN 7 q_f5) k_f6 (bN 7 q_f6) k_f7 f7 k_f8 (bN 4 q_f8) k_f9 (bN 2 q_f9) k_f10 f10 k_f11 f11 k_f12 f12 k_f13 f13 k_f14 f14 k_f15 f15 k_f16 f16) ++ zp 5 25 N az ac kz qs fz) := hD
  refine lv_aload_n hx hb eX1_plan_10 rfl (lv_at hl 0 rfl) ?_
  refine lv_iload hx hb eX1_plan_11 (lv_at hl 4 rfl) ?_
  refine va_put (D := (dC, dI)) (ci := 1) (v := .int (nI a3)) (ty := .int) (C := RX1) (T := TX1) (N := 18) hx hb hts hiX1 tyX1 tyX1_ok nmX1 hown hK hP hD hS 0 rfl rfl 15 (by decide) v_3 (fun _ h9 => h9) rfl (by decide +kernel) rfl rfl (Nat.le_of_ble_eq_true rfl) eX1_plan_13 (fun H locs hP hD hS => ?_)
  have hP : va_P (dC, dI) vwCl ((gt1__w g gz g1 g2 g3 g4 g5 (nI gc) (nI gfull) gx p1 gav ggoal (nI gfound) 400 (nI a2) (nI a3) g16 g17 k_fgz (zs o 401 az) k_fs1 (bN 7 q_fs1) k_fs2 fs2 k_fs3 fs3 k_fs4 fs4 k_fs5 fs5 k_fhi fhi k_flo flo au (nI nc) (nI np) (nI ne) st0 q4 q5 q6 q7 q8 q9 q10 q11 q12 q13 q14 q15 q16 k_f4 f4 k_f5 (bN 7 q_f5) k_f6 (bN 7 q_f6) k_f7 f7 k_f8 (bN 4 q_f8) k_f9 (bN 2 q_f9) k_f10 f10 k_f11 f11 k_f12 f12 k_f13 f13 k_f14 f14 k_f15 f15 k_f16 f16) ++ zp 5 25 N az ac kz qs fz) H := hP
  have hD : va_D A ((gt1__w g gz g1 g2 g3 g4 g5 (nI gc) (nI gfull) gx p1 gav ggoal (nI gfound) 400 (nI a2) (nI a3) g16 g17 k_fgz (zs o 401 az) k_fs1 (bN 7 q_fs1) k_fs2 fs2 k_fs3 fs3 k_fs4 fs4 k_fs5 fs5 k_fhi fhi k_flo flo au (nI nc) (nI np) (nI ne) st0 q4 q5 q6 q7 q8 q9 q10 q11 q12 q13 q14 q15 q16 k_f4 f4 k_f5 (bN 7 q_f5) k_f6 (bN 7 q_f6) k_f7 f7 k_f8 (bN 4 q_f8) k_f9 (bN 2 q_f9) k_f10 f10 k_f11 f11 k_f12 f12 k_f13 f13 k_f14 f14 k_f15 f15 k_f16 f16) ++ zp 5 25 N az ac kz qs fz) := hD
  refine lv_aload_n hx hb eX1_plan_16 rfl (lv_at hl 0 rfl) ?_
  refine lv_iconst (v := (-1)) hx hb eX1_plan_17 (by decide) ?_
  refine va_put (D := (dC, dI)) (ci := 1) (v := .int (-1)) (ty := .int) (C := RX1) (T := TX1) (N := 18) hx hb hts hiX1 tyX1 tyX1_ok nmX1 hown hK hP hD hS 0 rfl rfl 10 (by decide) v_4 (fun _ h9 => h9) rfl (by decide +kernel) rfl rfl (Nat.le_of_ble_eq_true rfl) eX1_plan_18 (fun H locs hP hD hS => ?_)
  have hP : va_P (dC, dI) vwCl ((gt1__w g gz g1 g2 g3 g4 g5 (nI gc) (nI gfull) gx p1 (-1) ggoal (nI gfound) 400 (nI a2) (nI a3) g16 g17 k_fgz (zs o 401 az) k_fs1 (bN 7 q_fs1) k_fs2 fs2 k_fs3 fs3 k_fs4 fs4 k_fs5 fs5 k_fhi fhi k_flo flo au (nI nc) (nI np) (nI ne) st0 q4 q5 q6 q7 q8 q9 q10 q11 q12 q13 q14 q15 q16 k_f4 f4 k_f5 (bN 7 q_f5) k_f6 (bN 7 q_f6) k_f7 f7 k_f8 (bN 4 q_f8) k_f9 (bN 2 q_f9) k_f10 f10 k_f11 f11 k_f12 f12 k_f13 f13 k_f14 f14 k_f15 f15 k_f16 f16) ++ zp 5 25 N az ac kz qs fz) H := hP
  have hD : va_D A ((gt1__w g gz g1 g2 g3 g4 g5 (nI gc) (nI gfull) gx p1 (-1) ggoal (nI gfound) 400 (nI a2) (nI a3) g16 g17 k_fgz (zs o 401 az) k_fs1 (bN 7 q_fs1) k_fs2 fs2 k_fs3 fs3 k_fs4 fs4 k_fs5 fs5 k_fhi fhi k_flo flo au (nI nc) (nI np) (nI ne) st0 q4 q5 q6 q7 q8 q9 q10 q11 q12 q13 q14 q15 q16 k_f4 f4 k_f5 (bN 7 q_f5) k_f6 (bN 7 q_f6) k_f7 f7 k_f8 (bN 4 q_f8) k_f9 (bN 2 q_f9) k_f10 f10 k_f11 f11 k_f12 f12 k_f13 f13 k_f14 f14 k_f15 f15 k_f16 f16) ++ zp 5 25 N az ac kz qs fz) := hD
  refine lv_aload_n hx hb eX1_plan_21 rfl (lv_at hl 0 rfl) ?_
  refine lv_iconst (v := (-1)) hx hb eX1_plan_22 (by decide) ?_
  refine va_put (D := (dC, dI)) (ci := 1) (v := .int (-1)) (ty := .int) (C := RX1) (T := TX1) (N := 18) hx hb hts hiX1 tyX1 tyX1_ok nmX1 hown hK hP hD hS 0 rfl rfl 11 (by decide) v_5 (fun _ h9 => h9) rfl (by decide +kernel) rfl rfl (Nat.le_of_ble_eq_true rfl) eX1_plan_23 (fun H locs hP hD hS => ?_)
  have hP : va_P (dC, dI) vwCl ((gt1__w g gz g1 g2 g3 g4 g5 (nI gc) (nI gfull) gx p1 (-1) (-1) (nI gfound) 400 (nI a2) (nI a3) g16 g17 k_fgz (zs o 401 az) k_fs1 (bN 7 q_fs1) k_fs2 fs2 k_fs3 fs3 k_fs4 fs4 k_fs5 fs5 k_fhi fhi k_flo flo au (nI nc) (nI np) (nI ne) st0 q4 q5 q6 q7 q8 q9 q10 q11 q12 q13 q14 q15 q16 k_f4 f4 k_f5 (bN 7 q_f5) k_f6 (bN 7 q_f6) k_f7 f7 k_f8 (bN 4 q_f8) k_f9 (bN 2 q_f9) k_f10 f10 k_f11 f11 k_f12 f12 k_f13 f13 k_f14 f14 k_f15 f15 k_f16 f16) ++ zp 5 25 N az ac kz qs fz) H := hP
  have hD : va_D A ((gt1__w g gz g1 g2 g3 g4 g5 (nI gc) (nI gfull) gx p1 (-1) (-1) (nI gfound) 400 (nI a2) (nI a3) g16 g17 k_fgz (zs o 401 az) k_fs1 (bN 7 q_fs1) k_fs2 fs2 k_fs3 fs3 k_fs4 fs4 k_fs5 fs5 k_fhi fhi k_flo flo au (nI nc) (nI np) (nI ne) st0 q4 q5 q6 q7 q8 q9 q10 q11 q12 q13 q14 q15 q16 k_f4 f4 k_f5 (bN 7 q_f5) k_f6 (bN 7 q_f6) k_f7 f7 k_f8 (bN 4 q_f8) k_f9 (bN 2 q_f9) k_f10 f10 k_f11 f11 k_f12 f12 k_f13 f13 k_f14 f14 k_f15 f15 k_f16 f16) ++ zp 5 25 N az ac kz qs fz) := hD
  refine lv_aload_n hx hb eX1_plan_26 rfl (lv_at hl 0 rfl) ?_
  refine lv_iconst (v := 0) hx hb eX1_plan_27 (by decide) ?_
  refine va_put (D := (dC, dI)) (ci := 1) (v := .int 0) (ty := .boolean) (C := RX1) (T := TX1) (N := 18) hx hb hts hiX1 tyX1 tyX1_ok nmX1 hown hK hP hD hS 0 rfl rfl 12 (by decide) v_6 (fun _ h9 => h9) rfl (by decide +kernel) rfl rfl (Nat.le_of_ble_eq_true rfl) eX1_plan_28 (fun H locs hP hD hS => ?_)
  have hP : va_P (dC, dI) vwCl ((gt1__w g gz g1 g2 g3 g4 g5 (nI gc) (nI gfull) gx p1 (-1) (-1) 0 400 (nI a2) (nI a3) g16 g17 k_fgz (zs o 401 az) k_fs1 (bN 7 q_fs1) k_fs2 fs2 k_fs3 fs3 k_fs4 fs4 k_fs5 fs5 k_fhi fhi k_flo flo au (nI nc) (nI np) (nI ne) st0 q4 q5 q6 q7 q8 q9 q10 q11 q12 q13 q14 q15 q16 k_f4 f4 k_f5 (bN 7 q_f5) k_f6 (bN 7 q_f6) k_f7 f7 k_f8 (bN 4 q_f8) k_f9 (bN 2 q_f9) k_f10 f10 k_f11 f11 k_f12 f12 k_f13 f13 k_f14 f14 k_f15 f15 k_f16 f16) ++ zp 5 25 N az ac kz qs fz) H := hP
  have hD : va_D A ((gt1__w g gz g1 g2 g3 g4 g5 (nI gc) (nI gfull) gx p1 (-1) (-1) 0 400 (nI a2) (nI a3) g16 g17 k_fgz (zs o 401 az) k_fs1 (bN 7 q_fs1) k_fs2 fs2 k_fs3 fs3 k_fs4 fs4 k_fs5 fs5 k_fhi fhi k_flo flo au (nI nc) (nI np) (nI ne) st0 q4 q5 q6 q7 q8 q9 q10 q11 q12 q13 q14 q15 q16 k_f4 f4 k_f5 (bN 7 q_f5) k_f6 (bN 7 q_f6) k_f7 f7 k_f8 (bN 4 q_f8) k_f9 (bN 2 q_f9) k_f10 f10 k_f11 f11 k_f12 f12 k_f13 f13 k_f14 f14 k_f15 f15 k_f16 f16) ++ zp 5 25 N az ac kz qs fz) := hD
  refine lv_iconst (v := 0) hx hb eX1_plan_31 (by decide) ?_
  refine lv_istore (lv' := [(5, .int 0), (0, .ref g), (1, .ref au), (2, .int p1), (3, .int (nI a2)), (4, .int (nI a3))]) hx hb eX1_plan_32 hl (by decide) rfl (fun ls hl => ?_)
  obtain ⟨lf_8, dlf_8, hlf_8, hsp⟩ := itr_ex hsp
  delta sp_E_1_plan_25_L2 at hlf_8
  refine pu_while (fun nn H locs ls => ∃ (g_4 : Nat → Int32) (g_5 : Nat → Int32) (g_6 : Nat), nn = 4 - g_6 ∧ g_6 ≤ 4 ∧ RR = itrv dlf_8 lf_8 (g_4, g_5, g_6) ∧ va_P (dC, dI) vwCl ((gt1__w g gz g1 g2 g3 g4 g5 (nI gc) (nI gfull) gx p1 (-1) (-1) 0 400 (nI a2) (nI a3) g16 g17 k_fgz (zs o 401 az) k_fs1 (bN 7 q_fs1) k_fs2 fs2 k_fs3 fs3 k_fs4 fs4 k_fs5 fs5 k_fhi g_4 k_flo g_5 au (nI nc) (nI np) (nI ne) st0 q4 q5 q6 q7 q8 q9 q10 q11 q12 q13 q14 q15 q16 k_f4 f4 k_f5 (bN 7 q_f5) k_f6 (bN 7 q_f6) k_f7 f7 k_f8 (bN 4 q_f8) k_f9 (bN 2 q_f9) k_f10 f10 k_f11 f11 k_f12 f12 k_f13 f13 k_f14 f14 k_f15 f15 k_f16 f16) ++ zp 5 25 N az ac kz qs fz) H ∧ va_D A ((gt1__w g gz g1 g2 g3 g4 g5 (nI gc) (nI gfull) gx p1 (-1) (-1) 0 400 (nI a2) (nI a3) g16 g17 k_fgz (zs o 401 az) k_fs1 (bN 7 q_fs1) k_fs2 fs2 k_fs3 fs3 k_fs4 fs4 k_fs5 fs5 k_fhi g_4 k_flo g_5 au (nI nc) (nI np) (nI ne) st0 q4 q5 q6 q7 q8 q9 q10 q11 q12 q13 q14 q15 q16 k_f4 f4 k_f5 (bN 7 q_f5) k_f6 (bN 7 q_f6) k_f7 f7 k_f8 (bN 4 q_f8) k_f9 (bN 2 q_f9) k_f10 f10 k_f11 f11 k_f12 f12 k_f13 f13 k_f14 f14 k_f15 f15 k_f16 f16) ++ zp 5 25 N az ac kz qs fz) ∧ va_S A s.heap H locs ∧ lv_has ls 6 [(0, .ref g), (1, .ref au), (2, .int p1), (3, .int (nI a2)), (4, .int (nI a3)), (5, .int (nI g_6))]) 34 ?_ _ _ _ _ ⟨fhi, flo, 0, rfl, (Nat.le_of_ble_eq_true rfl), hsp, hP, hD, hS, lv_sub hl [1, 2, 3, 4, 5, 0] rfl⟩
  rintro nn ih_7 H locs ls ⟨g_4, g_5, g_6, rfl, hg_6, he_10, hP, hD, hS, hl⟩
  obtain ⟨S_9, hsp, hin_11, hout_12⟩ := itr_step hlf_8 he_10
  refine lv_iload hx hb eX1_plan_34 (lv_at hl 5 rfl) ?_
  refine lv_aload_n hx hb eX1_plan_36 rfl (lv_at hl 1 rfl) ?_
  refine va_get (D := (dC, dI)) (ci := 0) (v := .int (nI nc)) (C := RX0) (T := TX0) (N := 17) hx hb hts hiX0 hown hK hP 9 rfl rfl 0 (by decide) v_7 (fun _ h9 => h9) rfl eX1_plan_37 ?_
  refine lv_icmp_gt (tgt := 113) hx hb eX1_plan_40 (by decide) (fun c_13 => ?_) (fun c_13 => ?_)
  · have c_13 : nc < g_6 := (nI_ltI (a := nc) (b := g_6) (Nat.lt_of_le_of_lt hnc (Nat.le_of_ble_eq_true rfl)) (Nat.lt_of_le_of_lt hg_6 (Nat.le_of_ble_eq_true rfl))).mp c_13
    have hsp := hsp.trans (if_pos c_13)
    have hsp := hout_12 _ hsp
    refine lv_aload_n hx hb eX1_plan_113 rfl (lv_at hl 1 rfl) ?_
    refine va_get (D := (dC, dI)) (ci := 0) (v := .int (nI nc)) (C := RX0) (T := TX0) (N := 17) hx hb hts hiX0 hown hK hP 9 rfl rfl 0 (by decide) v_7 (fun _ h9 => h9) rfl eX1_plan_114 ?_
    refine lv_iconst (v := 1) hx hb eX1_plan_117 (by decide) ?_
    refine lv_iadd hx hb eX1_plan_118 ?_
    refine lv_topi (fun y_14 ey_14 => ?_)
    obtain rfl : y_14 = (nI (nc + 1)) := ey_14.trans (nI_add nc 1)
    refine lv_istore (lv' := [(5, .int (nI (nc + 1))), (0, .ref g), (1, .ref au), (2, .int p1), (3, .int (nI a2)), (4, .int (nI a3))]) hx hb eX1_plan_119 hl (by decide) rfl (fun ls hl => ?_)
    obtain ⟨lf_22, dlf_22, hlf_22, hsp⟩ := itr_ex hsp
    delta sp_E_1_plan_25_L1 at hlf_22
    refine pu_while (fun nn H locs ls => ∃ (g_18 : Nat → Int32) (g_19 : Nat → Int32) (g_20 : Nat), nn = 5 - g_20 ∧ (1 ≤ g_20 ∧ g_20 ≤ 5) ∧ RR = itrv dlf_22 lf_22 (g_18, g_19, g_20) ∧ va_P (dC, dI) vwCl ((gt1__w g gz g1 g2 g3 g4 g5 (nI gc) (nI gfull) gx p1 (-1) (-1) 0 400 (nI a2) (nI a3) g16 g17 k_fgz (zs o 401 az) k_fs1 (bN 7 q_fs1) k_fs2 fs2 k_fs3 fs3 k_fs4 fs4 k_fs5 fs5 k_fhi g_18 k_flo g_19 au (nI nc) (nI np) (nI ne) st0 q4 q5 q6 q7 q8 q9 q10 q11 q12 q13 q14 q15 q16 k_f4 f4 k_f5 (bN 7 q_f5) k_f6 (bN 7 q_f6) k_f7 f7 k_f8 (bN 4 q_f8) k_f9 (bN 2 q_f9) k_f10 f10 k_f11 f11 k_f12 f12 k_f13 f13 k_f14 f14 k_f15 f15 k_f16 f16) ++ zp 5 25 N az ac kz qs fz) H ∧ va_D A ((gt1__w g gz g1 g2 g3 g4 g5 (nI gc) (nI gfull) gx p1 (-1) (-1) 0 400 (nI a2) (nI a3) g16 g17 k_fgz (zs o 401 az) k_fs1 (bN 7 q_fs1) k_fs2 fs2 k_fs3 fs3 k_fs4 fs4 k_fs5 fs5 k_fhi g_18 k_flo g_19 au (nI nc) (nI np) (nI ne) st0 q4 q5 q6 q7 q8 q9 q10 q11 q12 q13 q14 q15 q16 k_f4 f4 k_f5 (bN 7 q_f5) k_f6 (bN 7 q_f6) k_f7 f7 k_f8 (bN 4 q_f8) k_f9 (bN 2 q_f9) k_f10 f10 k_f11 f11 k_f12 f12 k_f13 f13 k_f14 f14 k_f15 f15 k_f16 f16) ++ zp 5 25 N az ac kz qs fz) ∧ va_S A s.heap H locs ∧ lv_has ls 6 [(0, .ref g), (1, .ref au), (2, .int p1), (3, .int (nI a2)), (4, .int (nI a3)), (5, .int (nI g_20))]) 121 ?_ _ _ _ _ ⟨g_4, g_5, (nc + 1), rfl, ⟨by omega, by omega⟩, hsp, hP, hD, hS, lv_sub hl [1, 2, 3, 4, 5, 0] rfl⟩
    rintro nn ih_21 H locs ls ⟨g_18, g_19, g_20, rfl, hg_20, he_24, hP, hD, hS, hl⟩
    obtain ⟨S_23, hsp, hin_25, hout_26⟩ := itr_step hlf_22 he_24
    refine lv_iload hx hb eX1_plan_121 (lv_at hl 5 rfl) ?_
    refine lv_aload_n hx hb eX1_plan_123 rfl (lv_at hl 0 rfl) ?_
    refine va_get (D := (dC, dI)) (ci := 1) (v := .int (nI a3)) (C := RX1) (T := TX1) (N := 18) hx hb hts hiX1 hown hK hP 0 rfl rfl 15 (by decide) v_3 (fun _ h9 => h9) rfl eX1_plan_124 ?_
    refine lv_icmp_ge (tgt := 153) hx hb eX1_plan_127 (by decide) (fun c_27 => ?_) (fun c_27 => ?_)
    · have c_27 : a3 ≤ g_20 := (nI_leI (a := a3) (b := g_20) (Nat.lt_of_le_of_lt ha3 (Nat.le_of_ble_eq_true rfl)) (Nat.lt_of_le_of_lt hg_20.2 (Nat.le_of_ble_eq_true rfl))).mp c_27
      have hsp := hsp.trans (if_pos c_27)
      have hsp := hout_26 _ hsp
      exact W.vret hx hb hr (fun t ht hW => ⟨⟨(), rfl, trivial, ⟨g_18, g_19, (-1), (-1), 0, a2, a3, p1, ⟨by rw [ht]; exact hP, va_K.moved hW.alike hK, hD⟩, (Nat.le_of_ble_eq_true rfl), ha2, ha3, (hsp.symm.trans hRR)⟩⟩, hS.F ht⟩) hS.2.2 eX1_plan_153
    · have c_27 : ¬ a3 ≤ g_20 := fun z => c_27 ((nI_leI (a := a3) (b := g_20) (Nat.lt_of_le_of_lt ha3 (Nat.le_of_ble_eq_true rfl)) (Nat.lt_of_le_of_lt hg_20.2 (Nat.le_of_ble_eq_true rfl))).mpr z)
      have hsp := hsp.trans (if_neg c_27)
      refine lv_aload_n hx hb eX1_plan_130 rfl (lv_at hl 0 rfl) ?_
      refine va_get (D := (dC, dI)) (ci := 1) (v := .ref g16) (C := RX1) (T := TX1) (N := 18) hx hb hts hiX1 hown hK hP 0 rfl rfl 16 (by decide) v_8 (fun _ h9 => h9) rfl eX1_plan_131 ?_
      refine lv_iload hx hb eX1_plan_134 (lv_at hl 5 rfl) ?_
      refine lv_iconst (v := 0) hx hb eX1_plan_136 (by decide) ?_
      refine va_iast hx hb hK hP hD hS 7 6 rfl rfl (vp_in_nI (n := g_20) (by omega) (Nat.le_of_ble_eq_true rfl)) eX1_plan_137 (fun H locs hP hD hS => ?_)
      obtain ⟨f_28, ef_28, xf_28⟩ := up_x g_18 (n := g_20) 0 (Nat.lt_of_le_of_lt hg_20.2 (Nat.le_of_ble_eq_true rfl))
      have hP : va_P (dC, dI) vwCl ((gt1__w g gz g1 g2 g3 g4 g5 (nI gc) (nI gfull) gx p1 (-1) (-1) 0 400 (nI a2) (nI a3) g16 g17 k_fgz (zs o 401 az) k_fs1 (bN 7 q_fs1) k_fs2 fs2 k_fs3 fs3 k_fs4 fs4 k_fs5 fs5 k_fhi f_28 k_flo g_19 au (nI nc) (nI np) (nI ne) st0 q4 q5 q6 q7 q8 q9 q10 q11 q12 q13 q14 q15 q16 k_f4 f4 k_f5 (bN 7 q_f5) k_f6 (bN 7 q_f6) k_f7 f7 k_f8 (bN 4 q_f8) k_f9 (bN 2 q_f9) k_f10 f10 k_f11 f11 k_f12 f12 k_f13 f13 k_f14 f14 k_f15 f15 k_f16 f16) ++ zp 5 25 N az ac kz qs fz) H := by rw [← ef_28]; exact hP
      have hD : va_D A ((gt1__w g gz g1 g2 g3 g4 g5 (nI gc) (nI gfull) gx p1 (-1) (-1) 0 400 (nI a2) (nI a3) g16 g17 k_fgz (zs o 401 az) k_fs1 (bN 7 q_fs1) k_fs2 fs2 k_fs3 fs3 k_fs4 fs4 k_fs5 fs5 k_fhi f_28 k_flo g_19 au (nI nc) (nI np) (nI ne) st0 q4 q5 q6 q7 q8 q9 q10 q11 q12 q13 q14 q15 q16 k_f4 f4 k_f5 (bN 7 q_f5) k_f6 (bN 7 q_f6) k_f7 f7 k_f8 (bN 4 q_f8) k_f9 (bN 2 q_f9) k_f10 f10 k_f11 f11 k_f12 f12 k_f13 f13 k_f14 f14 k_f15 f15 k_f16 f16) ++ zp 5 25 N az ac kz qs fz) := by rw [← ef_28]; exact hD
      have hsp := hsp.trans (slet_eq xf_28)
      refine lv_aload_n hx hb eX1_plan_138 rfl (lv_at hl 0 rfl) ?_
      refine va_get (D := (dC, dI)) (ci := 1) (v := .ref g17) (C := RX1) (T := TX1) (N := 18) hx hb hts hiX1 hown hK hP 0 rfl rfl 17 (by decide) v_11 (fun _ h9 => h9) rfl eX1_plan_139 ?_
      refine lv_iload hx hb eX1_plan_142 (lv_at hl 5 rfl) ?_
      refine lv_bipush (v := 60) hx hb eX1_plan_144 (by decide) ?_
      refine va_iast hx hb hK hP hD hS 8 7 rfl rfl (vp_in_nI (n := g_20) (by omega) (Nat.le_of_ble_eq_true rfl)) eX1_plan_146 (fun H locs hP hD hS => ?_)
      obtain ⟨f_29, ef_29, xf_29⟩ := up_x g_19 (n := g_20) 60 (Nat.lt_of_le_of_lt hg_20.2 (Nat.le_of_ble_eq_true rfl))
      have hP : va_P (dC, dI) vwCl ((gt1__w g gz g1 g2 g3 g4 g5 (nI gc) (nI gfull) gx p1 (-1) (-1) 0 400 (nI a2) (nI a3) g16 g17 k_fgz (zs o 401 az) k_fs1 (bN 7 q_fs1) k_fs2 fs2 k_fs3 fs3 k_fs4 fs4 k_fs5 fs5 k_fhi f_28 k_flo f_29 au (nI nc) (nI np) (nI ne) st0 q4 q5 q6 q7 q8 q9 q10 q11 q12 q13 q14 q15 q16 k_f4 f4 k_f5 (bN 7 q_f5) k_f6 (bN 7 q_f6) k_f7 f7 k_f8 (bN 4 q_f8) k_f9 (bN 2 q_f9) k_f10 f10 k_f11 f11 k_f12 f12 k_f13 f13 k_f14 f14 k_f15 f15 k_f16 f16) ++ zp 5 25 N az ac kz qs fz) H := by rw [← ef_29]; exact hP
      have hD : va_D A ((gt1__w g gz g1 g2 g3 g4 g5 (nI gc) (nI gfull) gx p1 (-1) (-1) 0 400 (nI a2) (nI a3) g16 g17 k_fgz (zs o 401 az) k_fs1 (bN 7 q_fs1) k_fs2 fs2 k_fs3 fs3 k_fs4 fs4 k_fs5 fs5 k_fhi f_28 k_flo f_29 au (nI nc) (nI np) (nI ne) st0 q4 q5 q6 q7 q8 q9 q10 q11 q12 q13 q14 q15 q16 k_f4 f4 k_f5 (bN 7 q_f5) k_f6 (bN 7 q_f6) k_f7 f7 k_f8 (bN 4 q_f8) k_f9 (bN 2 q_f9) k_f10 f10 k_f11 f11 k_f12 f12 k_f13 f13 k_f14 f14 k_f15 f15 k_f16 f16) ++ zp 5 25 N az ac kz qs fz) := by rw [← ef_29]; exact hD
      have hsp := hsp.trans (slet_eq xf_29)
      refine lv_iinc (v := (nI (g_20 + 1))) (lv' := [(5, .int (nI (g_20 + 1))), (0, .ref g), (1, .ref au), (2, .int p1), (3, .int (nI a2)), (4, .int (nI a3))]) hx hb eX1_plan_147 hl (k := 5) rfl (nI_1 _) (by decide) rfl (fun ls hl => ?_)
      refine lv_goto (tgt := 121) hx hb eX1_plan_150 (by decide) ?_
      exact ih_21 (5 - (g_20 + 1)) (by omega) _ _ _ ⟨f_28, f_29, (g_20 + 1), rfl, ⟨by omega, by omega⟩, hin_25 _ hsp, hP, hD, hS, lv_sub hl [1, 2, 3, 4, 5, 0] rfl⟩
  · have c_13 : ¬ nc < g_6 := fun z => c_13 ((nI_ltI (a := nc) (b := g_6) (Nat.lt_of_le_of_lt hnc (Nat.le_of_ble_eq_true rfl)) (Nat.lt_of_le_of_lt hg_6 (Nat.le_of_ble_eq_true rfl))).mpr z)
    have hsp := hsp.trans (if_neg c_13)
    refine lv_aload_n hx hb eX1_plan_43 rfl (lv_at hl 0 rfl) ?_
    refine va_get (D := (dC, dI)) (ci := 1) (v := .ref g16) (C := RX1) (T := TX1) (N := 18) hx hb hts hiX1 hown hK hP 0 rfl rfl 16 (by decide) v_8 (fun _ h9 => h9) rfl eX1_plan_44 ?_
    refine lv_iload hx hb eX1_plan_47 (lv_at hl 5 rfl) ?_
    refine lv_aload_n hx hb eX1_plan_49 rfl (lv_at hl 0 rfl) ?_
    refine va_get (D := (dC, dI)) (ci := 1) (v := .int p1) (C := RX1) (T := TX1) (N := 18) hx hb hts hiX1 hown hK hP 0 rfl rfl 9 (by decide) v_1 (fun _ h9 => h9) rfl eX1_plan_50 ?_
    refine lv_iconst (v := 1) hx hb eX1_plan_53 (by decide) ?_
    obtain ⟨JR_32, hJR_32, hsp⟩ := slet_ex hsp
    refine pu_join (fun H locs ls st => ∃ (g_30 : Int32), st = [.int g_30, .int (nI g_6), .ref g16] ∧ g_30 = JR_32 ∧ va_P (dC, dI) vwCl ((gt1__w g gz g1 g2 g3 g4 g5 (nI gc) (nI gfull) gx p1 (-1) (-1) 0 400 (nI a2) (nI a3) g16 g17 k_fgz (zs o 401 az) k_fs1 (bN 7 q_fs1) k_fs2 fs2 k_fs3 fs3 k_fs4 fs4 k_fs5 fs5 k_fhi g_4 k_flo g_5 au (nI nc) (nI np) (nI ne) st0 q4 q5 q6 q7 q8 q9 q10 q11 q12 q13 q14 q15 q16 k_f4 f4 k_f5 (bN 7 q_f5) k_f6 (bN 7 q_f6) k_f7 f7 k_f8 (bN 4 q_f8) k_f9 (bN 2 q_f9) k_f10 f10 k_f11 f11 k_f12 f12 k_f13 f13 k_f14 f14 k_f15 f15 k_f16 f16) ++ zp 5 25 N az ac kz qs fz) H ∧ va_D A ((gt1__w g gz g1 g2 g3 g4 g5 (nI gc) (nI gfull) gx p1 (-1) (-1) 0 400 (nI a2) (nI a3) g16 g17 k_fgz (zs o 401 az) k_fs1 (bN 7 q_fs1) k_fs2 fs2 k_fs3 fs3 k_fs4 fs4 k_fs5 fs5 k_fhi g_4 k_flo g_5 au (nI nc) (nI np) (nI ne) st0 q4 q5 q6 q7 q8 q9 q10 q11 q12 q13 q14 q15 q16 k_f4 f4 k_f5 (bN 7 q_f5) k_f6 (bN 7 q_f6) k_f7 f7 k_f8 (bN 4 q_f8) k_f9 (bN 2 q_f9) k_f10 f10 k_f11 f11 k_f12 f12 k_f13 f13 k_f14 f14 k_f15 f15 k_f16 f16) ++ zp 5 25 N az ac kz qs fz) ∧ va_S A s.heap H locs ∧ lv_has ls 6 [(0, .ref g), (1, .ref au), (2, .int p1), (3, .int (nI a2)), (4, .int (nI a3)), (5, .int (nI g_6))]) 74 ?_ (fun j_31 => ?_)
    · rintro H locs ls st ⟨g_30, rfl, he_33, hP, hD, hS, hl⟩
      rw [← he_33] at hsp
      refine va_iast hx hb hK hP hD hS 7 6 rfl rfl (vp_in_nI (n := g_6) (Nat.lt_of_le_of_lt hg_6 (Nat.le_of_ble_eq_true rfl)) (Nat.le_of_ble_eq_true rfl)) eX1_plan_74 (fun H locs hP hD hS => ?_)
      obtain ⟨f_34, ef_34, xf_34⟩ := up_x g_4 (n := g_6) g_30 (Nat.lt_of_le_of_lt hg_6 (Nat.le_of_ble_eq_true rfl))
      have hP : va_P (dC, dI) vwCl ((gt1__w g gz g1 g2 g3 g4 g5 (nI gc) (nI gfull) gx p1 (-1) (-1) 0 400 (nI a2) (nI a3) g16 g17 k_fgz (zs o 401 az) k_fs1 (bN 7 q_fs1) k_fs2 fs2 k_fs3 fs3 k_fs4 fs4 k_fs5 fs5 k_fhi f_34 k_flo g_5 au (nI nc) (nI np) (nI ne) st0 q4 q5 q6 q7 q8 q9 q10 q11 q12 q13 q14 q15 q16 k_f4 f4 k_f5 (bN 7 q_f5) k_f6 (bN 7 q_f6) k_f7 f7 k_f8 (bN 4 q_f8) k_f9 (bN 2 q_f9) k_f10 f10 k_f11 f11 k_f12 f12 k_f13 f13 k_f14 f14 k_f15 f15 k_f16 f16) ++ zp 5 25 N az ac kz qs fz) H := by rw [← ef_34]; exact hP
      have hD : va_D A ((gt1__w g gz g1 g2 g3 g4 g5 (nI gc) (nI gfull) gx p1 (-1) (-1) 0 400 (nI a2) (nI a3) g16 g17 k_fgz (zs o 401 az) k_fs1 (bN 7 q_fs1) k_fs2 fs2 k_fs3 fs3 k_fs4 fs4 k_fs5 fs5 k_fhi f_34 k_flo g_5 au (nI nc) (nI np) (nI ne) st0 q4 q5 q6 q7 q8 q9 q10 q11 q12 q13 q14 q15 q16 k_f4 f4 k_f5 (bN 7 q_f5) k_f6 (bN 7 q_f6) k_f7 f7 k_f8 (bN 4 q_f8) k_f9 (bN 2 q_f9) k_f10 f10 k_f11 f11 k_f12 f12 k_f13 f13 k_f14 f14 k_f15 f15 k_f16 f16) ++ zp 5 25 N az ac kz qs fz) := by rw [← ef_34]; exact hD
      have hsp := hsp.trans (slet_eq xf_34)
      refine lv_aload_n hx hb eX1_plan_75 rfl (lv_at hl 0 rfl) ?_
      refine va_get (D := (dC, dI)) (ci := 1) (v := .ref g17) (C := RX1) (T := TX1) (N := 18) hx hb hts hiX1 hown hK hP 0 rfl rfl 17 (by decide) v_11 (fun _ h9 => h9) rfl eX1_plan_76 ?_
      refine lv_iload hx hb eX1_plan_79 (lv_at hl 5 rfl) ?_
      refine lv_aload_n hx hb eX1_plan_81 rfl (lv_at hl 0 rfl) ?_
      refine va_get (D := (dC, dI)) (ci := 1) (v := .int p1) (C := RX1) (T := TX1) (N := 18) hx hb hts hiX1 hown hK hP 0 rfl rfl 9 (by decide) v_1 (fun _ h9 => h9) rfl eX1_plan_82 ?_
      refine lv_iconst (v := 1) hx hb eX1_plan_85 (by decide) ?_
      obtain ⟨JR_37, hJR_37, hsp⟩ := slet_ex hsp
      refine pu_join (fun H locs ls st => ∃ (g_35 : Int32), st = [.int g_35, .int (nI g_6), .ref g17] ∧ g_35 = JR_37 ∧ va_P (dC, dI) vwCl ((gt1__w g gz g1 g2 g3 g4 g5 (nI gc) (nI gfull) gx p1 (-1) (-1) 0 400 (nI a2) (nI a3) g16 g17 k_fgz (zs o 401 az) k_fs1 (bN 7 q_fs1) k_fs2 fs2 k_fs3 fs3 k_fs4 fs4 k_fs5 fs5 k_fhi f_34 k_flo g_5 au (nI nc) (nI np) (nI ne) st0 q4 q5 q6 q7 q8 q9 q10 q11 q12 q13 q14 q15 q16 k_f4 f4 k_f5 (bN 7 q_f5) k_f6 (bN 7 q_f6) k_f7 f7 k_f8 (bN 4 q_f8) k_f9 (bN 2 q_f9) k_f10 f10 k_f11 f11 k_f12 f12 k_f13 f13 k_f14 f14 k_f15 f15 k_f16 f16) ++ zp 5 25 N az ac kz qs fz) H ∧ va_D A ((gt1__w g gz g1 g2 g3 g4 g5 (nI gc) (nI gfull) gx p1 (-1) (-1) 0 400 (nI a2) (nI a3) g16 g17 k_fgz (zs o 401 az) k_fs1 (bN 7 q_fs1) k_fs2 fs2 k_fs3 fs3 k_fs4 fs4 k_fs5 fs5 k_fhi f_34 k_flo g_5 au (nI nc) (nI np) (nI ne) st0 q4 q5 q6 q7 q8 q9 q10 q11 q12 q13 q14 q15 q16 k_f4 f4 k_f5 (bN 7 q_f5) k_f6 (bN 7 q_f6) k_f7 f7 k_f8 (bN 4 q_f8) k_f9 (bN 2 q_f9) k_f10 f10 k_f11 f11 k_f12 f12 k_f13 f13 k_f14 f14 k_f15 f15 k_f16 f16) ++ zp 5 25 N az ac kz qs fz) ∧ va_S A s.heap H locs ∧ lv_has ls 6 [(0, .ref g), (1, .ref au), (2, .int p1), (3, .int (nI a2)), (4, .int (nI a3)), (5, .int (nI g_6))]) 106 ?_ (fun j_36 => ?_)
      · rintro H locs ls st ⟨g_35, rfl, he_38, hP, hD, hS, hl⟩
        rw [← he_38] at hsp
        refine va_iast hx hb hK hP hD hS 8 7 rfl rfl (vp_in_nI (n := g_6) (Nat.lt_of_le_of_lt hg_6 (Nat.le_of_ble_eq_true rfl)) (Nat.le_of_ble_eq_true rfl)) eX1_plan_106 (fun H locs hP hD hS => ?_)
        obtain ⟨f_39, ef_39, xf_39⟩ := up_x g_5 (n := g_6) g_35 (Nat.lt_of_le_of_lt hg_6 (Nat.le_of_ble_eq_true rfl))
        have hP : va_P (dC, dI) vwCl ((gt1__w g gz g1 g2 g3 g4 g5 (nI gc) (nI gfull) gx p1 (-1) (-1) 0 400 (nI a2) (nI a3) g16 g17 k_fgz (zs o 401 az) k_fs1 (bN 7 q_fs1) k_fs2 fs2 k_fs3 fs3 k_fs4 fs4 k_fs5 fs5 k_fhi f_34 k_flo f_39 au (nI nc) (nI np) (nI ne) st0 q4 q5 q6 q7 q8 q9 q10 q11 q12 q13 q14 q15 q16 k_f4 f4 k_f5 (bN 7 q_f5) k_f6 (bN 7 q_f6) k_f7 f7 k_f8 (bN 4 q_f8) k_f9 (bN 2 q_f9) k_f10 f10 k_f11 f11 k_f12 f12 k_f13 f13 k_f14 f14 k_f15 f15 k_f16 f16) ++ zp 5 25 N az ac kz qs fz) H := by rw [← ef_39]; exact hP
        have hD : va_D A ((gt1__w g gz g1 g2 g3 g4 g5 (nI gc) (nI gfull) gx p1 (-1) (-1) 0 400 (nI a2) (nI a3) g16 g17 k_fgz (zs o 401 az) k_fs1 (bN 7 q_fs1) k_fs2 fs2 k_fs3 fs3 k_fs4 fs4 k_fs5 fs5 k_fhi f_34 k_flo f_39 au (nI nc) (nI np) (nI ne) st0 q4 q5 q6 q7 q8 q9 q10 q11 q12 q13 q14 q15 q16 k_f4 f4 k_f5 (bN 7 q_f5) k_f6 (bN 7 q_f6) k_f7 f7 k_f8 (bN 4 q_f8) k_f9 (bN 2 q_f9) k_f10 f10 k_f11 f11 k_f12 f12 k_f13 f13 k_f14 f14 k_f15 f15 k_f16 f16) ++ zp 5 25 N az ac kz qs fz) := by rw [← ef_39]; exact hD
        have hsp := hsp.trans (slet_eq xf_39)
        refine lv_iinc (v := (nI (g_6 + 1))) (lv' := [(5, .int (nI (g_6 + 1))), (0, .ref g), (1, .ref au), (2, .int p1), (3, .int (nI a2)), (4, .int (nI a3))]) hx hb eX1_plan_107 hl (k := 5) rfl (nI_1 _) (by decide) rfl (fun ls hl => ?_)
        refine lv_goto (tgt := 34) hx hb eX1_plan_110 (by decide) ?_
        exact ih_7 (4 - (g_6 + 1)) (by omega) _ _ _ ⟨f_34, f_39, (g_6 + 1), rfl, (by omega), hin_11 _ hsp, hP, hD, hS, lv_sub hl [1, 2, 3, 4, 5, 0] rfl⟩
      have hsp := hJR_37
      refine lv_icmp_ne (tgt := 99) hx hb eX1_plan_86 (by decide) (fun c_40 => ?_) (fun c_40 => ?_)
      · have hcc_40 := c_40
        have hsp := hsp.trans (if_neg c_40)
        refine lv_aload_n hx hb eX1_plan_99 rfl (lv_at hl 1 rfl) ?_
        refine va_get (D := (dC, dI)) (ci := 0) (v := .ref q16) (C := RX0) (T := TX0) (N := 17) hx hb hts hiX0 hown hK hP 9 rfl rfl 16 (by decide) v_12 (fun _ h9 => h9) rfl eX1_plan_100 ?_
        refine lv_iload hx hb eX1_plan_103 (lv_at hl 5 rfl) ?_
        refine va_iald hx hb hK hP 22 20 rfl rfl (vp_in_nI (n := g_6) (by omega) (Nat.le_of_ble_eq_true rfl)) eX1_plan_105 ?_
        refine lv_topi (fun y_41 ey_41 => ?_)
        have ey_41 : y_41 = f16 g_6 := ey_41.trans (congrArg f16 (nI_clamp (n := g_6) (Nat.lt_of_le_of_lt hg_6 (Nat.le_of_ble_eq_true rfl))))
        have hsp := hsp.trans (slet_eq ey_41)
        exact j_36 _ _ _ _ ⟨y_41, rfl, hsp.symm, hP, hD, hS, lv_sub hl [0, 1, 2, 3, 4, 5] rfl⟩
      · have hcc_40 := c_40
        have hsp := hsp.trans (if_pos c_40)
        refine lv_aload_n hx hb eX1_plan_89 rfl (lv_at hl 1 rfl) ?_
        refine va_get (D := (dC, dI)) (ci := 0) (v := .ref q14) (C := RX0) (T := TX0) (N := 17) hx hb hts hiX0 hown hK hP 9 rfl rfl 14 (by decide) v_10 (fun _ h9 => h9) rfl eX1_plan_90 ?_
        refine lv_iload hx hb eX1_plan_93 (lv_at hl 5 rfl) ?_
        refine va_iald hx hb hK hP 20 18 rfl rfl (vp_in_nI (n := g_6) (by omega) (Nat.le_of_ble_eq_true rfl)) eX1_plan_95 ?_
        refine lv_topi (fun y_42 ey_42 => ?_)
        have ey_42 : y_42 = f14 g_6 := ey_42.trans (congrArg f14 (nI_clamp (n := g_6) (Nat.lt_of_le_of_lt hg_6 (Nat.le_of_ble_eq_true rfl))))
        have hsp := hsp.trans (slet_eq ey_42)
        refine lv_goto (tgt := 106) hx hb eX1_plan_96 (by decide) ?_
        exact j_36 _ _ _ _ ⟨y_42, rfl, hsp.symm, hP, hD, hS, lv_sub hl [0, 1, 2, 3, 4, 5] rfl⟩
    have hsp := hJR_32
    refine lv_icmp_ne (tgt := 67) hx hb eX1_plan_54 (by decide) (fun c_43 => ?_) (fun c_43 => ?_)
    · have hcc_43 := c_43
      have hsp := hsp.trans (if_neg c_43)
      refine lv_aload_n hx hb eX1_plan_67 rfl (lv_at hl 1 rfl) ?_
      refine va_get (D := (dC, dI)) (ci := 0) (v := .ref q15) (C := RX0) (T := TX0) (N := 17) hx hb hts hiX0 hown hK hP 9 rfl rfl 15 (by decide) v_9 (fun _ h9 => h9) rfl eX1_plan_68 ?_
      refine lv_iload hx hb eX1_plan_71 (lv_at hl 5 rfl) ?_
      refine va_iald hx hb hK hP 21 19 rfl rfl (vp_in_nI (n := g_6) (by omega) (Nat.le_of_ble_eq_true rfl)) eX1_plan_73 ?_
      refine lv_topi (fun y_44 ey_44 => ?_)
      have ey_44 : y_44 = f15 g_6 := ey_44.trans (congrArg f15 (nI_clamp (n := g_6) (Nat.lt_of_le_of_lt hg_6 (Nat.le_of_ble_eq_true rfl))))
      have hsp := hsp.trans (slet_eq ey_44)
      exact j_31 _ _ _ _ ⟨y_44, rfl, hsp.symm, hP, hD, hS, lv_sub hl [0, 1, 2, 3, 4, 5] rfl⟩
    · have hcc_43 := c_43
      have hsp := hsp.trans (if_pos c_43)
      refine lv_aload_n hx hb eX1_plan_57 rfl (lv_at hl 1 rfl) ?_
      refine va_get (D := (dC, dI)) (ci := 0) (v := .ref q14) (C := RX0) (T := TX0) (N := 17) hx hb hts hiX0 hown hK hP 9 rfl rfl 14 (by decide) v_10 (fun _ h9 => h9) rfl eX1_plan_58 ?_
      refine lv_iload hx hb eX1_plan_61 (lv_at hl 5 rfl) ?_
      refine va_iald hx hb hK hP 20 18 rfl rfl (vp_in_nI (n := g_6) (by omega) (Nat.le_of_ble_eq_true rfl)) eX1_plan_63 ?_
      refine lv_topi (fun y_45 ey_45 => ?_)
      have ey_45 : y_45 = f14 g_6 := ey_45.trans (congrArg f14 (nI_clamp (n := g_6) (Nat.lt_of_le_of_lt hg_6 (Nat.le_of_ble_eq_true rfl))))
      have hsp := hsp.trans (slet_eq ey_45)
      refine lv_goto (tgt := 74) hx hb eX1_plan_64 (by decide) ?_
      exact j_31 _ _ _ _ ⟨y_45, rfl, hsp.symm, hP, hD, hS, lv_sub hl [0, 1, 2, 3, 4, 5] rfl⟩
