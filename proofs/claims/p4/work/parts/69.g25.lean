abbrev vs_C_1_plan_25 : List Cond := .code yX1_plan cX1_plan 6 none :: CM
set_option maxHeartbeats 4000000 in
set_option maxRecDepth 100000 in
theorem c_C_1_plan_25 (l : Launch) (dC : Nat → ClassId) (dI : Nat → Nat → Nat) (sz : Nat) (g : Nat) (gz : Nat) (g1 : Nat) (g2 : Nat) (g3 : Nat) (g4 : Nat) (g5 : Nat) (gc : Nat) (gfull : Nat) (gx : Int32) (gway : Int32) (gav : Int32) (ggoal : Int32) (gfound : Nat) (gl : Nat) (gsz : Nat) (g16 : Nat) (g17 : Nat) (k_fgz : ClassId) (k_fs1 : ClassId) (q_fs1 : Nat → Nat) (k_fs2 : ClassId) (fs2 : Nat → Int32) (k_fs3 : ClassId) (fs3 : Nat → Int32) (k_fs4 : ClassId) (fs4 : Nat → Int32) (k_fs5 : ClassId) (fs5 : Nat → Int32) (k_fhi : ClassId) (fhi : Nat → Int32) (k_flo : ClassId) (flo : Nat → Int32) (au : Nat) (nc : Nat) (np : Nat) (ne : Nat) (st0 : Int32) (q4 : Nat) (q5 : Nat) (q6 : Nat) (q7 : Nat) (q8 : Nat) (q9 : Nat) (q10 : Nat) (q11 : Nat) (q12 : Nat) (q13 : Nat) (q14 : Nat) (q15 : Nat) (q16 : Nat) (k_f4 : ClassId) (f4 : Nat → Int32) (k_f5 : ClassId) (q_f5 : Nat → Nat) (k_f6 : ClassId) (q_f6 : Nat → Nat) (k_f7 : ClassId) (f7 : Nat → Int32) (k_f8 : ClassId) (q_f8 : Nat → Nat) (k_f9 : ClassId) (q_f9 : Nat → Nat) (k_f10 : ClassId) (f10 : Nat → Int32) (k_f11 : ClassId) (f11 : Nat → Int32) (k_f12 : ClassId) (f12 : Nat → Int32) (k_f13 : ClassId) (f13 : Nat → Int32) (k_f14 : ClassId) (f14 : Nat → Int32) (k_f15 : ClassId) (f15 : Nat → Int32) (k_f16 : ClassId) (f16 : Nat → Int32) (N : Nat) (o : Nat) (az ac : Nat → Nat) (kz : Nat → ClassId) (qs : Nat → Nat) (fz : Nat → Nat → Int32) (p1 : Int32) (a2 : Nat) (a3 : Nat) (hgc : gc ≤ 400) (hgfull : gfull ≤ 1) (hgfound : gfound ≤ 1) (hgl : gl ≤ 1) (hgsz : gsz ≤ 5) (hnc : nc ≤ 3) (hnp : np ≤ 8) (hne : ne ≤ 14) (hst0 : pm1 7 st0) (hN : o + 401 ≤ N) (ha2 : a2 ≤ 1) (ha3 : a3 ≤ 5) : Met l yX1_plan vs_C_1_plan_25 ({ frames := 0, cells := 0, slots := 0, locals := 0 }) (va_Pc [.ref g, .ref au, .int p1, .int (nI a2), .int (nI a3)] (pu_B (dC, dI) ((gt1__w g gz g1 g2 g3 g4 g5 (nI gc) (nI gfull) gx gway gav ggoal (nI gfound) 400 (nI gl) (nI gsz) g16 g17 k_fgz (zs o 401 az) k_fs1 (bN 7 q_fs1) k_fs2 fs2 k_fs3 fs3 k_fs4 fs4 k_fs5 fs5 k_fhi fhi k_flo flo au (nI nc) (nI np) (nI ne) st0 q4 q5 q6 q7 q8 q9 q10 q11 q12 q13 q14 q15 q16 k_f4 f4 k_f5 (bN 7 q_f5) k_f6 (bN 7 q_f6) k_f7 f7 k_f8 (bN 4 q_f8) k_f9 (bN 2 q_f9) k_f10 f10 k_f11 f11 k_f12 f12 k_f13 f13 k_f14 f14 k_f15 f15 k_f16 f16) ++ zp 5 25 N az ac kz qs fz) ((gt1__t k_fgz k_fs1 k_fs2 k_fs3 k_fs4 k_fs5 k_fhi k_flo k_f4 k_f5 k_f6 k_f7 k_f8 k_f9 k_f10 k_f11 k_f12 k_f13 k_f14 k_f15 k_f16) ++ zt N kz) sz)) (va_Qv (fun (_ : Unit) => True) (fun _ t => ∃ (z_fhi : Nat → Int32) (z_flo : Nat → Int32) (z_gav : Int32) (z_ggoal : Int32) (z_gfound : Nat) (z_gl : Nat) (z_gsz : Nat) (z_gway : Int32), pu_E (dC, dI) ((gt1__w g gz g1 g2 g3 g4 g5 (nI gc) (nI gfull) gx z_gway z_gav z_ggoal (nI z_gfound) 400 (nI z_gl) (nI z_gsz) g16 g17 k_fgz (zs o 401 az) k_fs1 (bN 7 q_fs1) k_fs2 fs2 k_fs3 fs3 k_fs4 fs4 k_fs5 fs5 k_fhi z_fhi k_flo z_flo au (nI nc) (nI np) (nI ne) st0 q4 q5 q6 q7 q8 q9 q10 q11 q12 q13 q14 q15 q16 k_f4 f4 k_f5 (bN 7 q_f5) k_f6 (bN 7 q_f6) k_f7 f7 k_f8 (bN 4 q_f8) k_f9 (bN 2 q_f9) k_f10 f10 k_f11 f11 k_f12 f12 k_f13 f13 k_f14 f14 k_f15 f15 k_f16 f16) ++ zp 5 25 N az ac kz qs fz) ((gt1__t k_fgz k_fs1 k_fs2 k_fs3 k_fs4 k_fs5 k_fhi k_flo k_f4 k_f5 k_f6 k_f7 k_f8 k_f9 k_f10 k_f11 k_f12 k_f13 k_f14 k_f15 k_f16) ++ zt N kz) (va_A (((gt1__w g gz g1 g2 g3 g4 g5 (nI gc) (nI gfull) gx gway gav ggoal (nI gfound) 400 (nI gl) (nI gsz) g16 g17 k_fgz (zs o 401 az) k_fs1 (bN 7 q_fs1) k_fs2 fs2 k_fs3 fs3 k_fs4 fs4 k_fs5 fs5 k_fhi fhi k_flo flo au (nI nc) (nI np) (nI ne) st0 q4 q5 q6 q7 q8 q9 q10 q11 q12 q13 q14 q15 q16 k_f4 f4 k_f5 (bN 7 q_f5) k_f6 (bN 7 q_f6) k_f7 f7 k_f8 (bN 4 q_f8) k_f9 (bN 2 q_f9) k_f10 f10 k_f11 f11 k_f12 f12 k_f13 f13 k_f14 f14 k_f15 f15 k_f16 f16) ++ zp 5 25 N az ac kz qs fz)) sz) t ∧ (z_gfound ≤ 1) ∧ (z_gl ≤ 1) ∧ (z_gsz ≤ 5)) (va_A (((gt1__w g gz g1 g2 g3 g4 g5 (nI gc) (nI gfull) gx gway gav ggoal (nI gfound) 400 (nI gl) (nI gsz) g16 g17 k_fgz (zs o 401 az) k_fs1 (bN 7 q_fs1) k_fs2 fs2 k_fs3 fs3 k_fs4 fs4 k_fs5 fs5 k_fhi fhi k_flo flo au (nI nc) (nI np) (nI ne) st0 q4 q5 q6 q7 q8 q9 q10 q11 q12 q13 q14 q15 q16 k_f4 f4 k_f5 (bN 7 q_f5) k_f6 (bN 7 q_f6) k_f7 f7 k_f8 (bN 4 q_f8) k_f9 (bN 2 q_f9) k_f10 f10 k_f11 f11 k_f12 f12 k_f13 f13 k_f14 f14 k_f15 f15 k_f16 f16) ++ zp 5 25 N az ac kz qs fz)) sz)) 0 0 (va_A (((gt1__w g gz g1 g2 g3 g4 g5 (nI gc) (nI gfull) gx gway gav ggoal (nI gfound) 400 (nI gl) (nI gsz) g16 g17 k_fgz (zs o 401 az) k_fs1 (bN 7 q_fs1) k_fs2 fs2 k_fs3 fs3 k_fs4 fs4 k_fs5 fs5 k_fhi fhi k_flo flo au (nI nc) (nI np) (nI ne) st0 q4 q5 q6 q7 q8 q9 q10 q11 q12 q13 q14 q15 q16 k_f4 f4 k_f5 (bN 7 q_f5) k_f6 (bN 7 q_f6) k_f7 f7 k_f8 (bN 4 q_f8) k_f9 (bN 2 q_f9) k_f10 f10 k_f11 f11 k_f12 f12 k_f13 f13 k_f14 f14 k_f15 f15 k_f16 f16) ++ zp 5 25 N az ac kz qs fz)) sz) := by
  refine Met.ofW (cc := cX1_plan) (maxL := 6) (ret := none) (by decide) rfl ?_
  intro p e s m args below meth c s₁ B hml hv
  obtain ⟨rfl, rfl, hP, hK, hD0⟩ := hv
  have hx := B.exec
  have hb := B.bytes
  have hr := B.returns
  have hts := atoms_spec (ws := vs_C_1_plan_25) B.pre
  have v_1 := hts (.fieldLink RX1 46 "ClockReach$Graph" "way" "I") (List.mem_cons_of_mem _ cm_76)
  have v_2 := hts (.fieldLink RX1 49 "ClockReach$Graph" "leaves" "Z") (List.mem_cons_of_mem _ cm_77)
  have v_3 := hts (.fieldLink RX1 53 "ClockReach$Graph" "size" "I") (List.mem_cons_of_mem _ cm_78)
  have v_4 := hts (.fieldLink RX1 56 "ClockReach$Graph" "avoided" "I") (List.mem_cons_of_mem _ cm_79)
  have v_5 := hts (.fieldLink RX1 59 "ClockReach$Graph" "goal" "I") (List.mem_cons_of_mem _ cm_80)
  have v_6 := hts (.fieldLink RX1 62 "ClockReach$Graph" "found" "Z") (List.mem_cons_of_mem _ cm_81)
  have v_7 := hts (.fieldLink RX1 65 "ClockReach$Automaton" "clocks" "I") (List.mem_cons_of_mem _ cm_82)
  have v_8 := hts (.fieldLink RX1 40 "ClockReach$Graph" "high" "[I") (List.mem_cons_of_mem _ cm_83)
  have v_9 := hts (.fieldLink RX1 73 "ClockReach$Automaton" "lower" "[I") (List.mem_cons_of_mem _ cm_85)
  have v_10 := hts (.fieldLink RX1 70 "ClockReach$Automaton" "greatest" "[I") (List.mem_cons_of_mem _ cm_84)
  have v_11 := hts (.fieldLink RX1 43 "ClockReach$Graph" "low" "[I") (List.mem_cons_of_mem _ cm_86)
  have v_12 := hts (.fieldLink RX1 76 "ClockReach$Automaton" "upper" "[I") (List.mem_cons_of_mem _ cm_87)
  have hown : s.vm.findClass RX1 = some m.cls := findClass_of_methodNamed B.named
  have hlocks := B.notSynchronized
  have hiX0 : ∀ w ∈ wsX00, w ∈ vs_C_1_plan_25 := fun _ h => List.mem_cons_of_mem _ (cm_X0 h)
  have hiX1 : ∀ w ∈ wsX10, w ∈ vs_C_1_plan_25 := fun _ h => List.mem_cons_of_mem _ (cm_X1 h)
  have hD := hD0.self (sz := s.heap.size)
  generalize hAe : va_A (((gt1__w g gz g1 g2 g3 g4 g5 (nI gc) (nI gfull) gx gway gav ggoal (nI gfound) 400 (nI gl) (nI gsz) g16 g17 k_fgz (zs o 401 az) k_fs1 (bN 7 q_fs1) k_fs2 fs2 k_fs3 fs3 k_fs4 fs4 k_fs5 fs5 k_fhi fhi k_flo flo au (nI nc) (nI np) (nI ne) st0 q4 q5 q6 q7 q8 q9 q10 q11 q12 q13 q14 q15 q16 k_f4 f4 k_f5 (bN 7 q_f5) k_f6 (bN 7 q_f6) k_f7 f7 k_f8 (bN 4 q_f8) k_f9 (bN 2 q_f9) k_f10 f10 k_f11 f11 k_f12 f12 k_f13 f13 k_f14 f14 k_f15 f15 k_f16 f16) ++ zp 5 25 N az ac kz qs fz)) s.heap.size = A at hD ⊢
  have hA : ∀ q : Nat, s.heap.size ≤ q → A q := fun q h => by rw [← hAe]; exact Or.inr h
  have hS : va_S A s.heap s.heap [] := va_S.rf
  have hl := lv_entry ([.ref g, .ref au, .int p1, .int (nI a2), .int (nI a3)]) (n := 6) (Nat.le_of_ble_eq_true rfl)
  rw [lg_entry_eq]
  generalize (lg_sl ([.ref g, .ref au, .int p1, .int (nI a2), .int (nI a3)]) ++ List.replicate (6 - (lg_sl ([.ref g, .ref au, .int p1, .int (nI a2), .int (nI a3)])).length) Slot.unset).toArray = ls at hl ⊢
  have hl : lv_has ls 6 [(0, .ref g), (1, .ref au), (2, .int p1), (3, .int (nI a2)), (4, .int (nI a3))] := hl
  refine lv_aload_n hx hb eX1_plan_0 rfl (lv_at hl 0 rfl) ?_
  refine lv_iload_n hx hb eX1_plan_1 rfl (lv_at hl 2 rfl) ?_
  refine va_put (D := (dC, dI)) (ci := 1) (v := .int p1) (ty := .int) (C := RX1) (T := TX1) (N := 18) hx hb hts hiX1 tyX1 tyX1_ok nmX1 hown hK hP hD hS 0 rfl rfl 9 (by decide) v_1 (fun _ h9 => h9) rfl (by decide +kernel) rfl rfl (Nat.le_of_ble_eq_true rfl) eX1_plan_2 (fun H locs hP hD hS => ?_)
  have hP : va_P (dC, dI) vwCl ((gt1__w g gz g1 g2 g3 g4 g5 (nI gc) (nI gfull) gx p1 gav ggoal (nI gfound) 400 (nI gl) (nI gsz) g16 g17 k_fgz (zs o 401 az) k_fs1 (bN 7 q_fs1) k_fs2 fs2 k_fs3 fs3 k_fs4 fs4 k_fs5 fs5 k_fhi fhi k_flo flo au (nI nc) (nI np) (nI ne) st0 q4 q5 q6 q7 q8 q9 q10 q11 q12 q13 q14 q15 q16 k_f4 f4 k_f5 (bN 7 q_f5) k_f6 (bN 7 q_f6) k_f7 f7 k_f8 (bN 4 q_f8) k_f9 (bN 2 q_f9) k_f10 f10 k_f11 f11 k_f12 f12 k_f13 f13 k_f14 f14 k_f15 f15 k_f16 f16) ++ zp 5 25 N az ac kz qs fz) H := hP
  have hD : va_D A ((gt1__w g gz g1 g2 g3 g4 g5 (nI gc) (nI gfull) gx p1 gav ggoal (nI gfound) 400 (nI gl) (nI gsz) g16 g17 k_fgz (zs o 401 az) k_fs1 (bN 7 q_fs1) k_fs2 fs2 k_fs3 fs3 k_fs4 fs4 k_fs5 fs5 k_fhi fhi k_flo flo au (nI nc) (nI np) (nI ne) st0 q4 q5 q6 q7 q8 q9 q10 q11 q12 q13 q14 q15 q16 k_f4 f4 k_f5 (bN 7 q_f5) k_f6 (bN 7 q_f6) k_f7 f7 k_f8 (bN 4 q_f8) k_f9 (bN 2 q_f9) k_f10 f10 k_f11 f11 k_f12 f12 k_f13 f13 k_f14 f14 k_f15 f15 k_f16 f16) ++ zp 5 25 N az ac kz qs fz) := hD
  refine lv_aload_n hx hb eX1_plan_5 rfl (lv_at hl 0 rfl) ?_
  refine lv_iload_n hx hb eX1_plan_6 rfl (lv_at hl 3 rfl) ?_
  refine va_put (D := (dC, dI)) (ci := 1) (v := .int (nI a2)) (ty := .boolean) (C := RX1) (T := TX1) (N := 18) hx hb hts hiX1 tyX1 tyX1_ok nmX1 hown hK hP hD hS 0 rfl rfl 14 (by decide) v_2 (fun _ h9 => h9) rfl (by decide +kernel) (pu_nz (pu_b1 (n := a2) (by omega))) (pu_fz (pu_b1 (n := a2) (by omega))) (Nat.le_of_ble_eq_true rfl) eX1_plan_7 (fun H locs hP hD hS => ?_)
  have hP : va_P (dC, dI) vwCl ((gt1__w g gz g1 g2 g3 g4 g5 (nI gc) (nI gfull) gx p1 gav ggoal (nI gfound) 400 (nI a2) (nI gsz) g16 g17 k_fgz (zs o 401 az) k_fs1 (bN 7 q_fs1) k_fs2 fs2 k_fs3 fs3 k_fs4 fs4 k_fs5 fs5 k_fhi fhi k_flo flo au (nI nc) (nI np) (nI ne) st0 q4 q5 q6 q7 q8 q9 q10 q11 q12 q13 q14 q15 q16 k_f4 f4 k_f5 (bN 7 q_f5) k_f6 (bN 7 q_f6) k_f7 f7 k_f8 (bN 4 q_f8) k_f9 (bN 2 q_f9) k_f10 f10 k_f11 f11 k_f12 f12 k_f13 f13 k_f14 f14 k_f15 f15 k_f16 f16) ++ zp 5 25 N az ac kz qs fz) H := hP
  have hD : va_D A ((gt1__w g gz g1 g2 g3 g4 g5 (nI gc) (nI gfull) gx p1 gav ggoal (nI gfound) 400 (nI a2) (nI gsz) g16 g17 k_fgz (zs o 401 az) k_fs1 (bN 7 q_fs1) k_fs2 fs2 k_fs3 fs3 k_fs4 fs4 k_fs5 fs5 k_fhi fhi k_flo flo au (nI nc) (nI np) (nI ne) st0 q4 q5 q6 q7 q8 q9 q10 q11 q12 q13 q14 q15 q16 k_f4 f4 k_f5 (bN 7 q_f5) k_f6 (bN 7 q_f6) k_f7 f7 k_f8 (bN 4 q_f8) k_f9 (bN 2 q_f9) k_f10 f10 k_f11 f11 k_f12 f12 k_f13 f13 k_f14 f14 k_f15 f15 k_f16 f16) ++ zp 5 25 N az ac kz qs fz) := hD
  refine lv_aload_n hx hb eX1_plan_10 rfl (lv_at hl 0 rfl) ?_
  refine lv_iload hx hb eX1_plan_11 (lv_at hl 4 rfl) ?_
  refine va_put (D := (dC, dI)) (ci := 1) (v := .int (nI a3)) (ty := .int) (C := RX1) (T := TX1) (N := 18) hx hb hts hiX1 tyX1 tyX1_ok nmX1 hown hK hP hD hS 0 rfl rfl 15 (by decide) v_3 (fun _ h9 => h9) rfl (by decide +kernel) rfl rfl (Nat.le_of_ble_eq_true rfl) eX1_plan_13 (fun H locs hP hD hS => ?_)
  have hP : va_P (dC, dI) vwCl ((gt1__w g gz g1 g2 g3 g4 g5 (nI gc) (nI gfull) gx p1 gav ggoal (nI gfound) 400 (nI a2) (nI a3) g16 g17 k_fgz (zs o 401 az) k_fs1 (bN 7 q_fs1) k_fs2 fs2 k_fs3 fs3 k_fs4 fs4 k_fs5 fs5 k_fhi fhi k_flo flo au (nI nc) (nI np) (nI ne) st0 q4 q5 q6 q7 q8 q9 q10 q11 q12 q13 q14 q15 q16 k_f4 f4 k_f5 (bN 7 q_f5) k_f6 (bN 7 q_f6) k_f7 f7 k_f8 (bN 4 q_f8) k_f9 (bN 2 q_f9) k_f10 f10 k_f11 f11 k_f12 f12 k_f13 f13 k_f14 f14 k_f15 f15 k_f16 f16) ++ zp 5 25 N az ac kz qs fz) H := hP
  have hD : va_D A ((gt1__w g gz g1 g2 g3 g4 g5 (nI gc) (nI gfull) gx p1 gav ggoal (nI gfound) 400 (nI a2) (nI a3) g16 g17 k_fgz (zs o 401 az) k_fs1 (bN 7 q_fs1) k_fs2 fs2 k_fs3 fs3 k_fs4 fs4 k_fs5 fs5 k_fhi fhi k_flo flo au (nI nc) (nI np) (nI ne) st0 q4 q5 q6 q7 q8 q9 q10 q11 q12 q13 q14 q15 q16 k_f4 f4 k_f5 (bN 7 q_f5) k_f6 (bN 7 q_f6) k_f7 f7 k_f8 (bN 4 q_f8) k_f9 (bN 2 q_f9) k_f10 f10 k_f11 f11 k_f12 f12 k_f13 f13 k_f14 f14 k_f15 f15 k_f16 f16) ++ zp 5 25 N az ac kz qs fz) := hD
  refine lv_aload_n hx hb eX1_plan_16 rfl (lv_at hl 0 rfl) ?_
  refine lv_iconst (v := (-1)) hx hb eX1_plan_17 (by decide) ?_
  refine va_put (D := (dC, dI)) (ci := 1) (v := .int (-1)) (ty := .int) (C := RX1) (T := TX1) (N := 18) hx hb hts hiX1 tyX1 tyX1_ok nmX1 hown hK hP hD hS 0 rfl rfl 10 (by decide) v_4 (fun _ h9 => h9) rfl (by decide +kernel) rfl rfl (Nat.le_of_ble_eq_true rfl) eX1_plan_18 (fun H locs hP hD hS => ?_)
  have hP : va_P (dC, dI) vwCl ((gt1__w g gz g1 g2 g3 g4 g5 (nI gc) (nI gfull) gx p1 (-1) ggoal (nI gfound) 400 (nI a2) (nI a3) g16 g17 k_fgz (zs o 401 az) k_fs1 (bN 7 q_fs1) k_fs2 fs2 k_fs3 fs3 k_fs4 fs4 k_fs5 fs5 k_fhi fhi k_flo flo au (nI nc) (nI np) (nI ne) st0 q4 q5 q6 q7 q8 q9 q10 q11 q12 q13 q14 q15 q16 k_f4 f4 k_f5 (bN 7 q_f5) k_f6 (bN 7 q_f6) k_f7 f7 k_f8 (bN 4 q_f8) k_f9 (bN 2 q_f9) k_f10 f10 k_f11 f11 k_f12 f12 k_f13 f13 k_f14 f14 k_f15 f15 k_f16 f16) ++ zp 5 25 N az ac kz qs fz) H := hP
  have hD : va_D A ((gt1__w g gz g1 g2 g3 g4 g5 (nI gc) (nI gfull) gx p1 (-1) ggoal (nI gfound) 400 (nI a2) (nI a3) g16 g17 k_fgz (zs o 401 az) k_fs1 (bN 7 q_fs1) k_fs2 fs2 k_fs3 fs3 k_fs4 fs4 k_fs5 fs5 k_fhi fhi k_flo flo au (nI nc) (nI np) (nI ne) st0 q4 q5 q6 q7 q8 q9 q10 q11 q12 q13 q14 q15 q16 k_f4 f4 k_f5 (bN 7 q_f5) k_f6 (bN 7 q_f6) k_f7 f7 k_f8 (bN 4 q_f8) k_f9 (bN 2 q_f9) k_f10 f10 k_f11 f11 k_f12 f12 k_f13 f13 k_f14 f14 k_f15 f15 k_f16 f16) ++ zp 5 25 N az ac kz qs fz) := hD
  refine lv_aload_n hx hb eX1_plan_21 rfl (lv_at hl 0 rfl) ?_
  refine lv_iconst (v := (-1)) hx hb eX1_plan_22 (by decide) ?_
  refine va_put (D := (dC, dI)) (ci := 1) (v := .int (-1)) (ty := .int) (C := RX1) (T := TX1) (N := 18) hx hb hts hiX1 tyX1 tyX1_ok nmX1 hown hK hP hD hS 0 rfl rfl 11 (by decide) v_5 (fun _ h9 => h9) rfl (by decide +kernel) rfl rfl (Nat.le_of_ble_eq_true rfl) eX1_plan_23 (fun H locs hP hD hS => ?_)
  have hP : va_P (dC, dI) vwCl ((gt1__w g gz g1 g2 g3 g4 g5 (nI gc) (nI gfull) gx p1 (-1) (-1) (nI gfound) 400 (nI a2) (nI a3) g16 g17 k_fgz (zs o 401 az) k_fs1 (bN 7 q_fs1) k_fs2 fs2 k_fs3 fs3 k_fs4 fs4 k_fs5 fs5 k_fhi fhi k_flo flo au (nI nc) (nI np) (nI ne) st0 q4 q5 q6 q7 q8 q9 q10 q11 q12 q13 q14 q15 q16 k_f4 f4 k_f5 (bN 7 q_f5) k_f6 (bN 7 q_f6) k_f7 f7 k_f8 (bN 4 q_f8) k_f9 (bN 2 q_f9) k_f10 f10 k_f11 f11 k_f12 f12 k_f13 f13 k_f14 f14 k_f15 f15 k_f16 f16) ++ zp 5 25 N az ac kz qs fz) H := hP
  have hD : va_D A ((gt1__w g gz g1 g2 g3 g4 g5 (nI gc) (nI gfull) gx p1 (-1) (-1) (nI gfound) 400 (nI a2) (nI a3) g16 g17 k_fgz (zs o 401 az) k_fs1 (bN 7 q_fs1) k_fs2 fs2 k_fs3 fs3 k_fs4 fs4 k_fs5 fs5 k_fhi fhi k_flo flo au (nI nc) (nI np) (nI ne) st0 q4 q5 q6 q7 q8 q9 q10 q11 q12 q13 q14 q15 q16 k_f4 f4 k_f5 (bN 7 q_f5) k_f6 (bN 7 q_f6) k_f7 f7 k_f8 (bN 4 q_f8) k_f9 (bN 2 q_f9) k_f10 f10 k_f11 f11 k_f12 f12 k_f13 f13 k_f14 f14 k_f15 f15 k_f16 f16) ++ zp 5 25 N az ac kz qs fz) := hD
  refine lv_aload_n hx hb eX1_plan_26 rfl (lv_at hl 0 rfl) ?_
  refine lv_iconst (v := 0) hx hb eX1_plan_27 (by decide) ?_
  refine va_put (D := (dC, dI)) (ci := 1) (v := .int 0) (ty := .boolean) (C := RX1) (T := TX1) (N := 18) hx hb hts hiX1 tyX1 tyX1_ok nmX1 hown hK hP hD hS 0 rfl rfl 12 (by decide) v_6 (fun _ h9 => h9) rfl (by decide +kernel) rfl rfl (Nat.le_of_ble_eq_true rfl) eX1_plan_28 (fun H locs hP hD hS => ?_)
  have hP : va_P (dC, dI) vwCl ((gt1__w g gz g1 g2 g3 g4 g5 (nI gc) (nI gfull) gx p1 (-1) (-1) 0 400 (nI a2) (nI a3) g16 g17 k_fgz (zs o 401 az) k_fs1 (bN 7 q_fs1) k_fs2 fs2 k_fs3 fs3 k_fs4 fs4 k_fs5 fs5 k_fhi fhi k_flo flo au (nI nc) (nI np) (nI ne) st0 q4 q5 q6 q7 q8 q9 q10 q11 q12 q13 q14 q15 q16 k_f4 f4 k_f5 (bN 7 q_f5) k_f6 (bN 7 q_f6) k_f7 f7 k_f8 (bN 4 q_f8) k_f9 (bN 2 q_f9) k_f10 f10 k_f11 f11 k_f12 f12 k_f13 f13 k_f14 f14 k_f15 f15 k_f16 f16) ++ zp 5 25 N az ac kz qs fz) H := hP
  have hD : va_D A ((gt1__w g gz g1 g2 g3 g4 g5 (nI gc) (nI gfull) gx p1 (-1) (-1) 0 400 (nI a2) (nI a3) g16 g17 k_fgz (zs o 401 az) k_fs1 (bN 7 q_fs1) k_fs2 fs2 k_fs3 fs3 k_fs4 fs4 k_fs5 fs5 k_fhi fhi k_flo flo au (nI nc) (nI np) (nI ne) st0 q4 q5 q6 q7 q8 q9 q10 q11 q12 q13 q14 q15 q16 k_f4 f4 k_f5 (bN 7 q_f5) k_f6 (bN 7 q_f6) k_f7 f7 k_f8 (bN 4 q_f8) k_f9 (bN 2 q_f9) k_f10 f10 k_f11 f11 k_f12 f12 k_f13 f13 k_f14 f14 k_f15 f15 k_f16 f16) ++ zp 5 25 N az ac kz qs fz) := hD
  refine lv_iconst (v := 0) hx hb eX1_plan_31 (by decide) ?_
  refine lv_istore (lv' := [(5, .int 0), (0, .ref g), (1, .ref au), (2, .int p1), (3, .int (nI a2)), (4, .int (nI a3))]) hx hb eX1_plan_32 hl (by decide) rfl (fun ls hl => ?_)
  refine pu_while (fun nn H locs ls => ∃ (g_4 : Nat → Int32) (g_5 : Nat → Int32) (g_6 : Nat), nn = 4 - g_6 ∧ g_6 ≤ 4 ∧ va_P (dC, dI) vwCl ((gt1__w g gz g1 g2 g3 g4 g5 (nI gc) (nI gfull) gx p1 (-1) (-1) 0 400 (nI a2) (nI a3) g16 g17 k_fgz (zs o 401 az) k_fs1 (bN 7 q_fs1) k_fs2 fs2 k_fs3 fs3 k_fs4 fs4 k_fs5 fs5 k_fhi g_4 k_flo g_5 au (nI nc) (nI np) (nI ne) st0 q4 q5 q6 q7 q8 q9 q10 q11 q12 q13 q14 q15 q16 k_f4 f4 k_f5 (bN 7 q_f5) k_f6 (bN 7 q_f6) k_f7 f7 k_f8 (bN 4 q_f8) k_f9 (bN 2 q_f9) k_f10 f10 k_f11 f11 k_f12 f12 k_f13 f13 k_f14 f14 k_f15 f15 k_f16 f16) ++ zp 5 25 N az ac kz qs fz) H ∧ va_D A ((gt1__w g gz g1 g2 g3 g4 g5 (nI gc) (nI gfull) gx p1 (-1) (-1) 0 400 (nI a2) (nI a3) g16 g17 k_fgz (zs o 401 az) k_fs1 (bN 7 q_fs1) k_fs2 fs2 k_fs3 fs3 k_fs4 fs4 k_fs5 fs5 k_fhi g_4 k_flo g_5 au (nI nc) (nI np) (nI ne) st0 q4 q5 q6 q7 q8 q9 q10 q11 q12 q13 q14 q15 q16 k_f4 f4 k_f5 (bN 7 q_f5) k_f6 (bN 7 q_f6) k_f7 f7 k_f8 (bN 4 q_f8) k_f9 (bN 2 q_f9) k_f10 f10 k_f11 f11 k_f12 f12 k_f13 f13 k_f14 f14 k_f15 f15 k_f16 f16) ++ zp 5 25 N az ac kz qs fz) ∧ va_S A s.heap H locs ∧ lv_has ls 6 [(0, .ref g), (1, .ref au), (2, .int p1), (3, .int (nI a2)), (4, .int (nI a3)), (5, .int (nI g_6))]) 34 ?_ _ _ _ _ ⟨fhi, flo, 0, rfl, (Nat.le_of_ble_eq_true rfl), hP, hD, hS, lv_sub hl [1, 2, 3, 4, 5, 0] rfl⟩
  rintro nn ih_7 H locs ls ⟨g_4, g_5, g_6, rfl, hg_6, hP, hD, hS, hl⟩
  refine lv_iload hx hb eX1_plan_34 (lv_at hl 5 rfl) ?_
  refine lv_aload_n hx hb eX1_plan_36 rfl (lv_at hl 1 rfl) ?_
  refine va_get (D := (dC, dI)) (ci := 0) (v := .int (nI nc)) (C := RX0) (T := TX0) (N := 17) hx hb hts hiX0 hown hK hP 9 rfl rfl 0 (by decide) v_7 (fun _ h9 => h9) rfl eX1_plan_37 ?_
  refine lv_icmp_gt (tgt := 113) hx hb eX1_plan_40 (by decide) (fun c_8 => ?_) (fun c_8 => ?_)
  · have c_8 : nc < g_6 := (nI_ltI (a := nc) (b := g_6) (Nat.lt_of_le_of_lt hnc (Nat.le_of_ble_eq_true rfl)) (Nat.lt_of_le_of_lt hg_6 (Nat.le_of_ble_eq_true rfl))).mp c_8
    refine lv_aload_n hx hb eX1_plan_113 rfl (lv_at hl 1 rfl) ?_
    refine va_get (D := (dC, dI)) (ci := 0) (v := .int (nI nc)) (C := RX0) (T := TX0) (N := 17) hx hb hts hiX0 hown hK hP 9 rfl rfl 0 (by decide) v_7 (fun _ h9 => h9) rfl eX1_plan_114 ?_
    refine lv_iconst (v := 1) hx hb eX1_plan_117 (by decide) ?_
    refine lv_iadd hx hb eX1_plan_118 ?_
    refine lv_topi (fun y_9 ey_9 => ?_)
    obtain rfl : y_9 = (nI (nc + 1)) := ey_9.trans (nI_add nc 1)
    refine lv_istore (lv' := [(5, .int (nI (nc + 1))), (0, .ref g), (1, .ref au), (2, .int p1), (3, .int (nI a2)), (4, .int (nI a3))]) hx hb eX1_plan_119 hl (by decide) rfl (fun ls hl => ?_)
    refine pu_while (fun nn H locs ls => ∃ (g_13 : Nat → Int32) (g_14 : Nat → Int32) (g_15 : Nat), nn = 5 - g_15 ∧ (1 ≤ g_15 ∧ g_15 ≤ 5) ∧ va_P (dC, dI) vwCl ((gt1__w g gz g1 g2 g3 g4 g5 (nI gc) (nI gfull) gx p1 (-1) (-1) 0 400 (nI a2) (nI a3) g16 g17 k_fgz (zs o 401 az) k_fs1 (bN 7 q_fs1) k_fs2 fs2 k_fs3 fs3 k_fs4 fs4 k_fs5 fs5 k_fhi g_13 k_flo g_14 au (nI nc) (nI np) (nI ne) st0 q4 q5 q6 q7 q8 q9 q10 q11 q12 q13 q14 q15 q16 k_f4 f4 k_f5 (bN 7 q_f5) k_f6 (bN 7 q_f6) k_f7 f7 k_f8 (bN 4 q_f8) k_f9 (bN 2 q_f9) k_f10 f10 k_f11 f11 k_f12 f12 k_f13 f13 k_f14 f14 k_f15 f15 k_f16 f16) ++ zp 5 25 N az ac kz qs fz) H ∧ va_D A ((gt1__w g gz g1 g2 g3 g4 g5 (nI gc) (nI gfull) gx p1 (-1) (-1) 0 400 (nI a2) (nI a3) g16 g17 k_fgz (zs o 401 az) k_fs1 (bN 7 q_fs1) k_fs2 fs2 k_fs3 fs3 k_fs4 fs4 k_fs5 fs5 k_fhi g_13 k_flo g_14 au (nI nc) (nI np) (nI ne) st0 q4 q5 q6 q7 q8 q9 q10 q11 q12 q13 q14 q15 q16 k_f4 f4 k_f5 (bN 7 q_f5) k_f6 (bN 7 q_f6) k_f7 f7 k_f8 (bN 4 q_f8) k_f9 (bN 2 q_f9) k_f10 f10 k_f11 f11 k_f12 f12 k_f13 f13 k_f14 f14 k_f15 f15 k_f16 f16) ++ zp 5 25 N az ac kz qs fz) ∧ va_S A s.heap H locs ∧ lv_has ls 6 [(0, .ref g), (1, .ref au), (2, .int p1), (3, .int (nI a2)), (4, .int (nI a3)), (5, .int (nI g_15))]) 121 ?_ _ _ _ _ ⟨g_4, g_5, (nc + 1), rfl, ⟨by omega, by omega⟩, hP, hD, hS, lv_sub hl [1, 2, 3, 4, 5, 0] rfl⟩
    rintro nn ih_16 H locs ls ⟨g_13, g_14, g_15, rfl, hg_15, hP, hD, hS, hl⟩
    refine lv_iload hx hb eX1_plan_121 (lv_at hl 5 rfl) ?_
    refine lv_aload_n hx hb eX1_plan_123 rfl (lv_at hl 0 rfl) ?_
    refine va_get (D := (dC, dI)) (ci := 1) (v := .int (nI a3)) (C := RX1) (T := TX1) (N := 18) hx hb hts hiX1 hown hK hP 0 rfl rfl 15 (by decide) v_3 (fun _ h9 => h9) rfl eX1_plan_124 ?_
    refine lv_icmp_ge (tgt := 153) hx hb eX1_plan_127 (by decide) (fun c_17 => ?_) (fun c_17 => ?_)
    · have c_17 : a3 ≤ g_15 := (nI_leI (a := a3) (b := g_15) (Nat.lt_of_le_of_lt ha3 (Nat.le_of_ble_eq_true rfl)) (Nat.lt_of_le_of_lt hg_15.2 (Nat.le_of_ble_eq_true rfl))).mp c_17
      exact W.vret hx hb hr (fun t ht hW => ⟨⟨(), rfl, trivial, ⟨g_13, g_14, (-1), (-1), 0, a2, a3, p1, ⟨by rw [ht]; exact hP, va_K.moved hW.alike hK, hD⟩, (Nat.le_of_ble_eq_true rfl), ha2, ha3⟩⟩, hS.F ht⟩) hS.2.2 eX1_plan_153
    · have c_17 : ¬ a3 ≤ g_15 := fun z => c_17 ((nI_leI (a := a3) (b := g_15) (Nat.lt_of_le_of_lt ha3 (Nat.le_of_ble_eq_true rfl)) (Nat.lt_of_le_of_lt hg_15.2 (Nat.le_of_ble_eq_true rfl))).mpr z)
      refine lv_aload_n hx hb eX1_plan_130 rfl (lv_at hl 0 rfl) ?_
      refine va_get (D := (dC, dI)) (ci := 1) (v := .ref g16) (C := RX1) (T := TX1) (N := 18) hx hb hts hiX1 hown hK hP 0 rfl rfl 16 (by decide) v_8 (fun _ h9 => h9) rfl eX1_plan_131 ?_
      refine lv_iload hx hb eX1_plan_134 (lv_at hl 5 rfl) ?_
      refine lv_iconst (v := 0) hx hb eX1_plan_136 (by decide) ?_
      refine va_iast hx hb hK hP hD hS 7 6 rfl rfl (vp_in_nI (n := g_15) (by omega) (Nat.le_of_ble_eq_true rfl)) eX1_plan_137 (fun H locs hP hD hS => ?_)
      have hP : va_P (dC, dI) vwCl ((gt1__w g gz g1 g2 g3 g4 g5 (nI gc) (nI gfull) gx p1 (-1) (-1) 0 400 (nI a2) (nI a3) g16 g17 k_fgz (zs o 401 az) k_fs1 (bN 7 q_fs1) k_fs2 fs2 k_fs3 fs3 k_fs4 fs4 k_fs5 fs5 k_fhi (upd g_13 ((nI g_15) : Int32).toNatClampNeg 0) k_flo g_14 au (nI nc) (nI np) (nI ne) st0 q4 q5 q6 q7 q8 q9 q10 q11 q12 q13 q14 q15 q16 k_f4 f4 k_f5 (bN 7 q_f5) k_f6 (bN 7 q_f6) k_f7 f7 k_f8 (bN 4 q_f8) k_f9 (bN 2 q_f9) k_f10 f10 k_f11 f11 k_f12 f12 k_f13 f13 k_f14 f14 k_f15 f15 k_f16 f16) ++ zp 5 25 N az ac kz qs fz) H := hP
      have hD : va_D A ((gt1__w g gz g1 g2 g3 g4 g5 (nI gc) (nI gfull) gx p1 (-1) (-1) 0 400 (nI a2) (nI a3) g16 g17 k_fgz (zs o 401 az) k_fs1 (bN 7 q_fs1) k_fs2 fs2 k_fs3 fs3 k_fs4 fs4 k_fs5 fs5 k_fhi (upd g_13 ((nI g_15) : Int32).toNatClampNeg 0) k_flo g_14 au (nI nc) (nI np) (nI ne) st0 q4 q5 q6 q7 q8 q9 q10 q11 q12 q13 q14 q15 q16 k_f4 f4 k_f5 (bN 7 q_f5) k_f6 (bN 7 q_f6) k_f7 f7 k_f8 (bN 4 q_f8) k_f9 (bN 2 q_f9) k_f10 f10 k_f11 f11 k_f12 f12 k_f13 f13 k_f14 f14 k_f15 f15 k_f16 f16) ++ zp 5 25 N az ac kz qs fz) := hD
      refine lv_aload_n hx hb eX1_plan_138 rfl (lv_at hl 0 rfl) ?_
      refine va_get (D := (dC, dI)) (ci := 1) (v := .ref g17) (C := RX1) (T := TX1) (N := 18) hx hb hts hiX1 hown hK hP 0 rfl rfl 17 (by decide) v_11 (fun _ h9 => h9) rfl eX1_plan_139 ?_
      refine lv_iload hx hb eX1_plan_142 (lv_at hl 5 rfl) ?_
      refine lv_bipush (v := 60) hx hb eX1_plan_144 (by decide) ?_
      refine va_iast hx hb hK hP hD hS 8 7 rfl rfl (vp_in_nI (n := g_15) (by omega) (Nat.le_of_ble_eq_true rfl)) eX1_plan_146 (fun H locs hP hD hS => ?_)
      have hP : va_P (dC, dI) vwCl ((gt1__w g gz g1 g2 g3 g4 g5 (nI gc) (nI gfull) gx p1 (-1) (-1) 0 400 (nI a2) (nI a3) g16 g17 k_fgz (zs o 401 az) k_fs1 (bN 7 q_fs1) k_fs2 fs2 k_fs3 fs3 k_fs4 fs4 k_fs5 fs5 k_fhi (upd g_13 ((nI g_15) : Int32).toNatClampNeg 0) k_flo (upd g_14 ((nI g_15) : Int32).toNatClampNeg 60) au (nI nc) (nI np) (nI ne) st0 q4 q5 q6 q7 q8 q9 q10 q11 q12 q13 q14 q15 q16 k_f4 f4 k_f5 (bN 7 q_f5) k_f6 (bN 7 q_f6) k_f7 f7 k_f8 (bN 4 q_f8) k_f9 (bN 2 q_f9) k_f10 f10 k_f11 f11 k_f12 f12 k_f13 f13 k_f14 f14 k_f15 f15 k_f16 f16) ++ zp 5 25 N az ac kz qs fz) H := hP
      have hD : va_D A ((gt1__w g gz g1 g2 g3 g4 g5 (nI gc) (nI gfull) gx p1 (-1) (-1) 0 400 (nI a2) (nI a3) g16 g17 k_fgz (zs o 401 az) k_fs1 (bN 7 q_fs1) k_fs2 fs2 k_fs3 fs3 k_fs4 fs4 k_fs5 fs5 k_fhi (upd g_13 ((nI g_15) : Int32).toNatClampNeg 0) k_flo (upd g_14 ((nI g_15) : Int32).toNatClampNeg 60) au (nI nc) (nI np) (nI ne) st0 q4 q5 q6 q7 q8 q9 q10 q11 q12 q13 q14 q15 q16 k_f4 f4 k_f5 (bN 7 q_f5) k_f6 (bN 7 q_f6) k_f7 f7 k_f8 (bN 4 q_f8) k_f9 (bN 2 q_f9) k_f10 f10 k_f11 f11 k_f12 f12 k_f13 f13 k_f14 f14 k_f15 f15 k_f16 f16) ++ zp 5 25 N az ac kz qs fz) := hD
      refine lv_iinc (v := (nI (g_15 + 1))) (lv' := [(5, .int (nI (g_15 + 1))), (0, .ref g), (1, .ref au), (2, .int p1), (3, .int (nI a2)), (4, .int (nI a3))]) hx hb eX1_plan_147 hl (k := 5) rfl (nI_1 _) (by decide) rfl (fun ls hl => ?_)
      refine lv_goto (tgt := 121) hx hb eX1_plan_150 (by decide) ?_
      exact ih_16 (5 - (g_15 + 1)) (by omega) _ _ _ ⟨(upd g_13 ((nI g_15) : Int32).toNatClampNeg 0), (upd g_14 ((nI g_15) : Int32).toNatClampNeg 60), (g_15 + 1), rfl, ⟨by omega, by omega⟩, hP, hD, hS, lv_sub hl [1, 2, 3, 4, 5, 0] rfl⟩
  · have c_8 : ¬ nc < g_6 := fun z => c_8 ((nI_ltI (a := nc) (b := g_6) (Nat.lt_of_le_of_lt hnc (Nat.le_of_ble_eq_true rfl)) (Nat.lt_of_le_of_lt hg_6 (Nat.le_of_ble_eq_true rfl))).mpr z)
    refine lv_aload_n hx hb eX1_plan_43 rfl (lv_at hl 0 rfl) ?_
    refine va_get (D := (dC, dI)) (ci := 1) (v := .ref g16) (C := RX1) (T := TX1) (N := 18) hx hb hts hiX1 hown hK hP 0 rfl rfl 16 (by decide) v_8 (fun _ h9 => h9) rfl eX1_plan_44 ?_
    refine lv_iload hx hb eX1_plan_47 (lv_at hl 5 rfl) ?_
    refine lv_aload_n hx hb eX1_plan_49 rfl (lv_at hl 0 rfl) ?_
    refine va_get (D := (dC, dI)) (ci := 1) (v := .int p1) (C := RX1) (T := TX1) (N := 18) hx hb hts hiX1 hown hK hP 0 rfl rfl 9 (by decide) v_1 (fun _ h9 => h9) rfl eX1_plan_50 ?_
    refine lv_iconst (v := 1) hx hb eX1_plan_53 (by decide) ?_
    refine pu_join (fun H locs ls st => ∃ (g_18 : Int32), st = [.int g_18, .int (nI g_6), .ref g16] ∧ va_P (dC, dI) vwCl ((gt1__w g gz g1 g2 g3 g4 g5 (nI gc) (nI gfull) gx p1 (-1) (-1) 0 400 (nI a2) (nI a3) g16 g17 k_fgz (zs o 401 az) k_fs1 (bN 7 q_fs1) k_fs2 fs2 k_fs3 fs3 k_fs4 fs4 k_fs5 fs5 k_fhi g_4 k_flo g_5 au (nI nc) (nI np) (nI ne) st0 q4 q5 q6 q7 q8 q9 q10 q11 q12 q13 q14 q15 q16 k_f4 f4 k_f5 (bN 7 q_f5) k_f6 (bN 7 q_f6) k_f7 f7 k_f8 (bN 4 q_f8) k_f9 (bN 2 q_f9) k_f10 f10 k_f11 f11 k_f12 f12 k_f13 f13 k_f14 f14 k_f15 f15 k_f16 f16) ++ zp 5 25 N az ac kz qs fz) H ∧ va_D A ((gt1__w g gz g1 g2 g3 g4 g5 (nI gc) (nI gfull) gx p1 (-1) (-1) 0 400 (nI a2) (nI a3) g16 g17 k_fgz (zs o 401 az) k_fs1 (bN 7 q_fs1) k_fs2 fs2 k_fs3 fs3 k_fs4 fs4 k_fs5 fs5 k_fhi g_4 k_flo g_5 au (nI nc) (nI np) (nI ne) st0 q4 q5 q6 q7 q8 q9 q10 q11 q12 q13 q14 q15 q16 k_f4 f4 k_f5 (bN 7 q_f5) k_f6 (bN 7 q_f6) k_f7 f7 k_f8 (bN 4 q_f8) k_f9 (bN 2 q_f9) k_f10 f10 k_f11 f11 k_f12 f12 k_f13 f13 k_f14 f14 k_f15 f15 k_f16 f16) ++ zp 5 25 N az ac kz qs fz) ∧ va_S A s.heap H locs ∧ lv_has ls 6 [(0, .ref g), (1, .ref au), (2, .int p1), (3, .int (nI a2)), (4, .int (nI a3)), (5, .int (nI g_6))]) 74 ?_ (fun j_19 => ?_)
    · rintro H locs ls st ⟨g_18, rfl, hP, hD, hS, hl⟩
      refine va_iast hx hb hK hP hD hS 7 6 rfl rfl (vp_in_nI (n := g_6) (Nat.lt_of_le_of_lt hg_6 (Nat.le_of_ble_eq_true rfl)) (Nat.le_of_ble_eq_true rfl)) eX1_plan_74 (fun H locs hP hD hS => ?_)
      have hP : va_P (dC, dI) vwCl ((gt1__w g gz g1 g2 g3 g4 g5 (nI gc) (nI gfull) gx p1 (-1) (-1) 0 400 (nI a2) (nI a3) g16 g17 k_fgz (zs o 401 az) k_fs1 (bN 7 q_fs1) k_fs2 fs2 k_fs3 fs3 k_fs4 fs4 k_fs5 fs5 k_fhi (upd g_4 ((nI g_6) : Int32).toNatClampNeg g_18) k_flo g_5 au (nI nc) (nI np) (nI ne) st0 q4 q5 q6 q7 q8 q9 q10 q11 q12 q13 q14 q15 q16 k_f4 f4 k_f5 (bN 7 q_f5) k_f6 (bN 7 q_f6) k_f7 f7 k_f8 (bN 4 q_f8) k_f9 (bN 2 q_f9) k_f10 f10 k_f11 f11 k_f12 f12 k_f13 f13 k_f14 f14 k_f15 f15 k_f16 f16) ++ zp 5 25 N az ac kz qs fz) H := hP
      have hD : va_D A ((gt1__w g gz g1 g2 g3 g4 g5 (nI gc) (nI gfull) gx p1 (-1) (-1) 0 400 (nI a2) (nI a3) g16 g17 k_fgz (zs o 401 az) k_fs1 (bN 7 q_fs1) k_fs2 fs2 k_fs3 fs3 k_fs4 fs4 k_fs5 fs5 k_fhi (upd g_4 ((nI g_6) : Int32).toNatClampNeg g_18) k_flo g_5 au (nI nc) (nI np) (nI ne) st0 q4 q5 q6 q7 q8 q9 q10 q11 q12 q13 q14 q15 q16 k_f4 f4 k_f5 (bN 7 q_f5) k_f6 (bN 7 q_f6) k_f7 f7 k_f8 (bN 4 q_f8) k_f9 (bN 2 q_f9) k_f10 f10 k_f11 f11 k_f12 f12 k_f13 f13 k_f14 f14 k_f15 f15 k_f16 f16) ++ zp 5 25 N az ac kz qs fz) := hD
      refine lv_aload_n hx hb eX1_plan_75 rfl (lv_at hl 0 rfl) ?_
      refine va_get (D := (dC, dI)) (ci := 1) (v := .ref g17) (C := RX1) (T := TX1) (N := 18) hx hb hts hiX1 hown hK hP 0 rfl rfl 17 (by decide) v_11 (fun _ h9 => h9) rfl eX1_plan_76 ?_
      refine lv_iload hx hb eX1_plan_79 (lv_at hl 5 rfl) ?_
      refine lv_aload_n hx hb eX1_plan_81 rfl (lv_at hl 0 rfl) ?_
      refine va_get (D := (dC, dI)) (ci := 1) (v := .int p1) (C := RX1) (T := TX1) (N := 18) hx hb hts hiX1 hown hK hP 0 rfl rfl 9 (by decide) v_1 (fun _ h9 => h9) rfl eX1_plan_82 ?_
      refine lv_iconst (v := 1) hx hb eX1_plan_85 (by decide) ?_
      refine pu_join (fun H locs ls st => ∃ (g_20 : Int32), st = [.int g_20, .int (nI g_6), .ref g17] ∧ va_P (dC, dI) vwCl ((gt1__w g gz g1 g2 g3 g4 g5 (nI gc) (nI gfull) gx p1 (-1) (-1) 0 400 (nI a2) (nI a3) g16 g17 k_fgz (zs o 401 az) k_fs1 (bN 7 q_fs1) k_fs2 fs2 k_fs3 fs3 k_fs4 fs4 k_fs5 fs5 k_fhi (upd g_4 ((nI g_6) : Int32).toNatClampNeg g_18) k_flo g_5 au (nI nc) (nI np) (nI ne) st0 q4 q5 q6 q7 q8 q9 q10 q11 q12 q13 q14 q15 q16 k_f4 f4 k_f5 (bN 7 q_f5) k_f6 (bN 7 q_f6) k_f7 f7 k_f8 (bN 4 q_f8) k_f9 (bN 2 q_f9) k_f10 f10 k_f11 f11 k_f12 f12 k_f13 f13 k_f14 f14 k_f15 f15 k_f16 f16) ++ zp 5 25 N az ac kz qs fz) H ∧ va_D A ((gt1__w g gz g1 g2 g3 g4 g5 (nI gc) (nI gfull) gx p1 (-1) (-1) 0 400 (nI a2) (nI a3) g16 g17 k_fgz (zs o 401 az) k_fs1 (bN 7 q_fs1) k_fs2 fs2 k_fs3 fs3 k_fs4 fs4 k_fs5 fs5 k_fhi (upd g_4 ((nI g_6) : Int32).toNatClampNeg g_18) k_flo g_5 au (nI nc) (nI np) (nI ne) st0 q4 q5 q6 q7 q8 q9 q10 q11 q12 q13 q14 q15 q16 k_f4 f4 k_f5 (bN 7 q_f5) k_f6 (bN 7 q_f6) k_f7 f7 k_f8 (bN 4 q_f8) k_f9 (bN 2 q_f9) k_f10 f10 k_f11 f11 k_f12 f12 k_f13 f13 k_f14 f14 k_f15 f15 k_f16 f16) ++ zp 5 25 N az ac kz qs fz) ∧ va_S A s.heap H locs ∧ lv_has ls 6 [(0, .ref g), (1, .ref au), (2, .int p1), (3, .int (nI a2)), (4, .int (nI a3)), (5, .int (nI g_6))]) 106 ?_ (fun j_21 => ?_)
      · rintro H locs ls st ⟨g_20, rfl, hP, hD, hS, hl⟩
        refine va_iast hx hb hK hP hD hS 8 7 rfl rfl (vp_in_nI (n := g_6) (Nat.lt_of_le_of_lt hg_6 (Nat.le_of_ble_eq_true rfl)) (Nat.le_of_ble_eq_true rfl)) eX1_plan_106 (fun H locs hP hD hS => ?_)
        have hP : va_P (dC, dI) vwCl ((gt1__w g gz g1 g2 g3 g4 g5 (nI gc) (nI gfull) gx p1 (-1) (-1) 0 400 (nI a2) (nI a3) g16 g17 k_fgz (zs o 401 az) k_fs1 (bN 7 q_fs1) k_fs2 fs2 k_fs3 fs3 k_fs4 fs4 k_fs5 fs5 k_fhi (upd g_4 ((nI g_6) : Int32).toNatClampNeg g_18) k_flo (upd g_5 ((nI g_6) : Int32).toNatClampNeg g_20) au (nI nc) (nI np) (nI ne) st0 q4 q5 q6 q7 q8 q9 q10 q11 q12 q13 q14 q15 q16 k_f4 f4 k_f5 (bN 7 q_f5) k_f6 (bN 7 q_f6) k_f7 f7 k_f8 (bN 4 q_f8) k_f9 (bN 2 q_f9) k_f10 f10 k_f11 f11 k_f12 f12 k_f13 f13 k_f14 f14 k_f15 f15 k_f16 f16) ++ zp 5 25 N az ac kz qs fz) H := hP
        have hD : va_D A ((gt1__w g gz g1 g2 g3 g4 g5 (nI gc) (nI gfull) gx p1 (-1) (-1) 0 400 (nI a2) (nI a3) g16 g17 k_fgz (zs o 401 az) k_fs1 (bN 7 q_fs1) k_fs2 fs2 k_fs3 fs3 k_fs4 fs4 k_fs5 fs5 k_fhi (upd g_4 ((nI g_6) : Int32).toNatClampNeg g_18) k_flo (upd g_5 ((nI g_6) : Int32).toNatClampNeg g_20) au (nI nc) (nI np) (nI ne) st0 q4 q5 q6 q7 q8 q9 q10 q11 q12 q13 q14 q15 q16 k_f4 f4 k_f5 (bN 7 q_f5) k_f6 (bN 7 q_f6) k_f7 f7 k_f8 (bN 4 q_f8) k_f9 (bN 2 q_f9) k_f10 f10 k_f11 f11 k_f12 f12 k_f13 f13 k_f14 f14 k_f15 f15 k_f16 f16) ++ zp 5 25 N az ac kz qs fz) := hD
        refine lv_iinc (v := (nI (g_6 + 1))) (lv' := [(5, .int (nI (g_6 + 1))), (0, .ref g), (1, .ref au), (2, .int p1), (3, .int (nI a2)), (4, .int (nI a3))]) hx hb eX1_plan_107 hl (k := 5) rfl (nI_1 _) (by decide) rfl (fun ls hl => ?_)
        refine lv_goto (tgt := 34) hx hb eX1_plan_110 (by decide) ?_
        exact ih_7 (4 - (g_6 + 1)) (by omega) _ _ _ ⟨(upd g_4 ((nI g_6) : Int32).toNatClampNeg g_18), (upd g_5 ((nI g_6) : Int32).toNatClampNeg g_20), (g_6 + 1), rfl, (by omega), hP, hD, hS, lv_sub hl [1, 2, 3, 4, 5, 0] rfl⟩
      refine lv_icmp_ne (tgt := 99) hx hb eX1_plan_86 (by decide) (fun c_22 => ?_) (fun c_22 => ?_)
      · refine lv_aload_n hx hb eX1_plan_99 rfl (lv_at hl 1 rfl) ?_
        refine va_get (D := (dC, dI)) (ci := 0) (v := .ref q16) (C := RX0) (T := TX0) (N := 17) hx hb hts hiX0 hown hK hP 9 rfl rfl 16 (by decide) v_12 (fun _ h9 => h9) rfl eX1_plan_100 ?_
        refine lv_iload hx hb eX1_plan_103 (lv_at hl 5 rfl) ?_
        refine va_iald hx hb hK hP 22 20 rfl rfl (vp_in_nI (n := g_6) (by omega) (Nat.le_of_ble_eq_true rfl)) eX1_plan_105 ?_
        refine lv_topi (fun y_23 ey_23 => ?_)
        exact j_21 _ _ _ _ ⟨y_23, rfl, hP, hD, hS, lv_sub hl [0, 1, 2, 3, 4, 5] rfl⟩
      · refine lv_aload_n hx hb eX1_plan_89 rfl (lv_at hl 1 rfl) ?_
        refine va_get (D := (dC, dI)) (ci := 0) (v := .ref q14) (C := RX0) (T := TX0) (N := 17) hx hb hts hiX0 hown hK hP 9 rfl rfl 14 (by decide) v_10 (fun _ h9 => h9) rfl eX1_plan_90 ?_
        refine lv_iload hx hb eX1_plan_93 (lv_at hl 5 rfl) ?_
        refine va_iald hx hb hK hP 20 18 rfl rfl (vp_in_nI (n := g_6) (by omega) (Nat.le_of_ble_eq_true rfl)) eX1_plan_95 ?_
        refine lv_topi (fun y_24 ey_24 => ?_)
        refine lv_goto (tgt := 106) hx hb eX1_plan_96 (by decide) ?_
        exact j_21 _ _ _ _ ⟨y_24, rfl, hP, hD, hS, lv_sub hl [0, 1, 2, 3, 4, 5] rfl⟩
    refine lv_icmp_ne (tgt := 67) hx hb eX1_plan_54 (by decide) (fun c_25 => ?_) (fun c_25 => ?_)
    · refine lv_aload_n hx hb eX1_plan_67 rfl (lv_at hl 1 rfl) ?_
      refine va_get (D := (dC, dI)) (ci := 0) (v := .ref q15) (C := RX0) (T := TX0) (N := 17) hx hb hts hiX0 hown hK hP 9 rfl rfl 15 (by decide) v_9 (fun _ h9 => h9) rfl eX1_plan_68 ?_
      refine lv_iload hx hb eX1_plan_71 (lv_at hl 5 rfl) ?_
      refine va_iald hx hb hK hP 21 19 rfl rfl (vp_in_nI (n := g_6) (by omega) (Nat.le_of_ble_eq_true rfl)) eX1_plan_73 ?_
      refine lv_topi (fun y_26 ey_26 => ?_)
      exact j_19 _ _ _ _ ⟨y_26, rfl, hP, hD, hS, lv_sub hl [0, 1, 2, 3, 4, 5] rfl⟩
    · refine lv_aload_n hx hb eX1_plan_57 rfl (lv_at hl 1 rfl) ?_
      refine va_get (D := (dC, dI)) (ci := 0) (v := .ref q14) (C := RX0) (T := TX0) (N := 17) hx hb hts hiX0 hown hK hP 9 rfl rfl 14 (by decide) v_10 (fun _ h9 => h9) rfl eX1_plan_58 ?_
      refine lv_iload hx hb eX1_plan_61 (lv_at hl 5 rfl) ?_
      refine va_iald hx hb hK hP 20 18 rfl rfl (vp_in_nI (n := g_6) (by omega) (Nat.le_of_ble_eq_true rfl)) eX1_plan_63 ?_
      refine lv_topi (fun y_27 ey_27 => ?_)
      refine lv_goto (tgt := 74) hx hb eX1_plan_64 (by decide) ?_
      exact j_19 _ _ _ _ ⟨y_27, rfl, hP, hD, hS, lv_sub hl [0, 1, 2, 3, 4, 5] rfl⟩
abbrev vs_C_1_record0_25 : List Cond := .code yX1_record cX1_record 4 none :: CM
set_option maxHeartbeats 4000000 in
set_option maxRecDepth 100000 in
theorem c_C_1_record0_25 (l : Launch) (dC : Nat → ClassId) (dI : Nat → Nat → Nat) (sz : Nat) (g : Nat) (gz : Nat) (g1 : Nat) (g2 : Nat) (g3 : Nat) (g4 : Nat) (g5 : Nat) (gc : Nat) (gfull : Nat) (gx : Int32) (gway : Int32) (gav : Int32) (ggoal : Int32) (gfound : Nat) (gl : Nat) (gsz : Nat) (g16 : Nat) (g17 : Nat) (k_fgz : ClassId) (k_fs1 : ClassId) (q_fs1 : Nat → Nat) (k_fs2 : ClassId) (fs2 : Nat → Int32) (k_fs3 : ClassId) (fs3 : Nat → Int32) (k_fs4 : ClassId) (fs4 : Nat → Int32) (k_fs5 : ClassId) (fs5 : Nat → Int32) (k_fhi : ClassId) (fhi : Nat → Int32) (k_flo : ClassId) (flo : Nat → Int32) (N : Nat) (o : Nat) (az ac : Nat → Nat) (kz : Nat → ClassId) (qs : Nat → Nat) (fz : Nat → Nat → Int32) (a0 : Nat) (hgc : gc ≤ 399) (hgfull : gfull ≤ 1) (hgfound : gfound ≤ 1) (hgl : gl ≤ 1) (hgsz : gsz ≤ 5) (hN : o + 401 ≤ N) (ha0 : a0 ≤ 7) (hq0 : gz_ok gc fs2 fs3 fs4) : Met l yX1_record vs_C_1_record0_25 ({ frames := 0, cells := 0, slots := 0, locals := 0 }) (va_Pc [.ref g, .int (nI a0), .int (-1), .int (-1)] (pu_B (dC, dI) ((gt0__w g gz g1 g2 g3 g4 g5 (nI gc) (nI gfull) gx gway gav ggoal (nI gfound) 400 (nI gl) (nI gsz) g16 g17 k_fgz (zs o 401 az) k_fs1 (bN 7 q_fs1) k_fs2 fs2 k_fs3 fs3 k_fs4 fs4 k_fs5 fs5 k_fhi fhi k_flo flo) ++ zp 5 25 N az ac kz qs fz) ((gt0__t k_fgz k_fs1 k_fs2 k_fs3 k_fs4 k_fs5 k_fhi k_flo) ++ zt N kz) sz)) (va_Qv (fun (_ : Unit) => True) (fun _ t => ∃ (z_fs1 : Nat → Nat) (z_fs2 : Nat → Int32) (z_fs3 : Nat → Int32) (z_fs4 : Nat → Int32) (z_fs5 : Nat → Int32) (z_gfound : Nat), pu_E (dC, dI) ((gt0__w g gz g1 g2 g3 g4 g5 (nI (gc + 1)) (nI gfull) gx gway gav ggoal (nI z_gfound) 400 (nI gl) (nI gsz) g16 g17 k_fgz (zs o 401 az) k_fs1 (bN 7 z_fs1) k_fs2 z_fs2 k_fs3 z_fs3 k_fs4 z_fs4 k_fs5 z_fs5 k_fhi fhi k_flo flo) ++ zp 5 25 N az ac kz qs fz) ((gt0__t k_fgz k_fs1 k_fs2 k_fs3 k_fs4 k_fs5 k_fhi k_flo) ++ zt N kz) (va_A (((gt0__w g gz g1 g2 g3 g4 g5 (nI gc) (nI gfull) gx gway gav ggoal (nI gfound) 400 (nI gl) (nI gsz) g16 g17 k_fgz (zs o 401 az) k_fs1 (bN 7 q_fs1) k_fs2 fs2 k_fs3 fs3 k_fs4 fs4 k_fs5 fs5 k_fhi fhi k_flo flo) ++ zp 5 25 N az ac kz qs fz)) sz) t ∧ (z_gfound ≤ 1) ∧ (gz_ok (gc + 1) z_fs2 z_fs3 z_fs4)) (va_A (((gt0__w g gz g1 g2 g3 g4 g5 (nI gc) (nI gfull) gx gway gav ggoal (nI gfound) 400 (nI gl) (nI gsz) g16 g17 k_fgz (zs o 401 az) k_fs1 (bN 7 q_fs1) k_fs2 fs2 k_fs3 fs3 k_fs4 fs4 k_fs5 fs5 k_fhi fhi k_flo flo) ++ zp 5 25 N az ac kz qs fz)) sz)) 0 0 (va_A (((gt0__w g gz g1 g2 g3 g4 g5 (nI gc) (nI gfull) gx gway gav ggoal (nI gfound) 400 (nI gl) (nI gsz) g16 g17 k_fgz (zs o 401 az) k_fs1 (bN 7 q_fs1) k_fs2 fs2 k_fs3 fs3 k_fs4 fs4 k_fs5 fs5 k_fhi fhi k_flo flo) ++ zp 5 25 N az ac kz qs fz)) sz) := by
  refine Met.ofW (cc := cX1_record) (maxL := 4) (ret := none) (by decide) rfl ?_
  intro p e s m args below meth c s₁ B hml hv
  obtain ⟨rfl, rfl, hP, hK, hD0⟩ := hv
  have hx := B.exec
  have hb := B.bytes
  have hr := B.returns
  have hts := atoms_spec (ws := vs_C_1_record0_25) B.pre
  have v_1 := hts (.fieldLink RX1 24 "ClockReach$Graph" "sites" "[I") (List.mem_cons_of_mem _ cm_115)
  have v_2 := hts (.fieldLink RX1 79 "ClockReach$Graph" "count" "I") (List.mem_cons_of_mem _ cm_89)
  have v_3 := hts (.fieldLink RX1 28 "ClockReach$Graph" "parents" "[I") (List.mem_cons_of_mem _ cm_116)
  have v_4 := hts (.fieldLink RX1 31 "ClockReach$Graph" "entries" "[I") (List.mem_cons_of_mem _ cm_117)
  have v_5 := hts (.fieldLink RX1 34 "ClockReach$Graph" "depths" "[I") (List.mem_cons_of_mem _ cm_118)
  have v_6 := hts (.fieldLink RX1 37 "ClockReach$Graph" "broods" "[I") (List.mem_cons_of_mem _ cm_119)
  have v_7 := hts (.fieldLink RX1 59 "ClockReach$Graph" "goal" "I") (List.mem_cons_of_mem _ cm_80)
  have v_8 := hts (.fieldLink RX1 62 "ClockReach$Graph" "found" "Z") (List.mem_cons_of_mem _ cm_81)
  have hown : s.vm.findClass RX1 = some m.cls := findClass_of_methodNamed B.named
  have hlocks := B.notSynchronized
  have hiX1 : ∀ w ∈ wsX10, w ∈ vs_C_1_record0_25 := fun _ h => List.mem_cons_of_mem _ (cm_X1 h)
  have hD := hD0.self (sz := s.heap.size)
  generalize hAe : va_A (((gt0__w g gz g1 g2 g3 g4 g5 (nI gc) (nI gfull) gx gway gav ggoal (nI gfound) 400 (nI gl) (nI gsz) g16 g17 k_fgz (zs o 401 az) k_fs1 (bN 7 q_fs1) k_fs2 fs2 k_fs3 fs3 k_fs4 fs4 k_fs5 fs5 k_fhi fhi k_flo flo) ++ zp 5 25 N az ac kz qs fz)) s.heap.size = A at hD ⊢
  have hA : ∀ q : Nat, s.heap.size ≤ q → A q := fun q h => by rw [← hAe]; exact Or.inr h
  have hS : va_S A s.heap s.heap [] := va_S.rf
  have hl := lv_entry ([.ref g, .int (nI a0), .int (-1), .int (-1)]) (n := 4) (Nat.le_of_ble_eq_true rfl)
  rw [lg_entry_eq]
  generalize (lg_sl ([.ref g, .int (nI a0), .int (-1), .int (-1)]) ++ List.replicate (4 - (lg_sl ([.ref g, .int (nI a0), .int (-1), .int (-1)])).length) Slot.unset).toArray = ls at hl ⊢
  have hl : lv_has ls 4 [(0, .ref g), (1, .int (nI a0)), (2, .int (-1)), (3, .int (-1))] := hl
  refine lv_aload_n hx hb eX1_record_0 rfl (lv_at hl 0 rfl) ?_
  refine va_get (D := (dC, dI)) (ci := 1) (v := .ref g1) (C := RX1) (T := TX1) (N := 18) hx hb hts hiX1 hown hK hP 0 rfl rfl 1 (by decide) v_1 (fun _ h9 => h9) rfl eX1_record_1 ?_
  refine lv_aload_n hx hb eX1_record_4 rfl (lv_at hl 0 rfl) ?_
  refine va_get (D := (dC, dI)) (ci := 1) (v := .int (nI gc)) (C := RX1) (T := TX1) (N := 18) hx hb hts hiX1 hown hK hP 0 rfl rfl 6 (by decide) v_2 (fun _ h9 => h9) rfl eX1_record_5 ?_
  refine lv_iload_n hx hb eX1_record_8 rfl (lv_at hl 1 rfl) ?_
  refine va_iast hx hb hK hP hD hS 2 1 rfl rfl (vp_in_nI (n := gc) (Nat.lt_of_le_of_lt hgc (Nat.le_of_ble_eq_true rfl)) (Nat.le_of_ble_eq_true rfl)) eX1_record_9 (fun H locs hP hD hS => ?_)
  obtain ⟨q_1, eq_1, kq_1⟩ := bN_up 7 q_fs1 (((nI gc) : Int32).toNatClampNeg) (v := a0) ha0
  have hP : va_P (dC, dI) vwCl ((gt0__w g gz g1 g2 g3 g4 g5 (nI gc) (nI gfull) gx gway gav ggoal (nI gfound) 400 (nI gl) (nI gsz) g16 g17 k_fgz (zs o 401 az) k_fs1 (bN 7 q_1) k_fs2 fs2 k_fs3 fs3 k_fs4 fs4 k_fs5 fs5 k_fhi fhi k_flo flo) ++ zp 5 25 N az ac kz qs fz) H := by rw [← eq_1]; exact hP
  have hD : va_D A ((gt0__w g gz g1 g2 g3 g4 g5 (nI gc) (nI gfull) gx gway gav ggoal (nI gfound) 400 (nI gl) (nI gsz) g16 g17 k_fgz (zs o 401 az) k_fs1 (bN 7 q_1) k_fs2 fs2 k_fs3 fs3 k_fs4 fs4 k_fs5 fs5 k_fhi fhi k_flo flo) ++ zp 5 25 N az ac kz qs fz) := by rw [← eq_1]; exact hD
  refine lv_aload_n hx hb eX1_record_10 rfl (lv_at hl 0 rfl) ?_
  refine va_get (D := (dC, dI)) (ci := 1) (v := .ref g2) (C := RX1) (T := TX1) (N := 18) hx hb hts hiX1 hown hK hP 0 rfl rfl 2 (by decide) v_3 (fun _ h9 => h9) rfl eX1_record_11 ?_
  refine lv_aload_n hx hb eX1_record_14 rfl (lv_at hl 0 rfl) ?_
  refine va_get (D := (dC, dI)) (ci := 1) (v := .int (nI gc)) (C := RX1) (T := TX1) (N := 18) hx hb hts hiX1 hown hK hP 0 rfl rfl 6 (by decide) v_2 (fun _ h9 => h9) rfl eX1_record_15 ?_
  refine lv_iload_n hx hb eX1_record_18 rfl (lv_at hl 2 rfl) ?_
  refine va_iast hx hb hK hP hD hS 3 2 rfl rfl (vp_in_nI (n := gc) (Nat.lt_of_le_of_lt hgc (Nat.le_of_ble_eq_true rfl)) (Nat.le_of_ble_eq_true rfl)) eX1_record_19 (fun H locs hP hD hS => ?_)
  have hP : va_P (dC, dI) vwCl ((gt0__w g gz g1 g2 g3 g4 g5 (nI gc) (nI gfull) gx gway gav ggoal (nI gfound) 400 (nI gl) (nI gsz) g16 g17 k_fgz (zs o 401 az) k_fs1 (bN 7 q_1) k_fs2 (upd fs2 ((nI gc) : Int32).toNatClampNeg (-1)) k_fs3 fs3 k_fs4 fs4 k_fs5 fs5 k_fhi fhi k_flo flo) ++ zp 5 25 N az ac kz qs fz) H := hP
  have hD : va_D A ((gt0__w g gz g1 g2 g3 g4 g5 (nI gc) (nI gfull) gx gway gav ggoal (nI gfound) 400 (nI gl) (nI gsz) g16 g17 k_fgz (zs o 401 az) k_fs1 (bN 7 q_1) k_fs2 (upd fs2 ((nI gc) : Int32).toNatClampNeg (-1)) k_fs3 fs3 k_fs4 fs4 k_fs5 fs5 k_fhi fhi k_flo flo) ++ zp 5 25 N az ac kz qs fz) := hD
  refine lv_aload_n hx hb eX1_record_20 rfl (lv_at hl 0 rfl) ?_
  refine va_get (D := (dC, dI)) (ci := 1) (v := .ref g3) (C := RX1) (T := TX1) (N := 18) hx hb hts hiX1 hown hK hP 0 rfl rfl 3 (by decide) v_4 (fun _ h9 => h9) rfl eX1_record_21 ?_
  refine lv_aload_n hx hb eX1_record_24 rfl (lv_at hl 0 rfl) ?_
  refine va_get (D := (dC, dI)) (ci := 1) (v := .int (nI gc)) (C := RX1) (T := TX1) (N := 18) hx hb hts hiX1 hown hK hP 0 rfl rfl 6 (by decide) v_2 (fun _ h9 => h9) rfl eX1_record_25 ?_
  refine lv_iload_n hx hb eX1_record_28 rfl (lv_at hl 3 rfl) ?_
  refine va_iast hx hb hK hP hD hS 4 3 rfl rfl (vp_in_nI (n := gc) (Nat.lt_of_le_of_lt hgc (Nat.le_of_ble_eq_true rfl)) (Nat.le_of_ble_eq_true rfl)) eX1_record_29 (fun H locs hP hD hS => ?_)
  have hP : va_P (dC, dI) vwCl ((gt0__w g gz g1 g2 g3 g4 g5 (nI gc) (nI gfull) gx gway gav ggoal (nI gfound) 400 (nI gl) (nI gsz) g16 g17 k_fgz (zs o 401 az) k_fs1 (bN 7 q_1) k_fs2 (upd fs2 ((nI gc) : Int32).toNatClampNeg (-1)) k_fs3 (upd fs3 ((nI gc) : Int32).toNatClampNeg (-1)) k_fs4 fs4 k_fs5 fs5 k_fhi fhi k_flo flo) ++ zp 5 25 N az ac kz qs fz) H := hP
  have hD : va_D A ((gt0__w g gz g1 g2 g3 g4 g5 (nI gc) (nI gfull) gx gway gav ggoal (nI gfound) 400 (nI gl) (nI gsz) g16 g17 k_fgz (zs o 401 az) k_fs1 (bN 7 q_1) k_fs2 (upd fs2 ((nI gc) : Int32).toNatClampNeg (-1)) k_fs3 (upd fs3 ((nI gc) : Int32).toNatClampNeg (-1)) k_fs4 fs4 k_fs5 fs5 k_fhi fhi k_flo flo) ++ zp 5 25 N az ac kz qs fz) := hD
  refine lv_aload_n hx hb eX1_record_30 rfl (lv_at hl 0 rfl) ?_
  refine va_get (D := (dC, dI)) (ci := 1) (v := .ref g4) (C := RX1) (T := TX1) (N := 18) hx hb hts hiX1 hown hK hP 0 rfl rfl 4 (by decide) v_5 (fun _ h9 => h9) rfl eX1_record_31 ?_
  refine lv_aload_n hx hb eX1_record_34 rfl (lv_at hl 0 rfl) ?_
  refine va_get (D := (dC, dI)) (ci := 1) (v := .int (nI gc)) (C := RX1) (T := TX1) (N := 18) hx hb hts hiX1 hown hK hP 0 rfl rfl 6 (by decide) v_2 (fun _ h9 => h9) rfl eX1_record_35 ?_
  refine lv_iconst (v := 0) hx hb eX1_record_38 (by decide) ?_
  refine va_iast hx hb hK hP hD hS 5 4 rfl rfl (vp_in_nI (n := gc) (Nat.lt_of_le_of_lt hgc (Nat.le_of_ble_eq_true rfl)) (Nat.le_of_ble_eq_true rfl)) eX1_record_39 (fun H locs hP hD hS => ?_)
  have hP : va_P (dC, dI) vwCl ((gt0__w g gz g1 g2 g3 g4 g5 (nI gc) (nI gfull) gx gway gav ggoal (nI gfound) 400 (nI gl) (nI gsz) g16 g17 k_fgz (zs o 401 az) k_fs1 (bN 7 q_1) k_fs2 (upd fs2 ((nI gc) : Int32).toNatClampNeg (-1)) k_fs3 (upd fs3 ((nI gc) : Int32).toNatClampNeg (-1)) k_fs4 (upd fs4 ((nI gc) : Int32).toNatClampNeg 0) k_fs5 fs5 k_fhi fhi k_flo flo) ++ zp 5 25 N az ac kz qs fz) H := hP
  have hD : va_D A ((gt0__w g gz g1 g2 g3 g4 g5 (nI gc) (nI gfull) gx gway gav ggoal (nI gfound) 400 (nI gl) (nI gsz) g16 g17 k_fgz (zs o 401 az) k_fs1 (bN 7 q_1) k_fs2 (upd fs2 ((nI gc) : Int32).toNatClampNeg (-1)) k_fs3 (upd fs3 ((nI gc) : Int32).toNatClampNeg (-1)) k_fs4 (upd fs4 ((nI gc) : Int32).toNatClampNeg 0) k_fs5 fs5 k_fhi fhi k_flo flo) ++ zp 5 25 N az ac kz qs fz) := hD
  refine lv_aload_n hx hb eX1_record_40 rfl (lv_at hl 0 rfl) ?_
  refine va_get (D := (dC, dI)) (ci := 1) (v := .ref g5) (C := RX1) (T := TX1) (N := 18) hx hb hts hiX1 hown hK hP 0 rfl rfl 5 (by decide) v_6 (fun _ h9 => h9) rfl eX1_record_41 ?_
  refine lv_aload_n hx hb eX1_record_44 rfl (lv_at hl 0 rfl) ?_
  refine va_get (D := (dC, dI)) (ci := 1) (v := .int (nI gc)) (C := RX1) (T := TX1) (N := 18) hx hb hts hiX1 hown hK hP 0 rfl rfl 6 (by decide) v_2 (fun _ h9 => h9) rfl eX1_record_45 ?_
  refine lv_iconst (v := 0) hx hb eX1_record_48 (by decide) ?_
  refine va_iast hx hb hK hP hD hS 6 5 rfl rfl (vp_in_nI (n := gc) (Nat.lt_of_le_of_lt hgc (Nat.le_of_ble_eq_true rfl)) (Nat.le_of_ble_eq_true rfl)) eX1_record_49 (fun H locs hP hD hS => ?_)
  have hP : va_P (dC, dI) vwCl ((gt0__w g gz g1 g2 g3 g4 g5 (nI gc) (nI gfull) gx gway gav ggoal (nI gfound) 400 (nI gl) (nI gsz) g16 g17 k_fgz (zs o 401 az) k_fs1 (bN 7 q_1) k_fs2 (upd fs2 ((nI gc) : Int32).toNatClampNeg (-1)) k_fs3 (upd fs3 ((nI gc) : Int32).toNatClampNeg (-1)) k_fs4 (upd fs4 ((nI gc) : Int32).toNatClampNeg 0) k_fs5 (upd fs5 ((nI gc) : Int32).toNatClampNeg 0) k_fhi fhi k_flo flo) ++ zp 5 25 N az ac kz qs fz) H := hP
  have hD : va_D A ((gt0__w g gz g1 g2 g3 g4 g5 (nI gc) (nI gfull) gx gway gav ggoal (nI gfound) 400 (nI gl) (nI gsz) g16 g17 k_fgz (zs o 401 az) k_fs1 (bN 7 q_1) k_fs2 (upd fs2 ((nI gc) : Int32).toNatClampNeg (-1)) k_fs3 (upd fs3 ((nI gc) : Int32).toNatClampNeg (-1)) k_fs4 (upd fs4 ((nI gc) : Int32).toNatClampNeg 0) k_fs5 (upd fs5 ((nI gc) : Int32).toNatClampNeg 0) k_fhi fhi k_flo flo) ++ zp 5 25 N az ac kz qs fz) := hD
  refine lv_iload_n hx hb eX1_record_50 rfl (lv_at hl 2 rfl) ?_
  refine lv_iconst (v := (-1)) hx hb eX1_record_51 (by decide) ?_
  refine lv_icmp_eq (tgt := 82) hx hb eX1_record_52 (by decide) (fun _ => ?_) (fun z => absurd z (by decide))
  refine lv_aload_n hx hb eX1_record_82 rfl (lv_at hl 0 rfl) ?_
  refine lv_dup hx hb eX1_record_83 rfl ?_
  refine va_get (D := (dC, dI)) (ci := 1) (v := .int (nI gc)) (C := RX1) (T := TX1) (N := 18) hx hb hts hiX1 hown hK hP 0 rfl rfl 6 (by decide) v_2 (fun _ h9 => h9) rfl eX1_record_84 ?_
  refine lv_iconst (v := 1) hx hb eX1_record_87 (by decide) ?_
  refine lv_iadd hx hb eX1_record_88 ?_
  refine lv_topi (fun y_2 ey_2 => ?_)
  obtain rfl : y_2 = (nI (gc + 1)) := ey_2.trans (nI_add gc 1)
  refine va_put (D := (dC, dI)) (ci := 1) (v := .int (nI (gc + 1))) (ty := .int) (C := RX1) (T := TX1) (N := 18) hx hb hts hiX1 tyX1 tyX1_ok nmX1 hown hK hP hD hS 0 rfl rfl 6 (by decide) v_2 (fun _ h9 => h9) rfl (by decide +kernel) rfl rfl (Nat.le_of_ble_eq_true rfl) eX1_record_89 (fun H locs hP hD hS => ?_)
  have hP : va_P (dC, dI) vwCl ((gt0__w g gz g1 g2 g3 g4 g5 (nI (gc + 1)) (nI gfull) gx gway gav ggoal (nI gfound) 400 (nI gl) (nI gsz) g16 g17 k_fgz (zs o 401 az) k_fs1 (bN 7 q_1) k_fs2 (upd fs2 ((nI gc) : Int32).toNatClampNeg (-1)) k_fs3 (upd fs3 ((nI gc) : Int32).toNatClampNeg (-1)) k_fs4 (upd fs4 ((nI gc) : Int32).toNatClampNeg 0) k_fs5 (upd fs5 ((nI gc) : Int32).toNatClampNeg 0) k_fhi fhi k_flo flo) ++ zp 5 25 N az ac kz qs fz) H := hP
  have hD : va_D A ((gt0__w g gz g1 g2 g3 g4 g5 (nI (gc + 1)) (nI gfull) gx gway gav ggoal (nI gfound) 400 (nI gl) (nI gsz) g16 g17 k_fgz (zs o 401 az) k_fs1 (bN 7 q_1) k_fs2 (upd fs2 ((nI gc) : Int32).toNatClampNeg (-1)) k_fs3 (upd fs3 ((nI gc) : Int32).toNatClampNeg (-1)) k_fs4 (upd fs4 ((nI gc) : Int32).toNatClampNeg 0) k_fs5 (upd fs5 ((nI gc) : Int32).toNatClampNeg 0) k_fhi fhi k_flo flo) ++ zp 5 25 N az ac kz qs fz) := hD
  refine lv_iload_n hx hb eX1_record_92 rfl (lv_at hl 1 rfl) ?_
  refine lv_aload_n hx hb eX1_record_93 rfl (lv_at hl 0 rfl) ?_
  refine va_get (D := (dC, dI)) (ci := 1) (v := .int ggoal) (C := RX1) (T := TX1) (N := 18) hx hb hts hiX1 hown hK hP 0 rfl rfl 11 (by decide) v_7 (fun _ h9 => h9) rfl eX1_record_94 ?_
  refine lv_icmp_ne (tgt := 105) hx hb eX1_record_97 (by decide) (fun c_3 => ?_) (fun c_3 => ?_)
  · exact W.vret hx hb hr (fun t ht hW => ⟨⟨(), rfl, trivial, ⟨q_1, (upd fs2 ((nI gc) : Int32).toNatClampNeg (-1)), (upd fs3 ((nI gc) : Int32).toNatClampNeg (-1)), (upd fs4 ((nI gc) : Int32).toNatClampNeg 0), (upd fs5 ((nI gc) : Int32).toNatClampNeg 0), gfound, ⟨by rw [ht]; exact hP, va_K.moved hW.alike hK, hD⟩, hgfound, gz_first hq0 (by omega)⟩⟩, hS.F ht⟩) hS.2.2 eX1_record_105
  · refine lv_aload_n hx hb eX1_record_100 rfl (lv_at hl 0 rfl) ?_
    refine lv_iconst (v := 1) hx hb eX1_record_101 (by decide) ?_
    refine va_put (D := (dC, dI)) (ci := 1) (v := .int 1) (ty := .boolean) (C := RX1) (T := TX1) (N := 18) hx hb hts hiX1 tyX1 tyX1_ok nmX1 hown hK hP hD hS 0 rfl rfl 12 (by decide) v_8 (fun _ h9 => h9) rfl (by decide +kernel) rfl rfl (Nat.le_of_ble_eq_true rfl) eX1_record_102 (fun H locs hP hD hS => ?_)
    have hP : va_P (dC, dI) vwCl ((gt0__w g gz g1 g2 g3 g4 g5 (nI (gc + 1)) (nI gfull) gx gway gav ggoal 1 400 (nI gl) (nI gsz) g16 g17 k_fgz (zs o 401 az) k_fs1 (bN 7 q_1) k_fs2 (upd fs2 ((nI gc) : Int32).toNatClampNeg (-1)) k_fs3 (upd fs3 ((nI gc) : Int32).toNatClampNeg (-1)) k_fs4 (upd fs4 ((nI gc) : Int32).toNatClampNeg 0) k_fs5 (upd fs5 ((nI gc) : Int32).toNatClampNeg 0) k_fhi fhi k_flo flo) ++ zp 5 25 N az ac kz qs fz) H := hP
    have hD : va_D A ((gt0__w g gz g1 g2 g3 g4 g5 (nI (gc + 1)) (nI gfull) gx gway gav ggoal 1 400 (nI gl) (nI gsz) g16 g17 k_fgz (zs o 401 az) k_fs1 (bN 7 q_1) k_fs2 (upd fs2 ((nI gc) : Int32).toNatClampNeg (-1)) k_fs3 (upd fs3 ((nI gc) : Int32).toNatClampNeg (-1)) k_fs4 (upd fs4 ((nI gc) : Int32).toNatClampNeg 0) k_fs5 (upd fs5 ((nI gc) : Int32).toNatClampNeg 0) k_fhi fhi k_flo flo) ++ zp 5 25 N az ac kz qs fz) := hD
    exact W.vret hx hb hr (fun t ht hW => ⟨⟨(), rfl, trivial, ⟨q_1, (upd fs2 ((nI gc) : Int32).toNatClampNeg (-1)), (upd fs3 ((nI gc) : Int32).toNatClampNeg (-1)), (upd fs4 ((nI gc) : Int32).toNatClampNeg 0), (upd fs5 ((nI gc) : Int32).toNatClampNeg 0), 1, ⟨by rw [ht]; exact hP, va_K.moved hW.alike hK, hD⟩, (Nat.le_of_ble_eq_true rfl), gz_first hq0 (by omega)⟩⟩, hS.F ht⟩) hS.2.2 eX1_record_105
abbrev vs_C_1_record1_25 : List Cond := .code yX1_record cX1_record 4 none :: CM
set_option maxHeartbeats 4000000 in
set_option maxRecDepth 100000 in
theorem c_C_1_record1_25 (l : Launch) (dC : Nat → ClassId) (dI : Nat → Nat → Nat) (sz : Nat) (g : Nat) (gz : Nat) (g1 : Nat) (g2 : Nat) (g3 : Nat) (g4 : Nat) (g5 : Nat) (gc : Nat) (gfull : Nat) (gx : Int32) (gway : Int32) (gav : Int32) (ggoal : Int32) (gfound : Nat) (gl : Nat) (gsz : Nat) (g16 : Nat) (g17 : Nat) (k_fgz : ClassId) (k_fs1 : ClassId) (q_fs1 : Nat → Nat) (k_fs2 : ClassId) (fs2 : Nat → Int32) (k_fs3 : ClassId) (fs3 : Nat → Int32) (k_fs4 : ClassId) (fs4 : Nat → Int32) (k_fs5 : ClassId) (fs5 : Nat → Int32) (k_fhi : ClassId) (fhi : Nat → Int32) (k_flo : ClassId) (flo : Nat → Int32) (N : Nat) (o : Nat) (az ac : Nat → Nat) (kz : Nat → ClassId) (qs : Nat → Nat) (fz : Nat → Nat → Int32) (a0 : Nat) (a1 : Nat) (a2 : Nat) (hgc : gc ≤ 399) (hgfull : gfull ≤ 1) (hgfound : gfound ≤ 1) (hgl : gl ≤ 1) (hgsz : gsz ≤ 5) (hN : o + 401 ≤ N) (ha0 : a0 ≤ 7) (ha1 : a1 ≤ 399) (ha2 : a2 ≤ 13) (hq0 : gz_ok gc fs2 fs3 fs4) (hq1 : a1 < gc) : Met l yX1_record vs_C_1_record1_25 ({ frames := 0, cells := 0, slots := 0, locals := 0 }) (va_Pc [.ref g, .int (nI a0), .int (nI a1), .int (nI a2)] (pu_B (dC, dI) ((gt0__w g gz g1 g2 g3 g4 g5 (nI gc) (nI gfull) gx gway gav ggoal (nI gfound) 400 (nI gl) (nI gsz) g16 g17 k_fgz (zs o 401 az) k_fs1 (bN 7 q_fs1) k_fs2 fs2 k_fs3 fs3 k_fs4 fs4 k_fs5 fs5 k_fhi fhi k_flo flo) ++ zp 5 25 N az ac kz qs fz) ((gt0__t k_fgz k_fs1 k_fs2 k_fs3 k_fs4 k_fs5 k_fhi k_flo) ++ zt N kz) sz)) (va_Qv (fun (_ : Unit) => True) (fun _ t => ∃ (z_fs1 : Nat → Nat) (z_fs2 : Nat → Int32) (z_fs3 : Nat → Int32) (z_fs4 : Nat → Int32) (z_fs5 : Nat → Int32) (z_gfound : Nat), pu_E (dC, dI) ((gt0__w g gz g1 g2 g3 g4 g5 (nI (gc + 1)) (nI gfull) gx gway gav ggoal (nI z_gfound) 400 (nI gl) (nI gsz) g16 g17 k_fgz (zs o 401 az) k_fs1 (bN 7 z_fs1) k_fs2 z_fs2 k_fs3 z_fs3 k_fs4 z_fs4 k_fs5 z_fs5 k_fhi fhi k_flo flo) ++ zp 5 25 N az ac kz qs fz) ((gt0__t k_fgz k_fs1 k_fs2 k_fs3 k_fs4 k_fs5 k_fhi k_flo) ++ zt N kz) (va_A (((gt0__w g gz g1 g2 g3 g4 g5 (nI gc) (nI gfull) gx gway gav ggoal (nI gfound) 400 (nI gl) (nI gsz) g16 g17 k_fgz (zs o 401 az) k_fs1 (bN 7 q_fs1) k_fs2 fs2 k_fs3 fs3 k_fs4 fs4 k_fs5 fs5 k_fhi fhi k_flo flo) ++ zp 5 25 N az ac kz qs fz)) sz) t ∧ (z_gfound ≤ 1) ∧ (gz_ok (gc + 1) z_fs2 z_fs3 z_fs4)) (va_A (((gt0__w g gz g1 g2 g3 g4 g5 (nI gc) (nI gfull) gx gway gav ggoal (nI gfound) 400 (nI gl) (nI gsz) g16 g17 k_fgz (zs o 401 az) k_fs1 (bN 7 q_fs1) k_fs2 fs2 k_fs3 fs3 k_fs4 fs4 k_fs5 fs5 k_fhi fhi k_flo flo) ++ zp 5 25 N az ac kz qs fz)) sz)) 0 0 (va_A (((gt0__w g gz g1 g2 g3 g4 g5 (nI gc) (nI gfull) gx gway gav ggoal (nI gfound) 400 (nI gl) (nI gsz) g16 g17 k_fgz (zs o 401 az) k_fs1 (bN 7 q_fs1) k_fs2 fs2 k_fs3 fs3 k_fs4 fs4 k_fs5 fs5 k_fhi fhi k_flo flo) ++ zp 5 25 N az ac kz qs fz)) sz) := by
  refine Met.ofW (cc := cX1_record) (maxL := 4) (ret := none) (by decide) rfl ?_
  intro p e s m args below meth c s₁ B hml hv
  obtain ⟨rfl, rfl, hP, hK, hD0⟩ := hv
  have hx := B.exec
  have hb := B.bytes
  have hr := B.returns
  have hts := atoms_spec (ws := vs_C_1_record1_25) B.pre
  have v_1 := hts (.fieldLink RX1 24 "ClockReach$Graph" "sites" "[I") (List.mem_cons_of_mem _ cm_115)
  have v_2 := hts (.fieldLink RX1 79 "ClockReach$Graph" "count" "I") (List.mem_cons_of_mem _ cm_89)
  have v_3 := hts (.fieldLink RX1 28 "ClockReach$Graph" "parents" "[I") (List.mem_cons_of_mem _ cm_116)
  have v_4 := hts (.fieldLink RX1 31 "ClockReach$Graph" "entries" "[I") (List.mem_cons_of_mem _ cm_117)
  have v_5 := hts (.fieldLink RX1 34 "ClockReach$Graph" "depths" "[I") (List.mem_cons_of_mem _ cm_118)
  have v_6 := hts (.fieldLink RX1 37 "ClockReach$Graph" "broods" "[I") (List.mem_cons_of_mem _ cm_119)
  have v_7 := hts (.fieldLink RX1 59 "ClockReach$Graph" "goal" "I") (List.mem_cons_of_mem _ cm_80)
  have v_8 := hts (.fieldLink RX1 62 "ClockReach$Graph" "found" "Z") (List.mem_cons_of_mem _ cm_81)
  have hown : s.vm.findClass RX1 = some m.cls := findClass_of_methodNamed B.named
  have hlocks := B.notSynchronized
  have hiX1 : ∀ w ∈ wsX10, w ∈ vs_C_1_record1_25 := fun _ h => List.mem_cons_of_mem _ (cm_X1 h)
  have hD := hD0.self (sz := s.heap.size)
  generalize hAe : va_A (((gt0__w g gz g1 g2 g3 g4 g5 (nI gc) (nI gfull) gx gway gav ggoal (nI gfound) 400 (nI gl) (nI gsz) g16 g17 k_fgz (zs o 401 az) k_fs1 (bN 7 q_fs1) k_fs2 fs2 k_fs3 fs3 k_fs4 fs4 k_fs5 fs5 k_fhi fhi k_flo flo) ++ zp 5 25 N az ac kz qs fz)) s.heap.size = A at hD ⊢
  have hA : ∀ q : Nat, s.heap.size ≤ q → A q := fun q h => by rw [← hAe]; exact Or.inr h
  have hS : va_S A s.heap s.heap [] := va_S.rf
  have hl := lv_entry ([.ref g, .int (nI a0), .int (nI a1), .int (nI a2)]) (n := 4) (Nat.le_of_ble_eq_true rfl)
  rw [lg_entry_eq]
  generalize (lg_sl ([.ref g, .int (nI a0), .int (nI a1), .int (nI a2)]) ++ List.replicate (4 - (lg_sl ([.ref g, .int (nI a0), .int (nI a1), .int (nI a2)])).length) Slot.unset).toArray = ls at hl ⊢
  have hl : lv_has ls 4 [(0, .ref g), (1, .int (nI a0)), (2, .int (nI a1)), (3, .int (nI a2))] := hl
  refine lv_aload_n hx hb eX1_record_0 rfl (lv_at hl 0 rfl) ?_
  refine va_get (D := (dC, dI)) (ci := 1) (v := .ref g1) (C := RX1) (T := TX1) (N := 18) hx hb hts hiX1 hown hK hP 0 rfl rfl 1 (by decide) v_1 (fun _ h9 => h9) rfl eX1_record_1 ?_
  refine lv_aload_n hx hb eX1_record_4 rfl (lv_at hl 0 rfl) ?_
  refine va_get (D := (dC, dI)) (ci := 1) (v := .int (nI gc)) (C := RX1) (T := TX1) (N := 18) hx hb hts hiX1 hown hK hP 0 rfl rfl 6 (by decide) v_2 (fun _ h9 => h9) rfl eX1_record_5 ?_
  refine lv_iload_n hx hb eX1_record_8 rfl (lv_at hl 1 rfl) ?_
  refine va_iast hx hb hK hP hD hS 2 1 rfl rfl (vp_in_nI (n := gc) (Nat.lt_of_le_of_lt hgc (Nat.le_of_ble_eq_true rfl)) (Nat.le_of_ble_eq_true rfl)) eX1_record_9 (fun H locs hP hD hS => ?_)
  obtain ⟨q_1, eq_1, kq_1⟩ := bN_up 7 q_fs1 (((nI gc) : Int32).toNatClampNeg) (v := a0) ha0
  have hP : va_P (dC, dI) vwCl ((gt0__w g gz g1 g2 g3 g4 g5 (nI gc) (nI gfull) gx gway gav ggoal (nI gfound) 400 (nI gl) (nI gsz) g16 g17 k_fgz (zs o 401 az) k_fs1 (bN 7 q_1) k_fs2 fs2 k_fs3 fs3 k_fs4 fs4 k_fs5 fs5 k_fhi fhi k_flo flo) ++ zp 5 25 N az ac kz qs fz) H := by rw [← eq_1]; exact hP
  have hD : va_D A ((gt0__w g gz g1 g2 g3 g4 g5 (nI gc) (nI gfull) gx gway gav ggoal (nI gfound) 400 (nI gl) (nI gsz) g16 g17 k_fgz (zs o 401 az) k_fs1 (bN 7 q_1) k_fs2 fs2 k_fs3 fs3 k_fs4 fs4 k_fs5 fs5 k_fhi fhi k_flo flo) ++ zp 5 25 N az ac kz qs fz) := by rw [← eq_1]; exact hD
  refine lv_aload_n hx hb eX1_record_10 rfl (lv_at hl 0 rfl) ?_
  refine va_get (D := (dC, dI)) (ci := 1) (v := .ref g2) (C := RX1) (T := TX1) (N := 18) hx hb hts hiX1 hown hK hP 0 rfl rfl 2 (by decide) v_3 (fun _ h9 => h9) rfl eX1_record_11 ?_
  refine lv_aload_n hx hb eX1_record_14 rfl (lv_at hl 0 rfl) ?_
  refine va_get (D := (dC, dI)) (ci := 1) (v := .int (nI gc)) (C := RX1) (T := TX1) (N := 18) hx hb hts hiX1 hown hK hP 0 rfl rfl 6 (by decide) v_2 (fun _ h9 => h9) rfl eX1_record_15 ?_
  refine lv_iload_n hx hb eX1_record_18 rfl (lv_at hl 2 rfl) ?_
  refine va_iast hx hb hK hP hD hS 3 2 rfl rfl (vp_in_nI (n := gc) (Nat.lt_of_le_of_lt hgc (Nat.le_of_ble_eq_true rfl)) (Nat.le_of_ble_eq_true rfl)) eX1_record_19 (fun H locs hP hD hS => ?_)
  have hP : va_P (dC, dI) vwCl ((gt0__w g gz g1 g2 g3 g4 g5 (nI gc) (nI gfull) gx gway gav ggoal (nI gfound) 400 (nI gl) (nI gsz) g16 g17 k_fgz (zs o 401 az) k_fs1 (bN 7 q_1) k_fs2 (upd fs2 ((nI gc) : Int32).toNatClampNeg (nI a1)) k_fs3 fs3 k_fs4 fs4 k_fs5 fs5 k_fhi fhi k_flo flo) ++ zp 5 25 N az ac kz qs fz) H := hP
  have hD : va_D A ((gt0__w g gz g1 g2 g3 g4 g5 (nI gc) (nI gfull) gx gway gav ggoal (nI gfound) 400 (nI gl) (nI gsz) g16 g17 k_fgz (zs o 401 az) k_fs1 (bN 7 q_1) k_fs2 (upd fs2 ((nI gc) : Int32).toNatClampNeg (nI a1)) k_fs3 fs3 k_fs4 fs4 k_fs5 fs5 k_fhi fhi k_flo flo) ++ zp 5 25 N az ac kz qs fz) := hD
  refine lv_aload_n hx hb eX1_record_20 rfl (lv_at hl 0 rfl) ?_
  refine va_get (D := (dC, dI)) (ci := 1) (v := .ref g3) (C := RX1) (T := TX1) (N := 18) hx hb hts hiX1 hown hK hP 0 rfl rfl 3 (by decide) v_4 (fun _ h9 => h9) rfl eX1_record_21 ?_
  refine lv_aload_n hx hb eX1_record_24 rfl (lv_at hl 0 rfl) ?_
  refine va_get (D := (dC, dI)) (ci := 1) (v := .int (nI gc)) (C := RX1) (T := TX1) (N := 18) hx hb hts hiX1 hown hK hP 0 rfl rfl 6 (by decide) v_2 (fun _ h9 => h9) rfl eX1_record_25 ?_
  refine lv_iload_n hx hb eX1_record_28 rfl (lv_at hl 3 rfl) ?_
  refine va_iast hx hb hK hP hD hS 4 3 rfl rfl (vp_in_nI (n := gc) (Nat.lt_of_le_of_lt hgc (Nat.le_of_ble_eq_true rfl)) (Nat.le_of_ble_eq_true rfl)) eX1_record_29 (fun H locs hP hD hS => ?_)
  have hP : va_P (dC, dI) vwCl ((gt0__w g gz g1 g2 g3 g4 g5 (nI gc) (nI gfull) gx gway gav ggoal (nI gfound) 400 (nI gl) (nI gsz) g16 g17 k_fgz (zs o 401 az) k_fs1 (bN 7 q_1) k_fs2 (upd fs2 ((nI gc) : Int32).toNatClampNeg (nI a1)) k_fs3 (upd fs3 ((nI gc) : Int32).toNatClampNeg (nI a2)) k_fs4 fs4 k_fs5 fs5 k_fhi fhi k_flo flo) ++ zp 5 25 N az ac kz qs fz) H := hP
  have hD : va_D A ((gt0__w g gz g1 g2 g3 g4 g5 (nI gc) (nI gfull) gx gway gav ggoal (nI gfound) 400 (nI gl) (nI gsz) g16 g17 k_fgz (zs o 401 az) k_fs1 (bN 7 q_1) k_fs2 (upd fs2 ((nI gc) : Int32).toNatClampNeg (nI a1)) k_fs3 (upd fs3 ((nI gc) : Int32).toNatClampNeg (nI a2)) k_fs4 fs4 k_fs5 fs5 k_fhi fhi k_flo flo) ++ zp 5 25 N az ac kz qs fz) := hD
  refine lv_aload_n hx hb eX1_record_30 rfl (lv_at hl 0 rfl) ?_
  refine va_get (D := (dC, dI)) (ci := 1) (v := .ref g4) (C := RX1) (T := TX1) (N := 18) hx hb hts hiX1 hown hK hP 0 rfl rfl 4 (by decide) v_5 (fun _ h9 => h9) rfl eX1_record_31 ?_
  refine lv_aload_n hx hb eX1_record_34 rfl (lv_at hl 0 rfl) ?_
  refine va_get (D := (dC, dI)) (ci := 1) (v := .int (nI gc)) (C := RX1) (T := TX1) (N := 18) hx hb hts hiX1 hown hK hP 0 rfl rfl 6 (by decide) v_2 (fun _ h9 => h9) rfl eX1_record_35 ?_
  refine lv_iconst (v := 0) hx hb eX1_record_38 (by decide) ?_
  refine va_iast hx hb hK hP hD hS 5 4 rfl rfl (vp_in_nI (n := gc) (Nat.lt_of_le_of_lt hgc (Nat.le_of_ble_eq_true rfl)) (Nat.le_of_ble_eq_true rfl)) eX1_record_39 (fun H locs hP hD hS => ?_)
  have hP : va_P (dC, dI) vwCl ((gt0__w g gz g1 g2 g3 g4 g5 (nI gc) (nI gfull) gx gway gav ggoal (nI gfound) 400 (nI gl) (nI gsz) g16 g17 k_fgz (zs o 401 az) k_fs1 (bN 7 q_1) k_fs2 (upd fs2 ((nI gc) : Int32).toNatClampNeg (nI a1)) k_fs3 (upd fs3 ((nI gc) : Int32).toNatClampNeg (nI a2)) k_fs4 (upd fs4 ((nI gc) : Int32).toNatClampNeg 0) k_fs5 fs5 k_fhi fhi k_flo flo) ++ zp 5 25 N az ac kz qs fz) H := hP
  have hD : va_D A ((gt0__w g gz g1 g2 g3 g4 g5 (nI gc) (nI gfull) gx gway gav ggoal (nI gfound) 400 (nI gl) (nI gsz) g16 g17 k_fgz (zs o 401 az) k_fs1 (bN 7 q_1) k_fs2 (upd fs2 ((nI gc) : Int32).toNatClampNeg (nI a1)) k_fs3 (upd fs3 ((nI gc) : Int32).toNatClampNeg (nI a2)) k_fs4 (upd fs4 ((nI gc) : Int32).toNatClampNeg 0) k_fs5 fs5 k_fhi fhi k_flo flo) ++ zp 5 25 N az ac kz qs fz) := hD
  refine lv_aload_n hx hb eX1_record_40 rfl (lv_at hl 0 rfl) ?_
  refine va_get (D := (dC, dI)) (ci := 1) (v := .ref g5) (C := RX1) (T := TX1) (N := 18) hx hb hts hiX1 hown hK hP 0 rfl rfl 5 (by decide) v_6 (fun _ h9 => h9) rfl eX1_record_41 ?_
  refine lv_aload_n hx hb eX1_record_44 rfl (lv_at hl 0 rfl) ?_
  refine va_get (D := (dC, dI)) (ci := 1) (v := .int (nI gc)) (C := RX1) (T := TX1) (N := 18) hx hb hts hiX1 hown hK hP 0 rfl rfl 6 (by decide) v_2 (fun _ h9 => h9) rfl eX1_record_45 ?_
  refine lv_iconst (v := 0) hx hb eX1_record_48 (by decide) ?_
  refine va_iast hx hb hK hP hD hS 6 5 rfl rfl (vp_in_nI (n := gc) (Nat.lt_of_le_of_lt hgc (Nat.le_of_ble_eq_true rfl)) (Nat.le_of_ble_eq_true rfl)) eX1_record_49 (fun H locs hP hD hS => ?_)
  have hP : va_P (dC, dI) vwCl ((gt0__w g gz g1 g2 g3 g4 g5 (nI gc) (nI gfull) gx gway gav ggoal (nI gfound) 400 (nI gl) (nI gsz) g16 g17 k_fgz (zs o 401 az) k_fs1 (bN 7 q_1) k_fs2 (upd fs2 ((nI gc) : Int32).toNatClampNeg (nI a1)) k_fs3 (upd fs3 ((nI gc) : Int32).toNatClampNeg (nI a2)) k_fs4 (upd fs4 ((nI gc) : Int32).toNatClampNeg 0) k_fs5 (upd fs5 ((nI gc) : Int32).toNatClampNeg 0) k_fhi fhi k_flo flo) ++ zp 5 25 N az ac kz qs fz) H := hP
  have hD : va_D A ((gt0__w g gz g1 g2 g3 g4 g5 (nI gc) (nI gfull) gx gway gav ggoal (nI gfound) 400 (nI gl) (nI gsz) g16 g17 k_fgz (zs o 401 az) k_fs1 (bN 7 q_1) k_fs2 (upd fs2 ((nI gc) : Int32).toNatClampNeg (nI a1)) k_fs3 (upd fs3 ((nI gc) : Int32).toNatClampNeg (nI a2)) k_fs4 (upd fs4 ((nI gc) : Int32).toNatClampNeg 0) k_fs5 (upd fs5 ((nI gc) : Int32).toNatClampNeg 0) k_fhi fhi k_flo flo) ++ zp 5 25 N az ac kz qs fz) := hD
  refine lv_iload_n hx hb eX1_record_50 rfl (lv_at hl 2 rfl) ?_
  refine lv_iconst (v := (-1)) hx hb eX1_record_51 (by decide) ?_
  refine lv_icmp_eq (tgt := 82) hx hb eX1_record_52 (by decide) (fun z => absurd z (pu_nneg (n := a1) (by omega) (by decide))) (fun _ => ?_)
  refine lv_aload_n hx hb eX1_record_55 rfl (lv_at hl 0 rfl) ?_
  refine va_get (D := (dC, dI)) (ci := 1) (v := .ref g4) (C := RX1) (T := TX1) (N := 18) hx hb hts hiX1 hown hK hP 0 rfl rfl 4 (by decide) v_5 (fun _ h9 => h9) rfl eX1_record_56 ?_
  refine lv_aload_n hx hb eX1_record_59 rfl (lv_at hl 0 rfl) ?_
  refine va_get (D := (dC, dI)) (ci := 1) (v := .int (nI gc)) (C := RX1) (T := TX1) (N := 18) hx hb hts hiX1 hown hK hP 0 rfl rfl 6 (by decide) v_2 (fun _ h9 => h9) rfl eX1_record_60 ?_
  refine lv_aload_n hx hb eX1_record_63 rfl (lv_at hl 0 rfl) ?_
  refine va_get (D := (dC, dI)) (ci := 1) (v := .ref g4) (C := RX1) (T := TX1) (N := 18) hx hb hts hiX1 hown hK hP 0 rfl rfl 4 (by decide) v_5 (fun _ h9 => h9) rfl eX1_record_64 ?_
  refine lv_iload_n hx hb eX1_record_67 rfl (lv_at hl 2 rfl) ?_
  refine va_iald hx hb hK hP 5 4 rfl rfl (vp_in_nI (n := a1) (Nat.lt_of_le_of_lt ha1 (Nat.le_of_ble_eq_true rfl)) (Nat.le_of_ble_eq_true rfl)) eX1_record_68 ?_
  refine lv_topi (fun y_2 ey_2 => ?_)
  refine lv_iconst (v := 1) hx hb eX1_record_69 (by decide) ?_
  refine lv_iadd hx hb eX1_record_70 ?_
  refine lv_topi (fun y_3 ey_3 => ?_)
  refine va_iast hx hb hK hP hD hS 5 4 rfl rfl (vp_in_nI (n := gc) (Nat.lt_of_le_of_lt hgc (Nat.le_of_ble_eq_true rfl)) (Nat.le_of_ble_eq_true rfl)) eX1_record_71 (fun H locs hP hD hS => ?_)
  have hP : va_P (dC, dI) vwCl ((gt0__w g gz g1 g2 g3 g4 g5 (nI gc) (nI gfull) gx gway gav ggoal (nI gfound) 400 (nI gl) (nI gsz) g16 g17 k_fgz (zs o 401 az) k_fs1 (bN 7 q_1) k_fs2 (upd fs2 ((nI gc) : Int32).toNatClampNeg (nI a1)) k_fs3 (upd fs3 ((nI gc) : Int32).toNatClampNeg (nI a2)) k_fs4 (upd (upd fs4 ((nI gc) : Int32).toNatClampNeg 0) ((nI gc) : Int32).toNatClampNeg y_3) k_fs5 (upd fs5 ((nI gc) : Int32).toNatClampNeg 0) k_fhi fhi k_flo flo) ++ zp 5 25 N az ac kz qs fz) H := hP
  have hD : va_D A ((gt0__w g gz g1 g2 g3 g4 g5 (nI gc) (nI gfull) gx gway gav ggoal (nI gfound) 400 (nI gl) (nI gsz) g16 g17 k_fgz (zs o 401 az) k_fs1 (bN 7 q_1) k_fs2 (upd fs2 ((nI gc) : Int32).toNatClampNeg (nI a1)) k_fs3 (upd fs3 ((nI gc) : Int32).toNatClampNeg (nI a2)) k_fs4 (upd (upd fs4 ((nI gc) : Int32).toNatClampNeg 0) ((nI gc) : Int32).toNatClampNeg y_3) k_fs5 (upd fs5 ((nI gc) : Int32).toNatClampNeg 0) k_fhi fhi k_flo flo) ++ zp 5 25 N az ac kz qs fz) := hD
  refine lv_aload_n hx hb eX1_record_72 rfl (lv_at hl 0 rfl) ?_
  refine va_get (D := (dC, dI)) (ci := 1) (v := .ref g5) (C := RX1) (T := TX1) (N := 18) hx hb hts hiX1 hown hK hP 0 rfl rfl 5 (by decide) v_6 (fun _ h9 => h9) rfl eX1_record_73 ?_
  refine lv_iload_n hx hb eX1_record_76 rfl (lv_at hl 2 rfl) ?_
  refine lv_dup2_11 hx hb eX1_record_77 rfl rfl ?_
  refine va_iald hx hb hK hP 6 5 rfl rfl (vp_in_nI (n := a1) (Nat.lt_of_le_of_lt ha1 (Nat.le_of_ble_eq_true rfl)) (Nat.le_of_ble_eq_true rfl)) eX1_record_78 ?_
  refine lv_topi (fun y_4 ey_4 => ?_)
  refine lv_iconst (v := 1) hx hb eX1_record_79 (by decide) ?_
  refine lv_iadd hx hb eX1_record_80 ?_
  refine lv_topi (fun y_5 ey_5 => ?_)
  refine va_iast hx hb hK hP hD hS 6 5 rfl rfl (vp_in_nI (n := a1) (Nat.lt_of_le_of_lt ha1 (Nat.le_of_ble_eq_true rfl)) (Nat.le_of_ble_eq_true rfl)) eX1_record_81 (fun H locs hP hD hS => ?_)
  have hP : va_P (dC, dI) vwCl ((gt0__w g gz g1 g2 g3 g4 g5 (nI gc) (nI gfull) gx gway gav ggoal (nI gfound) 400 (nI gl) (nI gsz) g16 g17 k_fgz (zs o 401 az) k_fs1 (bN 7 q_1) k_fs2 (upd fs2 ((nI gc) : Int32).toNatClampNeg (nI a1)) k_fs3 (upd fs3 ((nI gc) : Int32).toNatClampNeg (nI a2)) k_fs4 (upd (upd fs4 ((nI gc) : Int32).toNatClampNeg 0) ((nI gc) : Int32).toNatClampNeg y_3) k_fs5 (upd (upd fs5 ((nI gc) : Int32).toNatClampNeg 0) ((nI a1) : Int32).toNatClampNeg y_5) k_fhi fhi k_flo flo) ++ zp 5 25 N az ac kz qs fz) H := hP
  have hD : va_D A ((gt0__w g gz g1 g2 g3 g4 g5 (nI gc) (nI gfull) gx gway gav ggoal (nI gfound) 400 (nI gl) (nI gsz) g16 g17 k_fgz (zs o 401 az) k_fs1 (bN 7 q_1) k_fs2 (upd fs2 ((nI gc) : Int32).toNatClampNeg (nI a1)) k_fs3 (upd fs3 ((nI gc) : Int32).toNatClampNeg (nI a2)) k_fs4 (upd (upd fs4 ((nI gc) : Int32).toNatClampNeg 0) ((nI gc) : Int32).toNatClampNeg y_3) k_fs5 (upd (upd fs5 ((nI gc) : Int32).toNatClampNeg 0) ((nI a1) : Int32).toNatClampNeg y_5) k_fhi fhi k_flo flo) ++ zp 5 25 N az ac kz qs fz) := hD
  refine lv_aload_n hx hb eX1_record_82 rfl (lv_at hl 0 rfl) ?_
  refine lv_dup hx hb eX1_record_83 rfl ?_
  refine va_get (D := (dC, dI)) (ci := 1) (v := .int (nI gc)) (C := RX1) (T := TX1) (N := 18) hx hb hts hiX1 hown hK hP 0 rfl rfl 6 (by decide) v_2 (fun _ h9 => h9) rfl eX1_record_84 ?_
  refine lv_iconst (v := 1) hx hb eX1_record_87 (by decide) ?_
  refine lv_iadd hx hb eX1_record_88 ?_
  refine lv_topi (fun y_6 ey_6 => ?_)
  obtain rfl : y_6 = (nI (gc + 1)) := ey_6.trans (nI_add gc 1)
  refine va_put (D := (dC, dI)) (ci := 1) (v := .int (nI (gc + 1))) (ty := .int) (C := RX1) (T := TX1) (N := 18) hx hb hts hiX1 tyX1 tyX1_ok nmX1 hown hK hP hD hS 0 rfl rfl 6 (by decide) v_2 (fun _ h9 => h9) rfl (by decide +kernel) rfl rfl (Nat.le_of_ble_eq_true rfl) eX1_record_89 (fun H locs hP hD hS => ?_)
  have hP : va_P (dC, dI) vwCl ((gt0__w g gz g1 g2 g3 g4 g5 (nI (gc + 1)) (nI gfull) gx gway gav ggoal (nI gfound) 400 (nI gl) (nI gsz) g16 g17 k_fgz (zs o 401 az) k_fs1 (bN 7 q_1) k_fs2 (upd fs2 ((nI gc) : Int32).toNatClampNeg (nI a1)) k_fs3 (upd fs3 ((nI gc) : Int32).toNatClampNeg (nI a2)) k_fs4 (upd (upd fs4 ((nI gc) : Int32).toNatClampNeg 0) ((nI gc) : Int32).toNatClampNeg y_3) k_fs5 (upd (upd fs5 ((nI gc) : Int32).toNatClampNeg 0) ((nI a1) : Int32).toNatClampNeg y_5) k_fhi fhi k_flo flo) ++ zp 5 25 N az ac kz qs fz) H := hP
  have hD : va_D A ((gt0__w g gz g1 g2 g3 g4 g5 (nI (gc + 1)) (nI gfull) gx gway gav ggoal (nI gfound) 400 (nI gl) (nI gsz) g16 g17 k_fgz (zs o 401 az) k_fs1 (bN 7 q_1) k_fs2 (upd fs2 ((nI gc) : Int32).toNatClampNeg (nI a1)) k_fs3 (upd fs3 ((nI gc) : Int32).toNatClampNeg (nI a2)) k_fs4 (upd (upd fs4 ((nI gc) : Int32).toNatClampNeg 0) ((nI gc) : Int32).toNatClampNeg y_3) k_fs5 (upd (upd fs5 ((nI gc) : Int32).toNatClampNeg 0) ((nI a1) : Int32).toNatClampNeg y_5) k_fhi fhi k_flo flo) ++ zp 5 25 N az ac kz qs fz) := hD
  refine lv_iload_n hx hb eX1_record_92 rfl (lv_at hl 1 rfl) ?_
  refine lv_aload_n hx hb eX1_record_93 rfl (lv_at hl 0 rfl) ?_
  refine va_get (D := (dC, dI)) (ci := 1) (v := .int ggoal) (C := RX1) (T := TX1) (N := 18) hx hb hts hiX1 hown hK hP 0 rfl rfl 11 (by decide) v_7 (fun _ h9 => h9) rfl eX1_record_94 ?_
  refine lv_icmp_ne (tgt := 105) hx hb eX1_record_97 (by decide) (fun c_7 => ?_) (fun c_7 => ?_)
  · exact W.vret hx hb hr (fun t ht hW => ⟨⟨(), rfl, trivial, ⟨q_1, (upd fs2 ((nI gc) : Int32).toNatClampNeg (nI a1)), (upd fs3 ((nI gc) : Int32).toNatClampNeg (nI a2)), (upd (upd fs4 ((nI gc) : Int32).toNatClampNeg 0) ((nI gc) : Int32).toNatClampNeg y_3), (upd (upd fs5 ((nI gc) : Int32).toNatClampNeg 0) ((nI a1) : Int32).toNatClampNeg y_5), gfound, ⟨by rw [ht]; exact hP, va_K.moved hW.alike hK, hD⟩, hgfound, gz_rec hq0 (by omega) (by omega) (by omega) ey_2 ey_3⟩⟩, hS.F ht⟩) hS.2.2 eX1_record_105
  · refine lv_aload_n hx hb eX1_record_100 rfl (lv_at hl 0 rfl) ?_
    refine lv_iconst (v := 1) hx hb eX1_record_101 (by decide) ?_
    refine va_put (D := (dC, dI)) (ci := 1) (v := .int 1) (ty := .boolean) (C := RX1) (T := TX1) (N := 18) hx hb hts hiX1 tyX1 tyX1_ok nmX1 hown hK hP hD hS 0 rfl rfl 12 (by decide) v_8 (fun _ h9 => h9) rfl (by decide +kernel) rfl rfl (Nat.le_of_ble_eq_true rfl) eX1_record_102 (fun H locs hP hD hS => ?_)
    have hP : va_P (dC, dI) vwCl ((gt0__w g gz g1 g2 g3 g4 g5 (nI (gc + 1)) (nI gfull) gx gway gav ggoal 1 400 (nI gl) (nI gsz) g16 g17 k_fgz (zs o 401 az) k_fs1 (bN 7 q_1) k_fs2 (upd fs2 ((nI gc) : Int32).toNatClampNeg (nI a1)) k_fs3 (upd fs3 ((nI gc) : Int32).toNatClampNeg (nI a2)) k_fs4 (upd (upd fs4 ((nI gc) : Int32).toNatClampNeg 0) ((nI gc) : Int32).toNatClampNeg y_3) k_fs5 (upd (upd fs5 ((nI gc) : Int32).toNatClampNeg 0) ((nI a1) : Int32).toNatClampNeg y_5) k_fhi fhi k_flo flo) ++ zp 5 25 N az ac kz qs fz) H := hP
    have hD : va_D A ((gt0__w g gz g1 g2 g3 g4 g5 (nI (gc + 1)) (nI gfull) gx gway gav ggoal 1 400 (nI gl) (nI gsz) g16 g17 k_fgz (zs o 401 az) k_fs1 (bN 7 q_1) k_fs2 (upd fs2 ((nI gc) : Int32).toNatClampNeg (nI a1)) k_fs3 (upd fs3 ((nI gc) : Int32).toNatClampNeg (nI a2)) k_fs4 (upd (upd fs4 ((nI gc) : Int32).toNatClampNeg 0) ((nI gc) : Int32).toNatClampNeg y_3) k_fs5 (upd (upd fs5 ((nI gc) : Int32).toNatClampNeg 0) ((nI a1) : Int32).toNatClampNeg y_5) k_fhi fhi k_flo flo) ++ zp 5 25 N az ac kz qs fz) := hD
    exact W.vret hx hb hr (fun t ht hW => ⟨⟨(), rfl, trivial, ⟨q_1, (upd fs2 ((nI gc) : Int32).toNatClampNeg (nI a1)), (upd fs3 ((nI gc) : Int32).toNatClampNeg (nI a2)), (upd (upd fs4 ((nI gc) : Int32).toNatClampNeg 0) ((nI gc) : Int32).toNatClampNeg y_3), (upd (upd fs5 ((nI gc) : Int32).toNatClampNeg 0) ((nI a1) : Int32).toNatClampNeg y_5), 1, ⟨by rw [ht]; exact hP, va_K.moved hW.alike hK, hD⟩, (Nat.le_of_ble_eq_true rfl), gz_rec hq0 (by omega) (by omega) (by omega) ey_2 ey_3⟩⟩, hS.F ht⟩) hS.2.2 eX1_record_105
abbrev vs_C_1_isKnown_25 : List Cond := .code yX1_isKnown cX1_isKnown 4 (some .boolean) :: CM
theorem g_C_1_isKnown_25_C_7_equalTo_25 : GoodIn vs_C_1_isKnown_25 (wsV RX1 143 RX7 yX7_equalTo vs_C_7_equalTo_25) := cm_gV cm_147 cm_148 cm_149 cm_45 cm_150
theorem g_C_1_isKnown_25_C_7_holdsAll_25 : GoodIn vs_C_1_isKnown_25 (wsV RX1 139 RX7 yX7_holdsAll vs_C_7_holdsAll_25) := cm_gV cm_143 cm_144 cm_145 cm_45 cm_146
set_option maxHeartbeats 4000000 in
set_option maxRecDepth 100000 in
theorem c_C_1_isKnown_25 (l : Launch) (dC : Nat → ClassId) (dI : Nat → Nat → Nat) (sz : Nat) (g : Nat) (gz : Nat) (g1 : Nat) (g2 : Nat) (g3 : Nat) (g4 : Nat) (g5 : Nat) (gc : Nat) (gfull : Nat) (gx : Int32) (gway : Int32) (gav : Int32) (ggoal : Int32) (gfound : Nat) (gl : Nat) (gsz : Nat) (g16 : Nat) (g17 : Nat) (k_fgz : ClassId) (k_fs1 : ClassId) (q_fs1 : Nat → Nat) (k_fs2 : ClassId) (fs2 : Nat → Int32) (k_fs3 : ClassId) (fs3 : Nat → Int32) (k_fs4 : ClassId) (fs4 : Nat → Int32) (k_fs5 : ClassId) (fs5 : Nat → Int32) (k_fhi : ClassId) (fhi : Nat → Int32) (k_flo : ClassId) (flo : Nat → Int32) (N : Nat) (o : Nat) (az ac : Nat → Nat) (kz : Nat → ClassId) (qs : Nat → Nat) (fz : Nat → Nat → Int32) (kk : Nat) (a1 : Nat) (hgc : gc ≤ 400) (hgfull : gfull ≤ 1) (hgfound : gfound ≤ 1) (hgl : gl ≤ 1) (hgsz : gsz ≤ 5) (hN : o + 401 ≤ N) (hkk : kk < N) (ha1 : a1 ≤ 7) (hq0 : o + gc ≤ kk) : Met l yX1_isKnown vs_C_1_isKnown_25 ({ frames := 1, cells := 0, slots := 0, locals := 22 }) (va_Pc [.ref g, .ref (az kk), .int (nI a1)] (pu_B (dC, dI) ((gt0__w g gz g1 g2 g3 g4 g5 (nI gc) (nI gfull) gx gway gav ggoal (nI gfound) 400 (nI gl) (nI gsz) g16 g17 k_fgz (zs o 401 az) k_fs1 (bN 7 q_fs1) k_fs2 fs2 k_fs3 fs3 k_fs4 fs4 k_fs5 fs5 k_fhi fhi k_flo flo) ++ zp 5 25 N az ac kz qs fz) ((gt0__t k_fgz k_fs1 k_fs2 k_fs3 k_fs4 k_fs5 k_fhi k_flo) ++ zt N kz) sz)) (va_Qi (fun (r : Int32) (_ : Unit) => ∃ v : Nat, v ≤ 1 ∧ r = nI v) (fun _ _ => True) (va_A [] sz)) 0 0 (va_A [] sz) := by
  refine Met.ofW (cc := cX1_isKnown) (maxL := 4) (ret := (some .boolean)) (by decide) rfl ?_
  intro p e s m args below meth c s₁ B hml hv
  obtain ⟨rfl, rfl, hP, hK, hD0⟩ := hv
  have hx := B.exec
  have hb := B.bytes
  have hr := B.returns
  have hts := atoms_spec (ws := vs_C_1_isKnown_25) B.pre
  have v_1 := hts (.fieldLink RX1 79 "ClockReach$Graph" "count" "I") (List.mem_cons_of_mem _ cm_89)
  have v_2 := hts (.fieldLink RX1 24 "ClockReach$Graph" "sites" "[I") (List.mem_cons_of_mem _ cm_115)
  have v_3 := hts (.fieldLink RX1 49 "ClockReach$Graph" "leaves" "Z") (List.mem_cons_of_mem _ cm_77)
  have v_4 := hts (.fieldLink RX1 17 "ClockReach$Graph" "zones" "[LClockReach$Zone;") (List.mem_cons_of_mem _ cm_92)
  have hown : s.vm.findClass RX1 = some m.cls := findClass_of_methodNamed B.named
  have hlocks := B.notSynchronized
  have hiX1 : ∀ w ∈ wsX10, w ∈ vs_C_1_isKnown_25 := fun _ h => List.mem_cons_of_mem _ (cm_X1 h)
  have hD := hD0
  have hA : ∀ q : Nat, s.heap.size ≤ q → va_A [] s.heap.size q := fun _ h => Or.inr h
  have hS : va_S (va_A [] s.heap.size) s.heap s.heap [] := va_S.rf
  have hl := lv_entry ([.ref g, .ref (az kk), .int (nI a1)]) (n := 4) (Nat.le_of_ble_eq_true rfl)
  rw [lg_entry_eq]
  generalize (lg_sl ([.ref g, .ref (az kk), .int (nI a1)]) ++ List.replicate (4 - (lg_sl ([.ref g, .ref (az kk), .int (nI a1)])).length) Slot.unset).toArray = ls at hl ⊢
  have hl : lv_has ls 4 [(0, .ref g), (1, .ref (az kk)), (2, .int (nI a1))] := hl
  refine lv_iconst (v := 0) hx hb eX1_isKnown_0 (by decide) ?_
  refine lv_istore_n (lv' := [(3, .int 0), (0, .ref g), (1, .ref (az kk)), (2, .int (nI a1))]) hx hb eX1_isKnown_1 rfl hl (by decide) rfl (fun ls hl => ?_)
  refine pu_while (fun nn H locs ls => ∃ (g_2 : Nat), nn = 400 - g_2 ∧ g_2 ≤ 400 ∧ va_P (dC, dI) vwCl ((gt0__w g gz g1 g2 g3 g4 g5 (nI gc) (nI gfull) gx gway gav ggoal (nI gfound) 400 (nI gl) (nI gsz) g16 g17 k_fgz (zs o 401 az) k_fs1 (bN 7 q_fs1) k_fs2 fs2 k_fs3 fs3 k_fs4 fs4 k_fs5 fs5 k_fhi fhi k_flo flo) ++ zp 5 25 N az ac kz qs fz) H ∧ va_D (fun _ => True) ((gt0__w g gz g1 g2 g3 g4 g5 (nI gc) (nI gfull) gx gway gav ggoal (nI gfound) 400 (nI gl) (nI gsz) g16 g17 k_fgz (zs o 401 az) k_fs1 (bN 7 q_fs1) k_fs2 fs2 k_fs3 fs3 k_fs4 fs4 k_fs5 fs5 k_fhi fhi k_flo flo) ++ zp 5 25 N az ac kz qs fz) ∧ va_S (va_A [] s.heap.size) s.heap H locs ∧ lv_has ls 4 [(0, .ref g), (1, .ref (az kk)), (2, .int (nI a1)), (3, .int (nI g_2))]) 2 ?_ _ _ _ _ ⟨0, rfl, (Nat.le_of_ble_eq_true rfl), hP, hD, hS, lv_sub hl [1, 2, 3, 0] rfl⟩
  rintro nn ih_3 H locs ls ⟨g_2, rfl, hg_2, hP, hD, hS, hl⟩
  refine lv_iload_n hx hb eX1_isKnown_2 rfl (lv_at hl 3 rfl) ?_
  refine lv_aload_n hx hb eX1_isKnown_3 rfl (lv_at hl 0 rfl) ?_
  refine va_get (D := (dC, dI)) (ci := 1) (v := .int (nI gc)) (C := RX1) (T := TX1) (N := 18) hx hb hts hiX1 hown hK hP 0 rfl rfl 6 (by decide) v_1 (fun _ h9 => h9) rfl eX1_isKnown_4 ?_
  refine lv_icmp_ge (tgt := 64) hx hb eX1_isKnown_7 (by decide) (fun c_4 => ?_) (fun c_4 => ?_)
  · have c_4 : gc ≤ g_2 := (nI_leI (a := gc) (b := g_2) (Nat.lt_of_le_of_lt hgc (Nat.le_of_ble_eq_true rfl)) (Nat.lt_of_le_of_lt hg_2 (Nat.le_of_ble_eq_true rfl))).mp c_4
    refine lv_iconst (v := 0) hx hb eX1_isKnown_64 (by decide) ?_
    exact W.zret (v := 0) (ty := .boolean) hx hb hr (rfl) (fun t ht hW => ⟨⟨0, (), rfl, ⟨0, (Nat.le_of_ble_eq_true rfl), rfl⟩, trivial⟩, hS.F ht⟩) hS.2.2 eX1_isKnown_65
  · have c_4 : ¬ gc ≤ g_2 := fun z => c_4 ((nI_leI (a := gc) (b := g_2) (Nat.lt_of_le_of_lt hgc (Nat.le_of_ble_eq_true rfl)) (Nat.lt_of_le_of_lt hg_2 (Nat.le_of_ble_eq_true rfl))).mpr z)
    refine lv_aload_n hx hb eX1_isKnown_10 rfl (lv_at hl 0 rfl) ?_
    refine va_get (D := (dC, dI)) (ci := 1) (v := .ref g1) (C := RX1) (T := TX1) (N := 18) hx hb hts hiX1 hown hK hP 0 rfl rfl 1 (by decide) v_2 (fun _ h9 => h9) rfl eX1_isKnown_11 ?_
    refine lv_iload_n hx hb eX1_isKnown_14 rfl (lv_at hl 3 rfl) ?_
    refine va_iald hx hb hK hP 2 1 rfl rfl (vp_in_nI (n := g_2) (by omega) (Nat.le_of_ble_eq_true rfl)) eX1_isKnown_15 ?_
    refine lv_topi (fun y_5 ey_5 => ?_)
    obtain ⟨u_6, hu_6, qu_6⟩ := bN_get 7 q_fs1 (((nI g_2) : Int32).toNatClampNeg)
    obtain rfl : y_5 = nI u_6 := ey_5.trans qu_6
    refine lv_iload_n hx hb eX1_isKnown_16 rfl (lv_at hl 2 rfl) ?_
    refine lv_icmp_ne (tgt := 58) hx hb eX1_isKnown_17 (by decide) (fun c_7 => ?_) (fun c_7 => ?_)
    · have c_7 : ¬ u_6 = a1 := fun z => c_7 ((nI_eq (a := u_6) (b := a1) (Nat.lt_of_le_of_lt hu_6 (Nat.le_of_ble_eq_true rfl)) (Nat.lt_of_le_of_lt ha1 (Nat.le_of_ble_eq_true rfl))).mpr z)
      refine lv_iinc (v := (nI (g_2 + 1))) (lv' := [(3, .int (nI (g_2 + 1))), (0, .ref g), (1, .ref (az kk)), (2, .int (nI a1))]) hx hb eX1_isKnown_58 hl (k := 3) rfl (nI_1 _) (by decide) rfl (fun ls hl => ?_)
      refine lv_goto (tgt := 2) hx hb eX1_isKnown_61 (by decide) ?_
      exact ih_3 (400 - (g_2 + 1)) (by omega) _ _ _ ⟨(g_2 + 1), rfl, (by omega), hP, hD, hS, lv_sub hl [1, 2, 3, 0] rfl⟩
    · have c_7 : u_6 = a1 := (nI_eq (a := u_6) (b := a1) (Nat.lt_of_le_of_lt hu_6 (Nat.le_of_ble_eq_true rfl)) (Nat.lt_of_le_of_lt ha1 (Nat.le_of_ble_eq_true rfl))).mp c_7
      refine lv_aload_n hx hb eX1_isKnown_20 rfl (lv_at hl 0 rfl) ?_
      refine va_get (D := (dC, dI)) (ci := 1) (v := .int (nI gl)) (C := RX1) (T := TX1) (N := 18) hx hb hts hiX1 hown hK hP 0 rfl rfl 14 (by decide) v_3 (fun _ h9 => h9) rfl eX1_isKnown_21 ?_
      refine lv_if_eq (tgt := 43) hx hb eX1_isKnown_24 (by decide) (fun c_8 => ?_) (fun c_8 => ?_)
      · have c_8 : gl = 0 := (nI_eq (a := gl) (b := 0) (Nat.lt_of_le_of_lt hgl (Nat.le_of_ble_eq_true rfl)) (Nat.le_of_ble_eq_true rfl)).mp c_8
        refine lv_aload_n hx hb eX1_isKnown_43 rfl (lv_at hl 0 rfl) ?_
        refine va_get (D := (dC, dI)) (ci := 1) (v := .ref gz) (C := RX1) (T := TX1) (N := 18) hx hb hts hiX1 hown hK hP 0 rfl rfl 0 (by decide) v_4 (fun _ h9 => h9) rfl eX1_isKnown_44 ?_
        refine lv_iload_n hx hb eX1_isKnown_47 rfl (lv_at hl 3 rfl) ?_
        refine va_aldq hx hb hK hP 1 0 rfl rfl (vp_in_nI (n := g_2) (Nat.lt_of_le_of_lt hg_2 (Nat.le_of_ble_eq_true rfl)) (Nat.le_of_ble_eq_true rfl)) eX1_isKnown_48 ?_
        refine W.eq (g2 := F0 m 49 ls [.ref (az (o + g_2))]) (by rw [zs_get (Nat.lt_of_le_of_lt hg_2 (Nat.le_of_ble_eq_true rfl)) (by omega)]) ?_
        refine lv_aload_n hx hb eX1_isKnown_49 rfl (lv_at hl 1 rfl) ?_
        have hPz := zp_cut (k := (o + g_2)) hP (by omega)
        have hPy := zp_cut (k := kk) hP (by omega)
        have hPc : va_P (dC, dI) vwCl ([(az kk, .inr (7, [.ref (ac kk), .int (nI (min (qs kk) 5))])), (ac kk, .inl (kz kk, 25, .inl (fz kk)))] ++ [(az (o + g_2), .inr (7, [.ref (ac (o + g_2)), .int (nI (min (qs (o + g_2)) 5))])), (ac (o + g_2), .inl (kz (o + g_2), 25, .inl (fz (o + g_2))))]) _ := va_P.app hPy hPz
        have hDc : va_D (fun _ => True) ([(az kk, .inr (7, [.ref (ac kk), .int (nI (min (qs kk) 5))])), (ac kk, .inl (kz kk, 25, .inl (fz kk)))] ++ [(az (o + g_2), .inr (7, [.ref (ac (o + g_2)), .int (nI (min (qs (o + g_2)) 5))])), (ac (o + g_2), .inl (kz (o + g_2), 25, .inl (fz (o + g_2))))]) := zp_cutD2 hD (by omega) (by omega) (by omega)
        have hKc : va_K (dC, dI) vwCl [(kz kk, .int), (kz (o + g_2), .int)] s := zp_K2 hK (by omega) (by omega)
        refine va_calli (va_runV (As := [.ref (az kk)]) (rest := []) ⟨hx, hb, hml, hown, hts⟩ (c_C_7_equalTo_25 l dC dI _ (az kk) (ac kk) (min (qs kk) 5) (kz kk) (fz kk) (az (o + g_2)) (ac (o + g_2)) (min (qs (o + g_2)) 5) (kz (o + g_2)) (fz (o + g_2)) (Nat.min_le_right _ _) (Nat.min_le_right _ _)) (cwV 1 hts g_C_1_isKnown_25_C_7_equalTo_25 rfl rfl rfl (by decide +kernel) ⟨Nat.le_of_ble_eq_true rfl, Nat.le_of_ble_eq_true rfl⟩) ⟨pu_bl, va_recv hK hPz (ci := 7) (q0 := 0) rfl rfl, pu_in hPc hKc hDc⟩ rfl rfl hl.1 rfl (lv_room (Nat.le_of_ble_eq_true rfl)) eX1_isKnown_50 ⟨Nat.le_of_ble_eq_true rfl, Nat.le_of_ble_eq_true rfl⟩) hS (fun q _ h => pu_fr hS hA q h) (pu_fr hS hA) (fun r_9 u t H1 locs ht hvm hw hB hz1 hk1 hS => ?_)
        have hP := pu_keep hP hk1
        clear hPc hDc hKc
        clear hk1 hz1 ht hvm
        generalize H1 = H at hP hS ⊢
        obtain ⟨u_10, hu_10, rfl⟩ := hw
        refine lv_if_eq (tgt := 58) hx hb eX1_isKnown_53 (by decide) (fun c_11 => ?_) (fun c_11 => ?_)
        · have c_11 : u_10 = 0 := (nI_eq (a := u_10) (b := 0) (Nat.lt_of_le_of_lt hu_10 (Nat.le_of_ble_eq_true rfl)) (Nat.le_of_ble_eq_true rfl)).mp c_11
          refine lv_iinc (v := (nI (g_2 + 1))) (lv' := [(3, .int (nI (g_2 + 1))), (0, .ref g), (1, .ref (az kk)), (2, .int (nI a1))]) hx hb eX1_isKnown_58 hl (k := 3) rfl (nI_1 _) (by decide) rfl (fun ls hl => ?_)
          refine lv_goto (tgt := 2) hx hb eX1_isKnown_61 (by decide) ?_
          exact ih_3 (400 - (g_2 + 1)) (by omega) _ _ _ ⟨(g_2 + 1), rfl, (by omega), hP, hD, hS, lv_sub hl [1, 2, 3, 0] rfl⟩
        · have c_11 : ¬ u_10 = 0 := fun z => c_11 ((nI_eq (a := u_10) (b := 0) (Nat.lt_of_le_of_lt hu_10 (Nat.le_of_ble_eq_true rfl)) (Nat.le_of_ble_eq_true rfl)).mpr z)
          refine lv_iconst (v := 1) hx hb eX1_isKnown_56 (by decide) ?_
          exact W.zret (v := 1) (ty := .boolean) hx hb hr (rfl) (fun t ht hW => ⟨⟨1, (), rfl, ⟨1, (Nat.le_of_ble_eq_true rfl), rfl⟩, trivial⟩, hS.F ht⟩) hS.2.2 eX1_isKnown_57
      · have c_8 : ¬ gl = 0 := fun z => c_8 ((nI_eq (a := gl) (b := 0) (Nat.lt_of_le_of_lt hgl (Nat.le_of_ble_eq_true rfl)) (Nat.le_of_ble_eq_true rfl)).mpr z)
        refine lv_aload_n hx hb eX1_isKnown_27 rfl (lv_at hl 0 rfl) ?_
        refine va_get (D := (dC, dI)) (ci := 1) (v := .ref gz) (C := RX1) (T := TX1) (N := 18) hx hb hts hiX1 hown hK hP 0 rfl rfl 0 (by decide) v_4 (fun _ h9 => h9) rfl eX1_isKnown_28 ?_
        refine lv_iload_n hx hb eX1_isKnown_31 rfl (lv_at hl 3 rfl) ?_
        refine va_aldq hx hb hK hP 1 0 rfl rfl (vp_in_nI (n := g_2) (Nat.lt_of_le_of_lt hg_2 (Nat.le_of_ble_eq_true rfl)) (Nat.le_of_ble_eq_true rfl)) eX1_isKnown_32 ?_
        refine W.eq (g2 := F0 m 33 ls [.ref (az (o + g_2))]) (by rw [zs_get (Nat.lt_of_le_of_lt hg_2 (Nat.le_of_ble_eq_true rfl)) (by omega)]) ?_
        refine lv_aload_n hx hb eX1_isKnown_33 rfl (lv_at hl 1 rfl) ?_
        have hPz := zp_cut (k := (o + g_2)) hP (by omega)
        have hPy := zp_cut (k := kk) hP (by omega)
        have hPc : va_P (dC, dI) vwCl ([(az kk, .inr (7, [.ref (ac kk), .int (nI (min (qs kk) 5))])), (ac kk, .inl (kz kk, 25, .inl (fz kk)))] ++ [(az (o + g_2), .inr (7, [.ref (ac (o + g_2)), .int (nI (min (qs (o + g_2)) 5))])), (ac (o + g_2), .inl (kz (o + g_2), 25, .inl (fz (o + g_2))))]) _ := va_P.app hPy hPz
        have hDc : va_D (fun _ => True) ([(az kk, .inr (7, [.ref (ac kk), .int (nI (min (qs kk) 5))])), (ac kk, .inl (kz kk, 25, .inl (fz kk)))] ++ [(az (o + g_2), .inr (7, [.ref (ac (o + g_2)), .int (nI (min (qs (o + g_2)) 5))])), (ac (o + g_2), .inl (kz (o + g_2), 25, .inl (fz (o + g_2))))]) := zp_cutD2 hD (by omega) (by omega) (by omega)
        have hKc : va_K (dC, dI) vwCl [(kz kk, .int), (kz (o + g_2), .int)] s := zp_K2 hK (by omega) (by omega)
        refine va_calli (va_runV (As := [.ref (az kk)]) (rest := []) ⟨hx, hb, hml, hown, hts⟩ (c_C_7_holdsAll_25 l dC dI _ (az kk) (ac kk) (min (qs kk) 5) (kz kk) (fz kk) (az (o + g_2)) (ac (o + g_2)) (min (qs (o + g_2)) 5) (kz (o + g_2)) (fz (o + g_2)) (Nat.min_le_right _ _) (Nat.min_le_right _ _)) (cwV 1 hts g_C_1_isKnown_25_C_7_holdsAll_25 rfl rfl rfl (by decide +kernel) ⟨Nat.le_of_ble_eq_true rfl, Nat.le_of_ble_eq_true rfl⟩) ⟨pu_bl, va_recv hK hPz (ci := 7) (q0 := 0) rfl rfl, pu_in hPc hKc hDc⟩ rfl rfl hl.1 rfl (lv_room (Nat.le_of_ble_eq_true rfl)) eX1_isKnown_34 ⟨Nat.le_of_ble_eq_true rfl, Nat.le_of_ble_eq_true rfl⟩) hS (fun q _ h => pu_fr hS hA q h) (pu_fr hS hA) (fun r_12 u t H1 locs ht hvm hw hB hz1 hk1 hS => ?_)
        have hP := pu_keep hP hk1
        clear hPc hDc hKc
        clear hk1 hz1 ht hvm
        generalize H1 = H at hP hS ⊢
        obtain ⟨u_13, hu_13, rfl⟩ := hw
        refine lv_if_eq (tgt := 58) hx hb eX1_isKnown_37 (by decide) (fun c_14 => ?_) (fun c_14 => ?_)
        · have c_14 : u_13 = 0 := (nI_eq (a := u_13) (b := 0) (Nat.lt_of_le_of_lt hu_13 (Nat.le_of_ble_eq_true rfl)) (Nat.le_of_ble_eq_true rfl)).mp c_14
          refine lv_iinc (v := (nI (g_2 + 1))) (lv' := [(3, .int (nI (g_2 + 1))), (0, .ref g), (1, .ref (az kk)), (2, .int (nI a1))]) hx hb eX1_isKnown_58 hl (k := 3) rfl (nI_1 _) (by decide) rfl (fun ls hl => ?_)
          refine lv_goto (tgt := 2) hx hb eX1_isKnown_61 (by decide) ?_
          exact ih_3 (400 - (g_2 + 1)) (by omega) _ _ _ ⟨(g_2 + 1), rfl, (by omega), hP, hD, hS, lv_sub hl [1, 2, 3, 0] rfl⟩
        · have c_14 : ¬ u_13 = 0 := fun z => c_14 ((nI_eq (a := u_13) (b := 0) (Nat.lt_of_le_of_lt hu_13 (Nat.le_of_ble_eq_true rfl)) (Nat.le_of_ble_eq_true rfl)).mpr z)
          refine lv_goto (tgt := 56) hx hb eX1_isKnown_40 (by decide) ?_
          refine lv_iconst (v := 1) hx hb eX1_isKnown_56 (by decide) ?_
          exact W.zret (v := 1) (ty := .boolean) hx hb hr (rfl) (fun t ht hW => ⟨⟨1, (), rfl, ⟨1, (Nat.le_of_ble_eq_true rfl), rfl⟩, trivial⟩, hS.F ht⟩) hS.2.2 eX1_isKnown_57
abbrev vs_C_1_open_25 : List Cond := .code yX1_open cX1_open 5 none :: CM
theorem g_C_1_open_25_C_7_setPoint_25 : GoodIn vs_C_1_open_25 (wsV RX1 88 RX7 yX7_setPoint vs_C_7_setPoint_25) := cm_gV cm_93 cm_94 cm_95 cm_45 cm_96
theorem g_C_1_open_25_C_0_hostOfPlace : GoodIn vs_C_1_open_25 (va_wsS RX1 92 yX0_hostOfPlace vs_C_0_hostOfPlace) := cm_gS cm_97 cm_55 cm_19 cm_0
theorem g_C_1_open_25_C_0_narrowTo_25 : GoodIn vs_C_1_open_25 (wsV RX1 96 RX0 yX0_narrowTo vs_C_0_narrowTo_25) := cm_gV cm_98 cm_52 cm_53 cm_19 cm_41
theorem g_C_1_open_25_C_0_stayIn_25 : GoodIn vs_C_1_open_25 (wsV RX1 100 RX0 yX0_stayIn vs_C_0_stayIn_25) := cm_gV cm_99 cm_100 cm_101 cm_19 cm_61
theorem g_C_1_open_25_C_1_record0_25 : GoodIn vs_C_1_open_25 (wsV RX1 108 RX1 yX1_record vs_C_1_record0_25) := cm_gV cm_110 cm_111 cm_112 cm_113 cm_114
theorem g_C_1_open_25_C_7_forget_25 : GoodIn vs_C_1_open_25 (wsV RX1 104 RX7 yX7_forget vs_C_7_forget_25) := cm_gV cm_102 cm_103 cm_104 cm_45 cm_105
set_option maxHeartbeats 4000000 in
set_option maxRecDepth 100000 in
theorem c_C_1_open_25 (l : Launch) (dC : Nat → ClassId) (dI : Nat → Nat → Nat) (sz : Nat) (g : Nat) (gz : Nat) (g1 : Nat) (g2 : Nat) (g3 : Nat) (g4 : Nat) (g5 : Nat) (gc : Nat) (gfull : Nat) (gx : Int32) (gway : Int32) (gav : Int32) (ggoal : Int32) (gfound : Nat) (gl : Nat) (gsz : Nat) (g16 : Nat) (g17 : Nat) (k_fgz : ClassId) (k_fs1 : ClassId) (q_fs1 : Nat → Nat) (k_fs2 : ClassId) (fs2 : Nat → Int32) (k_fs3 : ClassId) (fs3 : Nat → Int32) (k_fs4 : ClassId) (fs4 : Nat → Int32) (k_fs5 : ClassId) (fs5 : Nat → Int32) (k_fhi : ClassId) (fhi : Nat → Int32) (k_flo : ClassId) (flo : Nat → Int32) (au : Nat) (nc : Nat) (np : Nat) (ne : Nat) (st0 : Int32) (q4 : Nat) (q5 : Nat) (q6 : Nat) (q7 : Nat) (q8 : Nat) (q9 : Nat) (q10 : Nat) (q11 : Nat) (q12 : Nat) (q13 : Nat) (q14 : Nat) (q15 : Nat) (q16 : Nat) (k_f4 : ClassId) (f4 : Nat → Int32) (k_f5 : ClassId) (q_f5 : Nat → Nat) (k_f6 : ClassId) (q_f6 : Nat → Nat) (k_f7 : ClassId) (f7 : Nat → Int32) (k_f8 : ClassId) (q_f8 : Nat → Nat) (k_f9 : ClassId) (q_f9 : Nat → Nat) (k_f10 : ClassId) (f10 : Nat → Int32) (k_f11 : ClassId) (f11 : Nat → Int32) (k_f12 : ClassId) (f12 : Nat → Int32) (k_f13 : ClassId) (f13 : Nat → Int32) (k_f14 : ClassId) (f14 : Nat → Int32) (k_f15 : ClassId) (f15 : Nat → Int32) (k_f16 : ClassId) (f16 : Nat → Int32) (bu : Nat) (k_fbu : ClassId) (fbu : Nat → Int32) (N : Nat) (o : Nat) (az ac : Nat → Nat) (kz : Nat → ClassId) (qs : Nat → Nat) (fz : Nat → Nat → Int32) (a1 : Nat) (hgc : gc ≤ 400) (hgfull : gfull ≤ 1) (hgfound : gfound ≤ 1) (hgl : gl ≤ 1) (hgsz : gsz ≤ 5) (hnc : nc ≤ 3) (hnp : np ≤ 8) (hne : ne ≤ 14) (hst0 : pm1 7 st0) (hN : o + 401 ≤ N) (ha1 : a1 ≤ 7) : Met l yX1_open vs_C_1_open_25 ({ frames := 3, cells := 0, slots := 0, locals := 77 }) (va_Pc [.ref g, .ref au, .int (nI a1), .ref bu] (pu_B (dC, dI) ((gt2__w g gz g1 g2 g3 g4 g5 (nI gc) (nI gfull) gx gway gav ggoal (nI gfound) 400 (nI gl) (nI gsz) g16 g17 k_fgz (zs o 401 az) k_fs1 (bN 7 q_fs1) k_fs2 fs2 k_fs3 fs3 k_fs4 fs4 k_fs5 fs5 k_fhi fhi k_flo flo au (nI nc) (nI np) (nI ne) st0 q4 q5 q6 q7 q8 q9 q10 q11 q12 q13 q14 q15 q16 k_f4 f4 k_f5 (bN 7 q_f5) k_f6 (bN 7 q_f6) k_f7 f7 k_f8 (bN 4 q_f8) k_f9 (bN 2 q_f9) k_f10 f10 k_f11 f11 k_f12 f12 k_f13 f13 k_f14 f14 k_f15 f15 k_f16 f16 bu k_fbu fbu) ++ zp 5 25 N az ac kz qs fz) ((gt2__t k_fgz k_fs1 k_fs2 k_fs3 k_fs4 k_fs5 k_fhi k_flo k_f4 k_f5 k_f6 k_f7 k_f8 k_f9 k_f10 k_f11 k_f12 k_f13 k_f14 k_f15 k_f16 k_fbu) ++ zt N kz) sz)) (va_Qv (fun (_ : Unit) => True) (fun _ t => ∃ (z_fs1 : Nat → Nat) (z_fs2 : Nat → Int32) (z_fs3 : Nat → Int32) (z_fs4 : Nat → Int32) (z_fs5 : Nat → Int32) (z_gfound : Nat) (z_gc : Nat) (z_gfull : Nat) (z_gx : Int32) (z_fz : Nat → Nat → Int32) (z_qs : Nat → Nat), pu_E (dC, dI) ((gt2__w g gz g1 g2 g3 g4 g5 (nI z_gc) (nI z_gfull) z_gx gway gav ggoal (nI z_gfound) 400 (nI gl) (nI gsz) g16 g17 k_fgz (zs o 401 az) k_fs1 (bN 7 z_fs1) k_fs2 z_fs2 k_fs3 z_fs3 k_fs4 z_fs4 k_fs5 z_fs5 k_fhi fhi k_flo flo au (nI nc) (nI np) (nI ne) st0 q4 q5 q6 q7 q8 q9 q10 q11 q12 q13 q14 q15 q16 k_f4 f4 k_f5 (bN 7 q_f5) k_f6 (bN 7 q_f6) k_f7 f7 k_f8 (bN 4 q_f8) k_f9 (bN 2 q_f9) k_f10 f10 k_f11 f11 k_f12 f12 k_f13 f13 k_f14 f14 k_f15 f15 k_f16 f16 bu k_fbu fbu) ++ zp 5 25 N az ac kz z_qs z_fz) ((gt2__t k_fgz k_fs1 k_fs2 k_fs3 k_fs4 k_fs5 k_fhi k_flo k_f4 k_f5 k_f6 k_f7 k_f8 k_f9 k_f10 k_f11 k_f12 k_f13 k_f14 k_f15 k_f16 k_fbu) ++ zt N kz) (va_A (((gt2__w g gz g1 g2 g3 g4 g5 (nI gc) (nI gfull) gx gway gav ggoal (nI gfound) 400 (nI gl) (nI gsz) g16 g17 k_fgz (zs o 401 az) k_fs1 (bN 7 q_fs1) k_fs2 fs2 k_fs3 fs3 k_fs4 fs4 k_fs5 fs5 k_fhi fhi k_flo flo au (nI nc) (nI np) (nI ne) st0 q4 q5 q6 q7 q8 q9 q10 q11 q12 q13 q14 q15 q16 k_f4 f4 k_f5 (bN 7 q_f5) k_f6 (bN 7 q_f6) k_f7 f7 k_f8 (bN 4 q_f8) k_f9 (bN 2 q_f9) k_f10 f10 k_f11 f11 k_f12 f12 k_f13 f13 k_f14 f14 k_f15 f15 k_f16 f16 bu k_fbu fbu) ++ zp 5 25 N az ac kz qs fz)) sz) t ∧ (z_gfound ≤ 1) ∧ (z_gc ≤ 400) ∧ (z_gfull ≤ 1) ∧ (gz_ok z_gc z_fs2 z_fs3 z_fs4)) (va_A (((gt2__w g gz g1 g2 g3 g4 g5 (nI gc) (nI gfull) gx gway gav ggoal (nI gfound) 400 (nI gl) (nI gsz) g16 g17 k_fgz (zs o 401 az) k_fs1 (bN 7 q_fs1) k_fs2 fs2 k_fs3 fs3 k_fs4 fs4 k_fs5 fs5 k_fhi fhi k_flo flo au (nI nc) (nI np) (nI ne) st0 q4 q5 q6 q7 q8 q9 q10 q11 q12 q13 q14 q15 q16 k_f4 f4 k_f5 (bN 7 q_f5) k_f6 (bN 7 q_f6) k_f7 f7 k_f8 (bN 4 q_f8) k_f9 (bN 2 q_f9) k_f10 f10 k_f11 f11 k_f12 f12 k_f13 f13 k_f14 f14 k_f15 f15 k_f16 f16 bu k_fbu fbu) ++ zp 5 25 N az ac kz qs fz)) sz)) 0 0 (va_A (((gt2__w g gz g1 g2 g3 g4 g5 (nI gc) (nI gfull) gx gway gav ggoal (nI gfound) 400 (nI gl) (nI gsz) g16 g17 k_fgz (zs o 401 az) k_fs1 (bN 7 q_fs1) k_fs2 fs2 k_fs3 fs3 k_fs4 fs4 k_fs5 fs5 k_fhi fhi k_flo flo au (nI nc) (nI np) (nI ne) st0 q4 q5 q6 q7 q8 q9 q10 q11 q12 q13 q14 q15 q16 k_f4 f4 k_f5 (bN 7 q_f5) k_f6 (bN 7 q_f6) k_f7 f7 k_f8 (bN 4 q_f8) k_f9 (bN 2 q_f9) k_f10 f10 k_f11 f11 k_f12 f12 k_f13 f13 k_f14 f14 k_f15 f15 k_f16 f16 bu k_fbu fbu) ++ zp 5 25 N az ac kz qs fz)) sz) := by
  refine Met.ofW (cc := cX1_open) (maxL := 5) (ret := none) (by decide) rfl ?_
  intro p e s m args below meth c s₁ B hml hv
  obtain ⟨rfl, rfl, hP, hK, hD0⟩ := hv
  have hx := B.exec
  have hb := B.bytes
  have hr := B.returns
  have hts := atoms_spec (ws := vs_C_1_open_25) B.pre
  have v_1 := hts (.fieldLink RX1 79 "ClockReach$Graph" "count" "I") (List.mem_cons_of_mem _ cm_89)
  have v_2 := hts (.fieldLink RX1 82 "ClockReach$Graph" "full" "Z") (List.mem_cons_of_mem _ cm_90)
  have v_3 := hts (.fieldLink RX1 85 "ClockReach$Graph" "crossed" "I") (List.mem_cons_of_mem _ cm_91)
  have v_4 := hts (.fieldLink RX1 17 "ClockReach$Graph" "zones" "[LClockReach$Zone;") (List.mem_cons_of_mem _ cm_92)
  have v_5 := hts (.fieldLink RX1 53 "ClockReach$Graph" "size" "I") (List.mem_cons_of_mem _ cm_78)
  have v_11 := hts (.fieldLink RX1 56 "ClockReach$Graph" "avoided" "I") (List.mem_cons_of_mem _ cm_79)
  have v_24 := hts (.fieldLink RX1 46 "ClockReach$Graph" "way" "I") (List.mem_cons_of_mem _ cm_76)
  have v_25 := hts (.fieldLink RX1 40 "ClockReach$Graph" "high" "[I") (List.mem_cons_of_mem _ cm_83)
  have v_26 := hts (.fieldLink RX1 43 "ClockReach$Graph" "low" "[I") (List.mem_cons_of_mem _ cm_86)
  have hown : s.vm.findClass RX1 = some m.cls := findClass_of_methodNamed B.named
  have hlocks := B.notSynchronized
  have hiX1 : ∀ w ∈ wsX10, w ∈ vs_C_1_open_25 := fun _ h => List.mem_cons_of_mem _ (cm_X1 h)
  have hD := hD0.self (sz := s.heap.size)
  generalize hAe : va_A (((gt2__w g gz g1 g2 g3 g4 g5 (nI gc) (nI gfull) gx gway gav ggoal (nI gfound) 400 (nI gl) (nI gsz) g16 g17 k_fgz (zs o 401 az) k_fs1 (bN 7 q_fs1) k_fs2 fs2 k_fs3 fs3 k_fs4 fs4 k_fs5 fs5 k_fhi fhi k_flo flo au (nI nc) (nI np) (nI ne) st0 q4 q5 q6 q7 q8 q9 q10 q11 q12 q13 q14 q15 q16 k_f4 f4 k_f5 (bN 7 q_f5) k_f6 (bN 7 q_f6) k_f7 f7 k_f8 (bN 4 q_f8) k_f9 (bN 2 q_f9) k_f10 f10 k_f11 f11 k_f12 f12 k_f13 f13 k_f14 f14 k_f15 f15 k_f16 f16 bu k_fbu fbu) ++ zp 5 25 N az ac kz qs fz)) s.heap.size = A at hD ⊢
  have hA : ∀ q : Nat, s.heap.size ≤ q → A q := fun q h => by rw [← hAe]; exact Or.inr h
  have hS : va_S A s.heap s.heap [] := va_S.rf
  have hl := lv_entry ([.ref g, .ref au, .int (nI a1), .ref bu]) (n := 5) (Nat.le_of_ble_eq_true rfl)
  rw [lg_entry_eq]
  generalize (lg_sl ([.ref g, .ref au, .int (nI a1), .ref bu]) ++ List.replicate (5 - (lg_sl ([.ref g, .ref au, .int (nI a1), .ref bu])).length) Slot.unset).toArray = ls at hl ⊢
  have hl : lv_has ls 5 [(0, .ref g), (1, .ref au), (2, .int (nI a1)), (3, .ref bu)] := hl
  refine lv_aload_n hx hb eX1_open_0 rfl (lv_at hl 0 rfl) ?_
  refine lv_iconst (v := 0) hx hb eX1_open_1 (by decide) ?_
  refine va_put (D := (dC, dI)) (ci := 1) (v := .int 0) (ty := .int) (C := RX1) (T := TX1) (N := 18) hx hb hts hiX1 tyX1 tyX1_ok nmX1 hown hK hP hD hS 0 rfl rfl 6 (by decide) v_1 (fun _ h9 => h9) rfl (by decide +kernel) rfl rfl (Nat.le_of_ble_eq_true rfl) eX1_open_2 (fun H locs hP hD hS => ?_)
  have hP : va_P (dC, dI) vwCl ((gt2__w g gz g1 g2 g3 g4 g5 0 (nI gfull) gx gway gav ggoal (nI gfound) 400 (nI gl) (nI gsz) g16 g17 k_fgz (zs o 401 az) k_fs1 (bN 7 q_fs1) k_fs2 fs2 k_fs3 fs3 k_fs4 fs4 k_fs5 fs5 k_fhi fhi k_flo flo au (nI nc) (nI np) (nI ne) st0 q4 q5 q6 q7 q8 q9 q10 q11 q12 q13 q14 q15 q16 k_f4 f4 k_f5 (bN 7 q_f5) k_f6 (bN 7 q_f6) k_f7 f7 k_f8 (bN 4 q_f8) k_f9 (bN 2 q_f9) k_f10 f10 k_f11 f11 k_f12 f12 k_f13 f13 k_f14 f14 k_f15 f15 k_f16 f16 bu k_fbu fbu) ++ zp 5 25 N az ac kz qs fz) H := hP
  have hD : va_D A ((gt2__w g gz g1 g2 g3 g4 g5 0 (nI gfull) gx gway gav ggoal (nI gfound) 400 (nI gl) (nI gsz) g16 g17 k_fgz (zs o 401 az) k_fs1 (bN 7 q_fs1) k_fs2 fs2 k_fs3 fs3 k_fs4 fs4 k_fs5 fs5 k_fhi fhi k_flo flo au (nI nc) (nI np) (nI ne) st0 q4 q5 q6 q7 q8 q9 q10 q11 q12 q13 q14 q15 q16 k_f4 f4 k_f5 (bN 7 q_f5) k_f6 (bN 7 q_f6) k_f7 f7 k_f8 (bN 4 q_f8) k_f9 (bN 2 q_f9) k_f10 f10 k_f11 f11 k_f12 f12 k_f13 f13 k_f14 f14 k_f15 f15 k_f16 f16 bu k_fbu fbu) ++ zp 5 25 N az ac kz qs fz) := hD
  refine lv_aload_n hx hb eX1_open_5 rfl (lv_at hl 0 rfl) ?_
  refine lv_iconst (v := 0) hx hb eX1_open_6 (by decide) ?_
  refine va_put (D := (dC, dI)) (ci := 1) (v := .int 0) (ty := .boolean) (C := RX1) (T := TX1) (N := 18) hx hb hts hiX1 tyX1 tyX1_ok nmX1 hown hK hP hD hS 0 rfl rfl 7 (by decide) v_2 (fun _ h9 => h9) rfl (by decide +kernel) rfl rfl (Nat.le_of_ble_eq_true rfl) eX1_open_7 (fun H locs hP hD hS => ?_)
  have hP : va_P (dC, dI) vwCl ((gt2__w g gz g1 g2 g3 g4 g5 0 0 gx gway gav ggoal (nI gfound) 400 (nI gl) (nI gsz) g16 g17 k_fgz (zs o 401 az) k_fs1 (bN 7 q_fs1) k_fs2 fs2 k_fs3 fs3 k_fs4 fs4 k_fs5 fs5 k_fhi fhi k_flo flo au (nI nc) (nI np) (nI ne) st0 q4 q5 q6 q7 q8 q9 q10 q11 q12 q13 q14 q15 q16 k_f4 f4 k_f5 (bN 7 q_f5) k_f6 (bN 7 q_f6) k_f7 f7 k_f8 (bN 4 q_f8) k_f9 (bN 2 q_f9) k_f10 f10 k_f11 f11 k_f12 f12 k_f13 f13 k_f14 f14 k_f15 f15 k_f16 f16 bu k_fbu fbu) ++ zp 5 25 N az ac kz qs fz) H := hP
  have hD : va_D A ((gt2__w g gz g1 g2 g3 g4 g5 0 0 gx gway gav ggoal (nI gfound) 400 (nI gl) (nI gsz) g16 g17 k_fgz (zs o 401 az) k_fs1 (bN 7 q_fs1) k_fs2 fs2 k_fs3 fs3 k_fs4 fs4 k_fs5 fs5 k_fhi fhi k_flo flo au (nI nc) (nI np) (nI ne) st0 q4 q5 q6 q7 q8 q9 q10 q11 q12 q13 q14 q15 q16 k_f4 f4 k_f5 (bN 7 q_f5) k_f6 (bN 7 q_f6) k_f7 f7 k_f8 (bN 4 q_f8) k_f9 (bN 2 q_f9) k_f10 f10 k_f11 f11 k_f12 f12 k_f13 f13 k_f14 f14 k_f15 f15 k_f16 f16 bu k_fbu fbu) ++ zp 5 25 N az ac kz qs fz) := hD
  refine lv_aload_n hx hb eX1_open_10 rfl (lv_at hl 0 rfl) ?_
  refine lv_iconst (v := 0) hx hb eX1_open_11 (by decide) ?_
  refine va_put (D := (dC, dI)) (ci := 1) (v := .int 0) (ty := .int) (C := RX1) (T := TX1) (N := 18) hx hb hts hiX1 tyX1 tyX1_ok nmX1 hown hK hP hD hS 0 rfl rfl 8 (by decide) v_3 (fun _ h9 => h9) rfl (by decide +kernel) rfl rfl (Nat.le_of_ble_eq_true rfl) eX1_open_12 (fun H locs hP hD hS => ?_)
  have hP : va_P (dC, dI) vwCl ((gt2__w g gz g1 g2 g3 g4 g5 0 0 0 gway gav ggoal (nI gfound) 400 (nI gl) (nI gsz) g16 g17 k_fgz (zs o 401 az) k_fs1 (bN 7 q_fs1) k_fs2 fs2 k_fs3 fs3 k_fs4 fs4 k_fs5 fs5 k_fhi fhi k_flo flo au (nI nc) (nI np) (nI ne) st0 q4 q5 q6 q7 q8 q9 q10 q11 q12 q13 q14 q15 q16 k_f4 f4 k_f5 (bN 7 q_f5) k_f6 (bN 7 q_f6) k_f7 f7 k_f8 (bN 4 q_f8) k_f9 (bN 2 q_f9) k_f10 f10 k_f11 f11 k_f12 f12 k_f13 f13 k_f14 f14 k_f15 f15 k_f16 f16 bu k_fbu fbu) ++ zp 5 25 N az ac kz qs fz) H := hP
  have hD : va_D A ((gt2__w g gz g1 g2 g3 g4 g5 0 0 0 gway gav ggoal (nI gfound) 400 (nI gl) (nI gsz) g16 g17 k_fgz (zs o 401 az) k_fs1 (bN 7 q_fs1) k_fs2 fs2 k_fs3 fs3 k_fs4 fs4 k_fs5 fs5 k_fhi fhi k_flo flo au (nI nc) (nI np) (nI ne) st0 q4 q5 q6 q7 q8 q9 q10 q11 q12 q13 q14 q15 q16 k_f4 f4 k_f5 (bN 7 q_f5) k_f6 (bN 7 q_f6) k_f7 f7 k_f8 (bN 4 q_f8) k_f9 (bN 2 q_f9) k_f10 f10 k_f11 f11 k_f12 f12 k_f13 f13 k_f14 f14 k_f15 f15 k_f16 f16 bu k_fbu fbu) ++ zp 5 25 N az ac kz qs fz) := hD
  refine lv_aload_n hx hb eX1_open_15 rfl (lv_at hl 0 rfl) ?_
  refine va_get (D := (dC, dI)) (ci := 1) (v := .ref gz) (C := RX1) (T := TX1) (N := 18) hx hb hts hiX1 hown hK hP 0 rfl rfl 0 (by decide) v_4 (fun _ h9 => h9) rfl eX1_open_16 ?_
  refine lv_iconst (v := 0) hx hb eX1_open_19 (by decide) ?_
  refine va_aldq hx hb hK hP 1 0 rfl rfl (vp_in_nI (n := 0) (Nat.le_of_ble_eq_true rfl) (Nat.le_of_ble_eq_true rfl)) eX1_open_20 ?_
  refine W.eq (g2 := F0 m 21 ls [.ref (az (o + 0))]) (by rw [← zs_get (o := o) (n := 401) (k := 0) (az := az) (Nat.le_of_ble_eq_true rfl) (by omega)]; rfl) ?_
  refine lv_astore (lv' := [(4, .ref (az (o + 0))), (0, .ref g), (1, .ref au), (2, .int (nI a1)), (3, .ref bu)]) hx hb eX1_open_21 hl (by decide) rfl (fun ls hl => ?_)
  refine lv_aload hx hb eX1_open_23 (lv_at hl 0 rfl) ?_
  refine lv_aload_n hx hb eX1_open_25 rfl (lv_at hl 1 rfl) ?_
  refine va_get (D := (dC, dI)) (ci := 1) (v := .int (nI gsz)) (C := RX1) (T := TX1) (N := 18) hx hb hts hiX1 hown hK hP 0 rfl rfl 15 (by decide) v_5 (fun _ h9 => h9) rfl eX1_open_26 ?_
  refine lv_aload_n hx hb eX1_open_29 rfl (lv_at hl 4 rfl) ?_
  have hPz := zp_cut (k := (o + 0)) hP (by omega)
  have hPc : va_P (dC, dI) vwCl ([(bu, .inl (k_fbu, 5, .inl fbu))] ++ [(az (o + 0), .inr (7, [.ref (ac (o + 0)), .int (nI (min (qs (o + 0)) 5))])), (ac (o + 0), .inl (kz (o + 0), 25, .inl (fz (o + 0))))]) _ := va_P.app (hP.sub [23] rfl) hPz
  have hDc : va_D A ([(bu, .inl (k_fbu, 5, .inl fbu))] ++ [(az (o + 0), .inr (7, [.ref (ac (o + 0)), .int (nI (min (qs (o + 0)) 5))])), (ac (o + 0), .inl (kz (o + 0), 25, .inl (fz (o + 0))))]) := zp_cutD hD (by omega) [23] (by decide) rfl
  have hKc : va_K (dC, dI) vwCl ([(k_fbu, .int)] ++ [(kz (o + 0), .int)]) s := zp_K hK (by omega) [21] rfl
  have hFc := pu_free hDc hS hA
  refine va_callv (va_runV (As := [.int (nI gsz), .ref bu]) (rest := []) ⟨hx, hb, hml, hown, hts⟩ (c_C_7_setPoint_25 l dC dI _ bu k_fbu fbu (az (o + 0)) (ac (o + 0)) (min (qs (o + 0)) 5) (kz (o + 0)) (fz (o + 0)) gsz (Nat.min_le_right _ _) hgsz) (cwV 2 hts g_C_1_open_25_C_7_setPoint_25 rfl rfl rfl (by decide +kernel) ⟨Nat.le_of_ble_eq_true rfl, Nat.le_of_ble_eq_true rfl⟩) ⟨pu_bl, va_recv hK hPz (ci := 7) (q0 := 0) rfl rfl, pu_in hPc hKc hDc⟩ rfl rfl hl.1 rfl (lv_room (Nat.le_of_ble_eq_true rfl)) eX1_open_30 ⟨Nat.le_of_ble_eq_true rfl, Nat.le_of_ble_eq_true rfl⟩) hS (fun q _ h => hFc q h) hFc (fun u t H1 locs ht hvm hw hB hz1 hk1 hS => ?_)
  obtain ⟨z_fz_2, ⟨hP1, -, hD1⟩⟩ := hB
  rw [ht] at hP1
  obtain ⟨qs_3, fz_4, hP, hD⟩ := zp_put (wr := [(bu, .inl (k_fbu, 5, .inl fbu))]) (k := (o + 0)) hP hD (by omega) (fun q h => List.mem_append_left _ (pu_subm [23] rfl q h)) hk1 hgsz hP1
  clear hP1 hD1 hFc
  clear hPc hDc hKc
  clear hk1 hz1 ht hvm
  generalize H1 = H at hP hS ⊢
  refine lv_iload_n hx hb eX1_open_33 rfl (lv_at hl 3 rfl) ?_
  refine lv_aload_n hx hb eX1_open_34 rfl (lv_at hl 1 rfl) ?_
  refine va_get (D := (dC, dI)) (ci := 1) (v := .int gav) (C := RX1) (T := TX1) (N := 18) hx hb hts hiX1 hown hK hP 0 rfl rfl 10 (by decide) v_11 (fun _ h9 => h9) rfl eX1_open_35 ?_
  refine lv_icmp_eq (tgt := 89) hx hb eX1_open_38 (by decide) (fun c_5 => ?_) (fun c_5 => ?_)
  · exact W.vret hx hb hr (fun t ht hW => ⟨⟨(), rfl, trivial, ⟨q_fs1, fs2, fs3, fs4, fs5, gfound, 0, 0, 0, fz_4, qs_3, ⟨by rw [ht]; exact hP, va_K.moved hW.alike hK, hD⟩, hgfound, (Nat.le_of_ble_eq_true rfl), (Nat.le_of_ble_eq_true rfl), by first | assumption | exact gz_0⟩⟩, hS.F ht⟩) hS.2.2 eX1_open_89
  · refine lv_aload_n hx hb eX1_open_41 rfl (lv_at hl 2 rfl) ?_
    refine lv_aload hx hb eX1_open_42 (lv_at hl 0 rfl) ?_
    refine lv_iload_n hx hb eX1_open_44 rfl (lv_at hl 3 rfl) ?_
    have hPc : va_P (dC, dI) vwCl [] _ := hP.sub [] rfl
    have hDc : va_D A [] := (zp_left hD).sub [] (by decide) rfl
    have hKc : va_K (dC, dI) vwCl [] s := hK.sub [] rfl
    refine va_calli (va_runS (As := [.int (nI a1)]) (rest := [.ref (az (o + 0)), .ref au]) ⟨hx, hb, hml, hown, hts⟩ (c_C_0_hostOfPlace l dC dI _ a1 ha1) (va_cwS 1 hts g_C_1_open_25_C_0_hostOfPlace rfl rfl rfl (by decide +kernel) ⟨Nat.le_of_ble_eq_true rfl, Nat.le_of_ble_eq_true rfl⟩) ⟨pu_bl, pu_in hPc hKc hDc⟩ rfl rfl hl.1 rfl (lv_room (Nat.le_of_ble_eq_true rfl)) eX1_open_45 ⟨Nat.le_of_ble_eq_true rfl, Nat.le_of_ble_eq_true rfl⟩) hS (fun q _ h => pu_fr hS hA q h) (pu_fr hS hA) (fun r_6 u t H1 locs ht hvm hw hB hz1 hk1 hS => ?_)
    have hP := pu_keep hP hk1
    clear hPc hDc hKc
    clear hk1 hz1 ht hvm
    generalize H1 = H at hP hS ⊢
    obtain rfl : r_6 = nI (14 + a1) := hw
    refine lv_iconst (v := 0) hx hb eX1_open_48 (by decide) ?_
    have hPz := zp_cut (k := (o + 0)) hP (by omega)
    have hPc : va_P (dC, dI) vwCl ([(au, .inr (0, [.int (nI nc), .int (nI np), .int (nI ne), .int st0, .ref q4, .ref q5, .ref q6, .ref q7, .ref q8, .ref q9, .ref q10, .ref q11, .ref q12, .ref q13, .ref q14, .ref q15, .ref q16])), (q4, .inl (k_f4, 8, .inl f4)), (q5, .inl (k_f5, 14, .inl (bN 7 q_f5))), (q6, .inl (k_f6, 14, .inl (bN 7 q_f6))), (q7, .inl (k_f7, 14, .inl f7)), (q8, .inl (k_f8, 22, .inl (bN 4 q_f8))), (q9, .inl (k_f9, 88, .inl (bN 2 q_f9))), (q10, .inl (k_f10, 88, .inl f10)), (q11, .inl (k_f11, 88, .inl f11)), (q12, .inl (k_f12, 88, .inl f12)), (q13, .inl (k_f13, 88, .inl f13)), (q14, .inl (k_f14, 4, .inl f14)), (q15, .inl (k_f15, 4, .inl f15)), (q16, .inl (k_f16, 4, .inl f16))] ++ [(az (o + 0), .inr (7, [.ref (ac (o + 0)), .int (nI (min (qs_3 (o + 0)) 5))])), (ac (o + 0), .inl (kz (o + 0), 25, .inl (fz_4 (o + 0))))]) _ := va_P.app (hP.sub [9, 10, 11, 12, 13, 14, 15, 16, 17, 18, 19, 20, 21, 22] rfl) hPz
    have hDc : va_D A ([(au, .inr (0, [.int (nI nc), .int (nI np), .int (nI ne), .int st0, .ref q4, .ref q5, .ref q6, .ref q7, .ref q8, .ref q9, .ref q10, .ref q11, .ref q12, .ref q13, .ref q14, .ref q15, .ref q16])), (q4, .inl (k_f4, 8, .inl f4)), (q5, .inl (k_f5, 14, .inl (bN 7 q_f5))), (q6, .inl (k_f6, 14, .inl (bN 7 q_f6))), (q7, .inl (k_f7, 14, .inl f7)), (q8, .inl (k_f8, 22, .inl (bN 4 q_f8))), (q9, .inl (k_f9, 88, .inl (bN 2 q_f9))), (q10, .inl (k_f10, 88, .inl f10)), (q11, .inl (k_f11, 88, .inl f11)), (q12, .inl (k_f12, 88, .inl f12)), (q13, .inl (k_f13, 88, .inl f13)), (q14, .inl (k_f14, 4, .inl f14)), (q15, .inl (k_f15, 4, .inl f15)), (q16, .inl (k_f16, 4, .inl f16))] ++ [(az (o + 0), .inr (7, [.ref (ac (o + 0)), .int (nI (min (qs_3 (o + 0)) 5))])), (ac (o + 0), .inl (kz (o + 0), 25, .inl (fz_4 (o + 0))))]) := zp_cutD hD (by omega) [9, 10, 11, 12, 13, 14, 15, 16, 17, 18, 19, 20, 21, 22] (by decide) rfl
    have hKc : va_K (dC, dI) vwCl ([(k_f4, .boolean), (k_f5, .int), (k_f6, .int), (k_f7, .int), (k_f8, .int), (k_f9, .int), (k_f10, .int), (k_f11, .int), (k_f12, .int), (k_f13, .int), (k_f14, .int), (k_f15, .int), (k_f16, .int)] ++ [(kz (o + 0), .int)]) s := zp_K hK (by omega) [8, 9, 10, 11, 12, 13, 14, 15, 16, 17, 18, 19, 20] rfl
    have hFc := pu_free hDc hS hA
    refine va_calli (va_runV (As := [.ref (az (o + 0)), .int (nI (14 + a1)), .int 0]) (rest := []) ⟨hx, hb, hml, hown, hts⟩ (c_C_0_narrowTo_25 l dC dI _ au nc np ne st0 q4 q5 q6 q7 q8 q9 q10 q11 q12 q13 q14 q15 q16 k_f4 f4 k_f5 q_f5 k_f6 q_f6 k_f7 f7 k_f8 q_f8 k_f9 q_f9 k_f10 f10 k_f11 f11 k_f12 f12 k_f13 f13 k_f14 f14 k_f15 f15 k_f16 f16 (az (o + 0)) (ac (o + 0)) (min (qs_3 (o + 0)) 5) (kz (o + 0)) (fz_4 (o + 0)) (14 + a1) 0 hnc hnp hne (hst0) (Nat.min_le_right _ _) (by omega)) (cwV 3 hts g_C_1_open_25_C_0_narrowTo_25 rfl rfl rfl (by decide +kernel) ⟨Nat.le_of_ble_eq_true rfl, Nat.le_of_ble_eq_true rfl⟩) ⟨pu_bl, va_recv hK hP (ci := 0) (q0 := 9) rfl rfl, pu_in hPc hKc hDc⟩ rfl rfl hl.1 rfl (lv_room (Nat.le_of_ble_eq_true rfl)) eX1_open_49 ⟨Nat.le_of_ble_eq_true rfl, Nat.le_of_ble_eq_true rfl⟩) hS (fun q _ h => hFc q h) hFc (fun r_7 u t H1 locs ht hvm hw hB hz1 hk1 hS => ?_)
    obtain ⟨z_fz_8, ⟨hP1, -, hD1⟩⟩ := hB
    rw [ht] at hP1
    obtain ⟨qs_9, fz_10, hP, hD⟩ := zp_put (wr := [(au, .inr (0, [.int (nI nc), .int (nI np), .int (nI ne), .int st0, .ref q4, .ref q5, .ref q6, .ref q7, .ref q8, .ref q9, .ref q10, .ref q11, .ref q12, .ref q13, .ref q14, .ref q15, .ref q16])), (q4, .inl (k_f4, 8, .inl f4)), (q5, .inl (k_f5, 14, .inl (bN 7 q_f5))), (q6, .inl (k_f6, 14, .inl (bN 7 q_f6))), (q7, .inl (k_f7, 14, .inl f7)), (q8, .inl (k_f8, 22, .inl (bN 4 q_f8))), (q9, .inl (k_f9, 88, .inl (bN 2 q_f9))), (q10, .inl (k_f10, 88, .inl f10)), (q11, .inl (k_f11, 88, .inl f11)), (q12, .inl (k_f12, 88, .inl f12)), (q13, .inl (k_f13, 88, .inl f13)), (q14, .inl (k_f14, 4, .inl f14)), (q15, .inl (k_f15, 4, .inl f15)), (q16, .inl (k_f16, 4, .inl f16))]) (k := (o + 0)) hP hD (by omega) (fun q h => List.mem_append_left _ (pu_subm [9, 10, 11, 12, 13, 14, 15, 16, 17, 18, 19, 20, 21, 22] rfl q h)) hk1 (Nat.min_le_right _ _) hP1
    clear hP1 hD1 hFc
    clear hPc hDc hKc
    clear hk1 hz1 ht hvm
    generalize H1 = H at hP hS ⊢
    obtain ⟨u_11, hu_11, rfl⟩ := hw
    refine lv_if_eq (tgt := 89) hx hb eX1_open_52 (by decide) (fun c_12 => ?_) (fun c_12 => ?_)
    · have c_12 : u_11 = 0 := (nI_eq (a := u_11) (b := 0) (Nat.lt_of_le_of_lt hu_11 (Nat.le_of_ble_eq_true rfl)) (Nat.le_of_ble_eq_true rfl)).mp c_12
      exact W.vret hx hb hr (fun t ht hW => ⟨⟨(), rfl, trivial, ⟨q_fs1, fs2, fs3, fs4, fs5, gfound, 0, 0, 0, fz_10, qs_9, ⟨by rw [ht]; exact hP, va_K.moved hW.alike hK, hD⟩, hgfound, (Nat.le_of_ble_eq_true rfl), (Nat.le_of_ble_eq_true rfl), by first | assumption | exact gz_0⟩⟩, hS.F ht⟩) hS.2.2 eX1_open_89
    · have c_12 : ¬ u_11 = 0 := fun z => c_12 ((nI_eq (a := u_11) (b := 0) (Nat.lt_of_le_of_lt hu_11 (Nat.le_of_ble_eq_true rfl)) (Nat.le_of_ble_eq_true rfl)).mpr z)
      refine lv_aload_n hx hb eX1_open_55 rfl (lv_at hl 2 rfl) ?_
      refine lv_aload hx hb eX1_open_56 (lv_at hl 0 rfl) ?_
      refine lv_iload_n hx hb eX1_open_58 rfl (lv_at hl 3 rfl) ?_
      have hPz := zp_cut (k := (o + 0)) hP (by omega)
      have hPc : va_P (dC, dI) vwCl ([(au, .inr (0, [.int (nI nc), .int (nI np), .int (nI ne), .int st0, .ref q4, .ref q5, .ref q6, .ref q7, .ref q8, .ref q9, .ref q10, .ref q11, .ref q12, .ref q13, .ref q14, .ref q15, .ref q16])), (q4, .inl (k_f4, 8, .inl f4)), (q5, .inl (k_f5, 14, .inl (bN 7 q_f5))), (q6, .inl (k_f6, 14, .inl (bN 7 q_f6))), (q7, .inl (k_f7, 14, .inl f7)), (q8, .inl (k_f8, 22, .inl (bN 4 q_f8))), (q9, .inl (k_f9, 88, .inl (bN 2 q_f9))), (q10, .inl (k_f10, 88, .inl f10)), (q11, .inl (k_f11, 88, .inl f11)), (q12, .inl (k_f12, 88, .inl f12)), (q13, .inl (k_f13, 88, .inl f13)), (q14, .inl (k_f14, 4, .inl f14)), (q15, .inl (k_f15, 4, .inl f15)), (q16, .inl (k_f16, 4, .inl f16))] ++ [(az (o + 0), .inr (7, [.ref (ac (o + 0)), .int (nI (min (qs_9 (o + 0)) 5))])), (ac (o + 0), .inl (kz (o + 0), 25, .inl (fz_10 (o + 0))))]) _ := va_P.app (hP.sub [9, 10, 11, 12, 13, 14, 15, 16, 17, 18, 19, 20, 21, 22] rfl) hPz
      have hDc : va_D A ([(au, .inr (0, [.int (nI nc), .int (nI np), .int (nI ne), .int st0, .ref q4, .ref q5, .ref q6, .ref q7, .ref q8, .ref q9, .ref q10, .ref q11, .ref q12, .ref q13, .ref q14, .ref q15, .ref q16])), (q4, .inl (k_f4, 8, .inl f4)), (q5, .inl (k_f5, 14, .inl (bN 7 q_f5))), (q6, .inl (k_f6, 14, .inl (bN 7 q_f6))), (q7, .inl (k_f7, 14, .inl f7)), (q8, .inl (k_f8, 22, .inl (bN 4 q_f8))), (q9, .inl (k_f9, 88, .inl (bN 2 q_f9))), (q10, .inl (k_f10, 88, .inl f10)), (q11, .inl (k_f11, 88, .inl f11)), (q12, .inl (k_f12, 88, .inl f12)), (q13, .inl (k_f13, 88, .inl f13)), (q14, .inl (k_f14, 4, .inl f14)), (q15, .inl (k_f15, 4, .inl f15)), (q16, .inl (k_f16, 4, .inl f16))] ++ [(az (o + 0), .inr (7, [.ref (ac (o + 0)), .int (nI (min (qs_9 (o + 0)) 5))])), (ac (o + 0), .inl (kz (o + 0), 25, .inl (fz_10 (o + 0))))]) := zp_cutD hD (by omega) [9, 10, 11, 12, 13, 14, 15, 16, 17, 18, 19, 20, 21, 22] (by decide) rfl
      have hKc : va_K (dC, dI) vwCl ([(k_f4, .boolean), (k_f5, .int), (k_f6, .int), (k_f7, .int), (k_f8, .int), (k_f9, .int), (k_f10, .int), (k_f11, .int), (k_f12, .int), (k_f13, .int), (k_f14, .int), (k_f15, .int), (k_f16, .int)] ++ [(kz (o + 0), .int)]) s := zp_K hK (by omega) [8, 9, 10, 11, 12, 13, 14, 15, 16, 17, 18, 19, 20] rfl
      have hFc := pu_free hDc hS hA
      refine va_callv (va_runV (As := [.ref (az (o + 0)), .int (nI a1)]) (rest := []) ⟨hx, hb, hml, hown, hts⟩ (c_C_0_stayIn_25 l dC dI _ au nc np ne st0 q4 q5 q6 q7 q8 q9 q10 q11 q12 q13 q14 q15 q16 k_f4 f4 k_f5 q_f5 k_f6 q_f6 k_f7 f7 k_f8 q_f8 k_f9 q_f9 k_f10 f10 k_f11 f11 k_f12 f12 k_f13 f13 k_f14 f14 k_f15 f15 k_f16 f16 (az (o + 0)) (ac (o + 0)) (min (qs_9 (o + 0)) 5) (kz (o + 0)) (fz_10 (o + 0)) a1 hnc hnp hne (hst0) (Nat.min_le_right _ _) ha1) (cwV 2 hts g_C_1_open_25_C_0_stayIn_25 rfl rfl rfl (by decide +kernel) ⟨Nat.le_of_ble_eq_true rfl, Nat.le_of_ble_eq_true rfl⟩) ⟨pu_bl, va_recv hK hP (ci := 0) (q0 := 9) rfl rfl, pu_in hPc hKc hDc⟩ rfl rfl hl.1 rfl (lv_room (Nat.le_of_ble_eq_true rfl)) eX1_open_59 ⟨Nat.le_of_ble_eq_true rfl, Nat.le_of_ble_eq_true rfl⟩) hS (fun q _ h => hFc q h) hFc (fun u t H1 locs ht hvm hw hB hz1 hk1 hS => ?_)
      obtain ⟨z_fz_14, ⟨hP1, -, hD1⟩⟩ := hB
      rw [ht] at hP1
      obtain ⟨qs_15, fz_16, hP, hD⟩ := zp_put (wr := [(au, .inr (0, [.int (nI nc), .int (nI np), .int (nI ne), .int st0, .ref q4, .ref q5, .ref q6, .ref q7, .ref q8, .ref q9, .ref q10, .ref q11, .ref q12, .ref q13, .ref q14, .ref q15, .ref q16])), (q4, .inl (k_f4, 8, .inl f4)), (q5, .inl (k_f5, 14, .inl (bN 7 q_f5))), (q6, .inl (k_f6, 14, .inl (bN 7 q_f6))), (q7, .inl (k_f7, 14, .inl f7)), (q8, .inl (k_f8, 22, .inl (bN 4 q_f8))), (q9, .inl (k_f9, 88, .inl (bN 2 q_f9))), (q10, .inl (k_f10, 88, .inl f10)), (q11, .inl (k_f11, 88, .inl f11)), (q12, .inl (k_f12, 88, .inl f12)), (q13, .inl (k_f13, 88, .inl f13)), (q14, .inl (k_f14, 4, .inl f14)), (q15, .inl (k_f15, 4, .inl f15)), (q16, .inl (k_f16, 4, .inl f16))]) (k := (o + 0)) hP hD (by omega) (fun q h => List.mem_append_left _ (pu_subm [9, 10, 11, 12, 13, 14, 15, 16, 17, 18, 19, 20, 21, 22] rfl q h)) hk1 (Nat.min_le_right _ _) hP1
      clear hP1 hD1 hFc
      clear hPc hDc hKc
      clear hk1 hz1 ht hvm
      generalize H1 = H at hP hS ⊢
      refine lv_aload_n hx hb eX1_open_62 rfl (lv_at hl 1 rfl) ?_
      refine va_get (D := (dC, dI)) (ci := 1) (v := .int gway) (C := RX1) (T := TX1) (N := 18) hx hb hts hiX1 hown hK hP 0 rfl rfl 9 (by decide) v_24 (fun _ h9 => h9) rfl eX1_open_63 ?_
      refine pu_join (fun H locs ls st => ∃ (g_17 : Nat → Nat) (g_18 : Nat → Nat → Int32), st = [] ∧ va_P (dC, dI) vwCl ((gt2__w g gz g1 g2 g3 g4 g5 0 0 0 gway gav ggoal (nI gfound) 400 (nI gl) (nI gsz) g16 g17 k_fgz (zs o 401 az) k_fs1 (bN 7 q_fs1) k_fs2 fs2 k_fs3 fs3 k_fs4 fs4 k_fs5 fs5 k_fhi fhi k_flo flo au (nI nc) (nI np) (nI ne) st0 q4 q5 q6 q7 q8 q9 q10 q11 q12 q13 q14 q15 q16 k_f4 f4 k_f5 (bN 7 q_f5) k_f6 (bN 7 q_f6) k_f7 f7 k_f8 (bN 4 q_f8) k_f9 (bN 2 q_f9) k_f10 f10 k_f11 f11 k_f12 f12 k_f13 f13 k_f14 f14 k_f15 f15 k_f16 f16 bu k_fbu fbu) ++ zp 5 25 N az ac kz g_17 g_18) H ∧ va_D A ((gt2__w g gz g1 g2 g3 g4 g5 0 0 0 gway gav ggoal (nI gfound) 400 (nI gl) (nI gsz) g16 g17 k_fgz (zs o 401 az) k_fs1 (bN 7 q_fs1) k_fs2 fs2 k_fs3 fs3 k_fs4 fs4 k_fs5 fs5 k_fhi fhi k_flo flo au (nI nc) (nI np) (nI ne) st0 q4 q5 q6 q7 q8 q9 q10 q11 q12 q13 q14 q15 q16 k_f4 f4 k_f5 (bN 7 q_f5) k_f6 (bN 7 q_f6) k_f7 f7 k_f8 (bN 4 q_f8) k_f9 (bN 2 q_f9) k_f10 f10 k_f11 f11 k_f12 f12 k_f13 f13 k_f14 f14 k_f15 f15 k_f16 f16 bu k_fbu fbu) ++ zp 5 25 N az ac kz g_17 g_18) ∧ va_S A s.heap H locs ∧ lv_has ls 5 [(0, .ref g), (1, .ref au), (2, .int (nI a1)), (3, .ref bu), (4, .ref (az (o + 0)))]) 82 ?_ (fun j_19 => ?_)
      · rintro H locs ls st ⟨g_17, g_18, rfl, hP, hD, hS, hl⟩
        refine lv_aload_n hx hb eX1_open_82 rfl (lv_at hl 0 rfl) ?_
        refine lv_iload_n hx hb eX1_open_83 rfl (lv_at hl 2 rfl) ?_
        refine lv_iconst (v := (-1)) hx hb eX1_open_84 (by decide) ?_
        refine lv_iconst (v := (-1)) hx hb eX1_open_85 (by decide) ?_
        have hPc : va_P (dC, dI) vwCl ([(g, .inr (1, [.ref gz, .ref g1, .ref g2, .ref g3, .ref g4, .ref g5, .int 0, .int 0, .int 0, .int gway, .int gav, .int ggoal, .int (nI gfound), .int 400, .int (nI gl), .int (nI gsz), .ref g16, .ref g17])), (gz, .inl (k_fgz, 401, .inr (.inr (.inr (.inr (zs o 401 az)))))), (g1, .inl (k_fs1, 400, .inl (bN 7 q_fs1))), (g2, .inl (k_fs2, 400, .inl fs2)), (g3, .inl (k_fs3, 400, .inl fs3)), (g4, .inl (k_fs4, 400, .inl fs4)), (g5, .inl (k_fs5, 400, .inl fs5)), (g16, .inl (k_fhi, 5, .inl fhi)), (g17, .inl (k_flo, 5, .inl flo))] ++ zp 5 25 N az ac kz g_17 g_18) _ := hP.part [0, 1, 2, 3, 4, 5, 6, 7, 8] rfl
        have hDc : va_D A ([(g, .inr (1, [.ref gz, .ref g1, .ref g2, .ref g3, .ref g4, .ref g5, .int 0, .int 0, .int 0, .int gway, .int gav, .int ggoal, .int (nI gfound), .int 400, .int (nI gl), .int (nI gsz), .ref g16, .ref g17])), (gz, .inl (k_fgz, 401, .inr (.inr (.inr (.inr (zs o 401 az)))))), (g1, .inl (k_fs1, 400, .inl (bN 7 q_fs1))), (g2, .inl (k_fs2, 400, .inl fs2)), (g3, .inl (k_fs3, 400, .inl fs3)), (g4, .inl (k_fs4, 400, .inl fs4)), (g5, .inl (k_fs5, 400, .inl fs5)), (g16, .inl (k_fhi, 5, .inl fhi)), (g17, .inl (k_flo, 5, .inl flo))] ++ zp 5 25 N az ac kz g_17 g_18) := hD.part [0, 1, 2, 3, 4, 5, 6, 7, 8] (by decide) rfl
        have hKc : va_K (dC, dI) vwCl ([(k_fgz, .object RX7), (k_fs1, .int), (k_fs2, .int), (k_fs3, .int), (k_fs4, .int), (k_fs5, .int), (k_fhi, .int), (k_flo, .int)] ++ zt N kz) s := zk_part hK [0, 1, 2, 3, 4, 5, 6, 7] rfl
        have hFc := pu_free hDc hS hA
        refine va_callv (va_runV (As := [.int (nI a1), .int (-1), .int (-1)]) (rest := []) ⟨hx, hb, hml, hown, hts⟩ (c_C_1_record0_25 l dC dI _ g gz g1 g2 g3 g4 g5 0 0 0 gway gav ggoal gfound gl gsz g16 g17 k_fgz k_fs1 q_fs1 k_fs2 fs2 k_fs3 fs3 k_fs4 fs4 k_fs5 fs5 k_fhi fhi k_flo flo N o az ac kz g_17 g_18 a1 (Nat.le_of_ble_eq_true rfl) (Nat.le_of_ble_eq_true rfl) hgfound hgl hgsz (by omega) ha1 (by first | assumption | exact gz_0)) (cwV 3 hts g_C_1_open_25_C_1_record0_25 rfl rfl rfl (by decide +kernel) ⟨Nat.le_of_ble_eq_true rfl, Nat.le_of_ble_eq_true rfl⟩) ⟨pu_bl, va_recv hK hP (ci := 1) (q0 := 0) rfl rfl, pu_in hPc hKc hDc⟩ rfl rfl hl.1 rfl (lv_room (Nat.le_of_ble_eq_true rfl)) eX1_open_86 ⟨Nat.le_of_ble_eq_true rfl, Nat.le_of_ble_eq_true rfl⟩) hS (fun q _ h => hFc q h) hFc (fun u t H1 locs ht hvm hw hB hz1 hk1 hS => ?_)
        obtain ⟨z_fs1_21, z_fs2_22, z_fs3_23, z_fs4_24, z_fs5_25, z_gfound_26, ⟨hP1, -, hD1⟩, hz_gfound_26, xr_20_0⟩ := hB
        rw [ht] at hP1
        obtain ⟨hP, hD⟩ := pl_put (X' := (gt2__w g gz g1 g2 g3 g4 g5 (nI (0 + 1)) 0 0 gway gav ggoal (nI z_gfound_26) 400 (nI gl) (nI gsz) g16 g17 k_fgz (zs o 401 az) k_fs1 (bN 7 z_fs1_21) k_fs2 z_fs2_22 k_fs3 z_fs3_23 k_fs4 z_fs4_24 k_fs5 z_fs5_25 k_fhi fhi k_flo flo au (nI nc) (nI np) (nI ne) st0 q4 q5 q6 q7 q8 q9 q10 q11 q12 q13 q14 q15 q16 k_f4 f4 k_f5 (bN 7 q_f5) k_f6 (bN 7 q_f6) k_f7 f7 k_f8 (bN 4 q_f8) k_f9 (bN 2 q_f9) k_f10 f10 k_f11 f11 k_f12 f12 k_f13 f13 k_f14 f14 k_f15 f15 k_f16 f16 bu k_fbu fbu)) (w1 := (gt0__w g gz g1 g2 g3 g4 g5 (nI (0 + 1)) 0 0 gway gav ggoal (nI z_gfound_26) 400 (nI gl) (nI gsz) g16 g17 k_fgz (zs o 401 az) k_fs1 (bN 7 z_fs1_21) k_fs2 z_fs2_22 k_fs3 z_fs3_23 k_fs4 z_fs4_24 k_fs5 z_fs5_25 k_fhi fhi k_flo flo)) hP hD [0, 1, 2, 3, 4, 5, 6, 7, 8] rfl hk1 hP1 rfl zp_f rfl
        clear hP1 hD1 hFc
        clear hPc hDc hKc
        clear hk1 hz1 ht hvm
        generalize H1 = H at hP hS ⊢
        exact W.vret hx hb hr (fun t ht hW => ⟨⟨(), rfl, trivial, ⟨z_fs1_21, z_fs2_22, z_fs3_23, z_fs4_24, z_fs5_25, z_gfound_26, (0 + 1), 0, 0, g_18, g_17, ⟨by rw [ht]; exact hP, va_K.moved hW.alike hK, hD⟩, hz_gfound_26, (by omega), (Nat.le_of_ble_eq_true rfl), by first | assumption | exact gz_0⟩⟩, hS.F ht⟩) hS.2.2 eX1_open_89
      refine lv_if_eq (tgt := 82) hx hb eX1_open_66 (by decide) (fun c_27 => ?_) (fun c_27 => ?_)
      · exact j_19 _ _ _ _ ⟨qs_15, fz_16, rfl, hP, hD, hS, lv_sub hl [1, 2, 3, 4, 0] rfl⟩
      · refine lv_aload hx hb eX1_open_69 (lv_at hl 0 rfl) ?_
        refine lv_aload_n hx hb eX1_open_71 rfl (lv_at hl 1 rfl) ?_
        refine va_get (D := (dC, dI)) (ci := 1) (v := .ref g16) (C := RX1) (T := TX1) (N := 18) hx hb hts hiX1 hown hK hP 0 rfl rfl 16 (by decide) v_25 (fun _ h9 => h9) rfl eX1_open_72 ?_
        refine lv_aload_n hx hb eX1_open_75 rfl (lv_at hl 1 rfl) ?_
        refine va_get (D := (dC, dI)) (ci := 1) (v := .ref g17) (C := RX1) (T := TX1) (N := 18) hx hb hts hiX1 hown hK hP 0 rfl rfl 17 (by decide) v_26 (fun _ h9 => h9) rfl eX1_open_76 ?_
        have hPz := zp_cut (k := (o + 0)) hP (by omega)
        have hPc : va_P (dC, dI) vwCl ([(g16, .inl (k_fhi, 5, .inl fhi)), (g17, .inl (k_flo, 5, .inl flo))] ++ [(az (o + 0), .inr (7, [.ref (ac (o + 0)), .int (nI (min (qs_15 (o + 0)) 5))])), (ac (o + 0), .inl (kz (o + 0), 25, .inl (fz_16 (o + 0))))]) _ := va_P.app (hP.sub [7, 8] rfl) hPz
        have hDc : va_D A ([(g16, .inl (k_fhi, 5, .inl fhi)), (g17, .inl (k_flo, 5, .inl flo))] ++ [(az (o + 0), .inr (7, [.ref (ac (o + 0)), .int (nI (min (qs_15 (o + 0)) 5))])), (ac (o + 0), .inl (kz (o + 0), 25, .inl (fz_16 (o + 0))))]) := zp_cutD hD (by omega) [7, 8] (by decide) rfl
        have hKc : va_K (dC, dI) vwCl ([(k_fhi, .int), (k_flo, .int)] ++ [(kz (o + 0), .int)]) s := zp_K hK (by omega) [6, 7] rfl
        have hFc := pu_free hDc hS hA
        refine va_callv (va_runV (As := [.ref g16, .ref g17]) (rest := []) ⟨hx, hb, hml, hown, hts⟩ (c_C_7_forget_25 l dC dI _ g16 k_fhi fhi g17 k_flo flo (az (o + 0)) (ac (o + 0)) (min (qs_15 (o + 0)) 5) (kz (o + 0)) (fz_16 (o + 0)) (Nat.min_le_right _ _)) (cwV 2 hts g_C_1_open_25_C_7_forget_25 rfl rfl rfl (by decide +kernel) ⟨Nat.le_of_ble_eq_true rfl, Nat.le_of_ble_eq_true rfl⟩) ⟨pu_bl, va_recv hK hPz (ci := 7) (q0 := 0) rfl rfl, pu_in hPc hKc hDc⟩ rfl rfl hl.1 rfl (lv_room (Nat.le_of_ble_eq_true rfl)) eX1_open_79 ⟨Nat.le_of_ble_eq_true rfl, Nat.le_of_ble_eq_true rfl⟩) hS (fun q _ h => hFc q h) hFc (fun u t H1 locs ht hvm hw hB hz1 hk1 hS => ?_)
        obtain ⟨z_fz_29, ⟨hP1, -, hD1⟩⟩ := hB
        rw [ht] at hP1
        obtain ⟨qs_30, fz_31, hP, hD⟩ := zp_put (wr := [(g16, .inl (k_fhi, 5, .inl fhi)), (g17, .inl (k_flo, 5, .inl flo))]) (k := (o + 0)) hP hD (by omega) (fun q h => List.mem_append_left _ (pu_subm [7, 8] rfl q h)) hk1 (Nat.min_le_right _ _) hP1
        clear hP1 hD1 hFc
        clear hPc hDc hKc
        clear hk1 hz1 ht hvm
        generalize H1 = H at hP hS ⊢
        exact j_19 _ _ _ _ ⟨qs_30, fz_31, rfl, hP, hD, hS, lv_sub hl [1, 2, 3, 4, 0] rfl⟩
abbrev vs_C_1_step_25 : List Cond := .code yX1_step cX1_step 6 none :: CM
theorem g_C_1_step_25_C_7_copyOf_25 : GoodIn vs_C_1_step_25 (wsV RX1 125 RX7 yX7_copyOf vs_C_7_copyOf_25) := cm_gV cm_129 cm_130 cm_131 cm_45 cm_132
theorem g_C_1_step_25_C_0_opensIn_25 : GoodIn vs_C_1_step_25 (wsV RX1 129 RX0 yX0_opensIn vs_C_0_opensIn_25) := cm_gV cm_133 cm_134 cm_135 cm_19 cm_50
theorem g_C_1_step_25_C_0_setBackIn_25 : GoodIn vs_C_1_step_25 (wsV RX1 133 RX0 yX0_setBackIn vs_C_0_setBackIn_25) := cm_gV cm_136 cm_137 cm_138 cm_19 cm_56
theorem g_C_1_step_25_C_0_stayIn_25 : GoodIn vs_C_1_step_25 (wsV RX1 100 RX0 yX0_stayIn vs_C_0_stayIn_25) := cm_gV cm_99 cm_100 cm_101 cm_19 cm_61
theorem g_C_1_step_25_C_1_isKnown_25 : GoodIn vs_C_1_step_25 (wsV RX1 136 RX1 yX1_isKnown vs_C_1_isKnown_25) := cm_gV cm_139 cm_140 cm_141 cm_113 cm_142
theorem g_C_1_step_25_C_1_record1_25 : GoodIn vs_C_1_step_25 (wsV RX1 108 RX1 yX1_record vs_C_1_record1_25) := cm_gV cm_110 cm_111 cm_112 cm_113 cm_114
theorem g_C_1_step_25_C_7_forget_25 : GoodIn vs_C_1_step_25 (wsV RX1 104 RX7 yX7_forget vs_C_7_forget_25) := cm_gV cm_102 cm_103 cm_104 cm_45 cm_105
set_option maxHeartbeats 4000000 in
set_option maxRecDepth 100000 in
theorem c_C_1_step_25 (l : Launch) (dC : Nat → ClassId) (dI : Nat → Nat → Nat) (sz : Nat) (g : Nat) (gz : Nat) (g1 : Nat) (g2 : Nat) (g3 : Nat) (g4 : Nat) (g5 : Nat) (gc : Nat) (gfull : Nat) (gx : Int32) (gway : Int32) (gav : Int32) (ggoal : Int32) (gfound : Nat) (gl : Nat) (gsz : Nat) (g16 : Nat) (g17 : Nat) (k_fgz : ClassId) (k_fs1 : ClassId) (q_fs1 : Nat → Nat) (k_fs2 : ClassId) (fs2 : Nat → Int32) (k_fs3 : ClassId) (fs3 : Nat → Int32) (k_fs4 : ClassId) (fs4 : Nat → Int32) (k_fs5 : ClassId) (fs5 : Nat → Int32) (k_fhi : ClassId) (fhi : Nat → Int32) (k_flo : ClassId) (flo : Nat → Int32) (au : Nat) (nc : Nat) (np : Nat) (ne : Nat) (st0 : Int32) (q4 : Nat) (q5 : Nat) (q6 : Nat) (q7 : Nat) (q8 : Nat) (q9 : Nat) (q10 : Nat) (q11 : Nat) (q12 : Nat) (q13 : Nat) (q14 : Nat) (q15 : Nat) (q16 : Nat) (k_f4 : ClassId) (f4 : Nat → Int32) (k_f5 : ClassId) (q_f5 : Nat → Nat) (k_f6 : ClassId) (q_f6 : Nat → Nat) (k_f7 : ClassId) (f7 : Nat → Int32) (k_f8 : ClassId) (q_f8 : Nat → Nat) (k_f9 : ClassId) (q_f9 : Nat → Nat) (k_f10 : ClassId) (f10 : Nat → Int32) (k_f11 : ClassId) (f11 : Nat → Int32) (k_f12 : ClassId) (f12 : Nat → Int32) (k_f13 : ClassId) (f13 : Nat → Int32) (k_f14 : ClassId) (f14 : Nat → Int32) (k_f15 : ClassId) (f15 : Nat → Int32) (k_f16 : ClassId) (f16 : Nat → Int32) (N : Nat) (o : Nat) (az ac : Nat → Nat) (kz : Nat → ClassId) (qs : Nat → Nat) (fz : Nat → Nat → Int32) (a1 : Nat) (a2 : Nat) (hgc : gc ≤ 400) (hgfull : gfull ≤ 1) (hgfound : gfound ≤ 1) (hgl : gl ≤ 1) (hgsz : gsz ≤ 5) (hnc : nc ≤ 3) (hnp : np ≤ 8) (hne : ne ≤ 14) (hst0 : pm1 7 st0) (hN : o + 401 ≤ N) (ha1 : a1 ≤ 399) (ha2 : a2 ≤ 13) (hq0 : gz_ok gc fs2 fs3 fs4) (hq1 : a1 < gc) : Met l yX1_step vs_C_1_step_25 ({ frames := 3, cells := 0, slots := 0, locals := 77 }) (va_Pc [.ref g, .ref au, .int (nI a1), .int (nI a2)] (pu_B (dC, dI) ((gt1__w g gz g1 g2 g3 g4 g5 (nI gc) (nI gfull) gx gway gav ggoal (nI gfound) 400 (nI gl) (nI gsz) g16 g17 k_fgz (zs o 401 az) k_fs1 (bN 7 q_fs1) k_fs2 fs2 k_fs3 fs3 k_fs4 fs4 k_fs5 fs5 k_fhi fhi k_flo flo au (nI nc) (nI np) (nI ne) st0 q4 q5 q6 q7 q8 q9 q10 q11 q12 q13 q14 q15 q16 k_f4 f4 k_f5 (bN 7 q_f5) k_f6 (bN 7 q_f6) k_f7 f7 k_f8 (bN 4 q_f8) k_f9 (bN 2 q_f9) k_f10 f10 k_f11 f11 k_f12 f12 k_f13 f13 k_f14 f14 k_f15 f15 k_f16 f16) ++ zp 5 25 N az ac kz qs fz) ((gt1__t k_fgz k_fs1 k_fs2 k_fs3 k_fs4 k_fs5 k_fhi k_flo k_f4 k_f5 k_f6 k_f7 k_f8 k_f9 k_f10 k_f11 k_f12 k_f13 k_f14 k_f15 k_f16) ++ zt N kz) sz)) (va_Qv (fun (_ : Unit) => True) (fun _ t => ∃ (z_fs1 : Nat → Nat) (z_fs2 : Nat → Int32) (z_fs3 : Nat → Int32) (z_fs4 : Nat → Int32) (z_fs5 : Nat → Int32) (z_gfound : Nat) (z_gc : Nat) (z_gfull : Nat) (z_gx : Int32) (z_fz : Nat → Nat → Int32) (z_qs : Nat → Nat), pu_E (dC, dI) ((gt1__w g gz g1 g2 g3 g4 g5 (nI z_gc) (nI z_gfull) z_gx gway gav ggoal (nI z_gfound) 400 (nI gl) (nI gsz) g16 g17 k_fgz (zs o 401 az) k_fs1 (bN 7 z_fs1) k_fs2 z_fs2 k_fs3 z_fs3 k_fs4 z_fs4 k_fs5 z_fs5 k_fhi fhi k_flo flo au (nI nc) (nI np) (nI ne) st0 q4 q5 q6 q7 q8 q9 q10 q11 q12 q13 q14 q15 q16 k_f4 f4 k_f5 (bN 7 q_f5) k_f6 (bN 7 q_f6) k_f7 f7 k_f8 (bN 4 q_f8) k_f9 (bN 2 q_f9) k_f10 f10 k_f11 f11 k_f12 f12 k_f13 f13 k_f14 f14 k_f15 f15 k_f16 f16) ++ zp 5 25 N az ac kz z_qs z_fz) ((gt1__t k_fgz k_fs1 k_fs2 k_fs3 k_fs4 k_fs5 k_fhi k_flo k_f4 k_f5 k_f6 k_f7 k_f8 k_f9 k_f10 k_f11 k_f12 k_f13 k_f14 k_f15 k_f16) ++ zt N kz) (va_A (((gt1__w g gz g1 g2 g3 g4 g5 (nI gc) (nI gfull) gx gway gav ggoal (nI gfound) 400 (nI gl) (nI gsz) g16 g17 k_fgz (zs o 401 az) k_fs1 (bN 7 q_fs1) k_fs2 fs2 k_fs3 fs3 k_fs4 fs4 k_fs5 fs5 k_fhi fhi k_flo flo au (nI nc) (nI np) (nI ne) st0 q4 q5 q6 q7 q8 q9 q10 q11 q12 q13 q14 q15 q16 k_f4 f4 k_f5 (bN 7 q_f5) k_f6 (bN 7 q_f6) k_f7 f7 k_f8 (bN 4 q_f8) k_f9 (bN 2 q_f9) k_f10 f10 k_f11 f11 k_f12 f12 k_f13 f13 k_f14 f14 k_f15 f15 k_f16 f16) ++ zp 5 25 N az ac kz qs fz)) sz) t ∧ (z_gfound ≤ 1) ∧ (z_gc ≤ 400) ∧ (z_gfull ≤ 1) ∧ (gz_ok z_gc z_fs2 z_fs3 z_fs4) ∧ (gc ≤ z_gc)) (va_A (((gt1__w g gz g1 g2 g3 g4 g5 (nI gc) (nI gfull) gx gway gav ggoal (nI gfound) 400 (nI gl) (nI gsz) g16 g17 k_fgz (zs o 401 az) k_fs1 (bN 7 q_fs1) k_fs2 fs2 k_fs3 fs3 k_fs4 fs4 k_fs5 fs5 k_fhi fhi k_flo flo au (nI nc) (nI np) (nI ne) st0 q4 q5 q6 q7 q8 q9 q10 q11 q12 q13 q14 q15 q16 k_f4 f4 k_f5 (bN 7 q_f5) k_f6 (bN 7 q_f6) k_f7 f7 k_f8 (bN 4 q_f8) k_f9 (bN 2 q_f9) k_f10 f10 k_f11 f11 k_f12 f12 k_f13 f13 k_f14 f14 k_f15 f15 k_f16 f16) ++ zp 5 25 N az ac kz qs fz)) sz)) 0 0 (va_A (((gt1__w g gz g1 g2 g3 g4 g5 (nI gc) (nI gfull) gx gway gav ggoal (nI gfound) 400 (nI gl) (nI gsz) g16 g17 k_fgz (zs o 401 az) k_fs1 (bN 7 q_fs1) k_fs2 fs2 k_fs3 fs3 k_fs4 fs4 k_fs5 fs5 k_fhi fhi k_flo flo au (nI nc) (nI np) (nI ne) st0 q4 q5 q6 q7 q8 q9 q10 q11 q12 q13 q14 q15 q16 k_f4 f4 k_f5 (bN 7 q_f5) k_f6 (bN 7 q_f6) k_f7 f7 k_f8 (bN 4 q_f8) k_f9 (bN 2 q_f9) k_f10 f10 k_f11 f11 k_f12 f12 k_f13 f13 k_f14 f14 k_f15 f15 k_f16 f16) ++ zp 5 25 N az ac kz qs fz)) sz) := by
  refine Met.ofW (cc := cX1_step) (maxL := 6) (ret := none) (by decide) rfl ?_
  intro p e s m args below meth c s₁ B hml hv
  obtain ⟨rfl, rfl, hP, hK, hD0⟩ := hv
  have hx := B.exec
  have hb := B.bytes
  have hr := B.returns
  have hts := atoms_spec (ws := vs_C_1_step_25) B.pre
  have v_1 := hts (.fieldLink RX1 17 "ClockReach$Graph" "zones" "[LClockReach$Zone;") (List.mem_cons_of_mem _ cm_92)
  have v_2 := hts (.fieldLink RX1 79 "ClockReach$Graph" "count" "I") (List.mem_cons_of_mem _ cm_89)
  have v_13 := hts (.fieldLink RX1 85 "ClockReach$Graph" "crossed" "I") (List.mem_cons_of_mem _ cm_91)
  have v_18 := hts (.fieldLink RX1 118 "ClockReach$Automaton" "targets" "[I") (List.mem_cons_of_mem _ cm_123)
  have v_23 := hts (.fieldLink RX1 46 "ClockReach$Graph" "way" "I") (List.mem_cons_of_mem _ cm_76)
  have v_24 := hts (.fieldLink RX1 40 "ClockReach$Graph" "high" "[I") (List.mem_cons_of_mem _ cm_83)
  have v_25 := hts (.fieldLink RX1 43 "ClockReach$Graph" "low" "[I") (List.mem_cons_of_mem _ cm_86)
  have v_35 := hts (.fieldLink RX1 9 "ClockReach$Graph" "most" "I") (List.mem_cons_of_mem _ cm_128)
  have v_40 := hts (.fieldLink RX1 82 "ClockReach$Graph" "full" "Z") (List.mem_cons_of_mem _ cm_90)
  have hown : s.vm.findClass RX1 = some m.cls := findClass_of_methodNamed B.named
  have hlocks := B.notSynchronized
  have hiX0 : ∀ w ∈ wsX00, w ∈ vs_C_1_step_25 := fun _ h => List.mem_cons_of_mem _ (cm_X0 h)
  have hiX1 : ∀ w ∈ wsX10, w ∈ vs_C_1_step_25 := fun _ h => List.mem_cons_of_mem _ (cm_X1 h)
  have hD := hD0.self (sz := s.heap.size)
  generalize hAe : va_A (((gt1__w g gz g1 g2 g3 g4 g5 (nI gc) (nI gfull) gx gway gav ggoal (nI gfound) 400 (nI gl) (nI gsz) g16 g17 k_fgz (zs o 401 az) k_fs1 (bN 7 q_fs1) k_fs2 fs2 k_fs3 fs3 k_fs4 fs4 k_fs5 fs5 k_fhi fhi k_flo flo au (nI nc) (nI np) (nI ne) st0 q4 q5 q6 q7 q8 q9 q10 q11 q12 q13 q14 q15 q16 k_f4 f4 k_f5 (bN 7 q_f5) k_f6 (bN 7 q_f6) k_f7 f7 k_f8 (bN 4 q_f8) k_f9 (bN 2 q_f9) k_f10 f10 k_f11 f11 k_f12 f12 k_f13 f13 k_f14 f14 k_f15 f15 k_f16 f16) ++ zp 5 25 N az ac kz qs fz)) s.heap.size = A at hD ⊢
  have hA : ∀ q : Nat, s.heap.size ≤ q → A q := fun q h => by rw [← hAe]; exact Or.inr h
  have hS : va_S A s.heap s.heap [] := va_S.rf
  have hl := lv_entry ([.ref g, .ref au, .int (nI a1), .int (nI a2)]) (n := 6) (Nat.le_of_ble_eq_true rfl)
  rw [lg_entry_eq]
  generalize (lg_sl ([.ref g, .ref au, .int (nI a1), .int (nI a2)]) ++ List.replicate (6 - (lg_sl ([.ref g, .ref au, .int (nI a1), .int (nI a2)])).length) Slot.unset).toArray = ls at hl ⊢
  have hl : lv_has ls 6 [(0, .ref g), (1, .ref au), (2, .int (nI a1)), (3, .int (nI a2))] := hl
  refine lv_aload_n hx hb eX1_step_0 rfl (lv_at hl 0 rfl) ?_
  refine va_get (D := (dC, dI)) (ci := 1) (v := .ref gz) (C := RX1) (T := TX1) (N := 18) hx hb hts hiX1 hown hK hP 0 rfl rfl 0 (by decide) v_1 (fun _ h9 => h9) rfl eX1_step_1 ?_
  refine lv_aload_n hx hb eX1_step_4 rfl (lv_at hl 0 rfl) ?_
  refine va_get (D := (dC, dI)) (ci := 1) (v := .int (nI gc)) (C := RX1) (T := TX1) (N := 18) hx hb hts hiX1 hown hK hP 0 rfl rfl 6 (by decide) v_2 (fun _ h9 => h9) rfl eX1_step_5 ?_
  refine va_aldq hx hb hK hP 1 0 rfl rfl (vp_in_nI (n := gc) (Nat.lt_of_le_of_lt hgc (Nat.le_of_ble_eq_true rfl)) (Nat.le_of_ble_eq_true rfl)) eX1_step_8 ?_
  refine W.eq (g2 := F0 m 9 ls [.ref (az (o + gc))]) (by rw [zs_get (Nat.lt_of_le_of_lt hgc (Nat.le_of_ble_eq_true rfl)) (by omega)]) ?_
  refine lv_astore (lv' := [(4, .ref (az (o + gc))), (0, .ref g), (1, .ref au), (2, .int (nI a1)), (3, .int (nI a2))]) hx hb eX1_step_9 hl (by decide) rfl (fun ls hl => ?_)
  refine lv_aload hx hb eX1_step_11 (lv_at hl 0 rfl) ?_
  refine lv_aload_n hx hb eX1_step_13 rfl (lv_at hl 1 rfl) ?_
  refine va_get (D := (dC, dI)) (ci := 1) (v := .ref gz) (C := RX1) (T := TX1) (N := 18) hx hb hts hiX1 hown hK hP 0 rfl rfl 0 (by decide) v_1 (fun _ h9 => h9) rfl eX1_step_14 ?_
  refine lv_iload_n hx hb eX1_step_17 rfl (lv_at hl 3 rfl) ?_
  refine va_aldq hx hb hK hP 1 0 rfl rfl (vp_in_nI (n := a1) (Nat.lt_of_le_of_lt ha1 (Nat.le_of_ble_eq_true rfl)) (Nat.le_of_ble_eq_true rfl)) eX1_step_18 ?_
  refine W.eq (g2 := F0 m 19 ls [.ref (az (o + a1)), .ref (az (o + gc))]) (by rw [zs_get (Nat.lt_of_le_of_lt ha1 (Nat.le_of_ble_eq_true rfl)) (by omega)]) ?_
  have hPz := zp_cut (k := (o + gc)) hP (by omega)
  have hPy := zp_cut (k := (o + a1)) hP (by omega)
  have hPc : va_P (dC, dI) vwCl ([(az (o + a1), .inr (7, [.ref (ac (o + a1)), .int (nI (min (qs (o + a1)) 5))])), (ac (o + a1), .inl (kz (o + a1), 25, .inl (fz (o + a1))))] ++ [(az (o + gc), .inr (7, [.ref (ac (o + gc)), .int (nI (min (qs (o + gc)) 5))])), (ac (o + gc), .inl (kz (o + gc), 25, .inl (fz (o + gc))))]) _ := va_P.app hPy hPz
  have hDc : va_D A ([(az (o + a1), .inr (7, [.ref (ac (o + a1)), .int (nI (min (qs (o + a1)) 5))])), (ac (o + a1), .inl (kz (o + a1), 25, .inl (fz (o + a1))))] ++ [(az (o + gc), .inr (7, [.ref (ac (o + gc)), .int (nI (min (qs (o + gc)) 5))])), (ac (o + gc), .inl (kz (o + gc), 25, .inl (fz (o + gc))))]) := zp_cutD2 hD (by omega) (by omega) (by omega)
  have hKc : va_K (dC, dI) vwCl [(kz (o + a1), .int), (kz (o + gc), .int)] s := zp_K2 hK (by omega) (by omega)
  have hFc := pu_free hDc hS hA
  refine va_callv (va_runV (As := [.ref (az (o + a1))]) (rest := []) ⟨hx, hb, hml, hown, hts⟩ (c_C_7_copyOf_25 l dC dI _ (az (o + a1)) (ac (o + a1)) (min (qs (o + a1)) 5) (kz (o + a1)) (fz (o + a1)) (az (o + gc)) (ac (o + gc)) (min (qs (o + gc)) 5) (kz (o + gc)) (fz (o + gc)) (Nat.min_le_right _ _) (Nat.min_le_right _ _)) (cwV 1 hts g_C_1_step_25_C_7_copyOf_25 rfl rfl rfl (by decide +kernel) ⟨Nat.le_of_ble_eq_true rfl, Nat.le_of_ble_eq_true rfl⟩) ⟨pu_bl, va_recv hK hPz (ci := 7) (q0 := 0) rfl rfl, pu_in hPc hKc hDc⟩ rfl rfl hl.1 rfl (lv_room (Nat.le_of_ble_eq_true rfl)) eX1_step_19 ⟨Nat.le_of_ble_eq_true rfl, Nat.le_of_ble_eq_true rfl⟩) hS (fun q _ h => hFc q h) hFc (fun u t H1 locs ht hvm hw hB hz1 hk1 hS => ?_)
  obtain ⟨z_fz_2, ⟨hP1, -, hD1⟩⟩ := hB
  rw [ht] at hP1
  obtain ⟨qs_3, fz_4, hP, hD⟩ := zp_put (wr := [(az (o + a1), .inr (7, [.ref (ac (o + a1)), .int (nI (min (qs (o + a1)) 5))])), (ac (o + a1), .inl (kz (o + a1), 25, .inl (fz (o + a1))))]) (k := (o + gc)) hP hD (by omega) (zp_two (by omega)) hk1 (Nat.min_le_right _ _) hP1
  clear hP1 hD1 hFc
  clear hPc hDc hKc
  clear hk1 hz1 ht hvm
  generalize H1 = H at hP hS ⊢
  refine lv_aload_n hx hb eX1_step_22 rfl (lv_at hl 2 rfl) ?_
  refine lv_aload hx hb eX1_step_23 (lv_at hl 0 rfl) ?_
  refine lv_iload_n hx hb eX1_step_25 rfl (lv_at hl 4 rfl) ?_
  have hPz := zp_cut (k := (o + gc)) hP (by omega)
  have hPc : va_P (dC, dI) vwCl ([(au, .inr (0, [.int (nI nc), .int (nI np), .int (nI ne), .int st0, .ref q4, .ref q5, .ref q6, .ref q7, .ref q8, .ref q9, .ref q10, .ref q11, .ref q12, .ref q13, .ref q14, .ref q15, .ref q16])), (q4, .inl (k_f4, 8, .inl f4)), (q5, .inl (k_f5, 14, .inl (bN 7 q_f5))), (q6, .inl (k_f6, 14, .inl (bN 7 q_f6))), (q7, .inl (k_f7, 14, .inl f7)), (q8, .inl (k_f8, 22, .inl (bN 4 q_f8))), (q9, .inl (k_f9, 88, .inl (bN 2 q_f9))), (q10, .inl (k_f10, 88, .inl f10)), (q11, .inl (k_f11, 88, .inl f11)), (q12, .inl (k_f12, 88, .inl f12)), (q13, .inl (k_f13, 88, .inl f13)), (q14, .inl (k_f14, 4, .inl f14)), (q15, .inl (k_f15, 4, .inl f15)), (q16, .inl (k_f16, 4, .inl f16))] ++ [(az (o + gc), .inr (7, [.ref (ac (o + gc)), .int (nI (min (qs_3 (o + gc)) 5))])), (ac (o + gc), .inl (kz (o + gc), 25, .inl (fz_4 (o + gc))))]) _ := va_P.app (hP.sub [9, 10, 11, 12, 13, 14, 15, 16, 17, 18, 19, 20, 21, 22] rfl) hPz
  have hDc : va_D A ([(au, .inr (0, [.int (nI nc), .int (nI np), .int (nI ne), .int st0, .ref q4, .ref q5, .ref q6, .ref q7, .ref q8, .ref q9, .ref q10, .ref q11, .ref q12, .ref q13, .ref q14, .ref q15, .ref q16])), (q4, .inl (k_f4, 8, .inl f4)), (q5, .inl (k_f5, 14, .inl (bN 7 q_f5))), (q6, .inl (k_f6, 14, .inl (bN 7 q_f6))), (q7, .inl (k_f7, 14, .inl f7)), (q8, .inl (k_f8, 22, .inl (bN 4 q_f8))), (q9, .inl (k_f9, 88, .inl (bN 2 q_f9))), (q10, .inl (k_f10, 88, .inl f10)), (q11, .inl (k_f11, 88, .inl f11)), (q12, .inl (k_f12, 88, .inl f12)), (q13, .inl (k_f13, 88, .inl f13)), (q14, .inl (k_f14, 4, .inl f14)), (q15, .inl (k_f15, 4, .inl f15)), (q16, .inl (k_f16, 4, .inl f16))] ++ [(az (o + gc), .inr (7, [.ref (ac (o + gc)), .int (nI (min (qs_3 (o + gc)) 5))])), (ac (o + gc), .inl (kz (o + gc), 25, .inl (fz_4 (o + gc))))]) := zp_cutD hD (by omega) [9, 10, 11, 12, 13, 14, 15, 16, 17, 18, 19, 20, 21, 22] (by decide) rfl
  have hKc : va_K (dC, dI) vwCl ([(k_f4, .boolean), (k_f5, .int), (k_f6, .int), (k_f7, .int), (k_f8, .int), (k_f9, .int), (k_f10, .int), (k_f11, .int), (k_f12, .int), (k_f13, .int), (k_f14, .int), (k_f15, .int), (k_f16, .int)] ++ [(kz (o + gc), .int)]) s := zp_K hK (by omega) [8, 9, 10, 11, 12, 13, 14, 15, 16, 17, 18, 19, 20] rfl
  have hFc := pu_free hDc hS hA
  refine va_calli (va_runV (As := [.ref (az (o + gc)), .int (nI a2)]) (rest := []) ⟨hx, hb, hml, hown, hts⟩ (c_C_0_opensIn_25 l dC dI _ au nc np ne st0 q4 q5 q6 q7 q8 q9 q10 q11 q12 q13 q14 q15 q16 k_f4 f4 k_f5 q_f5 k_f6 q_f6 k_f7 f7 k_f8 q_f8 k_f9 q_f9 k_f10 f10 k_f11 f11 k_f12 f12 k_f13 f13 k_f14 f14 k_f15 f15 k_f16 f16 (az (o + gc)) (ac (o + gc)) (min (qs_3 (o + gc)) 5) (kz (o + gc)) (fz_4 (o + gc)) a2 hnc hnp hne (hst0) (Nat.min_le_right _ _) ha2) (cwV 2 hts g_C_1_step_25_C_0_opensIn_25 rfl rfl rfl (by decide +kernel) ⟨Nat.le_of_ble_eq_true rfl, Nat.le_of_ble_eq_true rfl⟩) ⟨pu_bl, va_recv hK hP (ci := 0) (q0 := 9) rfl rfl, pu_in hPc hKc hDc⟩ rfl rfl hl.1 rfl (lv_room (Nat.le_of_ble_eq_true rfl)) eX1_step_26 ⟨Nat.le_of_ble_eq_true rfl, Nat.le_of_ble_eq_true rfl⟩) hS (fun q _ h => hFc q h) hFc (fun r_5 u t H1 locs ht hvm hw hB hz1 hk1 hS => ?_)
  obtain ⟨z_fz_6, ⟨hP1, -, hD1⟩⟩ := hB
  rw [ht] at hP1
  obtain ⟨qs_7, fz_8, hP, hD⟩ := zp_put (wr := [(au, .inr (0, [.int (nI nc), .int (nI np), .int (nI ne), .int st0, .ref q4, .ref q5, .ref q6, .ref q7, .ref q8, .ref q9, .ref q10, .ref q11, .ref q12, .ref q13, .ref q14, .ref q15, .ref q16])), (q4, .inl (k_f4, 8, .inl f4)), (q5, .inl (k_f5, 14, .inl (bN 7 q_f5))), (q6, .inl (k_f6, 14, .inl (bN 7 q_f6))), (q7, .inl (k_f7, 14, .inl f7)), (q8, .inl (k_f8, 22, .inl (bN 4 q_f8))), (q9, .inl (k_f9, 88, .inl (bN 2 q_f9))), (q10, .inl (k_f10, 88, .inl f10)), (q11, .inl (k_f11, 88, .inl f11)), (q12, .inl (k_f12, 88, .inl f12)), (q13, .inl (k_f13, 88, .inl f13)), (q14, .inl (k_f14, 4, .inl f14)), (q15, .inl (k_f15, 4, .inl f15)), (q16, .inl (k_f16, 4, .inl f16))]) (k := (o + gc)) hP hD (by omega) (fun q h => List.mem_append_left _ (pu_subm [9, 10, 11, 12, 13, 14, 15, 16, 17, 18, 19, 20, 21, 22] rfl q h)) hk1 (Nat.min_le_right _ _) hP1
  clear hP1 hD1 hFc
  clear hPc hDc hKc
  clear hk1 hz1 ht hvm
  generalize H1 = H at hP hS ⊢
  obtain ⟨u_9, hu_9, rfl⟩ := hw
  refine lv_if_ne (tgt := 33) hx hb eX1_step_29 (by decide) (fun c_10 => ?_) (fun c_10 => ?_)
  · have c_10 : ¬ u_9 = 0 := fun z => c_10 ((nI_eq (a := u_9) (b := 0) (Nat.lt_of_le_of_lt hu_9 (Nat.le_of_ble_eq_true rfl)) (Nat.le_of_ble_eq_true rfl)).mpr z)
    refine lv_aload_n hx hb eX1_step_33 rfl (lv_at hl 1 rfl) ?_
    refine lv_dup hx hb eX1_step_34 rfl ?_
    refine va_get (D := (dC, dI)) (ci := 1) (v := .int gx) (C := RX1) (T := TX1) (N := 18) hx hb hts hiX1 hown hK hP 0 rfl rfl 8 (by decide) v_13 (fun _ h9 => h9) rfl eX1_step_35 ?_
    refine lv_iconst (v := 1) hx hb eX1_step_38 (by decide) ?_
    refine lv_iload_n hx hb eX1_step_39 rfl (lv_at hl 4 rfl) ?_
    refine lv_ishl hx hb eX1_step_40 ?_
    refine lv_topi (fun y_11 ey_11 => ?_)
    refine lv_ior hx hb eX1_step_41 ?_
    refine lv_topi (fun y_12 ey_12 => ?_)
    refine va_put (D := (dC, dI)) (ci := 1) (v := .int y_12) (ty := .int) (C := RX1) (T := TX1) (N := 18) hx hb hts hiX1 tyX1 tyX1_ok nmX1 hown hK hP hD hS 0 rfl rfl 8 (by decide) v_13 (fun _ h9 => h9) rfl (by decide +kernel) rfl rfl (Nat.le_of_ble_eq_true rfl) eX1_step_42 (fun H locs hP hD hS => ?_)
    have hP : va_P (dC, dI) vwCl ((gt1__w g gz g1 g2 g3 g4 g5 (nI gc) (nI gfull) y_12 gway gav ggoal (nI gfound) 400 (nI gl) (nI gsz) g16 g17 k_fgz (zs o 401 az) k_fs1 (bN 7 q_fs1) k_fs2 fs2 k_fs3 fs3 k_fs4 fs4 k_fs5 fs5 k_fhi fhi k_flo flo au (nI nc) (nI np) (nI ne) st0 q4 q5 q6 q7 q8 q9 q10 q11 q12 q13 q14 q15 q16 k_f4 f4 k_f5 (bN 7 q_f5) k_f6 (bN 7 q_f6) k_f7 f7 k_f8 (bN 4 q_f8) k_f9 (bN 2 q_f9) k_f10 f10 k_f11 f11 k_f12 f12 k_f13 f13 k_f14 f14 k_f15 f15 k_f16 f16) ++ zp 5 25 N az ac kz qs_7 fz_8) H := hP
    have hD : va_D A ((gt1__w g gz g1 g2 g3 g4 g5 (nI gc) (nI gfull) y_12 gway gav ggoal (nI gfound) 400 (nI gl) (nI gsz) g16 g17 k_fgz (zs o 401 az) k_fs1 (bN 7 q_fs1) k_fs2 fs2 k_fs3 fs3 k_fs4 fs4 k_fs5 fs5 k_fhi fhi k_flo flo au (nI nc) (nI np) (nI ne) st0 q4 q5 q6 q7 q8 q9 q10 q11 q12 q13 q14 q15 q16 k_f4 f4 k_f5 (bN 7 q_f5) k_f6 (bN 7 q_f6) k_f7 f7 k_f8 (bN 4 q_f8) k_f9 (bN 2 q_f9) k_f10 f10 k_f11 f11 k_f12 f12 k_f13 f13 k_f14 f14 k_f15 f15 k_f16 f16) ++ zp 5 25 N az ac kz qs_7 fz_8) := hD
    refine lv_aload_n hx hb eX1_step_45 rfl (lv_at hl 2 rfl) ?_
    refine lv_aload hx hb eX1_step_46 (lv_at hl 0 rfl) ?_
    refine lv_iload_n hx hb eX1_step_48 rfl (lv_at hl 4 rfl) ?_
    have hPz := zp_cut (k := (o + gc)) hP (by omega)
    have hPc : va_P (dC, dI) vwCl ([(au, .inr (0, [.int (nI nc), .int (nI np), .int (nI ne), .int st0, .ref q4, .ref q5, .ref q6, .ref q7, .ref q8, .ref q9, .ref q10, .ref q11, .ref q12, .ref q13, .ref q14, .ref q15, .ref q16])), (q4, .inl (k_f4, 8, .inl f4)), (q5, .inl (k_f5, 14, .inl (bN 7 q_f5))), (q6, .inl (k_f6, 14, .inl (bN 7 q_f6))), (q7, .inl (k_f7, 14, .inl f7)), (q8, .inl (k_f8, 22, .inl (bN 4 q_f8))), (q9, .inl (k_f9, 88, .inl (bN 2 q_f9))), (q10, .inl (k_f10, 88, .inl f10)), (q11, .inl (k_f11, 88, .inl f11)), (q12, .inl (k_f12, 88, .inl f12)), (q13, .inl (k_f13, 88, .inl f13)), (q14, .inl (k_f14, 4, .inl f14)), (q15, .inl (k_f15, 4, .inl f15)), (q16, .inl (k_f16, 4, .inl f16))] ++ [(az (o + gc), .inr (7, [.ref (ac (o + gc)), .int (nI (min (qs_7 (o + gc)) 5))])), (ac (o + gc), .inl (kz (o + gc), 25, .inl (fz_8 (o + gc))))]) _ := va_P.app (hP.sub [9, 10, 11, 12, 13, 14, 15, 16, 17, 18, 19, 20, 21, 22] rfl) hPz
    have hDc : va_D A ([(au, .inr (0, [.int (nI nc), .int (nI np), .int (nI ne), .int st0, .ref q4, .ref q5, .ref q6, .ref q7, .ref q8, .ref q9, .ref q10, .ref q11, .ref q12, .ref q13, .ref q14, .ref q15, .ref q16])), (q4, .inl (k_f4, 8, .inl f4)), (q5, .inl (k_f5, 14, .inl (bN 7 q_f5))), (q6, .inl (k_f6, 14, .inl (bN 7 q_f6))), (q7, .inl (k_f7, 14, .inl f7)), (q8, .inl (k_f8, 22, .inl (bN 4 q_f8))), (q9, .inl (k_f9, 88, .inl (bN 2 q_f9))), (q10, .inl (k_f10, 88, .inl f10)), (q11, .inl (k_f11, 88, .inl f11)), (q12, .inl (k_f12, 88, .inl f12)), (q13, .inl (k_f13, 88, .inl f13)), (q14, .inl (k_f14, 4, .inl f14)), (q15, .inl (k_f15, 4, .inl f15)), (q16, .inl (k_f16, 4, .inl f16))] ++ [(az (o + gc), .inr (7, [.ref (ac (o + gc)), .int (nI (min (qs_7 (o + gc)) 5))])), (ac (o + gc), .inl (kz (o + gc), 25, .inl (fz_8 (o + gc))))]) := zp_cutD hD (by omega) [9, 10, 11, 12, 13, 14, 15, 16, 17, 18, 19, 20, 21, 22] (by decide) rfl
    have hKc : va_K (dC, dI) vwCl ([(k_f4, .boolean), (k_f5, .int), (k_f6, .int), (k_f7, .int), (k_f8, .int), (k_f9, .int), (k_f10, .int), (k_f11, .int), (k_f12, .int), (k_f13, .int), (k_f14, .int), (k_f15, .int), (k_f16, .int)] ++ [(kz (o + gc), .int)]) s := zp_K hK (by omega) [8, 9, 10, 11, 12, 13, 14, 15, 16, 17, 18, 19, 20] rfl
    have hFc := pu_free hDc hS hA
    refine va_callv (va_runV (As := [.ref (az (o + gc)), .int (nI a2)]) (rest := []) ⟨hx, hb, hml, hown, hts⟩ (c_C_0_setBackIn_25 l dC dI _ au nc np ne st0 q4 q5 q6 q7 q8 q9 q10 q11 q12 q13 q14 q15 q16 k_f4 f4 k_f5 q_f5 k_f6 q_f6 k_f7 f7 k_f8 q_f8 k_f9 q_f9 k_f10 f10 k_f11 f11 k_f12 f12 k_f13 f13 k_f14 f14 k_f15 f15 k_f16 f16 (az (o + gc)) (ac (o + gc)) (min (qs_7 (o + gc)) 5) (kz (o + gc)) (fz_8 (o + gc)) a2 hnc hnp hne (hst0) (Nat.min_le_right _ _) ha2) (cwV 2 hts g_C_1_step_25_C_0_setBackIn_25 rfl rfl rfl (by decide +kernel) ⟨Nat.le_of_ble_eq_true rfl, Nat.le_of_ble_eq_true rfl⟩) ⟨pu_bl, va_recv hK hP (ci := 0) (q0 := 9) rfl rfl, pu_in hPc hKc hDc⟩ rfl rfl hl.1 rfl (lv_room (Nat.le_of_ble_eq_true rfl)) eX1_step_49 ⟨Nat.le_of_ble_eq_true rfl, Nat.le_of_ble_eq_true rfl⟩) hS (fun q _ h => hFc q h) hFc (fun u t H1 locs ht hvm hw hB hz1 hk1 hS => ?_)
    obtain ⟨z_fz_14, ⟨hP1, -, hD1⟩⟩ := hB
    rw [ht] at hP1
    obtain ⟨qs_15, fz_16, hP, hD⟩ := zp_put (wr := [(au, .inr (0, [.int (nI nc), .int (nI np), .int (nI ne), .int st0, .ref q4, .ref q5, .ref q6, .ref q7, .ref q8, .ref q9, .ref q10, .ref q11, .ref q12, .ref q13, .ref q14, .ref q15, .ref q16])), (q4, .inl (k_f4, 8, .inl f4)), (q5, .inl (k_f5, 14, .inl (bN 7 q_f5))), (q6, .inl (k_f6, 14, .inl (bN 7 q_f6))), (q7, .inl (k_f7, 14, .inl f7)), (q8, .inl (k_f8, 22, .inl (bN 4 q_f8))), (q9, .inl (k_f9, 88, .inl (bN 2 q_f9))), (q10, .inl (k_f10, 88, .inl f10)), (q11, .inl (k_f11, 88, .inl f11)), (q12, .inl (k_f12, 88, .inl f12)), (q13, .inl (k_f13, 88, .inl f13)), (q14, .inl (k_f14, 4, .inl f14)), (q15, .inl (k_f15, 4, .inl f15)), (q16, .inl (k_f16, 4, .inl f16))]) (k := (o + gc)) hP hD (by omega) (fun q h => List.mem_append_left _ (pu_subm [9, 10, 11, 12, 13, 14, 15, 16, 17, 18, 19, 20, 21, 22] rfl q h)) hk1 (Nat.min_le_right _ _) hP1
    clear hP1 hD1 hFc
    clear hPc hDc hKc
    clear hk1 hz1 ht hvm
    generalize H1 = H at hP hS ⊢
    refine lv_aload_n hx hb eX1_step_52 rfl (lv_at hl 2 rfl) ?_
    refine va_get (D := (dC, dI)) (ci := 0) (v := .ref q6) (C := RX0) (T := TX0) (N := 17) hx hb hts hiX0 hown hK hP 9 rfl rfl 6 (by decide) v_18 (fun _ h9 => h9) rfl eX1_step_53 ?_
    refine lv_iload_n hx hb eX1_step_56 rfl (lv_at hl 4 rfl) ?_
    refine va_iald hx hb hK hP 12 10 rfl rfl (vp_in_nI (n := a2) (Nat.lt_of_le_of_lt ha2 (Nat.le_of_ble_eq_true rfl)) (Nat.le_of_ble_eq_true rfl)) eX1_step_57 ?_
    refine lv_topi (fun y_17 ey_17 => ?_)
    obtain ⟨u_18, hu_18, qu_18⟩ := bN_get 7 q_f6 (((nI a2) : Int32).toNatClampNeg)
    obtain rfl : y_17 = nI u_18 := ey_17.trans qu_18
    refine lv_istore (lv' := [(5, .int (nI u_18)), (4, .ref (az (o + gc))), (0, .ref g), (1, .ref au), (2, .int (nI a1)), (3, .int (nI a2))]) hx hb eX1_step_58 hl (by decide) rfl (fun ls hl => ?_)
    refine lv_aload_n hx hb eX1_step_60 rfl (lv_at hl 3 rfl) ?_
    refine lv_aload hx hb eX1_step_61 (lv_at hl 1 rfl) ?_
    refine lv_iload hx hb eX1_step_63 (lv_at hl 0 rfl) ?_
    have hPz := zp_cut (k := (o + gc)) hP (by omega)
    have hPc : va_P (dC, dI) vwCl ([(au, .inr (0, [.int (nI nc), .int (nI np), .int (nI ne), .int st0, .ref q4, .ref q5, .ref q6, .ref q7, .ref q8, .ref q9, .ref q10, .ref q11, .ref q12, .ref q13, .ref q14, .ref q15, .ref q16])), (q4, .inl (k_f4, 8, .inl f4)), (q5, .inl (k_f5, 14, .inl (bN 7 q_f5))), (q6, .inl (k_f6, 14, .inl (bN 7 q_f6))), (q7, .inl (k_f7, 14, .inl f7)), (q8, .inl (k_f8, 22, .inl (bN 4 q_f8))), (q9, .inl (k_f9, 88, .inl (bN 2 q_f9))), (q10, .inl (k_f10, 88, .inl f10)), (q11, .inl (k_f11, 88, .inl f11)), (q12, .inl (k_f12, 88, .inl f12)), (q13, .inl (k_f13, 88, .inl f13)), (q14, .inl (k_f14, 4, .inl f14)), (q15, .inl (k_f15, 4, .inl f15)), (q16, .inl (k_f16, 4, .inl f16))] ++ [(az (o + gc), .inr (7, [.ref (ac (o + gc)), .int (nI (min (qs_15 (o + gc)) 5))])), (ac (o + gc), .inl (kz (o + gc), 25, .inl (fz_16 (o + gc))))]) _ := va_P.app (hP.sub [9, 10, 11, 12, 13, 14, 15, 16, 17, 18, 19, 20, 21, 22] rfl) hPz
    have hDc : va_D A ([(au, .inr (0, [.int (nI nc), .int (nI np), .int (nI ne), .int st0, .ref q4, .ref q5, .ref q6, .ref q7, .ref q8, .ref q9, .ref q10, .ref q11, .ref q12, .ref q13, .ref q14, .ref q15, .ref q16])), (q4, .inl (k_f4, 8, .inl f4)), (q5, .inl (k_f5, 14, .inl (bN 7 q_f5))), (q6, .inl (k_f6, 14, .inl (bN 7 q_f6))), (q7, .inl (k_f7, 14, .inl f7)), (q8, .inl (k_f8, 22, .inl (bN 4 q_f8))), (q9, .inl (k_f9, 88, .inl (bN 2 q_f9))), (q10, .inl (k_f10, 88, .inl f10)), (q11, .inl (k_f11, 88, .inl f11)), (q12, .inl (k_f12, 88, .inl f12)), (q13, .inl (k_f13, 88, .inl f13)), (q14, .inl (k_f14, 4, .inl f14)), (q15, .inl (k_f15, 4, .inl f15)), (q16, .inl (k_f16, 4, .inl f16))] ++ [(az (o + gc), .inr (7, [.ref (ac (o + gc)), .int (nI (min (qs_15 (o + gc)) 5))])), (ac (o + gc), .inl (kz (o + gc), 25, .inl (fz_16 (o + gc))))]) := zp_cutD hD (by omega) [9, 10, 11, 12, 13, 14, 15, 16, 17, 18, 19, 20, 21, 22] (by decide) rfl
    have hKc : va_K (dC, dI) vwCl ([(k_f4, .boolean), (k_f5, .int), (k_f6, .int), (k_f7, .int), (k_f8, .int), (k_f9, .int), (k_f10, .int), (k_f11, .int), (k_f12, .int), (k_f13, .int), (k_f14, .int), (k_f15, .int), (k_f16, .int)] ++ [(kz (o + gc), .int)]) s := zp_K hK (by omega) [8, 9, 10, 11, 12, 13, 14, 15, 16, 17, 18, 19, 20] rfl
    have hFc := pu_free hDc hS hA
    refine va_callv (va_runV (As := [.ref (az (o + gc)), .int (nI u_18)]) (rest := []) ⟨hx, hb, hml, hown, hts⟩ (c_C_0_stayIn_25 l dC dI _ au nc np ne st0 q4 q5 q6 q7 q8 q9 q10 q11 q12 q13 q14 q15 q16 k_f4 f4 k_f5 q_f5 k_f6 q_f6 k_f7 f7 k_f8 q_f8 k_f9 q_f9 k_f10 f10 k_f11 f11 k_f12 f12 k_f13 f13 k_f14 f14 k_f15 f15 k_f16 f16 (az (o + gc)) (ac (o + gc)) (min (qs_15 (o + gc)) 5) (kz (o + gc)) (fz_16 (o + gc)) u_18 hnc hnp hne (hst0) (Nat.min_le_right _ _) hu_18) (cwV 2 hts g_C_1_step_25_C_0_stayIn_25 rfl rfl rfl (by decide +kernel) ⟨Nat.le_of_ble_eq_true rfl, Nat.le_of_ble_eq_true rfl⟩) ⟨pu_bl, va_recv hK hP (ci := 0) (q0 := 9) rfl rfl, pu_in hPc hKc hDc⟩ rfl rfl hl.1 rfl (lv_room (Nat.le_of_ble_eq_true rfl)) eX1_step_65 ⟨Nat.le_of_ble_eq_true rfl, Nat.le_of_ble_eq_true rfl⟩) hS (fun q _ h => hFc q h) hFc (fun u t H1 locs ht hvm hw hB hz1 hk1 hS => ?_)
    obtain ⟨z_fz_20, ⟨hP1, -, hD1⟩⟩ := hB
    rw [ht] at hP1
    obtain ⟨qs_21, fz_22, hP, hD⟩ := zp_put (wr := [(au, .inr (0, [.int (nI nc), .int (nI np), .int (nI ne), .int st0, .ref q4, .ref q5, .ref q6, .ref q7, .ref q8, .ref q9, .ref q10, .ref q11, .ref q12, .ref q13, .ref q14, .ref q15, .ref q16])), (q4, .inl (k_f4, 8, .inl f4)), (q5, .inl (k_f5, 14, .inl (bN 7 q_f5))), (q6, .inl (k_f6, 14, .inl (bN 7 q_f6))), (q7, .inl (k_f7, 14, .inl f7)), (q8, .inl (k_f8, 22, .inl (bN 4 q_f8))), (q9, .inl (k_f9, 88, .inl (bN 2 q_f9))), (q10, .inl (k_f10, 88, .inl f10)), (q11, .inl (k_f11, 88, .inl f11)), (q12, .inl (k_f12, 88, .inl f12)), (q13, .inl (k_f13, 88, .inl f13)), (q14, .inl (k_f14, 4, .inl f14)), (q15, .inl (k_f15, 4, .inl f15)), (q16, .inl (k_f16, 4, .inl f16))]) (k := (o + gc)) hP hD (by omega) (fun q h => List.mem_append_left _ (pu_subm [9, 10, 11, 12, 13, 14, 15, 16, 17, 18, 19, 20, 21, 22] rfl q h)) hk1 (Nat.min_le_right _ _) hP1
    clear hP1 hD1 hFc
    clear hPc hDc hKc
    clear hk1 hz1 ht hvm
    generalize H1 = H at hP hS ⊢
    refine lv_aload_n hx hb eX1_step_68 rfl (lv_at hl 2 rfl) ?_
    refine va_get (D := (dC, dI)) (ci := 1) (v := .int gway) (C := RX1) (T := TX1) (N := 18) hx hb hts hiX1 hown hK hP 0 rfl rfl 9 (by decide) v_23 (fun _ h9 => h9) rfl eX1_step_69 ?_
    refine pu_join (fun H locs ls st => ∃ (g_23 : Nat → Nat) (g_24 : Nat → Nat → Int32), st = [] ∧ va_P (dC, dI) vwCl ((gt1__w g gz g1 g2 g3 g4 g5 (nI gc) (nI gfull) y_12 gway gav ggoal (nI gfound) 400 (nI gl) (nI gsz) g16 g17 k_fgz (zs o 401 az) k_fs1 (bN 7 q_fs1) k_fs2 fs2 k_fs3 fs3 k_fs4 fs4 k_fs5 fs5 k_fhi fhi k_flo flo au (nI nc) (nI np) (nI ne) st0 q4 q5 q6 q7 q8 q9 q10 q11 q12 q13 q14 q15 q16 k_f4 f4 k_f5 (bN 7 q_f5) k_f6 (bN 7 q_f6) k_f7 f7 k_f8 (bN 4 q_f8) k_f9 (bN 2 q_f9) k_f10 f10 k_f11 f11 k_f12 f12 k_f13 f13 k_f14 f14 k_f15 f15 k_f16 f16) ++ zp 5 25 N az ac kz g_23 g_24) H ∧ va_D A ((gt1__w g gz g1 g2 g3 g4 g5 (nI gc) (nI gfull) y_12 gway gav ggoal (nI gfound) 400 (nI gl) (nI gsz) g16 g17 k_fgz (zs o 401 az) k_fs1 (bN 7 q_fs1) k_fs2 fs2 k_fs3 fs3 k_fs4 fs4 k_fs5 fs5 k_fhi fhi k_flo flo au (nI nc) (nI np) (nI ne) st0 q4 q5 q6 q7 q8 q9 q10 q11 q12 q13 q14 q15 q16 k_f4 f4 k_f5 (bN 7 q_f5) k_f6 (bN 7 q_f6) k_f7 f7 k_f8 (bN 4 q_f8) k_f9 (bN 2 q_f9) k_f10 f10 k_f11 f11 k_f12 f12 k_f13 f13 k_f14 f14 k_f15 f15 k_f16 f16) ++ zp 5 25 N az ac kz g_23 g_24) ∧ va_S A s.heap H locs ∧ lv_has ls 6 [(0, .ref g), (1, .ref au), (2, .int (nI a1)), (3, .int (nI a2)), (4, .ref (az (o + gc))), (5, .int (nI u_18))]) 88 ?_ (fun j_25 => ?_)
    · rintro H locs ls st ⟨g_23, g_24, rfl, hP, hD, hS, hl⟩
      refine lv_aload_n hx hb eX1_step_88 rfl (lv_at hl 0 rfl) ?_
      refine lv_aload hx hb eX1_step_89 (lv_at hl 4 rfl) ?_
      refine lv_iload hx hb eX1_step_91 (lv_at hl 5 rfl) ?_
      have hPc : va_P (dC, dI) vwCl ([(g, .inr (1, [.ref gz, .ref g1, .ref g2, .ref g3, .ref g4, .ref g5, .int (nI gc), .int (nI gfull), .int y_12, .int gway, .int gav, .int ggoal, .int (nI gfound), .int 400, .int (nI gl), .int (nI gsz), .ref g16, .ref g17])), (gz, .inl (k_fgz, 401, .inr (.inr (.inr (.inr (zs o 401 az)))))), (g1, .inl (k_fs1, 400, .inl (bN 7 q_fs1))), (g2, .inl (k_fs2, 400, .inl fs2)), (g3, .inl (k_fs3, 400, .inl fs3)), (g4, .inl (k_fs4, 400, .inl fs4)), (g5, .inl (k_fs5, 400, .inl fs5)), (g16, .inl (k_fhi, 5, .inl fhi)), (g17, .inl (k_flo, 5, .inl flo))] ++ zp 5 25 N az ac kz g_23 g_24) _ := hP.part [0, 1, 2, 3, 4, 5, 6, 7, 8] rfl
      have hDc : va_D A ([(g, .inr (1, [.ref gz, .ref g1, .ref g2, .ref g3, .ref g4, .ref g5, .int (nI gc), .int (nI gfull), .int y_12, .int gway, .int gav, .int ggoal, .int (nI gfound), .int 400, .int (nI gl), .int (nI gsz), .ref g16, .ref g17])), (gz, .inl (k_fgz, 401, .inr (.inr (.inr (.inr (zs o 401 az)))))), (g1, .inl (k_fs1, 400, .inl (bN 7 q_fs1))), (g2, .inl (k_fs2, 400, .inl fs2)), (g3, .inl (k_fs3, 400, .inl fs3)), (g4, .inl (k_fs4, 400, .inl fs4)), (g5, .inl (k_fs5, 400, .inl fs5)), (g16, .inl (k_fhi, 5, .inl fhi)), (g17, .inl (k_flo, 5, .inl flo))] ++ zp 5 25 N az ac kz g_23 g_24) := hD.part [0, 1, 2, 3, 4, 5, 6, 7, 8] (by decide) rfl
      have hKc : va_K (dC, dI) vwCl ([(k_fgz, .object RX7), (k_fs1, .int), (k_fs2, .int), (k_fs3, .int), (k_fs4, .int), (k_fs5, .int), (k_fhi, .int), (k_flo, .int)] ++ zt N kz) s := zk_part hK [0, 1, 2, 3, 4, 5, 6, 7] rfl
      refine va_calli (va_runV (As := [.ref (az (o + gc)), .int (nI u_18)]) (rest := []) ⟨hx, hb, hml, hown, hts⟩ (c_C_1_isKnown_25 l dC dI _ g gz g1 g2 g3 g4 g5 gc gfull y_12 gway gav ggoal gfound gl gsz g16 g17 k_fgz k_fs1 q_fs1 k_fs2 fs2 k_fs3 fs3 k_fs4 fs4 k_fs5 fs5 k_fhi fhi k_flo flo N o az ac kz g_23 g_24 (o + gc) u_18 hgc hgfull hgfound hgl hgsz (by omega) (by omega) hu_18 (by omega)) (cwV 2 hts g_C_1_step_25_C_1_isKnown_25 rfl rfl rfl (by decide +kernel) ⟨Nat.le_of_ble_eq_true rfl, Nat.le_of_ble_eq_true rfl⟩) ⟨pu_bl, va_recv hK hP (ci := 1) (q0 := 0) rfl rfl, pu_in hPc hKc hDc⟩ rfl rfl hl.1 rfl (lv_room (Nat.le_of_ble_eq_true rfl)) eX1_step_93 ⟨Nat.le_of_ble_eq_true rfl, Nat.le_of_ble_eq_true rfl⟩) hS (fun q _ h => pu_fr hS hA q h) (pu_fr hS hA) (fun r_26 u t H1 locs ht hvm hw hB hz1 hk1 hS => ?_)
      have hP := pu_keep hP hk1
      clear hPc hDc hKc
      clear hk1 hz1 ht hvm
      generalize H1 = H at hP hS ⊢
      obtain ⟨u_27, hu_27, rfl⟩ := hw
      refine lv_if_eq (tgt := 100) hx hb eX1_step_96 (by decide) (fun c_28 => ?_) (fun c_28 => ?_)
      · have c_28 : u_27 = 0 := (nI_eq (a := u_27) (b := 0) (Nat.lt_of_le_of_lt hu_27 (Nat.le_of_ble_eq_true rfl)) (Nat.le_of_ble_eq_true rfl)).mp c_28
        refine lv_aload_n hx hb eX1_step_100 rfl (lv_at hl 0 rfl) ?_
        refine va_get (D := (dC, dI)) (ci := 1) (v := .int (nI gc)) (C := RX1) (T := TX1) (N := 18) hx hb hts hiX1 hown hK hP 0 rfl rfl 6 (by decide) v_2 (fun _ h9 => h9) rfl eX1_step_101 ?_
        refine lv_aload_n hx hb eX1_step_104 rfl (lv_at hl 0 rfl) ?_
        refine va_get (D := (dC, dI)) (ci := 1) (v := .int 400) (C := RX1) (T := TX1) (N := 18) hx hb hts hiX1 hown hK hP 0 rfl rfl 13 (by decide) v_35 (fun _ h9 => h9) rfl eX1_step_105 ?_
        refine lv_icmp_ne (tgt := 117) hx hb eX1_step_108 (by decide) (fun c_29 => ?_) (fun c_29 => ?_)
        · have c_29 : ¬ gc = 400 := fun z => c_29 ((nI_eq (a := gc) (b := 400) (Nat.lt_of_le_of_lt hgc (Nat.le_of_ble_eq_true rfl)) (Nat.le_of_ble_eq_true rfl)).mpr z)
          refine lv_aload_n hx hb eX1_step_117 rfl (lv_at hl 0 rfl) ?_
          refine lv_iload hx hb eX1_step_118 (lv_at hl 5 rfl) ?_
          refine lv_iload_n hx hb eX1_step_120 rfl (lv_at hl 2 rfl) ?_
          refine lv_iload_n hx hb eX1_step_121 rfl (lv_at hl 3 rfl) ?_
          have hPc : va_P (dC, dI) vwCl ([(g, .inr (1, [.ref gz, .ref g1, .ref g2, .ref g3, .ref g4, .ref g5, .int (nI gc), .int (nI gfull), .int y_12, .int gway, .int gav, .int ggoal, .int (nI gfound), .int 400, .int (nI gl), .int (nI gsz), .ref g16, .ref g17])), (gz, .inl (k_fgz, 401, .inr (.inr (.inr (.inr (zs o 401 az)))))), (g1, .inl (k_fs1, 400, .inl (bN 7 q_fs1))), (g2, .inl (k_fs2, 400, .inl fs2)), (g3, .inl (k_fs3, 400, .inl fs3)), (g4, .inl (k_fs4, 400, .inl fs4)), (g5, .inl (k_fs5, 400, .inl fs5)), (g16, .inl (k_fhi, 5, .inl fhi)), (g17, .inl (k_flo, 5, .inl flo))] ++ zp 5 25 N az ac kz g_23 g_24) _ := hP.part [0, 1, 2, 3, 4, 5, 6, 7, 8] rfl
          have hDc : va_D A ([(g, .inr (1, [.ref gz, .ref g1, .ref g2, .ref g3, .ref g4, .ref g5, .int (nI gc), .int (nI gfull), .int y_12, .int gway, .int gav, .int ggoal, .int (nI gfound), .int 400, .int (nI gl), .int (nI gsz), .ref g16, .ref g17])), (gz, .inl (k_fgz, 401, .inr (.inr (.inr (.inr (zs o 401 az)))))), (g1, .inl (k_fs1, 400, .inl (bN 7 q_fs1))), (g2, .inl (k_fs2, 400, .inl fs2)), (g3, .inl (k_fs3, 400, .inl fs3)), (g4, .inl (k_fs4, 400, .inl fs4)), (g5, .inl (k_fs5, 400, .inl fs5)), (g16, .inl (k_fhi, 5, .inl fhi)), (g17, .inl (k_flo, 5, .inl flo))] ++ zp 5 25 N az ac kz g_23 g_24) := hD.part [0, 1, 2, 3, 4, 5, 6, 7, 8] (by decide) rfl
          have hKc : va_K (dC, dI) vwCl ([(k_fgz, .object RX7), (k_fs1, .int), (k_fs2, .int), (k_fs3, .int), (k_fs4, .int), (k_fs5, .int), (k_fhi, .int), (k_flo, .int)] ++ zt N kz) s := zk_part hK [0, 1, 2, 3, 4, 5, 6, 7] rfl
          have hFc := pu_free hDc hS hA
          refine va_callv (va_runV (As := [.int (nI u_18), .int (nI a1), .int (nI a2)]) (rest := []) ⟨hx, hb, hml, hown, hts⟩ (c_C_1_record1_25 l dC dI _ g gz g1 g2 g3 g4 g5 gc gfull y_12 gway gav ggoal gfound gl gsz g16 g17 k_fgz k_fs1 q_fs1 k_fs2 fs2 k_fs3 fs3 k_fs4 fs4 k_fs5 fs5 k_fhi fhi k_flo flo N o az ac kz g_23 g_24 u_18 a1 a2 (by omega) hgfull hgfound hgl hgsz (by omega) hu_18 ha1 ha2 (by first | assumption | exact gz_0) (by omega)) (cwV 3 hts g_C_1_step_25_C_1_record1_25 rfl rfl rfl (by decide +kernel) ⟨Nat.le_of_ble_eq_true rfl, Nat.le_of_ble_eq_true rfl⟩) ⟨pu_bl, va_recv hK hP (ci := 1) (q0 := 0) rfl rfl, pu_in hPc hKc hDc⟩ rfl rfl hl.1 rfl (lv_room (Nat.le_of_ble_eq_true rfl)) eX1_step_122 ⟨Nat.le_of_ble_eq_true rfl, Nat.le_of_ble_eq_true rfl⟩) hS (fun q _ h => hFc q h) hFc (fun u t H1 locs ht hvm hw hB hz1 hk1 hS => ?_)
          obtain ⟨z_fs1_31, z_fs2_32, z_fs3_33, z_fs4_34, z_fs5_35, z_gfound_36, ⟨hP1, -, hD1⟩, hz_gfound_36, xr_30_0⟩ := hB
          rw [ht] at hP1
          obtain ⟨hP, hD⟩ := pl_put (X' := (gt1__w g gz g1 g2 g3 g4 g5 (nI (gc + 1)) (nI gfull) y_12 gway gav ggoal (nI z_gfound_36) 400 (nI gl) (nI gsz) g16 g17 k_fgz (zs o 401 az) k_fs1 (bN 7 z_fs1_31) k_fs2 z_fs2_32 k_fs3 z_fs3_33 k_fs4 z_fs4_34 k_fs5 z_fs5_35 k_fhi fhi k_flo flo au (nI nc) (nI np) (nI ne) st0 q4 q5 q6 q7 q8 q9 q10 q11 q12 q13 q14 q15 q16 k_f4 f4 k_f5 (bN 7 q_f5) k_f6 (bN 7 q_f6) k_f7 f7 k_f8 (bN 4 q_f8) k_f9 (bN 2 q_f9) k_f10 f10 k_f11 f11 k_f12 f12 k_f13 f13 k_f14 f14 k_f15 f15 k_f16 f16)) (w1 := (gt0__w g gz g1 g2 g3 g4 g5 (nI (gc + 1)) (nI gfull) y_12 gway gav ggoal (nI z_gfound_36) 400 (nI gl) (nI gsz) g16 g17 k_fgz (zs o 401 az) k_fs1 (bN 7 z_fs1_31) k_fs2 z_fs2_32 k_fs3 z_fs3_33 k_fs4 z_fs4_34 k_fs5 z_fs5_35 k_fhi fhi k_flo flo)) hP hD [0, 1, 2, 3, 4, 5, 6, 7, 8] rfl hk1 hP1 rfl zp_f rfl
          clear hP1 hD1 hFc
          clear hPc hDc hKc
          clear hk1 hz1 ht hvm
          generalize H1 = H at hP hS ⊢
          exact W.vret hx hb hr (fun t ht hW => ⟨⟨(), rfl, trivial, ⟨z_fs1_31, z_fs2_32, z_fs3_33, z_fs4_34, z_fs5_35, z_gfound_36, (gc + 1), gfull, y_12, g_24, g_23, ⟨by rw [ht]; exact hP, va_K.moved hW.alike hK, hD⟩, hz_gfound_36, (by omega), hgfull, by first | assumption | exact gz_0, by omega⟩⟩, hS.F ht⟩) hS.2.2 eX1_step_125
        · have c_29 : gc = 400 := (nI_eq (a := gc) (b := 400) (Nat.lt_of_le_of_lt hgc (Nat.le_of_ble_eq_true rfl)) (Nat.le_of_ble_eq_true rfl)).mp c_29
          refine lv_aload_n hx hb eX1_step_111 rfl (lv_at hl 0 rfl) ?_
          refine lv_iconst (v := 1) hx hb eX1_step_112 (by decide) ?_
          refine va_put (D := (dC, dI)) (ci := 1) (v := .int 1) (ty := .boolean) (C := RX1) (T := TX1) (N := 18) hx hb hts hiX1 tyX1 tyX1_ok nmX1 hown hK hP hD hS 0 rfl rfl 7 (by decide) v_40 (fun _ h9 => h9) rfl (by decide +kernel) rfl rfl (Nat.le_of_ble_eq_true rfl) eX1_step_113 (fun H locs hP hD hS => ?_)
          have hP : va_P (dC, dI) vwCl ((gt1__w g gz g1 g2 g3 g4 g5 (nI gc) 1 y_12 gway gav ggoal (nI gfound) 400 (nI gl) (nI gsz) g16 g17 k_fgz (zs o 401 az) k_fs1 (bN 7 q_fs1) k_fs2 fs2 k_fs3 fs3 k_fs4 fs4 k_fs5 fs5 k_fhi fhi k_flo flo au (nI nc) (nI np) (nI ne) st0 q4 q5 q6 q7 q8 q9 q10 q11 q12 q13 q14 q15 q16 k_f4 f4 k_f5 (bN 7 q_f5) k_f6 (bN 7 q_f6) k_f7 f7 k_f8 (bN 4 q_f8) k_f9 (bN 2 q_f9) k_f10 f10 k_f11 f11 k_f12 f12 k_f13 f13 k_f14 f14 k_f15 f15 k_f16 f16) ++ zp 5 25 N az ac kz g_23 g_24) H := hP
          have hD : va_D A ((gt1__w g gz g1 g2 g3 g4 g5 (nI gc) 1 y_12 gway gav ggoal (nI gfound) 400 (nI gl) (nI gsz) g16 g17 k_fgz (zs o 401 az) k_fs1 (bN 7 q_fs1) k_fs2 fs2 k_fs3 fs3 k_fs4 fs4 k_fs5 fs5 k_fhi fhi k_flo flo au (nI nc) (nI np) (nI ne) st0 q4 q5 q6 q7 q8 q9 q10 q11 q12 q13 q14 q15 q16 k_f4 f4 k_f5 (bN 7 q_f5) k_f6 (bN 7 q_f6) k_f7 f7 k_f8 (bN 4 q_f8) k_f9 (bN 2 q_f9) k_f10 f10 k_f11 f11 k_f12 f12 k_f13 f13 k_f14 f14 k_f15 f15 k_f16 f16) ++ zp 5 25 N az ac kz g_23 g_24) := hD
          exact W.vret hx hb hr (fun t ht hW => ⟨⟨(), rfl, trivial, ⟨q_fs1, fs2, fs3, fs4, fs5, gfound, gc, 1, y_12, g_24, g_23, ⟨by rw [ht]; exact hP, va_K.moved hW.alike hK, hD⟩, hgfound, hgc, (Nat.le_of_ble_eq_true rfl), by first | assumption | exact gz_0, by omega⟩⟩, hS.F ht⟩) hS.2.2 eX1_step_116
      · have c_28 : ¬ u_27 = 0 := fun z => c_28 ((nI_eq (a := u_27) (b := 0) (Nat.lt_of_le_of_lt hu_27 (Nat.le_of_ble_eq_true rfl)) (Nat.le_of_ble_eq_true rfl)).mpr z)
        exact W.vret hx hb hr (fun t ht hW => ⟨⟨(), rfl, trivial, ⟨q_fs1, fs2, fs3, fs4, fs5, gfound, gc, gfull, y_12, g_24, g_23, ⟨by rw [ht]; exact hP, va_K.moved hW.alike hK, hD⟩, hgfound, hgc, hgfull, by first | assumption | exact gz_0, by omega⟩⟩, hS.F ht⟩) hS.2.2 eX1_step_99
    refine lv_if_eq (tgt := 88) hx hb eX1_step_72 (by decide) (fun c_37 => ?_) (fun c_37 => ?_)
    · exact j_25 _ _ _ _ ⟨qs_21, fz_22, rfl, hP, hD, hS, lv_sub hl [2, 3, 4, 5, 1, 0] rfl⟩
    · refine lv_aload hx hb eX1_step_75 (lv_at hl 1 rfl) ?_
      refine lv_aload_n hx hb eX1_step_77 rfl (lv_at hl 2 rfl) ?_
      refine va_get (D := (dC, dI)) (ci := 1) (v := .ref g16) (C := RX1) (T := TX1) (N := 18) hx hb hts hiX1 hown hK hP 0 rfl rfl 16 (by decide) v_24 (fun _ h9 => h9) rfl eX1_step_78 ?_
      refine lv_aload_n hx hb eX1_step_81 rfl (lv_at hl 2 rfl) ?_
      refine va_get (D := (dC, dI)) (ci := 1) (v := .ref g17) (C := RX1) (T := TX1) (N := 18) hx hb hts hiX1 hown hK hP 0 rfl rfl 17 (by decide) v_25 (fun _ h9 => h9) rfl eX1_step_82 ?_
      have hPz := zp_cut (k := (o + gc)) hP (by omega)
      have hPc : va_P (dC, dI) vwCl ([(g16, .inl (k_fhi, 5, .inl fhi)), (g17, .inl (k_flo, 5, .inl flo))] ++ [(az (o + gc), .inr (7, [.ref (ac (o + gc)), .int (nI (min (qs_21 (o + gc)) 5))])), (ac (o + gc), .inl (kz (o + gc), 25, .inl (fz_22 (o + gc))))]) _ := va_P.app (hP.sub [7, 8] rfl) hPz
      have hDc : va_D A ([(g16, .inl (k_fhi, 5, .inl fhi)), (g17, .inl (k_flo, 5, .inl flo))] ++ [(az (o + gc), .inr (7, [.ref (ac (o + gc)), .int (nI (min (qs_21 (o + gc)) 5))])), (ac (o + gc), .inl (kz (o + gc), 25, .inl (fz_22 (o + gc))))]) := zp_cutD hD (by omega) [7, 8] (by decide) rfl
      have hKc : va_K (dC, dI) vwCl ([(k_fhi, .int), (k_flo, .int)] ++ [(kz (o + gc), .int)]) s := zp_K hK (by omega) [6, 7] rfl
      have hFc := pu_free hDc hS hA
      refine va_callv (va_runV (As := [.ref g16, .ref g17]) (rest := []) ⟨hx, hb, hml, hown, hts⟩ (c_C_7_forget_25 l dC dI _ g16 k_fhi fhi g17 k_flo flo (az (o + gc)) (ac (o + gc)) (min (qs_21 (o + gc)) 5) (kz (o + gc)) (fz_22 (o + gc)) (Nat.min_le_right _ _)) (cwV 2 hts g_C_1_step_25_C_7_forget_25 rfl rfl rfl (by decide +kernel) ⟨Nat.le_of_ble_eq_true rfl, Nat.le_of_ble_eq_true rfl⟩) ⟨pu_bl, va_recv hK hPz (ci := 7) (q0 := 0) rfl rfl, pu_in hPc hKc hDc⟩ rfl rfl hl.1 rfl (lv_room (Nat.le_of_ble_eq_true rfl)) eX1_step_85 ⟨Nat.le_of_ble_eq_true rfl, Nat.le_of_ble_eq_true rfl⟩) hS (fun q _ h => hFc q h) hFc (fun u t H1 locs ht hvm hw hB hz1 hk1 hS => ?_)
      obtain ⟨z_fz_39, ⟨hP1, -, hD1⟩⟩ := hB
      rw [ht] at hP1
      obtain ⟨qs_40, fz_41, hP, hD⟩ := zp_put (wr := [(g16, .inl (k_fhi, 5, .inl fhi)), (g17, .inl (k_flo, 5, .inl flo))]) (k := (o + gc)) hP hD (by omega) (fun q h => List.mem_append_left _ (pu_subm [7, 8] rfl q h)) hk1 (Nat.min_le_right _ _) hP1
      clear hP1 hD1 hFc
      clear hPc hDc hKc
      clear hk1 hz1 ht hvm
      generalize H1 = H at hP hS ⊢
      exact j_25 _ _ _ _ ⟨qs_40, fz_41, rfl, hP, hD, hS, lv_sub hl [2, 3, 4, 5, 1, 0] rfl⟩
  · have c_10 : u_9 = 0 := (nI_eq (a := u_9) (b := 0) (Nat.lt_of_le_of_lt hu_9 (Nat.le_of_ble_eq_true rfl)) (Nat.le_of_ble_eq_true rfl)).mp c_10
    exact W.vret hx hb hr (fun t ht hW => ⟨⟨(), rfl, trivial, ⟨q_fs1, fs2, fs3, fs4, fs5, gfound, gc, gfull, gx, fz_8, qs_7, ⟨by rw [ht]; exact hP, va_K.moved hW.alike hK, hD⟩, hgfound, hgc, hgfull, by first | assumption | exact gz_0, by omega⟩⟩, hS.F ht⟩) hS.2.2 eX1_step_32
abbrev vs_C_1_grow_25 : List Cond := .code yX1_grow cX1_grow 4 none :: CM
theorem g_C_1_grow_25_C_1_step_25 : GoodIn vs_C_1_grow_25 (wsV RX1 121 RX1 yX1_step vs_C_1_step_25) := cm_gV cm_124 cm_125 cm_126 cm_113 cm_127
set_option maxHeartbeats 4000000 in
set_option maxRecDepth 100000 in
theorem c_C_1_grow_25 (l : Launch) (dC : Nat → ClassId) (dI : Nat → Nat → Nat) (sz : Nat) (g : Nat) (gz : Nat) (g1 : Nat) (g2 : Nat) (g3 : Nat) (g4 : Nat) (g5 : Nat) (gc : Nat) (gfull : Nat) (gx : Int32) (gway : Int32) (gav : Int32) (ggoal : Int32) (gfound : Nat) (gl : Nat) (gsz : Nat) (g16 : Nat) (g17 : Nat) (k_fgz : ClassId) (k_fs1 : ClassId) (q_fs1 : Nat → Nat) (k_fs2 : ClassId) (fs2 : Nat → Int32) (k_fs3 : ClassId) (fs3 : Nat → Int32) (k_fs4 : ClassId) (fs4 : Nat → Int32) (k_fs5 : ClassId) (fs5 : Nat → Int32) (k_fhi : ClassId) (fhi : Nat → Int32) (k_flo : ClassId) (flo : Nat → Int32) (au : Nat) (nc : Nat) (np : Nat) (ne : Nat) (st0 : Int32) (q4 : Nat) (q5 : Nat) (q6 : Nat) (q7 : Nat) (q8 : Nat) (q9 : Nat) (q10 : Nat) (q11 : Nat) (q12 : Nat) (q13 : Nat) (q14 : Nat) (q15 : Nat) (q16 : Nat) (k_f4 : ClassId) (f4 : Nat → Int32) (k_f5 : ClassId) (q_f5 : Nat → Nat) (k_f6 : ClassId) (q_f6 : Nat → Nat) (k_f7 : ClassId) (f7 : Nat → Int32) (k_f8 : ClassId) (q_f8 : Nat → Nat) (k_f9 : ClassId) (q_f9 : Nat → Nat) (k_f10 : ClassId) (f10 : Nat → Int32) (k_f11 : ClassId) (f11 : Nat → Int32) (k_f12 : ClassId) (f12 : Nat → Int32) (k_f13 : ClassId) (f13 : Nat → Int32) (k_f14 : ClassId) (f14 : Nat → Int32) (k_f15 : ClassId) (f15 : Nat → Int32) (k_f16 : ClassId) (f16 : Nat → Int32) (N : Nat) (o : Nat) (az ac : Nat → Nat) (kz : Nat → ClassId) (qs : Nat → Nat) (fz : Nat → Nat → Int32) (hgc : gc ≤ 400) (hgfull : gfull ≤ 1) (hgfound : gfound ≤ 1) (hgl : gl ≤ 1) (hgsz : gsz ≤ 5) (hnc : nc ≤ 3) (hnp : np ≤ 8) (hne : ne ≤ 14) (hst0 : pm1 7 st0) (hN : o + 401 ≤ N) (hq0 : gz_ok gc fs2 fs3 fs4) : Met l yX1_grow vs_C_1_grow_25 ({ frames := 4, cells := 0, slots := 0, locals := 102 }) (va_Pc [.ref g, .ref au] (pu_B (dC, dI) ((gt1__w g gz g1 g2 g3 g4 g5 (nI gc) (nI gfull) gx gway gav ggoal (nI gfound) 400 (nI gl) (nI gsz) g16 g17 k_fgz (zs o 401 az) k_fs1 (bN 7 q_fs1) k_fs2 fs2 k_fs3 fs3 k_fs4 fs4 k_fs5 fs5 k_fhi fhi k_flo flo au (nI nc) (nI np) (nI ne) st0 q4 q5 q6 q7 q8 q9 q10 q11 q12 q13 q14 q15 q16 k_f4 f4 k_f5 (bN 7 q_f5) k_f6 (bN 7 q_f6) k_f7 f7 k_f8 (bN 4 q_f8) k_f9 (bN 2 q_f9) k_f10 f10 k_f11 f11 k_f12 f12 k_f13 f13 k_f14 f14 k_f15 f15 k_f16 f16) ++ zp 5 25 N az ac kz qs fz) ((gt1__t k_fgz k_fs1 k_fs2 k_fs3 k_fs4 k_fs5 k_fhi k_flo k_f4 k_f5 k_f6 k_f7 k_f8 k_f9 k_f10 k_f11 k_f12 k_f13 k_f14 k_f15 k_f16) ++ zt N kz) sz)) (va_Qv (fun (_ : Unit) => True) (fun _ t => ∃ (z_fs1 : Nat → Nat) (z_fs2 : Nat → Int32) (z_fs3 : Nat → Int32) (z_fs4 : Nat → Int32) (z_fs5 : Nat → Int32) (z_gfound : Nat) (z_gc : Nat) (z_gfull : Nat) (z_gx : Int32) (z_fz : Nat → Nat → Int32) (z_qs : Nat → Nat), pu_E (dC, dI) ((gt1__w g gz g1 g2 g3 g4 g5 (nI z_gc) (nI z_gfull) z_gx gway gav ggoal (nI z_gfound) 400 (nI gl) (nI gsz) g16 g17 k_fgz (zs o 401 az) k_fs1 (bN 7 z_fs1) k_fs2 z_fs2 k_fs3 z_fs3 k_fs4 z_fs4 k_fs5 z_fs5 k_fhi fhi k_flo flo au (nI nc) (nI np) (nI ne) st0 q4 q5 q6 q7 q8 q9 q10 q11 q12 q13 q14 q15 q16 k_f4 f4 k_f5 (bN 7 q_f5) k_f6 (bN 7 q_f6) k_f7 f7 k_f8 (bN 4 q_f8) k_f9 (bN 2 q_f9) k_f10 f10 k_f11 f11 k_f12 f12 k_f13 f13 k_f14 f14 k_f15 f15 k_f16 f16) ++ zp 5 25 N az ac kz z_qs z_fz) ((gt1__t k_fgz k_fs1 k_fs2 k_fs3 k_fs4 k_fs5 k_fhi k_flo k_f4 k_f5 k_f6 k_f7 k_f8 k_f9 k_f10 k_f11 k_f12 k_f13 k_f14 k_f15 k_f16) ++ zt N kz) (va_A (((gt1__w g gz g1 g2 g3 g4 g5 (nI gc) (nI gfull) gx gway gav ggoal (nI gfound) 400 (nI gl) (nI gsz) g16 g17 k_fgz (zs o 401 az) k_fs1 (bN 7 q_fs1) k_fs2 fs2 k_fs3 fs3 k_fs4 fs4 k_fs5 fs5 k_fhi fhi k_flo flo au (nI nc) (nI np) (nI ne) st0 q4 q5 q6 q7 q8 q9 q10 q11 q12 q13 q14 q15 q16 k_f4 f4 k_f5 (bN 7 q_f5) k_f6 (bN 7 q_f6) k_f7 f7 k_f8 (bN 4 q_f8) k_f9 (bN 2 q_f9) k_f10 f10 k_f11 f11 k_f12 f12 k_f13 f13 k_f14 f14 k_f15 f15 k_f16 f16) ++ zp 5 25 N az ac kz qs fz)) sz) t ∧ (z_gfound ≤ 1) ∧ (z_gc ≤ 400) ∧ (z_gfull ≤ 1) ∧ (gz_ok z_gc z_fs2 z_fs3 z_fs4)) (va_A (((gt1__w g gz g1 g2 g3 g4 g5 (nI gc) (nI gfull) gx gway gav ggoal (nI gfound) 400 (nI gl) (nI gsz) g16 g17 k_fgz (zs o 401 az) k_fs1 (bN 7 q_fs1) k_fs2 fs2 k_fs3 fs3 k_fs4 fs4 k_fs5 fs5 k_fhi fhi k_flo flo au (nI nc) (nI np) (nI ne) st0 q4 q5 q6 q7 q8 q9 q10 q11 q12 q13 q14 q15 q16 k_f4 f4 k_f5 (bN 7 q_f5) k_f6 (bN 7 q_f6) k_f7 f7 k_f8 (bN 4 q_f8) k_f9 (bN 2 q_f9) k_f10 f10 k_f11 f11 k_f12 f12 k_f13 f13 k_f14 f14 k_f15 f15 k_f16 f16) ++ zp 5 25 N az ac kz qs fz)) sz)) 0 0 (va_A (((gt1__w g gz g1 g2 g3 g4 g5 (nI gc) (nI gfull) gx gway gav ggoal (nI gfound) 400 (nI gl) (nI gsz) g16 g17 k_fgz (zs o 401 az) k_fs1 (bN 7 q_fs1) k_fs2 fs2 k_fs3 fs3 k_fs4 fs4 k_fs5 fs5 k_fhi fhi k_flo flo au (nI nc) (nI np) (nI ne) st0 q4 q5 q6 q7 q8 q9 q10 q11 q12 q13 q14 q15 q16 k_f4 f4 k_f5 (bN 7 q_f5) k_f6 (bN 7 q_f6) k_f7 f7 k_f8 (bN 4 q_f8) k_f9 (bN 2 q_f9) k_f10 f10 k_f11 f11 k_f12 f12 k_f13 f13 k_f14 f14 k_f15 f15 k_f16 f16) ++ zp 5 25 N az ac kz qs fz)) sz) := by
  refine Met.ofW (cc := cX1_grow) (maxL := 4) (ret := none) (by decide) rfl ?_
  intro p e s m args below meth c s₁ B hml hv
  obtain ⟨rfl, rfl, hP, hK, hD0⟩ := hv
  have hx := B.exec
  have hb := B.bytes
  have hr := B.returns
  have hts := atoms_spec (ws := vs_C_1_grow_25) B.pre
  have v_1 := hts (.fieldLink RX1 79 "ClockReach$Graph" "count" "I") (List.mem_cons_of_mem _ cm_89)
  have v_2 := hts (.fieldLink RX1 62 "ClockReach$Graph" "found" "Z") (List.mem_cons_of_mem _ cm_81)
  have v_3 := hts (.fieldLink RX1 112 "ClockReach$Automaton" "edges" "I") (List.mem_cons_of_mem _ cm_121)
  have v_4 := hts (.fieldLink RX1 115 "ClockReach$Automaton" "sources" "[I") (List.mem_cons_of_mem _ cm_122)
  have v_5 := hts (.fieldLink RX1 24 "ClockReach$Graph" "sites" "[I") (List.mem_cons_of_mem _ cm_115)
  have v_6 := hts (.fieldLink RX1 118 "ClockReach$Automaton" "targets" "[I") (List.mem_cons_of_mem _ cm_123)
  have v_7 := hts (.fieldLink RX1 56 "ClockReach$Graph" "avoided" "I") (List.mem_cons_of_mem _ cm_79)
  have hown : s.vm.findClass RX1 = some m.cls := findClass_of_methodNamed B.named
  have hlocks := B.notSynchronized
  have hiX0 : ∀ w ∈ wsX00, w ∈ vs_C_1_grow_25 := fun _ h => List.mem_cons_of_mem _ (cm_X0 h)
  have hiX1 : ∀ w ∈ wsX10, w ∈ vs_C_1_grow_25 := fun _ h => List.mem_cons_of_mem _ (cm_X1 h)
  have hD := hD0.self (sz := s.heap.size)
  generalize hAe : va_A (((gt1__w g gz g1 g2 g3 g4 g5 (nI gc) (nI gfull) gx gway gav ggoal (nI gfound) 400 (nI gl) (nI gsz) g16 g17 k_fgz (zs o 401 az) k_fs1 (bN 7 q_fs1) k_fs2 fs2 k_fs3 fs3 k_fs4 fs4 k_fs5 fs5 k_fhi fhi k_flo flo au (nI nc) (nI np) (nI ne) st0 q4 q5 q6 q7 q8 q9 q10 q11 q12 q13 q14 q15 q16 k_f4 f4 k_f5 (bN 7 q_f5) k_f6 (bN 7 q_f6) k_f7 f7 k_f8 (bN 4 q_f8) k_f9 (bN 2 q_f9) k_f10 f10 k_f11 f11 k_f12 f12 k_f13 f13 k_f14 f14 k_f15 f15 k_f16 f16) ++ zp 5 25 N az ac kz qs fz)) s.heap.size = A at hD ⊢
  have hA : ∀ q : Nat, s.heap.size ≤ q → A q := fun q h => by rw [← hAe]; exact Or.inr h
  have hS : va_S A s.heap s.heap [] := va_S.rf
  have hl := lv_entry ([.ref g, .ref au]) (n := 4) (Nat.le_of_ble_eq_true rfl)
  rw [lg_entry_eq]
  generalize (lg_sl ([.ref g, .ref au]) ++ List.replicate (4 - (lg_sl ([.ref g, .ref au])).length) Slot.unset).toArray = ls at hl ⊢
  have hl : lv_has ls 4 [(0, .ref g), (1, .ref au)] := hl
  refine lv_iconst (v := 0) hx hb eX1_grow_0 (by decide) ?_
  refine lv_istore_n (lv' := [(2, .int 0), (0, .ref g), (1, .ref au)]) hx hb eX1_grow_1 rfl hl (by decide) rfl (fun ls hl => ?_)
  refine pu_while (fun nn H locs ls => ∃ (g_14 : Nat → Nat) (g_15 : Nat → Int32) (g_16 : Nat → Int32) (g_17 : Nat → Int32) (g_18 : Nat → Int32) (g_19 : Nat) (g_20 : Nat) (g_21 : Nat) (g_22 : Int32) (g_23 : Nat) (g_24 : Nat → Nat → Int32) (g_25 : Nat → Nat), nn = 400 - g_23 ∧ g_19 ≤ 1 ∧ g_20 ≤ 400 ∧ g_21 ≤ 1 ∧ g_23 ≤ 400 ∧ gz_ok g_20 g_15 g_16 g_17 ∧ va_P (dC, dI) vwCl ((gt1__w g gz g1 g2 g3 g4 g5 (nI g_20) (nI g_21) g_22 gway gav ggoal (nI g_19) 400 (nI gl) (nI gsz) g16 g17 k_fgz (zs o 401 az) k_fs1 (bN 7 g_14) k_fs2 g_15 k_fs3 g_16 k_fs4 g_17 k_fs5 g_18 k_fhi fhi k_flo flo au (nI nc) (nI np) (nI ne) st0 q4 q5 q6 q7 q8 q9 q10 q11 q12 q13 q14 q15 q16 k_f4 f4 k_f5 (bN 7 q_f5) k_f6 (bN 7 q_f6) k_f7 f7 k_f8 (bN 4 q_f8) k_f9 (bN 2 q_f9) k_f10 f10 k_f11 f11 k_f12 f12 k_f13 f13 k_f14 f14 k_f15 f15 k_f16 f16) ++ zp 5 25 N az ac kz g_25 g_24) H ∧ va_D A ((gt1__w g gz g1 g2 g3 g4 g5 (nI g_20) (nI g_21) g_22 gway gav ggoal (nI g_19) 400 (nI gl) (nI gsz) g16 g17 k_fgz (zs o 401 az) k_fs1 (bN 7 g_14) k_fs2 g_15 k_fs3 g_16 k_fs4 g_17 k_fs5 g_18 k_fhi fhi k_flo flo au (nI nc) (nI np) (nI ne) st0 q4 q5 q6 q7 q8 q9 q10 q11 q12 q13 q14 q15 q16 k_f4 f4 k_f5 (bN 7 q_f5) k_f6 (bN 7 q_f6) k_f7 f7 k_f8 (bN 4 q_f8) k_f9 (bN 2 q_f9) k_f10 f10 k_f11 f11 k_f12 f12 k_f13 f13 k_f14 f14 k_f15 f15 k_f16 f16) ++ zp 5 25 N az ac kz g_25 g_24) ∧ va_S A s.heap H locs ∧ lv_has ls 4 [(0, .ref g), (1, .ref au), (2, .int (nI g_23))]) 2 ?_ _ _ _ _ ⟨q_fs1, fs2, fs3, fs4, fs5, gfound, gc, gfull, gx, 0, fz, qs, rfl, hgfound, hgc, hgfull, (Nat.le_of_ble_eq_true rfl), by first | assumption | exact gz_0, hP, hD, hS, lv_sub hl [1, 2, 0] rfl⟩
  rintro nn ih_27 H locs ls ⟨g_14, g_15, g_16, g_17, g_18, g_19, g_20, g_21, g_22, g_23, g_24, g_25, rfl, hg_19, hg_20, hg_21, hg_23, he_26, hP, hD, hS, hl⟩
  refine lv_iload_n hx hb eX1_grow_2 rfl (lv_at hl 2 rfl) ?_
  refine lv_aload_n hx hb eX1_grow_3 rfl (lv_at hl 0 rfl) ?_
  refine va_get (D := (dC, dI)) (ci := 1) (v := .int (nI g_20)) (C := RX1) (T := TX1) (N := 18) hx hb hts hiX1 hown hK hP 0 rfl rfl 6 (by decide) v_1 (fun _ h9 => h9) rfl eX1_grow_4 ?_
  refine lv_icmp_ge (tgt := 81) hx hb eX1_grow_7 (by decide) (fun c_28 => ?_) (fun c_28 => ?_)
  · have c_28 : g_20 ≤ g_23 := (nI_leI (a := g_20) (b := g_23) (Nat.lt_of_le_of_lt hg_20 (Nat.le_of_ble_eq_true rfl)) (Nat.lt_of_le_of_lt hg_23 (Nat.le_of_ble_eq_true rfl))).mp c_28
    exact W.vret hx hb hr (fun t ht hW => ⟨⟨(), rfl, trivial, ⟨g_14, g_15, g_16, g_17, g_18, g_19, g_20, g_21, g_22, g_24, g_25, ⟨by rw [ht]; exact hP, va_K.moved hW.alike hK, hD⟩, hg_19, hg_20, hg_21, by first | assumption | exact gz_0⟩⟩, hS.F ht⟩) hS.2.2 eX1_grow_81
  · have c_28 : ¬ g_20 ≤ g_23 := fun z => c_28 ((nI_leI (a := g_20) (b := g_23) (Nat.lt_of_le_of_lt hg_20 (Nat.le_of_ble_eq_true rfl)) (Nat.lt_of_le_of_lt hg_23 (Nat.le_of_ble_eq_true rfl))).mpr z)
    refine lv_aload_n hx hb eX1_grow_10 rfl (lv_at hl 0 rfl) ?_
    refine va_get (D := (dC, dI)) (ci := 1) (v := .int (nI g_19)) (C := RX1) (T := TX1) (N := 18) hx hb hts hiX1 hown hK hP 0 rfl rfl 12 (by decide) v_2 (fun _ h9 => h9) rfl eX1_grow_11 ?_
    refine lv_if_ne (tgt := 81) hx hb eX1_grow_14 (by decide) (fun c_29 => ?_) (fun c_29 => ?_)
    · have c_29 : ¬ g_19 = 0 := fun z => c_29 ((nI_eq (a := g_19) (b := 0) (Nat.lt_of_le_of_lt hg_19 (Nat.le_of_ble_eq_true rfl)) (Nat.le_of_ble_eq_true rfl)).mpr z)
      exact W.vret hx hb hr (fun t ht hW => ⟨⟨(), rfl, trivial, ⟨g_14, g_15, g_16, g_17, g_18, g_19, g_20, g_21, g_22, g_24, g_25, ⟨by rw [ht]; exact hP, va_K.moved hW.alike hK, hD⟩, hg_19, hg_20, hg_21, by first | assumption | exact gz_0⟩⟩, hS.F ht⟩) hS.2.2 eX1_grow_81
    · have c_29 : g_19 = 0 := (nI_eq (a := g_19) (b := 0) (Nat.lt_of_le_of_lt hg_19 (Nat.le_of_ble_eq_true rfl)) (Nat.le_of_ble_eq_true rfl)).mp c_29
      refine lv_iconst (v := 0) hx hb eX1_grow_17 (by decide) ?_
      refine lv_istore_n (lv' := [(3, .int 0), (0, .ref g), (1, .ref au), (2, .int (nI g_23))]) hx hb eX1_grow_18 rfl hl (by decide) rfl (fun ls hl => ?_)
      refine pu_while (fun nn H locs ls => ∃ (g_44 : Nat → Nat) (g_45 : Nat → Int32) (g_46 : Nat → Int32) (g_47 : Nat → Int32) (g_48 : Nat → Int32) (g_49 : Nat) (g_50 : Nat) (g_51 : Nat) (g_52 : Int32) (g_53 : Nat) (g_54 : Nat → Nat → Int32) (g_55 : Nat → Nat), nn = 14 - g_53 ∧ g_49 ≤ 1 ∧ g_50 ≤ 400 ∧ g_51 ≤ 1 ∧ g_53 ≤ 14 ∧ gz_ok g_50 g_45 g_46 g_47 ∧ g_23 < g_50 ∧ va_P (dC, dI) vwCl ((gt1__w g gz g1 g2 g3 g4 g5 (nI g_50) (nI g_51) g_52 gway gav ggoal (nI g_49) 400 (nI gl) (nI gsz) g16 g17 k_fgz (zs o 401 az) k_fs1 (bN 7 g_44) k_fs2 g_45 k_fs3 g_46 k_fs4 g_47 k_fs5 g_48 k_fhi fhi k_flo flo au (nI nc) (nI np) (nI ne) st0 q4 q5 q6 q7 q8 q9 q10 q11 q12 q13 q14 q15 q16 k_f4 f4 k_f5 (bN 7 q_f5) k_f6 (bN 7 q_f6) k_f7 f7 k_f8 (bN 4 q_f8) k_f9 (bN 2 q_f9) k_f10 f10 k_f11 f11 k_f12 f12 k_f13 f13 k_f14 f14 k_f15 f15 k_f16 f16) ++ zp 5 25 N az ac kz g_55 g_54) H ∧ va_D A ((gt1__w g gz g1 g2 g3 g4 g5 (nI g_50) (nI g_51) g_52 gway gav ggoal (nI g_49) 400 (nI gl) (nI gsz) g16 g17 k_fgz (zs o 401 az) k_fs1 (bN 7 g_44) k_fs2 g_45 k_fs3 g_46 k_fs4 g_47 k_fs5 g_48 k_fhi fhi k_flo flo au (nI nc) (nI np) (nI ne) st0 q4 q5 q6 q7 q8 q9 q10 q11 q12 q13 q14 q15 q16 k_f4 f4 k_f5 (bN 7 q_f5) k_f6 (bN 7 q_f6) k_f7 f7 k_f8 (bN 4 q_f8) k_f9 (bN 2 q_f9) k_f10 f10 k_f11 f11 k_f12 f12 k_f13 f13 k_f14 f14 k_f15 f15 k_f16 f16) ++ zp 5 25 N az ac kz g_55 g_54) ∧ va_S A s.heap H locs ∧ lv_has ls 4 [(0, .ref g), (1, .ref au), (2, .int (nI g_23)), (3, .int (nI g_53))]) 19 ?_ _ _ _ _ ⟨g_14, g_15, g_16, g_17, g_18, g_19, g_20, g_21, g_22, 0, g_24, g_25, rfl, hg_19, hg_20, hg_21, (Nat.le_of_ble_eq_true rfl), by first | assumption | exact gz_0, by omega, hP, hD, hS, lv_sub hl [1, 2, 3, 0] rfl⟩
      rintro nn ih_58 H locs ls ⟨g_44, g_45, g_46, g_47, g_48, g_49, g_50, g_51, g_52, g_53, g_54, g_55, rfl, hg_49, hg_50, hg_51, hg_53, he_56, he_57, hP, hD, hS, hl⟩
      refine lv_iload_n hx hb eX1_grow_19 rfl (lv_at hl 3 rfl) ?_
      refine lv_aload_n hx hb eX1_grow_20 rfl (lv_at hl 1 rfl) ?_
      refine va_get (D := (dC, dI)) (ci := 0) (v := .int (nI ne)) (C := RX0) (T := TX0) (N := 17) hx hb hts hiX0 hown hK hP 9 rfl rfl 2 (by decide) v_3 (fun _ h9 => h9) rfl eX1_grow_21 ?_
      refine pu_join (fun H locs ls st => st = [] ∧ gz_ok g_50 g_45 g_46 g_47 ∧ g_23 < g_50 ∧ va_P (dC, dI) vwCl ((gt1__w g gz g1 g2 g3 g4 g5 (nI g_50) (nI g_51) g_52 gway gav ggoal (nI g_49) 400 (nI gl) (nI gsz) g16 g17 k_fgz (zs o 401 az) k_fs1 (bN 7 g_44) k_fs2 g_45 k_fs3 g_46 k_fs4 g_47 k_fs5 g_48 k_fhi fhi k_flo flo au (nI nc) (nI np) (nI ne) st0 q4 q5 q6 q7 q8 q9 q10 q11 q12 q13 q14 q15 q16 k_f4 f4 k_f5 (bN 7 q_f5) k_f6 (bN 7 q_f6) k_f7 f7 k_f8 (bN 4 q_f8) k_f9 (bN 2 q_f9) k_f10 f10 k_f11 f11 k_f12 f12 k_f13 f13 k_f14 f14 k_f15 f15 k_f16 f16) ++ zp 5 25 N az ac kz g_55 g_54) H ∧ va_D A ((gt1__w g gz g1 g2 g3 g4 g5 (nI g_50) (nI g_51) g_52 gway gav ggoal (nI g_49) 400 (nI gl) (nI gsz) g16 g17 k_fgz (zs o 401 az) k_fs1 (bN 7 g_44) k_fs2 g_45 k_fs3 g_46 k_fs4 g_47 k_fs5 g_48 k_fhi fhi k_flo flo au (nI nc) (nI np) (nI ne) st0 q4 q5 q6 q7 q8 q9 q10 q11 q12 q13 q14 q15 q16 k_f4 f4 k_f5 (bN 7 q_f5) k_f6 (bN 7 q_f6) k_f7 f7 k_f8 (bN 4 q_f8) k_f9 (bN 2 q_f9) k_f10 f10 k_f11 f11 k_f12 f12 k_f13 f13 k_f14 f14 k_f15 f15 k_f16 f16) ++ zp 5 25 N az ac kz g_55 g_54) ∧ va_S A s.heap H locs ∧ lv_has ls 4 [(0, .ref g), (1, .ref au), (2, .int (nI g_23)), (3, .int (nI g_53))]) 75 ?_ (fun j_61 => ?_)
      · rintro H locs ls st ⟨rfl, he_59, he_60, hP, hD, hS, hl⟩
        refine lv_iinc (v := (nI (g_23 + 1))) (lv' := [(2, .int (nI (g_23 + 1))), (0, .ref g), (1, .ref au), (3, .int (nI g_53))]) hx hb eX1_grow_75 hl (k := 2) rfl (nI_1 _) (by decide) rfl (fun ls hl => ?_)
        refine lv_goto (tgt := 2) hx hb eX1_grow_78 (by decide) ?_
        exact ih_27 (400 - (g_23 + 1)) (by omega) _ _ _ ⟨g_44, g_45, g_46, g_47, g_48, g_49, g_50, g_51, g_52, (g_23 + 1), g_54, g_55, rfl, hg_49, hg_50, hg_51, (by omega), by first | assumption | exact gz_0, hP, hD, hS, lv_sub hl [1, 2, 0] rfl⟩
      refine lv_icmp_ge (tgt := 75) hx hb eX1_grow_24 (by decide) (fun c_62 => ?_) (fun c_62 => ?_)
      · have c_62 : ne ≤ g_53 := (nI_leI (a := ne) (b := g_53) (Nat.lt_of_le_of_lt hne (Nat.le_of_ble_eq_true rfl)) (Nat.lt_of_le_of_lt hg_53 (Nat.le_of_ble_eq_true rfl))).mp c_62
        exact j_61 _ _ _ _ ⟨rfl, by first | assumption | exact gz_0, by omega, hP, hD, hS, lv_sub hl [0, 1, 2, 3] rfl⟩
      · have c_62 : ¬ ne ≤ g_53 := fun z => c_62 ((nI_leI (a := ne) (b := g_53) (Nat.lt_of_le_of_lt hne (Nat.le_of_ble_eq_true rfl)) (Nat.lt_of_le_of_lt hg_53 (Nat.le_of_ble_eq_true rfl))).mpr z)
        refine lv_aload_n hx hb eX1_grow_27 rfl (lv_at hl 0 rfl) ?_
        refine va_get (D := (dC, dI)) (ci := 1) (v := .int (nI g_49)) (C := RX1) (T := TX1) (N := 18) hx hb hts hiX1 hown hK hP 0 rfl rfl 12 (by decide) v_2 (fun _ h9 => h9) rfl eX1_grow_28 ?_
        refine lv_if_ne (tgt := 75) hx hb eX1_grow_31 (by decide) (fun c_63 => ?_) (fun c_63 => ?_)
        · have c_63 : ¬ g_49 = 0 := fun z => c_63 ((nI_eq (a := g_49) (b := 0) (Nat.lt_of_le_of_lt hg_49 (Nat.le_of_ble_eq_true rfl)) (Nat.le_of_ble_eq_true rfl)).mpr z)
          exact j_61 _ _ _ _ ⟨rfl, by first | assumption | exact gz_0, by omega, hP, hD, hS, lv_sub hl [0, 1, 2, 3] rfl⟩
        · have c_63 : g_49 = 0 := (nI_eq (a := g_49) (b := 0) (Nat.lt_of_le_of_lt hg_49 (Nat.le_of_ble_eq_true rfl)) (Nat.le_of_ble_eq_true rfl)).mp c_63
          refine lv_aload_n hx hb eX1_grow_34 rfl (lv_at hl 1 rfl) ?_
          refine va_get (D := (dC, dI)) (ci := 0) (v := .ref q5) (C := RX0) (T := TX0) (N := 17) hx hb hts hiX0 hown hK hP 9 rfl rfl 5 (by decide) v_4 (fun _ h9 => h9) rfl eX1_grow_35 ?_
          refine lv_iload_n hx hb eX1_grow_38 rfl (lv_at hl 3 rfl) ?_
          refine va_iald hx hb hK hP 11 9 rfl rfl (vp_in_nI (n := g_53) (by omega) (Nat.le_of_ble_eq_true rfl)) eX1_grow_39 ?_
          refine lv_topi (fun y_64 ey_64 => ?_)
          obtain ⟨u_65, hu_65, qu_65⟩ := bN_get 7 q_f5 (((nI g_53) : Int32).toNatClampNeg)
          obtain rfl : y_64 = nI u_65 := ey_64.trans qu_65
          refine lv_aload_n hx hb eX1_grow_40 rfl (lv_at hl 0 rfl) ?_
          refine va_get (D := (dC, dI)) (ci := 1) (v := .ref g1) (C := RX1) (T := TX1) (N := 18) hx hb hts hiX1 hown hK hP 0 rfl rfl 1 (by decide) v_5 (fun _ h9 => h9) rfl eX1_grow_41 ?_
          refine lv_iload_n hx hb eX1_grow_44 rfl (lv_at hl 2 rfl) ?_
          refine va_iald hx hb hK hP 2 1 rfl rfl (vp_in_nI (n := g_23) (by omega) (Nat.le_of_ble_eq_true rfl)) eX1_grow_45 ?_
          refine lv_topi (fun y_66 ey_66 => ?_)
          obtain ⟨u_67, hu_67, qu_67⟩ := bN_get 7 g_44 (((nI g_23) : Int32).toNatClampNeg)
          obtain rfl : y_66 = nI u_67 := ey_66.trans qu_67
          refine pu_join (fun H locs ls st => ∃ (g_68 : Nat) (g_69 : Nat) (g_70 : Int32) (g_71 : Nat) (g_72 : Nat → Nat) (g_73 : Nat → Int32) (g_74 : Nat → Int32) (g_75 : Nat → Int32) (g_76 : Nat → Int32) (g_77 : Nat → Nat) (g_78 : Nat → Nat → Int32), st = [] ∧ g_68 ≤ 400 ∧ g_69 ≤ 1 ∧ g_71 ≤ 1 ∧ gz_ok g_68 g_73 g_74 g_75 ∧ g_23 < g_68 ∧ va_P (dC, dI) vwCl ((gt1__w g gz g1 g2 g3 g4 g5 (nI g_68) (nI g_69) g_70 gway gav ggoal (nI g_71) 400 (nI gl) (nI gsz) g16 g17 k_fgz (zs o 401 az) k_fs1 (bN 7 g_72) k_fs2 g_73 k_fs3 g_74 k_fs4 g_75 k_fs5 g_76 k_fhi fhi k_flo flo au (nI nc) (nI np) (nI ne) st0 q4 q5 q6 q7 q8 q9 q10 q11 q12 q13 q14 q15 q16 k_f4 f4 k_f5 (bN 7 q_f5) k_f6 (bN 7 q_f6) k_f7 f7 k_f8 (bN 4 q_f8) k_f9 (bN 2 q_f9) k_f10 f10 k_f11 f11 k_f12 f12 k_f13 f13 k_f14 f14 k_f15 f15 k_f16 f16) ++ zp 5 25 N az ac kz g_77 g_78) H ∧ va_D A ((gt1__w g gz g1 g2 g3 g4 g5 (nI g_68) (nI g_69) g_70 gway gav ggoal (nI g_71) 400 (nI gl) (nI gsz) g16 g17 k_fgz (zs o 401 az) k_fs1 (bN 7 g_72) k_fs2 g_73 k_fs3 g_74 k_fs4 g_75 k_fs5 g_76 k_fhi fhi k_flo flo au (nI nc) (nI np) (nI ne) st0 q4 q5 q6 q7 q8 q9 q10 q11 q12 q13 q14 q15 q16 k_f4 f4 k_f5 (bN 7 q_f5) k_f6 (bN 7 q_f6) k_f7 f7 k_f8 (bN 4 q_f8) k_f9 (bN 2 q_f9) k_f10 f10 k_f11 f11 k_f12 f12 k_f13 f13 k_f14 f14 k_f15 f15 k_f16 f16) ++ zp 5 25 N az ac kz g_77 g_78) ∧ va_S A s.heap H locs ∧ lv_has ls 4 [(0, .ref g), (1, .ref au), (2, .int (nI g_23)), (3, .int (nI g_53))]) 69 ?_ (fun j_81 => ?_)
          · rintro H locs ls st ⟨g_68, g_69, g_70, g_71, g_72, g_73, g_74, g_75, g_76, g_77, g_78, rfl, hg_68, hg_69, hg_71, he_79, he_80, hP, hD, hS, hl⟩
            refine lv_iinc (v := (nI (g_53 + 1))) (lv' := [(3, .int (nI (g_53 + 1))), (0, .ref g), (1, .ref au), (2, .int (nI g_23))]) hx hb eX1_grow_69 hl (k := 3) rfl (nI_1 _) (by decide) rfl (fun ls hl => ?_)
            refine lv_goto (tgt := 19) hx hb eX1_grow_72 (by decide) ?_
            exact ih_58 (14 - (g_53 + 1)) (by omega) _ _ _ ⟨g_72, g_73, g_74, g_75, g_76, g_71, g_68, g_69, g_70, (g_53 + 1), g_78, g_77, rfl, hg_71, hg_68, hg_69, (by omega), by first | assumption | exact gz_0, by omega, hP, hD, hS, lv_sub hl [1, 2, 3, 0] rfl⟩
          refine lv_icmp_ne (tgt := 69) hx hb eX1_grow_46 (by decide) (fun c_82 => ?_) (fun c_82 => ?_)
          · have c_82 : ¬ u_65 = u_67 := fun z => c_82 ((nI_eq (a := u_65) (b := u_67) (Nat.lt_of_le_of_lt hu_65 (Nat.le_of_ble_eq_true rfl)) (Nat.lt_of_le_of_lt hu_67 (Nat.le_of_ble_eq_true rfl))).mpr z)
            exact j_81 _ _ _ _ ⟨g_50, g_51, g_52, g_49, g_44, g_45, g_46, g_47, g_48, g_55, g_54, rfl, hg_50, hg_51, hg_49, by first | assumption | exact gz_0, by omega, hP, hD, hS, lv_sub hl [0, 1, 2, 3] rfl⟩
          · have c_82 : u_65 = u_67 := (nI_eq (a := u_65) (b := u_67) (Nat.lt_of_le_of_lt hu_65 (Nat.le_of_ble_eq_true rfl)) (Nat.lt_of_le_of_lt hu_67 (Nat.le_of_ble_eq_true rfl))).mp c_82
            refine lv_aload_n hx hb eX1_grow_49 rfl (lv_at hl 1 rfl) ?_
            refine va_get (D := (dC, dI)) (ci := 0) (v := .ref q6) (C := RX0) (T := TX0) (N := 17) hx hb hts hiX0 hown hK hP 9 rfl rfl 6 (by decide) v_6 (fun _ h9 => h9) rfl eX1_grow_50 ?_
            refine lv_iload_n hx hb eX1_grow_53 rfl (lv_at hl 3 rfl) ?_
            refine va_iald hx hb hK hP 12 10 rfl rfl (vp_in_nI (n := g_53) (by omega) (Nat.le_of_ble_eq_true rfl)) eX1_grow_54 ?_
            refine lv_topi (fun y_83 ey_83 => ?_)
            obtain ⟨u_84, hu_84, qu_84⟩ := bN_get 7 q_f6 (((nI g_53) : Int32).toNatClampNeg)
            obtain rfl : y_83 = nI u_84 := ey_83.trans qu_84
            refine lv_aload_n hx hb eX1_grow_55 rfl (lv_at hl 0 rfl) ?_
            refine va_get (D := (dC, dI)) (ci := 1) (v := .int gav) (C := RX1) (T := TX1) (N := 18) hx hb hts hiX1 hown hK hP 0 rfl rfl 10 (by decide) v_7 (fun _ h9 => h9) rfl eX1_grow_56 ?_
            refine lv_icmp_eq (tgt := 69) hx hb eX1_grow_59 (by decide) (fun c_85 => ?_) (fun c_85 => ?_)
            · exact j_81 _ _ _ _ ⟨g_50, g_51, g_52, g_49, g_44, g_45, g_46, g_47, g_48, g_55, g_54, rfl, hg_50, hg_51, hg_49, by first | assumption | exact gz_0, by omega, hP, hD, hS, lv_sub hl [0, 1, 2, 3] rfl⟩
            · refine lv_aload_n hx hb eX1_grow_62 rfl (lv_at hl 0 rfl) ?_
              refine lv_aload_n hx hb eX1_grow_63 rfl (lv_at hl 1 rfl) ?_
              refine lv_iload_n hx hb eX1_grow_64 rfl (lv_at hl 2 rfl) ?_
              refine lv_iload_n hx hb eX1_grow_65 rfl (lv_at hl 3 rfl) ?_
              have hFc := pu_free hD hS hA
              refine va_callv (va_runV (As := [.ref au, .int (nI g_23), .int (nI g_53)]) (rest := []) ⟨hx, hb, hml, hown, hts⟩ (c_C_1_step_25 l dC dI _ g gz g1 g2 g3 g4 g5 g_50 g_51 g_52 gway gav ggoal g_49 gl gsz g16 g17 k_fgz k_fs1 g_44 k_fs2 g_45 k_fs3 g_46 k_fs4 g_47 k_fs5 g_48 k_fhi fhi k_flo flo au nc np ne st0 q4 q5 q6 q7 q8 q9 q10 q11 q12 q13 q14 q15 q16 k_f4 f4 k_f5 q_f5 k_f6 q_f6 k_f7 f7 k_f8 q_f8 k_f9 q_f9 k_f10 f10 k_f11 f11 k_f12 f12 k_f13 f13 k_f14 f14 k_f15 f15 k_f16 f16 N o az ac kz g_55 g_54 g_23 g_53 hg_50 hg_51 hg_49 hgl hgsz hnc hnp hne (hst0) (by omega) (by omega) (by omega) (by first | assumption | exact gz_0) (by omega)) (cwV 3 hts g_C_1_grow_25_C_1_step_25 rfl rfl rfl (by decide +kernel) ⟨Nat.le_of_ble_eq_true rfl, Nat.le_of_ble_eq_true rfl⟩) ⟨pu_bl, va_recv hK hP (ci := 1) (q0 := 0) rfl rfl, pu_in hP hK hD⟩ rfl rfl hl.1 rfl (lv_room (Nat.le_of_ble_eq_true rfl)) eX1_grow_66 ⟨Nat.le_of_ble_eq_true rfl, Nat.le_of_ble_eq_true rfl⟩) hS (fun q _ h => hFc q h) hFc (fun u t H1 locs ht hvm hw hB hz1 hk1 hS => ?_)
              obtain ⟨z_fs1_87, z_fs2_88, z_fs3_89, z_fs4_90, z_fs5_91, z_gfound_92, z_gc_93, z_gfull_94, z_gx_95, z_fz_96, z_qs_97, ⟨hP1, -, hD1⟩, hz_gfound_92, hz_gc_93, hz_gfull_94, xr_86_0, xr_86_1⟩ := hB
              rw [ht] at hP1
              have hP := hP1
              have hD := pu_all hFc hD1
              clear hP1 hD1 hFc
              clear hk1 hz1 ht hvm
              generalize H1 = H at hP hS ⊢
              exact j_81 _ _ _ _ ⟨z_gc_93, z_gfull_94, z_gx_95, z_gfound_92, z_fs1_87, z_fs2_88, z_fs3_89, z_fs4_90, z_fs5_91, z_qs_97, z_fz_96, rfl, hz_gc_93, hz_gfull_94, hz_gfound_92, by first | assumption | exact gz_0, by omega, hP, hD, hS, lv_sub hl [0, 1, 2, 3] rfl⟩
abbrev vs_C_1_loosestAt_25 : List Cond := .code yX1_loosestAt cX1_loosestAt 6 (some .int) :: CM
theorem g_C_1_loosestAt_25_C_7_cellOf_25 : GoodIn vs_C_1_loosestAt_25 (wsV RX1 149 RX7 yX7_cellOf vs_C_7_cellOf_25) := cm_gV cm_156 cm_157 cm_158 cm_45 cm_159
set_option maxHeartbeats 4000000 in
set_option maxRecDepth 100000 in
theorem c_C_1_loosestAt_25 (l : Launch) (dC : Nat → ClassId) (dI : Nat → Nat → Nat) (sz : Nat) (g : Nat) (gz : Nat) (g1 : Nat) (g2 : Nat) (g3 : Nat) (g4 : Nat) (g5 : Nat) (gc : Nat) (gfull : Nat) (gx : Int32) (gway : Int32) (gav : Int32) (ggoal : Int32) (gfound : Nat) (gl : Nat) (gsz : Nat) (g16 : Nat) (g17 : Nat) (k_fgz : ClassId) (k_fs1 : ClassId) (q_fs1 : Nat → Nat) (k_fs2 : ClassId) (fs2 : Nat → Int32) (k_fs3 : ClassId) (fs3 : Nat → Int32) (k_fs4 : ClassId) (fs4 : Nat → Int32) (k_fs5 : ClassId) (fs5 : Nat → Int32) (k_fhi : ClassId) (fhi : Nat → Int32) (k_flo : ClassId) (flo : Nat → Int32) (N : Nat) (o : Nat) (az ac : Nat → Nat) (kz : Nat → ClassId) (qs : Nat → Nat) (fz : Nat → Nat → Int32) (p0 : Int32) (a1 : Nat) (a2 : Nat) (hgc : gc ≤ 400) (hgfull : gfull ≤ 1) (hgfound : gfound ≤ 1) (hgl : gl ≤ 1) (hgsz : gsz ≤ 5) (hN : o + 401 ≤ N) (ha1 : a1 ≤ 4) (ha2 : a2 ≤ 4) : Met l yX1_loosestAt vs_C_1_loosestAt_25 ({ frames := 1, cells := 0, slots := 0, locals := 22 }) (va_Pc [.ref g, .int p0, .int (nI a1), .int (nI a2)] (pu_B (dC, dI) ((gt0__w g gz g1 g2 g3 g4 g5 (nI gc) (nI gfull) gx gway gav ggoal (nI gfound) 400 (nI gl) (nI gsz) g16 g17 k_fgz (zs o 401 az) k_fs1 (bN 7 q_fs1) k_fs2 fs2 k_fs3 fs3 k_fs4 fs4 k_fs5 fs5 k_fhi fhi k_flo flo) ++ zp 5 25 N az ac kz qs fz) ((gt0__t k_fgz k_fs1 k_fs2 k_fs3 k_fs4 k_fs5 k_fhi k_flo) ++ zt N kz) sz)) (va_Qi (fun (r : Int32) (_ : Unit) => True) (fun _ _ => True) (va_A [] sz)) 0 0 (va_A [] sz) := by
  refine Met.ofW (cc := cX1_loosestAt) (maxL := 6) (ret := (some .int)) (by decide) rfl ?_
  intro p e s m args below meth c s₁ B hml hv
  obtain ⟨rfl, rfl, hP, hK, hD0⟩ := hv
  have hx := B.exec
  have hb := B.bytes
  have hr := B.returns
  have hts := atoms_spec (ws := vs_C_1_loosestAt_25) B.pre
  have v_1 := hts (.constant RX1 148 (-2147483648)) (List.mem_cons_of_mem _ cm_154)
  have v_2 := hts (.fieldLink RX1 79 "ClockReach$Graph" "count" "I") (List.mem_cons_of_mem _ cm_89)
  have v_3 := hts (.fieldLink RX1 24 "ClockReach$Graph" "sites" "[I") (List.mem_cons_of_mem _ cm_115)
  have v_4 := hts (.fieldLink RX1 17 "ClockReach$Graph" "zones" "[LClockReach$Zone;") (List.mem_cons_of_mem _ cm_92)
  have v_10 := hts (.methodLink RX1 153 Lib.Math.max.name) (List.mem_cons_of_mem _ cm_155)
  have v_11 := hts (.static Lib.Math.max.name) (List.mem_cons_of_mem _ cm_36)
  have v_12 := hts (.initialized "java/lang/Math") (List.mem_cons_of_mem _ cm_37)
  have v_13 := hts (.code Lib.Math.max.name Lib.Math.max.code 2 (some .int)) (List.mem_cons_of_mem _ cm_38)
  have hown : s.vm.findClass RX1 = some m.cls := findClass_of_methodNamed B.named
  have hlocks := B.notSynchronized
  have hiX1 : ∀ w ∈ wsX10, w ∈ vs_C_1_loosestAt_25 := fun _ h => List.mem_cons_of_mem _ (cm_X1 h)
  have hD := hD0
  have hA : ∀ q : Nat, s.heap.size ≤ q → va_A [] s.heap.size q := fun _ h => Or.inr h
  have hS : va_S (va_A [] s.heap.size) s.heap s.heap [] := va_S.rf
  have hl := lv_entry ([.ref g, .int p0, .int (nI a1), .int (nI a2)]) (n := 6) (Nat.le_of_ble_eq_true rfl)
  rw [lg_entry_eq]
  generalize (lg_sl ([.ref g, .int p0, .int (nI a1), .int (nI a2)]) ++ List.replicate (6 - (lg_sl ([.ref g, .int p0, .int (nI a1), .int (nI a2)])).length) Slot.unset).toArray = ls at hl ⊢
  have hl : lv_has ls 6 [(0, .ref g), (1, .int p0), (2, .int (nI a1)), (3, .int (nI a2))] := hl
  refine lv_ldc hx hb hown v_1 eX1_loosestAt_0 ?_
  refine lv_istore (lv' := [(4, .int (-2147483648)), (0, .ref g), (1, .int p0), (2, .int (nI a1)), (3, .int (nI a2))]) hx hb eX1_loosestAt_2 hl (by decide) rfl (fun ls hl => ?_)
  refine lv_iconst (v := 0) hx hb eX1_loosestAt_4 (by decide) ?_
  refine lv_istore (lv' := [(5, .int 0), (4, .int (-2147483648)), (0, .ref g), (1, .int p0), (2, .int (nI a1)), (3, .int (nI a2))]) hx hb eX1_loosestAt_5 hl (by decide) rfl (fun ls hl => ?_)
  refine pu_while (fun nn H locs ls => ∃ (g_3 : Int32) (g_4 : Nat), nn = 400 - g_4 ∧ g_4 ≤ 400 ∧ va_P (dC, dI) vwCl ((gt0__w g gz g1 g2 g3 g4 g5 (nI gc) (nI gfull) gx gway gav ggoal (nI gfound) 400 (nI gl) (nI gsz) g16 g17 k_fgz (zs o 401 az) k_fs1 (bN 7 q_fs1) k_fs2 fs2 k_fs3 fs3 k_fs4 fs4 k_fs5 fs5 k_fhi fhi k_flo flo) ++ zp 5 25 N az ac kz qs fz) H ∧ va_D (fun _ => True) ((gt0__w g gz g1 g2 g3 g4 g5 (nI gc) (nI gfull) gx gway gav ggoal (nI gfound) 400 (nI gl) (nI gsz) g16 g17 k_fgz (zs o 401 az) k_fs1 (bN 7 q_fs1) k_fs2 fs2 k_fs3 fs3 k_fs4 fs4 k_fs5 fs5 k_fhi fhi k_flo flo) ++ zp 5 25 N az ac kz qs fz) ∧ va_S (va_A [] s.heap.size) s.heap H locs ∧ lv_has ls 6 [(0, .ref g), (1, .int p0), (2, .int (nI a1)), (3, .int (nI a2)), (4, .int g_3), (5, .int (nI g_4))]) 7 ?_ _ _ _ _ ⟨(-2147483648), 0, rfl, (Nat.le_of_ble_eq_true rfl), hP, hD, hS, lv_sub hl [2, 3, 4, 5, 1, 0] rfl⟩
  rintro nn ih_5 H locs ls ⟨g_3, g_4, rfl, hg_4, hP, hD, hS, hl⟩
  refine lv_iload hx hb eX1_loosestAt_7 (lv_at hl 5 rfl) ?_
  refine lv_aload_n hx hb eX1_loosestAt_9 rfl (lv_at hl 0 rfl) ?_
  refine va_get (D := (dC, dI)) (ci := 1) (v := .int (nI gc)) (C := RX1) (T := TX1) (N := 18) hx hb hts hiX1 hown hK hP 0 rfl rfl 6 (by decide) v_2 (fun _ h9 => h9) rfl eX1_loosestAt_10 ?_
  refine lv_icmp_ge (tgt := 52) hx hb eX1_loosestAt_13 (by decide) (fun c_6 => ?_) (fun c_6 => ?_)
  · have c_6 : gc ≤ g_4 := (nI_leI (a := gc) (b := g_4) (Nat.lt_of_le_of_lt hgc (Nat.le_of_ble_eq_true rfl)) (Nat.lt_of_le_of_lt hg_4 (Nat.le_of_ble_eq_true rfl))).mp c_6
    refine lv_iload hx hb eX1_loosestAt_52 (lv_at hl 4 rfl) ?_
    exact W.iret (v := g_3) hx hb hr (fun t ht hW => ⟨⟨g_3, (), rfl, trivial, trivial⟩, hS.F ht⟩) hS.2.2 eX1_loosestAt_54
  · have c_6 : ¬ gc ≤ g_4 := fun z => c_6 ((nI_leI (a := gc) (b := g_4) (Nat.lt_of_le_of_lt hgc (Nat.le_of_ble_eq_true rfl)) (Nat.lt_of_le_of_lt hg_4 (Nat.le_of_ble_eq_true rfl))).mpr z)
    refine lv_aload_n hx hb eX1_loosestAt_16 rfl (lv_at hl 0 rfl) ?_
    refine va_get (D := (dC, dI)) (ci := 1) (v := .ref g1) (C := RX1) (T := TX1) (N := 18) hx hb hts hiX1 hown hK hP 0 rfl rfl 1 (by decide) v_3 (fun _ h9 => h9) rfl eX1_loosestAt_17 ?_
    refine lv_iload hx hb eX1_loosestAt_20 (lv_at hl 5 rfl) ?_
    refine va_iald hx hb hK hP 2 1 rfl rfl (vp_in_nI (n := g_4) (by omega) (Nat.le_of_ble_eq_true rfl)) eX1_loosestAt_22 ?_
    refine lv_topi (fun y_7 ey_7 => ?_)
    obtain ⟨u_8, hu_8, qu_8⟩ := bN_get 7 q_fs1 (((nI g_4) : Int32).toNatClampNeg)
    obtain rfl : y_7 = nI u_8 := ey_7.trans qu_8
    refine lv_iload_n hx hb eX1_loosestAt_23 rfl (lv_at hl 1 rfl) ?_
    refine pu_join (fun H locs ls st => ∃ (g_9 : Int32), st = [] ∧ va_P (dC, dI) vwCl ((gt0__w g gz g1 g2 g3 g4 g5 (nI gc) (nI gfull) gx gway gav ggoal (nI gfound) 400 (nI gl) (nI gsz) g16 g17 k_fgz (zs o 401 az) k_fs1 (bN 7 q_fs1) k_fs2 fs2 k_fs3 fs3 k_fs4 fs4 k_fs5 fs5 k_fhi fhi k_flo flo) ++ zp 5 25 N az ac kz qs fz) H ∧ va_D (fun _ => True) ((gt0__w g gz g1 g2 g3 g4 g5 (nI gc) (nI gfull) gx gway gav ggoal (nI gfound) 400 (nI gl) (nI gsz) g16 g17 k_fgz (zs o 401 az) k_fs1 (bN 7 q_fs1) k_fs2 fs2 k_fs3 fs3 k_fs4 fs4 k_fs5 fs5 k_fhi fhi k_flo flo) ++ zp 5 25 N az ac kz qs fz) ∧ va_S (va_A [] s.heap.size) s.heap H locs ∧ lv_has ls 6 [(0, .ref g), (1, .int p0), (2, .int (nI a1)), (3, .int (nI a2)), (4, .int g_9), (5, .int (nI g_4))]) 46 ?_ (fun j_10 => ?_)
    · rintro H locs ls st ⟨g_9, rfl, hP, hD, hS, hl⟩
      refine lv_iinc (v := (nI (g_4 + 1))) (lv' := [(5, .int (nI (g_4 + 1))), (0, .ref g), (1, .int p0), (2, .int (nI a1)), (3, .int (nI a2)), (4, .int g_9)]) hx hb eX1_loosestAt_46 hl (k := 5) rfl (nI_1 _) (by decide) rfl (fun ls hl => ?_)
      refine lv_goto (tgt := 7) hx hb eX1_loosestAt_49 (by decide) ?_
      exact ih_5 (400 - (g_4 + 1)) (by omega) _ _ _ ⟨g_9, (g_4 + 1), rfl, (by omega), hP, hD, hS, lv_sub hl [1, 2, 3, 4, 5, 0] rfl⟩
    refine lv_icmp_ne (tgt := 46) hx hb eX1_loosestAt_24 (by decide) (fun c_11 => ?_) (fun c_11 => ?_)
    · exact j_10 _ _ _ _ ⟨g_3, rfl, hP, hD, hS, lv_sub hl [0, 1, 2, 3, 4, 5] rfl⟩
    · refine lv_iload hx hb eX1_loosestAt_27 (lv_at hl 4 rfl) ?_
      refine lv_aload_n hx hb eX1_loosestAt_29 rfl (lv_at hl 0 rfl) ?_
      refine va_get (D := (dC, dI)) (ci := 1) (v := .ref gz) (C := RX1) (T := TX1) (N := 18) hx hb hts hiX1 hown hK hP 0 rfl rfl 0 (by decide) v_4 (fun _ h9 => h9) rfl eX1_loosestAt_30 ?_
      refine lv_iload hx hb eX1_loosestAt_33 (lv_at hl 5 rfl) ?_
      refine va_aldq hx hb hK hP 1 0 rfl rfl (vp_in_nI (n := g_4) (Nat.lt_of_le_of_lt hg_4 (Nat.le_of_ble_eq_true rfl)) (Nat.le_of_ble_eq_true rfl)) eX1_loosestAt_35 ?_
      refine W.eq (g2 := F0 m 36 ls [.ref (az (o + g_4)), .int g_3]) (by rw [zs_get (Nat.lt_of_le_of_lt hg_4 (Nat.le_of_ble_eq_true rfl)) (by omega)]) ?_
      refine lv_iload_n hx hb eX1_loosestAt_36 rfl (lv_at hl 2 rfl) ?_
      refine lv_iload_n hx hb eX1_loosestAt_37 rfl (lv_at hl 3 rfl) ?_
      have hPz := zp_cut (k := (o + g_4)) hP (by omega)
      have hPc : va_P (dC, dI) vwCl ([] ++ [(az (o + g_4), .inr (7, [.ref (ac (o + g_4)), .int (nI (min (qs (o + g_4)) 5))])), (ac (o + g_4), .inl (kz (o + g_4), 25, .inl (fz (o + g_4))))]) _ := va_P.app (hP.sub [] rfl) hPz
      have hDc : va_D (fun _ => True) ([] ++ [(az (o + g_4), .inr (7, [.ref (ac (o + g_4)), .int (nI (min (qs (o + g_4)) 5))])), (ac (o + g_4), .inl (kz (o + g_4), 25, .inl (fz (o + g_4))))]) := zp_cutD hD (by omega) [] (by decide) rfl
      have hKc : va_K (dC, dI) vwCl ([] ++ [(kz (o + g_4), .int)]) s := zp_K hK (by omega) [] rfl
      refine va_calli (va_runV (As := [.int (nI a1), .int (nI a2)]) (rest := [.int g_3]) ⟨hx, hb, hml, hown, hts⟩ (c_C_7_cellOf_25 l dC dI _ (az (o + g_4)) (ac (o + g_4)) (min (qs (o + g_4)) 5) (kz (o + g_4)) (fz (o + g_4)) a1 a2 (Nat.min_le_right _ _) ha1 ha2) (cwV 2 hts g_C_1_loosestAt_25_C_7_cellOf_25 rfl rfl rfl (by decide +kernel) ⟨Nat.le_of_ble_eq_true rfl, Nat.le_of_ble_eq_true rfl⟩) ⟨pu_bl, va_recv hK hPz (ci := 7) (q0 := 0) rfl rfl, pu_in hPc hKc hDc⟩ rfl rfl hl.1 rfl (lv_room (Nat.le_of_ble_eq_true rfl)) eX1_loosestAt_38 ⟨Nat.le_of_ble_eq_true rfl, Nat.le_of_ble_eq_true rfl⟩) hS (fun q _ h => pu_fr hS hA q h) (pu_fr hS hA) (fun r_12 u t H1 locs ht hvm hw hB hz1 hk1 hS => ?_)
      have hP := pu_keep hP hk1
      clear hPc hDc hKc
      clear hk1 hz1 ht hvm
      generalize H1 = H at hP hS ⊢
      refine va_mmax hx hb (hml.trans hl.1.symm) hown v_10 v_11 v_12 v_13 (Nat.le_of_ble_eq_true rfl) (Nat.le_of_ble_eq_true rfl) (Nat.le_of_ble_eq_true rfl) (Nat.le_of_ble_eq_true rfl) eX1_loosestAt_41 ?_
      refine lv_topi (fun y_13 ey_13 => ?_)
      refine lv_istore (lv' := [(4, .int y_13), (0, .ref g), (1, .int p0), (2, .int (nI a1)), (3, .int (nI a2)), (5, .int (nI g_4))]) hx hb eX1_loosestAt_44 hl (by decide) rfl (fun ls hl => ?_)
      exact j_10 _ _ _ _ ⟨y_13, rfl, hP, hD, hS, lv_sub hl [1, 2, 3, 4, 0, 5] rfl⟩
