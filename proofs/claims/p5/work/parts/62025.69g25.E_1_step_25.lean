abbrev vs_E_1_step_25 : List Cond := .code yX1_step cX1_step 6 none :: CM
theorem g_E_1_step_25_E_7_copyOf_25 : GoodIn vs_E_1_step_25 (wsV RX1 125 RX7 yX7_copyOf vs_E_7_copyOf_25) := cm_gV cm_129 cm_130 cm_131 cm_45 cm_132
theorem g_E_1_step_25_E_0_opensIn_25 : GoodIn vs_E_1_step_25 (wsV RX1 129 RX0 yX0_opensIn vs_E_0_opensIn_25) := cm_gV cm_133 cm_134 cm_135 cm_19 cm_50
theorem g_E_1_step_25_E_0_setBackIn_25 : GoodIn vs_E_1_step_25 (wsV RX1 133 RX0 yX0_setBackIn vs_E_0_setBackIn_25) := cm_gV cm_136 cm_137 cm_138 cm_19 cm_56
theorem g_E_1_step_25_E_0_stayIn_25 : GoodIn vs_E_1_step_25 (wsV RX1 100 RX0 yX0_stayIn vs_E_0_stayIn_25) := cm_gV cm_99 cm_100 cm_101 cm_19 cm_61
theorem g_E_1_step_25_E_1_isKnown_25 : GoodIn vs_E_1_step_25 (wsV RX1 136 RX1 yX1_isKnown vs_E_1_isKnown_25) := cm_gV cm_139 cm_140 cm_141 cm_113 cm_142
theorem g_E_1_step_25_E_1_record1_25 : GoodIn vs_E_1_step_25 (wsV RX1 108 RX1 yX1_record vs_E_1_record1_25) := cm_gV cm_110 cm_111 cm_112 cm_113 cm_114
theorem g_E_1_step_25_E_7_forget_25 : GoodIn vs_E_1_step_25 (wsV RX1 104 RX7 yX7_forget vs_E_7_forget_25) := cm_gV cm_102 cm_103 cm_104 cm_45 cm_105
noncomputable def sp_E_1_step_25 (gc : Nat) (gfull : Nat) (gx : Int32) (gway : Int32) (ggoal : Int32) (gfound : Nat) (gl : Nat) (q_fs1 : Nat → Nat) (fs2 : Nat → Int32) (fs3 : Nat → Int32) (fs4 : Nat → Int32) (fs5 : Nat → Int32) (fhi : Nat → Int32) (flo : Nat → Int32) (nc : Nat) (f4 : Nat → Int32) (q_f6 : Nat → Nat) (f7 : Nat → Int32) (q_f8 : Nat → Nat) (q_f9 : Nat → Nat) (f12 : Nat → Int32) (f13 : Nat → Int32) (o : Nat) (qs : Nat → Nat) (fz : Nat → Nat → Int32) (a1 : Nat) (a2 : Nat) : (Nat → Nat) × (Nat → Int32) × (Nat → Int32) × (Nat → Int32) × (Nat → Int32) × Nat × Nat × Nat × Int32 × (Nat → Nat → Int32) × (Nat → Nat) := (slet (sp_E_7_copyOf_25 (min (qs (o + a1)) 5) (fz (o + a1)) (fz (o + gc))) (fun z_fz_2 => (slet (updN qs (o + gc) (min (qs (o + a1)) 5)) (fun qs_3 => (slet (updZ fz (o + gc) z_fz_2) (fun fz_4 => (slet (sp_E_0_opensIn_25 q_f6 f7 q_f8 q_f9 f12 f13 (min (qs_3 (o + gc)) 5) (fz_4 (o + gc)) a2) (fun (u_9, z_fz_6) => (slet (updZ fz_4 (o + gc) z_fz_6) (fun fz_8 => (if u_9 = 0 then (q_fs1, fs2, fs3, fs4, fs5, gfound, gc, gfull, gx, fz_8, qs_3) else (slet ((1 : Int32) <<< (((nI a2) : Int32) &&& 31)) (fun y_11 => (slet ((gx : Int32) ||| (y_11 : Int32)) (fun y_12 => (slet (sp_E_0_setBackIn_25 nc f7 (min (qs_3 (o + gc)) 5) (fz_8 (o + gc)) a2) (fun z_fz_14 => (slet (updZ fz_8 (o + gc) z_fz_14) (fun fz_16 => (slet (min (q_f6 a2) 7) (fun u_18 => (slet (sp_E_0_stayIn_25 f4 q_f8 q_f9 f12 f13 (min (qs_3 (o + gc)) 5) (fz_16 (o + gc)) u_18) (fun z_fz_20 => (slet (updZ fz_16 (o + gc) z_fz_20) (fun fz_22 => (slet (α := (Nat → Nat → Int32)) (if (gway : Int32) = 0 then fz_22 else (slet (sp_E_7_forget_25 fhi flo (min (qs_3 (o + gc)) 5) (fz_22 (o + gc))) (fun z_fz_40 => (slet (updZ fz_22 (o + gc) z_fz_40) (fun fz_42 => fz_42))))) (fun g_23 => (slet (sp_E_1_isKnown_25 gc gl q_fs1 o qs_3 g_23 (o + gc) u_18) (fun u_28 => (if u_28 = 0 then (if gc = 400 then (q_fs1, fs2, fs3, fs4, fs5, gfound, gc, 1, y_12, g_23, qs_3) else (slet (sp_E_1_record1_25 gc ggoal gfound q_fs1 fs2 fs3 fs4 fs5 u_18 a1 a2) (fun (z_fs1_32, z_fs2_33, z_fs3_34, z_fs4_35, z_fs5_36, z_gfound_37) => (z_fs1_32, z_fs2_33, z_fs3_34, z_fs4_35, z_fs5_36, z_gfound_37, (gc + 1), gfull, y_12, g_23, qs_3)))) else (q_fs1, fs2, fs3, fs4, fs5, gfound, gc, gfull, y_12, g_23, qs_3)))))))))))))))))))))))))))))))
set_option maxHeartbeats 4000000 in
set_option maxRecDepth 100000 in
theorem c_E_1_step_25 (l : Launch) (dC : Nat → ClassId) (dI : Nat → Nat → Nat) (sz : Nat) (g : Nat) (gz : Nat) (g1 : Nat) (g2 : Nat) (g3 : Nat) (g4 : Nat) (g5 : Nat) (gc : Nat) (gfull : Nat) (gx : Int32) (gway : Int32) (gav : Int32) (ggoal : Int32) (gfound : Nat) (gl : Nat) (gsz : Nat) (g16 : Nat) (g17 : Nat) (k_fgz : ClassId) (k_fs1 : ClassId) (q_fs1 : Nat → Nat) (k_fs2 : ClassId) (fs2 : Nat → Int32) (k_fs3 : ClassId) (fs3 : Nat → Int32) (k_fs4 : ClassId) (fs4 : Nat → Int32) (k_fs5 : ClassId) (fs5 : Nat → Int32) (k_fhi : ClassId) (fhi : Nat → Int32) (k_flo : ClassId) (flo : Nat → Int32) (au : Nat) (nc : Nat) (np : Nat) (ne : Nat) (st0 : Int32) (q4 : Nat) (q5 : Nat) (q6 : Nat) (q7 : Nat) (q8 : Nat) (q9 : Nat) (q10 : Nat) (q11 : Nat) (q12 : Nat) (q13 : Nat) (q14 : Nat) (q15 : Nat) (q16 : Nat) (k_f4 : ClassId) (f4 : Nat → Int32) (k_f5 : ClassId) (q_f5 : Nat → Nat) (k_f6 : ClassId) (q_f6 : Nat → Nat) (k_f7 : ClassId) (f7 : Nat → Int32) (k_f8 : ClassId) (q_f8 : Nat → Nat) (k_f9 : ClassId) (q_f9 : Nat → Nat) (k_f10 : ClassId) (f10 : Nat → Int32) (k_f11 : ClassId) (f11 : Nat → Int32) (k_f12 : ClassId) (f12 : Nat → Int32) (k_f13 : ClassId) (f13 : Nat → Int32) (k_f14 : ClassId) (f14 : Nat → Int32) (k_f15 : ClassId) (f15 : Nat → Int32) (k_f16 : ClassId) (f16 : Nat → Int32) (N : Nat) (o : Nat) (az ac : Nat → Nat) (kz : Nat → ClassId) (qs : Nat → Nat) (fz : Nat → Nat → Int32) (a1 : Nat) (a2 : Nat) (hgc : gc ≤ 400) (hgfull : gfull ≤ 1) (hgfound : gfound ≤ 1) (hgl : gl ≤ 1) (hgsz : gsz ≤ 5) (hnc : nc ≤ 3) (hnp : np ≤ 8) (hne : ne ≤ 14) (hst0 : pm1 7 st0) (hN : o + 401 ≤ N) (ha1 : a1 ≤ 399) (ha2 : a2 ≤ 13) (hq0 : gz_ok gc fs2 fs3 fs4) (hq1 : a1 < gc) : Met l yX1_step vs_E_1_step_25 ({ frames := 3, cells := 0, slots := 0, locals := 77 }) (va_Pc [.ref g, .ref au, .int (nI a1), .int (nI a2)] (pu_B (dC, dI) ((gt1__w g gz g1 g2 g3 g4 g5 (nI gc) (nI gfull) gx gway gav ggoal (nI gfound) 400 (nI gl) (nI gsz) g16 g17 k_fgz (zs o 401 az) k_fs1 (bN 7 q_fs1) k_fs2 fs2 k_fs3 fs3 k_fs4 fs4 k_fs5 fs5 k_fhi fhi k_flo flo au (nI nc) (nI np) (nI ne) st0 q4 q5 q6 q7 q8 q9 q10 q11 q12 q13 q14 q15 q16 k_f4 f4 k_f5 (bN 7 q_f5) k_f6 (bN 7 q_f6) k_f7 f7 k_f8 (bN 4 q_f8) k_f9 (bN 2 q_f9) k_f10 f10 k_f11 f11 k_f12 f12 k_f13 f13 k_f14 f14 k_f15 f15 k_f16 f16) ++ zp 5 25 N az ac kz qs fz) ((gt1__t k_fgz k_fs1 k_fs2 k_fs3 k_fs4 k_fs5 k_fhi k_flo k_f4 k_f5 k_f6 k_f7 k_f8 k_f9 k_f10 k_f11 k_f12 k_f13 k_f14 k_f15 k_f16) ++ zt N kz) sz)) (va_Qv (fun (_ : Unit) => True) (fun _ t => ∃ (z_fs1 : Nat → Nat) (z_fs2 : Nat → Int32) (z_fs3 : Nat → Int32) (z_fs4 : Nat → Int32) (z_fs5 : Nat → Int32) (z_gfound : Nat) (z_gc : Nat) (z_gfull : Nat) (z_gx : Int32) (z_fz : Nat → Nat → Int32) (z_qs : Nat → Nat), pu_E (dC, dI) ((gt1__w g gz g1 g2 g3 g4 g5 (nI z_gc) (nI z_gfull) z_gx gway gav ggoal (nI z_gfound) 400 (nI gl) (nI gsz) g16 g17 k_fgz (zs o 401 az) k_fs1 (bN 7 z_fs1) k_fs2 z_fs2 k_fs3 z_fs3 k_fs4 z_fs4 k_fs5 z_fs5 k_fhi fhi k_flo flo au (nI nc) (nI np) (nI ne) st0 q4 q5 q6 q7 q8 q9 q10 q11 q12 q13 q14 q15 q16 k_f4 f4 k_f5 (bN 7 q_f5) k_f6 (bN 7 q_f6) k_f7 f7 k_f8 (bN 4 q_f8) k_f9 (bN 2 q_f9) k_f10 f10 k_f11 f11 k_f12 f12 k_f13 f13 k_f14 f14 k_f15 f15 k_f16 f16) ++ zp 5 25 N az ac kz z_qs z_fz) ((gt1__t k_fgz k_fs1 k_fs2 k_fs3 k_fs4 k_fs5 k_fhi k_flo k_f4 k_f5 k_f6 k_f7 k_f8 k_f9 k_f10 k_f11 k_f12 k_f13 k_f14 k_f15 k_f16) ++ zt N kz) (va_A (((gt1__w g gz g1 g2 g3 g4 g5 (nI gc) (nI gfull) gx gway gav ggoal (nI gfound) 400 (nI gl) (nI gsz) g16 g17 k_fgz (zs o 401 az) k_fs1 (bN 7 q_fs1) k_fs2 fs2 k_fs3 fs3 k_fs4 fs4 k_fs5 fs5 k_fhi fhi k_flo flo au (nI nc) (nI np) (nI ne) st0 q4 q5 q6 q7 q8 q9 q10 q11 q12 q13 q14 q15 q16 k_f4 f4 k_f5 (bN 7 q_f5) k_f6 (bN 7 q_f6) k_f7 f7 k_f8 (bN 4 q_f8) k_f9 (bN 2 q_f9) k_f10 f10 k_f11 f11 k_f12 f12 k_f13 f13 k_f14 f14 k_f15 f15 k_f16 f16) ++ zp 5 25 N az ac kz qs fz)) sz) t ∧ (z_gfound ≤ 1) ∧ (z_gc ≤ 400) ∧ (z_gfull ≤ 1) ∧ (gz_ok z_gc z_fs2 z_fs3 z_fs4) ∧ (gc ≤ z_gc) ∧ ((z_fs1, z_fs2, z_fs3, z_fs4, z_fs5, z_gfound, z_gc, z_gfull, z_gx, z_fz, z_qs) = (sp_E_1_step_25 gc gfull gx gway ggoal gfound gl q_fs1 fs2 fs3 fs4 fs5 fhi flo nc f4 q_f6 f7 q_f8 q_f9 f12 f13 o qs fz a1 a2))) (va_A (((gt1__w g gz g1 g2 g3 g4 g5 (nI gc) (nI gfull) gx gway gav ggoal (nI gfound) 400 (nI gl) (nI gsz) g16 g17 k_fgz (zs o 401 az) k_fs1 (bN 7 q_fs1) k_fs2 fs2 k_fs3 fs3 k_fs4 fs4 k_fs5 fs5 k_fhi fhi k_flo flo au (nI nc) (nI np) (nI ne) st0 q4 q5 q6 q7 q8 q9 q10 q11 q12 q13 q14 q15 q16 k_f4 f4 k_f5 (bN 7 q_f5) k_f6 (bN 7 q_f6) k_f7 f7 k_f8 (bN 4 q_f8) k_f9 (bN 2 q_f9) k_f10 f10 k_f11 f11 k_f12 f12 k_f13 f13 k_f14 f14 k_f15 f15 k_f16 f16) ++ zp 5 25 N az ac kz qs fz)) sz)) 0 0 (va_A (((gt1__w g gz g1 g2 g3 g4 g5 (nI gc) (nI gfull) gx gway gav ggoal (nI gfound) 400 (nI gl) (nI gsz) g16 g17 k_fgz (zs o 401 az) k_fs1 (bN 7 q_fs1) k_fs2 fs2 k_fs3 fs3 k_fs4 fs4 k_fs5 fs5 k_fhi fhi k_flo flo au (nI nc) (nI np) (nI ne) st0 q4 q5 q6 q7 q8 q9 q10 q11 q12 q13 q14 q15 q16 k_f4 f4 k_f5 (bN 7 q_f5) k_f6 (bN 7 q_f6) k_f7 f7 k_f8 (bN 4 q_f8) k_f9 (bN 2 q_f9) k_f10 f10 k_f11 f11 k_f12 f12 k_f13 f13 k_f14 f14 k_f15 f15 k_f16 f16) ++ zp 5 25 N az ac kz qs fz)) sz) := by
  refine Met.ofW (cc := cX1_step) (maxL := 6) (ret := none) (by decide) rfl ?_
  intro p e s m args below meth c s₁ B hml hv
  obtain ⟨rfl, rfl, hP, hK, hD0⟩ := hv
  have hx := B.exec
  have hb := B.bytes
  have hr := B.returns
  have hts := atoms_spec (ws := vs_E_1_step_25) B.pre
  have v_1 := hts (.fieldLink RX1 17 "ClockReach$Graph" "zones" "[LClockReach$Zone;") (List.mem_cons_of_mem _ cm_92)
  have v_2 := hts (.fieldLink RX1 79 "ClockReach$Graph" "count" "I") (List.mem_cons_of_mem _ cm_89)
  have v_13 := hts (.fieldLink RX1 85 "ClockReach$Graph" "crossed" "I") (List.mem_cons_of_mem _ cm_91)
  have v_18 := hts (.fieldLink RX1 118 "ClockReach$Automaton" "targets" "[I") (List.mem_cons_of_mem _ cm_123)
  have v_23 := hts (.fieldLink RX1 46 "ClockReach$Graph" "way" "I") (List.mem_cons_of_mem _ cm_76)
  have v_24 := hts (.fieldLink RX1 40 "ClockReach$Graph" "high" "[I") (List.mem_cons_of_mem _ cm_83)
  have v_25 := hts (.fieldLink RX1 43 "ClockReach$Graph" "low" "[I") (List.mem_cons_of_mem _ cm_86)
  have v_35 := hts (.fieldLink RX1 9 "ClockReach$Graph" "most" "I") (List.mem_cons_of_mem _ cm_128)
  have v_40 := hts (.fieldLink RX1 82 "ClockReach$Graph" "full" "Z") (List.mem_cons_of_mem _ cm_90)
  have hown : s.vm.findClass RX1 = some m.cls := findClass_of_methodNamed B.named
  have hlocks := B.notSynchronized
  have hiX0 : ∀ w ∈ wsX00, w ∈ vs_E_1_step_25 := fun _ h => List.mem_cons_of_mem _ (cm_X0 h)
  have hiX1 : ∀ w ∈ wsX10, w ∈ vs_E_1_step_25 := fun _ h => List.mem_cons_of_mem _ (cm_X1 h)
  have hD := hD0.self (sz := s.heap.size)
  generalize hAe : va_A (((gt1__w g gz g1 g2 g3 g4 g5 (nI gc) (nI gfull) gx gway gav ggoal (nI gfound) 400 (nI gl) (nI gsz) g16 g17 k_fgz (zs o 401 az) k_fs1 (bN 7 q_fs1) k_fs2 fs2 k_fs3 fs3 k_fs4 fs4 k_fs5 fs5 k_fhi fhi k_flo flo au (nI nc) (nI np) (nI ne) st0 q4 q5 q6 q7 q8 q9 q10 q11 q12 q13 q14 q15 q16 k_f4 f4 k_f5 (bN 7 q_f5) k_f6 (bN 7 q_f6) k_f7 f7 k_f8 (bN 4 q_f8) k_f9 (bN 2 q_f9) k_f10 f10 k_f11 f11 k_f12 f12 k_f13 f13 k_f14 f14 k_f15 f15 k_f16 f16) ++ zp 5 25 N az ac kz qs fz)) s.heap.size = A at hD ⊢
  have hA : ∀ q : Nat, s.heap.size ≤ q → A q := fun q h => by rw [← hAe]; exact Or.inr h
  have hS : va_S A s.heap s.heap [] := va_S.rf
  have hl := lv_entry ([.ref g, .ref au, .int (nI a1), .int (nI a2)]) (n := 6) (Nat.le_of_ble_eq_true rfl)
  rw [lg_entry_eq]
  generalize (lg_sl ([.ref g, .ref au, .int (nI a1), .int (nI a2)]) ++ List.replicate (6 - (lg_sl ([.ref g, .ref au, .int (nI a1), .int (nI a2)])).length) Slot.unset).toArray = ls at hl ⊢
  have hl : lv_has ls 6 [(0, .ref g), (1, .ref au), (2, .int (nI a1)), (3, .int (nI a2))] := hl
  obtain ⟨RR, hRR⟩ : ∃ x, x = (sp_E_1_step_25 gc gfull gx gway ggoal gfound gl q_fs1 fs2 fs3 fs4 fs5 fhi flo nc f4 q_f6 f7 q_f8 q_f9 f12 f13 o qs fz a1 a2) := ⟨_, rfl⟩
  have hsp := hRR
  refine lv_aload_n hx hb eX1_step_0 rfl (lv_at hl 0 rfl) ?_
  refine va_get (D := (dC, dI)) (ci := 1) (v := .ref gz) (C := RX1) (T := TX1) (N := 18) hx hb hts hiX1 hown hK hP 0 rfl rfl 0 (by decide) v_1 (fun _ h9 => h9) rfl eX1_step_1 ?_
  refine lv_aload_n hx hb eX1_step_4 rfl (lv_at hl 0 rfl) ?_
  refine va_get (D := (dC, dI)) (ci := 1) (v := .int (nI gc)) (C := RX1) (T := TX1) (N := 18) hx hb hts hiX1 hown hK hP 0 rfl rfl 6 (by decide) v_2 (fun _ h9 => h9) rfl eX1_step_5 ?_
  refine va_aldq hx hb hK hP 1 0 rfl rfl (vp_in_nI (n := gc) (Nat.lt_of_le_of_lt hgc (Nat.le_of_ble_eq_true rfl)) (Nat.le_of_ble_eq_true rfl)) eX1_step_8 ?_
  refine W.eq (g2 := F0 m 9 ls [.ref (az (o + gc))]) (by rw [zs_get (Nat.lt_of_le_of_lt hgc (Nat.le_of_ble_eq_true rfl)) (by omega)]) ?_
  refine lv_astore (lv' := [(4, .ref (az (o + gc))), (0, .ref g), (1, .ref au), (2, .int (nI a1)), (3, .int (nI a2))]) hx hb eX1_step_9 hl (by decide) rfl (fun ls hl => ?_)
  refine lv_aload hx hb eX1_step_11 (lv_at hl 0 rfl) ?_
  refine lv_aload_n hx hb eX1_step_13 rfl (lv_at hl 1 rfl) ?_
  refine va_get (D := (dC, dI)) (ci := 1) (v := .ref gz) (C := RX1) (T := TX1) (N := 18) hx hb hts hiX1 hown hK hP 0 rfl rfl 0 (by decide) v_1 (fun _ h9 => h9) rfl eX1_step_14 ?_
  refine lv_iload_n hx hb eX1_step_17 rfl (lv_at hl 3 rfl) ?_
  refine va_aldq hx hb hK hP 1 0 rfl rfl (vp_in_nI (n := a1) (Nat.lt_of_le_of_lt ha1 (Nat.le_of_ble_eq_true rfl)) (Nat.le_of_ble_eq_true rfl)) eX1_step_18 ?_
  refine W.eq (g2 := F0 m 19 ls [.ref (az (o + a1)), .ref (az (o + gc))]) (by rw [zs_get (Nat.lt_of_le_of_lt ha1 (Nat.le_of_ble_eq_true rfl)) (by omega)]) ?_
  have hPz := zp_cut (k := (o + gc)) hP (by omega)
  have hPy := zp_cut (k := (o + a1)) hP (by omega)
  have hPc : va_P (dC, dI) vwCl ([(az (o + a1), .inr (7, [.ref (ac (o + a1)), .int (nI (min (qs (o + a1)) 5))])), (ac (o + a1), .inl (kz (o + a1), 25, .inl (fz (o + a1))))] ++ [(az (o + gc), .inr (7, [.ref (ac (o + gc)), .int (nI (min (qs (o + gc)) 5))])), (ac (o + gc), .inl (kz (o + gc), 25, .inl (fz (o + gc))))]) _ := va_P.app hPy hPz
  have hDc : va_D A ([(az (o + a1), .inr (7, [.ref (ac (o + a1)), .int (nI (min (qs (o + a1)) 5))])), (ac (o + a1), .inl (kz (o + a1), 25, .inl (fz (o + a1))))] ++ [(az (o + gc), .inr (7, [.ref (ac (o + gc)), .int (nI (min (qs (o + gc)) 5))])), (ac (o + gc), .inl (kz (o + gc), 25, .inl (fz (o + gc))))]) := zp_cutD2 hD (by omega) (by omega) (by omega)
  have hKc : va_K (dC, dI) vwCl [(kz (o + a1), .int), (kz (o + gc), .int)] s := zp_K2 hK (by omega) (by omega)
  have hFc := pu_free hDc hS hA
  refine va_callv (va_runV (As := [.ref (az (o + a1))]) (rest := []) ⟨hx, hb, hml, hown, hts⟩ (c_E_7_copyOf_25 l dC dI _ (az (o + a1)) (ac (o + a1)) (min (qs (o + a1)) 5) (kz (o + a1)) (fz (o + a1)) (az (o + gc)) (ac (o + gc)) (min (qs (o + gc)) 5) (kz (o + gc)) (fz (o + gc)) (Nat.min_le_right _ _) (Nat.min_le_right _ _)) (cwV 1 hts g_E_1_step_25_E_7_copyOf_25 rfl rfl rfl (by decide +kernel) ⟨Nat.le_of_ble_eq_true rfl, Nat.le_of_ble_eq_true rfl⟩) ⟨pu_bl, va_recv hK hPz (ci := 7) (q0 := 0) rfl rfl, pu_in hPc hKc hDc⟩ rfl rfl hl.1 rfl (lv_room (Nat.le_of_ble_eq_true rfl)) eX1_step_19 ⟨Nat.le_of_ble_eq_true rfl, Nat.le_of_ble_eq_true rfl⟩) hS (fun q _ h => hFc q h) hFc (fun u t H1 locs ht hvm hw hB hz1 hk1 hS => ?_)
  obtain ⟨z_fz_2, ⟨hP1, -, hD1⟩, xr_1_0⟩ := hB
  rw [ht] at hP1
  obtain ⟨hP, hD⟩ := zp_putx (wr := [(az (o + a1), .inr (7, [.ref (ac (o + a1)), .int (nI (min (qs (o + a1)) 5))])), (ac (o + a1), .inl (kz (o + a1), 25, .inl (fz (o + a1))))]) (k := (o + gc)) hP hD (by omega) (zp_two (by omega)) hk1 (Nat.min_le_right _ _) hP1
  obtain ⟨qs_3, xqs_3⟩ : ∃ q, q = updN qs (o + gc) (min (qs (o + a1)) 5) := ⟨_, rfl⟩
  rw [← xqs_3] at hP hD
  obtain ⟨fz_4, xfz_4⟩ : ∃ q, q = updZ fz (o + gc) z_fz_2 := ⟨_, rfl⟩
  rw [← xfz_4] at hP hD
  clear hP1 hD1 hFc
  clear hPc hDc hKc
  clear hk1 hz1 ht hvm
  generalize H1 = H at hP hS ⊢
  have hsp := hsp.trans (slet_eq xr_1_0)
  have hsp := hsp.trans (slet_eq xqs_3)
  have hsp := hsp.trans (slet_eq xfz_4)
  refine lv_aload_n hx hb eX1_step_22 rfl (lv_at hl 2 rfl) ?_
  refine lv_aload hx hb eX1_step_23 (lv_at hl 0 rfl) ?_
  refine lv_iload_n hx hb eX1_step_25 rfl (lv_at hl 4 rfl) ?_
  have hPz := zp_cut (k := (o + gc)) hP (by omega)
  have hPc : va_P (dC, dI) vwCl ([(au, .inr (0, [.int (nI nc), .int (nI np), .int (nI ne), .int st0, .ref q4, .ref q5, .ref q6, .ref q7, .ref q8, .ref q9, .ref q10, .ref q11, .ref q12, .ref q13, .ref q14, .ref q15, .ref q16])), (q4, .inl (k_f4, 8, .inl f4)), (q5, .inl (k_f5, 14, .inl (bN 7 q_f5))), (q6, .inl (k_f6, 14, .inl (bN 7 q_f6))), (q7, .inl (k_f7, 14, .inl f7)), (q8, .inl (k_f8, 22, .inl (bN 4 q_f8))), (q9, .inl (k_f9, 88, .inl (bN 2 q_f9))), (q10, .inl (k_f10, 88, .inl f10)), (q11, .inl (k_f11, 88, .inl f11)), (q12, .inl (k_f12, 88, .inl f12)), (q13, .inl (k_f13, 88, .inl f13)), (q14, .inl (k_f14, 4, .inl f14)), (q15, .inl (k_f15, 4, .inl f15)), (q16, .inl (k_f16, 4, .inl f16))] ++ [(az (o + gc), .inr (7, [.ref (ac (o + gc)), .int (nI (min (qs_3 (o + gc)) 5))])), (ac (o + gc), .inl (kz (o + gc), 25, .inl (fz_4 (o + gc))))]) _ := va_P.app (hP.sub [9, 10, 11, 12, 13, 14, 15, 16, 17, 18, 19, 20, 21, 22] rfl) hPz
  have hDc : va_D A ([(au, .inr (0, [.int (nI nc), .int (nI np), .int (nI ne), .int st0, .ref q4, .ref q5, .ref q6, .ref q7, .ref q8, .ref q9, .ref q10, .ref q11, .ref q12, .ref q13, .ref q14, .ref q15, .ref q16])), (q4, .inl (k_f4, 8, .inl f4)), (q5, .inl (k_f5, 14, .inl (bN 7 q_f5))), (q6, .inl (k_f6, 14, .inl (bN 7 q_f6))), (q7, .inl (k_f7, 14, .inl f7)), (q8, .inl (k_f8, 22, .inl (bN 4 q_f8))), (q9, .inl (k_f9, 88, .inl (bN 2 q_f9))), (q10, .inl (k_f10, 88, .inl f10)), (q11, .inl (k_f11, 88, .inl f11)), (q12, .inl (k_f12, 88, .inl f12)), (q13, .inl (k_f13, 88, .inl f13)), (q14, .inl (k_f14, 4, .inl f14)), (q15, .inl (k_f15, 4, .inl f15)), (q16, .inl (k_f16, 4, .inl f16))] ++ [(az (o + gc), .inr (7, [.ref (ac (o + gc)), .int (nI (min (qs_3 (o + gc)) 5))])), (ac (o + gc), .inl (kz (o + gc), 25, .inl (fz_4 (o + gc))))]) := zp_cutD hD (by omega) [9, 10, 11, 12, 13, 14, 15, 16, 17, 18, 19, 20, 21, 22] (by decide) rfl
  have hKc : va_K (dC, dI) vwCl ([(k_f4, .boolean), (k_f5, .int), (k_f6, .int), (k_f7, .int), (k_f8, .int), (k_f9, .int), (k_f10, .int), (k_f11, .int), (k_f12, .int), (k_f13, .int), (k_f14, .int), (k_f15, .int), (k_f16, .int)] ++ [(kz (o + gc), .int)]) s := zp_K hK (by omega) [8, 9, 10, 11, 12, 13, 14, 15, 16, 17, 18, 19, 20] rfl
  have hFc := pu_free hDc hS hA
  refine va_calli (va_runV (As := [.ref (az (o + gc)), .int (nI a2)]) (rest := []) ⟨hx, hb, hml, hown, hts⟩ (c_E_0_opensIn_25 l dC dI _ au nc np ne st0 q4 q5 q6 q7 q8 q9 q10 q11 q12 q13 q14 q15 q16 k_f4 f4 k_f5 q_f5 k_f6 q_f6 k_f7 f7 k_f8 q_f8 k_f9 q_f9 k_f10 f10 k_f11 f11 k_f12 f12 k_f13 f13 k_f14 f14 k_f15 f15 k_f16 f16 (az (o + gc)) (ac (o + gc)) (min (qs_3 (o + gc)) 5) (kz (o + gc)) (fz_4 (o + gc)) a2 hnc hnp hne (hst0) (Nat.min_le_right _ _) ha2) (cwV 2 hts g_E_1_step_25_E_0_opensIn_25 rfl rfl rfl (by decide +kernel) ⟨Nat.le_of_ble_eq_true rfl, Nat.le_of_ble_eq_true rfl⟩) ⟨pu_bl, va_recv hK hP (ci := 0) (q0 := 9) rfl rfl, pu_in hPc hKc hDc⟩ rfl rfl hl.1 rfl (lv_room (Nat.le_of_ble_eq_true rfl)) eX1_step_26 ⟨Nat.le_of_ble_eq_true rfl, Nat.le_of_ble_eq_true rfl⟩) hS (fun q _ h => hFc q h) hFc (fun r_5 u t H1 locs ht hvm hw hB hz1 hk1 hS => ?_)
  obtain ⟨z_fz_6, ⟨hP1, -, hD1⟩, xr_5_0⟩ := hB
  rw [ht] at hP1
  obtain ⟨hP, hD⟩ := zp_putx (wr := [(au, .inr (0, [.int (nI nc), .int (nI np), .int (nI ne), .int st0, .ref q4, .ref q5, .ref q6, .ref q7, .ref q8, .ref q9, .ref q10, .ref q11, .ref q12, .ref q13, .ref q14, .ref q15, .ref q16])), (q4, .inl (k_f4, 8, .inl f4)), (q5, .inl (k_f5, 14, .inl (bN 7 q_f5))), (q6, .inl (k_f6, 14, .inl (bN 7 q_f6))), (q7, .inl (k_f7, 14, .inl f7)), (q8, .inl (k_f8, 22, .inl (bN 4 q_f8))), (q9, .inl (k_f9, 88, .inl (bN 2 q_f9))), (q10, .inl (k_f10, 88, .inl f10)), (q11, .inl (k_f11, 88, .inl f11)), (q12, .inl (k_f12, 88, .inl f12)), (q13, .inl (k_f13, 88, .inl f13)), (q14, .inl (k_f14, 4, .inl f14)), (q15, .inl (k_f15, 4, .inl f15)), (q16, .inl (k_f16, 4, .inl f16))]) (k := (o + gc)) hP hD (by omega) (fun q h => List.mem_append_left _ (pu_subm [9, 10, 11, 12, 13, 14, 15, 16, 17, 18, 19, 20, 21, 22] rfl q h)) hk1 (Nat.min_le_right _ _) hP1
  rw [zp_qsame] at hP hD
  obtain ⟨fz_8, xfz_8⟩ : ∃ q, q = updZ fz_4 (o + gc) z_fz_6 := ⟨_, rfl⟩
  rw [← xfz_8] at hP hD
  clear hP1 hD1 hFc
  clear hPc hDc hKc
  clear hk1 hz1 ht hvm
  generalize H1 = H at hP hS ⊢
  obtain ⟨u_9, hu_9, rfl, iu_9⟩ := hw
  have iu_9 : (u_9, z_fz_6) = (sp_E_0_opensIn_25 q_f6 f7 q_f8 q_f9 f12 f13 (min (qs_3 (o + gc)) 5) (fz_4 (o + gc)) a2) := Prod.ext iu_9 xr_5_0
  have hsp := hsp.trans (slet_eq iu_9)
  have hsp := hsp.trans (slet_eq xfz_8)
  refine lv_if_ne (tgt := 33) hx hb eX1_step_29 (by decide) (fun c_10 => ?_) (fun c_10 => ?_)
  · have c_10 : ¬ u_9 = 0 := fun z => c_10 ((nI_eq (a := u_9) (b := 0) (Nat.lt_of_le_of_lt hu_9 (Nat.le_of_ble_eq_true rfl)) (Nat.le_of_ble_eq_true rfl)).mpr z)
    have hsp := hsp.trans (if_neg c_10)
    refine lv_aload_n hx hb eX1_step_33 rfl (lv_at hl 1 rfl) ?_
    refine lv_dup hx hb eX1_step_34 rfl ?_
    refine va_get (D := (dC, dI)) (ci := 1) (v := .int gx) (C := RX1) (T := TX1) (N := 18) hx hb hts hiX1 hown hK hP 0 rfl rfl 8 (by decide) v_13 (fun _ h9 => h9) rfl eX1_step_35 ?_
    refine lv_iconst (v := 1) hx hb eX1_step_38 (by decide) ?_
    refine lv_iload_n hx hb eX1_step_39 rfl (lv_at hl 4 rfl) ?_
    refine lv_ishl hx hb eX1_step_40 ?_
    refine lv_topi (fun y_11 ey_11 => ?_)
    have hsp := hsp.trans (slet_eq ey_11)
    refine lv_ior hx hb eX1_step_41 ?_
    refine lv_topi (fun y_12 ey_12 => ?_)
    have hsp := hsp.trans (slet_eq ey_12)
    refine va_put (D := (dC, dI)) (ci := 1) (v := .int y_12) (ty := .int) (C := RX1) (T := TX1) (N := 18) hx hb hts hiX1 tyX1 tyX1_ok nmX1 hown hK hP hD hS 0 rfl rfl 8 (by decide) v_13 (fun _ h9 => h9) rfl (by decide +kernel) rfl rfl (Nat.le_of_ble_eq_true rfl) eX1_step_42 (fun H locs hP hD hS => ?_)
    have hP : va_P (dC, dI) vwCl ((gt1__w g gz g1 g2 g3 g4 g5 (nI gc) (nI gfull) y_12 gway gav ggoal (nI gfound) 400 (nI gl) (nI gsz) g16 g17 k_fgz (zs o 401 az) k_fs1 (bN 7 q_fs1) k_fs2 fs2 k_fs3 fs3 k_fs4 fs4 k_fs5 fs5 k_fhi fhi k_flo flo au (nI nc) (nI np) (nI ne) st0 q4 q5 q6 q7 q8 q9 q10 q11 q12 q13 q14 q15 q16 k_f4 f4 k_f5 (bN 7 q_f5) k_f6 (bN 7 q_f6) k_f7 f7 k_f8 (bN 4 q_f8) k_f9 (bN 2 q_f9) k_f10 f10 k_f11 f11 k_f12 f12 k_f13 f13 k_f14 f14 k_f15 f15 k_f16 f16) ++ zp 5 25 N az ac kz qs_3 fz_8) H := hP
    have hD : va_D A ((gt1__w g gz g1 g2 g3 g4 g5 (nI gc) (nI gfull) y_12 gway gav ggoal (nI gfound) 400 (nI gl) (nI gsz) g16 g17 k_fgz (zs o 401 az) k_fs1 (bN 7 q_fs1) k_fs2 fs2 k_fs3 fs3 k_fs4 fs4 k_fs5 fs5 k_fhi fhi k_flo flo au (nI nc) (nI np) (nI ne) st0 q4 q5 q6 q7 q8 q9 q10 q11 q12 q13 q14 q15 q16 k_f4 f4 k_f5 (bN 7 q_f5) k_f6 (bN 7 q_f6) k_f7 f7 k_f8 (bN 4 q_f8) k_f9 (bN 2 q_f9) k_f10 f10 k_f11 f11 k_f12 f12 k_f13 f13 k_f14 f14 k_f15 f15 k_f16 f16) ++ zp 5 25 N az ac kz qs_3 fz_8) := hD
    refine lv_aload_n hx hb eX1_step_45 rfl (lv_at hl 2 rfl) ?_
    refine lv_aload hx hb eX1_step_46 (lv_at hl 0 rfl) ?_
    refine lv_iload_n hx hb eX1_step_48 rfl (lv_at hl 4 rfl) ?_
    have hPz := zp_cut (k := (o + gc)) hP (by omega)
    have hPc : va_P (dC, dI) vwCl ([(au, .inr (0, [.int (nI nc), .int (nI np), .int (nI ne), .int st0, .ref q4, .ref q5, .ref q6, .ref q7, .ref q8, .ref q9, .ref q10, .ref q11, .ref q12, .ref q13, .ref q14, .ref q15, .ref q16])), (q4, .inl (k_f4, 8, .inl f4)), (q5, .inl (k_f5, 14, .inl (bN 7 q_f5))), (q6, .inl (k_f6, 14, .inl (bN 7 q_f6))), (q7, .inl (k_f7, 14, .inl f7)), (q8, .inl (k_f8, 22, .inl (bN 4 q_f8))), (q9, .inl (k_f9, 88, .inl (bN 2 q_f9))), (q10, .inl (k_f10, 88, .inl f10)), (q11, .inl (k_f11, 88, .inl f11)), (q12, .inl (k_f12, 88, .inl f12)), (q13, .inl (k_f13, 88, .inl f13)), (q14, .inl (k_f14, 4, .inl f14)), (q15, .inl (k_f15, 4, .inl f15)), (q16, .inl (k_f16, 4, .inl f16))] ++ [(az (o + gc), .inr (7, [.ref (ac (o + gc)), .int (nI (min (qs_3 (o + gc)) 5))])), (ac (o + gc), .inl (kz (o + gc), 25, .inl (fz_8 (o + gc))))]) _ := va_P.app (hP.sub [9, 10, 11, 12, 13, 14, 15, 16, 17, 18, 19, 20, 21, 22] rfl) hPz
    have hDc : va_D A ([(au, .inr (0, [.int (nI nc), .int (nI np), .int (nI ne), .int st0, .ref q4, .ref q5, .ref q6, .ref q7, .ref q8, .ref q9, .ref q10, .ref q11, .ref q12, .ref q13, .ref q14, .ref q15, .ref q16])), (q4, .inl (k_f4, 8, .inl f4)), (q5, .inl (k_f5, 14, .inl (bN 7 q_f5))), (q6, .inl (k_f6, 14, .inl (bN 7 q_f6))), (q7, .inl (k_f7, 14, .inl f7)), (q8, .inl (k_f8, 22, .inl (bN 4 q_f8))), (q9, .inl (k_f9, 88, .inl (bN 2 q_f9))), (q10, .inl (k_f10, 88, .inl f10)), (q11, .inl (k_f11, 88, .inl f11)), (q12, .inl (k_f12, 88, .inl f12)), (q13, .inl (k_f13, 88, .inl f13)), (q14, .inl (k_f14, 4, .inl f14)), (q15, .inl (k_f15, 4, .inl f15)), (q16, .inl (k_f16, 4, .inl f16))] ++ [(az (o + gc), .inr (7, [.ref (ac (o + gc)), .int (nI (min (qs_3 (o + gc)) 5))])), (ac (o + gc), .inl (kz (o + gc), 25, .inl (fz_8 (o + gc))))]) := zp_cutD hD (by omega) [9, 10, 11, 12, 13, 14, 15, 16, 17, 18, 19, 20, 21, 22] (by decide) rfl
    have hKc : va_K (dC, dI) vwCl ([(k_f4, .boolean), (k_f5, .int), (k_f6, .int), (k_f7, .int), (k_f8, .int), (k_f9, .int), (k_f10, .int), (k_f11, .int), (k_f12, .int), (k_f13, .int), (k_f14, .int), (k_f15, .int), (k_f16, .int)] ++ [(kz (o + gc), .int)]) s := zp_K hK (by omega) [8, 9, 10, 11, 12, 13, 14, 15, 16, 17, 18, 19, 20] rfl
    have hFc := pu_free hDc hS hA
    refine va_callv (va_runV (As := [.ref (az (o + gc)), .int (nI a2)]) (rest := []) ⟨hx, hb, hml, hown, hts⟩ (c_E_0_setBackIn_25 l dC dI _ au nc np ne st0 q4 q5 q6 q7 q8 q9 q10 q11 q12 q13 q14 q15 q16 k_f4 f4 k_f5 q_f5 k_f6 q_f6 k_f7 f7 k_f8 q_f8 k_f9 q_f9 k_f10 f10 k_f11 f11 k_f12 f12 k_f13 f13 k_f14 f14 k_f15 f15 k_f16 f16 (az (o + gc)) (ac (o + gc)) (min (qs_3 (o + gc)) 5) (kz (o + gc)) (fz_8 (o + gc)) a2 hnc hnp hne (hst0) (Nat.min_le_right _ _) ha2) (cwV 2 hts g_E_1_step_25_E_0_setBackIn_25 rfl rfl rfl (by decide +kernel) ⟨Nat.le_of_ble_eq_true rfl, Nat.le_of_ble_eq_true rfl⟩) ⟨pu_bl, va_recv hK hP (ci := 0) (q0 := 9) rfl rfl, pu_in hPc hKc hDc⟩ rfl rfl hl.1 rfl (lv_room (Nat.le_of_ble_eq_true rfl)) eX1_step_49 ⟨Nat.le_of_ble_eq_true rfl, Nat.le_of_ble_eq_true rfl⟩) hS (fun q _ h => hFc q h) hFc (fun u t H1 locs ht hvm hw hB hz1 hk1 hS => ?_)
    obtain ⟨z_fz_14, ⟨hP1, -, hD1⟩, xr_13_0⟩ := hB
    rw [ht] at hP1
    obtain ⟨hP, hD⟩ := zp_putx (wr := [(au, .inr (0, [.int (nI nc), .int (nI np), .int (nI ne), .int st0, .ref q4, .ref q5, .ref q6, .ref q7, .ref q8, .ref q9, .ref q10, .ref q11, .ref q12, .ref q13, .ref q14, .ref q15, .ref q16])), (q4, .inl (k_f4, 8, .inl f4)), (q5, .inl (k_f5, 14, .inl (bN 7 q_f5))), (q6, .inl (k_f6, 14, .inl (bN 7 q_f6))), (q7, .inl (k_f7, 14, .inl f7)), (q8, .inl (k_f8, 22, .inl (bN 4 q_f8))), (q9, .inl (k_f9, 88, .inl (bN 2 q_f9))), (q10, .inl (k_f10, 88, .inl f10)), (q11, .inl (k_f11, 88, .inl f11)), (q12, .inl (k_f12, 88, .inl f12)), (q13, .inl (k_f13, 88, .inl f13)), (q14, .inl (k_f14, 4, .inl f14)), (q15, .inl (k_f15, 4, .inl f15)), (q16, .inl (k_f16, 4, .inl f16))]) (k := (o + gc)) hP hD (by omega) (fun q h => List.mem_append_left _ (pu_subm [9, 10, 11, 12, 13, 14, 15, 16, 17, 18, 19, 20, 21, 22] rfl q h)) hk1 (Nat.min_le_right _ _) hP1
    rw [zp_qsame] at hP hD
    obtain ⟨fz_16, xfz_16⟩ : ∃ q, q = updZ fz_8 (o + gc) z_fz_14 := ⟨_, rfl⟩
    rw [← xfz_16] at hP hD
    clear hP1 hD1 hFc
    clear hPc hDc hKc
    clear hk1 hz1 ht hvm
    generalize H1 = H at hP hS ⊢
    have hsp := hsp.trans (slet_eq xr_13_0)
    have hsp := hsp.trans (slet_eq xfz_16)
    refine lv_aload_n hx hb eX1_step_52 rfl (lv_at hl 2 rfl) ?_
    refine va_get (D := (dC, dI)) (ci := 0) (v := .ref q6) (C := RX0) (T := TX0) (N := 17) hx hb hts hiX0 hown hK hP 9 rfl rfl 6 (by decide) v_18 (fun _ h9 => h9) rfl eX1_step_53 ?_
    refine lv_iload_n hx hb eX1_step_56 rfl (lv_at hl 4 rfl) ?_
    refine va_iald hx hb hK hP 12 10 rfl rfl (vp_in_nI (n := a2) (Nat.lt_of_le_of_lt ha2 (Nat.le_of_ble_eq_true rfl)) (Nat.le_of_ble_eq_true rfl)) eX1_step_57 ?_
    refine lv_topi (fun y_17 ey_17 => ?_)
    obtain ⟨u_18, hu_18, qu_18, xu_18⟩ := bN_getx 7 q_f6 (n := a2) (Nat.lt_of_le_of_lt ha2 (Nat.le_of_ble_eq_true rfl))
    obtain rfl : y_17 = nI u_18 := ey_17.trans qu_18
    have hsp := hsp.trans (slet_eq xu_18)
    refine lv_istore (lv' := [(5, .int (nI u_18)), (4, .ref (az (o + gc))), (0, .ref g), (1, .ref au), (2, .int (nI a1)), (3, .int (nI a2))]) hx hb eX1_step_58 hl (by decide) rfl (fun ls hl => ?_)
    refine lv_aload_n hx hb eX1_step_60 rfl (lv_at hl 3 rfl) ?_
    refine lv_aload hx hb eX1_step_61 (lv_at hl 1 rfl) ?_
    refine lv_iload hx hb eX1_step_63 (lv_at hl 0 rfl) ?_
    have hPz := zp_cut (k := (o + gc)) hP (by omega)
    have hPc : va_P (dC, dI) vwCl ([(au, .inr (0, [.int (nI nc), .int (nI np), .int (nI ne), .int st0, .ref q4, .ref q5, .ref q6, .ref q7, .ref q8, .ref q9, .ref q10, .ref q11, .ref q12, .ref q13, .ref q14, .ref q15, .ref q16])), (q4, .inl (k_f4, 8, .inl f4)), (q5, .inl (k_f5, 14, .inl (bN 7 q_f5))), (q6, .inl (k_f6, 14, .inl (bN 7 q_f6))), (q7, .inl (k_f7, 14, .inl f7)), (q8, .inl (k_f8, 22, .inl (bN 4 q_f8))), (q9, .inl (k_f9, 88, .inl (bN 2 q_f9))), (q10, .inl (k_f10, 88, .inl f10)), (q11, .inl (k_f11, 88, .inl f11)), (q12, .inl (k_f12, 88, .inl f12)), (q13, .inl (k_f13, 88, .inl f13)), (q14, .inl (k_f14, 4, .inl f14)), (q15, .inl (k_f15, 4, .inl f15)), (q16, .inl (k_f16, 4, .inl f16))] ++ [(az (o + gc), .inr (7, [.ref (ac (o + gc)), .int (nI (min (qs_3 (o + gc)) 5))])), (ac (o + gc), .inl (kz (o + gc), 25, .inl (fz_16 (o + gc))))]) _ := va_P.app (hP.sub [9, 10, 11, 12, 13, 14, 15, 16, 17, 18, 19, 20, 21, 22] rfl) hPz
    have hDc : va_D A ([(au, .inr (0, [.int (nI nc), .int (nI np), .int (nI ne), .int st0, .ref q4, .ref q5, .ref q6, .ref q7, .ref q8, .ref q9, .ref q10, .ref q11, .ref q12, .ref q13, .ref q14, .ref q15, .ref q16])), (q4, .inl (k_f4, 8, .inl f4)), (q5, .inl (k_f5, 14, .inl (bN 7 q_f5))), (q6, .inl (k_f6, 14, .inl (bN 7 q_f6))), (q7, .inl (k_f7, 14, .inl f7)), (q8, .inl (k_f8, 22, .inl (bN 4 q_f8))), (q9, .inl (k_f9, 88, .inl (bN 2 q_f9))), (q10, .inl (k_f10, 88, .inl f10)), (q11, .inl (k_f11, 88, .inl f11)), (q12, .inl (k_f12, 88, .inl f12)), (q13, .inl (k_f13, 88, .inl f13)), (q14, .inl (k_f14, 4, .inl f14)), (q15, .inl (k_f15, 4, .inl f15)), (q16, .inl (k_f16, 4, .inl f16))] ++ [(az (o + gc), .inr (7, [.ref (ac (o + gc)), .int (nI (min (qs_3 (o + gc)) 5))])), (ac (o + gc), .inl (kz (o + gc), 25, .inl (fz_16 (o + gc))))]) := zp_cutD hD (by omega) [9, 10, 11, 12, 13, 14, 15, 16, 17, 18, 19, 20, 21, 22] (by decide) rfl
    have hKc : va_K (dC, dI) vwCl ([(k_f4, .boolean), (k_f5, .int), (k_f6, .int), (k_f7, .int), (k_f8, .int), (k_f9, .int), (k_f10, .int), (k_f11, .int), (k_f12, .int), (k_f13, .int), (k_f14, .int), (k_f15, .int), (k_f16, .int)] ++ [(kz (o + gc), .int)]) s := zp_K hK (by omega) [8, 9, 10, 11, 12, 13, 14, 15, 16, 17, 18, 19, 20] rfl
    have hFc := pu_free hDc hS hA
    refine va_callv (va_runV (As := [.ref (az (o + gc)), .int (nI u_18)]) (rest := []) ⟨hx, hb, hml, hown, hts⟩ (c_E_0_stayIn_25 l dC dI _ au nc np ne st0 q4 q5 q6 q7 q8 q9 q10 q11 q12 q13 q14 q15 q16 k_f4 f4 k_f5 q_f5 k_f6 q_f6 k_f7 f7 k_f8 q_f8 k_f9 q_f9 k_f10 f10 k_f11 f11 k_f12 f12 k_f13 f13 k_f14 f14 k_f15 f15 k_f16 f16 (az (o + gc)) (ac (o + gc)) (min (qs_3 (o + gc)) 5) (kz (o + gc)) (fz_16 (o + gc)) u_18 hnc hnp hne (hst0) (Nat.min_le_right _ _) hu_18) (cwV 2 hts g_E_1_step_25_E_0_stayIn_25 rfl rfl rfl (by decide +kernel) ⟨Nat.le_of_ble_eq_true rfl, Nat.le_of_ble_eq_true rfl⟩) ⟨pu_bl, va_recv hK hP (ci := 0) (q0 := 9) rfl rfl, pu_in hPc hKc hDc⟩ rfl rfl hl.1 rfl (lv_room (Nat.le_of_ble_eq_true rfl)) eX1_step_65 ⟨Nat.le_of_ble_eq_true rfl, Nat.le_of_ble_eq_true rfl⟩) hS (fun q _ h => hFc q h) hFc (fun u t H1 locs ht hvm hw hB hz1 hk1 hS => ?_)
    obtain ⟨z_fz_20, ⟨hP1, -, hD1⟩, xr_19_0⟩ := hB
    rw [ht] at hP1
    obtain ⟨hP, hD⟩ := zp_putx (wr := [(au, .inr (0, [.int (nI nc), .int (nI np), .int (nI ne), .int st0, .ref q4, .ref q5, .ref q6, .ref q7, .ref q8, .ref q9, .ref q10, .ref q11, .ref q12, .ref q13, .ref q14, .ref q15, .ref q16])), (q4, .inl (k_f4, 8, .inl f4)), (q5, .inl (k_f5, 14, .inl (bN 7 q_f5))), (q6, .inl (k_f6, 14, .inl (bN 7 q_f6))), (q7, .inl (k_f7, 14, .inl f7)), (q8, .inl (k_f8, 22, .inl (bN 4 q_f8))), (q9, .inl (k_f9, 88, .inl (bN 2 q_f9))), (q10, .inl (k_f10, 88, .inl f10)), (q11, .inl (k_f11, 88, .inl f11)), (q12, .inl (k_f12, 88, .inl f12)), (q13, .inl (k_f13, 88, .inl f13)), (q14, .inl (k_f14, 4, .inl f14)), (q15, .inl (k_f15, 4, .inl f15)), (q16, .inl (k_f16, 4, .inl f16))]) (k := (o + gc)) hP hD (by omega) (fun q h => List.mem_append_left _ (pu_subm [9, 10, 11, 12, 13, 14, 15, 16, 17, 18, 19, 20, 21, 22] rfl q h)) hk1 (Nat.min_le_right _ _) hP1
    rw [zp_qsame] at hP hD
    obtain ⟨fz_22, xfz_22⟩ : ∃ q, q = updZ fz_16 (o + gc) z_fz_20 := ⟨_, rfl⟩
    rw [← xfz_22] at hP hD
    clear hP1 hD1 hFc
    clear hPc hDc hKc
    clear hk1 hz1 ht hvm
    generalize H1 = H at hP hS ⊢
    have hsp := hsp.trans (slet_eq xr_19_0)
    have hsp := hsp.trans (slet_eq xfz_22)
    refine lv_aload_n hx hb eX1_step_68 rfl (lv_at hl 2 rfl) ?_
    refine va_get (D := (dC, dI)) (ci := 1) (v := .int gway) (C := RX1) (T := TX1) (N := 18) hx hb hts hiX1 hown hK hP 0 rfl rfl 9 (by decide) v_23 (fun _ h9 => h9) rfl eX1_step_69 ?_
    obtain ⟨JR_25, hJR_25, hsp⟩ := slet_ex hsp
    refine pu_join (fun H locs ls st => ∃ (g_23 : Nat → Nat → Int32), st = [] ∧ g_23 = JR_25 ∧ va_P (dC, dI) vwCl ((gt1__w g gz g1 g2 g3 g4 g5 (nI gc) (nI gfull) y_12 gway gav ggoal (nI gfound) 400 (nI gl) (nI gsz) g16 g17 k_fgz (zs o 401 az) k_fs1 (bN 7 q_fs1) k_fs2 fs2 k_fs3 fs3 k_fs4 fs4 k_fs5 fs5 k_fhi fhi k_flo flo au (nI nc) (nI np) (nI ne) st0 q4 q5 q6 q7 q8 q9 q10 q11 q12 q13 q14 q15 q16 k_f4 f4 k_f5 (bN 7 q_f5) k_f6 (bN 7 q_f6) k_f7 f7 k_f8 (bN 4 q_f8) k_f9 (bN 2 q_f9) k_f10 f10 k_f11 f11 k_f12 f12 k_f13 f13 k_f14 f14 k_f15 f15 k_f16 f16) ++ zp 5 25 N az ac kz qs_3 g_23) H ∧ va_D A ((gt1__w g gz g1 g2 g3 g4 g5 (nI gc) (nI gfull) y_12 gway gav ggoal (nI gfound) 400 (nI gl) (nI gsz) g16 g17 k_fgz (zs o 401 az) k_fs1 (bN 7 q_fs1) k_fs2 fs2 k_fs3 fs3 k_fs4 fs4 k_fs5 fs5 k_fhi fhi k_flo flo au (nI nc) (nI np) (nI ne) st0 q4 q5 q6 q7 q8 q9 q10 q11 q12 q13 q14 q15 q16 k_f4 f4 k_f5 (bN 7 q_f5) k_f6 (bN 7 q_f6) k_f7 f7 k_f8 (bN 4 q_f8) k_f9 (bN 2 q_f9) k_f10 f10 k_f11 f11 k_f12 f12 k_f13 f13 k_f14 f14 k_f15 f15 k_f16 f16) ++ zp 5 25 N az ac kz qs_3 g_23) ∧ va_S A s.heap H locs ∧ lv_has ls 6 [(0, .ref g), (1, .ref au), (2, .int (nI a1)), (3, .int (nI a2)), (4, .ref (az (o + gc))), (5, .int (nI u_18))]) 88 ?_ (fun j_24 => ?_)
    · rintro H locs ls st ⟨g_23, rfl, he_26, hP, hD, hS, hl⟩
      rw [← he_26] at hsp
      refine lv_aload_n hx hb eX1_step_88 rfl (lv_at hl 0 rfl) ?_
      refine lv_aload hx hb eX1_step_89 (lv_at hl 4 rfl) ?_
      refine lv_iload hx hb eX1_step_91 (lv_at hl 5 rfl) ?_
      have hPc : va_P (dC, dI) vwCl ([(g, .inr (1, [.ref gz, .ref g1, .ref g2, .ref g3, .ref g4, .ref g5, .int (nI gc), .int (nI gfull), .int y_12, .int gway, .int gav, .int ggoal, .int (nI gfound), .int 400, .int (nI gl), .int (nI gsz), .ref g16, .ref g17])), (gz, .inl (k_fgz, 401, .inr (.inr (.inr (.inr (zs o 401 az)))))), (g1, .inl (k_fs1, 400, .inl (bN 7 q_fs1))), (g2, .inl (k_fs2, 400, .inl fs2)), (g3, .inl (k_fs3, 400, .inl fs3)), (g4, .inl (k_fs4, 400, .inl fs4)), (g5, .inl (k_fs5, 400, .inl fs5)), (g16, .inl (k_fhi, 5, .inl fhi)), (g17, .inl (k_flo, 5, .inl flo))] ++ zp 5 25 N az ac kz qs_3 g_23) _ := hP.part [0, 1, 2, 3, 4, 5, 6, 7, 8] rfl
      have hDc : va_D A ([(g, .inr (1, [.ref gz, .ref g1, .ref g2, .ref g3, .ref g4, .ref g5, .int (nI gc), .int (nI gfull), .int y_12, .int gway, .int gav, .int ggoal, .int (nI gfound), .int 400, .int (nI gl), .int (nI gsz), .ref g16, .ref g17])), (gz, .inl (k_fgz, 401, .inr (.inr (.inr (.inr (zs o 401 az)))))), (g1, .inl (k_fs1, 400, .inl (bN 7 q_fs1))), (g2, .inl (k_fs2, 400, .inl fs2)), (g3, .inl (k_fs3, 400, .inl fs3)), (g4, .inl (k_fs4, 400, .inl fs4)), (g5, .inl (k_fs5, 400, .inl fs5)), (g16, .inl (k_fhi, 5, .inl fhi)), (g17, .inl (k_flo, 5, .inl flo))] ++ zp 5 25 N az ac kz qs_3 g_23) := hD.part [0, 1, 2, 3, 4, 5, 6, 7, 8] (by decide) rfl
      have hKc : va_K (dC, dI) vwCl ([(k_fgz, .object RX7), (k_fs1, .int), (k_fs2, .int), (k_fs3, .int), (k_fs4, .int), (k_fs5, .int), (k_fhi, .int), (k_flo, .int)] ++ zt N kz) s := zk_part hK [0, 1, 2, 3, 4, 5, 6, 7] rfl
      refine va_calli (va_runV (As := [.ref (az (o + gc)), .int (nI u_18)]) (rest := []) ⟨hx, hb, hml, hown, hts⟩ (c_E_1_isKnown_25 l dC dI _ g gz g1 g2 g3 g4 g5 gc gfull y_12 gway gav ggoal gfound gl gsz g16 g17 k_fgz k_fs1 q_fs1 k_fs2 fs2 k_fs3 fs3 k_fs4 fs4 k_fs5 fs5 k_fhi fhi k_flo flo N o az ac kz qs_3 g_23 (o + gc) u_18 hgc hgfull hgfound hgl hgsz (by omega) (by omega) hu_18 (by omega)) (cwV 2 hts g_E_1_step_25_E_1_isKnown_25 rfl rfl rfl (by decide +kernel) ⟨Nat.le_of_ble_eq_true rfl, Nat.le_of_ble_eq_true rfl⟩) ⟨pu_bl, va_recv hK hP (ci := 1) (q0 := 0) rfl rfl, pu_in hPc hKc hDc⟩ rfl rfl hl.1 rfl (lv_room (Nat.le_of_ble_eq_true rfl)) eX1_step_93 ⟨Nat.le_of_ble_eq_true rfl, Nat.le_of_ble_eq_true rfl⟩) hS (fun q _ h => pu_fr hS hA q h) (pu_fr hS hA) (fun r_27 u t H1 locs ht hvm hw hB hz1 hk1 hS => ?_)
      have hP := pu_keep hP hk1
      clear hPc hDc hKc
      clear hk1 hz1 ht hvm
      generalize H1 = H at hP hS ⊢
      obtain ⟨u_28, hu_28, rfl, iu_28⟩ := hw
      have hsp := hsp.trans (slet_eq iu_28)
      refine lv_if_eq (tgt := 100) hx hb eX1_step_96 (by decide) (fun c_29 => ?_) (fun c_29 => ?_)
      · have c_29 : u_28 = 0 := (nI_eq (a := u_28) (b := 0) (Nat.lt_of_le_of_lt hu_28 (Nat.le_of_ble_eq_true rfl)) (Nat.le_of_ble_eq_true rfl)).mp c_29
        have hsp := hsp.trans (if_pos c_29)
        refine lv_aload_n hx hb eX1_step_100 rfl (lv_at hl 0 rfl) ?_
        refine va_get (D := (dC, dI)) (ci := 1) (v := .int (nI gc)) (C := RX1) (T := TX1) (N := 18) hx hb hts hiX1 hown hK hP 0 rfl rfl 6 (by decide) v_2 (fun _ h9 => h9) rfl eX1_step_101 ?_
        refine lv_aload_n hx hb eX1_step_104 rfl (lv_at hl 0 rfl) ?_
        refine va_get (D := (dC, dI)) (ci := 1) (v := .int 400) (C := RX1) (T := TX1) (N := 18) hx hb hts hiX1 hown hK hP 0 rfl rfl 13 (by decide) v_35 (fun _ h9 => h9) rfl eX1_step_105 ?_
        refine lv_icmp_ne (tgt := 117) hx hb eX1_step_108 (by decide) (fun c_30 => ?_) (fun c_30 => ?_)
        · have c_30 : ¬ gc = 400 := fun z => c_30 ((nI_eq (a := gc) (b := 400) (Nat.lt_of_le_of_lt hgc (Nat.le_of_ble_eq_true rfl)) (Nat.le_of_ble_eq_true rfl)).mpr z)
          have hsp := hsp.trans (if_neg c_30)
          refine lv_aload_n hx hb eX1_step_117 rfl (lv_at hl 0 rfl) ?_
          refine lv_iload hx hb eX1_step_118 (lv_at hl 5 rfl) ?_
          refine lv_iload_n hx hb eX1_step_120 rfl (lv_at hl 2 rfl) ?_
          refine lv_iload_n hx hb eX1_step_121 rfl (lv_at hl 3 rfl) ?_
          have hPc : va_P (dC, dI) vwCl ([(g, .inr (1, [.ref gz, .ref g1, .ref g2, .ref g3, .ref g4, .ref g5, .int (nI gc), .int (nI gfull), .int y_12, .int gway, .int gav, .int ggoal, .int (nI gfound), .int 400, .int (nI gl), .int (nI gsz), .ref g16, .ref g17])), (gz, .inl (k_fgz, 401, .inr (.inr (.inr (.inr (zs o 401 az)))))), (g1, .inl (k_fs1, 400, .inl (bN 7 q_fs1))), (g2, .inl (k_fs2, 400, .inl fs2)), (g3, .inl (k_fs3, 400, .inl fs3)), (g4, .inl (k_fs4, 400, .inl fs4)), (g5, .inl (k_fs5, 400, .inl fs5)), (g16, .inl (k_fhi, 5, .inl fhi)), (g17, .inl (k_flo, 5, .inl flo))] ++ zp 5 25 N az ac kz qs_3 g_23) _ := hP.part [0, 1, 2, 3, 4, 5, 6, 7, 8] rfl
          have hDc : va_D A ([(g, .inr (1, [.ref gz, .ref g1, .ref g2, .ref g3, .ref g4, .ref g5, .int (nI gc), .int (nI gfull), .int y_12, .int gway, .int gav, .int ggoal, .int (nI gfound), .int 400, .int (nI gl), .int (nI gsz), .ref g16, .ref g17])), (gz, .inl (k_fgz, 401, .inr (.inr (.inr (.inr (zs o 401 az)))))), (g1, .inl (k_fs1, 400, .inl (bN 7 q_fs1))), (g2, .inl (k_fs2, 400, .inl fs2)), (g3, .inl (k_fs3, 400, .inl fs3)), (g4, .inl (k_fs4, 400, .inl fs4)), (g5, .inl (k_fs5, 400, .inl fs5)), (g16, .inl (k_fhi, 5, .inl fhi)), (g17, .inl (k_flo, 5, .inl flo))] ++ zp 5 25 N az ac kz qs_3 g_23) := hD.part [0, 1, 2, 3, 4, 5, 6, 7, 8] (by decide) rfl
          have hKc : va_K (dC, dI) vwCl ([(k_fgz, .object RX7), (k_fs1, .int), (k_fs2, .int), (k_fs3, .int), (k_fs4, .int), (k_fs5, .int), (k_fhi, .int), (k_flo, .int)] ++ zt N kz) s := zk_part hK [0, 1, 2, 3, 4, 5, 6, 7] rfl
          have hFc := pu_free hDc hS hA
          refine va_callv (va_runV (As := [.int (nI u_18), .int (nI a1), .int (nI a2)]) (rest := []) ⟨hx, hb, hml, hown, hts⟩ (c_E_1_record1_25 l dC dI _ g gz g1 g2 g3 g4 g5 gc gfull y_12 gway gav ggoal gfound gl gsz g16 g17 k_fgz k_fs1 q_fs1 k_fs2 fs2 k_fs3 fs3 k_fs4 fs4 k_fs5 fs5 k_fhi fhi k_flo flo N o az ac kz qs_3 g_23 u_18 a1 a2 (by omega) hgfull hgfound hgl hgsz (by omega) hu_18 ha1 ha2 (by first | assumption | exact gz_0) (by omega)) (cwV 3 hts g_E_1_step_25_E_1_record1_25 rfl rfl rfl (by decide +kernel) ⟨Nat.le_of_ble_eq_true rfl, Nat.le_of_ble_eq_true rfl⟩) ⟨pu_bl, va_recv hK hP (ci := 1) (q0 := 0) rfl rfl, pu_in hPc hKc hDc⟩ rfl rfl hl.1 rfl (lv_room (Nat.le_of_ble_eq_true rfl)) eX1_step_122 ⟨Nat.le_of_ble_eq_true rfl, Nat.le_of_ble_eq_true rfl⟩) hS (fun q _ h => hFc q h) hFc (fun u t H1 locs ht hvm hw hB hz1 hk1 hS => ?_)
          obtain ⟨z_fs1_32, z_fs2_33, z_fs3_34, z_fs4_35, z_fs5_36, z_gfound_37, ⟨hP1, -, hD1⟩, hz_gfound_37, xr_31_0, xr_31_1⟩ := hB
          rw [ht] at hP1
          obtain ⟨hP, hD⟩ := pj_c (X := (gt1__w g gz g1 g2 g3 g4 g5 (nI gc) (nI gfull) y_12 gway gav ggoal (nI gfound) 400 (nI gl) (nI gsz) g16 g17 k_fgz (zs o 401 az) k_fs1 (bN 7 q_fs1) k_fs2 fs2 k_fs3 fs3 k_fs4 fs4 k_fs5 fs5 k_fhi fhi k_flo flo au (nI nc) (nI np) (nI ne) st0 q4 q5 q6 q7 q8 q9 q10 q11 q12 q13 q14 q15 q16 k_f4 f4 k_f5 (bN 7 q_f5) k_f6 (bN 7 q_f6) k_f7 f7 k_f8 (bN 4 q_f8) k_f9 (bN 2 q_f9) k_f10 f10 k_f11 f11 k_f12 f12 k_f13 f13 k_f14 f14 k_f15 f15 k_f16 f16)) (X' := (gt1__w g gz g1 g2 g3 g4 g5 (nI (gc + 1)) (nI gfull) y_12 gway gav ggoal (nI z_gfound_37) 400 (nI gl) (nI gsz) g16 g17 k_fgz (zs o 401 az) k_fs1 (bN 7 z_fs1_32) k_fs2 z_fs2_33 k_fs3 z_fs3_34 k_fs4 z_fs4_35 k_fs5 z_fs5_36 k_fhi fhi k_flo flo au (nI nc) (nI np) (nI ne) st0 q4 q5 q6 q7 q8 q9 q10 q11 q12 q13 q14 q15 q16 k_f4 f4 k_f5 (bN 7 q_f5) k_f6 (bN 7 q_f6) k_f7 f7 k_f8 (bN 4 q_f8) k_f9 (bN 2 q_f9) k_f10 f10 k_f11 f11 k_f12 f12 k_f13 f13 k_f14 f14 k_f15 f15 k_f16 f16)) (wc := (gt0__w g gz g1 g2 g3 g4 g5 (nI gc) (nI gfull) y_12 gway gav ggoal (nI gfound) 400 (nI gl) (nI gsz) g16 g17 k_fgz (zs o 401 az) k_fs1 (bN 7 q_fs1) k_fs2 fs2 k_fs3 fs3 k_fs4 fs4 k_fs5 fs5 k_fhi fhi k_flo flo)) (w1 := (gt0__w g gz g1 g2 g3 g4 g5 (nI (gc + 1)) (nI gfull) y_12 gway gav ggoal (nI z_gfound_37) 400 (nI gl) (nI gsz) g16 g17 k_fgz (zs o 401 az) k_fs1 (bN 7 z_fs1_32) k_fs2 z_fs2_33 k_fs3 z_fs3_34 k_fs4 z_fs4_35 k_fs5 z_fs5_36 k_fhi fhi k_flo flo)) hP hD [0, 1, 2, 3, 4, 5, 6, 7, 8] [0, 1, 2, 3, 4, 5, 6, 7, 8, 18, 19, 20, 21, 22, 23, 24, 25, 26, 27, 28, 29, 30, 31] 9 rfl hk1 hP1 rfl zp_f rfl rfl (by decide)
          clear hP1 hD1 hFc
          clear hPc hDc hKc
          clear hk1 hz1 ht hvm
          generalize H1 = H at hP hS ⊢
          have hsp := hsp.trans (slet_eq xr_31_1)
          exact W.vret hx hb hr (fun t ht hW => ⟨⟨(), rfl, trivial, ⟨z_fs1_32, z_fs2_33, z_fs3_34, z_fs4_35, z_fs5_36, z_gfound_37, (gc + 1), gfull, y_12, g_23, qs_3, ⟨by rw [ht]; exact hP, va_K.moved hW.alike hK, hD⟩, hz_gfound_37, (by omega), hgfull, by first | assumption | exact gz_0, by omega, (hsp.symm.trans hRR)⟩⟩, hS.F ht⟩) hS.2.2 eX1_step_125
        · have c_30 : gc = 400 := (nI_eq (a := gc) (b := 400) (Nat.lt_of_le_of_lt hgc (Nat.le_of_ble_eq_true rfl)) (Nat.le_of_ble_eq_true rfl)).mp c_30
          have hsp := hsp.trans (if_pos c_30)
          refine lv_aload_n hx hb eX1_step_111 rfl (lv_at hl 0 rfl) ?_
          refine lv_iconst (v := 1) hx hb eX1_step_112 (by decide) ?_
          refine va_put (D := (dC, dI)) (ci := 1) (v := .int 1) (ty := .boolean) (C := RX1) (T := TX1) (N := 18) hx hb hts hiX1 tyX1 tyX1_ok nmX1 hown hK hP hD hS 0 rfl rfl 7 (by decide) v_40 (fun _ h9 => h9) rfl (by decide +kernel) rfl rfl (Nat.le_of_ble_eq_true rfl) eX1_step_113 (fun H locs hP hD hS => ?_)
          have hP : va_P (dC, dI) vwCl ((gt1__w g gz g1 g2 g3 g4 g5 (nI gc) 1 y_12 gway gav ggoal (nI gfound) 400 (nI gl) (nI gsz) g16 g17 k_fgz (zs o 401 az) k_fs1 (bN 7 q_fs1) k_fs2 fs2 k_fs3 fs3 k_fs4 fs4 k_fs5 fs5 k_fhi fhi k_flo flo au (nI nc) (nI np) (nI ne) st0 q4 q5 q6 q7 q8 q9 q10 q11 q12 q13 q14 q15 q16 k_f4 f4 k_f5 (bN 7 q_f5) k_f6 (bN 7 q_f6) k_f7 f7 k_f8 (bN 4 q_f8) k_f9 (bN 2 q_f9) k_f10 f10 k_f11 f11 k_f12 f12 k_f13 f13 k_f14 f14 k_f15 f15 k_f16 f16) ++ zp 5 25 N az ac kz qs_3 g_23) H := hP
          have hD : va_D A ((gt1__w g gz g1 g2 g3 g4 g5 (nI gc) 1 y_12 gway gav ggoal (nI gfound) 400 (nI gl) (nI gsz) g16 g17 k_fgz (zs o 401 az) k_fs1 (bN 7 q_fs1) k_fs2 fs2 k_fs3 fs3 k_fs4 fs4 k_fs5 fs5 k_fhi fhi k_flo flo au (nI nc) (nI np) (nI ne) st0 q4 q5 q6 q7 q8 q9 q10 q11 q12 q13 q14 q15 q16 k_f4 f4 k_f5 (bN 7 q_f5) k_f6 (bN 7 q_f6) k_f7 f7 k_f8 (bN 4 q_f8) k_f9 (bN 2 q_f9) k_f10 f10 k_f11 f11 k_f12 f12 k_f13 f13 k_f14 f14 k_f15 f15 k_f16 f16) ++ zp 5 25 N az ac kz qs_3 g_23) := hD
          exact W.vret hx hb hr (fun t ht hW => ⟨⟨(), rfl, trivial, ⟨q_fs1, fs2, fs3, fs4, fs5, gfound, gc, 1, y_12, g_23, qs_3, ⟨by rw [ht]; exact hP, va_K.moved hW.alike hK, hD⟩, hgfound, hgc, (Nat.le_of_ble_eq_true rfl), by first | assumption | exact gz_0, by omega, (hsp.symm.trans hRR)⟩⟩, hS.F ht⟩) hS.2.2 eX1_step_116
      · have c_29 : ¬ u_28 = 0 := fun z => c_29 ((nI_eq (a := u_28) (b := 0) (Nat.lt_of_le_of_lt hu_28 (Nat.le_of_ble_eq_true rfl)) (Nat.le_of_ble_eq_true rfl)).mpr z)
        have hsp := hsp.trans (if_neg c_29)
        exact W.vret hx hb hr (fun t ht hW => ⟨⟨(), rfl, trivial, ⟨q_fs1, fs2, fs3, fs4, fs5, gfound, gc, gfull, y_12, g_23, qs_3, ⟨by rw [ht]; exact hP, va_K.moved hW.alike hK, hD⟩, hgfound, hgc, hgfull, by first | assumption | exact gz_0, by omega, (hsp.symm.trans hRR)⟩⟩, hS.F ht⟩) hS.2.2 eX1_step_99
    have hsp := hJR_25
    refine lv_if_eq (tgt := 88) hx hb eX1_step_72 (by decide) (fun c_38 => ?_) (fun c_38 => ?_)
    · have hcc_38 := c_38
      have hsp := hsp.trans (if_pos c_38)
      exact j_24 _ _ _ _ ⟨fz_22, rfl, hsp.symm, hP, hD, hS, lv_sub hl [2, 3, 4, 5, 1, 0] rfl⟩
    · have hcc_38 := c_38
      have hsp := hsp.trans (if_neg c_38)
      refine lv_aload hx hb eX1_step_75 (lv_at hl 1 rfl) ?_
      refine lv_aload_n hx hb eX1_step_77 rfl (lv_at hl 2 rfl) ?_
      refine va_get (D := (dC, dI)) (ci := 1) (v := .ref g16) (C := RX1) (T := TX1) (N := 18) hx hb hts hiX1 hown hK hP 0 rfl rfl 16 (by decide) v_24 (fun _ h9 => h9) rfl eX1_step_78 ?_
      refine lv_aload_n hx hb eX1_step_81 rfl (lv_at hl 2 rfl) ?_
      refine va_get (D := (dC, dI)) (ci := 1) (v := .ref g17) (C := RX1) (T := TX1) (N := 18) hx hb hts hiX1 hown hK hP 0 rfl rfl 17 (by decide) v_25 (fun _ h9 => h9) rfl eX1_step_82 ?_
      have hPz := zp_cut (k := (o + gc)) hP (by omega)
      have hPc : va_P (dC, dI) vwCl ([(g16, .inl (k_fhi, 5, .inl fhi)), (g17, .inl (k_flo, 5, .inl flo))] ++ [(az (o + gc), .inr (7, [.ref (ac (o + gc)), .int (nI (min (qs_3 (o + gc)) 5))])), (ac (o + gc), .inl (kz (o + gc), 25, .inl (fz_22 (o + gc))))]) _ := va_P.app (hP.sub [7, 8] rfl) hPz
      have hDc : va_D A ([(g16, .inl (k_fhi, 5, .inl fhi)), (g17, .inl (k_flo, 5, .inl flo))] ++ [(az (o + gc), .inr (7, [.ref (ac (o + gc)), .int (nI (min (qs_3 (o + gc)) 5))])), (ac (o + gc), .inl (kz (o + gc), 25, .inl (fz_22 (o + gc))))]) := zp_cutD hD (by omega) [7, 8] (by decide) rfl
      have hKc : va_K (dC, dI) vwCl ([(k_fhi, .int), (k_flo, .int)] ++ [(kz (o + gc), .int)]) s := zp_K hK (by omega) [6, 7] rfl
      have hFc := pu_free hDc hS hA
      refine va_callv (va_runV (As := [.ref g16, .ref g17]) (rest := []) ⟨hx, hb, hml, hown, hts⟩ (c_E_7_forget_25 l dC dI _ g16 k_fhi fhi g17 k_flo flo (az (o + gc)) (ac (o + gc)) (min (qs_3 (o + gc)) 5) (kz (o + gc)) (fz_22 (o + gc)) (Nat.min_le_right _ _)) (cwV 2 hts g_E_1_step_25_E_7_forget_25 rfl rfl rfl (by decide +kernel) ⟨Nat.le_of_ble_eq_true rfl, Nat.le_of_ble_eq_true rfl⟩) ⟨pu_bl, va_recv hK hPz (ci := 7) (q0 := 0) rfl rfl, pu_in hPc hKc hDc⟩ rfl rfl hl.1 rfl (lv_room (Nat.le_of_ble_eq_true rfl)) eX1_step_85 ⟨Nat.le_of_ble_eq_true rfl, Nat.le_of_ble_eq_true rfl⟩) hS (fun q _ h => hFc q h) hFc (fun u t H1 locs ht hvm hw hB hz1 hk1 hS => ?_)
      obtain ⟨z_fz_40, ⟨hP1, -, hD1⟩, xr_39_0⟩ := hB
      rw [ht] at hP1
      obtain ⟨hP, hD⟩ := zp_putx (wr := [(g16, .inl (k_fhi, 5, .inl fhi)), (g17, .inl (k_flo, 5, .inl flo))]) (k := (o + gc)) hP hD (by omega) (fun q h => List.mem_append_left _ (pu_subm [7, 8] rfl q h)) hk1 (Nat.min_le_right _ _) hP1
      rw [zp_qsame] at hP hD
      obtain ⟨fz_42, xfz_42⟩ : ∃ q, q = updZ fz_22 (o + gc) z_fz_40 := ⟨_, rfl⟩
      rw [← xfz_42] at hP hD
      clear hP1 hD1 hFc
      clear hPc hDc hKc
      clear hk1 hz1 ht hvm
      generalize H1 = H at hP hS ⊢
      have hsp := hsp.trans (slet_eq xr_39_0)
      have hsp := hsp.trans (slet_eq xfz_42)
      exact j_24 _ _ _ _ ⟨fz_42, rfl, hsp.symm, hP, hD, hS, lv_sub hl [2, 3, 4, 5, 1, 0] rfl⟩
  · have c_10 : u_9 = 0 := (nI_eq (a := u_9) (b := 0) (Nat.lt_of_le_of_lt hu_9 (Nat.le_of_ble_eq_true rfl)) (Nat.le_of_ble_eq_true rfl)).mp c_10
    have hsp := hsp.trans (if_pos c_10)
    exact W.vret hx hb hr (fun t ht hW => ⟨⟨(), rfl, trivial, ⟨q_fs1, fs2, fs3, fs4, fs5, gfound, gc, gfull, gx, fz_8, qs_3, ⟨by rw [ht]; exact hP, va_K.moved hW.alike hK, hD⟩, hgfound, hgc, hgfull, by first | assumption | exact gz_0, by omega, (hsp.symm.trans hRR)⟩⟩, hS.F ht⟩) hS.2.2 eX1_step_32
