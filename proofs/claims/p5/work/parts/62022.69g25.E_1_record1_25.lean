abbrev vs_E_1_record1_25 : List Cond := .code yX1_record cX1_record 4 none :: CM
noncomputable def sp_E_1_record1_25 (gc : Nat) (ggoal : Int32) (gfound : Nat) (q_fs1 : Nat → Nat) (fs2 : Nat → Int32) (fs3 : Nat → Int32) (fs4 : Nat → Int32) (fs5 : Nat → Int32) (a0 : Nat) (a1 : Nat) (a2 : Nat) : (Nat → Nat) × (Nat → Int32) × (Nat → Int32) × (Nat → Int32) × (Nat → Int32) × Nat := (slet (updN q_fs1 gc a0) (fun q_1 => (slet (upd fs2 gc (nI a1)) (fun f_2 => (slet (upd fs3 gc (nI a2)) (fun f_3 => (slet (upd fs4 gc 0) (fun f_4 => (slet (upd fs5 gc 0) (fun f_5 => (slet (f_4 a1) (fun y_6 => (slet ((y_6 : Int32) + 1) (fun y_7 => (slet (upd f_4 gc y_7) (fun f_8 => (slet (f_5 a1) (fun y_9 => (slet ((y_9 : Int32) + 1) (fun y_10 => (slet (upd f_5 a1 y_10) (fun f_11 => (if ((nI a0) : Int32) = ggoal then (q_1, f_2, f_3, f_8, f_11, 1) else (q_1, f_2, f_3, f_8, f_11, gfound))))))))))))))))))))))))
set_option maxHeartbeats 4000000 in
set_option maxRecDepth 100000 in
theorem c_E_1_record1_25 (l : Launch) (dC : Nat → ClassId) (dI : Nat → Nat → Nat) (sz : Nat) (g : Nat) (gz : Nat) (g1 : Nat) (g2 : Nat) (g3 : Nat) (g4 : Nat) (g5 : Nat) (gc : Nat) (gfull : Nat) (gx : Int32) (gway : Int32) (gav : Int32) (ggoal : Int32) (gfound : Nat) (gl : Nat) (gsz : Nat) (g16 : Nat) (g17 : Nat) (k_fgz : ClassId) (k_fs1 : ClassId) (q_fs1 : Nat → Nat) (k_fs2 : ClassId) (fs2 : Nat → Int32) (k_fs3 : ClassId) (fs3 : Nat → Int32) (k_fs4 : ClassId) (fs4 : Nat → Int32) (k_fs5 : ClassId) (fs5 : Nat → Int32) (k_fhi : ClassId) (fhi : Nat → Int32) (k_flo : ClassId) (flo : Nat → Int32) (N : Nat) (o : Nat) (az ac : Nat → Nat) (kz : Nat → ClassId) (qs : Nat → Nat) (fz : Nat → Nat → Int32) (a0 : Nat) (a1 : Nat) (a2 : Nat) (hgc : gc ≤ 399) (hgfull : gfull ≤ 1) (hgfound : gfound ≤ 1) (hgl : gl ≤ 1) (hgsz : gsz ≤ 5) (hN : o + 401 ≤ N) (ha0 : a0 ≤ 7) (ha1 : a1 ≤ 399) (ha2 : a2 ≤ 13) (hq0 : gz_ok gc fs2 fs3 fs4) (hq1 : a1 < gc) : Met l yX1_record vs_E_1_record1_25 ({ frames := 0, cells := 0, slots := 0, locals := 0 }) (va_Pc [.ref g, .int (nI a0), .int (nI a1), .int (nI a2)] (pu_B (dC, dI) ((gt0__w g gz g1 g2 g3 g4 g5 (nI gc) (nI gfull) gx gway gav ggoal (nI gfound) 400 (nI gl) (nI gsz) g16 g17 k_fgz (zs o 401 az) k_fs1 (bN 7 q_fs1) k_fs2 fs2 k_fs3 fs3 k_fs4 fs4 k_fs5 fs5 k_fhi fhi k_flo flo) ++ zp 5 25 N az ac kz qs fz) ((gt0__t k_fgz k_fs1 k_fs2 k_fs3 k_fs4 k_fs5 k_fhi k_flo) ++ zt N kz) sz)) (va_Qv (fun (_ : Unit) => True) (fun _ t => ∃ (z_fs1 : Nat → Nat) (z_fs2 : Nat → Int32) (z_fs3 : Nat → Int32) (z_fs4 : Nat → Int32) (z_fs5 : Nat → Int32) (z_gfound : Nat), pu_E (dC, dI) ((gt0__w g gz g1 g2 g3 g4 g5 (nI (gc + 1)) (nI gfull) gx gway gav ggoal (nI z_gfound) 400 (nI gl) (nI gsz) g16 g17 k_fgz (zs o 401 az) k_fs1 (bN 7 z_fs1) k_fs2 z_fs2 k_fs3 z_fs3 k_fs4 z_fs4 k_fs5 z_fs5 k_fhi fhi k_flo flo) ++ zp 5 25 N az ac kz qs fz) ((gt0__t k_fgz k_fs1 k_fs2 k_fs3 k_fs4 k_fs5 k_fhi k_flo) ++ zt N kz) (va_A (((gt0__w g gz g1 g2 g3 g4 g5 (nI gc) (nI gfull) gx gway gav ggoal (nI gfound) 400 (nI gl) (nI gsz) g16 g17 k_fgz (zs o 401 az) k_fs1 (bN 7 q_fs1) k_fs2 fs2 k_fs3 fs3 k_fs4 fs4 k_fs5 fs5 k_fhi fhi k_flo flo) ++ zp 5 25 N az ac kz qs fz)) sz) t ∧ (z_gfound ≤ 1) ∧ (gz_ok (gc + 1) z_fs2 z_fs3 z_fs4) ∧ ((z_fs1, z_fs2, z_fs3, z_fs4, z_fs5, z_gfound) = (sp_E_1_record1_25 gc ggoal gfound q_fs1 fs2 fs3 fs4 fs5 a0 a1 a2))) (va_A (((gt0__w g gz g1 g2 g3 g4 g5 (nI gc) (nI gfull) gx gway gav ggoal (nI gfound) 400 (nI gl) (nI gsz) g16 g17 k_fgz (zs o 401 az) k_fs1 (bN 7 q_fs1) k_fs2 fs2 k_fs3 fs3 k_fs4 fs4 k_fs5 fs5 k_fhi fhi k_flo flo) ++ zp 5 25 N az ac kz qs fz)) sz)) 0 0 (va_A (((gt0__w g gz g1 g2 g3 g4 g5 (nI gc) (nI gfull) gx gway gav ggoal (nI gfound) 400 (nI gl) (nI gsz) g16 g17 k_fgz (zs o 401 az) k_fs1 (bN 7 q_fs1) k_fs2 fs2 k_fs3 fs3 k_fs4 fs4 k_fs5 fs5 k_fhi fhi k_flo flo) ++ zp 5 25 N az ac kz qs fz)) sz) := by
  refine Met.ofW (cc := cX1_record) (maxL := 4) (ret := none) (by decide) rfl ?_
  intro p e s m args below meth c s₁ B hml hv
  obtain ⟨rfl, rfl, hP, hK, hD0⟩ := hv
  have hx := B.exec
  have hb := B.bytes
  have hr := B.returns
  have hts := atoms_spec (ws := vs_E_1_record1_25) B.pre
  have v_1 := hts (.fieldLink RX1 24 "ClockReach$Graph" "sites" "[I") (List.mem_cons_of_mem _ cm_115)
  have v_2 := hts (.fieldLink RX1 79 "ClockReach$Graph" "count" "I") (List.mem_cons_of_mem _ cm_89)
  have v_3 := hts (.fieldLink RX1 28 "ClockReach$Graph" "parents" "[I") (List.mem_cons_of_mem _ cm_116)
  have v_4 := hts (.fieldLink RX1 31 "ClockReach$Graph" "entries" "[I") (List.mem_cons_of_mem _ cm_117)
  have v_5 := hts (.fieldLink RX1 34 "ClockReach$Graph" "depths" "[I") (List.mem_cons_of_mem _ cm_118)
  have v_6 := hts (.fieldLink RX1 37 "ClockReach$Graph" "broods" "[I") (List.mem_cons_of_mem _ cm_119)
  have v_7 := hts (.fieldLink RX1 59 "ClockReach$Graph" "goal" "I") (List.mem_cons_of_mem _ cm_80)
  have v_8 := hts (.fieldLink RX1 62 "ClockReach$Graph" "found" "Z") (List.mem_cons_of_mem _ cm_81)
  have hown : s.vm.findClass RX1 = some m.cls := findClass_of_methodNamed B.named
  have hlocks := B.notSynchronized
  have hiX1 : ∀ w ∈ wsX10, w ∈ vs_E_1_record1_25 := fun _ h => List.mem_cons_of_mem _ (cm_X1 h)
  have hD := hD0.self (sz := s.heap.size)
  generalize hAe : va_A (((gt0__w g gz g1 g2 g3 g4 g5 (nI gc) (nI gfull) gx gway gav ggoal (nI gfound) 400 (nI gl) (nI gsz) g16 g17 k_fgz (zs o 401 az) k_fs1 (bN 7 q_fs1) k_fs2 fs2 k_fs3 fs3 k_fs4 fs4 k_fs5 fs5 k_fhi fhi k_flo flo) ++ zp 5 25 N az ac kz qs fz)) s.heap.size = A at hD ⊢
  have hA : ∀ q : Nat, s.heap.size ≤ q → A q := fun q h => by rw [← hAe]; exact Or.inr h
  have hS : va_S A s.heap s.heap [] := va_S.rf
  have hl := lv_entry ([.ref g, .int (nI a0), .int (nI a1), .int (nI a2)]) (n := 4) (Nat.le_of_ble_eq_true rfl)
  rw [lg_entry_eq]
  generalize (lg_sl ([.ref g, .int (nI a0), .int (nI a1), .int (nI a2)]) ++ List.replicate (4 - (lg_sl ([.ref g, .int (nI a0), .int (nI a1), .int (nI a2)])).length) Slot.unset).toArray = ls at hl ⊢
  have hl : lv_has ls 4 [(0, .ref g), (1, .int (nI a0)), (2, .int (nI a1)), (3, .int (nI a2))] := hl
  obtain ⟨RR, hRR⟩ : ∃ x, x = (sp_E_1_record1_25 gc ggoal gfound q_fs1 fs2 fs3 fs4 fs5 a0 a1 a2) := ⟨_, rfl⟩
  have hsp := hRR
  refine lv_aload_n hx hb eX1_record_0 rfl (lv_at hl 0 rfl) ?_
  refine va_get (D := (dC, dI)) (ci := 1) (v := .ref g1) (C := RX1) (T := TX1) (N := 18) hx hb hts hiX1 hown hK hP 0 rfl rfl 1 (by decide) v_1 (fun _ h9 => h9) rfl eX1_record_1 ?_
  refine lv_aload_n hx hb eX1_record_4 rfl (lv_at hl 0 rfl) ?_
  refine va_get (D := (dC, dI)) (ci := 1) (v := .int (nI gc)) (C := RX1) (T := TX1) (N := 18) hx hb hts hiX1 hown hK hP 0 rfl rfl 6 (by decide) v_2 (fun _ h9 => h9) rfl eX1_record_5 ?_
  refine lv_iload_n hx hb eX1_record_8 rfl (lv_at hl 1 rfl) ?_
  refine va_iast hx hb hK hP hD hS 2 1 rfl rfl (vp_in_nI (n := gc) (Nat.lt_of_le_of_lt hgc (Nat.le_of_ble_eq_true rfl)) (Nat.le_of_ble_eq_true rfl)) eX1_record_9 (fun H locs hP hD hS => ?_)
  obtain ⟨q_1, eq_1, kq_1, oq_1, xq_1⟩ := bN_upx 7 q_fs1 (n := gc) (v := a0) (Nat.lt_of_le_of_lt hgc (Nat.le_of_ble_eq_true rfl)) ha0
  have hP : va_P (dC, dI) vwCl ((gt0__w g gz g1 g2 g3 g4 g5 (nI gc) (nI gfull) gx gway gav ggoal (nI gfound) 400 (nI gl) (nI gsz) g16 g17 k_fgz (zs o 401 az) k_fs1 (bN 7 q_1) k_fs2 fs2 k_fs3 fs3 k_fs4 fs4 k_fs5 fs5 k_fhi fhi k_flo flo) ++ zp 5 25 N az ac kz qs fz) H := by rw [← eq_1]; exact hP
  have hD : va_D A ((gt0__w g gz g1 g2 g3 g4 g5 (nI gc) (nI gfull) gx gway gav ggoal (nI gfound) 400 (nI gl) (nI gsz) g16 g17 k_fgz (zs o 401 az) k_fs1 (bN 7 q_1) k_fs2 fs2 k_fs3 fs3 k_fs4 fs4 k_fs5 fs5 k_fhi fhi k_flo flo) ++ zp 5 25 N az ac kz qs fz) := by rw [← eq_1]; exact hD
  have hsp := hsp.trans (slet_eq xq_1)
  refine lv_aload_n hx hb eX1_record_10 rfl (lv_at hl 0 rfl) ?_
  refine va_get (D := (dC, dI)) (ci := 1) (v := .ref g2) (C := RX1) (T := TX1) (N := 18) hx hb hts hiX1 hown hK hP 0 rfl rfl 2 (by decide) v_3 (fun _ h9 => h9) rfl eX1_record_11 ?_
  refine lv_aload_n hx hb eX1_record_14 rfl (lv_at hl 0 rfl) ?_
  refine va_get (D := (dC, dI)) (ci := 1) (v := .int (nI gc)) (C := RX1) (T := TX1) (N := 18) hx hb hts hiX1 hown hK hP 0 rfl rfl 6 (by decide) v_2 (fun _ h9 => h9) rfl eX1_record_15 ?_
  refine lv_iload_n hx hb eX1_record_18 rfl (lv_at hl 2 rfl) ?_
  refine va_iast hx hb hK hP hD hS 3 2 rfl rfl (vp_in_nI (n := gc) (Nat.lt_of_le_of_lt hgc (Nat.le_of_ble_eq_true rfl)) (Nat.le_of_ble_eq_true rfl)) eX1_record_19 (fun H locs hP hD hS => ?_)
  obtain ⟨f_2, ef_2, xf_2⟩ := up_x fs2 (n := gc) (nI a1) (Nat.lt_of_le_of_lt hgc (Nat.le_of_ble_eq_true rfl))
  have hP : va_P (dC, dI) vwCl ((gt0__w g gz g1 g2 g3 g4 g5 (nI gc) (nI gfull) gx gway gav ggoal (nI gfound) 400 (nI gl) (nI gsz) g16 g17 k_fgz (zs o 401 az) k_fs1 (bN 7 q_1) k_fs2 f_2 k_fs3 fs3 k_fs4 fs4 k_fs5 fs5 k_fhi fhi k_flo flo) ++ zp 5 25 N az ac kz qs fz) H := by rw [← ef_2]; exact hP
  have hD : va_D A ((gt0__w g gz g1 g2 g3 g4 g5 (nI gc) (nI gfull) gx gway gav ggoal (nI gfound) 400 (nI gl) (nI gsz) g16 g17 k_fgz (zs o 401 az) k_fs1 (bN 7 q_1) k_fs2 f_2 k_fs3 fs3 k_fs4 fs4 k_fs5 fs5 k_fhi fhi k_flo flo) ++ zp 5 25 N az ac kz qs fz) := by rw [← ef_2]; exact hD
  have hsp := hsp.trans (slet_eq xf_2)
  refine lv_aload_n hx hb eX1_record_20 rfl (lv_at hl 0 rfl) ?_
  refine va_get (D := (dC, dI)) (ci := 1) (v := .ref g3) (C := RX1) (T := TX1) (N := 18) hx hb hts hiX1 hown hK hP 0 rfl rfl 3 (by decide) v_4 (fun _ h9 => h9) rfl eX1_record_21 ?_
  refine lv_aload_n hx hb eX1_record_24 rfl (lv_at hl 0 rfl) ?_
  refine va_get (D := (dC, dI)) (ci := 1) (v := .int (nI gc)) (C := RX1) (T := TX1) (N := 18) hx hb hts hiX1 hown hK hP 0 rfl rfl 6 (by decide) v_2 (fun _ h9 => h9) rfl eX1_record_25 ?_
  refine lv_iload_n hx hb eX1_record_28 rfl (lv_at hl 3 rfl) ?_
  refine va_iast hx hb hK hP hD hS 4 3 rfl rfl (vp_in_nI (n := gc) (Nat.lt_of_le_of_lt hgc (Nat.le_of_ble_eq_true rfl)) (Nat.le_of_ble_eq_true rfl)) eX1_record_29 (fun H locs hP hD hS => ?_)
  obtain ⟨f_3, ef_3, xf_3⟩ := up_x fs3 (n := gc) (nI a2) (Nat.lt_of_le_of_lt hgc (Nat.le_of_ble_eq_true rfl))
  have hP : va_P (dC, dI) vwCl ((gt0__w g gz g1 g2 g3 g4 g5 (nI gc) (nI gfull) gx gway gav ggoal (nI gfound) 400 (nI gl) (nI gsz) g16 g17 k_fgz (zs o 401 az) k_fs1 (bN 7 q_1) k_fs2 f_2 k_fs3 f_3 k_fs4 fs4 k_fs5 fs5 k_fhi fhi k_flo flo) ++ zp 5 25 N az ac kz qs fz) H := by rw [← ef_3]; exact hP
  have hD : va_D A ((gt0__w g gz g1 g2 g3 g4 g5 (nI gc) (nI gfull) gx gway gav ggoal (nI gfound) 400 (nI gl) (nI gsz) g16 g17 k_fgz (zs o 401 az) k_fs1 (bN 7 q_1) k_fs2 f_2 k_fs3 f_3 k_fs4 fs4 k_fs5 fs5 k_fhi fhi k_flo flo) ++ zp 5 25 N az ac kz qs fz) := by rw [← ef_3]; exact hD
  have hsp := hsp.trans (slet_eq xf_3)
  refine lv_aload_n hx hb eX1_record_30 rfl (lv_at hl 0 rfl) ?_
  refine va_get (D := (dC, dI)) (ci := 1) (v := .ref g4) (C := RX1) (T := TX1) (N := 18) hx hb hts hiX1 hown hK hP 0 rfl rfl 4 (by decide) v_5 (fun _ h9 => h9) rfl eX1_record_31 ?_
  refine lv_aload_n hx hb eX1_record_34 rfl (lv_at hl 0 rfl) ?_
  refine va_get (D := (dC, dI)) (ci := 1) (v := .int (nI gc)) (C := RX1) (T := TX1) (N := 18) hx hb hts hiX1 hown hK hP 0 rfl rfl 6 (by decide) v_2 (fun _ h9 => h9) rfl eX1_record_35 ?_
  refine lv_iconst (v := 0) hx hb eX1_record_38 (by decide) ?_
  refine va_iast hx hb hK hP hD hS 5 4 rfl rfl (vp_in_nI (n := gc) (Nat.lt_of_le_of_lt hgc (Nat.le_of_ble_eq_true rfl)) (Nat.le_of_ble_eq_true rfl)) eX1_record_39 (fun H locs hP hD hS => ?_)
  obtain ⟨f_4, ef_4, xf_4⟩ := up_x fs4 (n := gc) 0 (Nat.lt_of_le_of_lt hgc (Nat.le_of_ble_eq_true rfl))
  have hP : va_P (dC, dI) vwCl ((gt0__w g gz g1 g2 g3 g4 g5 (nI gc) (nI gfull) gx gway gav ggoal (nI gfound) 400 (nI gl) (nI gsz) g16 g17 k_fgz (zs o 401 az) k_fs1 (bN 7 q_1) k_fs2 f_2 k_fs3 f_3 k_fs4 f_4 k_fs5 fs5 k_fhi fhi k_flo flo) ++ zp 5 25 N az ac kz qs fz) H := by rw [← ef_4]; exact hP
  have hD : va_D A ((gt0__w g gz g1 g2 g3 g4 g5 (nI gc) (nI gfull) gx gway gav ggoal (nI gfound) 400 (nI gl) (nI gsz) g16 g17 k_fgz (zs o 401 az) k_fs1 (bN 7 q_1) k_fs2 f_2 k_fs3 f_3 k_fs4 f_4 k_fs5 fs5 k_fhi fhi k_flo flo) ++ zp 5 25 N az ac kz qs fz) := by rw [← ef_4]; exact hD
  have hsp := hsp.trans (slet_eq xf_4)
  refine lv_aload_n hx hb eX1_record_40 rfl (lv_at hl 0 rfl) ?_
  refine va_get (D := (dC, dI)) (ci := 1) (v := .ref g5) (C := RX1) (T := TX1) (N := 18) hx hb hts hiX1 hown hK hP 0 rfl rfl 5 (by decide) v_6 (fun _ h9 => h9) rfl eX1_record_41 ?_
  refine lv_aload_n hx hb eX1_record_44 rfl (lv_at hl 0 rfl) ?_
  refine va_get (D := (dC, dI)) (ci := 1) (v := .int (nI gc)) (C := RX1) (T := TX1) (N := 18) hx hb hts hiX1 hown hK hP 0 rfl rfl 6 (by decide) v_2 (fun _ h9 => h9) rfl eX1_record_45 ?_
  refine lv_iconst (v := 0) hx hb eX1_record_48 (by decide) ?_
  refine va_iast hx hb hK hP hD hS 6 5 rfl rfl (vp_in_nI (n := gc) (Nat.lt_of_le_of_lt hgc (Nat.le_of_ble_eq_true rfl)) (Nat.le_of_ble_eq_true rfl)) eX1_record_49 (fun H locs hP hD hS => ?_)
  obtain ⟨f_5, ef_5, xf_5⟩ := up_x fs5 (n := gc) 0 (Nat.lt_of_le_of_lt hgc (Nat.le_of_ble_eq_true rfl))
  have hP : va_P (dC, dI) vwCl ((gt0__w g gz g1 g2 g3 g4 g5 (nI gc) (nI gfull) gx gway gav ggoal (nI gfound) 400 (nI gl) (nI gsz) g16 g17 k_fgz (zs o 401 az) k_fs1 (bN 7 q_1) k_fs2 f_2 k_fs3 f_3 k_fs4 f_4 k_fs5 f_5 k_fhi fhi k_flo flo) ++ zp 5 25 N az ac kz qs fz) H := by rw [← ef_5]; exact hP
  have hD : va_D A ((gt0__w g gz g1 g2 g3 g4 g5 (nI gc) (nI gfull) gx gway gav ggoal (nI gfound) 400 (nI gl) (nI gsz) g16 g17 k_fgz (zs o 401 az) k_fs1 (bN 7 q_1) k_fs2 f_2 k_fs3 f_3 k_fs4 f_4 k_fs5 f_5 k_fhi fhi k_flo flo) ++ zp 5 25 N az ac kz qs fz) := by rw [← ef_5]; exact hD
  have hsp := hsp.trans (slet_eq xf_5)
  refine lv_iload_n hx hb eX1_record_50 rfl (lv_at hl 2 rfl) ?_
  refine lv_iconst (v := (-1)) hx hb eX1_record_51 (by decide) ?_
  refine lv_icmp_eq (tgt := 82) hx hb eX1_record_52 (by decide) (fun z => absurd z (pu_nneg (n := a1) (by omega) (by decide))) (fun _ => ?_)
  refine lv_aload_n hx hb eX1_record_55 rfl (lv_at hl 0 rfl) ?_
  refine va_get (D := (dC, dI)) (ci := 1) (v := .ref g4) (C := RX1) (T := TX1) (N := 18) hx hb hts hiX1 hown hK hP 0 rfl rfl 4 (by decide) v_5 (fun _ h9 => h9) rfl eX1_record_56 ?_
  refine lv_aload_n hx hb eX1_record_59 rfl (lv_at hl 0 rfl) ?_
  refine va_get (D := (dC, dI)) (ci := 1) (v := .int (nI gc)) (C := RX1) (T := TX1) (N := 18) hx hb hts hiX1 hown hK hP 0 rfl rfl 6 (by decide) v_2 (fun _ h9 => h9) rfl eX1_record_60 ?_
  refine lv_aload_n hx hb eX1_record_63 rfl (lv_at hl 0 rfl) ?_
  refine va_get (D := (dC, dI)) (ci := 1) (v := .ref g4) (C := RX1) (T := TX1) (N := 18) hx hb hts hiX1 hown hK hP 0 rfl rfl 4 (by decide) v_5 (fun _ h9 => h9) rfl eX1_record_64 ?_
  refine lv_iload_n hx hb eX1_record_67 rfl (lv_at hl 2 rfl) ?_
  refine va_iald hx hb hK hP 5 4 rfl rfl (vp_in_nI (n := a1) (Nat.lt_of_le_of_lt ha1 (Nat.le_of_ble_eq_true rfl)) (Nat.le_of_ble_eq_true rfl)) eX1_record_68 ?_
  refine lv_topi (fun y_6 ey_6 => ?_)
  have ey_6 : y_6 = f_4 a1 := ey_6.trans (congrArg f_4 (nI_clamp (n := a1) (Nat.lt_of_le_of_lt ha1 (Nat.le_of_ble_eq_true rfl))))
  have hsp := hsp.trans (slet_eq ey_6)
  refine lv_iconst (v := 1) hx hb eX1_record_69 (by decide) ?_
  refine lv_iadd hx hb eX1_record_70 ?_
  refine lv_topi (fun y_7 ey_7 => ?_)
  have hsp := hsp.trans (slet_eq ey_7)
  refine va_iast hx hb hK hP hD hS 5 4 rfl rfl (vp_in_nI (n := gc) (Nat.lt_of_le_of_lt hgc (Nat.le_of_ble_eq_true rfl)) (Nat.le_of_ble_eq_true rfl)) eX1_record_71 (fun H locs hP hD hS => ?_)
  obtain ⟨f_8, ef_8, xf_8⟩ := up_x f_4 (n := gc) y_7 (Nat.lt_of_le_of_lt hgc (Nat.le_of_ble_eq_true rfl))
  have hP : va_P (dC, dI) vwCl ((gt0__w g gz g1 g2 g3 g4 g5 (nI gc) (nI gfull) gx gway gav ggoal (nI gfound) 400 (nI gl) (nI gsz) g16 g17 k_fgz (zs o 401 az) k_fs1 (bN 7 q_1) k_fs2 f_2 k_fs3 f_3 k_fs4 f_8 k_fs5 f_5 k_fhi fhi k_flo flo) ++ zp 5 25 N az ac kz qs fz) H := by rw [← ef_8]; exact hP
  have hD : va_D A ((gt0__w g gz g1 g2 g3 g4 g5 (nI gc) (nI gfull) gx gway gav ggoal (nI gfound) 400 (nI gl) (nI gsz) g16 g17 k_fgz (zs o 401 az) k_fs1 (bN 7 q_1) k_fs2 f_2 k_fs3 f_3 k_fs4 f_8 k_fs5 f_5 k_fhi fhi k_flo flo) ++ zp 5 25 N az ac kz qs fz) := by rw [← ef_8]; exact hD
  have hsp := hsp.trans (slet_eq xf_8)
  refine lv_aload_n hx hb eX1_record_72 rfl (lv_at hl 0 rfl) ?_
  refine va_get (D := (dC, dI)) (ci := 1) (v := .ref g5) (C := RX1) (T := TX1) (N := 18) hx hb hts hiX1 hown hK hP 0 rfl rfl 5 (by decide) v_6 (fun _ h9 => h9) rfl eX1_record_73 ?_
  refine lv_iload_n hx hb eX1_record_76 rfl (lv_at hl 2 rfl) ?_
  refine lv_dup2_11 hx hb eX1_record_77 rfl rfl ?_
  refine va_iald hx hb hK hP 6 5 rfl rfl (vp_in_nI (n := a1) (Nat.lt_of_le_of_lt ha1 (Nat.le_of_ble_eq_true rfl)) (Nat.le_of_ble_eq_true rfl)) eX1_record_78 ?_
  refine lv_topi (fun y_9 ey_9 => ?_)
  have ey_9 : y_9 = f_5 a1 := ey_9.trans (congrArg f_5 (nI_clamp (n := a1) (Nat.lt_of_le_of_lt ha1 (Nat.le_of_ble_eq_true rfl))))
  have hsp := hsp.trans (slet_eq ey_9)
  refine lv_iconst (v := 1) hx hb eX1_record_79 (by decide) ?_
  refine lv_iadd hx hb eX1_record_80 ?_
  refine lv_topi (fun y_10 ey_10 => ?_)
  have hsp := hsp.trans (slet_eq ey_10)
  refine va_iast hx hb hK hP hD hS 6 5 rfl rfl (vp_in_nI (n := a1) (Nat.lt_of_le_of_lt ha1 (Nat.le_of_ble_eq_true rfl)) (Nat.le_of_ble_eq_true rfl)) eX1_record_81 (fun H locs hP hD hS => ?_)
  obtain ⟨f_11, ef_11, xf_11⟩ := up_x f_5 (n := a1) y_10 (Nat.lt_of_le_of_lt ha1 (Nat.le_of_ble_eq_true rfl))
  have hP : va_P (dC, dI) vwCl ((gt0__w g gz g1 g2 g3 g4 g5 (nI gc) (nI gfull) gx gway gav ggoal (nI gfound) 400 (nI gl) (nI gsz) g16 g17 k_fgz (zs o 401 az) k_fs1 (bN 7 q_1) k_fs2 f_2 k_fs3 f_3 k_fs4 f_8 k_fs5 f_11 k_fhi fhi k_flo flo) ++ zp 5 25 N az ac kz qs fz) H := by rw [← ef_11]; exact hP
  have hD : va_D A ((gt0__w g gz g1 g2 g3 g4 g5 (nI gc) (nI gfull) gx gway gav ggoal (nI gfound) 400 (nI gl) (nI gsz) g16 g17 k_fgz (zs o 401 az) k_fs1 (bN 7 q_1) k_fs2 f_2 k_fs3 f_3 k_fs4 f_8 k_fs5 f_11 k_fhi fhi k_flo flo) ++ zp 5 25 N az ac kz qs fz) := by rw [← ef_11]; exact hD
  have hsp := hsp.trans (slet_eq xf_11)
  refine lv_aload_n hx hb eX1_record_82 rfl (lv_at hl 0 rfl) ?_
  refine lv_dup hx hb eX1_record_83 rfl ?_
  refine va_get (D := (dC, dI)) (ci := 1) (v := .int (nI gc)) (C := RX1) (T := TX1) (N := 18) hx hb hts hiX1 hown hK hP 0 rfl rfl 6 (by decide) v_2 (fun _ h9 => h9) rfl eX1_record_84 ?_
  refine lv_iconst (v := 1) hx hb eX1_record_87 (by decide) ?_
  refine lv_iadd hx hb eX1_record_88 ?_
  refine lv_topi (fun y_12 ey_12 => ?_)
  obtain rfl : y_12 = (nI (gc + 1)) := ey_12.trans (nI_add gc 1)
  refine va_put (D := (dC, dI)) (ci := 1) (v := .int (nI (gc + 1))) (ty := .int) (C := RX1) (T := TX1) (N := 18) hx hb hts hiX1 tyX1 tyX1_ok nmX1 hown hK hP hD hS 0 rfl rfl 6 (by decide) v_2 (fun _ h9 => h9) rfl (by decide +kernel) rfl rfl (Nat.le_of_ble_eq_true rfl) eX1_record_89 (fun H locs hP hD hS => ?_)
  have hP : va_P (dC, dI) vwCl ((gt0__w g gz g1 g2 g3 g4 g5 (nI (gc + 1)) (nI gfull) gx gway gav ggoal (nI gfound) 400 (nI gl) (nI gsz) g16 g17 k_fgz (zs o 401 az) k_fs1 (bN 7 q_1) k_fs2 f_2 k_fs3 f_3 k_fs4 f_8 k_fs5 f_11 k_fhi fhi k_flo flo) ++ zp 5 25 N az ac kz qs fz) H := hP
  have hD : va_D A ((gt0__w g gz g1 g2 g3 g4 g5 (nI (gc + 1)) (nI gfull) gx gway gav ggoal (nI gfound) 400 (nI gl) (nI gsz) g16 g17 k_fgz (zs o 401 az) k_fs1 (bN 7 q_1) k_fs2 f_2 k_fs3 f_3 k_fs4 f_8 k_fs5 f_11 k_fhi fhi k_flo flo) ++ zp 5 25 N az ac kz qs fz) := hD
  refine lv_iload_n hx hb eX1_record_92 rfl (lv_at hl 1 rfl) ?_
  refine lv_aload_n hx hb eX1_record_93 rfl (lv_at hl 0 rfl) ?_
  refine va_get (D := (dC, dI)) (ci := 1) (v := .int ggoal) (C := RX1) (T := TX1) (N := 18) hx hb hts hiX1 hown hK hP 0 rfl rfl 11 (by decide) v_7 (fun _ h9 => h9) rfl eX1_record_94 ?_
  refine lv_icmp_ne (tgt := 105) hx hb eX1_record_97 (by decide) (fun c_13 => ?_) (fun c_13 => ?_)
  · have hcc_13 := c_13
    have hsp := hsp.trans (if_neg c_13)
    exact W.vret hx hb hr (fun t ht hW => ⟨⟨(), rfl, trivial, ⟨q_1, f_2, f_3, f_8, f_11, gfound, ⟨by rw [ht]; exact hP, va_K.moved hW.alike hK, hD⟩, hgfound, by simp only [xf_2, xf_3, xf_8, xf_4, ey_7, ey_6]; exact gz_recx hq0 (by omega) (by omega) (by omega), (hsp.symm.trans hRR)⟩⟩, hS.F ht⟩) hS.2.2 eX1_record_105
  · have hcc_13 := c_13
    have hsp := hsp.trans (if_pos c_13)
    refine lv_aload_n hx hb eX1_record_100 rfl (lv_at hl 0 rfl) ?_
    refine lv_iconst (v := 1) hx hb eX1_record_101 (by decide) ?_
    refine va_put (D := (dC, dI)) (ci := 1) (v := .int 1) (ty := .boolean) (C := RX1) (T := TX1) (N := 18) hx hb hts hiX1 tyX1 tyX1_ok nmX1 hown hK hP hD hS 0 rfl rfl 12 (by decide) v_8 (fun _ h9 => h9) rfl (by decide +kernel) rfl rfl (Nat.le_of_ble_eq_true rfl) eX1_record_102 (fun H locs hP hD hS => ?_)
    have hP : va_P (dC, dI) vwCl ((gt0__w g gz g1 g2 g3 g4 g5 (nI (gc + 1)) (nI gfull) gx gway gav ggoal 1 400 (nI gl) (nI gsz) g16 g17 k_fgz (zs o 401 az) k_fs1 (bN 7 q_1) k_fs2 f_2 k_fs3 f_3 k_fs4 f_8 k_fs5 f_11 k_fhi fhi k_flo flo) ++ zp 5 25 N az ac kz qs fz) H := hP
    have hD : va_D A ((gt0__w g gz g1 g2 g3 g4 g5 (nI (gc + 1)) (nI gfull) gx gway gav ggoal 1 400 (nI gl) (nI gsz) g16 g17 k_fgz (zs o 401 az) k_fs1 (bN 7 q_1) k_fs2 f_2 k_fs3 f_3 k_fs4 f_8 k_fs5 f_11 k_fhi fhi k_flo flo) ++ zp 5 25 N az ac kz qs fz) := hD
    exact W.vret hx hb hr (fun t ht hW => ⟨⟨(), rfl, trivial, ⟨q_1, f_2, f_3, f_8, f_11, 1, ⟨by rw [ht]; exact hP, va_K.moved hW.alike hK, hD⟩, (Nat.le_of_ble_eq_true rfl), by simp only [xf_2, xf_3, xf_8, xf_4, ey_7, ey_6]; exact gz_recx hq0 (by omega) (by omega) (by omega), (hsp.symm.trans hRR)⟩⟩, hS.F ht⟩) hS.2.2 eX1_record_105
