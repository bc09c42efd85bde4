theorem eX6_loadRun_0 : decode cX6_loadRun 0 = .ok (.aload_n 0, 1) := by decide +kernel
theorem eX6_loadRun_1 : decode cX6_loadRun 1 = .ok (.aload_n 1, 1) := by decide +kernel
theorem eX6_loadRun_2 : decode cX6_loadRun 2 = .ok (.getfield 42, 3) := by decide +kernel
theorem eX6_loadRun_5 : decode cX6_loadRun 5 = .ok (.iload_n 2, 1) := by decide +kernel
theorem eX6_loadRun_6 : decode cX6_loadRun 6 = .ok (.iaload, 1) := by decide +kernel
theorem eX6_loadRun_7 : decode cX6_loadRun 7 = .ok (.putfield 47, 3) := by decide +kernel
theorem eX6_loadRun_10 : decode cX6_loadRun 10 = .ok (.iload_n 2, 1) := by decide +kernel
theorem eX6_loadRun_11 : decode cX6_loadRun 11 = .ok (.istore_n 3, 1) := by decide +kernel
theorem eX6_loadRun_12 : decode cX6_loadRun 12 = .ok (.aload_n 0, 1) := by decide +kernel
theorem eX6_loadRun_13 : decode cX6_loadRun 13 = .ok (.getfield 47, 3) := by decide +kernel
theorem eX6_loadRun_16 : decode cX6_loadRun 16 = .ok (.iconst 1, 1) := by decide +kernel
theorem eX6_loadRun_17 : decode cX6_loadRun 17 = .ok (.isub, 1) := by decide +kernel
theorem eX6_loadRun_18 : decode cX6_loadRun 18 = .ok (.istore 4, 2) := by decide +kernel
theorem eX6_loadRun_20 : decode cX6_loadRun 20 = .ok (.iload 4, 2) := by decide +kernel
theorem eX6_loadRun_22 : decode cX6_loadRun 22 = .ok (.ifCond .lt 29, 3) := by decide +kernel
theorem eX6_loadRun_25 : decode cX6_loadRun 25 = .ok (.aload_n 0, 1) := by decide +kernel
theorem eX6_loadRun_26 : decode cX6_loadRun 26 = .ok (.getfield 9, 3) := by decide +kernel
theorem eX6_loadRun_29 : decode cX6_loadRun 29 = .ok (.iload 4, 2) := by decide +kernel
theorem eX6_loadRun_31 : decode cX6_loadRun 31 = .ok (.aload_n 1, 1) := by decide +kernel
theorem eX6_loadRun_32 : decode cX6_loadRun 32 = .ok (.getfield 51, 3) := by decide +kernel
theorem eX6_loadRun_35 : decode cX6_loadRun 35 = .ok (.iload_n 3, 1) := by decide +kernel
theorem eX6_loadRun_36 : decode cX6_loadRun 36 = .ok (.iaload, 1) := by decide +kernel
theorem eX6_loadRun_37 : decode cX6_loadRun 37 = .ok (.iastore, 1) := by decide +kernel
theorem eX6_loadRun_38 : decode cX6_loadRun 38 = .ok (.aload_n 1, 1) := by decide +kernel
theorem eX6_loadRun_39 : decode cX6_loadRun 39 = .ok (.getfield 54, 3) := by decide +kernel
theorem eX6_loadRun_42 : decode cX6_loadRun 42 = .ok (.iload_n 3, 1) := by decide +kernel
theorem eX6_loadRun_43 : decode cX6_loadRun 43 = .ok (.iaload, 1) := by decide +kernel
theorem eX6_loadRun_44 : decode cX6_loadRun 44 = .ok (.istore_n 3, 1) := by decide +kernel
theorem eX6_loadRun_45 : decode cX6_loadRun 45 = .ok (.iinc 4 (-1), 3) := by decide +kernel
theorem eX6_loadRun_48 : decode cX6_loadRun 48 = .ok (.goto (-28), 3) := by decide +kernel
theorem eX6_loadRun_51 : decode cX6_loadRun 51 = .ok (.return_, 1) := by decide +kernel
abbrev vs_E_6_loadRun : List Cond := .code yX6_loadRun cX6_loadRun 5 none :: CM
noncomputable def sp_E_6_loadRun_L1 (fs2 : Nat → Int32) (fs3 : Nat → Int32) (d_1 : Nat) : (Nat × Nat × (Nat → Nat)) → (Nat × Nat × (Nat → Nat)) ⊕ ((Nat → Nat) × Nat) := fun (kk_3, ss_4, q_5) => (if kk_3 = 0 then (Sum.inr (q_5, d_1)) else (slet (kk_3 - 1) (fun kk_3 => (slet ((fs2 ss_4 : Int32).toNatClampNeg) (fun pp_12 => (slet ((fs3 ss_4 : Int32).toNatClampNeg) (fun ee_13 => (slet (updN q_5 kk_3 ee_13) (fun q_16 => (Sum.inl (kk_3, pp_12, q_16)))))))))))
noncomputable def sp_E_6_loadRun (q_j0 : Nat → Nat) (fs2 : Nat → Int32) (fs3 : Nat → Int32) (fs4 : Nat → Int32) (a1 : Nat) : (Nat → Nat) × Nat := (slet ((fs4 a1 : Int32).toNatClampNeg) (fun d_1 => (itrv (α := Nat × Nat × (Nat → Nat)) (β := ((Nat → Nat) × Nat)) default (sp_E_6_loadRun_L1 fs2 fs3 d_1) (d_1, a1, q_j0))))
set_option maxHeartbeats 4000000 in
set_option maxRecDepth 100000 in
theorem c_E_6_loadRun (l : Launch) (dC : Nat → ClassId) (dI : Nat → Nat → Nat) (sz : Nat) (ti : Nat) (r0 : Nat) (ln : Nat) (r2 : Nat) (r3 : Nat) (r4 : Nat) (r5 : Nat) (nr : Nat) (r7 : Nat) (r8 : Nat) (tz : Nat) (k_j0 : ClassId) (q_j0 : Nat → Nat) (k_j2 : ClassId) (j2 : Nat → Int32) (k_j3 : ClassId) (q_j3 : Nat → Nat) (k_j4 : ClassId) (q_j4 : Nat → Nat) (k_j5 : ClassId) (j5 : Nat → Int32) (k_j7 : ClassId) (q_j7 : Nat → Nat) (k_j8 : ClassId) (j8 : Nat → Int32) (g : Nat) (gz : Nat) (g1 : Nat) (g2 : Nat) (g3 : Nat) (g4 : Nat) (g5 : Nat) (gc : Nat) (gfull : Nat) (gx : Int32) (gway : Int32) (gav : Int32) (ggoal : Int32) (gfound : Nat) (gl : Nat) (gsz : Nat) (g16 : Nat) (g17 : Nat) (k_fs2 : ClassId) (fs2 : Nat → Int32) (k_fs3 : ClassId) (fs3 : Nat → Int32) (k_fs4 : ClassId) (fs4 : Nat → Int32) (a1 : Nat) (hln : ln ≤ 119) (hnr : nr ≤ 1920) (hgc : gc ≤ 120) (hgfull : gfull ≤ 1) (hgfound : gfound ≤ 1) (hgl : gl ≤ 1) (hgsz : gsz ≤ 4) (ha1 : a1 ≤ 119) (hq0 : gz_ok gc fs2 fs3 fs4) (hq1 : a1 < gc) : Met l yX6_loadRun vs_E_6_loadRun ({ frames := 0, cells := 0, slots := 0, locals := 0 }) (va_Pc [.ref ti, .ref g, .int (nI a1)] (pu_B (dC, dI) (tg__w ti r0 (nI ln) r2 r3 r4 r5 (nI nr) r7 r8 tz k_j0 (bN 13 q_j0) k_j2 j2 k_j3 (bN 120 q_j3) k_j4 (bN 120 q_j4) k_j5 j5 k_j7 (bN 120 q_j7) k_j8 j8 g gz g1 g2 g3 g4 g5 (nI gc) (nI gfull) gx gway gav ggoal (nI gfound) 120 (nI gl) (nI gsz) g16 g17 k_fs2 fs2 k_fs3 fs3 k_fs4 fs4) (tg__t k_j0 k_j2 k_j3 k_j4 k_j5 k_j7 k_j8 k_fs2 k_fs3 k_fs4) sz)) (va_Qv (fun (_ : Unit) => True) (fun _ t => ∃ (z_j0 : Nat → Nat) (z_ln : Nat), pu_E (dC, dI) (tg__w ti r0 (nI z_ln) r2 r3 r4 r5 (nI nr) r7 r8 tz k_j0 (bN 13 z_j0) k_j2 j2 k_j3 (bN 120 q_j3) k_j4 (bN 120 q_j4) k_j5 j5 k_j7 (bN 120 q_j7) k_j8 j8 g gz g1 g2 g3 g4 g5 (nI gc) (nI gfull) gx gway gav ggoal (nI gfound) 120 (nI gl) (nI gsz) g16 g17 k_fs2 fs2 k_fs3 fs3 k_fs4 fs4) (tg__t k_j0 k_j2 k_j3 k_j4 k_j5 k_j7 k_j8 k_fs2 k_fs3 k_fs4) (va_A ((tg__w ti r0 (nI ln) r2 r3 r4 r5 (nI nr) r7 r8 tz k_j0 (bN 13 q_j0) k_j2 j2 k_j3 (bN 120 q_j3) k_j4 (bN 120 q_j4) k_j5 j5 k_j7 (bN 120 q_j7) k_j8 j8 g gz g1 g2 g3 g4 g5 (nI gc) (nI gfull) gx gway gav ggoal (nI gfound) 120 (nI gl) (nI gsz) g16 g17 k_fs2 fs2 k_fs3 fs3 k_fs4 fs4)) sz) t ∧ (z_ln ≤ 119) ∧ ((z_j0, z_ln) = (sp_E_6_loadRun q_j0 fs2 fs3 fs4 a1))) (va_A ((tg__w ti r0 (nI ln) r2 r3 r4 r5 (nI nr) r7 r8 tz k_j0 (bN 13 q_j0) k_j2 j2 k_j3 (bN 120 q_j3) k_j4 (bN 120 q_j4) k_j5 j5 k_j7 (bN 120 q_j7) k_j8 j8 g gz g1 g2 g3 g4 g5 (nI gc) (nI gfull) gx gway gav ggoal (nI gfound) 120 (nI gl) (nI gsz) g16 g17 k_fs2 fs2 k_fs3 fs3 k_fs4 fs4)) sz)) 0 0 (va_A ((tg__w ti r0 (nI ln) r2 r3 r4 r5 (nI nr) r7 r8 tz k_j0 (bN 13 q_j0) k_j2 j2 k_j3 (bN 120 q_j3) k_j4 (bN 120 q_j4) k_j5 j5 k_j7 (bN 120 q_j7) k_j8 j8 g gz g1 g2 g3 g4 g5 (nI gc) (nI gfull) gx gway gav ggoal (nI gfound) 120 (nI gl) (nI gsz) g16 g17 k_fs2 fs2 k_fs3 fs3 k_fs4 fs4)) sz) := by
  refine Met.ofW (cc := cX6_loadRun) (maxL := 5) (ret := none) (by decide) rfl ?_
  intro p e s m args below meth c s₁ B hml hv
  obtain ⟨rfl, rfl, hP, hK, hD0⟩ := hv
  have hx := B.exec
  have hb := B.bytes
  have hr := B.returns
  have hts := atoms_spec (ws := vs_E_6_loadRun) B.pre
  have v_1 := hts (.fieldLink RX6 42 "ClockReach$Graph" "depths" "[I") (List.mem_cons_of_mem _ cm_365)
  have v_2 := hts (.fieldLink RX6 47 "ClockReach$Timing" "length" "I") (List.mem_cons_of_mem _ cm_366)
  have v_3 := hts (.fieldLink RX6 9 "ClockReach$Timing" "path" "[I") (List.mem_cons_of_mem _ cm_367)
  have v_4 := hts (.fieldLink RX6 51 "ClockReach$Graph" "entries" "[I") (List.mem_cons_of_mem _ cm_368)
  have v_5 := hts (.fieldLink RX6 54 "ClockReach$Graph" "parents" "[I") (List.mem_cons_of_mem _ cm_369)
  have hown : s.vm.findClass RX6 = some m.cls := findClass_of_methodNamed B.named
  have hlocks := B.notSynchronized
  have hiX1 : ∀ w ∈ wsX10, w ∈ vs_E_6_loadRun := fun _ h => List.mem_cons_of_mem _ (cm_X1 h)
  have hiX6 : ∀ w ∈ wsX60, w ∈ vs_E_6_loadRun := fun _ h => List.mem_cons_of_mem _ (cm_X6 h)
  have hD := hD0.self (sz := s.heap.size)
  generalize hAe : va_A ((tg__w ti r0 (nI ln) r2 r3 r4 r5 (nI nr) r7 r8 tz k_j0 (bN 13 q_j0) k_j2 j2 k_j3 (bN 120 q_j3) k_j4 (bN 120 q_j4) k_j5 j5 k_j7 (bN 120 q_j7) k_j8 j8 g gz g1 g2 g3 g4 g5 (nI gc) (nI gfull) gx gway gav ggoal (nI gfound) 120 (nI gl) (nI gsz) g16 g17 k_fs2 fs2 k_fs3 fs3 k_fs4 fs4)) s.heap.size = A at hD ⊢
  have hA : ∀ q : Nat, s.heap.size ≤ q → A q := fun q h => by rw [← hAe]; exact Or.inr h
  have hS : va_S A s.heap s.heap [] := va_S.rf
  have hl := lv_entry ([.ref ti, .ref g, .int (nI a1)]) (n := 5) (Nat.le_of_ble_eq_true rfl)
  rw [lg_entry_eq]
  generalize (lg_sl ([.ref ti, .ref g, .int (nI a1)]) ++ List.replicate (5 - (lg_sl ([.ref ti, .ref g, .int (nI a1)])).length) Slot.unset).toArray = ls at hl ⊢
  have hl : lv_has ls 5 [(0, .ref ti), (1, .ref g), (2, .int (nI a1))] := hl
  obtain ⟨RR, hRR⟩ : ∃ x, x = (sp_E_6_loadRun q_j0 fs2 fs3 fs4 a1) := ⟨_, rfl⟩
  have hsp := hRR
  refine lv_aload_n hx hb eX6_loadRun_0 rfl (lv_at hl 0 rfl) ?_
  refine lv_aload_n hx hb eX6_loadRun_1 rfl (lv_at hl 1 rfl) ?_
  refine va_get (D := (dC, dI)) (ci := 1) (v := .ref g4) (C := RX1) (T := TX1) (N := 18) hx hb hts hiX1 hown hK hP 8 rfl rfl 4 (by decide) v_1 (fun _ h9 => h9) rfl eX6_loadRun_2 ?_
  refine lv_iload_n hx hb eX6_loadRun_5 rfl (lv_at hl 2 rfl) ?_
  obtain ⟨d_1, hd_1, fd_1, gd_1⟩ := gz_get hq0 (i := a1) (by omega) (by omega)
  have hsp := hsp.trans (slet_eq (by rw [gd_1]; exact nI_cl (n := d_1) (by omega) : d_1 = (fs4 a1 : Int32).toNatClampNeg))
  refine va_iald hx hb hK hP 11 9 rfl rfl (vp_in_nI (n := a1) (Nat.lt_of_le_of_lt ha1 (Nat.le_of_ble_eq_true rfl)) (Nat.le_of_ble_eq_true rfl)) eX6_loadRun_6 ?_
  refine lv_topi (fun y_2 ey_2 => ?_)
  obtain rfl : y_2 = nI d_1 := ey_2.trans fd_1
  refine va_put (D := (dC, dI)) (ci := 6) (v := .int (nI d_1)) (ty := .int) (C := RX6) (T := TX6) (N := 10) hx hb hts hiX6 tyX6 tyX6_ok nmX6 hown hK hP hD hS 0 rfl rfl 1 (by decide) v_2 (fun _ h9 => h9) rfl (by decide +kernel) rfl rfl (Nat.le_of_ble_eq_true rfl) eX6_loadRun_7 (fun H locs hP hD hS => ?_)
  have hP : va_P (dC, dI) vwCl (tg__w ti r0 (nI d_1) r2 r3 r4 r5 (nI nr) r7 r8 tz k_j0 (bN 13 q_j0) k_j2 j2 k_j3 (bN 120 q_j3) k_j4 (bN 120 q_j4) k_j5 j5 k_j7 (bN 120 q_j7) k_j8 j8 g gz g1 g2 g3 g4 g5 (nI gc) (nI gfull) gx gway gav ggoal (nI gfound) 120 (nI gl) (nI gsz) g16 g17 k_fs2 fs2 k_fs3 fs3 k_fs4 fs4) H := hP
  have hD : va_D A (tg__w ti r0 (nI d_1) r2 r3 r4 r5 (nI nr) r7 r8 tz k_j0 (bN 13 q_j0) k_j2 j2 k_j3 (bN 120 q_j3) k_j4 (bN 120 q_j4) k_j5 j5 k_j7 (bN 120 q_j7) k_j8 j8 g gz g1 g2 g3 g4 g5 (nI gc) (nI gfull) gx gway gav ggoal (nI gfound) 120 (nI gl) (nI gsz) g16 g17 k_fs2 fs2 k_fs3 fs3 k_fs4 fs4) := hD
  refine lv_iload_n hx hb eX6_loadRun_10 rfl (lv_at hl 2 rfl) ?_
  refine lv_istore_n (lv' := [(3, .int (nI a1)), (0, .ref ti), (1, .ref g), (2, .int (nI a1))]) hx hb eX6_loadRun_11 rfl hl (by decide) rfl (fun ls hl => ?_)
  refine lv_aload_n hx hb eX6_loadRun_12 rfl (lv_at hl 1 rfl) ?_
  refine va_get (D := (dC, dI)) (ci := 6) (v := .int (nI d_1)) (C := RX6) (T := TX6) (N := 10) hx hb hts hiX6 hown hK hP 0 rfl rfl 1 (by decide) v_2 (fun _ h9 => h9) rfl eX6_loadRun_13 ?_
  refine lv_iconst (v := 1) hx hb eX6_loadRun_16 (by decide) ?_
  refine lv_isub hx hb eX6_loadRun_17 ?_
  refine lv_istore (lv' := [(4, .int ((nI d_1) - 1)), (3, .int (nI a1)), (0, .ref ti), (1, .ref g), (2, .int (nI a1))]) hx hb eX6_loadRun_18 hl (by decide) rfl (fun ls hl => ?_)
  obtain ⟨lf_6, dlf_6, hlf_6, hsp⟩ := itr_ex hsp
  delta sp_E_6_loadRun_L1 at hlf_6
  refine pu_while (fun nn H locs ls => ∃ (kk_3 ss_4 : Nat) (q_5 : Nat → Nat), RR = itrv dlf_6 lf_6 (kk_3, ss_4, q_5) ∧ nn = kk_3 + 0 ∧ ss_4 < gc ∧ kk_3 ≤ 119 ∧ fs4 ss_4 = nI kk_3 ∧ va_P (dC, dI) vwCl (tg__w ti r0 (nI d_1) r2 r3 r4 r5 (nI nr) r7 r8 tz k_j0 (bN 13 q_5) k_j2 j2 k_j3 (bN 120 q_j3) k_j4 (bN 120 q_j4) k_j5 j5 k_j7 (bN 120 q_j7) k_j8 j8 g gz g1 g2 g3 g4 g5 (nI gc) (nI gfull) gx gway gav ggoal (nI gfound) 120 (nI gl) (nI gsz) g16 g17 k_fs2 fs2 k_fs3 fs3 k_fs4 fs4) H ∧ va_D A (tg__w ti r0 (nI d_1) r2 r3 r4 r5 (nI nr) r7 r8 tz k_j0 (bN 13 q_5) k_j2 j2 k_j3 (bN 120 q_j3) k_j4 (bN 120 q_j4) k_j5 j5 k_j7 (bN 120 q_j7) k_j8 j8 g gz g1 g2 g3 g4 g5 (nI gc) (nI gfull) gx gway gav ggoal (nI gfound) 120 (nI gl) (nI gsz) g16 g17 k_fs2 fs2 k_fs3 fs3 k_fs4 fs4) ∧ va_S A s.heap H locs ∧ lv_has ls 5 [(0, .ref ti), (1, .ref g), (3, .int (nI ss_4)), (4, .int (nI kk_3 - 1))]) 20 ?_ _ _ _ _ ⟨d_1, a1, q_j0, hsp, rfl, by omega, by omega, by assumption, hP, hD, hS, lv_sub hl [2, 3, 1, 0] rfl⟩
  rintro nn ih_8 H locs ls ⟨kk_3, ss_4, q_5, e_7, hnn, hss_4, hkk_3, fkk_3, hP, hD, hS, hl⟩
  obtain ⟨S_9, hsp, hin_10, hout_11⟩ := itr_step hlf_6 e_7
  rcases kk_3 with _ | kk_3
  · have hsp := hsp.trans (if_pos rfl)
    rw [pu_k0] at hl
    have hsp := hout_11 _ hsp
    refine lv_iload hx hb eX6_loadRun_20 (lv_at hl 3 rfl) ?_
    refine lv_if_lt (tgt := 51) hx hb eX6_loadRun_22 (by decide) (fun _ => ?_) (fun z => absurd z (by decide))
    exact W.vret hx hb hr (fun t ht hW => ⟨⟨(), rfl, trivial, ⟨q_5, d_1, ⟨by rw [ht]; exact hP, va_K.moved hW.alike hK, hD⟩, (by omega), (hsp.symm.trans hRR)⟩⟩, hS.F ht⟩) hS.2.2 eX6_loadRun_51
  · have hsp := hsp.trans (if_neg (Nat.succ_ne_zero _))
    rw [nI_pred] at hl
    obtain ⟨pp_12, ee_13, hpp_12, hee_13, xpp_12, ypp_12, zpp_12⟩ := gz_up hq0 hss_4 (by omega) fkk_3 (by omega)
    have hsp := hsp.trans (slet_eq (by omega : kk_3 = kk_3 + 1 - 1))
    have hsp := hsp.trans (slet_eq (cl_of xpp_12 (by omega) (by omega)))
    have hsp := hsp.trans (slet_eq (cl_of ypp_12 (by omega) (by omega)))
    refine lv_iload hx hb eX6_loadRun_20 (lv_at hl 3 rfl) ?_
    refine lv_if_lt (tgt := 51) hx hb eX6_loadRun_22 (by decide) (fun c_14 => ?_) (fun c_14 => ?_)
    · have c_14 : kk_3 < 0 := (nI_ltI (a := kk_3) (b := 0) (by omega) (Nat.le_of_ble_eq_true rfl)).mp c_14
      exfalso
      omega
    · have c_14 : ¬ kk_3 < 0 := fun z => c_14 ((nI_ltI (a := kk_3) (b := 0) (by omega) (Nat.le_of_ble_eq_true rfl)).mpr z)
      refine lv_aload_n hx hb eX6_loadRun_25 rfl (lv_at hl 0 rfl) ?_
      refine va_get (D := (dC, dI)) (ci := 6) (v := .ref r0) (C := RX6) (T := TX6) (N := 10) hx hb hts hiX6 hown hK hP 0 rfl rfl 0 (by decide) v_3 (fun _ h9 => h9) rfl eX6_loadRun_26 ?_
      refine lv_iload hx hb eX6_loadRun_29 (lv_at hl 3 rfl) ?_
      refine lv_aload_n hx hb eX6_loadRun_31 rfl (lv_at hl 1 rfl) ?_
      refine va_get (D := (dC, dI)) (ci := 1) (v := .ref g3) (C := RX1) (T := TX1) (N := 18) hx hb hts hiX1 hown hK hP 8 rfl rfl 3 (by decide) v_4 (fun _ h9 => h9) rfl eX6_loadRun_32 ?_
      refine lv_iload_n hx hb eX6_loadRun_35 rfl (lv_at hl 2 rfl) ?_
      refine va_iald hx hb hK hP 10 8 rfl rfl (vp_in_nI (n := ss_4) (by omega) (Nat.le_of_ble_eq_true rfl)) eX6_loadRun_36 ?_
      refine lv_topi (fun y_15 ey_15 => ?_)
      obtain rfl : y_15 = nI ee_13 := ey_15.trans ypp_12
      refine va_iast hx hb hK hP hD hS 1 0 rfl rfl (vp_in_nI (n := kk_3) (by omega) (Nat.le_of_ble_eq_true rfl)) eX6_loadRun_37 (fun H locs hP hD hS => ?_)
      obtain ⟨q_16, eq_16, kq_16, oq_16, xq_16⟩ := bN_upx 13 q_5 (n := kk_3) (v := ee_13) (by omega) (by omega)
      have hP : va_P (dC, dI) vwCl (tg__w ti r0 (nI d_1) r2 r3 r4 r5 (nI nr) r7 r8 tz k_j0 (bN 13 q_16) k_j2 j2 k_j3 (bN 120 q_j3) k_j4 (bN 120 q_j4) k_j5 j5 k_j7 (bN 120 q_j7) k_j8 j8 g gz g1 g2 g3 g4 g5 (nI gc) (nI gfull) gx gway gav ggoal (nI gfound) 120 (nI gl) (nI gsz) g16 g17 k_fs2 fs2 k_fs3 fs3 k_fs4 fs4) H := by rw [← eq_16]; exact hP
      have hD : va_D A (tg__w ti r0 (nI d_1) r2 r3 r4 r5 (nI nr) r7 r8 tz k_j0 (bN 13 q_16) k_j2 j2 k_j3 (bN 120 q_j3) k_j4 (bN 120 q_j4) k_j5 j5 k_j7 (bN 120 q_j7) k_j8 j8 g gz g1 g2 g3 g4 g5 (nI gc) (nI gfull) gx gway gav ggoal (nI gfound) 120 (nI gl) (nI gsz) g16 g17 k_fs2 fs2 k_fs3 fs3 k_fs4 fs4) := by rw [← eq_16]; exact hD
      have hsp := hsp.trans (slet_eq xq_16)
      refine lv_aload_n hx hb eX6_loadRun_38 rfl (lv_at hl 1 rfl) ?_
      refine va_get (D := (dC, dI)) (ci := 1) (v := .ref g2) (C := RX1) (T := TX1) (N := 18) hx hb hts hiX1 hown hK hP 8 rfl rfl 2 (by decide) v_5 (fun _ h9 => h9) rfl eX6_loadRun_39 ?_
      refine lv_iload_n hx hb eX6_loadRun_42 rfl (lv_at hl 2 rfl) ?_
      refine va_iald hx hb hK hP 9 7 rfl rfl (vp_in_nI (n := ss_4) (by omega) (Nat.le_of_ble_eq_true rfl)) eX6_loadRun_43 ?_
      refine lv_topi (fun y_17 ey_17 => ?_)
      obtain rfl : y_17 = nI pp_12 := ey_17.trans xpp_12
      refine lv_istore_n (lv' := [(3, .int (nI pp_12)), (0, .ref ti), (1, .ref g), (4, .int (nI kk_3))]) hx hb eX6_loadRun_44 rfl hl (by decide) rfl (fun ls hl => ?_)
      refine lv_iinc (v := (nI kk_3 - 1)) (lv' := [(4, .int (nI kk_3 - 1)), (3, .int (nI pp_12)), (0, .ref ti), (1, .ref g)]) hx hb eX6_loadRun_45 hl (k := 3) rfl (pu_decm _) (by decide) rfl (fun ls hl => ?_)
      refine lv_goto (tgt := 20) hx hb eX6_loadRun_48 (by decide) ?_
      exact ih_8 kk_3 (by omega) _ _ _ ⟨kk_3, pp_12, q_16, hin_10 _ hsp, rfl, by omega, by omega, by assumption, hP, hD, hS, lv_sub hl [2, 3, 1, 0] rfl⟩
