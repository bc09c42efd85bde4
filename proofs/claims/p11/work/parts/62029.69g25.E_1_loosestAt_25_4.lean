abbrev vs_E_1_loosestAt_25 : List Cond := .code yX1_loosestAt cX1_loosestAt 6 (some .int) :: CM
theorem g_E_1_loosestAt_25_E_7_cellOf_25 : GoodIn vs_E_1_loosestAt_25 (wsV RX1 149 RX7 yX7_cellOf vs_E_7_cellOf_25) := cm_gV cm_156 cm_157 cm_158 cm_45 cm_159
noncomputable def sp_E_1_loosestAt_25_L1 (gc : Nat) (q_fs1 : Nat → Nat) (o : Nat) (qs : Nat → Nat) (fz : Nat → Nat → Int32) (p0 : Int32) (a1 : Nat) (a2 : Nat) : (Int32 × Nat) → (Int32 × Nat) ⊕ (Int32) := fun (g_3, g_4) => (if gc ≤ g_4 then (Sum.inr g_3) else (slet (min (q_fs1 g_4) 7) (fun u_13 => (slet (α := Int32) (if ((nI u_13) : Int32) = p0 then (slet (sp_E_7_cellOf_25 (min (qs (o + g_4)) 5) (fz (o + g_4)) a1 a2) (fun r_19 => (slet (if (g_3 : Int32) < r_19 then r_19 else g_3) (fun y_20 => y_20)))) else g_3) (fun g_14 => (Sum.inl (g_14, (g_4 + 1))))))))
noncomputable def sp_E_1_loosestAt_25 (gc : Nat) (q_fs1 : Nat → Nat) (o : Nat) (qs : Nat → Nat) (fz : Nat → Nat → Int32) (p0 : Int32) (a1 : Nat) (a2 : Nat) : Int32 := (itrv (α := Int32 × Nat) (β := (Int32)) default (sp_E_1_loosestAt_25_L1 gc q_fs1 o qs fz p0 a1 a2) ((-2147483648), 0))
set_option maxHeartbeats 4000000 in
set_option maxRecDepth 100000 in
theorem c_E_1_loosestAt_25 (l : Launch) (dC : Nat → ClassId) (dI : Nat → Nat → Nat) (sz : Nat) (g : Nat) (gz : Nat) (g1 : Nat) (g2 : Nat) (g3 : Nat) (g4 : Nat) (g5 : Nat) (gc : Nat) (gfull : Nat) (gx : Int32) (gway : Int32) (gav : Int32) (ggoal : Int32) (gfound : Nat) (gl : Nat) (gsz : Nat) (g16 : Nat) (g17 : Nat) (k_fgz : ClassId) (k_fs1 : ClassId) (q_fs1 : Nat → Nat) (k_fs2 : ClassId) (fs2 : Nat → Int32) (k_fs3 : ClassId) (fs3 : Nat → Int32) (k_fs4 : ClassId) (fs4 : Nat → Int32) (k_fs5 : ClassId) (fs5 : Nat → Int32) (k_fhi : ClassId) (fhi : Nat → Int32) (k_flo : ClassId) (flo : Nat → Int32) (N : Nat) (o : Nat) (az ac : Nat → Nat) (kz : Nat → ClassId) (qs : Nat → Nat) (fz : Nat → Nat → Int32) (p0 : Int32) (a1 : Nat) (a2 : Nat) (hgc : gc ≤ 400) (hgfull : gfull ≤ 1) (hgfound : gfound ≤ 1) (hgl : gl ≤ 1) (hgsz : gsz ≤ 5) (hN : o + 401 ≤ N) (ha1 : a1 ≤ 4) (ha2 : a2 ≤ 4) : Met l yX1_loosestAt vs_E_1_loosestAt_25 ({ frames := 1, cells := 0, slots := 0, locals := 22 }) (va_Pc [.ref g, .int p0, .int (nI a1), .int (nI a2)] (pu_B (dC, dI) ((gt0__w g gz g1 g2 g3 g4 g5 (nI gc) (nI gfull) gx gway gav ggoal (nI gfound) 400 (nI gl) (nI gsz) g16 g17 k_fgz (zs o 401 az) k_fs1 (bN 7 q_fs1) k_fs2 fs2 k_fs3 fs3 k_fs4 fs4 k_fs5 fs5 k_fhi fhi k_flo flo) ++ zp 5 25 N az ac kz qs fz) ((gt0__t k_fgz k_fs1 k_fs2 k_fs3 k_fs4 k_fs5 k_fhi k_flo) ++ zt N kz) sz)) (va_Qi (fun (r : Int32) (_ : Unit) => r = (sp_E_1_loosestAt_25 gc q_fs1 o qs fz p0 a1 a2)) (fun _ _ => True) (va_A [] sz)) 0 0 (va_A [] sz) := by
  refine Met.ofW (cc := cX1_loosestAt) (maxL := 6) (ret := (some .int)) (by decide) rfl ?_
  intro p e s m args below meth c s₁ B hml hv
  obtain ⟨rfl, rfl, hP, hK, hD0⟩ := hv
  have hx := B.exec
  have hb := B.bytes
  have hr := B.returns
  have hts := atoms_spec (ws := vs_E_1_loosestAt_25) B.pre
  have v_1 := hts (.constant RX1 148 (-2147483648)) (List.mem_cons_of_mem _ cm_154)
  have v_2 := hts (.fieldLink RX1 79 "ClockReach$Graph" "count" "I") (List.mem_cons_of_mem _ cm_89)
  have v_3 := hts (.fieldLink RX1 24 "ClockReach$Graph" "sites" "[I") (List.mem_cons_of_mem _ cm_115)
  have v_4 := hts (.fieldLink RX1 17 "ClockReach$Graph" "zones" "[LClockReach$Zone;") (List.mem_cons_of_mem _ cm_92)
  have v_10 := hts (.methodLink RX1 153 Lib.Math.max.name) (List.mem_cons_of_mem _ cm_155)
  have v_11 := hts (.static Lib.Math.max.name) (List.mem_cons_of_mem _ cm_36)
  have v_12 := hts (.initialized "java/lang/Math") (List.mem_cons_of_mem _ cm_37)
  have v_13 := hts (.code Lib.Math.max.name Lib.Math.max.code 2 (some .int)) (List.mem_cons_of_mem _ cm_38)
  have hown : s.vm.findClass RX1 = some m.cls := findClass_of_methodNamed B.named
  have hlocks := B.notSynchronized
  have hiX1 : ∀ w ∈ wsX10, w ∈ vs_E_1_loosestAt_25 := fun _ h => List.mem_cons_of_mem _ (cm_X1 h)
  have hD := hD0
  have hA : ∀ q : Nat, s.heap.size ≤ q → va_A [] s.heap.size q := fun _ h => Or.inr h
  have hS : va_S (va_A [] s.heap.size) s.heap s.heap [] := va_S.rf
  have hl := lv_entry ([.ref g, .int p0, .int (nI a1), .int (nI a2)]) (n := 6) (Nat.le_of_ble_eq_true rfl)
  rw [lg_entry_eq]
  generalize (lg_sl ([.ref g, .int p0, .int (nI a1), .int (nI a2)]) ++ List.replicate (6 - (lg_sl ([.ref g, .int p0, .int (nI a1), .int (nI a2)])).length) Slot.unset).toArray = ls at hl ⊢
  have hl : lv_has ls 6 [(0, .ref g), (1, .int p0), (2, .int (nI a1)), (3, .int (nI a2))] := hl
  obtain ⟨RR, hRR⟩ : ∃ x, x = (sp_E_1_loosestAt_25 gc q_fs1 o qs fz p0 a1 a2) := ⟨_, rfl⟩
  have hsp := hRR
  refine lv_ldc hx hb hown v_1 eX1_loosestAt_0 ?_
  refine lv_istore (lv' := [(4, .int (-2147483648)), (0, .ref g), (1, .int p0), (2, .int (nI a1)), (3, .int (nI a2))]) hx hb eX1_loosestAt_2 hl (by decide) rfl (fun ls hl => ?_)
  refine lv_iconst (v := 0) hx hb eX1_loosestAt_4 (by decide) ?_
  refine lv_istore (lv' := [(5, .int 0), (4, .int (-2147483648)), (0, .ref g), (1, .int p0), (2, .int (nI a1)), (3, .int (nI a2))]) hx hb eX1_loosestAt_5 hl (by decide) rfl (fun ls hl => ?_)
  obtain ⟨lf_6, dlf_6, hlf_6, hsp⟩ := itr_ex hsp
  delta sp_E_1_loosestAt_25_L1 at hlf_6
  refine pu_while (fun nn H locs ls => ∃ (g_3 : Int32) (g_4 : Nat), nn = 400 - g_4 ∧ g_4 ≤ 400 ∧ RR = itrv dlf_6 lf_6 (g_3, g_4) ∧ va_P (dC, dI) vwCl ((gt0__w g gz g1 g2 g3 g4 g5 (nI gc) (nI gfull) gx gway gav ggoal (nI gfound) 400 (nI gl) (nI gsz) g16 g17 k_fgz (zs o 401 az) k_fs1 (bN 7 q_fs1) k_fs2 fs2 k_fs3 fs3 k_fs4 fs4 k_fs5 fs5 k_fhi fhi k_flo flo) ++ zp 5 25 N az ac kz qs fz) H ∧ va_D (fun _ => True) ((gt0__w g gz g1 g2 g3 g4 g5 (nI gc) (nI gfull) gx gway gav ggoal (nI gfound) 400 (nI gl) (nI gsz) g16 g17 k_fgz (zs o 401 az) k_fs1 (bN 7 q_fs1) k_fs2 fs2 k_fs3 fs3 k_fs4 fs4 k_fs5 fs5 k_fhi fhi k_flo flo) ++ zp 5 25 N az ac kz qs fz) ∧ va_S (va_A [] s.heap.size) s.heap H locs ∧ lv_has ls 6 [(0, .ref g), (1, .int p0), (2, .int (nI a1)), (3, .int (nI a2)), (4, .int g_3), (5, .int (nI g_4))]) 7 ?_ _ _ _ _ ⟨(-2147483648), 0, rfl, (Nat.le_of_ble_eq_true rfl), hsp, hP, hD, hS, lv_sub hl [2, 3, 4, 5, 1, 0] rfl⟩
  rintro nn ih_5 H locs ls ⟨g_3, g_4, rfl, hg_4, he_8, hP, hD, hS, hl⟩
  obtain ⟨S_7, hsp, hin_9, hout_10⟩ := itr_step hlf_6 he_8
  refine lv_iload hx hb eX1_loosestAt_7 (lv_at hl 5 rfl) ?_
  refine lv_aload_n hx hb eX1_loosestAt_9 rfl (lv_at hl 0 rfl) ?_
  refine va_get (D := (dC, dI)) (ci := 1) (v := .int (nI gc)) (C := RX1) (T := TX1) (N := 18) hx hb hts hiX1 hown hK hP 0 rfl rfl 6 (by decide) v_2 (fun _ h9 => h9) rfl eX1_loosestAt_10 ?_
  refine lv_icmp_ge (tgt := 52) hx hb eX1_loosestAt_13 (by decide) (fun c_11 => ?_) (fun c_11 => ?_)
  · have c_11 : gc ≤ g_4 := (nI_leI (a := gc) (b := g_4) (Nat.lt_of_le_of_lt hgc (Nat.le_of_ble_eq_true rfl)) (Nat.lt_of_le_of_lt hg_4 (Nat.le_of_ble_eq_true rfl))).mp c_11
    have hsp := hsp.trans (if_pos c_11)
    have hsp := hout_10 _ hsp
    refine lv_iload hx hb eX1_loosestAt_52 (lv_at hl 4 rfl) ?_
    exact W.iret (v := g_3) hx hb hr (fun t ht hW => ⟨⟨g_3, (), rfl, (hsp.symm.trans hRR), trivial⟩, hS.F ht⟩) hS.2.2 eX1_loosestAt_54
  · have c_11 : ¬ gc ≤ g_4 := fun z => c_11 ((nI_leI (a := gc) (b := g_4) (Nat.lt_of_le_of_lt hgc (Nat.le_of_ble_eq_true rfl)) (Nat.lt_of_le_of_lt hg_4 (Nat.le_of_ble_eq_true rfl))).mpr z)
    have hsp := hsp.trans (if_neg c_11)
    refine lv_aload_n hx hb eX1_loosestAt_16 rfl (lv_at hl 0 rfl) ?_
    refine va_get (D := (dC, dI)) (ci := 1) (v := .ref g1) (C := RX1) (T := TX1) (N := 18) hx hb hts hiX1 hown hK hP 0 rfl rfl 1 (by decide) v_3 (fun _ h9 => h9) rfl eX1_loosestAt_17 ?_
    refine lv_iload hx hb eX1_loosestAt_20 (lv_at hl 5 rfl) ?_
    refine va_iald hx hb hK hP 2 1 rfl rfl (vp_in_nI (n := g_4) (by omega) (Nat.le_of_ble_eq_true rfl)) eX1_loosestAt_22 ?_
    refine lv_topi (fun y_12 ey_12 => ?_)
    obtain ⟨u_13, hu_13, qu_13, xu_13⟩ := bN_getx 7 q_fs1 (n := g_4) (Nat.lt_of_le_of_lt hg_4 (Nat.le_of_ble_eq_true rfl))
    obtain rfl : y_12 = nI u_13 := ey_12.trans qu_13
    have hsp := hsp.trans (slet_eq xu_13)
    refine lv_iload_n hx hb eX1_loosestAt_23 rfl (lv_at hl 1 rfl) ?_
    obtain ⟨JR_16, hJR_16, hsp⟩ := slet_ex hsp
    refine pu_join (fun H locs ls st => ∃ (g_14 : Int32), st = [] ∧ g_14 = JR_16 ∧ va_P (dC, dI) vwCl ((gt0__w g gz g1 g2 g3 g4 g5 (nI gc) (nI gfull) gx gway gav ggoal (nI gfound) 400 (nI gl) (nI gsz) g16 g17 k_fgz (zs o 401 az) k_fs1 (bN 7 q_fs1) k_fs2 fs2 k_fs3 fs3 k_fs4 fs4 k_fs5 fs5 k_fhi fhi k_flo flo) ++ zp 5 25 N az ac kz qs fz) H ∧ va_D (fun _ => True) ((gt0__w g gz g1 g2 g3 g4 g5 (nI gc) (nI gfull) gx gway gav ggoal (nI gfound) 400 (nI gl) (nI gsz) g16 g17 k_fgz (zs o 401 az) k_fs1 (bN 7 q_fs1) k_fs2 fs2 k_fs3 fs3 k_fs4 fs4 k_fs5 fs5 k_fhi fhi k_flo flo) ++ zp 5 25 N az ac kz qs fz) ∧ va_S (va_A [] s.heap.size) s.heap H locs ∧ lv_has ls 6 [(0, .ref g), (1, .int p0), (2, .int (nI a1)), (3, .int (nI a2)), (4, .int g_14), (5, .int (nI g_4))]) 46 ?_ (fun j_15 => ?_)
    · rintro H locs ls st ⟨g_14, rfl, he_17, hP, hD, hS, hl⟩
      rw [← he_17] at hsp
      refine lv_iinc (v := (nI (g_4 + 1))) (lv' := [(5, .int (nI (g_4 + 1))), (0, .ref g), (1, .int p0), (2, .int (nI a1)), (3, .int (nI a2)), (4, .int g_14)]) hx hb eX1_loosestAt_46 hl (k := 5) rfl (nI_1 _) (by decide) rfl (fun ls hl => ?_)
      refine lv_goto (tgt := 7) hx hb eX1_loosestAt_49 (by decide) ?_
      exact ih_5 (400 - (g_4 + 1)) (by omega) _ _ _ ⟨g_14, (g_4 + 1), rfl, (by omega), hin_9 _ hsp, hP, hD, hS, lv_sub hl [1, 2, 3, 4, 5, 0] rfl⟩
    have hsp := hJR_16
    refine lv_icmp_ne (tgt := 46) hx hb eX1_loosestAt_24 (by decide) (fun c_18 => ?_) (fun c_18 => ?_)
    · have hcc_18 := c_18
      have hsp := hsp.trans (if_neg c_18)
      exact j_15 _ _ _ _ ⟨g_3, rfl, hsp.symm, hP, hD, hS, lv_sub hl [0, 1, 2, 3, 4, 5] rfl⟩
    · have hcc_18 := c_18
      have hsp := hsp.trans (if_pos c_18)
      refine lv_iload hx hb eX1_loosestAt_27 (lv_at hl 4 rfl) ?_
      refine lv_aload_n hx hb eX1_loosestAt_29 rfl (lv_at hl 0 rfl) ?_
      refine va_get (D := (dC, dI)) (ci := 1) (v := .ref gz) (C := RX1) (T := TX1) (N := 18) hx hb hts hiX1 hown hK hP 0 rfl rfl 0 (by decide) v_4 (fun _ h9 => h9) rfl eX1_loosestAt_30 ?_
      refine lv_iload hx hb eX1_loosestAt_33 (lv_at hl 5 rfl) ?_
      refine va_aldq hx hb hK hP 1 0 rfl rfl (vp_in_nI (n := g_4) (Nat.lt_of_le_of_lt hg_4 (Nat.le_of_ble_eq_true rfl)) (Nat.le_of_ble_eq_true rfl)) eX1_loosestAt_35 ?_
      refine W.eq (g2 := F0 m 36 ls [.ref (az (o + g_4)), .int g_3]) (by rw [zs_get (Nat.lt_of_le_of_lt hg_4 (Nat.le_of_ble_eq_true rfl)) (by omega)]) ?_
      refine lv_iload_n hx hb eX1_loosestAt_36 rfl (lv_at hl 2 rfl) ?_
      refine lv_iload_n hx hb eX1_loosestAt_37 rfl (lv_at hl 3 rfl) ?_
      have hPz := zp_cut (k := (o + g_4)) hP (by omega)
      have hPc : va_P (dC, dI) vwCl ([] ++ [(az (o + g_4), .inr (7, [.ref (ac (o + g_4)), .int (nI (min (qs (o + g_4)) 5))])), (ac (o + g_4), .inl (kz (o + g_4), 25, .inl (fz (o + g_4))))]) _ := va_P.app (hP.sub [] rfl) hPz
      have hDc : va_D (fun _ => True) ([] ++ [(az (o + g_4), .inr (7, [.ref (ac (o + g_4)), .int (nI (min (qs (o + g_4)) 5))])), (ac (o + g_4), .inl (kz (o + g_4), 25, .inl (fz (o + g_4))))]) := zp_cutD hD (by omega) [] (by decide) rfl
      have hKc : va_K (dC, dI) vwCl ([] ++ [(kz (o + g_4), .int)]) s := zp_K hK (by omega) [] rfl
      refine va_calli (va_runV (As := [.int (nI a1), .int (nI a2)]) (rest := [.int g_3]) ⟨hx, hb, hml, hown, hts⟩ (c_E_7_cellOf_25 l dC dI _ (az (o + g_4)) (ac (o + g_4)) (min (qs (o + g_4)) 5) (kz (o + g_4)) (fz (o + g_4)) a1 a2 (Nat.min_le_right _ _) ha1 ha2) (cwV 2 hts g_E_1_loosestAt_25_E_7_cellOf_25 rfl rfl rfl (by decide +kernel) ⟨Nat.le_of_ble_eq_true rfl, Nat.le_of_ble_eq_true rfl⟩) ⟨pu_bl, va_recv hK hPz (ci := 7) (q0 := 0) rfl rfl, pu_in hPc hKc hDc⟩ rfl rfl hl.1 rfl (lv_room (Nat.le_of_ble_eq_true rfl)) eX1_loosestAt_38 ⟨Nat.le_of_ble_eq_true rfl, Nat.le_of_ble_eq_true rfl⟩) hS (fun q _ h => pu_fr hS hA q h) (pu_fr hS hA) (fun r_19 u t H1 locs ht hvm hw hB hz1 hk1 hS => ?_)
      have hP := pu_keep hP hk1
      clear hPc hDc hKc
      clear hk1 hz1 ht hvm
      generalize H1 = H at hP hS ⊢
      have ir_19 := hw
      have hsp := hsp.trans (slet_eq ir_19)
      refine va_mmax hx hb (hml.trans hl.1.symm) hown v_10 v_11 v_12 v_13 (Nat.le_of_ble_eq_true rfl) (Nat.le_of_ble_eq_true rfl) (Nat.le_of_ble_eq_true rfl) (Nat.le_of_ble_eq_true rfl) eX1_loosestAt_41 ?_
      refine lv_topi (fun y_20 ey_20 => ?_)
      have hsp := hsp.trans (slet_eq ey_20)
      refine lv_istore (lv' := [(4, .int y_20), (0, .ref g), (1, .int p0), (2, .int (nI a1)), (3, .int (nI a2)), (5, .int (nI g_4))]) hx hb eX1_loosestAt_44 hl (by decide) rfl (fun ls hl => ?_)
      exact j_15 _ _ _ _ ⟨y_20, rfl, hsp.symm, hP, hD, hS, lv_sub hl [1, 2, 3, 4, 0, 5] rfl⟩
theorem eX6_layRule_0 : decode cX6_layRule 0 = .ok (.aload_n 0, 1) := by decide +kernel
theorem eX6_layRule_1 : decode cX6_layRule 1 = .ok (.getfield 57, 3) := by decide +kernel
theorem eX6_layRule_4 : decode cX6_layRule 4 = .ok (.sipush 1920, 3) := by decide +kernel
theorem eX6_layRule_7 : decode cX6_layRule 7 = .ok (.if_icmp .ge 43, 3) := by decide +kernel
theorem eX6_layRule_10 : decode cX6_layRule 10 = .ok (.aload_n 0, 1) := by decide +kernel
theorem eX6_layRule_11 : decode cX6_layRule 11 = .ok (.getfield 18, 3) := by decide +kernel
theorem eX6_layRule_14 : decode cX6_layRule 14 = .ok (.aload_n 0, 1) := by decide +kernel
theorem eX6_layRule_15 : decode cX6_layRule 15 = .ok (.getfield 57, 3) := by decide +kernel
theorem eX6_layRule_18 : decode cX6_layRule 18 = .ok (.iload_n 1, 1) := by decide +kernel
theorem eX6_layRule_19 : decode cX6_layRule 19 = .ok (.iastore, 1) := by decide +kernel
theorem eX6_layRule_20 : decode cX6_layRule 20 = .ok (.aload_n 0, 1) := by decide +kernel
theorem eX6_layRule_21 : decode cX6_layRule 21 = .ok (.getfield 21, 3) := by decide +kernel
theorem eX6_layRule_24 : decode cX6_layRule 24 = .ok (.aload_n 0, 1) := by decide +kernel
theorem eX6_layRule_25 : decode cX6_layRule 25 = .ok (.getfield 57, 3) := by decide +kernel
theorem eX6_layRule_28 : decode cX6_layRule 28 = .ok (.iload_n 2, 1) := by decide +kernel
theorem eX6_layRule_29 : decode cX6_layRule 29 = .ok (.iastore, 1) := by decide +kernel
theorem eX6_layRule_30 : decode cX6_layRule 30 = .ok (.aload_n 0, 1) := by decide +kernel
theorem eX6_layRule_31 : decode cX6_layRule 31 = .ok (.getfield 24, 3) := by decide +kernel
theorem eX6_layRule_34 : decode cX6_layRule 34 = .ok (.aload_n 0, 1) := by decide +kernel
theorem eX6_layRule_35 : decode cX6_layRule 35 = .ok (.getfield 57, 3) := by decide +kernel
theorem eX6_layRule_38 : decode cX6_layRule 38 = .ok (.iload_n 3, 1) := by decide +kernel
theorem eX6_layRule_39 : decode cX6_layRule 39 = .ok (.iastore, 1) := by decide +kernel
theorem eX6_layRule_40 : decode cX6_layRule 40 = .ok (.aload_n 0, 1) := by decide +kernel
theorem eX6_layRule_41 : decode cX6_layRule 41 = .ok (.dup, 1) := by decide +kernel
theorem eX6_layRule_42 : decode cX6_layRule 42 = .ok (.getfield 57, 3) := by decide +kernel
theorem eX6_layRule_45 : decode cX6_layRule 45 = .ok (.iconst 1, 1) := by decide +kernel
theorem eX6_layRule_46 : decode cX6_layRule 46 = .ok (.iadd, 1) := by decide +kernel
theorem eX6_layRule_47 : decode cX6_layRule 47 = .ok (.putfield 57, 3) := by decide +kernel
theorem eX6_layRule_50 : decode cX6_layRule 50 = .ok (.return_, 1) := by decide +kernel
abbrev vs_E_6_layRule : List Cond := .code yX6_layRule cX6_layRule 4 none :: CM
noncomputable def sp_E_6_layRule (nr : Nat) (q_j3 : Nat → Nat) (q_j4 : Nat → Nat) (j5 : Nat → Int32) (a0 : Nat) (a1 : Nat) (p2 : Int32) : (Nat → Nat) × (Nat → Nat) × (Nat → Int32) × Nat := (if 1920 ≤ nr then (q_j3, q_j4, j5, nr) else (slet (updN q_j3 nr a0) (fun q_2 => (slet (updN q_j4 nr a1) (fun q_3 => (slet (upd j5 nr p2) (fun f_4 => (q_2, q_3, f_4, (nr + 1)))))))))
set_option maxHeartbeats 4000000 in
set_option maxRecDepth 100000 in
theorem c_E_6_layRule (l : Launch) (dC : Nat → ClassId) (dI : Nat → Nat → Nat) (sz : Nat) (ti : Nat) (r0 : Nat) (ln : Nat) (r2 : Nat) (r3 : Nat) (r4 : Nat) (r5 : Nat) (nr : Nat) (r7 : Nat) (r8 : Nat) (tz : Nat) (k_j0 : ClassId) (q_j0 : Nat → Nat) (k_j2 : ClassId) (j2 : Nat → Int32) (k_j3 : ClassId) (q_j3 : Nat → Nat) (k_j4 : ClassId) (q_j4 : Nat → Nat) (k_j5 : ClassId) (j5 : Nat → Int32) (k_j7 : ClassId) (q_j7 : Nat → Nat) (k_j8 : ClassId) (j8 : Nat → Int32) (a0 : Nat) (a1 : Nat) (p2 : Int32) (hln : ln ≤ 119) (hnr : nr ≤ 1920) (ha0 : a0 ≤ 120) (ha1 : a1 ≤ 120) : Met l yX6_layRule vs_E_6_layRule ({ frames := 0, cells := 0, slots := 0, locals := 0 }) (va_Pc [.ref ti, .int (nI a0), .int (nI a1), .int p2] (pu_B (dC, dI) (ti__w ti r0 (nI ln) r2 r3 r4 r5 (nI nr) r7 r8 tz k_j0 (bN 13 q_j0) k_j2 j2 k_j3 (bN 120 q_j3) k_j4 (bN 120 q_j4) k_j5 j5 k_j7 (bN 120 q_j7) k_j8 j8) (ti__t k_j0 k_j2 k_j3 k_j4 k_j5 k_j7 k_j8) sz)) (va_Qv (fun (_ : Unit) => True) (fun _ t => ∃ (z_j3 : Nat → Nat) (z_j4 : Nat → Nat) (z_j5 : Nat → Int32) (z_nr : Nat), pu_E (dC, dI) (ti__w ti r0 (nI ln) r2 r3 r4 r5 (nI z_nr) r7 r8 tz k_j0 (bN 13 q_j0) k_j2 j2 k_j3 (bN 120 z_j3) k_j4 (bN 120 z_j4) k_j5 z_j5 k_j7 (bN 120 q_j7) k_j8 j8) (ti__t k_j0 k_j2 k_j3 k_j4 k_j5 k_j7 k_j8) (va_A ((ti__w ti r0 (nI ln) r2 r3 r4 r5 (nI nr) r7 r8 tz k_j0 (bN 13 q_j0) k_j2 j2 k_j3 (bN 120 q_j3) k_j4 (bN 120 q_j4) k_j5 j5 k_j7 (bN 120 q_j7) k_j8 j8)) sz) t ∧ (z_nr ≤ 1920) ∧ ((z_j3, z_j4, z_j5, z_nr) = (sp_E_6_layRule nr q_j3 q_j4 j5 a0 a1 p2))) (va_A ((ti__w ti r0 (nI ln) r2 r3 r4 r5 (nI nr) r7 r8 tz k_j0 (bN 13 q_j0) k_j2 j2 k_j3 (bN 120 q_j3) k_j4 (bN 120 q_j4) k_j5 j5 k_j7 (bN 120 q_j7) k_j8 j8)) sz)) 0 0 (va_A ((ti__w ti r0 (nI ln) r2 r3 r4 r5 (nI nr) r7 r8 tz k_j0 (bN 13 q_j0) k_j2 j2 k_j3 (bN 120 q_j3) k_j4 (bN 120 q_j4) k_j5 j5 k_j7 (bN 120 q_j7) k_j8 j8)) sz) := by
  refine Met.ofW (cc := cX6_layRule) (maxL := 4) (ret := none) (by decide) rfl ?_
  intro p e s m args below meth c s₁ B hml hv
  obtain ⟨rfl, rfl, hP, hK, hD0⟩ := hv
  have hx := B.exec
  have hb := B.bytes
  have hr := B.returns
  have hts := atoms_spec (ws := vs_E_6_layRule) B.pre
  have v_1 := hts (.fieldLink RX6 57 "ClockReach$Timing" "rules" "I") (List.mem_cons_of_mem _ cm_371)
  have v_2 := hts (.fieldLink RX6 18 "ClockReach$Timing" "laters" "[I") (List.mem_cons_of_mem _ cm_396)
  have v_3 := hts (.fieldLink RX6 21 "ClockReach$Timing" "earliers" "[I") (List.mem_cons_of_mem _ cm_397)
  have v_4 := hts (.fieldLink RX6 24 "ClockReach$Timing" "gaps" "[I") (List.mem_cons_of_mem _ cm_398)
  have hown : s.vm.findClass RX6 = some m.cls := findClass_of_methodNamed B.named
  have hlocks := B.notSynchronized
  have hiX6 : ∀ w ∈ wsX60, w ∈ vs_E_6_layRule := fun _ h => List.mem_cons_of_mem _ (cm_X6 h)
  have hD := hD0.self (sz := s.heap.size)
  generalize hAe : va_A ((ti__w ti r0 (nI ln) r2 r3 r4 r5 (nI nr) r7 r8 tz k_j0 (bN 13 q_j0) k_j2 j2 k_j3 (bN 120 q_j3) k_j4 (bN 120 q_j4) k_j5 j5 k_j7 (bN 120 q_j7) k_j8 j8)) s.heap.size = A at hD ⊢
  have hA : ∀ q : Nat, s.heap.size ≤ q → A q := fun q h => by rw [← hAe]; exact Or.inr h
  have hS : va_S A s.heap s.heap [] := va_S.rf
  have hl := lv_entry ([.ref ti, .int (nI a0), .int (nI a1), .int p2]) (n := 4) (Nat.le_of_ble_eq_true rfl)
  rw [lg_entry_eq]
  generalize (lg_sl ([.ref ti, .int (nI a0), .int (nI a1), .int p2]) ++ List.replicate (4 - (lg_sl ([.ref ti, .int (nI a0), .int (nI a1), .int p2])).length) Slot.unset).toArray = ls at hl ⊢
  have hl : lv_has ls 4 [(0, .ref ti), (1, .int (nI a0)), (2, .int (nI a1)), (3, .int p2)] := hl
  obtain ⟨RR, hRR⟩ : ∃ x, x = (sp_E_6_layRule nr q_j3 q_j4 j5 a0 a1 p2) := ⟨_, rfl⟩
  have hsp := hRR
  refine lv_aload_n hx hb eX6_layRule_0 rfl (lv_at hl 0 rfl) ?_
  refine va_get (D := (dC, dI)) (ci := 6) (v := .int (nI nr)) (C := RX6) (T := TX6) (N := 10) hx hb hts hiX6 hown hK hP 0 rfl rfl 6 (by decide) v_1 (fun _ h9 => h9) rfl eX6_layRule_1 ?_
  refine lv_sipush (v := 1920) hx hb eX6_layRule_4 (by decide) ?_
  refine lv_icmp_ge (tgt := 50) hx hb eX6_layRule_7 (by decide) (fun c_1 => ?_) (fun c_1 => ?_)
  · have c_1 : 1920 ≤ nr := (nI_leI (a := 1920) (b := nr) (Nat.le_of_ble_eq_true rfl) (Nat.lt_of_le_of_lt hnr (Nat.le_of_ble_eq_true rfl))).mp c_1
    have hsp := hsp.trans (if_pos c_1)
    exact W.vret hx hb hr (fun t ht hW => ⟨⟨(), rfl, trivial, ⟨q_j3, q_j4, j5, nr, ⟨by rw [ht]; exact hP, va_K.moved hW.alike hK, hD⟩, hnr, (hsp.symm.trans hRR)⟩⟩, hS.F ht⟩) hS.2.2 eX6_layRule_50
  · have c_1 : ¬ 1920 ≤ nr := fun z => c_1 ((nI_leI (a := 1920) (b := nr) (Nat.le_of_ble_eq_true rfl) (Nat.lt_of_le_of_lt hnr (Nat.le_of_ble_eq_true rfl))).mpr z)
    have hsp := hsp.trans (if_neg c_1)
    refine lv_aload_n hx hb eX6_layRule_10 rfl (lv_at hl 0 rfl) ?_
    refine va_get (D := (dC, dI)) (ci := 6) (v := .ref r3) (C := RX6) (T := TX6) (N := 10) hx hb hts hiX6 hown hK hP 0 rfl rfl 3 (by decide) v_2 (fun _ h9 => h9) rfl eX6_layRule_11 ?_
    refine lv_aload_n hx hb eX6_layRule_14 rfl (lv_at hl 0 rfl) ?_
    refine va_get (D := (dC, dI)) (ci := 6) (v := .int (nI nr)) (C := RX6) (T := TX6) (N := 10) hx hb hts hiX6 hown hK hP 0 rfl rfl 6 (by decide) v_1 (fun _ h9 => h9) rfl eX6_layRule_15 ?_
    refine lv_iload_n hx hb eX6_layRule_18 rfl (lv_at hl 1 rfl) ?_
    refine va_iast hx hb hK hP hD hS 3 2 rfl rfl (vp_in_nI (n := nr) (by omega) (Nat.le_of_ble_eq_true rfl)) eX6_layRule_19 (fun H locs hP hD hS => ?_)
    obtain ⟨q_2, eq_2, kq_2, oq_2, xq_2⟩ := bN_upx 120 q_j3 (n := nr) (v := a0) (Nat.lt_of_le_of_lt hnr (Nat.le_of_ble_eq_true rfl)) ha0
    have hP : va_P (dC, dI) vwCl (ti__w ti r0 (nI ln) r2 r3 r4 r5 (nI nr) r7 r8 tz k_j0 (bN 13 q_j0) k_j2 j2 k_j3 (bN 120 q_2) k_j4 (bN 120 q_j4) k_j5 j5 k_j7 (bN 120 q_j7) k_j8 j8) H := by rw [← eq_2]; exact hP
    have hD : va_D A (ti__w ti r0 (nI ln) r2 r3 r4 r5 (nI nr) r7 r8 tz k_j0 (bN 13 q_j0) k_j2 j2 k_j3 (bN 120 q_2) k_j4 (bN 120 q_j4) k_j5 j5 k_j7 (bN 120 q_j7) k_j8 j8) := by rw [← eq_2]; exact hD
    have hsp := hsp.trans (slet_eq xq_2)
    refine lv_aload_n hx hb eX6_layRule_20 rfl (lv_at hl 0 rfl) ?_
    refine va_get (D := (dC, dI)) (ci := 6) (v := .ref r4) (C := RX6) (T := TX6) (N := 10) hx hb hts hiX6 hown hK hP 0 rfl rfl 4 (by decide) v_3 (fun _ h9 => h9) rfl eX6_layRule_21 ?_
    refine lv_aload_n hx hb eX6_layRule_24 rfl (lv_at hl 0 rfl) ?_
    refine va_get (D := (dC, dI)) (ci := 6) (v := .int (nI nr)) (C := RX6) (T := TX6) (N := 10) hx hb hts hiX6 hown hK hP 0 rfl rfl 6 (by decide) v_1 (fun _ h9 => h9) rfl eX6_layRule_25 ?_
    refine lv_iload_n hx hb eX6_layRule_28 rfl (lv_at hl 2 rfl) ?_
    refine va_iast hx hb hK hP hD hS 4 3 rfl rfl (vp_in_nI (n := nr) (by omega) (Nat.le_of_ble_eq_true rfl)) eX6_layRule_29 (fun H locs hP hD hS => ?_)
    obtain ⟨q_3, eq_3, kq_3, oq_3, xq_3⟩ := bN_upx 120 q_j4 (n := nr) (v := a1) (Nat.lt_of_le_of_lt hnr (Nat.le_of_ble_eq_true rfl)) ha1
    have hP : va_P (dC, dI) vwCl (ti__w ti r0 (nI ln) r2 r3 r4 r5 (nI nr) r7 r8 tz k_j0 (bN 13 q_j0) k_j2 j2 k_j3 (bN 120 q_2) k_j4 (bN 120 q_3) k_j5 j5 k_j7 (bN 120 q_j7) k_j8 j8) H := by rw [← eq_3]; exact hP
    have hD : va_D A (ti__w ti r0 (nI ln) r2 r3 r4 r5 (nI nr) r7 r8 tz k_j0 (bN 13 q_j0) k_j2 j2 k_j3 (bN 120 q_2) k_j4 (bN 120 q_3) k_j5 j5 k_j7 (bN 120 q_j7) k_j8 j8) := by rw [← eq_3]; exact hD
    have hsp := hsp.trans (slet_eq xq_3)
    refine lv_aload_n hx hb eX6_layRule_30 rfl (lv_at hl 0 rfl) ?_
    refine va_get (D := (dC, dI)) (ci := 6) (v := .ref r5) (C := RX6) (T := TX6) (N := 10) hx hb hts hiX6 hown hK hP 0 rfl rfl 5 (by decide) v_4 (fun _ h9 => h9) rfl eX6_layRule_31 ?_
    refine lv_aload_n hx hb eX6_layRule_34 rfl (lv_at hl 0 rfl) ?_
    refine va_get (D := (dC, dI)) (ci := 6) (v := .int (nI nr)) (C := RX6) (T := TX6) (N := 10) hx hb hts hiX6 hown hK hP 0 rfl rfl 6 (by decide) v_1 (fun _ h9 => h9) rfl eX6_layRule_35 ?_
    refine lv_iload_n hx hb eX6_layRule_38 rfl (lv_at hl 3 rfl) ?_
    refine va_iast hx hb hK hP hD hS 5 4 rfl rfl (vp_in_nI (n := nr) (by omega) (Nat.le_of_ble_eq_true rfl)) eX6_layRule_39 (fun H locs hP hD hS => ?_)
    obtain ⟨f_4, ef_4, xf_4⟩ := up_x j5 (n := nr) p2 (Nat.lt_of_le_of_lt hnr (Nat.le_of_ble_eq_true rfl))
    have hP : va_P (dC, dI) vwCl (ti__w ti r0 (nI ln) r2 r3 r4 r5 (nI nr) r7 r8 tz k_j0 (bN 13 q_j0) k_j2 j2 k_j3 (bN 120 q_2) k_j4 (bN 120 q_3) k_j5 f_4 k_j7 (bN 120 q_j7) k_j8 j8) H := by rw [← ef_4]; exact hP
    have hD : va_D A (ti__w ti r0 (nI ln) r2 r3 r4 r5 (nI nr) r7 r8 tz k_j0 (bN 13 q_j0) k_j2 j2 k_j3 (bN 120 q_2) k_j4 (bN 120 q_3) k_j5 f_4 k_j7 (bN 120 q_j7) k_j8 j8) := by rw [← ef_4]; exact hD
    have hsp := hsp.trans (slet_eq xf_4)
    refine lv_aload_n hx hb eX6_layRule_40 rfl (lv_at hl 0 rfl) ?_
    refine lv_dup hx hb eX6_layRule_41 rfl ?_
    refine va_get (D := (dC, dI)) (ci := 6) (v := .int (nI nr)) (C := RX6) (T := TX6) (N := 10) hx hb hts hiX6 hown hK hP 0 rfl rfl 6 (by decide) v_1 (fun _ h9 => h9) rfl eX6_layRule_42 ?_
    refine lv_iconst (v := 1) hx hb eX6_layRule_45 (by decide) ?_
    refine lv_iadd hx hb eX6_layRule_46 ?_
    refine lv_topi (fun y_5 ey_5 => ?_)
    obtain rfl : y_5 = (nI (nr + 1)) := ey_5.trans (nI_add nr 1)
    refine va_put (D := (dC, dI)) (ci := 6) (v := .int (nI (nr + 1))) (ty := .int) (C := RX6) (T := TX6) (N := 10) hx hb hts hiX6 tyX6 tyX6_ok nmX6 hown hK hP hD hS 0 rfl rfl 6 (by decide) v_1 (fun _ h9 => h9) rfl (by decide +kernel) rfl rfl (Nat.le_of_ble_eq_true rfl) eX6_layRule_47 (fun H locs hP hD hS => ?_)
    have hP : va_P (dC, dI) vwCl (ti__w ti r0 (nI ln) r2 r3 r4 r5 (nI (nr + 1)) r7 r8 tz k_j0 (bN 13 q_j0) k_j2 j2 k_j3 (bN 120 q_2) k_j4 (bN 120 q_3) k_j5 f_4 k_j7 (bN 120 q_j7) k_j8 j8) H := hP
    have hD : va_D A (ti__w ti r0 (nI ln) r2 r3 r4 r5 (nI (nr + 1)) r7 r8 tz k_j0 (bN 13 q_j0) k_j2 j2 k_j3 (bN 120 q_2) k_j4 (bN 120 q_3) k_j5 f_4 k_j7 (bN 120 q_j7) k_j8 j8) := hD
    exact W.vret hx hb hr (fun t ht hW => ⟨⟨(), rfl, trivial, ⟨q_2, q_3, f_4, (nr + 1), ⟨by rw [ht]; exact hP, va_K.moved hW.alike hK, hD⟩, (by omega), (hsp.symm.trans hRR)⟩⟩, hS.F ht⟩) hS.2.2 eX6_layRule_50
theorem eX6_layConditions_0 : decode cX6_layConditions 0 = .ok (.iconst 0, 1) := by decide +kernel
theorem eX6_layConditions_1 : decode cX6_layConditions 1 = .ok (.istore 4, 2) := by decide +kernel
theorem eX6_layConditions_3 : decode cX6_layConditions 3 = .ok (.iload 4, 2) := by decide +kernel
theorem eX6_layConditions_5 : decode cX6_layConditions 5 = .ok (.aload_n 1, 1) := by decide +kernel
theorem eX6_layConditions_6 : decode cX6_layConditions 6 = .ok (.getfield 93, 3) := by decide +kernel
theorem eX6_layConditions_9 : decode cX6_layConditions 9 = .ok (.iload_n 2, 1) := by decide +kernel
theorem eX6_layConditions_10 : decode cX6_layConditions 10 = .ok (.iaload, 1) := by decide +kernel
theorem eX6_layConditions_11 : decode cX6_layConditions 11 = .ok (.if_icmp .ge 91, 3) := by decide +kernel
theorem eX6_layConditions_14 : decode cX6_layConditions 14 = .ok (.iload_n 2, 1) := by decide +kernel
theorem eX6_layConditions_15 : decode cX6_layConditions 15 = .ok (.iload 4, 2) := by decide +kernel
theorem eX6_layConditions_17 : decode cX6_layConditions 17 = .ok (.invokestatic 96, 3) := by decide +kernel
theorem eX6_layConditions_20 : decode cX6_layConditions 20 = .ok (.istore 5, 2) := by decide +kernel
theorem eX6_layConditions_22 : decode cX6_layConditions 22 = .ok (.aload_n 0, 1) := by decide +kernel
theorem eX6_layConditions_23 : decode cX6_layConditions 23 = .ok (.getfield 27, 3) := by decide +kernel
theorem eX6_layConditions_26 : decode cX6_layConditions 26 = .ok (.aload_n 1, 1) := by decide +kernel
theorem eX6_layConditions_27 : decode cX6_layConditions 27 = .ok (.getfield 100, 3) := by decide +kernel
theorem eX6_layConditions_30 : decode cX6_layConditions 30 = .ok (.iload 5, 2) := by decide +kernel
theorem eX6_layConditions_32 : decode cX6_layConditions 32 = .ok (.iaload, 1) := by decide +kernel
theorem eX6_layConditions_33 : decode cX6_layConditions 33 = .ok (.iaload, 1) := by decide +kernel
theorem eX6_layConditions_34 : decode cX6_layConditions 34 = .ok (.istore 6, 2) := by decide +kernel
theorem eX6_layConditions_36 : decode cX6_layConditions 36 = .ok (.aload_n 1, 1) := by decide +kernel
theorem eX6_layConditions_37 : decode cX6_layConditions 37 = .ok (.getfield 103, 3) := by decide +kernel
theorem eX6_layConditions_40 : decode cX6_layConditions 40 = .ok (.iload 5, 2) := by decide +kernel
theorem eX6_layConditions_42 : decode cX6_layConditions 42 = .ok (.iaload, 1) := by decide +kernel
theorem eX6_layConditions_43 : decode cX6_layConditions 43 = .ok (.ldc 106, 2) := by decide +kernel
theorem eX6_layConditions_45 : decode cX6_layConditions 45 = .ok (.if_icmp .eq 21, 3) := by decide +kernel
theorem eX6_layConditions_48 : decode cX6_layConditions 48 = .ok (.aload_n 0, 1) := by decide +kernel
theorem eX6_layConditions_49 : decode cX6_layConditions 49 = .ok (.iload 6, 2) := by decide +kernel
theorem eX6_layConditions_51 : decode cX6_layConditions 51 = .ok (.iload_n 3, 1) := by decide +kernel
theorem eX6_layConditions_52 : decode cX6_layConditions 52 = .ok (.aload_n 1, 1) := by decide +kernel
theorem eX6_layConditions_53 : decode cX6_layConditions 53 = .ok (.getfield 103, 3) := by decide +kernel
theorem eX6_layConditions_56 : decode cX6_layConditions 56 = .ok (.iload 5, 2) := by decide +kernel
theorem eX6_layConditions_58 : decode cX6_layConditions 58 = .ok (.iaload, 1) := by decide +kernel
theorem eX6_layConditions_59 : decode cX6_layConditions 59 = .ok (.invokestatic 107, 3) := by decide +kernel
theorem eX6_layConditions_62 : decode cX6_layConditions 62 = .ok (.ineg, 1) := by decide +kernel
theorem eX6_layConditions_63 : decode cX6_layConditions 63 = .ok (.invokevirtual 76, 3) := by decide +kernel
theorem eX6_layConditions_66 : decode cX6_layConditions 66 = .ok (.aload_n 1, 1) := by decide +kernel
theorem eX6_layConditions_67 : decode cX6_layConditions 67 = .ok (.getfield 110, 3) := by decide +kernel
theorem eX6_layConditions_70 : decode cX6_layConditions 70 = .ok (.iload 5, 2) := by decide +kernel
theorem eX6_layConditions_72 : decode cX6_layConditions 72 = .ok (.iaload, 1) := by decide +kernel
theorem eX6_layConditions_73 : decode cX6_layConditions 73 = .ok (.ldc 106, 2) := by decide +kernel
theorem eX6_layConditions_75 : decode cX6_layConditions 75 = .ok (.if_icmp .eq 21, 3) := by decide +kernel
theorem eX6_layConditions_78 : decode cX6_layConditions 78 = .ok (.aload_n 0, 1) := by decide +kernel
theorem eX6_layConditions_79 : decode cX6_layConditions 79 = .ok (.iload_n 3, 1) := by decide +kernel
theorem eX6_layConditions_80 : decode cX6_layConditions 80 = .ok (.iload 6, 2) := by decide +kernel
theorem eX6_layConditions_82 : decode cX6_layConditions 82 = .ok (.aload_n 1, 1) := by decide +kernel
theorem eX6_layConditions_83 : decode cX6_layConditions 83 = .ok (.getfield 110, 3) := by decide +kernel
theorem eX6_layConditions_86 : decode cX6_layConditions 86 = .ok (.iload 5, 2) := by decide +kernel
theorem eX6_layConditions_88 : decode cX6_layConditions 88 = .ok (.iaload, 1) := by decide +kernel
theorem eX6_layConditions_89 : decode cX6_layConditions 89 = .ok (.invokestatic 107, 3) := by decide +kernel
theorem eX6_layConditions_92 : decode cX6_layConditions 92 = .ok (.ineg, 1) := by decide +kernel
theorem eX6_layConditions_93 : decode cX6_layConditions 93 = .ok (.invokevirtual 76, 3) := by decide +kernel
theorem eX6_layConditions_96 : decode cX6_layConditions 96 = .ok (.iinc 4 1, 3) := by decide +kernel
theorem eX6_layConditions_99 : decode cX6_layConditions 99 = .ok (.goto (-96), 3) := by decide +kernel
theorem eX6_layConditions_102 : decode cX6_layConditions 102 = .ok (.return_, 1) := by decide +kernel
abbrev vs_E_6_layConditions : List Cond := .code yX6_layConditions cX6_layConditions 7 none :: CM
theorem g_E_6_layConditions_E_0_slot : GoodIn vs_E_6_layConditions (va_wsS RX6 96 yX0_slot vs_E_0_slot) := cm_gS cm_390 cm_18 cm_19 cm_1
theorem g_E_6_layConditions_E_7_ticks : GoodIn vs_E_6_layConditions (va_wsS RX6 107 yX7_ticks vs_E_7_ticks) := cm_gS cm_391 cm_68 cm_45 cm_69
theorem g_E_6_layConditions_E_6_layRule : GoodIn vs_E_6_layConditions (wsV RX6 76 RX6 yX6_layRule vs_E_6_layRule) := cm_gV cm_392 cm_393 cm_394 cm_383 cm_395
noncomputable def sp_E_6_layConditions_L1 (q_j7 : Nat → Nat) (q_f8 : Nat → Nat) (q_f9 : Nat → Nat) (f12 : Nat → Int32) (f13 : Nat → Int32) (a1 : Nat) (a2 : Nat) : ((Nat → Nat) × (Nat → Nat) × (Nat → Int32) × Nat × Nat) → ((Nat → Nat) × (Nat → Nat) × (Nat → Int32) × Nat × Nat) ⊕ ((Nat → Nat) × (Nat → Nat) × (Nat → Int32) × Nat) := fun (g_6, g_7, g_8, g_9, g_10) => (slet (min (q_f8 a1) 4) (fun u_18 => (if u_18 ≤ g_10 then (Sum.inr (g_6, g_7, g_8, g_9)) else (slet (min (q_f9 (a1 * 4 + g_10)) 2) (fun u_22 => (slet (min (q_j7 u_22) 120) (fun u_24 => (slet (f12 (a1 * 4 + g_10)) (fun y_25 => (slet (α := Nat × (Nat → Nat) × (Nat → Nat) × (Nat → Int32)) (if (y_25 : Int32) = 2147483647 then (g_9, g_6, g_7, g_8) else (slet (f12 (a1 * 4 + g_10)) (fun y_51 => (slet (sp_E_7_ticks y_51) (fun r_52 => (slet (-(r_52 : Int32)) (fun y_53 => (slet (sp_E_6_layRule g_9 g_6 g_7 g_8 u_24 a2 y_53) (fun (z_j3_55, z_j4_56, z_j5_57, z_nr_58) => (z_nr_58, z_j3_55, z_j4_56, z_j5_57)))))))))) (fun (g_26, g_27, g_28, g_29) => (slet (f13 (a1 * 4 + g_10)) (fun y_33 => (slet (α := Nat × (Nat → Nat) × (Nat → Nat) × (Nat → Int32)) (if (y_33 : Int32) = 2147483647 then (g_26, g_27, g_28, g_29) else (slet (f13 (a1 * 4 + g_10)) (fun y_42 => (slet (sp_E_7_ticks y_42) (fun r_43 => (slet (-(r_43 : Int32)) (fun y_44 => (slet (sp_E_6_layRule g_26 g_27 g_28 g_29 a2 u_24 y_44) (fun (z_j3_46, z_j4_47, z_j5_48, z_nr_49) => (z_nr_49, z_j3_46, z_j4_47, z_j5_48)))))))))) (fun (g_34, g_35, g_36, g_37) => (Sum.inl (g_35, g_36, g_37, g_34, (g_10 + 1))))))))))))))))))
noncomputable def sp_E_6_layConditions (nr : Nat) (q_j3 : Nat → Nat) (q_j4 : Nat → Nat) (j5 : Nat → Int32) (q_j7 : Nat → Nat) (q_f8 : Nat → Nat) (q_f9 : Nat → Nat) (f12 : Nat → Int32) (f13 : Nat → Int32) (a1 : Nat) (a2 : Nat) : (Nat → Nat) × (Nat → Nat) × (Nat → Int32) × Nat := (itrv (α := (Nat → Nat) × (Nat → Nat) × (Nat → Int32) × Nat × Nat) (β := ((Nat → Nat) × (Nat → Nat) × (Nat → Int32) × Nat)) default (sp_E_6_layConditions_L1 q_j7 q_f8 q_f9 f12 f13 a1 a2) (q_j3, q_j4, j5, nr, 0))
set_option maxHeartbeats 4000000 in
set_option maxRecDepth 100000 in
theorem c_E_6_layConditions (l : Launch) (dC : Nat → ClassId) (dI : Nat → Nat → Nat) (sz : Nat) (ti : Nat) (r0 : Nat) (ln : Nat) (r2 : Nat) (r3 : Nat) (r4 : Nat) (r5 : Nat) (nr : Nat) (r7 : Nat) (r8 : Nat) (tz : Nat) (k_j0 : ClassId) (q_j0 : Nat → Nat) (k_j2 : ClassId) (j2 : Nat → Int32) (k_j3 : ClassId) (q_j3 : Nat → Nat) (k_j4 : ClassId) (q_j4 : Nat → Nat) (k_j5 : ClassId) (j5 : Nat → Int32) (k_j7 : ClassId) (q_j7 : Nat → Nat) (k_j8 : ClassId) (j8 : Nat → Int32) (au : Nat) (nc : Nat) (np : Nat) (ne : Nat) (st0 : Int32) (q4 : Nat) (q5 : Nat) (q6 : Nat) (q7 : Nat) (q8 : Nat) (q9 : Nat) (q10 : Nat) (q11 : Nat) (q12 : Nat) (q13 : Nat) (q14 : Nat) (q15 : Nat) (q16 : Nat) (k_f4 : ClassId) (f4 : Nat → Int32) (k_f5 : ClassId) (q_f5 : Nat → Nat) (k_f6 : ClassId) (q_f6 : Nat → Nat) (k_f7 : ClassId) (f7 : Nat → Int32) (k_f8 : ClassId) (q_f8 : Nat → Nat) (k_f9 : ClassId) (q_f9 : Nat → Nat) (k_f10 : ClassId) (f10 : Nat → Int32) (k_f11 : ClassId) (f11 : Nat → Int32) (k_f12 : ClassId) (f12 : Nat → Int32) (k_f13 : ClassId) (f13 : Nat → Int32) (k_f14 : ClassId) (f14 : Nat → Int32) (k_f15 : ClassId) (f15 : Nat → Int32) (k_f16 : ClassId) (f16 : Nat → Int32) (a1 : Nat) (a2 : Nat) (hln : ln ≤ 119) (hnr : nr ≤ 1920) (hnc : nc ≤ 3) (hnp : np ≤ 8) (hne : ne ≤ 14) (hst0 : pm1 7 st0) (ha1 : a1 ≤ 21) (ha2 : a2 ≤ 120) : Met l yX6_layConditions vs_E_6_layConditions ({ frames := 1, cells := 0, slots := 0, locals := 23 }) (va_Pc [.ref ti, .ref au, .int (nI a1), .int (nI a2)] (pu_B (dC, dI) (ta__w ti r0 (nI ln) r2 r3 r4 r5 (nI nr) r7 r8 tz k_j0 (bN 13 q_j0) k_j2 j2 k_j3 (bN 120 q_j3) k_j4 (bN 120 q_j4) k_j5 j5 k_j7 (bN 120 q_j7) k_j8 j8 au (nI nc) (nI np) (nI ne) st0 q4 q5 q6 q7 q8 q9 q10 q11 q12 q13 q14 q15 q16 k_f4 f4 k_f5 (bN 7 q_f5) k_f6 (bN 7 q_f6) k_f7 f7 k_f8 (bN 4 q_f8) k_f9 (bN 2 q_f9) k_f10 f10 k_f11 f11 k_f12 f12 k_f13 f13 k_f14 f14 k_f15 f15 k_f16 f16) (ta__t k_j0 k_j2 k_j3 k_j4 k_j5 k_j7 k_j8 k_f4 k_f5 k_f6 k_f7 k_f8 k_f9 k_f10 k_f11 k_f12 k_f13 k_f14 k_f15 k_f16) sz)) (va_Qv (fun (_ : Unit) => True) (fun _ t => ∃ (z_j3 : Nat → Nat) (z_j4 : Nat → Nat) (z_j5 : Nat → Int32) (z_nr : Nat), pu_E (dC, dI) (ta__w ti r0 (nI ln) r2 r3 r4 r5 (nI z_nr) r7 r8 tz k_j0 (bN 13 q_j0) k_j2 j2 k_j3 (bN 120 z_j3) k_j4 (bN 120 z_j4) k_j5 z_j5 k_j7 (bN 120 q_j7) k_j8 j8 au (nI nc) (nI np) (nI ne) st0 q4 q5 q6 q7 q8 q9 q10 q11 q12 q13 q14 q15 q16 k_f4 f4 k_f5 (bN 7 q_f5) k_f6 (bN 7 q_f6) k_f7 f7 k_f8 (bN 4 q_f8) k_f9 (bN 2 q_f9) k_f10 f10 k_f11 f11 k_f12 f12 k_f13 f13 k_f14 f14 k_f15 f15 k_f16 f16) (ta__t k_j0 k_j2 k_j3 k_j4 k_j5 k_j7 k_j8 k_f4 k_f5 k_f6 k_f7 k_f8 k_f9 k_f10 k_f11 k_f12 k_f13 k_f14 k_f15 k_f16) (va_A ((ta__w ti r0 (nI ln) r2 r3 r4 r5 (nI nr) r7 r8 tz k_j0 (bN 13 q_j0) k_j2 j2 k_j3 (bN 120 q_j3) k_j4 (bN 120 q_j4) k_j5 j5 k_j7 (bN 120 q_j7) k_j8 j8 au (nI nc) (nI np) (nI ne) st0 q4 q5 q6 q7 q8 q9 q10 q11 q12 q13 q14 q15 q16 k_f4 f4 k_f5 (bN 7 q_f5) k_f6 (bN 7 q_f6) k_f7 f7 k_f8 (bN 4 q_f8) k_f9 (bN 2 q_f9) k_f10 f10 k_f11 f11 k_f12 f12 k_f13 f13 k_f14 f14 k_f15 f15 k_f16 f16)) sz) t ∧ (z_nr ≤ 1920) ∧ ((z_j3, z_j4, z_j5, z_nr) = (sp_E_6_layConditions nr q_j3 q_j4 j5 q_j7 q_f8 q_f9 f12 f13 a1 a2))) (va_A ((ta__w ti r0 (nI ln) r2 r3 r4 r5 (nI nr) r7 r8 tz k_j0 (bN 13 q_j0) k_j2 j2 k_j3 (bN 120 q_j3) k_j4 (bN 120 q_j4) k_j5 j5 k_j7 (bN 120 q_j7) k_j8 j8 au (nI nc) (nI np) (nI ne) st0 q4 q5 q6 q7 q8 q9 q10 q11 q12 q13 q14 q15 q16 k_f4 f4 k_f5 (bN 7 q_f5) k_f6 (bN 7 q_f6) k_f7 f7 k_f8 (bN 4 q_f8) k_f9 (bN 2 q_f9) k_f10 f10 k_f11 f11 k_f12 f12 k_f13 f13 k_f14 f14 k_f15 f15 k_f16 f16)) sz)) 0 0 (va_A ((ta__w ti r0 (nI ln) r2 r3 r4 r5 (nI nr) r7 r8 tz k_j0 (bN 13 q_j0) k_j2 j2 k_j3 (bN 120 q_j3) k_j4 (bN 120 q_j4) k_j5 j5 k_j7 (bN 120 q_j7) k_j8 j8 au (nI nc) (nI np) (nI ne) st0 q4 q5 q6 q7 q8 q9 q10 q11 q12 q13 q14 q15 q16 k_f4 f4 k_f5 (bN 7 q_f5) k_f6 (bN 7 q_f6) k_f7 f7 k_f8 (bN 4 q_f8) k_f9 (bN 2 q_f9) k_f10 f10 k_f11 f11 k_f12 f12 k_f13 f13 k_f14 f14 k_f15 f15 k_f16 f16)) sz) := by
  refine Met.ofW (cc := cX6_layConditions) (maxL := 7) (ret := none) (by decide) rfl ?_
  intro p e s m args below meth c s₁ B hml hv
  obtain ⟨rfl, rfl, hP, hK, hD0⟩ := hv
  have hx := B.exec
  have hb := B.bytes
  have hr := B.returns
  have hts := atoms_spec (ws := vs_E_6_layConditions) B.pre
  have v_1 := hts (.fieldLink RX6 93 "ClockReach$Automaton" "counts" "[I") (List.mem_cons_of_mem _ cm_385)
  have v_6 := hts (.fieldLink RX6 27 "ClockReach$Timing" "since" "[I") (List.mem_cons_of_mem _ cm_372)
  have v_7 := hts (.fieldLink RX6 100 "ClockReach$Automaton" "conditionClocks" "[I") (List.mem_cons_of_mem _ cm_386)
  have v_8 := hts (.fieldLink RX6 103 "ClockReach$Automaton" "ceilings" "[I") (List.mem_cons_of_mem _ cm_387)
  have v_9 := hts (.constant RX6 106 (2147483647)) (List.mem_cons_of_mem _ cm_388)
  have v_19 := hts (.fieldLink RX6 110 "ClockReach$Automaton" "floors" "[I") (List.mem_cons_of_mem _ cm_389)
  have hown : s.vm.findClass RX6 = some m.cls := findClass_of_methodNamed B.named
  have hlocks := B.notSynchronized
  have hiX0 : ∀ w ∈ wsX00, w ∈ vs_E_6_layConditions := fun _ h => List.mem_cons_of_mem _ (cm_X0 h)
  have hiX6 : ∀ w ∈ wsX60, w ∈ vs_E_6_layConditions := fun _ h => List.mem_cons_of_mem _ (cm_X6 h)
  have hD := hD0.self (sz := s.heap.size)
  generalize hAe : va_A ((ta__w ti r0 (nI ln) r2 r3 r4 r5 (nI nr) r7 r8 tz k_j0 (bN 13 q_j0) k_j2 j2 k_j3 (bN 120 q_j3) k_j4 (bN 120 q_j4) k_j5 j5 k_j7 (bN 120 q_j7) k_j8 j8 au (nI nc) (nI np) (nI ne) st0 q4 q5 q6 q7 q8 q9 q10 q11 q12 q13 q14 q15 q16 k_f4 f4 k_f5 (bN 7 q_f5) k_f6 (bN 7 q_f6) k_f7 f7 k_f8 (bN 4 q_f8) k_f9 (bN 2 q_f9) k_f10 f10 k_f11 f11 k_f12 f12 k_f13 f13 k_f14 f14 k_f15 f15 k_f16 f16)) s.heap.size = A at hD ⊢
  have hA : ∀ q : Nat, s.heap.size ≤ q → A q := fun q h => by rw [← hAe]; exact Or.inr h
  have hS : va_S A s.heap s.heap [] := va_S.rf
  have hl := lv_entry ([.ref ti, .ref au, .int (nI a1), .int (nI a2)]) (n := 7) (Nat.le_of_ble_eq_true rfl)
  rw [lg_entry_eq]
  generalize (lg_sl ([.ref ti, .ref au, .int (nI a1), .int (nI a2)]) ++ List.replicate (7 - (lg_sl ([.ref ti, .ref au, .int (nI a1), .int (nI a2)])).length) Slot.unset).toArray = ls at hl ⊢
  have hl : lv_has ls 7 [(0, .ref ti), (1, .ref au), (2, .int (nI a1)), (3, .int (nI a2))] := hl
  obtain ⟨RR, hRR⟩ : ∃ x, x = (sp_E_6_layConditions nr q_j3 q_j4 j5 q_j7 q_f8 q_f9 f12 f13 a1 a2) := ⟨_, rfl⟩
  have hsp := hRR
  refine lv_iconst (v := 0) hx hb eX6_layConditions_0 (by decide) ?_
  refine lv_istore (lv' := [(4, .int 0), (0, .ref ti), (1, .ref au), (2, .int (nI a1)), (3, .int (nI a2))]) hx hb eX6_layConditions_1 hl (by decide) rfl (fun ls hl => ?_)
  obtain ⟨lf_12, dlf_12, hlf_12, hsp⟩ := itr_ex hsp
  delta sp_E_6_layConditions_L1 at hlf_12
  refine pu_while (fun nn H locs ls => ∃ (g_6 : Nat → Nat) (g_7 : Nat → Nat) (g_8 : Nat → Int32) (g_9 : Nat) (g_10 : Nat), nn = 4 - g_10 ∧ g_9 ≤ 1920 ∧ g_10 ≤ 4 ∧ RR = itrv dlf_12 lf_12 (g_6, g_7, g_8, g_9, g_10) ∧ va_P (dC, dI) vwCl (ta__w ti r0 (nI ln) r2 r3 r4 r5 (nI g_9) r7 r8 tz k_j0 (bN 13 q_j0) k_j2 j2 k_j3 (bN 120 g_6) k_j4 (bN 120 g_7) k_j5 g_8 k_j7 (bN 120 q_j7) k_j8 j8 au (nI nc) (nI np) (nI ne) st0 q4 q5 q6 q7 q8 q9 q10 q11 q12 q13 q14 q15 q16 k_f4 f4 k_f5 (bN 7 q_f5) k_f6 (bN 7 q_f6) k_f7 f7 k_f8 (bN 4 q_f8) k_f9 (bN 2 q_f9) k_f10 f10 k_f11 f11 k_f12 f12 k_f13 f13 k_f14 f14 k_f15 f15 k_f16 f16) H ∧ va_D A (ta__w ti r0 (nI ln) r2 r3 r4 r5 (nI g_9) r7 r8 tz k_j0 (bN 13 q_j0) k_j2 j2 k_j3 (bN 120 g_6) k_j4 (bN 120 g_7) k_j5 g_8 k_j7 (bN 120 q_j7) k_j8 j8 au (nI nc) (nI np) (nI ne) st0 q4 q5 q6 q7 q8 q9 q10 q11 q12 q13 q14 q15 q16 k_f4 f4 k_f5 (bN 7 q_f5) k_f6 (bN 7 q_f6) k_f7 f7 k_f8 (bN 4 q_f8) k_f9 (bN 2 q_f9) k_f10 f10 k_f11 f11 k_f12 f12 k_f13 f13 k_f14 f14 k_f15 f15 k_f16 f16) ∧ va_S A s.heap H locs ∧ lv_has ls 7 [(0, .ref ti), (1, .ref au), (2, .int (nI a1)), (3, .int (nI a2)), (4, .int (nI g_10))]) 3 ?_ _ _ _ _ ⟨q_j3, q_j4, j5, nr, 0, rfl, hnr, (Nat.le_of_ble_eq_true rfl), hsp, hP, hD, hS, lv_sub hl [1, 2, 3, 4, 0] rfl⟩
  rintro nn ih_11 H locs ls ⟨g_6, g_7, g_8, g_9, g_10, rfl, hg_9, hg_10, he_14, hP, hD, hS, hl⟩
  obtain ⟨S_13, hsp, hin_15, hout_16⟩ := itr_step hlf_12 he_14
  refine lv_iload hx hb eX6_layConditions_3 (lv_at hl 4 rfl) ?_
  refine lv_aload_n hx hb eX6_layConditions_5 rfl (lv_at hl 1 rfl) ?_
  refine va_get (D := (dC, dI)) (ci := 0) (v := .ref q8) (C := RX0) (T := TX0) (N := 17) hx hb hts hiX0 hown hK hP 8 rfl rfl 8 (by decide) v_1 (fun _ h9 => h9) rfl eX6_layConditions_6 ?_
  refine lv_iload_n hx hb eX6_layConditions_9 rfl (lv_at hl 2 rfl) ?_
  refine va_iald hx hb hK hP 13 11 rfl rfl (vp_in_nI (n := a1) (Nat.lt_of_le_of_lt ha1 (Nat.le_of_ble_eq_true rfl)) (Nat.le_of_ble_eq_true rfl)) eX6_layConditions_10 ?_
  refine lv_topi (fun y_17 ey_17 => ?_)
  obtain ⟨u_18, hu_18, qu_18, xu_18⟩ := bN_getx 4 q_f8 (n := a1) (Nat.lt_of_le_of_lt ha1 (Nat.le_of_ble_eq_true rfl))
  obtain rfl : y_17 = nI u_18 := ey_17.trans qu_18
  have hsp := hsp.trans (slet_eq xu_18)
  refine lv_icmp_ge (tgt := 102) hx hb eX6_layConditions_11 (by decide) (fun c_19 => ?_) (fun c_19 => ?_)
  · have c_19 : u_18 ≤ g_10 := (nI_leI (a := u_18) (b := g_10) (Nat.lt_of_le_of_lt hu_18 (Nat.le_of_ble_eq_true rfl)) (Nat.lt_of_le_of_lt hg_10 (Nat.le_of_ble_eq_true rfl))).mp c_19
    have hsp := hsp.trans (if_pos c_19)
    have hsp := hout_16 _ hsp
    exact W.vret hx hb hr (fun t ht hW => ⟨⟨(), rfl, trivial, ⟨g_6, g_7, g_8, g_9, ⟨by rw [ht]; exact hP, va_K.moved hW.alike hK, hD⟩, hg_9, (hsp.symm.trans hRR)⟩⟩, hS.F ht⟩) hS.2.2 eX6_layConditions_102
  · have c_19 : ¬ u_18 ≤ g_10 := fun z => c_19 ((nI_leI (a := u_18) (b := g_10) (Nat.lt_of_le_of_lt hu_18 (Nat.le_of_ble_eq_true rfl)) (Nat.lt_of_le_of_lt hg_10 (Nat.le_of_ble_eq_true rfl))).mpr z)
    have hsp := hsp.trans (if_neg c_19)
    refine lv_iload_n hx hb eX6_layConditions_14 rfl (lv_at hl 2 rfl) ?_
    refine lv_iload hx hb eX6_layConditions_15 (lv_at hl 4 rfl) ?_
    refine va_calli (va_runS (As := [.int (nI a1), .int (nI g_10)]) (rest := []) ⟨hx, hb, hml, hown, hts⟩ (c_E_0_slot l dC dI _ a1 g_10 ha1 hg_10) (va_cwS 2 hts g_E_6_layConditions_E_0_slot rfl rfl rfl (by decide +kernel) ⟨Nat.le_of_ble_eq_true rfl, Nat.le_of_ble_eq_true rfl⟩) ⟨pu_bl, pu_in (hP.sub [] rfl) (hK.sub [] rfl) (hD.sub [] (by decide) rfl)⟩ rfl rfl hl.1 rfl (lv_room (Nat.le_of_ble_eq_true rfl)) eX6_layConditions_17 ⟨Nat.le_of_ble_eq_true rfl, Nat.le_of_ble_eq_true rfl⟩) hS (fun q _ h => pu_fr hS hA q h) (pu_fr hS hA) (fun r_20 u t H1 locs ht hvm hw hB hz1 hk1 hS => ?_)
    have hP := pu_keep hP hk1
    clear hk1 hz1 ht hvm
    generalize H1 = H at hP hS ⊢
    obtain rfl : r_20 = nI (a1 * 4 + g_10) := hw
    refine lv_istore (lv' := [(5, .int (nI (a1 * 4 + g_10))), (0, .ref ti), (1, .ref au), (2, .int (nI a1)), (3, .int (nI a2)), (4, .int (nI g_10))]) hx hb eX6_layConditions_20 hl (by decide) rfl (fun ls hl => ?_)
    refine lv_aload_n hx hb eX6_layConditions_22 rfl (lv_at hl 1 rfl) ?_
    refine va_get (D := (dC, dI)) (ci := 6) (v := .ref r7) (C := RX6) (T := TX6) (N := 10) hx hb hts hiX6 hown hK hP 0 rfl rfl 7 (by decide) v_6 (fun _ h9 => h9) rfl eX6_layConditions_23 ?_
    refine lv_aload_n hx hb eX6_layConditions_26 rfl (lv_at hl 2 rfl) ?_
    refine va_get (D := (dC, dI)) (ci := 0) (v := .ref q9) (C := RX0) (T := TX0) (N := 17) hx hb hts hiX0 hown hK hP 8 rfl rfl 9 (by decide) v_7 (fun _ h9 => h9) rfl eX6_layConditions_27 ?_
    refine lv_iload hx hb eX6_layConditions_30 (lv_at hl 0 rfl) ?_
    refine va_iald hx hb hK hP 14 12 rfl rfl (vp_in_nI (n := (a1 * 4 + g_10)) (by omega) (Nat.le_of_ble_eq_true rfl)) eX6_layConditions_32 ?_
    refine lv_topi (fun y_21 ey_21 => ?_)
    obtain ⟨u_22, hu_22, qu_22, xu_22⟩ := bN_getx 2 q_f9 (n := (a1 * 4 + g_10)) (by first | omega | exact Nat.lt_trans (zx16 (by omega) (by omega) (by omega)) (Nat.le_of_ble_eq_true rfl) | exact Nat.lt_trans (zy16 (by omega) (by omega)) (Nat.le_of_ble_eq_true rfl) | exact Nat.lt_trans (zx25 (by omega) (by omega) (by omega)) (Nat.le_of_ble_eq_true rfl) | exact Nat.lt_trans (zy25 (by omega) (by omega)) (Nat.le_of_ble_eq_true rfl))
    obtain rfl : y_21 = nI u_22 := ey_21.trans qu_22
    have hsp := hsp.trans (slet_eq xu_22)
    refine va_iald hx hb hK hP 6 5 rfl rfl (vp_in_nI (n := u_22) (Nat.lt_of_le_of_lt hu_22 (Nat.le_of_ble_eq_true rfl)) (Nat.le_of_ble_eq_true rfl)) eX6_layConditions_33 ?_
    refine lv_topi (fun y_23 ey_23 => ?_)
    obtain ⟨u_24, hu_24, qu_24, xu_24⟩ := bN_getx 120 q_j7 (n := u_22) (Nat.lt_of_le_of_lt hu_22 (Nat.le_of_ble_eq_true rfl))
    obtain rfl : y_23 = nI u_24 := ey_23.trans qu_24
    have hsp := hsp.trans (slet_eq xu_24)
    refine lv_istore (lv' := [(6, .int (nI u_24)), (5, .int (nI (a1 * 4 + g_10))), (0, .ref ti), (1, .ref au), (2, .int (nI a1)), (3, .int (nI a2)), (4, .int (nI g_10))]) hx hb eX6_layConditions_34 hl (by decide) rfl (fun ls hl => ?_)
    refine lv_aload_n hx hb eX6_layConditions_36 rfl (lv_at hl 3 rfl) ?_
    refine va_get (D := (dC, dI)) (ci := 0) (v := .ref q12) (C := RX0) (T := TX0) (N := 17) hx hb hts hiX0 hown hK hP 8 rfl rfl 12 (by decide) v_8 (fun _ h9 => h9) rfl eX6_layConditions_37 ?_
    refine lv_iload hx hb eX6_layConditions_40 (lv_at hl 1 rfl) ?_
    refine va_iald hx hb hK hP 17 15 rfl rfl (vp_in_nI (n := (a1 * 4 + g_10)) (by omega) (Nat.le_of_ble_eq_true rfl)) eX6_layConditions_42 ?_
    refine lv_topi (fun y_25 ey_25 => ?_)
    have ey_25 : y_25 = f12 (a1 * 4 + g_10) := ey_25.trans (congrArg f12 (nI_clamp (n := (a1 * 4 + g_10)) (by first | omega | exact Nat.lt_trans (zx16 (by omega) (by omega) (by omega)) (Nat.le_of_ble_eq_true rfl) | exact Nat.lt_trans (zy16 (by omega) (by omega)) (Nat.le_of_ble_eq_true rfl) | exact Nat.lt_trans (zx25 (by omega) (by omega) (by omega)) (Nat.le_of_ble_eq_true rfl) | exact Nat.lt_trans (zy25 (by omega) (by omega)) (Nat.le_of_ble_eq_true rfl))))
    have hsp := hsp.trans (slet_eq ey_25)
    refine lv_ldc hx hb hown v_9 eX6_layConditions_43 ?_
    obtain ⟨JR_31, hJR_31, hsp⟩ := slet_ex hsp
    refine pu_join (fun H locs ls st => ∃ (g_26 : Nat) (g_27 : Nat → Nat) (g_28 : Nat → Nat) (g_29 : Nat → Int32), st = [] ∧ g_26 ≤ 1920 ∧ (g_26, g_27, g_28, g_29) = JR_31 ∧ va_P (dC, dI) vwCl (ta__w ti r0 (nI ln) r2 r3 r4 r5 (nI g_26) r7 r8 tz k_j0 (bN 13 q_j0) k_j2 j2 k_j3 (bN 120 g_27) k_j4 (bN 120 g_28) k_j5 g_29 k_j7 (bN 120 q_j7) k_j8 j8 au (nI nc) (nI np) (nI ne) st0 q4 q5 q6 q7 q8 q9 q10 q11 q12 q13 q14 q15 q16 k_f4 f4 k_f5 (bN 7 q_f5) k_f6 (bN 7 q_f6) k_f7 f7 k_f8 (bN 4 q_f8) k_f9 (bN 2 q_f9) k_f10 f10 k_f11 f11 k_f12 f12 k_f13 f13 k_f14 f14 k_f15 f15 k_f16 f16) H ∧ va_D A (ta__w ti r0 (nI ln) r2 r3 r4 r5 (nI g_26) r7 r8 tz k_j0 (bN 13 q_j0) k_j2 j2 k_j3 (bN 120 g_27) k_j4 (bN 120 g_28) k_j5 g_29 k_j7 (bN 120 q_j7) k_j8 j8 au (nI nc) (nI np) (nI ne) st0 q4 q5 q6 q7 q8 q9 q10 q11 q12 q13 q14 q15 q16 k_f4 f4 k_f5 (bN 7 q_f5) k_f6 (bN 7 q_f6) k_f7 f7 k_f8 (bN 4 q_f8) k_f9 (bN 2 q_f9) k_f10 f10 k_f11 f11 k_f12 f12 k_f13 f13 k_f14 f14 k_f15 f15 k_f16 f16) ∧ va_S A s.heap H locs ∧ lv_has ls 7 [(0, .ref ti), (1, .ref au), (2, .int (nI a1)), (3, .int (nI a2)), (4, .int (nI g_10)), (5, .int (nI (a1 * 4 + g_10))), (6, .int (nI u_24))]) 66 ?_ (fun j_30 => ?_)
    · rintro H locs ls st ⟨g_26, g_27, g_28, g_29, rfl, hg_26, he_32, hP, hD, hS, hl⟩
      rw [← he_32] at hsp
      refine lv_aload_n hx hb eX6_layConditions_66 rfl (lv_at hl 1 rfl) ?_
      refine va_get (D := (dC, dI)) (ci := 0) (v := .ref q13) (C := RX0) (T := TX0) (N := 17) hx hb hts hiX0 hown hK hP 8 rfl rfl 13 (by decide) v_19 (fun _ h9 => h9) rfl eX6_layConditions_67 ?_
      refine lv_iload hx hb eX6_layConditions_70 (lv_at hl 5 rfl) ?_
      refine va_iald hx hb hK hP 18 16 rfl rfl (vp_in_nI (n := (a1 * 4 + g_10)) (by omega) (Nat.le_of_ble_eq_true rfl)) eX6_layConditions_72 ?_
      refine lv_topi (fun y_33 ey_33 => ?_)
      have ey_33 : y_33 = f13 (a1 * 4 + g_10) := ey_33.trans (congrArg f13 (nI_clamp (n := (a1 * 4 + g_10)) (by first | omega | exact Nat.lt_trans (zx16 (by omega) (by omega) (by omega)) (Nat.le_of_ble_eq_true rfl) | exact Nat.lt_trans (zy16 (by omega) (by omega)) (Nat.le_of_ble_eq_true rfl) | exact Nat.lt_trans (zx25 (by omega) (by omega) (by omega)) (Nat.le_of_ble_eq_true rfl) | exact Nat.lt_trans (zy25 (by omega) (by omega)) (Nat.le_of_ble_eq_true rfl))))
      have hsp := hsp.trans (slet_eq ey_33)
      refine lv_ldc hx hb hown v_9 eX6_layConditions_73 ?_
      obtain ⟨JR_39, hJR_39, hsp⟩ := slet_ex hsp
      refine pu_join (fun H locs ls st => ∃ (g_34 : Nat) (g_35 : Nat → Nat) (g_36 : Nat → Nat) (g_37 : Nat → Int32), st = [] ∧ g_34 ≤ 1920 ∧ (g_34, g_35, g_36, g_37) = JR_39 ∧ va_P (dC, dI) vwCl (ta__w ti r0 (nI ln) r2 r3 r4 r5 (nI g_34) r7 r8 tz k_j0 (bN 13 q_j0) k_j2 j2 k_j3 (bN 120 g_35) k_j4 (bN 120 g_36) k_j5 g_37 k_j7 (bN 120 q_j7) k_j8 j8 au (nI nc) (nI np) (nI ne) st0 q4 q5 q6 q7 q8 q9 q10 q11 q12 q13 q14 q15 q16 k_f4 f4 k_f5 (bN 7 q_f5) k_f6 (bN 7 q_f6) k_f7 f7 k_f8 (bN 4 q_f8) k_f9 (bN 2 q_f9) k_f10 f10 k_f11 f11 k_f12 f12 k_f13 f13 k_f14 f14 k_f15 f15 k_f16 f16) H ∧ va_D A (ta__w ti r0 (nI ln) r2 r3 r4 r5 (nI g_34) r7 r8 tz k_j0 (bN 13 q_j0) k_j2 j2 k_j3 (bN 120 g_35) k_j4 (bN 120 g_36) k_j5 g_37 k_j7 (bN 120 q_j7) k_j8 j8 au (nI nc) (nI np) (nI ne) st0 q4 q5 q6 q7 q8 q9 q10 q11 q12 q13 q14 q15 q16 k_f4 f4 k_f5 (bN 7 q_f5) k_f6 (bN 7 q_f6) k_f7 f7 k_f8 (bN 4 q_f8) k_f9 (bN 2 q_f9) k_f10 f10 k_f11 f11 k_f12 f12 k_f13 f13 k_f14 f14 k_f15 f15 k_f16 f16) ∧ va_S A s.heap H locs ∧ lv_has ls 7 [(0, .ref ti), (1, .ref au), (2, .int (nI a1)), (3, .int (nI a2)), (4, .int (nI g_10)), (5, .int (nI (a1 * 4 + g_10))), (6, .int (nI u_24))]) 96 ?_ (fun j_38 => ?_)
      · rintro H locs ls st ⟨g_34, g_35, g_36, g_37, rfl, hg_34, he_40, hP, hD, hS, hl⟩
        rw [← he_40] at hsp
        refine lv_iinc (v := (nI (g_10 + 1))) (lv' := [(4, .int (nI (g_10 + 1))), (0, .ref ti), (1, .ref au), (2, .int (nI a1)), (3, .int (nI a2)), (5, .int (nI (a1 * 4 + g_10))), (6, .int (nI u_24))]) hx hb eX6_layConditions_96 hl (k := 4) rfl (nI_1 _) (by decide) rfl (fun ls hl => ?_)
        refine lv_goto (tgt := 3) hx hb eX6_layConditions_99 (by decide) ?_
        exact ih_11 (4 - (g_10 + 1)) (by omega) _ _ _ ⟨g_35, g_36, g_37, g_34, (g_10 + 1), rfl, hg_34, (by omega), hin_15 _ hsp, hP, hD, hS, lv_sub hl [1, 2, 3, 4, 0] rfl⟩
      have hsp := hJR_39
      refine lv_icmp_eq (tgt := 96) hx hb eX6_layConditions_75 (by decide) (fun c_41 => ?_) (fun c_41 => ?_)
      · have hcc_41 := c_41
        have hsp := hsp.trans (if_pos c_41)
        exact j_38 _ _ _ _ ⟨g_26, g_27, g_28, g_29, rfl, hg_26, hsp.symm, hP, hD, hS, lv_sub hl [0, 1, 2, 3, 4, 5, 6] rfl⟩
      · have hcc_41 := c_41
        have hsp := hsp.trans (if_neg c_41)
        refine lv_aload_n hx hb eX6_layConditions_78 rfl (lv_at hl 0 rfl) ?_
        refine lv_iload_n hx hb eX6_layConditions_79 rfl (lv_at hl 3 rfl) ?_
        refine lv_iload hx hb eX6_layConditions_80 (lv_at hl 6 rfl) ?_
        refine lv_aload_n hx hb eX6_layConditions_82 rfl (lv_at hl 1 rfl) ?_
        refine va_get (D := (dC, dI)) (ci := 0) (v := .ref q13) (C := RX0) (T := TX0) (N := 17) hx hb hts hiX0 hown hK hP 8 rfl rfl 13 (by decide) v_19 (fun _ h9 => h9) rfl eX6_layConditions_83 ?_
        refine lv_iload hx hb eX6_layConditions_86 (lv_at hl 5 rfl) ?_
        refine va_iald hx hb hK hP 18 16 rfl rfl (vp_in_nI (n := (a1 * 4 + g_10)) (by omega) (Nat.le_of_ble_eq_true rfl)) eX6_layConditions_88 ?_
        refine lv_topi (fun y_42 ey_42 => ?_)
        have ey_42 : y_42 = f13 (a1 * 4 + g_10) := ey_42.trans (congrArg f13 (nI_clamp (n := (a1 * 4 + g_10)) (by first | omega | exact Nat.lt_trans (zx16 (by omega) (by omega) (by omega)) (Nat.le_of_ble_eq_true rfl) | exact Nat.lt_trans (zy16 (by omega) (by omega)) (Nat.le_of_ble_eq_true rfl) | exact Nat.lt_trans (zx25 (by omega) (by omega) (by omega)) (Nat.le_of_ble_eq_true rfl) | exact Nat.lt_trans (zy25 (by omega) (by omega)) (Nat.le_of_ble_eq_true rfl))))
        have hsp := hsp.trans (slet_eq ey_42)
        refine va_calli (va_runS (As := [.int y_42]) (rest := [.int (nI u_24), .int (nI a2), .ref ti]) ⟨hx, hb, hml, hown, hts⟩ (c_E_7_ticks l dC dI _ y_42) (va_cwS 1 hts g_E_6_layConditions_E_7_ticks rfl rfl rfl (by decide +kernel) ⟨Nat.le_of_ble_eq_true rfl, Nat.le_of_ble_eq_true rfl⟩) ⟨pu_bl, pu_in (hP.sub [] rfl) (hK.sub [] rfl) (hD.sub [] (by decide) rfl)⟩ rfl rfl hl.1 rfl (lv_room (Nat.le_of_ble_eq_true rfl)) eX6_layConditions_89 ⟨Nat.le_of_ble_eq_true rfl, Nat.le_of_ble_eq_true rfl⟩) hS (fun q _ h => pu_fr hS hA q h) (pu_fr hS hA) (fun r_43 u t H1 locs ht hvm hw hB hz1 hk1 hS => ?_)
        have hP := pu_keep hP hk1
        clear hk1 hz1 ht hvm
        generalize H1 = H at hP hS ⊢
        have ir_43 := hw
        have hsp := hsp.trans (slet_eq ir_43)
        refine lv_ineg hx hb eX6_layConditions_92 ?_
        refine lv_topi (fun y_44 ey_44 => ?_)
        have hsp := hsp.trans (slet_eq ey_44)
        have hPc : va_P (dC, dI) vwCl (ti__w ti r0 (nI ln) r2 r3 r4 r5 (nI g_26) r7 r8 tz k_j0 (bN 13 q_j0) k_j2 j2 k_j3 (bN 120 g_27) k_j4 (bN 120 g_28) k_j5 g_29 k_j7 (bN 120 q_j7) k_j8 j8) _ := hP.sub [0, 1, 2, 3, 4, 5, 6, 7] rfl
        have hDc := hD.sub (ws' := (ti__w ti r0 (nI ln) r2 r3 r4 r5 (nI g_26) r7 r8 tz k_j0 (bN 13 q_j0) k_j2 j2 k_j3 (bN 120 g_27) k_j4 (bN 120 g_28) k_j5 g_29 k_j7 (bN 120 q_j7) k_j8 j8)) [0, 1, 2, 3, 4, 5, 6, 7] (by decide) rfl
        have hKc : va_K (dC, dI) vwCl (ti__t k_j0 k_j2 k_j3 k_j4 k_j5 k_j7 k_j8) s := hK.sub [0, 1, 2, 3, 4, 5, 6] rfl
        have hFc := pu_free hDc hS hA
        refine va_callv (va_runV (As := [.int (nI a2), .int (nI u_24), .int y_44]) (rest := []) ⟨hx, hb, hml, hown, hts⟩ (c_E_6_layRule l dC dI _ ti r0 ln r2 r3 r4 r5 g_26 r7 r8 tz k_j0 q_j0 k_j2 j2 k_j3 g_27 k_j4 g_28 k_j5 g_29 k_j7 q_j7 k_j8 j8 a2 u_24 y_44 hln hg_26 ha2 hu_24) (cwV 3 hts g_E_6_layConditions_E_6_layRule rfl rfl rfl (by decide +kernel) ⟨Nat.le_of_ble_eq_true rfl, Nat.le_of_ble_eq_true rfl⟩) ⟨pu_bl, va_recv hK hP (ci := 6) (q0 := 0) rfl rfl, pu_in hPc hKc hDc⟩ rfl rfl hl.1 rfl (lv_room (Nat.le_of_ble_eq_true rfl)) eX6_layConditions_93 ⟨Nat.le_of_ble_eq_true rfl, Nat.le_of_ble_eq_true rfl⟩) hS (fun q _ h => hFc q h) hFc (fun u t H1 locs ht hvm hw hB hz1 hk1 hS => ?_)
        obtain ⟨z_j3_46, z_j4_47, z_j5_48, z_nr_49, ⟨hP1, -, hD1⟩, hz_nr_49, xr_45_0⟩ := hB
        rw [ht] at hP1
        obtain ⟨hP, hD⟩ := pj_a (X := (ta__w ti r0 (nI ln) r2 r3 r4 r5 (nI g_26) r7 r8 tz k_j0 (bN 13 q_j0) k_j2 j2 k_j3 (bN 120 g_27) k_j4 (bN 120 g_28) k_j5 g_29 k_j7 (bN 120 q_j7) k_j8 j8 au (nI nc) (nI np) (nI ne) st0 q4 q5 q6 q7 q8 q9 q10 q11 q12 q13 q14 q15 q16 k_f4 f4 k_f5 (bN 7 q_f5) k_f6 (bN 7 q_f6) k_f7 f7 k_f8 (bN 4 q_f8) k_f9 (bN 2 q_f9) k_f10 f10 k_f11 f11 k_f12 f12 k_f13 f13 k_f14 f14 k_f15 f15 k_f16 f16)) (X' := (ta__w ti r0 (nI ln) r2 r3 r4 r5 (nI z_nr_49) r7 r8 tz k_j0 (bN 13 q_j0) k_j2 j2 k_j3 (bN 120 z_j3_46) k_j4 (bN 120 z_j4_47) k_j5 z_j5_48 k_j7 (bN 120 q_j7) k_j8 j8 au (nI nc) (nI np) (nI ne) st0 q4 q5 q6 q7 q8 q9 q10 q11 q12 q13 q14 q15 q16 k_f4 f4 k_f5 (bN 7 q_f5) k_f6 (bN 7 q_f6) k_f7 f7 k_f8 (bN 4 q_f8) k_f9 (bN 2 q_f9) k_f10 f10 k_f11 f11 k_f12 f12 k_f13 f13 k_f14 f14 k_f15 f15 k_f16 f16)) (wc := (ti__w ti r0 (nI ln) r2 r3 r4 r5 (nI g_26) r7 r8 tz k_j0 (bN 13 q_j0) k_j2 j2 k_j3 (bN 120 g_27) k_j4 (bN 120 g_28) k_j5 g_29 k_j7 (bN 120 q_j7) k_j8 j8)) (w1 := (ti__w ti r0 (nI ln) r2 r3 r4 r5 (nI z_nr_49) r7 r8 tz k_j0 (bN 13 q_j0) k_j2 j2 k_j3 (bN 120 z_j3_46) k_j4 (bN 120 z_j4_47) k_j5 z_j5_48 k_j7 (bN 120 q_j7) k_j8 j8)) hP hD [0, 1, 2, 3, 4, 5, 6, 7] [0, 1, 2, 3, 4, 5, 6, 7, 16, 17, 18, 19, 20, 21, 22, 23, 24, 25, 26, 27, 28, 29] 8 rfl hk1 hP1 rfl rfl rfl (by decide)
        clear hP1 hD1 hFc hPc hDc hKc
        clear hk1 hz1 ht hvm
        generalize H1 = H at hP hS ⊢
        have hsp := hsp.trans (slet_eq xr_45_0)
        exact j_38 _ _ _ _ ⟨z_nr_49, z_j3_46, z_j4_47, z_j5_48, rfl, hz_nr_49, hsp.symm, hP, hD, hS, lv_sub hl [0, 1, 2, 3, 4, 5, 6] rfl⟩
    have hsp := hJR_31
    refine lv_icmp_eq (tgt := 66) hx hb eX6_layConditions_45 (by decide) (fun c_50 => ?_) (fun c_50 => ?_)
    · have hcc_50 := c_50
      have hsp := hsp.trans (if_pos c_50)
      exact j_30 _ _ _ _ ⟨g_9, g_6, g_7, g_8, rfl, hg_9, hsp.symm, hP, hD, hS, lv_sub hl [2, 3, 4, 5, 6, 1, 0] rfl⟩
    · have hcc_50 := c_50
      have hsp := hsp.trans (if_neg c_50)
      refine lv_aload_n hx hb eX6_layConditions_48 rfl (lv_at hl 2 rfl) ?_
      refine lv_iload hx hb eX6_layConditions_49 (lv_at hl 0 rfl) ?_
      refine lv_iload_n hx hb eX6_layConditions_51 rfl (lv_at hl 5 rfl) ?_
      refine lv_aload_n hx hb eX6_layConditions_52 rfl (lv_at hl 3 rfl) ?_
      refine va_get (D := (dC, dI)) (ci := 0) (v := .ref q12) (C := RX0) (T := TX0) (N := 17) hx hb hts hiX0 hown hK hP 8 rfl rfl 12 (by decide) v_8 (fun _ h9 => h9) rfl eX6_layConditions_53 ?_
      refine lv_iload hx hb eX6_layConditions_56 (lv_at hl 1 rfl) ?_
      refine va_iald hx hb hK hP 17 15 rfl rfl (vp_in_nI (n := (a1 * 4 + g_10)) (by omega) (Nat.le_of_ble_eq_true rfl)) eX6_layConditions_58 ?_
      refine lv_topi (fun y_51 ey_51 => ?_)
      have ey_51 : y_51 = f12 (a1 * 4 + g_10) := ey_51.trans (congrArg f12 (nI_clamp (n := (a1 * 4 + g_10)) (by first | omega | exact Nat.lt_trans (zx16 (by omega) (by omega) (by omega)) (Nat.le_of_ble_eq_true rfl) | exact Nat.lt_trans (zy16 (by omega) (by omega)) (Nat.le_of_ble_eq_true rfl) | exact Nat.lt_trans (zx25 (by omega) (by omega) (by omega)) (Nat.le_of_ble_eq_true rfl) | exact Nat.lt_trans (zy25 (by omega) (by omega)) (Nat.le_of_ble_eq_true rfl))))
      have hsp := hsp.trans (slet_eq ey_51)
      refine va_calli (va_runS (As := [.int y_51]) (rest := [.int (nI a2), .int (nI u_24), .ref ti]) ⟨hx, hb, hml, hown, hts⟩ (c_E_7_ticks l dC dI _ y_51) (va_cwS 1 hts g_E_6_layConditions_E_7_ticks rfl rfl rfl (by decide +kernel) ⟨Nat.le_of_ble_eq_true rfl, Nat.le_of_ble_eq_true rfl⟩) ⟨pu_bl, pu_in (hP.sub [] rfl) (hK.sub [] rfl) (hD.sub [] (by decide) rfl)⟩ rfl rfl hl.1 rfl (lv_room (Nat.le_of_ble_eq_true rfl)) eX6_layConditions_59 ⟨Nat.le_of_ble_eq_true rfl, Nat.le_of_ble_eq_true rfl⟩) hS (fun q _ h => pu_fr hS hA q h) (pu_fr hS hA) (fun r_52 u t H1 locs ht hvm hw hB hz1 hk1 hS => ?_)
      have hP := pu_keep hP hk1
      clear hk1 hz1 ht hvm
      generalize H1 = H at hP hS ⊢
      have ir_52 := hw
      have hsp := hsp.trans (slet_eq ir_52)
      refine lv_ineg hx hb eX6_layConditions_62 ?_
      refine lv_topi (fun y_53 ey_53 => ?_)
      have hsp := hsp.trans (slet_eq ey_53)
      have hPc : va_P (dC, dI) vwCl (ti__w ti r0 (nI ln) r2 r3 r4 r5 (nI g_9) r7 r8 tz k_j0 (bN 13 q_j0) k_j2 j2 k_j3 (bN 120 g_6) k_j4 (bN 120 g_7) k_j5 g_8 k_j7 (bN 120 q_j7) k_j8 j8) _ := hP.sub [0, 1, 2, 3, 4, 5, 6, 7] rfl
      have hDc := hD.sub (ws' := (ti__w ti r0 (nI ln) r2 r3 r4 r5 (nI g_9) r7 r8 tz k_j0 (bN 13 q_j0) k_j2 j2 k_j3 (bN 120 g_6) k_j4 (bN 120 g_7) k_j5 g_8 k_j7 (bN 120 q_j7) k_j8 j8)) [0, 1, 2, 3, 4, 5, 6, 7] (by decide) rfl
      have hKc : va_K (dC, dI) vwCl (ti__t k_j0 k_j2 k_j3 k_j4 k_j5 k_j7 k_j8) s := hK.sub [0, 1, 2, 3, 4, 5, 6] rfl
      have hFc := pu_free hDc hS hA
      refine va_callv (va_runV (As := [.int (nI u_24), .int (nI a2), .int y_53]) (rest := []) ⟨hx, hb, hml, hown, hts⟩ (c_E_6_layRule l dC dI _ ti r0 ln r2 r3 r4 r5 g_9 r7 r8 tz k_j0 q_j0 k_j2 j2 k_j3 g_6 k_j4 g_7 k_j5 g_8 k_j7 q_j7 k_j8 j8 u_24 a2 y_53 hln hg_9 hu_24 ha2) (cwV 3 hts g_E_6_layConditions_E_6_layRule rfl rfl rfl (by decide +kernel) ⟨Nat.le_of_ble_eq_true rfl, Nat.le_of_ble_eq_true rfl⟩) ⟨pu_bl, va_recv hK hP (ci := 6) (q0 := 0) rfl rfl, pu_in hPc hKc hDc⟩ rfl rfl hl.1 rfl (lv_room (Nat.le_of_ble_eq_true rfl)) eX6_layConditions_63 ⟨Nat.le_of_ble_eq_true rfl, Nat.le_of_ble_eq_true rfl⟩) hS (fun q _ h => hFc q h) hFc (fun u t H1 locs ht hvm hw hB hz1 hk1 hS => ?_)
      obtain ⟨z_j3_55, z_j4_56, z_j5_57, z_nr_58, ⟨hP1, -, hD1⟩, hz_nr_58, xr_54_0⟩ := hB
      rw [ht] at hP1
      obtain ⟨hP, hD⟩ := pj_a (X := (ta__w ti r0 (nI ln) r2 r3 r4 r5 (nI g_9) r7 r8 tz k_j0 (bN 13 q_j0) k_j2 j2 k_j3 (bN 120 g_6) k_j4 (bN 120 g_7) k_j5 g_8 k_j7 (bN 120 q_j7) k_j8 j8 au (nI nc) (nI np) (nI ne) st0 q4 q5 q6 q7 q8 q9 q10 q11 q12 q13 q14 q15 q16 k_f4 f4 k_f5 (bN 7 q_f5) k_f6 (bN 7 q_f6) k_f7 f7 k_f8 (bN 4 q_f8) k_f9 (bN 2 q_f9) k_f10 f10 k_f11 f11 k_f12 f12 k_f13 f13 k_f14 f14 k_f15 f15 k_f16 f16)) (X' := (ta__w ti r0 (nI ln) r2 r3 r4 r5 (nI z_nr_58) r7 r8 tz k_j0 (bN 13 q_j0) k_j2 j2 k_j3 (bN 120 z_j3_55) k_j4 (bN 120 z_j4_56) k_j5 z_j5_57 k_j7 (bN 120 q_j7) k_j8 j8 au (nI nc) (nI np) (nI ne) st0 q4 q5 q6 q7 q8 q9 q10 q11 q12 q13 q14 q15 q16 k_f4 f4 k_f5 (bN 7 q_f5) k_f6 (bN 7 q_f6) k_f7 f7 k_f8 (bN 4 q_f8) k_f9 (bN 2 q_f9) k_f10 f10 k_f11 f11 k_f12 f12 k_f13 f13 k_f14 f14 k_f15 f15 k_f16 f16)) (wc := (ti__w ti r0 (nI ln) r2 r3 r4 r5 (nI g_9) r7 r8 tz k_j0 (bN 13 q_j0) k_j2 j2 k_j3 (bN 120 g_6) k_j4 (bN 120 g_7) k_j5 g_8 k_j7 (bN 120 q_j7) k_j8 j8)) (w1 := (ti__w ti r0 (nI ln) r2 r3 r4 r5 (nI z_nr_58) r7 r8 tz k_j0 (bN 13 q_j0) k_j2 j2 k_j3 (bN 120 z_j3_55) k_j4 (bN 120 z_j4_56) k_j5 z_j5_57 k_j7 (bN 120 q_j7) k_j8 j8)) hP hD [0, 1, 2, 3, 4, 5, 6, 7] [0, 1, 2, 3, 4, 5, 6, 7, 16, 17, 18, 19, 20, 21, 22, 23, 24, 25, 26, 27, 28, 29] 8 rfl hk1 hP1 rfl rfl rfl (by decide)
      clear hP1 hD1 hFc hPc hDc hKc
      clear hk1 hz1 ht hvm
      generalize H1 = H at hP hS ⊢
      have hsp := hsp.trans (slet_eq xr_54_0)
      exact j_30 _ _ _ _ ⟨z_nr_58, z_j3_55, z_j4_56, z_j5_57, rfl, hz_nr_58, hsp.symm, hP, hD, hS, lv_sub hl [2, 3, 4, 5, 6, 1, 0] rfl⟩
theorem eX6_layRules_0 : decode cX6_layRules 0 = .ok (.aload_n 0, 1) := by decide +kernel
theorem eX6_layRules_1 : decode cX6_layRules 1 = .ok (.iconst 0, 1) := by decide +kernel
theorem eX6_layRules_2 : decode cX6_layRules 2 = .ok (.putfield 57, 3) := by decide +kernel
theorem eX6_layRules_5 : decode cX6_layRules 5 = .ok (.iconst 0, 1) := by decide +kernel
theorem eX6_layRules_6 : decode cX6_layRules 6 = .ok (.istore_n 2, 1) := by decide +kernel
theorem eX6_layRules_7 : decode cX6_layRules 7 = .ok (.iload_n 2, 1) := by decide +kernel
theorem eX6_layRules_8 : decode cX6_layRules 8 = .ok (.iconst 3, 1) := by decide +kernel
theorem eX6_layRules_9 : decode cX6_layRules 9 = .ok (.if_icmp .ge 16, 3) := by decide +kernel
theorem eX6_layRules_12 : decode cX6_layRules 12 = .ok (.aload_n 0, 1) := by decide +kernel
theorem eX6_layRules_13 : decode cX6_layRules 13 = .ok (.getfield 27, 3) := by decide +kernel
theorem eX6_layRules_16 : decode cX6_layRules 16 = .ok (.iload_n 2, 1) := by decide +kernel
theorem eX6_layRules_17 : decode cX6_layRules 17 = .ok (.iconst 0, 1) := by decide +kernel
theorem eX6_layRules_18 : decode cX6_layRules 18 = .ok (.iastore, 1) := by decide +kernel
theorem eX6_layRules_19 : decode cX6_layRules 19 = .ok (.iinc 2 1, 3) := by decide +kernel
theorem eX6_layRules_22 : decode cX6_layRules 22 = .ok (.goto (-15), 3) := by decide +kernel
theorem eX6_layRules_25 : decode cX6_layRules 25 = .ok (.aload_n 0, 1) := by decide +kernel
theorem eX6_layRules_26 : decode cX6_layRules 26 = .ok (.aload_n 1, 1) := by decide +kernel
theorem eX6_layRules_27 : decode cX6_layRules 27 = .ok (.aload_n 1, 1) := by decide +kernel
theorem eX6_layRules_28 : decode cX6_layRules 28 = .ok (.getfield 60, 3) := by decide +kernel
theorem eX6_layRules_31 : decode cX6_layRules 31 = .ok (.invokestatic 65, 3) := by decide +kernel
theorem eX6_layRules_34 : decode cX6_layRules 34 = .ok (.iconst 0, 1) := by decide +kernel
theorem eX6_layRules_35 : decode cX6_layRules 35 = .ok (.invokevirtual 69, 3) := by decide +kernel
theorem eX6_layRules_38 : decode cX6_layRules 38 = .ok (.iconst 0, 1) := by decide +kernel
theorem eX6_layRules_39 : decode cX6_layRules 39 = .ok (.istore_n 2, 1) := by decide +kernel
theorem eX6_layRules_40 : decode cX6_layRules 40 = .ok (.iload_n 2, 1) := by decide +kernel
theorem eX6_layRules_41 : decode cX6_layRules 41 = .ok (.aload_n 0, 1) := by decide +kernel
theorem eX6_layRules_42 : decode cX6_layRules 42 = .ok (.getfield 47, 3) := by decide +kernel
theorem eX6_layRules_45 : decode cX6_layRules 45 = .ok (.if_icmp .ge 134, 3) := by decide +kernel
theorem eX6_layRules_48 : decode cX6_layRules 48 = .ok (.aload_n 0, 1) := by decide +kernel
theorem eX6_layRules_49 : decode cX6_layRules 49 = .ok (.getfield 9, 3) := by decide +kernel
theorem eX6_layRules_52 : decode cX6_layRules 52 = .ok (.iload_n 2, 1) := by decide +kernel
theorem eX6_layRules_53 : decode cX6_layRules 53 = .ok (.iaload, 1) := by decide +kernel
theorem eX6_layRules_54 : decode cX6_layRules 54 = .ok (.istore_n 3, 1) := by decide +kernel
theorem eX6_layRules_55 : decode cX6_layRules 55 = .ok (.aload_n 1, 1) := by decide +kernel
theorem eX6_layRules_56 : decode cX6_layRules 56 = .ok (.getfield 73, 3) := by decide +kernel
theorem eX6_layRules_59 : decode cX6_layRules 59 = .ok (.iload_n 3, 1) := by decide +kernel
theorem eX6_layRules_60 : decode cX6_layRules 60 = .ok (.iaload, 1) := by decide +kernel
theorem eX6_layRules_61 : decode cX6_layRules 61 = .ok (.istore 4, 2) := by decide +kernel
theorem eX6_layRules_63 : decode cX6_layRules 63 = .ok (.aload_n 0, 1) := by decide +kernel
theorem eX6_layRules_64 : decode cX6_layRules 64 = .ok (.iload_n 2, 1) := by decide +kernel
theorem eX6_layRules_65 : decode cX6_layRules 65 = .ok (.iconst 1, 1) := by decide +kernel
theorem eX6_layRules_66 : decode cX6_layRules 66 = .ok (.iadd, 1) := by decide +kernel
theorem eX6_layRules_67 : decode cX6_layRules 67 = .ok (.iload_n 2, 1) := by decide +kernel
theorem eX6_layRules_68 : decode cX6_layRules 68 = .ok (.iconst 0, 1) := by decide +kernel
theorem eX6_layRules_69 : decode cX6_layRules 69 = .ok (.invokevirtual 76, 3) := by decide +kernel
theorem eX6_layRules_72 : decode cX6_layRules 72 = .ok (.aload_n 1, 1) := by decide +kernel
theorem eX6_layRules_73 : decode cX6_layRules 73 = .ok (.getfield 80, 3) := by decide +kernel
theorem eX6_layRules_76 : decode cX6_layRules 76 = .ok (.iload 4, 2) := by decide +kernel
theorem eX6_layRules_78 : decode cX6_layRules 78 = .ok (.baload, 1) := by decide +kernel
theorem eX6_layRules_79 : decode cX6_layRules 79 = .ok (.ifCond .eq 12, 3) := by decide +kernel
theorem eX6_layRules_82 : decode cX6_layRules 82 = .ok (.aload_n 0, 1) := by decide +kernel
theorem eX6_layRules_83 : decode cX6_layRules 83 = .ok (.iload_n 2, 1) := by decide +kernel
theorem eX6_layRules_84 : decode cX6_layRules 84 = .ok (.iload_n 2, 1) := by decide +kernel
theorem eX6_layRules_85 : decode cX6_layRules 85 = .ok (.iconst 1, 1) := by decide +kernel
theorem eX6_layRules_86 : decode cX6_layRules 86 = .ok (.iadd, 1) := by decide +kernel
theorem eX6_layRules_87 : decode cX6_layRules 87 = .ok (.iconst 0, 1) := by decide +kernel
theorem eX6_layRules_88 : decode cX6_layRules 88 = .ok (.invokevirtual 76, 3) := by decide +kernel
theorem eX6_layRules_91 : decode cX6_layRules 91 = .ok (.aload_n 0, 1) := by decide +kernel
theorem eX6_layRules_92 : decode cX6_layRules 92 = .ok (.aload_n 1, 1) := by decide +kernel
theorem eX6_layRules_93 : decode cX6_layRules 93 = .ok (.iload 4, 2) := by decide +kernel
theorem eX6_layRules_95 : decode cX6_layRules 95 = .ok (.invokestatic 65, 3) := by decide +kernel
theorem eX6_layRules_98 : decode cX6_layRules 98 = .ok (.iload_n 2, 1) := by decide +kernel
theorem eX6_layRules_99 : decode cX6_layRules 99 = .ok (.iconst 1, 1) := by decide +kernel
theorem eX6_layRules_100 : decode cX6_layRules 100 = .ok (.iadd, 1) := by decide +kernel
theorem eX6_layRules_101 : decode cX6_layRules 101 = .ok (.invokevirtual 69, 3) := by decide +kernel
theorem eX6_layRules_104 : decode cX6_layRules 104 = .ok (.aload_n 0, 1) := by decide +kernel
theorem eX6_layRules_105 : decode cX6_layRules 105 = .ok (.aload_n 1, 1) := by decide +kernel
theorem eX6_layRules_106 : decode cX6_layRules 106 = .ok (.iload_n 3, 1) := by decide +kernel
theorem eX6_layRules_107 : decode cX6_layRules 107 = .ok (.iload_n 2, 1) := by decide +kernel
theorem eX6_layRules_108 : decode cX6_layRules 108 = .ok (.iconst 1, 1) := by decide +kernel
theorem eX6_layRules_109 : decode cX6_layRules 109 = .ok (.iadd, 1) := by decide +kernel
theorem eX6_layRules_110 : decode cX6_layRules 110 = .ok (.invokevirtual 69, 3) := by decide +kernel
theorem eX6_layRules_113 : decode cX6_layRules 113 = .ok (.iconst 0, 1) := by decide +kernel
theorem eX6_layRules_114 : decode cX6_layRules 114 = .ok (.istore 5, 2) := by decide +kernel
theorem eX6_layRules_116 : decode cX6_layRules 116 = .ok (.iload 5, 2) := by decide +kernel
theorem eX6_layRules_118 : decode cX6_layRules 118 = .ok (.aload_n 1, 1) := by decide +kernel
theorem eX6_layRules_119 : decode cX6_layRules 119 = .ok (.getfield 84, 3) := by decide +kernel
theorem eX6_layRules_122 : decode cX6_layRules 122 = .ok (.if_icmp .ge 34, 3) := by decide +kernel
theorem eX6_layRules_125 : decode cX6_layRules 125 = .ok (.aload_n 1, 1) := by decide +kernel
theorem eX6_layRules_126 : decode cX6_layRules 126 = .ok (.getfield 87, 3) := by decide +kernel
theorem eX6_layRules_129 : decode cX6_layRules 129 = .ok (.iload_n 3, 1) := by decide +kernel
theorem eX6_layRules_130 : decode cX6_layRules 130 = .ok (.iaload, 1) := by decide +kernel
theorem eX6_layRules_131 : decode cX6_layRules 131 = .ok (.iload 5, 2) := by decide +kernel
theorem eX6_layRules_133 : decode cX6_layRules 133 = .ok (.ishr, 1) := by decide +kernel
theorem eX6_layRules_134 : decode cX6_layRules 134 = .ok (.iconst 1, 1) := by decide +kernel
theorem eX6_layRules_135 : decode cX6_layRules 135 = .ok (.iand, 1) := by decide +kernel
theorem eX6_layRules_136 : decode cX6_layRules 136 = .ok (.iconst 1, 1) := by decide +kernel
theorem eX6_layRules_137 : decode cX6_layRules 137 = .ok (.if_icmp .ne 13, 3) := by decide +kernel
theorem eX6_layRules_140 : decode cX6_layRules 140 = .ok (.aload_n 0, 1) := by decide +kernel
theorem eX6_layRules_141 : decode cX6_layRules 141 = .ok (.getfield 27, 3) := by decide +kernel
theorem eX6_layRules_144 : decode cX6_layRules 144 = .ok (.iload 5, 2) := by decide +kernel
theorem eX6_layRules_146 : decode cX6_layRules 146 = .ok (.iload_n 2, 1) := by decide +kernel
theorem eX6_layRules_147 : decode cX6_layRules 147 = .ok (.iconst 1, 1) := by decide +kernel
theorem eX6_layRules_148 : decode cX6_layRules 148 = .ok (.iadd, 1) := by decide +kernel
theorem eX6_layRules_149 : decode cX6_layRules 149 = .ok (.iastore, 1) := by decide +kernel
theorem eX6_layRules_150 : decode cX6_layRules 150 = .ok (.iinc 5 1, 3) := by decide +kernel
theorem eX6_layRules_153 : decode cX6_layRules 153 = .ok (.goto (-37), 3) := by decide +kernel
theorem eX6_layRules_156 : decode cX6_layRules 156 = .ok (.aload_n 0, 1) := by decide +kernel
theorem eX6_layRules_157 : decode cX6_layRules 157 = .ok (.aload_n 1, 1) := by decide +kernel
theorem eX6_layRules_158 : decode cX6_layRules 158 = .ok (.aload_n 1, 1) := by decide +kernel
theorem eX6_layRules_159 : decode cX6_layRules 159 = .ok (.getfield 90, 3) := by decide +kernel
theorem eX6_layRules_162 : decode cX6_layRules 162 = .ok (.iload_n 3, 1) := by decide +kernel
theorem eX6_layRules_163 : decode cX6_layRules 163 = .ok (.iaload, 1) := by decide +kernel
theorem eX6_layRules_164 : decode cX6_layRules 164 = .ok (.invokestatic 65, 3) := by decide +kernel
theorem eX6_layRules_167 : decode cX6_layRules 167 = .ok (.iload_n 2, 1) := by decide +kernel
theorem eX6_layRules_168 : decode cX6_layRules 168 = .ok (.iconst 1, 1) := by decide +kernel
theorem eX6_layRules_169 : decode cX6_layRules 169 = .ok (.iadd, 1) := by decide +kernel
theorem eX6_layRules_170 : decode cX6_layRules 170 = .ok (.invokevirtual 69, 3) := by decide +kernel
theorem eX6_layRules_173 : decode cX6_layRules 173 = .ok (.iinc 2 1, 3) := by decide +kernel
theorem eX6_layRules_176 : decode cX6_layRules 176 = .ok (.goto (-136), 3) := by decide +kernel
theorem eX6_layRules_179 : decode cX6_layRules 179 = .ok (.return_, 1) := by decide +kernel
abbrev vs_E_6_layRules : List Cond := .code yX6_layRules cX6_layRules 6 none :: CM
theorem g_E_6_layRules_E_0_hostOfPlace : GoodIn vs_E_6_layRules (va_wsS RX6 65 yX0_hostOfPlace vs_E_0_hostOfPlace) := cm_gS cm_379 cm_55 cm_19 cm_0
theorem g_E_6_layRules_E_6_layConditions : GoodIn vs_E_6_layRules (wsV RX6 69 RX6 yX6_layConditions vs_E_6_layConditions) := cm_gV cm_380 cm_381 cm_382 cm_383 cm_384
theorem g_E_6_layRules_E_6_layRule : GoodIn vs_E_6_layRules (wsV RX6 76 RX6 yX6_layRule vs_E_6_layRule) := cm_gV cm_392 cm_393 cm_394 cm_383 cm_395
noncomputable def sp_E_6_layRules_L1 (nc : Nat) (q_f6 : Nat → Nat) (f7 : Nat → Int32) (q_f8 : Nat → Nat) (q_f9 : Nat → Nat) (f12 : Nat → Int32) (f13 : Nat → Int32) (g_29 : Nat) (z_j3_64 : Nat → Nat) (z_j4_65 : Nat → Nat) (z_j5_66 : Nat → Int32) (z_nr_67 : Nat) (u_38 : Nat) : ((Nat → Nat) × Nat) → ((Nat → Nat) × Nat) ⊕ (((Nat → Nat) × (Nat → Nat) × (Nat → Int32) × (Nat → Nat) × Nat × Nat) ⊕ ((Nat → Nat) × (Nat → Nat) × (Nat → Int32) × (Nat → Nat) × Nat)) := fun (g_70, g_71) => (if nc ≤ g_71 then (Sum.inr (slet (min (q_f6 u_38) 7) (fun u_80 => (slet (sp_E_6_layConditions z_nr_67 z_j3_64 z_j4_65 z_j5_66 g_70 q_f8 q_f9 f12 f13 (14 + u_80) (g_29 + 1)) (fun (z_j3_84, z_j4_85, z_j5_86, z_nr_87) => (Sum.inl (z_j3_84, z_j4_85, z_j5_86, g_70, z_nr_87, (g_29 + 1)))))))) else (slet (f7 u_38) (fun y_88 => (slet ((y_88 : Int32) >>> (((nI g_71) : Int32) &&& 31)) (fun y_89 => (slet ((y_89 : Int32) &&& (1 : Int32)) (fun y_90 => (slet (α := (Nat → Nat)) (if (y_90 : Int32) = 1 then (slet (updN g_70 g_71 (g_29 + 1)) (fun q_97 => q_97)) else g_70) (fun g_91 => (Sum.inl (g_91, (g_71 + 1))))))))))))
noncomputable def sp_E_6_layRules_L2 (ln : Nat) (q_j0 : Nat → Nat) (nc : Nat) (f4 : Nat → Int32) (q_f5 : Nat → Nat) (q_f6 : Nat → Nat) (f7 : Nat → Int32) (q_f8 : Nat → Nat) (q_f9 : Nat → Nat) (f12 : Nat → Int32) (f13 : Nat → Int32) : ((Nat → Nat) × (Nat → Nat) × (Nat → Int32) × (Nat → Nat) × Nat × Nat) → ((Nat → Nat) × (Nat → Nat) × (Nat → Int32) × (Nat → Nat) × Nat × Nat) ⊕ ((Nat → Nat) × (Nat → Nat) × (Nat → Int32) × (Nat → Nat) × Nat) := fun (g_24, g_25, g_26, g_27, g_28, g_29) => (if ln ≤ g_29 then (Sum.inr (g_24, g_25, g_26, g_27, g_28)) else (slet (min (q_j0 g_29) 13) (fun u_38 => (slet (min (q_f5 u_38) 7) (fun u_40 => (slet (sp_E_6_layRule g_28 g_24 g_25 g_26 (g_29 + 1) g_29 0) (fun (z_j3_43, z_j4_44, z_j5_45, z_nr_46) => (slet (f4 u_40) (fun y_47 => (slet (α := Nat × (Nat → Nat) × (Nat → Nat) × (Nat → Int32)) (if (y_47 : Int32) = 0 then (z_nr_46, z_j3_43, z_j4_44, z_j5_45) else (slet (sp_E_6_layRule z_nr_46 z_j3_43 z_j4_44 z_j5_45 g_29 (g_29 + 1) 0) (fun (z_j3_101, z_j4_102, z_j5_103, z_nr_104) => (z_nr_104, z_j3_101, z_j4_102, z_j5_103)))) (fun (g_48, g_49, g_50, g_51) => (slet (sp_E_6_layConditions g_48 g_49 g_50 g_51 g_27 q_f8 q_f9 f12 f13 (14 + u_40) (g_29 + 1)) (fun (z_j3_58, z_j4_59, z_j5_60, z_nr_61) => (slet (sp_E_6_layConditions z_nr_61 z_j3_58 z_j4_59 z_j5_60 g_27 q_f8 q_f9 f12 f13 u_38 (g_29 + 1)) (fun (z_j3_64, z_j4_65, z_j5_66, z_nr_67) => (itrv (α := (Nat → Nat) × Nat) (β := (((Nat → Nat) × (Nat → Nat) × (Nat → Int32) × (Nat → Nat) × Nat × Nat) ⊕ ((Nat → Nat) × (Nat → Nat) × (Nat → Int32) × (Nat → Nat) × Nat))) (Sum.inr default) (sp_E_6_layRules_L1 nc q_f6 f7 q_f8 q_f9 f12 f13 g_29 z_j3_64 z_j4_65 z_j5_66 z_nr_67 u_38) (g_27, 0)))))))))))))))))
noncomputable def sp_E_6_layRules_L3 (ln : Nat) (q_j0 : Nat → Nat) (q_j3 : Nat → Nat) (q_j4 : Nat → Nat) (j5 : Nat → Int32) (nc : Nat) (st0 : Nat) (f4 : Nat → Int32) (q_f5 : Nat → Nat) (q_f6 : Nat → Nat) (f7 : Nat → Int32) (q_f8 : Nat → Nat) (q_f9 : Nat → Nat) (f12 : Nat → Int32) (f13 : Nat → Int32) : ((Nat → Nat) × Nat) → ((Nat → Nat) × Nat) ⊕ ((Nat → Nat) × (Nat → Nat) × (Nat → Int32) × (Nat → Nat) × Nat) := fun (g_3, g_4) => (if 3 ≤ g_4 then (Sum.inr (slet (sp_E_6_layConditions 0 q_j3 q_j4 j5 g_3 q_f8 q_f9 f12 f13 (14 + st0) 0) (fun (z_j3_14, z_j4_15, z_j5_16, z_nr_17) => (itrv (α := (Nat → Nat) × (Nat → Nat) × (Nat → Int32) × (Nat → Nat) × Nat × Nat) (β := ((Nat → Nat) × (Nat → Nat) × (Nat → Int32) × (Nat → Nat) × Nat)) default (sp_E_6_layRules_L2 ln q_j0 nc f4 q_f5 q_f6 f7 q_f8 q_f9 f12 f13) (z_j3_14, z_j4_15, z_j5_16, g_3, z_nr_17, 0))))) else (slet (updN g_3 g_4 0) (fun q_105 => (Sum.inl (q_105, (g_4 + 1))))))
noncomputable def sp_E_6_layRules (ln : Nat) (q_j0 : Nat → Nat) (q_j3 : Nat → Nat) (q_j4 : Nat → Nat) (j5 : Nat → Int32) (q_j7 : Nat → Nat) (nc : Nat) (st0 : Nat) (f4 : Nat → Int32) (q_f5 : Nat → Nat) (q_f6 : Nat → Nat) (f7 : Nat → Int32) (q_f8 : Nat → Nat) (q_f9 : Nat → Nat) (f12 : Nat → Int32) (f13 : Nat → Int32) : (Nat → Nat) × (Nat → Nat) × (Nat → Int32) × (Nat → Nat) × Nat := (itrv (α := (Nat → Nat) × Nat) (β := ((Nat → Nat) × (Nat → Nat) × (Nat → Int32) × (Nat → Nat) × Nat)) default (sp_E_6_layRules_L3 ln q_j0 q_j3 q_j4 j5 nc st0 f4 q_f5 q_f6 f7 q_f8 q_f9 f12 f13) (q_j7, 0))
set_option maxHeartbeats 4000000 in
set_option maxRecDepth 100000 in
theorem c_E_6_layRules (l : Launch) (dC : Nat → ClassId) (dI : Nat → Nat → Nat) (sz : Nat) (ti : Nat) (r0 : Nat) (ln : Nat) (r2 : Nat) (r3 : Nat) (r4 : Nat) (r5 : Nat) (nr : Nat) (r7 : Nat) (r8 : Nat) (tz : Nat) (k_j0 : ClassId) (q_j0 : Nat → Nat) (k_j2 : ClassId) (j2 : Nat → Int32) (k_j3 : ClassId) (q_j3 : Nat → Nat) (k_j4 : ClassId) (q_j4 : Nat → Nat) (k_j5 : ClassId) (j5 : Nat → Int32) (k_j7 : ClassId) (q_j7 : Nat → Nat) (k_j8 : ClassId) (j8 : Nat → Int32) (au : Nat) (nc : Nat) (np : Nat) (ne : Nat) (st0 : Nat) (q4 : Nat) (q5 : Nat) (q6 : Nat) (q7 : Nat) (q8 : Nat) (q9 : Nat) (q10 : Nat) (q11 : Nat) (q12 : Nat) (q13 : Nat) (q14 : Nat) (q15 : Nat) (q16 : Nat) (k_f4 : ClassId) (f4 : Nat → Int32) (k_f5 : ClassId) (q_f5 : Nat → Nat) (k_f6 : ClassId) (q_f6 : Nat → Nat) (k_f7 : ClassId) (f7 : Nat → Int32) (k_f8 : ClassId) (q_f8 : Nat → Nat) (k_f9 : ClassId) (q_f9 : Nat → Nat) (k_f10 : ClassId) (f10 : Nat → Int32) (k_f11 : ClassId) (f11 : Nat → Int32) (k_f12 : ClassId) (f12 : Nat → Int32) (k_f13 : ClassId) (f13 : Nat → Int32) (k_f14 : ClassId) (f14 : Nat → Int32) (k_f15 : ClassId) (f15 : Nat → Int32) (k_f16 : ClassId) (f16 : Nat → Int32) (hln : ln ≤ 119) (hnr : nr ≤ 1920) (hnc : nc ≤ 3) (hnp : np ≤ 8) (hne : ne ≤ 14) (hst0 : st0 ≤ 7) : Met l yX6_layRules vs_E_6_layRules ({ frames := 2, cells := 0, slots := 0, locals := 49 }) (va_Pc [.ref ti, .ref au] (pu_B (dC, dI) (ta__w ti r0 (nI ln) r2 r3 r4 r5 (nI nr) r7 r8 tz k_j0 (bN 13 q_j0) k_j2 j2 k_j3 (bN 120 q_j3) k_j4 (bN 120 q_j4) k_j5 j5 k_j7 (bN 120 q_j7) k_j8 j8 au (nI nc) (nI np) (nI ne) (nI st0) q4 q5 q6 q7 q8 q9 q10 q11 q12 q13 q14 q15 q16 k_f4 f4 k_f5 (bN 7 q_f5) k_f6 (bN 7 q_f6) k_f7 f7 k_f8 (bN 4 q_f8) k_f9 (bN 2 q_f9) k_f10 f10 k_f11 f11 k_f12 f12 k_f13 f13 k_f14 f14 k_f15 f15 k_f16 f16) (ta__t k_j0 k_j2 k_j3 k_j4 k_j5 k_j7 k_j8 k_f4 k_f5 k_f6 k_f7 k_f8 k_f9 k_f10 k_f11 k_f12 k_f13 k_f14 k_f15 k_f16) sz)) (va_Qv (fun (_ : Unit) => True) (fun _ t => ∃ (z_j3 : Nat → Nat) (z_j4 : Nat → Nat) (z_j5 : Nat → Int32) (z_j7 : Nat → Nat) (z_nr : Nat), pu_E (dC, dI) (ta__w ti r0 (nI ln) r2 r3 r4 r5 (nI z_nr) r7 r8 tz k_j0 (bN 13 q_j0) k_j2 j2 k_j3 (bN 120 z_j3) k_j4 (bN 120 z_j4) k_j5 z_j5 k_j7 (bN 120 z_j7) k_j8 j8 au (nI nc) (nI np) (nI ne) (nI st0) q4 q5 q6 q7 q8 q9 q10 q11 q12 q13 q14 q15 q16 k_f4 f4 k_f5 (bN 7 q_f5) k_f6 (bN 7 q_f6) k_f7 f7 k_f8 (bN 4 q_f8) k_f9 (bN 2 q_f9) k_f10 f10 k_f11 f11 k_f12 f12 k_f13 f13 k_f14 f14 k_f15 f15 k_f16 f16) (ta__t k_j0 k_j2 k_j3 k_j4 k_j5 k_j7 k_j8 k_f4 k_f5 k_f6 k_f7 k_f8 k_f9 k_f10 k_f11 k_f12 k_f13 k_f14 k_f15 k_f16) (va_A ((ta__w ti r0 (nI ln) r2 r3 r4 r5 (nI nr) r7 r8 tz k_j0 (bN 13 q_j0) k_j2 j2 k_j3 (bN 120 q_j3) k_j4 (bN 120 q_j4) k_j5 j5 k_j7 (bN 120 q_j7) k_j8 j8 au (nI nc) (nI np) (nI ne) (nI st0) q4 q5 q6 q7 q8 q9 q10 q11 q12 q13 q14 q15 q16 k_f4 f4 k_f5 (bN 7 q_f5) k_f6 (bN 7 q_f6) k_f7 f7 k_f8 (bN 4 q_f8) k_f9 (bN 2 q_f9) k_f10 f10 k_f11 f11 k_f12 f12 k_f13 f13 k_f14 f14 k_f15 f15 k_f16 f16)) sz) t ∧ (z_nr ≤ 1920) ∧ ((z_j3, z_j4, z_j5, z_j7, z_nr) = (sp_E_6_layRules ln q_j0 q_j3 q_j4 j5 q_j7 nc st0 f4 q_f5 q_f6 f7 q_f8 q_f9 f12 f13))) (va_A ((ta__w ti r0 (nI ln) r2 r3 r4 r5 (nI nr) r7 r8 tz k_j0 (bN 13 q_j0) k_j2 j2 k_j3 (bN 120 q_j3) k_j4 (bN 120 q_j4) k_j5 j5 k_j7 (bN 120 q_j7) k_j8 j8 au (nI nc) (nI np) (nI ne) (nI st0) q4 q5 q6 q7 q8 q9 q10 q11 q12 q13 q14 q15 q16 k_f4 f4 k_f5 (bN 7 q_f5) k_f6 (bN 7 q_f6) k_f7 f7 k_f8 (bN 4 q_f8) k_f9 (bN 2 q_f9) k_f10 f10 k_f11 f11 k_f12 f12 k_f13 f13 k_f14 f14 k_f15 f15 k_f16 f16)) sz)) 0 0 (va_A ((ta__w ti r0 (nI ln) r2 r3 r4 r5 (nI nr) r7 r8 tz k_j0 (bN 13 q_j0) k_j2 j2 k_j3 (bN 120 q_j3) k_j4 (bN 120 q_j4) k_j5 j5 k_j7 (bN 120 q_j7) k_j8 j8 au (nI nc) (nI np) (nI ne) (nI st0) q4 q5 q6 q7 q8 q9 q10 q11 q12 q13 q14 q15 q16 k_f4 f4 k_f5 (bN 7 q_f5) k_f6 (bN 7 q_f6) k_f7 f7 k_f8 (bN 4 q_f8) k_f9 (bN 2 q_f9) k_f10 f10 k_f11 f11 k_f12 f12 k_f13 f13 k_f14 f14 k_f15 f15 k_f16 f16)) sz) := by
  refine Met.ofW (cc := cX6_layRules) (maxL := 6) (ret := none) (by decide) rfl ?_
  intro p e s m args below meth c s₁ B hml hv
  obtain ⟨rfl, rfl, hP, hK, hD0⟩ := hv
  have hx := B.exec
  have hb := B.bytes
  have hr := B.returns
  have hts := atoms_spec (ws := vs_E_6_layRules) B.pre
  have v_1 := hts (.fieldLink RX6 57 "ClockReach$Timing" "rules" "I") (List.mem_cons_of_mem _ cm_371)
  have v_2 := hts (.fieldLink RX6 27 "ClockReach$Timing" "since" "[I") (List.mem_cons_of_mem _ cm_372)
  have v_3 := hts (.fieldLink RX6 60 "ClockReach$Automaton" "start" "I") (List.mem_cons_of_mem _ cm_373)
  have v_13 := hts (.fieldLink RX6 47 "ClockReach$Timing" "length" "I") (List.mem_cons_of_mem _ cm_366)
  have v_14 := hts (.fieldLink RX6 9 "ClockReach$Timing" "path" "[I") (List.mem_cons_of_mem _ cm_367)
  have v_15 := hts (.fieldLink RX6 73 "ClockReach$Automaton" "sources" "[I") (List.mem_cons_of_mem _ cm_374)
  have v_20 := hts (.fieldLink RX6 80 "ClockReach$Automaton" "hurried" "[Z") (List.mem_cons_of_mem _ cm_375)
  have v_21 := hts (.fieldLink RX6 84 "ClockReach$Automaton" "clocks" "I") (List.mem_cons_of_mem _ cm_376)
  have v_22 := hts (.fieldLink RX6 87 "ClockReach$Automaton" "resets" "[I") (List.mem_cons_of_mem _ cm_377)
  have v_23 := hts (.fieldLink RX6 90 "ClockReach$Automaton" "targets" "[I") (List.mem_cons_of_mem _ cm_378)
  have hown : s.vm.findClass RX6 = some m.cls := findClass_of_methodNamed B.named
  have hlocks := B.notSynchronized
  have hiX0 : ∀ w ∈ wsX00, w ∈ vs_E_6_layRules := fun _ h => List.mem_cons_of_mem _ (cm_X0 h)
  have hiX6 : ∀ w ∈ wsX60, w ∈ vs_E_6_layRules := fun _ h => List.mem_cons_of_mem _ (cm_X6 h)
  have hD := hD0.self (sz := s.heap.size)
  generalize hAe : va_A ((ta__w ti r0 (nI ln) r2 r3 r4 r5 (nI nr) r7 r8 tz k_j0 (bN 13 q_j0) k_j2 j2 k_j3 (bN 120 q_j3) k_j4 (bN 120 q_j4) k_j5 j5 k_j7 (bN 120 q_j7) k_j8 j8 au (nI nc) (nI np) (nI ne) (nI st0) q4 q5 q6 q7 q8 q9 q10 q11 q12 q13 q14 q15 q16 k_f4 f4 k_f5 (bN 7 q_f5) k_f6 (bN 7 q_f6) k_f7 f7 k_f8 (bN 4 q_f8) k_f9 (bN 2 q_f9) k_f10 f10 k_f11 f11 k_f12 f12 k_f13 f13 k_f14 f14 k_f15 f15 k_f16 f16)) s.heap.size = A at hD ⊢
  have hA : ∀ q : Nat, s.heap.size ≤ q → A q := fun q h => by rw [← hAe]; exact Or.inr h
  have hS : va_S A s.heap s.heap [] := va_S.rf
  have hl := lv_entry ([.ref ti, .ref au]) (n := 6) (Nat.le_of_ble_eq_true rfl)
  rw [lg_entry_eq]
  generalize (lg_sl ([.ref ti, .ref au]) ++ List.replicate (6 - (lg_sl ([.ref ti, .ref au])).length) Slot.unset).toArray = ls at hl ⊢
  have hl : lv_has ls 6 [(0, .ref ti), (1, .ref au)] := hl
  obtain ⟨RR, hRR⟩ : ∃ x, x = (sp_E_6_layRules ln q_j0 q_j3 q_j4 j5 q_j7 nc st0 f4 q_f5 q_f6 f7 q_f8 q_f9 f12 f13) := ⟨_, rfl⟩
  have hsp := hRR
  refine lv_aload_n hx hb eX6_layRules_0 rfl (lv_at hl 0 rfl) ?_
  refine lv_iconst (v := 0) hx hb eX6_layRules_1 (by decide) ?_
  refine va_put (D := (dC, dI)) (ci := 6) (v := .int 0) (ty := .int) (C := RX6) (T := TX6) (N := 10) hx hb hts hiX6 tyX6 tyX6_ok nmX6 hown hK hP hD hS 0 rfl rfl 6 (by decide) v_1 (fun _ h9 => h9) rfl (by decide +kernel) rfl rfl (Nat.le_of_ble_eq_true rfl) eX6_layRules_2 (fun H locs hP hD hS => ?_)
  have hP : va_P (dC, dI) vwCl (ta__w ti r0 (nI ln) r2 r3 r4 r5 0 r7 r8 tz k_j0 (bN 13 q_j0) k_j2 j2 k_j3 (bN 120 q_j3) k_j4 (bN 120 q_j4) k_j5 j5 k_j7 (bN 120 q_j7) k_j8 j8 au (nI nc) (nI np) (nI ne) (nI st0) q4 q5 q6 q7 q8 q9 q10 q11 q12 q13 q14 q15 q16 k_f4 f4 k_f5 (bN 7 q_f5) k_f6 (bN 7 q_f6) k_f7 f7 k_f8 (bN 4 q_f8) k_f9 (bN 2 q_f9) k_f10 f10 k_f11 f11 k_f12 f12 k_f13 f13 k_f14 f14 k_f15 f15 k_f16 f16) H := hP
  have hD : va_D A (ta__w ti r0 (nI ln) r2 r3 r4 r5 0 r7 r8 tz k_j0 (bN 13 q_j0) k_j2 j2 k_j3 (bN 120 q_j3) k_j4 (bN 120 q_j4) k_j5 j5 k_j7 (bN 120 q_j7) k_j8 j8 au (nI nc) (nI np) (nI ne) (nI st0) q4 q5 q6 q7 q8 q9 q10 q11 q12 q13 q14 q15 q16 k_f4 f4 k_f5 (bN 7 q_f5) k_f6 (bN 7 q_f6) k_f7 f7 k_f8 (bN 4 q_f8) k_f9 (bN 2 q_f9) k_f10 f10 k_f11 f11 k_f12 f12 k_f13 f13 k_f14 f14 k_f15 f15 k_f16 f16) := hD
  refine lv_iconst (v := 0) hx hb eX6_layRules_5 (by decide) ?_
  refine lv_istore_n (lv' := [(2, .int 0), (0, .ref ti), (1, .ref au)]) hx hb eX6_layRules_6 rfl hl (by decide) rfl (fun ls hl => ?_)
  obtain ⟨lf_6, dlf_6, hlf_6, hsp⟩ := itr_ex hsp
  delta sp_E_6_layRules_L3 at hlf_6
  refine pu_while (fun nn H locs ls => ∃ (g_3 : Nat → Nat) (g_4 : Nat), nn = 3 - g_4 ∧ g_4 ≤ 3 ∧ RR = itrv dlf_6 lf_6 (g_3, g_4) ∧ va_P (dC, dI) vwCl (ta__w ti r0 (nI ln) r2 r3 r4 r5 0 r7 r8 tz k_j0 (bN 13 q_j0) k_j2 j2 k_j3 (bN 120 q_j3) k_j4 (bN 120 q_j4) k_j5 j5 k_j7 (bN 120 g_3) k_j8 j8 au (nI nc) (nI np) (nI ne) (nI st0) q4 q5 q6 q7 q8 q9 q10 q11 q12 q13 q14 q15 q16 k_f4 f4 k_f5 (bN 7 q_f5) k_f6 (bN 7 q_f6) k_f7 f7 k_f8 (bN 4 q_f8) k_f9 (bN 2 q_f9) k_f10 f10 k_f11 f11 k_f12 f12 k_f13 f13 k_f14 f14 k_f15 f15 k_f16 f16) H ∧ va_D A (ta__w ti r0 (nI ln) r2 r3 r4 r5 0 r7 r8 tz k_j0 (bN 13 q_j0) k_j2 j2 k_j3 (bN 120 q_j3) k_j4 (bN 120 q_j4) k_j5 j5 k_j7 (bN 120 g_3) k_j8 j8 au (nI nc) (nI np) (nI ne) (nI st0) q4 q5 q6 q7 q8 q9 q10 q11 q12 q13 q14 q15 q16 k_f4 f4 k_f5 (bN 7 q_f5) k_f6 (bN 7 q_f6) k_f7 f7 k_f8 (bN 4 q_f8) k_f9 (bN 2 q_f9) k_f10 f10 k_f11 f11 k_f12 f12 k_f13 f13 k_f14 f14 k_f15 f15 k_f16 f16) ∧ va_S A s.heap H locs ∧ lv_has ls 6 [(0, .ref ti), (1, .ref au), (2, .int (nI g_4))]) 7 ?_ _ _ _ _ ⟨q_j7, 0, rfl, (Nat.le_of_ble_eq_true rfl), hsp, hP, hD, hS, lv_sub hl [1, 2, 0] rfl⟩
  rintro nn ih_5 H locs ls ⟨g_3, g_4, rfl, hg_4, he_8, hP, hD, hS, hl⟩
  obtain ⟨S_7, hsp, hin_9, hout_10⟩ := itr_step hlf_6 he_8
  refine lv_iload_n hx hb eX6_layRules_7 rfl (lv_at hl 2 rfl) ?_
  refine lv_iconst (v := 3) hx hb eX6_layRules_8 (by decide) ?_
  refine lv_icmp_ge (tgt := 25) hx hb eX6_layRules_9 (by decide) (fun c_11 => ?_) (fun c_11 => ?_)
  · have c_11 : 3 ≤ g_4 := (nI_leI (a := 3) (b := g_4) (Nat.le_of_ble_eq_true rfl) (Nat.lt_of_le_of_lt hg_4 (Nat.le_of_ble_eq_true rfl))).mp c_11
    have hsp := hsp.trans (if_pos c_11)
    have hsp := hout_10 _ hsp
    refine lv_aload_n hx hb eX6_layRules_25 rfl (lv_at hl 0 rfl) ?_
    refine lv_aload_n hx hb eX6_layRules_26 rfl (lv_at hl 1 rfl) ?_
    refine lv_aload_n hx hb eX6_layRules_27 rfl (lv_at hl 1 rfl) ?_
    refine va_get (D := (dC, dI)) (ci := 0) (v := .int (nI st0)) (C := RX0) (T := TX0) (N := 17) hx hb hts hiX0 hown hK hP 8 rfl rfl 3 (by decide) v_3 (fun _ h9 => h9) rfl eX6_layRules_28 ?_
    refine va_calli (va_runS (As := [.int (nI st0)]) (rest := [.ref au, .ref ti]) ⟨hx, hb, hml, hown, hts⟩ (c_E_0_hostOfPlace l dC dI _ st0 hst0) (va_cwS 1 hts g_E_6_layRules_E_0_hostOfPlace rfl rfl rfl (by decide +kernel) ⟨Nat.le_of_ble_eq_true rfl, Nat.le_of_ble_eq_true rfl⟩) ⟨pu_bl, pu_in (hP.sub [] rfl) (hK.sub [] rfl) (hD.sub [] (by decide) rfl)⟩ rfl rfl hl.1 rfl (lv_room (Nat.le_of_ble_eq_true rfl)) eX6_layRules_31 ⟨Nat.le_of_ble_eq_true rfl, Nat.le_of_ble_eq_true rfl⟩) hS (fun q _ h => pu_fr hS hA q h) (pu_fr hS hA) (fun r_12 u t H1 locs ht hvm hw hB hz1 hk1 hS => ?_)
    have hP := pu_keep hP hk1
    clear hk1 hz1 ht hvm
    generalize H1 = H at hP hS ⊢
    obtain rfl : r_12 = nI (14 + st0) := hw
    refine lv_iconst (v := 0) hx hb eX6_layRules_34 (by decide) ?_
    have hFc := pu_free hD hS hA
    refine va_callv (va_runV (As := [.ref au, .int (nI (14 + st0)), .int 0]) (rest := []) ⟨hx, hb, hml, hown, hts⟩ (c_E_6_layConditions l dC dI _ ti r0 ln r2 r3 r4 r5 0 r7 r8 tz k_j0 q_j0 k_j2 j2 k_j3 q_j3 k_j4 q_j4 k_j5 j5 k_j7 g_3 k_j8 j8 au nc np ne (nI st0) q4 q5 q6 q7 q8 q9 q10 q11 q12 q13 q14 q15 q16 k_f4 f4 k_f5 q_f5 k_f6 q_f6 k_f7 f7 k_f8 q_f8 k_f9 q_f9 k_f10 f10 k_f11 f11 k_f12 f12 k_f13 f13 k_f14 f14 k_f15 f15 k_f16 f16 (14 + st0) 0 hln (Nat.le_of_ble_eq_true rfl) hnc hnp hne (Or.inr ⟨st0, hst0, rfl⟩) (by omega) (Nat.le_of_ble_eq_true rfl)) (cwV 3 hts g_E_6_layRules_E_6_layConditions rfl rfl rfl (by decide +kernel) ⟨Nat.le_of_ble_eq_true rfl, Nat.le_of_ble_eq_true rfl⟩) ⟨pu_bl, va_recv hK hP (ci := 6) (q0 := 0) rfl rfl, pu_in hP hK hD⟩ rfl rfl hl.1 rfl (lv_room (Nat.le_of_ble_eq_true rfl)) eX6_layRules_35 ⟨Nat.le_of_ble_eq_true rfl, Nat.le_of_ble_eq_true rfl⟩) hS (fun q _ h => hFc q h) hFc (fun u t H1 locs ht hvm hw hB hz1 hk1 hS => ?_)
    obtain ⟨z_j3_14, z_j4_15, z_j5_16, z_nr_17, ⟨hP1, -, hD1⟩, hz_nr_17, xr_13_0⟩ := hB
    rw [ht] at hP1
    have hP := hP1
    have hD := pu_all hFc hD1
    clear hP1 hD1 hFc
    clear hk1 hz1 ht hvm
    generalize H1 = H at hP hS ⊢
    have hsp := hsp.trans (slet_eq xr_13_0)
    refine lv_iconst (v := 0) hx hb eX6_layRules_38 (by decide) ?_
    refine lv_istore_n (lv' := [(2, .int 0), (0, .ref ti), (1, .ref au)]) hx hb eX6_layRules_39 rfl hl (by decide) rfl (fun ls hl => ?_)
    obtain ⟨lf_31, dlf_31, hlf_31, hsp⟩ := itr_ex hsp
    delta sp_E_6_layRules_L2 at hlf_31
    refine pu_while (fun nn H locs ls => ∃ (g_24 : Nat → Nat) (g_25 : Nat → Nat) (g_26 : Nat → Int32) (g_27 : Nat → Nat) (g_28 : Nat) (g_29 : Nat), nn = 119 - g_29 ∧ g_28 ≤ 1920 ∧ g_29 ≤ 119 ∧ RR = itrv dlf_31 lf_31 (g_24, g_25, g_26, g_27, g_28, g_29) ∧ va_P (dC, dI) vwCl (ta__w ti r0 (nI ln) r2 r3 r4 r5 (nI g_28) r7 r8 tz k_j0 (bN 13 q_j0) k_j2 j2 k_j3 (bN 120 g_24) k_j4 (bN 120 g_25) k_j5 g_26 k_j7 (bN 120 g_27) k_j8 j8 au (nI nc) (nI np) (nI ne) (nI st0) q4 q5 q6 q7 q8 q9 q10 q11 q12 q13 q14 q15 q16 k_f4 f4 k_f5 (bN 7 q_f5) k_f6 (bN 7 q_f6) k_f7 f7 k_f8 (bN 4 q_f8) k_f9 (bN 2 q_f9) k_f10 f10 k_f11 f11 k_f12 f12 k_f13 f13 k_f14 f14 k_f15 f15 k_f16 f16) H ∧ va_D A (ta__w ti r0 (nI ln) r2 r3 r4 r5 (nI g_28) r7 r8 tz k_j0 (bN 13 q_j0) k_j2 j2 k_j3 (bN 120 g_24) k_j4 (bN 120 g_25) k_j5 g_26 k_j7 (bN 120 g_27) k_j8 j8 au (nI nc) (nI np) (nI ne) (nI st0) q4 q5 q6 q7 q8 q9 q10 q11 q12 q13 q14 q15 q16 k_f4 f4 k_f5 (bN 7 q_f5) k_f6 (bN 7 q_f6) k_f7 f7 k_f8 (bN 4 q_f8) k_f9 (bN 2 q_f9) k_f10 f10 k_f11 f11 k_f12 f12 k_f13 f13 k_f14 f14 k_f15 f15 k_f16 f16) ∧ va_S A s.heap H locs ∧ lv_has ls 6 [(0, .ref ti), (1, .ref au), (2, .int (nI g_29))]) 40 ?_ _ _ _ _ ⟨z_j3_14, z_j4_15, z_j5_16, g_3, z_nr_17, 0, rfl, hz_nr_17, (Nat.le_of_ble_eq_true rfl), hsp, hP, hD, hS, lv_sub hl [1, 2, 0] rfl⟩
    rintro nn ih_30 H locs ls ⟨g_24, g_25, g_26, g_27, g_28, g_29, rfl, hg_28, hg_29, he_33, hP, hD, hS, hl⟩
    obtain ⟨S_32, hsp, hin_34, hout_35⟩ := itr_step hlf_31 he_33
    refine lv_iload_n hx hb eX6_layRules_40 rfl (lv_at hl 2 rfl) ?_
    refine lv_aload_n hx hb eX6_layRules_41 rfl (lv_at hl 0 rfl) ?_
    refine va_get (D := (dC, dI)) (ci := 6) (v := .int (nI ln)) (C := RX6) (T := TX6) (N := 10) hx hb hts hiX6 hown hK hP 0 rfl rfl 1 (by decide) v_13 (fun _ h9 => h9) rfl eX6_layRules_42 ?_
    refine lv_icmp_ge (tgt := 179) hx hb eX6_layRules_45 (by decide) (fun c_36 => ?_) (fun c_36 => ?_)
    · have c_36 : ln ≤ g_29 := (nI_leI (a := ln) (b := g_29) (Nat.lt_of_le_of_lt hln (Nat.le_of_ble_eq_true rfl)) (Nat.lt_of_le_of_lt hg_29 (Nat.le_of_ble_eq_true rfl))).mp c_36
      have hsp := hsp.trans (if_pos c_36)
      have hsp := hout_35 _ hsp
      exact W.vret hx hb hr (fun t ht hW => ⟨⟨(), rfl, trivial, ⟨g_24, g_25, g_26, g_27, g_28, ⟨by rw [ht]; exact hP, va_K.moved hW.alike hK, hD⟩, hg_28, (hsp.symm.trans hRR)⟩⟩, hS.F ht⟩) hS.2.2 eX6_layRules_179
    · have c_36 : ¬ ln ≤ g_29 := fun z => c_36 ((nI_leI (a := ln) (b := g_29) (Nat.lt_of_le_of_lt hln (Nat.le_of_ble_eq_true rfl)) (Nat.lt_of_le_of_lt hg_29 (Nat.le_of_ble_eq_true rfl))).mpr z)
      have hsp := hsp.trans (if_neg c_36)
      refine lv_aload_n hx hb eX6_layRules_48 rfl (lv_at hl 0 rfl) ?_
      refine va_get (D := (dC, dI)) (ci := 6) (v := .ref r0) (C := RX6) (T := TX6) (N := 10) hx hb hts hiX6 hown hK hP 0 rfl rfl 0 (by decide) v_14 (fun _ h9 => h9) rfl eX6_layRules_49 ?_
      refine lv_iload_n hx hb eX6_layRules_52 rfl (lv_at hl 2 rfl) ?_
      refine va_iald hx hb hK hP 1 0 rfl rfl (vp_in_nI (n := g_29) (Nat.lt_of_le_of_lt hg_29 (Nat.le_of_ble_eq_true rfl)) (Nat.le_of_ble_eq_true rfl)) eX6_layRules_53 ?_
      refine lv_topi (fun y_37 ey_37 => ?_)
      obtain ⟨u_38, hu_38, qu_38, xu_38⟩ := bN_getx 13 q_j0 (n := g_29) (Nat.lt_of_le_of_lt hg_29 (Nat.le_of_ble_eq_true rfl))
      obtain rfl : y_37 = nI u_38 := ey_37.trans qu_38
      have hsp := hsp.trans (slet_eq xu_38)
      refine lv_istore_n (lv' := [(3, .int (nI u_38)), (0, .ref ti), (1, .ref au), (2, .int (nI g_29))]) hx hb eX6_layRules_54 rfl hl (by decide) rfl (fun ls hl => ?_)
      refine lv_aload_n hx hb eX6_layRules_55 rfl (lv_at hl 2 rfl) ?_
      refine va_get (D := (dC, dI)) (ci := 0) (v := .ref q5) (C := RX0) (T := TX0) (N := 17) hx hb hts hiX0 hown hK hP 8 rfl rfl 5 (by decide) v_15 (fun _ h9 => h9) rfl eX6_layRules_56 ?_
      refine lv_iload_n hx hb eX6_layRules_59 rfl (lv_at hl 0 rfl) ?_
      refine va_iald hx hb hK hP 10 8 rfl rfl (vp_in_nI (n := u_38) (Nat.lt_of_le_of_lt hu_38 (Nat.le_of_ble_eq_true rfl)) (Nat.le_of_ble_eq_true rfl)) eX6_layRules_60 ?_
      refine lv_topi (fun y_39 ey_39 => ?_)
      obtain ⟨u_40, hu_40, qu_40, xu_40⟩ := bN_getx 7 q_f5 (n := u_38) (Nat.lt_of_le_of_lt hu_38 (Nat.le_of_ble_eq_true rfl))
      obtain rfl : y_39 = nI u_40 := ey_39.trans qu_40
      have hsp := hsp.trans (slet_eq xu_40)
      refine lv_istore (lv' := [(4, .int (nI u_40)), (3, .int (nI u_38)), (0, .ref ti), (1, .ref au), (2, .int (nI g_29))]) hx hb eX6_layRules_61 hl (by decide) rfl (fun ls hl => ?_)
      refine lv_aload_n hx hb eX6_layRules_63 rfl (lv_at hl 2 rfl) ?_
      refine lv_iload_n hx hb eX6_layRules_64 rfl (lv_at hl 4 rfl) ?_
      refine lv_iconst (v := 1) hx hb eX6_layRules_65 (by decide) ?_
      refine lv_iadd hx hb eX6_layRules_66 ?_
      refine lv_topi (fun y_41 ey_41 => ?_)
      obtain rfl : y_41 = (nI (g_29 + 1)) := ey_41.trans (nI_add g_29 1)
      refine lv_iload_n hx hb eX6_layRules_67 rfl (lv_at hl 4 rfl) ?_
      refine lv_iconst (v := 0) hx hb eX6_layRules_68 (by decide) ?_
      have hPc : va_P (dC, dI) vwCl (ti__w ti r0 (nI ln) r2 r3 r4 r5 (nI g_28) r7 r8 tz k_j0 (bN 13 q_j0) k_j2 j2 k_j3 (bN 120 g_24) k_j4 (bN 120 g_25) k_j5 g_26 k_j7 (bN 120 g_27) k_j8 j8) _ := hP.sub [0, 1, 2, 3, 4, 5, 6, 7] rfl
      have hDc := hD.sub (ws' := (ti__w ti r0 (nI ln) r2 r3 r4 r5 (nI g_28) r7 r8 tz k_j0 (bN 13 q_j0) k_j2 j2 k_j3 (bN 120 g_24) k_j4 (bN 120 g_25) k_j5 g_26 k_j7 (bN 120 g_27) k_j8 j8)) [0, 1, 2, 3, 4, 5, 6, 7] (by decide) rfl
      have hKc : va_K (dC, dI) vwCl (ti__t k_j0 k_j2 k_j3 k_j4 k_j5 k_j7 k_j8) s := hK.sub [0, 1, 2, 3, 4, 5, 6] rfl
      have hFc := pu_free hDc hS hA
      refine va_callv (va_runV (As := [.int (nI (g_29 + 1)), .int (nI g_29), .int 0]) (rest := []) ⟨hx, hb, hml, hown, hts⟩ (c_E_6_layRule l dC dI _ ti r0 ln r2 r3 r4 r5 g_28 r7 r8 tz k_j0 q_j0 k_j2 j2 k_j3 g_24 k_j4 g_25 k_j5 g_26 k_j7 g_27 k_j8 j8 (g_29 + 1) g_29 0 hln hg_28 (by omega) (Nat.le_trans hg_29 (Nat.le_of_ble_eq_true rfl))) (cwV 3 hts g_E_6_layRules_E_6_layRule rfl rfl rfl (by decide +kernel) ⟨Nat.le_of_ble_eq_true rfl, Nat.le_of_ble_eq_true rfl⟩) ⟨pu_bl, va_recv hK hP (ci := 6) (q0 := 0) rfl rfl, pu_in hPc hKc hDc⟩ rfl rfl hl.1 rfl (lv_room (Nat.le_of_ble_eq_true rfl)) eX6_layRules_69 ⟨Nat.le_of_ble_eq_true rfl, Nat.le_of_ble_eq_true rfl⟩) hS (fun q _ h => hFc q h) hFc (fun u t H1 locs ht hvm hw hB hz1 hk1 hS => ?_)
      obtain ⟨z_j3_43, z_j4_44, z_j5_45, z_nr_46, ⟨hP1, -, hD1⟩, hz_nr_46, xr_42_0⟩ := hB
      rw [ht] at hP1
      obtain ⟨hP, hD⟩ := pj_a (X := (ta__w ti r0 (nI ln) r2 r3 r4 r5 (nI g_28) r7 r8 tz k_j0 (bN 13 q_j0) k_j2 j2 k_j3 (bN 120 g_24) k_j4 (bN 120 g_25) k_j5 g_26 k_j7 (bN 120 g_27) k_j8 j8 au (nI nc) (nI np) (nI ne) (nI st0) q4 q5 q6 q7 q8 q9 q10 q11 q12 q13 q14 q15 q16 k_f4 f4 k_f5 (bN 7 q_f5) k_f6 (bN 7 q_f6) k_f7 f7 k_f8 (bN 4 q_f8) k_f9 (bN 2 q_f9) k_f10 f10 k_f11 f11 k_f12 f12 k_f13 f13 k_f14 f14 k_f15 f15 k_f16 f16)) (X' := (ta__w ti r0 (nI ln) r2 r3 r4 r5 (nI z_nr_46) r7 r8 tz k_j0 (bN 13 q_j0) k_j2 j2 k_j3 (bN 120 z_j3_43) k_j4 (bN 120 z_j4_44) k_j5 z_j5_45 k_j7 (bN 120 g_27) k_j8 j8 au (nI nc) (nI np) (nI ne) (nI st0) q4 q5 q6 q7 q8 q9 q10 q11 q12 q13 q14 q15 q16 k_f4 f4 k_f5 (bN 7 q_f5) k_f6 (bN 7 q_f6) k_f7 f7 k_f8 (bN 4 q_f8) k_f9 (bN 2 q_f9) k_f10 f10 k_f11 f11 k_f12 f12 k_f13 f13 k_f14 f14 k_f15 f15 k_f16 f16)) (wc := (ti__w ti r0 (nI ln) r2 r3 r4 r5 (nI g_28) r7 r8 tz k_j0 (bN 13 q_j0) k_j2 j2 k_j3 (bN 120 g_24) k_j4 (bN 120 g_25) k_j5 g_26 k_j7 (bN 120 g_27) k_j8 j8)) (w1 := (ti__w ti r0 (nI ln) r2 r3 r4 r5 (nI z_nr_46) r7 r8 tz k_j0 (bN 13 q_j0) k_j2 j2 k_j3 (bN 120 z_j3_43) k_j4 (bN 120 z_j4_44) k_j5 z_j5_45 k_j7 (bN 120 g_27) k_j8 j8)) hP hD [0, 1, 2, 3, 4, 5, 6, 7] [0, 1, 2, 3, 4, 5, 6, 7, 16, 17, 18, 19, 20, 21, 22, 23, 24, 25, 26, 27, 28, 29] 8 rfl hk1 hP1 rfl rfl rfl (by decide)
      clear hP1 hD1 hFc hPc hDc hKc
      clear hk1 hz1 ht hvm
      generalize H1 = H at hP hS ⊢
      have hsp := hsp.trans (slet_eq xr_42_0)
      refine lv_aload_n hx hb eX6_layRules_72 rfl (lv_at hl 3 rfl) ?_
      refine va_get (D := (dC, dI)) (ci := 0) (v := .ref q4) (C := RX0) (T := TX0) (N := 17) hx hb hts hiX0 hown hK hP 8 rfl rfl 4 (by decide) v_20 (fun _ h9 => h9) rfl eX6_layRules_73 ?_
      refine lv_iload hx hb eX6_layRules_76 (lv_at hl 0 rfl) ?_
      refine va_zald hx hb hK hP 9 7 rfl rfl (vp_in_nI (n := u_40) (Nat.lt_of_le_of_lt hu_40 (Nat.le_of_ble_eq_true rfl)) (Nat.le_of_ble_eq_true rfl)) eX6_layRules_78 ?_
      refine lv_topi (fun y_47 ey_47 => ?_)
      have ey_47 : y_47 = f4 u_40 := ey_47.trans (congrArg f4 (nI_clamp (n := u_40) (Nat.lt_of_le_of_lt hu_40 (Nat.le_of_ble_eq_true rfl))))
      have hsp := hsp.trans (slet_eq ey_47)
      obtain ⟨JR_53, hJR_53, hsp⟩ := slet_ex hsp
      refine pu_join (fun H locs ls st => ∃ (g_48 : Nat) (g_49 : Nat → Nat) (g_50 : Nat → Nat) (g_51 : Nat → Int32), st = [] ∧ g_48 ≤ 1920 ∧ (g_48, g_49, g_50, g_51) = JR_53 ∧ va_P (dC, dI) vwCl (ta__w ti r0 (nI ln) r2 r3 r4 r5 (nI g_48) r7 r8 tz k_j0 (bN 13 q_j0) k_j2 j2 k_j3 (bN 120 g_49) k_j4 (bN 120 g_50) k_j5 g_51 k_j7 (bN 120 g_27) k_j8 j8 au (nI nc) (nI np) (nI ne) (nI st0) q4 q5 q6 q7 q8 q9 q10 q11 q12 q13 q14 q15 q16 k_f4 f4 k_f5 (bN 7 q_f5) k_f6 (bN 7 q_f6) k_f7 f7 k_f8 (bN 4 q_f8) k_f9 (bN 2 q_f9) k_f10 f10 k_f11 f11 k_f12 f12 k_f13 f13 k_f14 f14 k_f15 f15 k_f16 f16) H ∧ va_D A (ta__w ti r0 (nI ln) r2 r3 r4 r5 (nI g_48) r7 r8 tz k_j0 (bN 13 q_j0) k_j2 j2 k_j3 (bN 120 g_49) k_j4 (bN 120 g_50) k_j5 g_51 k_j7 (bN 120 g_27) k_j8 j8 au (nI nc) (nI np) (nI ne) (nI st0) q4 q5 q6 q7 q8 q9 q10 q11 q12 q13 q14 q15 q16 k_f4 f4 k_f5 (bN 7 q_f5) k_f6 (bN 7 q_f6) k_f7 f7 k_f8 (bN 4 q_f8) k_f9 (bN 2 q_f9) k_f10 f10 k_f11 f11 k_f12 f12 k_f13 f13 k_f14 f14 k_f15 f15 k_f16 f16) ∧ va_S A s.heap H locs ∧ lv_has ls 6 [(0, .ref ti), (1, .ref au), (2, .int (nI g_29)), (3, .int (nI u_38)), (4, .int (nI u_40))]) 91 ?_ (fun j_52 => ?_)
      · rintro H locs ls st ⟨g_48, g_49, g_50, g_51, rfl, hg_48, he_54, hP, hD, hS, hl⟩
        rw [← he_54] at hsp
        refine lv_aload_n hx hb eX6_layRules_91 rfl (lv_at hl 0 rfl) ?_
        refine lv_aload_n hx hb eX6_layRules_92 rfl (lv_at hl 1 rfl) ?_
        refine lv_iload hx hb eX6_layRules_93 (lv_at hl 4 rfl) ?_
        refine va_calli (va_runS (As := [.int (nI u_40)]) (rest := [.ref au, .ref ti]) ⟨hx, hb, hml, hown, hts⟩ (c_E_0_hostOfPlace l dC dI _ u_40 hu_40) (va_cwS 1 hts g_E_6_layRules_E_0_hostOfPlace rfl rfl rfl (by decide +kernel) ⟨Nat.le_of_ble_eq_true rfl, Nat.le_of_ble_eq_true rfl⟩) ⟨pu_bl, pu_in (hP.sub [] rfl) (hK.sub [] rfl) (hD.sub [] (by decide) rfl)⟩ rfl rfl hl.1 rfl (lv_room (Nat.le_of_ble_eq_true rfl)) eX6_layRules_95 ⟨Nat.le_of_ble_eq_true rfl, Nat.le_of_ble_eq_true rfl⟩) hS (fun q _ h => pu_fr hS hA q h) (pu_fr hS hA) (fun r_55 u t H1 locs ht hvm hw hB hz1 hk1 hS => ?_)
        have hP := pu_keep hP hk1
        clear hk1 hz1 ht hvm
        generalize H1 = H at hP hS ⊢
        obtain rfl : r_55 = nI (14 + u_40) := hw
        refine lv_iload_n hx hb eX6_layRules_98 rfl (lv_at hl 2 rfl) ?_
        refine lv_iconst (v := 1) hx hb eX6_layRules_99 (by decide) ?_
        refine lv_iadd hx hb eX6_layRules_100 ?_
        refine lv_topi (fun y_56 ey_56 => ?_)
        obtain rfl : y_56 = (nI (g_29 + 1)) := ey_56.trans (nI_add g_29 1)
        have hFc := pu_free hD hS hA
        refine va_callv (va_runV (As := [.ref au, .int (nI (14 + u_40)), .int (nI (g_29 + 1))]) (rest := []) ⟨hx, hb, hml, hown, hts⟩ (c_E_6_layConditions l dC dI _ ti r0 ln r2 r3 r4 r5 g_48 r7 r8 tz k_j0 q_j0 k_j2 j2 k_j3 g_49 k_j4 g_50 k_j5 g_51 k_j7 g_27 k_j8 j8 au nc np ne (nI st0) q4 q5 q6 q7 q8 q9 q10 q11 q12 q13 q14 q15 q16 k_f4 f4 k_f5 q_f5 k_f6 q_f6 k_f7 f7 k_f8 q_f8 k_f9 q_f9 k_f10 f10 k_f11 f11 k_f12 f12 k_f13 f13 k_f14 f14 k_f15 f15 k_f16 f16 (14 + u_40) (g_29 + 1) hln hg_48 hnc hnp hne (Or.inr ⟨st0, hst0, rfl⟩) (by omega) (by omega)) (cwV 3 hts g_E_6_layRules_E_6_layConditions rfl rfl rfl (by decide +kernel) ⟨Nat.le_of_ble_eq_true rfl, Nat.le_of_ble_eq_true rfl⟩) ⟨pu_bl, va_recv hK hP (ci := 6) (q0 := 0) rfl rfl, pu_in hP hK hD⟩ rfl rfl hl.1 rfl (lv_room (Nat.le_of_ble_eq_true rfl)) eX6_layRules_101 ⟨Nat.le_of_ble_eq_true rfl, Nat.le_of_ble_eq_true rfl⟩) hS (fun q _ h => hFc q h) hFc (fun u t H1 locs ht hvm hw hB hz1 hk1 hS => ?_)
        obtain ⟨z_j3_58, z_j4_59, z_j5_60, z_nr_61, ⟨hP1, -, hD1⟩, hz_nr_61, xr_57_0⟩ := hB
        rw [ht] at hP1
        have hP := hP1
        have hD := pu_all hFc hD1
        clear hP1 hD1 hFc
        clear hk1 hz1 ht hvm
        generalize H1 = H at hP hS ⊢
        have hsp := hsp.trans (slet_eq xr_57_0)
        refine lv_aload_n hx hb eX6_layRules_104 rfl (lv_at hl 0 rfl) ?_
        refine lv_aload_n hx hb eX6_layRules_105 rfl (lv_at hl 1 rfl) ?_
        refine lv_iload_n hx hb eX6_layRules_106 rfl (lv_at hl 3 rfl) ?_
        refine lv_iload_n hx hb eX6_layRules_107 rfl (lv_at hl 2 rfl) ?_
        refine lv_iconst (v := 1) hx hb eX6_layRules_108 (by decide) ?_
        refine lv_iadd hx hb eX6_layRules_109 ?_
        refine lv_topi (fun y_62 ey_62 => ?_)
        obtain rfl : y_62 = (nI (g_29 + 1)) := ey_62.trans (nI_add g_29 1)
        have hFc := pu_free hD hS hA
        refine va_callv (va_runV (As := [.ref au, .int (nI u_38), .int (nI (g_29 + 1))]) (rest := []) ⟨hx, hb, hml, hown, hts⟩ (c_E_6_layConditions l dC dI _ ti r0 ln r2 r3 r4 r5 z_nr_61 r7 r8 tz k_j0 q_j0 k_j2 j2 k_j3 z_j3_58 k_j4 z_j4_59 k_j5 z_j5_60 k_j7 g_27 k_j8 j8 au nc np ne (nI st0) q4 q5 q6 q7 q8 q9 q10 q11 q12 q13 q14 q15 q16 k_f4 f4 k_f5 q_f5 k_f6 q_f6 k_f7 f7 k_f8 q_f8 k_f9 q_f9 k_f10 f10 k_f11 f11 k_f12 f12 k_f13 f13 k_f14 f14 k_f15 f15 k_f16 f16 u_38 (g_29 + 1) hln hz_nr_61 hnc hnp hne (Or.inr ⟨st0, hst0, rfl⟩) (Nat.le_trans hu_38 (Nat.le_of_ble_eq_true rfl)) (by omega)) (cwV 3 hts g_E_6_layRules_E_6_layConditions rfl rfl rfl (by decide +kernel) ⟨Nat.le_of_ble_eq_true rfl, Nat.le_of_ble_eq_true rfl⟩) ⟨pu_bl, va_recv hK hP (ci := 6) (q0 := 0) rfl rfl, pu_in hP hK hD⟩ rfl rfl hl.1 rfl (lv_room (Nat.le_of_ble_eq_true rfl)) eX6_layRules_110 ⟨Nat.le_of_ble_eq_true rfl, Nat.le_of_ble_eq_true rfl⟩) hS (fun q _ h => hFc q h) hFc (fun u t H1 locs ht hvm hw hB hz1 hk1 hS => ?_)
        obtain ⟨z_j3_64, z_j4_65, z_j5_66, z_nr_67, ⟨hP1, -, hD1⟩, hz_nr_67, xr_63_0⟩ := hB
        rw [ht] at hP1
        have hP := hP1
        have hD := pu_all hFc hD1
        clear hP1 hD1 hFc
        clear hk1 hz1 ht hvm
        generalize H1 = H at hP hS ⊢
        have hsp := hsp.trans (slet_eq xr_63_0)
        refine lv_iconst (v := 0) hx hb eX6_layRules_113 (by decide) ?_
        refine lv_istore (lv' := [(5, .int 0), (0, .ref ti), (1, .ref au), (2, .int (nI g_29)), (3, .int (nI u_38)), (4, .int (nI u_40))]) hx hb eX6_layRules_114 hl (by decide) rfl (fun ls hl => ?_)
        obtain ⟨lf_73, dlf_73, hlf_73, hsp⟩ := itr_ex hsp
        delta sp_E_6_layRules_L1 at hlf_73
        refine pu_while (fun nn H locs ls => ∃ (g_70 : Nat → Nat) (g_71 : Nat), nn = 3 - g_71 ∧ g_71 ≤ 3 ∧ S_32 = itrv dlf_73 lf_73 (g_70, g_71) ∧ va_P (dC, dI) vwCl (ta__w ti r0 (nI ln) r2 r3 r4 r5 (nI z_nr_67) r7 r8 tz k_j0 (bN 13 q_j0) k_j2 j2 k_j3 (bN 120 z_j3_64) k_j4 (bN 120 z_j4_65) k_j5 z_j5_66 k_j7 (bN 120 g_70) k_j8 j8 au (nI nc) (nI np) (nI ne) (nI st0) q4 q5 q6 q7 q8 q9 q10 q11 q12 q13 q14 q15 q16 k_f4 f4 k_f5 (bN 7 q_f5) k_f6 (bN 7 q_f6) k_f7 f7 k_f8 (bN 4 q_f8) k_f9 (bN 2 q_f9) k_f10 f10 k_f11 f11 k_f12 f12 k_f13 f13 k_f14 f14 k_f15 f15 k_f16 f16) H ∧ va_D A (ta__w ti r0 (nI ln) r2 r3 r4 r5 (nI z_nr_67) r7 r8 tz k_j0 (bN 13 q_j0) k_j2 j2 k_j3 (bN 120 z_j3_64) k_j4 (bN 120 z_j4_65) k_j5 z_j5_66 k_j7 (bN 120 g_70) k_j8 j8 au (nI nc) (nI np) (nI ne) (nI st0) q4 q5 q6 q7 q8 q9 q10 q11 q12 q13 q14 q15 q16 k_f4 f4 k_f5 (bN 7 q_f5) k_f6 (bN 7 q_f6) k_f7 f7 k_f8 (bN 4 q_f8) k_f9 (bN 2 q_f9) k_f10 f10 k_f11 f11 k_f12 f12 k_f13 f13 k_f14 f14 k_f15 f15 k_f16 f16) ∧ va_S A s.heap H locs ∧ lv_has ls 6 [(0, .ref ti), (1, .ref au), (2, .int (nI g_29)), (3, .int (nI u_38)), (4, .int (nI u_40)), (5, .int (nI g_71))]) 116 ?_ _ _ _ _ ⟨g_27, 0, rfl, (Nat.le_of_ble_eq_true rfl), hsp, hP, hD, hS, lv_sub hl [1, 2, 3, 4, 5, 0] rfl⟩
        rintro nn ih_72 H locs ls ⟨g_70, g_71, rfl, hg_71, he_75, hP, hD, hS, hl⟩
        obtain ⟨S_74, hsp, hin_76, hout_77⟩ := itr_step hlf_73 he_75
        refine lv_iload hx hb eX6_layRules_116 (lv_at hl 5 rfl) ?_
        refine lv_aload_n hx hb eX6_layRules_118 rfl (lv_at hl 1 rfl) ?_
        refine va_get (D := (dC, dI)) (ci := 0) (v := .int (nI nc)) (C := RX0) (T := TX0) (N := 17) hx hb hts hiX0 hown hK hP 8 rfl rfl 0 (by decide) v_21 (fun _ h9 => h9) rfl eX6_layRules_119 ?_
        refine lv_icmp_ge (tgt := 156) hx hb eX6_layRules_122 (by decide) (fun c_78 => ?_) (fun c_78 => ?_)
        · have c_78 : nc ≤ g_71 := (nI_leI (a := nc) (b := g_71) (Nat.lt_of_le_of_lt hnc (Nat.le_of_ble_eq_true rfl)) (Nat.lt_of_le_of_lt hg_71 (Nat.le_of_ble_eq_true rfl))).mp c_78
          have hsp := hsp.trans (if_pos c_78)
          have hsp := hout_77 _ hsp
          refine lv_aload_n hx hb eX6_layRules_156 rfl (lv_at hl 0 rfl) ?_
          refine lv_aload_n hx hb eX6_layRules_157 rfl (lv_at hl 1 rfl) ?_
          refine lv_aload_n hx hb eX6_layRules_158 rfl (lv_at hl 1 rfl) ?_
          refine va_get (D := (dC, dI)) (ci := 0) (v := .ref q6) (C := RX0) (T := TX0) (N := 17) hx hb hts hiX0 hown hK hP 8 rfl rfl 6 (by decide) v_23 (fun _ h9 => h9) rfl eX6_layRules_159 ?_
          refine lv_iload_n hx hb eX6_layRules_162 rfl (lv_at hl 3 rfl) ?_
          refine va_iald hx hb hK hP 11 9 rfl rfl (vp_in_nI (n := u_38) (Nat.lt_of_le_of_lt hu_38 (Nat.le_of_ble_eq_true rfl)) (Nat.le_of_ble_eq_true rfl)) eX6_layRules_163 ?_
          refine lv_topi (fun y_79 ey_79 => ?_)
          obtain ⟨u_80, hu_80, qu_80, xu_80⟩ := bN_getx 7 q_f6 (n := u_38) (Nat.lt_of_le_of_lt hu_38 (Nat.le_of_ble_eq_true rfl))
          obtain rfl : y_79 = nI u_80 := ey_79.trans qu_80
          have hsp := hsp.trans (slet_eq xu_80)
          refine va_calli (va_runS (As := [.int (nI u_80)]) (rest := [.ref au, .ref ti]) ⟨hx, hb, hml, hown, hts⟩ (c_E_0_hostOfPlace l dC dI _ u_80 hu_80) (va_cwS 1 hts g_E_6_layRules_E_0_hostOfPlace rfl rfl rfl (by decide +kernel) ⟨Nat.le_of_ble_eq_true rfl, Nat.le_of_ble_eq_true rfl⟩) ⟨pu_bl, pu_in (hP.sub [] rfl) (hK.sub [] rfl) (hD.sub [] (by decide) rfl)⟩ rfl rfl hl.1 rfl (lv_room (Nat.le_of_ble_eq_true rfl)) eX6_layRules_164 ⟨Nat.le_of_ble_eq_true rfl, Nat.le_of_ble_eq_true rfl⟩) hS (fun q _ h => pu_fr hS hA q h) (pu_fr hS hA) (fun r_81 u t H1 locs ht hvm hw hB hz1 hk1 hS => ?_)
          have hP := pu_keep hP hk1
          clear hk1 hz1 ht hvm
          generalize H1 = H at hP hS ⊢
          obtain rfl : r_81 = nI (14 + u_80) := hw
          refine lv_iload_n hx hb eX6_layRules_167 rfl (lv_at hl 2 rfl) ?_
          refine lv_iconst (v := 1) hx hb eX6_layRules_168 (by decide) ?_
          refine lv_iadd hx hb eX6_layRules_169 ?_
          refine lv_topi (fun y_82 ey_82 => ?_)
          obtain rfl : y_82 = (nI (g_29 + 1)) := ey_82.trans (nI_add g_29 1)
          have hFc := pu_free hD hS hA
          refine va_callv (va_runV (As := [.ref au, .int (nI (14 + u_80)), .int (nI (g_29 + 1))]) (rest := []) ⟨hx, hb, hml, hown, hts⟩ (c_E_6_layConditions l dC dI _ ti r0 ln r2 r3 r4 r5 z_nr_67 r7 r8 tz k_j0 q_j0 k_j2 j2 k_j3 z_j3_64 k_j4 z_j4_65 k_j5 z_j5_66 k_j7 g_70 k_j8 j8 au nc np ne (nI st0) q4 q5 q6 q7 q8 q9 q10 q11 q12 q13 q14 q15 q16 k_f4 f4 k_f5 q_f5 k_f6 q_f6 k_f7 f7 k_f8 q_f8 k_f9 q_f9 k_f10 f10 k_f11 f11 k_f12 f12 k_f13 f13 k_f14 f14 k_f15 f15 k_f16 f16 (14 + u_80) (g_29 + 1) hln hz_nr_67 hnc hnp hne (Or.inr ⟨st0, hst0, rfl⟩) (by omega) (by omega)) (cwV 3 hts g_E_6_layRules_E_6_layConditions rfl rfl rfl (by decide +kernel) ⟨Nat.le_of_ble_eq_true rfl, Nat.le_of_ble_eq_true rfl⟩) ⟨pu_bl, va_recv hK hP (ci := 6) (q0 := 0) rfl rfl, pu_in hP hK hD⟩ rfl rfl hl.1 rfl (lv_room (Nat.le_of_ble_eq_true rfl)) eX6_layRules_170 ⟨Nat.le_of_ble_eq_true rfl, Nat.le_of_ble_eq_true rfl⟩) hS (fun q _ h => hFc q h) hFc (fun u t H1 locs ht hvm hw hB hz1 hk1 hS => ?_)
          obtain ⟨z_j3_84, z_j4_85, z_j5_86, z_nr_87, ⟨hP1, -, hD1⟩, hz_nr_87, xr_83_0⟩ := hB
          rw [ht] at hP1
          have hP := hP1
          have hD := pu_all hFc hD1
          clear hP1 hD1 hFc
          clear hk1 hz1 ht hvm
          generalize H1 = H at hP hS ⊢
          have hsp := hsp.trans (slet_eq xr_83_0)
          refine lv_iinc (v := (nI (g_29 + 1))) (lv' := [(2, .int (nI (g_29 + 1))), (0, .ref ti), (1, .ref au), (3, .int (nI u_38)), (4, .int (nI u_40)), (5, .int (nI g_71))]) hx hb eX6_layRules_173 hl (k := 2) rfl (nI_1 _) (by decide) rfl (fun ls hl => ?_)
          refine lv_goto (tgt := 40) hx hb eX6_layRules_176 (by decide) ?_
          exact ih_30 (119 - (g_29 + 1)) (by omega) _ _ _ ⟨z_j3_84, z_j4_85, z_j5_86, g_70, z_nr_87, (g_29 + 1), rfl, hz_nr_87, (by omega), hin_34 _ hsp, hP, hD, hS, lv_sub hl [1, 2, 0] rfl⟩
        · have c_78 : ¬ nc ≤ g_71 := fun z => c_78 ((nI_leI (a := nc) (b := g_71) (Nat.lt_of_le_of_lt hnc (Nat.le_of_ble_eq_true rfl)) (Nat.lt_of_le_of_lt hg_71 (Nat.le_of_ble_eq_true rfl))).mpr z)
          have hsp := hsp.trans (if_neg c_78)
          refine lv_aload_n hx hb eX6_layRules_125 rfl (lv_at hl 1 rfl) ?_
          refine va_get (D := (dC, dI)) (ci := 0) (v := .ref q7) (C := RX0) (T := TX0) (N := 17) hx hb hts hiX0 hown hK hP 8 rfl rfl 7 (by decide) v_22 (fun _ h9 => h9) rfl eX6_layRules_126 ?_
          refine lv_iload_n hx hb eX6_layRules_129 rfl (lv_at hl 3 rfl) ?_
          refine va_iald hx hb hK hP 12 10 rfl rfl (vp_in_nI (n := u_38) (Nat.lt_of_le_of_lt hu_38 (Nat.le_of_ble_eq_true rfl)) (Nat.le_of_ble_eq_true rfl)) eX6_layRules_130 ?_
          refine lv_topi (fun y_88 ey_88 => ?_)
          have ey_88 : y_88 = f7 u_38 := ey_88.trans (congrArg f7 (nI_clamp (n := u_38) (Nat.lt_of_le_of_lt hu_38 (Nat.le_of_ble_eq_true rfl))))
          have hsp := hsp.trans (slet_eq ey_88)
          refine lv_iload hx hb eX6_layRules_131 (lv_at hl 5 rfl) ?_
          refine lv_ishr hx hb eX6_layRules_133 ?_
          refine lv_topi (fun y_89 ey_89 => ?_)
          have hsp := hsp.trans (slet_eq ey_89)
          refine lv_iconst (v := 1) hx hb eX6_layRules_134 (by decide) ?_
          refine lv_iand hx hb eX6_layRules_135 ?_
          refine lv_topi (fun y_90 ey_90 => ?_)
          have hsp := hsp.trans (slet_eq ey_90)
          refine lv_iconst (v := 1) hx hb eX6_layRules_136 (by decide) ?_
          obtain ⟨JR_93, hJR_93, hsp⟩ := slet_ex hsp
          refine pu_join (fun H locs ls st => ∃ (g_91 : Nat → Nat), st = [] ∧ g_91 = JR_93 ∧ va_P (dC, dI) vwCl (ta__w ti r0 (nI ln) r2 r3 r4 r5 (nI z_nr_67) r7 r8 tz k_j0 (bN 13 q_j0) k_j2 j2 k_j3 (bN 120 z_j3_64) k_j4 (bN 120 z_j4_65) k_j5 z_j5_66 k_j7 (bN 120 g_91) k_j8 j8 au (nI nc) (nI np) (nI ne) (nI st0) q4 q5 q6 q7 q8 q9 q10 q11 q12 q13 q14 q15 q16 k_f4 f4 k_f5 (bN 7 q_f5) k_f6 (bN 7 q_f6) k_f7 f7 k_f8 (bN 4 q_f8) k_f9 (bN 2 q_f9) k_f10 f10 k_f11 f11 k_f12 f12 k_f13 f13 k_f14 f14 k_f15 f15 k_f16 f16) H ∧ va_D A (ta__w ti r0 (nI ln) r2 r3 r4 r5 (nI z_nr_67) r7 r8 tz k_j0 (bN 13 q_j0) k_j2 j2 k_j3 (bN 120 z_j3_64) k_j4 (bN 120 z_j4_65) k_j5 z_j5_66 k_j7 (bN 120 g_91) k_j8 j8 au (nI nc) (nI np) (nI ne) (nI st0) q4 q5 q6 q7 q8 q9 q10 q11 q12 q13 q14 q15 q16 k_f4 f4 k_f5 (bN 7 q_f5) k_f6 (bN 7 q_f6) k_f7 f7 k_f8 (bN 4 q_f8) k_f9 (bN 2 q_f9) k_f10 f10 k_f11 f11 k_f12 f12 k_f13 f13 k_f14 f14 k_f15 f15 k_f16 f16) ∧ va_S A s.heap H locs ∧ lv_has ls 6 [(0, .ref ti), (1, .ref au), (2, .int (nI g_29)), (3, .int (nI u_38)), (4, .int (nI u_40)), (5, .int (nI g_71))]) 150 ?_ (fun j_92 => ?_)
          · rintro H locs ls st ⟨g_91, rfl, he_94, hP, hD, hS, hl⟩
            rw [← he_94] at hsp
            refine lv_iinc (v := (nI (g_71 + 1))) (lv' := [(5, .int (nI (g_71 + 1))), (0, .ref ti), (1, .ref au), (2, .int (nI g_29)), (3, .int (nI u_38)), (4, .int (nI u_40))]) hx hb eX6_layRules_150 hl (k := 5) rfl (nI_1 _) (by decide) rfl (fun ls hl => ?_)
            refine lv_goto (tgt := 116) hx hb eX6_layRules_153 (by decide) ?_
            exact ih_72 (3 - (g_71 + 1)) (by omega) _ _ _ ⟨g_91, (g_71 + 1), rfl, (by omega), hin_76 _ hsp, hP, hD, hS, lv_sub hl [1, 2, 3, 4, 5, 0] rfl⟩
          have hsp := hJR_93
          refine lv_icmp_ne (tgt := 150) hx hb eX6_layRules_137 (by decide) (fun c_95 => ?_) (fun c_95 => ?_)
          · have hcc_95 := c_95
            have hsp := hsp.trans (if_neg c_95)
            exact j_92 _ _ _ _ ⟨g_70, rfl, hsp.symm, hP, hD, hS, lv_sub hl [0, 1, 2, 3, 4, 5] rfl⟩
          · have hcc_95 := c_95
            have hsp := hsp.trans (if_pos c_95)
            refine lv_aload_n hx hb eX6_layRules_140 rfl (lv_at hl 0 rfl) ?_
            refine va_get (D := (dC, dI)) (ci := 6) (v := .ref r7) (C := RX6) (T := TX6) (N := 10) hx hb hts hiX6 hown hK hP 0 rfl rfl 7 (by decide) v_2 (fun _ h9 => h9) rfl eX6_layRules_141 ?_
            refine lv_iload hx hb eX6_layRules_144 (lv_at hl 5 rfl) ?_
            refine lv_iload_n hx hb eX6_layRules_146 rfl (lv_at hl 2 rfl) ?_
            refine lv_iconst (v := 1) hx hb eX6_layRules_147 (by decide) ?_
            refine lv_iadd hx hb eX6_layRules_148 ?_
            refine lv_topi (fun y_96 ey_96 => ?_)
            obtain rfl : y_96 = (nI (g_29 + 1)) := ey_96.trans (nI_add g_29 1)
            refine va_iast hx hb hK hP hD hS 6 5 rfl rfl (vp_in_nI (n := g_71) (by omega) (Nat.le_of_ble_eq_true rfl)) eX6_layRules_149 (fun H locs hP hD hS => ?_)
            obtain ⟨q_97, eq_97, kq_97, oq_97, xq_97⟩ := bN_upx 120 g_70 (n := g_71) (v := (g_29 + 1)) (Nat.lt_of_le_of_lt hg_71 (Nat.le_of_ble_eq_true rfl)) (by omega)
            have hP : va_P (dC, dI) vwCl (ta__w ti r0 (nI ln) r2 r3 r4 r5 (nI z_nr_67) r7 r8 tz k_j0 (bN 13 q_j0) k_j2 j2 k_j3 (bN 120 z_j3_64) k_j4 (bN 120 z_j4_65) k_j5 z_j5_66 k_j7 (bN 120 q_97) k_j8 j8 au (nI nc) (nI np) (nI ne) (nI st0) q4 q5 q6 q7 q8 q9 q10 q11 q12 q13 q14 q15 q16 k_f4 f4 k_f5 (bN 7 q_f5) k_f6 (bN 7 q_f6) k_f7 f7 k_f8 (bN 4 q_f8) k_f9 (bN 2 q_f9) k_f10 f10 k_f11 f11 k_f12 f12 k_f13 f13 k_f14 f14 k_f15 f15 k_f16 f16) H := by rw [← eq_97]; exact hP
            have hD : va_D A (ta__w ti r0 (nI ln) r2 r3 r4 r5 (nI z_nr_67) r7 r8 tz k_j0 (bN 13 q_j0) k_j2 j2 k_j3 (bN 120 z_j3_64) k_j4 (bN 120 z_j4_65) k_j5 z_j5_66 k_j7 (bN 120 q_97) k_j8 j8 au (nI nc) (nI np) (nI ne) (nI st0) q4 q5 q6 q7 q8 q9 q10 q11 q12 q13 q14 q15 q16 k_f4 f4 k_f5 (bN 7 q_f5) k_f6 (bN 7 q_f6) k_f7 f7 k_f8 (bN 4 q_f8) k_f9 (bN 2 q_f9) k_f10 f10 k_f11 f11 k_f12 f12 k_f13 f13 k_f14 f14 k_f15 f15 k_f16 f16) := by rw [← eq_97]; exact hD
            have hsp := hsp.trans (slet_eq xq_97)
            exact j_92 _ _ _ _ ⟨q_97, rfl, hsp.symm, hP, hD, hS, lv_sub hl [0, 1, 2, 3, 4, 5] rfl⟩
      have hsp := hJR_53
      refine lv_if_eq (tgt := 91) hx hb eX6_layRules_79 (by decide) (fun c_98 => ?_) (fun c_98 => ?_)
      · have hcc_98 := c_98
        have hsp := hsp.trans (if_pos c_98)
        exact j_52 _ _ _ _ ⟨z_nr_46, z_j3_43, z_j4_44, z_j5_45, rfl, hz_nr_46, hsp.symm, hP, hD, hS, lv_sub hl [2, 3, 4, 1, 0] rfl⟩
      · have hcc_98 := c_98
        have hsp := hsp.trans (if_neg c_98)
        refine lv_aload_n hx hb eX6_layRules_82 rfl (lv_at hl 2 rfl) ?_
        refine lv_iload_n hx hb eX6_layRules_83 rfl (lv_at hl 4 rfl) ?_
        refine lv_iload_n hx hb eX6_layRules_84 rfl (lv_at hl 4 rfl) ?_
        refine lv_iconst (v := 1) hx hb eX6_layRules_85 (by decide) ?_
        refine lv_iadd hx hb eX6_layRules_86 ?_
        refine lv_topi (fun y_99 ey_99 => ?_)
        obtain rfl : y_99 = (nI (g_29 + 1)) := ey_99.trans (nI_add g_29 1)
        refine lv_iconst (v := 0) hx hb eX6_layRules_87 (by decide) ?_
        have hPc : va_P (dC, dI) vwCl (ti__w ti r0 (nI ln) r2 r3 r4 r5 (nI z_nr_46) r7 r8 tz k_j0 (bN 13 q_j0) k_j2 j2 k_j3 (bN 120 z_j3_43) k_j4 (bN 120 z_j4_44) k_j5 z_j5_45 k_j7 (bN 120 g_27) k_j8 j8) _ := hP.sub [0, 1, 2, 3, 4, 5, 6, 7] rfl
        have hDc := hD.sub (ws' := (ti__w ti r0 (nI ln) r2 r3 r4 r5 (nI z_nr_46) r7 r8 tz k_j0 (bN 13 q_j0) k_j2 j2 k_j3 (bN 120 z_j3_43) k_j4 (bN 120 z_j4_44) k_j5 z_j5_45 k_j7 (bN 120 g_27) k_j8 j8)) [0, 1, 2, 3, 4, 5, 6, 7] (by decide) rfl
        have hKc : va_K (dC, dI) vwCl (ti__t k_j0 k_j2 k_j3 k_j4 k_j5 k_j7 k_j8) s := hK.sub [0, 1, 2, 3, 4, 5, 6] rfl
        have hFc := pu_free hDc hS hA
        refine va_callv (va_runV (As := [.int (nI g_29), .int (nI (g_29 + 1)), .int 0]) (rest := []) ⟨hx, hb, hml, hown, hts⟩ (c_E_6_layRule l dC dI _ ti r0 ln r2 r3 r4 r5 z_nr_46 r7 r8 tz k_j0 q_j0 k_j2 j2 k_j3 z_j3_43 k_j4 z_j4_44 k_j5 z_j5_45 k_j7 g_27 k_j8 j8 g_29 (g_29 + 1) 0 hln hz_nr_46 (Nat.le_trans hg_29 (Nat.le_of_ble_eq_true rfl)) (by omega)) (cwV 3 hts g_E_6_layRules_E_6_layRule rfl rfl rfl (by decide +kernel) ⟨Nat.le_of_ble_eq_true rfl, Nat.le_of_ble_eq_true rfl⟩) ⟨pu_bl, va_recv hK hP (ci := 6) (q0 := 0) rfl rfl, pu_in hPc hKc hDc⟩ rfl rfl hl.1 rfl (lv_room (Nat.le_of_ble_eq_true rfl)) eX6_layRules_88 ⟨Nat.le_of_ble_eq_true rfl, Nat.le_of_ble_eq_true rfl⟩) hS (fun q _ h => hFc q h) hFc (fun u t H1 locs ht hvm hw hB hz1 hk1 hS => ?_)
        obtain ⟨z_j3_101, z_j4_102, z_j5_103, z_nr_104, ⟨hP1, -, hD1⟩, hz_nr_104, xr_100_0⟩ := hB
        rw [ht] at hP1
        obtain ⟨hP, hD⟩ := pj_a (X := (ta__w ti r0 (nI ln) r2 r3 r4 r5 (nI z_nr_46) r7 r8 tz k_j0 (bN 13 q_j0) k_j2 j2 k_j3 (bN 120 z_j3_43) k_j4 (bN 120 z_j4_44) k_j5 z_j5_45 k_j7 (bN 120 g_27) k_j8 j8 au (nI nc) (nI np) (nI ne) (nI st0) q4 q5 q6 q7 q8 q9 q10 q11 q12 q13 q14 q15 q16 k_f4 f4 k_f5 (bN 7 q_f5) k_f6 (bN 7 q_f6) k_f7 f7 k_f8 (bN 4 q_f8) k_f9 (bN 2 q_f9) k_f10 f10 k_f11 f11 k_f12 f12 k_f13 f13 k_f14 f14 k_f15 f15 k_f16 f16)) (X' := (ta__w ti r0 (nI ln) r2 r3 r4 r5 (nI z_nr_104) r7 r8 tz k_j0 (bN 13 q_j0) k_j2 j2 k_j3 (bN 120 z_j3_101) k_j4 (bN 120 z_j4_102) k_j5 z_j5_103 k_j7 (bN 120 g_27) k_j8 j8 au (nI nc) (nI np) (nI ne) (nI st0) q4 q5 q6 q7 q8 q9 q10 q11 q12 q13 q14 q15 q16 k_f4 f4 k_f5 (bN 7 q_f5) k_f6 (bN 7 q_f6) k_f7 f7 k_f8 (bN 4 q_f8) k_f9 (bN 2 q_f9) k_f10 f10 k_f11 f11 k_f12 f12 k_f13 f13 k_f14 f14 k_f15 f15 k_f16 f16)) (wc := (ti__w ti r0 (nI ln) r2 r3 r4 r5 (nI z_nr_46) r7 r8 tz k_j0 (bN 13 q_j0) k_j2 j2 k_j3 (bN 120 z_j3_43) k_j4 (bN 120 z_j4_44) k_j5 z_j5_45 k_j7 (bN 120 g_27) k_j8 j8)) (w1 := (ti__w ti r0 (nI ln) r2 r3 r4 r5 (nI z_nr_104) r7 r8 tz k_j0 (bN 13 q_j0) k_j2 j2 k_j3 (bN 120 z_j3_101) k_j4 (bN 120 z_j4_102) k_j5 z_j5_103 k_j7 (bN 120 g_27) k_j8 j8)) hP hD [0, 1, 2, 3, 4, 5, 6, 7] [0, 1, 2, 3, 4, 5, 6, 7, 16, 17, 18, 19, 20, 21, 22, 23, 24, 25, 26, 27, 28, 29] 8 rfl hk1 hP1 rfl rfl rfl (by decide)
        clear hP1 hD1 hFc hPc hDc hKc
        clear hk1 hz1 ht hvm
        generalize H1 = H at hP hS ⊢
        have hsp := hsp.trans (slet_eq xr_100_0)
        exact j_52 _ _ _ _ ⟨z_nr_104, z_j3_101, z_j4_102, z_j5_103, rfl, hz_nr_104, hsp.symm, hP, hD, hS, lv_sub hl [2, 3, 4, 1, 0] rfl⟩
  · have c_11 : ¬ 3 ≤ g_4 := fun z => c_11 ((nI_leI (a := 3) (b := g_4) (Nat.le_of_ble_eq_true rfl) (Nat.lt_of_le_of_lt hg_4 (Nat.le_of_ble_eq_true rfl))).mpr z)
    have hsp := hsp.trans (if_neg c_11)
    refine lv_aload_n hx hb eX6_layRules_12 rfl (lv_at hl 0 rfl) ?_
    refine va_get (D := (dC, dI)) (ci := 6) (v := .ref r7) (C := RX6) (T := TX6) (N := 10) hx hb hts hiX6 hown hK hP 0 rfl rfl 7 (by decide) v_2 (fun _ h9 => h9) rfl eX6_layRules_13 ?_
    refine lv_iload_n hx hb eX6_layRules_16 rfl (lv_at hl 2 rfl) ?_
    refine lv_iconst (v := 0) hx hb eX6_layRules_17 (by decide) ?_
    refine va_iast hx hb hK hP hD hS 6 5 rfl rfl (vp_in_nI (n := g_4) (by omega) (Nat.le_of_ble_eq_true rfl)) eX6_layRules_18 (fun H locs hP hD hS => ?_)
    obtain ⟨q_105, eq_105, kq_105, oq_105, xq_105⟩ := bN_upx 120 g_3 (n := g_4) (v := 0) (Nat.lt_of_le_of_lt hg_4 (Nat.le_of_ble_eq_true rfl)) (Nat.le_of_ble_eq_true rfl)
    have hP : va_P (dC, dI) vwCl (ta__w ti r0 (nI ln) r2 r3 r4 r5 0 r7 r8 tz k_j0 (bN 13 q_j0) k_j2 j2 k_j3 (bN 120 q_j3) k_j4 (bN 120 q_j4) k_j5 j5 k_j7 (bN 120 q_105) k_j8 j8 au (nI nc) (nI np) (nI ne) (nI st0) q4 q5 q6 q7 q8 q9 q10 q11 q12 q13 q14 q15 q16 k_f4 f4 k_f5 (bN 7 q_f5) k_f6 (bN 7 q_f6) k_f7 f7 k_f8 (bN 4 q_f8) k_f9 (bN 2 q_f9) k_f10 f10 k_f11 f11 k_f12 f12 k_f13 f13 k_f14 f14 k_f15 f15 k_f16 f16) H := by rw [← eq_105]; exact hP
    have hD : va_D A (ta__w ti r0 (nI ln) r2 r3 r4 r5 0 r7 r8 tz k_j0 (bN 13 q_j0) k_j2 j2 k_j3 (bN 120 q_j3) k_j4 (bN 120 q_j4) k_j5 j5 k_j7 (bN 120 q_105) k_j8 j8 au (nI nc) (nI np) (nI ne) (nI st0) q4 q5 q6 q7 q8 q9 q10 q11 q12 q13 q14 q15 q16 k_f4 f4 k_f5 (bN 7 q_f5) k_f6 (bN 7 q_f6) k_f7 f7 k_f8 (bN 4 q_f8) k_f9 (bN 2 q_f9) k_f10 f10 k_f11 f11 k_f12 f12 k_f13 f13 k_f14 f14 k_f15 f15 k_f16 f16) := by rw [← eq_105]; exact hD
    have hsp := hsp.trans (slet_eq xq_105)
    refine lv_iinc (v := (nI (g_4 + 1))) (lv' := [(2, .int (nI (g_4 + 1))), (0, .ref ti), (1, .ref au)]) hx hb eX6_layRules_19 hl (k := 2) rfl (nI_1 _) (by decide) rfl (fun ls hl => ?_)
    refine lv_goto (tgt := 7) hx hb eX6_layRules_22 (by decide) ?_
    exact ih_5 (3 - (g_4 + 1)) (by omega) _ _ _ ⟨q_105, (g_4 + 1), rfl, (by omega), hin_9 _ hsp, hP, hD, hS, lv_sub hl [1, 2, 0] rfl⟩
