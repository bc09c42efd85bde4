theorem eX1_loosestAt_0 : decode cX1_loosestAt 0 = .ok (.ldc 148, 2) := by decide +kernel
theorem eX1_loosestAt_2 : decode cX1_loosestAt 2 = .ok (.istore 4, 2) := by decide +kernel
theorem eX1_loosestAt_4 : decode cX1_loosestAt 4 = .ok (.iconst 0, 1) := by decide +kernel
theorem eX1_loosestAt_5 : decode cX1_loosestAt 5 = .ok (.istore 5, 2) := by decide +kernel
theorem eX1_loosestAt_7 : decode cX1_loosestAt 7 = .ok (.iload 5, 2) := by decide +kernel
theorem eX1_loosestAt_9 : decode cX1_loosestAt 9 = .ok (.aload_n 0, 1) := by decide +kernel
theorem eX1_loosestAt_10 : decode cX1_loosestAt 10 = .ok (.getfield 79, 3) := by decide +kernel
theorem eX1_loosestAt_13 : decode cX1_loosestAt 13 = .ok (.if_icmp .ge 39, 3) := by decide +kernel
theorem eX1_loosestAt_16 : decode cX1_loosestAt 16 = .ok (.aload_n 0, 1) := by decide +kernel
theorem eX1_loosestAt_17 : decode cX1_loosestAt 17 = .ok (.getfield 24, 3) := by decide +kernel
theorem eX1_loosestAt_20 : decode cX1_loosestAt 20 = .ok (.iload 5, 2) := by decide +kernel
theorem eX1_loosestAt_22 : decode cX1_loosestAt 22 = .ok (.iaload, 1) := by decide +kernel
theorem eX1_loosestAt_23 : decode cX1_loosestAt 23 = .ok (.iload_n 1, 1) := by decide +kernel
theorem eX1_loosestAt_24 : decode cX1_loosestAt 24 = .ok (.if_icmp .ne 22, 3) := by decide +kernel
theorem eX1_loosestAt_27 : decode cX1_loosestAt 27 = .ok (.iload 4, 2) := by decide +kernel
theorem eX1_loosestAt_29 : decode cX1_loosestAt 29 = .ok (.aload_n 0, 1) := by decide +kernel
theorem eX1_loosestAt_30 : decode cX1_loosestAt 30 = .ok (.getfield 17, 3) := by decide +kernel
theorem eX1_loosestAt_33 : decode cX1_loosestAt 33 = .ok (.iload 5, 2) := by decide +kernel
theorem eX1_loosestAt_35 : decode cX1_loosestAt 35 = .ok (.aaload, 1) := by decide +kernel
theorem eX1_loosestAt_36 : decode cX1_loosestAt 36 = .ok (.iload_n 2, 1) := by decide +kernel
theorem eX1_loosestAt_37 : decode cX1_loosestAt 37 = .ok (.iload_n 3, 1) := by decide +kernel
theorem eX1_loosestAt_38 : decode cX1_loosestAt 38 = .ok (.invokevirtual 149, 3) := by decide +kernel
theorem eX1_loosestAt_41 : decode cX1_loosestAt 41 = .ok (.invokestatic 153, 3) := by decide +kernel
theorem eX1_loosestAt_44 : decode cX1_loosestAt 44 = .ok (.istore 4, 2) := by decide +kernel
theorem eX1_loosestAt_46 : decode cX1_loosestAt 46 = .ok (.iinc 5 1, 3) := by decide +kernel
theorem eX1_loosestAt_49 : decode cX1_loosestAt 49 = .ok (.goto (-42), 3) := by decide +kernel
theorem eX1_loosestAt_52 : decode cX1_loosestAt 52 = .ok (.iload 4, 2) := by decide +kernel
theorem eX1_loosestAt_54 : decode cX1_loosestAt 54 = .ok (.ireturn, 1) := by decide +kernel
abbrev vs_E_1_loosestAt_16 : List Cond := .code yX1_loosestAt cX1_loosestAt 6 (some .int) :: CM
theorem g_E_1_loosestAt_16_E_7_cellOf_16 : GoodIn vs_E_1_loosestAt_16 (wsV RX1 149 RX7 yX7_cellOf vs_E_7_cellOf_16) := cm_gV cm_156 cm_157 cm_158 cm_45 cm_159
noncomputable def sp_E_1_loosestAt_16_L1 (gc : Nat) (q_fs1 : Nat → Nat) (o : Nat) (qs : Nat → Nat) (fz : Nat → Nat → Int32) (p0 : Int32) (a1 : Nat) (a2 : Nat) : (Int32 × Nat) → (Int32 × Nat) ⊕ (Int32) := fun (g_3, g_4) => (if gc ≤ g_4 then (Sum.inr g_3) else (slet (min (q_fs1 g_4) 7) (fun u_13 => (slet (α := Int32) (if ((nI u_13) : Int32) = p0 then (slet (sp_E_7_cellOf_16 (min (qs (o + g_4)) 4) (fz (o + g_4)) a1 a2) (fun r_19 => (slet (if (g_3 : Int32) < r_19 then r_19 else g_3) (fun y_20 => y_20)))) else g_3) (fun g_14 => (Sum.inl (g_14, (g_4 + 1))))))))
noncomputable def sp_E_1_loosestAt_16 (gc : Nat) (q_fs1 : Nat → Nat) (o : Nat) (qs : Nat → Nat) (fz : Nat → Nat → Int32) (p0 : Int32) (a1 : Nat) (a2 : Nat) : Int32 := (itrv (α := Int32 × Nat) (β := (Int32)) default (sp_E_1_loosestAt_16_L1 gc q_fs1 o qs fz p0 a1 a2) ((-2147483648), 0))
set_option maxHeartbeats 4000000 in
set_option maxRecDepth 100000 in
theorem c_E_1_loosestAt_16 (l : Launch) (dC : Nat → ClassId) (dI : Nat → Nat → Nat) (sz : Nat) (g : Nat) (gz : Nat) (g1 : Nat) (g2 : Nat) (g3 : Nat) (g4 : Nat) (g5 : Nat) (gc : Nat) (gfull : Nat) (gx : Int32) (gway : Int32) (gav : Int32) (ggoal : Int32) (gfound : Nat) (gl : Nat) (gsz : Nat) (g16 : Nat) (g17 : Nat) (k_fgz : ClassId) (k_fs1 : ClassId) (q_fs1 : Nat → Nat) (k_fs2 : ClassId) (fs2 : Nat → Int32) (k_fs3 : ClassId) (fs3 : Nat → Int32) (k_fs4 : ClassId) (fs4 : Nat → Int32) (k_fs5 : ClassId) (fs5 : Nat → Int32) (k_fhi : ClassId) (fhi : Nat → Int32) (k_flo : ClassId) (flo : Nat → Int32) (N : Nat) (o : Nat) (az ac : Nat → Nat) (kz : Nat → ClassId) (qs : Nat → Nat) (fz : Nat → Nat → Int32) (p0 : Int32) (a1 : Nat) (a2 : Nat) (hgc : gc ≤ 120) (hgfull : gfull ≤ 1) (hgfound : gfound ≤ 1) (hgl : gl ≤ 1) (hgsz : gsz ≤ 4) (hN : o + 121 ≤ N) (ha1 : a1 ≤ 3) (ha2 : a2 ≤ 3) : Met l yX1_loosestAt vs_E_1_loosestAt_16 ({ frames := 1, cells := 0, slots := 0, locals := 22 }) (va_Pc [.ref g, .int p0, .int (nI a1), .int (nI a2)] (pu_B (dC, dI) ((gs0__w g gz g1 g2 g3 g4 g5 (nI gc) (nI gfull) gx gway gav ggoal (nI gfound) 120 (nI gl) (nI gsz) g16 g17 k_fgz (zs o 121 az) k_fs1 (bN 7 q_fs1) k_fs2 fs2 k_fs3 fs3 k_fs4 fs4 k_fs5 fs5 k_fhi fhi k_flo flo) ++ zp 4 16 N az ac kz qs fz) ((gs0__t k_fgz k_fs1 k_fs2 k_fs3 k_fs4 k_fs5 k_fhi k_flo) ++ zt N kz) sz)) (va_Qi (fun (r : Int32) (_ : Unit) => r = (sp_E_1_loosestAt_16 gc q_fs1 o qs fz p0 a1 a2)) (fun _ _ => True) (va_A [] sz)) 0 0 (va_A [] sz) := by
  refine Met.ofW (cc := cX1_loosestAt) (maxL := 6) (ret := (some .int)) (by decide) rfl ?_
  intro p e s m args below meth c s₁ B hml hv
  obtain ⟨rfl, rfl, hP, hK, hD0⟩ := hv
  have hx := B.exec
  have hb := B.bytes
  have hr := B.returns
  have hts := atoms_spec (ws := vs_E_1_loosestAt_16) B.pre
  have v_1 := hts (.constant RX1 148 (-2147483648)) (List.mem_cons_of_mem _ cm_154)
  have v_2 := hts (.fieldLink RX1 79 "ClockReach$Graph" "count" "I") (List.mem_cons_of_mem _ cm_89)
  have v_3 := hts (.fieldLink RX1 24 "ClockReach$Graph" "sites" "[I") (List.mem_cons_of_mem _ cm_115)
  have v_4 := hts (.fieldLink RX1 17 "ClockReach$Graph" "zones" "[LClockReach$Zone;") (List.mem_cons_of_mem _ cm_92)
  have v_10 := hts (.methodLink RX1 153 Lib.Math.max.name) (List.mem_cons_of_mem _ cm_155)
  have v_11 := hts (.static Lib.Math.max.name) (List.mem_cons_of_mem _ cm_36)
  have v_12 := hts (.initialized "java/lang/Math") (List.mem_cons_of_mem _ cm_37)
  have v_13 := hts (.code Lib.Math.max.name Lib.Math.max.code 2 (some .int)) (List.mem_cons_of_mem _ cm_38)
  have hown : s.vm.findClass RX1 = some m.cls := findClass_of_methodNamed B.named
  have hlocks := B.notSynchronized
  have hiX1 : ∀ w ∈ wsX10, w ∈ vs_E_1_loosestAt_16 := fun _ h => List.mem_cons_of_mem _ (cm_X1 h)
  have hD := hD0
  have hA : ∀ q : Nat, s.heap.size ≤ q → va_A [] s.heap.size q := fun _ h => Or.inr h
  have hS : va_S (va_A [] s.heap.size) s.heap s.heap [] := va_S.rf
  have hl := lv_entry ([.ref g, .int p0, .int (nI a1), .int (nI a2)]) (n := 6) (Nat.le_of_ble_eq_true rfl)
  rw [lg_entry_eq]
  generalize (lg_sl ([.ref g, .int p0, .int (nI a1), .int (nI a2)]) ++ List.replicate (6 - (lg_sl ([.ref g, .int p0, .int (nI a1), .int (nI a2)])).length) Slot.unset).toArray = ls at hl ⊢
  have hl : lv_has ls 6 [(0, .ref g), (1, .int p0), (2, .int (nI a1)), (3, .int (nI a2))] := hl
  obtain ⟨RR, hRR⟩ : ∃ x, x = (sp_E_1_loosestAt_16 gc q_fs1 o qs fz p0 a1 a2) := ⟨_, rfl⟩
  have hsp := hRR
  refine lv_ldc hx hb hown v_1 eX1_loosestAt_0 ?_
  refine lv_istore (lv' := [(4, .int (-2147483648)), (0, .ref g), (1, .int p0), (2, .int (nI a1)), (3, .int (nI a2))]) hx hb eX1_loosestAt_2 hl (by decide) rfl (fun ls hl => ?_)
  refine lv_iconst (v := 0) hx hb eX1_loosestAt_4 (by decide) ?_
  refine lv_istore (lv' := [(5, .int 0), (4, .int (-2147483648)), (0, .ref g), (1, .int p0), (2, .int (nI a1)), (3, .int (nI a2))]) hx hb eX1_loosestAt_5 hl (by decide) rfl (fun ls hl => ?_)
  obtain ⟨lf_6, dlf_6, hlf_6, hsp⟩ := itr_ex hsp
  delta sp_E_1_loosestAt_16_L1 at hlf_6
  refine pu_while (fun nn H locs ls => ∃ (g_3 : Int32) (g_4 : Nat), nn = 120 - g_4 ∧ g_4 ≤ 120 ∧ RR = itrv dlf_6 lf_6 (g_3, g_4) ∧ va_P (dC, dI) vwCl ((gs0__w g gz g1 g2 g3 g4 g5 (nI gc) (nI gfull) gx gway gav ggoal (nI gfound) 120 (nI gl) (nI gsz) g16 g17 k_fgz (zs o 121 az) k_fs1 (bN 7 q_fs1) k_fs2 fs2 k_fs3 fs3 k_fs4 fs4 k_fs5 fs5 k_fhi fhi k_flo flo) ++ zp 4 16 N az ac kz qs fz) H ∧ va_D (fun _ => True) ((gs0__w g gz g1 g2 g3 g4 g5 (nI gc) (nI gfull) gx gway gav ggoal (nI gfound) 120 (nI gl) (nI gsz) g16 g17 k_fgz (zs o 121 az) k_fs1 (bN 7 q_fs1) k_fs2 fs2 k_fs3 fs3 k_fs4 fs4 k_fs5 fs5 k_fhi fhi k_flo flo) ++ zp 4 16 N az ac kz qs fz) ∧ va_S (va_A [] s.heap.size) s.heap H locs ∧ lv_has ls 6 [(0, .ref g), (1, .int p0), (2, .int (nI a1)), (3, .int (nI a2)), (4, .int g_3), (5, .int (nI g_4))]) 7 ?_ _ _ _ _ ⟨(-2147483648), 0, rfl, (Nat.le_of_ble_eq_true rfl), hsp, hP, hD, hS, lv_sub hl [2, 3, 4, 5, 1, 0] rfl⟩
  rintro nn ih_5 H locs ls ⟨g_3, g_4, rfl, hg_4, he_8, hP, hD, hS, hl⟩
  obtain ⟨S_7, hsp, hin_9, hout_10⟩ := itr_step hlf_6 he_8
  refine lv_iload hx hb eX1_loosestAt_7 (lv_at hl 5 rfl) ?_
  refine lv_aload_n hx hb eX1_loosestAt_9 rfl (lv_at hl 0 rfl) ?_
  refine va_get (D := (dC, dI)) (ci := 1) (v := .int (nI gc)) (C := RX1) (T := TX1) (N := 18) hx hb hts hiX1 hown hK hP 0 rfl rfl 6 (by decide) v_2 (fun _ h9 => h9) rfl eX1_loosestAt_10 ?_
  refine lv_icmp_ge (tgt := 52) hx hb eX1_loosestAt_13 (by decide) (fun c_11 => ?_) (fun c_11 => ?_)
  · have c_11 : gc ≤ g_4 := (nI_leI (a := gc) (b := g_4) (Nat.lt_of_le_of_lt hgc (Nat.le_of_ble_eq_true rfl)) (Nat.lt_of_le_of_lt hg_4 (Nat.le_of_ble_eq_true rfl))).mp c_11
    have hsp := hsp.trans (if_pos c_11)
    have hsp := hout_10 _ hsp
    refine lv_iload hx hb eX1_loosestAt_52 (lv_at hl 4 rfl) ?_
    exact W.iret (v := g_3) hx hb hr (fun t ht hW => ⟨⟨g_3, (), rfl, (hsp.symm.trans hRR), trivial⟩, hS.F ht⟩) hS.2.2 eX1_loosestAt_54
  · have c_11 : ¬ gc ≤ g_4 := fun z => c_11 ((nI_leI (a := gc) (b := g_4) (Nat.lt_of_le_of_lt hgc (Nat.le_of_ble_eq_true rfl)) (Nat.lt_of_le_of_lt hg_4 (Nat.le_of_ble_eq_true rfl))).mpr z)
    have hsp := hsp.trans (if_neg c_11)
    refine lv_aload_n hx hb eX1_loosestAt_16 rfl (lv_at hl 0 rfl) ?_
    refine va_get (D := (dC, dI)) (ci := 1) (v := .ref g1) (C := RX1) (T := TX1) (N := 18) hx hb hts hiX1 hown hK hP 0 rfl rfl 1 (by decide) v_3 (fun _ h9 => h9) rfl eX1_loosestAt_17 ?_
    refine lv_iload hx hb eX1_loosestAt_20 (lv_at hl 5 rfl) ?_
    refine va_iald hx hb hK hP 2 1 rfl rfl (vp_in_nI (n := g_4) (by omega) (Nat.le_of_ble_eq_true rfl)) eX1_loosestAt_22 ?_
    refine lv_topi (fun y_12 ey_12 => ?_)
    obtain ⟨u_13, hu_13, qu_13, xu_13⟩ := bN_getx 7 q_fs1 (n := g_4) (Nat.lt_of_le_of_lt hg_4 (Nat.le_of_ble_eq_true rfl))
    obtain rfl : y_12 = nI u_13 := ey_12.trans qu_13
    have hsp := hsp.trans (slet_eq xu_13)
    refine lv_iload_n hx hb eX1_loosestAt_23 rfl (lv_at hl 1 rfl) ?_
    obtain ⟨JR_16, hJR_16, hsp⟩ := slet_ex hsp
    refine pu_join (fun H locs ls st => ∃ (g_14 : Int32), st = [] ∧ g_14 = JR_16 ∧ va_P (dC, dI) vwCl ((gs0__w g gz g1 g2 g3 g4 g5 (nI gc) (nI gfull) gx gway gav ggoal (nI gfound) 120 (nI gl) (nI gsz) g16 g17 k_fgz (zs o 121 az) k_fs1 (bN 7 q_fs1) k_fs2 fs2 k_fs3 fs3 k_fs4 fs4 k_fs5 fs5 k_fhi fhi k_flo flo) ++ zp 4 16 N az ac kz qs fz) H ∧ va_D (fun _ => True) ((gs0__w g gz g1 g2 g3 g4 g5 (nI gc) (nI gfull) gx gway gav ggoal (nI gfound) 120 (nI gl) (nI gsz) g16 g17 k_fgz (zs o 121 az) k_fs1 (bN 7 q_fs1) k_fs2 fs2 k_fs3 fs3 k_fs4 fs4 k_fs5 fs5 k_fhi fhi k_flo flo) ++ zp 4 16 N az ac kz qs fz) ∧ va_S (va_A [] s.heap.size) s.heap H locs ∧ lv_has ls 6 [(0, .ref g), (1, .int p0), (2, .int (nI a1)), (3, .int (nI a2)), (4, .int g_14), (5, .int (nI g_4))]) 46 ?_ (fun j_15 => ?_)
    · rintro H locs ls st ⟨g_14, rfl, he_17, hP, hD, hS, hl⟩
      rw [← he_17] at hsp
      refine lv_iinc (v := (nI (g_4 + 1))) (lv' := [(5, .int (nI (g_4 + 1))), (0, .ref g), (1, .int p0), (2, .int (nI a1)), (3, .int (nI a2)), (4, .int g_14)]) hx hb eX1_loosestAt_46 hl (k := 5) rfl (nI_1 _) (by decide) rfl (fun ls hl => ?_)
      refine lv_goto (tgt := 7) hx hb eX1_loosestAt_49 (by decide) ?_
      exact ih_5 (120 - (g_4 + 1)) (by omega) _ _ _ ⟨g_14, (g_4 + 1), rfl, (by omega), hin_9 _ hsp, hP, hD, hS, lv_sub hl [1, 2, 3, 4, 5, 0] rfl⟩
    have hsp := hJR_16
    refine lv_icmp_ne (tgt := 46) hx hb eX1_loosestAt_24 (by decide) (fun c_18 => ?_) (fun c_18 => ?_)
    · have hcc_18 := c_18
      have hsp := hsp.trans (if_neg c_18)
      exact j_15 _ _ _ _ ⟨g_3, rfl, hsp.symm, hP, hD, hS, lv_sub hl [0, 1, 2, 3, 4, 5] rfl⟩
    · have hcc_18 := c_18
      have hsp := hsp.trans (if_pos c_18)
      refine lv_iload hx hb eX1_loosestAt_27 (lv_at hl 4 rfl) ?_
      refine lv_aload_n hx hb eX1_loosestAt_29 rfl (lv_at hl 0 rfl) ?_
      refine va_get (D := (dC, dI)) (ci := 1) (v := .ref gz) (C := RX1) (T := TX1) (N := 18) hx hb hts hiX1 hown hK hP 0 rfl rfl 0 (by decide) v_4 (fun _ h9 => h9) rfl eX1_loosestAt_30 ?_
      refine lv_iload hx hb eX1_loosestAt_33 (lv_at hl 5 rfl) ?_
      refine va_aldq hx hb hK hP 1 0 rfl rfl (vp_in_nI (n := g_4) (Nat.lt_of_le_of_lt hg_4 (Nat.le_of_ble_eq_true rfl)) (Nat.le_of_ble_eq_true rfl)) eX1_loosestAt_35 ?_
      refine W.eq (g2 := F0 m 36 ls [.ref (az (o + g_4)), .int g_3]) (by rw [zs_get (Nat.lt_of_le_of_lt hg_4 (Nat.le_of_ble_eq_true rfl)) (by omega)]) ?_
      refine lv_iload_n hx hb eX1_loosestAt_36 rfl (lv_at hl 2 rfl) ?_
      refine lv_iload_n hx hb eX1_loosestAt_37 rfl (lv_at hl 3 rfl) ?_
      have hPz := zp_cut (k := (o + g_4)) hP (by omega)
      have hPc : va_P (dC, dI) vwCl ([] ++ [(az (o + g_4), .inr (7, [.ref (ac (o + g_4)), .int (nI (min (qs (o + g_4)) 4))])), (ac (o + g_4), .inl (kz (o + g_4), 16, .inl (fz (o + g_4))))]) _ := va_P.app (hP.sub [] rfl) hPz
      have hDc : va_D (fun _ => True) ([] ++ [(az (o + g_4), .inr (7, [.ref (ac (o + g_4)), .int (nI (min (qs (o + g_4)) 4))])), (ac (o + g_4), .inl (kz (o + g_4), 16, .inl (fz (o + g_4))))]) := zp_cutD hD (by omega) [] (by decide) rfl
      have hKc : va_K (dC, dI) vwCl ([] ++ [(kz (o + g_4), .int)]) s := zp_K hK (by omega) [] rfl
      refine va_calli (va_runV (As := [.int (nI a1), .int (nI a2)]) (rest := [.int g_3]) ⟨hx, hb, hml, hown, hts⟩ (c_E_7_cellOf_16 l dC dI _ (az (o + g_4)) (ac (o + g_4)) (min (qs (o + g_4)) 4) (kz (o + g_4)) (fz (o + g_4)) a1 a2 (Nat.min_le_right _ _) ha1 ha2) (cwV 2 hts g_E_1_loosestAt_16_E_7_cellOf_16 rfl rfl rfl (by decide +kernel) ⟨Nat.le_of_ble_eq_true rfl, Nat.le_of_ble_eq_true rfl⟩) ⟨pu_bl, va_recv hK hPz (ci := 7) (q0 := 0) rfl rfl, pu_in hPc hKc hDc⟩ rfl rfl hl.1 rfl (lv_room (Nat.le_of_ble_eq_true rfl)) eX1_loosestAt_38 ⟨Nat.le_of_ble_eq_true rfl, Nat.le_of_ble_eq_true rfl⟩) hS (fun q _ h => pu_fr hS hA q h) (pu_fr hS hA) (fun r_19 u t H1 locs ht hvm hw hB hz1 hk1 hS => ?_)
      have hP := pu_keep hP hk1
      clear hPc hDc hKc
      clear hk1 hz1 ht hvm
      generalize H1 = H at hP hS ⊢
      have ir_19 := hw
      have hsp := hsp.trans (slet_eq ir_19)
      refine va_mmax hx hb (hml.trans hl.1.symm) hown v_10 v_11 v_12 v_13 (Nat.le_of_ble_eq_true rfl) (Nat.le_of_ble_eq_true rfl) (Nat.le_of_ble_eq_true rfl) (Nat.le_of_ble_eq_true rfl) eX1_loosestAt_41 ?_
      refine lv_topi (fun y_20 ey_20 => ?_)
      have hsp := hsp.trans (slet_eq ey_20)
      refine lv_istore (lv' := [(4, .int y_20), (0, .ref g), (1, .int p0), (2, .int (nI a1)), (3, .int (nI a2)), (5, .int (nI g_4))]) hx hb eX1_loosestAt_44 hl (by decide) rfl (fun ls hl => ?_)
      exact j_15 _ _ _ _ ⟨y_20, rfl, hsp.symm, hP, hD, hS, lv_sub hl [1, 2, 3, 4, 0, 5] rfl⟩
