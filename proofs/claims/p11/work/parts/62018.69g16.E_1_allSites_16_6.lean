theorem eX1_allSites_0 : decode cX1_allSites 0 = .ok (.iconst 0, 1) := by decide +kernel
theorem eX1_allSites_1 : decode cX1_allSites 1 = .ok (.istore_n 1, 1) := by decide +kernel
theorem eX1_allSites_2 : decode cX1_allSites 2 = .ok (.iconst 0, 1) := by decide +kernel
theorem eX1_allSites_3 : decode cX1_allSites 3 = .ok (.istore_n 2, 1) := by decide +kernel
theorem eX1_allSites_4 : decode cX1_allSites 4 = .ok (.iload_n 2, 1) := by decide +kernel
theorem eX1_allSites_5 : decode cX1_allSites 5 = .ok (.aload_n 0, 1) := by decide +kernel
theorem eX1_allSites_6 : decode cX1_allSites 6 = .ok (.getfield 79, 3) := by decide +kernel
theorem eX1_allSites_9 : decode cX1_allSites 9 = .ok (.if_icmp .ge 20, 3) := by decide +kernel
theorem eX1_allSites_12 : decode cX1_allSites 12 = .ok (.iload_n 1, 1) := by decide +kernel
theorem eX1_allSites_13 : decode cX1_allSites 13 = .ok (.iconst 1, 1) := by decide +kernel
theorem eX1_allSites_14 : decode cX1_allSites 14 = .ok (.aload_n 0, 1) := by decide +kernel
theorem eX1_allSites_15 : decode cX1_allSites 15 = .ok (.getfield 24, 3) := by decide +kernel
theorem eX1_allSites_18 : decode cX1_allSites 18 = .ok (.iload_n 2, 1) := by decide +kernel
theorem eX1_allSites_19 : decode cX1_allSites 19 = .ok (.iaload, 1) := by decide +kernel
theorem eX1_allSites_20 : decode cX1_allSites 20 = .ok (.ishl, 1) := by decide +kernel
theorem eX1_allSites_21 : decode cX1_allSites 21 = .ok (.ior, 1) := by decide +kernel
theorem eX1_allSites_22 : decode cX1_allSites 22 = .ok (.istore_n 1, 1) := by decide +kernel
theorem eX1_allSites_23 : decode cX1_allSites 23 = .ok (.iinc 2 1, 3) := by decide +kernel
theorem eX1_allSites_26 : decode cX1_allSites 26 = .ok (.goto (-22), 3) := by decide +kernel
theorem eX1_allSites_29 : decode cX1_allSites 29 = .ok (.iload_n 1, 1) := by decide +kernel
theorem eX1_allSites_30 : decode cX1_allSites 30 = .ok (.ireturn, 1) := by decide +kernel
abbrev vs_E_1_allSites_16 : List Cond := .code yX1_allSites cX1_allSites 3 (some .int) :: CM
noncomputable def sp_E_1_allSites_16_L1 (gc : Nat) (q_fs1 : Nat → Nat) : (Int32 × Nat) → (Int32 × Nat) ⊕ (Int32) := fun (g_3, g_4) => (if gc ≤ g_4 then (Sum.inr g_3) else (slet (min (q_fs1 g_4) 7) (fun u_13 => (slet ((1 : Int32) <<< (((nI u_13) : Int32) &&& 31)) (fun y_14 => (slet ((g_3 : Int32) ||| (y_14 : Int32)) (fun y_15 => (Sum.inl (y_15, (g_4 + 1))))))))))
noncomputable def sp_E_1_allSites_16 (gc : Nat) (q_fs1 : Nat → Nat) : Int32 := (itrv (α := Int32 × Nat) (β := (Int32)) default (sp_E_1_allSites_16_L1 gc q_fs1) (0, 0))
set_option maxHeartbeats 4000000 in
set_option maxRecDepth 100000 in
theorem c_E_1_allSites_16 (l : Launch) (dC : Nat → ClassId) (dI : Nat → Nat → Nat) (sz : Nat) (g : Nat) (gz : Nat) (g1 : Nat) (g2 : Nat) (g3 : Nat) (g4 : Nat) (g5 : Nat) (gc : Nat) (gfull : Nat) (gx : Int32) (gway : Int32) (gav : Int32) (ggoal : Int32) (gfound : Nat) (gl : Nat) (gsz : Nat) (g16 : Nat) (g17 : Nat) (k_fgz : ClassId) (k_fs1 : ClassId) (q_fs1 : Nat → Nat) (k_fs2 : ClassId) (fs2 : Nat → Int32) (k_fs3 : ClassId) (fs3 : Nat → Int32) (k_fs4 : ClassId) (fs4 : Nat → Int32) (k_fs5 : ClassId) (fs5 : Nat → Int32) (k_fhi : ClassId) (fhi : Nat → Int32) (k_flo : ClassId) (flo : Nat → Int32) (N : Nat) (o : Nat) (az ac : Nat → Nat) (kz : Nat → ClassId) (qs : Nat → Nat) (fz : Nat → Nat → Int32) (hgc : gc ≤ 120) (hgfull : gfull ≤ 1) (hgfound : gfound ≤ 1) (hgl : gl ≤ 1) (hgsz : gsz ≤ 4) (hN : o + 121 ≤ N) : Met l yX1_allSites vs_E_1_allSites_16 ({ frames := 0, cells := 0, slots := 0, locals := 0 }) (va_Pc [.ref g] (pu_B (dC, dI) ((gs0__w g gz g1 g2 g3 g4 g5 (nI gc) (nI gfull) gx gway gav ggoal (nI gfound) 120 (nI gl) (nI gsz) g16 g17 k_fgz (zs o 121 az) k_fs1 (bN 7 q_fs1) k_fs2 fs2 k_fs3 fs3 k_fs4 fs4 k_fs5 fs5 k_fhi fhi k_flo flo) ++ zp 4 16 N az ac kz qs fz) ((gs0__t k_fgz k_fs1 k_fs2 k_fs3 k_fs4 k_fs5 k_fhi k_flo) ++ zt N kz) sz)) (va_Qi (fun (r : Int32) (_ : Unit) => r = (sp_E_1_allSites_16 gc q_fs1)) (fun _ _ => True) (va_A [] sz)) 0 0 (va_A [] sz) := by
  refine Met.ofW (cc := cX1_allSites) (maxL := 3) (ret := (some .int)) (by decide) rfl ?_
  intro p e s m args below meth c s₁ B hml hv
  obtain ⟨rfl, rfl, hP, hK, hD0⟩ := hv
  have hx := B.exec
  have hb := B.bytes
  have hr := B.returns
  have hts := atoms_spec (ws := vs_E_1_allSites_16) B.pre
  have v_1 := hts (.fieldLink RX1 79 "ClockReach$Graph" "count" "I") (List.mem_cons_of_mem _ cm_89)
  have v_2 := hts (.fieldLink RX1 24 "ClockReach$Graph" "sites" "[I") (List.mem_cons_of_mem _ cm_115)
  have hown : s.vm.findClass RX1 = some m.cls := findClass_of_methodNamed B.named
  have hlocks := B.notSynchronized
  have hiX1 : ∀ w ∈ wsX10, w ∈ vs_E_1_allSites_16 := fun _ h => List.mem_cons_of_mem _ (cm_X1 h)
  have hD := hD0
  have hA : ∀ q : Nat, s.heap.size ≤ q → va_A [] s.heap.size q := fun _ h => Or.inr h
  have hS : va_S (va_A [] s.heap.size) s.heap s.heap [] := va_S.rf
  have hl := lv_entry ([.ref g]) (n := 3) (Nat.le_of_ble_eq_true rfl)
  rw [lg_entry_eq]
  generalize (lg_sl ([.ref g]) ++ List.replicate (3 - (lg_sl ([.ref g])).length) Slot.unset).toArray = ls at hl ⊢
  have hl : lv_has ls 3 [(0, .ref g)] := hl
  obtain ⟨RR, hRR⟩ : ∃ x, x = (sp_E_1_allSites_16 gc q_fs1) := ⟨_, rfl⟩
  have hsp := hRR
  refine lv_iconst (v := 0) hx hb eX1_allSites_0 (by decide) ?_
  refine lv_istore_n (lv' := [(1, .int 0), (0, .ref g)]) hx hb eX1_allSites_1 rfl hl (by decide) rfl (fun ls hl => ?_)
  refine lv_iconst (v := 0) hx hb eX1_allSites_2 (by decide) ?_
  refine lv_istore_n (lv' := [(2, .int 0), (1, .int 0), (0, .ref g)]) hx hb eX1_allSites_3 rfl hl (by decide) rfl (fun ls hl => ?_)
  obtain ⟨lf_6, dlf_6, hlf_6, hsp⟩ := itr_ex hsp
  delta sp_E_1_allSites_16_L1 at hlf_6
  refine pu_while (fun nn H locs ls => ∃ (g_3 : Int32) (g_4 : Nat), nn = 120 - g_4 ∧ g_4 ≤ 120 ∧ RR = itrv dlf_6 lf_6 (g_3, g_4) ∧ va_P (dC, dI) vwCl ((gs0__w g gz g1 g2 g3 g4 g5 (nI gc) (nI gfull) gx gway gav ggoal (nI gfound) 120 (nI gl) (nI gsz) g16 g17 k_fgz (zs o 121 az) k_fs1 (bN 7 q_fs1) k_fs2 fs2 k_fs3 fs3 k_fs4 fs4 k_fs5 fs5 k_fhi fhi k_flo flo) ++ zp 4 16 N az ac kz qs fz) H ∧ va_D (fun _ => True) ((gs0__w g gz g1 g2 g3 g4 g5 (nI gc) (nI gfull) gx gway gav ggoal (nI gfound) 120 (nI gl) (nI gsz) g16 g17 k_fgz (zs o 121 az) k_fs1 (bN 7 q_fs1) k_fs2 fs2 k_fs3 fs3 k_fs4 fs4 k_fs5 fs5 k_fhi fhi k_flo flo) ++ zp 4 16 N az ac kz qs fz) ∧ va_S (va_A [] s.heap.size) s.heap H locs ∧ lv_has ls 3 [(0, .ref g), (1, .int g_3), (2, .int (nI g_4))]) 4 ?_ _ _ _ _ ⟨0, 0, rfl, (Nat.le_of_ble_eq_true rfl), hsp, hP, hD, hS, lv_sub hl [2, 1, 0] rfl⟩
  rintro nn ih_5 H locs ls ⟨g_3, g_4, rfl, hg_4, he_8, hP, hD, hS, hl⟩
  obtain ⟨S_7, hsp, hin_9, hout_10⟩ := itr_step hlf_6 he_8
  refine lv_iload_n hx hb eX1_allSites_4 rfl (lv_at hl 2 rfl) ?_
  refine lv_aload_n hx hb eX1_allSites_5 rfl (lv_at hl 0 rfl) ?_
  refine va_get (D := (dC, dI)) (ci := 1) (v := .int (nI gc)) (C := RX1) (T := TX1) (N := 18) hx hb hts hiX1 hown hK hP 0 rfl rfl 6 (by decide) v_1 (fun _ h9 => h9) rfl eX1_allSites_6 ?_
  refine lv_icmp_ge (tgt := 29) hx hb eX1_allSites_9 (by decide) (fun c_11 => ?_) (fun c_11 => ?_)
  · have c_11 : gc ≤ g_4 := (nI_leI (a := gc) (b := g_4) (Nat.lt_of_le_of_lt hgc (Nat.le_of_ble_eq_true rfl)) (Nat.lt_of_le_of_lt hg_4 (Nat.le_of_ble_eq_true rfl))).mp c_11
    have hsp := hsp.trans (if_pos c_11)
    have hsp := hout_10 _ hsp
    refine lv_iload_n hx hb eX1_allSites_29 rfl (lv_at hl 1 rfl) ?_
    exact W.iret (v := g_3) hx hb hr (fun t ht hW => ⟨⟨g_3, (), rfl, (hsp.symm.trans hRR), trivial⟩, hS.F ht⟩) hS.2.2 eX1_allSites_30
  · have c_11 : ¬ gc ≤ g_4 := fun z => c_11 ((nI_leI (a := gc) (b := g_4) (Nat.lt_of_le_of_lt hgc (Nat.le_of_ble_eq_true rfl)) (Nat.lt_of_le_of_lt hg_4 (Nat.le_of_ble_eq_true rfl))).mpr z)
    have hsp := hsp.trans (if_neg c_11)
    refine lv_iload_n hx hb eX1_allSites_12 rfl (lv_at hl 1 rfl) ?_
    refine lv_iconst (v := 1) hx hb eX1_allSites_13 (by decide) ?_
    refine lv_aload_n hx hb eX1_allSites_14 rfl (lv_at hl 0 rfl) ?_
    refine va_get (D := (dC, dI)) (ci := 1) (v := .ref g1) (C := RX1) (T := TX1) (N := 18) hx hb hts hiX1 hown hK hP 0 rfl rfl 1 (by decide) v_2 (fun _ h9 => h9) rfl eX1_allSites_15 ?_
    refine lv_iload_n hx hb eX1_allSites_18 rfl (lv_at hl 2 rfl) ?_
    refine va_iald hx hb hK hP 2 1 rfl rfl (vp_in_nI (n := g_4) (by omega) (Nat.le_of_ble_eq_true rfl)) eX1_allSites_19 ?_
    refine lv_topi (fun y_12 ey_12 => ?_)
    obtain ⟨u_13, hu_13, qu_13, xu_13⟩ := bN_getx 7 q_fs1 (n := g_4) (Nat.lt_of_le_of_lt hg_4 (Nat.le_of_ble_eq_true rfl))
    obtain rfl : y_12 = nI u_13 := ey_12.trans qu_13
    have hsp := hsp.trans (slet_eq xu_13)
    refine lv_ishl hx hb eX1_allSites_20 ?_
    refine lv_topi (fun y_14 ey_14 => ?_)
    have hsp := hsp.trans (slet_eq ey_14)
    refine lv_ior hx hb eX1_allSites_21 ?_
    refine lv_topi (fun y_15 ey_15 => ?_)
    have hsp := hsp.trans (slet_eq ey_15)
    refine lv_istore_n (lv' := [(1, .int y_15), (0, .ref g), (2, .int (nI g_4))]) hx hb eX1_allSites_22 rfl hl (by decide) rfl (fun ls hl => ?_)
    refine lv_iinc (v := (nI (g_4 + 1))) (lv' := [(2, .int (nI (g_4 + 1))), (1, .int y_15), (0, .ref g)]) hx hb eX1_allSites_23 hl (k := 2) rfl (nI_1 _) (by decide) rfl (fun ls hl => ?_)
    refine lv_goto (tgt := 4) hx hb eX1_allSites_26 (by decide) ?_
    exact ih_5 (120 - (g_4 + 1)) (by omega) _ _ _ ⟨y_15, (g_4 + 1), rfl, (by omega), hin_9 _ hsp, hP, hD, hS, lv_sub hl [2, 1, 0] rfl⟩
theorem eX1_loosestAt_0 : decode cX1_loosestAt 0 = .ok (.ldc 148, 2) := by decide +kernel
theorem eX1_loosestAt_2 : decode cX1_loosestAt 2 = .ok (.istore 4, 2) := by decide +kernel
theorem eX1_loosestAt_4 : decode cX1_loosestAt 4 = .ok (.iconst 0, 1) := by decide +kernel
theorem eX1_loosestAt_5 : decode cX1_loosestAt 5 = .ok (.istore 5, 2) := by decide +kernel
theorem eX1_loosestAt_7 : decode cX1_loosestAt 7 = .ok (.iload 5, 2) := by decide +kernel
theorem eX1_loosestAt_9 : decode cX1_loosestAt 9 = .ok (.aload_n 0, 1) := by decide +kernel
theorem eX1_loosestAt_10 : decode cX1_loosestAt 10 = .ok (.getfield 79, 3) := by decide +kernel
theorem eX1_loosestAt_13 : decode cX1_loosestAt 13 = .ok (.if_icmp .ge 39, 3) := by decide +kernel
theorem eX1_loosestAt_16 : decode cX1_loosestAt 16 = .ok (.aload_n 0, 1) := by decide +kernel
theorem eX1_loosestAt_17 : decode cX1_loosestAt 17 = .ok (.getfield 24, 3) := by decide +kernel
theorem eX1_loosestAt_20 : decode cX1_loosestAt 20 = .ok (.iload 5, 2) := by decide +kernel
theorem eX1_loosestAt_22 : decode cX1_loosestAt 22 = .ok (.iaload, 1) := by decide +kernel
theorem eX1_loosestAt_23 : decode cX1_loosestAt 23 = .ok (.iload_n 1, 1) := by decide +kernel
theorem eX1_loosestAt_24 : decode cX1_loosestAt 24 = .ok (.if_icmp .ne 22, 3) := by decide +kernel
theorem eX1_loosestAt_27 : decode cX1_loosestAt 27 = .ok (.iload 4, 2) := by decide +kernel
theorem eX1_loosestAt_29 : decode cX1_loosestAt 29 = .ok (.aload_n 0, 1) := by decide +kernel
theorem eX1_loosestAt_30 : decode cX1_loosestAt 30 = .ok (.getfield 17, 3) := by decide +kernel
theorem eX1_loosestAt_33 : decode cX1_loosestAt 33 = .ok (.iload 5, 2) := by decide +kernel
theorem eX1_loosestAt_35 : decode cX1_loosestAt 35 = .ok (.aaload, 1) := by decide +kernel
theorem eX1_loosestAt_36 : decode cX1_loosestAt 36 = .ok (.iload_n 2, 1) := by decide +kernel
theorem eX1_loosestAt_37 : decode cX1_loosestAt 37 = .ok (.iload_n 3, 1) := by decide +kernel
theorem eX1_loosestAt_38 : decode cX1_loosestAt 38 = .ok (.invokevirtual 149, 3) := by decide +kernel
theorem eX1_loosestAt_41 : decode cX1_loosestAt 41 = .ok (.invokestatic 153, 3) := by decide +kernel
theorem eX1_loosestAt_44 : decode cX1_loosestAt 44 = .ok (.istore 4, 2) := by decide +kernel
theorem eX1_loosestAt_46 : decode cX1_loosestAt 46 = .ok (.iinc 5 1, 3) := by decide +kernel
theorem eX1_loosestAt_49 : decode cX1_loosestAt 49 = .ok (.goto (-42), 3) := by decide +kernel
theorem eX1_loosestAt_52 : decode cX1_loosestAt 52 = .ok (.iload 4, 2) := by decide +kernel
theorem eX1_loosestAt_54 : decode cX1_loosestAt 54 = .ok (.ireturn, 1) := by decide +kernel
abbrev vs_E_1_loosestAt_16 : List Cond := .code yX1_loosestAt cX1_loosestAt 6 (some .int) :: CM
theorem g_E_1_loosestAt_16_E_7_cellOf_16 : GoodIn vs_E_1_loosestAt_16 (wsV RX1 149 RX7 yX7_cellOf vs_E_7_cellOf_16) := cm_gV cm_156 cm_157 cm_158 cm_45 cm_159
noncomputable def sp_E_1_loosestAt_16_L1 (gc : Nat) (q_fs1 : Nat → Nat) (o : Nat) (qs : Nat → Nat) (fz : Nat → Nat → Int32) (p0 : Int32) (a1 : Nat) (a2 : Nat) : (Int32 × Nat) → (Int32 × Nat) ⊕ (Int32) := fun (g_3, g_4) => (if gc ≤ g_4 then (Sum.inr g_3) else (slet (min (q_fs1 g_4) 7) (fun u_13 => (slet (α := Int32) (if ((nI u_13) : Int32) = p0 then (slet (sp_E_7_cellOf_16 (min (qs (o + g_4)) 4) (fz (o + g_4)) a1 a2) (fun r_19 => (slet (if (g_3 : Int32) < r_19 then r_19 else g_3) (fun y_20 => y_20)))) else g_3) (fun g_14 => (Sum.inl (g_14, (g_4 + 1))))))))
noncomputable def sp_E_1_loosestAt_16 (gc : Nat) (q_fs1 : Nat → Nat) (o : Nat) (qs : Nat → Nat) (fz : Nat → Nat → Int32) (p0 : Int32) (a1 : Nat) (a2 : Nat) : Int32 := (itrv (α := Int32 × Nat) (β := (Int32)) default (sp_E_1_loosestAt_16_L1 gc q_fs1 o qs fz p0 a1 a2) ((-2147483648), 0))
set_option maxHeartbeats 4000000 in
set_option maxRecDepth 100000 in
theorem c_E_1_loosestAt_16 (l : Launch) (dC : Nat → ClassId) (dI : Nat → Nat → Nat) (sz : Nat) (g : Nat) (gz : Nat) (g1 : Nat) (g2 : Nat) (g3 : Nat) (g4 : Nat) (g5 : Nat) (gc : Nat) (gfull : Nat) (gx : Int32) (gway : Int32) (gav : Int32) (ggoal : Int32) (gfound : Nat) (gl : Nat) (gsz : Nat) (g16 : Nat) (g17 : Nat) (k_fgz : ClassId) (k_fs1 : ClassId) (q_fs1 : Nat → Nat) (k_fs2 : ClassId) (fs2 : Nat → Int32) (k_fs3 : ClassId) (fs3 : Nat → Int32) (k_fs4 : ClassId) (fs4 : Nat → Int32) (k_fs5 : ClassId) (fs5 : Nat → Int32) (k_fhi : ClassId) (fhi : Nat → Int32) (k_flo : ClassId) (flo : Nat → Int32) (N : Nat) (o : Nat) (az ac : Nat → Nat) (kz : Nat → ClassId) (qs : Nat → Nat) (fz : Nat → Nat → Int32) (p0 : Int32) (a1 : Nat) (a2 : Nat) (hgc : gc ≤ 120) (hgfull : gfull ≤ 1) (hgfound : gfound ≤ 1) (hgl : gl ≤ 1) (hgsz : gsz ≤ 4) (hN : o + 121 ≤ N) (ha1 : a1 ≤ 3) (ha2 : a2 ≤ 3) : Met l yX1_loosestAt vs_E_1_loosestAt_16 ({ frames := 1, cells := 0, slots := 0, locals := 22 }) (va_Pc [.ref g, .int p0, .int (nI a1), .int (nI a2)] (pu_B (dC, dI) ((gs0__w g gz g1 g2 g3 g4 g5 (nI gc) (nI gfull) gx gway gav ggoal (nI gfound) 120 (nI gl) (nI gsz) g16 g17 k_fgz (zs o 121 az) k_fs1 (bN 7 q_fs1) k_fs2 fs2 k_fs3 fs3 k_fs4 fs4 k_fs5 fs5 k_fhi fhi k_flo flo) ++ zp 4 16 N az ac kz qs fz) ((gs0__t k_fgz k_fs1 k_fs2 k_fs3 k_fs4 k_fs5 k_fhi k_flo) ++ zt N kz) sz)) (va_Qi (fun (r : Int32) (_ : Unit) => r = (sp_E_1_loosestAt_16 gc q_fs1 o qs fz p0 a1 a2)) (fun _ _ => True) (va_A [] sz)) 0 0 (va_A [] sz) := by
  refine Met.ofW (cc := cX1_loosestAt) (maxL := 6) (ret := (some .int)) (by decide) rfl ?_
  intro p e s m args below meth c s₁ B hml hv
  obtain ⟨rfl, rfl, hP, hK, hD0⟩ := hv
  have hx := B.exec
  have hb := B.bytes
  have hr := B.returns
  have hts := atoms_spec (ws := vs_E_1_loosestAt_16) B.pre
  have v_1 := hts (.constant RX1 148 (-2147483648)) (List.mem_cons_of_mem _ cm_154)
  have v_2 := hts (.fieldLink RX1 79 "ClockReach$Graph" "count" "I") (List.mem_cons_of_mem _ cm_89)
  have v_3 := hts (.fieldLink RX1 24 "ClockReach$Graph" "sites" "[I") (List.mem_cons_of_mem _ cm_115)
  have v_4 := hts (.fieldLink RX1 17 "ClockReach$Graph" "zones" "[LClockReach$Zone;") (List.mem_cons_of_mem _ cm_92)
  have v_10 := hts (.methodLink RX1 153 Lib.Math.max.name) (List.mem_cons_of_mem _ cm_155)
  have v_11 := hts (.static Lib.Math.max.name) (List.mem_cons_of_mem _ cm_36)
  have v_12 := hts (.initialized "java/lang/Math") (List.mem_cons_of_mem _ cm_37)
  have v_13 := hts (.code Lib.Math.max.name Lib.Math.max.code 2 (some .int)) (List.mem_cons_of_mem _ cm_38)
  have hown : s.vm.findClass RX1 = some m.cls := findClass_of_methodNamed B.named
  have hlocks := B.notSynchronized
  have hiX1 : ∀ w ∈ wsX10, w ∈ vs_E_1_loosestAt_16 := fun _ h => List.mem_cons_of_mem _ (cm_X1 h)
  have hD := hD0
  have hA : ∀ q : Nat, s.heap.size ≤ q → va_A [] s.heap.size q := fun _ h => Or.inr h
  have hS : va_S (va_A [] s.heap.size) s.heap s.heap [] := va_S.rf
  have hl := lv_entry ([.ref g, .int p0, .int (nI a1), .int (nI a2)]) (n := 6) (Nat.le_of_ble_eq_true rfl)
  rw [lg_entry_eq]
  generalize (lg_sl ([.ref g, .int p0, .int (nI a1), .int (nI a2)]) ++ List.replicate (6 - (lg_sl ([.ref g, .int p0, .int (nI a1), .int (nI a2)])).length) Slot.unset).toArray = ls at hl ⊢
  have hl : lv_has ls 6 [(0, .ref g), (1, .int p0), (2, .int (nI a1)), (3, .int (nI a2))] := hl
  obtain ⟨RR, hRR⟩ : ∃ x, x = (sp_E_1_loosestAt_16 gc q_fs1 o qs fz p0 a1 a2) := ⟨_, rfl⟩
  have hsp := hRR
  refine lv_ldc hx hb hown v_1 eX1_loosestAt_0 ?_
  refine lv_istore (lv' := [(4, .int (-2147483648)), (0, .ref g), (1, .int p0), (2, .int (nI a1)), (3, .int (nI a2))]) hx hb eX1_loosestAt_2 hl (by decide) rfl (fun ls hl => ?_)
  refine lv_iconst (v := 0) hx hb eX1_loosestAt_4 (by decide) ?_
  refine lv_istore (lv' := [(5, .int 0), (4, .int (-2147483648)), (0, .ref g), (1, .int p0), (2, .int (nI a1)), (3, .int (nI a2))]) hx hb eX1_loosestAt_5 hl (by decide) rfl (fun ls hl => ?_)
  obtain ⟨lf_6, dlf_6, hlf_6, hsp⟩ := itr_ex hsp
  delta sp_E_1_loosestAt_16_L1 at hlf_6
  refine pu_while (fun nn H locs ls => ∃ (g_3 : Int32) (g_4 : Nat), nn = 120 - g_4 ∧ g_4 ≤ 120 ∧ RR = itrv dlf_6 lf_6 (g_3, g_4) ∧ va_P (dC, dI) vwCl ((gs0__w g gz g1 g2 g3 g4 g5 (nI gc) (nI gfull) gx gway gav ggoal (nI gfound) 120 (nI gl) (nI gsz) g16 g17 k_fgz (zs o 121 az) k_fs1 (bN 7 q_fs1) k_fs2 fs2 k_fs3 fs3 k_fs4 fs4 k_fs5 fs5 k_fhi fhi k_flo flo) ++ zp 4 16 N az ac kz qs fz) H ∧ va_D (fun _ => True) ((gs0__w g gz g1 g2 g3 g4 g5 (nI gc) (nI gfull) gx gway gav ggoal (nI gfound) 120 (nI gl) (nI gsz) g16 g17 k_fgz (zs o 121 az) k_fs1 (bN 7 q_fs1) k_fs2 fs2 k_fs3 fs3 k_fs4 fs4 k_fs5 fs5 k_fhi fhi k_flo flo) ++ zp 4 16 N az ac kz qs fz) ∧ va_S (va_A [] s.heap.size) s.heap H locs ∧ lv_has ls 6 [(0, .ref g), (1, .int p0), (2, .int (nI a1)), (3, .int (nI a2)), (4, .int g_3), (5, .int (nI g_4))]) 7 ?_ _ _ _ _ ⟨(-2147483648), 0, rfl, (Nat.le_of_ble_eq_true rfl), hsp, hP, hD, hS, lv_sub hl [2, 3, 4, 5, 1, 0] rfl⟩
  rintro nn ih_5 H locs ls ⟨g_3, g_4, rfl, hg_4, he_8, hP, hD, hS, hl⟩
  obtain ⟨S_7, hsp, hin_9, hout_10⟩ := itr_step hlf_6 he_8
  refine lv_iload hx hb eX1_loosestAt_7 (lv_at hl 5 rfl) ?_
  refine lv_aload_n hx hb eX1_loosestAt_9 rfl (lv_at hl 0 rfl) ?_
  refine va_get (D := (dC, dI)) (ci := 1) (v := .int (nI gc)) (C := RX1) (T := TX1) (N := 18) hx hb hts hiX1 hown hK hP 0 rfl rfl 6 (by decide) v_2 (fun _ h9 => h9) rfl eX1_loosestAt_10 ?_
  refine lv_icmp_ge (tgt := 52) hx hb eX1_loosestAt_13 (by decide) (fun c_11 => ?_) (fun c_11 => ?_)
  · have c_11 : gc ≤ g_4 := (nI_leI (a := gc) (b := g_4) (Nat.lt_of_le_of_lt hgc (Nat.le_of_ble_eq_true rfl)) (Nat.lt_of_le_of_lt hg_4 (Nat.le_of_ble_eq_true rfl))).mp c_11
    have hsp := hsp.trans (if_pos c_11)
    have hsp := hout_10 _ hsp
    refine lv_iload hx hb eX1_loosestAt_52 (lv_at hl 4 rfl) ?_
    exact W.iret (v := g_3) hx hb hr (fun t ht hW => ⟨⟨g_3, (), rfl, (hsp.symm.trans hRR), trivial⟩, hS.F ht⟩) hS.2.2 eX1_loosestAt_54
  · have c_11 : ¬ gc ≤ g_4 := fun z => c_11 ((nI_leI (a := gc) (b := g_4) (Nat.lt_of_le_of_lt hgc (Nat.le_of_ble_eq_true rfl)) (Nat.lt_of_le_of_lt hg_4 (Nat.le_of_ble_eq_true rfl))).mpr z)
    have hsp := hsp.trans (if_neg c_11)
    refine lv_aload_n hx hb eX1_loosestAt_16 rfl (lv_at hl 0 rfl) ?_
    refine va_get (D := (dC, dI)) (ci := 1) (v := .ref g1) (C := RX1) (T := TX1) (N := 18) hx hb hts hiX1 hown hK hP 0 rfl rfl 1 (by decide) v_3 (fun _ h9 => h9) rfl eX1_loosestAt_17 ?_
    refine lv_iload hx hb eX1_loosestAt_20 (lv_at hl 5 rfl) ?_
    refine va_iald hx hb hK hP 2 1 rfl rfl (vp_in_nI (n := g_4) (by omega) (Nat.le_of_ble_eq_true rfl)) eX1_loosestAt_22 ?_
    refine lv_topi (fun y_12 ey_12 => ?_)
    obtain ⟨u_13, hu_13, qu_13, xu_13⟩ := bN_getx 7 q_fs1 (n := g_4) (Nat.lt_of_le_of_lt hg_4 (Nat.le_of_ble_eq_true rfl))
    obtain rfl : y_12 = nI u_13 := ey_12.trans qu_13
    have hsp := hsp.trans (slet_eq xu_13)
    refine lv_iload_n hx hb eX1_loosestAt_23 rfl (lv_at hl 1 rfl) ?_
    obtain ⟨JR_16, hJR_16, hsp⟩ := slet_ex hsp
    refine pu_join (fun H locs ls st => ∃ (g_14 : Int32), st = [] ∧ g_14 = JR_16 ∧ va_P (dC, dI) vwCl ((gs0__w g gz g1 g2 g3 g4 g5 (nI gc) (nI gfull) gx gway gav ggoal (nI gfound) 120 (nI gl) (nI gsz) g16 g17 k_fgz (zs o 121 az) k_fs1 (bN 7 q_fs1) k_fs2 fs2 k_fs3 fs3 k_fs4 fs4 k_fs5 fs5 k_fhi fhi k_flo flo) ++ zp 4 16 N az ac kz qs fz) H ∧ va_D (fun _ => True) ((gs0__w g gz g1 g2 g3 g4 g5 (nI gc) (nI gfull) gx gway gav ggoal (nI gfound) 120 (nI gl) (nI gsz) g16 g17 k_fgz (zs o 121 az) k_fs1 (bN 7 q_fs1) k_fs2 fs2 k_fs3 fs3 k_fs4 fs4 k_fs5 fs5 k_fhi fhi k_flo flo) ++ zp 4 16 N az ac kz qs fz) ∧ va_S (va_A [] s.heap.size) s.heap H locs ∧ lv_has ls 6 [(0, .ref g), (1, .int p0), (2, .int (nI a1)), (3, .int (nI a2)), (4, .int g_14), (5, .int (nI g_4))]) 46 ?_ (fun j_15 => ?_)
    · rintro H locs ls st ⟨g_14, rfl, he_17, hP, hD, hS, hl⟩
      rw [← he_17] at hsp
      refine lv_iinc (v := (nI (g_4 + 1))) (lv' := [(5, .int (nI (g_4 + 1))), (0, .ref g), (1, .int p0), (2, .int (nI a1)), (3, .int (nI a2)), (4, .int g_14)]) hx hb eX1_loosestAt_46 hl (k := 5) rfl (nI_1 _) (by decide) rfl (fun ls hl => ?_)
      refine lv_goto (tgt := 7) hx hb eX1_loosestAt_49 (by decide) ?_
      exact ih_5 (120 - (g_4 + 1)) (by omega) _ _ _ ⟨g_14, (g_4 + 1), rfl, (by omega), hin_9 _ hsp, hP, hD, hS, lv_sub hl [1, 2, 3, 4, 5, 0] rfl⟩
    have hsp := hJR_16
    refine lv_icmp_ne (tgt := 46) hx hb eX1_loosestAt_24 (by decide) (fun c_18 => ?_) (fun c_18 => ?_)
    · have hcc_18 := c_18
      have hsp := hsp.trans (if_neg c_18)
      exact j_15 _ _ _ _ ⟨g_3, rfl, hsp.symm, hP, hD, hS, lv_sub hl [0, 1, 2, 3, 4, 5] rfl⟩
    · have hcc_18 := c_18
      have hsp := hsp.trans (if_pos c_18)
      refine lv_iload hx hb eX1_loosestAt_27 (lv_at hl 4 rfl) ?_
      refine lv_aload_n hx hb eX1_loosestAt_29 rfl (lv_at hl 0 rfl) ?_
      refine va_get (D := (dC, dI)) (ci := 1) (v := .ref gz) (C := RX1) (T := TX1) (N := 18) hx hb hts hiX1 hown hK hP 0 rfl rfl 0 (by decide) v_4 (fun _ h9 => h9) rfl eX1_loosestAt_30 ?_
      refine lv_iload hx hb eX1_loosestAt_33 (lv_at hl 5 rfl) ?_
      refine va_aldq hx hb hK hP 1 0 rfl rfl (vp_in_nI (n := g_4) (Nat.lt_of_le_of_lt hg_4 (Nat.le_of_ble_eq_true rfl)) (Nat.le_of_ble_eq_true rfl)) eX1_loosestAt_35 ?_
      refine W.eq (g2 := F0 m 36 ls [.ref (az (o + g_4)), .int g_3]) (by rw [zs_get (Nat.lt_of_le_of_lt hg_4 (Nat.le_of_ble_eq_true rfl)) (by omega)]) ?_
      refine lv_iload_n hx hb eX1_loosestAt_36 rfl (lv_at hl 2 rfl) ?_
      refine lv_iload_n hx hb eX1_loosestAt_37 rfl (lv_at hl 3 rfl) ?_
      have hPz := zp_cut (k := (o + g_4)) hP (by omega)
      have hPc : va_P (dC, dI) vwCl ([] ++ [(az (o + g_4), .inr (7, [.ref (ac (o + g_4)), .int (nI (min (qs (o + g_4)) 4))])), (ac (o + g_4), .inl (kz (o + g_4), 16, .inl (fz (o + g_4))))]) _ := va_P.app (hP.sub [] rfl) hPz
      have hDc : va_D (fun _ => True) ([] ++ [(az (o + g_4), .inr (7, [.ref (ac (o + g_4)), .int (nI (min (qs (o + g_4)) 4))])), (ac (o + g_4), .inl (kz (o + g_4), 16, .inl (fz (o + g_4))))]) := zp_cutD hD (by omega) [] (by decide) rfl
      have hKc : va_K (dC, dI) vwCl ([] ++ [(kz (o + g_4), .int)]) s := zp_K hK (by omega) [] rfl
      refine va_calli (va_runV (As := [.int (nI a1), .int (nI a2)]) (rest := [.int g_3]) ⟨hx, hb, hml, hown, hts⟩ (c_E_7_cellOf_16 l dC dI _ (az (o + g_4)) (ac (o + g_4)) (min (qs (o + g_4)) 4) (kz (o + g_4)) (fz (o + g_4)) a1 a2 (Nat.min_le_right _ _) ha1 ha2) (cwV 2 hts g_E_1_loosestAt_16_E_7_cellOf_16 rfl rfl rfl (by decide +kernel) ⟨Nat.le_of_ble_eq_true rfl, Nat.le_of_ble_eq_true rfl⟩) ⟨pu_bl, va_recv hK hPz (ci := 7) (q0 := 0) rfl rfl, pu_in hPc hKc hDc⟩ rfl rfl hl.1 rfl (lv_room (Nat.le_of_ble_eq_true rfl)) eX1_loosestAt_38 ⟨Nat.le_of_ble_eq_true rfl, Nat.le_of_ble_eq_true rfl⟩) hS (fun q _ h => pu_fr hS hA q h) (pu_fr hS hA) (fun r_19 u t H1 locs ht hvm hw hB hz1 hk1 hS => ?_)
      have hP := pu_keep hP hk1
      clear hPc hDc hKc
      clear hk1 hz1 ht hvm
      generalize H1 = H at hP hS ⊢
      have ir_19 := hw
      have hsp := hsp.trans (slet_eq ir_19)
      refine va_mmax hx hb (hml.trans hl.1.symm) hown v_10 v_11 v_12 v_13 (Nat.le_of_ble_eq_true rfl) (Nat.le_of_ble_eq_true rfl) (Nat.le_of_ble_eq_true rfl) (Nat.le_of_ble_eq_true rfl) eX1_loosestAt_41 ?_
      refine lv_topi (fun y_20 ey_20 => ?_)
      have hsp := hsp.trans (slet_eq ey_20)
      refine lv_istore (lv' := [(4, .int y_20), (0, .ref g), (1, .int p0), (2, .int (nI a1)), (3, .int (nI a2)), (5, .int (nI g_4))]) hx hb eX1_loosestAt_44 hl (by decide) rfl (fun ls hl => ?_)
      exact j_15 _ _ _ _ ⟨y_20, rfl, hsp.symm, hP, hD, hS, lv_sub hl [1, 2, 3, 4, 0, 5] rfl⟩
abbrev vs_E_1_plan_25 : List Cond := .code yX1_plan cX1_plan 6 none :: CM
noncomputable def sp_E_1_plan_25_L1 (p1 : Int32) (a2 : Nat) (a3 : Nat) : ((Nat → Int32) × (Nat → Int32) × Nat) → ((Nat → Int32) × (Nat → Int32) × Nat) ⊕ ((Nat → Int32) × (Nat → Int32) × Int32 × Int32 × Nat × Nat × Nat × Int32) := fun (g_18, g_19, g_20) => (if a3 ≤ g_20 then (Sum.inr (g_18, g_19, (-1), (-1), 0, a2, a3, p1)) else (slet (upd g_18 g_20 0) (fun f_28 => (slet (upd g_19 g_20 60) (fun f_29 => (Sum.inl (f_28, f_29, (g_20 + 1))))))))
noncomputable def sp_E_1_plan_25_L2 (nc : Nat) (f14 : Nat → Int32) (f15 : Nat → Int32) (f16 : Nat → Int32) (p1 : Int32) (a2 : Nat) (a3 : Nat) : ((Nat → Int32) × (Nat → Int32) × Nat) → ((Nat → Int32) × (Nat → Int32) × Nat) ⊕ ((Nat → Int32) × (Nat → Int32) × Int32 × Int32 × Nat × Nat × Nat × Int32) := fun (g_4, g_5, g_6) => (if nc < g_6 then (Sum.inr (itrv (α := (Nat → Int32) × (Nat → Int32) × Nat) (β := ((Nat → Int32) × (Nat → Int32) × Int32 × Int32 × Nat × Nat × Nat × Int32)) default (sp_E_1_plan_25_L1 p1 a2 a3) (g_4, g_5, (nc + 1)))) else (slet (α := Int32) (if (p1 : Int32) = 1 then (slet (f14 g_6) (fun y_45 => y_45)) else (slet (f15 g_6) (fun y_44 => y_44))) (fun g_30 => (slet (upd g_4 g_6 g_30) (fun f_34 => (slet (α := Int32) (if (p1 : Int32) = 1 then (slet (f14 g_6) (fun y_42 => y_42)) else (slet (f16 g_6) (fun y_41 => y_41))) (fun g_35 => (slet (upd g_5 g_6 g_35) (fun f_39 => (Sum.inl (f_34, f_39, (g_6 + 1))))))))))))
noncomputable def sp_E_1_plan_25 (fhi : Nat → Int32) (flo : Nat → Int32) (nc : Nat) (f14 : Nat → Int32) (f15 : Nat → Int32) (f16 : Nat → Int32) (p1 : Int32) (a2 : Nat) (a3 : Nat) : (Nat → Int32) × (Nat → Int32) × Int32 × Int32 × Nat × Nat × Nat × Int32 := (itrv (α := (Nat → Int32) × (Nat → Int32) × Nat) (β := ((Nat → Int32) × (Nat → Int32) × Int32 × Int32 × Nat × Nat × Nat × Int32)) default (sp_E_1_plan_25_L2 nc f14 f15 f16 p1 a2 a3) (fhi, flo, 0))
set_option maxHeartbeats 4000000 in
set_option maxRecDepth 100000 in
theorem c_E_1_plan_25 (l : Launch) (dC : Nat → ClassId) (dI : Nat → Nat → Nat) (sz : Nat) (g : Nat) (gz : Nat) (g1 : Nat) (g2 : Nat) (g3 : Nat) (g4 : Nat) (g5 : Nat) (gc : Nat) (gfull : Nat) (gx : Int32) (gway : Int32) (gav : Int32) (ggoal : Int32) (gfound : Nat) (gl : Nat) (gsz : Nat) (g16 : Nat) (g17 : Nat) (k_fgz : ClassId) (k_fs1 : ClassId) (q_fs1 : Nat → Nat) (k_fs2 : ClassId) (fs2 : Nat → Int32) (k_fs3 : ClassId) (fs3 : Nat → Int32) (k_fs4 : ClassId) (fs4 : Nat → Int32) (k_fs5 : ClassId) (fs5 : Nat → Int32) (k_fhi : ClassId) (fhi : Nat → Int32) (k_flo : ClassId) (flo : Nat → Int32) (au : Nat) (nc : Nat) (np : Nat) (ne : Nat) (st0 : Int32) (q4 : Nat) (q5 : Nat) (q6 : Nat) (q7 : Nat) (q8 : Nat) (q9 : Nat) (q10 : Nat) (q11 : Nat) (q12 : Nat) (q13 : Nat) (q14 : Nat) (q15 : Nat) (q16 : Nat) (k_f4 : ClassId) (f4 : Nat → Int32) (k_f5 : ClassId) (q_f5 : Nat → Nat) (k_f6 : ClassId) (q_f6 : Nat → Nat) (k_f7 : ClassId) (f7 : Nat → Int32) (k_f8 : ClassId) (q_f8 : Nat → Nat) (k_f9 : ClassId) (q_f9 : Nat → Nat) (k_f10 : ClassId) (f10 : Nat → Int32) (k_f11 : ClassId) (f11 : Nat → Int32) (k_f12 : ClassId) (f12 : Nat → Int32) (k_f13 : ClassId) (f13 : Nat → Int32) (k_f14 : ClassId) (f14 : Nat → Int32) (k_f15 : ClassId) (f15 : Nat → Int32) (k_f16 : ClassId) (f16 : Nat → Int32) (N : Nat) (o : Nat) (az ac : Nat → Nat) (kz : Nat → ClassId) (qs : Nat → Nat) (fz : Nat → Nat → Int32) (p1 : Int32) (a2 : Nat) (a3 : Nat) (hgc : gc ≤ 400) (hgfull : gfull ≤ 1) (hgfound : gfound ≤ 1) (hgl : gl ≤ 1) (hgsz : gsz ≤ 5) (hnc : nc ≤ 3) (hnp : np ≤ 8) (hne : ne ≤ 14) (hst0 : pm1 7 st0) (hN : o + 401 ≤ N) (ha2 : a2 ≤ 1) (ha3 : a3 ≤ 5) : Met l yX1_plan vs_E_1_plan_25 ({ frames := 0, cells := 0, slots := 0, locals := 0 }) (va_Pc [.ref g, .ref au, .int p1, .int (nI a2), .int (nI a3)] (pu_B (dC, dI) ((gt1__w g gz g1 g2 g3 g4 g5 (nI gc) (nI gfull) gx gway gav ggoal (nI gfound) 400 (nI gl) (nI gsz) g16 g17 k_fgz (zs o 401 az) k_fs1 (bN 7 q_fs1) k_fs2 fs2 k_fs3 fs3 k_fs4 fs4 k_fs5 fs5 k_fhi fhi k_flo flo au (nI nc) (nI np) (nI ne) st0 q4 q5 q6 q7 q8 q9 q10 q11 q12 q13 q14 q15 q16 k_f4 f4 k_f5 (bN 7 q_f5) k_f6 (bN 7 q_f6) k_f7 f7 k_f8 (bN 4 q_f8) k_f9 (bN 2 q_f9) k_f10 f10 k_f11 f11 k_f12 f12 k_f13 f13 k_f14 f14 k_f15 f15 k_f16 f16) ++ zp 5 25 N az ac kz qs fz) ((gt1__t k_fgz k_fs1 k_fs2 k_fs3 k_fs4 k_fs5 k_fhi k_flo k_f4 k_f5 k_f6 k_f7 k_f8 k_f9 k_f10 k_f11 k_f12 k_f13 k_f14 k_f15 k_f16) ++ zt N kz) sz)) (va_Qv (fun (_ : Unit) => True) (fun _ t => ∃ (z_fhi : Nat → Int32) (z_flo : Nat → Int32) (z_gav : Int32) (z_ggoal : Int32) (z_gfound : Nat) (z_gl : Nat) (z_gsz : Nat) (z_gway : Int32), pu_E (dC, dI) ((gt1__w g gz g1 g2 g3 g4 g5 (nI gc) (nI gfull) gx z_gway z_gav z_ggoal (nI z_gfound) 400 (nI z_gl) (nI z_gsz) g16 g17 k_fgz (zs o 401 az) k_fs1 (bN 7 q_fs1) k_fs2 fs2 k_fs3 fs3 k_fs4 fs4 k_fs5 fs5 k_fhi z_fhi k_flo z_flo au (nI nc) (nI np) (nI ne) st0 q4 q5 q6 q7 q8 q9 q10 q11 q12 q13 q14 q15 q16 k_f4 f4 k_f5 (bN 7 q_f5) k_f6 (bN 7 q_f6) k_f7 f7 k_f8 (bN 4 q_f8) k_f9 (bN 2 q_f9) k_f10 f10 k_f11 f11 k_f12 f12 k_f13 f13 k_f14 f14 k_f15 f15 k_f16 f16) ++ zp 5 25 N az ac kz qs fz) ((gt1__t k_fgz k_fs1 k_fs2 k_fs3 k_fs4 k_fs5 k_fhi k_flo k_f4 k_f5 k_f6 k_f7 k_f8 k_f9 k_f10 k_f11 k_f12 k_f13 k_f14 k_f15 k_f16) ++ zt N kz) (va_A (((gt1__w g gz g1 g2 g3 g4 g5 (nI gc) (nI gfull) gx gway gav ggoal (nI gfound) 400 (nI gl) (nI gsz) g16 g17 k_fgz (zs o 401 az) k_fs1 (bN 7 q_fs1) k_fs2 fs2 k_fs3 fs3 k_fs4 fs4 k_fs5 fs5 k_fhi fhi k_flo flo au (nI nc) (nI np) (nI ne) st0 q4 q5 q6 q7 q8 q9 q10 q11 q12 q13 q14 q15 q16 k_f4 f4 k_f5 (bN 7 q_f5) k_f6 (bN 7 q_f6) k_f7 f7 k_f8 (bN 4 q_f8) k_f9 (bN 2 q_f9) k_f10 f10 k_f11 f11 k_f12 f12 k_f13 f13 k_f14 f14 k_f15 f15 k_f16 f16) ++ zp 5 25 N az ac kz qs fz)) sz) t ∧ (z_gfound ≤ 1) ∧ (z_gl ≤ 1) ∧ (z_gsz ≤ 5) ∧ ((z_fhi, z_flo, z_gav, z_ggoal, z_gfound, z_gl, z_gsz, z_gway) = (sp_E_1_plan_25 fhi flo nc f14 f15 f16 p1 a2 a3))) (va_A (((gt1__w g gz g1 g2 g3 g4 g5 (nI gc) (nI gfull) gx gway gav ggoal (nI gfound) 400 (nI gl) (nI gsz) g16 g17 k_fgz (zs o 401 az) k_fs1 (bN 7 q_fs1) k_fs2 fs2 k_fs3 fs3 k_fs4 fs4 k_fs5 fs5 k_fhi fhi k_flo flo au (nI nc) (nI np) (nI ne) st0 q4 q5 q6 q7 q8 q9 q10 q11 q12 q13 q14 q15 q16 k_f4 f4 k_f5 (bN 7 q_f5) k_f6 (bN 7 q_f6) k_f7 f7 k_f8 (bN 4 q_f8) k_f9 (bN 2 q_f9) k_f10 f10 k_f11 f11 k_f12 f12 k_f13 f13 k_f14 f14 k_f15 f15 k_f16 f16) ++ zp 5 25 N az ac kz qs fz)) sz)) 0 0 (va_A (((gt1__w g gz g1 g2 g3 g4 g5 (nI gc) (nI gfull) gx gway gav ggoal (nI gfound) 400 (nI gl) (nI gsz) g16 g17 k_fgz (zs o 401 az) k_fs1 (bN 7 q_fs1) k_fs2 fs2 k_fs3 fs3 k_fs4 fs4 k_fs5 fs5 k_fhi fhi k_flo flo au (nI nc) (nI np) (nI ne) st0 q4 q5 q6 q7 q8 q9 q10 q11 q12 q13 q14 q15 q16 k_f4 f4 k_f5 (bN 7 q_f5) k_f6 (bN 7 q_f6) k_f7 f7 k_f8 (bN 4 q_f8) k_f9 (bN 2 q_f9) k_f10 f10 k_f11 f11 k_f12 f12 k_f13 f13 k_f14 f14 k_f15 f15 k_f16 f16) ++ zp 5 25 N az ac kz qs fz)) sz) := by
  refine Met.ofW (cc := cX1_plan) (maxL := 6) (ret := none) (by decide) rfl ?_
  intro p e s m args below meth c s₁ B hml hv
  obtain ⟨rfl, rfl, hP, hK, hD0⟩ := hv
  have hx := B.exec
  have hb := B.bytes
  have hr := B.returns
  have hts := atoms_spec (ws := vs_E_1_plan_25) B.pre
  have v_1 := hts (.fieldLink RX1 46 "ClockReach$Graph" "way" "I") (List.mem_cons_of_mem _ cm_76)
  have v_2 := hts (.fieldLink RX1 49 "ClockReach$Graph" "leaves" "Z") (List.mem_cons_of_mem _ cm_77)
  have v_3 := hts (.fieldLink RX1 53 "ClockReach$Graph" "size" "I") (List.mem_cons_of_mem _ cm_78)
  have v_4 := hts (.fieldLink RX1 56 "ClockReach$Graph" "avoided" "I") (List.mem_cons_of_mem _ cm_79)
  have v_5 := hts (.fieldLink RX1 59 "ClockReach$Graph" "goal" "I") (List.mem_cons_of_mem _ cm_80)
  have v_6 := hts (.fieldLink RX1 62 "ClockReach$Graph" "found" "Z") (List.mem_cons_of_mem _ cm_81)
  have v_7 := hts (.fieldLink RX1 65 "ClockReach$Automaton" "clocks" "I") (List.mem_cons_of_mem _ cm_82)
  have v_8 := hts (.fieldLink RX1 40 "ClockReach$Graph" "high" "[I") (List.mem_cons_of_mem _ cm_83)
  have v_9 := hts (.fieldLink RX1 73 "ClockReach$Automaton" "lower" "[I") (List.mem_cons_of_mem _ cm_85)
  have v_10 := hts (.fieldLink RX1 70 "ClockReach$Automaton" "greatest" "[I") (List.mem_cons_of_mem _ cm_84)
  have v_11 := hts (.fieldLink RX1 43 "ClockReach$Graph" "low" "[I") (List.mem_cons_of_mem _ cm_86)
  have v_12 := hts (.fieldLink RX1 76 "ClockReach$Automaton" "upper" "[I") (List.mem_cons_of_mem _ cm_87)
  have hown : s.vm.findClass RX1 = some m.cls := findClass_of_methodNamed B.named
  have hlocks := B.notSynchronized
  have hiX0 : ∀ w ∈ wsX00, w ∈ vs_E_1_plan_25 := fun _ h => List.mem_cons_of_mem _ (cm_X0 h)
  have hiX1 : ∀ w ∈ wsX10, w ∈ vs_E_1_plan_25 := fun _ h => List.mem_cons_of_mem _ (cm_X1 h)
  have hD := hD0.self (sz := s.heap.size)
  generalize hAe : va_A (((gt1__w g gz g1 g2 g3 g4 g5 (nI gc) (nI gfull) gx gway gav ggoal (nI gfound) 400 (nI gl) (nI gsz) g16 g17 k_fgz (zs o 401 az) k_fs1 (bN 7 q_fs1) k_fs2 fs2 k_fs3 fs3 k_fs4 fs4 k_fs5 fs5 k_fhi fhi k_flo flo au (nI nc) (nI np) (nI ne) st0 q4 q5 q6 q7 q8 q9 q10 q11 q12 q13 q14 q15 q16 k_f4 f4 k_f5 (bN 7 q_f5) k_f6 (bN 7 q_f6) k_f7 f7 k_f8 (bN 4 q_f8) k_f9 (bN 2 q_f9) k_f10 f10 k_f11 f11 k_f12 f12 k_f13 f13 k_f14 f14 k_f15 f15 k_f16 f16) ++ zp 5 25 N az ac kz qs fz)) s.heap.size = A at hD ⊢
  have hA : ∀ q : Nat, s.heap.size ≤ q → A q := fun q h => by rw [← hAe]; exact Or.inr h
  have hS : va_S A s.heap s.heap [] := va_S.rf
  have hl := lv_entry ([.ref g, .ref au, .int p1, .int (nI a2), .int (nI a3)]) (n := 6) (Nat.le_of_ble_eq_true rfl)
  rw [lg_entry_eq]
  generalize (lg_sl ([.ref g, .ref au, .int p1, .int (nI a2), .int (nI a3)]) ++ List.replicate (6 - (lg_sl ([.ref g, .ref au, .int p1, .int (nI a2), .int (nI a3)])).length) Slot.unset).toArray = ls at hl ⊢
  have hl : lv_has ls 6 [(0, .ref g), (1, .ref au), (2, .int p1), (3, .int (nI a2)), (4, .int (nI a3))] := hl
  obtain ⟨RR, hRR⟩ : ∃ x, x = (sp_E_1_plan_25 fhi flo nc f14 f15 f16 p1 a2 a3) := ⟨_, rfl⟩
  have hsp := hRR
  refine lv_aload_n hx hb eX1_plan_0 rfl (lv_at hl 0 rfl) ?_
  refine lv_iload_n hx hb eX1_plan_1 rfl (lv_at hl 2 rfl) ?_
  refine va_put (D := (dC, dI)) (ci := 1) (v := .int p1) (ty := .int) (C := RX1) (T := TX1) (N := 18) hx hb hts hiX1 tyX1 tyX1_ok nmX1 hown hK hP hD hS 0 rfl rfl 9 (by decide) v_1 (fun _ h9 => h9) rfl (by decide +kernel) rfl rfl (Nat.le_of_ble_eq_true rfl) eX1_plan_2 (fun H locs hP hD hS => ?_)
  have hP : va_P (dC, dI) vwCl ((gt1__w g gz g1 g2 g3 g4 g5 (nI gc) (nI gfull) gx p1 gav ggoal (nI gfound) 400 (nI gl) (nI gsz) g16 g17 k_fgz (zs o 401 az) k_fs1 (bN 7 q_fs1) k_fs2 fs2 k_fs3 fs3 k_fs4 fs4 k_fs5 fs5 k_fhi fhi k_flo flo au (nI nc) (nI np) (nI ne) st0 q4 q5 q6 q7 q8 q9 q10 q11 q12 q13 q14 q15 q16 k_f4 f4 k_f5 (bN 7 q_f5) k_f6 (bN 7 q_f6) k_f7 f7 k_f8 (bN 4 q_f8) k_f9 (bN 2 q_f9) k_f10 f10 k_f11 f11 k_f12 f12 k_f13 f13 k_f14 f14 k_f15 f15 k_f16 f16) ++ zp 5 25 N az ac kz qs fz) H := hP
  have hD : va_D A ((gt1__w g gz g1 g2 g3 g4 g5 (nI gc) (nI gfull) gx p1 gav ggoal (nI gfound) 400 (nI gl) (nI gsz) g16 g17 k_fgz (zs o 401 az) k_fs1 (bN 7 q_fs1) k_fs2 fs2 k_fs3 fs3 k_fs4 fs4 k_fs5 fs5 k_fhi fhi k_flo flo au (nI nc) (nI np) (nI ne) st0 q4 q5 q6 q7 q8 q9 q10 q11 q12 q13 q14 q15 q16 k_f4 f4 k_f5 (bN 7 q_f5) k_f6 (bN 7 q_f6) k_f7 f7 k_f8 (bN 4 q_f8) k_f9 (bN 2 q_f9) k_f10 f10 k_f11 f11 k_f12 f12 k_f13 f13 k_f14 f14 k_f15 f15 k_f16 f16) ++ zp 5 25 N az ac kz qs fz) := hD
  refine lv_aload_n hx hb eX1_plan_5 rfl (lv_at hl 0 rfl) ?_
  refine lv_iload_n hx hb eX1_plan_6 rfl (lv_at hl 3 rfl) ?_
  refine va_put (D := (dC, dI)) (ci := 1) (v := .int (nI a2)) (ty := .boolean) (C := RX1) (T := TX1) (N := 18) hx hb hts hiX1 tyX1 tyX1_ok nmX1 hown hK hP hD hS 0 rfl rfl 14 (by decide) v_2 (fun _ h9 => h9) rfl (by decide +kernel) (pu_nz (pu_b1 (n := a2) (by omega))) (pu_fz (pu_b1 (n := a2) (by omega))) (Nat.le_of_ble_eq_true rfl) eX1_plan_7 (fun H locs hP hD hS => ?_)
  have hP : va_P (dC, dI) vwCl ((gt1__w g gz g1 g2 g3 g4 g5 (nI gc) (nI gfull) gx p1 gav ggoal (nI gfound) 400 (nI a2) (nI gsz) g16 g17 k_fgz (zs o 401 az) k_fs1 (bN 7 q_fs1) k_fs2 fs2 k_fs3 fs3 k_fs4 fs4 k_fs5 fs5 k_fhi fhi k_flo flo au (nI nc) (nI np) (nI ne) st0 q4 q5 q6 q7 q8 q9 q10 q11 q12 q13 q14 q15 q16 k_f4 f4 k_f5 (bN 7 q_f5) k_f6 (bN 7 q_f6) k_f7 f7 k_f8 (bN 4 q_f8) k_f9 (bN 2 q_f9) k_f10 f10 k_f11 f11 k_f12 f12 k_f13 f13 k_f14 f14 k_f15 f15 k_f16 f16) ++ zp 5 25 N az ac kz qs fz) H := hP
  have hD : va_D A ((gt1__w g gz g1 g2 g3 g4 g5 (nI gc) (nI gfull) gx p1 gav ggoal (nI gfound) 400 (nI a2) (nI gsz) g16 g17 k_fgz (zs o 401 az) k_fs1 (bN 7 q_fs1) k_fs2 fs2 k_fs3 fs3 k_fs4 fs4 k_fs5 fs5 k_fhi fhi k_flo flo au (nI nc) (nI np) (nI ne) st0 q4 q5 q6 q7 q8 q9 q10 q11 q12 q13 q14 q15 q16 k_f4 f4 k_f5 (bN 7 q_f5) k_f6 (bN 7 q_f6) k_f7 f7 k_f8 (bN 4 q_f8) k_f9 (bN 2 q_f9) k_f10 f10 k_f11 f11 k_f12 f12 k_f13 f13 k_f14 f14 k_f15 f15 k_f16 f16) ++ zp 5 25 N az ac kz qs fz) := hD
  refine lv_aload_n hx hb eX1_plan_10 rfl (lv_at hl 0 rfl) ?_
  refine lv_iload hx hb eX1_plan_11 (lv_at hl 4 rfl) ?_
  refine va_put (D := (dC, dI)) (ci := 1) (v := .int (nI a3)) (ty := .int) (C := RX1) (T := TX1) (N := 18) hx hb hts hiX1 tyX1 tyX1_ok nmX1 hown hK hP hD hS 0 rfl rfl 15 (by decide) v_3 (fun _ h9 => h9) rfl (by decide +kernel) rfl rfl (Nat.le_of_ble_eq_true rfl) eX1_plan_13 (fun H locs hP hD hS => ?_)
  have hP : va_P (dC, dI) vwCl ((gt1__w g gz g1 g2 g3 g4 g5 (nI gc) (nI gfull) gx p1 gav ggoal (nI gfound) 400 (nI a2) (nI a3) g16 g17 k_fgz (zs o 401 az) k_fs1 (bN 7 q_fs1) k_fs2 fs2 k_fs3 fs3 k_fs4 fs4 k_fs5 fs5 k_fhi fhi k_flo flo au (nI nc) (nI np) (nI ne) st0 q4 q5 q6 q7 q8 q9 q10 q11 q12 q13 q14 q15 q16 k_f4 f4 k_f5 (bN 7 q_f5) k_f6 (bN 7 q_f6) k_f7 f7 k_f8 (bN 4 q_f8) k_f9 (bN 2 q_f9) k_f10 f10 k_f11 f11 k_f12 f12 k_f13 f13 k_f14 f14 k_f15 f15 k_f16 f16) ++ zp 5 25 N az ac kz qs fz) H := hP
  have hD : va_D A ((gt1__w g gz g1 g2 g3 g4 g5 (nI gc) (nI gfull) gx p1 gav ggoal (nI gfound) 400 (nI a2) (nI a3) g16 g17 k_fgz (zs o 401 az) k_fs1 (bN 7 q_fs1) k_fs2 fs2 k_fs3 fs3 k_fs4 fs4 k_fs5 fs5 k_fhi fhi k_flo flo au (nI nc) (nI np) (nI ne) st0 q4 q5 q6 q7 q8 q9 q10 q11 q12 q13 q14 q15 q16 k_f4 f4 k_f5 (bN 7 q_f5) k_f6 (bN 7 q_f6) k_f7 f7 k_f8 (bN 4 q_f8) k_f9 (bN 2 q_f9) k_f10 f10 k_f11 f11 k_f12 f12 k_f13 f13 k_f14 f14 k_f15 f15 k_f16 f16) ++ zp 5 25 N az ac kz qs fz) := hD
  refine lv_aload_n hx hb eX1_plan_16 rfl (lv_at hl 0 rfl) ?_
  refine lv_iconst (v := (-1)) hx hb eX1_plan_17 (by decide) ?_
  refine va_put (D := (dC, dI)) (ci := 1) (v := .int (-1)) (ty := .int) (C := RX1) (T := TX1) (N := 18) hx hb hts hiX1 tyX1 tyX1_ok nmX1 hown hK hP hD hS 0 rfl rfl 10 (by decide) v_4 (fun _ h9 => h9) rfl (by decide +kernel) rfl rfl (Nat.le_of_ble_eq_true rfl) eX1_plan_18 (fun H locs hP hD hS => ?_)
  have hP : va_P (dC, dI) vwCl ((gt1__w g gz g1 g2 g3 g4 g5 (nI gc) (nI gfull) gx p1 (-1) ggoal (nI gfound) 400 (nI a2) (nI a3) g16 g17 k_fgz (zs o 401 az) k_fs1 (bN 7 q_fs1) k_fs2 fs2 k_fs3 fs3 k_fs4 fs4 k_fs5 fs5 k_fhi fhi k_flo flo au (nI nc) (nI np) (nI ne) st0 q4 q5 q6 q7 q8 q9 q10 q11 q12 q13 q14 q15 q16 k_f4 f4 k_f5 (bN 7 q_f5) k_f6 (bN 7 q_f6) k_f7 f7 k_f8 (bN 4 q_f8) k_f9 (bN 2 q_f9) k_f10 f10 k_f11 f11 k_f12 f12 k_f13 f13 k_f14 f14 k_f15 f15 k_f16 f16) ++ zp 5 25 N az ac kz qs fz) H := hP
  have hD : va_D A ((gt1__w g gz g1 g2 g3 g4 g5 (nI gc) (nI gfull) gx p1 (-1) ggoal (nI gfound) 400 (nI a2) (nI a3) g16 g17 k_fgz (zs o 401 az) k_fs1 (bN 7 q_fs1) k_fs2 fs2 k_fs3 fs3 k_fs4 fs4 k_fs5 fs5 k_fhi fhi k_flo flo au (nI nc) (nI np) (nI ne) st0 q4 q5 q6 q7 q8 q9 q10 q11 q12 q13 q14 q15 q16 k_f4 f4 k_f5 (bN 7 q_f5) k_f6 (bN 7 q_f6) k_f7 f7 k_f8 (bN 4 q_f8) k_f9 (bN 2 q_f9) k_f10 f10 k_f11 f11 k_f12 f12 k_f13 f13 k_f14 f14 k_f15 f15 k_f16 f16) ++ zp 5 25 N az ac kz qs fz) := hD
  refine lv_aload_n hx hb eX1_plan_21 rfl (lv_at hl 0 rfl) ?_
  refine lv_iconst (v := (-1)) hx hb eX1_plan_22 (by decide) ?_
  refine va_put (D := (dC, dI)) (ci := 1) (v := .int (-1)) (ty := .int) (C := RX1) (T := TX1) (N := 18) hx hb hts hiX1 tyX1 tyX1_ok nmX1 hown hK hP hD hS 0 rfl rfl 11 (by decide) v_5 (fun _ h9 => h9) rfl (by decide +kernel) rfl rfl (Nat.le_of_ble_eq_true rfl) eX1_plan_23 (fun H locs hP hD hS => ?_)
  have hP : va_P (dC, dI) vwCl ((gt1__w g gz g1 g2 g3 g4 g5 (nI gc) (nI gfull) gx p1 (-1) (-1) (nI gfound) 400 (nI a2) (nI a3) g16 g17 k_fgz (zs o 401 az) k_fs1 (bN 7 q_fs1) k_fs2 fs2 k_fs3 fs3 k_fs4 fs4 k_fs5 fs5 k_fhi fhi k_flo flo au (nI nc) (nI np) (nI ne) st0 q4 q5 q6 q7 q8 q9 q10 q11 q12 q13 q14 q15 q16 k_f4 f4 k_f5 (bN 7 q_f5) k_f6 (bN 7 q_f6) k_f7 f7 k_f8 (bN 4 q_f8) k_f9 (bN 2 q_f9) k_f10 f10 k_f11 f11 k_f12 f12 k_f13 f13 k_f14 f14 k_f15 f15 k_f16 f16) ++ zp 5 25 N az ac kz qs fz) H := hP
  have hD : va_D A ((gt1__w g gz g1 g2 g3 g4 g5 (nI gc) (nI gfull) gx p1 (-1) (-1) (nI gfound) 400 (nI a2) (nI a3) g16 g17 k_fgz (zs o 401 az) k_fs1 (bN 7 q_fs1) k_fs2 fs2 k_fs3 fs3 k_fs4 fs4 k_fs5 fs5 k_fhi fhi k_flo flo au (nI nc) (nI np) (nI ne) st0 q4 q5 q6 q7 q8 q9 q10 q11 q12 q13 q14 q15 q16 k_f4 f4 k_f5 (bN 7 q_f5) k_f6 (bN 7 q_f6) k_f7 f7 k_f8 (bN 4 q_f8) k_f9 (bN 2 q_f9) k_f10 f10 k_f11 f11 k_f12 f12 k_f13 f13 k_f14 f14 k_f15 f15 k_f16 f16) ++ zp 5 25 N az ac kz qs fz) := hD
  refine lv_aload_n hx hb eX1_plan_26 rfl (lv_at hl 0 rfl) ?_
  refine lv_iconst (v := 0) hx hb eX1_plan_27 (by decide) ?_
  refine va_put (D := (dC, dI)) (ci := 1) (v := .int 0) (ty := .boolean) (C := RX1) (T := TX1) (N := 18) hx hb hts hiX1 tyX1 tyX1_ok nmX1 hown hK hP hD hS 0 rfl rfl 12 (by decide) v_6 (fun _ h9 => h9) rfl (by decide +kernel) rfl rfl (Nat.le_of_ble_eq_true rfl) eX1_plan_28 (fun H locs hP hD hS => ?_)
  have hP : va_P (dC, dI) vwCl ((gt1__w g gz g1 g2 g3 g4 g5 (nI gc) (nI gfull) gx p1 (-1) (-1) 0 400 (nI a2) (nI a3) g16 g17 k_fgz (zs o 401 az) k_fs1 (bN 7 q_fs1) k_fs2 fs2 k_fs3 fs3 k_fs4 fs4 k_fs5 fs5 k_fhi fhi k_flo flo au (nI nc) (nI np) (nI ne) st0 q4 q5 q6 q7 q8 q9 q10 q11 q12 q13 q14 q15 q16 k_f4 f4 k_f5 (bN 7 q_f5) k_f6 (bN 7 q_f6) k_f7 f7 k_f8 (bN 4 q_f8) k_f9 (bN 2 q_f9) k_f10 f10 k_f11 f11 k_f12 f12 k_f13 f13 k_f14 f14 k_f15 f15 k_f16 f16) ++ zp 5 25 N az ac kz qs fz) H := hP
  have hD : va_D A ((gt1__w g gz g1 g2 g3 g4 g5 (nI gc) (nI gfull) gx p1 (-1) (-1) 0 400 (nI a2) (nI a3) g16 g17 k_fgz (zs o 401 az) k_fs1 (bN 7 q_fs1) k_fs2 fs2 k_fs3 fs3 k_fs4 fs4 k_fs5 fs5 k_fhi fhi k_flo flo au (nI nc) (nI np) (nI ne) st0 q4 q5 q6 q7 q8 q9 q10 q11 q12 q13 q14 q15 q16 k_f4 f4 k_f5 (bN 7 q_f5) k_f6 (bN 7 q_f6) k_f7 f7 k_f8 (bN 4 q_f8) k_f9 (bN 2 q_f9) k_f10 f10 k_f11 f11 k_f12 f12 k_f13 f13 k_f14 f14 k_f15 f15 k_f16 f16) ++ zp 5 25 N az ac kz qs fz) := hD
  refine lv_iconst (v := 0) hx hb eX1_plan_31 (by decide) ?_
  refine lv_istore (lv' := [(5, .int 0), (0, .ref g), (1, .ref au), (2, .int p1), (3, .int (nI a2)), (4, .int (nI a3))]) hx hb eX1_plan_32 hl (by decide) rfl (fun ls hl => ?_)
  obtain ⟨lf_8, dlf_8, hlf_8, hsp⟩ := itr_ex hsp
  delta sp_E_1_plan_25_L2 at hlf_8
  refine pu_while (fun nn H locs ls => ∃ (g_4 : Nat → Int32) (g_5 : Nat → Int32) (g_6 : Nat), nn = 4 - g_6 ∧ g_6 ≤ 4 ∧ RR = itrv dlf_8 lf_8 (g_4, g_5, g_6) ∧ va_P (dC, dI) vwCl ((gt1__w g gz g1 g2 g3 g4 g5 (nI gc) (nI gfull) gx p1 (-1) (-1) 0 400 (nI a2) (nI a3) g16 g17 k_fgz (zs o 401 az) k_fs1 (bN 7 q_fs1) k_fs2 fs2 k_fs3 fs3 k_fs4 fs4 k_fs5 fs5 k_fhi g_4 k_flo g_5 au (nI nc) (nI np) (nI ne) st0 q4 q5 q6 q7 q8 q9 q10 q11 q12 q13 q14 q15 q16 k_f4 f4 k_f5 (bN 7 q_f5) k_f6 (bN 7 q_f6) k_f7 f7 k_f8 (bN 4 q_f8) k_f9 (bN 2 q_f9) k_f10 f10 k_f11 f11 k_f12 f12 k_f13 f13 k_f14 f14 k_f15 f15 k_f16 f16) ++ zp 5 25 N az ac kz qs fz) H ∧ va_D A ((gt1__w g gz g1 g2 g3 g4 g5 (nI gc) (nI gfull) gx p1 (-1) (-1) 0 400 (nI a2) (nI a3) g16 g17 k_fgz (zs o 401 az) k_fs1 (bN 7 q_fs1) k_fs2 fs2 k_fs3 fs3 k_fs4 fs4 k_fs5 fs5 k_fhi g_4 k_flo g_5 au (nI nc) (nI np) (nI ne) st0 q4 q5 q6 q7 q8 q9 q10 q11 q12 q13 q14 q15 q16 k_f4 f4 k_f5 (bN 7 q_f5) k_f6 (bN 7 q_f6) k_f7 f7 k_f8 (bN 4 q_f8) k_f9 (bN 2 q_f9) k_f10 f10 k_f11 f11 k_f12 f12 k_f13 f13 k_f14 f14 k_f15 f15 k_f16 f16) ++ zp 5 25 N az ac kz qs fz) ∧ va_S A s.heap H locs ∧ lv_has ls 6 [(0, .ref g), (1, .ref au), (2, .int p1), (3, .int (nI a2)), (4, .int (nI a3)), (5, .int (nI g_6))]) 34 ?_ _ _ _ _ ⟨fhi, flo, 0, rfl, (Nat.le_of_ble_eq_true rfl), hsp, hP, hD, hS, lv_sub hl [1, 2, 3, 4, 5, 0] rfl⟩
  rintro nn ih_7 H locs ls ⟨g_4, g_5, g_6, rfl, hg_6, he_10, hP, hD, hS, hl⟩
  obtain ⟨S_9, hsp, hin_11, hout_12⟩ := itr_step hlf_8 he_10
  refine lv_iload hx hb eX1_plan_34 (lv_at hl 5 rfl) ?_
  refine lv_aload_n hx hb eX1_plan_36 rfl (lv_at hl 1 rfl) ?_
  refine va_get (D := (dC, dI)) (ci := 0) (v := .int (nI nc)) (C := RX0) (T := TX0) (N := 17) hx hb hts hiX0 hown hK hP 9 rfl rfl 0 (by decide) v_7 (fun _ h9 => h9) rfl eX1_plan_37 ?_
  refine lv_icmp_gt (tgt := 113) hx hb eX1_plan_40 (by decide) (fun c_13 => ?_) (fun c_13 => ?_)
  · have c_13 : nc < g_6 := (nI_ltI (a := nc) (b := g_6) (Nat.lt_of_le_of_lt hnc (Nat.le_of_ble_eq_true rfl)) (Nat.lt_of_le_of_lt hg_6 (Nat.le_of_ble_eq_true rfl))).mp c_13
    have hsp := hsp.trans (if_pos c_13)
    have hsp := hout_12 _ hsp
    refine lv_aload_n hx hb eX1_plan_113 rfl (lv_at hl 1 rfl) ?_
    refine va_get (D := (dC, dI)) (ci := 0) (v := .int (nI nc)) (C := RX0) (T := TX0) (N := 17) hx hb hts hiX0 hown hK hP 9 rfl rfl 0 (by decide) v_7 (fun _ h9 => h9) rfl eX1_plan_114 ?_
    refine lv_iconst (v := 1) hx hb eX1_plan_117 (by decide) ?_
    refine lv_iadd hx hb eX1_plan_118 ?_
    refine lv_topi (fun y_14 ey_14 => ?_)
    obtain rfl : y_14 = (nI (nc + 1)) := ey_14.trans (nI_add nc 1)
    refine lv_istore (lv' := [(5, .int (nI (nc + 1))), (0, .ref g), (1, .ref au), (2, .int p1), (3, .int (nI a2)), (4, .int (nI a3))]) hx hb eX1_plan_119 hl (by decide) rfl (fun ls hl => ?_)
    obtain ⟨lf_22, dlf_22, hlf_22, hsp⟩ := itr_ex hsp
    delta sp_E_1_plan_25_L1 at hlf_22
    refine pu_while (fun nn H locs ls => ∃ (g_18 : Nat → Int32) (g_19 : Nat → Int32) (g_20 : Nat), nn = 5 - g_20 ∧ (1 ≤ g_20 ∧ g_20 ≤ 5) ∧ RR = itrv dlf_22 lf_22 (g_18, g_19, g_20) ∧ va_P (dC, dI) vwCl ((gt1__w g gz g1 g2 g3 g4 g5 (nI gc) (nI gfull) gx p1 (-1) (-1) 0 400 (nI a2) (nI a3) g16 g17 k_fgz (zs o 401 az) k_fs1 (bN 7 q_fs1) k_fs2 fs2 k_fs3 fs3 k_fs4 fs4 k_fs5 fs5 k_fhi g_18 k_flo g_19 au (nI nc) (nI np) (nI ne) st0 q4 q5 q6 q7 q8 q9 q10 q11 q12 q13 q14 q15 q16 k_f4 f4 k_f5 (bN 7 q_f5) k_f6 (bN 7 q_f6) k_f7 f7 k_f8 (bN 4 q_f8) k_f9 (bN 2 q_f9) k_f10 f10 k_f11 f11 k_f12 f12 k_f13 f13 k_f14 f14 k_f15 f15 k_f16 f16) ++ zp 5 25 N az ac kz qs fz) H ∧ va_D A ((gt1__w g gz g1 g2 g3 g4 g5 (nI gc) (nI gfull) gx p1 (-1) (-1) 0 400 (nI a2) (nI a3) g16 g17 k_fgz (zs o 401 az) k_fs1 (bN 7 q_fs1) k_fs2 fs2 k_fs3 fs3 k_fs4 fs4 k_fs5 fs5 k_fhi g_18 k_flo g_19 au (nI nc) (nI np) (nI ne) st0 q4 q5 q6 q7 q8 q9 q10 q11 q12 q13 q14 q15 q16 k_f4 f4 k_f5 (bN 7 q_f5) k_f6 (bN 7 q_f6) k_f7 f7 k_f8 (bN 4 q_f8) k_f9 (bN 2 q_f9) k_f10 f10 k_f11 f11 k_f12 f12 k_f13 f13 k_f14 f14 k_f15 f15 k_f16 f16) ++ zp 5 25 N az ac kz qs fz) ∧ va_S A s.heap H locs ∧ lv_has ls 6 [(0, .ref g), (1, .ref au), (2, .int p1), (3, .int (nI a2)), (4, .int (nI a3)), (5, .int (nI g_20))]) 121 ?_ _ _ _ _ ⟨g_4, g_5, (nc + 1), rfl, ⟨by omega, by omega⟩, hsp, hP, hD, hS, lv_sub hl [1, 2, 3, 4, 5, 0] rfl⟩
    rintro nn ih_21 H locs ls ⟨g_18, g_19, g_20, rfl, hg_20, he_24, hP, hD, hS, hl⟩
    obtain ⟨S_23, hsp, hin_25, hout_26⟩ := itr_step hlf_22 he_24
    refine lv_iload hx hb eX1_plan_121 (lv_at hl 5 rfl) ?_
    refine lv_aload_n hx hb eX1_plan_123 rfl (lv_at hl 0 rfl) ?_
    refine va_get (D := (dC, dI)) (ci := 1) (v := .int (nI a3)) (C := RX1) (T := TX1) (N := 18) hx hb hts hiX1 hown hK hP 0 rfl rfl 15 (by decide) v_3 (fun _ h9 => h9) rfl eX1_plan_124 ?_
    refine lv_icmp_ge (tgt := 153) hx hb eX1_plan_127 (by decide) (fun c_27 => ?_) (fun c_27 => ?_)
    · have c_27 : a3 ≤ g_20 := (nI_leI (a := a3) (b := g_20) (Nat.lt_of_le_of_lt ha3 (Nat.le_of_ble_eq_true rfl)) (Nat.lt_of_le_of_lt hg_20.2 (Nat.le_of_ble_eq_true rfl))).mp c_27
      have hsp := hsp.trans (if_pos c_27)
      have hsp := hout_26 _ hsp
      exact W.vret hx hb hr (fun t ht hW => ⟨⟨(), rfl, trivial, ⟨g_18, g_19, (-1), (-1), 0, a2, a3, p1, ⟨by rw [ht]; exact hP, va_K.moved hW.alike hK, hD⟩, (Nat.le_of_ble_eq_true rfl), ha2, ha3, (hsp.symm.trans hRR)⟩⟩, hS.F ht⟩) hS.2.2 eX1_plan_153
    · have c_27 : ¬ a3 ≤ g_20 := fun z => c_27 ((nI_leI (a := a3) (b := g_20) (Nat.lt_of_le_of_lt ha3 (Nat.le_of_ble_eq_true rfl)) (Nat.lt_of_le_of_lt hg_20.2 (Nat.le_of_ble_eq_true rfl))).mpr z)
      have hsp := hsp.trans (if_neg c_27)
      refine lv_aload_n hx hb eX1_plan_130 rfl (lv_at hl 0 rfl) ?_
      refine va_get (D := (dC, dI)) (ci := 1) (v := .ref g16) (C := RX1) (T := TX1) (N := 18) hx hb hts hiX1 hown hK hP 0 rfl rfl 16 (by decide) v_8 (fun _ h9 => h9) rfl eX1_plan_131 ?_
      refine lv_iload hx hb eX1_plan_134 (lv_at hl 5 rfl) ?_
      refine lv_iconst (v := 0) hx hb eX1_plan_136 (by decide) ?_
      refine va_iast hx hb hK hP hD hS 7 6 rfl rfl (vp_in_nI (n := g_20) (by omega) (Nat.le_of_ble_eq_true rfl)) eX1_plan_137 (fun H locs hP hD hS => ?_)
      obtain ⟨f_28, ef_28, xf_28⟩ := up_x g_18 (n := g_20) 0 (Nat.lt_of_le_of_lt hg_20.2 (Nat.le_of_ble_eq_true rfl))
      have hP : va_P (dC, dI) vwCl ((gt1__w g gz g1 g2 g3 g4 g5 (nI gc) (nI gfull) gx p1 (-1) (-1) 0 400 (nI a2) (nI a3) g16 g17 k_fgz (zs o 401 az) k_fs1 (bN 7 q_fs1) k_fs2 fs2 k_fs3 fs3 k_fs4 fs4 k_fs5 fs5 k_fhi f_28 k_flo g_19 au (nI nc) (nI np) (nI ne) st0 q4 q5 q6 q7 q8 q9 q10 q11 q12 q13 q14 q15 q16 k_f4 f4 k_f5 (bN 7 q_f5) k_f6 (bN 7 q_f6) k_f7 f7 k_f8 (bN 4 q_f8) k_f9 (bN 2 q_f9) k_f10 f10 k_f11 f11 k_f12 f12 k_f13 f13 k_f14 f14 k_f15 f15 k_f16 f16) ++ zp 5 25 N az ac kz qs fz) H := by rw [← ef_28]; exact hP
      have hD : va_D A ((gt1__w g gz g1 g2 g3 g4 g5 (nI gc) (nI gfull) gx p1 (-1) (-1) 0 400 (nI a2) (nI a3) g16 g17 k_fgz (zs o 401 az) k_fs1 (bN 7 q_fs1) k_fs2 fs2 k_fs3 fs3 k_fs4 fs4 k_fs5 fs5 k_fhi f_28 k_flo g_19 au (nI nc) (nI np) (nI ne) st0 q4 q5 q6 q7 q8 q9 q10 q11 q12 q13 q14 q15 q16 k_f4 f4 k_f5 (bN 7 q_f5) k_f6 (bN 7 q_f6) k_f7 f7 k_f8 (bN 4 q_f8) k_f9 (bN 2 q_f9) k_f10 f10 k_f11 f11 k_f12 f12 k_f13 f13 k_f14 f14 k_f15 f15 k_f16 f16) ++ zp 5 25 N az ac kz qs fz) := by rw [← ef_28]; exact hD
      have hsp := hsp.trans (slet_eq xf_28)
      refine lv_aload_n hx hb eX1_plan_138 rfl (lv_at hl 0 rfl) ?_
      refine va_get (D := (dC, dI)) (ci := 1) (v := .ref g17) (C := RX1) (T := TX1) (N := 18) hx hb hts hiX1 hown hK hP 0 rfl rfl 17 (by decide) v_11 (fun _ h9 => h9) rfl eX1_plan_139 ?_
      refine lv_iload hx hb eX1_plan_142 (lv_at hl 5 rfl) ?_
      refine lv_bipush (v := 60) hx hb eX1_plan_144 (by decide) ?_
      refine va_iast hx hb hK hP hD hS 8 7 rfl rfl (vp_in_nI (n := g_20) (by omega) (Nat.le_of_ble_eq_true rfl)) eX1_plan_146 (fun H locs hP hD hS => ?_)
      obtain ⟨f_29, ef_29, xf_29⟩ := up_x g_19 (n := g_20) 60 (Nat.lt_of_le_of_lt hg_20.2 (Nat.le_of_ble_eq_true rfl))
      have hP : va_P (dC, dI) vwCl ((gt1__w g gz g1 g2 g3 g4 g5 (nI gc) (nI gfull) gx p1 (-1) (-1) 0 400 (nI a2) (nI a3) g16 g17 k_fgz (zs o 401 az) k_fs1 (bN 7 q_fs1) k_fs2 fs2 k_fs3 fs3 k_fs4 fs4 k_fs5 fs5 k_fhi f_28 k_flo f_29 au (nI nc) (nI np) (nI ne) st0 q4 q5 q6 q7 q8 q9 q10 q11 q12 q13 q14 q15 q16 k_f4 f4 k_f5 (bN 7 q_f5) k_f6 (bN 7 q_f6) k_f7 f7 k_f8 (bN 4 q_f8) k_f9 (bN 2 q_f9) k_f10 f10 k_f11 f11 k_f12 f12 k_f13 f13 k_f14 f14 k_f15 f15 k_f16 f16) ++ zp 5 25 N az ac kz qs fz) H := by rw [← ef_29]; exact hP
      have hD : va_D A ((gt1__w g gz g1 g2 g3 g4 g5 (nI gc) (nI gfull) gx p1 (-1) (-1) 0 400 (nI a2) (nI a3) g16 g17 k_fgz (zs o 401 az) k_fs1 (bN 7 q_fs1) k_fs2 fs2 k_fs3 fs3 k_fs4 fs4 k_fs5 fs5 k_fhi f_28 k_flo f_29 au (nI nc) (nI np) (nI ne) st0 q4 q5 q6 q7 q8 q9 q10 q11 q12 q13 q14 q15 q16 k_f4 f4 k_f5 (bN 7 q_f5) k_f6 (bN 7 q_f6) k_f7 f7 k_f8 (bN 4 q_f8) k_f9 (bN 2 q_f9) k_f10 f10 k_f11 f11 k_f12 f12 k_f13 f13 k_f14 f14 k_f15 f15 k_f16 f16) ++ zp 5 25 N az ac kz qs fz) := by rw [← ef_29]; exact hD
      have hsp := hsp.trans (slet_eq xf_29)
      refine lv_iinc (v := (nI (g_20 + 1))) (lv' := [(5, .int (nI (g_20 + 1))), (0, .ref g), (1, .ref au), (2, .int p1), (3, .int (nI a2)), (4, .int (nI a3))]) hx hb eX1_plan_147 hl (k := 5) rfl (nI_1 _) (by decide) rfl (fun ls hl => ?_)
      refine lv_goto (tgt := 121) hx hb eX1_plan_150 (by decide) ?_
      exact ih_21 (5 - (g_20 + 1)) (by omega) _ _ _ ⟨f_28, f_29, (g_20 + 1), rfl, ⟨by omega, by omega⟩, hin_25 _ hsp, hP, hD, hS, lv_sub hl [1, 2, 3, 4, 5, 0] rfl⟩
  · have c_13 : ¬ nc < g_6 := fun z => c_13 ((nI_ltI (a := nc) (b := g_6) (Nat.lt_of_le_of_lt hnc (Nat.le_of_ble_eq_true rfl)) (Nat.lt_of_le_of_lt hg_6 (Nat.le_of_ble_eq_true rfl))).mpr z)
    have hsp := hsp.trans (if_neg c_13)
    refine lv_aload_n hx hb eX1_plan_43 rfl (lv_at hl 0 rfl) ?_
    refine va_get (D := (dC, dI)) (ci := 1) (v := .ref g16) (C := RX1) (T := TX1) (N := 18) hx hb hts hiX1 hown hK hP 0 rfl rfl 16 (by decide) v_8 (fun _ h9 => h9) rfl eX1_plan_44 ?_
    refine lv_iload hx hb eX1_plan_47 (lv_at hl 5 rfl) ?_
    refine lv_aload_n hx hb eX1_plan_49 rfl (lv_at hl 0 rfl) ?_
    refine va_get (D := (dC, dI)) (ci := 1) (v := .int p1) (C := RX1) (T := TX1) (N := 18) hx hb hts hiX1 hown hK hP 0 rfl rfl 9 (by decide) v_1 (fun _ h9 => h9) rfl eX1_plan_50 ?_
    refine lv_iconst (v := 1) hx hb eX1_plan_53 (by decide) ?_
    obtain ⟨JR_32, hJR_32, hsp⟩ := slet_ex hsp
    refine pu_join (fun H locs ls st => ∃ (g_30 : Int32), st = [.int g_30, .int (nI g_6), .ref g16] ∧ g_30 = JR_32 ∧ va_P (dC, dI) vwCl ((gt1__w g gz g1 g2 g3 g4 g5 (nI gc) (nI gfull) gx p1 (-1) (-1) 0 400 (nI a2) (nI a3) g16 g17 k_fgz (zs o 401 az) k_fs1 (bN 7 q_fs1) k_fs2 fs2 k_fs3 fs3 k_fs4 fs4 k_fs5 fs5 k_fhi g_4 k_flo g_5 au (nI nc) (nI np) (nI ne) st0 q4 q5 q6 q7 q8 q9 q10 q11 q12 q13 q14 q15 q16 k_f4 f4 k_f5 (bN 7 q_f5) k_f6 (bN 7 q_f6) k_f7 f7 k_f8 (bN 4 q_f8) k_f9 (bN 2 q_f9) k_f10 f10 k_f11 f11 k_f12 f12 k_f13 f13 k_f14 f14 k_f15 f15 k_f16 f16) ++ zp 5 25 N az ac kz qs fz) H ∧ va_D A ((gt1__w g gz g1 g2 g3 g4 g5 (nI gc) (nI gfull) gx p1 (-1) (-1) 0 400 (nI a2) (nI a3) g16 g17 k_fgz (zs o 401 az) k_fs1 (bN 7 q_fs1) k_fs2 fs2 k_fs3 fs3 k_fs4 fs4 k_fs5 fs5 k_fhi g_4 k_flo g_5 au (nI nc) (nI np) (nI ne) st0 q4 q5 q6 q7 q8 q9 q10 q11 q12 q13 q14 q15 q16 k_f4 f4 k_f5 (bN 7 q_f5) k_f6 (bN 7 q_f6) k_f7 f7 k_f8 (bN 4 q_f8) k_f9 (bN 2 q_f9) k_f10 f10 k_f11 f11 k_f12 f12 k_f13 f13 k_f14 f14 k_f15 f15 k_f16 f16) ++ zp 5 25 N az ac kz qs fz) ∧ va_S A s.heap H locs ∧ lv_has ls 6 [(0, .ref g), (1, .ref au), (2, .int p1), (3, .int (nI a2)), (4, .int (nI a3)), (5, .int (nI g_6))]) 74 ?_ (fun j_31 => ?_)
    · rintro H locs ls st ⟨g_30, rfl, he_33, hP, hD, hS, hl⟩
      rw [← he_33] at hsp
      refine va_iast hx hb hK hP hD hS 7 6 rfl rfl (vp_in_nI (n := g_6) (Nat.lt_of_le_of_lt hg_6 (Nat.le_of_ble_eq_true rfl)) (Nat.le_of_ble_eq_true rfl)) eX1_plan_74 (fun H locs hP hD hS => ?_)
      obtain ⟨f_34, ef_34, xf_34⟩ := up_x g_4 (n := g_6) g_30 (Nat.lt_of_le_of_lt hg_6 (Nat.le_of_ble_eq_true rfl))
      have hP : va_P (dC, dI) vwCl ((gt1__w g gz g1 g2 g3 g4 g5 (nI gc) (nI gfull) gx p1 (-1) (-1) 0 400 (nI a2) (nI a3) g16 g17 k_fgz (zs o 401 az) k_fs1 (bN 7 q_fs1) k_fs2 fs2 k_fs3 fs3 k_fs4 fs4 k_fs5 fs5 k_fhi f_34 k_flo g_5 au (nI nc) (nI np) (nI ne) st0 q4 q5 q6 q7 q8 q9 q10 q11 q12 q13 q14 q15 q16 k_f4 f4 k_f5 (bN 7 q_f5) k_f6 (bN 7 q_f6) k_f7 f7 k_f8 (bN 4 q_f8) k_f9 (bN 2 q_f9) k_f10 f10 k_f11 f11 k_f12 f12 k_f13 f13 k_f14 f14 k_f15 f15 k_f16 f16) ++ zp 5 25 N az ac kz qs fz) H := by rw [← ef_34]; exact hP
      have hD : va_D A ((gt1__w g gz g1 g2 g3 g4 g5 (nI gc) (nI gfull) gx p1 (-1) (-1) 0 400 (nI a2) (nI a3) g16 g17 k_fgz (zs o 401 az) k_fs1 (bN 7 q_fs1) k_fs2 fs2 k_fs3 fs3 k_fs4 fs4 k_fs5 fs5 k_fhi f_34 k_flo g_5 au (nI nc) (nI np) (nI ne) st0 q4 q5 q6 q7 q8 q9 q10 q11 q12 q13 q14 q15 q16 k_f4 f4 k_f5 (bN 7 q_f5) k_f6 (bN 7 q_f6) k_f7 f7 k_f8 (bN 4 q_f8) k_f9 (bN 2 q_f9) k_f10 f10 k_f11 f11 k_f12 f12 k_f13 f13 k_f14 f14 k_f15 f15 k_f16 f16) ++ zp 5 25 N az ac kz qs fz) := by rw [← ef_34]; exact hD
      have hsp := hsp.trans (slet_eq xf_34)
      refine lv_aload_n hx hb eX1_plan_75 rfl (lv_at hl 0 rfl) ?_
      refine va_get (D := (dC, dI)) (ci := 1) (v := .ref g17) (C := RX1) (T := TX1) (N := 18) hx hb hts hiX1 hown hK hP 0 rfl rfl 17 (by decide) v_11 (fun _ h9 => h9) rfl eX1_plan_76 ?_
      refine lv_iload hx hb eX1_plan_79 (lv_at hl 5 rfl) ?_
      refine lv_aload_n hx hb eX1_plan_81 rfl (lv_at hl 0 rfl) ?_
      refine va_get (D := (dC, dI)) (ci := 1) (v := .int p1) (C := RX1) (T := TX1) (N := 18) hx hb hts hiX1 hown hK hP 0 rfl rfl 9 (by decide) v_1 (fun _ h9 => h9) rfl eX1_plan_82 ?_
      refine lv_iconst (v := 1) hx hb eX1_plan_85 (by decide) ?_
      obtain ⟨JR_37, hJR_37, hsp⟩ := slet_ex hsp
      refine pu_join (fun H locs ls st => ∃ (g_35 : Int32), st = [.int g_35, .int (nI g_6), .ref g17] ∧ g_35 = JR_37 ∧ va_P (dC, dI) vwCl ((gt1__w g gz g1 g2 g3 g4 g5 (nI gc) (nI gfull) gx p1 (-1) (-1) 0 400 (nI a2) (nI a3) g16 g17 k_fgz (zs o 401 az) k_fs1 (bN 7 q_fs1) k_fs2 fs2 k_fs3 fs3 k_fs4 fs4 k_fs5 fs5 k_fhi f_34 k_flo g_5 au (nI nc) (nI np) (nI ne) st0 q4 q5 q6 q7 q8 q9 q10 q11 q12 q13 q14 q15 q16 k_f4 f4 k_f5 (bN 7 q_f5) k_f6 (bN 7 q_f6) k_f7 f7 k_f8 (bN 4 q_f8) k_f9 (bN 2 q_f9) k_f10 f10 k_f11 f11 k_f12 f12 k_f13 f13 k_f14 f14 k_f15 f15 k_f16 f16) ++ zp 5 25 N az ac kz qs fz) H ∧ va_D A ((gt1__w g gz g1 g2 g3 g4 g5 (nI gc) (nI gfull) gx p1 (-1) (-1) 0 400 (nI a2) (nI a3) g16 g17 k_fgz (zs o 401 az) k_fs1 (bN 7 q_fs1) k_fs2 fs2 k_fs3 fs3 k_fs4 fs4 k_fs5 fs5 k_fhi f_34 k_flo g_5 au (nI nc) (nI np) (nI ne) st0 q4 q5 q6 q7 q8 q9 q10 q11 q12 q13 q14 q15 q16 k_f4 f4 k_f5 (bN 7 q_f5) k_f6 (bN 7 q_f6) k_f7 f7 k_f8 (bN 4 q_f8) k_f9 (bN 2 q_f9) k_f10 f10 k_f11 f11 k_f12 f12 k_f13 f13 k_f14 f14 k_f15 f15 k_f16 f16) ++ zp 5 25 N az ac kz qs fz) ∧ va_S A s.heap H locs ∧ lv_has ls 6 [(0, .ref g), (1, .ref au), (2, .int p1), (3, .int (nI a2)), (4, .int (nI a3)), (5, .int (nI g_6))]) 106 ?_ (fun j_36 => ?_)
      · rintro H locs ls st ⟨g_35, rfl, he_38, hP, hD, hS, hl⟩
        rw [← he_38] at hsp
        refine va_iast hx hb hK hP hD hS 8 7 rfl rfl (vp_in_nI (n := g_6) (Nat.lt_of_le_of_lt hg_6 (Nat.le_of_ble_eq_true rfl)) (Nat.le_of_ble_eq_true rfl)) eX1_plan_106 (fun H locs hP hD hS => ?_)
        obtain ⟨f_39, ef_39, xf_39⟩ := up_x g_5 (n := g_6) g_35 (Nat.lt_of_le_of_lt hg_6 (Nat.le_of_ble_eq_true rfl))
        have hP : va_P (dC, dI) vwCl ((gt1__w g gz g1 g2 g3 g4 g5 (nI gc) (nI gfull) gx p1 (-1) (-1) 0 400 (nI a2) (nI a3) g16 g17 k_fgz (zs o 401 az) k_fs1 (bN 7 q_fs1) k_fs2 fs2 k_fs3 fs3 k_fs4 fs4 k_fs5 fs5 k_fhi f_34 k_flo f_39 au (nI nc) (nI np) (nI ne) st0 q4 q5 q6 q7 q8 q9 q10 q11 q12 q13 q14 q15 q16 k_f4 f4 k_f5 (bN 7 q_f5) k_f6 (bN 7 q_f6) k_f7 f7 k_f8 (bN 4 q_f8) k_f9 (bN 2 q_f9) k_f10 f10 k_f11 f11 k_f12 f12 k_f13 f13 k_f14 f14 k_f15 f15 k_f16 f16) ++ zp 5 25 N az ac kz qs fz) H := by rw [← ef_39]; exact hP
        have hD : va_D A ((gt1__w g gz g1 g2 g3 g4 g5 (nI gc) (nI gfull) gx p1 (-1) (-1) 0 400 (nI a2) (nI a3) g16 g17 k_fgz (zs o 401 az) k_fs1 (bN 7 q_fs1) k_fs2 fs2 k_fs3 fs3 k_fs4 fs4 k_fs5 fs5 k_fhi f_34 k_flo f_39 au (nI nc) (nI np) (nI ne) st0 q4 q5 q6 q7 q8 q9 q10 q11 q12 q13 q14 q15 q16 k_f4 f4 k_f5 (bN 7 q_f5) k_f6 (bN 7 q_f6) k_f7 f7 k_f8 (bN 4 q_f8) k_f9 (bN 2 q_f9) k_f10 f10 k_f11 f11 k_f12 f12 k_f13 f13 k_f14 f14 k_f15 f15 k_f16 f16) ++ zp 5 25 N az ac kz qs fz) := by rw [← ef_39]; exact hD
        have hsp := hsp.trans (slet_eq xf_39)
        refine lv_iinc (v := (nI (g_6 + 1))) (lv' := [(5, .int (nI (g_6 + 1))), (0, .ref g), (1, .ref au), (2, .int p1), (3, .int (nI a2)), (4, .int (nI a3))]) hx hb eX1_plan_107 hl (k := 5) rfl (nI_1 _) (by decide) rfl (fun ls hl => ?_)
        refine lv_goto (tgt := 34) hx hb eX1_plan_110 (by decide) ?_
        exact ih_7 (4 - (g_6 + 1)) (by omega) _ _ _ ⟨f_34, f_39, (g_6 + 1), rfl, (by omega), hin_11 _ hsp, hP, hD, hS, lv_sub hl [1, 2, 3, 4, 5, 0] rfl⟩
      have hsp := hJR_37
      refine lv_icmp_ne (tgt := 99) hx hb eX1_plan_86 (by decide) (fun c_40 => ?_) (fun c_40 => ?_)
      · have hcc_40 := c_40
        have hsp := hsp.trans (if_neg c_40)
        refine lv_aload_n hx hb eX1_plan_99 rfl (lv_at hl 1 rfl) ?_
        refine va_get (D := (dC, dI)) (ci := 0) (v := .ref q16) (C := RX0) (T := TX0) (N := 17) hx hb hts hiX0 hown hK hP 9 rfl rfl 16 (by decide) v_12 (fun _ h9 => h9) rfl eX1_plan_100 ?_
        refine lv_iload hx hb eX1_plan_103 (lv_at hl 5 rfl) ?_
        refine va_iald hx hb hK hP 22 20 rfl rfl (vp_in_nI (n := g_6) (by omega) (Nat.le_of_ble_eq_true rfl)) eX1_plan_105 ?_
        refine lv_topi (fun y_41 ey_41 => ?_)
        have ey_41 : y_41 = f16 g_6 := ey_41.trans (congrArg f16 (nI_clamp (n := g_6) (Nat.lt_of_le_of_lt hg_6 (Nat.le_of_ble_eq_true rfl))))
        have hsp := hsp.trans (slet_eq ey_41)
        exact j_36 _ _ _ _ ⟨y_41, rfl, hsp.symm, hP, hD, hS, lv_sub hl [0, 1, 2, 3, 4, 5] rfl⟩
      · have hcc_40 := c_40
        have hsp := hsp.trans (if_pos c_40)
        refine lv_aload_n hx hb eX1_plan_89 rfl (lv_at hl 1 rfl) ?_
        refine va_get (D := (dC, dI)) (ci := 0) (v := .ref q14) (C := RX0) (T := TX0) (N := 17) hx hb hts hiX0 hown hK hP 9 rfl rfl 14 (by decide) v_10 (fun _ h9 => h9) rfl eX1_plan_90 ?_
        refine lv_iload hx hb eX1_plan_93 (lv_at hl 5 rfl) ?_
        refine va_iald hx hb hK hP 20 18 rfl rfl (vp_in_nI (n := g_6) (by omega) (Nat.le_of_ble_eq_true rfl)) eX1_plan_95 ?_
        refine lv_topi (fun y_42 ey_42 => ?_)
        have ey_42 : y_42 = f14 g_6 := ey_42.trans (congrArg f14 (nI_clamp (n := g_6) (Nat.lt_of_le_of_lt hg_6 (Nat.le_of_ble_eq_true rfl))))
        have hsp := hsp.trans (slet_eq ey_42)
        refine lv_goto (tgt := 106) hx hb eX1_plan_96 (by decide) ?_
        exact j_36 _ _ _ _ ⟨y_42, rfl, hsp.symm, hP, hD, hS, lv_sub hl [0, 1, 2, 3, 4, 5] rfl⟩
    have hsp := hJR_32
    refine lv_icmp_ne (tgt := 67) hx hb eX1_plan_54 (by decide) (fun c_43 => ?_) (fun c_43 => ?_)
    · have hcc_43 := c_43
      have hsp := hsp.trans (if_neg c_43)
      refine lv_aload_n hx hb eX1_plan_67 rfl (lv_at hl 1 rfl) ?_
      refine va_get (D := (dC, dI)) (ci := 0) (v := .ref q15) (C := RX0) (T := TX0) (N := 17) hx hb hts hiX0 hown hK hP 9 rfl rfl 15 (by decide) v_9 (fun _ h9 => h9) rfl eX1_plan_68 ?_
      refine lv_iload hx hb eX1_plan_71 (lv_at hl 5 rfl) ?_
      refine va_iald hx hb hK hP 21 19 rfl rfl (vp_in_nI (n := g_6) (by omega) (Nat.le_of_ble_eq_true rfl)) eX1_plan_73 ?_
      refine lv_topi (fun y_44 ey_44 => ?_)
      have ey_44 : y_44 = f15 g_6 := ey_44.trans (congrArg f15 (nI_clamp (n := g_6) (Nat.lt_of_le_of_lt hg_6 (Nat.le_of_ble_eq_true rfl))))
      have hsp := hsp.trans (slet_eq ey_44)
      exact j_31 _ _ _ _ ⟨y_44, rfl, hsp.symm, hP, hD, hS, lv_sub hl [0, 1, 2, 3, 4, 5] rfl⟩
    · have hcc_43 := c_43
      have hsp := hsp.trans (if_pos c_43)
      refine lv_aload_n hx hb eX1_plan_57 rfl (lv_at hl 1 rfl) ?_
      refine va_get (D := (dC, dI)) (ci := 0) (v := .ref q14) (C := RX0) (T := TX0) (N := 17) hx hb hts hiX0 hown hK hP 9 rfl rfl 14 (by decide) v_10 (fun _ h9 => h9) rfl eX1_plan_58 ?_
      refine lv_iload hx hb eX1_plan_61 (lv_at hl 5 rfl) ?_
      refine va_iald hx hb hK hP 20 18 rfl rfl (vp_in_nI (n := g_6) (by omega) (Nat.le_of_ble_eq_true rfl)) eX1_plan_63 ?_
      refine lv_topi (fun y_45 ey_45 => ?_)
      have ey_45 : y_45 = f14 g_6 := ey_45.trans (congrArg f14 (nI_clamp (n := g_6) (Nat.lt_of_le_of_lt hg_6 (Nat.le_of_ble_eq_true rfl))))
      have hsp := hsp.trans (slet_eq ey_45)
      refine lv_goto (tgt := 74) hx hb eX1_plan_64 (by decide) ?_
      exact j_31 _ _ _ _ ⟨y_45, rfl, hsp.symm, hP, hD, hS, lv_sub hl [0, 1, 2, 3, 4, 5] rfl⟩
abbrev vs_E_1_record0_25 : List Cond := .code yX1_record cX1_record 4 none :: CM
noncomputable def sp_E_1_record0_25 (gc : Nat) (ggoal : Int32) (gfound : Nat) (q_fs1 : Nat → Nat) (fs2 : Nat → Int32) (fs3 : Nat → Int32) (fs4 : Nat → Int32) (fs5 : Nat → Int32) (a0 : Nat) : (Nat → Nat) × (Nat → Int32) × (Nat → Int32) × (Nat → Int32) × (Nat → Int32) × Nat := (slet (updN q_fs1 gc a0) (fun q_1 => (slet (upd fs2 gc (-1)) (fun f_2 => (slet (upd fs3 gc (-1)) (fun f_3 => (slet (upd fs4 gc 0) (fun f_4 => (slet (upd fs5 gc 0) (fun f_5 => (if ((nI a0) : Int32) = ggoal then (q_1, f_2, f_3, f_4, f_5, 1) else (q_1, f_2, f_3, f_4, f_5, gfound))))))))))))
set_option maxHeartbeats 4000000 in
set_option maxRecDepth 100000 in
theorem c_E_1_record0_25 (l : Launch) (dC : Nat → ClassId) (dI : Nat → Nat → Nat) (sz : Nat) (g : Nat) (gz : Nat) (g1 : Nat) (g2 : Nat) (g3 : Nat) (g4 : Nat) (g5 : Nat) (gc : Nat) (gfull : Nat) (gx : Int32) (gway : Int32) (gav : Int32) (ggoal : Int32) (gfound : Nat) (gl : Nat) (gsz : Nat) (g16 : Nat) (g17 : Nat) (k_fgz : ClassId) (k_fs1 : ClassId) (q_fs1 : Nat → Nat) (k_fs2 : ClassId) (fs2 : Nat → Int32) (k_fs3 : ClassId) (fs3 : Nat → Int32) (k_fs4 : ClassId) (fs4 : Nat → Int32) (k_fs5 : ClassId) (fs5 : Nat → Int32) (k_fhi : ClassId) (fhi : Nat → Int32) (k_flo : ClassId) (flo : Nat → Int32) (N : Nat) (o : Nat) (az ac : Nat → Nat) (kz : Nat → ClassId) (qs : Nat → Nat) (fz : Nat → Nat → Int32) (a0 : Nat) (hgc : gc ≤ 399) (hgfull : gfull ≤ 1) (hgfound : gfound ≤ 1) (hgl : gl ≤ 1) (hgsz : gsz ≤ 5) (hN : o + 401 ≤ N) (ha0 : a0 ≤ 7) (hq0 : gz_ok gc fs2 fs3 fs4) : Met l yX1_record vs_E_1_record0_25 ({ frames := 0, cells := 0, slots := 0, locals := 0 }) (va_Pc [.ref g, .int (nI a0), .int (-1), .int (-1)] (pu_B (dC, dI) ((gt0__w g gz g1 g2 g3 g4 g5 (nI gc) (nI gfull) gx gway gav ggoal (nI gfound) 400 (nI gl) (nI gsz) g16 g17 k_fgz (zs o 401 az) k_fs1 (bN 7 q_fs1) k_fs2 fs2 k_fs3 fs3 k_fs4 fs4 k_fs5 fs5 k_fhi fhi k_flo flo) ++ zp 5 25 N az ac kz qs fz) ((gt0__t k_fgz k_fs1 k_fs2 k_fs3 k_fs4 k_fs5 k_fhi k_flo) ++ zt N kz) sz)) (va_Qv (fun (_ : Unit) => True) (fun _ t => ∃ (z_fs1 : Nat → Nat) (z_fs2 : Nat → Int32) (z_fs3 : Nat → Int32) (z_fs4 : Nat → Int32) (z_fs5 : Nat → Int32) (z_gfound : Nat), pu_E (dC, dI) ((gt0__w g gz g1 g2 g3 g4 g5 (nI (gc + 1)) (nI gfull) gx gway gav ggoal (nI z_gfound) 400 (nI gl) (nI gsz) g16 g17 k_fgz (zs o 401 az) k_fs1 (bN 7 z_fs1) k_fs2 z_fs2 k_fs3 z_fs3 k_fs4 z_fs4 k_fs5 z_fs5 k_fhi fhi k_flo flo) ++ zp 5 25 N az ac kz qs fz) ((gt0__t k_fgz k_fs1 k_fs2 k_fs3 k_fs4 k_fs5 k_fhi k_flo) ++ zt N kz) (va_A (((gt0__w g gz g1 g2 g3 g4 g5 (nI gc) (nI gfull) gx gway gav ggoal (nI gfound) 400 (nI gl) (nI gsz) g16 g17 k_fgz (zs o 401 az) k_fs1 (bN 7 q_fs1) k_fs2 fs2 k_fs3 fs3 k_fs4 fs4 k_fs5 fs5 k_fhi fhi k_flo flo) ++ zp 5 25 N az ac kz qs fz)) sz) t ∧ (z_gfound ≤ 1) ∧ (gz_ok (gc + 1) z_fs2 z_fs3 z_fs4) ∧ ((z_fs1, z_fs2, z_fs3, z_fs4, z_fs5, z_gfound) = (sp_E_1_record0_25 gc ggoal gfound q_fs1 fs2 fs3 fs4 fs5 a0))) (va_A (((gt0__w g gz g1 g2 g3 g4 g5 (nI gc) (nI gfull) gx gway gav ggoal (nI gfound) 400 (nI gl) (nI gsz) g16 g17 k_fgz (zs o 401 az) k_fs1 (bN 7 q_fs1) k_fs2 fs2 k_fs3 fs3 k_fs4 fs4 k_fs5 fs5 k_fhi fhi k_flo flo) ++ zp 5 25 N az ac kz qs fz)) sz)) 0 0 (va_A (((gt0__w g gz g1 g2 g3 g4 g5 (nI gc) (nI gfull) gx gway gav ggoal (nI gfound) 400 (nI gl) (nI gsz) g16 g17 k_fgz (zs o 401 az) k_fs1 (bN 7 q_fs1) k_fs2 fs2 k_fs3 fs3 k_fs4 fs4 k_fs5 fs5 k_fhi fhi k_flo flo) ++ zp 5 25 N az ac kz qs fz)) sz) := by
  refine Met.ofW (cc := cX1_record) (maxL := 4) (ret := none) (by decide) rfl ?_
  intro p e s m args below meth c s₁ B hml hv
  obtain ⟨rfl, rfl, hP, hK, hD0⟩ := hv
  have hx := B.exec
  have hb := B.bytes
  have hr := B.returns
  have hts := atoms_spec (ws := vs_E_1_record0_25) B.pre
  have v_1 := hts (.fieldLink RX1 24 "ClockReach$Graph" "sites" "[I") (List.mem_cons_of_mem _ cm_115)
  have v_2 := hts (.fieldLink RX1 79 "ClockReach$Graph" "count" "I") (List.mem_cons_of_mem _ cm_89)
  have v_3 := hts (.fieldLink RX1 28 "ClockReach$Graph" "parents" "[I") (List.mem_cons_of_mem _ cm_116)
  have v_4 := hts (.fieldLink RX1 31 "ClockReach$Graph" "entries" "[I") (List.mem_cons_of_mem _ cm_117)
  have v_5 := hts (.fieldLink RX1 34 "ClockReach$Graph" "depths" "[I") (List.mem_cons_of_mem _ cm_118)
  have v_6 := hts (.fieldLink RX1 37 "ClockReach$Graph" "broods" "[I") (List.mem_cons_of_mem _ cm_119)
  have v_7 := hts (.fieldLink RX1 59 "ClockReach$Graph" "goal" "I") (List.mem_cons_of_mem _ cm_80)
  have v_8 := hts (.fieldLink RX1 62 "ClockReach$Graph" "found" "Z") (List.mem_cons_of_mem _ cm_81)
  have hown : s.vm.findClass RX1 = some m.cls := findClass_of_methodNamed B.named
  have hlocks := B.notSynchronized
  have hiX1 : ∀ w ∈ wsX10, w ∈ vs_E_1_record0_25 := fun _ h => List.mem_cons_of_mem _ (cm_X1 h)
  have hD := hD0.self (sz := s.heap.size)
  generalize hAe : va_A (((gt0__w g gz g1 g2 g3 g4 g5 (nI gc) (nI gfull) gx gway gav ggoal (nI gfound) 400 (nI gl) (nI gsz) g16 g17 k_fgz (zs o 401 az) k_fs1 (bN 7 q_fs1) k_fs2 fs2 k_fs3 fs3 k_fs4 fs4 k_fs5 fs5 k_fhi fhi k_flo flo) ++ zp 5 25 N az ac kz qs fz)) s.heap.size = A at hD ⊢
  have hA : ∀ q : Nat, s.heap.size ≤ q → A q := fun q h => by rw [← hAe]; exact Or.inr h
  have hS : va_S A s.heap s.heap [] := va_S.rf
  have hl := lv_entry ([.ref g, .int (nI a0), .int (-1), .int (-1)]) (n := 4) (Nat.le_of_ble_eq_true rfl)
  rw [lg_entry_eq]
  generalize (lg_sl ([.ref g, .int (nI a0), .int (-1), .int (-1)]) ++ List.replicate (4 - (lg_sl ([.ref g, .int (nI a0), .int (-1), .int (-1)])).length) Slot.unset).toArray = ls at hl ⊢
  have hl : lv_has ls 4 [(0, .ref g), (1, .int (nI a0)), (2, .int (-1)), (3, .int (-1))] := hl
  obtain ⟨RR, hRR⟩ : ∃ x, x = (sp_E_1_record0_25 gc ggoal gfound q_fs1 fs2 fs3 fs4 fs5 a0) := ⟨_, rfl⟩
  have hsp := hRR
  refine lv_aload_n hx hb eX1_record_0 rfl (lv_at hl 0 rfl) ?_
  refine va_get (D := (dC, dI)) (ci := 1) (v := .ref g1) (C := RX1) (T := TX1) (N := 18) hx hb hts hiX1 hown hK hP 0 rfl rfl 1 (by decide) v_1 (fun _ h9 => h9) rfl eX1_record_1 ?_
  refine lv_aload_n hx hb eX1_record_4 rfl (lv_at hl 0 rfl) ?_
  refine va_get (D := (dC, dI)) (ci := 1) (v := .int (nI gc)) (C := RX1) (T := TX1) (N := 18) hx hb hts hiX1 hown hK hP 0 rfl rfl 6 (by decide) v_2 (fun _ h9 => h9) rfl eX1_record_5 ?_
  refine lv_iload_n hx hb eX1_record_8 rfl (lv_at hl 1 rfl) ?_
  refine va_iast hx hb hK hP hD hS 2 1 rfl rfl (vp_in_nI (n := gc) (Nat.lt_of_le_of_lt hgc (Nat.le_of_ble_eq_true rfl)) (Nat.le_of_ble_eq_true rfl)) eX1_record_9 (fun H locs hP hD hS => ?_)
  obtain ⟨q_1, eq_1, kq_1, oq_1, xq_1⟩ := bN_upx 7 q_fs1 (n := gc) (v := a0) (Nat.lt_of_le_of_lt hgc (Nat.le_of_ble_eq_true rfl)) ha0
  have hP : va_P (dC, dI) vwCl ((gt0__w g gz g1 g2 g3 g4 g5 (nI gc) (nI gfull) gx gway gav ggoal (nI gfound) 400 (nI gl) (nI gsz) g16 g17 k_fgz (zs o 401 az) k_fs1 (bN 7 q_1) k_fs2 fs2 k_fs3 fs3 k_fs4 fs4 k_fs5 fs5 k_fhi fhi k_flo flo) ++ zp 5 25 N az ac kz qs fz) H := by rw [← eq_1]; exact hP
  have hD : va_D A ((gt0__w g gz g1 g2 g3 g4 g5 (nI gc) (nI gfull) gx gway gav ggoal (nI gfound) 400 (nI gl) (nI gsz) g16 g17 k_fgz (zs o 401 az) k_fs1 (bN 7 q_1) k_fs2 fs2 k_fs3 fs3 k_fs4 fs4 k_fs5 fs5 k_fhi fhi k_flo flo) ++ zp 5 25 N az ac kz qs fz) := by rw [← eq_1]; exact hD
  have hsp := hsp.trans (slet_eq xq_1)
  refine lv_aload_n hx hb eX1_record_10 rfl (lv_at hl 0 rfl) ?_
  refine va_get (D := (dC, dI)) (ci := 1) (v := .ref g2) (C := RX1) (T := TX1) (N := 18) hx hb hts hiX1 hown hK hP 0 rfl rfl 2 (by decide) v_3 (fun _ h9 => h9) rfl eX1_record_11 ?_
  refine lv_aload_n hx hb eX1_record_14 rfl (lv_at hl 0 rfl) ?_
  refine va_get (D := (dC, dI)) (ci := 1) (v := .int (nI gc)) (C := RX1) (T := TX1) (N := 18) hx hb hts hiX1 hown hK hP 0 rfl rfl 6 (by decide) v_2 (fun _ h9 => h9) rfl eX1_record_15 ?_
  refine lv_iload_n hx hb eX1_record_18 rfl (lv_at hl 2 rfl) ?_
  refine va_iast hx hb hK hP hD hS 3 2 rfl rfl (vp_in_nI (n := gc) (Nat.lt_of_le_of_lt hgc (Nat.le_of_ble_eq_true rfl)) (Nat.le_of_ble_eq_true rfl)) eX1_record_19 (fun H locs hP hD hS => ?_)
  obtain ⟨f_2, ef_2, xf_2⟩ := up_x fs2 (n := gc) (-1) (Nat.lt_of_le_of_lt hgc (Nat.le_of_ble_eq_true rfl))
  have hP : va_P (dC, dI) vwCl ((gt0__w g gz g1 g2 g3 g4 g5 (nI gc) (nI gfull) gx gway gav ggoal (nI gfound) 400 (nI gl) (nI gsz) g16 g17 k_fgz (zs o 401 az) k_fs1 (bN 7 q_1) k_fs2 f_2 k_fs3 fs3 k_fs4 fs4 k_fs5 fs5 k_fhi fhi k_flo flo) ++ zp 5 25 N az ac kz qs fz) H := by rw [← ef_2]; exact hP
  have hD : va_D A ((gt0__w g gz g1 g2 g3 g4 g5 (nI gc) (nI gfull) gx gway gav ggoal (nI gfound) 400 (nI gl) (nI gsz) g16 g17 k_fgz (zs o 401 az) k_fs1 (bN 7 q_1) k_fs2 f_2 k_fs3 fs3 k_fs4 fs4 k_fs5 fs5 k_fhi fhi k_flo flo) ++ zp 5 25 N az ac kz qs fz) := by rw [← ef_2]; exact hD
  have hsp := hsp.trans (slet_eq xf_2)
  refine lv_aload_n hx hb eX1_record_20 rfl (lv_at hl 0 rfl) ?_
  refine va_get (D := (dC, dI)) (ci := 1) (v := .ref g3) (C := RX1) (T := TX1) (N := 18) hx hb hts hiX1 hown hK hP 0 rfl rfl 3 (by decide) v_4 (fun _ h9 => h9) rfl eX1_record_21 ?_
  refine lv_aload_n hx hb eX1_record_24 rfl (lv_at hl 0 rfl) ?_
  refine va_get (D := (dC, dI)) (ci := 1) (v := .int (nI gc)) (C := RX1) (T := TX1) (N := 18) hx hb hts hiX1 hown hK hP 0 rfl rfl 6 (by decide) v_2 (fun _ h9 => h9) rfl eX1_record_25 ?_
  refine lv_iload_n hx hb eX1_record_28 rfl (lv_at hl 3 rfl) ?_
  refine va_iast hx hb hK hP hD hS 4 3 rfl rfl (vp_in_nI (n := gc) (Nat.lt_of_le_of_lt hgc (Nat.le_of_ble_eq_true rfl)) (Nat.le_of_ble_eq_true rfl)) eX1_record_29 (fun H locs hP hD hS => ?_)
  obtain ⟨f_3, ef_3, xf_3⟩ := up_x fs3 (n := gc) (-1) (Nat.lt_of_le_of_lt hgc (Nat.le_of_ble_eq_true rfl))
  have hP : va_P (dC, dI) vwCl ((gt0__w g gz g1 g2 g3 g4 g5 (nI gc) (nI gfull) gx gway gav ggoal (nI gfound) 400 (nI gl) (nI gsz) g16 g17 k_fgz (zs o 401 az) k_fs1 (bN 7 q_1) k_fs2 f_2 k_fs3 f_3 k_fs4 fs4 k_fs5 fs5 k_fhi fhi k_flo flo) ++ zp 5 25 N az ac kz qs fz) H := by rw [← ef_3]; exact hP
  have hD : va_D A ((gt0__w g gz g1 g2 g3 g4 g5 (nI gc) (nI gfull) gx gway gav ggoal (nI gfound) 400 (nI gl) (nI gsz) g16 g17 k_fgz (zs o 401 az) k_fs1 (bN 7 q_1) k_fs2 f_2 k_fs3 f_3 k_fs4 fs4 k_fs5 fs5 k_fhi fhi k_flo flo) ++ zp 5 25 N az ac kz qs fz) := by rw [← ef_3]; exact hD
  have hsp := hsp.trans (slet_eq xf_3)
  refine lv_aload_n hx hb eX1_record_30 rfl (lv_at hl 0 rfl) ?_
  refine va_get (D := (dC, dI)) (ci := 1) (v := .ref g4) (C := RX1) (T := TX1) (N := 18) hx hb hts hiX1 hown hK hP 0 rfl rfl 4 (by decide) v_5 (fun _ h9 => h9) rfl eX1_record_31 ?_
  refine lv_aload_n hx hb eX1_record_34 rfl (lv_at hl 0 rfl) ?_
  refine va_get (D := (dC, dI)) (ci := 1) (v := .int (nI gc)) (C := RX1) (T := TX1) (N := 18) hx hb hts hiX1 hown hK hP 0 rfl rfl 6 (by decide) v_2 (fun _ h9 => h9) rfl eX1_record_35 ?_
  refine lv_iconst (v := 0) hx hb eX1_record_38 (by decide) ?_
  refine va_iast hx hb hK hP hD hS 5 4 rfl rfl (vp_in_nI (n := gc) (Nat.lt_of_le_of_lt hgc (Nat.le_of_ble_eq_true rfl)) (Nat.le_of_ble_eq_true rfl)) eX1_record_39 (fun H locs hP hD hS => ?_)
  obtain ⟨f_4, ef_4, xf_4⟩ := up_x fs4 (n := gc) 0 (Nat.lt_of_le_of_lt hgc (Nat.le_of_ble_eq_true rfl))
  have hP : va_P (dC, dI) vwCl ((gt0__w g gz g1 g2 g3 g4 g5 (nI gc) (nI gfull) gx gway gav ggoal (nI gfound) 400 (nI gl) (nI gsz) g16 g17 k_fgz (zs o 401 az) k_fs1 (bN 7 q_1) k_fs2 f_2 k_fs3 f_3 k_fs4 f_4 k_fs5 fs5 k_fhi fhi k_flo flo) ++ zp 5 25 N az ac kz qs fz) H := by rw [← ef_4]; exact hP
  have hD : va_D A ((gt0__w g gz g1 g2 g3 g4 g5 (nI gc) (nI gfull) gx gway gav ggoal (nI gfound) 400 (nI gl) (nI gsz) g16 g17 k_fgz (zs o 401 az) k_fs1 (bN 7 q_1) k_fs2 f_2 k_fs3 f_3 k_fs4 f_4 k_fs5 fs5 k_fhi fhi k_flo flo) ++ zp 5 25 N az ac kz qs fz) := by rw [← ef_4]; exact hD
  have hsp := hsp.trans (slet_eq xf_4)
  refine lv_aload_n hx hb eX1_record_40 rfl (lv_at hl 0 rfl) ?_
  refine va_get (D := (dC, dI)) (ci := 1) (v := .ref g5) (C := RX1) (T := TX1) (N := 18) hx hb hts hiX1 hown hK hP 0 rfl rfl 5 (by decide) v_6 (fun _ h9 => h9) rfl eX1_record_41 ?_
  refine lv_aload_n hx hb eX1_record_44 rfl (lv_at hl 0 rfl) ?_
  refine va_get (D := (dC, dI)) (ci := 1) (v := .int (nI gc)) (C := RX1) (T := TX1) (N := 18) hx hb hts hiX1 hown hK hP 0 rfl rfl 6 (by decide) v_2 (fun _ h9 => h9) rfl eX1_record_45 ?_
  refine lv_iconst (v := 0) hx hb eX1_record_48 (by decide) ?_
  refine va_iast hx hb hK hP hD hS 6 5 rfl rfl (vp_in_nI (n := gc) (Nat.lt_of_le_of_lt hgc (Nat.le_of_ble_eq_true rfl)) (Nat.le_of_ble_eq_true rfl)) eX1_record_49 (fun H locs hP hD hS => ?_)
  obtain ⟨f_5, ef_5, xf_5⟩ := up_x fs5 (n := gc) 0 (Nat.lt_of_le_of_lt hgc (Nat.le_of_ble_eq_true rfl))
  have hP : va_P (dC, dI) vwCl ((gt0__w g gz g1 g2 g3 g4 g5 (nI gc) (nI gfull) gx gway gav ggoal (nI gfound) 400 (nI gl) (nI gsz) g16 g17 k_fgz (zs o 401 az) k_fs1 (bN 7 q_1) k_fs2 f_2 k_fs3 f_3 k_fs4 f_4 k_fs5 f_5 k_fhi fhi k_flo flo) ++ zp 5 25 N az ac kz qs fz) H := by rw [← ef_5]; exact hP
  have hD : va_D A ((gt0__w g gz g1 g2 g3 g4 g5 (nI gc) (nI gfull) gx gway gav ggoal (nI gfound) 400 (nI gl) (nI gsz) g16 g17 k_fgz (zs o 401 az) k_fs1 (bN 7 q_1) k_fs2 f_2 k_fs3 f_3 k_fs4 f_4 k_fs5 f_5 k_fhi fhi k_flo flo) ++ zp 5 25 N az ac kz qs fz) := by rw [← ef_5]; exact hD
  have hsp := hsp.trans (slet_eq xf_5)
  refine lv_iload_n hx hb eX1_record_50 rfl (lv_at hl 2 rfl) ?_
  refine lv_iconst (v := (-1)) hx hb eX1_record_51 (by decide) ?_
  refine lv_icmp_eq (tgt := 82) hx hb eX1_record_52 (by decide) (fun _ => ?_) (fun z => absurd z (by decide))
  refine lv_aload_n hx hb eX1_record_82 rfl (lv_at hl 0 rfl) ?_
  refine lv_dup hx hb eX1_record_83 rfl ?_
  refine va_get (D := (dC, dI)) (ci := 1) (v := .int (nI gc)) (C := RX1) (T := TX1) (N := 18) hx hb hts hiX1 hown hK hP 0 rfl rfl 6 (by decide) v_2 (fun _ h9 => h9) rfl eX1_record_84 ?_
  refine lv_iconst (v := 1) hx hb eX1_record_87 (by decide) ?_
  refine lv_iadd hx hb eX1_record_88 ?_
  refine lv_topi (fun y_6 ey_6 => ?_)
  obtain rfl : y_6 = (nI (gc + 1)) := ey_6.trans (nI_add gc 1)
  refine va_put (D := (dC, dI)) (ci := 1) (v := .int (nI (gc + 1))) (ty := .int) (C := RX1) (T := TX1) (N := 18) hx hb hts hiX1 tyX1 tyX1_ok nmX1 hown hK hP hD hS 0 rfl rfl 6 (by decide) v_2 (fun _ h9 => h9) rfl (by decide +kernel) rfl rfl (Nat.le_of_ble_eq_true rfl) eX1_record_89 (fun H locs hP hD hS => ?_)
  have hP : va_P (dC, dI) vwCl ((gt0__w g gz g1 g2 g3 g4 g5 (nI (gc + 1)) (nI gfull) gx gway gav ggoal (nI gfound) 400 (nI gl) (nI gsz) g16 g17 k_fgz (zs o 401 az) k_fs1 (bN 7 q_1) k_fs2 f_2 k_fs3 f_3 k_fs4 f_4 k_fs5 f_5 k_fhi fhi k_flo flo) ++ zp 5 25 N az ac kz qs fz) H := hP
  have hD : va_D A ((gt0__w g gz g1 g2 g3 g4 g5 (nI (gc + 1)) (nI gfull) gx gway gav ggoal (nI gfound) 400 (nI gl) (nI gsz) g16 g17 k_fgz (zs o 401 az) k_fs1 (bN 7 q_1) k_fs2 f_2 k_fs3 f_3 k_fs4 f_4 k_fs5 f_5 k_fhi fhi k_flo flo) ++ zp 5 25 N az ac kz qs fz) := hD
  refine lv_iload_n hx hb eX1_record_92 rfl (lv_at hl 1 rfl) ?_
  refine lv_aload_n hx hb eX1_record_93 rfl (lv_at hl 0 rfl) ?_
  refine va_get (D := (dC, dI)) (ci := 1) (v := .int ggoal) (C := RX1) (T := TX1) (N := 18) hx hb hts hiX1 hown hK hP 0 rfl rfl 11 (by decide) v_7 (fun _ h9 => h9) rfl eX1_record_94 ?_
  refine lv_icmp_ne (tgt := 105) hx hb eX1_record_97 (by decide) (fun c_7 => ?_) (fun c_7 => ?_)
  · have hcc_7 := c_7
    have hsp := hsp.trans (if_neg c_7)
    exact W.vret hx hb hr (fun t ht hW => ⟨⟨(), rfl, trivial, ⟨q_1, f_2, f_3, f_4, f_5, gfound, ⟨by rw [ht]; exact hP, va_K.moved hW.alike hK, hD⟩, hgfound, by simp only [xf_2, xf_3, xf_4]; exact gz_firstx hq0 (by omega), (hsp.symm.trans hRR)⟩⟩, hS.F ht⟩) hS.2.2 eX1_record_105
  · have hcc_7 := c_7
    have hsp := hsp.trans (if_pos c_7)
    refine lv_aload_n hx hb eX1_record_100 rfl (lv_at hl 0 rfl) ?_
    refine lv_iconst (v := 1) hx hb eX1_record_101 (by decide) ?_
    refine va_put (D := (dC, dI)) (ci := 1) (v := .int 1) (ty := .boolean) (C := RX1) (T := TX1) (N := 18) hx hb hts hiX1 tyX1 tyX1_ok nmX1 hown hK hP hD hS 0 rfl rfl 12 (by decide) v_8 (fun _ h9 => h9) rfl (by decide +kernel) rfl rfl (Nat.le_of_ble_eq_true rfl) eX1_record_102 (fun H locs hP hD hS => ?_)
    have hP : va_P (dC, dI) vwCl ((gt0__w g gz g1 g2 g3 g4 g5 (nI (gc + 1)) (nI gfull) gx gway gav ggoal 1 400 (nI gl) (nI gsz) g16 g17 k_fgz (zs o 401 az) k_fs1 (bN 7 q_1) k_fs2 f_2 k_fs3 f_3 k_fs4 f_4 k_fs5 f_5 k_fhi fhi k_flo flo) ++ zp 5 25 N az ac kz qs fz) H := hP
    have hD : va_D A ((gt0__w g gz g1 g2 g3 g4 g5 (nI (gc + 1)) (nI gfull) gx gway gav ggoal 1 400 (nI gl) (nI gsz) g16 g17 k_fgz (zs o 401 az) k_fs1 (bN 7 q_1) k_fs2 f_2 k_fs3 f_3 k_fs4 f_4 k_fs5 f_5 k_fhi fhi k_flo flo) ++ zp 5 25 N az ac kz qs fz) := hD
    exact W.vret hx hb hr (fun t ht hW => ⟨⟨(), rfl, trivial, ⟨q_1, f_2, f_3, f_4, f_5, 1, ⟨by rw [ht]; exact hP, va_K.moved hW.alike hK, hD⟩, (Nat.le_of_ble_eq_true rfl), by simp only [xf_2, xf_3, xf_4]; exact gz_firstx hq0 (by omega), (hsp.symm.trans hRR)⟩⟩, hS.F ht⟩) hS.2.2 eX1_record_105
abbrev vs_E_1_record1_25 : List Cond := .code yX1_record cX1_record 4 none :: CM
noncomputable def sp_E_1_record1_25 (gc : Nat) (ggoal : Int32) (gfound : Nat) (q_fs1 : Nat → Nat) (fs2 : Nat → Int32) (fs3 : Nat → Int32) (fs4 : Nat → Int32) (fs5 : Nat → Int32) (a0 : Nat) (a1 : Nat) (a2 : Nat) : (Nat → Nat) × (Nat → Int32) × (Nat → Int32) × (Nat → Int32) × (Nat → Int32) × Nat := (slet (updN q_fs1 gc a0) (fun q_1 => (slet (upd fs2 gc (nI a1)) (fun f_2 => (slet (upd fs3 gc (nI a2)) (fun f_3 => (slet (upd fs4 gc 0) (fun f_4 => (slet (upd fs5 gc 0) (fun f_5 => (slet (f_4 a1) (fun y_6 => (slet ((y_6 : Int32) + 1) (fun y_7 => (slet (upd f_4 gc y_7) (fun f_8 => (slet (f_5 a1) (fun y_9 => (slet ((y_9 : Int32) + 1) (fun y_10 => (slet (upd f_5 a1 y_10) (fun f_11 => (if ((nI a0) : Int32) = ggoal then (q_1, f_2, f_3, f_8, f_11, 1) else (q_1, f_2, f_3, f_8, f_11, gfound))))))))))))))))))))))))
set_option maxHeartbeats 4000000 in
set_option maxRecDepth 100000 in
theorem c_E_1_record1_25 (l : Launch) (dC : Nat → ClassId) (dI : Nat → Nat → Nat) (sz : Nat) (g : Nat) (gz : Nat) (g1 : Nat) (g2 : Nat) (g3 : Nat) (g4 : Nat) (g5 : Nat) (gc : Nat) (gfull : Nat) (gx : Int32) (gway : Int32) (gav : Int32) (ggoal : Int32) (gfound : Nat) (gl : Nat) (gsz : Nat) (g16 : Nat) (g17 : Nat) (k_fgz : ClassId) (k_fs1 : ClassId) (q_fs1 : Nat → Nat) (k_fs2 : ClassId) (fs2 : Nat → Int32) (k_fs3 : ClassId) (fs3 : Nat → Int32) (k_fs4 : ClassId) (fs4 : Nat → Int32) (k_fs5 : ClassId) (fs5 : Nat → Int32) (k_fhi : ClassId) (fhi : Nat → Int32) (k_flo : ClassId) (flo : Nat → Int32) (N : Nat) (o : Nat) (az ac : Nat → Nat) (kz : Nat → ClassId) (qs : Nat → Nat) (fz : Nat → Nat → Int32) (a0 : Nat) (a1 : Nat) (a2 : Nat) (hgc : gc ≤ 399) (hgfull : gfull ≤ 1) (hgfound : gfound ≤ 1) (hgl : gl ≤ 1) (hgsz : gsz ≤ 5) (hN : o + 401 ≤ N) (ha0 : a0 ≤ 7) (ha1 : a1 ≤ 399) (ha2 : a2 ≤ 13) (hq0 : gz_ok gc fs2 fs3 fs4) (hq1 : a1 < gc) : Met l yX1_record vs_E_1_record1_25 ({ frames := 0, cells := 0, slots := 0, locals := 0 }) (va_Pc [.ref g, .int (nI a0), .int (nI a1), .int (nI a2)] (pu_B (dC, dI) ((gt0__w g gz g1 g2 g3 g4 g5 (nI gc) (nI gfull) gx gway gav ggoal (nI gfound) 400 (nI gl) (nI gsz) g16 g17 k_fgz (zs o 401 az) k_fs1 (bN 7 q_fs1) k_fs2 fs2 k_fs3 fs3 k_fs4 fs4 k_fs5 fs5 k_fhi fhi k_flo flo) ++ zp 5 25 N az ac kz qs fz) ((gt0__t k_fgz k_fs1 k_fs2 k_fs3 k_fs4 k_fs5 k_fhi k_flo) ++ zt N kz) sz)) (va_Qv (fun (_ : Unit) => True) (fun _ t => ∃ (z_fs1 : Nat → Nat) (z_fs2 : Nat → Int32) (z_fs3 : Nat → Int32) (z_fs4 : Nat → Int32) (z_fs5 : Nat → Int32) (z_gfound : Nat), pu_E (dC, dI) ((gt0__w g gz g1 g2 g3 g4 g5 (nI (gc + 1)) (nI gfull) gx gway gav ggoal (nI z_gfound) 400 (nI gl) (nI gsz) g16 g17 k_fgz (zs o 401 az) k_fs1 (bN 7 z_fs1) k_fs2 z_fs2 k_fs3 z_fs3 k_fs4 z_fs4 k_fs5 z_fs5 k_fhi fhi k_flo flo) ++ zp 5 25 N az ac kz qs fz) ((gt0__t k_fgz k_fs1 k_fs2 k_fs3 k_fs4 k_fs5 k_fhi k_flo) ++ zt N kz) (va_A (((gt0__w g gz g1 g2 g3 g4 g5 (nI gc) (nI gfull) gx gway gav ggoal (nI gfound) 400 (nI gl) (nI gsz) g16 g17 k_fgz (zs o 401 az) k_fs1 (bN 7 q_fs1) k_fs2 fs2 k_fs3 fs3 k_fs4 fs4 k_fs5 fs5 k_fhi fhi k_flo flo) ++ zp 5 25 N az ac kz qs fz)) sz) t ∧ (z_gfound ≤ 1) ∧ (gz_ok (gc + 1) z_fs2 z_fs3 z_fs4) ∧ ((z_fs1, z_fs2, z_fs3, z_fs4, z_fs5, z_gfound) = (sp_E_1_record1_25 gc ggoal gfound q_fs1 fs2 fs3 fs4 fs5 a0 a1 a2))) (va_A (((gt0__w g gz g1 g2 g3 g4 g5 (nI gc) (nI gfull) gx gway gav ggoal (nI gfound) 400 (nI gl) (nI gsz) g16 g17 k_fgz (zs o 401 az) k_fs1 (bN 7 q_fs1) k_fs2 fs2 k_fs3 fs3 k_fs4 fs4 k_fs5 fs5 k_fhi fhi k_flo flo) ++ zp 5 25 N az ac kz qs fz)) sz)) 0 0 (va_A (((gt0__w g gz g1 g2 g3 g4 g5 (nI gc) (nI gfull) gx gway gav ggoal (nI gfound) 400 (nI gl) (nI gsz) g16 g17 k_fgz (zs o 401 az) k_fs1 (bN 7 q_fs1) k_fs2 fs2 k_fs3 fs3 k_fs4 fs4 k_fs5 fs5 k_fhi fhi k_flo flo) ++ zp 5 25 N az ac kz qs fz)) sz) := by
  refine Met.ofW (cc := cX1_record) (maxL := 4) (ret := none) (by decide) rfl ?_
  intro p e s m args below meth c s₁ B hml hv
  obtain ⟨rfl, rfl, hP, hK, hD0⟩ := hv
  have hx := B.exec
  have hb := B.bytes
  have hr := B.returns
  have hts := atoms_spec (ws := vs_E_1_record1_25) B.pre
  have v_1 := hts (.fieldLink RX1 24 "ClockReach$Graph" "sites" "[I") (List.mem_cons_of_mem _ cm_115)
  have v_2 := hts (.fieldLink RX1 79 "ClockReach$Graph" "count" "I") (List.mem_cons_of_mem _ cm_89)
  have v_3 := hts (.fieldLink RX1 28 "ClockReach$Graph" "parents" "[I") (List.mem_cons_of_mem _ cm_116)
  have v_4 := hts (.fieldLink RX1 31 "ClockReach$Graph" "entries" "[I") (List.mem_cons_of_mem _ cm_117)
  have v_5 := hts (.fieldLink RX1 34 "ClockReach$Graph" "depths" "[I") (List.mem_cons_of_mem _ cm_118)
  have v_6 := hts (.fieldLink RX1 37 "ClockReach$Graph" "broods" "[I") (List.mem_cons_of_mem _ cm_119)
  have v_7 := hts (.fieldLink RX1 59 "ClockReach$Graph" "goal" "I") (List.mem_cons_of_mem _ cm_80)
  have v_8 := hts (.fieldLink RX1 62 "ClockReach$Graph" "found" "Z") (List.mem_cons_of_mem _ cm_81)
  have hown : s.vm.findClass RX1 = some m.cls := findClass_of_methodNamed B.named
  have hlocks := B.notSynchronized
  have hiX1 : ∀ w ∈ wsX10, w ∈ vs_E_1_record1_25 := fun _ h => List.mem_cons_of_mem _ (cm_X1 h)
  have hD := hD0.self (sz := s.heap.size)
  generalize hAe : va_A (((gt0__w g gz g1 g2 g3 g4 g5 (nI gc) (nI gfull) gx gway gav ggoal (nI gfound) 400 (nI gl) (nI gsz) g16 g17 k_fgz (zs o 401 az) k_fs1 (bN 7 q_fs1) k_fs2 fs2 k_fs3 fs3 k_fs4 fs4 k_fs5 fs5 k_fhi fhi k_flo flo) ++ zp 5 25 N az ac kz qs fz)) s.heap.size = A at hD ⊢
  have hA : ∀ q : Nat, s.heap.size ≤ q → A q := fun q h => by rw [← hAe]; exact Or.inr h
  have hS : va_S A s.heap s.heap [] := va_S.rf
  have hl := lv_entry ([.ref g, .int (nI a0), .int (nI a1), .int (nI a2)]) (n := 4) (Nat.le_of_ble_eq_true rfl)
  rw [lg_entry_eq]
  generalize (lg_sl ([.ref g, .int (nI a0), .int (nI a1), .int (nI a2)]) ++ List.replicate (4 - (lg_sl ([.ref g, .int (nI a0), .int (nI a1), .int (nI a2)])).length) Slot.unset).toArray = ls at hl ⊢
  have hl : lv_has ls 4 [(0, .ref g), (1, .int (nI a0)), (2, .int (nI a1)), (3, .int (nI a2))] := hl
  obtain ⟨RR, hRR⟩ : ∃ x, x = (sp_E_1_record1_25 gc ggoal gfound q_fs1 fs2 fs3 fs4 fs5 a0 a1 a2) := ⟨_, rfl⟩
  have hsp := hRR
  refine lv_aload_n hx hb eX1_record_0 rfl (lv_at hl 0 rfl) ?_
  refine va_get (D := (dC, dI)) (ci := 1) (v := .ref g1) (C := RX1) (T := TX1) (N := 18) hx hb hts hiX1 hown hK hP 0 rfl rfl 1 (by decide) v_1 (fun _ h9 => h9) rfl eX1_record_1 ?_
  refine lv_aload_n hx hb eX1_record_4 rfl (lv_at hl 0 rfl) ?_
  refine va_get (D := (dC, dI)) (ci := 1) (v := .int (nI gc)) (C := RX1) (T := TX1) (N := 18) hx hb hts hiX1 hown hK hP 0 rfl rfl 6 (by decide) v_2 (fun _ h9 => h9) rfl eX1_record_5 ?_
  refine lv_iload_n hx hb eX1_record_8 rfl (lv_at hl 1 rfl) ?_
  refine va_iast hx hb hK hP hD hS 2 1 rfl rfl (vp_in_nI (n := gc) (Nat.lt_of_le_of_lt hgc (Nat.le_of_ble_eq_true rfl)) (Nat.le_of_ble_eq_true rfl)) eX1_record_9 (fun H locs hP hD hS => ?_)
  obtain ⟨q_1, eq_1, kq_1, oq_1, xq_1⟩ := bN_upx 7 q_fs1 (n := gc) (v := a0) (Nat.lt_of_le_of_lt hgc (Nat.le_of_ble_eq_true rfl)) ha0
  have hP : va_P (dC, dI) vwCl ((gt0__w g gz g1 g2 g3 g4 g5 (nI gc) (nI gfull) gx gway gav ggoal (nI gfound) 400 (nI gl) (nI gsz) g16 g17 k_fgz (zs o 401 az) k_fs1 (bN 7 q_1) k_fs2 fs2 k_fs3 fs3 k_fs4 fs4 k_fs5 fs5 k_fhi fhi k_flo flo) ++ zp 5 25 N az ac kz qs fz) H := by rw [← eq_1]; exact hP
  have hD : va_D A ((gt0__w g gz g1 g2 g3 g4 g5 (nI gc) (nI gfull) gx gway gav ggoal (nI gfound) 400 (nI gl) (nI gsz) g16 g17 k_fgz (zs o 401 az) k_fs1 (bN 7 q_1) k_fs2 fs2 k_fs3 fs3 k_fs4 fs4 k_fs5 fs5 k_fhi fhi k_flo flo) ++ zp 5 25 N az ac kz qs fz) := by rw [← eq_1]; exact hD
  have hsp := hsp.trans (slet_eq xq_1)
  refine lv_aload_n hx hb eX1_record_10 rfl (lv_at hl 0 rfl) ?_
  refine va_get (D := (dC, dI)) (ci := 1) (v := .ref g2) (C := RX1) (T := TX1) (N := 18) hx hb hts hiX1 hown hK hP 0 rfl rfl 2 (by decide) v_3 (fun _ h9 => h9) rfl eX1_record_11 ?_
  refine lv_aload_n hx hb eX1_record_14 rfl (lv_at hl 0 rfl) ?_
  refine va_get (D := (dC, dI)) (ci := 1) (v := .int (nI gc)) (C := RX1) (T := TX1) (N := 18) hx hb hts hiX1 hown hK hP 0 rfl rfl 6 (by decide) v_2 (fun _ h9 => h9) rfl eX1_record_15 ?_
  refine lv_iload_n hx hb eX1_record_18 rfl (lv_at hl 2 rfl) ?_
  refine va_iast hx hb hK hP hD hS 3 2 rfl rfl (vp_in_nI (n := gc) (Nat.lt_of_le_of_lt hgc (Nat.le_of_ble_eq_true rfl)) (Nat.le_of_ble_eq_true rfl)) eX1_record_19 (fun H locs hP hD hS => ?_)
  obtain ⟨f_2, ef_2, xf_2⟩ := up_x fs2 (n := gc) (nI a1) (Nat.lt_of_le_of_lt hgc (Nat.le_of_ble_eq_true rfl))
  have hP : va_P (dC, dI) vwCl ((gt0__w g gz g1 g2 g3 g4 g5 (nI gc) (nI gfull) gx gway gav ggoal (nI gfound) 400 (nI gl) (nI gsz) g16 g17 k_fgz (zs o 401 az) k_fs1 (bN 7 q_1) k_fs2 f_2 k_fs3 fs3 k_fs4 fs4 k_fs5 fs5 k_fhi fhi k_flo flo) ++ zp 5 25 N az ac kz qs fz) H := by rw [← ef_2]; exact hP
  have hD : va_D A ((gt0__w g gz g1 g2 g3 g4 g5 (nI gc) (nI gfull) gx gway gav ggoal (nI gfound) 400 (nI gl) (nI gsz) g16 g17 k_fgz (zs o 401 az) k_fs1 (bN 7 q_1) k_fs2 f_2 k_fs3 fs3 k_fs4 fs4 k_fs5 fs5 k_fhi fhi k_flo flo) ++ zp 5 25 N az ac kz qs fz) := by rw [← ef_2]; exact hD
  have hsp := hsp.trans (slet_eq xf_2)
  refine lv_aload_n hx hb eX1_record_20 rfl (lv_at hl 0 rfl) ?_
  refine va_get (D := (dC, dI)) (ci := 1) (v := .ref g3) (C := RX1) (T := TX1) (N := 18) hx hb hts hiX1 hown hK hP 0 rfl rfl 3 (by decide) v_4 (fun _ h9 => h9) rfl eX1_record_21 ?_
  refine lv_aload_n hx hb eX1_record_24 rfl (lv_at hl 0 rfl) ?_
  refine va_get (D := (dC, dI)) (ci := 1) (v := .int (nI gc)) (C := RX1) (T := TX1) (N := 18) hx hb hts hiX1 hown hK hP 0 rfl rfl 6 (by decide) v_2 (fun _ h9 => h9) rfl eX1_record_25 ?_
  refine lv_iload_n hx hb eX1_record_28 rfl (lv_at hl 3 rfl) ?_
  refine va_iast hx hb hK hP hD hS 4 3 rfl rfl (vp_in_nI (n := gc) (Nat.lt_of_le_of_lt hgc (Nat.le_of_ble_eq_true rfl)) (Nat.le_of_ble_eq_true rfl)) eX1_record_29 (fun H locs hP hD hS => ?_)
  obtain ⟨f_3, ef_3, xf_3⟩ := up_x fs3 (n := gc) (nI a2) (Nat.lt_of_le_of_lt hgc (Nat.le_of_ble_eq_true rfl))
  have hP : va_P (dC, dI) vwCl ((gt0__w g gz g1 g2 g3 g4 g5 (nI gc) (nI gfull) gx gway gav ggoal (nI gfound) 400 (nI gl) (nI gsz) g16 g17 k_fgz (zs o 401 az) k_fs1 (bN 7 q_1) k_fs2 f_2 k_fs3 f_3 k_fs4 fs4 k_fs5 fs5 k_fhi fhi k_flo flo) ++ zp 5 25 N az ac kz qs fz) H := by rw [← ef_3]; exact hP
  have hD : va_D A ((gt0__w g gz g1 g2 g3 g4 g5 (nI gc) (nI gfull) gx gway gav ggoal (nI gfound) 400 (nI gl) (nI gsz) g16 g17 k_fgz (zs o 401 az) k_fs1 (bN 7 q_1) k_fs2 f_2 k_fs3 f_3 k_fs4 fs4 k_fs5 fs5 k_fhi fhi k_flo flo) ++ zp 5 25 N az ac kz qs fz) := by rw [← ef_3]; exact hD
  have hsp := hsp.trans (slet_eq xf_3)
  refine lv_aload_n hx hb eX1_record_30 rfl (lv_at hl 0 rfl) ?_
  refine va_get (D := (dC, dI)) (ci := 1) (v := .ref g4) (C := RX1) (T := TX1) (N := 18) hx hb hts hiX1 hown hK hP 0 rfl rfl 4 (by decide) v_5 (fun _ h9 => h9) rfl eX1_record_31 ?_
  refine lv_aload_n hx hb eX1_record_34 rfl (lv_at hl 0 rfl) ?_
  refine va_get (D := (dC, dI)) (ci := 1) (v := .int (nI gc)) (C := RX1) (T := TX1) (N := 18) hx hb hts hiX1 hown hK hP 0 rfl rfl 6 (by decide) v_2 (fun _ h9 => h9) rfl eX1_record_35 ?_
  refine lv_iconst (v := 0) hx hb eX1_record_38 (by decide) ?_
  refine va_iast hx hb hK hP hD hS 5 4 rfl rfl (vp_in_nI (n := gc) (Nat.lt_of_le_of_lt hgc (Nat.le_of_ble_eq_true rfl)) (Nat.le_of_ble_eq_true rfl)) eX1_record_39 (fun H locs hP hD hS => ?_)
  obtain ⟨f_4, ef_4, xf_4⟩ := up_x fs4 (n := gc) 0 (Nat.lt_of_le_of_lt hgc (Nat.le_of_ble_eq_true rfl))
  have hP : va_P (dC, dI) vwCl ((gt0__w g gz g1 g2 g3 g4 g5 (nI gc) (nI gfull) gx gway gav ggoal (nI gfound) 400 (nI gl) (nI gsz) g16 g17 k_fgz (zs o 401 az) k_fs1 (bN 7 q_1) k_fs2 f_2 k_fs3 f_3 k_fs4 f_4 k_fs5 fs5 k_fhi fhi k_flo flo) ++ zp 5 25 N az ac kz qs fz) H := by rw [← ef_4]; exact hP
  have hD : va_D A ((gt0__w g gz g1 g2 g3 g4 g5 (nI gc) (nI gfull) gx gway gav ggoal (nI gfound) 400 (nI gl) (nI gsz) g16 g17 k_fgz (zs o 401 az) k_fs1 (bN 7 q_1) k_fs2 f_2 k_fs3 f_3 k_fs4 f_4 k_fs5 fs5 k_fhi fhi k_flo flo) ++ zp 5 25 N az ac kz qs fz) := by rw [← ef_4]; exact hD
  have hsp := hsp.trans (slet_eq xf_4)
  refine lv_aload_n hx hb eX1_record_40 rfl (lv_at hl 0 rfl) ?_
  refine va_get (D := (dC, dI)) (ci := 1) (v := .ref g5) (C := RX1) (T := TX1) (N := 18) hx hb hts hiX1 hown hK hP 0 rfl rfl 5 (by decide) v_6 (fun _ h9 => h9) rfl eX1_record_41 ?_
  refine lv_aload_n hx hb eX1_record_44 rfl (lv_at hl 0 rfl) ?_
  refine va_get (D := (dC, dI)) (ci := 1) (v := .int (nI gc)) (C := RX1) (T := TX1) (N := 18) hx hb hts hiX1 hown hK hP 0 rfl rfl 6 (by decide) v_2 (fun _ h9 => h9) rfl eX1_record_45 ?_
  refine lv_iconst (v := 0) hx hb eX1_record_48 (by decide) ?_
  refine va_iast hx hb hK hP hD hS 6 5 rfl rfl (vp_in_nI (n := gc) (Nat.lt_of_le_of_lt hgc (Nat.le_of_ble_eq_true rfl)) (Nat.le_of_ble_eq_true rfl)) eX1_record_49 (fun H locs hP hD hS => ?_)
  obtain ⟨f_5, ef_5, xf_5⟩ := up_x fs5 (n := gc) 0 (Nat.lt_of_le_of_lt hgc (Nat.le_of_ble_eq_true rfl))
  have hP : va_P (dC, dI) vwCl ((gt0__w g gz g1 g2 g3 g4 g5 (nI gc) (nI gfull) gx gway gav ggoal (nI gfound) 400 (nI gl) (nI gsz) g16 g17 k_fgz (zs o 401 az) k_fs1 (bN 7 q_1) k_fs2 f_2 k_fs3 f_3 k_fs4 f_4 k_fs5 f_5 k_fhi fhi k_flo flo) ++ zp 5 25 N az ac kz qs fz) H := by rw [← ef_5]; exact hP
  have hD : va_D A ((gt0__w g gz g1 g2 g3 g4 g5 (nI gc) (nI gfull) gx gway gav ggoal (nI gfound) 400 (nI gl) (nI gsz) g16 g17 k_fgz (zs o 401 az) k_fs1 (bN 7 q_1) k_fs2 f_2 k_fs3 f_3 k_fs4 f_4 k_fs5 f_5 k_fhi fhi k_flo flo) ++ zp 5 25 N az ac kz qs fz) := by rw [← ef_5]; exact hD
  have hsp := hsp.trans (slet_eq xf_5)
  refine lv_iload_n hx hb eX1_record_50 rfl (lv_at hl 2 rfl) ?_
  refine lv_iconst (v := (-1)) hx hb eX1_record_51 (by decide) ?_
  refine lv_icmp_eq (tgt := 82) hx hb eX1_record_52 (by decide) (fun z => absurd z (pu_nneg (n := a1) (by omega) (by decide))) (fun _ => ?_)
  refine lv_aload_n hx hb eX1_record_55 rfl (lv_at hl 0 rfl) ?_
  refine va_get (D := (dC, dI)) (ci := 1) (v := .ref g4) (C := RX1) (T := TX1) (N := 18) hx hb hts hiX1 hown hK hP 0 rfl rfl 4 (by decide) v_5 (fun _ h9 => h9) rfl eX1_record_56 ?_
  refine lv_aload_n hx hb eX1_record_59 rfl (lv_at hl 0 rfl) ?_
  refine va_get (D := (dC, dI)) (ci := 1) (v := .int (nI gc)) (C := RX1) (T := TX1) (N := 18) hx hb hts hiX1 hown hK hP 0 rfl rfl 6 (by decide) v_2 (fun _ h9 => h9) rfl eX1_record_60 ?_
  refine lv_aload_n hx hb eX1_record_63 rfl (lv_at hl 0 rfl) ?_
  refine va_get (D := (dC, dI)) (ci := 1) (v := .ref g4) (C := RX1) (T := TX1) (N := 18) hx hb hts hiX1 hown hK hP 0 rfl rfl 4 (by decide) v_5 (fun _ h9 => h9) rfl eX1_record_64 ?_
  refine lv_iload_n hx hb eX1_record_67 rfl (lv_at hl 2 rfl) ?_
  refine va_iald hx hb hK hP 5 4 rfl rfl (vp_in_nI (n := a1) (Nat.lt_of_le_of_lt ha1 (Nat.le_of_ble_eq_true rfl)) (Nat.le_of_ble_eq_true rfl)) eX1_record_68 ?_
  refine lv_topi (fun y_6 ey_6 => ?_)
  have ey_6 : y_6 = f_4 a1 := ey_6.trans (congrArg f_4 (nI_clamp (n := a1) (Nat.lt_of_le_of_lt ha1 (Nat.le_of_ble_eq_true rfl))))
  have hsp := hsp.trans (slet_eq ey_6)
  refine lv_iconst (v := 1) hx hb eX1_record_69 (by decide) ?_
  refine lv_iadd hx hb eX1_record_70 ?_
  refine lv_topi (fun y_7 ey_7 => ?_)
  have hsp := hsp.trans (slet_eq ey_7)
  refine va_iast hx hb hK hP hD hS 5 4 rfl rfl (vp_in_nI (n := gc) (Nat.lt_of_le_of_lt hgc (Nat.le_of_ble_eq_true rfl)) (Nat.le_of_ble_eq_true rfl)) eX1_record_71 (fun H locs hP hD hS => ?_)
  obtain ⟨f_8, ef_8, xf_8⟩ := up_x f_4 (n := gc) y_7 (Nat.lt_of_le_of_lt hgc (Nat.le_of_ble_eq_true rfl))
  have hP : va_P (dC, dI) vwCl ((gt0__w g gz g1 g2 g3 g4 g5 (nI gc) (nI gfull) gx gway gav ggoal (nI gfound) 400 (nI gl) (nI gsz) g16 g17 k_fgz (zs o 401 az) k_fs1 (bN 7 q_1) k_fs2 f_2 k_fs3 f_3 k_fs4 f_8 k_fs5 f_5 k_fhi fhi k_flo flo) ++ zp 5 25 N az ac kz qs fz) H := by rw [← ef_8]; exact hP
  have hD : va_D A ((gt0__w g gz g1 g2 g3 g4 g5 (nI gc) (nI gfull) gx gway gav ggoal (nI gfound) 400 (nI gl) (nI gsz) g16 g17 k_fgz (zs o 401 az) k_fs1 (bN 7 q_1) k_fs2 f_2 k_fs3 f_3 k_fs4 f_8 k_fs5 f_5 k_fhi fhi k_flo flo) ++ zp 5 25 N az ac kz qs fz) := by rw [← ef_8]; exact hD
  have hsp := hsp.trans (slet_eq xf_8)
  refine lv_aload_n hx hb eX1_record_72 rfl (lv_at hl 0 rfl) ?_
  refine va_get (D := (dC, dI)) (ci := 1) (v := .ref g5) (C := RX1) (T := TX1) (N := 18) hx hb hts hiX1 hown hK hP 0 rfl rfl 5 (by decide) v_6 (fun _ h9 => h9) rfl eX1_record_73 ?_
  refine lv_iload_n hx hb eX1_record_76 rfl (lv_at hl 2 rfl) ?_
  refine lv_dup2_11 hx hb eX1_record_77 rfl rfl ?_
  refine va_iald hx hb hK hP 6 5 rfl rfl (vp_in_nI (n := a1) (Nat.lt_of_le_of_lt ha1 (Nat.le_of_ble_eq_true rfl)) (Nat.le_of_ble_eq_true rfl)) eX1_record_78 ?_
  refine lv_topi (fun y_9 ey_9 => ?_)
  have ey_9 : y_9 = f_5 a1 := ey_9.trans (congrArg f_5 (nI_clamp (n := a1) (Nat.lt_of_le_of_lt ha1 (Nat.le_of_ble_eq_true rfl))))
  have hsp := hsp.trans (slet_eq ey_9)
  refine lv_iconst (v := 1) hx hb eX1_record_79 (by decide) ?_
  refine lv_iadd hx hb eX1_record_80 ?_
  refine lv_topi (fun y_10 ey_10 => ?_)
  have hsp := hsp.trans (slet_eq ey_10)
  refine va_iast hx hb hK hP hD hS 6 5 rfl rfl (vp_in_nI (n := a1) (Nat.lt_of_le_of_lt ha1 (Nat.le_of_ble_eq_true rfl)) (Nat.le_of_ble_eq_true rfl)) eX1_record_81 (fun H locs hP hD hS => ?_)
  obtain ⟨f_11, ef_11, xf_11⟩ := up_x f_5 (n := a1) y_10 (Nat.lt_of_le_of_lt ha1 (Nat.le_of_ble_eq_true rfl))
  have hP : va_P (dC, dI) vwCl ((gt0__w g gz g1 g2 g3 g4 g5 (nI gc) (nI gfull) gx gway gav ggoal (nI gfound) 400 (nI gl) (nI gsz) g16 g17 k_fgz (zs o 401 az) k_fs1 (bN 7 q_1) k_fs2 f_2 k_fs3 f_3 k_fs4 f_8 k_fs5 f_11 k_fhi fhi k_flo flo) ++ zp 5 25 N az ac kz qs fz) H := by rw [← ef_11]; exact hP
  have hD : va_D A ((gt0__w g gz g1 g2 g3 g4 g5 (nI gc) (nI gfull) gx gway gav ggoal (nI gfound) 400 (nI gl) (nI gsz) g16 g17 k_fgz (zs o 401 az) k_fs1 (bN 7 q_1) k_fs2 f_2 k_fs3 f_3 k_fs4 f_8 k_fs5 f_11 k_fhi fhi k_flo flo) ++ zp 5 25 N az ac kz qs fz) := by rw [← ef_11]; exact hD
  have hsp := hsp.trans (slet_eq xf_11)
  refine lv_aload_n hx hb eX1_record_82 rfl (lv_at hl 0 rfl) ?_
  refine lv_dup hx hb eX1_record_83 rfl ?_
  refine va_get (D := (dC, dI)) (ci := 1) (v := .int (nI gc)) (C := RX1) (T := TX1) (N := 18) hx hb hts hiX1 hown hK hP 0 rfl rfl 6 (by decide) v_2 (fun _ h9 => h9) rfl eX1_record_84 ?_
  refine lv_iconst (v := 1) hx hb eX1_record_87 (by decide) ?_
  refine lv_iadd hx hb eX1_record_88 ?_
  refine lv_topi (fun y_12 ey_12 => ?_)
  obtain rfl : y_12 = (nI (gc + 1)) := ey_12.trans (nI_add gc 1)
  refine va_put (D := (dC, dI)) (ci := 1) (v := .int (nI (gc + 1))) (ty := .int) (C := RX1) (T := TX1) (N := 18) hx hb hts hiX1 tyX1 tyX1_ok nmX1 hown hK hP hD hS 0 rfl rfl 6 (by decide) v_2 (fun _ h9 => h9) rfl (by decide +kernel) rfl rfl (Nat.le_of_ble_eq_true rfl) eX1_record_89 (fun H locs hP hD hS => ?_)
  have hP : va_P (dC, dI) vwCl ((gt0__w g gz g1 g2 g3 g4 g5 (nI (gc + 1)) (nI gfull) gx gway gav ggoal (nI gfound) 400 (nI gl) (nI gsz) g16 g17 k_fgz (zs o 401 az) k_fs1 (bN 7 q_1) k_fs2 f_2 k_fs3 f_3 k_fs4 f_8 k_fs5 f_11 k_fhi fhi k_flo flo) ++ zp 5 25 N az ac kz qs fz) H := hP
  have hD : va_D A ((gt0__w g gz g1 g2 g3 g4 g5 (nI (gc + 1)) (nI gfull) gx gway gav ggoal (nI gfound) 400 (nI gl) (nI gsz) g16 g17 k_fgz (zs o 401 az) k_fs1 (bN 7 q_1) k_fs2 f_2 k_fs3 f_3 k_fs4 f_8 k_fs5 f_11 k_fhi fhi k_flo flo) ++ zp 5 25 N az ac kz qs fz) := hD
  refine lv_iload_n hx hb eX1_record_92 rfl (lv_at hl 1 rfl) ?_
  refine lv_aload_n hx hb eX1_record_93 rfl (lv_at hl 0 rfl) ?_
  refine va_get (D := (dC, dI)) (ci := 1) (v := .int ggoal) (C := RX1) (T := TX1) (N := 18) hx hb hts hiX1 hown hK hP 0 rfl rfl 11 (by decide) v_7 (fun _ h9 => h9) rfl eX1_record_94 ?_
  refine lv_icmp_ne (tgt := 105) hx hb eX1_record_97 (by decide) (fun c_13 => ?_) (fun c_13 => ?_)
  · have hcc_13 := c_13
    have hsp := hsp.trans (if_neg c_13)
    exact W.vret hx hb hr (fun t ht hW => ⟨⟨(), rfl, trivial, ⟨q_1, f_2, f_3, f_8, f_11, gfound, ⟨by rw [ht]; exact hP, va_K.moved hW.alike hK, hD⟩, hgfound, by simp only [xf_2, xf_3, xf_8, xf_4, ey_7, ey_6]; exact gz_recx hq0 (by omega) (by omega) (by omega), (hsp.symm.trans hRR)⟩⟩, hS.F ht⟩) hS.2.2 eX1_record_105
  · have hcc_13 := c_13
    have hsp := hsp.trans (if_pos c_13)
    refine lv_aload_n hx hb eX1_record_100 rfl (lv_at hl 0 rfl) ?_
    refine lv_iconst (v := 1) hx hb eX1_record_101 (by decide) ?_
    refine va_put (D := (dC, dI)) (ci := 1) (v := .int 1) (ty := .boolean) (C := RX1) (T := TX1) (N := 18) hx hb hts hiX1 tyX1 tyX1_ok nmX1 hown hK hP hD hS 0 rfl rfl 12 (by decide) v_8 (fun _ h9 => h9) rfl (by decide +kernel) rfl rfl (Nat.le_of_ble_eq_true rfl) eX1_record_102 (fun H locs hP hD hS => ?_)
    have hP : va_P (dC, dI) vwCl ((gt0__w g gz g1 g2 g3 g4 g5 (nI (gc + 1)) (nI gfull) gx gway gav ggoal 1 400 (nI gl) (nI gsz) g16 g17 k_fgz (zs o 401 az) k_fs1 (bN 7 q_1) k_fs2 f_2 k_fs3 f_3 k_fs4 f_8 k_fs5 f_11 k_fhi fhi k_flo flo) ++ zp 5 25 N az ac kz qs fz) H := hP
    have hD : va_D A ((gt0__w g gz g1 g2 g3 g4 g5 (nI (gc + 1)) (nI gfull) gx gway gav ggoal 1 400 (nI gl) (nI gsz) g16 g17 k_fgz (zs o 401 az) k_fs1 (bN 7 q_1) k_fs2 f_2 k_fs3 f_3 k_fs4 f_8 k_fs5 f_11 k_fhi fhi k_flo flo) ++ zp 5 25 N az ac kz qs fz) := hD
    exact W.vret hx hb hr (fun t ht hW => ⟨⟨(), rfl, trivial, ⟨q_1, f_2, f_3, f_8, f_11, 1, ⟨by rw [ht]; exact hP, va_K.moved hW.alike hK, hD⟩, (Nat.le_of_ble_eq_true rfl), by simp only [xf_2, xf_3, xf_8, xf_4, ey_7, ey_6]; exact gz_recx hq0 (by omega) (by omega) (by omega), (hsp.symm.trans hRR)⟩⟩, hS.F ht⟩) hS.2.2 eX1_record_105
abbrev vs_E_1_isKnown_25 : List Cond := .code yX1_isKnown cX1_isKnown 4 (some .boolean) :: CM
theorem g_E_1_isKnown_25_E_7_equalTo_25 : GoodIn vs_E_1_isKnown_25 (wsV RX1 143 RX7 yX7_equalTo vs_E_7_equalTo_25) := cm_gV cm_147 cm_148 cm_149 cm_45 cm_150
theorem g_E_1_isKnown_25_E_7_holdsAll_25 : GoodIn vs_E_1_isKnown_25 (wsV RX1 139 RX7 yX7_holdsAll vs_E_7_holdsAll_25) := cm_gV cm_143 cm_144 cm_145 cm_45 cm_146
noncomputable def sp_E_1_isKnown_25_L1 (gc : Nat) (gl : Nat) (q_fs1 : Nat → Nat) (o : Nat) (qs : Nat → Nat) (fz : Nat → Nat → Int32) (kk : Nat) (a1 : Nat) : (Nat) → (Nat) ⊕ (Nat) := fun g_2 => (if gc ≤ g_2 then (Sum.inr 0) else (slet (min (q_fs1 g_2) 7) (fun u_11 => (if u_11 = a1 then (if gl = 0 then (slet (sp_E_7_equalTo_25 (fz kk) (min (qs (o + g_2)) 5) (fz (o + g_2))) (fun u_15 => (if u_15 = 0 then (Sum.inl (g_2 + 1)) else (Sum.inr 1)))) else (slet (sp_E_7_holdsAll_25 (fz kk) (min (qs (o + g_2)) 5) (fz (o + g_2))) (fun u_18 => (if u_18 = 0 then (Sum.inl (g_2 + 1)) else (Sum.inr 1))))) else (Sum.inl (g_2 + 1))))))
noncomputable def sp_E_1_isKnown_25 (gc : Nat) (gl : Nat) (q_fs1 : Nat → Nat) (o : Nat) (qs : Nat → Nat) (fz : Nat → Nat → Int32) (kk : Nat) (a1 : Nat) : Nat := (itrv (α := Nat) (β := (Nat)) default (sp_E_1_isKnown_25_L1 gc gl q_fs1 o qs fz kk a1) 0)
set_option maxHeartbeats 4000000 in
set_option maxRecDepth 100000 in
theorem c_E_1_isKnown_25 (l : Launch) (dC : Nat → ClassId) (dI : Nat → Nat → Nat) (sz : Nat) (g : Nat) (gz : Nat) (g1 : Nat) (g2 : Nat) (g3 : Nat) (g4 : Nat) (g5 : Nat) (gc : Nat) (gfull : Nat) (gx : Int32) (gway : Int32) (gav : Int32) (ggoal : Int32) (gfound : Nat) (gl : Nat) (gsz : Nat) (g16 : Nat) (g17 : Nat) (k_fgz : ClassId) (k_fs1 : ClassId) (q_fs1 : Nat → Nat) (k_fs2 : ClassId) (fs2 : Nat → Int32) (k_fs3 : ClassId) (fs3 : Nat → Int32) (k_fs4 : ClassId) (fs4 : Nat → Int32) (k_fs5 : ClassId) (fs5 : Nat → Int32) (k_fhi : ClassId) (fhi : Nat → Int32) (k_flo : ClassId) (flo : Nat → Int32) (N : Nat) (o : Nat) (az ac : Nat → Nat) (kz : Nat → ClassId) (qs : Nat → Nat) (fz : Nat → Nat → Int32) (kk : Nat) (a1 : Nat) (hgc : gc ≤ 400) (hgfull : gfull ≤ 1) (hgfound : gfound ≤ 1) (hgl : gl ≤ 1) (hgsz : gsz ≤ 5) (hN : o + 401 ≤ N) (hkk : kk < N) (ha1 : a1 ≤ 7) (hq0 : o + gc ≤ kk) : Met l yX1_isKnown vs_E_1_isKnown_25 ({ frames := 1, cells := 0, slots := 0, locals := 22 }) (va_Pc [.ref g, .ref (az kk), .int (nI a1)] (pu_B (dC, dI) ((gt0__w g gz g1 g2 g3 g4 g5 (nI gc) (nI gfull) gx gway gav ggoal (nI gfound) 400 (nI gl) (nI gsz) g16 g17 k_fgz (zs o 401 az) k_fs1 (bN 7 q_fs1) k_fs2 fs2 k_fs3 fs3 k_fs4 fs4 k_fs5 fs5 k_fhi fhi k_flo flo) ++ zp 5 25 N az ac kz qs fz) ((gt0__t k_fgz k_fs1 k_fs2 k_fs3 k_fs4 k_fs5 k_fhi k_flo) ++ zt N kz) sz)) (va_Qi (fun (r : Int32) (_ : Unit) => ∃ v : Nat, v ≤ 1 ∧ r = nI v ∧ v = (sp_E_1_isKnown_25 gc gl q_fs1 o qs fz kk a1)) (fun _ _ => True) (va_A [] sz)) 0 0 (va_A [] sz) := by
  refine Met.ofW (cc := cX1_isKnown) (maxL := 4) (ret := (some .boolean)) (by decide) rfl ?_
  intro p e s m args below meth c s₁ B hml hv
  obtain ⟨rfl, rfl, hP, hK, hD0⟩ := hv
  have hx := B.exec
  have hb := B.bytes
  have hr := B.returns
  have hts := atoms_spec (ws := vs_E_1_isKnown_25) B.pre
  have v_1 := hts (.fieldLink RX1 79 "ClockReach$Graph" "count" "I") (List.mem_cons_of_mem _ cm_89)
  have v_2 := hts (.fieldLink RX1 24 "ClockReach$Graph" "sites" "[I") (List.mem_cons_of_mem _ cm_115)
  have v_3 := hts (.fieldLink RX1 49 "ClockReach$Graph" "leaves" "Z") (List.mem_cons_of_mem _ cm_77)
  have v_4 := hts (.fieldLink RX1 17 "ClockReach$Graph" "zones" "[LClockReach$Zone;") (List.mem_cons_of_mem _ cm_92)
  have hown : s.vm.findClass RX1 = some m.cls := findClass_of_methodNamed B.named
  have hlocks := B.notSynchronized
  have hiX1 : ∀ w ∈ wsX10, w ∈ vs_E_1_isKnown_25 := fun _ h => List.mem_cons_of_mem _ (cm_X1 h)
  have hD := hD0
  have hA : ∀ q : Nat, s.heap.size ≤ q → va_A [] s.heap.size q := fun _ h => Or.inr h
  have hS : va_S (va_A [] s.heap.size) s.heap s.heap [] := va_S.rf
  have hl := lv_entry ([.ref g, .ref (az kk), .int (nI a1)]) (n := 4) (Nat.le_of_ble_eq_true rfl)
  rw [lg_entry_eq]
  generalize (lg_sl ([.ref g, .ref (az kk), .int (nI a1)]) ++ List.replicate (4 - (lg_sl ([.ref g, .ref (az kk), .int (nI a1)])).length) Slot.unset).toArray = ls at hl ⊢
  have hl : lv_has ls 4 [(0, .ref g), (1, .ref (az kk)), (2, .int (nI a1))] := hl
  obtain ⟨RR, hRR⟩ : ∃ x, x = (sp_E_1_isKnown_25 gc gl q_fs1 o qs fz kk a1) := ⟨_, rfl⟩
  have hsp := hRR
  refine lv_iconst (v := 0) hx hb eX1_isKnown_0 (by decide) ?_
  refine lv_istore_n (lv' := [(3, .int 0), (0, .ref g), (1, .ref (az kk)), (2, .int (nI a1))]) hx hb eX1_isKnown_1 rfl hl (by decide) rfl (fun ls hl => ?_)
  obtain ⟨lf_4, dlf_4, hlf_4, hsp⟩ := itr_ex hsp
  delta sp_E_1_isKnown_25_L1 at hlf_4
  refine pu_while (fun nn H locs ls => ∃ (g_2 : Nat), nn = 400 - g_2 ∧ g_2 ≤ 400 ∧ RR = itrv dlf_4 lf_4 g_2 ∧ va_P (dC, dI) vwCl ((gt0__w g gz g1 g2 g3 g4 g5 (nI gc) (nI gfull) gx gway gav ggoal (nI gfound) 400 (nI gl) (nI gsz) g16 g17 k_fgz (zs o 401 az) k_fs1 (bN 7 q_fs1) k_fs2 fs2 k_fs3 fs3 k_fs4 fs4 k_fs5 fs5 k_fhi fhi k_flo flo) ++ zp 5 25 N az ac kz qs fz) H ∧ va_D (fun _ => True) ((gt0__w g gz g1 g2 g3 g4 g5 (nI gc) (nI gfull) gx gway gav ggoal (nI gfound) 400 (nI gl) (nI gsz) g16 g17 k_fgz (zs o 401 az) k_fs1 (bN 7 q_fs1) k_fs2 fs2 k_fs3 fs3 k_fs4 fs4 k_fs5 fs5 k_fhi fhi k_flo flo) ++ zp 5 25 N az ac kz qs fz) ∧ va_S (va_A [] s.heap.size) s.heap H locs ∧ lv_has ls 4 [(0, .ref g), (1, .ref (az kk)), (2, .int (nI a1)), (3, .int (nI g_2))]) 2 ?_ _ _ _ _ ⟨0, rfl, (Nat.le_of_ble_eq_true rfl), hsp, hP, hD, hS, lv_sub hl [1, 2, 3, 0] rfl⟩
  rintro nn ih_3 H locs ls ⟨g_2, rfl, hg_2, he_6, hP, hD, hS, hl⟩
  obtain ⟨S_5, hsp, hin_7, hout_8⟩ := itr_step hlf_4 he_6
  refine lv_iload_n hx hb eX1_isKnown_2 rfl (lv_at hl 3 rfl) ?_
  refine lv_aload_n hx hb eX1_isKnown_3 rfl (lv_at hl 0 rfl) ?_
  refine va_get (D := (dC, dI)) (ci := 1) (v := .int (nI gc)) (C := RX1) (T := TX1) (N := 18) hx hb hts hiX1 hown hK hP 0 rfl rfl 6 (by decide) v_1 (fun _ h9 => h9) rfl eX1_isKnown_4 ?_
  refine lv_icmp_ge (tgt := 64) hx hb eX1_isKnown_7 (by decide) (fun c_9 => ?_) (fun c_9 => ?_)
  · have c_9 : gc ≤ g_2 := (nI_leI (a := gc) (b := g_2) (Nat.lt_of_le_of_lt hgc (Nat.le_of_ble_eq_true rfl)) (Nat.lt_of_le_of_lt hg_2 (Nat.le_of_ble_eq_true rfl))).mp c_9
    have hsp := hsp.trans (if_pos c_9)
    have hsp := hout_8 _ hsp
    refine lv_iconst (v := 0) hx hb eX1_isKnown_64 (by decide) ?_
    exact W.zret (v := 0) (ty := .boolean) hx hb hr (rfl) (fun t ht hW => ⟨⟨0, (), rfl, ⟨0, (Nat.le_of_ble_eq_true rfl), rfl, (hsp.symm.trans hRR)⟩, trivial⟩, hS.F ht⟩) hS.2.2 eX1_isKnown_65
  · have c_9 : ¬ gc ≤ g_2 := fun z => c_9 ((nI_leI (a := gc) (b := g_2) (Nat.lt_of_le_of_lt hgc (Nat.le_of_ble_eq_true rfl)) (Nat.lt_of_le_of_lt hg_2 (Nat.le_of_ble_eq_true rfl))).mpr z)
    have hsp := hsp.trans (if_neg c_9)
    refine lv_aload_n hx hb eX1_isKnown_10 rfl (lv_at hl 0 rfl) ?_
    refine va_get (D := (dC, dI)) (ci := 1) (v := .ref g1) (C := RX1) (T := TX1) (N := 18) hx hb hts hiX1 hown hK hP 0 rfl rfl 1 (by decide) v_2 (fun _ h9 => h9) rfl eX1_isKnown_11 ?_
    refine lv_iload_n hx hb eX1_isKnown_14 rfl (lv_at hl 3 rfl) ?_
    refine va_iald hx hb hK hP 2 1 rfl rfl (vp_in_nI (n := g_2) (by omega) (Nat.le_of_ble_eq_true rfl)) eX1_isKnown_15 ?_
    refine lv_topi (fun y_10 ey_10 => ?_)
    obtain ⟨u_11, hu_11, qu_11, xu_11⟩ := bN_getx 7 q_fs1 (n := g_2) (Nat.lt_of_le_of_lt hg_2 (Nat.le_of_ble_eq_true rfl))
    obtain rfl : y_10 = nI u_11 := ey_10.trans qu_11
    have hsp := hsp.trans (slet_eq xu_11)
    refine lv_iload_n hx hb eX1_isKnown_16 rfl (lv_at hl 2 rfl) ?_
    refine lv_icmp_ne (tgt := 58) hx hb eX1_isKnown_17 (by decide) (fun c_12 => ?_) (fun c_12 => ?_)
    · have c_12 : ¬ u_11 = a1 := fun z => c_12 ((nI_eq (a := u_11) (b := a1) (Nat.lt_of_le_of_lt hu_11 (Nat.le_of_ble_eq_true rfl)) (Nat.lt_of_le_of_lt ha1 (Nat.le_of_ble_eq_true rfl))).mpr z)
      have hsp := hsp.trans (if_neg c_12)
      refine lv_iinc (v := (nI (g_2 + 1))) (lv' := [(3, .int (nI (g_2 + 1))), (0, .ref g), (1, .ref (az kk)), (2, .int (nI a1))]) hx hb eX1_isKnown_58 hl (k := 3) rfl (nI_1 _) (by decide) rfl (fun ls hl => ?_)
      refine lv_goto (tgt := 2) hx hb eX1_isKnown_61 (by decide) ?_
      exact ih_3 (400 - (g_2 + 1)) (by omega) _ _ _ ⟨(g_2 + 1), rfl, (by omega), hin_7 _ hsp, hP, hD, hS, lv_sub hl [1, 2, 3, 0] rfl⟩
    · have c_12 : u_11 = a1 := (nI_eq (a := u_11) (b := a1) (Nat.lt_of_le_of_lt hu_11 (Nat.le_of_ble_eq_true rfl)) (Nat.lt_of_le_of_lt ha1 (Nat.le_of_ble_eq_true rfl))).mp c_12
      have hsp := hsp.trans (if_pos c_12)
      refine lv_aload_n hx hb eX1_isKnown_20 rfl (lv_at hl 0 rfl) ?_
      refine va_get (D := (dC, dI)) (ci := 1) (v := .int (nI gl)) (C := RX1) (T := TX1) (N := 18) hx hb hts hiX1 hown hK hP 0 rfl rfl 14 (by decide) v_3 (fun _ h9 => h9) rfl eX1_isKnown_21 ?_
      refine lv_if_eq (tgt := 43) hx hb eX1_isKnown_24 (by decide) (fun c_13 => ?_) (fun c_13 => ?_)
      · have c_13 : gl = 0 := (nI_eq (a := gl) (b := 0) (Nat.lt_of_le_of_lt hgl (Nat.le_of_ble_eq_true rfl)) (Nat.le_of_ble_eq_true rfl)).mp c_13
        have hsp := hsp.trans (if_pos c_13)
        refine lv_aload_n hx hb eX1_isKnown_43 rfl (lv_at hl 0 rfl) ?_
        refine va_get (D := (dC, dI)) (ci := 1) (v := .ref gz) (C := RX1) (T := TX1) (N := 18) hx hb hts hiX1 hown hK hP 0 rfl rfl 0 (by decide) v_4 (fun _ h9 => h9) rfl eX1_isKnown_44 ?_
        refine lv_iload_n hx hb eX1_isKnown_47 rfl (lv_at hl 3 rfl) ?_
        refine va_aldq hx hb hK hP 1 0 rfl rfl (vp_in_nI (n := g_2) (Nat.lt_of_le_of_lt hg_2 (Nat.le_of_ble_eq_true rfl)) (Nat.le_of_ble_eq_true rfl)) eX1_isKnown_48 ?_
        refine W.eq (g2 := F0 m 49 ls [.ref (az (o + g_2))]) (by rw [zs_get (Nat.lt_of_le_of_lt hg_2 (Nat.le_of_ble_eq_true rfl)) (by omega)]) ?_
        refine lv_aload_n hx hb eX1_isKnown_49 rfl (lv_at hl 1 rfl) ?_
        have hPz := zp_cut (k := (o + g_2)) hP (by omega)
        have hPy := zp_cut (k := kk) hP (by omega)
        have hPc : va_P (dC, dI) vwCl ([(az kk, .inr (7, [.ref (ac kk), .int (nI (min (qs kk) 5))])), (ac kk, .inl (kz kk, 25, .inl (fz kk)))] ++ [(az (o + g_2), .inr (7, [.ref (ac (o + g_2)), .int (nI (min (qs (o + g_2)) 5))])), (ac (o + g_2), .inl (kz (o + g_2), 25, .inl (fz (o + g_2))))]) _ := va_P.app hPy hPz
        have hDc : va_D (fun _ => True) ([(az kk, .inr (7, [.ref (ac kk), .int (nI (min (qs kk) 5))])), (ac kk, .inl (kz kk, 25, .inl (fz kk)))] ++ [(az (o + g_2), .inr (7, [.ref (ac (o + g_2)), .int (nI (min (qs (o + g_2)) 5))])), (ac (o + g_2), .inl (kz (o + g_2), 25, .inl (fz (o + g_2))))]) := zp_cutD2 hD (by omega) (by omega) (by omega)
        have hKc : va_K (dC, dI) vwCl [(kz kk, .int), (kz (o + g_2), .int)] s := zp_K2 hK (by omega) (by omega)
        refine va_calli (va_runV (As := [.ref (az kk)]) (rest := []) ⟨hx, hb, hml, hown, hts⟩ (c_E_7_equalTo_25 l dC dI _ (az kk) (ac kk) (min (qs kk) 5) (kz kk) (fz kk) (az (o + g_2)) (ac (o + g_2)) (min (qs (o + g_2)) 5) (kz (o + g_2)) (fz (o + g_2)) (Nat.min_le_right _ _) (Nat.min_le_right _ _)) (cwV 1 hts g_E_1_isKnown_25_E_7_equalTo_25 rfl rfl rfl (by decide +kernel) ⟨Nat.le_of_ble_eq_true rfl, Nat.le_of_ble_eq_true rfl⟩) ⟨pu_bl, va_recv hK hPz (ci := 7) (q0 := 0) rfl rfl, pu_in hPc hKc hDc⟩ rfl rfl hl.1 rfl (lv_room (Nat.le_of_ble_eq_true rfl)) eX1_isKnown_50 ⟨Nat.le_of_ble_eq_true rfl, Nat.le_of_ble_eq_true rfl⟩) hS (fun q _ h => pu_fr hS hA q h) (pu_fr hS hA) (fun r_14 u t H1 locs ht hvm hw hB hz1 hk1 hS => ?_)
        have hP := pu_keep hP hk1
        clear hPc hDc hKc
        clear hk1 hz1 ht hvm
        generalize H1 = H at hP hS ⊢
        obtain ⟨u_15, hu_15, rfl, iu_15⟩ := hw
        have hsp := hsp.trans (slet_eq iu_15)
        refine lv_if_eq (tgt := 58) hx hb eX1_isKnown_53 (by decide) (fun c_16 => ?_) (fun c_16 => ?_)
        · have c_16 : u_15 = 0 := (nI_eq (a := u_15) (b := 0) (Nat.lt_of_le_of_lt hu_15 (Nat.le_of_ble_eq_true rfl)) (Nat.le_of_ble_eq_true rfl)).mp c_16
          have hsp := hsp.trans (if_pos c_16)
          refine lv_iinc (v := (nI (g_2 + 1))) (lv' := [(3, .int (nI (g_2 + 1))), (0, .ref g), (1, .ref (az kk)), (2, .int (nI a1))]) hx hb eX1_isKnown_58 hl (k := 3) rfl (nI_1 _) (by decide) rfl (fun ls hl => ?_)
          refine lv_goto (tgt := 2) hx hb eX1_isKnown_61 (by decide) ?_
          exact ih_3 (400 - (g_2 + 1)) (by omega) _ _ _ ⟨(g_2 + 1), rfl, (by omega), hin_7 _ hsp, hP, hD, hS, lv_sub hl [1, 2, 3, 0] rfl⟩
        · have c_16 : ¬ u_15 = 0 := fun z => c_16 ((nI_eq (a := u_15) (b := 0) (Nat.lt_of_le_of_lt hu_15 (Nat.le_of_ble_eq_true rfl)) (Nat.le_of_ble_eq_true rfl)).mpr z)
          have hsp := hsp.trans (if_neg c_16)
          have hsp := hout_8 _ hsp
          refine lv_iconst (v := 1) hx hb eX1_isKnown_56 (by decide) ?_
          exact W.zret (v := 1) (ty := .boolean) hx hb hr (rfl) (fun t ht hW => ⟨⟨1, (), rfl, ⟨1, (Nat.le_of_ble_eq_true rfl), rfl, (hsp.symm.trans hRR)⟩, trivial⟩, hS.F ht⟩) hS.2.2 eX1_isKnown_57
      · have c_13 : ¬ gl = 0 := fun z => c_13 ((nI_eq (a := gl) (b := 0) (Nat.lt_of_le_of_lt hgl (Nat.le_of_ble_eq_true rfl)) (Nat.le_of_ble_eq_true rfl)).mpr z)
        have hsp := hsp.trans (if_neg c_13)
        refine lv_aload_n hx hb eX1_isKnown_27 rfl (lv_at hl 0 rfl) ?_
        refine va_get (D := (dC, dI)) (ci := 1) (v := .ref gz) (C := RX1) (T := TX1) (N := 18) hx hb hts hiX1 hown hK hP 0 rfl rfl 0 (by decide) v_4 (fun _ h9 => h9) rfl eX1_isKnown_28 ?_
        refine lv_iload_n hx hb eX1_isKnown_31 rfl (lv_at hl 3 rfl) ?_
        refine va_aldq hx hb hK hP 1 0 rfl rfl (vp_in_nI (n := g_2) (Nat.lt_of_le_of_lt hg_2 (Nat.le_of_ble_eq_true rfl)) (Nat.le_of_ble_eq_true rfl)) eX1_isKnown_32 ?_
        refine W.eq (g2 := F0 m 33 ls [.ref (az (o + g_2))]) (by rw [zs_get (Nat.lt_of_le_of_lt hg_2 (Nat.le_of_ble_eq_true rfl)) (by omega)]) ?_
        refine lv_aload_n hx hb eX1_isKnown_33 rfl (lv_at hl 1 rfl) ?_
        have hPz := zp_cut (k := (o + g_2)) hP (by omega)
        have hPy := zp_cut (k := kk) hP (by omega)
        have hPc : va_P (dC, dI) vwCl ([(az kk, .inr (7, [.ref (ac kk), .int (nI (min (qs kk) 5))])), (ac kk, .inl (kz kk, 25, .inl (fz kk)))] ++ [(az (o + g_2), .inr (7, [.ref (ac (o + g_2)), .int (nI (min (qs (o + g_2)) 5))])), (ac (o + g_2), .inl (kz (o + g_2), 25, .inl (fz (o + g_2))))]) _ := va_P.app hPy hPz
        have hDc : va_D (fun _ => True) ([(az kk, .inr (7, [.ref (ac kk), .int (nI (min (qs kk) 5))])), (ac kk, .inl (kz kk, 25, .inl (fz kk)))] ++ [(az (o + g_2), .inr (7, [.ref (ac (o + g_2)), .int (nI (min (qs (o + g_2)) 5))])), (ac (o + g_2), .inl (kz (o + g_2), 25, .inl (fz (o + g_2))))]) := zp_cutD2 hD (by omega) (by omega) (by omega)
        have hKc : va_K (dC, dI) vwCl [(kz kk, .int), (kz (o + g_2), .int)] s := zp_K2 hK (by omega) (by omega)
        refine va_calli (va_runV (As := [.ref (az kk)]) (rest := []) ⟨hx, hb, hml, hown, hts⟩ (c_E_7_holdsAll_25 l dC dI _ (az kk) (ac kk) (min (qs kk) 5) (kz kk) (fz kk) (az (o + g_2)) (ac (o + g_2)) (min (qs (o + g_2)) 5) (kz (o + g_2)) (fz (o + g_2)) (Nat.min_le_right _ _) (Nat.min_le_right _ _)) (cwV 1 hts g_E_1_isKnown_25_E_7_holdsAll_25 rfl rfl rfl (by decide +kernel) ⟨Nat.le_of_ble_eq_true rfl, Nat.le_of_ble_eq_true rfl⟩) ⟨pu_bl, va_recv hK hPz (ci := 7) (q0 := 0) rfl rfl, pu_in hPc hKc hDc⟩ rfl rfl hl.1 rfl (lv_room (Nat.le_of_ble_eq_true rfl)) eX1_isKnown_34 ⟨Nat.le_of_ble_eq_true rfl, Nat.le_of_ble_eq_true rfl⟩) hS (fun q _ h => pu_fr hS hA q h) (pu_fr hS hA) (fun r_17 u t H1 locs ht hvm hw hB hz1 hk1 hS => ?_)
        have hP := pu_keep hP hk1
        clear hPc hDc hKc
        clear hk1 hz1 ht hvm
        generalize H1 = H at hP hS ⊢
        obtain ⟨u_18, hu_18, rfl, iu_18⟩ := hw
        have hsp := hsp.trans (slet_eq iu_18)
        refine lv_if_eq (tgt := 58) hx hb eX1_isKnown_37 (by decide) (fun c_19 => ?_) (fun c_19 => ?_)
        · have c_19 : u_18 = 0 := (nI_eq (a := u_18) (b := 0) (Nat.lt_of_le_of_lt hu_18 (Nat.le_of_ble_eq_true rfl)) (Nat.le_of_ble_eq_true rfl)).mp c_19
          have hsp := hsp.trans (if_pos c_19)
          refine lv_iinc (v := (nI (g_2 + 1))) (lv' := [(3, .int (nI (g_2 + 1))), (0, .ref g), (1, .ref (az kk)), (2, .int (nI a1))]) hx hb eX1_isKnown_58 hl (k := 3) rfl (nI_1 _) (by decide) rfl (fun ls hl => ?_)
          refine lv_goto (tgt := 2) hx hb eX1_isKnown_61 (by decide) ?_
          exact ih_3 (400 - (g_2 + 1)) (by omega) _ _ _ ⟨(g_2 + 1), rfl, (by omega), hin_7 _ hsp, hP, hD, hS, lv_sub hl [1, 2, 3, 0] rfl⟩
        · have c_19 : ¬ u_18 = 0 := fun z => c_19 ((nI_eq (a := u_18) (b := 0) (Nat.lt_of_le_of_lt hu_18 (Nat.le_of_ble_eq_true rfl)) (Nat.le_of_ble_eq_true rfl)).mpr z)
          have hsp := hsp.trans (if_neg c_19)
          have hsp := hout_8 _ hsp
          refine lv_goto (tgt := 56) hx hb eX1_isKnown_40 (by decide) ?_
          refine lv_iconst (v := 1) hx hb eX1_isKnown_56 (by decide) ?_
          exact W.zret (v := 1) (ty := .boolean) hx hb hr (rfl) (fun t ht hW => ⟨⟨1, (), rfl, ⟨1, (Nat.le_of_ble_eq_true rfl), rfl, (hsp.symm.trans hRR)⟩, trivial⟩, hS.F ht⟩) hS.2.2 eX1_isKnown_57
