abbrev vs_E_1_firstAt_25 : List Cond := .code yX1_firstAt cX1_firstAt 3 (some .int) :: CM
noncomputable def sp_E_1_firstAt_25_L1 (gc : Nat) (q_fs1 : Nat → Nat) (p0 : Int32) : (Nat) → (Nat) ⊕ (Int32) := fun g_2 => (if gc ≤ g_2 then (Sum.inr (-1)) else (slet (min (q_fs1 g_2) 7) (fun u_11 => (if ((nI u_11) : Int32) = p0 then (Sum.inr (nI g_2)) else (Sum.inl (g_2 + 1))))))
noncomputable def sp_E_1_firstAt_25 (gc : Nat) (q_fs1 : Nat → Nat) (p0 : Int32) : Int32 := (itrv (α := Nat) (β := (Int32)) default (sp_E_1_firstAt_25_L1 gc q_fs1 p0) 0)
set_option maxHeartbeats 4000000 in
set_option maxRecDepth 100000 in
theorem c_E_1_firstAt_25 (l : Launch) (dC : Nat → ClassId) (dI : Nat → Nat → Nat) (sz : Nat) (g : Nat) (gz : Nat) (g1 : Nat) (g2 : Nat) (g3 : Nat) (g4 : Nat) (g5 : Nat) (gc : Nat) (gfull : Nat) (gx : Int32) (gway : Int32) (gav : Int32) (ggoal : Int32) (gfound : Nat) (gl : Nat) (gsz : Nat) (g16 : Nat) (g17 : Nat) (k_fgz : ClassId) (k_fs1 : ClassId) (q_fs1 : Nat → Nat) (k_fs2 : ClassId) (fs2 : Nat → Int32) (k_fs3 : ClassId) (fs3 : Nat → Int32) (k_fs4 : ClassId) (fs4 : Nat → Int32) (k_fs5 : ClassId) (fs5 : Nat → Int32) (k_fhi : ClassId) (fhi : Nat → Int32) (k_flo : ClassId) (flo : Nat → Int32) (N : Nat) (o : Nat) (az ac : Nat → Nat) (kz : Nat → ClassId) (qs : Nat → Nat) (fz : Nat → Nat → Int32) (p0 : Int32) (hgc : gc ≤ 400) (hgfull : gfull ≤ 1) (hgfound : gfound ≤ 1) (hgl : gl ≤ 1) (hgsz : gsz ≤ 5) (hN : o + 401 ≤ N) : Met l yX1_firstAt vs_E_1_firstAt_25 ({ frames := 0, cells := 0, slots := 0, locals := 0 }) (va_Pc [.ref g, .int p0] (pu_B (dC, dI) ((gt0__w g gz g1 g2 g3 g4 g5 (nI gc) (nI gfull) gx gway gav ggoal (nI gfound) 400 (nI gl) (nI gsz) g16 g17 k_fgz (zs o 401 az) k_fs1 (bN 7 q_fs1) k_fs2 fs2 k_fs3 fs3 k_fs4 fs4 k_fs5 fs5 k_fhi fhi k_flo flo) ++ zp 5 25 N az ac kz qs fz) ((gt0__t k_fgz k_fs1 k_fs2 k_fs3 k_fs4 k_fs5 k_fhi k_flo) ++ zt N kz) sz)) (va_Qi (fun (r : Int32) (_ : Unit) => r = (sp_E_1_firstAt_25 gc q_fs1 p0)) (fun _ _ => True) (va_A [] sz)) 0 0 (va_A [] sz) := by
  refine Met.ofW (cc := cX1_firstAt) (maxL := 3) (ret := (some .int)) (by decide) rfl ?_
  intro p e s m args below meth c s₁ B hml hv
  obtain ⟨rfl, rfl, hP, hK, hD0⟩ := hv
  have hx := B.exec
  have hb := B.bytes
  have hr := B.returns
  have hts := atoms_spec (ws := vs_E_1_firstAt_25) B.pre
  have v_1 := hts (.fieldLink RX1 79 "ClockReach$Graph" "count" "I") (List.mem_cons_of_mem _ cm_89)
  have v_2 := hts (.fieldLink RX1 24 "ClockReach$Graph" "sites" "[I") (List.mem_cons_of_mem _ cm_115)
  have hown : s.vm.findClass RX1 = some m.cls := findClass_of_methodNamed B.named
  have hlocks := B.notSynchronized
  have hiX1 : ∀ w ∈ wsX10, w ∈ vs_E_1_firstAt_25 := fun _ h => List.mem_cons_of_mem _ (cm_X1 h)
  have hD := hD0
  have hA : ∀ q : Nat, s.heap.size ≤ q → va_A [] s.heap.size q := fun _ h => Or.inr h
  have hS : va_S (va_A [] s.heap.size) s.heap s.heap [] := va_S.rf
  have hl := lv_entry ([.ref g, .int p0]) (n := 3) (Nat.le_of_ble_eq_true rfl)
  rw [lg_entry_eq]
  generalize (lg_sl ([.ref g, .int p0]) ++ List.replicate (3 - (lg_sl ([.ref g, .int p0])).length) Slot.unset).toArray = ls at hl ⊢
  have hl : lv_has ls 3 [(0, .ref g), (1, .int p0)] := hl
  obtain ⟨RR, hRR⟩ : ∃ x, x = (sp_E_1_firstAt_25 gc q_fs1 p0) := ⟨_, rfl⟩
  have hsp := hRR
  refine lv_iconst (v := 0) hx hb eX1_firstAt_0 (by decide) ?_
  refine lv_istore_n (lv' := [(2, .int 0), (0, .ref g), (1, .int p0)]) hx hb eX1_firstAt_1 rfl hl (by decide) rfl (fun ls hl => ?_)
  obtain ⟨lf_4, dlf_4, hlf_4, hsp⟩ := itr_ex hsp
  delta sp_E_1_firstAt_25_L1 at hlf_4
  refine pu_while (fun nn H locs ls => ∃ (g_2 : Nat), nn = 400 - g_2 ∧ g_2 ≤ 400 ∧ RR = itrv dlf_4 lf_4 g_2 ∧ va_P (dC, dI) vwCl ((gt0__w g gz g1 g2 g3 g4 g5 (nI gc) (nI gfull) gx gway gav ggoal (nI gfound) 400 (nI gl) (nI gsz) g16 g17 k_fgz (zs o 401 az) k_fs1 (bN 7 q_fs1) k_fs2 fs2 k_fs3 fs3 k_fs4 fs4 k_fs5 fs5 k_fhi fhi k_flo flo) ++ zp 5 25 N az ac kz qs fz) H ∧ va_D (fun _ => True) ((gt0__w g gz g1 g2 g3 g4 g5 (nI gc) (nI gfull) gx gway gav ggoal (nI gfound) 400 (nI gl) (nI gsz) g16 g17 k_fgz (zs o 401 az) k_fs1 (bN 7 q_fs1) k_fs2 fs2 k_fs3 fs3 k_fs4 fs4 k_fs5 fs5 k_fhi fhi k_flo flo) ++ zp 5 25 N az ac kz qs fz) ∧ va_S (va_A [] s.heap.size) s.heap H locs ∧ lv_has ls 3 [(0, .ref g), (1, .int p0), (2, .int (nI g_2))]) 2 ?_ _ _ _ _ ⟨0, rfl, (Nat.le_of_ble_eq_true rfl), hsp, hP, hD, hS, lv_sub hl [1, 2, 0] rfl⟩
  rintro nn ih_3 H locs ls ⟨g_2, rfl, hg_2, he_6, hP, hD, hS, hl⟩
  obtain ⟨S_5, hsp, hin_7, hout_8⟩ := itr_step hlf_4 he_6
  refine lv_iload_n hx hb eX1_firstAt_2 rfl (lv_at hl 2 rfl) ?_
  refine lv_aload_n hx hb eX1_firstAt_3 rfl (lv_at hl 0 rfl) ?_
  refine va_get (D := (dC, dI)) (ci := 1) (v := .int (nI gc)) (C := RX1) (T := TX1) (N := 18) hx hb hts hiX1 hown hK hP 0 rfl rfl 6 (by decide) v_1 (fun _ h9 => h9) rfl eX1_firstAt_4 ?_
  refine lv_icmp_ge (tgt := 28) hx hb eX1_firstAt_7 (by decide) (fun c_9 => ?_) (fun c_9 => ?_)
  · have c_9 : gc ≤ g_2 := (nI_leI (a := gc) (b := g_2) (Nat.lt_of_le_of_lt hgc (Nat.le_of_ble_eq_true rfl)) (Nat.lt_of_le_of_lt hg_2 (Nat.le_of_ble_eq_true rfl))).mp c_9
    have hsp := hsp.trans (if_pos c_9)
    have hsp := hout_8 _ hsp
    refine lv_iconst (v := (-1)) hx hb eX1_firstAt_28 (by decide) ?_
    exact W.iret (v := (-1)) hx hb hr (fun t ht hW => ⟨⟨(-1), (), rfl, (hsp.symm.trans hRR), trivial⟩, hS.F ht⟩) hS.2.2 eX1_firstAt_29
  · have c_9 : ¬ gc ≤ g_2 := fun z => c_9 ((nI_leI (a := gc) (b := g_2) (Nat.lt_of_le_of_lt hgc (Nat.le_of_ble_eq_true rfl)) (Nat.lt_of_le_of_lt hg_2 (Nat.le_of_ble_eq_true rfl))).mpr z)
    have hsp := hsp.trans (if_neg c_9)
    refine lv_aload_n hx hb eX1_firstAt_10 rfl (lv_at hl 0 rfl) ?_
    refine va_get (D := (dC, dI)) (ci := 1) (v := .ref g1) (C := RX1) (T := TX1) (N := 18) hx hb hts hiX1 hown hK hP 0 rfl rfl 1 (by decide) v_2 (fun _ h9 => h9) rfl eX1_firstAt_11 ?_
    refine lv_iload_n hx hb eX1_firstAt_14 rfl (lv_at hl 2 rfl) ?_
    refine va_iald hx hb hK hP 2 1 rfl rfl (vp_in_nI (n := g_2) (by omega) (Nat.le_of_ble_eq_true rfl)) eX1_firstAt_15 ?_
    refine lv_topi (fun y_10 ey_10 => ?_)
    obtain ⟨u_11, hu_11, qu_11, xu_11⟩ := bN_getx 7 q_fs1 (n := g_2) (Nat.lt_of_le_of_lt hg_2 (Nat.le_of_ble_eq_true rfl))
    obtain rfl : y_10 = nI u_11 := ey_10.trans qu_11
    have hsp := hsp.trans (slet_eq xu_11)
    refine lv_iload_n hx hb eX1_firstAt_16 rfl (lv_at hl 1 rfl) ?_
    refine lv_icmp_ne (tgt := 22) hx hb eX1_firstAt_17 (by decide) (fun c_12 => ?_) (fun c_12 => ?_)
    · have hcc_12 := c_12
      have hsp := hsp.trans (if_neg c_12)
      refine lv_iinc (v := (nI (g_2 + 1))) (lv' := [(2, .int (nI (g_2 + 1))), (0, .ref g), (1, .int p0)]) hx hb eX1_firstAt_22 hl (k := 2) rfl (nI_1 _) (by decide) rfl (fun ls hl => ?_)
      refine lv_goto (tgt := 2) hx hb eX1_firstAt_25 (by decide) ?_
      exact ih_3 (400 - (g_2 + 1)) (by omega) _ _ _ ⟨(g_2 + 1), rfl, (by omega), hin_7 _ hsp, hP, hD, hS, lv_sub hl [1, 2, 0] rfl⟩
    · have hcc_12 := c_12
      have hsp := hsp.trans (if_pos c_12)
      have hsp := hout_8 _ hsp
      refine lv_iload_n hx hb eX1_firstAt_20 rfl (lv_at hl 2 rfl) ?_
      exact W.iret (v := (nI g_2)) hx hb hr (fun t ht hW => ⟨⟨(nI g_2), (), rfl, (hsp.symm.trans hRR), trivial⟩, hS.F ht⟩) hS.2.2 eX1_firstAt_21
