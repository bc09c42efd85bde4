abbrev vs_E_1_isKnown_25 : List Cond := .code yX1_isKnown cX1_isKnown 4 (some .boolean) :: CM
theorem g_E_1_isKnown_25_E_7_equalTo_25 : GoodIn vs_E_1_isKnown_25 (wsV RX1 143 RX7 yX7_equalTo vs_E_7_equalTo_25) := cm_gV cm_147 cm_148 cm_149 cm_45 cm_150
theorem g_E_1_isKnown_25_E_7_holdsAll_25 : GoodIn vs_E_1_isKnown_25 (wsV RX1 139 RX7 yX7_holdsAll vs_E_7_holdsAll_25) := cm_gV cm_143 cm_144 cm_145 cm_45 cm_146
noncomputable def sp_E_1_isKnown_25_L1 (gc : Nat) (gl : Nat) (q_fs1 : Nat → Nat) (o : Nat) (qs : Nat → Nat) (fz : Nat → Nat → Int32) (kk : Nat) (a1 : Nat) : (Nat) → (Nat) ⊕ (Nat) := fun g_2 => (if gc ≤ g_2 then (Sum.inr 0) else (slet (min (q_fs1 g_2) 7) (fun u_11 => (if u_11 = a1 then (if gl = 0 then (slet (sp_E_7_equalTo_25 (fz kk) (min (qs (o + g_2)) 5) (fz (o + g_2))) (fun u_15 => (if u_15 = 0 then (Sum.inl (g_2 + 1)) else (Sum.inr 1)))) else (slet (sp_E_7_holdsAll_25 (fz kk) (min (qs (o + g_2)) 5) (fz (o + g_2))) (fun u_18 => (if u_18 = 0 then (Sum.inl (g_2 + 1)) else (Sum.inr 1))))) else (Sum.inl (g_2 + 1))))))
noncomputable def sp_E_1_isKnown_25 (gc : Nat) (gl : Nat) (q_fs1 : Nat → Nat) (o : Nat) (qs : Nat → Nat) (fz : Nat → Nat → Int32) (kk : Nat) (a1 : Nat) : Nat := (itrv (α := Nat) (β := (Nat)) default (sp_E_1_isKnown_25_L1 gc gl q_fs1 o qs fz kk a1) 0)
set_option maxHeartbeats 4000000 in
set_option maxRecDepth 100000 in
theorem c_E_1_isKnown_25 (l : Launch) (dC : Nat → ClassId) (dI : Nat → Nat → Nat) (sz : Nat) (g : Nat) (gz : Nat) (g1 : Nat) (g2 : Nat) (g3 : Nat) (g4 : Nat) (g5 : Nat) (gc : Nat) (gfull : Nat) (gx : Int32) (gway : Int32) (gav : Int32) (ggoal : Int32) (gfound : Nat) (gl : Nat) (gsz : Nat) (g16 : Nat) (g17 : Nat) (k_fgz : ClassId) (k_fs1 : ClassId) (q_fs1 : Nat → Nat) (k_fs2 : ClassId) (fs2 : Nat → Int32) (k_fs3 : ClassId) (fs3 : Nat → Int32) (k_fs4 : ClassId) (fs4 : Nat → Int32) (k_fs5 : ClassId) (fs5 : Nat → Int32) (k_fhi : ClassId) (fhi : Nat → Int32) (k_flo : ClassId) (flo : Nat → Int32) (N : Nat) (o : Nat) (az ac : Nat → Nat) (kz : Nat → ClassId) (qs : Nat → Nat) (fz : Nat → Nat → Int32) (kk : Nat) (a1 : Nat) (hgc : gc ≤ 400) (hgfull : gfull ≤ 1) (hgfound : gfound ≤ 1) (hgl : gl ≤ 1) (hgsz : gsz ≤ 5) (hN : o + 401 ≤ N) (hkk : kk < N) (ha1 : a1 ≤ 7) (hq0 : o + gc ≤ kk) : Met l yX1_isKnown vs_E_1_isKnown_25 ({ frames := 1, cells := 0, slots := 0, locals := 22 }) (va_Pc [.ref g, .ref (az kk), .int (nI a1)] (pu_B (dC, dI) ((gt0__w g gz g1 g2 g3 g4 g5 (nI gc) (nI gfull) gx gway gav ggoal (nI gfound) 400 (nI gl) (nI gsz) g16 g17 k_fgz (zs o 401 az) k_fs1 (bN 7 q_fs1) k_fs2 fs2 k_fs3 fs3 k_fs4 fs4 k_fs5 fs5 k_fhi fhi k_flo flo) ++ zp 5 25 N az ac kz qs fz) ((gt0__t k_fgz k_fs1 k_fs2 k_fs3 k_fs4 k_fs5 k_fhi k_flo) ++ zt N kz) sz)) (va_Qi (fun (r : Int32) (_ : Unit) => ∃ v : Nat, v ≤ 1 ∧ r = nI v ∧ v = (sp_E_1_isKnown_25 gc gl q_fs1 o qs fz kk a1)) (fun _ _ => True) (va_A [] sz)) 0 0 (va_A [] sz) := by
  refine Met.ofW (cc := cX1_isKnown) (maxL := 4) (ret := (some .boolean)) (by decide) rfl ?_
  intro p e s m args below meth c s₁ B hml hv
  obtain ⟨rfl, rfl, hP, hK, hD0⟩ := hv
  have hx := B.exec
  have hb := B.bytes
  have hr := B.returns
  have hts := atoms_spec (ws := vs_E_1_isKnown_25) B.pre
  have v_1 := hts (.fieldLink RX1 79 "ClockReach$Graph" "count" "I") (List.mem_cons_of_mem _ cm_89)
  have v_2 := hts (.fieldLink RX1 24 "ClockReach$Graph" "sites" "[I") (List.mem_cons_of_mem _ cm_115)
  have v_3 := hts (.fieldLink RX1 49 "ClockReach$Graph" "leaves" "Z") (List.mem_cons_of_mem _ cm_77)
  have v_4 := hts (.fieldLink RX1 17 "ClockReach$Graph" "zones" "[LClockReach$Zone;") (List.mem_cons_of_mem _ cm_92)
  have hown : s.vm.findClass RX1 = some m.cls := findClass_of_methodNamed B.named
  have hlocks := B.notSynchronized
  have hiX1 : ∀ w ∈ wsX10, w ∈ vs_E_1_isKnown_25 := fun _ h => List.mem_cons_of_mem _ (cm_X1 h)
  have hD := hD0
  have hA : ∀ q : Nat, s.heap.size ≤ q → va_A [] s.heap.size q := fun _ h => Or.inr h
  have hS : va_S (va_A [] s.heap.size) s.heap s.heap [] := va_S.rf
  have hl := lv_entry ([.ref g, .ref (az kk), .int (nI a1)]) (n := 4) (Nat.le_of_ble_eq_true rfl)
  rw [lg_entry_eq]
  generalize (lg_sl ([.ref g, .ref (az kk), .int (nI a1)]) ++ List.replicate (4 - (lg_sl ([.ref g, .ref (az kk), .int (nI a1)])).length) Slot.unset).toArray = ls at hl ⊢
  have hl : lv_has ls 4 [(0, .ref g), (1, .ref (az kk)), (2, .int (nI a1))] := hl
  obtain ⟨RR, hRR⟩ : ∃ x, x = (sp_E_1_isKnown_25 gc gl q_fs1 o qs fz kk a1) := ⟨_, rfl⟩
  have hsp := hRR
  refine lv_iconst (v := 0) hx hb eX1_isKnown_0 (by decide) ?_
  refine lv_istore_n (lv' := [(3, .int 0), (0, .ref g), (1, .ref (az kk)), (2, .int (nI a1))]) hx hb eX1_isKnown_1 rfl hl (by decide) rfl (fun ls hl => ?_)
  obtain ⟨lf_4, dlf_4, hlf_4, hsp⟩ := itr_ex hsp
  delta sp_E_1_isKnown_25_L1 at hlf_4
  refine pu_while (fun nn H locs ls => ∃ (g_2 : Nat), nn = 400 - g_2 ∧ g_2 ≤ 400 ∧ RR = itrv dlf_4 lf_4 g_2 ∧ va_P (dC, dI) vwCl ((gt0__w g gz g1 g2 g3 g4 g5 (nI gc) (nI gfull) gx gway gav ggoal (nI gfound) 400 (nI gl) (nI gsz) g16 g17 k_fgz (zs o 401 az) k_fs1 (bN 7 q_fs1) k_fs2 fs2 k_fs3 fs3 k_fs4 fs4 k_fs5 fs5 k_fhi fhi k_flo flo) ++ zp 5 25 N az ac kz qs fz) H ∧ va_D (fun _ => True) ((gt0__w g gz g1 g2 g3 g4 g5 (nI gc) (nI gfull) gx gway gav ggoal (nI gfound) 400 (nI gl) (nI gsz) g16 g17 k_fgz (zs o 401 az) k_fs1 (bN 7 q_fs1) k_fs2 fs2 k_fs3 fs3 k_fs4 fs4 k_fs5 fs5 k_fhi fhi k_flo flo) ++ zp 5 25 N az ac kz qs fz) ∧ va_S (va_A [] s.heap.size) s.heap H locs ∧ lv_has ls 4 [(0, .ref g), (1, .ref (az kk)), (2, .int (nI a1)), (3, .int (nI g_2))]) 2 ?_ _ _ _ _ ⟨0, rfl, (Nat.le_of_ble_eq_true rfl), hsp, hP, hD, hS, lv_sub hl [1, 2, 3, 0] rfl⟩
  rintro nn ih_3 H locs ls ⟨g_2, rfl, hg_2, he_6, hP, hD, hS, hl⟩
  obtain ⟨S_5, hsp, hin_7, hout_8⟩ := itr_step hlf_4 he_6
  refine lv_iload_n hx hb eX1_isKnown_2 rfl (lv_at hl 3 rfl) ?_
  refine lv_aload_n hx hb eX1_isKnown_3 rfl (lv_at hl 0 rfl) ?_
  refine va_get (D := (dC, dI)) (ci := 1) (v := .int (nI gc)) (C := RX1) (T := TX1) (N := 18) hx hb hts hiX1 hown hK hP 0 rfl rfl 6 (by decide) v_1 (fun _ h9 => h9) rfl eX1_isKnown_4 ?_
  refine lv_icmp_ge (tgt := 64) hx hb eX1_isKnown_7 (by decide) (fun c_9 => ?_) (fun c_9 => ?_)
  · have c_9 : gc ≤ g_2 := (nI_leI (a := gc) (b := g_2) (Nat.lt_of_le_of_lt hgc (Nat.le_of_ble_eq_true rfl)) (Nat.lt_of_le_of_lt hg_2 (Nat.le_of_ble_eq_true rfl))).mp c_9
    have hsp := hsp.trans (if_pos c_9)
    have hsp := hout_8 _ hsp
    refine lv_iconst (v := 0) hx hb eX1_isKnown_64 (by decide) ?_
    exact W.zret (v := 0) (ty := .boolean) hx hb hr (rfl) (fun t ht hW => ⟨⟨0, (), rfl, ⟨0, (Nat.le_of_ble_eq_true rfl), rfl, (hsp.symm.trans hRR)⟩, trivial⟩, hS.F ht⟩) hS.2.2 eX1_isKnown_65
  · have c_9 : ¬ gc ≤ g_2 := fun z => c_9 ((nI_leI (a := gc) (b := g_2) (Nat.lt_of_le_of_lt hgc (Nat.le_of_ble_eq_true rfl)) (Nat.lt_of_le_of_lt hg_2 (Nat.le_of_ble_eq_true rfl))).mpr z)
    have hsp := hsp.trans (if_neg c_9)
    refine lv_aload_n hx hb eX1_isKnown_10 rfl (lv_at hl 0 rfl) ?_
    refine va_get (D := (dC, dI)) (ci := 1) (v := .ref g1) (C := RX1) (T := TX1) (N := 18) hx hb hts hiX1 hown hK hP 0 rfl rfl 1 (by decide) v_2 (fun _ h9 => h9) rfl eX1_isKnown_11 ?_
    refine lv_iload_n hx hb eX1_isKnown_14 rfl (lv_at hl 3 rfl) ?_
    refine va_iald hx hb hK hP 2 1 rfl rfl (vp_in_nI (n := g_2) (by omega) (Nat.le_of_ble_eq_true rfl)) eX1_isKnown_15 ?_
    refine lv_topi (fun y_10 ey_10 => ?_)
    obtain ⟨u_11, hu_11, qu_11, xu_11⟩ := bN_getx 7 q_fs1 (n := g_2) (Nat.lt_of_le_of_lt hg_2 (Nat.le_of_ble_eq_true rfl))
    obtain rfl : y_10 = nI u_11 := ey_10.trans qu_11
    have hsp := hsp.trans (slet_eq xu_11)
    refine lv_iload_n hx hb eX1_isKnown_16 rfl (lv_at hl 2 rfl) ?_
    refine lv_icmp_ne (tgt := 58) hx hb eX1_isKnown_17 (by decide) (fun c_12 => ?_) (fun c_12 => ?_)
    · have c_12 : ¬ u_11 = a1 := fun z => c_12 ((nI_eq (a := u_11) (b := a1) (Nat.lt_of_le_of_lt hu_11 (Nat.le_of_ble_eq_true rfl)) (Nat.lt_of_le_of_lt ha1 (Nat.le_of_ble_eq_true rfl))).mpr z)
      have hsp := hsp.trans (if_neg c_12)
      refine lv_iinc (v := (nI (g_2 + 1))) (lv' := [(3, .int (nI (g_2 + 1))), (0, .ref g), (1, .ref (az kk)), (2, .int (nI a1))]) hx hb eX1_isKnown_58 hl (k := 3) rfl (nI_1 _) (by decide) rfl (fun ls hl => ?_)
      refine lv_goto (tgt := 2) hx hb eX1_isKnown_61 (by decide) ?_
      exact ih_3 (400 - (g_2 + 1)) (by omega) _ _ _ ⟨(g_2 + 1), rfl, (by omega), hin_7 _ hsp, hP, hD, hS, lv_sub hl [1, 2, 3, 0] rfl⟩
    · have c_12 : u_11 = a1 := (nI_eq (a := u_11) (b := a1) (Nat.lt_of_le_of_lt hu_11 (Nat.le_of_ble_eq_true rfl)) (Nat.lt_of_le_of_lt ha1 (Nat.le_of_ble_eq_true rfl))).mp c_12
      have hsp := hsp.trans (if_pos c_12)
      refine lv_aload_n hx hb eX1_isKnown_20 rfl (lv_at hl 0 rfl) ?_
      refine va_get (D := (dC, dI)) (ci := 1) (v := .int (nI gl)) (C := RX1) (T := TX1) (N := 18) hx hb hts hiX1 hown hK hP 0 rfl rfl 14 (by decide) v_3 (fun _ h9 => h9) rfl eX1_isKnown_21 ?_
      refine lv_if_eq (tgt := 43) hx hb eX1_isKnown_24 (by decide) (fun c_13 => ?_) (fun c_13 => ?_)
      · have c_13 : gl = 0 := (nI_eq (a := gl) (b := 0) (Nat.lt_of_le_of_lt hgl (Nat.le_of_ble_eq_true rfl)) (Nat.le_of_ble_eq_true rfl)).mp c_13
        have hsp := hsp.trans (if_pos c_13)
        refine lv_aload_n hx hb eX1_isKnown_43 rfl (lv_at hl 0 rfl) ?_
        refine va_get (D := (dC, dI)) (ci := 1) (v := .ref gz) (C := RX1) (T := TX1) (N := 18) hx hb hts hiX1 hown hK hP 0 rfl rfl 0 (by decide) v_4 (fun _ h9 => h9) rfl eX1_isKnown_44 ?_
        refine lv_iload_n hx hb eX1_isKnown_47 rfl (lv_at hl 3 rfl) ?_
        refine va_aldq hx hb hK hP 1 0 rfl rfl (vp_in_nI (n := g_2) (Nat.lt_of_le_of_lt hg_2 (Nat.le_of_ble_eq_true rfl)) (Nat.le_of_ble_eq_true rfl)) eX1_isKnown_48 ?_
        refine W.eq (g2 := F0 m 49 ls [.ref (az (o + g_2))]) (by rw [zs_get (Nat.lt_of_le_of_lt hg_2 (Nat.le_of_ble_eq_true rfl)) (by omega)]) ?_
        refine lv_aload_n hx hb eX1_isKnown_49 rfl (lv_at hl 1 rfl) ?_
        have hPz := zp_cut (k := (o + g_2)) hP (by omega)
        have hPy := zp_cut (k := kk) hP (by omega)
        have hPc : va_P (dC, dI) vwCl ([(az kk, .inr (7, [.ref (ac kk), .int (nI (min (qs kk) 5))])), (ac kk, .inl (kz kk, 25, .inl (fz kk)))] ++ [(az (o + g_2), .inr (7, [.ref (ac (o + g_2)), .int (nI (min (qs (o + g_2)) 5))])), (ac (o + g_2), .inl (kz (o + g_2), 25, .inl (fz (o + g_2))))]) _ := va_P.app hPy hPz
        have hDc : va_D (fun _ => True) ([(az kk, .inr (7, [.ref (ac kk), .int (nI (min (qs kk) 5))])), (ac kk, .inl (kz kk, 25, .inl (fz kk)))] ++ [(az (o + g_2), .inr (7, [.ref (ac (o + g_2)), .int (nI (min (qs (o + g_2)) 5))])), (ac (o + g_2), .inl (kz (o + g_2), 25, .inl (fz (o + g_2))))]) := zp_cutD2 hD (by omega) (by omega) (by omega)
        have hKc : va_K (dC, dI) vwCl [(kz kk, .int), (kz (o + g_2), .int)] s := zp_K2 hK (by omega) (by omega)
        refine va_calli (va_runV (As := [.ref (az kk)]) (rest := []) ⟨hx, hb, hml, hown, hts⟩ (c_E_7_equalTo_25 l dC dI _ (az kk) (ac kk) (min (qs kk) 5) (kz kk) (fz kk) (az (o + g_2)) (ac (o + g_2)) (min (qs (o + g_2)) 5) (kz (o + g_2)) (fz (o + g_2)) (Nat.min_le_right _ _) (Nat.min_le_right _ _)) (cwV 1 hts g_E_1_isKnown_25_E_7_equalTo_25 rfl rfl rfl (by decide +kernel) ⟨Nat.le_of_ble_eq_true rfl, Nat.le_of_ble_eq_true rfl⟩) ⟨pu_bl, va_recv hK hPz (ci := 7) (q0 := 0) rfl rfl, pu_in hPc hKc hDc⟩ rfl rfl hl.1 rfl (lv_room (Nat.le_of_ble_eq_true rfl)) eX1_isKnown_50 ⟨Nat.le_of_ble_eq_true rfl, Nat.le_of_ble_eq_true rfl⟩) hS (fun q _ h => pu_fr hS hA q h) (pu_fr hS hA) (fun r_14 u t H1 locs ht hvm hw hB hz1 hk1 hS => ?_)
        have hP := pu_keep hP hk1
        clear hPc hDc hKc
        clear hk1 hz1 ht hvm
        generalize H1 = H at hP hS ⊢
        obtain ⟨u_15, hu_15, rfl, iu_15⟩ := hw
        have hsp := hsp.trans (slet_eq iu_15)
        refine lv_if_eq (tgt := 58) hx hb eX1_isKnown_53 (by decide) (fun c_16 => ?_) (fun c_16 => ?_)
        · have c_16 : u_15 = 0 := (nI_eq (a := u_15) (b := 0) (Nat.lt_of_le_of_lt hu_15 (Nat.le_of_ble_eq_true rfl)) (Nat.le_of_ble_eq_true rfl)).mp c_16
          have hsp := hsp.trans (if_pos c_16)
          refine lv_iinc (v := (nI (g_2 + 1))) (lv' := [(3, .int (nI (g_2 + 1))), (0, .ref g), (1, .ref (az kk)), (2, .int (nI a1))]) hx hb eX1_isKnown_58 hl (k := 3) rfl (nI_1 _) (by decide) rfl (fun ls hl => ?_)
          refine lv_goto (tgt := 2) hx hb eX1_isKnown_61 (by decide) ?_
          exact ih_3 (400 - (g_2 + 1)) (by omega) _ _ _ ⟨(g_2 + 1), rfl, (by omega), hin_7 _ hsp, hP, hD, hS, lv_sub hl [1, 2, 3, 0] rfl⟩
        · have c_16 : ¬ u_15 = 0 := fun z => c_16 ((nI_eq (a := u_15) (b := 0) (Nat.lt_of_le_of_lt hu_15 (Nat.le_of_ble_eq_true rfl)) (Nat.le_of_ble_eq_true rfl)).mpr z)
          have hsp := hsp.trans (if_neg c_16)
          have hsp := hout_8 _ hsp
          refine lv_iconst (v := 1) hx hb eX1_isKnown_56 (by decide) ?_
          exact W.zret (v := 1) (ty := .boolean) hx hb hr (rfl) (fun t ht hW => ⟨⟨1, (), rfl, ⟨1, (Nat.le_of_ble_eq_true rfl), rfl, (hsp.symm.trans hRR)⟩, trivial⟩, hS.F ht⟩) hS.2.2 eX1_isKnown_57
      · have c_13 : ¬ gl = 0 := fun z => c_13 ((nI_eq (a := gl) (b := 0) (Nat.lt_of_le_of_lt hgl (Nat.le_of_ble_eq_true rfl)) (Nat.le_of_ble_eq_true rfl)).mpr z)
        have hsp := hsp.trans (if_neg c_13)
        refine lv_aload_n hx hb eX1_isKnown_27 rfl (lv_at hl 0 rfl) ?_
        refine va_get (D := (dC, dI)) (ci := 1) (v := .ref gz) (C := RX1) (T := TX1) (N := 18) hx hb hts hiX1 hown hK hP 0 rfl rfl 0 (by decide) v_4 (fun _ h9 => h9) rfl eX1_isKnown_28 ?_
        refine lv_iload_n hx hb eX1_isKnown_31 rfl (lv_at hl 3 rfl) ?_
        refine va_aldq hx hb hK hP 1 0 rfl rfl (vp_in_nI (n := g_2) (Nat.lt_of_le_of_lt hg_2 (Nat.le_of_ble_eq_true rfl)) (Nat.le_of_ble_eq_true rfl)) eX1_isKnown_32 ?_
        refine W.eq (g2 := F0 m 33 ls [.ref (az (o + g_2))]) (by rw [zs_get (Nat.lt_of_le_of_lt hg_2 (Nat.le_of_ble_eq_true rfl)) (by omega)]) ?_
        refine lv_aload_n hx hb eX1_isKnown_33 rfl (lv_at hl 1 rfl) ?_
        have hPz := zp_cut (k := (o + g_2)) hP (by omega)
        have hPy := zp_cut (k := kk) hP (by omega)
        have hPc : va_P (dC, dI) vwCl ([(az kk, .inr (7, [.ref (ac kk), .int (nI (min (qs kk) 5))])), (ac kk, .inl (kz kk, 25, .inl (fz kk)))] ++ [(az (o + g_2), .inr (7, [.ref (ac (o + g_2)), .int (nI (min (qs (o + g_2)) 5))])), (ac (o + g_2), .inl (kz (o + g_2), 25, .inl (fz (o + g_2))))]) _ := va_P.app hPy hPz
        have hDc : va_D (fun _ => True) ([(az kk, .inr (7, [.ref (ac kk), .int (nI (min (qs kk) 5))])), (ac kk, .inl (kz kk, 25, .inl (fz kk)))] ++ [(az (o + g_2), .inr (7, [.ref (ac (o + g_2)), .int (nI (min (qs (o + g_2)) 5))])), (ac (o + g_2), .inl (kz (o + g_2), 25, .inl (fz (o + g_2))))]) := zp_cutD2 hD (by omega) (by omega) (by omega)
        have hKc : va_K (dC, dI) vwCl [(kz kk, .int), (kz (o + g_2), .int)] s := zp_K2 hK (by omega) (by omega)
        refine va_calli (va_runV (As := [.ref (az kk)]) (rest := []) ⟨hx, hb, hml, hown, hts⟩ (c_E_7_holdsAll_25 l dC dI _ (az kk) (ac kk) (min (qs kk) 5) (kz kk) (fz kk) (az (o + g_2)) (ac (o + g_2)) (min (qs (o + g_2)) 5) (kz (o + g_2)) (fz (o + g_2)) (Nat.min_le_right _ _) (Nat.min_le_right _ _)) (cwV 1 hts g_E_1_isKnown_25_E_7_holdsAll_25 rfl rfl rfl (by decide +kernel) ⟨Nat.le_of_ble_eq_true rfl, Nat.le_of_ble_eq_true rfl⟩) ⟨pu_bl, va_recv hK hPz (ci := 7) (q0 := 0) rfl rfl, pu_in hPc hKc hDc⟩ rfl rfl hl.1 rfl (lv_room (Nat.le_of_ble_eq_true rfl)) eX1_isKnown_34 ⟨Nat.le_of_ble_eq_true rfl, Nat.le_of_ble_eq_true rfl⟩) hS (fun q _ h => pu_fr hS hA q h) (pu_fr hS hA) (fun r_17 u t H1 locs ht hvm hw hB hz1 hk1 hS => ?_)
        have hP := pu_keep hP hk1
        clear hPc hDc hKc
        clear hk1 hz1 ht hvm
        generalize H1 = H at hP hS ⊢
        obtain ⟨u_18, hu_18, rfl, iu_18⟩ := hw
        have hsp := hsp.trans (slet_eq iu_18)
        refine lv_if_eq (tgt := 58) hx hb eX1_isKnown_37 (by decide) (fun c_19 => ?_) (fun c_19 => ?_)
        · have c_19 : u_18 = 0 := (nI_eq (a := u_18) (b := 0) (Nat.lt_of_le_of_lt hu_18 (Nat.le_of_ble_eq_true rfl)) (Nat.le_of_ble_eq_true rfl)).mp c_19
          have hsp := hsp.trans (if_pos c_19)
          refine lv_iinc (v := (nI (g_2 + 1))) (lv' := [(3, .int (nI (g_2 + 1))), (0, .ref g), (1, .ref (az kk)), (2, .int (nI a1))]) hx hb eX1_isKnown_58 hl (k := 3) rfl (nI_1 _) (by decide) rfl (fun ls hl => ?_)
          refine lv_goto (tgt := 2) hx hb eX1_isKnown_61 (by decide) ?_
          exact ih_3 (400 - (g_2 + 1)) (by omega) _ _ _ ⟨(g_2 + 1), rfl, (by omega), hin_7 _ hsp, hP, hD, hS, lv_sub hl [1, 2, 3, 0] rfl⟩
        · have c_19 : ¬ u_18 = 0 := fun z => c_19 ((nI_eq (a := u_18) (b := 0) (Nat.lt_of_le_of_lt hu_18 (Nat.le_of_ble_eq_true rfl)) (Nat.le_of_ble_eq_true rfl)).mpr z)
          have hsp := hsp.trans (if_neg c_19)
          have hsp := hout_8 _ hsp
          refine lv_goto (tgt := 56) hx hb eX1_isKnown_40 (by decide) ?_
          refine lv_iconst (v := 1) hx hb eX1_isKnown_56 (by decide) ?_
          exact W.zret (v := 1) (ty := .boolean) hx hb hr (rfl) (fun t ht hW => ⟨⟨1, (), rfl, ⟨1, (Nat.le_of_ble_eq_true rfl), rfl, (hsp.symm.trans hRR)⟩, trivial⟩, hS.F ht⟩) hS.2.2 eX1_isKnown_57
