theorem eX7_holdsTimes_0 : decode cX7_holdsTimes 0 = .ok (.iconst 0, 1) := by decide +kernel
theorem eX7_holdsTimes_1 : decode cX7_holdsTimes 1 = .ok (.istore_n 2, 1) := by decide +kernel
theorem eX7_holdsTimes_2 : decode cX7_holdsTimes 2 = .ok (.iload_n 2, 1) := by decide +kernel
theorem eX7_holdsTimes_3 : decode cX7_holdsTimes 3 = .ok (.aload_n 0, 1) := by decide +kernel
theorem eX7_holdsTimes_4 : decode cX7_holdsTimes 4 = .ok (.getfield 18, 3) := by decide +kernel
theorem eX7_holdsTimes_7 : decode cX7_holdsTimes 7 = .ok (.if_icmp .ge 68, 3) := by decide +kernel
theorem eX7_holdsTimes_10 : decode cX7_holdsTimes 10 = .ok (.iconst 0, 1) := by decide +kernel
theorem eX7_holdsTimes_11 : decode cX7_holdsTimes 11 = .ok (.istore_n 3, 1) := by decide +kernel
theorem eX7_holdsTimes_12 : decode cX7_holdsTimes 12 = .ok (.iload_n 3, 1) := by decide +kernel
theorem eX7_holdsTimes_13 : decode cX7_holdsTimes 13 = .ok (.aload_n 0, 1) := by decide +kernel
theorem eX7_holdsTimes_14 : decode cX7_holdsTimes 14 = .ok (.getfield 18, 3) := by decide +kernel
theorem eX7_holdsTimes_17 : decode cX7_holdsTimes 17 = .ok (.if_icmp .ge 52, 3) := by decide +kernel
theorem eX7_holdsTimes_20 : decode cX7_holdsTimes 20 = .ok (.aload_n 0, 1) := by decide +kernel
theorem eX7_holdsTimes_21 : decode cX7_holdsTimes 21 = .ok (.getfield 11, 3) := by decide +kernel
theorem eX7_holdsTimes_24 : decode cX7_holdsTimes 24 = .ok (.iload_n 2, 1) := by decide +kernel
theorem eX7_holdsTimes_25 : decode cX7_holdsTimes 25 = .ok (.aload_n 0, 1) := by decide +kernel
theorem eX7_holdsTimes_26 : decode cX7_holdsTimes 26 = .ok (.getfield 18, 3) := by decide +kernel
theorem eX7_holdsTimes_29 : decode cX7_holdsTimes 29 = .ok (.imul, 1) := by decide +kernel
theorem eX7_holdsTimes_30 : decode cX7_holdsTimes 30 = .ok (.iload_n 3, 1) := by decide +kernel
theorem eX7_holdsTimes_31 : decode cX7_holdsTimes 31 = .ok (.iadd, 1) := by decide +kernel
theorem eX7_holdsTimes_32 : decode cX7_holdsTimes 32 = .ok (.iaload, 1) := by decide +kernel
theorem eX7_holdsTimes_33 : decode cX7_holdsTimes 33 = .ok (.istore 4, 2) := by decide +kernel
theorem eX7_holdsTimes_35 : decode cX7_holdsTimes 35 = .ok (.iload 4, 2) := by decide +kernel
theorem eX7_holdsTimes_37 : decode cX7_holdsTimes 37 = .ok (.ldc 17, 2) := by decide +kernel
theorem eX7_holdsTimes_39 : decode cX7_holdsTimes 39 = .ok (.if_icmp .eq 24, 3) := by decide +kernel
theorem eX7_holdsTimes_42 : decode cX7_holdsTimes 42 = .ok (.aload_n 1, 1) := by decide +kernel
theorem eX7_holdsTimes_43 : decode cX7_holdsTimes 43 = .ok (.iload_n 2, 1) := by decide +kernel
theorem eX7_holdsTimes_44 : decode cX7_holdsTimes 44 = .ok (.iaload, 1) := by decide +kernel
theorem eX7_holdsTimes_45 : decode cX7_holdsTimes 45 = .ok (.i2l, 1) := by decide +kernel
theorem eX7_holdsTimes_46 : decode cX7_holdsTimes 46 = .ok (.aload_n 1, 1) := by decide +kernel
theorem eX7_holdsTimes_47 : decode cX7_holdsTimes 47 = .ok (.iload_n 3, 1) := by decide +kernel
theorem eX7_holdsTimes_48 : decode cX7_holdsTimes 48 = .ok (.iaload, 1) := by decide +kernel
theorem eX7_holdsTimes_49 : decode cX7_holdsTimes 49 = .ok (.i2l, 1) := by decide +kernel
theorem eX7_holdsTimes_50 : decode cX7_holdsTimes 50 = .ok (.lsub, 1) := by decide +kernel
theorem eX7_holdsTimes_51 : decode cX7_holdsTimes 51 = .ok (.iload 4, 2) := by decide +kernel
theorem eX7_holdsTimes_53 : decode cX7_holdsTimes 53 = .ok (.invokestatic 31, 3) := by decide +kernel
theorem eX7_holdsTimes_56 : decode cX7_holdsTimes 56 = .ok (.i2l, 1) := by decide +kernel
theorem eX7_holdsTimes_57 : decode cX7_holdsTimes 57 = .ok (.lcmp, 1) := by decide +kernel
theorem eX7_holdsTimes_58 : decode cX7_holdsTimes 58 = .ok (.ifCond .le 5, 3) := by decide +kernel
theorem eX7_holdsTimes_61 : decode cX7_holdsTimes 61 = .ok (.iconst 0, 1) := by decide +kernel
theorem eX7_holdsTimes_62 : decode cX7_holdsTimes 62 = .ok (.ireturn, 1) := by decide +kernel
theorem eX7_holdsTimes_63 : decode cX7_holdsTimes 63 = .ok (.iinc 3 1, 3) := by decide +kernel
theorem eX7_holdsTimes_66 : decode cX7_holdsTimes 66 = .ok (.goto (-54), 3) := by decide +kernel
theorem eX7_holdsTimes_69 : decode cX7_holdsTimes 69 = .ok (.iinc 2 1, 3) := by decide +kernel
theorem eX7_holdsTimes_72 : decode cX7_holdsTimes 72 = .ok (.goto (-70), 3) := by decide +kernel
theorem eX7_holdsTimes_75 : decode cX7_holdsTimes 75 = .ok (.iconst 1, 1) := by decide +kernel
theorem eX7_holdsTimes_76 : decode cX7_holdsTimes 76 = .ok (.ireturn, 1) := by decide +kernel
abbrev vs_E_7_holdsTimes : List Cond := .code yX7_holdsTimes cX7_holdsTimes 5 (some .boolean) :: CM
theorem g_E_7_holdsTimes_E_7_ticks : GoodIn vs_E_7_holdsTimes (va_wsS RX7 31 yX7_ticks vs_E_7_ticks) := cm_gS cm_414 cm_68 cm_45 cm_69
noncomputable def sp_E_7_holdsTimes_L1 (fv : Nat → Int32) (zn : Nat) (fz : Nat → Int32) (g_2 : Nat) : (Nat) → (Nat) ⊕ ((Nat) ⊕ (Nat)) := fun g_11 => (if zn ≤ g_11 then (Sum.inr (Sum.inl (g_2 + 1))) else (slet (fz ((g_2 * zn) + g_11)) (fun y_21 => (if (y_21 : Int32) = 2147483647 then (Sum.inl (g_11 + 1)) else (slet (fv g_2) (fun y_23 => (slet ((y_23 : Int32).toInt64) (fun y_24 => (slet (fv g_11) (fun y_25 => (slet ((y_25 : Int32).toInt64) (fun y_26 => (slet ((y_24 : Int64) - y_26) (fun y_27 => (slet (sp_E_7_ticks y_21) (fun r_28 => (slet ((r_28 : Int32).toInt64) (fun y_29 => (slet (lg_cmp (y_27 : Int64) y_29) (fun y_30 => (if (y_30 : Int32) ≤ 0 then (Sum.inl (g_11 + 1)) else (Sum.inr (Sum.inr 0)))))))))))))))))))))))
noncomputable def sp_E_7_holdsTimes_L2 (fv : Nat → Int32) (zn : Nat) (fz : Nat → Int32) : (Nat) → (Nat) ⊕ (Nat) := fun g_2 => (if zn ≤ g_2 then (Sum.inr 1) else (itrv (α := Nat) (β := ((Nat) ⊕ (Nat))) (Sum.inr default) (sp_E_7_holdsTimes_L1 fv zn fz g_2) 0))
noncomputable def sp_E_7_holdsTimes (fv : Nat → Int32) (zn : Nat) (fz : Nat → Int32) : Nat := (itrv (α := Nat) (β := (Nat)) default (sp_E_7_holdsTimes_L2 fv zn fz) 0)
set_option maxHeartbeats 4000000 in
set_option maxRecDepth 100000 in
theorem c_E_7_holdsTimes (l : Launch) (dC : Nat → ClassId) (dI : Nat → Nat → Nat) (sz : Nat) (vz : Nat) (k_fv : ClassId) (fv : Nat → Int32) (z : Nat) (zc : Nat) (zn : Nat) (k_fz : ClassId) (fz : Nat → Int32) (hzn : zn ≤ 4) : Met l yX7_holdsTimes vs_E_7_holdsTimes ({ frames := 1, cells := 0, slots := 0, locals := 20 }) (va_Pc [.ref z, .ref vz] (pu_B (dC, dI) (zs16__w vz k_fv fv z zc (nI zn) k_fz fz) (zs16__t k_fv k_fz) sz)) (va_Qi (fun (r : Int32) (_ : Unit) => ∃ v : Nat, v ≤ 1 ∧ r = nI v ∧ v = (sp_E_7_holdsTimes fv zn fz)) (fun _ _ => True) (va_A [] sz)) 0 0 (va_A [] sz) := by
  refine Met.ofW (cc := cX7_holdsTimes) (maxL := 5) (ret := (some .boolean)) (by decide) rfl ?_
  intro p e s m args below meth c s₁ B hml hv
  obtain ⟨rfl, rfl, hP, hK, hD0⟩ := hv
  have hx := B.exec
  have hb := B.bytes
  have hr := B.returns
  have hts := atoms_spec (ws := vs_E_7_holdsTimes) B.pre
  have v_1 := hts (.fieldLink RX7 18 "ClockReach$Zone" "size" "I") (List.mem_cons_of_mem _ cm_48)
  have v_2 := hts (.fieldLink RX7 11 "ClockReach$Zone" "cells" "[I") (List.mem_cons_of_mem _ cm_47)
  have v_3 := hts (.constant RX7 17 (2147483647)) (List.mem_cons_of_mem _ cm_49)
  have hown : s.vm.findClass RX7 = some m.cls := findClass_of_methodNamed B.named
  have hlocks := B.notSynchronized
  have hiX7 : ∀ w ∈ wsX70, w ∈ vs_E_7_holdsTimes := fun _ h => List.mem_cons_of_mem _ (cm_X7 h)
  have hD := hD0
  have hA : ∀ q : Nat, s.heap.size ≤ q → va_A [] s.heap.size q := fun _ h => Or.inr h
  have hS : va_S (va_A [] s.heap.size) s.heap s.heap [] := va_S.rf
  have hl := lv_entry ([.ref z, .ref vz]) (n := 5) (Nat.le_of_ble_eq_true rfl)
  rw [lg_entry_eq]
  generalize (lg_sl ([.ref z, .ref vz]) ++ List.replicate (5 - (lg_sl ([.ref z, .ref vz])).length) Slot.unset).toArray = ls at hl ⊢
  have hl : lv_has ls 5 [(0, .ref z), (1, .ref vz)] := hl
  have hzz := zz4 hzn
  obtain ⟨RR, hRR⟩ : ∃ x, x = (sp_E_7_holdsTimes fv zn fz) := ⟨_, rfl⟩
  have hsp := hRR
  refine lv_iconst (v := 0) hx hb eX7_holdsTimes_0 (by decide) ?_
  refine lv_istore_n (lv' := [(2, .int 0), (0, .ref z), (1, .ref vz)]) hx hb eX7_holdsTimes_1 rfl hl (by decide) rfl (fun ls hl => ?_)
  obtain ⟨lf_4, dlf_4, hlf_4, hsp⟩ := itr_ex hsp
  delta sp_E_7_holdsTimes_L2 at hlf_4
  refine pu_while (fun nn H locs ls => ∃ (g_2 : Nat), nn = 4 - g_2 ∧ g_2 ≤ 4 ∧ RR = itrv dlf_4 lf_4 g_2 ∧ va_P (dC, dI) vwCl (zs16__w vz k_fv fv z zc (nI zn) k_fz fz) H ∧ va_D (fun _ => True) (zs16__w vz k_fv fv z zc (nI zn) k_fz fz) ∧ va_S (va_A [] s.heap.size) s.heap H locs ∧ lv_has ls 5 [(0, .ref z), (1, .ref vz), (2, .int (nI g_2))]) 2 ?_ _ _ _ _ ⟨0, rfl, (Nat.le_of_ble_eq_true rfl), hsp, hP, hD, hS, lv_sub hl [1, 2, 0] rfl⟩
  rintro nn ih_3 H locs ls ⟨g_2, rfl, hg_2, he_6, hP, hD, hS, hl⟩
  obtain ⟨S_5, hsp, hin_7, hout_8⟩ := itr_step hlf_4 he_6
  refine lv_iload_n hx hb eX7_holdsTimes_2 rfl (lv_at hl 2 rfl) ?_
  refine lv_aload_n hx hb eX7_holdsTimes_3 rfl (lv_at hl 0 rfl) ?_
  refine va_get (D := (dC, dI)) (ci := 7) (v := .int (nI zn)) (C := RX7) (T := TX7) (N := 2) hx hb hts hiX7 hown hK hP 1 rfl rfl 1 (by decide) v_1 (fun _ h9 => h9) rfl eX7_holdsTimes_4 ?_
  refine lv_icmp_ge (tgt := 75) hx hb eX7_holdsTimes_7 (by decide) (fun c_9 => ?_) (fun c_9 => ?_)
  · have c_9 : zn ≤ g_2 := (nI_leI (a := zn) (b := g_2) (Nat.lt_of_le_of_lt hzn (Nat.le_of_ble_eq_true rfl)) (Nat.lt_of_le_of_lt hg_2 (Nat.le_of_ble_eq_true rfl))).mp c_9
    have hsp := hsp.trans (if_pos c_9)
    have hsp := hout_8 _ hsp
    refine lv_iconst (v := 1) hx hb eX7_holdsTimes_75 (by decide) ?_
    exact W.zret (v := 1) (ty := .boolean) hx hb hr (rfl) (fun t ht hW => ⟨⟨1, (), rfl, ⟨1, (Nat.le_of_ble_eq_true rfl), rfl, (hsp.symm.trans hRR)⟩, trivial⟩, hS.F ht⟩) hS.2.2 eX7_holdsTimes_76
  · have c_9 : ¬ zn ≤ g_2 := fun z => c_9 ((nI_leI (a := zn) (b := g_2) (Nat.lt_of_le_of_lt hzn (Nat.le_of_ble_eq_true rfl)) (Nat.lt_of_le_of_lt hg_2 (Nat.le_of_ble_eq_true rfl))).mpr z)
    have hsp := hsp.trans (if_neg c_9)
    refine lv_iconst (v := 0) hx hb eX7_holdsTimes_10 (by decide) ?_
    refine lv_istore_n (lv' := [(3, .int 0), (0, .ref z), (1, .ref vz), (2, .int (nI g_2))]) hx hb eX7_holdsTimes_11 rfl hl (by decide) rfl (fun ls hl => ?_)
    obtain ⟨lf_13, dlf_13, hlf_13, hsp⟩ := itr_ex hsp
    delta sp_E_7_holdsTimes_L1 at hlf_13
    refine pu_while (fun nn H locs ls => ∃ (g_11 : Nat), nn = 4 - g_11 ∧ g_11 ≤ 4 ∧ S_5 = itrv dlf_13 lf_13 g_11 ∧ va_P (dC, dI) vwCl (zs16__w vz k_fv fv z zc (nI zn) k_fz fz) H ∧ va_D (fun _ => True) (zs16__w vz k_fv fv z zc (nI zn) k_fz fz) ∧ va_S (va_A [] s.heap.size) s.heap H locs ∧ lv_has ls 5 [(0, .ref z), (1, .ref vz), (2, .int (nI g_2)), (3, .int (nI g_11))]) 12 ?_ _ _ _ _ ⟨0, rfl, (Nat.le_of_ble_eq_true rfl), hsp, hP, hD, hS, lv_sub hl [1, 2, 3, 0] rfl⟩
    rintro nn ih_12 H locs ls ⟨g_11, rfl, hg_11, he_15, hP, hD, hS, hl⟩
    obtain ⟨S_14, hsp, hin_16, hout_17⟩ := itr_step hlf_13 he_15
    refine lv_iload_n hx hb eX7_holdsTimes_12 rfl (lv_at hl 3 rfl) ?_
    refine lv_aload_n hx hb eX7_holdsTimes_13 rfl (lv_at hl 0 rfl) ?_
    refine va_get (D := (dC, dI)) (ci := 7) (v := .int (nI zn)) (C := RX7) (T := TX7) (N := 2) hx hb hts hiX7 hown hK hP 1 rfl rfl 1 (by decide) v_1 (fun _ h9 => h9) rfl eX7_holdsTimes_14 ?_
    refine lv_icmp_ge (tgt := 69) hx hb eX7_holdsTimes_17 (by decide) (fun c_18 => ?_) (fun c_18 => ?_)
    · have c_18 : zn ≤ g_11 := (nI_leI (a := zn) (b := g_11) (Nat.lt_of_le_of_lt hzn (Nat.le_of_ble_eq_true rfl)) (Nat.lt_of_le_of_lt hg_11 (Nat.le_of_ble_eq_true rfl))).mp c_18
      have hsp := hsp.trans (if_pos c_18)
      have hsp := hout_17 _ hsp
      refine lv_iinc (v := (nI (g_2 + 1))) (lv' := [(2, .int (nI (g_2 + 1))), (0, .ref z), (1, .ref vz), (3, .int (nI g_11))]) hx hb eX7_holdsTimes_69 hl (k := 2) rfl (nI_1 _) (by decide) rfl (fun ls hl => ?_)
      refine lv_goto (tgt := 2) hx hb eX7_holdsTimes_72 (by decide) ?_
      exact ih_3 (4 - (g_2 + 1)) (by omega) _ _ _ ⟨(g_2 + 1), rfl, (by omega), hin_7 _ hsp, hP, hD, hS, lv_sub hl [1, 2, 0] rfl⟩
    · have c_18 : ¬ zn ≤ g_11 := fun z => c_18 ((nI_leI (a := zn) (b := g_11) (Nat.lt_of_le_of_lt hzn (Nat.le_of_ble_eq_true rfl)) (Nat.lt_of_le_of_lt hg_11 (Nat.le_of_ble_eq_true rfl))).mpr z)
      have hsp := hsp.trans (if_neg c_18)
      refine lv_aload_n hx hb eX7_holdsTimes_20 rfl (lv_at hl 0 rfl) ?_
      refine va_get (D := (dC, dI)) (ci := 7) (v := .ref zc) (C := RX7) (T := TX7) (N := 2) hx hb hts hiX7 hown hK hP 1 rfl rfl 0 (by decide) v_2 (fun _ h9 => h9) rfl eX7_holdsTimes_21 ?_
      refine lv_iload_n hx hb eX7_holdsTimes_24 rfl (lv_at hl 2 rfl) ?_
      refine lv_aload_n hx hb eX7_holdsTimes_25 rfl (lv_at hl 0 rfl) ?_
      refine va_get (D := (dC, dI)) (ci := 7) (v := .int (nI zn)) (C := RX7) (T := TX7) (N := 2) hx hb hts hiX7 hown hK hP 1 rfl rfl 1 (by decide) v_1 (fun _ h9 => h9) rfl eX7_holdsTimes_26 ?_
      refine lv_imul hx hb eX7_holdsTimes_29 ?_
      refine lv_topi (fun y_19 ey_19 => ?_)
      obtain rfl : y_19 = (nI (g_2 * zn)) := ey_19.trans (pk_mul g_2 zn)
      refine lv_iload_n hx hb eX7_holdsTimes_30 rfl (lv_at hl 3 rfl) ?_
      refine lv_iadd hx hb eX7_holdsTimes_31 ?_
      refine lv_topi (fun y_20 ey_20 => ?_)
      obtain rfl : y_20 = (nI ((g_2 * zn) + g_11)) := ey_20.trans (nI_add (g_2 * zn) g_11)
      refine va_iald hx hb hK hP 2 1 rfl rfl (vp_in_nI (n := ((g_2 * zn) + g_11)) (by first | exact zx16 (by omega) (by omega) (by omega) | exact zy16 (by omega) (by omega) | omega) (Nat.le_of_ble_eq_true rfl)) eX7_holdsTimes_32 ?_
      refine lv_topi (fun y_21 ey_21 => ?_)
      have ey_21 : y_21 = fz ((g_2 * zn) + g_11) := ey_21.trans (congrArg fz (nI_clamp (n := ((g_2 * zn) + g_11)) (by first | omega | exact Nat.lt_trans (zx16 (by omega) (by omega) (by omega)) (Nat.le_of_ble_eq_true rfl) | exact Nat.lt_trans (zy16 (by omega) (by omega)) (Nat.le_of_ble_eq_true rfl) | exact Nat.lt_trans (zx25 (by omega) (by omega) (by omega)) (Nat.le_of_ble_eq_true rfl) | exact Nat.lt_trans (zy25 (by omega) (by omega)) (Nat.le_of_ble_eq_true rfl))))
      have hsp := hsp.trans (slet_eq ey_21)
      refine lv_istore (lv' := [(4, .int y_21), (0, .ref z), (1, .ref vz), (2, .int (nI g_2)), (3, .int (nI g_11))]) hx hb eX7_holdsTimes_33 hl (by decide) rfl (fun ls hl => ?_)
      refine lv_iload hx hb eX7_holdsTimes_35 (lv_at hl 0 rfl) ?_
      refine lv_ldc hx hb hown v_3 eX7_holdsTimes_37 ?_
      refine lv_icmp_eq (tgt := 63) hx hb eX7_holdsTimes_39 (by decide) (fun c_22 => ?_) (fun c_22 => ?_)
      · have hcc_22 := c_22
        have hsp := hsp.trans (if_pos c_22)
        refine lv_iinc (v := (nI (g_11 + 1))) (lv' := [(3, .int (nI (g_11 + 1))), (4, .int y_21), (0, .ref z), (1, .ref vz), (2, .int (nI g_2))]) hx hb eX7_holdsTimes_63 hl (k := 4) rfl (nI_1 _) (by decide) rfl (fun ls hl => ?_)
        refine lv_goto (tgt := 12) hx hb eX7_holdsTimes_66 (by decide) ?_
        exact ih_12 (4 - (g_11 + 1)) (by omega) _ _ _ ⟨(g_11 + 1), rfl, (by omega), hin_16 _ hsp, hP, hD, hS, lv_sub hl [2, 3, 4, 0] rfl⟩
      · have hcc_22 := c_22
        have hsp := hsp.trans (if_neg c_22)
        refine lv_aload_n hx hb eX7_holdsTimes_42 rfl (lv_at hl 2 rfl) ?_
        refine lv_iload_n hx hb eX7_holdsTimes_43 rfl (lv_at hl 3 rfl) ?_
        refine va_iald hx hb hK hP 0 0 rfl rfl (vp_in_nI (n := g_2) (by omega) (Nat.le_of_ble_eq_true rfl)) eX7_holdsTimes_44 ?_
        refine lv_topi (fun y_23 ey_23 => ?_)
        have ey_23 : y_23 = fv g_2 := ey_23.trans (congrArg fv (nI_clamp (n := g_2) (Nat.lt_of_le_of_lt hg_2 (Nat.le_of_ble_eq_true rfl))))
        have hsp := hsp.trans (slet_eq ey_23)
        refine lv_i2l (v := y_23.toInt64) hx hb eX7_holdsTimes_45 rfl ?_
        refine lv_topl (fun y_24 ey_24 => ?_)
        have hsp := hsp.trans (slet_eq ey_24)
        refine lv_aload_n hx hb eX7_holdsTimes_46 rfl (lv_at hl 2 rfl) ?_
        refine lv_iload_n hx hb eX7_holdsTimes_47 rfl (lv_at hl 4 rfl) ?_
        refine va_iald hx hb hK hP 0 0 rfl rfl (vp_in_nI (n := g_11) (by omega) (Nat.le_of_ble_eq_true rfl)) eX7_holdsTimes_48 ?_
        refine lv_topi (fun y_25 ey_25 => ?_)
        have ey_25 : y_25 = fv g_11 := ey_25.trans (congrArg fv (nI_clamp (n := g_11) (Nat.lt_of_le_of_lt hg_11 (Nat.le_of_ble_eq_true rfl))))
        have hsp := hsp.trans (slet_eq ey_25)
        refine lv_i2l (v := y_25.toInt64) hx hb eX7_holdsTimes_49 rfl ?_
        refine lv_topl (fun y_26 ey_26 => ?_)
        have hsp := hsp.trans (slet_eq ey_26)
        refine lv_lsub hx hb eX7_holdsTimes_50 ?_
        refine lv_topl (fun y_27 ey_27 => ?_)
        have hsp := hsp.trans (slet_eq ey_27)
        refine lv_iload hx hb eX7_holdsTimes_51 (lv_at hl 0 rfl) ?_
        refine va_calli (va_runS (As := [.int y_21]) (rest := [.long y_27]) ⟨hx, hb, hml, hown, hts⟩ (c_E_7_ticks l dC dI _ y_21) (va_cwS 1 hts g_E_7_holdsTimes_E_7_ticks rfl rfl rfl (by decide +kernel) ⟨Nat.le_of_ble_eq_true rfl, Nat.le_of_ble_eq_true rfl⟩) ⟨pu_bl, pu_in (hP.sub [] rfl) (hK.sub [] rfl) (hD.sub [] (by decide) rfl)⟩ rfl rfl hl.1 rfl (lv_room (Nat.le_of_ble_eq_true rfl)) eX7_holdsTimes_53 ⟨Nat.le_of_ble_eq_true rfl, Nat.le_of_ble_eq_true rfl⟩) hS (fun q _ h => pu_fr hS hA q h) (pu_fr hS hA) (fun r_28 u t H1 locs ht hvm hw hB hz1 hk1 hS => ?_)
        have hP := pu_keep hP hk1
        clear hk1 hz1 ht hvm
        generalize H1 = H at hP hS ⊢
        have ir_28 := hw
        have hsp := hsp.trans (slet_eq ir_28)
        refine lv_i2l (v := r_28.toInt64) hx hb eX7_holdsTimes_56 rfl ?_
        refine lv_topl (fun y_29 ey_29 => ?_)
        have hsp := hsp.trans (slet_eq ey_29)
        refine W.lcmp hx hb eX7_holdsTimes_57 ?_
        refine lv_topi (fun y_30 ey_30 => ?_)
        have hsp := hsp.trans (slet_eq ey_30)
        refine lv_if_le (tgt := 63) hx hb eX7_holdsTimes_58 (by decide) (fun c_31 => ?_) (fun c_31 => ?_)
        · have hcc_31 := c_31
          have hsp := hsp.trans (if_pos c_31)
          refine lv_iinc (v := (nI (g_11 + 1))) (lv' := [(3, .int (nI (g_11 + 1))), (4, .int y_21), (0, .ref z), (1, .ref vz), (2, .int (nI g_2))]) hx hb eX7_holdsTimes_63 hl (k := 4) rfl (nI_1 _) (by decide) rfl (fun ls hl => ?_)
          refine lv_goto (tgt := 12) hx hb eX7_holdsTimes_66 (by decide) ?_
          exact ih_12 (4 - (g_11 + 1)) (by omega) _ _ _ ⟨(g_11 + 1), rfl, (by omega), hin_16 _ hsp, hP, hD, hS, lv_sub hl [2, 3, 4, 0] rfl⟩
        · have hcc_31 := c_31
          have hsp := hsp.trans (if_neg c_31)
          have hsp := hout_17 _ hsp
          have hsp := hout_8 _ hsp
          refine lv_iconst (v := 0) hx hb eX7_holdsTimes_61 (by decide) ?_
          exact W.zret (v := 0) (ty := .boolean) hx hb hr (rfl) (fun t ht hW => ⟨⟨0, (), rfl, ⟨0, (Nat.le_of_ble_eq_true rfl), rfl, (hsp.symm.trans hRR)⟩, trivial⟩, hS.F ht⟩) hS.2.2 eX7_holdsTimes_62
abbrev vs_E_8_isState_0 : List Cond := .code yX8_isState cX8_isState 2 (some .boolean) :: CM
noncomputable def sp_E_8_isState_0 : Unit := ()
set_option maxHeartbeats 4000000 in
set_option maxRecDepth 100000 in
theorem c_E_8_isState_0 (l : Launch) (dC : Nat → ClassId) (dI : Nat → Nat → Nat) (sz : Nat) (xa : Nat) (xtape : Nat) (tp : Nat) (rd : Nat) (au : Nat) (xdr : Nat) (hy : Nat) (g : Nat) (tg : Nat) (sg : Nat) (ss : Nat) (rm : Nat) (ti : Nat) (py : Nat) (bu : Nat) (sm : Nat) (gz : Nat) (g1 : Nat) (g2 : Nat) (g3 : Nat) (g4 : Nat) (g5 : Nat) (gc : Nat) (gfull : Nat) (gx : Int32) (gway : Int32) (gav : Int32) (ggoal : Int32) (gfound : Nat) (gl : Nat) (gsz : Nat) (g16 : Nat) (g17 : Nat) (p0 : Int32) (htp : tp ≤ 900) (hss : ss ≤ 1) (hgc : gc ≤ 120) (hgfull : gfull ≤ 1) (hgfound : gfound ≤ 1) (hgl : gl ≤ 1) (hgsz : gsz ≤ 4) : Met l yX8_isState vs_E_8_isState_0 ({ frames := 0, cells := 0, slots := 0, locals := 0 }) (va_Pc [.ref xa, .int p0] (pu_B (dC, dI) (xg0__w xa xtape (nI tp) rd au xdr hy g 0 tg sg (nI ss) rm ti py bu sm gz g1 g2 g3 g4 g5 (nI gc) (nI gfull) gx gway gav ggoal (nI gfound) 120 (nI gl) (nI gsz) g16 g17) (xg0__t ) sz)) (va_Qi (fun (r : Int32) (_ : Unit) => r = 0) (fun _ _ => True) (va_A [] sz)) 0 0 (va_A [] sz) := by
  refine Met.ofW (cc := cX8_isState) (maxL := 2) (ret := (some .boolean)) (by decide) rfl ?_
  intro p e s m args below meth c s₁ B hml hv
  obtain ⟨rfl, rfl, hP, hK, hD0⟩ := hv
  have hx := B.exec
  have hb := B.bytes
  have hr := B.returns
  have hts := atoms_spec (ws := vs_E_8_isState_0) B.pre
  have v_1 := hts (.fieldLink RX8 100 "ClockReach" "hasShown" "Z") (List.mem_cons_of_mem _ cm_445)
  have hown : s.vm.findClass RX8 = some m.cls := findClass_of_methodNamed B.named
  have hlocks := B.notSynchronized
  have hiX8 : ∀ w ∈ wsX80, w ∈ vs_E_8_isState_0 := fun _ h => List.mem_cons_of_mem _ (cm_X8 h)
  have hD := hD0
  have hA : ∀ q : Nat, s.heap.size ≤ q → va_A [] s.heap.size q := fun _ h => Or.inr h
  have hS : va_S (va_A [] s.heap.size) s.heap s.heap [] := va_S.rf
  have hl := lv_entry ([.ref xa, .int p0]) (n := 2) (Nat.le_of_ble_eq_true rfl)
  rw [lg_entry_eq]
  generalize (lg_sl ([.ref xa, .int p0]) ++ List.replicate (2 - (lg_sl ([.ref xa, .int p0])).length) Slot.unset).toArray = ls at hl ⊢
  have hl : lv_has ls 2 [(0, .ref xa), (1, .int p0)] := hl
  obtain ⟨RR, hRR⟩ : ∃ x, x = sp_E_8_isState_0 := ⟨_, rfl⟩
  have hsp := hRR
  refine lv_aload_n hx hb eX8_isState_0 rfl (lv_at hl 0 rfl) ?_
  refine va_get (D := (dC, dI)) (ci := 8) (v := .int 0) (C := RX8) (T := TX8) (N := 16) hx hb hts hiX8 hown hK hP 0 rfl rfl 7 (by decide) v_1 (fun _ h9 => h9) rfl eX8_isState_1 ?_
  refine lv_if_eq (tgt := 26) hx hb eX8_isState_4 (by decide) (fun _ => ?_) (fun z => absurd z (by decide))
  refine lv_iconst (v := 0) hx hb eX8_isState_26 (by decide) ?_
  exact W.zret (v := 0) (ty := .boolean) hx hb hr (rfl) (fun t ht hW => ⟨⟨0, (), rfl, rfl, trivial⟩, hS.F ht⟩) hS.2.2 eX8_isState_27
theorem eX8_isStep_0 : decode cX8_isStep 0 = .ok (.aload_n 0, 1) := by decide +kernel
theorem eX8_isStep_1 : decode cX8_isStep 1 = .ok (.iload_n 1, 1) := by decide +kernel
theorem eX8_isStep_2 : decode cX8_isStep 2 = .ok (.invokevirtual 228, 3) := by decide +kernel
theorem eX8_isStep_5 : decode cX8_isStep 5 = .ok (.ifCond .eq 24, 3) := by decide +kernel
theorem eX8_isStep_29 : decode cX8_isStep 29 = .ok (.iconst 0, 1) := by decide +kernel
theorem eX8_isStep_30 : decode cX8_isStep 30 = .ok (.ireturn, 1) := by decide +kernel
abbrev vs_E_8_isStep_0 : List Cond := .code yX8_isStep cX8_isStep 3 (some .boolean) :: CM
theorem g_E_8_isStep_0_E_8_isState_0 : GoodIn vs_E_8_isStep_0 (wsV RX8 228 RX8 yX8_isState vs_E_8_isState_0) := cm_gV cm_537 cm_538 cm_539 cm_427 cm_530
noncomputable def sp_E_8_isStep_0 : Unit := ()
set_option maxHeartbeats 4000000 in
set_option maxRecDepth 100000 in
theorem c_E_8_isStep_0 (l : Launch) (dC : Nat → ClassId) (dI : Nat → Nat → Nat) (sz : Nat) (xa : Nat) (xtape : Nat) (tp : Nat) (rd : Nat) (au : Nat) (xdr : Nat) (hy : Nat) (g : Nat) (tg : Nat) (sg : Nat) (ss : Nat) (rm : Nat) (ti : Nat) (py : Nat) (bu : Nat) (sm : Nat) (gz : Nat) (g1 : Nat) (g2 : Nat) (g3 : Nat) (g4 : Nat) (g5 : Nat) (gc : Nat) (gfull : Nat) (gx : Int32) (gway : Int32) (gav : Int32) (ggoal : Int32) (gfound : Nat) (gl : Nat) (gsz : Nat) (g16 : Nat) (g17 : Nat) (k_fs2 : ClassId) (fs2 : Nat → Int32) (k_fs3 : ClassId) (fs3 : Nat → Int32) (k_fs4 : ClassId) (fs4 : Nat → Int32) (p0 : Int32) (p1 : Int32) (htp : tp ≤ 900) (hss : ss ≤ 1) (hgc : gc ≤ 120) (hgfull : gfull ≤ 1) (hgfound : gfound ≤ 1) (hgl : gl ≤ 1) (hgsz : gsz ≤ 4) : Met l yX8_isStep vs_E_8_isStep_0 ({ frames := 1, cells := 0, slots := 0, locals := 21 }) (va_Pc [.ref xa, .int p0, .int p1] (pu_B (dC, dI) (xgl__w xa xtape (nI tp) rd au xdr hy g 0 tg sg (nI ss) rm ti py bu sm gz g1 g2 g3 g4 g5 (nI gc) (nI gfull) gx gway gav ggoal (nI gfound) 120 (nI gl) (nI gsz) g16 g17 k_fs2 fs2 k_fs3 fs3 k_fs4 fs4) (xgl__t k_fs2 k_fs3 k_fs4) sz)) (va_Qi (fun (r : Int32) (_ : Unit) => r = 0) (fun _ _ => True) (va_A [] sz)) 0 0 (va_A [] sz) := by
  refine Met.ofW (cc := cX8_isStep) (maxL := 3) (ret := (some .boolean)) (by decide) rfl ?_
  intro p e s m args below meth c s₁ B hml hv
  obtain ⟨rfl, rfl, hP, hK, hD0⟩ := hv
  have hx := B.exec
  have hb := B.bytes
  have hr := B.returns
  have hts := atoms_spec (ws := vs_E_8_isStep_0) B.pre
  have hown : s.vm.findClass RX8 = some m.cls := findClass_of_methodNamed B.named
  have hlocks := B.notSynchronized
  have hD := hD0
  have hA : ∀ q : Nat, s.heap.size ≤ q → va_A [] s.heap.size q := fun _ h => Or.inr h
  have hS : va_S (va_A [] s.heap.size) s.heap s.heap [] := va_S.rf
  have hl := lv_entry ([.ref xa, .int p0, .int p1]) (n := 3) (Nat.le_of_ble_eq_true rfl)
  rw [lg_entry_eq]
  generalize (lg_sl ([.ref xa, .int p0, .int p1]) ++ List.replicate (3 - (lg_sl ([.ref xa, .int p0, .int p1])).length) Slot.unset).toArray = ls at hl ⊢
  have hl : lv_has ls 3 [(0, .ref xa), (1, .int p0), (2, .int p1)] := hl
  obtain ⟨RR, hRR⟩ : ∃ x, x = sp_E_8_isStep_0 := ⟨_, rfl⟩
  have hsp := hRR
  refine lv_aload_n hx hb eX8_isStep_0 rfl (lv_at hl 0 rfl) ?_
  refine lv_iload_n hx hb eX8_isStep_1 rfl (lv_at hl 1 rfl) ?_
  have hPc : va_P (dC, dI) vwCl (xg0__w xa xtape (nI tp) rd au xdr hy g 0 tg sg (nI ss) rm ti py bu sm gz g1 g2 g3 g4 g5 (nI gc) (nI gfull) gx gway gav ggoal (nI gfound) 120 (nI gl) (nI gsz) g16 g17) _ := hP.sub [0, 1] rfl
  have hDc := hD.sub (ws' := (xg0__w xa xtape (nI tp) rd au xdr hy g 0 tg sg (nI ss) rm ti py bu sm gz g1 g2 g3 g4 g5 (nI gc) (nI gfull) gx gway gav ggoal (nI gfound) 120 (nI gl) (nI gsz) g16 g17)) [0, 1] (by decide) rfl
  have hKc : va_K (dC, dI) vwCl (xg0__t ) s := hK.sub [] rfl
  refine va_calli (va_runV (As := [.int p0]) (rest := []) ⟨hx, hb, hml, hown, hts⟩ (c_E_8_isState_0 l dC dI _ xa xtape tp rd au xdr hy g tg sg ss rm ti py bu sm gz g1 g2 g3 g4 g5 gc gfull gx gway gav ggoal gfound gl gsz g16 g17 p0 htp hss hgc hgfull hgfound hgl hgsz) (cwV 1 hts g_E_8_isStep_0_E_8_isState_0 rfl rfl rfl (by decide +kernel) ⟨Nat.le_of_ble_eq_true rfl, Nat.le_of_ble_eq_true rfl⟩) ⟨pu_bl, va_recv hK hP (ci := 8) (q0 := 0) rfl rfl, pu_in hPc hKc hDc⟩ rfl rfl hl.1 rfl (lv_room (Nat.le_of_ble_eq_true rfl)) eX8_isStep_2 ⟨Nat.le_of_ble_eq_true rfl, Nat.le_of_ble_eq_true rfl⟩) hS (fun q _ h => pu_fr hS hA q h) (pu_fr hS hA) (fun r_1 u t H1 locs ht hvm hw hB hz1 hk1 hS => ?_)
  have hP := pu_keep hP hk1
  clear hk1 hz1 ht hvm
  generalize H1 = H at hP hS ⊢
  obtain rfl : r_1 = 0 := hw
  refine lv_if_eq (tgt := 29) hx hb eX8_isStep_5 (by decide) (fun _ => ?_) (fun z => absurd z (by decide))
  refine lv_iconst (v := 0) hx hb eX8_isStep_29 (by decide) ?_
  exact W.zret (v := 0) (ty := .boolean) hx hb hr (rfl) (fun t ht hW => ⟨⟨0, (), rfl, rfl, trivial⟩, hS.F ht⟩) hS.2.2 eX8_isStep_30
theorem eX8_isStep_8 : decode cX8_isStep 8 = .ok (.iload_n 2, 1) := by decide +kernel
theorem eX8_isStep_9 : decode cX8_isStep 9 = .ok (.ifCond .lt 20, 3) := by decide +kernel
theorem eX8_isStep_12 : decode cX8_isStep 12 = .ok (.iload_n 2, 1) := by decide +kernel
theorem eX8_isStep_13 : decode cX8_isStep 13 = .ok (.aload_n 0, 1) := by decide +kernel
theorem eX8_isStep_14 : decode cX8_isStep 14 = .ok (.getfield 42, 3) := by decide +kernel
theorem eX8_isStep_17 : decode cX8_isStep 17 = .ok (.getfield 240, 3) := by decide +kernel
theorem eX8_isStep_20 : decode cX8_isStep 20 = .ok (.iload_n 1, 1) := by decide +kernel
theorem eX8_isStep_21 : decode cX8_isStep 21 = .ok (.iaload, 1) := by decide +kernel
theorem eX8_isStep_22 : decode cX8_isStep 22 = .ok (.if_icmp .ge 7, 3) := by decide +kernel
theorem eX8_isStep_25 : decode cX8_isStep 25 = .ok (.iconst 1, 1) := by decide +kernel
theorem eX8_isStep_26 : decode cX8_isStep 26 = .ok (.goto 4, 3) := by decide +kernel
abbrev vs_E_8_isStep : List Cond := .code yX8_isStep cX8_isStep 3 (some .boolean) :: CM
theorem g_E_8_isStep_E_8_isState : GoodIn vs_E_8_isStep (wsV RX8 228 RX8 yX8_isState vs_E_8_isState) := cm_gV cm_537 cm_538 cm_539 cm_427 cm_530
noncomputable def sp_E_8_isStep (hs : Nat) (gc : Nat) (fs4 : Nat → Int32) (p0 : Int32) (p1 : Int32) : Unit := (if hs = 1 ∧ (0 : Int32) ≤ p0 ∧ p0 < nI gc then (slet ((p0 : Int32).toNatClampNeg) (fun n_2 => (if (p1 : Int32) < 0 then () else (slet ((fs4 n_2 : Int32).toNatClampNeg) (fun d_4 => (if ((nI d_4) : Int32) ≤ p1 then () else (slet ((p1 : Int32).toNatClampNeg) (fun n_7 => ())))))))) else ())
set_option maxHeartbeats 4000000 in
set_option maxRecDepth 100000 in
theorem c_E_8_isStep (l : Launch) (dC : Nat → ClassId) (dI : Nat → Nat → Nat) (sz : Nat) (xa : Nat) (xtape : Nat) (tp : Nat) (rd : Nat) (au : Nat) (xdr : Nat) (hy : Nat) (g : Nat) (hs : Nat) (tg : Nat) (sg : Nat) (ss : Nat) (rm : Nat) (ti : Nat) (py : Nat) (bu : Nat) (sm : Nat) (gz : Nat) (g1 : Nat) (g2 : Nat) (g3 : Nat) (g4 : Nat) (g5 : Nat) (gc : Nat) (gfull : Nat) (gx : Int32) (gway : Int32) (gav : Int32) (ggoal : Int32) (gfound : Nat) (gl : Nat) (gsz : Nat) (g16 : Nat) (g17 : Nat) (k_fs2 : ClassId) (fs2 : Nat → Int32) (k_fs3 : ClassId) (fs3 : Nat → Int32) (k_fs4 : ClassId) (fs4 : Nat → Int32) (p0 : Int32) (p1 : Int32) (htp : tp ≤ 900) (hhs : hs ≤ 1) (hss : ss ≤ 1) (hgc : gc ≤ 120) (hgfull : gfull ≤ 1) (hgfound : gfound ≤ 1) (hgl : gl ≤ 1) (hgsz : gsz ≤ 4) (hq0 : gz_ok gc fs2 fs3 fs4) : Met l yX8_isStep vs_E_8_isStep ({ frames := 1, cells := 0, slots := 0, locals := 21 }) (va_Pc [.ref xa, .int p0, .int p1] (pu_B (dC, dI) (xgl__w xa xtape (nI tp) rd au xdr hy g (nI hs) tg sg (nI ss) rm ti py bu sm gz g1 g2 g3 g4 g5 (nI gc) (nI gfull) gx gway gav ggoal (nI gfound) 120 (nI gl) (nI gsz) g16 g17 k_fs2 fs2 k_fs3 fs3 k_fs4 fs4) (xgl__t k_fs2 k_fs3 k_fs4) sz)) (va_Qi (fun (r : Int32) (_ : Unit) => (r = 1 ∧ ∃ q j : Nat, q < gc ∧ j ≤ 118 ∧ p0 = nI q ∧ p1 = nI j ∧ isStp hs gc fs4 p0 p1) ∨ (r = 0 ∧ ¬ isStp hs gc fs4 p0 p1)) (fun _ _ => True) (va_A [] sz)) 0 0 (va_A [] sz) := by
  refine Met.ofW (cc := cX8_isStep) (maxL := 3) (ret := (some .boolean)) (by decide) rfl ?_
  intro p e s m args below meth c s₁ B hml hv
  obtain ⟨rfl, rfl, hP, hK, hD0⟩ := hv
  have hx := B.exec
  have hb := B.bytes
  have hr := B.returns
  have hts := atoms_spec (ws := vs_E_8_isStep) B.pre
  have v_6 := hts (.fieldLink RX8 42 "ClockReach" "shown" "LClockReach$Graph;") (List.mem_cons_of_mem _ cm_456)
  have v_7 := hts (.fieldLink RX8 240 "ClockReach$Graph" "depths" "[I") (List.mem_cons_of_mem _ cm_535)
  have hown : s.vm.findClass RX8 = some m.cls := findClass_of_methodNamed B.named
  have hlocks := B.notSynchronized
  have hiX1 : ∀ w ∈ wsX10, w ∈ vs_E_8_isStep := fun _ h => List.mem_cons_of_mem _ (cm_X1 h)
  have hiX8 : ∀ w ∈ wsX80, w ∈ vs_E_8_isStep := fun _ h => List.mem_cons_of_mem _ (cm_X8 h)
  have hD := hD0
  have hA : ∀ q : Nat, s.heap.size ≤ q → va_A [] s.heap.size q := fun _ h => Or.inr h
  have hS : va_S (va_A [] s.heap.size) s.heap s.heap [] := va_S.rf
  have hl := lv_entry ([.ref xa, .int p0, .int p1]) (n := 3) (Nat.le_of_ble_eq_true rfl)
  rw [lg_entry_eq]
  generalize (lg_sl ([.ref xa, .int p0, .int p1]) ++ List.replicate (3 - (lg_sl ([.ref xa, .int p0, .int p1])).length) Slot.unset).toArray = ls at hl ⊢
  have hl : lv_has ls 3 [(0, .ref xa), (1, .int p0), (2, .int p1)] := hl
  obtain ⟨RR, hRR⟩ : ∃ x, x = (sp_E_8_isStep hs gc fs4 p0 p1) := ⟨_, rfl⟩
  have hsp := hRR
  refine lv_aload_n hx hb eX8_isStep_0 rfl (lv_at hl 0 rfl) ?_
  refine lv_iload_n hx hb eX8_isStep_1 rfl (lv_at hl 1 rfl) ?_
  have hPc : va_P (dC, dI) vwCl (xg0__w xa xtape (nI tp) rd au xdr hy g (nI hs) tg sg (nI ss) rm ti py bu sm gz g1 g2 g3 g4 g5 (nI gc) (nI gfull) gx gway gav ggoal (nI gfound) 120 (nI gl) (nI gsz) g16 g17) _ := hP.sub [0, 1] rfl
  have hDc := hD.sub (ws' := (xg0__w xa xtape (nI tp) rd au xdr hy g (nI hs) tg sg (nI ss) rm ti py bu sm gz g1 g2 g3 g4 g5 (nI gc) (nI gfull) gx gway gav ggoal (nI gfound) 120 (nI gl) (nI gsz) g16 g17)) [0, 1] (by decide) rfl
  have hKc : va_K (dC, dI) vwCl (xg0__t ) s := hK.sub [] rfl
  refine va_calli (va_runV (As := [.int p0]) (rest := []) ⟨hx, hb, hml, hown, hts⟩ (c_E_8_isState l dC dI _ xa xtape tp rd au xdr hy g hs tg sg ss rm ti py bu sm gz g1 g2 g3 g4 g5 gc gfull gx gway gav ggoal gfound gl gsz g16 g17 p0 htp hhs hss hgc hgfull hgfound hgl hgsz) (cwV 1 hts g_E_8_isStep_E_8_isState rfl rfl rfl (by decide +kernel) ⟨Nat.le_of_ble_eq_true rfl, Nat.le_of_ble_eq_true rfl⟩) ⟨pu_bl, va_recv hK hP (ci := 8) (q0 := 0) rfl rfl, pu_in hPc hKc hDc⟩ rfl rfl hl.1 rfl (lv_room (Nat.le_of_ble_eq_true rfl)) eX8_isStep_2 ⟨Nat.le_of_ble_eq_true rfl, Nat.le_of_ble_eq_true rfl⟩) hS (fun q _ h => pu_fr hS hA q h) (pu_fr hS hA) (fun r_1 u t H1 locs ht hvm hw hB hz1 hk1 hS => ?_)
  have hP := pu_keep hP hk1
  clear hk1 hz1 ht hvm
  generalize H1 = H at hP hS ⊢
  rcases hw with ⟨rfl, hw⟩ | ⟨rfl, hn⟩
  · obtain ⟨hs1, n_2, hn_2, rfl⟩ := hw
    have hsp := hsp.trans (if_pos ⟨hs1, in_q hn_2 (by omega)⟩)
    have hsp := hsp.trans (slet_eq (nI_cl (n := n_2) (by omega)))
    refine lv_if_eq (tgt := 29) hx hb eX8_isStep_5 (by decide) (fun z => absurd z (by decide)) (fun _ => ?_)
    refine lv_iload_n hx hb eX8_isStep_8 rfl (lv_at hl 2 rfl) ?_
    refine lv_if_lt (tgt := 29) hx hb eX8_isStep_9 (by decide) (fun c_3 => ?_) (fun c_3 => ?_)
    · have hcc_3 := c_3
      have hsp := hsp.trans (if_pos c_3)
      refine lv_iconst (v := 0) hx hb eX8_isStep_29 (by decide) ?_
      exact W.zret (v := 0) (ty := .boolean) hx hb hr (rfl) (fun t ht hW => ⟨⟨0, (), rfl, Or.inr ⟨rfl, by first | exact stp_n0 hn | exact stp_n2 (by assumption) | exact stp_n3 (by omega) (by assumption) (by assumption)⟩, trivial⟩, hS.F ht⟩) hS.2.2 eX8_isStep_30
    · have hcc_3 := c_3
      have hsp := hsp.trans (if_neg c_3)
      have lp1 : ¬ p1 < 0 := c_3
      refine lv_iload_n hx hb eX8_isStep_12 rfl (lv_at hl 2 rfl) ?_
      refine lv_aload_n hx hb eX8_isStep_13 rfl (lv_at hl 0 rfl) ?_
      refine va_get (D := (dC, dI)) (ci := 8) (v := .ref g) (C := RX8) (T := TX8) (N := 16) hx hb hts hiX8 hown hK hP 0 rfl rfl 6 (by decide) v_6 (fun _ h9 => h9) rfl eX8_isStep_14 ?_
      refine va_get (D := (dC, dI)) (ci := 1) (v := .ref g4) (C := RX1) (T := TX1) (N := 18) hx hb hts hiX1 hown hK hP 1 rfl rfl 4 (by decide) v_7 (fun _ h9 => h9) rfl eX8_isStep_17 ?_
      refine lv_iload_n hx hb eX8_isStep_20 rfl (lv_at hl 1 rfl) ?_
      obtain ⟨d_4, hd_4, fd_4, gd_4⟩ := gz_get hq0 (i := n_2) (by omega) (by omega)
      have hsp := hsp.trans (slet_eq (by rw [gd_4]; exact nI_cl (n := d_4) (by omega) : d_4 = (fs4 n_2 : Int32).toNatClampNeg))
      refine va_iald hx hb hK hP 4 2 rfl rfl (vp_in_nI (n := n_2) (by omega) (Nat.le_of_ble_eq_true rfl)) eX8_isStep_21 ?_
      refine lv_topi (fun y_5 ey_5 => ?_)
      obtain rfl : y_5 = nI d_4 := ey_5.trans fd_4
      refine lv_icmp_ge (tgt := 29) hx hb eX8_isStep_22 (by decide) (fun c_6 => ?_) (fun c_6 => ?_)
      · have hcc_6 := c_6
        have hsp := hsp.trans (if_pos c_6)
        refine lv_iconst (v := 0) hx hb eX8_isStep_29 (by decide) ?_
        exact W.zret (v := 0) (ty := .boolean) hx hb hr (rfl) (fun t ht hW => ⟨⟨0, (), rfl, Or.inr ⟨rfl, by first | exact stp_n0 hn | exact stp_n2 (by assumption) | exact stp_n3 (by omega) (by assumption) (by assumption)⟩, trivial⟩, hS.F ht⟩) hS.2.2 eX8_isStep_30
      · have hcc_6 := c_6
        have hsp := hsp.trans (if_neg c_6)
        obtain ⟨n_7, hn_7, rfl⟩ := pu_ult (b := d_4) (by omega) lp1 (Int32.not_le.mp c_6)
        have hsp := hsp.trans (slet_eq (nI_cl (n := n_7) (by omega)))
        refine lv_iconst (v := 1) hx hb eX8_isStep_25 (by decide) ?_
        refine lv_goto (tgt := 30) hx hb eX8_isStep_26 (by decide) ?_
        exact W.zret (v := 1) (ty := .boolean) hx hb hr (rfl) (fun t ht hW => ⟨⟨1, (), rfl, Or.inl ⟨rfl, n_2, n_7, by omega, by omega, rfl, rfl, stp_y (by assumption) (by omega) (by omega) (by assumption) (by omega) (by omega)⟩, trivial⟩, hS.F ht⟩) hS.2.2 eX8_isStep_30
  · have hsp := hsp.trans (if_neg hn)
    refine lv_if_eq (tgt := 29) hx hb eX8_isStep_5 (by decide) (fun _ => ?_) (fun z => absurd z (by decide))
    refine lv_iconst (v := 0) hx hb eX8_isStep_29 (by decide) ?_
    exact W.zret (v := 0) (ty := .boolean) hx hb hr (rfl) (fun t ht hW => ⟨⟨0, (), rfl, Or.inr ⟨rfl, by first | exact stp_n0 hn | exact stp_n2 (by assumption) | exact stp_n3 (by omega) (by assumption) (by assumption)⟩, trivial⟩, hS.F ht⟩) hS.2.2 eX8_isStep_30
theorem eX8_timesRun_0 : decode cX8_timesRun 0 = .ok (.aload_n 0, 1) := by decide +kernel
theorem eX8_timesRun_1 : decode cX8_timesRun 1 = .ok (.getfield 62, 3) := by decide +kernel
theorem eX8_timesRun_4 : decode cX8_timesRun 4 = .ok (.aload_n 0, 1) := by decide +kernel
theorem eX8_timesRun_5 : decode cX8_timesRun 5 = .ok (.getfield 42, 3) := by decide +kernel
theorem eX8_timesRun_8 : decode cX8_timesRun 8 = .ok (.iload_n 1, 1) := by decide +kernel
theorem eX8_timesRun_9 : decode cX8_timesRun 9 = .ok (.invokevirtual 323, 3) := by decide +kernel
theorem eX8_timesRun_12 : decode cX8_timesRun 12 = .ok (.aload_n 0, 1) := by decide +kernel
theorem eX8_timesRun_13 : decode cX8_timesRun 13 = .ok (.getfield 62, 3) := by decide +kernel
theorem eX8_timesRun_16 : decode cX8_timesRun 16 = .ok (.aload_n 0, 1) := by decide +kernel
theorem eX8_timesRun_17 : decode cX8_timesRun 17 = .ok (.getfield 23, 3) := by decide +kernel
theorem eX8_timesRun_20 : decode cX8_timesRun 20 = .ok (.invokevirtual 330, 3) := by decide +kernel
theorem eX8_timesRun_23 : decode cX8_timesRun 23 = .ok (.aload_n 0, 1) := by decide +kernel
theorem eX8_timesRun_24 : decode cX8_timesRun 24 = .ok (.getfield 62, 3) := by decide +kernel
theorem eX8_timesRun_27 : decode cX8_timesRun 27 = .ok (.invokevirtual 333, 3) := by decide +kernel
theorem eX8_timesRun_30 : decode cX8_timesRun 30 = .ok (.ireturn, 1) := by decide +kernel
abbrev vs_E_8_timesRun : List Cond := .code yX8_timesRun cX8_timesRun 2 (some .boolean) :: CM
theorem g_E_8_timesRun_E_6_loadRun : GoodIn vs_E_8_timesRun (wsV RX8 323 RX6 yX6_loadRun vs_E_6_loadRun) := cm_gV cm_606 cm_607 cm_608 cm_383 cm_364
theorem g_E_8_timesRun_E_6_layRules : GoodIn vs_E_8_timesRun (wsV RX8 330 RX6 yX6_layRules vs_E_6_layRules) := cm_gV cm_610 cm_611 cm_612 cm_383 cm_370
theorem g_E_8_timesRun_E_6_findsLeast : GoodIn vs_E_8_timesRun (wsV RX8 333 RX6 yX6_findsLeast vs_E_6_findsLeast) := cm_gV cm_613 cm_614 cm_615 cm_383 cm_399
noncomputable def sp_E_8_timesRun (nc : Nat) (st0 : Nat) (f4 : Nat → Int32) (q_f5 : Nat → Nat) (q_f6 : Nat → Nat) (f7 : Nat → Int32) (q_f8 : Nat → Nat) (q_f9 : Nat → Nat) (f12 : Nat → Int32) (f13 : Nat → Int32) (fs2 : Nat → Int32) (fs3 : Nat → Int32) (fs4 : Nat → Int32) (q_j0 : Nat → Nat) (j2 : Nat → Int32) (q_j3 : Nat → Nat) (q_j4 : Nat → Nat) (j5 : Nat → Int32) (q_j7 : Nat → Nat) (a0 : Nat) : Nat × (Nat → Nat) × (Nat → Int32) × (Nat → Nat) × (Nat → Nat) × (Nat → Int32) × (Nat → Nat) × Nat × Nat := (slet (sp_E_6_loadRun q_j0 fs2 fs3 fs4 a0) (fun (z_j0_2, z_ln_3) => (slet (sp_E_6_layRules z_ln_3 z_j0_2 q_j3 q_j4 j5 q_j7 nc st0 f4 q_f5 q_f6 f7 q_f8 q_f9 f12 f13) (fun (z_j3_5, z_j4_6, z_j5_7, z_j7_8, z_nr_9) => (slet (sp_E_6_findsLeast z_ln_3 z_nr_9 j2 z_j3_5 z_j4_6 z_j5_7) (fun (u_12, z_j2_11) => (u_12, z_j0_2, z_j2_11, z_j3_5, z_j4_6, z_j5_7, z_j7_8, z_ln_3, z_nr_9)))))))
set_option maxHeartbeats 4000000 in
set_option maxRecDepth 100000 in
theorem c_E_8_timesRun (l : Launch) (dC : Nat → ClassId) (dI : Nat → Nat → Nat) (sz : Nat) (xa : Nat) (xtape : Nat) (tp : Nat) (rd : Nat) (au : Nat) (xdr : Nat) (hy : Nat) (g : Nat) (hs : Nat) (tg : Nat) (sg : Nat) (ss : Nat) (rm : Nat) (ti : Nat) (py : Nat) (bu : Nat) (sm : Nat) (nc : Nat) (np : Nat) (ne : Nat) (st0 : Nat) (q4 : Nat) (q5 : Nat) (q6 : Nat) (q7 : Nat) (q8 : Nat) (q9 : Nat) (q10 : Nat) (q11 : Nat) (q12 : Nat) (q13 : Nat) (q14 : Nat) (q15 : Nat) (q16 : Nat) (k_f4 : ClassId) (f4 : Nat → Int32) (k_f5 : ClassId) (q_f5 : Nat → Nat) (k_f6 : ClassId) (q_f6 : Nat → Nat) (k_f7 : ClassId) (f7 : Nat → Int32) (k_f8 : ClassId) (q_f8 : Nat → Nat) (k_f9 : ClassId) (q_f9 : Nat → Nat) (k_f10 : ClassId) (f10 : Nat → Int32) (k_f11 : ClassId) (f11 : Nat → Int32) (k_f12 : ClassId) (f12 : Nat → Int32) (k_f13 : ClassId) (f13 : Nat → Int32) (k_f14 : ClassId) (f14 : Nat → Int32) (k_f15 : ClassId) (f15 : Nat → Int32) (k_f16 : ClassId) (f16 : Nat → Int32) (gz : Nat) (g1 : Nat) (g2 : Nat) (g3 : Nat) (g4 : Nat) (g5 : Nat) (gc : Nat) (gfull : Nat) (gx : Int32) (gway : Int32) (gav : Int32) (ggoal : Int32) (gfound : Nat) (gl : Nat) (gsz : Nat) (g16 : Nat) (g17 : Nat) (k_fs2 : ClassId) (fs2 : Nat → Int32) (k_fs3 : ClassId) (fs3 : Nat → Int32) (k_fs4 : ClassId) (fs4 : Nat → Int32) (r0 : Nat) (ln : Nat) (r2 : Nat) (r3 : Nat) (r4 : Nat) (r5 : Nat) (nr : Nat) (r7 : Nat) (r8 : Nat) (tz : Nat) (k_j0 : ClassId) (q_j0 : Nat → Nat) (k_j2 : ClassId) (j2 : Nat → Int32) (k_j3 : ClassId) (q_j3 : Nat → Nat) (k_j4 : ClassId) (q_j4 : Nat → Nat) (k_j5 : ClassId) (j5 : Nat → Int32) (k_j7 : ClassId) (q_j7 : Nat → Nat) (k_j8 : ClassId) (j8 : Nat → Int32) (a0 : Nat) (htp : tp ≤ 900) (hhs : hs ≤ 1) (hss : ss ≤ 1) (hnc : nc ≤ 3) (hnp : np ≤ 8) (hne : ne ≤ 14) (hst0 : st0 ≤ 7) (hgc : gc ≤ 120) (hgfull : gfull ≤ 1) (hgfound : gfound ≤ 1) (hgl : gl ≤ 1) (hgsz : gsz ≤ 4) (hln : ln ≤ 119) (hnr : nr ≤ 1920) (ha0 : a0 ≤ 119) (hq0 : gz_ok gc fs2 fs3 fs4) (hq1 : a0 < gc) : Met l yX8_timesRun vs_E_8_timesRun ({ frames := 3, cells := 0, slots := 0, locals := 74 }) (va_Pc [.ref xa, .int (nI a0)] (pu_B (dC, dI) (xti__w xa xtape (nI tp) rd au xdr hy g (nI hs) tg sg (nI ss) rm ti py bu sm (nI nc) (nI np) (nI ne) (nI st0) q4 q5 q6 q7 q8 q9 q10 q11 q12 q13 q14 q15 q16 k_f4 f4 k_f5 (bN 7 q_f5) k_f6 (bN 7 q_f6) k_f7 f7 k_f8 (bN 4 q_f8) k_f9 (bN 2 q_f9) k_f10 f10 k_f11 f11 k_f12 f12 k_f13 f13 k_f14 f14 k_f15 f15 k_f16 f16 gz g1 g2 g3 g4 g5 (nI gc) (nI gfull) gx gway gav ggoal (nI gfound) 120 (nI gl) (nI gsz) g16 g17 k_fs2 fs2 k_fs3 fs3 k_fs4 fs4 r0 (nI ln) r2 r3 r4 r5 (nI nr) r7 r8 tz k_j0 (bN 13 q_j0) k_j2 j2 k_j3 (bN 120 q_j3) k_j4 (bN 120 q_j4) k_j5 j5 k_j7 (bN 120 q_j7) k_j8 j8) (xti__t k_f4 k_f5 k_f6 k_f7 k_f8 k_f9 k_f10 k_f11 k_f12 k_f13 k_f14 k_f15 k_f16 k_fs2 k_fs3 k_fs4 k_j0 k_j2 k_j3 k_j4 k_j5 k_j7 k_j8) sz)) (va_Qi (fun (r : Int32) (_ : Unit) => ∃ v : Nat, v ≤ 1 ∧ r = nI v ∧ v = (sp_E_8_timesRun nc st0 f4 q_f5 q_f6 f7 q_f8 q_f9 f12 f13 fs2 fs3 fs4 q_j0 j2 q_j3 q_j4 j5 q_j7 a0).1) (fun _ t => ∃ (z_j0 : Nat → Nat) (z_j2 : Nat → Int32) (z_j3 : Nat → Nat) (z_j4 : Nat → Nat) (z_j5 : Nat → Int32) (z_j7 : Nat → Nat) (z_ln : Nat) (z_nr : Nat), pu_E (dC, dI) (xti__w xa xtape (nI tp) rd au xdr hy g (nI hs) tg sg (nI ss) rm ti py bu sm (nI nc) (nI np) (nI ne) (nI st0) q4 q5 q6 q7 q8 q9 q10 q11 q12 q13 q14 q15 q16 k_f4 f4 k_f5 (bN 7 q_f5) k_f6 (bN 7 q_f6) k_f7 f7 k_f8 (bN 4 q_f8) k_f9 (bN 2 q_f9) k_f10 f10 k_f11 f11 k_f12 f12 k_f13 f13 k_f14 f14 k_f15 f15 k_f16 f16 gz g1 g2 g3 g4 g5 (nI gc) (nI gfull) gx gway gav ggoal (nI gfound) 120 (nI gl) (nI gsz) g16 g17 k_fs2 fs2 k_fs3 fs3 k_fs4 fs4 r0 (nI z_ln) r2 r3 r4 r5 (nI z_nr) r7 r8 tz k_j0 (bN 13 z_j0) k_j2 z_j2 k_j3 (bN 120 z_j3) k_j4 (bN 120 z_j4) k_j5 z_j5 k_j7 (bN 120 z_j7) k_j8 j8) (xti__t k_f4 k_f5 k_f6 k_f7 k_f8 k_f9 k_f10 k_f11 k_f12 k_f13 k_f14 k_f15 k_f16 k_fs2 k_fs3 k_fs4 k_j0 k_j2 k_j3 k_j4 k_j5 k_j7 k_j8) (va_A ((xti__w xa xtape (nI tp) rd au xdr hy g (nI hs) tg sg (nI ss) rm ti py bu sm (nI nc) (nI np) (nI ne) (nI st0) q4 q5 q6 q7 q8 q9 q10 q11 q12 q13 q14 q15 q16 k_f4 f4 k_f5 (bN 7 q_f5) k_f6 (bN 7 q_f6) k_f7 f7 k_f8 (bN 4 q_f8) k_f9 (bN 2 q_f9) k_f10 f10 k_f11 f11 k_f12 f12 k_f13 f13 k_f14 f14 k_f15 f15 k_f16 f16 gz g1 g2 g3 g4 g5 (nI gc) (nI gfull) gx gway gav ggoal (nI gfound) 120 (nI gl) (nI gsz) g16 g17 k_fs2 fs2 k_fs3 fs3 k_fs4 fs4 r0 (nI ln) r2 r3 r4 r5 (nI nr) r7 r8 tz k_j0 (bN 13 q_j0) k_j2 j2 k_j3 (bN 120 q_j3) k_j4 (bN 120 q_j4) k_j5 j5 k_j7 (bN 120 q_j7) k_j8 j8)) sz) t ∧ (z_ln ≤ 119) ∧ (z_nr ≤ 1920) ∧ ((z_j0, z_j2, z_j3, z_j4, z_j5, z_j7, z_ln, z_nr) = (sp_E_8_timesRun nc st0 f4 q_f5 q_f6 f7 q_f8 q_f9 f12 f13 fs2 fs3 fs4 q_j0 j2 q_j3 q_j4 j5 q_j7 a0).2)) (va_A ((xti__w xa xtape (nI tp) rd au xdr hy g (nI hs) tg sg (nI ss) rm ti py bu sm (nI nc) (nI np) (nI ne) (nI st0) q4 q5 q6 q7 q8 q9 q10 q11 q12 q13 q14 q15 q16 k_f4 f4 k_f5 (bN 7 q_f5) k_f6 (bN 7 q_f6) k_f7 f7 k_f8 (bN 4 q_f8) k_f9 (bN 2 q_f9) k_f10 f10 k_f11 f11 k_f12 f12 k_f13 f13 k_f14 f14 k_f15 f15 k_f16 f16 gz g1 g2 g3 g4 g5 (nI gc) (nI gfull) gx gway gav ggoal (nI gfound) 120 (nI gl) (nI gsz) g16 g17 k_fs2 fs2 k_fs3 fs3 k_fs4 fs4 r0 (nI ln) r2 r3 r4 r5 (nI nr) r7 r8 tz k_j0 (bN 13 q_j0) k_j2 j2 k_j3 (bN 120 q_j3) k_j4 (bN 120 q_j4) k_j5 j5 k_j7 (bN 120 q_j7) k_j8 j8)) sz)) 0 0 (va_A ((xti__w xa xtape (nI tp) rd au xdr hy g (nI hs) tg sg (nI ss) rm ti py bu sm (nI nc) (nI np) (nI ne) (nI st0) q4 q5 q6 q7 q8 q9 q10 q11 q12 q13 q14 q15 q16 k_f4 f4 k_f5 (bN 7 q_f5) k_f6 (bN 7 q_f6) k_f7 f7 k_f8 (bN 4 q_f8) k_f9 (bN 2 q_f9) k_f10 f10 k_f11 f11 k_f12 f12 k_f13 f13 k_f14 f14 k_f15 f15 k_f16 f16 gz g1 g2 g3 g4 g5 (nI gc) (nI gfull) gx gway gav ggoal (nI gfound) 120 (nI gl) (nI gsz) g16 g17 k_fs2 fs2 k_fs3 fs3 k_fs4 fs4 r0 (nI ln) r2 r3 r4 r5 (nI nr) r7 r8 tz k_j0 (bN 13 q_j0) k_j2 j2 k_j3 (bN 120 q_j3) k_j4 (bN 120 q_j4) k_j5 j5 k_j7 (bN 120 q_j7) k_j8 j8)) sz) := by
  refine Met.ofW (cc := cX8_timesRun) (maxL := 2) (ret := (some .boolean)) (by decide) rfl ?_
  intro p e s m args below meth c s₁ B hml hv
  obtain ⟨rfl, rfl, hP, hK, hD0⟩ := hv
  have hx := B.exec
  have hb := B.bytes
  have hr := B.returns
  have hts := atoms_spec (ws := vs_E_8_timesRun) B.pre
  have v_1 := hts (.fieldLink RX8 62 "ClockReach" "timing" "LClockReach$Timing;") (List.mem_cons_of_mem _ cm_601)
  have v_2 := hts (.fieldLink RX8 42 "ClockReach" "shown" "LClockReach$Graph;") (List.mem_cons_of_mem _ cm_456)
  have v_8 := hts (.fieldLink RX8 23 "ClockReach" "model" "LClockReach$Automaton;") (List.mem_cons_of_mem _ cm_434)
  have hown : s.vm.findClass RX8 = some m.cls := findClass_of_methodNamed B.named
  have hlocks := B.notSynchronized
  have hiX8 : ∀ w ∈ wsX80, w ∈ vs_E_8_timesRun := fun _ h => List.mem_cons_of_mem _ (cm_X8 h)
  have hD := hD0.self (sz := s.heap.size)
  generalize hAe : va_A ((xti__w xa xtape (nI tp) rd au xdr hy g (nI hs) tg sg (nI ss) rm ti py bu sm (nI nc) (nI np) (nI ne) (nI st0) q4 q5 q6 q7 q8 q9 q10 q11 q12 q13 q14 q15 q16 k_f4 f4 k_f5 (bN 7 q_f5) k_f6 (bN 7 q_f6) k_f7 f7 k_f8 (bN 4 q_f8) k_f9 (bN 2 q_f9) k_f10 f10 k_f11 f11 k_f12 f12 k_f13 f13 k_f14 f14 k_f15 f15 k_f16 f16 gz g1 g2 g3 g4 g5 (nI gc) (nI gfull) gx gway gav ggoal (nI gfound) 120 (nI gl) (nI gsz) g16 g17 k_fs2 fs2 k_fs3 fs3 k_fs4 fs4 r0 (nI ln) r2 r3 r4 r5 (nI nr) r7 r8 tz k_j0 (bN 13 q_j0) k_j2 j2 k_j3 (bN 120 q_j3) k_j4 (bN 120 q_j4) k_j5 j5 k_j7 (bN 120 q_j7) k_j8 j8)) s.heap.size = A at hD ⊢
  have hA : ∀ q : Nat, s.heap.size ≤ q → A q := fun q h => by rw [← hAe]; exact Or.inr h
  have hS : va_S A s.heap s.heap [] := va_S.rf
  have hl := lv_entry ([.ref xa, .int (nI a0)]) (n := 2) (Nat.le_of_ble_eq_true rfl)
  rw [lg_entry_eq]
  generalize (lg_sl ([.ref xa, .int (nI a0)]) ++ List.replicate (2 - (lg_sl ([.ref xa, .int (nI a0)])).length) Slot.unset).toArray = ls at hl ⊢
  have hl : lv_has ls 2 [(0, .ref xa), (1, .int (nI a0))] := hl
  obtain ⟨RR, hRR⟩ : ∃ x, x = (sp_E_8_timesRun nc st0 f4 q_f5 q_f6 f7 q_f8 q_f9 f12 f13 fs2 fs3 fs4 q_j0 j2 q_j3 q_j4 j5 q_j7 a0) := ⟨_, rfl⟩
  have hsp := hRR
  refine lv_aload_n hx hb eX8_timesRun_0 rfl (lv_at hl 0 rfl) ?_
  refine va_get (D := (dC, dI)) (ci := 8) (v := .ref ti) (C := RX8) (T := TX8) (N := 16) hx hb hts hiX8 hown hK hP 0 rfl rfl 12 (by decide) v_1 (fun _ h9 => h9) rfl eX8_timesRun_1 ?_
  refine lv_aload_n hx hb eX8_timesRun_4 rfl (lv_at hl 0 rfl) ?_
  refine va_get (D := (dC, dI)) (ci := 8) (v := .ref g) (C := RX8) (T := TX8) (N := 16) hx hb hts hiX8 hown hK hP 0 rfl rfl 6 (by decide) v_2 (fun _ h9 => h9) rfl eX8_timesRun_5 ?_
  refine lv_iload_n hx hb eX8_timesRun_8 rfl (lv_at hl 1 rfl) ?_
  have hPc : va_P (dC, dI) vwCl (tg__w ti r0 (nI ln) r2 r3 r4 r5 (nI nr) r7 r8 tz k_j0 (bN 13 q_j0) k_j2 j2 k_j3 (bN 120 q_j3) k_j4 (bN 120 q_j4) k_j5 j5 k_j7 (bN 120 q_j7) k_j8 j8 g gz g1 g2 g3 g4 g5 (nI gc) (nI gfull) gx gway gav ggoal (nI gfound) 120 (nI gl) (nI gsz) g16 g17 k_fs2 fs2 k_fs3 fs3 k_fs4 fs4) _ := hP.sub [19, 20, 21, 22, 23, 24, 25, 26, 15, 16, 17, 18] rfl
  have hDc := hD.sub (ws' := (tg__w ti r0 (nI ln) r2 r3 r4 r5 (nI nr) r7 r8 tz k_j0 (bN 13 q_j0) k_j2 j2 k_j3 (bN 120 q_j3) k_j4 (bN 120 q_j4) k_j5 j5 k_j7 (bN 120 q_j7) k_j8 j8 g gz g1 g2 g3 g4 g5 (nI gc) (nI gfull) gx gway gav ggoal (nI gfound) 120 (nI gl) (nI gsz) g16 g17 k_fs2 fs2 k_fs3 fs3 k_fs4 fs4)) [19, 20, 21, 22, 23, 24, 25, 26, 15, 16, 17, 18] (by decide) rfl
  have hKc : va_K (dC, dI) vwCl (tg__t k_j0 k_j2 k_j3 k_j4 k_j5 k_j7 k_j8 k_fs2 k_fs3 k_fs4) s := hK.sub [16, 17, 18, 19, 20, 21, 22, 13, 14, 15] rfl
  have hFc := pu_free hDc hS hA
  refine va_callv (va_runV (As := [.ref g, .int (nI a0)]) (rest := []) ⟨hx, hb, hml, hown, hts⟩ (c_E_6_loadRun l dC dI _ ti r0 ln r2 r3 r4 r5 nr r7 r8 tz k_j0 q_j0 k_j2 j2 k_j3 q_j3 k_j4 q_j4 k_j5 j5 k_j7 q_j7 k_j8 j8 g gz g1 g2 g3 g4 g5 gc gfull gx gway gav ggoal gfound gl gsz g16 g17 k_fs2 fs2 k_fs3 fs3 k_fs4 fs4 a0 hln hnr hgc hgfull hgfound hgl hgsz ha0 (by first | assumption | exact gz_0) (by omega)) (cwV 2 hts g_E_8_timesRun_E_6_loadRun rfl rfl rfl (by decide +kernel) ⟨Nat.le_of_ble_eq_true rfl, Nat.le_of_ble_eq_true rfl⟩) ⟨pu_bl, va_recv hK hP (ci := 6) (q0 := 19) rfl rfl, pu_in hPc hKc hDc⟩ rfl rfl hl.1 rfl (lv_room (Nat.le_of_ble_eq_true rfl)) eX8_timesRun_9 ⟨Nat.le_of_ble_eq_true rfl, Nat.le_of_ble_eq_true rfl⟩) hS (fun q _ h => hFc q h) hFc (fun u t H1 locs ht hvm hw hB hz1 hk1 hS => ?_)
  obtain ⟨z_j0_2, z_ln_3, ⟨hP1, -, hD1⟩, hz_ln_3, xr_1_0⟩ := hB
  rw [ht] at hP1
  obtain ⟨hP, hD⟩ := pj_a (X := (xti__w xa xtape (nI tp) rd au xdr hy g (nI hs) tg sg (nI ss) rm ti py bu sm (nI nc) (nI np) (nI ne) (nI st0) q4 q5 q6 q7 q8 q9 q10 q11 q12 q13 q14 q15 q16 k_f4 f4 k_f5 (bN 7 q_f5) k_f6 (bN 7 q_f6) k_f7 f7 k_f8 (bN 4 q_f8) k_f9 (bN 2 q_f9) k_f10 f10 k_f11 f11 k_f12 f12 k_f13 f13 k_f14 f14 k_f15 f15 k_f16 f16 gz g1 g2 g3 g4 g5 (nI gc) (nI gfull) gx gway gav ggoal (nI gfound) 120 (nI gl) (nI gsz) g16 g17 k_fs2 fs2 k_fs3 fs3 k_fs4 fs4 r0 (nI ln) r2 r3 r4 r5 (nI nr) r7 r8 tz k_j0 (bN 13 q_j0) k_j2 j2 k_j3 (bN 120 q_j3) k_j4 (bN 120 q_j4) k_j5 j5 k_j7 (bN 120 q_j7) k_j8 j8)) (X' := (xti__w xa xtape (nI tp) rd au xdr hy g (nI hs) tg sg (nI ss) rm ti py bu sm (nI nc) (nI np) (nI ne) (nI st0) q4 q5 q6 q7 q8 q9 q10 q11 q12 q13 q14 q15 q16 k_f4 f4 k_f5 (bN 7 q_f5) k_f6 (bN 7 q_f6) k_f7 f7 k_f8 (bN 4 q_f8) k_f9 (bN 2 q_f9) k_f10 f10 k_f11 f11 k_f12 f12 k_f13 f13 k_f14 f14 k_f15 f15 k_f16 f16 gz g1 g2 g3 g4 g5 (nI gc) (nI gfull) gx gway gav ggoal (nI gfound) 120 (nI gl) (nI gsz) g16 g17 k_fs2 fs2 k_fs3 fs3 k_fs4 fs4 r0 (nI z_ln_3) r2 r3 r4 r5 (nI nr) r7 r8 tz k_j0 (bN 13 z_j0_2) k_j2 j2 k_j3 (bN 120 q_j3) k_j4 (bN 120 q_j4) k_j5 j5 k_j7 (bN 120 q_j7) k_j8 j8)) (wc := (tg__w ti r0 (nI ln) r2 r3 r4 r5 (nI nr) r7 r8 tz k_j0 (bN 13 q_j0) k_j2 j2 k_j3 (bN 120 q_j3) k_j4 (bN 120 q_j4) k_j5 j5 k_j7 (bN 120 q_j7) k_j8 j8 g gz g1 g2 g3 g4 g5 (nI gc) (nI gfull) gx gway gav ggoal (nI gfound) 120 (nI gl) (nI gsz) g16 g17 k_fs2 fs2 k_fs3 fs3 k_fs4 fs4)) (w1 := (tg__w ti r0 (nI z_ln_3) r2 r3 r4 r5 (nI nr) r7 r8 tz k_j0 (bN 13 z_j0_2) k_j2 j2 k_j3 (bN 120 q_j3) k_j4 (bN 120 q_j4) k_j5 j5 k_j7 (bN 120 q_j7) k_j8 j8 g gz g1 g2 g3 g4 g5 (nI gc) (nI gfull) gx gway gav ggoal (nI gfound) 120 (nI gl) (nI gsz) g16 g17 k_fs2 fs2 k_fs3 fs3 k_fs4 fs4)) hP hD [19, 20, 21, 22, 23, 24, 25, 26, 15, 16, 17, 18] [12, 13, 14, 15, 16, 17, 18, 19, 20, 21, 22, 23, 24, 25, 26, 8, 9, 10, 11, 0, 1, 2, 3, 4, 5, 6, 7] 12 rfl hk1 hP1 rfl rfl rfl (by decide)
  clear hP1 hD1 hFc hPc hDc hKc
  clear hk1 hz1 ht hvm
  generalize H1 = H at hP hS ⊢
  have hsp := hsp.trans (slet_eq xr_1_0)
  refine lv_aload_n hx hb eX8_timesRun_12 rfl (lv_at hl 0 rfl) ?_
  refine va_get (D := (dC, dI)) (ci := 8) (v := .ref ti) (C := RX8) (T := TX8) (N := 16) hx hb hts hiX8 hown hK hP 0 rfl rfl 12 (by decide) v_1 (fun _ h9 => h9) rfl eX8_timesRun_13 ?_
  refine lv_aload_n hx hb eX8_timesRun_16 rfl (lv_at hl 0 rfl) ?_
  refine va_get (D := (dC, dI)) (ci := 8) (v := .ref au) (C := RX8) (T := TX8) (N := 16) hx hb hts hiX8 hown hK hP 0 rfl rfl 3 (by decide) v_8 (fun _ h9 => h9) rfl eX8_timesRun_17 ?_
  have hPc : va_P (dC, dI) vwCl (ta__w ti r0 (nI z_ln_3) r2 r3 r4 r5 (nI nr) r7 r8 tz k_j0 (bN 13 z_j0_2) k_j2 j2 k_j3 (bN 120 q_j3) k_j4 (bN 120 q_j4) k_j5 j5 k_j7 (bN 120 q_j7) k_j8 j8 au (nI nc) (nI np) (nI ne) (nI st0) q4 q5 q6 q7 q8 q9 q10 q11 q12 q13 q14 q15 q16 k_f4 f4 k_f5 (bN 7 q_f5) k_f6 (bN 7 q_f6) k_f7 f7 k_f8 (bN 4 q_f8) k_f9 (bN 2 q_f9) k_f10 f10 k_f11 f11 k_f12 f12 k_f13 f13 k_f14 f14 k_f15 f15 k_f16 f16) _ := hP.sub [19, 20, 21, 22, 23, 24, 25, 26, 1, 2, 3, 4, 5, 6, 7, 8, 9, 10, 11, 12, 13, 14] rfl
  have hDc := hD.sub (ws' := (ta__w ti r0 (nI z_ln_3) r2 r3 r4 r5 (nI nr) r7 r8 tz k_j0 (bN 13 z_j0_2) k_j2 j2 k_j3 (bN 120 q_j3) k_j4 (bN 120 q_j4) k_j5 j5 k_j7 (bN 120 q_j7) k_j8 j8 au (nI nc) (nI np) (nI ne) (nI st0) q4 q5 q6 q7 q8 q9 q10 q11 q12 q13 q14 q15 q16 k_f4 f4 k_f5 (bN 7 q_f5) k_f6 (bN 7 q_f6) k_f7 f7 k_f8 (bN 4 q_f8) k_f9 (bN 2 q_f9) k_f10 f10 k_f11 f11 k_f12 f12 k_f13 f13 k_f14 f14 k_f15 f15 k_f16 f16)) [19, 20, 21, 22, 23, 24, 25, 26, 1, 2, 3, 4, 5, 6, 7, 8, 9, 10, 11, 12, 13, 14] (by decide) rfl
  have hKc : va_K (dC, dI) vwCl (ta__t k_j0 k_j2 k_j3 k_j4 k_j5 k_j7 k_j8 k_f4 k_f5 k_f6 k_f7 k_f8 k_f9 k_f10 k_f11 k_f12 k_f13 k_f14 k_f15 k_f16) s := hK.sub [16, 17, 18, 19, 20, 21, 22, 0, 1, 2, 3, 4, 5, 6, 7, 8, 9, 10, 11, 12] rfl
  have hFc := pu_free hDc hS hA
  refine va_callv (va_runV (As := [.ref au]) (rest := []) ⟨hx, hb, hml, hown, hts⟩ (c_E_6_layRules l dC dI _ ti r0 z_ln_3 r2 r3 r4 r5 nr r7 r8 tz k_j0 z_j0_2 k_j2 j2 k_j3 q_j3 k_j4 q_j4 k_j5 j5 k_j7 q_j7 k_j8 j8 au nc np ne st0 q4 q5 q6 q7 q8 q9 q10 q11 q12 q13 q14 q15 q16 k_f4 f4 k_f5 q_f5 k_f6 q_f6 k_f7 f7 k_f8 q_f8 k_f9 q_f9 k_f10 f10 k_f11 f11 k_f12 f12 k_f13 f13 k_f14 f14 k_f15 f15 k_f16 f16 hz_ln_3 hnr hnc hnp hne hst0) (cwV 1 hts g_E_8_timesRun_E_6_layRules rfl rfl rfl (by decide +kernel) ⟨Nat.le_of_ble_eq_true rfl, Nat.le_of_ble_eq_true rfl⟩) ⟨pu_bl, va_recv hK hP (ci := 6) (q0 := 19) rfl rfl, pu_in hPc hKc hDc⟩ rfl rfl hl.1 rfl (lv_room (Nat.le_of_ble_eq_true rfl)) eX8_timesRun_20 ⟨Nat.le_of_ble_eq_true rfl, Nat.le_of_ble_eq_true rfl⟩) hS (fun q _ h => hFc q h) hFc (fun u t H1 locs ht hvm hw hB hz1 hk1 hS => ?_)
  obtain ⟨z_j3_5, z_j4_6, z_j5_7, z_j7_8, z_nr_9, ⟨hP1, -, hD1⟩, hz_nr_9, xr_4_0⟩ := hB
  rw [ht] at hP1
  obtain ⟨hP, hD⟩ := pj_a (X := (xti__w xa xtape (nI tp) rd au xdr hy g (nI hs) tg sg (nI ss) rm ti py bu sm (nI nc) (nI np) (nI ne) (nI st0) q4 q5 q6 q7 q8 q9 q10 q11 q12 q13 q14 q15 q16 k_f4 f4 k_f5 (bN 7 q_f5) k_f6 (bN 7 q_f6) k_f7 f7 k_f8 (bN 4 q_f8) k_f9 (bN 2 q_f9) k_f10 f10 k_f11 f11 k_f12 f12 k_f13 f13 k_f14 f14 k_f15 f15 k_f16 f16 gz g1 g2 g3 g4 g5 (nI gc) (nI gfull) gx gway gav ggoal (nI gfound) 120 (nI gl) (nI gsz) g16 g17 k_fs2 fs2 k_fs3 fs3 k_fs4 fs4 r0 (nI z_ln_3) r2 r3 r4 r5 (nI nr) r7 r8 tz k_j0 (bN 13 z_j0_2) k_j2 j2 k_j3 (bN 120 q_j3) k_j4 (bN 120 q_j4) k_j5 j5 k_j7 (bN 120 q_j7) k_j8 j8)) (X' := (xti__w xa xtape (nI tp) rd au xdr hy g (nI hs) tg sg (nI ss) rm ti py bu sm (nI nc) (nI np) (nI ne) (nI st0) q4 q5 q6 q7 q8 q9 q10 q11 q12 q13 q14 q15 q16 k_f4 f4 k_f5 (bN 7 q_f5) k_f6 (bN 7 q_f6) k_f7 f7 k_f8 (bN 4 q_f8) k_f9 (bN 2 q_f9) k_f10 f10 k_f11 f11 k_f12 f12 k_f13 f13 k_f14 f14 k_f15 f15 k_f16 f16 gz g1 g2 g3 g4 g5 (nI gc) (nI gfull) gx gway gav ggoal (nI gfound) 120 (nI gl) (nI gsz) g16 g17 k_fs2 fs2 k_fs3 fs3 k_fs4 fs4 r0 (nI z_ln_3) r2 r3 r4 r5 (nI z_nr_9) r7 r8 tz k_j0 (bN 13 z_j0_2) k_j2 j2 k_j3 (bN 120 z_j3_5) k_j4 (bN 120 z_j4_6) k_j5 z_j5_7 k_j7 (bN 120 z_j7_8) k_j8 j8)) (wc := (ta__w ti r0 (nI z_ln_3) r2 r3 r4 r5 (nI nr) r7 r8 tz k_j0 (bN 13 z_j0_2) k_j2 j2 k_j3 (bN 120 q_j3) k_j4 (bN 120 q_j4) k_j5 j5 k_j7 (bN 120 q_j7) k_j8 j8 au (nI nc) (nI np) (nI ne) (nI st0) q4 q5 q6 q7 q8 q9 q10 q11 q12 q13 q14 q15 q16 k_f4 f4 k_f5 (bN 7 q_f5) k_f6 (bN 7 q_f6) k_f7 f7 k_f8 (bN 4 q_f8) k_f9 (bN 2 q_f9) k_f10 f10 k_f11 f11 k_f12 f12 k_f13 f13 k_f14 f14 k_f15 f15 k_f16 f16)) (w1 := (ta__w ti r0 (nI z_ln_3) r2 r3 r4 r5 (nI z_nr_9) r7 r8 tz k_j0 (bN 13 z_j0_2) k_j2 j2 k_j3 (bN 120 z_j3_5) k_j4 (bN 120 z_j4_6) k_j5 z_j5_7 k_j7 (bN 120 z_j7_8) k_j8 j8 au (nI nc) (nI np) (nI ne) (nI st0) q4 q5 q6 q7 q8 q9 q10 q11 q12 q13 q14 q15 q16 k_f4 f4 k_f5 (bN 7 q_f5) k_f6 (bN 7 q_f6) k_f7 f7 k_f8 (bN 4 q_f8) k_f9 (bN 2 q_f9) k_f10 f10 k_f11 f11 k_f12 f12 k_f13 f13 k_f14 f14 k_f15 f15 k_f16 f16)) hP hD [19, 20, 21, 22, 23, 24, 25, 26, 1, 2, 3, 4, 5, 6, 7, 8, 9, 10, 11, 12, 13, 14] [22, 8, 9, 10, 11, 12, 13, 14, 15, 16, 17, 18, 19, 20, 21, 37, 38, 39, 40, 0, 1, 2, 3, 4, 5, 6, 7] 22 rfl hk1 hP1 rfl rfl rfl (by decide)
  clear hP1 hD1 hFc hPc hDc hKc
  clear hk1 hz1 ht hvm
  generalize H1 = H at hP hS ⊢
  have hsp := hsp.trans (slet_eq xr_4_0)
  refine lv_aload_n hx hb eX8_timesRun_23 rfl (lv_at hl 0 rfl) ?_
  refine va_get (D := (dC, dI)) (ci := 8) (v := .ref ti) (C := RX8) (T := TX8) (N := 16) hx hb hts hiX8 hown hK hP 0 rfl rfl 12 (by decide) v_1 (fun _ h9 => h9) rfl eX8_timesRun_24 ?_
  have hPc : va_P (dC, dI) vwCl (ti__w ti r0 (nI z_ln_3) r2 r3 r4 r5 (nI z_nr_9) r7 r8 tz k_j0 (bN 13 z_j0_2) k_j2 j2 k_j3 (bN 120 z_j3_5) k_j4 (bN 120 z_j4_6) k_j5 z_j5_7 k_j7 (bN 120 z_j7_8) k_j8 j8) _ := hP.sub [19, 20, 21, 22, 23, 24, 25, 26] rfl
  have hDc := hD.sub (ws' := (ti__w ti r0 (nI z_ln_3) r2 r3 r4 r5 (nI z_nr_9) r7 r8 tz k_j0 (bN 13 z_j0_2) k_j2 j2 k_j3 (bN 120 z_j3_5) k_j4 (bN 120 z_j4_6) k_j5 z_j5_7 k_j7 (bN 120 z_j7_8) k_j8 j8)) [19, 20, 21, 22, 23, 24, 25, 26] (by decide) rfl
  have hKc : va_K (dC, dI) vwCl (ti__t k_j0 k_j2 k_j3 k_j4 k_j5 k_j7 k_j8) s := hK.sub [16, 17, 18, 19, 20, 21, 22] rfl
  have hFc := pu_free hDc hS hA
  refine va_calli (va_runV (As := []) (rest := []) ⟨hx, hb, hml, hown, hts⟩ (c_E_6_findsLeast l dC dI _ ti r0 z_ln_3 r2 r3 r4 r5 z_nr_9 r7 r8 tz k_j0 z_j0_2 k_j2 j2 k_j3 z_j3_5 k_j4 z_j4_6 k_j5 z_j5_7 k_j7 z_j7_8 k_j8 j8 hz_ln_3 hz_nr_9) (cwV 0 hts g_E_8_timesRun_E_6_findsLeast rfl rfl rfl (by decide +kernel) ⟨Nat.le_of_ble_eq_true rfl, Nat.le_of_ble_eq_true rfl⟩) ⟨pu_bl, va_recv hK hP (ci := 6) (q0 := 19) rfl rfl, pu_in hPc hKc hDc⟩ rfl rfl hl.1 rfl (lv_room (Nat.le_of_ble_eq_true rfl)) eX8_timesRun_27 ⟨Nat.le_of_ble_eq_true rfl, Nat.le_of_ble_eq_true rfl⟩) hS (fun q _ h => hFc q h) hFc (fun r_10 u t H1 locs ht hvm hw hB hz1 hk1 hS => ?_)
  obtain ⟨z_j2_11, ⟨hP1, -, hD1⟩, xr_10_0⟩ := hB
  rw [ht] at hP1
  obtain ⟨hP, hD⟩ := pj_a (X := (xti__w xa xtape (nI tp) rd au xdr hy g (nI hs) tg sg (nI ss) rm ti py bu sm (nI nc) (nI np) (nI ne) (nI st0) q4 q5 q6 q7 q8 q9 q10 q11 q12 q13 q14 q15 q16 k_f4 f4 k_f5 (bN 7 q_f5) k_f6 (bN 7 q_f6) k_f7 f7 k_f8 (bN 4 q_f8) k_f9 (bN 2 q_f9) k_f10 f10 k_f11 f11 k_f12 f12 k_f13 f13 k_f14 f14 k_f15 f15 k_f16 f16 gz g1 g2 g3 g4 g5 (nI gc) (nI gfull) gx gway gav ggoal (nI gfound) 120 (nI gl) (nI gsz) g16 g17 k_fs2 fs2 k_fs3 fs3 k_fs4 fs4 r0 (nI z_ln_3) r2 r3 r4 r5 (nI z_nr_9) r7 r8 tz k_j0 (bN 13 z_j0_2) k_j2 j2 k_j3 (bN 120 z_j3_5) k_j4 (bN 120 z_j4_6) k_j5 z_j5_7 k_j7 (bN 120 z_j7_8) k_j8 j8)) (X' := (xti__w xa xtape (nI tp) rd au xdr hy g (nI hs) tg sg (nI ss) rm ti py bu sm (nI nc) (nI np) (nI ne) (nI st0) q4 q5 q6 q7 q8 q9 q10 q11 q12 q13 q14 q15 q16 k_f4 f4 k_f5 (bN 7 q_f5) k_f6 (bN 7 q_f6) k_f7 f7 k_f8 (bN 4 q_f8) k_f9 (bN 2 q_f9) k_f10 f10 k_f11 f11 k_f12 f12 k_f13 f13 k_f14 f14 k_f15 f15 k_f16 f16 gz g1 g2 g3 g4 g5 (nI gc) (nI gfull) gx gway gav ggoal (nI gfound) 120 (nI gl) (nI gsz) g16 g17 k_fs2 fs2 k_fs3 fs3 k_fs4 fs4 r0 (nI z_ln_3) r2 r3 r4 r5 (nI z_nr_9) r7 r8 tz k_j0 (bN 13 z_j0_2) k_j2 z_j2_11 k_j3 (bN 120 z_j3_5) k_j4 (bN 120 z_j4_6) k_j5 z_j5_7 k_j7 (bN 120 z_j7_8) k_j8 j8)) (wc := (ti__w ti r0 (nI z_ln_3) r2 r3 r4 r5 (nI z_nr_9) r7 r8 tz k_j0 (bN 13 z_j0_2) k_j2 j2 k_j3 (bN 120 z_j3_5) k_j4 (bN 120 z_j4_6) k_j5 z_j5_7 k_j7 (bN 120 z_j7_8) k_j8 j8)) (w1 := (ti__w ti r0 (nI z_ln_3) r2 r3 r4 r5 (nI z_nr_9) r7 r8 tz k_j0 (bN 13 z_j0_2) k_j2 z_j2_11 k_j3 (bN 120 z_j3_5) k_j4 (bN 120 z_j4_6) k_j5 z_j5_7 k_j7 (bN 120 z_j7_8) k_j8 j8)) hP hD [19, 20, 21, 22, 23, 24, 25, 26] [8, 9, 10, 11, 12, 13, 14, 15, 16, 17, 18, 19, 20, 21, 22, 23, 24, 25, 26, 0, 1, 2, 3, 4, 5, 6, 7] 8 rfl hk1 hP1 rfl rfl rfl (by decide)
  clear hP1 hD1 hFc hPc hDc hKc
  clear hk1 hz1 ht hvm
  generalize H1 = H at hP hS ⊢
  obtain ⟨u_12, hu_12, rfl, iu_12⟩ := hw
  have iu_12 : (u_12, z_j2_11) = (sp_E_6_findsLeast z_ln_3 z_nr_9 j2 z_j3_5 z_j4_6 z_j5_7) := Prod.ext iu_12 xr_10_0
  have hsp := hsp.trans (slet_eq iu_12)
  exact W.zret (v := (nI u_12)) (ty := .boolean) hx hb hr (pu_nz (pu_b1 (n := u_12) (by omega))) (fun t ht hW => ⟨⟨(nI u_12), (), rfl, ⟨u_12, hu_12, rfl, (congrArg Prod.fst (hsp.symm.trans hRR))⟩, ⟨z_j0_2, z_j2_11, z_j3_5, z_j4_6, z_j5_7, z_j7_8, z_ln_3, z_nr_9, ⟨by rw [ht]; exact hP, va_K.moved hW.alike hK, hD⟩, hz_ln_3, hz_nr_9, (congrArg Prod.snd (hsp.symm.trans hRR))⟩⟩, hS.F ht⟩) hS.2.2 eX8_timesRun_30
theorem eX8_run_0 : decode cX8_run 0 = .ok (.aload_n 0, 1) := by decide +kernel
theorem eX8_run_1 : decode cX8_run 1 = .ok (.iload_n 1, 1) := by decide +kernel
theorem eX8_run_2 : decode cX8_run 2 = .ok (.iload_n 2, 1) := by decide +kernel
theorem eX8_run_3 : decode cX8_run 3 = .ok (.invokevirtual 320, 3) := by decide +kernel
theorem eX8_run_6 : decode cX8_run 6 = .ok (.ifCond .ne 5, 3) := by decide +kernel
theorem eX8_run_9 : decode cX8_run 9 = .ok (.iconst (-1), 1) := by decide +kernel
theorem eX8_run_10 : decode cX8_run 10 = .ok (.ireturn, 1) := by decide +kernel
abbrev vs_E_8_run_0 : List Cond := .code yX8_run cX8_run 3 (some .int) :: CM
theorem g_E_8_run_0_E_8_isStep_0 : GoodIn vs_E_8_run_0 (wsV RX8 320 RX8 yX8_isStep vs_E_8_isStep_0) := cm_gV cm_603 cm_604 cm_605 cm_427 cm_599
noncomputable def sp_E_8_run_0 : Int32 := (-1)
set_option maxHeartbeats 4000000 in
set_option maxRecDepth 100000 in
theorem c_E_8_run_0 (l : Launch) (dC : Nat → ClassId) (dI : Nat → Nat → Nat) (sz : Nat) (xa : Nat) (xtape : Nat) (tp : Nat) (rd : Nat) (au : Nat) (xdr : Nat) (hy : Nat) (g : Nat) (tg : Nat) (sg : Nat) (rm : Nat) (ti : Nat) (py : Nat) (bu : Nat) (sm : Nat) (nc : Nat) (ne : Nat) (st0 : Int32) (q4 : Nat) (q5 : Nat) (q6 : Nat) (q7 : Nat) (q8 : Nat) (q9 : Nat) (q10 : Nat) (q11 : Nat) (q12 : Nat) (q13 : Nat) (q14 : Nat) (q15 : Nat) (q16 : Nat) (k_f4 : ClassId) (f4 : Nat → Int32) (k_f5 : ClassId) (q_f5 : Nat → Nat) (k_f6 : ClassId) (q_f6 : Nat → Nat) (k_f7 : ClassId) (f7 : Nat → Int32) (k_f8 : ClassId) (q_f8 : Nat → Nat) (k_f9 : ClassId) (q_f9 : Nat → Nat) (k_f10 : ClassId) (f10 : Nat → Int32) (k_f11 : ClassId) (f11 : Nat → Int32) (k_f12 : ClassId) (f12 : Nat → Int32) (k_f13 : ClassId) (f13 : Nat → Int32) (k_f14 : ClassId) (f14 : Nat → Int32) (k_f15 : ClassId) (f15 : Nat → Int32) (k_f16 : ClassId) (f16 : Nat → Int32) (gz : Nat) (g1 : Nat) (g2 : Nat) (g3 : Nat) (g4 : Nat) (g5 : Nat) (gc : Nat) (gfull : Nat) (gx : Int32) (gway : Int32) (gav : Int32) (ggoal : Int32) (gfound : Nat) (gl : Nat) (gsz : Nat) (g16 : Nat) (g17 : Nat) (k_fs2 : ClassId) (fs2 : Nat → Int32) (k_fs3 : ClassId) (fs3 : Nat → Int32) (k_fs4 : ClassId) (fs4 : Nat → Int32) (r0 : Nat) (ln : Nat) (r2 : Nat) (r3 : Nat) (r4 : Nat) (r5 : Nat) (nr : Nat) (r7 : Nat) (r8 : Nat) (tz : Nat) (k_j0 : ClassId) (q_j0 : Nat → Nat) (k_j2 : ClassId) (j2 : Nat → Int32) (k_j3 : ClassId) (q_j3 : Nat → Nat) (k_j4 : ClassId) (q_j4 : Nat → Nat) (k_j5 : ClassId) (j5 : Nat → Int32) (k_j7 : ClassId) (q_j7 : Nat → Nat) (k_j8 : ClassId) (j8 : Nat → Int32) (p0 : Int32) (p1 : Int32) (htp : tp ≤ 900) (hnc : nc ≤ 3) (hne : ne ≤ 14) (hst0 : pm1 7 st0) (hgc : gc ≤ 120) (hgfull : gfull ≤ 1) (hgfound : gfound ≤ 1) (hgl : gl ≤ 1) (hgsz : gsz ≤ 4) (hln : ln ≤ 119) (hnr : nr ≤ 1920) : Met l yX8_run vs_E_8_run_0 ({ frames := 2, cells := 0, slots := 0, locals := 43 }) (va_Pc [.ref xa, .int p0, .int p1] (pu_B (dC, dI) (xti__w xa xtape (nI tp) rd au xdr hy g 0 tg sg 0 rm ti py bu sm (nI nc) 0 (nI ne) st0 q4 q5 q6 q7 q8 q9 q10 q11 q12 q13 q14 q15 q16 k_f4 f4 k_f5 (bN 7 q_f5) k_f6 (bN 7 q_f6) k_f7 f7 k_f8 (bN 4 q_f8) k_f9 (bN 2 q_f9) k_f10 f10 k_f11 f11 k_f12 f12 k_f13 f13 k_f14 f14 k_f15 f15 k_f16 f16 gz g1 g2 g3 g4 g5 (nI gc) (nI gfull) gx gway gav ggoal (nI gfound) 120 (nI gl) (nI gsz) g16 g17 k_fs2 fs2 k_fs3 fs3 k_fs4 fs4 r0 (nI ln) r2 r3 r4 r5 (nI nr) r7 r8 tz k_j0 (bN 13 q_j0) k_j2 j2 k_j3 (bN 120 q_j3) k_j4 (bN 120 q_j4) k_j5 j5 k_j7 (bN 120 q_j7) k_j8 j8) (xti__t k_f4 k_f5 k_f6 k_f7 k_f8 k_f9 k_f10 k_f11 k_f12 k_f13 k_f14 k_f15 k_f16 k_fs2 k_fs3 k_fs4 k_j0 k_j2 k_j3 k_j4 k_j5 k_j7 k_j8) sz)) (va_Qi (fun (r : Int32) (_ : Unit) => r = sp_E_8_run_0) (fun _ _ => True) (va_A [] sz)) 0 0 (va_A [] sz) := by
  refine Met.ofW (cc := cX8_run) (maxL := 3) (ret := (some .int)) (by decide) rfl ?_
  intro p e s m args below meth c s₁ B hml hv
  obtain ⟨rfl, rfl, hP, hK, hD0⟩ := hv
  have hx := B.exec
  have hb := B.bytes
  have hr := B.returns
  have hts := atoms_spec (ws := vs_E_8_run_0) B.pre
  have hown : s.vm.findClass RX8 = some m.cls := findClass_of_methodNamed B.named
  have hlocks := B.notSynchronized
  have hD := hD0
  have hA : ∀ q : Nat, s.heap.size ≤ q → va_A [] s.heap.size q := fun _ h => Or.inr h
  have hS : va_S (va_A [] s.heap.size) s.heap s.heap [] := va_S.rf
  have hl := lv_entry ([.ref xa, .int p0, .int p1]) (n := 3) (Nat.le_of_ble_eq_true rfl)
  rw [lg_entry_eq]
  generalize (lg_sl ([.ref xa, .int p0, .int p1]) ++ List.replicate (3 - (lg_sl ([.ref xa, .int p0, .int p1])).length) Slot.unset).toArray = ls at hl ⊢
  have hl : lv_has ls 3 [(0, .ref xa), (1, .int p0), (2, .int p1)] := hl
  obtain ⟨RR, hRR⟩ : ∃ x, x = sp_E_8_run_0 := ⟨_, rfl⟩
  have hsp := hRR
  refine lv_aload_n hx hb eX8_run_0 rfl (lv_at hl 0 rfl) ?_
  refine lv_iload_n hx hb eX8_run_1 rfl (lv_at hl 1 rfl) ?_
  refine lv_iload_n hx hb eX8_run_2 rfl (lv_at hl 2 rfl) ?_
  have hPc : va_P (dC, dI) vwCl (xgl__w xa xtape (nI tp) rd au xdr hy g 0 tg sg 0 rm ti py bu sm gz g1 g2 g3 g4 g5 (nI gc) (nI gfull) gx gway gav ggoal (nI gfound) 120 (nI gl) (nI gsz) g16 g17 k_fs2 fs2 k_fs3 fs3 k_fs4 fs4) _ := hP.sub [0, 15, 16, 17, 18] rfl
  have hDc := hD.sub (ws' := (xgl__w xa xtape (nI tp) rd au xdr hy g 0 tg sg 0 rm ti py bu sm gz g1 g2 g3 g4 g5 (nI gc) (nI gfull) gx gway gav ggoal (nI gfound) 120 (nI gl) (nI gsz) g16 g17 k_fs2 fs2 k_fs3 fs3 k_fs4 fs4)) [0, 15, 16, 17, 18] (by decide) rfl
  have hKc : va_K (dC, dI) vwCl (xgl__t k_fs2 k_fs3 k_fs4) s := hK.sub [13, 14, 15] rfl
  refine va_calli (va_runV (As := [.int p0, .int p1]) (rest := []) ⟨hx, hb, hml, hown, hts⟩ (c_E_8_isStep_0 l dC dI _ xa xtape tp rd au xdr hy g tg sg 0 rm ti py bu sm gz g1 g2 g3 g4 g5 gc gfull gx gway gav ggoal gfound gl gsz g16 g17 k_fs2 fs2 k_fs3 fs3 k_fs4 fs4 p0 p1 htp (Nat.le_of_ble_eq_true rfl) hgc hgfull hgfound hgl hgsz) (cwV 2 hts g_E_8_run_0_E_8_isStep_0 rfl rfl rfl (by decide +kernel) ⟨Nat.le_of_ble_eq_true rfl, Nat.le_of_ble_eq_true rfl⟩) ⟨pu_bl, va_recv hK hP (ci := 8) (q0 := 0) rfl rfl, pu_in hPc hKc hDc⟩ rfl rfl hl.1 rfl (lv_room (Nat.le_of_ble_eq_true rfl)) eX8_run_3 ⟨Nat.le_of_ble_eq_true rfl, Nat.le_of_ble_eq_true rfl⟩) hS (fun q _ h => pu_fr hS hA q h) (pu_fr hS hA) (fun r_1 u t H1 locs ht hvm hw hB hz1 hk1 hS => ?_)
  have hP := pu_keep hP hk1
  clear hk1 hz1 ht hvm
  generalize H1 = H at hP hS ⊢
  obtain rfl : r_1 = 0 := hw
  refine lv_if_ne (tgt := 11) hx hb eX8_run_6 (by decide) (fun z => absurd z (by decide)) (fun _ => ?_)
  refine lv_iconst (v := (-1)) hx hb eX8_run_9 (by decide) ?_
  exact W.iret (v := (-1)) hx hb hr (fun t ht hW => ⟨⟨(-1), (), rfl, (hsp.symm.trans hRR), trivial⟩, hS.F ht⟩) hS.2.2 eX8_run_10
theorem eX8_run_11 : decode cX8_run 11 = .ok (.aload_n 0, 1) := by decide +kernel
theorem eX8_run_12 : decode cX8_run 12 = .ok (.getfield 62, 3) := by decide +kernel
theorem eX8_run_15 : decode cX8_run 15 = .ok (.aload_n 0, 1) := by decide +kernel
theorem eX8_run_16 : decode cX8_run 16 = .ok (.getfield 42, 3) := by decide +kernel
theorem eX8_run_19 : decode cX8_run 19 = .ok (.iload_n 1, 1) := by decide +kernel
theorem eX8_run_20 : decode cX8_run 20 = .ok (.invokevirtual 323, 3) := by decide +kernel
theorem eX8_run_23 : decode cX8_run 23 = .ok (.aload_n 0, 1) := by decide +kernel
theorem eX8_run_24 : decode cX8_run 24 = .ok (.getfield 62, 3) := by decide +kernel
theorem eX8_run_27 : decode cX8_run 27 = .ok (.getfield 327, 3) := by decide +kernel
theorem eX8_run_30 : decode cX8_run 30 = .ok (.iload_n 2, 1) := by decide +kernel
theorem eX8_run_31 : decode cX8_run 31 = .ok (.iaload, 1) := by decide +kernel
theorem eX8_run_32 : decode cX8_run 32 = .ok (.ireturn, 1) := by decide +kernel
abbrev vs_E_8_run : List Cond := .code yX8_run cX8_run 3 (some .int) :: CM
theorem g_E_8_run_E_8_isStep : GoodIn vs_E_8_run (wsV RX8 320 RX8 yX8_isStep vs_E_8_isStep) := cm_gV cm_603 cm_604 cm_605 cm_427 cm_599
theorem g_E_8_run_E_6_loadRun : GoodIn vs_E_8_run (wsV RX8 323 RX6 yX6_loadRun vs_E_6_loadRun) := cm_gV cm_606 cm_607 cm_608 cm_383 cm_364
noncomputable def sp_E_8_run (hs : Nat) (gc : Nat) (fs2 : Nat → Int32) (fs3 : Nat → Int32) (fs4 : Nat → Int32) (ln : Nat) (q_j0 : Nat → Nat) (p0 : Int32) (p1 : Int32) : Int32 × (Nat → Nat) × Nat := (if isStp hs gc fs4 p0 p1 then (slet ((p0 : Int32).toNatClampNeg) (fun n_2 => (slet ((p1 : Int32).toNatClampNeg) (fun n_3 => (slet (sp_E_6_loadRun q_j0 fs2 fs3 fs4 n_2) (fun (z_j0_5, z_ln_6) => (slet (min (z_j0_5 n_3) 13) (fun u_8 => ((nI u_8), z_j0_5, z_ln_6))))))))) else ((-1), q_j0, ln))
set_option maxHeartbeats 4000000 in
set_option maxRecDepth 100000 in
theorem c_E_8_run (l : Launch) (dC : Nat → ClassId) (dI : Nat → Nat → Nat) (sz : Nat) (xa : Nat) (xtape : Nat) (tp : Nat) (rd : Nat) (au : Nat) (xdr : Nat) (hy : Nat) (g : Nat) (hs : Nat) (tg : Nat) (sg : Nat) (ss : Nat) (rm : Nat) (ti : Nat) (py : Nat) (bu : Nat) (sm : Nat) (nc : Nat) (np : Nat) (ne : Nat) (st0 : Nat) (q4 : Nat) (q5 : Nat) (q6 : Nat) (q7 : Nat) (q8 : Nat) (q9 : Nat) (q10 : Nat) (q11 : Nat) (q12 : Nat) (q13 : Nat) (q14 : Nat) (q15 : Nat) (q16 : Nat) (k_f4 : ClassId) (f4 : Nat → Int32) (k_f5 : ClassId) (q_f5 : Nat → Nat) (k_f6 : ClassId) (q_f6 : Nat → Nat) (k_f7 : ClassId) (f7 : Nat → Int32) (k_f8 : ClassId) (q_f8 : Nat → Nat) (k_f9 : ClassId) (q_f9 : Nat → Nat) (k_f10 : ClassId) (f10 : Nat → Int32) (k_f11 : ClassId) (f11 : Nat → Int32) (k_f12 : ClassId) (f12 : Nat → Int32) (k_f13 : ClassId) (f13 : Nat → Int32) (k_f14 : ClassId) (f14 : Nat → Int32) (k_f15 : ClassId) (f15 : Nat → Int32) (k_f16 : ClassId) (f16 : Nat → Int32) (gz : Nat) (g1 : Nat) (g2 : Nat) (g3 : Nat) (g4 : Nat) (g5 : Nat) (gc : Nat) (gfull : Nat) (gx : Int32) (gway : Int32) (gav : Int32) (ggoal : Int32) (gfound : Nat) (gl : Nat) (gsz : Nat) (g16 : Nat) (g17 : Nat) (k_fs2 : ClassId) (fs2 : Nat → Int32) (k_fs3 : ClassId) (fs3 : Nat → Int32) (k_fs4 : ClassId) (fs4 : Nat → Int32) (r0 : Nat) (ln : Nat) (r2 : Nat) (r3 : Nat) (r4 : Nat) (r5 : Nat) (nr : Nat) (r7 : Nat) (r8 : Nat) (tz : Nat) (k_j0 : ClassId) (q_j0 : Nat → Nat) (k_j2 : ClassId) (j2 : Nat → Int32) (k_j3 : ClassId) (q_j3 : Nat → Nat) (k_j4 : ClassId) (q_j4 : Nat → Nat) (k_j5 : ClassId) (j5 : Nat → Int32) (k_j7 : ClassId) (q_j7 : Nat → Nat) (k_j8 : ClassId) (j8 : Nat → Int32) (p0 : Int32) (p1 : Int32) (htp : tp ≤ 900) (hhs : hs ≤ 1) (hss : ss ≤ 1) (hnc : nc ≤ 3) (hnp : np ≤ 8) (hne : ne ≤ 14) (hst0 : st0 ≤ 7) (hgc : gc ≤ 120) (hgfull : gfull ≤ 1) (hgfound : gfound ≤ 1) (hgl : gl ≤ 1) (hgsz : gsz ≤ 4) (hln : ln ≤ 119) (hnr : nr ≤ 1920) (hq0 : gz_ok gc fs2 fs3 fs4) : Met l yX8_run vs_E_8_run ({ frames := 2, cells := 0, slots := 0, locals := 43 }) (va_Pc [.ref xa, .int p0, .int p1] (pu_B (dC, dI) (xti__w xa xtape (nI tp) rd au xdr hy g (nI hs) tg sg (nI ss) rm ti py bu sm (nI nc) (nI np) (nI ne) (nI st0) q4 q5 q6 q7 q8 q9 q10 q11 q12 q13 q14 q15 q16 k_f4 f4 k_f5 (bN 7 q_f5) k_f6 (bN 7 q_f6) k_f7 f7 k_f8 (bN 4 q_f8) k_f9 (bN 2 q_f9) k_f10 f10 k_f11 f11 k_f12 f12 k_f13 f13 k_f14 f14 k_f15 f15 k_f16 f16 gz g1 g2 g3 g4 g5 (nI gc) (nI gfull) gx gway gav ggoal (nI gfound) 120 (nI gl) (nI gsz) g16 g17 k_fs2 fs2 k_fs3 fs3 k_fs4 fs4 r0 (nI ln) r2 r3 r4 r5 (nI nr) r7 r8 tz k_j0 (bN 13 q_j0) k_j2 j2 k_j3 (bN 120 q_j3) k_j4 (bN 120 q_j4) k_j5 j5 k_j7 (bN 120 q_j7) k_j8 j8) (xti__t k_f4 k_f5 k_f6 k_f7 k_f8 k_f9 k_f10 k_f11 k_f12 k_f13 k_f14 k_f15 k_f16 k_fs2 k_fs3 k_fs4 k_j0 k_j2 k_j3 k_j4 k_j5 k_j7 k_j8) sz)) (va_Qi (fun (r : Int32) (_ : Unit) => r = (sp_E_8_run hs gc fs2 fs3 fs4 ln q_j0 p0 p1).1) (fun _ t => ∃ (z_j0 : Nat → Nat) (z_ln : Nat), pu_E (dC, dI) (xti__w xa xtape (nI tp) rd au xdr hy g (nI hs) tg sg (nI ss) rm ti py bu sm (nI nc) (nI np) (nI ne) (nI st0) q4 q5 q6 q7 q8 q9 q10 q11 q12 q13 q14 q15 q16 k_f4 f4 k_f5 (bN 7 q_f5) k_f6 (bN 7 q_f6) k_f7 f7 k_f8 (bN 4 q_f8) k_f9 (bN 2 q_f9) k_f10 f10 k_f11 f11 k_f12 f12 k_f13 f13 k_f14 f14 k_f15 f15 k_f16 f16 gz g1 g2 g3 g4 g5 (nI gc) (nI gfull) gx gway gav ggoal (nI gfound) 120 (nI gl) (nI gsz) g16 g17 k_fs2 fs2 k_fs3 fs3 k_fs4 fs4 r0 (nI z_ln) r2 r3 r4 r5 (nI nr) r7 r8 tz k_j0 (bN 13 z_j0) k_j2 j2 k_j3 (bN 120 q_j3) k_j4 (bN 120 q_j4) k_j5 j5 k_j7 (bN 120 q_j7) k_j8 j8) (xti__t k_f4 k_f5 k_f6 k_f7 k_f8 k_f9 k_f10 k_f11 k_f12 k_f13 k_f14 k_f15 k_f16 k_fs2 k_fs3 k_fs4 k_j0 k_j2 k_j3 k_j4 k_j5 k_j7 k_j8) (va_A ((xti__w xa xtape (nI tp) rd au xdr hy g (nI hs) tg sg (nI ss) rm ti py bu sm (nI nc) (nI np) (nI ne) (nI st0) q4 q5 q6 q7 q8 q9 q10 q11 q12 q13 q14 q15 q16 k_f4 f4 k_f5 (bN 7 q_f5) k_f6 (bN 7 q_f6) k_f7 f7 k_f8 (bN 4 q_f8) k_f9 (bN 2 q_f9) k_f10 f10 k_f11 f11 k_f12 f12 k_f13 f13 k_f14 f14 k_f15 f15 k_f16 f16 gz g1 g2 g3 g4 g5 (nI gc) (nI gfull) gx gway gav ggoal (nI gfound) 120 (nI gl) (nI gsz) g16 g17 k_fs2 fs2 k_fs3 fs3 k_fs4 fs4 r0 (nI ln) r2 r3 r4 r5 (nI nr) r7 r8 tz k_j0 (bN 13 q_j0) k_j2 j2 k_j3 (bN 120 q_j3) k_j4 (bN 120 q_j4) k_j5 j5 k_j7 (bN 120 q_j7) k_j8 j8)) sz) t ∧ (z_ln ≤ 119) ∧ ((z_j0, z_ln) = (sp_E_8_run hs gc fs2 fs3 fs4 ln q_j0 p0 p1).2)) (va_A ((xti__w xa xtape (nI tp) rd au xdr hy g (nI hs) tg sg (nI ss) rm ti py bu sm (nI nc) (nI np) (nI ne) (nI st0) q4 q5 q6 q7 q8 q9 q10 q11 q12 q13 q14 q15 q16 k_f4 f4 k_f5 (bN 7 q_f5) k_f6 (bN 7 q_f6) k_f7 f7 k_f8 (bN 4 q_f8) k_f9 (bN 2 q_f9) k_f10 f10 k_f11 f11 k_f12 f12 k_f13 f13 k_f14 f14 k_f15 f15 k_f16 f16 gz g1 g2 g3 g4 g5 (nI gc) (nI gfull) gx gway gav ggoal (nI gfound) 120 (nI gl) (nI gsz) g16 g17 k_fs2 fs2 k_fs3 fs3 k_fs4 fs4 r0 (nI ln) r2 r3 r4 r5 (nI nr) r7 r8 tz k_j0 (bN 13 q_j0) k_j2 j2 k_j3 (bN 120 q_j3) k_j4 (bN 120 q_j4) k_j5 j5 k_j7 (bN 120 q_j7) k_j8 j8)) sz)) 0 0 (va_A ((xti__w xa xtape (nI tp) rd au xdr hy g (nI hs) tg sg (nI ss) rm ti py bu sm (nI nc) (nI np) (nI ne) (nI st0) q4 q5 q6 q7 q8 q9 q10 q11 q12 q13 q14 q15 q16 k_f4 f4 k_f5 (bN 7 q_f5) k_f6 (bN 7 q_f6) k_f7 f7 k_f8 (bN 4 q_f8) k_f9 (bN 2 q_f9) k_f10 f10 k_f11 f11 k_f12 f12 k_f13 f13 k_f14 f14 k_f15 f15 k_f16 f16 gz g1 g2 g3 g4 g5 (nI gc) (nI gfull) gx gway gav ggoal (nI gfound) 120 (nI gl) (nI gsz) g16 g17 k_fs2 fs2 k_fs3 fs3 k_fs4 fs4 r0 (nI ln) r2 r3 r4 r5 (nI nr) r7 r8 tz k_j0 (bN 13 q_j0) k_j2 j2 k_j3 (bN 120 q_j3) k_j4 (bN 120 q_j4) k_j5 j5 k_j7 (bN 120 q_j7) k_j8 j8)) sz) := by
  refine Met.ofW (cc := cX8_run) (maxL := 3) (ret := (some .int)) (by decide) rfl ?_
  intro p e s m args below meth c s₁ B hml hv
  obtain ⟨rfl, rfl, hP, hK, hD0⟩ := hv
  have hx := B.exec
  have hb := B.bytes
  have hr := B.returns
  have hts := atoms_spec (ws := vs_E_8_run) B.pre
  have v_6 := hts (.fieldLink RX8 62 "ClockReach" "timing" "LClockReach$Timing;") (List.mem_cons_of_mem _ cm_601)
  have v_7 := hts (.fieldLink RX8 42 "ClockReach" "shown" "LClockReach$Graph;") (List.mem_cons_of_mem _ cm_456)
  have v_13 := hts (.fieldLink RX8 327 "ClockReach$Timing" "path" "[I") (List.mem_cons_of_mem _ cm_602)
  have hown : s.vm.findClass RX8 = some m.cls := findClass_of_methodNamed B.named
  have hlocks := B.notSynchronized
  have hiX6 : ∀ w ∈ wsX60, w ∈ vs_E_8_run := fun _ h => List.mem_cons_of_mem _ (cm_X6 h)
  have hiX8 : ∀ w ∈ wsX80, w ∈ vs_E_8_run := fun _ h => List.mem_cons_of_mem _ (cm_X8 h)
  have hD := hD0.self (sz := s.heap.size)
  generalize hAe : va_A ((xti__w xa xtape (nI tp) rd au xdr hy g (nI hs) tg sg (nI ss) rm ti py bu sm (nI nc) (nI np) (nI ne) (nI st0) q4 q5 q6 q7 q8 q9 q10 q11 q12 q13 q14 q15 q16 k_f4 f4 k_f5 (bN 7 q_f5) k_f6 (bN 7 q_f6) k_f7 f7 k_f8 (bN 4 q_f8) k_f9 (bN 2 q_f9) k_f10 f10 k_f11 f11 k_f12 f12 k_f13 f13 k_f14 f14 k_f15 f15 k_f16 f16 gz g1 g2 g3 g4 g5 (nI gc) (nI gfull) gx gway gav ggoal (nI gfound) 120 (nI gl) (nI gsz) g16 g17 k_fs2 fs2 k_fs3 fs3 k_fs4 fs4 r0 (nI ln) r2 r3 r4 r5 (nI nr) r7 r8 tz k_j0 (bN 13 q_j0) k_j2 j2 k_j3 (bN 120 q_j3) k_j4 (bN 120 q_j4) k_j5 j5 k_j7 (bN 120 q_j7) k_j8 j8)) s.heap.size = A at hD ⊢
  have hA : ∀ q : Nat, s.heap.size ≤ q → A q := fun q h => by rw [← hAe]; exact Or.inr h
  have hS : va_S A s.heap s.heap [] := va_S.rf
  have hl := lv_entry ([.ref xa, .int p0, .int p1]) (n := 3) (Nat.le_of_ble_eq_true rfl)
  rw [lg_entry_eq]
  generalize (lg_sl ([.ref xa, .int p0, .int p1]) ++ List.replicate (3 - (lg_sl ([.ref xa, .int p0, .int p1])).length) Slot.unset).toArray = ls at hl ⊢
  have hl : lv_has ls 3 [(0, .ref xa), (1, .int p0), (2, .int p1)] := hl
  obtain ⟨RR, hRR⟩ : ∃ x, x = (sp_E_8_run hs gc fs2 fs3 fs4 ln q_j0 p0 p1) := ⟨_, rfl⟩
  have hsp := hRR
  refine lv_aload_n hx hb eX8_run_0 rfl (lv_at hl 0 rfl) ?_
  refine lv_iload_n hx hb eX8_run_1 rfl (lv_at hl 1 rfl) ?_
  refine lv_iload_n hx hb eX8_run_2 rfl (lv_at hl 2 rfl) ?_
  have hPc : va_P (dC, dI) vwCl (xgl__w xa xtape (nI tp) rd au xdr hy g (nI hs) tg sg (nI ss) rm ti py bu sm gz g1 g2 g3 g4 g5 (nI gc) (nI gfull) gx gway gav ggoal (nI gfound) 120 (nI gl) (nI gsz) g16 g17 k_fs2 fs2 k_fs3 fs3 k_fs4 fs4) _ := hP.sub [0, 15, 16, 17, 18] rfl
  have hDc := hD.sub (ws' := (xgl__w xa xtape (nI tp) rd au xdr hy g (nI hs) tg sg (nI ss) rm ti py bu sm gz g1 g2 g3 g4 g5 (nI gc) (nI gfull) gx gway gav ggoal (nI gfound) 120 (nI gl) (nI gsz) g16 g17 k_fs2 fs2 k_fs3 fs3 k_fs4 fs4)) [0, 15, 16, 17, 18] (by decide) rfl
  have hKc : va_K (dC, dI) vwCl (xgl__t k_fs2 k_fs3 k_fs4) s := hK.sub [13, 14, 15] rfl
  refine va_calli (va_runV (As := [.int p0, .int p1]) (rest := []) ⟨hx, hb, hml, hown, hts⟩ (c_E_8_isStep l dC dI _ xa xtape tp rd au xdr hy g hs tg sg ss rm ti py bu sm gz g1 g2 g3 g4 g5 gc gfull gx gway gav ggoal gfound gl gsz g16 g17 k_fs2 fs2 k_fs3 fs3 k_fs4 fs4 p0 p1 htp hhs hss hgc hgfull hgfound hgl hgsz (by assumption)) (cwV 2 hts g_E_8_run_E_8_isStep rfl rfl rfl (by decide +kernel) ⟨Nat.le_of_ble_eq_true rfl, Nat.le_of_ble_eq_true rfl⟩) ⟨pu_bl, va_recv hK hP (ci := 8) (q0 := 0) rfl rfl, pu_in hPc hKc hDc⟩ rfl rfl hl.1 rfl (lv_room (Nat.le_of_ble_eq_true rfl)) eX8_run_3 ⟨Nat.le_of_ble_eq_true rfl, Nat.le_of_ble_eq_true rfl⟩) hS (fun q _ h => pu_fr hS hA q h) (pu_fr hS hA) (fun r_1 u t H1 locs ht hvm hw hB hz1 hk1 hS => ?_)
  have hP := pu_keep hP hk1
  clear hk1 hz1 ht hvm
  generalize H1 = H at hP hS ⊢
  rcases hw with ⟨rfl, n_2, n_3, hn_2, hn_3, rfl, rfl, hst⟩ | ⟨rfl, hn⟩
  · have hsp := hsp.trans (if_pos hst)
    have hsp := hsp.trans (slet_eq (nI_cl (n := n_2) (by omega)))
    have hsp := hsp.trans (slet_eq (nI_cl (n := n_3) (by omega)))
    refine lv_if_ne (tgt := 11) hx hb eX8_run_6 (by decide) (fun _ => ?_) (fun z => absurd z (by decide))
    refine lv_aload_n hx hb eX8_run_11 rfl (lv_at hl 0 rfl) ?_
    refine va_get (D := (dC, dI)) (ci := 8) (v := .ref ti) (C := RX8) (T := TX8) (N := 16) hx hb hts hiX8 hown hK hP 0 rfl rfl 12 (by decide) v_6 (fun _ h9 => h9) rfl eX8_run_12 ?_
    refine lv_aload_n hx hb eX8_run_15 rfl (lv_at hl 0 rfl) ?_
    refine va_get (D := (dC, dI)) (ci := 8) (v := .ref g) (C := RX8) (T := TX8) (N := 16) hx hb hts hiX8 hown hK hP 0 rfl rfl 6 (by decide) v_7 (fun _ h9 => h9) rfl eX8_run_16 ?_
    refine lv_iload_n hx hb eX8_run_19 rfl (lv_at hl 1 rfl) ?_
    have hPc : va_P (dC, dI) vwCl (tg__w ti r0 (nI ln) r2 r3 r4 r5 (nI nr) r7 r8 tz k_j0 (bN 13 q_j0) k_j2 j2 k_j3 (bN 120 q_j3) k_j4 (bN 120 q_j4) k_j5 j5 k_j7 (bN 120 q_j7) k_j8 j8 g gz g1 g2 g3 g4 g5 (nI gc) (nI gfull) gx gway gav ggoal (nI gfound) 120 (nI gl) (nI gsz) g16 g17 k_fs2 fs2 k_fs3 fs3 k_fs4 fs4) _ := hP.sub [19, 20, 21, 22, 23, 24, 25, 26, 15, 16, 17, 18] rfl
    have hDc := hD.sub (ws' := (tg__w ti r0 (nI ln) r2 r3 r4 r5 (nI nr) r7 r8 tz k_j0 (bN 13 q_j0) k_j2 j2 k_j3 (bN 120 q_j3) k_j4 (bN 120 q_j4) k_j5 j5 k_j7 (bN 120 q_j7) k_j8 j8 g gz g1 g2 g3 g4 g5 (nI gc) (nI gfull) gx gway gav ggoal (nI gfound) 120 (nI gl) (nI gsz) g16 g17 k_fs2 fs2 k_fs3 fs3 k_fs4 fs4)) [19, 20, 21, 22, 23, 24, 25, 26, 15, 16, 17, 18] (by decide) rfl
    have hKc : va_K (dC, dI) vwCl (tg__t k_j0 k_j2 k_j3 k_j4 k_j5 k_j7 k_j8 k_fs2 k_fs3 k_fs4) s := hK.sub [16, 17, 18, 19, 20, 21, 22, 13, 14, 15] rfl
    have hFc := pu_free hDc hS hA
    refine va_callv (va_runV (As := [.ref g, .int (nI n_2)]) (rest := []) ⟨hx, hb, hml, hown, hts⟩ (c_E_6_loadRun l dC dI _ ti r0 ln r2 r3 r4 r5 nr r7 r8 tz k_j0 q_j0 k_j2 j2 k_j3 q_j3 k_j4 q_j4 k_j5 j5 k_j7 q_j7 k_j8 j8 g gz g1 g2 g3 g4 g5 gc gfull gx gway gav ggoal gfound gl gsz g16 g17 k_fs2 fs2 k_fs3 fs3 k_fs4 fs4 n_2 hln hnr hgc hgfull hgfound hgl hgsz (by omega) (by first | assumption | exact gz_0) (by omega)) (cwV 2 hts g_E_8_run_E_6_loadRun rfl rfl rfl (by decide +kernel) ⟨Nat.le_of_ble_eq_true rfl, Nat.le_of_ble_eq_true rfl⟩) ⟨pu_bl, va_recv hK hP (ci := 6) (q0 := 19) rfl rfl, pu_in hPc hKc hDc⟩ rfl rfl hl.1 rfl (lv_room (Nat.le_of_ble_eq_true rfl)) eX8_run_20 ⟨Nat.le_of_ble_eq_true rfl, Nat.le_of_ble_eq_true rfl⟩) hS (fun q _ h => hFc q h) hFc (fun u t H1 locs ht hvm hw hB hz1 hk1 hS => ?_)
    obtain ⟨z_j0_5, z_ln_6, ⟨hP1, -, hD1⟩, hz_ln_6, xr_4_0⟩ := hB
    rw [ht] at hP1
    obtain ⟨hP, hD⟩ := pj_a (X := (xti__w xa xtape (nI tp) rd au xdr hy g (nI hs) tg sg (nI ss) rm ti py bu sm (nI nc) (nI np) (nI ne) (nI st0) q4 q5 q6 q7 q8 q9 q10 q11 q12 q13 q14 q15 q16 k_f4 f4 k_f5 (bN 7 q_f5) k_f6 (bN 7 q_f6) k_f7 f7 k_f8 (bN 4 q_f8) k_f9 (bN 2 q_f9) k_f10 f10 k_f11 f11 k_f12 f12 k_f13 f13 k_f14 f14 k_f15 f15 k_f16 f16 gz g1 g2 g3 g4 g5 (nI gc) (nI gfull) gx gway gav ggoal (nI gfound) 120 (nI gl) (nI gsz) g16 g17 k_fs2 fs2 k_fs3 fs3 k_fs4 fs4 r0 (nI ln) r2 r3 r4 r5 (nI nr) r7 r8 tz k_j0 (bN 13 q_j0) k_j2 j2 k_j3 (bN 120 q_j3) k_j4 (bN 120 q_j4) k_j5 j5 k_j7 (bN 120 q_j7) k_j8 j8)) (X' := (xti__w xa xtape (nI tp) rd au xdr hy g (nI hs) tg sg (nI ss) rm ti py bu sm (nI nc) (nI np) (nI ne) (nI st0) q4 q5 q6 q7 q8 q9 q10 q11 q12 q13 q14 q15 q16 k_f4 f4 k_f5 (bN 7 q_f5) k_f6 (bN 7 q_f6) k_f7 f7 k_f8 (bN 4 q_f8) k_f9 (bN 2 q_f9) k_f10 f10 k_f11 f11 k_f12 f12 k_f13 f13 k_f14 f14 k_f15 f15 k_f16 f16 gz g1 g2 g3 g4 g5 (nI gc) (nI gfull) gx gway gav ggoal (nI gfound) 120 (nI gl) (nI gsz) g16 g17 k_fs2 fs2 k_fs3 fs3 k_fs4 fs4 r0 (nI z_ln_6) r2 r3 r4 r5 (nI nr) r7 r8 tz k_j0 (bN 13 z_j0_5) k_j2 j2 k_j3 (bN 120 q_j3) k_j4 (bN 120 q_j4) k_j5 j5 k_j7 (bN 120 q_j7) k_j8 j8)) (wc := (tg__w ti r0 (nI ln) r2 r3 r4 r5 (nI nr) r7 r8 tz k_j0 (bN 13 q_j0) k_j2 j2 k_j3 (bN 120 q_j3) k_j4 (bN 120 q_j4) k_j5 j5 k_j7 (bN 120 q_j7) k_j8 j8 g gz g1 g2 g3 g4 g5 (nI gc) (nI gfull) gx gway gav ggoal (nI gfound) 120 (nI gl) (nI gsz) g16 g17 k_fs2 fs2 k_fs3 fs3 k_fs4 fs4)) (w1 := (tg__w ti r0 (nI z_ln_6) r2 r3 r4 r5 (nI nr) r7 r8 tz k_j0 (bN 13 z_j0_5) k_j2 j2 k_j3 (bN 120 q_j3) k_j4 (bN 120 q_j4) k_j5 j5 k_j7 (bN 120 q_j7) k_j8 j8 g gz g1 g2 g3 g4 g5 (nI gc) (nI gfull) gx gway gav ggoal (nI gfound) 120 (nI gl) (nI gsz) g16 g17 k_fs2 fs2 k_fs3 fs3 k_fs4 fs4)) hP hD [19, 20, 21, 22, 23, 24, 25, 26, 15, 16, 17, 18] [12, 13, 14, 15, 16, 17, 18, 19, 20, 21, 22, 23, 24, 25, 26, 8, 9, 10, 11, 0, 1, 2, 3, 4, 5, 6, 7] 12 rfl hk1 hP1 rfl rfl rfl (by decide)
    clear hP1 hD1 hFc hPc hDc hKc
    clear hk1 hz1 ht hvm
    generalize H1 = H at hP hS ⊢
    have hsp := hsp.trans (slet_eq xr_4_0)
    refine lv_aload_n hx hb eX8_run_23 rfl (lv_at hl 0 rfl) ?_
    refine va_get (D := (dC, dI)) (ci := 8) (v := .ref ti) (C := RX8) (T := TX8) (N := 16) hx hb hts hiX8 hown hK hP 0 rfl rfl 12 (by decide) v_6 (fun _ h9 => h9) rfl eX8_run_24 ?_
    refine va_get (D := (dC, dI)) (ci := 6) (v := .ref r0) (C := RX6) (T := TX6) (N := 10) hx hb hts hiX6 hown hK hP 19 rfl rfl 0 (by decide) v_13 (fun _ h9 => h9) rfl eX8_run_27 ?_
    refine lv_iload_n hx hb eX8_run_30 rfl (lv_at hl 2 rfl) ?_
    refine va_iald hx hb hK hP 20 16 rfl rfl (vp_in_nI (n := n_3) (by omega) (Nat.le_of_ble_eq_true rfl)) eX8_run_31 ?_
    refine lv_topi (fun y_7 ey_7 => ?_)
    obtain ⟨u_8, hu_8, qu_8, xu_8⟩ := bN_getx 13 z_j0_5 (n := n_3) (by omega)
    obtain rfl : y_7 = nI u_8 := ey_7.trans qu_8
    have hsp := hsp.trans (slet_eq xu_8)
    exact W.iret (v := (nI u_8)) hx hb hr (fun t ht hW => ⟨⟨(nI u_8), (), rfl, (congrArg Prod.fst (hsp.symm.trans hRR)), ⟨z_j0_5, z_ln_6, ⟨by rw [ht]; exact hP, va_K.moved hW.alike hK, hD⟩, hz_ln_6, (congrArg Prod.snd (hsp.symm.trans hRR))⟩⟩, hS.F ht⟩) hS.2.2 eX8_run_32
  · have hsp := hsp.trans (if_neg hn)
    refine lv_if_ne (tgt := 11) hx hb eX8_run_6 (by decide) (fun z => absurd z (by decide)) (fun _ => ?_)
    refine lv_iconst (v := (-1)) hx hb eX8_run_9 (by decide) ?_
    exact W.iret (v := (-1)) hx hb hr (fun t ht hW => ⟨⟨(-1), (), rfl, (congrArg Prod.fst (hsp.symm.trans hRR)), ⟨q_j0, ln, ⟨by rw [ht]; exact hP, va_K.moved hW.alike hK, hD⟩, hln, (congrArg Prod.snd (hsp.symm.trans hRR))⟩⟩, hS.F ht⟩) hS.2.2 eX8_run_10
theorem eX8_when_0 : decode cX8_when 0 = .ok (.aload_n 0, 1) := by decide +kernel
theorem eX8_when_1 : decode cX8_when 1 = .ok (.iload_n 1, 1) := by decide +kernel
theorem eX8_when_2 : decode cX8_when 2 = .ok (.iload_n 2, 1) := by decide +kernel
theorem eX8_when_3 : decode cX8_when 3 = .ok (.invokevirtual 320, 3) := by decide +kernel
theorem eX8_when_6 : decode cX8_when 6 = .ok (.ifCond .eq 11, 3) := by decide +kernel
theorem eX8_when_17 : decode cX8_when 17 = .ok (.iconst (-1), 1) := by decide +kernel
theorem eX8_when_18 : decode cX8_when 18 = .ok (.ireturn, 1) := by decide +kernel
abbrev vs_E_8_when_0 : List Cond := .code yX8_when cX8_when 3 (some .int) :: CM
theorem g_E_8_when_0_E_8_isStep_0 : GoodIn vs_E_8_when_0 (wsV RX8 320 RX8 yX8_isStep vs_E_8_isStep_0) := cm_gV cm_603 cm_604 cm_605 cm_427 cm_599
noncomputable def sp_E_8_when_0 : Int32 := (-1)
set_option maxHeartbeats 4000000 in
set_option maxRecDepth 100000 in
theorem c_E_8_when_0 (l : Launch) (dC : Nat → ClassId) (dI : Nat → Nat → Nat) (sz : Nat) (xa : Nat) (xtape : Nat) (tp : Nat) (rd : Nat) (au : Nat) (xdr : Nat) (hy : Nat) (g : Nat) (tg : Nat) (sg : Nat) (rm : Nat) (ti : Nat) (py : Nat) (bu : Nat) (sm : Nat) (nc : Nat) (ne : Nat) (st0 : Int32) (q4 : Nat) (q5 : Nat) (q6 : Nat) (q7 : Nat) (q8 : Nat) (q9 : Nat) (q10 : Nat) (q11 : Nat) (q12 : Nat) (q13 : Nat) (q14 : Nat) (q15 : Nat) (q16 : Nat) (k_f4 : ClassId) (f4 : Nat → Int32) (k_f5 : ClassId) (q_f5 : Nat → Nat) (k_f6 : ClassId) (q_f6 : Nat → Nat) (k_f7 : ClassId) (f7 : Nat → Int32) (k_f8 : ClassId) (q_f8 : Nat → Nat) (k_f9 : ClassId) (q_f9 : Nat → Nat) (k_f10 : ClassId) (f10 : Nat → Int32) (k_f11 : ClassId) (f11 : Nat → Int32) (k_f12 : ClassId) (f12 : Nat → Int32) (k_f13 : ClassId) (f13 : Nat → Int32) (k_f14 : ClassId) (f14 : Nat → Int32) (k_f15 : ClassId) (f15 : Nat → Int32) (k_f16 : ClassId) (f16 : Nat → Int32) (gz : Nat) (g1 : Nat) (g2 : Nat) (g3 : Nat) (g4 : Nat) (g5 : Nat) (gc : Nat) (gfull : Nat) (gx : Int32) (gway : Int32) (gav : Int32) (ggoal : Int32) (gfound : Nat) (gl : Nat) (gsz : Nat) (g16 : Nat) (g17 : Nat) (k_fs2 : ClassId) (fs2 : Nat → Int32) (k_fs3 : ClassId) (fs3 : Nat → Int32) (k_fs4 : ClassId) (fs4 : Nat → Int32) (r0 : Nat) (ln : Nat) (r2 : Nat) (r3 : Nat) (r4 : Nat) (r5 : Nat) (nr : Nat) (r7 : Nat) (r8 : Nat) (tz : Nat) (k_j0 : ClassId) (q_j0 : Nat → Nat) (k_j2 : ClassId) (j2 : Nat → Int32) (k_j3 : ClassId) (q_j3 : Nat → Nat) (k_j4 : ClassId) (q_j4 : Nat → Nat) (k_j5 : ClassId) (j5 : Nat → Int32) (k_j7 : ClassId) (q_j7 : Nat → Nat) (k_j8 : ClassId) (j8 : Nat → Int32) (p0 : Int32) (p1 : Int32) (htp : tp ≤ 900) (hnc : nc ≤ 3) (hne : ne ≤ 14) (hst0 : pm1 7 st0) (hgc : gc ≤ 120) (hgfull : gfull ≤ 1) (hgfound : gfound ≤ 1) (hgl : gl ≤ 1) (hgsz : gsz ≤ 4) (hln : ln ≤ 119) (hnr : nr ≤ 1920) : Met l yX8_when vs_E_8_when_0 ({ frames := 2, cells := 0, slots := 0, locals := 43 }) (va_Pc [.ref xa, .int p0, .int p1] (pu_B (dC, dI) (xti__w xa xtape (nI tp) rd au xdr hy g 0 tg sg 0 rm ti py bu sm (nI nc) 0 (nI ne) st0 q4 q5 q6 q7 q8 q9 q10 q11 q12 q13 q14 q15 q16 k_f4 f4 k_f5 (bN 7 q_f5) k_f6 (bN 7 q_f6) k_f7 f7 k_f8 (bN 4 q_f8) k_f9 (bN 2 q_f9) k_f10 f10 k_f11 f11 k_f12 f12 k_f13 f13 k_f14 f14 k_f15 f15 k_f16 f16 gz g1 g2 g3 g4 g5 (nI gc) (nI gfull) gx gway gav ggoal (nI gfound) 120 (nI gl) (nI gsz) g16 g17 k_fs2 fs2 k_fs3 fs3 k_fs4 fs4 r0 (nI ln) r2 r3 r4 r5 (nI nr) r7 r8 tz k_j0 (bN 13 q_j0) k_j2 j2 k_j3 (bN 120 q_j3) k_j4 (bN 120 q_j4) k_j5 j5 k_j7 (bN 120 q_j7) k_j8 j8) (xti__t k_f4 k_f5 k_f6 k_f7 k_f8 k_f9 k_f10 k_f11 k_f12 k_f13 k_f14 k_f15 k_f16 k_fs2 k_fs3 k_fs4 k_j0 k_j2 k_j3 k_j4 k_j5 k_j7 k_j8) sz)) (va_Qi (fun (r : Int32) (_ : Unit) => r = sp_E_8_when_0) (fun _ _ => True) (va_A [] sz)) 0 0 (va_A [] sz) := by
  refine Met.ofW (cc := cX8_when) (maxL := 3) (ret := (some .int)) (by decide) rfl ?_
  intro p e s m args below meth c s₁ B hml hv
  obtain ⟨rfl, rfl, hP, hK, hD0⟩ := hv
  have hx := B.exec
  have hb := B.bytes
  have hr := B.returns
  have hts := atoms_spec (ws := vs_E_8_when_0) B.pre
  have hown : s.vm.findClass RX8 = some m.cls := findClass_of_methodNamed B.named
  have hlocks := B.notSynchronized
  have hD := hD0
  have hA : ∀ q : Nat, s.heap.size ≤ q → va_A [] s.heap.size q := fun _ h => Or.inr h
  have hS : va_S (va_A [] s.heap.size) s.heap s.heap [] := va_S.rf
  have hl := lv_entry ([.ref xa, .int p0, .int p1]) (n := 3) (Nat.le_of_ble_eq_true rfl)
  rw [lg_entry_eq]
  generalize (lg_sl ([.ref xa, .int p0, .int p1]) ++ List.replicate (3 - (lg_sl ([.ref xa, .int p0, .int p1])).length) Slot.unset).toArray = ls at hl ⊢
  have hl : lv_has ls 3 [(0, .ref xa), (1, .int p0), (2, .int p1)] := hl
  obtain ⟨RR, hRR⟩ : ∃ x, x = sp_E_8_when_0 := ⟨_, rfl⟩
  have hsp := hRR
  refine lv_aload_n hx hb eX8_when_0 rfl (lv_at hl 0 rfl) ?_
  refine lv_iload_n hx hb eX8_when_1 rfl (lv_at hl 1 rfl) ?_
  refine lv_iload_n hx hb eX8_when_2 rfl (lv_at hl 2 rfl) ?_
  have hPc : va_P (dC, dI) vwCl (xgl__w xa xtape (nI tp) rd au xdr hy g 0 tg sg 0 rm ti py bu sm gz g1 g2 g3 g4 g5 (nI gc) (nI gfull) gx gway gav ggoal (nI gfound) 120 (nI gl) (nI gsz) g16 g17 k_fs2 fs2 k_fs3 fs3 k_fs4 fs4) _ := hP.sub [0, 15, 16, 17, 18] rfl
  have hDc := hD.sub (ws' := (xgl__w xa xtape (nI tp) rd au xdr hy g 0 tg sg 0 rm ti py bu sm gz g1 g2 g3 g4 g5 (nI gc) (nI gfull) gx gway gav ggoal (nI gfound) 120 (nI gl) (nI gsz) g16 g17 k_fs2 fs2 k_fs3 fs3 k_fs4 fs4)) [0, 15, 16, 17, 18] (by decide) rfl
  have hKc : va_K (dC, dI) vwCl (xgl__t k_fs2 k_fs3 k_fs4) s := hK.sub [13, 14, 15] rfl
  refine va_calli (va_runV (As := [.int p0, .int p1]) (rest := []) ⟨hx, hb, hml, hown, hts⟩ (c_E_8_isStep_0 l dC dI _ xa xtape tp rd au xdr hy g tg sg 0 rm ti py bu sm gz g1 g2 g3 g4 g5 gc gfull gx gway gav ggoal gfound gl gsz g16 g17 k_fs2 fs2 k_fs3 fs3 k_fs4 fs4 p0 p1 htp (Nat.le_of_ble_eq_true rfl) hgc hgfull hgfound hgl hgsz) (cwV 2 hts g_E_8_when_0_E_8_isStep_0 rfl rfl rfl (by decide +kernel) ⟨Nat.le_of_ble_eq_true rfl, Nat.le_of_ble_eq_true rfl⟩) ⟨pu_bl, va_recv hK hP (ci := 8) (q0 := 0) rfl rfl, pu_in hPc hKc hDc⟩ rfl rfl hl.1 rfl (lv_room (Nat.le_of_ble_eq_true rfl)) eX8_when_3 ⟨Nat.le_of_ble_eq_true rfl, Nat.le_of_ble_eq_true rfl⟩) hS (fun q _ h => pu_fr hS hA q h) (pu_fr hS hA) (fun r_1 u t H1 locs ht hvm hw hB hz1 hk1 hS => ?_)
  have hP := pu_keep hP hk1
  clear hk1 hz1 ht hvm
  generalize H1 = H at hP hS ⊢
  obtain rfl : r_1 = 0 := hw
  refine lv_if_eq (tgt := 17) hx hb eX8_when_6 (by decide) (fun _ => ?_) (fun z => absurd z (by decide))
  refine lv_iconst (v := (-1)) hx hb eX8_when_17 (by decide) ?_
  exact W.iret (v := (-1)) hx hb hr (fun t ht hW => ⟨⟨(-1), (), rfl, (hsp.symm.trans hRR), trivial⟩, hS.F ht⟩) hS.2.2 eX8_when_18
theorem eX8_when_9 : decode cX8_when 9 = .ok (.aload_n 0, 1) := by decide +kernel
theorem eX8_when_10 : decode cX8_when 10 = .ok (.iload_n 1, 1) := by decide +kernel
theorem eX8_when_11 : decode cX8_when 11 = .ok (.invokevirtual 337, 3) := by decide +kernel
theorem eX8_when_14 : decode cX8_when 14 = .ok (.ifCond .ne 5, 3) := by decide +kernel
theorem eX8_when_19 : decode cX8_when 19 = .ok (.aload_n 0, 1) := by decide +kernel
theorem eX8_when_20 : decode cX8_when 20 = .ok (.getfield 62, 3) := by decide +kernel
theorem eX8_when_23 : decode cX8_when 23 = .ok (.getfield 340, 3) := by decide +kernel
theorem eX8_when_26 : decode cX8_when 26 = .ok (.iload_n 2, 1) := by decide +kernel
theorem eX8_when_27 : decode cX8_when 27 = .ok (.iconst 1, 1) := by decide +kernel
theorem eX8_when_28 : decode cX8_when 28 = .ok (.iadd, 1) := by decide +kernel
theorem eX8_when_29 : decode cX8_when 29 = .ok (.iaload, 1) := by decide +kernel
theorem eX8_when_30 : decode cX8_when 30 = .ok (.ireturn, 1) := by decide +kernel
abbrev vs_E_8_when : List Cond := .code yX8_when cX8_when 3 (some .int) :: CM
theorem g_E_8_when_E_8_isStep : GoodIn vs_E_8_when (wsV RX8 320 RX8 yX8_isStep vs_E_8_isStep) := cm_gV cm_603 cm_604 cm_605 cm_427 cm_599
theorem g_E_8_when_E_8_timesRun : GoodIn vs_E_8_when (wsV RX8 337 RX8 yX8_timesRun vs_E_8_timesRun) := cm_gV cm_618 cm_619 cm_620 cm_427 cm_609
noncomputable def sp_E_8_when (hs : Nat) (nc : Nat) (st0 : Nat) (f4 : Nat → Int32) (q_f5 : Nat → Nat) (q_f6 : Nat → Nat) (f7 : Nat → Int32) (q_f8 : Nat → Nat) (q_f9 : Nat → Nat) (f12 : Nat → Int32) (f13 : Nat → Int32) (gc : Nat) (fs2 : Nat → Int32) (fs3 : Nat → Int32) (fs4 : Nat → Int32) (ln : Nat) (nr : Nat) (q_j0 : Nat → Nat) (j2 : Nat → Int32) (q_j3 : Nat → Nat) (q_j4 : Nat → Nat) (j5 : Nat → Int32) (q_j7 : Nat → Nat) (p0 : Int32) (p1 : Int32) : Int32 × (Nat → Nat) × (Nat → Int32) × (Nat → Nat) × (Nat → Nat) × (Nat → Int32) × (Nat → Nat) × Nat × Nat := (if isStp hs gc fs4 p0 p1 then (slet ((p0 : Int32).toNatClampNeg) (fun n_2 => (slet ((p1 : Int32).toNatClampNeg) (fun n_3 => (slet (sp_E_8_timesRun nc st0 f4 q_f5 q_f6 f7 q_f8 q_f9 f12 f13 fs2 fs3 fs4 q_j0 j2 q_j3 q_j4 j5 q_j7 n_2) (fun (u_13, z_j0_5, z_j2_6, z_j3_7, z_j4_8, z_j5_9, z_j7_10, z_ln_11, z_nr_12) => (if u_13 = 0 then ((-1), z_j0_5, z_j2_6, z_j3_7, z_j4_8, z_j5_9, z_j7_10, z_ln_11, z_nr_12) else (slet (z_j2_6 (n_3 + 1)) (fun y_16 => (y_16, z_j0_5, z_j2_6, z_j3_7, z_j4_8, z_j5_9, z_j7_10, z_ln_11, z_nr_12)))))))))) else ((-1), q_j0, j2, q_j3, q_j4, j5, q_j7, ln, nr))
set_option maxHeartbeats 4000000 in
set_option maxRecDepth 100000 in
theorem c_E_8_when (l : Launch) (dC : Nat → ClassId) (dI : Nat → Nat → Nat) (sz : Nat) (xa : Nat) (xtape : Nat) (tp : Nat) (rd : Nat) (au : Nat) (xdr : Nat) (hy : Nat) (g : Nat) (hs : Nat) (tg : Nat) (sg : Nat) (ss : Nat) (rm : Nat) (ti : Nat) (py : Nat) (bu : Nat) (sm : Nat) (nc : Nat) (np : Nat) (ne : Nat) (st0 : Nat) (q4 : Nat) (q5 : Nat) (q6 : Nat) (q7 : Nat) (q8 : Nat) (q9 : Nat) (q10 : Nat) (q11 : Nat) (q12 : Nat) (q13 : Nat) (q14 : Nat) (q15 : Nat) (q16 : Nat) (k_f4 : ClassId) (f4 : Nat → Int32) (k_f5 : ClassId) (q_f5 : Nat → Nat) (k_f6 : ClassId) (q_f6 : Nat → Nat) (k_f7 : ClassId) (f7 : Nat → Int32) (k_f8 : ClassId) (q_f8 : Nat → Nat) (k_f9 : ClassId) (q_f9 : Nat → Nat) (k_f10 : ClassId) (f10 : Nat → Int32) (k_f11 : ClassId) (f11 : Nat → Int32) (k_f12 : ClassId) (f12 : Nat → Int32) (k_f13 : ClassId) (f13 : Nat → Int32) (k_f14 : ClassId) (f14 : Nat → Int32) (k_f15 : ClassId) (f15 : Nat → Int32) (k_f16 : ClassId) (f16 : Nat → Int32) (gz : Nat) (g1 : Nat) (g2 : Nat) (g3 : Nat) (g4 : Nat) (g5 : Nat) (gc : Nat) (gfull : Nat) (gx : Int32) (gway : Int32) (gav : Int32) (ggoal : Int32) (gfound : Nat) (gl : Nat) (gsz : Nat) (g16 : Nat) (g17 : Nat) (k_fs2 : ClassId) (fs2 : Nat → Int32) (k_fs3 : ClassId) (fs3 : Nat → Int32) (k_fs4 : ClassId) (fs4 : Nat → Int32) (r0 : Nat) (ln : Nat) (r2 : Nat) (r3 : Nat) (r4 : Nat) (r5 : Nat) (nr : Nat) (r7 : Nat) (r8 : Nat) (tz : Nat) (k_j0 : ClassId) (q_j0 : Nat → Nat) (k_j2 : ClassId) (j2 : Nat → Int32) (k_j3 : ClassId) (q_j3 : Nat → Nat) (k_j4 : ClassId) (q_j4 : Nat → Nat) (k_j5 : ClassId) (j5 : Nat → Int32) (k_j7 : ClassId) (q_j7 : Nat → Nat) (k_j8 : ClassId) (j8 : Nat → Int32) (p0 : Int32) (p1 : Int32) (htp : tp ≤ 900) (hhs : hs ≤ 1) (hss : ss ≤ 1) (hnc : nc ≤ 3) (hnp : np ≤ 8) (hne : ne ≤ 14) (hst0 : st0 ≤ 7) (hgc : gc ≤ 120) (hgfull : gfull ≤ 1) (hgfound : gfound ≤ 1) (hgl : gl ≤ 1) (hgsz : gsz ≤ 4) (hln : ln ≤ 119) (hnr : nr ≤ 1920) (hq0 : gz_ok gc fs2 fs3 fs4) : Met l yX8_when vs_E_8_when ({ frames := 4, cells := 0, slots := 0, locals := 95 }) (va_Pc [.ref xa, .int p0, .int p1] (pu_B (dC, dI) (xti__w xa xtape (nI tp) rd au xdr hy g (nI hs) tg sg (nI ss) rm ti py bu sm (nI nc) (nI np) (nI ne) (nI st0) q4 q5 q6 q7 q8 q9 q10 q11 q12 q13 q14 q15 q16 k_f4 f4 k_f5 (bN 7 q_f5) k_f6 (bN 7 q_f6) k_f7 f7 k_f8 (bN 4 q_f8) k_f9 (bN 2 q_f9) k_f10 f10 k_f11 f11 k_f12 f12 k_f13 f13 k_f14 f14 k_f15 f15 k_f16 f16 gz g1 g2 g3 g4 g5 (nI gc) (nI gfull) gx gway gav ggoal (nI gfound) 120 (nI gl) (nI gsz) g16 g17 k_fs2 fs2 k_fs3 fs3 k_fs4 fs4 r0 (nI ln) r2 r3 r4 r5 (nI nr) r7 r8 tz k_j0 (bN 13 q_j0) k_j2 j2 k_j3 (bN 120 q_j3) k_j4 (bN 120 q_j4) k_j5 j5 k_j7 (bN 120 q_j7) k_j8 j8) (xti__t k_f4 k_f5 k_f6 k_f7 k_f8 k_f9 k_f10 k_f11 k_f12 k_f13 k_f14 k_f15 k_f16 k_fs2 k_fs3 k_fs4 k_j0 k_j2 k_j3 k_j4 k_j5 k_j7 k_j8) sz)) (va_Qi (fun (r : Int32) (_ : Unit) => r = (sp_E_8_when hs nc st0 f4 q_f5 q_f6 f7 q_f8 q_f9 f12 f13 gc fs2 fs3 fs4 ln nr q_j0 j2 q_j3 q_j4 j5 q_j7 p0 p1).1) (fun _ t => ∃ (z_j0 : Nat → Nat) (z_j2 : Nat → Int32) (z_j3 : Nat → Nat) (z_j4 : Nat → Nat) (z_j5 : Nat → Int32) (z_j7 : Nat → Nat) (z_ln : Nat) (z_nr : Nat), pu_E (dC, dI) (xti__w xa xtape (nI tp) rd au xdr hy g (nI hs) tg sg (nI ss) rm ti py bu sm (nI nc) (nI np) (nI ne) (nI st0) q4 q5 q6 q7 q8 q9 q10 q11 q12 q13 q14 q15 q16 k_f4 f4 k_f5 (bN 7 q_f5) k_f6 (bN 7 q_f6) k_f7 f7 k_f8 (bN 4 q_f8) k_f9 (bN 2 q_f9) k_f10 f10 k_f11 f11 k_f12 f12 k_f13 f13 k_f14 f14 k_f15 f15 k_f16 f16 gz g1 g2 g3 g4 g5 (nI gc) (nI gfull) gx gway gav ggoal (nI gfound) 120 (nI gl) (nI gsz) g16 g17 k_fs2 fs2 k_fs3 fs3 k_fs4 fs4 r0 (nI z_ln) r2 r3 r4 r5 (nI z_nr) r7 r8 tz k_j0 (bN 13 z_j0) k_j2 z_j2 k_j3 (bN 120 z_j3) k_j4 (bN 120 z_j4) k_j5 z_j5 k_j7 (bN 120 z_j7) k_j8 j8) (xti__t k_f4 k_f5 k_f6 k_f7 k_f8 k_f9 k_f10 k_f11 k_f12 k_f13 k_f14 k_f15 k_f16 k_fs2 k_fs3 k_fs4 k_j0 k_j2 k_j3 k_j4 k_j5 k_j7 k_j8) (va_A ((xti__w xa xtape (nI tp) rd au xdr hy g (nI hs) tg sg (nI ss) rm ti py bu sm (nI nc) (nI np) (nI ne) (nI st0) q4 q5 q6 q7 q8 q9 q10 q11 q12 q13 q14 q15 q16 k_f4 f4 k_f5 (bN 7 q_f5) k_f6 (bN 7 q_f6) k_f7 f7 k_f8 (bN 4 q_f8) k_f9 (bN 2 q_f9) k_f10 f10 k_f11 f11 k_f12 f12 k_f13 f13 k_f14 f14 k_f15 f15 k_f16 f16 gz g1 g2 g3 g4 g5 (nI gc) (nI gfull) gx gway gav ggoal (nI gfound) 120 (nI gl) (nI gsz) g16 g17 k_fs2 fs2 k_fs3 fs3 k_fs4 fs4 r0 (nI ln) r2 r3 r4 r5 (nI nr) r7 r8 tz k_j0 (bN 13 q_j0) k_j2 j2 k_j3 (bN 120 q_j3) k_j4 (bN 120 q_j4) k_j5 j5 k_j7 (bN 120 q_j7) k_j8 j8)) sz) t ∧ (z_ln ≤ 119) ∧ (z_nr ≤ 1920) ∧ ((z_j0, z_j2, z_j3, z_j4, z_j5, z_j7, z_ln, z_nr) = (sp_E_8_when hs nc st0 f4 q_f5 q_f6 f7 q_f8 q_f9 f12 f13 gc fs2 fs3 fs4 ln nr q_j0 j2 q_j3 q_j4 j5 q_j7 p0 p1).2)) (va_A ((xti__w xa xtape (nI tp) rd au xdr hy g (nI hs) tg sg (nI ss) rm ti py bu sm (nI nc) (nI np) (nI ne) (nI st0) q4 q5 q6 q7 q8 q9 q10 q11 q12 q13 q14 q15 q16 k_f4 f4 k_f5 (bN 7 q_f5) k_f6 (bN 7 q_f6) k_f7 f7 k_f8 (bN 4 q_f8) k_f9 (bN 2 q_f9) k_f10 f10 k_f11 f11 k_f12 f12 k_f13 f13 k_f14 f14 k_f15 f15 k_f16 f16 gz g1 g2 g3 g4 g5 (nI gc) (nI gfull) gx gway gav ggoal (nI gfound) 120 (nI gl) (nI gsz) g16 g17 k_fs2 fs2 k_fs3 fs3 k_fs4 fs4 r0 (nI ln) r2 r3 r4 r5 (nI nr) r7 r8 tz k_j0 (bN 13 q_j0) k_j2 j2 k_j3 (bN 120 q_j3) k_j4 (bN 120 q_j4) k_j5 j5 k_j7 (bN 120 q_j7) k_j8 j8)) sz)) 0 0 (va_A ((xti__w xa xtape (nI tp) rd au xdr hy g (nI hs) tg sg (nI ss) rm ti py bu sm (nI nc) (nI np) (nI ne) (nI st0) q4 q5 q6 q7 q8 q9 q10 q11 q12 q13 q14 q15 q16 k_f4 f4 k_f5 (bN 7 q_f5) k_f6 (bN 7 q_f6) k_f7 f7 k_f8 (bN 4 q_f8) k_f9 (bN 2 q_f9) k_f10 f10 k_f11 f11 k_f12 f12 k_f13 f13 k_f14 f14 k_f15 f15 k_f16 f16 gz g1 g2 g3 g4 g5 (nI gc) (nI gfull) gx gway gav ggoal (nI gfound) 120 (nI gl) (nI gsz) g16 g17 k_fs2 fs2 k_fs3 fs3 k_fs4 fs4 r0 (nI ln) r2 r3 r4 r5 (nI nr) r7 r8 tz k_j0 (bN 13 q_j0) k_j2 j2 k_j3 (bN 120 q_j3) k_j4 (bN 120 q_j4) k_j5 j5 k_j7 (bN 120 q_j7) k_j8 j8)) sz) := by
  refine Met.ofW (cc := cX8_when) (maxL := 3) (ret := (some .int)) (by decide) rfl ?_
  intro p e s m args below meth c s₁ B hml hv
  obtain ⟨rfl, rfl, hP, hK, hD0⟩ := hv
  have hx := B.exec
  have hb := B.bytes
  have hr := B.returns
  have hts := atoms_spec (ws := vs_E_8_when) B.pre
  have v_10 := hts (.fieldLink RX8 62 "ClockReach" "timing" "LClockReach$Timing;") (List.mem_cons_of_mem _ cm_601)
  have v_11 := hts (.fieldLink RX8 340 "ClockReach$Timing" "at" "[I") (List.mem_cons_of_mem _ cm_617)
  have hown : s.vm.findClass RX8 = some m.cls := findClass_of_methodNamed B.named
  have hlocks := B.notSynchronized
  have hiX6 : ∀ w ∈ wsX60, w ∈ vs_E_8_when := fun _ h => List.mem_cons_of_mem _ (cm_X6 h)
  have hiX8 : ∀ w ∈ wsX80, w ∈ vs_E_8_when := fun _ h => List.mem_cons_of_mem _ (cm_X8 h)
  have hD := hD0.self (sz := s.heap.size)
  generalize hAe : va_A ((xti__w xa xtape (nI tp) rd au xdr hy g (nI hs) tg sg (nI ss) rm ti py bu sm (nI nc) (nI np) (nI ne) (nI st0) q4 q5 q6 q7 q8 q9 q10 q11 q12 q13 q14 q15 q16 k_f4 f4 k_f5 (bN 7 q_f5) k_f6 (bN 7 q_f6) k_f7 f7 k_f8 (bN 4 q_f8) k_f9 (bN 2 q_f9) k_f10 f10 k_f11 f11 k_f12 f12 k_f13 f13 k_f14 f14 k_f15 f15 k_f16 f16 gz g1 g2 g3 g4 g5 (nI gc) (nI gfull) gx gway gav ggoal (nI gfound) 120 (nI gl) (nI gsz) g16 g17 k_fs2 fs2 k_fs3 fs3 k_fs4 fs4 r0 (nI ln) r2 r3 r4 r5 (nI nr) r7 r8 tz k_j0 (bN 13 q_j0) k_j2 j2 k_j3 (bN 120 q_j3) k_j4 (bN 120 q_j4) k_j5 j5 k_j7 (bN 120 q_j7) k_j8 j8)) s.heap.size = A at hD ⊢
  have hA : ∀ q : Nat, s.heap.size ≤ q → A q := fun q h => by rw [← hAe]; exact Or.inr h
  have hS : va_S A s.heap s.heap [] := va_S.rf
  have hl := lv_entry ([.ref xa, .int p0, .int p1]) (n := 3) (Nat.le_of_ble_eq_true rfl)
  rw [lg_entry_eq]
  generalize (lg_sl ([.ref xa, .int p0, .int p1]) ++ List.replicate (3 - (lg_sl ([.ref xa, .int p0, .int p1])).length) Slot.unset).toArray = ls at hl ⊢
  have hl : lv_has ls 3 [(0, .ref xa), (1, .int p0), (2, .int p1)] := hl
  obtain ⟨RR, hRR⟩ : ∃ x, x = (sp_E_8_when hs nc st0 f4 q_f5 q_f6 f7 q_f8 q_f9 f12 f13 gc fs2 fs3 fs4 ln nr q_j0 j2 q_j3 q_j4 j5 q_j7 p0 p1) := ⟨_, rfl⟩
  have hsp := hRR
  refine lv_aload_n hx hb eX8_when_0 rfl (lv_at hl 0 rfl) ?_
  refine lv_iload_n hx hb eX8_when_1 rfl (lv_at hl 1 rfl) ?_
  refine lv_iload_n hx hb eX8_when_2 rfl (lv_at hl 2 rfl) ?_
  have hPc : va_P (dC, dI) vwCl (xgl__w xa xtape (nI tp) rd au xdr hy g (nI hs) tg sg (nI ss) rm ti py bu sm gz g1 g2 g3 g4 g5 (nI gc) (nI gfull) gx gway gav ggoal (nI gfound) 120 (nI gl) (nI gsz) g16 g17 k_fs2 fs2 k_fs3 fs3 k_fs4 fs4) _ := hP.sub [0, 15, 16, 17, 18] rfl
  have hDc := hD.sub (ws' := (xgl__w xa xtape (nI tp) rd au xdr hy g (nI hs) tg sg (nI ss) rm ti py bu sm gz g1 g2 g3 g4 g5 (nI gc) (nI gfull) gx gway gav ggoal (nI gfound) 120 (nI gl) (nI gsz) g16 g17 k_fs2 fs2 k_fs3 fs3 k_fs4 fs4)) [0, 15, 16, 17, 18] (by decide) rfl
  have hKc : va_K (dC, dI) vwCl (xgl__t k_fs2 k_fs3 k_fs4) s := hK.sub [13, 14, 15] rfl
  refine va_calli (va_runV (As := [.int p0, .int p1]) (rest := []) ⟨hx, hb, hml, hown, hts⟩ (c_E_8_isStep l dC dI _ xa xtape tp rd au xdr hy g hs tg sg ss rm ti py bu sm gz g1 g2 g3 g4 g5 gc gfull gx gway gav ggoal gfound gl gsz g16 g17 k_fs2 fs2 k_fs3 fs3 k_fs4 fs4 p0 p1 htp hhs hss hgc hgfull hgfound hgl hgsz (by assumption)) (cwV 2 hts g_E_8_when_E_8_isStep rfl rfl rfl (by decide +kernel) ⟨Nat.le_of_ble_eq_true rfl, Nat.le_of_ble_eq_true rfl⟩) ⟨pu_bl, va_recv hK hP (ci := 8) (q0 := 0) rfl rfl, pu_in hPc hKc hDc⟩ rfl rfl hl.1 rfl (lv_room (Nat.le_of_ble_eq_true rfl)) eX8_when_3 ⟨Nat.le_of_ble_eq_true rfl, Nat.le_of_ble_eq_true rfl⟩) hS (fun q _ h => pu_fr hS hA q h) (pu_fr hS hA) (fun r_1 u t H1 locs ht hvm hw hB hz1 hk1 hS => ?_)
  have hP := pu_keep hP hk1
  clear hk1 hz1 ht hvm
  generalize H1 = H at hP hS ⊢
  rcases hw with ⟨rfl, n_2, n_3, hn_2, hn_3, rfl, rfl, hst⟩ | ⟨rfl, hn⟩
  · have hsp := hsp.trans (if_pos hst)
    have hsp := hsp.trans (slet_eq (nI_cl (n := n_2) (by omega)))
    have hsp := hsp.trans (slet_eq (nI_cl (n := n_3) (by omega)))
    refine lv_if_eq (tgt := 17) hx hb eX8_when_6 (by decide) (fun z => absurd z (by decide)) (fun _ => ?_)
    refine lv_aload_n hx hb eX8_when_9 rfl (lv_at hl 0 rfl) ?_
    refine lv_iload_n hx hb eX8_when_10 rfl (lv_at hl 1 rfl) ?_
    have hFc := pu_free hD hS hA
    refine va_calli (va_runV (As := [.int (nI n_2)]) (rest := []) ⟨hx, hb, hml, hown, hts⟩ (c_E_8_timesRun l dC dI _ xa xtape tp rd au xdr hy g hs tg sg ss rm ti py bu sm nc np ne st0 q4 q5 q6 q7 q8 q9 q10 q11 q12 q13 q14 q15 q16 k_f4 f4 k_f5 q_f5 k_f6 q_f6 k_f7 f7 k_f8 q_f8 k_f9 q_f9 k_f10 f10 k_f11 f11 k_f12 f12 k_f13 f13 k_f14 f14 k_f15 f15 k_f16 f16 gz g1 g2 g3 g4 g5 gc gfull gx gway gav ggoal gfound gl gsz g16 g17 k_fs2 fs2 k_fs3 fs3 k_fs4 fs4 r0 ln r2 r3 r4 r5 nr r7 r8 tz k_j0 q_j0 k_j2 j2 k_j3 q_j3 k_j4 q_j4 k_j5 j5 k_j7 q_j7 k_j8 j8 n_2 htp hhs hss hnc hnp hne hst0 hgc hgfull hgfound hgl hgsz hln hnr (by omega) (by assumption) (by omega)) (cwV 1 hts g_E_8_when_E_8_timesRun rfl rfl rfl (by decide +kernel) ⟨Nat.le_of_ble_eq_true rfl, Nat.le_of_ble_eq_true rfl⟩) ⟨pu_bl, va_recv hK hP (ci := 8) (q0 := 0) rfl rfl, pu_in hP hK hD⟩ rfl rfl hl.1 rfl (lv_room (Nat.le_of_ble_eq_true rfl)) eX8_when_11 ⟨Nat.le_of_ble_eq_true rfl, Nat.le_of_ble_eq_true rfl⟩) hS (fun q _ h => hFc q h) hFc (fun r_4 u t H1 locs ht hvm hw hB hz1 hk1 hS => ?_)
    obtain ⟨z_j0_5, z_j2_6, z_j3_7, z_j4_8, z_j5_9, z_j7_10, z_ln_11, z_nr_12, ⟨hP1, -, hD1⟩, hz_ln_11, hz_nr_12, xr_4_0⟩ := hB
    rw [ht] at hP1
    have hP := hP1
    have hD := pu_all hFc hD1
    clear hP1 hD1 hFc
    clear hk1 hz1 ht hvm
    generalize H1 = H at hP hS ⊢
    obtain ⟨u_13, hu_13, rfl, iu_13⟩ := hw
    have iu_13 : (u_13, z_j0_5, z_j2_6, z_j3_7, z_j4_8, z_j5_9, z_j7_10, z_ln_11, z_nr_12) = (sp_E_8_timesRun nc st0 f4 q_f5 q_f6 f7 q_f8 q_f9 f12 f13 fs2 fs3 fs4 q_j0 j2 q_j3 q_j4 j5 q_j7 n_2) := Prod.ext iu_13 xr_4_0
    have hsp := hsp.trans (slet_eq iu_13)
    refine lv_if_ne (tgt := 19) hx hb eX8_when_14 (by decide) (fun c_14 => ?_) (fun c_14 => ?_)
    · have c_14 : ¬ u_13 = 0 := fun z => c_14 ((nI_eq (a := u_13) (b := 0) (Nat.lt_of_le_of_lt hu_13 (Nat.le_of_ble_eq_true rfl)) (Nat.le_of_ble_eq_true rfl)).mpr z)
      have hsp := hsp.trans (if_neg c_14)
      refine lv_aload_n hx hb eX8_when_19 rfl (lv_at hl 0 rfl) ?_
      refine va_get (D := (dC, dI)) (ci := 8) (v := .ref ti) (C := RX8) (T := TX8) (N := 16) hx hb hts hiX8 hown hK hP 0 rfl rfl 12 (by decide) v_10 (fun _ h9 => h9) rfl eX8_when_20 ?_
      refine va_get (D := (dC, dI)) (ci := 6) (v := .ref r2) (C := RX6) (T := TX6) (N := 10) hx hb hts hiX6 hown hK hP 19 rfl rfl 2 (by decide) v_11 (fun _ h9 => h9) rfl eX8_when_23 ?_
      refine lv_iload_n hx hb eX8_when_26 rfl (lv_at hl 2 rfl) ?_
      refine lv_iconst (v := 1) hx hb eX8_when_27 (by decide) ?_
      refine lv_iadd hx hb eX8_when_28 ?_
      refine lv_topi (fun y_15 ey_15 => ?_)
      obtain rfl : y_15 = (nI (n_3 + 1)) := ey_15.trans (nI_add n_3 1)
      refine va_iald hx hb hK hP 21 17 rfl rfl (vp_in_nI (n := (n_3 + 1)) (by omega) (Nat.le_of_ble_eq_true rfl)) eX8_when_29 ?_
      refine lv_topi (fun y_16 ey_16 => ?_)
      have ey_16 : y_16 = z_j2_6 (n_3 + 1) := ey_16.trans (congrArg z_j2_6 (nI_clamp (n := (n_3 + 1)) (by omega)))
      have hsp := hsp.trans (slet_eq ey_16)
      exact W.iret (v := y_16) hx hb hr (fun t ht hW => ⟨⟨y_16, (), rfl, (congrArg Prod.fst (hsp.symm.trans hRR)), ⟨z_j0_5, z_j2_6, z_j3_7, z_j4_8, z_j5_9, z_j7_10, z_ln_11, z_nr_12, ⟨by rw [ht]; exact hP, va_K.moved hW.alike hK, hD⟩, hz_ln_11, hz_nr_12, (congrArg Prod.snd (hsp.symm.trans hRR))⟩⟩, hS.F ht⟩) hS.2.2 eX8_when_30
    · have c_14 : u_13 = 0 := (nI_eq (a := u_13) (b := 0) (Nat.lt_of_le_of_lt hu_13 (Nat.le_of_ble_eq_true rfl)) (Nat.le_of_ble_eq_true rfl)).mp c_14
      have hsp := hsp.trans (if_pos c_14)
      refine lv_iconst (v := (-1)) hx hb eX8_when_17 (by decide) ?_
      exact W.iret (v := (-1)) hx hb hr (fun t ht hW => ⟨⟨(-1), (), rfl, (congrArg Prod.fst (hsp.symm.trans hRR)), ⟨z_j0_5, z_j2_6, z_j3_7, z_j4_8, z_j5_9, z_j7_10, z_ln_11, z_nr_12, ⟨by rw [ht]; exact hP, va_K.moved hW.alike hK, hD⟩, hz_ln_11, hz_nr_12, (congrArg Prod.snd (hsp.symm.trans hRR))⟩⟩, hS.F ht⟩) hS.2.2 eX8_when_18
  · have hsp := hsp.trans (if_neg hn)
    refine lv_if_eq (tgt := 17) hx hb eX8_when_6 (by decide) (fun _ => ?_) (fun z => absurd z (by decide))
    refine lv_iconst (v := (-1)) hx hb eX8_when_17 (by decide) ?_
    exact W.iret (v := (-1)) hx hb hr (fun t ht hW => ⟨⟨(-1), (), rfl, (congrArg Prod.fst (hsp.symm.trans hRR)), ⟨q_j0, j2, q_j3, q_j4, j5, q_j7, ln, nr, ⟨by rw [ht]; exact hP, va_K.moved hW.alike hK, hD⟩, hln, hnr, (congrArg Prod.snd (hsp.symm.trans hRR))⟩⟩, hS.F ht⟩) hS.2.2 eX8_when_18
theorem eX8_then_0 : decode cX8_then 0 = .ok (.aload_n 0, 1) := by decide +kernel
theorem eX8_then_1 : decode cX8_then 1 = .ok (.iload_n 1, 1) := by decide +kernel
theorem eX8_then_2 : decode cX8_then 2 = .ok (.iload_n 2, 1) := by decide +kernel
theorem eX8_then_3 : decode cX8_then 3 = .ok (.invokevirtual 320, 3) := by decide +kernel
theorem eX8_then_6 : decode cX8_then 6 = .ok (.ifCond .eq 19, 3) := by decide +kernel
theorem eX8_then_25 : decode cX8_then 25 = .ok (.iconst (-1), 1) := by decide +kernel
theorem eX8_then_26 : decode cX8_then 26 = .ok (.ireturn, 1) := by decide +kernel
abbrev vs_E_8_then_0 : List Cond := .code yX8_then cX8_then 4 (some .int) :: CM
theorem g_E_8_then_0_E_8_isStep_0 : GoodIn vs_E_8_then_0 (wsV RX8 320 RX8 yX8_isStep vs_E_8_isStep_0) := cm_gV cm_603 cm_604 cm_605 cm_427 cm_599
noncomputable def sp_E_8_then_0 : Int32 := (-1)
set_option maxHeartbeats 4000000 in
set_option maxRecDepth 100000 in
theorem c_E_8_then_0 (l : Launch) (dC : Nat → ClassId) (dI : Nat → Nat → Nat) (sz : Nat) (xa : Nat) (xtape : Nat) (tp : Nat) (rd : Nat) (au : Nat) (xdr : Nat) (hy : Nat) (g : Nat) (tg : Nat) (sg : Nat) (rm : Nat) (ti : Nat) (py : Nat) (bu : Nat) (sm : Nat) (nc : Nat) (ne : Nat) (st0 : Int32) (q4 : Nat) (q5 : Nat) (q6 : Nat) (q7 : Nat) (q8 : Nat) (q9 : Nat) (q10 : Nat) (q11 : Nat) (q12 : Nat) (q13 : Nat) (q14 : Nat) (q15 : Nat) (q16 : Nat) (k_f4 : ClassId) (f4 : Nat → Int32) (k_f5 : ClassId) (q_f5 : Nat → Nat) (k_f6 : ClassId) (q_f6 : Nat → Nat) (k_f7 : ClassId) (f7 : Nat → Int32) (k_f8 : ClassId) (q_f8 : Nat → Nat) (k_f9 : ClassId) (q_f9 : Nat → Nat) (k_f10 : ClassId) (f10 : Nat → Int32) (k_f11 : ClassId) (f11 : Nat → Int32) (k_f12 : ClassId) (f12 : Nat → Int32) (k_f13 : ClassId) (f13 : Nat → Int32) (k_f14 : ClassId) (f14 : Nat → Int32) (k_f15 : ClassId) (f15 : Nat → Int32) (k_f16 : ClassId) (f16 : Nat → Int32) (gz : Nat) (g1 : Nat) (g2 : Nat) (g3 : Nat) (g4 : Nat) (g5 : Nat) (gc : Nat) (gfull : Nat) (gx : Int32) (gway : Int32) (gav : Int32) (ggoal : Int32) (gfound : Nat) (gl : Nat) (gsz : Nat) (g16 : Nat) (g17 : Nat) (k_fs2 : ClassId) (fs2 : Nat → Int32) (k_fs3 : ClassId) (fs3 : Nat → Int32) (k_fs4 : ClassId) (fs4 : Nat → Int32) (r0 : Nat) (ln : Nat) (r2 : Nat) (r3 : Nat) (r4 : Nat) (r5 : Nat) (nr : Nat) (r7 : Nat) (r8 : Nat) (tz : Nat) (k_j0 : ClassId) (q_j0 : Nat → Nat) (k_j2 : ClassId) (j2 : Nat → Int32) (k_j3 : ClassId) (q_j3 : Nat → Nat) (k_j4 : ClassId) (q_j4 : Nat → Nat) (k_j5 : ClassId) (j5 : Nat → Int32) (k_j7 : ClassId) (q_j7 : Nat → Nat) (k_j8 : ClassId) (j8 : Nat → Int32) (p0 : Int32) (p1 : Int32) (p2 : Int32) (htp : tp ≤ 900) (hnc : nc ≤ 3) (hne : ne ≤ 14) (hst0 : pm1 7 st0) (hgc : gc ≤ 120) (hgfull : gfull ≤ 1) (hgfound : gfound ≤ 1) (hgl : gl ≤ 1) (hgsz : gsz ≤ 4) (hln : ln ≤ 119) (hnr : nr ≤ 1920) : Met l yX8_then vs_E_8_then_0 ({ frames := 2, cells := 0, slots := 0, locals := 43 }) (va_Pc [.ref xa, .int p0, .int p1, .int p2] (pu_B (dC, dI) (xti__w xa xtape (nI tp) rd au xdr hy g 0 tg sg 0 rm ti py bu sm (nI nc) 0 (nI ne) st0 q4 q5 q6 q7 q8 q9 q10 q11 q12 q13 q14 q15 q16 k_f4 f4 k_f5 (bN 7 q_f5) k_f6 (bN 7 q_f6) k_f7 f7 k_f8 (bN 4 q_f8) k_f9 (bN 2 q_f9) k_f10 f10 k_f11 f11 k_f12 f12 k_f13 f13 k_f14 f14 k_f15 f15 k_f16 f16 gz g1 g2 g3 g4 g5 (nI gc) (nI gfull) gx gway gav ggoal (nI gfound) 120 (nI gl) (nI gsz) g16 g17 k_fs2 fs2 k_fs3 fs3 k_fs4 fs4 r0 (nI ln) r2 r3 r4 r5 (nI nr) r7 r8 tz k_j0 (bN 13 q_j0) k_j2 j2 k_j3 (bN 120 q_j3) k_j4 (bN 120 q_j4) k_j5 j5 k_j7 (bN 120 q_j7) k_j8 j8) (xti__t k_f4 k_f5 k_f6 k_f7 k_f8 k_f9 k_f10 k_f11 k_f12 k_f13 k_f14 k_f15 k_f16 k_fs2 k_fs3 k_fs4 k_j0 k_j2 k_j3 k_j4 k_j5 k_j7 k_j8) sz)) (va_Qi (fun (r : Int32) (_ : Unit) => r = sp_E_8_then_0) (fun _ _ => True) (va_A [] sz)) 0 0 (va_A [] sz) := by
  refine Met.ofW (cc := cX8_then) (maxL := 4) (ret := (some .int)) (by decide) rfl ?_
  intro p e s m args below meth c s₁ B hml hv
  obtain ⟨rfl, rfl, hP, hK, hD0⟩ := hv
  have hx := B.exec
  have hb := B.bytes
  have hr := B.returns
  have hts := atoms_spec (ws := vs_E_8_then_0) B.pre
  have hown : s.vm.findClass RX8 = some m.cls := findClass_of_methodNamed B.named
  have hlocks := B.notSynchronized
  have hD := hD0
  have hA : ∀ q : Nat, s.heap.size ≤ q → va_A [] s.heap.size q := fun _ h => Or.inr h
  have hS : va_S (va_A [] s.heap.size) s.heap s.heap [] := va_S.rf
  have hl := lv_entry ([.ref xa, .int p0, .int p1, .int p2]) (n := 4) (Nat.le_of_ble_eq_true rfl)
  rw [lg_entry_eq]
  generalize (lg_sl ([.ref xa, .int p0, .int p1, .int p2]) ++ List.replicate (4 - (lg_sl ([.ref xa, .int p0, .int p1, .int p2])).length) Slot.unset).toArray = ls at hl ⊢
  have hl : lv_has ls 4 [(0, .ref xa), (1, .int p0), (2, .int p1), (3, .int p2)] := hl
  obtain ⟨RR, hRR⟩ : ∃ x, x = sp_E_8_then_0 := ⟨_, rfl⟩
  have hsp := hRR
  refine lv_aload_n hx hb eX8_then_0 rfl (lv_at hl 0 rfl) ?_
  refine lv_iload_n hx hb eX8_then_1 rfl (lv_at hl 1 rfl) ?_
  refine lv_iload_n hx hb eX8_then_2 rfl (lv_at hl 2 rfl) ?_
  have hPc : va_P (dC, dI) vwCl (xgl__w xa xtape (nI tp) rd au xdr hy g 0 tg sg 0 rm ti py bu sm gz g1 g2 g3 g4 g5 (nI gc) (nI gfull) gx gway gav ggoal (nI gfound) 120 (nI gl) (nI gsz) g16 g17 k_fs2 fs2 k_fs3 fs3 k_fs4 fs4) _ := hP.sub [0, 15, 16, 17, 18] rfl
  have hDc := hD.sub (ws' := (xgl__w xa xtape (nI tp) rd au xdr hy g 0 tg sg 0 rm ti py bu sm gz g1 g2 g3 g4 g5 (nI gc) (nI gfull) gx gway gav ggoal (nI gfound) 120 (nI gl) (nI gsz) g16 g17 k_fs2 fs2 k_fs3 fs3 k_fs4 fs4)) [0, 15, 16, 17, 18] (by decide) rfl
  have hKc : va_K (dC, dI) vwCl (xgl__t k_fs2 k_fs3 k_fs4) s := hK.sub [13, 14, 15] rfl
  refine va_calli (va_runV (As := [.int p0, .int p1]) (rest := []) ⟨hx, hb, hml, hown, hts⟩ (c_E_8_isStep_0 l dC dI _ xa xtape tp rd au xdr hy g tg sg 0 rm ti py bu sm gz g1 g2 g3 g4 g5 gc gfull gx gway gav ggoal gfound gl gsz g16 g17 k_fs2 fs2 k_fs3 fs3 k_fs4 fs4 p0 p1 htp (Nat.le_of_ble_eq_true rfl) hgc hgfull hgfound hgl hgsz) (cwV 2 hts g_E_8_then_0_E_8_isStep_0 rfl rfl rfl (by decide +kernel) ⟨Nat.le_of_ble_eq_true rfl, Nat.le_of_ble_eq_true rfl⟩) ⟨pu_bl, va_recv hK hP (ci := 8) (q0 := 0) rfl rfl, pu_in hPc hKc hDc⟩ rfl rfl hl.1 rfl (lv_room (Nat.le_of_ble_eq_true rfl)) eX8_then_3 ⟨Nat.le_of_ble_eq_true rfl, Nat.le_of_ble_eq_true rfl⟩) hS (fun q _ h => pu_fr hS hA q h) (pu_fr hS hA) (fun r_1 u t H1 locs ht hvm hw hB hz1 hk1 hS => ?_)
  have hP := pu_keep hP hk1
  clear hk1 hz1 ht hvm
  generalize H1 = H at hP hS ⊢
  obtain rfl : r_1 = 0 := hw
  refine lv_if_eq (tgt := 25) hx hb eX8_then_6 (by decide) (fun _ => ?_) (fun z => absurd z (by decide))
  refine lv_iconst (v := (-1)) hx hb eX8_then_25 (by decide) ?_
  exact W.iret (v := (-1)) hx hb hr (fun t ht hW => ⟨⟨(-1), (), rfl, (hsp.symm.trans hRR), trivial⟩, hS.F ht⟩) hS.2.2 eX8_then_26
theorem eX8_then_9 : decode cX8_then 9 = .ok (.aload_n 0, 1) := by decide +kernel
theorem eX8_then_10 : decode cX8_then 10 = .ok (.iload_n 3, 1) := by decide +kernel
theorem eX8_then_11 : decode cX8_then 11 = .ok (.invokevirtual 187, 3) := by decide +kernel
theorem eX8_then_14 : decode cX8_then 14 = .ok (.ifCond .eq 11, 3) := by decide +kernel
theorem eX8_then_17 : decode cX8_then 17 = .ok (.aload_n 0, 1) := by decide +kernel
theorem eX8_then_18 : decode cX8_then 18 = .ok (.iload_n 1, 1) := by decide +kernel
theorem eX8_then_19 : decode cX8_then 19 = .ok (.invokevirtual 337, 3) := by decide +kernel
theorem eX8_then_22 : decode cX8_then 22 = .ok (.ifCond .ne 5, 3) := by decide +kernel
theorem eX8_then_27 : decode cX8_then 27 = .ok (.aload_n 0, 1) := by decide +kernel
theorem eX8_then_28 : decode cX8_then 28 = .ok (.getfield 62, 3) := by decide +kernel
theorem eX8_then_31 : decode cX8_then 31 = .ok (.aload_n 0, 1) := by decide +kernel
theorem eX8_then_32 : decode cX8_then 32 = .ok (.getfield 23, 3) := by decide +kernel
theorem eX8_then_35 : decode cX8_then 35 = .ok (.iload_n 2, 1) := by decide +kernel
theorem eX8_then_36 : decode cX8_then 36 = .ok (.iload_n 3, 1) := by decide +kernel
theorem eX8_then_37 : decode cX8_then 37 = .ok (.invokevirtual 343, 3) := by decide +kernel
theorem eX8_then_40 : decode cX8_then 40 = .ok (.ireturn, 1) := by decide +kernel
abbrev vs_E_8_then : List Cond := .code yX8_then cX8_then 4 (some .int) :: CM
theorem g_E_8_then_E_8_isStep : GoodIn vs_E_8_then (wsV RX8 320 RX8 yX8_isStep vs_E_8_isStep) := cm_gV cm_603 cm_604 cm_605 cm_427 cm_599
theorem g_E_8_then_E_8_isClock : GoodIn vs_E_8_then (wsV RX8 187 RX8 yX8_isClock vs_E_8_isClock) := cm_gV cm_499 cm_500 cm_501 cm_427 cm_480
theorem g_E_8_then_E_8_timesRun : GoodIn vs_E_8_then (wsV RX8 337 RX8 yX8_timesRun vs_E_8_timesRun) := cm_gV cm_618 cm_619 cm_620 cm_427 cm_609
theorem g_E_8_then_E_6_clockBehind : GoodIn vs_E_8_then (wsV RX8 343 RX6 yX6_clockBehind vs_E_6_clockBehind) := cm_gV cm_622 cm_623 cm_624 cm_383 cm_402
noncomputable def sp_E_8_then (hs : Nat) (nc : Nat) (st0 : Nat) (f4 : Nat → Int32) (q_f5 : Nat → Nat) (q_f6 : Nat → Nat) (f7 : Nat → Int32) (q_f8 : Nat → Nat) (q_f9 : Nat → Nat) (f12 : Nat → Int32) (f13 : Nat → Int32) (gc : Nat) (fs2 : Nat → Int32) (fs3 : Nat → Int32) (fs4 : Nat → Int32) (ln : Nat) (nr : Nat) (q_j0 : Nat → Nat) (j2 : Nat → Int32) (q_j3 : Nat → Nat) (q_j4 : Nat → Nat) (j5 : Nat → Int32) (q_j7 : Nat → Nat) (p0 : Int32) (p1 : Int32) (p2 : Int32) : Int32 × (Nat → Nat) × (Nat → Int32) × (Nat → Nat) × (Nat → Nat) × (Nat → Int32) × (Nat → Nat) × Nat × Nat := (if isStp hs gc fs4 p0 p1 then (slet ((p0 : Int32).toNatClampNeg) (fun n_2 => (slet ((p1 : Int32).toNatClampNeg) (fun n_3 => (if (0 : Int32) ≤ p2 ∧ p2 < nI nc then (slet ((p2 : Int32).toNatClampNeg) (fun n_5 => (slet (sp_E_8_timesRun nc st0 f4 q_f5 q_f6 f7 q_f8 q_f9 f12 f13 fs2 fs3 fs4 q_j0 j2 q_j3 q_j4 j5 q_j7 n_2) (fun (u_15, z_j0_7, z_j2_8, z_j3_9, z_j4_10, z_j5_11, z_j7_12, z_ln_13, z_nr_14) => (if u_15 = 0 then ((-1), z_j0_7, z_j2_8, z_j3_9, z_j4_10, z_j5_11, z_j7_12, z_ln_13, z_nr_14) else (slet (sp_E_6_clockBehind z_j0_7 z_j2_8 f7 n_3 n_5) (fun r_17 => (r_17, z_j0_7, z_j2_8, z_j3_9, z_j4_10, z_j5_11, z_j7_12, z_ln_13, z_nr_14)))))))) else ((-1), q_j0, j2, q_j3, q_j4, j5, q_j7, ln, nr)))))) else ((-1), q_j0, j2, q_j3, q_j4, j5, q_j7, ln, nr))
set_option maxHeartbeats 4000000 in
set_option maxRecDepth 100000 in
theorem c_E_8_then (l : Launch) (dC : Nat → ClassId) (dI : Nat → Nat → Nat) (sz : Nat) (xa : Nat) (xtape : Nat) (tp : Nat) (rd : Nat) (au : Nat) (xdr : Nat) (hy : Nat) (g : Nat) (hs : Nat) (tg : Nat) (sg : Nat) (ss : Nat) (rm : Nat) (ti : Nat) (py : Nat) (bu : Nat) (sm : Nat) (nc : Nat) (np : Nat) (ne : Nat) (st0 : Nat) (q4 : Nat) (q5 : Nat) (q6 : Nat) (q7 : Nat) (q8 : Nat) (q9 : Nat) (q10 : Nat) (q11 : Nat) (q12 : Nat) (q13 : Nat) (q14 : Nat) (q15 : Nat) (q16 : Nat) (k_f4 : ClassId) (f4 : Nat → Int32) (k_f5 : ClassId) (q_f5 : Nat → Nat) (k_f6 : ClassId) (q_f6 : Nat → Nat) (k_f7 : ClassId) (f7 : Nat → Int32) (k_f8 : ClassId) (q_f8 : Nat → Nat) (k_f9 : ClassId) (q_f9 : Nat → Nat) (k_f10 : ClassId) (f10 : Nat → Int32) (k_f11 : ClassId) (f11 : Nat → Int32) (k_f12 : ClassId) (f12 : Nat → Int32) (k_f13 : ClassId) (f13 : Nat → Int32) (k_f14 : ClassId) (f14 : Nat → Int32) (k_f15 : ClassId) (f15 : Nat → Int32) (k_f16 : ClassId) (f16 : Nat → Int32) (gz : Nat) (g1 : Nat) (g2 : Nat) (g3 : Nat) (g4 : Nat) (g5 : Nat) (gc : Nat) (gfull : Nat) (gx : Int32) (gway : Int32) (gav : Int32) (ggoal : Int32) (gfound : Nat) (gl : Nat) (gsz : Nat) (g16 : Nat) (g17 : Nat) (k_fs2 : ClassId) (fs2 : Nat → Int32) (k_fs3 : ClassId) (fs3 : Nat → Int32) (k_fs4 : ClassId) (fs4 : Nat → Int32) (r0 : Nat) (ln : Nat) (r2 : Nat) (r3 : Nat) (r4 : Nat) (r5 : Nat) (nr : Nat) (r7 : Nat) (r8 : Nat) (tz : Nat) (k_j0 : ClassId) (q_j0 : Nat → Nat) (k_j2 : ClassId) (j2 : Nat → Int32) (k_j3 : ClassId) (q_j3 : Nat → Nat) (k_j4 : ClassId) (q_j4 : Nat → Nat) (k_j5 : ClassId) (j5 : Nat → Int32) (k_j7 : ClassId) (q_j7 : Nat → Nat) (k_j8 : ClassId) (j8 : Nat → Int32) (p0 : Int32) (p1 : Int32) (p2 : Int32) (htp : tp ≤ 900) (hhs : hs ≤ 1) (hss : ss ≤ 1) (hnc : nc ≤ 3) (hnp : np ≤ 8) (hne : ne ≤ 14) (hst0 : st0 ≤ 7) (hgc : gc ≤ 120) (hgfull : gfull ≤ 1) (hgfound : gfound ≤ 1) (hgl : gl ≤ 1) (hgsz : gsz ≤ 4) (hln : ln ≤ 119) (hnr : nr ≤ 1920) (hq0 : gz_ok gc fs2 fs3 fs4) : Met l yX8_then vs_E_8_then ({ frames := 4, cells := 0, slots := 0, locals := 95 }) (va_Pc [.ref xa, .int p0, .int p1, .int p2] (pu_B (dC, dI) (xti__w xa xtape (nI tp) rd au xdr hy g (nI hs) tg sg (nI ss) rm ti py bu sm (nI nc) (nI np) (nI ne) (nI st0) q4 q5 q6 q7 q8 q9 q10 q11 q12 q13 q14 q15 q16 k_f4 f4 k_f5 (bN 7 q_f5) k_f6 (bN 7 q_f6) k_f7 f7 k_f8 (bN 4 q_f8) k_f9 (bN 2 q_f9) k_f10 f10 k_f11 f11 k_f12 f12 k_f13 f13 k_f14 f14 k_f15 f15 k_f16 f16 gz g1 g2 g3 g4 g5 (nI gc) (nI gfull) gx gway gav ggoal (nI gfound) 120 (nI gl) (nI gsz) g16 g17 k_fs2 fs2 k_fs3 fs3 k_fs4 fs4 r0 (nI ln) r2 r3 r4 r5 (nI nr) r7 r8 tz k_j0 (bN 13 q_j0) k_j2 j2 k_j3 (bN 120 q_j3) k_j4 (bN 120 q_j4) k_j5 j5 k_j7 (bN 120 q_j7) k_j8 j8) (xti__t k_f4 k_f5 k_f6 k_f7 k_f8 k_f9 k_f10 k_f11 k_f12 k_f13 k_f14 k_f15 k_f16 k_fs2 k_fs3 k_fs4 k_j0 k_j2 k_j3 k_j4 k_j5 k_j7 k_j8) sz)) (va_Qi (fun (r : Int32) (_ : Unit) => r = (sp_E_8_then hs nc st0 f4 q_f5 q_f6 f7 q_f8 q_f9 f12 f13 gc fs2 fs3 fs4 ln nr q_j0 j2 q_j3 q_j4 j5 q_j7 p0 p1 p2).1) (fun _ t => ∃ (z_j0 : Nat → Nat) (z_j2 : Nat → Int32) (z_j3 : Nat → Nat) (z_j4 : Nat → Nat) (z_j5 : Nat → Int32) (z_j7 : Nat → Nat) (z_ln : Nat) (z_nr : Nat), pu_E (dC, dI) (xti__w xa xtape (nI tp) rd au xdr hy g (nI hs) tg sg (nI ss) rm ti py bu sm (nI nc) (nI np) (nI ne) (nI st0) q4 q5 q6 q7 q8 q9 q10 q11 q12 q13 q14 q15 q16 k_f4 f4 k_f5 (bN 7 q_f5) k_f6 (bN 7 q_f6) k_f7 f7 k_f8 (bN 4 q_f8) k_f9 (bN 2 q_f9) k_f10 f10 k_f11 f11 k_f12 f12 k_f13 f13 k_f14 f14 k_f15 f15 k_f16 f16 gz g1 g2 g3 g4 g5 (nI gc) (nI gfull) gx gway gav ggoal (nI gfound) 120 (nI gl) (nI gsz) g16 g17 k_fs2 fs2 k_fs3 fs3 k_fs4 fs4 r0 (nI z_ln) r2 r3 r4 r5 (nI z_nr) r7 r8 tz k_j0 (bN 13 z_j0) k_j2 z_j2 k_j3 (bN 120 z_j3) k_j4 (bN 120 z_j4) k_j5 z_j5 k_j7 (bN 120 z_j7) k_j8 j8) (xti__t k_f4 k_f5 k_f6 k_f7 k_f8 k_f9 k_f10 k_f11 k_f12 k_f13 k_f14 k_f15 k_f16 k_fs2 k_fs3 k_fs4 k_j0 k_j2 k_j3 k_j4 k_j5 k_j7 k_j8) (va_A ((xti__w xa xtape (nI tp) rd au xdr hy g (nI hs) tg sg (nI ss) rm ti py bu sm (nI nc) (nI np) (nI ne) (nI st0) q4 q5 q6 q7 q8 q9 q10 q11 q12 q13 q14 q15 q16 k_f4 f4 k_f5 (bN 7 q_f5) k_f6 (bN 7 q_f6) k_f7 f7 k_f8 (bN 4 q_f8) k_f9 (bN 2 q_f9) k_f10 f10 k_f11 f11 k_f12 f12 k_f13 f13 k_f14 f14 k_f15 f15 k_f16 f16 gz g1 g2 g3 g4 g5 (nI gc) (nI gfull) gx gway gav ggoal (nI gfound) 120 (nI gl) (nI gsz) g16 g17 k_fs2 fs2 k_fs3 fs3 k_fs4 fs4 r0 (nI ln) r2 r3 r4 r5 (nI nr) r7 r8 tz k_j0 (bN 13 q_j0) k_j2 j2 k_j3 (bN 120 q_j3) k_j4 (bN 120 q_j4) k_j5 j5 k_j7 (bN 120 q_j7) k_j8 j8)) sz) t ∧ (z_ln ≤ 119) ∧ (z_nr ≤ 1920) ∧ ((z_j0, z_j2, z_j3, z_j4, z_j5, z_j7, z_ln, z_nr) = (sp_E_8_then hs nc st0 f4 q_f5 q_f6 f7 q_f8 q_f9 f12 f13 gc fs2 fs3 fs4 ln nr q_j0 j2 q_j3 q_j4 j5 q_j7 p0 p1 p2).2)) (va_A ((xti__w xa xtape (nI tp) rd au xdr hy g (nI hs) tg sg (nI ss) rm ti py bu sm (nI nc) (nI np) (nI ne) (nI st0) q4 q5 q6 q7 q8 q9 q10 q11 q12 q13 q14 q15 q16 k_f4 f4 k_f5 (bN 7 q_f5) k_f6 (bN 7 q_f6) k_f7 f7 k_f8 (bN 4 q_f8) k_f9 (bN 2 q_f9) k_f10 f10 k_f11 f11 k_f12 f12 k_f13 f13 k_f14 f14 k_f15 f15 k_f16 f16 gz g1 g2 g3 g4 g5 (nI gc) (nI gfull) gx gway gav ggoal (nI gfound) 120 (nI gl) (nI gsz) g16 g17 k_fs2 fs2 k_fs3 fs3 k_fs4 fs4 r0 (nI ln) r2 r3 r4 r5 (nI nr) r7 r8 tz k_j0 (bN 13 q_j0) k_j2 j2 k_j3 (bN 120 q_j3) k_j4 (bN 120 q_j4) k_j5 j5 k_j7 (bN 120 q_j7) k_j8 j8)) sz)) 0 0 (va_A ((xti__w xa xtape (nI tp) rd au xdr hy g (nI hs) tg sg (nI ss) rm ti py bu sm (nI nc) (nI np) (nI ne) (nI st0) q4 q5 q6 q7 q8 q9 q10 q11 q12 q13 q14 q15 q16 k_f4 f4 k_f5 (bN 7 q_f5) k_f6 (bN 7 q_f6) k_f7 f7 k_f8 (bN 4 q_f8) k_f9 (bN 2 q_f9) k_f10 f10 k_f11 f11 k_f12 f12 k_f13 f13 k_f14 f14 k_f15 f15 k_f16 f16 gz g1 g2 g3 g4 g5 (nI gc) (nI gfull) gx gway gav ggoal (nI gfound) 120 (nI gl) (nI gsz) g16 g17 k_fs2 fs2 k_fs3 fs3 k_fs4 fs4 r0 (nI ln) r2 r3 r4 r5 (nI nr) r7 r8 tz k_j0 (bN 13 q_j0) k_j2 j2 k_j3 (bN 120 q_j3) k_j4 (bN 120 q_j4) k_j5 j5 k_j7 (bN 120 q_j7) k_j8 j8)) sz) := by
  refine Met.ofW (cc := cX8_then) (maxL := 4) (ret := (some .int)) (by decide) rfl ?_
  intro p e s m args below meth c s₁ B hml hv
  obtain ⟨rfl, rfl, hP, hK, hD0⟩ := hv
  have hx := B.exec
  have hb := B.bytes
  have hr := B.returns
  have hts := atoms_spec (ws := vs_E_8_then) B.pre
  have v_14 := hts (.fieldLink RX8 62 "ClockReach" "timing" "LClockReach$Timing;") (List.mem_cons_of_mem _ cm_601)
  have v_15 := hts (.fieldLink RX8 23 "ClockReach" "model" "LClockReach$Automaton;") (List.mem_cons_of_mem _ cm_434)
  have hown : s.vm.findClass RX8 = some m.cls := findClass_of_methodNamed B.named
  have hlocks := B.notSynchronized
  have hiX8 : ∀ w ∈ wsX80, w ∈ vs_E_8_then := fun _ h => List.mem_cons_of_mem _ (cm_X8 h)
  have hD := hD0.self (sz := s.heap.size)
  generalize hAe : va_A ((xti__w xa xtape (nI tp) rd au xdr hy g (nI hs) tg sg (nI ss) rm ti py bu sm (nI nc) (nI np) (nI ne) (nI st0) q4 q5 q6 q7 q8 q9 q10 q11 q12 q13 q14 q15 q16 k_f4 f4 k_f5 (bN 7 q_f5) k_f6 (bN 7 q_f6) k_f7 f7 k_f8 (bN 4 q_f8) k_f9 (bN 2 q_f9) k_f10 f10 k_f11 f11 k_f12 f12 k_f13 f13 k_f14 f14 k_f15 f15 k_f16 f16 gz g1 g2 g3 g4 g5 (nI gc) (nI gfull) gx gway gav ggoal (nI gfound) 120 (nI gl) (nI gsz) g16 g17 k_fs2 fs2 k_fs3 fs3 k_fs4 fs4 r0 (nI ln) r2 r3 r4 r5 (nI nr) r7 r8 tz k_j0 (bN 13 q_j0) k_j2 j2 k_j3 (bN 120 q_j3) k_j4 (bN 120 q_j4) k_j5 j5 k_j7 (bN 120 q_j7) k_j8 j8)) s.heap.size = A at hD ⊢
  have hA : ∀ q : Nat, s.heap.size ≤ q → A q := fun q h => by rw [← hAe]; exact Or.inr h
  have hS : va_S A s.heap s.heap [] := va_S.rf
  have hl := lv_entry ([.ref xa, .int p0, .int p1, .int p2]) (n := 4) (Nat.le_of_ble_eq_true rfl)
  rw [lg_entry_eq]
  generalize (lg_sl ([.ref xa, .int p0, .int p1, .int p2]) ++ List.replicate (4 - (lg_sl ([.ref xa, .int p0, .int p1, .int p2])).length) Slot.unset).toArray = ls at hl ⊢
  have hl : lv_has ls 4 [(0, .ref xa), (1, .int p0), (2, .int p1), (3, .int p2)] := hl
  obtain ⟨RR, hRR⟩ : ∃ x, x = (sp_E_8_then hs nc st0 f4 q_f5 q_f6 f7 q_f8 q_f9 f12 f13 gc fs2 fs3 fs4 ln nr q_j0 j2 q_j3 q_j4 j5 q_j7 p0 p1 p2) := ⟨_, rfl⟩
  have hsp := hRR
  refine lv_aload_n hx hb eX8_then_0 rfl (lv_at hl 0 rfl) ?_
  refine lv_iload_n hx hb eX8_then_1 rfl (lv_at hl 1 rfl) ?_
  refine lv_iload_n hx hb eX8_then_2 rfl (lv_at hl 2 rfl) ?_
  have hPc : va_P (dC, dI) vwCl (xgl__w xa xtape (nI tp) rd au xdr hy g (nI hs) tg sg (nI ss) rm ti py bu sm gz g1 g2 g3 g4 g5 (nI gc) (nI gfull) gx gway gav ggoal (nI gfound) 120 (nI gl) (nI gsz) g16 g17 k_fs2 fs2 k_fs3 fs3 k_fs4 fs4) _ := hP.sub [0, 15, 16, 17, 18] rfl
  have hDc := hD.sub (ws' := (xgl__w xa xtape (nI tp) rd au xdr hy g (nI hs) tg sg (nI ss) rm ti py bu sm gz g1 g2 g3 g4 g5 (nI gc) (nI gfull) gx gway gav ggoal (nI gfound) 120 (nI gl) (nI gsz) g16 g17 k_fs2 fs2 k_fs3 fs3 k_fs4 fs4)) [0, 15, 16, 17, 18] (by decide) rfl
  have hKc : va_K (dC, dI) vwCl (xgl__t k_fs2 k_fs3 k_fs4) s := hK.sub [13, 14, 15] rfl
  refine va_calli (va_runV (As := [.int p0, .int p1]) (rest := []) ⟨hx, hb, hml, hown, hts⟩ (c_E_8_isStep l dC dI _ xa xtape tp rd au xdr hy g hs tg sg ss rm ti py bu sm gz g1 g2 g3 g4 g5 gc gfull gx gway gav ggoal gfound gl gsz g16 g17 k_fs2 fs2 k_fs3 fs3 k_fs4 fs4 p0 p1 htp hhs hss hgc hgfull hgfound hgl hgsz (by assumption)) (cwV 2 hts g_E_8_then_E_8_isStep rfl rfl rfl (by decide +kernel) ⟨Nat.le_of_ble_eq_true rfl, Nat.le_of_ble_eq_true rfl⟩) ⟨pu_bl, va_recv hK hP (ci := 8) (q0 := 0) rfl rfl, pu_in hPc hKc hDc⟩ rfl rfl hl.1 rfl (lv_room (Nat.le_of_ble_eq_true rfl)) eX8_then_3 ⟨Nat.le_of_ble_eq_true rfl, Nat.le_of_ble_eq_true rfl⟩) hS (fun q _ h => pu_fr hS hA q h) (pu_fr hS hA) (fun r_1 u t H1 locs ht hvm hw hB hz1 hk1 hS => ?_)
  have hP := pu_keep hP hk1
  clear hk1 hz1 ht hvm
  generalize H1 = H at hP hS ⊢
  rcases hw with ⟨rfl, n_2, n_3, hn_2, hn_3, rfl, rfl, hst⟩ | ⟨rfl, hn⟩
  · have hsp := hsp.trans (if_pos hst)
    have hsp := hsp.trans (slet_eq (nI_cl (n := n_2) (by omega)))
    have hsp := hsp.trans (slet_eq (nI_cl (n := n_3) (by omega)))
    refine lv_if_eq (tgt := 25) hx hb eX8_then_6 (by decide) (fun z => absurd z (by decide)) (fun _ => ?_)
    refine lv_aload_n hx hb eX8_then_9 rfl (lv_at hl 0 rfl) ?_
    refine lv_iload_n hx hb eX8_then_10 rfl (lv_at hl 3 rfl) ?_
    have hPc : va_P (dC, dI) vwCl (xo__w xa xtape (nI tp) rd au xdr hy g (nI hs) tg sg (nI ss) rm ti py bu sm (nI nc) (nI np) (nI ne) (nI st0) q4 q5 q6 q7 q8 q9 q10 q11 q12 q13 q14 q15 q16) _ := hP.sub [0, 1] rfl
    have hDc := hD.sub (ws' := (xo__w xa xtape (nI tp) rd au xdr hy g (nI hs) tg sg (nI ss) rm ti py bu sm (nI nc) (nI np) (nI ne) (nI st0) q4 q5 q6 q7 q8 q9 q10 q11 q12 q13 q14 q15 q16)) [0, 1] (by decide) rfl
    have hKc : va_K (dC, dI) vwCl (xo__t ) s := hK.sub [] rfl
    refine va_calli (va_runV (As := [.int p2]) (rest := []) ⟨hx, hb, hml, hown, hts⟩ (c_E_8_isClock l dC dI _ xa xtape tp rd au xdr hy g hs tg sg ss rm ti py bu sm nc np ne (nI st0) q4 q5 q6 q7 q8 q9 q10 q11 q12 q13 q14 q15 q16 p2 htp hhs hss hnc hnp hne (Or.inr ⟨st0, hst0, rfl⟩)) (cwV 1 hts g_E_8_then_E_8_isClock rfl rfl rfl (by decide +kernel) ⟨Nat.le_of_ble_eq_true rfl, Nat.le_of_ble_eq_true rfl⟩) ⟨pu_bl, va_recv hK hP (ci := 8) (q0 := 0) rfl rfl, pu_in hPc hKc hDc⟩ rfl rfl hl.1 rfl (lv_room (Nat.le_of_ble_eq_true rfl)) eX8_then_11 ⟨Nat.le_of_ble_eq_true rfl, Nat.le_of_ble_eq_true rfl⟩) hS (fun q _ h => pu_fr hS hA q h) (pu_fr hS hA) (fun r_4 u t H1 locs ht hvm hw hB hz1 hk1 hS => ?_)
    have hP := pu_keep hP hk1
    clear hk1 hz1 ht hvm
    generalize H1 = H at hP hS ⊢
    rcases hw with ⟨rfl, hw⟩ | ⟨rfl, hn⟩
    · obtain ⟨n_5, hn_5, rfl⟩ := hw
      have hsp := hsp.trans (if_pos (in_q hn_5 (by omega)))
      have hsp := hsp.trans (slet_eq (nI_cl (n := n_5) (by omega)))
      refine lv_if_eq (tgt := 25) hx hb eX8_then_14 (by decide) (fun z => absurd z (by decide)) (fun _ => ?_)
      refine lv_aload_n hx hb eX8_then_17 rfl (lv_at hl 0 rfl) ?_
      refine lv_iload_n hx hb eX8_then_18 rfl (lv_at hl 1 rfl) ?_
      have hFc := pu_free hD hS hA
      refine va_calli (va_runV (As := [.int (nI n_2)]) (rest := []) ⟨hx, hb, hml, hown, hts⟩ (c_E_8_timesRun l dC dI _ xa xtape tp rd au xdr hy g hs tg sg ss rm ti py bu sm nc np ne st0 q4 q5 q6 q7 q8 q9 q10 q11 q12 q13 q14 q15 q16 k_f4 f4 k_f5 q_f5 k_f6 q_f6 k_f7 f7 k_f8 q_f8 k_f9 q_f9 k_f10 f10 k_f11 f11 k_f12 f12 k_f13 f13 k_f14 f14 k_f15 f15 k_f16 f16 gz g1 g2 g3 g4 g5 gc gfull gx gway gav ggoal gfound gl gsz g16 g17 k_fs2 fs2 k_fs3 fs3 k_fs4 fs4 r0 ln r2 r3 r4 r5 nr r7 r8 tz k_j0 q_j0 k_j2 j2 k_j3 q_j3 k_j4 q_j4 k_j5 j5 k_j7 q_j7 k_j8 j8 n_2 htp hhs hss hnc hnp hne hst0 hgc hgfull hgfound hgl hgsz hln hnr (by omega) (by assumption) (by omega)) (cwV 1 hts g_E_8_then_E_8_timesRun rfl rfl rfl (by decide +kernel) ⟨Nat.le_of_ble_eq_true rfl, Nat.le_of_ble_eq_true rfl⟩) ⟨pu_bl, va_recv hK hP (ci := 8) (q0 := 0) rfl rfl, pu_in hP hK hD⟩ rfl rfl hl.1 rfl (lv_room (Nat.le_of_ble_eq_true rfl)) eX8_then_19 ⟨Nat.le_of_ble_eq_true rfl, Nat.le_of_ble_eq_true rfl⟩) hS (fun q _ h => hFc q h) hFc (fun r_6 u t H1 locs ht hvm hw hB hz1 hk1 hS => ?_)
      obtain ⟨z_j0_7, z_j2_8, z_j3_9, z_j4_10, z_j5_11, z_j7_12, z_ln_13, z_nr_14, ⟨hP1, -, hD1⟩, hz_ln_13, hz_nr_14, xr_6_0⟩ := hB
      rw [ht] at hP1
      have hP := hP1
      have hD := pu_all hFc hD1
      clear hP1 hD1 hFc
      clear hk1 hz1 ht hvm
      generalize H1 = H at hP hS ⊢
      obtain ⟨u_15, hu_15, rfl, iu_15⟩ := hw
      have iu_15 : (u_15, z_j0_7, z_j2_8, z_j3_9, z_j4_10, z_j5_11, z_j7_12, z_ln_13, z_nr_14) = (sp_E_8_timesRun nc st0 f4 q_f5 q_f6 f7 q_f8 q_f9 f12 f13 fs2 fs3 fs4 q_j0 j2 q_j3 q_j4 j5 q_j7 n_2) := Prod.ext iu_15 xr_6_0
      have hsp := hsp.trans (slet_eq iu_15)
      refine lv_if_ne (tgt := 27) hx hb eX8_then_22 (by decide) (fun c_16 => ?_) (fun c_16 => ?_)
      · have c_16 : ¬ u_15 = 0 := fun z => c_16 ((nI_eq (a := u_15) (b := 0) (Nat.lt_of_le_of_lt hu_15 (Nat.le_of_ble_eq_true rfl)) (Nat.le_of_ble_eq_true rfl)).mpr z)
        have hsp := hsp.trans (if_neg c_16)
        refine lv_aload_n hx hb eX8_then_27 rfl (lv_at hl 0 rfl) ?_
        refine va_get (D := (dC, dI)) (ci := 8) (v := .ref ti) (C := RX8) (T := TX8) (N := 16) hx hb hts hiX8 hown hK hP 0 rfl rfl 12 (by decide) v_14 (fun _ h9 => h9) rfl eX8_then_28 ?_
        refine lv_aload_n hx hb eX8_then_31 rfl (lv_at hl 0 rfl) ?_
        refine va_get (D := (dC, dI)) (ci := 8) (v := .ref au) (C := RX8) (T := TX8) (N := 16) hx hb hts hiX8 hown hK hP 0 rfl rfl 3 (by decide) v_15 (fun _ h9 => h9) rfl eX8_then_32 ?_
        refine lv_iload_n hx hb eX8_then_35 rfl (lv_at hl 2 rfl) ?_
        refine lv_iload_n hx hb eX8_then_36 rfl (lv_at hl 3 rfl) ?_
        have hPc : va_P (dC, dI) vwCl (ta__w ti r0 (nI z_ln_13) r2 r3 r4 r5 (nI z_nr_14) r7 r8 tz k_j0 (bN 13 z_j0_7) k_j2 z_j2_8 k_j3 (bN 120 z_j3_9) k_j4 (bN 120 z_j4_10) k_j5 z_j5_11 k_j7 (bN 120 z_j7_12) k_j8 j8 au (nI nc) (nI np) (nI ne) (nI st0) q4 q5 q6 q7 q8 q9 q10 q11 q12 q13 q14 q15 q16 k_f4 f4 k_f5 (bN 7 q_f5) k_f6 (bN 7 q_f6) k_f7 f7 k_f8 (bN 4 q_f8) k_f9 (bN 2 q_f9) k_f10 f10 k_f11 f11 k_f12 f12 k_f13 f13 k_f14 f14 k_f15 f15 k_f16 f16) _ := hP.sub [19, 20, 21, 22, 23, 24, 25, 26, 1, 2, 3, 4, 5, 6, 7, 8, 9, 10, 11, 12, 13, 14] rfl
        have hDc := hD.sub (ws' := (ta__w ti r0 (nI z_ln_13) r2 r3 r4 r5 (nI z_nr_14) r7 r8 tz k_j0 (bN 13 z_j0_7) k_j2 z_j2_8 k_j3 (bN 120 z_j3_9) k_j4 (bN 120 z_j4_10) k_j5 z_j5_11 k_j7 (bN 120 z_j7_12) k_j8 j8 au (nI nc) (nI np) (nI ne) (nI st0) q4 q5 q6 q7 q8 q9 q10 q11 q12 q13 q14 q15 q16 k_f4 f4 k_f5 (bN 7 q_f5) k_f6 (bN 7 q_f6) k_f7 f7 k_f8 (bN 4 q_f8) k_f9 (bN 2 q_f9) k_f10 f10 k_f11 f11 k_f12 f12 k_f13 f13 k_f14 f14 k_f15 f15 k_f16 f16)) [19, 20, 21, 22, 23, 24, 25, 26, 1, 2, 3, 4, 5, 6, 7, 8, 9, 10, 11, 12, 13, 14] (by decide) rfl
        have hKc : va_K (dC, dI) vwCl (ta__t k_j0 k_j2 k_j3 k_j4 k_j5 k_j7 k_j8 k_f4 k_f5 k_f6 k_f7 k_f8 k_f9 k_f10 k_f11 k_f12 k_f13 k_f14 k_f15 k_f16) s := hK.sub [16, 17, 18, 19, 20, 21, 22, 0, 1, 2, 3, 4, 5, 6, 7, 8, 9, 10, 11, 12] rfl
        refine va_calli (va_runV (As := [.ref au, .int (nI n_3), .int (nI n_5)]) (rest := []) ⟨hx, hb, hml, hown, hts⟩ (c_E_6_clockBehind l dC dI _ ti r0 z_ln_13 r2 r3 r4 r5 z_nr_14 r7 r8 tz k_j0 z_j0_7 k_j2 z_j2_8 k_j3 z_j3_9 k_j4 z_j4_10 k_j5 z_j5_11 k_j7 z_j7_12 k_j8 j8 au nc np ne (nI st0) q4 q5 q6 q7 q8 q9 q10 q11 q12 q13 q14 q15 q16 k_f4 f4 k_f5 q_f5 k_f6 q_f6 k_f7 f7 k_f8 q_f8 k_f9 q_f9 k_f10 f10 k_f11 f11 k_f12 f12 k_f13 f13 k_f14 f14 k_f15 f15 k_f16 f16 n_3 n_5 hz_ln_13 hz_nr_14 hnc hnp hne (Or.inr ⟨st0, hst0, rfl⟩) (by omega) (by omega)) (cwV 3 hts g_E_8_then_E_6_clockBehind rfl rfl rfl (by decide +kernel) ⟨Nat.le_of_ble_eq_true rfl, Nat.le_of_ble_eq_true rfl⟩) ⟨pu_bl, va_recv hK hP (ci := 6) (q0 := 19) rfl rfl, pu_in hPc hKc hDc⟩ rfl rfl hl.1 rfl (lv_room (Nat.le_of_ble_eq_true rfl)) eX8_then_37 ⟨Nat.le_of_ble_eq_true rfl, Nat.le_of_ble_eq_true rfl⟩) hS (fun q _ h => pu_fr hS hA q h) (pu_fr hS hA) (fun r_17 u t H1 locs ht hvm hw hB hz1 hk1 hS => ?_)
        have hP := pu_keep hP hk1
        clear hk1 hz1 ht hvm
        generalize H1 = H at hP hS ⊢
        have ir_17 := hw
        have hsp := hsp.trans (slet_eq ir_17)
        exact W.iret (v := r_17) hx hb hr (fun t ht hW => ⟨⟨r_17, (), rfl, (congrArg Prod.fst (hsp.symm.trans hRR)), ⟨z_j0_7, z_j2_8, z_j3_9, z_j4_10, z_j5_11, z_j7_12, z_ln_13, z_nr_14, ⟨by rw [ht]; exact hP, va_K.moved hW.alike hK, hD⟩, hz_ln_13, hz_nr_14, (congrArg Prod.snd (hsp.symm.trans hRR))⟩⟩, hS.F ht⟩) hS.2.2 eX8_then_40
      · have c_16 : u_15 = 0 := (nI_eq (a := u_15) (b := 0) (Nat.lt_of_le_of_lt hu_15 (Nat.le_of_ble_eq_true rfl)) (Nat.le_of_ble_eq_true rfl)).mp c_16
        have hsp := hsp.trans (if_pos c_16)
        refine lv_iconst (v := (-1)) hx hb eX8_then_25 (by decide) ?_
        exact W.iret (v := (-1)) hx hb hr (fun t ht hW => ⟨⟨(-1), (), rfl, (congrArg Prod.fst (hsp.symm.trans hRR)), ⟨z_j0_7, z_j2_8, z_j3_9, z_j4_10, z_j5_11, z_j7_12, z_ln_13, z_nr_14, ⟨by rw [ht]; exact hP, va_K.moved hW.alike hK, hD⟩, hz_ln_13, hz_nr_14, (congrArg Prod.snd (hsp.symm.trans hRR))⟩⟩, hS.F ht⟩) hS.2.2 eX8_then_26
    · have hsp := hsp.trans (if_neg hn)
      refine lv_if_eq (tgt := 25) hx hb eX8_then_14 (by decide) (fun _ => ?_) (fun z => absurd z (by decide))
      refine lv_iconst (v := (-1)) hx hb eX8_then_25 (by decide) ?_
      exact W.iret (v := (-1)) hx hb hr (fun t ht hW => ⟨⟨(-1), (), rfl, (congrArg Prod.fst (hsp.symm.trans hRR)), ⟨q_j0, j2, q_j3, q_j4, j5, q_j7, ln, nr, ⟨by rw [ht]; exact hP, va_K.moved hW.alike hK, hD⟩, hln, hnr, (congrArg Prod.snd (hsp.symm.trans hRR))⟩⟩, hS.F ht⟩) hS.2.2 eX8_then_26
  · have hsp := hsp.trans (if_neg hn)
    refine lv_if_eq (tgt := 25) hx hb eX8_then_6 (by decide) (fun _ => ?_) (fun z => absurd z (by decide))
    refine lv_iconst (v := (-1)) hx hb eX8_then_25 (by decide) ?_
    exact W.iret (v := (-1)) hx hb hr (fun t ht hW => ⟨⟨(-1), (), rfl, (congrArg Prod.fst (hsp.symm.trans hRR)), ⟨q_j0, j2, q_j3, q_j4, j5, q_j7, ln, nr, ⟨by rw [ht]; exact hP, va_K.moved hW.alike hK, hD⟩, hln, hnr, (congrArg Prod.snd (hsp.symm.trans hRR))⟩⟩, hS.F ht⟩) hS.2.2 eX8_then_26
theorem eX8_latest_0 : decode cX8_latest 0 = .ok (.aload_n 0, 1) := by decide +kernel
theorem eX8_latest_1 : decode cX8_latest 1 = .ok (.iload_n 1, 1) := by decide +kernel
theorem eX8_latest_2 : decode cX8_latest 2 = .ok (.iload_n 2, 1) := by decide +kernel
theorem eX8_latest_3 : decode cX8_latest 3 = .ok (.invokevirtual 320, 3) := by decide +kernel
theorem eX8_latest_6 : decode cX8_latest 6 = .ok (.ifCond .eq 14, 3) := by decide +kernel
theorem eX8_latest_20 : decode cX8_latest 20 = .ok (.iconst (-1), 1) := by decide +kernel
theorem eX8_latest_21 : decode cX8_latest 21 = .ok (.ireturn, 1) := by decide +kernel
abbrev vs_E_8_latest_0 : List Cond := .code yX8_latest cX8_latest 4 (some .int) :: CM
theorem g_E_8_latest_0_E_8_isStep_0 : GoodIn vs_E_8_latest_0 (wsV RX8 320 RX8 yX8_isStep vs_E_8_isStep_0) := cm_gV cm_603 cm_604 cm_605 cm_427 cm_599
noncomputable def sp_E_8_latest_0 : Int32 := (-1)
set_option maxHeartbeats 4000000 in
set_option maxRecDepth 100000 in
theorem c_E_8_latest_0 (l : Launch) (dC : Nat → ClassId) (dI : Nat → Nat → Nat) (sz : Nat) (xa : Nat) (xtape : Nat) (tp : Nat) (rd : Nat) (au : Nat) (xdr : Nat) (hy : Nat) (g : Nat) (tg : Nat) (sg : Nat) (rm : Nat) (ti : Nat) (py : Nat) (bu : Nat) (sm : Nat) (nc : Nat) (ne : Nat) (st0 : Int32) (q4 : Nat) (q5 : Nat) (q6 : Nat) (q7 : Nat) (q8 : Nat) (q9 : Nat) (q10 : Nat) (q11 : Nat) (q12 : Nat) (q13 : Nat) (q14 : Nat) (q15 : Nat) (q16 : Nat) (k_f4 : ClassId) (f4 : Nat → Int32) (k_f5 : ClassId) (q_f5 : Nat → Nat) (k_f6 : ClassId) (q_f6 : Nat → Nat) (k_f7 : ClassId) (f7 : Nat → Int32) (k_f8 : ClassId) (q_f8 : Nat → Nat) (k_f9 : ClassId) (q_f9 : Nat → Nat) (k_f10 : ClassId) (f10 : Nat → Int32) (k_f11 : ClassId) (f11 : Nat → Int32) (k_f12 : ClassId) (f12 : Nat → Int32) (k_f13 : ClassId) (f13 : Nat → Int32) (k_f14 : ClassId) (f14 : Nat → Int32) (k_f15 : ClassId) (f15 : Nat → Int32) (k_f16 : ClassId) (f16 : Nat → Int32) (gz : Nat) (g1 : Nat) (g2 : Nat) (g3 : Nat) (g4 : Nat) (g5 : Nat) (gc : Nat) (gfull : Nat) (gx : Int32) (gway : Int32) (gav : Int32) (ggoal : Int32) (gfound : Nat) (gl : Nat) (gsz : Nat) (g16 : Nat) (g17 : Nat) (k_fs2 : ClassId) (fs2 : Nat → Int32) (k_fs3 : ClassId) (fs3 : Nat → Int32) (k_fs4 : ClassId) (fs4 : Nat → Int32) (r0 : Nat) (ln : Nat) (r2 : Nat) (r3 : Nat) (r4 : Nat) (r5 : Nat) (nr : Nat) (r7 : Nat) (r8 : Nat) (tz : Nat) (k_j0 : ClassId) (q_j0 : Nat → Nat) (k_j2 : ClassId) (j2 : Nat → Int32) (k_j3 : ClassId) (q_j3 : Nat → Nat) (k_j4 : ClassId) (q_j4 : Nat → Nat) (k_j5 : ClassId) (j5 : Nat → Int32) (k_j7 : ClassId) (q_j7 : Nat → Nat) (k_j8 : ClassId) (j8 : Nat → Int32) (p0 : Int32) (p1 : Int32) (p2 : Int32) (htp : tp ≤ 900) (hnc : nc ≤ 3) (hne : ne ≤ 14) (hst0 : pm1 7 st0) (hgc : gc ≤ 120) (hgfull : gfull ≤ 1) (hgfound : gfound ≤ 1) (hgl : gl ≤ 1) (hgsz : gsz ≤ 4) (hln : ln ≤ 119) (hnr : nr ≤ 1920) : Met l yX8_latest vs_E_8_latest_0 ({ frames := 2, cells := 0, slots := 0, locals := 43 }) (va_Pc [.ref xa, .int p0, .int p1, .int p2] (pu_B (dC, dI) (xti__w xa xtape (nI tp) rd au xdr hy g 0 tg sg 0 rm ti py bu sm (nI nc) 0 (nI ne) st0 q4 q5 q6 q7 q8 q9 q10 q11 q12 q13 q14 q15 q16 k_f4 f4 k_f5 (bN 7 q_f5) k_f6 (bN 7 q_f6) k_f7 f7 k_f8 (bN 4 q_f8) k_f9 (bN 2 q_f9) k_f10 f10 k_f11 f11 k_f12 f12 k_f13 f13 k_f14 f14 k_f15 f15 k_f16 f16 gz g1 g2 g3 g4 g5 (nI gc) (nI gfull) gx gway gav ggoal (nI gfound) 120 (nI gl) (nI gsz) g16 g17 k_fs2 fs2 k_fs3 fs3 k_fs4 fs4 r0 (nI ln) r2 r3 r4 r5 (nI nr) r7 r8 tz k_j0 (bN 13 q_j0) k_j2 j2 k_j3 (bN 120 q_j3) k_j4 (bN 120 q_j4) k_j5 j5 k_j7 (bN 120 q_j7) k_j8 j8) (xti__t k_f4 k_f5 k_f6 k_f7 k_f8 k_f9 k_f10 k_f11 k_f12 k_f13 k_f14 k_f15 k_f16 k_fs2 k_fs3 k_fs4 k_j0 k_j2 k_j3 k_j4 k_j5 k_j7 k_j8) sz)) (va_Qi (fun (r : Int32) (_ : Unit) => r = sp_E_8_latest_0) (fun _ _ => True) (va_A [] sz)) 0 0 (va_A [] sz) := by
  refine Met.ofW (cc := cX8_latest) (maxL := 4) (ret := (some .int)) (by decide) rfl ?_
  intro p e s m args below meth c s₁ B hml hv
  obtain ⟨rfl, rfl, hP, hK, hD0⟩ := hv
  have hx := B.exec
  have hb := B.bytes
  have hr := B.returns
  have hts := atoms_spec (ws := vs_E_8_latest_0) B.pre
  have hown : s.vm.findClass RX8 = some m.cls := findClass_of_methodNamed B.named
  have hlocks := B.notSynchronized
  have hD := hD0
  have hA : ∀ q : Nat, s.heap.size ≤ q → va_A [] s.heap.size q := fun _ h => Or.inr h
  have hS : va_S (va_A [] s.heap.size) s.heap s.heap [] := va_S.rf
  have hl := lv_entry ([.ref xa, .int p0, .int p1, .int p2]) (n := 4) (Nat.le_of_ble_eq_true rfl)
  rw [lg_entry_eq]
  generalize (lg_sl ([.ref xa, .int p0, .int p1, .int p2]) ++ List.replicate (4 - (lg_sl ([.ref xa, .int p0, .int p1, .int p2])).length) Slot.unset).toArray = ls at hl ⊢
  have hl : lv_has ls 4 [(0, .ref xa), (1, .int p0), (2, .int p1), (3, .int p2)] := hl
  obtain ⟨RR, hRR⟩ : ∃ x, x = sp_E_8_latest_0 := ⟨_, rfl⟩
  have hsp := hRR
  refine lv_aload_n hx hb eX8_latest_0 rfl (lv_at hl 0 rfl) ?_
  refine lv_iload_n hx hb eX8_latest_1 rfl (lv_at hl 1 rfl) ?_
  refine lv_iload_n hx hb eX8_latest_2 rfl (lv_at hl 2 rfl) ?_
  have hPc : va_P (dC, dI) vwCl (xgl__w xa xtape (nI tp) rd au xdr hy g 0 tg sg 0 rm ti py bu sm gz g1 g2 g3 g4 g5 (nI gc) (nI gfull) gx gway gav ggoal (nI gfound) 120 (nI gl) (nI gsz) g16 g17 k_fs2 fs2 k_fs3 fs3 k_fs4 fs4) _ := hP.sub [0, 15, 16, 17, 18] rfl
  have hDc := hD.sub (ws' := (xgl__w xa xtape (nI tp) rd au xdr hy g 0 tg sg 0 rm ti py bu sm gz g1 g2 g3 g4 g5 (nI gc) (nI gfull) gx gway gav ggoal (nI gfound) 120 (nI gl) (nI gsz) g16 g17 k_fs2 fs2 k_fs3 fs3 k_fs4 fs4)) [0, 15, 16, 17, 18] (by decide) rfl
  have hKc : va_K (dC, dI) vwCl (xgl__t k_fs2 k_fs3 k_fs4) s := hK.sub [13, 14, 15] rfl
  refine va_calli (va_runV (As := [.int p0, .int p1]) (rest := []) ⟨hx, hb, hml, hown, hts⟩ (c_E_8_isStep_0 l dC dI _ xa xtape tp rd au xdr hy g tg sg 0 rm ti py bu sm gz g1 g2 g3 g4 g5 gc gfull gx gway gav ggoal gfound gl gsz g16 g17 k_fs2 fs2 k_fs3 fs3 k_fs4 fs4 p0 p1 htp (Nat.le_of_ble_eq_true rfl) hgc hgfull hgfound hgl hgsz) (cwV 2 hts g_E_8_latest_0_E_8_isStep_0 rfl rfl rfl (by decide +kernel) ⟨Nat.le_of_ble_eq_true rfl, Nat.le_of_ble_eq_true rfl⟩) ⟨pu_bl, va_recv hK hP (ci := 8) (q0 := 0) rfl rfl, pu_in hPc hKc hDc⟩ rfl rfl hl.1 rfl (lv_room (Nat.le_of_ble_eq_true rfl)) eX8_latest_3 ⟨Nat.le_of_ble_eq_true rfl, Nat.le_of_ble_eq_true rfl⟩) hS (fun q _ h => pu_fr hS hA q h) (pu_fr hS hA) (fun r_1 u t H1 locs ht hvm hw hB hz1 hk1 hS => ?_)
  have hP := pu_keep hP hk1
  clear hk1 hz1 ht hvm
  generalize H1 = H at hP hS ⊢
  obtain rfl : r_1 = 0 := hw
  refine lv_if_eq (tgt := 20) hx hb eX8_latest_6 (by decide) (fun _ => ?_) (fun z => absurd z (by decide))
  refine lv_iconst (v := (-1)) hx hb eX8_latest_20 (by decide) ?_
  exact W.iret (v := (-1)) hx hb hr (fun t ht hW => ⟨⟨(-1), (), rfl, (hsp.symm.trans hRR), trivial⟩, hS.F ht⟩) hS.2.2 eX8_latest_21
