theorem eX7_holdsTimes_0 : decode cX7_holdsTimes 0 = .ok (.iconst 0, 1) := by decide +kernel
theorem eX7_holdsTimes_1 : decode cX7_holdsTimes 1 = .ok (.istore_n 2, 1) := by decide +kernel
theorem eX7_holdsTimes_2 : decode cX7_holdsTimes 2 = .ok (.iload_n 2, 1) := by decide +kernel
theorem eX7_holdsTimes_3 : decode cX7_holdsTimes 3 = .ok (.aload_n 0, 1) := by decide +kernel
theorem eX7_holdsTimes_4 : decode cX7_holdsTimes 4 = .ok (.getfield 18, 3) := by decide +kernel
theorem eX7_holdsTimes_7 : decode cX7_holdsTimes 7 = .ok (.if_icmp .ge 68, 3) := by decide +kernel
theorem eX7_holdsTimes_10 : decode cX7_holdsTimes 10 = .ok (.iconst 0, 1) := by decide +kernel
theorem eX7_holdsTimes_11 : decode cX7_holdsTimes 11 = .ok (.istore_n 3, 1) := by decide +kernel
theorem eX7_holdsTimes_12 : decode cX7_holdsTimes 12 = .ok (.iload_n 3, 1) := by decide +kernel
theorem eX7_holdsTimes_13 : decode cX7_holdsTimes 13 = .ok (.aload_n 0, 1) := by decide +kernel
theorem eX7_holdsTimes_14 : decode cX7_holdsTimes 14 = .ok (.getfield 18, 3) := by decide +kernel
theorem eX7_holdsTimes_17 : decode cX7_holdsTimes 17 = .ok (.if_icmp .ge 52, 3) := by decide +kernel
theorem eX7_holdsTimes_20 : decode cX7_holdsTimes 20 = .ok (.aload_n 0, 1) := by decide +kernel
theorem eX7_holdsTimes_21 : decode cX7_holdsTimes 21 = .ok (.getfield 11, 3) := by decide +kernel
theorem eX7_holdsTimes_24 : decode cX7_holdsTimes 24 = .ok (.iload_n 2, 1) := by decide +kernel
theorem eX7_holdsTimes_25 : decode cX7_holdsTimes 25 = .ok (.aload_n 0, 1) := by decide +kernel
theorem eX7_holdsTimes_26 : decode cX7_holdsTimes 26 = .ok (.getfield 18, 3) := by decide +kernel
theorem eX7_holdsTimes_29 : decode cX7_holdsTimes 29 = .ok (.imul, 1) := by decide +kernel
theorem eX7_holdsTimes_30 : decode cX7_holdsTimes 30 = .ok (.iload_n 3, 1) := by decide +kernel
theorem eX7_holdsTimes_31 : decode cX7_holdsTimes 31 = .ok (.iadd, 1) := by decide +kernel
theorem eX7_holdsTimes_32 : decode cX7_holdsTimes 32 = .ok (.iaload, 1) := by decide +kernel
theorem eX7_holdsTimes_33 : decode cX7_holdsTimes 33 = .ok (.istore 4, 2) := by decide +kernel
theorem eX7_holdsTimes_35 : decode cX7_holdsTimes 35 = .ok (.iload 4, 2) := by decide +kernel
theorem eX7_holdsTimes_37 : decode cX7_holdsTimes 37 = .ok (.ldc 17, 2) := by decide +kernel
theorem eX7_holdsTimes_39 : decode cX7_holdsTimes 39 = .ok (.if_icmp .eq 24, 3) := by decide +kernel
theorem eX7_holdsTimes_42 : decode cX7_holdsTimes 42 = .ok (.aload_n 1, 1) := by decide +kernel
theorem eX7_holdsTimes_43 : decode cX7_holdsTimes 43 = .ok (.iload_n 2, 1) := by decide +kernel
theorem eX7_holdsTimes_44 : decode cX7_holdsTimes 44 = .ok (.iaload, 1) := by decide +kernel
theorem eX7_holdsTimes_45 : decode cX7_holdsTimes 45 = .ok (.i2l, 1) := by decide +kernel
theorem eX7_holdsTimes_46 : decode cX7_holdsTimes 46 = .ok (.aload_n 1, 1) := by decide +kernel
theorem eX7_holdsTimes_47 : decode cX7_holdsTimes 47 = .ok (.iload_n 3, 1) := by decide +kernel
theorem eX7_holdsTimes_48 : decode cX7_holdsTimes 48 = .ok (.iaload, 1) := by decide +kernel
theorem eX7_holdsTimes_49 : decode cX7_holdsTimes 49 = .ok (.i2l, 1) := by decide +kernel
theorem eX7_holdsTimes_50 : decode cX7_holdsTimes 50 = .ok (.lsub, 1) := by decide +kernel
theorem eX7_holdsTimes_51 : decode cX7_holdsTimes 51 = .ok (.iload 4, 2) := by decide +kernel
theorem eX7_holdsTimes_53 : decode cX7_holdsTimes 53 = .ok (.invokestatic 31, 3) := by decide +kernel
theorem eX7_holdsTimes_56 : decode cX7_holdsTimes 56 = .ok (.i2l, 1) := by decide +kernel
theorem eX7_holdsTimes_57 : decode cX7_holdsTimes 57 = .ok (.lcmp, 1) := by decide +kernel
theorem eX7_holdsTimes_58 : decode cX7_holdsTimes 58 = .ok (.ifCond .le 5, 3) := by decide +kernel
theorem eX7_holdsTimes_61 : decode cX7_holdsTimes 61 = .ok (.iconst 0, 1) := by decide +kernel
theorem eX7_holdsTimes_62 : decode cX7_holdsTimes 62 = .ok (.ireturn, 1) := by decide +kernel
theorem eX7_holdsTimes_63 : decode cX7_holdsTimes 63 = .ok (.iinc 3 1, 3) := by decide +kernel
theorem eX7_holdsTimes_66 : decode cX7_holdsTimes 66 = .ok (.goto (-54), 3) := by decide +kernel
theorem eX7_holdsTimes_69 : decode cX7_holdsTimes 69 = .ok (.iinc 2 1, 3) := by decide +kernel
theorem eX7_holdsTimes_72 : decode cX7_holdsTimes 72 = .ok (.goto (-70), 3) := by decide +kernel
theorem eX7_holdsTimes_75 : decode cX7_holdsTimes 75 = .ok (.iconst 1, 1) := by decide +kernel
theorem eX7_holdsTimes_76 : decode cX7_holdsTimes 76 = .ok (.ireturn, 1) := by decide +kernel
abbrev vs_E_7_holdsTimes : List Cond := .code yX7_holdsTimes cX7_holdsTimes 5 (some .boolean) :: CM
theorem g_E_7_holdsTimes_E_7_ticks : GoodIn vs_E_7_holdsTimes (va_wsS RX7 31 yX7_ticks vs_E_7_ticks) := cm_gS cm_414 cm_68 cm_45 cm_69
noncomputable def sp_E_7_holdsTimes_L1 (fv : Nat → Int32) (zn : Nat) (fz : Nat → Int32) (g_2 : Nat) : (Nat) → (Nat) ⊕ ((Nat) ⊕ (Nat)) := fun g_11 => (if zn ≤ g_11 then (Sum.inr (Sum.inl (g_2 + 1))) else (slet (fz ((g_2 * zn) + g_11)) (fun y_21 => (if (y_21 : Int32) = 2147483647 then (Sum.inl (g_11 + 1)) else (slet (fv g_2) (fun y_23 => (slet ((y_23 : Int32).toInt64) (fun y_24 => (slet (fv g_11) (fun y_25 => (slet ((y_25 : Int32).toInt64) (fun y_26 => (slet ((y_24 : Int64) - y_26) (fun y_27 => (slet (sp_E_7_ticks y_21) (fun r_28 => (slet ((r_28 : Int32).toInt64) (fun y_29 => (slet (lg_cmp (y_27 : Int64) y_29) (fun y_30 => (if (y_30 : Int32) ≤ 0 then (Sum.inl (g_11 + 1)) else (Sum.inr (Sum.inr 0)))))))))))))))))))))))
noncomputable def sp_E_7_holdsTimes_L2 (fv : Nat → Int32) (zn : Nat) (fz : Nat → Int32) : (Nat) → (Nat) ⊕ (Nat) := fun g_2 => (if zn ≤ g_2 then (Sum.inr 1) else (itrv (α := Nat) (β := ((Nat) ⊕ (Nat))) (Sum.inr default) (sp_E_7_holdsTimes_L1 fv zn fz g_2) 0))
noncomputable def sp_E_7_holdsTimes (fv : Nat → Int32) (zn : Nat) (fz : Nat → Int32) : Nat := (itrv (α := Nat) (β := (Nat)) default (sp_E_7_holdsTimes_L2 fv zn fz) 0)
set_option maxHeartbeats 4000000 in
set_option maxRecDepth 100000 in
theorem c_E_7_holdsTimes (l : Launch) (dC : Nat → ClassId) (dI : Nat → Nat → Nat) (sz : Nat) (vz : Nat) (k_fv : ClassId) (fv : Nat → Int32) (z : Nat) (zc : Nat) (zn : Nat) (k_fz : ClassId) (fz : Nat → Int32) (hzn : zn ≤ 4) : Met l yX7_holdsTimes vs_E_7_holdsTimes ({ frames := 1, cells := 0, slots := 0, locals := 20 }) (va_Pc [.ref z, .ref vz] (pu_B (dC, dI) (zs16__w vz k_fv fv z zc (nI zn) k_fz fz) (zs16__t k_fv k_fz) sz)) (va_Qi (fun (r : Int32) (_ : Unit) => ∃ v : Nat, v ≤ 1 ∧ r = nI v ∧ v = (sp_E_7_holdsTimes fv zn fz)) (fun _ _ => True) (va_A [] sz)) 0 0 (va_A [] sz) := by
  refine Met.ofW (cc := cX7_holdsTimes) (maxL := 5) (ret := (some .boolean)) (by decide) rfl ?_
  intro p e s m args below meth c s₁ B hml hv
  obtain ⟨rfl, rfl, hP, hK, hD0⟩ := hv
  have hx := B.exec
  have hb := B.bytes
  have hr := B.returns
  have hts := atoms_spec (ws := vs_E_7_holdsTimes) B.pre
  have v_1 := hts (.fieldLink RX7 18 "ClockReach$Zone" "size" "I") (List.mem_cons_of_mem _ cm_48)
  have v_2 := hts (.fieldLink RX7 11 "ClockReach$Zone" "cells" "[I") (List.mem_cons_of_mem _ cm_47)
  have v_3 := hts (.constant RX7 17 (2147483647)) (List.mem_cons_of_mem _ cm_49)
  have hown : s.vm.findClass RX7 = some m.cls := findClass_of_methodNamed B.named
  have hlocks := B.notSynchronized
  have hiX7 : ∀ w ∈ wsX70, w ∈ vs_E_7_holdsTimes := fun _ h => List.mem_cons_of_mem _ (cm_X7 h)
  have hD := hD0
  have hA : ∀ q : Nat, s.heap.size ≤ q → va_A [] s.heap.size q := fun _ h => Or.inr h
  have hS : va_S (va_A [] s.heap.size) s.heap s.heap [] := va_S.rf
  have hl := lv_entry ([.ref z, .ref vz]) (n := 5) (Nat.le_of_ble_eq_true rfl)
  rw [lg_entry_eq]
  generalize (lg_sl ([.ref z, .ref vz]) ++ List.replicate (5 - (lg_sl ([.ref z, .ref vz])).length) Slot.unset).toArray = ls at hl ⊢
  have hl : lv_has ls 5 [(0, .ref z), (1, .ref vz)] := hl
  have hzz := zz4 hzn
  obtain ⟨RR, hRR⟩ : ∃ x, x = (sp_E_7_holdsTimes fv zn fz) := ⟨_, rfl⟩
  have hsp := hRR
  refine lv_iconst (v := 0) hx hb eX7_holdsTimes_0 (by decide) ?_
  refine lv_istore_n (lv' := [(2, .int 0), (0, .ref z), (1, .ref vz)]) hx hb eX7_holdsTimes_1 rfl hl (by decide) rfl (fun ls hl => ?_)
  obtain ⟨lf_4, dlf_4, hlf_4, hsp⟩ := itr_ex hsp
  delta sp_E_7_holdsTimes_L2 at hlf_4
  refine pu_while (fun nn H locs ls => ∃ (g_2 : Nat), nn = 4 - g_2 ∧ g_2 ≤ 4 ∧ RR = itrv dlf_4 lf_4 g_2 ∧ va_P (dC, dI) vwCl (zs16__w vz k_fv fv z zc (nI zn) k_fz fz) H ∧ va_D (fun _ => True) (zs16__w vz k_fv fv z zc (nI zn) k_fz fz) ∧ va_S (va_A [] s.heap.size) s.heap H locs ∧ lv_has ls 5 [(0, .ref z), (1, .ref vz), (2, .int (nI g_2))]) 2 ?_ _ _ _ _ ⟨0, rfl, (Nat.le_of_ble_eq_true rfl), hsp, hP, hD, hS, lv_sub hl [1, 2, 0] rfl⟩
  rintro nn ih_3 H locs ls ⟨g_2, rfl, hg_2, he_6, hP, hD, hS, hl⟩
  obtain ⟨S_5, hsp, hin_7, hout_8⟩ := itr_step hlf_4 he_6
  refine lv_iload_n hx hb eX7_holdsTimes_2 rfl (lv_at hl 2 rfl) ?_
  refine lv_aload_n hx hb eX7_holdsTimes_3 rfl (lv_at hl 0 rfl) ?_
  refine va_get (D := (dC, dI)) (ci := 7) (v := .int (nI zn)) (C := RX7) (T := TX7) (N := 2) hx hb hts hiX7 hown hK hP 1 rfl rfl 1 (by decide) v_1 (fun _ h9 => h9) rfl eX7_holdsTimes_4 ?_
  refine lv_icmp_ge (tgt := 75) hx hb eX7_holdsTimes_7 (by decide) (fun c_9 => ?_) (fun c_9 => ?_)
  · have c_9 : zn ≤ g_2 := (nI_leI (a := zn) (b := g_2) (Nat.lt_of_le_of_lt hzn (Nat.le_of_ble_eq_true rfl)) (Nat.lt_of_le_of_lt hg_2 (Nat.le_of_ble_eq_true rfl))).mp c_9
    have hsp := hsp.trans (if_pos c_9)
    have hsp := hout_8 _ hsp
    refine lv_iconst (v := 1) hx hb eX7_holdsTimes_75 (by decide) ?_
    exact W.zret (v := 1) (ty := .boolean) hx hb hr (rfl) (fun t ht hW => ⟨⟨1, (), rfl, ⟨1, (Nat.le_of_ble_eq_true rfl), rfl, (hsp.symm.trans hRR)⟩, trivial⟩, hS.F ht⟩) hS.2.2 eX7_holdsTimes_76
  · have c_9 : ¬ zn ≤ g_2 := fun z => c_9 ((nI_leI (a := zn) (b := g_2) (Nat.lt_of_le_of_lt hzn (Nat.le_of_ble_eq_true rfl)) (Nat.lt_of_le_of_lt hg_2 (Nat.le_of_ble_eq_true rfl))).mpr z)
    have hsp := hsp.trans (if_neg c_9)
    refine lv_iconst (v := 0) hx hb eX7_holdsTimes_10 (by decide) ?_
    refine lv_istore_n (lv' := [(3, .int 0), (0, .ref z), (1, .ref vz), (2, .int (nI g_2))]) hx hb eX7_holdsTimes_11 rfl hl (by decide) rfl (fun ls hl => ?_)
    obtain ⟨lf_13, dlf_13, hlf_13, hsp⟩ := itr_ex hsp
    delta sp_E_7_holdsTimes_L1 at hlf_13
    refine pu_while (fun nn H locs ls => ∃ (g_11 : Nat), nn = 4 - g_11 ∧ g_11 ≤ 4 ∧ S_5 = itrv dlf_13 lf_13 g_11 ∧ va_P (dC, dI) vwCl (zs16__w vz k_fv fv z zc (nI zn) k_fz fz) H ∧ va_D (fun _ => True) (zs16__w vz k_fv fv z zc (nI zn) k_fz fz) ∧ va_S (va_A [] s.heap.size) s.heap H locs ∧ lv_has ls 5 [(0, .ref z), (1, .ref vz), (2, .int (nI g_2)), (3, .int (nI g_11))]) 12 ?_ _ _ _ _ ⟨0, rfl, (Nat.le_of_ble_eq_true rfl), hsp, hP, hD, hS, lv_sub hl [1, 2, 3, 0] rfl⟩
    rintro nn ih_12 H locs ls ⟨g_11, rfl, hg_11, he_15, hP, hD, hS, hl⟩
    obtain ⟨S_14, hsp, hin_16, hout_17⟩ := itr_step hlf_13 he_15
    refine lv_iload_n hx hb eX7_holdsTimes_12 rfl (lv_at hl 3 rfl) ?_
    refine lv_aload_n hx hb eX7_holdsTimes_13 rfl (lv_at hl 0 rfl) ?_
    refine va_get (D := (dC, dI)) (ci := 7) (v := .int (nI zn)) (C := RX7) (T := TX7) (N := 2) hx hb hts hiX7 hown hK hP 1 rfl rfl 1 (by decide) v_1 (fun _ h9 => h9) rfl eX7_holdsTimes_14 ?_
    refine lv_icmp_ge (tgt := 69) hx hb eX7_holdsTimes_17 (by decide) (fun c_18 => ?_) (fun c_18 => ?_)
    · have c_18 : zn ≤ g_11 := (nI_leI (a := zn) (b := g_11) (Nat.lt_of_le_of_lt hzn (Nat.le_of_ble_eq_true rfl)) (Nat.lt_of_le_of_lt hg_11 (Nat.le_of_ble_eq_true rfl))).mp c_18
      have hsp := hsp.trans (if_pos c_18)
      have hsp := hout_17 _ hsp
      refine lv_iinc (v := (nI (g_2 + 1))) (lv' := [(2, .int (nI (g_2 + 1))), (0, .ref z), (1, .ref vz), (3, .int (nI g_11))]) hx hb eX7_holdsTimes_69 hl (k := 2) rfl (nI_1 _) (by decide) rfl (fun ls hl => ?_)
      refine lv_goto (tgt := 2) hx hb eX7_holdsTimes_72 (by decide) ?_
      exact ih_3 (4 - (g_2 + 1)) (by omega) _ _ _ ⟨(g_2 + 1), rfl, (by omega), hin_7 _ hsp, hP, hD, hS, lv_sub hl [1, 2, 0] rfl⟩
    · have c_18 : ¬ zn ≤ g_11 := fun z => c_18 ((nI_leI (a := zn) (b := g_11) (Nat.lt_of_le_of_lt hzn (Nat.le_of_ble_eq_true rfl)) (Nat.lt_of_le_of_lt hg_11 (Nat.le_of_ble_eq_true rfl))).mpr z)
      have hsp := hsp.trans (if_neg c_18)
      refine lv_aload_n hx hb eX7_holdsTimes_20 rfl (lv_at hl 0 rfl) ?_
      refine va_get (D := (dC, dI)) (ci := 7) (v := .ref zc) (C := RX7) (T := TX7) (N := 2) hx hb hts hiX7 hown hK hP 1 rfl rfl 0 (by decide) v_2 (fun _ h9 => h9) rfl eX7_holdsTimes_21 ?_
      refine lv_iload_n hx hb eX7_holdsTimes_24 rfl (lv_at hl 2 rfl) ?_
      refine lv_aload_n hx hb eX7_holdsTimes_25 rfl (lv_at hl 0 rfl) ?_
      refine va_get (D := (dC, dI)) (ci := 7) (v := .int (nI zn)) (C := RX7) (T := TX7) (N := 2) hx hb hts hiX7 hown hK hP 1 rfl rfl 1 (by decide) v_1 (fun _ h9 => h9) rfl eX7_holdsTimes_26 ?_
      refine lv_imul hx hb eX7_holdsTimes_29 ?_
      refine lv_topi (fun y_19 ey_19 => ?_)
      obtain rfl : y_19 = (nI (g_2 * zn)) := ey_19.trans (pk_mul g_2 zn)
      refine lv_iload_n hx hb eX7_holdsTimes_30 rfl (lv_at hl 3 rfl) ?_
      refine lv_iadd hx hb eX7_holdsTimes_31 ?_
      refine lv_topi (fun y_20 ey_20 => ?_)
      obtain rfl : y_20 = (nI ((g_2 * zn) + g_11)) := ey_20.trans (nI_add (g_2 * zn) g_11)
      refine va_iald hx hb hK hP 2 1 rfl rfl (vp_in_nI (n := ((g_2 * zn) + g_11)) (by first | exact zx16 (by omega) (by omega) (by omega) | exact zy16 (by omega) (by omega) | omega) (Nat.le_of_ble_eq_true rfl)) eX7_holdsTimes_32 ?_
      refine lv_topi (fun y_21 ey_21 => ?_)
      have ey_21 : y_21 = fz ((g_2 * zn) + g_11) := ey_21.trans (congrArg fz (nI_clamp (n := ((g_2 * zn) + g_11)) (by first | omega | exact Nat.lt_trans (zx16 (by omega) (by omega) (by omega)) (Nat.le_of_ble_eq_true rfl) | exact Nat.lt_trans (zy16 (by omega) (by omega)) (Nat.le_of_ble_eq_true rfl) | exact Nat.lt_trans (zx25 (by omega) (by omega) (by omega)) (Nat.le_of_ble_eq_true rfl) | exact Nat.lt_trans (zy25 (by omega) (by omega)) (Nat.le_of_ble_eq_true rfl))))
      have hsp := hsp.trans (slet_eq ey_21)
      refine lv_istore (lv' := [(4, .int y_21), (0, .ref z), (1, .ref vz), (2, .int (nI g_2)), (3, .int (nI g_11))]) hx hb eX7_holdsTimes_33 hl (by decide) rfl (fun ls hl => ?_)
      refine lv_iload hx hb eX7_holdsTimes_35 (lv_at hl 0 rfl) ?_
      refine lv_ldc hx hb hown v_3 eX7_holdsTimes_37 ?_
      refine lv_icmp_eq (tgt := 63) hx hb eX7_holdsTimes_39 (by decide) (fun c_22 => ?_) (fun c_22 => ?_)
      · have hcc_22 := c_22
        have hsp := hsp.trans (if_pos c_22)
        refine lv_iinc (v := (nI (g_11 + 1))) (lv' := [(3, .int (nI (g_11 + 1))), (4, .int y_21), (0, .ref z), (1, .ref vz), (2, .int (nI g_2))]) hx hb eX7_holdsTimes_63 hl (k := 4) rfl (nI_1 _) (by decide) rfl (fun ls hl => ?_)
        refine lv_goto (tgt := 12) hx hb eX7_holdsTimes_66 (by decide) ?_
        exact ih_12 (4 - (g_11 + 1)) (by omega) _ _ _ ⟨(g_11 + 1), rfl, (by omega), hin_16 _ hsp, hP, hD, hS, lv_sub hl [2, 3, 4, 0] rfl⟩
      · have hcc_22 := c_22
        have hsp := hsp.trans (if_neg c_22)
        refine lv_aload_n hx hb eX7_holdsTimes_42 rfl (lv_at hl 2 rfl) ?_
        refine lv_iload_n hx hb eX7_holdsTimes_43 rfl (lv_at hl 3 rfl) ?_
        refine va_iald hx hb hK hP 0 0 rfl rfl (vp_in_nI (n := g_2) (by omega) (Nat.le_of_ble_eq_true rfl)) eX7_holdsTimes_44 ?_
        refine lv_topi (fun y_23 ey_23 => ?_)
        have ey_23 : y_23 = fv g_2 := ey_23.trans (congrArg fv (nI_clamp (n := g_2) (Nat.lt_of_le_of_lt hg_2 (Nat.le_of_ble_eq_true rfl))))
        have hsp := hsp.trans (slet_eq ey_23)
        refine lv_i2l (v := y_23.toInt64) hx hb eX7_holdsTimes_45 rfl ?_
        refine lv_topl (fun y_24 ey_24 => ?_)
        have hsp := hsp.trans (slet_eq ey_24)
        refine lv_aload_n hx hb eX7_holdsTimes_46 rfl (lv_at hl 2 rfl) ?_
        refine lv_iload_n hx hb eX7_holdsTimes_47 rfl (lv_at hl 4 rfl) ?_
        refine va_iald hx hb hK hP 0 0 rfl rfl (vp_in_nI (n := g_11) (by omega) (Nat.le_of_ble_eq_true rfl)) eX7_holdsTimes_48 ?_
        refine lv_topi (fun y_25 ey_25 => ?_)
        have ey_25 : y_25 = fv g_11 := ey_25.trans (congrArg fv (nI_clamp (n := g_11) (Nat.lt_of_le_of_lt hg_11 (Nat.le_of_ble_eq_true rfl))))
        have hsp := hsp.trans (slet_eq ey_25)
        refine lv_i2l (v := y_25.toInt64) hx hb eX7_holdsTimes_49 rfl ?_
        refine lv_topl (fun y_26 ey_26 => ?_)
        have hsp := hsp.trans (slet_eq ey_26)
        refine lv_lsub hx hb eX7_holdsTimes_50 ?_
        refine lv_topl (fun y_27 ey_27 => ?_)
        have hsp := hsp.trans (slet_eq ey_27)
        refine lv_iload hx hb eX7_holdsTimes_51 (lv_at hl 0 rfl) ?_
        refine va_calli (va_runS (As := [.int y_21]) (rest := [.long y_27]) ⟨hx, hb, hml, hown, hts⟩ (c_E_7_ticks l dC dI _ y_21) (va_cwS 1 hts g_E_7_holdsTimes_E_7_ticks rfl rfl rfl (by decide +kernel) ⟨Nat.le_of_ble_eq_true rfl, Nat.le_of_ble_eq_true rfl⟩) ⟨pu_bl, pu_in (hP.sub [] rfl) (hK.sub [] rfl) (hD.sub [] (by decide) rfl)⟩ rfl rfl hl.1 rfl (lv_room (Nat.le_of_ble_eq_true rfl)) eX7_holdsTimes_53 ⟨Nat.le_of_ble_eq_true rfl, Nat.le_of_ble_eq_true rfl⟩) hS (fun q _ h => pu_fr hS hA q h) (pu_fr hS hA) (fun r_28 u t H1 locs ht hvm hw hB hz1 hk1 hS => ?_)
        have hP := pu_keep hP hk1
        clear hk1 hz1 ht hvm
        generalize H1 = H at hP hS ⊢
        have ir_28 := hw
        have hsp := hsp.trans (slet_eq ir_28)
        refine lv_i2l (v := r_28.toInt64) hx hb eX7_holdsTimes_56 rfl ?_
        refine lv_topl (fun y_29 ey_29 => ?_)
        have hsp := hsp.trans (slet_eq ey_29)
        refine W.lcmp hx hb eX7_holdsTimes_57 ?_
        refine lv_topi (fun y_30 ey_30 => ?_)
        have hsp := hsp.trans (slet_eq ey_30)
        refine lv_if_le (tgt := 63) hx hb eX7_holdsTimes_58 (by decide) (fun c_31 => ?_) (fun c_31 => ?_)
        · have hcc_31 := c_31
          have hsp := hsp.trans (if_pos c_31)
          refine lv_iinc (v := (nI (g_11 + 1))) (lv' := [(3, .int (nI (g_11 + 1))), (4, .int y_21), (0, .ref z), (1, .ref vz), (2, .int (nI g_2))]) hx hb eX7_holdsTimes_63 hl (k := 4) rfl (nI_1 _) (by decide) rfl (fun ls hl => ?_)
          refine lv_goto (tgt := 12) hx hb eX7_holdsTimes_66 (by decide) ?_
          exact ih_12 (4 - (g_11 + 1)) (by omega) _ _ _ ⟨(g_11 + 1), rfl, (by omega), hin_16 _ hsp, hP, hD, hS, lv_sub hl [2, 3, 4, 0] rfl⟩
        · have hcc_31 := c_31
          have hsp := hsp.trans (if_neg c_31)
          have hsp := hout_17 _ hsp
          have hsp := hout_8 _ hsp
          refine lv_iconst (v := 0) hx hb eX7_holdsTimes_61 (by decide) ?_
          exact W.zret (v := 0) (ty := .boolean) hx hb hr (rfl) (fun t ht hW => ⟨⟨0, (), rfl, ⟨0, (Nat.le_of_ble_eq_true rfl), rfl, (hsp.symm.trans hRR)⟩, trivial⟩, hS.F ht⟩) hS.2.2 eX7_holdsTimes_62
