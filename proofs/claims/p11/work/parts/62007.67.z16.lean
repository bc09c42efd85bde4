theorem eX7_cellOf_0 : decode cX7_cellOf 0 = .ok (.aload_n 0, 1) := by decide +kernel
theorem eX7_cellOf_1 : decode cX7_cellOf 1 = .ok (.getfield 11, 3) := by decide +kernel
theorem eX7_cellOf_4 : decode cX7_cellOf 4 = .ok (.iload_n 1, 1) := by decide +kernel
theorem eX7_cellOf_5 : decode cX7_cellOf 5 = .ok (.aload_n 0, 1) := by decide +kernel
theorem eX7_cellOf_6 : decode cX7_cellOf 6 = .ok (.getfield 18, 3) := by decide +kernel
theorem eX7_cellOf_9 : decode cX7_cellOf 9 = .ok (.imul, 1) := by decide +kernel
theorem eX7_cellOf_10 : decode cX7_cellOf 10 = .ok (.iload_n 2, 1) := by decide +kernel
theorem eX7_cellOf_11 : decode cX7_cellOf 11 = .ok (.iadd, 1) := by decide +kernel
theorem eX7_cellOf_12 : decode cX7_cellOf 12 = .ok (.iaload, 1) := by decide +kernel
theorem eX7_cellOf_13 : decode cX7_cellOf 13 = .ok (.ireturn, 1) := by decide +kernel
abbrev vs_E_7_cellOf_16 : List Cond := .code yX7_cellOf cX7_cellOf 3 (some .int) :: CM
noncomputable def sp_E_7_cellOf_16 (zn : Nat) (fz : Nat → Int32) (a0 : Nat) (a1 : Nat) : Int32 := (slet (fz ((a0 * zn) + a1)) (fun y_3 => y_3))
set_option maxHeartbeats 4000000 in
set_option maxRecDepth 100000 in
theorem c_E_7_cellOf_16 (l : Launch) (dC : Nat → ClassId) (dI : Nat → Nat → Nat) (sz : Nat) (z : Nat) (zc : Nat) (zn : Nat) (k_fz : ClassId) (fz : Nat → Int32) (a0 : Nat) (a1 : Nat) (hzn : zn ≤ 4) (ha0 : a0 ≤ 3) (ha1 : a1 ≤ 3) : Met l yX7_cellOf vs_E_7_cellOf_16 ({ frames := 0, cells := 0, slots := 0, locals := 0 }) (va_Pc [.ref z, .int (nI a0), .int (nI a1)] (pu_B (dC, dI) (z16__w z zc (nI zn) k_fz fz) (z16__t k_fz) sz)) (va_Qi (fun (r : Int32) (_ : Unit) => r = (sp_E_7_cellOf_16 zn fz a0 a1)) (fun _ _ => True) (va_A [] sz)) 0 0 (va_A [] sz) := by
  refine Met.ofW (cc := cX7_cellOf) (maxL := 3) (ret := (some .int)) (by decide) rfl ?_
  intro p e s m args below meth c s₁ B hml hv
  obtain ⟨rfl, rfl, hP, hK, hD0⟩ := hv
  have hx := B.exec
  have hb := B.bytes
  have hr := B.returns
  have hts := atoms_spec (ws := vs_E_7_cellOf_16) B.pre
  have v_1 := hts (.fieldLink RX7 11 "ClockReach$Zone" "cells" "[I") (List.mem_cons_of_mem _ cm_47)
  have v_2 := hts (.fieldLink RX7 18 "ClockReach$Zone" "size" "I") (List.mem_cons_of_mem _ cm_48)
  have hown : s.vm.findClass RX7 = some m.cls := findClass_of_methodNamed B.named
  have hlocks := B.notSynchronized
  have hiX7 : ∀ w ∈ wsX70, w ∈ vs_E_7_cellOf_16 := fun _ h => List.mem_cons_of_mem _ (cm_X7 h)
  have hD := hD0
  have hA : ∀ q : Nat, s.heap.size ≤ q → va_A [] s.heap.size q := fun _ h => Or.inr h
  have hS : va_S (va_A [] s.heap.size) s.heap s.heap [] := va_S.rf
  have hl := lv_entry ([.ref z, .int (nI a0), .int (nI a1)]) (n := 3) (Nat.le_of_ble_eq_true rfl)
  rw [lg_entry_eq]
  generalize (lg_sl ([.ref z, .int (nI a0), .int (nI a1)]) ++ List.replicate (3 - (lg_sl ([.ref z, .int (nI a0), .int (nI a1)])).length) Slot.unset).toArray = ls at hl ⊢
  have hl : lv_has ls 3 [(0, .ref z), (1, .int (nI a0)), (2, .int (nI a1))] := hl
  have hzz := zz4 hzn
  obtain ⟨RR, hRR⟩ : ∃ x, x = (sp_E_7_cellOf_16 zn fz a0 a1) := ⟨_, rfl⟩
  have hsp := hRR
  refine lv_aload_n hx hb eX7_cellOf_0 rfl (lv_at hl 0 rfl) ?_
  refine va_get (D := (dC, dI)) (ci := 7) (v := .ref zc) (C := RX7) (T := TX7) (N := 2) hx hb hts hiX7 hown hK hP 0 rfl rfl 0 (by decide) v_1 (fun _ h9 => h9) rfl eX7_cellOf_1 ?_
  refine lv_iload_n hx hb eX7_cellOf_4 rfl (lv_at hl 1 rfl) ?_
  refine lv_aload_n hx hb eX7_cellOf_5 rfl (lv_at hl 0 rfl) ?_
  refine va_get (D := (dC, dI)) (ci := 7) (v := .int (nI zn)) (C := RX7) (T := TX7) (N := 2) hx hb hts hiX7 hown hK hP 0 rfl rfl 1 (by decide) v_2 (fun _ h9 => h9) rfl eX7_cellOf_6 ?_
  refine lv_imul hx hb eX7_cellOf_9 ?_
  refine lv_topi (fun y_1 ey_1 => ?_)
  obtain rfl : y_1 = (nI (a0 * zn)) := ey_1.trans (pk_mul a0 zn)
  refine lv_iload_n hx hb eX7_cellOf_10 rfl (lv_at hl 2 rfl) ?_
  refine lv_iadd hx hb eX7_cellOf_11 ?_
  refine lv_topi (fun y_2 ey_2 => ?_)
  obtain rfl : y_2 = (nI ((a0 * zn) + a1)) := ey_2.trans (nI_add (a0 * zn) a1)
  refine va_iald hx hb hK hP 1 0 rfl rfl (vp_in_nI (n := ((a0 * zn) + a1)) (by first | exact zx16 (by omega) (by omega) (by omega) | exact zy16 (by omega) (by omega) | omega) (Nat.le_of_ble_eq_true rfl)) eX7_cellOf_12 ?_
  refine lv_topi (fun y_3 ey_3 => ?_)
  have ey_3 : y_3 = fz ((a0 * zn) + a1) := ey_3.trans (congrArg fz (nI_clamp (n := ((a0 * zn) + a1)) (by first | omega | exact Nat.lt_trans (zx16 (by omega) (by omega) (by omega)) (Nat.le_of_ble_eq_true rfl) | exact Nat.lt_trans (zy16 (by omega) (by omega)) (Nat.le_of_ble_eq_true rfl) | exact Nat.lt_trans (zx25 (by omega) (by omega) (by omega)) (Nat.le_of_ble_eq_true rfl) | exact Nat.lt_trans (zy25 (by omega) (by omega)) (Nat.le_of_ble_eq_true rfl))))
  have hsp := hsp.trans (slet_eq ey_3)
  exact W.iret (v := y_3) hx hb hr (fun t ht hW => ⟨⟨y_3, (), rfl, (hsp.symm.trans hRR), trivial⟩, hS.F ht⟩) hS.2.2 eX7_cellOf_13
theorem eX7_setPoint_0 : decode cX7_setPoint 0 = .ok (.aload_n 0, 1) := by decide +kernel
theorem eX7_setPoint_1 : decode cX7_setPoint 1 = .ok (.iload_n 1, 1) := by decide +kernel
theorem eX7_setPoint_2 : decode cX7_setPoint 2 = .ok (.putfield 18, 3) := by decide +kernel
theorem eX7_setPoint_5 : decode cX7_setPoint 5 = .ok (.iconst 0, 1) := by decide +kernel
theorem eX7_setPoint_6 : decode cX7_setPoint 6 = .ok (.istore_n 3, 1) := by decide +kernel
theorem eX7_setPoint_7 : decode cX7_setPoint 7 = .ok (.iload_n 3, 1) := by decide +kernel
theorem eX7_setPoint_8 : decode cX7_setPoint 8 = .ok (.aload_n 0, 1) := by decide +kernel
theorem eX7_setPoint_9 : decode cX7_setPoint 9 = .ok (.getfield 18, 3) := by decide +kernel
theorem eX7_setPoint_12 : decode cX7_setPoint 12 = .ok (.if_icmp .ge 53, 3) := by decide +kernel
theorem eX7_setPoint_15 : decode cX7_setPoint 15 = .ok (.iconst 0, 1) := by decide +kernel
theorem eX7_setPoint_16 : decode cX7_setPoint 16 = .ok (.istore 4, 2) := by decide +kernel
theorem eX7_setPoint_18 : decode cX7_setPoint 18 = .ok (.iload 4, 2) := by decide +kernel
theorem eX7_setPoint_20 : decode cX7_setPoint 20 = .ok (.aload_n 0, 1) := by decide +kernel
theorem eX7_setPoint_21 : decode cX7_setPoint 21 = .ok (.getfield 18, 3) := by decide +kernel
theorem eX7_setPoint_24 : decode cX7_setPoint 24 = .ok (.if_icmp .ge 35, 3) := by decide +kernel
theorem eX7_setPoint_27 : decode cX7_setPoint 27 = .ok (.aload_n 0, 1) := by decide +kernel
theorem eX7_setPoint_28 : decode cX7_setPoint 28 = .ok (.getfield 11, 3) := by decide +kernel
theorem eX7_setPoint_31 : decode cX7_setPoint 31 = .ok (.iload_n 3, 1) := by decide +kernel
theorem eX7_setPoint_32 : decode cX7_setPoint 32 = .ok (.aload_n 0, 1) := by decide +kernel
theorem eX7_setPoint_33 : decode cX7_setPoint 33 = .ok (.getfield 18, 3) := by decide +kernel
theorem eX7_setPoint_36 : decode cX7_setPoint 36 = .ok (.imul, 1) := by decide +kernel
theorem eX7_setPoint_37 : decode cX7_setPoint 37 = .ok (.iload 4, 2) := by decide +kernel
theorem eX7_setPoint_39 : decode cX7_setPoint 39 = .ok (.iadd, 1) := by decide +kernel
theorem eX7_setPoint_40 : decode cX7_setPoint 40 = .ok (.iconst 2, 1) := by decide +kernel
theorem eX7_setPoint_41 : decode cX7_setPoint 41 = .ok (.aload_n 2, 1) := by decide +kernel
theorem eX7_setPoint_42 : decode cX7_setPoint 42 = .ok (.iload_n 3, 1) := by decide +kernel
theorem eX7_setPoint_43 : decode cX7_setPoint 43 = .ok (.iaload, 1) := by decide +kernel
theorem eX7_setPoint_44 : decode cX7_setPoint 44 = .ok (.aload_n 2, 1) := by decide +kernel
theorem eX7_setPoint_45 : decode cX7_setPoint 45 = .ok (.iload 4, 2) := by decide +kernel
theorem eX7_setPoint_47 : decode cX7_setPoint 47 = .ok (.iaload, 1) := by decide +kernel
theorem eX7_setPoint_48 : decode cX7_setPoint 48 = .ok (.isub, 1) := by decide +kernel
theorem eX7_setPoint_49 : decode cX7_setPoint 49 = .ok (.imul, 1) := by decide +kernel
theorem eX7_setPoint_50 : decode cX7_setPoint 50 = .ok (.iconst 1, 1) := by decide +kernel
theorem eX7_setPoint_51 : decode cX7_setPoint 51 = .ok (.iadd, 1) := by decide +kernel
theorem eX7_setPoint_52 : decode cX7_setPoint 52 = .ok (.iastore, 1) := by decide +kernel
theorem eX7_setPoint_53 : decode cX7_setPoint 53 = .ok (.iinc 4 1, 3) := by decide +kernel
theorem eX7_setPoint_56 : decode cX7_setPoint 56 = .ok (.goto (-38), 3) := by decide +kernel
theorem eX7_setPoint_59 : decode cX7_setPoint 59 = .ok (.iinc 3 1, 3) := by decide +kernel
theorem eX7_setPoint_62 : decode cX7_setPoint 62 = .ok (.goto (-55), 3) := by decide +kernel
theorem eX7_setPoint_65 : decode cX7_setPoint 65 = .ok (.return_, 1) := by decide +kernel
abbrev vs_E_7_setPoint_16 : List Cond := .code yX7_setPoint cX7_setPoint 5 none :: CM
noncomputable def sp_E_7_setPoint_16_L1 (fv : Nat → Int32) (a0 : Nat) (g_4 : Nat) : ((Nat → Int32) × Nat) → ((Nat → Int32) × Nat) ⊕ (((Nat → Int32) × Nat) ⊕ ((Nat → Int32))) := fun (g_14, g_15) => (if a0 ≤ g_15 then (Sum.inr (Sum.inl (g_14, (g_4 + 1)))) else (slet (fv g_4) (fun y_25 => (slet (fv g_15) (fun y_26 => (slet ((y_25 : Int32) - y_26) (fun y_27 => (slet ((2 : Int32) * y_27) (fun y_28 => (slet ((y_28 : Int32) + 1) (fun y_29 => (slet (upd g_14 ((g_4 * a0) + g_15) y_29) (fun f_30 => (Sum.inl (f_30, (g_15 + 1))))))))))))))))
noncomputable def sp_E_7_setPoint_16_L2 (fv : Nat → Int32) (a0 : Nat) : ((Nat → Int32) × Nat) → ((Nat → Int32) × Nat) ⊕ ((Nat → Int32)) := fun (g_3, g_4) => (if a0 ≤ g_4 then (Sum.inr g_3) else (itrv (α := (Nat → Int32) × Nat) (β := (((Nat → Int32) × Nat) ⊕ ((Nat → Int32)))) (Sum.inr default) (sp_E_7_setPoint_16_L1 fv a0 g_4) (g_3, 0)))
noncomputable def sp_E_7_setPoint_16 (fv : Nat → Int32) (fz : Nat → Int32) (a0 : Nat) : (Nat → Int32) := (itrv (α := (Nat → Int32) × Nat) (β := ((Nat → Int32))) default (sp_E_7_setPoint_16_L2 fv a0) (fz, 0))
set_option maxHeartbeats 4000000 in
set_option maxRecDepth 100000 in
theorem c_E_7_setPoint_16 (l : Launch) (dC : Nat → ClassId) (dI : Nat → Nat → Nat) (sz : Nat) (vz : Nat) (k_fv : ClassId) (fv : Nat → Int32) (z : Nat) (zc : Nat) (zn : Nat) (k_fz : ClassId) (fz : Nat → Int32) (a0 : Nat) (hzn : zn ≤ 4) (ha0 : a0 ≤ 4) : Met l yX7_setPoint vs_E_7_setPoint_16 ({ frames := 0, cells := 0, slots := 0, locals := 0 }) (va_Pc [.ref z, .int (nI a0), .ref vz] (pu_B (dC, dI) (zu16__w vz k_fv fv z zc (nI zn) k_fz fz) (zu16__t k_fv k_fz) sz)) (va_Qv (fun (_ : Unit) => True) (fun _ t => ∃ (z_fz : Nat → Int32), pu_E (dC, dI) (zu16__w vz k_fv fv z zc (nI a0) k_fz z_fz) (zu16__t k_fv k_fz) (va_A ((zu16__w vz k_fv fv z zc (nI zn) k_fz fz)) sz) t ∧ (z_fz = (sp_E_7_setPoint_16 fv fz a0))) (va_A ((zu16__w vz k_fv fv z zc (nI zn) k_fz fz)) sz)) 0 0 (va_A ((zu16__w vz k_fv fv z zc (nI zn) k_fz fz)) sz) := by
  refine Met.ofW (cc := cX7_setPoint) (maxL := 5) (ret := none) (by decide) rfl ?_
  intro p e s m args below meth c s₁ B hml hv
  obtain ⟨rfl, rfl, hP, hK, hD0⟩ := hv
  have hx := B.exec
  have hb := B.bytes
  have hr := B.returns
  have hts := atoms_spec (ws := vs_E_7_setPoint_16) B.pre
  have v_1 := hts (.fieldLink RX7 18 "ClockReach$Zone" "size" "I") (List.mem_cons_of_mem _ cm_48)
  have v_2 := hts (.fieldLink RX7 11 "ClockReach$Zone" "cells" "[I") (List.mem_cons_of_mem _ cm_47)
  have hown : s.vm.findClass RX7 = some m.cls := findClass_of_methodNamed B.named
  have hlocks := B.notSynchronized
  have hiX7 : ∀ w ∈ wsX70, w ∈ vs_E_7_setPoint_16 := fun _ h => List.mem_cons_of_mem _ (cm_X7 h)
  have hD := hD0.self (sz := s.heap.size)
  generalize hAe : va_A ((zu16__w vz k_fv fv z zc (nI zn) k_fz fz)) s.heap.size = A at hD ⊢
  have hA : ∀ q : Nat, s.heap.size ≤ q → A q := fun q h => by rw [← hAe]; exact Or.inr h
  have hS : va_S A s.heap s.heap [] := va_S.rf
  have hl := lv_entry ([.ref z, .int (nI a0), .ref vz]) (n := 5) (Nat.le_of_ble_eq_true rfl)
  rw [lg_entry_eq]
  generalize (lg_sl ([.ref z, .int (nI a0), .ref vz]) ++ List.replicate (5 - (lg_sl ([.ref z, .int (nI a0), .ref vz])).length) Slot.unset).toArray = ls at hl ⊢
  have hl : lv_has ls 5 [(0, .ref z), (1, .int (nI a0)), (2, .ref vz)] := hl
  have hzz := zz4 hzn
  obtain ⟨RR, hRR⟩ : ∃ x, x = (sp_E_7_setPoint_16 fv fz a0) := ⟨_, rfl⟩
  have hsp := hRR
  refine lv_aload_n hx hb eX7_setPoint_0 rfl (lv_at hl 0 rfl) ?_
  refine lv_iload_n hx hb eX7_setPoint_1 rfl (lv_at hl 1 rfl) ?_
  refine va_put (D := (dC, dI)) (ci := 7) (v := .int (nI a0)) (ty := .int) (C := RX7) (T := TX7) (N := 2) hx hb hts hiX7 tyX7 tyX7_ok nmX7 hown hK hP hD hS 1 rfl rfl 1 (by decide) v_1 (fun _ h9 => h9) rfl (by decide +kernel) rfl rfl (Nat.le_of_ble_eq_true rfl) eX7_setPoint_2 (fun H locs hP hD hS => ?_)
  have hP : va_P (dC, dI) vwCl (zu16__w vz k_fv fv z zc (nI a0) k_fz fz) H := hP
  have hD : va_D A (zu16__w vz k_fv fv z zc (nI a0) k_fz fz) := hD
  refine lv_iconst (v := 0) hx hb eX7_setPoint_5 (by decide) ?_
  refine lv_istore_n (lv' := [(3, .int 0), (0, .ref z), (1, .int (nI a0)), (2, .ref vz)]) hx hb eX7_setPoint_6 rfl hl (by decide) rfl (fun ls hl => ?_)
  obtain ⟨lf_6, dlf_6, hlf_6, hsp⟩ := itr_ex hsp
  delta sp_E_7_setPoint_16_L2 at hlf_6
  refine pu_while (fun nn H locs ls => ∃ (g_3 : Nat → Int32) (g_4 : Nat), nn = 4 - g_4 ∧ g_4 ≤ 4 ∧ RR = itrv dlf_6 lf_6 (g_3, g_4) ∧ va_P (dC, dI) vwCl (zu16__w vz k_fv fv z zc (nI a0) k_fz g_3) H ∧ va_D A (zu16__w vz k_fv fv z zc (nI a0) k_fz g_3) ∧ va_S A s.heap H locs ∧ lv_has ls 5 [(0, .ref z), (1, .int (nI a0)), (2, .ref vz), (3, .int (nI g_4))]) 7 ?_ _ _ _ _ ⟨fz, 0, rfl, (Nat.le_of_ble_eq_true rfl), hsp, hP, hD, hS, lv_sub hl [1, 2, 3, 0] rfl⟩
  rintro nn ih_5 H locs ls ⟨g_3, g_4, rfl, hg_4, he_8, hP, hD, hS, hl⟩
  obtain ⟨S_7, hsp, hin_9, hout_10⟩ := itr_step hlf_6 he_8
  refine lv_iload_n hx hb eX7_setPoint_7 rfl (lv_at hl 3 rfl) ?_
  refine lv_aload_n hx hb eX7_setPoint_8 rfl (lv_at hl 0 rfl) ?_
  refine va_get (D := (dC, dI)) (ci := 7) (v := .int (nI a0)) (C := RX7) (T := TX7) (N := 2) hx hb hts hiX7 hown hK hP 1 rfl rfl 1 (by decide) v_1 (fun _ h9 => h9) rfl eX7_setPoint_9 ?_
  refine lv_icmp_ge (tgt := 65) hx hb eX7_setPoint_12 (by decide) (fun c_11 => ?_) (fun c_11 => ?_)
  · have c_11 : a0 ≤ g_4 := (nI_leI (a := a0) (b := g_4) (Nat.lt_of_le_of_lt ha0 (Nat.le_of_ble_eq_true rfl)) (Nat.lt_of_le_of_lt hg_4 (Nat.le_of_ble_eq_true rfl))).mp c_11
    have hsp := hsp.trans (if_pos c_11)
    have hsp := hout_10 _ hsp
    exact W.vret hx hb hr (fun t ht hW => ⟨⟨(), rfl, trivial, ⟨g_3, ⟨by rw [ht]; exact hP, va_K.moved hW.alike hK, hD⟩, (hsp.symm.trans hRR)⟩⟩, hS.F ht⟩) hS.2.2 eX7_setPoint_65
  · have c_11 : ¬ a0 ≤ g_4 := fun z => c_11 ((nI_leI (a := a0) (b := g_4) (Nat.lt_of_le_of_lt ha0 (Nat.le_of_ble_eq_true rfl)) (Nat.lt_of_le_of_lt hg_4 (Nat.le_of_ble_eq_true rfl))).mpr z)
    have hsp := hsp.trans (if_neg c_11)
    refine lv_iconst (v := 0) hx hb eX7_setPoint_15 (by decide) ?_
    refine lv_istore (lv' := [(4, .int 0), (0, .ref z), (1, .int (nI a0)), (2, .ref vz), (3, .int (nI g_4))]) hx hb eX7_setPoint_16 hl (by decide) rfl (fun ls hl => ?_)
    obtain ⟨lf_17, dlf_17, hlf_17, hsp⟩ := itr_ex hsp
    delta sp_E_7_setPoint_16_L1 at hlf_17
    refine pu_while (fun nn H locs ls => ∃ (g_14 : Nat → Int32) (g_15 : Nat), nn = 4 - g_15 ∧ g_15 ≤ 4 ∧ S_7 = itrv dlf_17 lf_17 (g_14, g_15) ∧ va_P (dC, dI) vwCl (zu16__w vz k_fv fv z zc (nI a0) k_fz g_14) H ∧ va_D A (zu16__w vz k_fv fv z zc (nI a0) k_fz g_14) ∧ va_S A s.heap H locs ∧ lv_has ls 5 [(0, .ref z), (1, .int (nI a0)), (2, .ref vz), (3, .int (nI g_4)), (4, .int (nI g_15))]) 18 ?_ _ _ _ _ ⟨g_3, 0, rfl, (Nat.le_of_ble_eq_true rfl), hsp, hP, hD, hS, lv_sub hl [1, 2, 3, 4, 0] rfl⟩
    rintro nn ih_16 H locs ls ⟨g_14, g_15, rfl, hg_15, he_19, hP, hD, hS, hl⟩
    obtain ⟨S_18, hsp, hin_20, hout_21⟩ := itr_step hlf_17 he_19
    refine lv_iload hx hb eX7_setPoint_18 (lv_at hl 4 rfl) ?_
    refine lv_aload_n hx hb eX7_setPoint_20 rfl (lv_at hl 0 rfl) ?_
    refine va_get (D := (dC, dI)) (ci := 7) (v := .int (nI a0)) (C := RX7) (T := TX7) (N := 2) hx hb hts hiX7 hown hK hP 1 rfl rfl 1 (by decide) v_1 (fun _ h9 => h9) rfl eX7_setPoint_21 ?_
    refine lv_icmp_ge (tgt := 59) hx hb eX7_setPoint_24 (by decide) (fun c_22 => ?_) (fun c_22 => ?_)
    · have c_22 : a0 ≤ g_15 := (nI_leI (a := a0) (b := g_15) (Nat.lt_of_le_of_lt ha0 (Nat.le_of_ble_eq_true rfl)) (Nat.lt_of_le_of_lt hg_15 (Nat.le_of_ble_eq_true rfl))).mp c_22
      have hsp := hsp.trans (if_pos c_22)
      have hsp := hout_21 _ hsp
      refine lv_iinc (v := (nI (g_4 + 1))) (lv' := [(3, .int (nI (g_4 + 1))), (0, .ref z), (1, .int (nI a0)), (2, .ref vz), (4, .int (nI g_15))]) hx hb eX7_setPoint_59 hl (k := 3) rfl (nI_1 _) (by decide) rfl (fun ls hl => ?_)
      refine lv_goto (tgt := 7) hx hb eX7_setPoint_62 (by decide) ?_
      exact ih_5 (4 - (g_4 + 1)) (by omega) _ _ _ ⟨g_14, (g_4 + 1), rfl, (by omega), hin_9 _ hsp, hP, hD, hS, lv_sub hl [1, 2, 3, 0] rfl⟩
    · have c_22 : ¬ a0 ≤ g_15 := fun z => c_22 ((nI_leI (a := a0) (b := g_15) (Nat.lt_of_le_of_lt ha0 (Nat.le_of_ble_eq_true rfl)) (Nat.lt_of_le_of_lt hg_15 (Nat.le_of_ble_eq_true rfl))).mpr z)
      have hsp := hsp.trans (if_neg c_22)
      refine lv_aload_n hx hb eX7_setPoint_27 rfl (lv_at hl 0 rfl) ?_
      refine va_get (D := (dC, dI)) (ci := 7) (v := .ref zc) (C := RX7) (T := TX7) (N := 2) hx hb hts hiX7 hown hK hP 1 rfl rfl 0 (by decide) v_2 (fun _ h9 => h9) rfl eX7_setPoint_28 ?_
      refine lv_iload_n hx hb eX7_setPoint_31 rfl (lv_at hl 3 rfl) ?_
      refine lv_aload_n hx hb eX7_setPoint_32 rfl (lv_at hl 0 rfl) ?_
      refine va_get (D := (dC, dI)) (ci := 7) (v := .int (nI a0)) (C := RX7) (T := TX7) (N := 2) hx hb hts hiX7 hown hK hP 1 rfl rfl 1 (by decide) v_1 (fun _ h9 => h9) rfl eX7_setPoint_33 ?_
      refine lv_imul hx hb eX7_setPoint_36 ?_
      refine lv_topi (fun y_23 ey_23 => ?_)
      obtain rfl : y_23 = (nI (g_4 * a0)) := ey_23.trans (pk_mul g_4 a0)
      refine lv_iload hx hb eX7_setPoint_37 (lv_at hl 4 rfl) ?_
      refine lv_iadd hx hb eX7_setPoint_39 ?_
      refine lv_topi (fun y_24 ey_24 => ?_)
      obtain rfl : y_24 = (nI ((g_4 * a0) + g_15)) := ey_24.trans (nI_add (g_4 * a0) g_15)
      refine lv_iconst (v := 2) hx hb eX7_setPoint_40 (by decide) ?_
      refine lv_aload_n hx hb eX7_setPoint_41 rfl (lv_at hl 2 rfl) ?_
      refine lv_iload_n hx hb eX7_setPoint_42 rfl (lv_at hl 3 rfl) ?_
      refine va_iald hx hb hK hP 0 0 rfl rfl (vp_in_nI (n := g_4) (Nat.lt_of_le_of_lt hg_4 (Nat.le_of_ble_eq_true rfl)) (Nat.le_of_ble_eq_true rfl)) eX7_setPoint_43 ?_
      refine lv_topi (fun y_25 ey_25 => ?_)
      have ey_25 : y_25 = fv g_4 := ey_25.trans (congrArg fv (nI_clamp (n := g_4) (Nat.lt_of_le_of_lt hg_4 (Nat.le_of_ble_eq_true rfl))))
      have hsp := hsp.trans (slet_eq ey_25)
      refine lv_aload_n hx hb eX7_setPoint_44 rfl (lv_at hl 2 rfl) ?_
      refine lv_iload hx hb eX7_setPoint_45 (lv_at hl 4 rfl) ?_
      refine va_iald hx hb hK hP 0 0 rfl rfl (vp_in_nI (n := g_15) (Nat.lt_of_le_of_lt hg_15 (Nat.le_of_ble_eq_true rfl)) (Nat.le_of_ble_eq_true rfl)) eX7_setPoint_47 ?_
      refine lv_topi (fun y_26 ey_26 => ?_)
      have ey_26 : y_26 = fv g_15 := ey_26.trans (congrArg fv (nI_clamp (n := g_15) (Nat.lt_of_le_of_lt hg_15 (Nat.le_of_ble_eq_true rfl))))
      have hsp := hsp.trans (slet_eq ey_26)
      refine lv_isub hx hb eX7_setPoint_48 ?_
      refine lv_topi (fun y_27 ey_27 => ?_)
      have hsp := hsp.trans (slet_eq ey_27)
      refine lv_imul hx hb eX7_setPoint_49 ?_
      refine lv_topi (fun y_28 ey_28 => ?_)
      have hsp := hsp.trans (slet_eq ey_28)
      refine lv_iconst (v := 1) hx hb eX7_setPoint_50 (by decide) ?_
      refine lv_iadd hx hb eX7_setPoint_51 ?_
      refine lv_topi (fun y_29 ey_29 => ?_)
      have hsp := hsp.trans (slet_eq ey_29)
      refine va_iast hx hb hK hP hD hS 2 1 rfl rfl (vp_in_nI (n := ((g_4 * a0) + g_15)) (by first | exact zx16 (by omega) (by omega) (by omega) | exact zy16 (by omega) (by omega) | omega) (Nat.le_of_ble_eq_true rfl)) eX7_setPoint_52 (fun H locs hP hD hS => ?_)
      obtain ⟨f_30, ef_30, xf_30⟩ := up_x g_14 (n := ((g_4 * a0) + g_15)) y_29 (by first | omega | exact Nat.lt_trans (zx16 (by omega) (by omega) (by omega)) (Nat.le_of_ble_eq_true rfl) | exact Nat.lt_trans (zy16 (by omega) (by omega)) (Nat.le_of_ble_eq_true rfl) | exact Nat.lt_trans (zx25 (by omega) (by omega) (by omega)) (Nat.le_of_ble_eq_true rfl) | exact Nat.lt_trans (zy25 (by omega) (by omega)) (Nat.le_of_ble_eq_true rfl))
      have hP : va_P (dC, dI) vwCl (zu16__w vz k_fv fv z zc (nI a0) k_fz f_30) H := by rw [← ef_30]; exact hP
      have hD : va_D A (zu16__w vz k_fv fv z zc (nI a0) k_fz f_30) := by rw [← ef_30]; exact hD
      have hsp := hsp.trans (slet_eq xf_30)
      refine lv_iinc (v := (nI (g_15 + 1))) (lv' := [(4, .int (nI (g_15 + 1))), (0, .ref z), (1, .int (nI a0)), (2, .ref vz), (3, .int (nI g_4))]) hx hb eX7_setPoint_53 hl (k := 4) rfl (nI_1 _) (by decide) rfl (fun ls hl => ?_)
      refine lv_goto (tgt := 18) hx hb eX7_setPoint_56 (by decide) ?_
      exact ih_16 (4 - (g_15 + 1)) (by omega) _ _ _ ⟨f_30, (g_15 + 1), rfl, (by omega), hin_20 _ hsp, hP, hD, hS, lv_sub hl [1, 2, 3, 4, 0] rfl⟩
theorem eX7_setAll_0 : decode cX7_setAll 0 = .ok (.aload_n 0, 1) := by decide +kernel
theorem eX7_setAll_1 : decode cX7_setAll 1 = .ok (.iload_n 1, 1) := by decide +kernel
theorem eX7_setAll_2 : decode cX7_setAll 2 = .ok (.putfield 18, 3) := by decide +kernel
theorem eX7_setAll_5 : decode cX7_setAll 5 = .ok (.iconst 0, 1) := by decide +kernel
theorem eX7_setAll_6 : decode cX7_setAll 6 = .ok (.istore_n 2, 1) := by decide +kernel
theorem eX7_setAll_7 : decode cX7_setAll 7 = .ok (.iload_n 2, 1) := by decide +kernel
theorem eX7_setAll_8 : decode cX7_setAll 8 = .ok (.aload_n 0, 1) := by decide +kernel
theorem eX7_setAll_9 : decode cX7_setAll 9 = .ok (.getfield 18, 3) := by decide +kernel
theorem eX7_setAll_12 : decode cX7_setAll 12 = .ok (.if_icmp .ge 53, 3) := by decide +kernel
theorem eX7_setAll_15 : decode cX7_setAll 15 = .ok (.iconst 0, 1) := by decide +kernel
theorem eX7_setAll_16 : decode cX7_setAll 16 = .ok (.istore_n 3, 1) := by decide +kernel
theorem eX7_setAll_17 : decode cX7_setAll 17 = .ok (.iload_n 3, 1) := by decide +kernel
theorem eX7_setAll_18 : decode cX7_setAll 18 = .ok (.aload_n 0, 1) := by decide +kernel
theorem eX7_setAll_19 : decode cX7_setAll 19 = .ok (.getfield 18, 3) := by decide +kernel
theorem eX7_setAll_22 : decode cX7_setAll 22 = .ok (.if_icmp .ge 37, 3) := by decide +kernel
theorem eX7_setAll_25 : decode cX7_setAll 25 = .ok (.aload_n 0, 1) := by decide +kernel
theorem eX7_setAll_26 : decode cX7_setAll 26 = .ok (.getfield 11, 3) := by decide +kernel
theorem eX7_setAll_29 : decode cX7_setAll 29 = .ok (.iload_n 2, 1) := by decide +kernel
theorem eX7_setAll_30 : decode cX7_setAll 30 = .ok (.aload_n 0, 1) := by decide +kernel
theorem eX7_setAll_31 : decode cX7_setAll 31 = .ok (.getfield 18, 3) := by decide +kernel
theorem eX7_setAll_34 : decode cX7_setAll 34 = .ok (.imul, 1) := by decide +kernel
theorem eX7_setAll_35 : decode cX7_setAll 35 = .ok (.iload_n 3, 1) := by decide +kernel
theorem eX7_setAll_36 : decode cX7_setAll 36 = .ok (.iadd, 1) := by decide +kernel
theorem eX7_setAll_37 : decode cX7_setAll 37 = .ok (.iload_n 2, 1) := by decide +kernel
theorem eX7_setAll_38 : decode cX7_setAll 38 = .ok (.ifCond .eq 8, 3) := by decide +kernel
theorem eX7_setAll_41 : decode cX7_setAll 41 = .ok (.iload_n 2, 1) := by decide +kernel
theorem eX7_setAll_42 : decode cX7_setAll 42 = .ok (.iload_n 3, 1) := by decide +kernel
theorem eX7_setAll_43 : decode cX7_setAll 43 = .ok (.if_icmp .ne 7, 3) := by decide +kernel
theorem eX7_setAll_46 : decode cX7_setAll 46 = .ok (.iconst 1, 1) := by decide +kernel
theorem eX7_setAll_47 : decode cX7_setAll 47 = .ok (.goto 5, 3) := by decide +kernel
theorem eX7_setAll_50 : decode cX7_setAll 50 = .ok (.ldc 17, 2) := by decide +kernel
theorem eX7_setAll_52 : decode cX7_setAll 52 = .ok (.iastore, 1) := by decide +kernel
theorem eX7_setAll_53 : decode cX7_setAll 53 = .ok (.iinc 3 1, 3) := by decide +kernel
theorem eX7_setAll_56 : decode cX7_setAll 56 = .ok (.goto (-39), 3) := by decide +kernel
theorem eX7_setAll_59 : decode cX7_setAll 59 = .ok (.iinc 2 1, 3) := by decide +kernel
theorem eX7_setAll_62 : decode cX7_setAll 62 = .ok (.goto (-55), 3) := by decide +kernel
theorem eX7_setAll_65 : decode cX7_setAll 65 = .ok (.return_, 1) := by decide +kernel
abbrev vs_E_7_setAll_16 : List Cond := .code yX7_setAll cX7_setAll 4 none :: CM
noncomputable def sp_E_7_setAll_16_L1 (a0 : Nat) (g_4 : Nat) : ((Nat → Int32) × Nat) → ((Nat → Int32) × Nat) ⊕ (((Nat → Int32) × Nat) ⊕ ((Nat → Int32))) := fun (g_14, g_15) => (if a0 ≤ g_15 then (Sum.inr (Sum.inl (g_14, (g_4 + 1)))) else (slet (α := Int32) (if g_4 = 0 then 1 else (if g_4 = g_15 then 1 else 2147483647)) (fun g_25 => (slet (upd g_14 ((g_4 * a0) + g_15) g_25) (fun f_29 => (Sum.inl (f_29, (g_15 + 1))))))))
noncomputable def sp_E_7_setAll_16_L2 (a0 : Nat) : ((Nat → Int32) × Nat) → ((Nat → Int32) × Nat) ⊕ ((Nat → Int32)) := fun (g_3, g_4) => (if a0 ≤ g_4 then (Sum.inr g_3) else (itrv (α := (Nat → Int32) × Nat) (β := (((Nat → Int32) × Nat) ⊕ ((Nat → Int32)))) (Sum.inr default) (sp_E_7_setAll_16_L1 a0 g_4) (g_3, 0)))
noncomputable def sp_E_7_setAll_16 (fz : Nat → Int32) (a0 : Nat) : (Nat → Int32) := (itrv (α := (Nat → Int32) × Nat) (β := ((Nat → Int32))) default (sp_E_7_setAll_16_L2 a0) (fz, 0))
set_option maxHeartbeats 4000000 in
set_option maxRecDepth 100000 in
theorem c_E_7_setAll_16 (l : Launch) (dC : Nat → ClassId) (dI : Nat → Nat → Nat) (sz : Nat) (z : Nat) (zc : Nat) (zn : Nat) (k_fz : ClassId) (fz : Nat → Int32) (a0 : Nat) (hzn : zn ≤ 4) (ha0 : a0 ≤ 4) : Met l yX7_setAll vs_E_7_setAll_16 ({ frames := 0, cells := 0, slots := 0, locals := 0 }) (va_Pc [.ref z, .int (nI a0)] (pu_B (dC, dI) (z16__w z zc (nI zn) k_fz fz) (z16__t k_fz) sz)) (va_Qv (fun (_ : Unit) => True) (fun _ t => ∃ (z_fz : Nat → Int32), pu_E (dC, dI) (z16__w z zc (nI a0) k_fz z_fz) (z16__t k_fz) (va_A ((z16__w z zc (nI zn) k_fz fz)) sz) t ∧ (z_fz = (sp_E_7_setAll_16 fz a0))) (va_A ((z16__w z zc (nI zn) k_fz fz)) sz)) 0 0 (va_A ((z16__w z zc (nI zn) k_fz fz)) sz) := by
  refine Met.ofW (cc := cX7_setAll) (maxL := 4) (ret := none) (by decide) rfl ?_
  intro p e s m args below meth c s₁ B hml hv
  obtain ⟨rfl, rfl, hP, hK, hD0⟩ := hv
  have hx := B.exec
  have hb := B.bytes
  have hr := B.returns
  have hts := atoms_spec (ws := vs_E_7_setAll_16) B.pre
  have v_1 := hts (.fieldLink RX7 18 "ClockReach$Zone" "size" "I") (List.mem_cons_of_mem _ cm_48)
  have v_2 := hts (.fieldLink RX7 11 "ClockReach$Zone" "cells" "[I") (List.mem_cons_of_mem _ cm_47)
  have v_3 := hts (.constant RX7 17 (2147483647)) (List.mem_cons_of_mem _ cm_49)
  have hown : s.vm.findClass RX7 = some m.cls := findClass_of_methodNamed B.named
  have hlocks := B.notSynchronized
  have hiX7 : ∀ w ∈ wsX70, w ∈ vs_E_7_setAll_16 := fun _ h => List.mem_cons_of_mem _ (cm_X7 h)
  have hD := hD0.self (sz := s.heap.size)
  generalize hAe : va_A ((z16__w z zc (nI zn) k_fz fz)) s.heap.size = A at hD ⊢
  have hA : ∀ q : Nat, s.heap.size ≤ q → A q := fun q h => by rw [← hAe]; exact Or.inr h
  have hS : va_S A s.heap s.heap [] := va_S.rf
  have hl := lv_entry ([.ref z, .int (nI a0)]) (n := 4) (Nat.le_of_ble_eq_true rfl)
  rw [lg_entry_eq]
  generalize (lg_sl ([.ref z, .int (nI a0)]) ++ List.replicate (4 - (lg_sl ([.ref z, .int (nI a0)])).length) Slot.unset).toArray = ls at hl ⊢
  have hl : lv_has ls 4 [(0, .ref z), (1, .int (nI a0))] := hl
  have hzz := zz4 hzn
  obtain ⟨RR, hRR⟩ : ∃ x, x = (sp_E_7_setAll_16 fz a0) := ⟨_, rfl⟩
  have hsp := hRR
  refine lv_aload_n hx hb eX7_setAll_0 rfl (lv_at hl 0 rfl) ?_
  refine lv_iload_n hx hb eX7_setAll_1 rfl (lv_at hl 1 rfl) ?_
  refine va_put (D := (dC, dI)) (ci := 7) (v := .int (nI a0)) (ty := .int) (C := RX7) (T := TX7) (N := 2) hx hb hts hiX7 tyX7 tyX7_ok nmX7 hown hK hP hD hS 0 rfl rfl 1 (by decide) v_1 (fun _ h9 => h9) rfl (by decide +kernel) rfl rfl (Nat.le_of_ble_eq_true rfl) eX7_setAll_2 (fun H locs hP hD hS => ?_)
  have hP : va_P (dC, dI) vwCl (z16__w z zc (nI a0) k_fz fz) H := hP
  have hD : va_D A (z16__w z zc (nI a0) k_fz fz) := hD
  refine lv_iconst (v := 0) hx hb eX7_setAll_5 (by decide) ?_
  refine lv_istore_n (lv' := [(2, .int 0), (0, .ref z), (1, .int (nI a0))]) hx hb eX7_setAll_6 rfl hl (by decide) rfl (fun ls hl => ?_)
  obtain ⟨lf_6, dlf_6, hlf_6, hsp⟩ := itr_ex hsp
  delta sp_E_7_setAll_16_L2 at hlf_6
  refine pu_while (fun nn H locs ls => ∃ (g_3 : Nat → Int32) (g_4 : Nat), nn = 4 - g_4 ∧ g_4 ≤ 4 ∧ RR = itrv dlf_6 lf_6 (g_3, g_4) ∧ va_P (dC, dI) vwCl (z16__w z zc (nI a0) k_fz g_3) H ∧ va_D A (z16__w z zc (nI a0) k_fz g_3) ∧ va_S A s.heap H locs ∧ lv_has ls 4 [(0, .ref z), (1, .int (nI a0)), (2, .int (nI g_4))]) 7 ?_ _ _ _ _ ⟨fz, 0, rfl, (Nat.le_of_ble_eq_true rfl), hsp, hP, hD, hS, lv_sub hl [1, 2, 0] rfl⟩
  rintro nn ih_5 H locs ls ⟨g_3, g_4, rfl, hg_4, he_8, hP, hD, hS, hl⟩
  obtain ⟨S_7, hsp, hin_9, hout_10⟩ := itr_step hlf_6 he_8
  refine lv_iload_n hx hb eX7_setAll_7 rfl (lv_at hl 2 rfl) ?_
  refine lv_aload_n hx hb eX7_setAll_8 rfl (lv_at hl 0 rfl) ?_
  refine va_get (D := (dC, dI)) (ci := 7) (v := .int (nI a0)) (C := RX7) (T := TX7) (N := 2) hx hb hts hiX7 hown hK hP 0 rfl rfl 1 (by decide) v_1 (fun _ h9 => h9) rfl eX7_setAll_9 ?_
  refine lv_icmp_ge (tgt := 65) hx hb eX7_setAll_12 (by decide) (fun c_11 => ?_) (fun c_11 => ?_)
  · have c_11 : a0 ≤ g_4 := (nI_leI (a := a0) (b := g_4) (Nat.lt_of_le_of_lt ha0 (Nat.le_of_ble_eq_true rfl)) (Nat.lt_of_le_of_lt hg_4 (Nat.le_of_ble_eq_true rfl))).mp c_11
    have hsp := hsp.trans (if_pos c_11)
    have hsp := hout_10 _ hsp
    exact W.vret hx hb hr (fun t ht hW => ⟨⟨(), rfl, trivial, ⟨g_3, ⟨by rw [ht]; exact hP, va_K.moved hW.alike hK, hD⟩, (hsp.symm.trans hRR)⟩⟩, hS.F ht⟩) hS.2.2 eX7_setAll_65
  · have c_11 : ¬ a0 ≤ g_4 := fun z => c_11 ((nI_leI (a := a0) (b := g_4) (Nat.lt_of_le_of_lt ha0 (Nat.le_of_ble_eq_true rfl)) (Nat.lt_of_le_of_lt hg_4 (Nat.le_of_ble_eq_true rfl))).mpr z)
    have hsp := hsp.trans (if_neg c_11)
    refine lv_iconst (v := 0) hx hb eX7_setAll_15 (by decide) ?_
    refine lv_istore_n (lv' := [(3, .int 0), (0, .ref z), (1, .int (nI a0)), (2, .int (nI g_4))]) hx hb eX7_setAll_16 rfl hl (by decide) rfl (fun ls hl => ?_)
    obtain ⟨lf_17, dlf_17, hlf_17, hsp⟩ := itr_ex hsp
    delta sp_E_7_setAll_16_L1 at hlf_17
    refine pu_while (fun nn H locs ls => ∃ (g_14 : Nat → Int32) (g_15 : Nat), nn = 4 - g_15 ∧ g_15 ≤ 4 ∧ S_7 = itrv dlf_17 lf_17 (g_14, g_15) ∧ va_P (dC, dI) vwCl (z16__w z zc (nI a0) k_fz g_14) H ∧ va_D A (z16__w z zc (nI a0) k_fz g_14) ∧ va_S A s.heap H locs ∧ lv_has ls 4 [(0, .ref z), (1, .int (nI a0)), (2, .int (nI g_4)), (3, .int (nI g_15))]) 17 ?_ _ _ _ _ ⟨g_3, 0, rfl, (Nat.le_of_ble_eq_true rfl), hsp, hP, hD, hS, lv_sub hl [1, 2, 3, 0] rfl⟩
    rintro nn ih_16 H locs ls ⟨g_14, g_15, rfl, hg_15, he_19, hP, hD, hS, hl⟩
    obtain ⟨S_18, hsp, hin_20, hout_21⟩ := itr_step hlf_17 he_19
    refine lv_iload_n hx hb eX7_setAll_17 rfl (lv_at hl 3 rfl) ?_
    refine lv_aload_n hx hb eX7_setAll_18 rfl (lv_at hl 0 rfl) ?_
    refine va_get (D := (dC, dI)) (ci := 7) (v := .int (nI a0)) (C := RX7) (T := TX7) (N := 2) hx hb hts hiX7 hown hK hP 0 rfl rfl 1 (by decide) v_1 (fun _ h9 => h9) rfl eX7_setAll_19 ?_
    refine lv_icmp_ge (tgt := 59) hx hb eX7_setAll_22 (by decide) (fun c_22 => ?_) (fun c_22 => ?_)
    · have c_22 : a0 ≤ g_15 := (nI_leI (a := a0) (b := g_15) (Nat.lt_of_le_of_lt ha0 (Nat.le_of_ble_eq_true rfl)) (Nat.lt_of_le_of_lt hg_15 (Nat.le_of_ble_eq_true rfl))).mp c_22
      have hsp := hsp.trans (if_pos c_22)
      have hsp := hout_21 _ hsp
      refine lv_iinc (v := (nI (g_4 + 1))) (lv' := [(2, .int (nI (g_4 + 1))), (0, .ref z), (1, .int (nI a0)), (3, .int (nI g_15))]) hx hb eX7_setAll_59 hl (k := 2) rfl (nI_1 _) (by decide) rfl (fun ls hl => ?_)
      refine lv_goto (tgt := 7) hx hb eX7_setAll_62 (by decide) ?_
      exact ih_5 (4 - (g_4 + 1)) (by omega) _ _ _ ⟨g_14, (g_4 + 1), rfl, (by omega), hin_9 _ hsp, hP, hD, hS, lv_sub hl [1, 2, 0] rfl⟩
    · have c_22 : ¬ a0 ≤ g_15 := fun z => c_22 ((nI_leI (a := a0) (b := g_15) (Nat.lt_of_le_of_lt ha0 (Nat.le_of_ble_eq_true rfl)) (Nat.lt_of_le_of_lt hg_15 (Nat.le_of_ble_eq_true rfl))).mpr z)
      have hsp := hsp.trans (if_neg c_22)
      refine lv_aload_n hx hb eX7_setAll_25 rfl (lv_at hl 0 rfl) ?_
      refine va_get (D := (dC, dI)) (ci := 7) (v := .ref zc) (C := RX7) (T := TX7) (N := 2) hx hb hts hiX7 hown hK hP 0 rfl rfl 0 (by decide) v_2 (fun _ h9 => h9) rfl eX7_setAll_26 ?_
      refine lv_iload_n hx hb eX7_setAll_29 rfl (lv_at hl 2 rfl) ?_
      refine lv_aload_n hx hb eX7_setAll_30 rfl (lv_at hl 0 rfl) ?_
      refine va_get (D := (dC, dI)) (ci := 7) (v := .int (nI a0)) (C := RX7) (T := TX7) (N := 2) hx hb hts hiX7 hown hK hP 0 rfl rfl 1 (by decide) v_1 (fun _ h9 => h9) rfl eX7_setAll_31 ?_
      refine lv_imul hx hb eX7_setAll_34 ?_
      refine lv_topi (fun y_23 ey_23 => ?_)
      obtain rfl : y_23 = (nI (g_4 * a0)) := ey_23.trans (pk_mul g_4 a0)
      refine lv_iload_n hx hb eX7_setAll_35 rfl (lv_at hl 3 rfl) ?_
      refine lv_iadd hx hb eX7_setAll_36 ?_
      refine lv_topi (fun y_24 ey_24 => ?_)
      obtain rfl : y_24 = (nI ((g_4 * a0) + g_15)) := ey_24.trans (nI_add (g_4 * a0) g_15)
      refine lv_iload_n hx hb eX7_setAll_37 rfl (lv_at hl 2 rfl) ?_
      obtain ⟨JR_27, hJR_27, hsp⟩ := slet_ex hsp
      refine pu_join (fun H locs ls st => ∃ (g_25 : Int32), st = [.int g_25, .int (nI ((g_4 * a0) + g_15)), .ref zc] ∧ (g_25 = -1 ∨ (∃ q : Nat, q ≤ 2147483647 ∧ g_25 = nI q)) ∧ g_25 = JR_27 ∧ va_P (dC, dI) vwCl (z16__w z zc (nI a0) k_fz g_14) H ∧ va_D A (z16__w z zc (nI a0) k_fz g_14) ∧ va_S A s.heap H locs ∧ lv_has ls 4 [(0, .ref z), (1, .int (nI a0)), (2, .int (nI g_4)), (3, .int (nI g_15))]) 52 ?_ (fun j_26 => ?_)
      · rintro H locs ls st ⟨g_25, rfl, hg_25, he_28, hP, hD, hS, hl⟩
        rw [← he_28] at hsp
        refine va_iast hx hb hK hP hD hS 1 0 rfl rfl (vp_in_nI (n := ((g_4 * a0) + g_15)) (by first | exact zx16 (by omega) (by omega) (by omega) | exact zy16 (by omega) (by omega) | omega) (Nat.le_of_ble_eq_true rfl)) eX7_setAll_52 (fun H locs hP hD hS => ?_)
        obtain ⟨f_29, ef_29, xf_29⟩ := up_x g_14 (n := ((g_4 * a0) + g_15)) g_25 (by first | omega | exact Nat.lt_trans (zx16 (by omega) (by omega) (by omega)) (Nat.le_of_ble_eq_true rfl) | exact Nat.lt_trans (zy16 (by omega) (by omega)) (Nat.le_of_ble_eq_true rfl) | exact Nat.lt_trans (zx25 (by omega) (by omega) (by omega)) (Nat.le_of_ble_eq_true rfl) | exact Nat.lt_trans (zy25 (by omega) (by omega)) (Nat.le_of_ble_eq_true rfl))
        have hP : va_P (dC, dI) vwCl (z16__w z zc (nI a0) k_fz f_29) H := by rw [← ef_29]; exact hP
        have hD : va_D A (z16__w z zc (nI a0) k_fz f_29) := by rw [← ef_29]; exact hD
        have hsp := hsp.trans (slet_eq xf_29)
        refine lv_iinc (v := (nI (g_15 + 1))) (lv' := [(3, .int (nI (g_15 + 1))), (0, .ref z), (1, .int (nI a0)), (2, .int (nI g_4))]) hx hb eX7_setAll_53 hl (k := 3) rfl (nI_1 _) (by decide) rfl (fun ls hl => ?_)
        refine lv_goto (tgt := 17) hx hb eX7_setAll_56 (by decide) ?_
        exact ih_16 (4 - (g_15 + 1)) (by omega) _ _ _ ⟨f_29, (g_15 + 1), rfl, (by omega), hin_20 _ hsp, hP, hD, hS, lv_sub hl [1, 2, 3, 0] rfl⟩
      have hsp := hJR_27
      refine lv_if_eq (tgt := 46) hx hb eX7_setAll_38 (by decide) (fun c_30 => ?_) (fun c_30 => ?_)
      · have c_30 : g_4 = 0 := (nI_eq (a := g_4) (b := 0) (Nat.lt_of_le_of_lt hg_4 (Nat.le_of_ble_eq_true rfl)) (Nat.le_of_ble_eq_true rfl)).mp c_30
        have hsp := hsp.trans (if_pos c_30)
        refine lv_iconst (v := 1) hx hb eX7_setAll_46 (by decide) ?_
        refine lv_goto (tgt := 52) hx hb eX7_setAll_47 (by decide) ?_
        exact j_26 _ _ _ _ ⟨1, rfl, Or.inr ⟨1, (Nat.le_of_ble_eq_true rfl), rfl⟩, hsp.symm, hP, hD, hS, lv_sub hl [0, 1, 2, 3] rfl⟩
      · have c_30 : ¬ g_4 = 0 := fun z => c_30 ((nI_eq (a := g_4) (b := 0) (Nat.lt_of_le_of_lt hg_4 (Nat.le_of_ble_eq_true rfl)) (Nat.le_of_ble_eq_true rfl)).mpr z)
        have hsp := hsp.trans (if_neg c_30)
        refine lv_iload_n hx hb eX7_setAll_41 rfl (lv_at hl 2 rfl) ?_
        refine lv_iload_n hx hb eX7_setAll_42 rfl (lv_at hl 3 rfl) ?_
        refine lv_icmp_ne (tgt := 50) hx hb eX7_setAll_43 (by decide) (fun c_31 => ?_) (fun c_31 => ?_)
        · have c_31 : ¬ g_4 = g_15 := fun z => c_31 ((nI_eq (a := g_4) (b := g_15) (Nat.lt_of_le_of_lt hg_4 (Nat.le_of_ble_eq_true rfl)) (Nat.lt_of_le_of_lt hg_15 (Nat.le_of_ble_eq_true rfl))).mpr z)
          have hsp := hsp.trans (if_neg c_31)
          refine lv_ldc hx hb hown v_3 eX7_setAll_50 ?_
          exact j_26 _ _ _ _ ⟨2147483647, rfl, Or.inr ⟨2147483647, (Nat.le_of_ble_eq_true rfl), rfl⟩, hsp.symm, hP, hD, hS, lv_sub hl [0, 1, 2, 3] rfl⟩
        · have c_31 : g_4 = g_15 := (nI_eq (a := g_4) (b := g_15) (Nat.lt_of_le_of_lt hg_4 (Nat.le_of_ble_eq_true rfl)) (Nat.lt_of_le_of_lt hg_15 (Nat.le_of_ble_eq_true rfl))).mp c_31
          have hsp := hsp.trans (if_pos c_31)
          refine lv_iconst (v := 1) hx hb eX7_setAll_46 (by decide) ?_
          refine lv_goto (tgt := 52) hx hb eX7_setAll_47 (by decide) ?_
          exact j_26 _ _ _ _ ⟨1, rfl, Or.inr ⟨1, (Nat.le_of_ble_eq_true rfl), rfl⟩, hsp.symm, hP, hD, hS, lv_sub hl [0, 1, 2, 3] rfl⟩
theorem eX7_copyOf_0 : decode cX7_copyOf 0 = .ok (.aload_n 0, 1) := by decide +kernel
theorem eX7_copyOf_1 : decode cX7_copyOf 1 = .ok (.aload_n 1, 1) := by decide +kernel
theorem eX7_copyOf_2 : decode cX7_copyOf 2 = .ok (.getfield 18, 3) := by decide +kernel
theorem eX7_copyOf_5 : decode cX7_copyOf 5 = .ok (.putfield 18, 3) := by decide +kernel
theorem eX7_copyOf_8 : decode cX7_copyOf 8 = .ok (.iconst 0, 1) := by decide +kernel
theorem eX7_copyOf_9 : decode cX7_copyOf 9 = .ok (.istore_n 2, 1) := by decide +kernel
theorem eX7_copyOf_10 : decode cX7_copyOf 10 = .ok (.iload_n 2, 1) := by decide +kernel
theorem eX7_copyOf_11 : decode cX7_copyOf 11 = .ok (.aload_n 0, 1) := by decide +kernel
theorem eX7_copyOf_12 : decode cX7_copyOf 12 = .ok (.getfield 18, 3) := by decide +kernel
theorem eX7_copyOf_15 : decode cX7_copyOf 15 = .ok (.aload_n 0, 1) := by decide +kernel
theorem eX7_copyOf_16 : decode cX7_copyOf 16 = .ok (.getfield 18, 3) := by decide +kernel
theorem eX7_copyOf_19 : decode cX7_copyOf 19 = .ok (.imul, 1) := by decide +kernel
theorem eX7_copyOf_20 : decode cX7_copyOf 20 = .ok (.if_icmp .ge 21, 3) := by decide +kernel
theorem eX7_copyOf_23 : decode cX7_copyOf 23 = .ok (.aload_n 0, 1) := by decide +kernel
theorem eX7_copyOf_24 : decode cX7_copyOf 24 = .ok (.getfield 11, 3) := by decide +kernel
theorem eX7_copyOf_27 : decode cX7_copyOf 27 = .ok (.iload_n 2, 1) := by decide +kernel
theorem eX7_copyOf_28 : decode cX7_copyOf 28 = .ok (.aload_n 1, 1) := by decide +kernel
theorem eX7_copyOf_29 : decode cX7_copyOf 29 = .ok (.getfield 11, 3) := by decide +kernel
theorem eX7_copyOf_32 : decode cX7_copyOf 32 = .ok (.iload_n 2, 1) := by decide +kernel
theorem eX7_copyOf_33 : decode cX7_copyOf 33 = .ok (.iaload, 1) := by decide +kernel
theorem eX7_copyOf_34 : decode cX7_copyOf 34 = .ok (.iastore, 1) := by decide +kernel
theorem eX7_copyOf_35 : decode cX7_copyOf 35 = .ok (.iinc 2 1, 3) := by decide +kernel
theorem eX7_copyOf_38 : decode cX7_copyOf 38 = .ok (.goto (-28), 3) := by decide +kernel
theorem eX7_copyOf_41 : decode cX7_copyOf 41 = .ok (.return_, 1) := by decide +kernel
abbrev vs_E_7_copyOf_16 : List Cond := .code yX7_copyOf cX7_copyOf 3 none :: CM
noncomputable def sp_E_7_copyOf_16_L1 (zm : Nat) (fo : Nat → Int32) : ((Nat → Int32) × Nat) → ((Nat → Int32) × Nat) ⊕ ((Nat → Int32)) := fun (g_3, g_4) => (if (zm * zm) ≤ g_4 then (Sum.inr g_3) else (slet (fo g_4) (fun y_13 => (slet (upd g_3 g_4 y_13) (fun f_14 => (Sum.inl (f_14, (g_4 + 1))))))))
noncomputable def sp_E_7_copyOf_16 (zm : Nat) (fo : Nat → Int32) (fz : Nat → Int32) : (Nat → Int32) := (itrv (α := (Nat → Int32) × Nat) (β := ((Nat → Int32))) default (sp_E_7_copyOf_16_L1 zm fo) (fz, 0))
set_option maxHeartbeats 4000000 in
set_option maxRecDepth 100000 in
theorem c_E_7_copyOf_16 (l : Launch) (dC : Nat → ClassId) (dI : Nat → Nat → Nat) (sz : Nat) (zo : Nat) (zd : Nat) (zm : Nat) (k_fo : ClassId) (fo : Nat → Int32) (z : Nat) (zc : Nat) (zn : Nat) (k_fz : ClassId) (fz : Nat → Int32) (hzm : zm ≤ 4) (hzn : zn ≤ 4) : Met l yX7_copyOf vs_E_7_copyOf_16 ({ frames := 0, cells := 0, slots := 0, locals := 0 }) (va_Pc [.ref z, .ref zo] (pu_B (dC, dI) (zz16__w zo zd (nI zm) k_fo fo z zc (nI zn) k_fz fz) (zz16__t k_fo k_fz) sz)) (va_Qv (fun (_ : Unit) => True) (fun _ t => ∃ (z_fz : Nat → Int32), pu_E (dC, dI) (zz16__w zo zd (nI zm) k_fo fo z zc (nI zm) k_fz z_fz) (zz16__t k_fo k_fz) (va_A ((zz16__w zo zd (nI zm) k_fo fo z zc (nI zn) k_fz fz)) sz) t ∧ (z_fz = (sp_E_7_copyOf_16 zm fo fz))) (va_A ((zz16__w zo zd (nI zm) k_fo fo z zc (nI zn) k_fz fz)) sz)) 0 0 (va_A ((zz16__w zo zd (nI zm) k_fo fo z zc (nI zn) k_fz fz)) sz) := by
  refine Met.ofW (cc := cX7_copyOf) (maxL := 3) (ret := none) (by decide) rfl ?_
  intro p e s m args below meth c s₁ B hml hv
  obtain ⟨rfl, rfl, hP, hK, hD0⟩ := hv
  have hx := B.exec
  have hb := B.bytes
  have hr := B.returns
  have hts := atoms_spec (ws := vs_E_7_copyOf_16) B.pre
  have v_1 := hts (.fieldLink RX7 18 "ClockReach$Zone" "size" "I") (List.mem_cons_of_mem _ cm_48)
  have v_2 := hts (.fieldLink RX7 11 "ClockReach$Zone" "cells" "[I") (List.mem_cons_of_mem _ cm_47)
  have hown : s.vm.findClass RX7 = some m.cls := findClass_of_methodNamed B.named
  have hlocks := B.notSynchronized
  have hiX7 : ∀ w ∈ wsX70, w ∈ vs_E_7_copyOf_16 := fun _ h => List.mem_cons_of_mem _ (cm_X7 h)
  have hD := hD0.self (sz := s.heap.size)
  generalize hAe : va_A ((zz16__w zo zd (nI zm) k_fo fo z zc (nI zn) k_fz fz)) s.heap.size = A at hD ⊢
  have hA : ∀ q : Nat, s.heap.size ≤ q → A q := fun q h => by rw [← hAe]; exact Or.inr h
  have hS : va_S A s.heap s.heap [] := va_S.rf
  have hl := lv_entry ([.ref z, .ref zo]) (n := 3) (Nat.le_of_ble_eq_true rfl)
  rw [lg_entry_eq]
  generalize (lg_sl ([.ref z, .ref zo]) ++ List.replicate (3 - (lg_sl ([.ref z, .ref zo])).length) Slot.unset).toArray = ls at hl ⊢
  have hl : lv_has ls 3 [(0, .ref z), (1, .ref zo)] := hl
  have hzz := zz4 hzn
  have hzy := zz4 hzm
  obtain ⟨RR, hRR⟩ : ∃ x, x = (sp_E_7_copyOf_16 zm fo fz) := ⟨_, rfl⟩
  have hsp := hRR
  refine lv_aload_n hx hb eX7_copyOf_0 rfl (lv_at hl 0 rfl) ?_
  refine lv_aload_n hx hb eX7_copyOf_1 rfl (lv_at hl 1 rfl) ?_
  refine va_get (D := (dC, dI)) (ci := 7) (v := .int (nI zm)) (C := RX7) (T := TX7) (N := 2) hx hb hts hiX7 hown hK hP 0 rfl rfl 1 (by decide) v_1 (fun _ h9 => h9) rfl eX7_copyOf_2 ?_
  refine va_put (D := (dC, dI)) (ci := 7) (v := .int (nI zm)) (ty := .int) (C := RX7) (T := TX7) (N := 2) hx hb hts hiX7 tyX7 tyX7_ok nmX7 hown hK hP hD hS 2 rfl rfl 1 (by decide) v_1 (fun _ h9 => h9) rfl (by decide +kernel) rfl rfl (Nat.le_of_ble_eq_true rfl) eX7_copyOf_5 (fun H locs hP hD hS => ?_)
  have hP : va_P (dC, dI) vwCl (zz16__w zo zd (nI zm) k_fo fo z zc (nI zm) k_fz fz) H := hP
  have hD : va_D A (zz16__w zo zd (nI zm) k_fo fo z zc (nI zm) k_fz fz) := hD
  refine lv_iconst (v := 0) hx hb eX7_copyOf_8 (by decide) ?_
  refine lv_istore_n (lv' := [(2, .int 0), (0, .ref z), (1, .ref zo)]) hx hb eX7_copyOf_9 rfl hl (by decide) rfl (fun ls hl => ?_)
  obtain ⟨lf_6, dlf_6, hlf_6, hsp⟩ := itr_ex hsp
  delta sp_E_7_copyOf_16_L1 at hlf_6
  refine pu_while (fun nn H locs ls => ∃ (g_3 : Nat → Int32) (g_4 : Nat), nn = 16 - g_4 ∧ g_4 ≤ 16 ∧ RR = itrv dlf_6 lf_6 (g_3, g_4) ∧ va_P (dC, dI) vwCl (zz16__w zo zd (nI zm) k_fo fo z zc (nI zm) k_fz g_3) H ∧ va_D A (zz16__w zo zd (nI zm) k_fo fo z zc (nI zm) k_fz g_3) ∧ va_S A s.heap H locs ∧ lv_has ls 3 [(0, .ref z), (1, .ref zo), (2, .int (nI g_4))]) 10 ?_ _ _ _ _ ⟨fz, 0, rfl, (Nat.le_of_ble_eq_true rfl), hsp, hP, hD, hS, lv_sub hl [1, 2, 0] rfl⟩
  rintro nn ih_5 H locs ls ⟨g_3, g_4, rfl, hg_4, he_8, hP, hD, hS, hl⟩
  obtain ⟨S_7, hsp, hin_9, hout_10⟩ := itr_step hlf_6 he_8
  refine lv_iload_n hx hb eX7_copyOf_10 rfl (lv_at hl 2 rfl) ?_
  refine lv_aload_n hx hb eX7_copyOf_11 rfl (lv_at hl 0 rfl) ?_
  refine va_get (D := (dC, dI)) (ci := 7) (v := .int (nI zm)) (C := RX7) (T := TX7) (N := 2) hx hb hts hiX7 hown hK hP 2 rfl rfl 1 (by decide) v_1 (fun _ h9 => h9) rfl eX7_copyOf_12 ?_
  refine lv_aload_n hx hb eX7_copyOf_15 rfl (lv_at hl 0 rfl) ?_
  refine va_get (D := (dC, dI)) (ci := 7) (v := .int (nI zm)) (C := RX7) (T := TX7) (N := 2) hx hb hts hiX7 hown hK hP 2 rfl rfl 1 (by decide) v_1 (fun _ h9 => h9) rfl eX7_copyOf_16 ?_
  refine lv_imul hx hb eX7_copyOf_19 ?_
  refine lv_topi (fun y_11 ey_11 => ?_)
  obtain rfl : y_11 = (nI (zm * zm)) := ey_11.trans (pk_mul zm zm)
  refine lv_icmp_ge (tgt := 41) hx hb eX7_copyOf_20 (by decide) (fun c_12 => ?_) (fun c_12 => ?_)
  · have c_12 : (zm * zm) ≤ g_4 := (nI_leI (a := (zm * zm)) (b := g_4) (by first | omega | exact Nat.lt_trans (zx16 (by omega) (by omega) (by omega)) (Nat.le_of_ble_eq_true rfl) | exact Nat.lt_trans (zy16 (by omega) (by omega)) (Nat.le_of_ble_eq_true rfl) | exact Nat.lt_trans (zx25 (by omega) (by omega) (by omega)) (Nat.le_of_ble_eq_true rfl) | exact Nat.lt_trans (zy25 (by omega) (by omega)) (Nat.le_of_ble_eq_true rfl)) (Nat.lt_of_le_of_lt hg_4 (Nat.le_of_ble_eq_true rfl))).mp c_12
    have hsp := hsp.trans (if_pos c_12)
    have hsp := hout_10 _ hsp
    exact W.vret hx hb hr (fun t ht hW => ⟨⟨(), rfl, trivial, ⟨g_3, ⟨by rw [ht]; exact hP, va_K.moved hW.alike hK, hD⟩, (hsp.symm.trans hRR)⟩⟩, hS.F ht⟩) hS.2.2 eX7_copyOf_41
  · have c_12 : ¬ (zm * zm) ≤ g_4 := fun z => c_12 ((nI_leI (a := (zm * zm)) (b := g_4) (by first | omega | exact Nat.lt_trans (zx16 (by omega) (by omega) (by omega)) (Nat.le_of_ble_eq_true rfl) | exact Nat.lt_trans (zy16 (by omega) (by omega)) (Nat.le_of_ble_eq_true rfl) | exact Nat.lt_trans (zx25 (by omega) (by omega) (by omega)) (Nat.le_of_ble_eq_true rfl) | exact Nat.lt_trans (zy25 (by omega) (by omega)) (Nat.le_of_ble_eq_true rfl)) (Nat.lt_of_le_of_lt hg_4 (Nat.le_of_ble_eq_true rfl))).mpr z)
    have hsp := hsp.trans (if_neg c_12)
    refine lv_aload_n hx hb eX7_copyOf_23 rfl (lv_at hl 0 rfl) ?_
    refine va_get (D := (dC, dI)) (ci := 7) (v := .ref zc) (C := RX7) (T := TX7) (N := 2) hx hb hts hiX7 hown hK hP 2 rfl rfl 0 (by decide) v_2 (fun _ h9 => h9) rfl eX7_copyOf_24 ?_
    refine lv_iload_n hx hb eX7_copyOf_27 rfl (lv_at hl 2 rfl) ?_
    refine lv_aload_n hx hb eX7_copyOf_28 rfl (lv_at hl 1 rfl) ?_
    refine va_get (D := (dC, dI)) (ci := 7) (v := .ref zd) (C := RX7) (T := TX7) (N := 2) hx hb hts hiX7 hown hK hP 0 rfl rfl 0 (by decide) v_2 (fun _ h9 => h9) rfl eX7_copyOf_29 ?_
    refine lv_iload_n hx hb eX7_copyOf_32 rfl (lv_at hl 2 rfl) ?_
    refine va_iald hx hb hK hP 1 0 rfl rfl (vp_in_nI (n := g_4) (by omega) (Nat.le_of_ble_eq_true rfl)) eX7_copyOf_33 ?_
    refine lv_topi (fun y_13 ey_13 => ?_)
    have ey_13 : y_13 = fo g_4 := ey_13.trans (congrArg fo (nI_clamp (n := g_4) (Nat.lt_of_le_of_lt hg_4 (Nat.le_of_ble_eq_true rfl))))
    have hsp := hsp.trans (slet_eq ey_13)
    refine va_iast hx hb hK hP hD hS 3 1 rfl rfl (vp_in_nI (n := g_4) (by omega) (Nat.le_of_ble_eq_true rfl)) eX7_copyOf_34 (fun H locs hP hD hS => ?_)
    obtain ⟨f_14, ef_14, xf_14⟩ := up_x g_3 (n := g_4) y_13 (Nat.lt_of_le_of_lt hg_4 (Nat.le_of_ble_eq_true rfl))
    have hP : va_P (dC, dI) vwCl (zz16__w zo zd (nI zm) k_fo fo z zc (nI zm) k_fz f_14) H := by rw [← ef_14]; exact hP
    have hD : va_D A (zz16__w zo zd (nI zm) k_fo fo z zc (nI zm) k_fz f_14) := by rw [← ef_14]; exact hD
    have hsp := hsp.trans (slet_eq xf_14)
    refine lv_iinc (v := (nI (g_4 + 1))) (lv' := [(2, .int (nI (g_4 + 1))), (0, .ref z), (1, .ref zo)]) hx hb eX7_copyOf_35 hl (k := 2) rfl (nI_1 _) (by decide) rfl (fun ls hl => ?_)
    refine lv_goto (tgt := 10) hx hb eX7_copyOf_38 (by decide) ?_
    exact ih_5 (16 - (g_4 + 1)) (by omega) _ _ _ ⟨f_14, (g_4 + 1), rfl, (by omega), hin_9 _ hsp, hP, hD, hS, lv_sub hl [1, 2, 0] rfl⟩
theorem eX7_narrow_0 : decode cX7_narrow 0 = .ok (.iload_n 3, 1) := by decide +kernel
theorem eX7_narrow_1 : decode cX7_narrow 1 = .ok (.aload_n 0, 1) := by decide +kernel
theorem eX7_narrow_2 : decode cX7_narrow 2 = .ok (.getfield 11, 3) := by decide +kernel
theorem eX7_narrow_5 : decode cX7_narrow 5 = .ok (.iload_n 1, 1) := by decide +kernel
theorem eX7_narrow_6 : decode cX7_narrow 6 = .ok (.aload_n 0, 1) := by decide +kernel
theorem eX7_narrow_7 : decode cX7_narrow 7 = .ok (.getfield 18, 3) := by decide +kernel
theorem eX7_narrow_10 : decode cX7_narrow 10 = .ok (.imul, 1) := by decide +kernel
theorem eX7_narrow_11 : decode cX7_narrow 11 = .ok (.iload_n 2, 1) := by decide +kernel
theorem eX7_narrow_12 : decode cX7_narrow 12 = .ok (.iadd, 1) := by decide +kernel
theorem eX7_narrow_13 : decode cX7_narrow 13 = .ok (.iaload, 1) := by decide +kernel
theorem eX7_narrow_14 : decode cX7_narrow 14 = .ok (.if_icmp .lt 5, 3) := by decide +kernel
theorem eX7_narrow_17 : decode cX7_narrow 17 = .ok (.iconst 1, 1) := by decide +kernel
theorem eX7_narrow_18 : decode cX7_narrow 18 = .ok (.ireturn, 1) := by decide +kernel
theorem eX7_narrow_19 : decode cX7_narrow 19 = .ok (.aload_n 0, 1) := by decide +kernel
theorem eX7_narrow_20 : decode cX7_narrow 20 = .ok (.getfield 11, 3) := by decide +kernel
theorem eX7_narrow_23 : decode cX7_narrow 23 = .ok (.iload_n 2, 1) := by decide +kernel
theorem eX7_narrow_24 : decode cX7_narrow 24 = .ok (.aload_n 0, 1) := by decide +kernel
theorem eX7_narrow_25 : decode cX7_narrow 25 = .ok (.getfield 18, 3) := by decide +kernel
theorem eX7_narrow_28 : decode cX7_narrow 28 = .ok (.imul, 1) := by decide +kernel
theorem eX7_narrow_29 : decode cX7_narrow 29 = .ok (.iload_n 1, 1) := by decide +kernel
theorem eX7_narrow_30 : decode cX7_narrow 30 = .ok (.iadd, 1) := by decide +kernel
theorem eX7_narrow_31 : decode cX7_narrow 31 = .ok (.iaload, 1) := by decide +kernel
theorem eX7_narrow_32 : decode cX7_narrow 32 = .ok (.istore 4, 2) := by decide +kernel
theorem eX7_narrow_34 : decode cX7_narrow 34 = .ok (.iload 4, 2) := by decide +kernel
theorem eX7_narrow_36 : decode cX7_narrow 36 = .ok (.ldc 17, 2) := by decide +kernel
theorem eX7_narrow_38 : decode cX7_narrow 38 = .ok (.if_icmp .eq 20, 3) := by decide +kernel
theorem eX7_narrow_41 : decode cX7_narrow 41 = .ok (.iload 4, 2) := by decide +kernel
theorem eX7_narrow_43 : decode cX7_narrow 43 = .ok (.iload_n 3, 1) := by decide +kernel
theorem eX7_narrow_44 : decode cX7_narrow 44 = .ok (.iadd, 1) := by decide +kernel
theorem eX7_narrow_45 : decode cX7_narrow 45 = .ok (.iload 4, 2) := by decide +kernel
theorem eX7_narrow_47 : decode cX7_narrow 47 = .ok (.iload_n 3, 1) := by decide +kernel
theorem eX7_narrow_48 : decode cX7_narrow 48 = .ok (.ior, 1) := by decide +kernel
theorem eX7_narrow_49 : decode cX7_narrow 49 = .ok (.iconst 1, 1) := by decide +kernel
theorem eX7_narrow_50 : decode cX7_narrow 50 = .ok (.iand, 1) := by decide +kernel
theorem eX7_narrow_51 : decode cX7_narrow 51 = .ok (.isub, 1) := by decide +kernel
theorem eX7_narrow_52 : decode cX7_narrow 52 = .ok (.iconst 1, 1) := by decide +kernel
theorem eX7_narrow_53 : decode cX7_narrow 53 = .ok (.if_icmp .ge 5, 3) := by decide +kernel
theorem eX7_narrow_56 : decode cX7_narrow 56 = .ok (.iconst 0, 1) := by decide +kernel
theorem eX7_narrow_57 : decode cX7_narrow 57 = .ok (.ireturn, 1) := by decide +kernel
theorem eX7_narrow_58 : decode cX7_narrow 58 = .ok (.iconst 0, 1) := by decide +kernel
theorem eX7_narrow_59 : decode cX7_narrow 59 = .ok (.istore 5, 2) := by decide +kernel
theorem eX7_narrow_61 : decode cX7_narrow 61 = .ok (.iload 5, 2) := by decide +kernel
theorem eX7_narrow_63 : decode cX7_narrow 63 = .ok (.aload_n 0, 1) := by decide +kernel
theorem eX7_narrow_64 : decode cX7_narrow 64 = .ok (.getfield 18, 3) := by decide +kernel
theorem eX7_narrow_67 : decode cX7_narrow 67 = .ok (.if_icmp .ge 144, 3) := by decide +kernel
theorem eX7_narrow_70 : decode cX7_narrow 70 = .ok (.aload_n 0, 1) := by decide +kernel
theorem eX7_narrow_71 : decode cX7_narrow 71 = .ok (.getfield 11, 3) := by decide +kernel
theorem eX7_narrow_74 : decode cX7_narrow 74 = .ok (.iload 5, 2) := by decide +kernel
theorem eX7_narrow_76 : decode cX7_narrow 76 = .ok (.aload_n 0, 1) := by decide +kernel
theorem eX7_narrow_77 : decode cX7_narrow 77 = .ok (.getfield 18, 3) := by decide +kernel
theorem eX7_narrow_80 : decode cX7_narrow 80 = .ok (.imul, 1) := by decide +kernel
theorem eX7_narrow_81 : decode cX7_narrow 81 = .ok (.iload_n 1, 1) := by decide +kernel
theorem eX7_narrow_82 : decode cX7_narrow 82 = .ok (.iadd, 1) := by decide +kernel
theorem eX7_narrow_83 : decode cX7_narrow 83 = .ok (.iaload, 1) := by decide +kernel
theorem eX7_narrow_84 : decode cX7_narrow 84 = .ok (.istore 6, 2) := by decide +kernel
theorem eX7_narrow_86 : decode cX7_narrow 86 = .ok (.iload 6, 2) := by decide +kernel
theorem eX7_narrow_88 : decode cX7_narrow 88 = .ok (.ldc 17, 2) := by decide +kernel
theorem eX7_narrow_90 : decode cX7_narrow 90 = .ok (.if_icmp .ne 6, 3) := by decide +kernel
theorem eX7_narrow_93 : decode cX7_narrow 93 = .ok (.goto 112, 3) := by decide +kernel
theorem eX7_narrow_96 : decode cX7_narrow 96 = .ok (.iload 6, 2) := by decide +kernel
theorem eX7_narrow_98 : decode cX7_narrow 98 = .ok (.iload_n 3, 1) := by decide +kernel
theorem eX7_narrow_99 : decode cX7_narrow 99 = .ok (.iadd, 1) := by decide +kernel
theorem eX7_narrow_100 : decode cX7_narrow 100 = .ok (.iload 6, 2) := by decide +kernel
theorem eX7_narrow_102 : decode cX7_narrow 102 = .ok (.iload_n 3, 1) := by decide +kernel
theorem eX7_narrow_103 : decode cX7_narrow 103 = .ok (.ior, 1) := by decide +kernel
theorem eX7_narrow_104 : decode cX7_narrow 104 = .ok (.iconst 1, 1) := by decide +kernel
theorem eX7_narrow_105 : decode cX7_narrow 105 = .ok (.iand, 1) := by decide +kernel
theorem eX7_narrow_106 : decode cX7_narrow 106 = .ok (.isub, 1) := by decide +kernel
theorem eX7_narrow_107 : decode cX7_narrow 107 = .ok (.istore 6, 2) := by decide +kernel
theorem eX7_narrow_109 : decode cX7_narrow 109 = .ok (.iconst 0, 1) := by decide +kernel
theorem eX7_narrow_110 : decode cX7_narrow 110 = .ok (.istore 7, 2) := by decide +kernel
theorem eX7_narrow_112 : decode cX7_narrow 112 = .ok (.iload 7, 2) := by decide +kernel
theorem eX7_narrow_114 : decode cX7_narrow 114 = .ok (.aload_n 0, 1) := by decide +kernel
theorem eX7_narrow_115 : decode cX7_narrow 115 = .ok (.getfield 18, 3) := by decide +kernel
theorem eX7_narrow_118 : decode cX7_narrow 118 = .ok (.if_icmp .ge 87, 3) := by decide +kernel
theorem eX7_narrow_121 : decode cX7_narrow 121 = .ok (.aload_n 0, 1) := by decide +kernel
theorem eX7_narrow_122 : decode cX7_narrow 122 = .ok (.getfield 11, 3) := by decide +kernel
theorem eX7_narrow_125 : decode cX7_narrow 125 = .ok (.iload_n 2, 1) := by decide +kernel
theorem eX7_narrow_126 : decode cX7_narrow 126 = .ok (.aload_n 0, 1) := by decide +kernel
theorem eX7_narrow_127 : decode cX7_narrow 127 = .ok (.getfield 18, 3) := by decide +kernel
theorem eX7_narrow_130 : decode cX7_narrow 130 = .ok (.imul, 1) := by decide +kernel
theorem eX7_narrow_131 : decode cX7_narrow 131 = .ok (.iload 7, 2) := by decide +kernel
theorem eX7_narrow_133 : decode cX7_narrow 133 = .ok (.iadd, 1) := by decide +kernel
theorem eX7_narrow_134 : decode cX7_narrow 134 = .ok (.iaload, 1) := by decide +kernel
theorem eX7_narrow_135 : decode cX7_narrow 135 = .ok (.istore 8, 2) := by decide +kernel
theorem eX7_narrow_137 : decode cX7_narrow 137 = .ok (.iload 8, 2) := by decide +kernel
theorem eX7_narrow_139 : decode cX7_narrow 139 = .ok (.ldc 17, 2) := by decide +kernel
theorem eX7_narrow_141 : decode cX7_narrow 141 = .ok (.if_icmp .ne 6, 3) := by decide +kernel
theorem eX7_narrow_144 : decode cX7_narrow 144 = .ok (.goto 55, 3) := by decide +kernel
theorem eX7_narrow_147 : decode cX7_narrow 147 = .ok (.iload 6, 2) := by decide +kernel
theorem eX7_narrow_149 : decode cX7_narrow 149 = .ok (.iload 8, 2) := by decide +kernel
theorem eX7_narrow_151 : decode cX7_narrow 151 = .ok (.iadd, 1) := by decide +kernel
theorem eX7_narrow_152 : decode cX7_narrow 152 = .ok (.iload 6, 2) := by decide +kernel
theorem eX7_narrow_154 : decode cX7_narrow 154 = .ok (.iload 8, 2) := by decide +kernel
theorem eX7_narrow_156 : decode cX7_narrow 156 = .ok (.ior, 1) := by decide +kernel
theorem eX7_narrow_157 : decode cX7_narrow 157 = .ok (.iconst 1, 1) := by decide +kernel
theorem eX7_narrow_158 : decode cX7_narrow 158 = .ok (.iand, 1) := by decide +kernel
theorem eX7_narrow_159 : decode cX7_narrow 159 = .ok (.isub, 1) := by decide +kernel
theorem eX7_narrow_160 : decode cX7_narrow 160 = .ok (.istore 9, 2) := by decide +kernel
theorem eX7_narrow_162 : decode cX7_narrow 162 = .ok (.iload 9, 2) := by decide +kernel
theorem eX7_narrow_164 : decode cX7_narrow 164 = .ok (.aload_n 0, 1) := by decide +kernel
theorem eX7_narrow_165 : decode cX7_narrow 165 = .ok (.getfield 11, 3) := by decide +kernel
theorem eX7_narrow_168 : decode cX7_narrow 168 = .ok (.iload 5, 2) := by decide +kernel
theorem eX7_narrow_170 : decode cX7_narrow 170 = .ok (.aload_n 0, 1) := by decide +kernel
theorem eX7_narrow_171 : decode cX7_narrow 171 = .ok (.getfield 18, 3) := by decide +kernel
theorem eX7_narrow_174 : decode cX7_narrow 174 = .ok (.imul, 1) := by decide +kernel
theorem eX7_narrow_175 : decode cX7_narrow 175 = .ok (.iload 7, 2) := by decide +kernel
theorem eX7_narrow_177 : decode cX7_narrow 177 = .ok (.iadd, 1) := by decide +kernel
theorem eX7_narrow_178 : decode cX7_narrow 178 = .ok (.iaload, 1) := by decide +kernel
theorem eX7_narrow_179 : decode cX7_narrow 179 = .ok (.if_icmp .ge 20, 3) := by decide +kernel
theorem eX7_narrow_182 : decode cX7_narrow 182 = .ok (.aload_n 0, 1) := by decide +kernel
theorem eX7_narrow_183 : decode cX7_narrow 183 = .ok (.getfield 11, 3) := by decide +kernel
theorem eX7_narrow_186 : decode cX7_narrow 186 = .ok (.iload 5, 2) := by decide +kernel
theorem eX7_narrow_188 : decode cX7_narrow 188 = .ok (.aload_n 0, 1) := by decide +kernel
theorem eX7_narrow_189 : decode cX7_narrow 189 = .ok (.getfield 18, 3) := by decide +kernel
theorem eX7_narrow_192 : decode cX7_narrow 192 = .ok (.imul, 1) := by decide +kernel
theorem eX7_narrow_193 : decode cX7_narrow 193 = .ok (.iload 7, 2) := by decide +kernel
theorem eX7_narrow_195 : decode cX7_narrow 195 = .ok (.iadd, 1) := by decide +kernel
theorem eX7_narrow_196 : decode cX7_narrow 196 = .ok (.iload 9, 2) := by decide +kernel
theorem eX7_narrow_198 : decode cX7_narrow 198 = .ok (.iastore, 1) := by decide +kernel
theorem eX7_narrow_199 : decode cX7_narrow 199 = .ok (.iinc 7 1, 3) := by decide +kernel
theorem eX7_narrow_202 : decode cX7_narrow 202 = .ok (.goto (-90), 3) := by decide +kernel
theorem eX7_narrow_205 : decode cX7_narrow 205 = .ok (.iinc 5 1, 3) := by decide +kernel
theorem eX7_narrow_208 : decode cX7_narrow 208 = .ok (.goto (-147), 3) := by decide +kernel
theorem eX7_narrow_211 : decode cX7_narrow 211 = .ok (.iconst 1, 1) := by decide +kernel
theorem eX7_narrow_212 : decode cX7_narrow 212 = .ok (.ireturn, 1) := by decide +kernel
abbrev vs_E_7_narrow_16 : List Cond := .code yX7_narrow cX7_narrow 10 (some .boolean) :: CM
noncomputable def sp_E_7_narrow_16_L1 (zn : Nat) (a1 : Nat) (y_32 : Int32) (g_12 : Nat) : ((Nat → Int32) × Nat) → ((Nat → Int32) × Nat) ⊕ (Int32 × (Nat → Int32)) := fun (g_35, g_36) => (if zn ≤ g_36 then (Sum.inr (y_32, g_35)) else (slet (g_35 ((a1 * zn) + g_36)) (fun y_46 => (slet (α := (Nat → Int32)) (if (y_46 : Int32) = 2147483647 then g_35 else (slet ((y_32 : Int32) + y_46) (fun y_52 => (slet ((y_32 : Int32) ||| (y_46 : Int32)) (fun y_53 => (slet ((y_53 : Int32) &&& (1 : Int32)) (fun y_54 => (slet ((y_52 : Int32) - y_54) (fun y_55 => (slet (g_35 ((g_12 * zn) + g_36)) (fun y_58 => (if (y_58 : Int32) ≤ y_55 then g_35 else (slet (upd g_35 ((g_12 * zn) + g_36) y_55) (fun f_62 => f_62)))))))))))))) (fun g_47 => (Sum.inl (g_47, (g_36 + 1))))))))
noncomputable def sp_E_7_narrow_16_L2 (zn : Nat) (a0 : Nat) (a1 : Nat) (p2 : Int32) : ((Nat → Int32) × Nat) → ((Nat → Int32) × Nat) ⊕ (Nat × (Nat → Int32)) := fun (g_11, g_12) => (if zn ≤ g_12 then (Sum.inr (1, g_11)) else (slet (g_11 ((g_12 * zn) + a0)) (fun y_22 => (slet (α := Int32 × (Nat → Int32)) (if (y_22 : Int32) = 2147483647 then (y_22, g_11) else (slet ((y_22 : Int32) + p2) (fun y_29 => (slet ((y_22 : Int32) ||| (p2 : Int32)) (fun y_30 => (slet ((y_30 : Int32) &&& (1 : Int32)) (fun y_31 => (slet ((y_29 : Int32) - y_31) (fun y_32 => (itrv (α := (Nat → Int32) × Nat) (β := (Int32 × (Nat → Int32))) default (sp_E_7_narrow_16_L1 zn a1 y_32 g_12) (g_11, 0))))))))))) (fun (g_23, g_24) => (Sum.inl (g_24, (g_12 + 1))))))))
noncomputable def sp_E_7_narrow_16_L3 (zn : Nat) (a1 : Nat) (y_91 : Int32) (g_71 : Nat) : ((Nat → Int32) × Nat) → ((Nat → Int32) × Nat) ⊕ (Int32 × (Nat → Int32)) := fun (g_94, g_95) => (if zn ≤ g_95 then (Sum.inr (y_91, g_94)) else (slet (g_94 ((a1 * zn) + g_95)) (fun y_105 => (slet (α := (Nat → Int32)) (if (y_105 : Int32) = 2147483647 then g_94 else (slet ((y_91 : Int32) + y_105) (fun y_111 => (slet ((y_91 : Int32) ||| (y_105 : Int32)) (fun y_112 => (slet ((y_112 : Int32) &&& (1 : Int32)) (fun y_113 => (slet ((y_111 : Int32) - y_113) (fun y_114 => (slet (g_94 ((g_71 * zn) + g_95)) (fun y_117 => (if (y_117 : Int32) ≤ y_114 then g_94 else (slet (upd g_94 ((g_71 * zn) + g_95) y_114) (fun f_121 => f_121)))))))))))))) (fun g_106 => (Sum.inl (g_106, (g_95 + 1))))))))
noncomputable def sp_E_7_narrow_16_L4 (zn : Nat) (a0 : Nat) (a1 : Nat) (p2 : Int32) : ((Nat → Int32) × Nat) → ((Nat → Int32) × Nat) ⊕ (Nat × (Nat → Int32)) := fun (g_70, g_71) => (if zn ≤ g_71 then (Sum.inr (1, g_70)) else (slet (g_70 ((g_71 * zn) + a0)) (fun y_81 => (slet (α := Int32 × (Nat → Int32)) (if (y_81 : Int32) = 2147483647 then (y_81, g_70) else (slet ((y_81 : Int32) + p2) (fun y_88 => (slet ((y_81 : Int32) ||| (p2 : Int32)) (fun y_89 => (slet ((y_89 : Int32) &&& (1 : Int32)) (fun y_90 => (slet ((y_88 : Int32) - y_90) (fun y_91 => (itrv (α := (Nat → Int32) × Nat) (β := (Int32 × (Nat → Int32))) default (sp_E_7_narrow_16_L3 zn a1 y_91 g_71) (g_70, 0))))))))))) (fun (g_82, g_83) => (Sum.inl (g_83, (g_71 + 1))))))))
noncomputable def sp_E_7_narrow_16 (zn : Nat) (fz : Nat → Int32) (a0 : Nat) (a1 : Nat) (p2 : Int32) : Nat × (Nat → Int32) := (slet (fz ((a0 * zn) + a1)) (fun y_3 => (if (p2 : Int32) < y_3 then (slet (fz ((a1 * zn) + a0)) (fun y_7 => (if (y_7 : Int32) = 2147483647 then (itrv (α := (Nat → Int32) × Nat) (β := (Nat × (Nat → Int32))) default (sp_E_7_narrow_16_L2 zn a0 a1 p2) (fz, 0)) else (slet ((y_7 : Int32) + p2) (fun y_63 => (slet ((y_7 : Int32) ||| (p2 : Int32)) (fun y_64 => (slet ((y_64 : Int32) &&& (1 : Int32)) (fun y_65 => (slet ((y_63 : Int32) - y_65) (fun y_66 => (if (1 : Int32) ≤ y_66 then (itrv (α := (Nat → Int32) × Nat) (β := (Nat × (Nat → Int32))) default (sp_E_7_narrow_16_L4 zn a0 a1 p2) (fz, 0)) else (0, fz))))))))))))) else (1, fz))))
set_option maxHeartbeats 4000000 in
set_option maxRecDepth 100000 in
theorem c_E_7_narrow_16 (l : Launch) (dC : Nat → ClassId) (dI : Nat → Nat → Nat) (sz : Nat) (z : Nat) (zc : Nat) (zn : Nat) (k_fz : ClassId) (fz : Nat → Int32) (a0 : Nat) (a1 : Nat) (p2 : Int32) (hzn : zn ≤ 4) (ha0 : a0 ≤ 3) (ha1 : a1 ≤ 3) : Met l yX7_narrow vs_E_7_narrow_16 ({ frames := 0, cells := 0, slots := 0, locals := 0 }) (va_Pc [.ref z, .int (nI a0), .int (nI a1), .int p2] (pu_B (dC, dI) (z16__w z zc (nI zn) k_fz fz) (z16__t k_fz) sz)) (va_Qi (fun (r : Int32) (_ : Unit) => ∃ v : Nat, v ≤ 1 ∧ r = nI v ∧ v = (sp_E_7_narrow_16 zn fz a0 a1 p2).1) (fun _ t => ∃ (z_fz : Nat → Int32), pu_E (dC, dI) (z16__w z zc (nI zn) k_fz z_fz) (z16__t k_fz) (va_A ((z16__w z zc (nI zn) k_fz fz)) sz) t ∧ (z_fz = (sp_E_7_narrow_16 zn fz a0 a1 p2).2)) (va_A ((z16__w z zc (nI zn) k_fz fz)) sz)) 0 0 (va_A ((z16__w z zc (nI zn) k_fz fz)) sz) := by
  refine Met.ofW (cc := cX7_narrow) (maxL := 10) (ret := (some .boolean)) (by decide) rfl ?_
  intro p e s m args below meth c s₁ B hml hv
  obtain ⟨rfl, rfl, hP, hK, hD0⟩ := hv
  have hx := B.exec
  have hb := B.bytes
  have hr := B.returns
  have hts := atoms_spec (ws := vs_E_7_narrow_16) B.pre
  have v_1 := hts (.fieldLink RX7 11 "ClockReach$Zone" "cells" "[I") (List.mem_cons_of_mem _ cm_47)
  have v_2 := hts (.fieldLink RX7 18 "ClockReach$Zone" "size" "I") (List.mem_cons_of_mem _ cm_48)
  have v_3 := hts (.constant RX7 17 (2147483647)) (List.mem_cons_of_mem _ cm_49)
  have hown : s.vm.findClass RX7 = some m.cls := findClass_of_methodNamed B.named
  have hlocks := B.notSynchronized
  have hiX7 : ∀ w ∈ wsX70, w ∈ vs_E_7_narrow_16 := fun _ h => List.mem_cons_of_mem _ (cm_X7 h)
  have hD := hD0.self (sz := s.heap.size)
  generalize hAe : va_A ((z16__w z zc (nI zn) k_fz fz)) s.heap.size = A at hD ⊢
  have hA : ∀ q : Nat, s.heap.size ≤ q → A q := fun q h => by rw [← hAe]; exact Or.inr h
  have hS : va_S A s.heap s.heap [] := va_S.rf
  have hl := lv_entry ([.ref z, .int (nI a0), .int (nI a1), .int p2]) (n := 10) (Nat.le_of_ble_eq_true rfl)
  rw [lg_entry_eq]
  generalize (lg_sl ([.ref z, .int (nI a0), .int (nI a1), .int p2]) ++ List.replicate (10 - (lg_sl ([.ref z, .int (nI a0), .int (nI a1), .int p2])).length) Slot.unset).toArray = ls at hl ⊢
  have hl : lv_has ls 10 [(0, .ref z), (1, .int (nI a0)), (2, .int (nI a1)), (3, .int p2)] := hl
  have hzz := zz4 hzn
  obtain ⟨RR, hRR⟩ : ∃ x, x = (sp_E_7_narrow_16 zn fz a0 a1 p2) := ⟨_, rfl⟩
  have hsp := hRR
  refine lv_iload_n hx hb eX7_narrow_0 rfl (lv_at hl 3 rfl) ?_
  refine lv_aload_n hx hb eX7_narrow_1 rfl (lv_at hl 0 rfl) ?_
  refine va_get (D := (dC, dI)) (ci := 7) (v := .ref zc) (C := RX7) (T := TX7) (N := 2) hx hb hts hiX7 hown hK hP 0 rfl rfl 0 (by decide) v_1 (fun _ h9 => h9) rfl eX7_narrow_2 ?_
  refine lv_iload_n hx hb eX7_narrow_5 rfl (lv_at hl 1 rfl) ?_
  refine lv_aload_n hx hb eX7_narrow_6 rfl (lv_at hl 0 rfl) ?_
  refine va_get (D := (dC, dI)) (ci := 7) (v := .int (nI zn)) (C := RX7) (T := TX7) (N := 2) hx hb hts hiX7 hown hK hP 0 rfl rfl 1 (by decide) v_2 (fun _ h9 => h9) rfl eX7_narrow_7 ?_
  refine lv_imul hx hb eX7_narrow_10 ?_
  refine lv_topi (fun y_1 ey_1 => ?_)
  obtain rfl : y_1 = (nI (a0 * zn)) := ey_1.trans (pk_mul a0 zn)
  refine lv_iload_n hx hb eX7_narrow_11 rfl (lv_at hl 2 rfl) ?_
  refine lv_iadd hx hb eX7_narrow_12 ?_
  refine lv_topi (fun y_2 ey_2 => ?_)
  obtain rfl : y_2 = (nI ((a0 * zn) + a1)) := ey_2.trans (nI_add (a0 * zn) a1)
  refine va_iald hx hb hK hP 1 0 rfl rfl (vp_in_nI (n := ((a0 * zn) + a1)) (by first | exact zx16 (by omega) (by omega) (by omega) | exact zy16 (by omega) (by omega) | omega) (Nat.le_of_ble_eq_true rfl)) eX7_narrow_13 ?_
  refine lv_topi (fun y_3 ey_3 => ?_)
  have ey_3 : y_3 = fz ((a0 * zn) + a1) := ey_3.trans (congrArg fz (nI_clamp (n := ((a0 * zn) + a1)) (by first | omega | exact Nat.lt_trans (zx16 (by omega) (by omega) (by omega)) (Nat.le_of_ble_eq_true rfl) | exact Nat.lt_trans (zy16 (by omega) (by omega)) (Nat.le_of_ble_eq_true rfl) | exact Nat.lt_trans (zx25 (by omega) (by omega) (by omega)) (Nat.le_of_ble_eq_true rfl) | exact Nat.lt_trans (zy25 (by omega) (by omega)) (Nat.le_of_ble_eq_true rfl))))
  have hsp := hsp.trans (slet_eq ey_3)
  refine lv_icmp_lt (tgt := 19) hx hb eX7_narrow_14 (by decide) (fun c_4 => ?_) (fun c_4 => ?_)
  · have hcc_4 := c_4
    have hsp := hsp.trans (if_pos c_4)
    refine lv_aload_n hx hb eX7_narrow_19 rfl (lv_at hl 0 rfl) ?_
    refine va_get (D := (dC, dI)) (ci := 7) (v := .ref zc) (C := RX7) (T := TX7) (N := 2) hx hb hts hiX7 hown hK hP 0 rfl rfl 0 (by decide) v_1 (fun _ h9 => h9) rfl eX7_narrow_20 ?_
    refine lv_iload_n hx hb eX7_narrow_23 rfl (lv_at hl 2 rfl) ?_
    refine lv_aload_n hx hb eX7_narrow_24 rfl (lv_at hl 0 rfl) ?_
    refine va_get (D := (dC, dI)) (ci := 7) (v := .int (nI zn)) (C := RX7) (T := TX7) (N := 2) hx hb hts hiX7 hown hK hP 0 rfl rfl 1 (by decide) v_2 (fun _ h9 => h9) rfl eX7_narrow_25 ?_
    refine lv_imul hx hb eX7_narrow_28 ?_
    refine lv_topi (fun y_5 ey_5 => ?_)
    obtain rfl : y_5 = (nI (a1 * zn)) := ey_5.trans (pk_mul a1 zn)
    refine lv_iload_n hx hb eX7_narrow_29 rfl (lv_at hl 1 rfl) ?_
    refine lv_iadd hx hb eX7_narrow_30 ?_
    refine lv_topi (fun y_6 ey_6 => ?_)
    obtain rfl : y_6 = (nI ((a1 * zn) + a0)) := ey_6.trans (nI_add (a1 * zn) a0)
    refine va_iald hx hb hK hP 1 0 rfl rfl (vp_in_nI (n := ((a1 * zn) + a0)) (by first | exact zx16 (by omega) (by omega) (by omega) | exact zy16 (by omega) (by omega) | omega) (Nat.le_of_ble_eq_true rfl)) eX7_narrow_31 ?_
    refine lv_topi (fun y_7 ey_7 => ?_)
    have ey_7 : y_7 = fz ((a1 * zn) + a0) := ey_7.trans (congrArg fz (nI_clamp (n := ((a1 * zn) + a0)) (by first | omega | exact Nat.lt_trans (zx16 (by omega) (by omega) (by omega)) (Nat.le_of_ble_eq_true rfl) | exact Nat.lt_trans (zy16 (by omega) (by omega)) (Nat.le_of_ble_eq_true rfl) | exact Nat.lt_trans (zx25 (by omega) (by omega) (by omega)) (Nat.le_of_ble_eq_true rfl) | exact Nat.lt_trans (zy25 (by omega) (by omega)) (Nat.le_of_ble_eq_true rfl))))
    have hsp := hsp.trans (slet_eq ey_7)
    refine lv_istore (lv' := [(4, .int y_7), (0, .ref z), (1, .int (nI a0)), (2, .int (nI a1)), (3, .int p2)]) hx hb eX7_narrow_32 hl (by decide) rfl (fun ls hl => ?_)
    refine lv_iload hx hb eX7_narrow_34 (lv_at hl 0 rfl) ?_
    refine lv_ldc hx hb hown v_3 eX7_narrow_36 ?_
    refine lv_icmp_eq (tgt := 58) hx hb eX7_narrow_38 (by decide) (fun c_8 => ?_) (fun c_8 => ?_)
    · have hcc_8 := c_8
      have hsp := hsp.trans (if_pos c_8)
      refine lv_iconst (v := 0) hx hb eX7_narrow_58 (by decide) ?_
      refine lv_istore (lv' := [(5, .int 0), (4, .int y_7), (0, .ref z), (1, .int (nI a0)), (2, .int (nI a1)), (3, .int p2)]) hx hb eX7_narrow_59 hl (by decide) rfl (fun ls hl => ?_)
      obtain ⟨lf_14, dlf_14, hlf_14, hsp⟩ := itr_ex hsp
      delta sp_E_7_narrow_16_L2 at hlf_14
      refine pu_while (fun nn H locs ls => ∃ (g_11 : Nat → Int32) (g_12 : Nat), nn = 4 - g_12 ∧ g_12 ≤ 4 ∧ RR = itrv dlf_14 lf_14 (g_11, g_12) ∧ va_P (dC, dI) vwCl (z16__w z zc (nI zn) k_fz g_11) H ∧ va_D A (z16__w z zc (nI zn) k_fz g_11) ∧ va_S A s.heap H locs ∧ lv_has ls 10 [(0, .ref z), (1, .int (nI a0)), (2, .int (nI a1)), (3, .int p2), (4, .int y_7), (5, .int (nI g_12))]) 61 ?_ _ _ _ _ ⟨fz, 0, rfl, (Nat.le_of_ble_eq_true rfl), hsp, hP, hD, hS, lv_sub hl [2, 3, 4, 5, 1, 0] rfl⟩
      rintro nn ih_13 H locs ls ⟨g_11, g_12, rfl, hg_12, he_16, hP, hD, hS, hl⟩
      obtain ⟨S_15, hsp, hin_17, hout_18⟩ := itr_step hlf_14 he_16
      refine lv_iload hx hb eX7_narrow_61 (lv_at hl 5 rfl) ?_
      refine lv_aload_n hx hb eX7_narrow_63 rfl (lv_at hl 0 rfl) ?_
      refine va_get (D := (dC, dI)) (ci := 7) (v := .int (nI zn)) (C := RX7) (T := TX7) (N := 2) hx hb hts hiX7 hown hK hP 0 rfl rfl 1 (by decide) v_2 (fun _ h9 => h9) rfl eX7_narrow_64 ?_
      refine lv_icmp_ge (tgt := 211) hx hb eX7_narrow_67 (by decide) (fun c_19 => ?_) (fun c_19 => ?_)
      · have c_19 : zn ≤ g_12 := (nI_leI (a := zn) (b := g_12) (Nat.lt_of_le_of_lt hzn (Nat.le_of_ble_eq_true rfl)) (Nat.lt_of_le_of_lt hg_12 (Nat.le_of_ble_eq_true rfl))).mp c_19
        have hsp := hsp.trans (if_pos c_19)
        have hsp := hout_18 _ hsp
        refine lv_iconst (v := 1) hx hb eX7_narrow_211 (by decide) ?_
        exact W.zret (v := 1) (ty := .boolean) hx hb hr (rfl) (fun t ht hW => ⟨⟨1, (), rfl, ⟨1, (Nat.le_of_ble_eq_true rfl), rfl, (congrArg Prod.fst (hsp.symm.trans hRR))⟩, ⟨g_11, ⟨by rw [ht]; exact hP, va_K.moved hW.alike hK, hD⟩, (congrArg Prod.snd (hsp.symm.trans hRR))⟩⟩, hS.F ht⟩) hS.2.2 eX7_narrow_212
      · have c_19 : ¬ zn ≤ g_12 := fun z => c_19 ((nI_leI (a := zn) (b := g_12) (Nat.lt_of_le_of_lt hzn (Nat.le_of_ble_eq_true rfl)) (Nat.lt_of_le_of_lt hg_12 (Nat.le_of_ble_eq_true rfl))).mpr z)
        have hsp := hsp.trans (if_neg c_19)
        refine lv_aload_n hx hb eX7_narrow_70 rfl (lv_at hl 0 rfl) ?_
        refine va_get (D := (dC, dI)) (ci := 7) (v := .ref zc) (C := RX7) (T := TX7) (N := 2) hx hb hts hiX7 hown hK hP 0 rfl rfl 0 (by decide) v_1 (fun _ h9 => h9) rfl eX7_narrow_71 ?_
        refine lv_iload hx hb eX7_narrow_74 (lv_at hl 5 rfl) ?_
        refine lv_aload_n hx hb eX7_narrow_76 rfl (lv_at hl 0 rfl) ?_
        refine va_get (D := (dC, dI)) (ci := 7) (v := .int (nI zn)) (C := RX7) (T := TX7) (N := 2) hx hb hts hiX7 hown hK hP 0 rfl rfl 1 (by decide) v_2 (fun _ h9 => h9) rfl eX7_narrow_77 ?_
        refine lv_imul hx hb eX7_narrow_80 ?_
        refine lv_topi (fun y_20 ey_20 => ?_)
        obtain rfl : y_20 = (nI (g_12 * zn)) := ey_20.trans (pk_mul g_12 zn)
        refine lv_iload_n hx hb eX7_narrow_81 rfl (lv_at hl 1 rfl) ?_
        refine lv_iadd hx hb eX7_narrow_82 ?_
        refine lv_topi (fun y_21 ey_21 => ?_)
        obtain rfl : y_21 = (nI ((g_12 * zn) + a0)) := ey_21.trans (nI_add (g_12 * zn) a0)
        refine va_iald hx hb hK hP 1 0 rfl rfl (vp_in_nI (n := ((g_12 * zn) + a0)) (by first | exact zx16 (by omega) (by omega) (by omega) | exact zy16 (by omega) (by omega) | omega) (Nat.le_of_ble_eq_true rfl)) eX7_narrow_83 ?_
        refine lv_topi (fun y_22 ey_22 => ?_)
        have ey_22 : y_22 = g_11 ((g_12 * zn) + a0) := ey_22.trans (congrArg g_11 (nI_clamp (n := ((g_12 * zn) + a0)) (by first | omega | exact Nat.lt_trans (zx16 (by omega) (by omega) (by omega)) (Nat.le_of_ble_eq_true rfl) | exact Nat.lt_trans (zy16 (by omega) (by omega)) (Nat.le_of_ble_eq_true rfl) | exact Nat.lt_trans (zx25 (by omega) (by omega) (by omega)) (Nat.le_of_ble_eq_true rfl) | exact Nat.lt_trans (zy25 (by omega) (by omega)) (Nat.le_of_ble_eq_true rfl))))
        have hsp := hsp.trans (slet_eq ey_22)
        refine lv_istore (lv' := [(6, .int y_22), (0, .ref z), (1, .int (nI a0)), (2, .int (nI a1)), (3, .int p2), (4, .int y_7), (5, .int (nI g_12))]) hx hb eX7_narrow_84 hl (by decide) rfl (fun ls hl => ?_)
        refine lv_iload hx hb eX7_narrow_86 (lv_at hl 0 rfl) ?_
        refine lv_ldc hx hb hown v_3 eX7_narrow_88 ?_
        obtain ⟨JR_26, hJR_26, hsp⟩ := slet_ex hsp
        refine pu_join (fun H locs ls st => ∃ (g_23 : Int32) (g_24 : Nat → Int32), st = [] ∧ (g_23, g_24) = JR_26 ∧ va_P (dC, dI) vwCl (z16__w z zc (nI zn) k_fz g_24) H ∧ va_D A (z16__w z zc (nI zn) k_fz g_24) ∧ va_S A s.heap H locs ∧ lv_has ls 10 [(0, .ref z), (1, .int (nI a0)), (2, .int (nI a1)), (3, .int p2), (4, .int y_7), (5, .int (nI g_12)), (6, .int g_23)]) 205 ?_ (fun j_25 => ?_)
        · rintro H locs ls st ⟨g_23, g_24, rfl, he_27, hP, hD, hS, hl⟩
          rw [← he_27] at hsp
          refine lv_iinc (v := (nI (g_12 + 1))) (lv' := [(5, .int (nI (g_12 + 1))), (0, .ref z), (1, .int (nI a0)), (2, .int (nI a1)), (3, .int p2), (4, .int y_7), (6, .int g_23)]) hx hb eX7_narrow_205 hl (k := 5) rfl (nI_1 _) (by decide) rfl (fun ls hl => ?_)
          refine lv_goto (tgt := 61) hx hb eX7_narrow_208 (by decide) ?_
          exact ih_13 (4 - (g_12 + 1)) (by omega) _ _ _ ⟨g_24, (g_12 + 1), rfl, (by omega), hin_17 _ hsp, hP, hD, hS, lv_sub hl [1, 2, 3, 4, 5, 0] rfl⟩
        have hsp := hJR_26
        refine lv_icmp_ne (tgt := 96) hx hb eX7_narrow_90 (by decide) (fun c_28 => ?_) (fun c_28 => ?_)
        · have hcc_28 := c_28
          have hsp := hsp.trans (if_neg c_28)
          refine lv_iload hx hb eX7_narrow_96 (lv_at hl 0 rfl) ?_
          refine lv_iload_n hx hb eX7_narrow_98 rfl (lv_at hl 4 rfl) ?_
          refine lv_iadd hx hb eX7_narrow_99 ?_
          refine lv_topi (fun y_29 ey_29 => ?_)
          have hsp := hsp.trans (slet_eq ey_29)
          refine lv_iload hx hb eX7_narrow_100 (lv_at hl 0 rfl) ?_
          refine lv_iload_n hx hb eX7_narrow_102 rfl (lv_at hl 4 rfl) ?_
          refine lv_ior hx hb eX7_narrow_103 ?_
          refine lv_topi (fun y_30 ey_30 => ?_)
          have hsp := hsp.trans (slet_eq ey_30)
          refine lv_iconst (v := 1) hx hb eX7_narrow_104 (by decide) ?_
          refine lv_iand hx hb eX7_narrow_105 ?_
          refine lv_topi (fun y_31 ey_31 => ?_)
          have hsp := hsp.trans (slet_eq ey_31)
          refine lv_isub hx hb eX7_narrow_106 ?_
          refine lv_topi (fun y_32 ey_32 => ?_)
          have hsp := hsp.trans (slet_eq ey_32)
          refine lv_istore (lv' := [(6, .int y_32), (0, .ref z), (1, .int (nI a0)), (2, .int (nI a1)), (3, .int p2), (4, .int y_7), (5, .int (nI g_12))]) hx hb eX7_narrow_107 hl (by decide) rfl (fun ls hl => ?_)
          refine lv_iconst (v := 0) hx hb eX7_narrow_109 (by decide) ?_
          refine lv_istore (lv' := [(7, .int 0), (6, .int y_32), (0, .ref z), (1, .int (nI a0)), (2, .int (nI a1)), (3, .int p2), (4, .int y_7), (5, .int (nI g_12))]) hx hb eX7_narrow_110 hl (by decide) rfl (fun ls hl => ?_)
          obtain ⟨lf_38, dlf_38, hlf_38, hsp⟩ := itr_ex hsp
          delta sp_E_7_narrow_16_L1 at hlf_38
          refine pu_while (fun nn H locs ls => ∃ (g_35 : Nat → Int32) (g_36 : Nat), nn = 4 - g_36 ∧ g_36 ≤ 4 ∧ JR_26 = itrv dlf_38 lf_38 (g_35, g_36) ∧ va_P (dC, dI) vwCl (z16__w z zc (nI zn) k_fz g_35) H ∧ va_D A (z16__w z zc (nI zn) k_fz g_35) ∧ va_S A s.heap H locs ∧ lv_has ls 10 [(0, .ref z), (1, .int (nI a0)), (2, .int (nI a1)), (3, .int p2), (4, .int y_7), (5, .int (nI g_12)), (6, .int y_32), (7, .int (nI g_36))]) 112 ?_ _ _ _ _ ⟨g_11, 0, rfl, (Nat.le_of_ble_eq_true rfl), hsp, hP, hD, hS, lv_sub hl [2, 3, 4, 5, 6, 7, 1, 0] rfl⟩
          rintro nn ih_37 H locs ls ⟨g_35, g_36, rfl, hg_36, he_40, hP, hD, hS, hl⟩
          obtain ⟨S_39, hsp, hin_41, hout_42⟩ := itr_step hlf_38 he_40
          refine lv_iload hx hb eX7_narrow_112 (lv_at hl 7 rfl) ?_
          refine lv_aload_n hx hb eX7_narrow_114 rfl (lv_at hl 0 rfl) ?_
          refine va_get (D := (dC, dI)) (ci := 7) (v := .int (nI zn)) (C := RX7) (T := TX7) (N := 2) hx hb hts hiX7 hown hK hP 0 rfl rfl 1 (by decide) v_2 (fun _ h9 => h9) rfl eX7_narrow_115 ?_
          refine lv_icmp_ge (tgt := 205) hx hb eX7_narrow_118 (by decide) (fun c_43 => ?_) (fun c_43 => ?_)
          · have c_43 : zn ≤ g_36 := (nI_leI (a := zn) (b := g_36) (Nat.lt_of_le_of_lt hzn (Nat.le_of_ble_eq_true rfl)) (Nat.lt_of_le_of_lt hg_36 (Nat.le_of_ble_eq_true rfl))).mp c_43
            have hsp := hsp.trans (if_pos c_43)
            have hsp := hout_42 _ hsp
            exact j_25 _ _ _ _ ⟨y_32, g_35, rfl, hsp.symm, hP, hD, hS, lv_sub hl [0, 1, 2, 3, 4, 5, 6] rfl⟩
          · have c_43 : ¬ zn ≤ g_36 := fun z => c_43 ((nI_leI (a := zn) (b := g_36) (Nat.lt_of_le_of_lt hzn (Nat.le_of_ble_eq_true rfl)) (Nat.lt_of_le_of_lt hg_36 (Nat.le_of_ble_eq_true rfl))).mpr z)
            have hsp := hsp.trans (if_neg c_43)
            refine lv_aload_n hx hb eX7_narrow_121 rfl (lv_at hl 0 rfl) ?_
            refine va_get (D := (dC, dI)) (ci := 7) (v := .ref zc) (C := RX7) (T := TX7) (N := 2) hx hb hts hiX7 hown hK hP 0 rfl rfl 0 (by decide) v_1 (fun _ h9 => h9) rfl eX7_narrow_122 ?_
            refine lv_iload_n hx hb eX7_narrow_125 rfl (lv_at hl 2 rfl) ?_
            refine lv_aload_n hx hb eX7_narrow_126 rfl (lv_at hl 0 rfl) ?_
            refine va_get (D := (dC, dI)) (ci := 7) (v := .int (nI zn)) (C := RX7) (T := TX7) (N := 2) hx hb hts hiX7 hown hK hP 0 rfl rfl 1 (by decide) v_2 (fun _ h9 => h9) rfl eX7_narrow_127 ?_
            refine lv_imul hx hb eX7_narrow_130 ?_
            refine lv_topi (fun y_44 ey_44 => ?_)
            obtain rfl : y_44 = (nI (a1 * zn)) := ey_44.trans (pk_mul a1 zn)
            refine lv_iload hx hb eX7_narrow_131 (lv_at hl 7 rfl) ?_
            refine lv_iadd hx hb eX7_narrow_133 ?_
            refine lv_topi (fun y_45 ey_45 => ?_)
            obtain rfl : y_45 = (nI ((a1 * zn) + g_36)) := ey_45.trans (nI_add (a1 * zn) g_36)
            refine va_iald hx hb hK hP 1 0 rfl rfl (vp_in_nI (n := ((a1 * zn) + g_36)) (by first | exact zx16 (by omega) (by omega) (by omega) | exact zy16 (by omega) (by omega) | omega) (Nat.le_of_ble_eq_true rfl)) eX7_narrow_134 ?_
            refine lv_topi (fun y_46 ey_46 => ?_)
            have ey_46 : y_46 = g_35 ((a1 * zn) + g_36) := ey_46.trans (congrArg g_35 (nI_clamp (n := ((a1 * zn) + g_36)) (by first | omega | exact Nat.lt_trans (zx16 (by omega) (by omega) (by omega)) (Nat.le_of_ble_eq_true rfl) | exact Nat.lt_trans (zy16 (by omega) (by omega)) (Nat.le_of_ble_eq_true rfl) | exact Nat.lt_trans (zx25 (by omega) (by omega) (by omega)) (Nat.le_of_ble_eq_true rfl) | exact Nat.lt_trans (zy25 (by omega) (by omega)) (Nat.le_of_ble_eq_true rfl))))
            have hsp := hsp.trans (slet_eq ey_46)
            refine lv_istore (lv' := [(8, .int y_46), (0, .ref z), (1, .int (nI a0)), (2, .int (nI a1)), (3, .int p2), (4, .int y_7), (5, .int (nI g_12)), (6, .int y_32), (7, .int (nI g_36))]) hx hb eX7_narrow_135 hl (by decide) rfl (fun ls hl => ?_)
            refine lv_iload hx hb eX7_narrow_137 (lv_at hl 0 rfl) ?_
            refine lv_ldc hx hb hown v_3 eX7_narrow_139 ?_
            obtain ⟨JR_49, hJR_49, hsp⟩ := slet_ex hsp
            refine pu_join (fun H locs ls st => ∃ (g_47 : Nat → Int32), st = [] ∧ g_47 = JR_49 ∧ va_P (dC, dI) vwCl (z16__w z zc (nI zn) k_fz g_47) H ∧ va_D A (z16__w z zc (nI zn) k_fz g_47) ∧ va_S A s.heap H locs ∧ lv_has ls 10 [(0, .ref z), (1, .int (nI a0)), (2, .int (nI a1)), (3, .int p2), (4, .int y_7), (5, .int (nI g_12)), (6, .int y_32), (7, .int (nI g_36)), (8, .int y_46)]) 199 ?_ (fun j_48 => ?_)
            · rintro H locs ls st ⟨g_47, rfl, he_50, hP, hD, hS, hl⟩
              rw [← he_50] at hsp
              refine lv_iinc (v := (nI (g_36 + 1))) (lv' := [(7, .int (nI (g_36 + 1))), (0, .ref z), (1, .int (nI a0)), (2, .int (nI a1)), (3, .int p2), (4, .int y_7), (5, .int (nI g_12)), (6, .int y_32), (8, .int y_46)]) hx hb eX7_narrow_199 hl (k := 7) rfl (nI_1 _) (by decide) rfl (fun ls hl => ?_)
              refine lv_goto (tgt := 112) hx hb eX7_narrow_202 (by decide) ?_
              exact ih_37 (4 - (g_36 + 1)) (by omega) _ _ _ ⟨g_47, (g_36 + 1), rfl, (by omega), hin_41 _ hsp, hP, hD, hS, lv_sub hl [1, 2, 3, 4, 5, 6, 7, 0] rfl⟩
            have hsp := hJR_49
            refine lv_icmp_ne (tgt := 147) hx hb eX7_narrow_141 (by decide) (fun c_51 => ?_) (fun c_51 => ?_)
            · have hcc_51 := c_51
              have hsp := hsp.trans (if_neg c_51)
              refine lv_iload hx hb eX7_narrow_147 (lv_at hl 7 rfl) ?_
              refine lv_iload hx hb eX7_narrow_149 (lv_at hl 0 rfl) ?_
              refine lv_iadd hx hb eX7_narrow_151 ?_
              refine lv_topi (fun y_52 ey_52 => ?_)
              have hsp := hsp.trans (slet_eq ey_52)
              refine lv_iload hx hb eX7_narrow_152 (lv_at hl 7 rfl) ?_
              refine lv_iload hx hb eX7_narrow_154 (lv_at hl 0 rfl) ?_
              refine lv_ior hx hb eX7_narrow_156 ?_
              refine lv_topi (fun y_53 ey_53 => ?_)
              have hsp := hsp.trans (slet_eq ey_53)
              refine lv_iconst (v := 1) hx hb eX7_narrow_157 (by decide) ?_
              refine lv_iand hx hb eX7_narrow_158 ?_
              refine lv_topi (fun y_54 ey_54 => ?_)
              have hsp := hsp.trans (slet_eq ey_54)
              refine lv_isub hx hb eX7_narrow_159 ?_
              refine lv_topi (fun y_55 ey_55 => ?_)
              have hsp := hsp.trans (slet_eq ey_55)
              refine lv_istore (lv' := [(9, .int y_55), (8, .int y_46), (0, .ref z), (1, .int (nI a0)), (2, .int (nI a1)), (3, .int p2), (4, .int y_7), (5, .int (nI g_12)), (6, .int y_32), (7, .int (nI g_36))]) hx hb eX7_narrow_160 hl (by decide) rfl (fun ls hl => ?_)
              refine lv_iload hx hb eX7_narrow_162 (lv_at hl 0 rfl) ?_
              refine lv_aload_n hx hb eX7_narrow_164 rfl (lv_at hl 2 rfl) ?_
              refine va_get (D := (dC, dI)) (ci := 7) (v := .ref zc) (C := RX7) (T := TX7) (N := 2) hx hb hts hiX7 hown hK hP 0 rfl rfl 0 (by decide) v_1 (fun _ h9 => h9) rfl eX7_narrow_165 ?_
              refine lv_iload hx hb eX7_narrow_168 (lv_at hl 7 rfl) ?_
              refine lv_aload_n hx hb eX7_narrow_170 rfl (lv_at hl 2 rfl) ?_
              refine va_get (D := (dC, dI)) (ci := 7) (v := .int (nI zn)) (C := RX7) (T := TX7) (N := 2) hx hb hts hiX7 hown hK hP 0 rfl rfl 1 (by decide) v_2 (fun _ h9 => h9) rfl eX7_narrow_171 ?_
              refine lv_imul hx hb eX7_narrow_174 ?_
              refine lv_topi (fun y_56 ey_56 => ?_)
              obtain rfl : y_56 = (nI (g_12 * zn)) := ey_56.trans (pk_mul g_12 zn)
              refine lv_iload hx hb eX7_narrow_175 (lv_at hl 9 rfl) ?_
              refine lv_iadd hx hb eX7_narrow_177 ?_
              refine lv_topi (fun y_57 ey_57 => ?_)
              obtain rfl : y_57 = (nI ((g_12 * zn) + g_36)) := ey_57.trans (nI_add (g_12 * zn) g_36)
              refine va_iald hx hb hK hP 1 0 rfl rfl (vp_in_nI (n := ((g_12 * zn) + g_36)) (by first | exact zx16 (by omega) (by omega) (by omega) | exact zy16 (by omega) (by omega) | omega) (Nat.le_of_ble_eq_true rfl)) eX7_narrow_178 ?_
              refine lv_topi (fun y_58 ey_58 => ?_)
              have ey_58 : y_58 = g_35 ((g_12 * zn) + g_36) := ey_58.trans (congrArg g_35 (nI_clamp (n := ((g_12 * zn) + g_36)) (by first | omega | exact Nat.lt_trans (zx16 (by omega) (by omega) (by omega)) (Nat.le_of_ble_eq_true rfl) | exact Nat.lt_trans (zy16 (by omega) (by omega)) (Nat.le_of_ble_eq_true rfl) | exact Nat.lt_trans (zx25 (by omega) (by omega) (by omega)) (Nat.le_of_ble_eq_true rfl) | exact Nat.lt_trans (zy25 (by omega) (by omega)) (Nat.le_of_ble_eq_true rfl))))
              have hsp := hsp.trans (slet_eq ey_58)
              refine lv_icmp_ge (tgt := 199) hx hb eX7_narrow_179 (by decide) (fun c_59 => ?_) (fun c_59 => ?_)
              · have hcc_59 := c_59
                have hsp := hsp.trans (if_pos c_59)
                exact j_48 _ _ _ _ ⟨g_35, rfl, hsp.symm, hP, hD, hS, lv_sub hl [2, 3, 4, 5, 6, 7, 8, 9, 1] rfl⟩
              · have hcc_59 := c_59
                have hsp := hsp.trans (if_neg c_59)
                refine lv_aload_n hx hb eX7_narrow_182 rfl (lv_at hl 2 rfl) ?_
                refine va_get (D := (dC, dI)) (ci := 7) (v := .ref zc) (C := RX7) (T := TX7) (N := 2) hx hb hts hiX7 hown hK hP 0 rfl rfl 0 (by decide) v_1 (fun _ h9 => h9) rfl eX7_narrow_183 ?_
                refine lv_iload hx hb eX7_narrow_186 (lv_at hl 7 rfl) ?_
                refine lv_aload_n hx hb eX7_narrow_188 rfl (lv_at hl 2 rfl) ?_
                refine va_get (D := (dC, dI)) (ci := 7) (v := .int (nI zn)) (C := RX7) (T := TX7) (N := 2) hx hb hts hiX7 hown hK hP 0 rfl rfl 1 (by decide) v_2 (fun _ h9 => h9) rfl eX7_narrow_189 ?_
                refine lv_imul hx hb eX7_narrow_192 ?_
                refine lv_topi (fun y_60 ey_60 => ?_)
                obtain rfl : y_60 = (nI (g_12 * zn)) := ey_60.trans (pk_mul g_12 zn)
                refine lv_iload hx hb eX7_narrow_193 (lv_at hl 9 rfl) ?_
                refine lv_iadd hx hb eX7_narrow_195 ?_
                refine lv_topi (fun y_61 ey_61 => ?_)
                obtain rfl : y_61 = (nI ((g_12 * zn) + g_36)) := ey_61.trans (nI_add (g_12 * zn) g_36)
                refine lv_iload hx hb eX7_narrow_196 (lv_at hl 0 rfl) ?_
                refine va_iast hx hb hK hP hD hS 1 0 rfl rfl (vp_in_nI (n := ((g_12 * zn) + g_36)) (by first | exact zx16 (by omega) (by omega) (by omega) | exact zy16 (by omega) (by omega) | omega) (Nat.le_of_ble_eq_true rfl)) eX7_narrow_198 (fun H locs hP hD hS => ?_)
                obtain ⟨f_62, ef_62, xf_62⟩ := up_x g_35 (n := ((g_12 * zn) + g_36)) y_55 (by first | omega | exact Nat.lt_trans (zx16 (by omega) (by omega) (by omega)) (Nat.le_of_ble_eq_true rfl) | exact Nat.lt_trans (zy16 (by omega) (by omega)) (Nat.le_of_ble_eq_true rfl) | exact Nat.lt_trans (zx25 (by omega) (by omega) (by omega)) (Nat.le_of_ble_eq_true rfl) | exact Nat.lt_trans (zy25 (by omega) (by omega)) (Nat.le_of_ble_eq_true rfl))
                have hP : va_P (dC, dI) vwCl (z16__w z zc (nI zn) k_fz f_62) H := by rw [← ef_62]; exact hP
                have hD : va_D A (z16__w z zc (nI zn) k_fz f_62) := by rw [← ef_62]; exact hD
                have hsp := hsp.trans (slet_eq xf_62)
                exact j_48 _ _ _ _ ⟨f_62, rfl, hsp.symm, hP, hD, hS, lv_sub hl [2, 3, 4, 5, 6, 7, 8, 9, 1] rfl⟩
            · have hcc_51 := c_51
              have hsp := hsp.trans (if_pos c_51)
              refine lv_goto (tgt := 199) hx hb eX7_narrow_144 (by decide) ?_
              exact j_48 _ _ _ _ ⟨g_35, rfl, hsp.symm, hP, hD, hS, lv_sub hl [1, 2, 3, 4, 5, 6, 7, 8, 0] rfl⟩
        · have hcc_28 := c_28
          have hsp := hsp.trans (if_pos c_28)
          refine lv_goto (tgt := 205) hx hb eX7_narrow_93 (by decide) ?_
          exact j_25 _ _ _ _ ⟨y_22, g_11, rfl, hsp.symm, hP, hD, hS, lv_sub hl [1, 2, 3, 4, 5, 6, 0] rfl⟩
    · have hcc_8 := c_8
      have hsp := hsp.trans (if_neg c_8)
      refine lv_iload hx hb eX7_narrow_41 (lv_at hl 0 rfl) ?_
      refine lv_iload_n hx hb eX7_narrow_43 rfl (lv_at hl 4 rfl) ?_
      refine lv_iadd hx hb eX7_narrow_44 ?_
      refine lv_topi (fun y_63 ey_63 => ?_)
      have hsp := hsp.trans (slet_eq ey_63)
      refine lv_iload hx hb eX7_narrow_45 (lv_at hl 0 rfl) ?_
      refine lv_iload_n hx hb eX7_narrow_47 rfl (lv_at hl 4 rfl) ?_
      refine lv_ior hx hb eX7_narrow_48 ?_
      refine lv_topi (fun y_64 ey_64 => ?_)
      have hsp := hsp.trans (slet_eq ey_64)
      refine lv_iconst (v := 1) hx hb eX7_narrow_49 (by decide) ?_
      refine lv_iand hx hb eX7_narrow_50 ?_
      refine lv_topi (fun y_65 ey_65 => ?_)
      have hsp := hsp.trans (slet_eq ey_65)
      refine lv_isub hx hb eX7_narrow_51 ?_
      refine lv_topi (fun y_66 ey_66 => ?_)
      have hsp := hsp.trans (slet_eq ey_66)
      refine lv_iconst (v := 1) hx hb eX7_narrow_52 (by decide) ?_
      refine lv_icmp_ge (tgt := 58) hx hb eX7_narrow_53 (by decide) (fun c_67 => ?_) (fun c_67 => ?_)
      · have hcc_67 := c_67
        have hsp := hsp.trans (if_pos c_67)
        refine lv_iconst (v := 0) hx hb eX7_narrow_58 (by decide) ?_
        refine lv_istore (lv' := [(5, .int 0), (4, .int y_7), (0, .ref z), (1, .int (nI a0)), (2, .int (nI a1)), (3, .int p2)]) hx hb eX7_narrow_59 hl (by decide) rfl (fun ls hl => ?_)
        obtain ⟨lf_73, dlf_73, hlf_73, hsp⟩ := itr_ex hsp
        delta sp_E_7_narrow_16_L4 at hlf_73
        refine pu_while (fun nn H locs ls => ∃ (g_70 : Nat → Int32) (g_71 : Nat), nn = 4 - g_71 ∧ g_71 ≤ 4 ∧ RR = itrv dlf_73 lf_73 (g_70, g_71) ∧ va_P (dC, dI) vwCl (z16__w z zc (nI zn) k_fz g_70) H ∧ va_D A (z16__w z zc (nI zn) k_fz g_70) ∧ va_S A s.heap H locs ∧ lv_has ls 10 [(0, .ref z), (1, .int (nI a0)), (2, .int (nI a1)), (3, .int p2), (4, .int y_7), (5, .int (nI g_71))]) 61 ?_ _ _ _ _ ⟨fz, 0, rfl, (Nat.le_of_ble_eq_true rfl), hsp, hP, hD, hS, lv_sub hl [2, 3, 4, 5, 1, 0] rfl⟩
        rintro nn ih_72 H locs ls ⟨g_70, g_71, rfl, hg_71, he_75, hP, hD, hS, hl⟩
        obtain ⟨S_74, hsp, hin_76, hout_77⟩ := itr_step hlf_73 he_75
        refine lv_iload hx hb eX7_narrow_61 (lv_at hl 5 rfl) ?_
        refine lv_aload_n hx hb eX7_narrow_63 rfl (lv_at hl 0 rfl) ?_
        refine va_get (D := (dC, dI)) (ci := 7) (v := .int (nI zn)) (C := RX7) (T := TX7) (N := 2) hx hb hts hiX7 hown hK hP 0 rfl rfl 1 (by decide) v_2 (fun _ h9 => h9) rfl eX7_narrow_64 ?_
        refine lv_icmp_ge (tgt := 211) hx hb eX7_narrow_67 (by decide) (fun c_78 => ?_) (fun c_78 => ?_)
        · have c_78 : zn ≤ g_71 := (nI_leI (a := zn) (b := g_71) (Nat.lt_of_le_of_lt hzn (Nat.le_of_ble_eq_true rfl)) (Nat.lt_of_le_of_lt hg_71 (Nat.le_of_ble_eq_true rfl))).mp c_78
          have hsp := hsp.trans (if_pos c_78)
          have hsp := hout_77 _ hsp
          refine lv_iconst (v := 1) hx hb eX7_narrow_211 (by decide) ?_
          exact W.zret (v := 1) (ty := .boolean) hx hb hr (rfl) (fun t ht hW => ⟨⟨1, (), rfl, ⟨1, (Nat.le_of_ble_eq_true rfl), rfl, (congrArg Prod.fst (hsp.symm.trans hRR))⟩, ⟨g_70, ⟨by rw [ht]; exact hP, va_K.moved hW.alike hK, hD⟩, (congrArg Prod.snd (hsp.symm.trans hRR))⟩⟩, hS.F ht⟩) hS.2.2 eX7_narrow_212
        · have c_78 : ¬ zn ≤ g_71 := fun z => c_78 ((nI_leI (a := zn) (b := g_71) (Nat.lt_of_le_of_lt hzn (Nat.le_of_ble_eq_true rfl)) (Nat.lt_of_le_of_lt hg_71 (Nat.le_of_ble_eq_true rfl))).mpr z)
          have hsp := hsp.trans (if_neg c_78)
          refine lv_aload_n hx hb eX7_narrow_70 rfl (lv_at hl 0 rfl) ?_
          refine va_get (D := (dC, dI)) (ci := 7) (v := .ref zc) (C := RX7) (T := TX7) (N := 2) hx hb hts hiX7 hown hK hP 0 rfl rfl 0 (by decide) v_1 (fun _ h9 => h9) rfl eX7_narrow_71 ?_
          refine lv_iload hx hb eX7_narrow_74 (lv_at hl 5 rfl) ?_
          refine lv_aload_n hx hb eX7_narrow_76 rfl (lv_at hl 0 rfl) ?_
          refine va_get (D := (dC, dI)) (ci := 7) (v := .int (nI zn)) (C := RX7) (T := TX7) (N := 2) hx hb hts hiX7 hown hK hP 0 rfl rfl 1 (by decide) v_2 (fun _ h9 => h9) rfl eX7_narrow_77 ?_
          refine lv_imul hx hb eX7_narrow_80 ?_
          refine lv_topi (fun y_79 ey_79 => ?_)
          obtain rfl : y_79 = (nI (g_71 * zn)) := ey_79.trans (pk_mul g_71 zn)
          refine lv_iload_n hx hb eX7_narrow_81 rfl (lv_at hl 1 rfl) ?_
          refine lv_iadd hx hb eX7_narrow_82 ?_
          refine lv_topi (fun y_80 ey_80 => ?_)
          obtain rfl : y_80 = (nI ((g_71 * zn) + a0)) := ey_80.trans (nI_add (g_71 * zn) a0)
          refine va_iald hx hb hK hP 1 0 rfl rfl (vp_in_nI (n := ((g_71 * zn) + a0)) (by first | exact zx16 (by omega) (by omega) (by omega) | exact zy16 (by omega) (by omega) | omega) (Nat.le_of_ble_eq_true rfl)) eX7_narrow_83 ?_
          refine lv_topi (fun y_81 ey_81 => ?_)
          have ey_81 : y_81 = g_70 ((g_71 * zn) + a0) := ey_81.trans (congrArg g_70 (nI_clamp (n := ((g_71 * zn) + a0)) (by first | omega | exact Nat.lt_trans (zx16 (by omega) (by omega) (by omega)) (Nat.le_of_ble_eq_true rfl) | exact Nat.lt_trans (zy16 (by omega) (by omega)) (Nat.le_of_ble_eq_true rfl) | exact Nat.lt_trans (zx25 (by omega) (by omega) (by omega)) (Nat.le_of_ble_eq_true rfl) | exact Nat.lt_trans (zy25 (by omega) (by omega)) (Nat.le_of_ble_eq_true rfl))))
          have hsp := hsp.trans (slet_eq ey_81)
          refine lv_istore (lv' := [(6, .int y_81), (0, .ref z), (1, .int (nI a0)), (2, .int (nI a1)), (3, .int p2), (4, .int y_7), (5, .int (nI g_71))]) hx hb eX7_narrow_84 hl (by decide) rfl (fun ls hl => ?_)
          refine lv_iload hx hb eX7_narrow_86 (lv_at hl 0 rfl) ?_
          refine lv_ldc hx hb hown v_3 eX7_narrow_88 ?_
          obtain ⟨JR_85, hJR_85, hsp⟩ := slet_ex hsp
          refine pu_join (fun H locs ls st => ∃ (g_82 : Int32) (g_83 : Nat → Int32), st = [] ∧ (g_82, g_83) = JR_85 ∧ va_P (dC, dI) vwCl (z16__w z zc (nI zn) k_fz g_83) H ∧ va_D A (z16__w z zc (nI zn) k_fz g_83) ∧ va_S A s.heap H locs ∧ lv_has ls 10 [(0, .ref z), (1, .int (nI a0)), (2, .int (nI a1)), (3, .int p2), (4, .int y_7), (5, .int (nI g_71)), (6, .int g_82)]) 205 ?_ (fun j_84 => ?_)
          · rintro H locs ls st ⟨g_82, g_83, rfl, he_86, hP, hD, hS, hl⟩
            rw [← he_86] at hsp
            refine lv_iinc (v := (nI (g_71 + 1))) (lv' := [(5, .int (nI (g_71 + 1))), (0, .ref z), (1, .int (nI a0)), (2, .int (nI a1)), (3, .int p2), (4, .int y_7), (6, .int g_82)]) hx hb eX7_narrow_205 hl (k := 5) rfl (nI_1 _) (by decide) rfl (fun ls hl => ?_)
            refine lv_goto (tgt := 61) hx hb eX7_narrow_208 (by decide) ?_
            exact ih_72 (4 - (g_71 + 1)) (by omega) _ _ _ ⟨g_83, (g_71 + 1), rfl, (by omega), hin_76 _ hsp, hP, hD, hS, lv_sub hl [1, 2, 3, 4, 5, 0] rfl⟩
          have hsp := hJR_85
          refine lv_icmp_ne (tgt := 96) hx hb eX7_narrow_90 (by decide) (fun c_87 => ?_) (fun c_87 => ?_)
          · have hcc_87 := c_87
            have hsp := hsp.trans (if_neg c_87)
            refine lv_iload hx hb eX7_narrow_96 (lv_at hl 0 rfl) ?_
            refine lv_iload_n hx hb eX7_narrow_98 rfl (lv_at hl 4 rfl) ?_
            refine lv_iadd hx hb eX7_narrow_99 ?_
            refine lv_topi (fun y_88 ey_88 => ?_)
            have hsp := hsp.trans (slet_eq ey_88)
            refine lv_iload hx hb eX7_narrow_100 (lv_at hl 0 rfl) ?_
            refine lv_iload_n hx hb eX7_narrow_102 rfl (lv_at hl 4 rfl) ?_
            refine lv_ior hx hb eX7_narrow_103 ?_
            refine lv_topi (fun y_89 ey_89 => ?_)
            have hsp := hsp.trans (slet_eq ey_89)
            refine lv_iconst (v := 1) hx hb eX7_narrow_104 (by decide) ?_
            refine lv_iand hx hb eX7_narrow_105 ?_
            refine lv_topi (fun y_90 ey_90 => ?_)
            have hsp := hsp.trans (slet_eq ey_90)
            refine lv_isub hx hb eX7_narrow_106 ?_
            refine lv_topi (fun y_91 ey_91 => ?_)
            have hsp := hsp.trans (slet_eq ey_91)
            refine lv_istore (lv' := [(6, .int y_91), (0, .ref z), (1, .int (nI a0)), (2, .int (nI a1)), (3, .int p2), (4, .int y_7), (5, .int (nI g_71))]) hx hb eX7_narrow_107 hl (by decide) rfl (fun ls hl => ?_)
            refine lv_iconst (v := 0) hx hb eX7_narrow_109 (by decide) ?_
            refine lv_istore (lv' := [(7, .int 0), (6, .int y_91), (0, .ref z), (1, .int (nI a0)), (2, .int (nI a1)), (3, .int p2), (4, .int y_7), (5, .int (nI g_71))]) hx hb eX7_narrow_110 hl (by decide) rfl (fun ls hl => ?_)
            obtain ⟨lf_97, dlf_97, hlf_97, hsp⟩ := itr_ex hsp
            delta sp_E_7_narrow_16_L3 at hlf_97
            refine pu_while (fun nn H locs ls => ∃ (g_94 : Nat → Int32) (g_95 : Nat), nn = 4 - g_95 ∧ g_95 ≤ 4 ∧ JR_85 = itrv dlf_97 lf_97 (g_94, g_95) ∧ va_P (dC, dI) vwCl (z16__w z zc (nI zn) k_fz g_94) H ∧ va_D A (z16__w z zc (nI zn) k_fz g_94) ∧ va_S A s.heap H locs ∧ lv_has ls 10 [(0, .ref z), (1, .int (nI a0)), (2, .int (nI a1)), (3, .int p2), (4, .int y_7), (5, .int (nI g_71)), (6, .int y_91), (7, .int (nI g_95))]) 112 ?_ _ _ _ _ ⟨g_70, 0, rfl, (Nat.le_of_ble_eq_true rfl), hsp, hP, hD, hS, lv_sub hl [2, 3, 4, 5, 6, 7, 1, 0] rfl⟩
            rintro nn ih_96 H locs ls ⟨g_94, g_95, rfl, hg_95, he_99, hP, hD, hS, hl⟩
            obtain ⟨S_98, hsp, hin_100, hout_101⟩ := itr_step hlf_97 he_99
            refine lv_iload hx hb eX7_narrow_112 (lv_at hl 7 rfl) ?_
            refine lv_aload_n hx hb eX7_narrow_114 rfl (lv_at hl 0 rfl) ?_
            refine va_get (D := (dC, dI)) (ci := 7) (v := .int (nI zn)) (C := RX7) (T := TX7) (N := 2) hx hb hts hiX7 hown hK hP 0 rfl rfl 1 (by decide) v_2 (fun _ h9 => h9) rfl eX7_narrow_115 ?_
            refine lv_icmp_ge (tgt := 205) hx hb eX7_narrow_118 (by decide) (fun c_102 => ?_) (fun c_102 => ?_)
            · have c_102 : zn ≤ g_95 := (nI_leI (a := zn) (b := g_95) (Nat.lt_of_le_of_lt hzn (Nat.le_of_ble_eq_true rfl)) (Nat.lt_of_le_of_lt hg_95 (Nat.le_of_ble_eq_true rfl))).mp c_102
              have hsp := hsp.trans (if_pos c_102)
              have hsp := hout_101 _ hsp
              exact j_84 _ _ _ _ ⟨y_91, g_94, rfl, hsp.symm, hP, hD, hS, lv_sub hl [0, 1, 2, 3, 4, 5, 6] rfl⟩
            · have c_102 : ¬ zn ≤ g_95 := fun z => c_102 ((nI_leI (a := zn) (b := g_95) (Nat.lt_of_le_of_lt hzn (Nat.le_of_ble_eq_true rfl)) (Nat.lt_of_le_of_lt hg_95 (Nat.le_of_ble_eq_true rfl))).mpr z)
              have hsp := hsp.trans (if_neg c_102)
              refine lv_aload_n hx hb eX7_narrow_121 rfl (lv_at hl 0 rfl) ?_
              refine va_get (D := (dC, dI)) (ci := 7) (v := .ref zc) (C := RX7) (T := TX7) (N := 2) hx hb hts hiX7 hown hK hP 0 rfl rfl 0 (by decide) v_1 (fun _ h9 => h9) rfl eX7_narrow_122 ?_
              refine lv_iload_n hx hb eX7_narrow_125 rfl (lv_at hl 2 rfl) ?_
              refine lv_aload_n hx hb eX7_narrow_126 rfl (lv_at hl 0 rfl) ?_
              refine va_get (D := (dC, dI)) (ci := 7) (v := .int (nI zn)) (C := RX7) (T := TX7) (N := 2) hx hb hts hiX7 hown hK hP 0 rfl rfl 1 (by decide) v_2 (fun _ h9 => h9) rfl eX7_narrow_127 ?_
              refine lv_imul hx hb eX7_narrow_130 ?_
              refine lv_topi (fun y_103 ey_103 => ?_)
              obtain rfl : y_103 = (nI (a1 * zn)) := ey_103.trans (pk_mul a1 zn)
              refine lv_iload hx hb eX7_narrow_131 (lv_at hl 7 rfl) ?_
              refine lv_iadd hx hb eX7_narrow_133 ?_
              refine lv_topi (fun y_104 ey_104 => ?_)
              obtain rfl : y_104 = (nI ((a1 * zn) + g_95)) := ey_104.trans (nI_add (a1 * zn) g_95)
              refine va_iald hx hb hK hP 1 0 rfl rfl (vp_in_nI (n := ((a1 * zn) + g_95)) (by first | exact zx16 (by omega) (by omega) (by omega) | exact zy16 (by omega) (by omega) | omega) (Nat.le_of_ble_eq_true rfl)) eX7_narrow_134 ?_
              refine lv_topi (fun y_105 ey_105 => ?_)
              have ey_105 : y_105 = g_94 ((a1 * zn) + g_95) := ey_105.trans (congrArg g_94 (nI_clamp (n := ((a1 * zn) + g_95)) (by first | omega | exact Nat.lt_trans (zx16 (by omega) (by omega) (by omega)) (Nat.le_of_ble_eq_true rfl) | exact Nat.lt_trans (zy16 (by omega) (by omega)) (Nat.le_of_ble_eq_true rfl) | exact Nat.lt_trans (zx25 (by omega) (by omega) (by omega)) (Nat.le_of_ble_eq_true rfl) | exact Nat.lt_trans (zy25 (by omega) (by omega)) (Nat.le_of_ble_eq_true rfl))))
              have hsp := hsp.trans (slet_eq ey_105)
              refine lv_istore (lv' := [(8, .int y_105), (0, .ref z), (1, .int (nI a0)), (2, .int (nI a1)), (3, .int p2), (4, .int y_7), (5, .int (nI g_71)), (6, .int y_91), (7, .int (nI g_95))]) hx hb eX7_narrow_135 hl (by decide) rfl (fun ls hl => ?_)
              refine lv_iload hx hb eX7_narrow_137 (lv_at hl 0 rfl) ?_
              refine lv_ldc hx hb hown v_3 eX7_narrow_139 ?_
              obtain ⟨JR_108, hJR_108, hsp⟩ := slet_ex hsp
              refine pu_join (fun H locs ls st => ∃ (g_106 : Nat → Int32), st = [] ∧ g_106 = JR_108 ∧ va_P (dC, dI) vwCl (z16__w z zc (nI zn) k_fz g_106) H ∧ va_D A (z16__w z zc (nI zn) k_fz g_106) ∧ va_S A s.heap H locs ∧ lv_has ls 10 [(0, .ref z), (1, .int (nI a0)), (2, .int (nI a1)), (3, .int p2), (4, .int y_7), (5, .int (nI g_71)), (6, .int y_91), (7, .int (nI g_95)), (8, .int y_105)]) 199 ?_ (fun j_107 => ?_)
              · rintro H locs ls st ⟨g_106, rfl, he_109, hP, hD, hS, hl⟩
                rw [← he_109] at hsp
                refine lv_iinc (v := (nI (g_95 + 1))) (lv' := [(7, .int (nI (g_95 + 1))), (0, .ref z), (1, .int (nI a0)), (2, .int (nI a1)), (3, .int p2), (4, .int y_7), (5, .int (nI g_71)), (6, .int y_91), (8, .int y_105)]) hx hb eX7_narrow_199 hl (k := 7) rfl (nI_1 _) (by decide) rfl (fun ls hl => ?_)
                refine lv_goto (tgt := 112) hx hb eX7_narrow_202 (by decide) ?_
                exact ih_96 (4 - (g_95 + 1)) (by omega) _ _ _ ⟨g_106, (g_95 + 1), rfl, (by omega), hin_100 _ hsp, hP, hD, hS, lv_sub hl [1, 2, 3, 4, 5, 6, 7, 0] rfl⟩
              have hsp := hJR_108
              refine lv_icmp_ne (tgt := 147) hx hb eX7_narrow_141 (by decide) (fun c_110 => ?_) (fun c_110 => ?_)
              · have hcc_110 := c_110
                have hsp := hsp.trans (if_neg c_110)
                refine lv_iload hx hb eX7_narrow_147 (lv_at hl 7 rfl) ?_
                refine lv_iload hx hb eX7_narrow_149 (lv_at hl 0 rfl) ?_
                refine lv_iadd hx hb eX7_narrow_151 ?_
                refine lv_topi (fun y_111 ey_111 => ?_)
                have hsp := hsp.trans (slet_eq ey_111)
                refine lv_iload hx hb eX7_narrow_152 (lv_at hl 7 rfl) ?_
                refine lv_iload hx hb eX7_narrow_154 (lv_at hl 0 rfl) ?_
                refine lv_ior hx hb eX7_narrow_156 ?_
                refine lv_topi (fun y_112 ey_112 => ?_)
                have hsp := hsp.trans (slet_eq ey_112)
                refine lv_iconst (v := 1) hx hb eX7_narrow_157 (by decide) ?_
                refine lv_iand hx hb eX7_narrow_158 ?_
                refine lv_topi (fun y_113 ey_113 => ?_)
                have hsp := hsp.trans (slet_eq ey_113)
                refine lv_isub hx hb eX7_narrow_159 ?_
                refine lv_topi (fun y_114 ey_114 => ?_)
                have hsp := hsp.trans (slet_eq ey_114)
                refine lv_istore (lv' := [(9, .int y_114), (8, .int y_105), (0, .ref z), (1, .int (nI a0)), (2, .int (nI a1)), (3, .int p2), (4, .int y_7), (5, .int (nI g_71)), (6, .int y_91), (7, .int (nI g_95))]) hx hb eX7_narrow_160 hl (by decide) rfl (fun ls hl => ?_)
                refine lv_iload hx hb eX7_narrow_162 (lv_at hl 0 rfl) ?_
                refine lv_aload_n hx hb eX7_narrow_164 rfl (lv_at hl 2 rfl) ?_
                refine va_get (D := (dC, dI)) (ci := 7) (v := .ref zc) (C := RX7) (T := TX7) (N := 2) hx hb hts hiX7 hown hK hP 0 rfl rfl 0 (by decide) v_1 (fun _ h9 => h9) rfl eX7_narrow_165 ?_
                refine lv_iload hx hb eX7_narrow_168 (lv_at hl 7 rfl) ?_
                refine lv_aload_n hx hb eX7_narrow_170 rfl (lv_at hl 2 rfl) ?_
                refine va_get (D := (dC, dI)) (ci := 7) (v := .int (nI zn)) (C := RX7) (T := TX7) (N := 2) hx hb hts hiX7 hown hK hP 0 rfl rfl 1 (by decide) v_2 (fun _ h9 => h9) rfl eX7_narrow_171 ?_
                refine lv_imul hx hb eX7_narrow_174 ?_
                refine lv_topi (fun y_115 ey_115 => ?_)
                obtain rfl : y_115 = (nI (g_71 * zn)) := ey_115.trans (pk_mul g_71 zn)
                refine lv_iload hx hb eX7_narrow_175 (lv_at hl 9 rfl) ?_
                refine lv_iadd hx hb eX7_narrow_177 ?_
                refine lv_topi (fun y_116 ey_116 => ?_)
                obtain rfl : y_116 = (nI ((g_71 * zn) + g_95)) := ey_116.trans (nI_add (g_71 * zn) g_95)
                refine va_iald hx hb hK hP 1 0 rfl rfl (vp_in_nI (n := ((g_71 * zn) + g_95)) (by first | exact zx16 (by omega) (by omega) (by omega) | exact zy16 (by omega) (by omega) | omega) (Nat.le_of_ble_eq_true rfl)) eX7_narrow_178 ?_
                refine lv_topi (fun y_117 ey_117 => ?_)
                have ey_117 : y_117 = g_94 ((g_71 * zn) + g_95) := ey_117.trans (congrArg g_94 (nI_clamp (n := ((g_71 * zn) + g_95)) (by first | omega | exact Nat.lt_trans (zx16 (by omega) (by omega) (by omega)) (Nat.le_of_ble_eq_true rfl) | exact Nat.lt_trans (zy16 (by omega) (by omega)) (Nat.le_of_ble_eq_true rfl) | exact Nat.lt_trans (zx25 (by omega) (by omega) (by omega)) (Nat.le_of_ble_eq_true rfl) | exact Nat.lt_trans (zy25 (by omega) (by omega)) (Nat.le_of_ble_eq_true rfl))))
                have hsp := hsp.trans (slet_eq ey_117)
                refine lv_icmp_ge (tgt := 199) hx hb eX7_narrow_179 (by decide) (fun c_118 => ?_) (fun c_118 => ?_)
                · have hcc_118 := c_118
                  have hsp := hsp.trans (if_pos c_118)
                  exact j_107 _ _ _ _ ⟨g_94, rfl, hsp.symm, hP, hD, hS, lv_sub hl [2, 3, 4, 5, 6, 7, 8, 9, 1] rfl⟩
                · have hcc_118 := c_118
                  have hsp := hsp.trans (if_neg c_118)
                  refine lv_aload_n hx hb eX7_narrow_182 rfl (lv_at hl 2 rfl) ?_
                  refine va_get (D := (dC, dI)) (ci := 7) (v := .ref zc) (C := RX7) (T := TX7) (N := 2) hx hb hts hiX7 hown hK hP 0 rfl rfl 0 (by decide) v_1 (fun _ h9 => h9) rfl eX7_narrow_183 ?_
                  refine lv_iload hx hb eX7_narrow_186 (lv_at hl 7 rfl) ?_
                  refine lv_aload_n hx hb eX7_narrow_188 rfl (lv_at hl 2 rfl) ?_
                  refine va_get (D := (dC, dI)) (ci := 7) (v := .int (nI zn)) (C := RX7) (T := TX7) (N := 2) hx hb hts hiX7 hown hK hP 0 rfl rfl 1 (by decide) v_2 (fun _ h9 => h9) rfl eX7_narrow_189 ?_
                  refine lv_imul hx hb eX7_narrow_192 ?_
                  refine lv_topi (fun y_119 ey_119 => ?_)
                  obtain rfl : y_119 = (nI (g_71 * zn)) := ey_119.trans (pk_mul g_71 zn)
                  refine lv_iload hx hb eX7_narrow_193 (lv_at hl 9 rfl) ?_
                  refine lv_iadd hx hb eX7_narrow_195 ?_
                  refine lv_topi (fun y_120 ey_120 => ?_)
                  obtain rfl : y_120 = (nI ((g_71 * zn) + g_95)) := ey_120.trans (nI_add (g_71 * zn) g_95)
                  refine lv_iload hx hb eX7_narrow_196 (lv_at hl 0 rfl) ?_
                  refine va_iast hx hb hK hP hD hS 1 0 rfl rfl (vp_in_nI (n := ((g_71 * zn) + g_95)) (by first | exact zx16 (by omega) (by omega) (by omega) | exact zy16 (by omega) (by omega) | omega) (Nat.le_of_ble_eq_true rfl)) eX7_narrow_198 (fun H locs hP hD hS => ?_)
                  obtain ⟨f_121, ef_121, xf_121⟩ := up_x g_94 (n := ((g_71 * zn) + g_95)) y_114 (by first | omega | exact Nat.lt_trans (zx16 (by omega) (by omega) (by omega)) (Nat.le_of_ble_eq_true rfl) | exact Nat.lt_trans (zy16 (by omega) (by omega)) (Nat.le_of_ble_eq_true rfl) | exact Nat.lt_trans (zx25 (by omega) (by omega) (by omega)) (Nat.le_of_ble_eq_true rfl) | exact Nat.lt_trans (zy25 (by omega) (by omega)) (Nat.le_of_ble_eq_true rfl))
                  have hP : va_P (dC, dI) vwCl (z16__w z zc (nI zn) k_fz f_121) H := by rw [← ef_121]; exact hP
                  have hD : va_D A (z16__w z zc (nI zn) k_fz f_121) := by rw [← ef_121]; exact hD
                  have hsp := hsp.trans (slet_eq xf_121)
                  exact j_107 _ _ _ _ ⟨f_121, rfl, hsp.symm, hP, hD, hS, lv_sub hl [2, 3, 4, 5, 6, 7, 8, 9, 1] rfl⟩
              · have hcc_110 := c_110
                have hsp := hsp.trans (if_pos c_110)
                refine lv_goto (tgt := 199) hx hb eX7_narrow_144 (by decide) ?_
                exact j_107 _ _ _ _ ⟨g_94, rfl, hsp.symm, hP, hD, hS, lv_sub hl [1, 2, 3, 4, 5, 6, 7, 8, 0] rfl⟩
          · have hcc_87 := c_87
            have hsp := hsp.trans (if_pos c_87)
            refine lv_goto (tgt := 205) hx hb eX7_narrow_93 (by decide) ?_
            exact j_84 _ _ _ _ ⟨y_81, g_70, rfl, hsp.symm, hP, hD, hS, lv_sub hl [1, 2, 3, 4, 5, 6, 0] rfl⟩
      · have hcc_67 := c_67
        have hsp := hsp.trans (if_neg c_67)
        refine lv_iconst (v := 0) hx hb eX7_narrow_56 (by decide) ?_
        exact W.zret (v := 0) (ty := .boolean) hx hb hr (rfl) (fun t ht hW => ⟨⟨0, (), rfl, ⟨0, (Nat.le_of_ble_eq_true rfl), rfl, (congrArg Prod.fst (hsp.symm.trans hRR))⟩, ⟨fz, ⟨by rw [ht]; exact hP, va_K.moved hW.alike hK, hD⟩, (congrArg Prod.snd (hsp.symm.trans hRR))⟩⟩, hS.F ht⟩) hS.2.2 eX7_narrow_57
  · have hcc_4 := c_4
    have hsp := hsp.trans (if_neg c_4)
    refine lv_iconst (v := 1) hx hb eX7_narrow_17 (by decide) ?_
    exact W.zret (v := 1) (ty := .boolean) hx hb hr (rfl) (fun t ht hW => ⟨⟨1, (), rfl, ⟨1, (Nat.le_of_ble_eq_true rfl), rfl, (congrArg Prod.fst (hsp.symm.trans hRR))⟩, ⟨fz, ⟨by rw [ht]; exact hP, va_K.moved hW.alike hK, hD⟩, (congrArg Prod.snd (hsp.symm.trans hRR))⟩⟩, hS.F ht⟩) hS.2.2 eX7_narrow_18
theorem eX7_setBack_0 : decode cX7_setBack 0 = .ok (.iconst 0, 1) := by decide +kernel
theorem eX7_setBack_1 : decode cX7_setBack 1 = .ok (.istore_n 2, 1) := by decide +kernel
theorem eX7_setBack_2 : decode cX7_setBack 2 = .ok (.iload_n 2, 1) := by decide +kernel
theorem eX7_setBack_3 : decode cX7_setBack 3 = .ok (.aload_n 0, 1) := by decide +kernel
theorem eX7_setBack_4 : decode cX7_setBack 4 = .ok (.getfield 18, 3) := by decide +kernel
theorem eX7_setBack_7 : decode cX7_setBack 7 = .ok (.if_icmp .ge 52, 3) := by decide +kernel
theorem eX7_setBack_10 : decode cX7_setBack 10 = .ok (.aload_n 0, 1) := by decide +kernel
theorem eX7_setBack_11 : decode cX7_setBack 11 = .ok (.getfield 11, 3) := by decide +kernel
theorem eX7_setBack_14 : decode cX7_setBack 14 = .ok (.iload_n 1, 1) := by decide +kernel
theorem eX7_setBack_15 : decode cX7_setBack 15 = .ok (.aload_n 0, 1) := by decide +kernel
theorem eX7_setBack_16 : decode cX7_setBack 16 = .ok (.getfield 18, 3) := by decide +kernel
theorem eX7_setBack_19 : decode cX7_setBack 19 = .ok (.imul, 1) := by decide +kernel
theorem eX7_setBack_20 : decode cX7_setBack 20 = .ok (.iload_n 2, 1) := by decide +kernel
theorem eX7_setBack_21 : decode cX7_setBack 21 = .ok (.iadd, 1) := by decide +kernel
theorem eX7_setBack_22 : decode cX7_setBack 22 = .ok (.aload_n 0, 1) := by decide +kernel
theorem eX7_setBack_23 : decode cX7_setBack 23 = .ok (.getfield 11, 3) := by decide +kernel
theorem eX7_setBack_26 : decode cX7_setBack 26 = .ok (.iload_n 2, 1) := by decide +kernel
theorem eX7_setBack_27 : decode cX7_setBack 27 = .ok (.iaload, 1) := by decide +kernel
theorem eX7_setBack_28 : decode cX7_setBack 28 = .ok (.iastore, 1) := by decide +kernel
theorem eX7_setBack_29 : decode cX7_setBack 29 = .ok (.aload_n 0, 1) := by decide +kernel
theorem eX7_setBack_30 : decode cX7_setBack 30 = .ok (.getfield 11, 3) := by decide +kernel
theorem eX7_setBack_33 : decode cX7_setBack 33 = .ok (.iload_n 2, 1) := by decide +kernel
theorem eX7_setBack_34 : decode cX7_setBack 34 = .ok (.aload_n 0, 1) := by decide +kernel
theorem eX7_setBack_35 : decode cX7_setBack 35 = .ok (.getfield 18, 3) := by decide +kernel
theorem eX7_setBack_38 : decode cX7_setBack 38 = .ok (.imul, 1) := by decide +kernel
theorem eX7_setBack_39 : decode cX7_setBack 39 = .ok (.iload_n 1, 1) := by decide +kernel
theorem eX7_setBack_40 : decode cX7_setBack 40 = .ok (.iadd, 1) := by decide +kernel
theorem eX7_setBack_41 : decode cX7_setBack 41 = .ok (.aload_n 0, 1) := by decide +kernel
theorem eX7_setBack_42 : decode cX7_setBack 42 = .ok (.getfield 11, 3) := by decide +kernel
theorem eX7_setBack_45 : decode cX7_setBack 45 = .ok (.iload_n 2, 1) := by decide +kernel
theorem eX7_setBack_46 : decode cX7_setBack 46 = .ok (.aload_n 0, 1) := by decide +kernel
theorem eX7_setBack_47 : decode cX7_setBack 47 = .ok (.getfield 18, 3) := by decide +kernel
theorem eX7_setBack_50 : decode cX7_setBack 50 = .ok (.imul, 1) := by decide +kernel
theorem eX7_setBack_51 : decode cX7_setBack 51 = .ok (.iaload, 1) := by decide +kernel
theorem eX7_setBack_52 : decode cX7_setBack 52 = .ok (.iastore, 1) := by decide +kernel
theorem eX7_setBack_53 : decode cX7_setBack 53 = .ok (.iinc 2 1, 3) := by decide +kernel
theorem eX7_setBack_56 : decode cX7_setBack 56 = .ok (.goto (-54), 3) := by decide +kernel
theorem eX7_setBack_59 : decode cX7_setBack 59 = .ok (.aload_n 0, 1) := by decide +kernel
theorem eX7_setBack_60 : decode cX7_setBack 60 = .ok (.getfield 11, 3) := by decide +kernel
theorem eX7_setBack_63 : decode cX7_setBack 63 = .ok (.iload_n 1, 1) := by decide +kernel
theorem eX7_setBack_64 : decode cX7_setBack 64 = .ok (.aload_n 0, 1) := by decide +kernel
theorem eX7_setBack_65 : decode cX7_setBack 65 = .ok (.getfield 18, 3) := by decide +kernel
theorem eX7_setBack_68 : decode cX7_setBack 68 = .ok (.imul, 1) := by decide +kernel
theorem eX7_setBack_69 : decode cX7_setBack 69 = .ok (.iload_n 1, 1) := by decide +kernel
theorem eX7_setBack_70 : decode cX7_setBack 70 = .ok (.iadd, 1) := by decide +kernel
theorem eX7_setBack_71 : decode cX7_setBack 71 = .ok (.iconst 1, 1) := by decide +kernel
theorem eX7_setBack_72 : decode cX7_setBack 72 = .ok (.iastore, 1) := by decide +kernel
theorem eX7_setBack_73 : decode cX7_setBack 73 = .ok (.return_, 1) := by decide +kernel
abbrev vs_E_7_setBack_16 : List Cond := .code yX7_setBack cX7_setBack 3 none :: CM
noncomputable def sp_E_7_setBack_16_L1 (zn : Nat) (a0 : Nat) : ((Nat → Int32) × Nat) → ((Nat → Int32) × Nat) ⊕ ((Nat → Int32)) := fun (g_3, g_4) => (if zn ≤ g_4 then (Sum.inr (slet (upd g_3 ((a0 * zn) + a0) 1) (fun f_14 => f_14))) else (slet (g_3 g_4) (fun y_17 => (slet (upd g_3 ((a0 * zn) + g_4) y_17) (fun f_18 => (slet (f_18 (g_4 * zn)) (fun y_22 => (slet (upd f_18 ((g_4 * zn) + a0) y_22) (fun f_23 => (Sum.inl (f_23, (g_4 + 1))))))))))))
noncomputable def sp_E_7_setBack_16 (zn : Nat) (fz : Nat → Int32) (a0 : Nat) : (Nat → Int32) := (itrv (α := (Nat → Int32) × Nat) (β := ((Nat → Int32))) default (sp_E_7_setBack_16_L1 zn a0) (fz, 0))
set_option maxHeartbeats 4000000 in
set_option maxRecDepth 100000 in
theorem c_E_7_setBack_16 (l : Launch) (dC : Nat → ClassId) (dI : Nat → Nat → Nat) (sz : Nat) (z : Nat) (zc : Nat) (zn : Nat) (k_fz : ClassId) (fz : Nat → Int32) (a0 : Nat) (hzn : zn ≤ 4) (ha0 : a0 ≤ 3) : Met l yX7_setBack vs_E_7_setBack_16 ({ frames := 0, cells := 0, slots := 0, locals := 0 }) (va_Pc [.ref z, .int (nI a0)] (pu_B (dC, dI) (z16__w z zc (nI zn) k_fz fz) (z16__t k_fz) sz)) (va_Qv (fun (_ : Unit) => True) (fun _ t => ∃ (z_fz : Nat → Int32), pu_E (dC, dI) (z16__w z zc (nI zn) k_fz z_fz) (z16__t k_fz) (va_A ((z16__w z zc (nI zn) k_fz fz)) sz) t ∧ (z_fz = (sp_E_7_setBack_16 zn fz a0))) (va_A ((z16__w z zc (nI zn) k_fz fz)) sz)) 0 0 (va_A ((z16__w z zc (nI zn) k_fz fz)) sz) := by
  refine Met.ofW (cc := cX7_setBack) (maxL := 3) (ret := none) (by decide) rfl ?_
  intro p e s m args below meth c s₁ B hml hv
  obtain ⟨rfl, rfl, hP, hK, hD0⟩ := hv
  have hx := B.exec
  have hb := B.bytes
  have hr := B.returns
  have hts := atoms_spec (ws := vs_E_7_setBack_16) B.pre
  have v_1 := hts (.fieldLink RX7 18 "ClockReach$Zone" "size" "I") (List.mem_cons_of_mem _ cm_48)
  have v_2 := hts (.fieldLink RX7 11 "ClockReach$Zone" "cells" "[I") (List.mem_cons_of_mem _ cm_47)
  have hown : s.vm.findClass RX7 = some m.cls := findClass_of_methodNamed B.named
  have hlocks := B.notSynchronized
  have hiX7 : ∀ w ∈ wsX70, w ∈ vs_E_7_setBack_16 := fun _ h => List.mem_cons_of_mem _ (cm_X7 h)
  have hD := hD0.self (sz := s.heap.size)
  generalize hAe : va_A ((z16__w z zc (nI zn) k_fz fz)) s.heap.size = A at hD ⊢
  have hA : ∀ q : Nat, s.heap.size ≤ q → A q := fun q h => by rw [← hAe]; exact Or.inr h
  have hS : va_S A s.heap s.heap [] := va_S.rf
  have hl := lv_entry ([.ref z, .int (nI a0)]) (n := 3) (Nat.le_of_ble_eq_true rfl)
  rw [lg_entry_eq]
  generalize (lg_sl ([.ref z, .int (nI a0)]) ++ List.replicate (3 - (lg_sl ([.ref z, .int (nI a0)])).length) Slot.unset).toArray = ls at hl ⊢
  have hl : lv_has ls 3 [(0, .ref z), (1, .int (nI a0))] := hl
  have hzz := zz4 hzn
  obtain ⟨RR, hRR⟩ : ∃ x, x = (sp_E_7_setBack_16 zn fz a0) := ⟨_, rfl⟩
  have hsp := hRR
  refine lv_iconst (v := 0) hx hb eX7_setBack_0 (by decide) ?_
  refine lv_istore_n (lv' := [(2, .int 0), (0, .ref z), (1, .int (nI a0))]) hx hb eX7_setBack_1 rfl hl (by decide) rfl (fun ls hl => ?_)
  obtain ⟨lf_6, dlf_6, hlf_6, hsp⟩ := itr_ex hsp
  delta sp_E_7_setBack_16_L1 at hlf_6
  refine pu_while (fun nn H locs ls => ∃ (g_3 : Nat → Int32) (g_4 : Nat), nn = 4 - g_4 ∧ g_4 ≤ 4 ∧ RR = itrv dlf_6 lf_6 (g_3, g_4) ∧ va_P (dC, dI) vwCl (z16__w z zc (nI zn) k_fz g_3) H ∧ va_D A (z16__w z zc (nI zn) k_fz g_3) ∧ va_S A s.heap H locs ∧ lv_has ls 3 [(0, .ref z), (1, .int (nI a0)), (2, .int (nI g_4))]) 2 ?_ _ _ _ _ ⟨fz, 0, rfl, (Nat.le_of_ble_eq_true rfl), hsp, hP, hD, hS, lv_sub hl [1, 2, 0] rfl⟩
  rintro nn ih_5 H locs ls ⟨g_3, g_4, rfl, hg_4, he_8, hP, hD, hS, hl⟩
  obtain ⟨S_7, hsp, hin_9, hout_10⟩ := itr_step hlf_6 he_8
  refine lv_iload_n hx hb eX7_setBack_2 rfl (lv_at hl 2 rfl) ?_
  refine lv_aload_n hx hb eX7_setBack_3 rfl (lv_at hl 0 rfl) ?_
  refine va_get (D := (dC, dI)) (ci := 7) (v := .int (nI zn)) (C := RX7) (T := TX7) (N := 2) hx hb hts hiX7 hown hK hP 0 rfl rfl 1 (by decide) v_1 (fun _ h9 => h9) rfl eX7_setBack_4 ?_
  refine lv_icmp_ge (tgt := 59) hx hb eX7_setBack_7 (by decide) (fun c_11 => ?_) (fun c_11 => ?_)
  · have c_11 : zn ≤ g_4 := (nI_leI (a := zn) (b := g_4) (Nat.lt_of_le_of_lt hzn (Nat.le_of_ble_eq_true rfl)) (Nat.lt_of_le_of_lt hg_4 (Nat.le_of_ble_eq_true rfl))).mp c_11
    have hsp := hsp.trans (if_pos c_11)
    have hsp := hout_10 _ hsp
    refine lv_aload_n hx hb eX7_setBack_59 rfl (lv_at hl 0 rfl) ?_
    refine va_get (D := (dC, dI)) (ci := 7) (v := .ref zc) (C := RX7) (T := TX7) (N := 2) hx hb hts hiX7 hown hK hP 0 rfl rfl 0 (by decide) v_2 (fun _ h9 => h9) rfl eX7_setBack_60 ?_
    refine lv_iload_n hx hb eX7_setBack_63 rfl (lv_at hl 1 rfl) ?_
    refine lv_aload_n hx hb eX7_setBack_64 rfl (lv_at hl 0 rfl) ?_
    refine va_get (D := (dC, dI)) (ci := 7) (v := .int (nI zn)) (C := RX7) (T := TX7) (N := 2) hx hb hts hiX7 hown hK hP 0 rfl rfl 1 (by decide) v_1 (fun _ h9 => h9) rfl eX7_setBack_65 ?_
    refine lv_imul hx hb eX7_setBack_68 ?_
    refine lv_topi (fun y_12 ey_12 => ?_)
    obtain rfl : y_12 = (nI (a0 * zn)) := ey_12.trans (pk_mul a0 zn)
    refine lv_iload_n hx hb eX7_setBack_69 rfl (lv_at hl 1 rfl) ?_
    refine lv_iadd hx hb eX7_setBack_70 ?_
    refine lv_topi (fun y_13 ey_13 => ?_)
    obtain rfl : y_13 = (nI ((a0 * zn) + a0)) := ey_13.trans (nI_add (a0 * zn) a0)
    refine lv_iconst (v := 1) hx hb eX7_setBack_71 (by decide) ?_
    refine va_iast hx hb hK hP hD hS 1 0 rfl rfl (vp_in_nI (n := ((a0 * zn) + a0)) (by first | exact zx16 (by omega) (by omega) (by omega) | exact zy16 (by omega) (by omega) | omega) (Nat.le_of_ble_eq_true rfl)) eX7_setBack_72 (fun H locs hP hD hS => ?_)
    obtain ⟨f_14, ef_14, xf_14⟩ := up_x g_3 (n := ((a0 * zn) + a0)) 1 (by first | omega | exact Nat.lt_trans (zx16 (by omega) (by omega) (by omega)) (Nat.le_of_ble_eq_true rfl) | exact Nat.lt_trans (zy16 (by omega) (by omega)) (Nat.le_of_ble_eq_true rfl) | exact Nat.lt_trans (zx25 (by omega) (by omega) (by omega)) (Nat.le_of_ble_eq_true rfl) | exact Nat.lt_trans (zy25 (by omega) (by omega)) (Nat.le_of_ble_eq_true rfl))
    have hP : va_P (dC, dI) vwCl (z16__w z zc (nI zn) k_fz f_14) H := by rw [← ef_14]; exact hP
    have hD : va_D A (z16__w z zc (nI zn) k_fz f_14) := by rw [← ef_14]; exact hD
    have hsp := hsp.trans (slet_eq xf_14)
    exact W.vret hx hb hr (fun t ht hW => ⟨⟨(), rfl, trivial, ⟨f_14, ⟨by rw [ht]; exact hP, va_K.moved hW.alike hK, hD⟩, (hsp.symm.trans hRR)⟩⟩, hS.F ht⟩) hS.2.2 eX7_setBack_73
  · have c_11 : ¬ zn ≤ g_4 := fun z => c_11 ((nI_leI (a := zn) (b := g_4) (Nat.lt_of_le_of_lt hzn (Nat.le_of_ble_eq_true rfl)) (Nat.lt_of_le_of_lt hg_4 (Nat.le_of_ble_eq_true rfl))).mpr z)
    have hsp := hsp.trans (if_neg c_11)
    refine lv_aload_n hx hb eX7_setBack_10 rfl (lv_at hl 0 rfl) ?_
    refine va_get (D := (dC, dI)) (ci := 7) (v := .ref zc) (C := RX7) (T := TX7) (N := 2) hx hb hts hiX7 hown hK hP 0 rfl rfl 0 (by decide) v_2 (fun _ h9 => h9) rfl eX7_setBack_11 ?_
    refine lv_iload_n hx hb eX7_setBack_14 rfl (lv_at hl 1 rfl) ?_
    refine lv_aload_n hx hb eX7_setBack_15 rfl (lv_at hl 0 rfl) ?_
    refine va_get (D := (dC, dI)) (ci := 7) (v := .int (nI zn)) (C := RX7) (T := TX7) (N := 2) hx hb hts hiX7 hown hK hP 0 rfl rfl 1 (by decide) v_1 (fun _ h9 => h9) rfl eX7_setBack_16 ?_
    refine lv_imul hx hb eX7_setBack_19 ?_
    refine lv_topi (fun y_15 ey_15 => ?_)
    obtain rfl : y_15 = (nI (a0 * zn)) := ey_15.trans (pk_mul a0 zn)
    refine lv_iload_n hx hb eX7_setBack_20 rfl (lv_at hl 2 rfl) ?_
    refine lv_iadd hx hb eX7_setBack_21 ?_
    refine lv_topi (fun y_16 ey_16 => ?_)
    obtain rfl : y_16 = (nI ((a0 * zn) + g_4)) := ey_16.trans (nI_add (a0 * zn) g_4)
    refine lv_aload_n hx hb eX7_setBack_22 rfl (lv_at hl 0 rfl) ?_
    refine va_get (D := (dC, dI)) (ci := 7) (v := .ref zc) (C := RX7) (T := TX7) (N := 2) hx hb hts hiX7 hown hK hP 0 rfl rfl 0 (by decide) v_2 (fun _ h9 => h9) rfl eX7_setBack_23 ?_
    refine lv_iload_n hx hb eX7_setBack_26 rfl (lv_at hl 2 rfl) ?_
    refine va_iald hx hb hK hP 1 0 rfl rfl (vp_in_nI (n := g_4) (Nat.lt_of_le_of_lt hg_4 (Nat.le_of_ble_eq_true rfl)) (Nat.le_of_ble_eq_true rfl)) eX7_setBack_27 ?_
    refine lv_topi (fun y_17 ey_17 => ?_)
    have ey_17 : y_17 = g_3 g_4 := ey_17.trans (congrArg g_3 (nI_clamp (n := g_4) (Nat.lt_of_le_of_lt hg_4 (Nat.le_of_ble_eq_true rfl))))
    have hsp := hsp.trans (slet_eq ey_17)
    refine va_iast hx hb hK hP hD hS 1 0 rfl rfl (vp_in_nI (n := ((a0 * zn) + g_4)) (by first | exact zx16 (by omega) (by omega) (by omega) | exact zy16 (by omega) (by omega) | omega) (Nat.le_of_ble_eq_true rfl)) eX7_setBack_28 (fun H locs hP hD hS => ?_)
    obtain ⟨f_18, ef_18, xf_18⟩ := up_x g_3 (n := ((a0 * zn) + g_4)) y_17 (by first | omega | exact Nat.lt_trans (zx16 (by omega) (by omega) (by omega)) (Nat.le_of_ble_eq_true rfl) | exact Nat.lt_trans (zy16 (by omega) (by omega)) (Nat.le_of_ble_eq_true rfl) | exact Nat.lt_trans (zx25 (by omega) (by omega) (by omega)) (Nat.le_of_ble_eq_true rfl) | exact Nat.lt_trans (zy25 (by omega) (by omega)) (Nat.le_of_ble_eq_true rfl))
    have hP : va_P (dC, dI) vwCl (z16__w z zc (nI zn) k_fz f_18) H := by rw [← ef_18]; exact hP
    have hD : va_D A (z16__w z zc (nI zn) k_fz f_18) := by rw [← ef_18]; exact hD
    have hsp := hsp.trans (slet_eq xf_18)
    refine lv_aload_n hx hb eX7_setBack_29 rfl (lv_at hl 0 rfl) ?_
    refine va_get (D := (dC, dI)) (ci := 7) (v := .ref zc) (C := RX7) (T := TX7) (N := 2) hx hb hts hiX7 hown hK hP 0 rfl rfl 0 (by decide) v_2 (fun _ h9 => h9) rfl eX7_setBack_30 ?_
    refine lv_iload_n hx hb eX7_setBack_33 rfl (lv_at hl 2 rfl) ?_
    refine lv_aload_n hx hb eX7_setBack_34 rfl (lv_at hl 0 rfl) ?_
    refine va_get (D := (dC, dI)) (ci := 7) (v := .int (nI zn)) (C := RX7) (T := TX7) (N := 2) hx hb hts hiX7 hown hK hP 0 rfl rfl 1 (by decide) v_1 (fun _ h9 => h9) rfl eX7_setBack_35 ?_
    refine lv_imul hx hb eX7_setBack_38 ?_
    refine lv_topi (fun y_19 ey_19 => ?_)
    obtain rfl : y_19 = (nI (g_4 * zn)) := ey_19.trans (pk_mul g_4 zn)
    refine lv_iload_n hx hb eX7_setBack_39 rfl (lv_at hl 1 rfl) ?_
    refine lv_iadd hx hb eX7_setBack_40 ?_
    refine lv_topi (fun y_20 ey_20 => ?_)
    obtain rfl : y_20 = (nI ((g_4 * zn) + a0)) := ey_20.trans (nI_add (g_4 * zn) a0)
    refine lv_aload_n hx hb eX7_setBack_41 rfl (lv_at hl 0 rfl) ?_
    refine va_get (D := (dC, dI)) (ci := 7) (v := .ref zc) (C := RX7) (T := TX7) (N := 2) hx hb hts hiX7 hown hK hP 0 rfl rfl 0 (by decide) v_2 (fun _ h9 => h9) rfl eX7_setBack_42 ?_
    refine lv_iload_n hx hb eX7_setBack_45 rfl (lv_at hl 2 rfl) ?_
    refine lv_aload_n hx hb eX7_setBack_46 rfl (lv_at hl 0 rfl) ?_
    refine va_get (D := (dC, dI)) (ci := 7) (v := .int (nI zn)) (C := RX7) (T := TX7) (N := 2) hx hb hts hiX7 hown hK hP 0 rfl rfl 1 (by decide) v_1 (fun _ h9 => h9) rfl eX7_setBack_47 ?_
    refine lv_imul hx hb eX7_setBack_50 ?_
    refine lv_topi (fun y_21 ey_21 => ?_)
    obtain rfl : y_21 = (nI (g_4 * zn)) := ey_21.trans (pk_mul g_4 zn)
    refine va_iald hx hb hK hP 1 0 rfl rfl (vp_in_nI (n := (g_4 * zn)) (by first | exact zx16 (by omega) (by omega) (by omega) | exact zy16 (by omega) (by omega) | omega) (Nat.le_of_ble_eq_true rfl)) eX7_setBack_51 ?_
    refine lv_topi (fun y_22 ey_22 => ?_)
    have ey_22 : y_22 = f_18 (g_4 * zn) := ey_22.trans (congrArg f_18 (nI_clamp (n := (g_4 * zn)) (by first | omega | exact Nat.lt_trans (zx16 (by omega) (by omega) (by omega)) (Nat.le_of_ble_eq_true rfl) | exact Nat.lt_trans (zy16 (by omega) (by omega)) (Nat.le_of_ble_eq_true rfl) | exact Nat.lt_trans (zx25 (by omega) (by omega) (by omega)) (Nat.le_of_ble_eq_true rfl) | exact Nat.lt_trans (zy25 (by omega) (by omega)) (Nat.le_of_ble_eq_true rfl))))
    have hsp := hsp.trans (slet_eq ey_22)
    refine va_iast hx hb hK hP hD hS 1 0 rfl rfl (vp_in_nI (n := ((g_4 * zn) + a0)) (by first | exact zx16 (by omega) (by omega) (by omega) | exact zy16 (by omega) (by omega) | omega) (Nat.le_of_ble_eq_true rfl)) eX7_setBack_52 (fun H locs hP hD hS => ?_)
    obtain ⟨f_23, ef_23, xf_23⟩ := up_x f_18 (n := ((g_4 * zn) + a0)) y_22 (by first | omega | exact Nat.lt_trans (zx16 (by omega) (by omega) (by omega)) (Nat.le_of_ble_eq_true rfl) | exact Nat.lt_trans (zy16 (by omega) (by omega)) (Nat.le_of_ble_eq_true rfl) | exact Nat.lt_trans (zx25 (by omega) (by omega) (by omega)) (Nat.le_of_ble_eq_true rfl) | exact Nat.lt_trans (zy25 (by omega) (by omega)) (Nat.le_of_ble_eq_true rfl))
    have hP : va_P (dC, dI) vwCl (z16__w z zc (nI zn) k_fz f_23) H := by rw [← ef_23]; exact hP
    have hD : va_D A (z16__w z zc (nI zn) k_fz f_23) := by rw [← ef_23]; exact hD
    have hsp := hsp.trans (slet_eq xf_23)
    refine lv_iinc (v := (nI (g_4 + 1))) (lv' := [(2, .int (nI (g_4 + 1))), (0, .ref z), (1, .int (nI a0))]) hx hb eX7_setBack_53 hl (k := 2) rfl (nI_1 _) (by decide) rfl (fun ls hl => ?_)
    refine lv_goto (tgt := 2) hx hb eX7_setBack_56 (by decide) ?_
    exact ih_5 (4 - (g_4 + 1)) (by omega) _ _ _ ⟨f_23, (g_4 + 1), rfl, (by omega), hin_9 _ hsp, hP, hD, hS, lv_sub hl [1, 2, 0] rfl⟩
theorem eX7_delay_0 : decode cX7_delay 0 = .ok (.iconst 1, 1) := by decide +kernel
theorem eX7_delay_1 : decode cX7_delay 1 = .ok (.istore_n 1, 1) := by decide +kernel
theorem eX7_delay_2 : decode cX7_delay 2 = .ok (.iload_n 1, 1) := by decide +kernel
theorem eX7_delay_3 : decode cX7_delay 3 = .ok (.aload_n 0, 1) := by decide +kernel
theorem eX7_delay_4 : decode cX7_delay 4 = .ok (.getfield 18, 3) := by decide +kernel
theorem eX7_delay_7 : decode cX7_delay 7 = .ok (.if_icmp .ge 22, 3) := by decide +kernel
theorem eX7_delay_10 : decode cX7_delay 10 = .ok (.aload_n 0, 1) := by decide +kernel
theorem eX7_delay_11 : decode cX7_delay 11 = .ok (.getfield 11, 3) := by decide +kernel
theorem eX7_delay_14 : decode cX7_delay 14 = .ok (.iload_n 1, 1) := by decide +kernel
theorem eX7_delay_15 : decode cX7_delay 15 = .ok (.aload_n 0, 1) := by decide +kernel
theorem eX7_delay_16 : decode cX7_delay 16 = .ok (.getfield 18, 3) := by decide +kernel
theorem eX7_delay_19 : decode cX7_delay 19 = .ok (.imul, 1) := by decide +kernel
theorem eX7_delay_20 : decode cX7_delay 20 = .ok (.ldc 17, 2) := by decide +kernel
theorem eX7_delay_22 : decode cX7_delay 22 = .ok (.iastore, 1) := by decide +kernel
theorem eX7_delay_23 : decode cX7_delay 23 = .ok (.iinc 1 1, 3) := by decide +kernel
theorem eX7_delay_26 : decode cX7_delay 26 = .ok (.goto (-24), 3) := by decide +kernel
theorem eX7_delay_29 : decode cX7_delay 29 = .ok (.return_, 1) := by decide +kernel
abbrev vs_E_7_delay_16 : List Cond := .code yX7_delay cX7_delay 2 none :: CM
noncomputable def sp_E_7_delay_16_L1 (zn : Nat) : ((Nat → Int32) × Nat) → ((Nat → Int32) × Nat) ⊕ ((Nat → Int32)) := fun (g_3, g_4) => (if zn ≤ g_4 then (Sum.inr g_3) else (slet (upd g_3 (g_4 * zn) 2147483647) (fun f_13 => (Sum.inl (f_13, (g_4 + 1))))))
noncomputable def sp_E_7_delay_16 (zn : Nat) (fz : Nat → Int32) : (Nat → Int32) := (itrv (α := (Nat → Int32) × Nat) (β := ((Nat → Int32))) default (sp_E_7_delay_16_L1 zn) (fz, 1))
set_option maxHeartbeats 4000000 in
set_option maxRecDepth 100000 in
theorem c_E_7_delay_16 (l : Launch) (dC : Nat → ClassId) (dI : Nat → Nat → Nat) (sz : Nat) (z : Nat) (zc : Nat) (zn : Nat) (k_fz : ClassId) (fz : Nat → Int32) (hzn : zn ≤ 4) : Met l yX7_delay vs_E_7_delay_16 ({ frames := 0, cells := 0, slots := 0, locals := 0 }) (va_Pc [.ref z] (pu_B (dC, dI) (z16__w z zc (nI zn) k_fz fz) (z16__t k_fz) sz)) (va_Qv (fun (_ : Unit) => True) (fun _ t => ∃ (z_fz : Nat → Int32), pu_E (dC, dI) (z16__w z zc (nI zn) k_fz z_fz) (z16__t k_fz) (va_A ((z16__w z zc (nI zn) k_fz fz)) sz) t ∧ (z_fz = (sp_E_7_delay_16 zn fz))) (va_A ((z16__w z zc (nI zn) k_fz fz)) sz)) 0 0 (va_A ((z16__w z zc (nI zn) k_fz fz)) sz) := by
  refine Met.ofW (cc := cX7_delay) (maxL := 2) (ret := none) (by decide) rfl ?_
  intro p e s m args below meth c s₁ B hml hv
  obtain ⟨rfl, rfl, hP, hK, hD0⟩ := hv
  have hx := B.exec
  have hb := B.bytes
  have hr := B.returns
  have hts := atoms_spec (ws := vs_E_7_delay_16) B.pre
  have v_1 := hts (.fieldLink RX7 18 "ClockReach$Zone" "size" "I") (List.mem_cons_of_mem _ cm_48)
  have v_2 := hts (.fieldLink RX7 11 "ClockReach$Zone" "cells" "[I") (List.mem_cons_of_mem _ cm_47)
  have v_3 := hts (.constant RX7 17 (2147483647)) (List.mem_cons_of_mem _ cm_49)
  have hown : s.vm.findClass RX7 = some m.cls := findClass_of_methodNamed B.named
  have hlocks := B.notSynchronized
  have hiX7 : ∀ w ∈ wsX70, w ∈ vs_E_7_delay_16 := fun _ h => List.mem_cons_of_mem _ (cm_X7 h)
  have hD := hD0.self (sz := s.heap.size)
  generalize hAe : va_A ((z16__w z zc (nI zn) k_fz fz)) s.heap.size = A at hD ⊢
  have hA : ∀ q : Nat, s.heap.size ≤ q → A q := fun q h => by rw [← hAe]; exact Or.inr h
  have hS : va_S A s.heap s.heap [] := va_S.rf
  have hl := lv_entry ([.ref z]) (n := 2) (Nat.le_of_ble_eq_true rfl)
  rw [lg_entry_eq]
  generalize (lg_sl ([.ref z]) ++ List.replicate (2 - (lg_sl ([.ref z])).length) Slot.unset).toArray = ls at hl ⊢
  have hl : lv_has ls 2 [(0, .ref z)] := hl
  have hzz := zz4 hzn
  obtain ⟨RR, hRR⟩ : ∃ x, x = (sp_E_7_delay_16 zn fz) := ⟨_, rfl⟩
  have hsp := hRR
  refine lv_iconst (v := 1) hx hb eX7_delay_0 (by decide) ?_
  refine lv_istore_n (lv' := [(1, .int 1), (0, .ref z)]) hx hb eX7_delay_1 rfl hl (by decide) rfl (fun ls hl => ?_)
  obtain ⟨lf_6, dlf_6, hlf_6, hsp⟩ := itr_ex hsp
  delta sp_E_7_delay_16_L1 at hlf_6
  refine pu_while (fun nn H locs ls => ∃ (g_3 : Nat → Int32) (g_4 : Nat), nn = 4 - g_4 ∧ (1 ≤ g_4 ∧ g_4 ≤ 4) ∧ RR = itrv dlf_6 lf_6 (g_3, g_4) ∧ va_P (dC, dI) vwCl (z16__w z zc (nI zn) k_fz g_3) H ∧ va_D A (z16__w z zc (nI zn) k_fz g_3) ∧ va_S A s.heap H locs ∧ lv_has ls 2 [(0, .ref z), (1, .int (nI g_4))]) 2 ?_ _ _ _ _ ⟨fz, 1, rfl, ⟨by omega, by omega⟩, hsp, hP, hD, hS, lv_sub hl [1, 0] rfl⟩
  rintro nn ih_5 H locs ls ⟨g_3, g_4, rfl, hg_4, he_8, hP, hD, hS, hl⟩
  obtain ⟨S_7, hsp, hin_9, hout_10⟩ := itr_step hlf_6 he_8
  refine lv_iload_n hx hb eX7_delay_2 rfl (lv_at hl 1 rfl) ?_
  refine lv_aload_n hx hb eX7_delay_3 rfl (lv_at hl 0 rfl) ?_
  refine va_get (D := (dC, dI)) (ci := 7) (v := .int (nI zn)) (C := RX7) (T := TX7) (N := 2) hx hb hts hiX7 hown hK hP 0 rfl rfl 1 (by decide) v_1 (fun _ h9 => h9) rfl eX7_delay_4 ?_
  refine lv_icmp_ge (tgt := 29) hx hb eX7_delay_7 (by decide) (fun c_11 => ?_) (fun c_11 => ?_)
  · have c_11 : zn ≤ g_4 := (nI_leI (a := zn) (b := g_4) (Nat.lt_of_le_of_lt hzn (Nat.le_of_ble_eq_true rfl)) (Nat.lt_of_le_of_lt hg_4.2 (Nat.le_of_ble_eq_true rfl))).mp c_11
    have hsp := hsp.trans (if_pos c_11)
    have hsp := hout_10 _ hsp
    exact W.vret hx hb hr (fun t ht hW => ⟨⟨(), rfl, trivial, ⟨g_3, ⟨by rw [ht]; exact hP, va_K.moved hW.alike hK, hD⟩, (hsp.symm.trans hRR)⟩⟩, hS.F ht⟩) hS.2.2 eX7_delay_29
  · have c_11 : ¬ zn ≤ g_4 := fun z => c_11 ((nI_leI (a := zn) (b := g_4) (Nat.lt_of_le_of_lt hzn (Nat.le_of_ble_eq_true rfl)) (Nat.lt_of_le_of_lt hg_4.2 (Nat.le_of_ble_eq_true rfl))).mpr z)
    have hsp := hsp.trans (if_neg c_11)
    refine lv_aload_n hx hb eX7_delay_10 rfl (lv_at hl 0 rfl) ?_
    refine va_get (D := (dC, dI)) (ci := 7) (v := .ref zc) (C := RX7) (T := TX7) (N := 2) hx hb hts hiX7 hown hK hP 0 rfl rfl 0 (by decide) v_2 (fun _ h9 => h9) rfl eX7_delay_11 ?_
    refine lv_iload_n hx hb eX7_delay_14 rfl (lv_at hl 1 rfl) ?_
    refine lv_aload_n hx hb eX7_delay_15 rfl (lv_at hl 0 rfl) ?_
    refine va_get (D := (dC, dI)) (ci := 7) (v := .int (nI zn)) (C := RX7) (T := TX7) (N := 2) hx hb hts hiX7 hown hK hP 0 rfl rfl 1 (by decide) v_1 (fun _ h9 => h9) rfl eX7_delay_16 ?_
    refine lv_imul hx hb eX7_delay_19 ?_
    refine lv_topi (fun y_12 ey_12 => ?_)
    obtain rfl : y_12 = (nI (g_4 * zn)) := ey_12.trans (pk_mul g_4 zn)
    refine lv_ldc hx hb hown v_3 eX7_delay_20 ?_
    refine va_iast hx hb hK hP hD hS 1 0 rfl rfl (vp_in_nI (n := (g_4 * zn)) (by first | exact zx16 (by omega) (by omega) (by omega) | exact zy16 (by omega) (by omega) | omega) (Nat.le_of_ble_eq_true rfl)) eX7_delay_22 (fun H locs hP hD hS => ?_)
    obtain ⟨f_13, ef_13, xf_13⟩ := up_x g_3 (n := (g_4 * zn)) 2147483647 (by first | omega | exact Nat.lt_trans (zx16 (by omega) (by omega) (by omega)) (Nat.le_of_ble_eq_true rfl) | exact Nat.lt_trans (zy16 (by omega) (by omega)) (Nat.le_of_ble_eq_true rfl) | exact Nat.lt_trans (zx25 (by omega) (by omega) (by omega)) (Nat.le_of_ble_eq_true rfl) | exact Nat.lt_trans (zy25 (by omega) (by omega)) (Nat.le_of_ble_eq_true rfl))
    have hP : va_P (dC, dI) vwCl (z16__w z zc (nI zn) k_fz f_13) H := by rw [← ef_13]; exact hP
    have hD : va_D A (z16__w z zc (nI zn) k_fz f_13) := by rw [← ef_13]; exact hD
    have hsp := hsp.trans (slet_eq xf_13)
    refine lv_iinc (v := (nI (g_4 + 1))) (lv' := [(1, .int (nI (g_4 + 1))), (0, .ref z)]) hx hb eX7_delay_23 hl (k := 1) rfl (nI_1 _) (by decide) rfl (fun ls hl => ?_)
    refine lv_goto (tgt := 2) hx hb eX7_delay_26 (by decide) ?_
    exact ih_5 (4 - (g_4 + 1)) (by omega) _ _ _ ⟨f_13, (g_4 + 1), rfl, ⟨by omega, by omega⟩, hin_9 _ hsp, hP, hD, hS, lv_sub hl [1, 0] rfl⟩
theorem eX7_setPast_0 : decode cX7_setPast 0 = .ok (.iconst 1, 1) := by decide +kernel
theorem eX7_setPast_1 : decode cX7_setPast 1 = .ok (.istore_n 1, 1) := by decide +kernel
theorem eX7_setPast_2 : decode cX7_setPast 2 = .ok (.iload_n 1, 1) := by decide +kernel
theorem eX7_setPast_3 : decode cX7_setPast 3 = .ok (.aload_n 0, 1) := by decide +kernel
theorem eX7_setPast_4 : decode cX7_setPast 4 = .ok (.getfield 18, 3) := by decide +kernel
theorem eX7_setPast_7 : decode cX7_setPast 7 = .ok (.if_icmp .ge 52, 3) := by decide +kernel
theorem eX7_setPast_10 : decode cX7_setPast 10 = .ok (.iconst 1, 1) := by decide +kernel
theorem eX7_setPast_11 : decode cX7_setPast 11 = .ok (.istore_n 2, 1) := by decide +kernel
theorem eX7_setPast_12 : decode cX7_setPast 12 = .ok (.iconst 1, 1) := by decide +kernel
theorem eX7_setPast_13 : decode cX7_setPast 13 = .ok (.istore_n 3, 1) := by decide +kernel
theorem eX7_setPast_14 : decode cX7_setPast 14 = .ok (.iload_n 3, 1) := by decide +kernel
theorem eX7_setPast_15 : decode cX7_setPast 15 = .ok (.aload_n 0, 1) := by decide +kernel
theorem eX7_setPast_16 : decode cX7_setPast 16 = .ok (.getfield 18, 3) := by decide +kernel
theorem eX7_setPast_19 : decode cX7_setPast 19 = .ok (.if_icmp .ge 27, 3) := by decide +kernel
theorem eX7_setPast_22 : decode cX7_setPast 22 = .ok (.iload_n 2, 1) := by decide +kernel
theorem eX7_setPast_23 : decode cX7_setPast 23 = .ok (.aload_n 0, 1) := by decide +kernel
theorem eX7_setPast_24 : decode cX7_setPast 24 = .ok (.getfield 11, 3) := by decide +kernel
theorem eX7_setPast_27 : decode cX7_setPast 27 = .ok (.iload_n 3, 1) := by decide +kernel
theorem eX7_setPast_28 : decode cX7_setPast 28 = .ok (.aload_n 0, 1) := by decide +kernel
theorem eX7_setPast_29 : decode cX7_setPast 29 = .ok (.getfield 18, 3) := by decide +kernel
theorem eX7_setPast_32 : decode cX7_setPast 32 = .ok (.imul, 1) := by decide +kernel
theorem eX7_setPast_33 : decode cX7_setPast 33 = .ok (.iload_n 1, 1) := by decide +kernel
theorem eX7_setPast_34 : decode cX7_setPast 34 = .ok (.iadd, 1) := by decide +kernel
theorem eX7_setPast_35 : decode cX7_setPast 35 = .ok (.iaload, 1) := by decide +kernel
theorem eX7_setPast_36 : decode cX7_setPast 36 = .ok (.invokestatic 22, 3) := by decide +kernel
theorem eX7_setPast_39 : decode cX7_setPast 39 = .ok (.istore_n 2, 1) := by decide +kernel
theorem eX7_setPast_40 : decode cX7_setPast 40 = .ok (.iinc 3 1, 3) := by decide +kernel
theorem eX7_setPast_43 : decode cX7_setPast 43 = .ok (.goto (-29), 3) := by decide +kernel
theorem eX7_setPast_46 : decode cX7_setPast 46 = .ok (.aload_n 0, 1) := by decide +kernel
theorem eX7_setPast_47 : decode cX7_setPast 47 = .ok (.getfield 11, 3) := by decide +kernel
theorem eX7_setPast_50 : decode cX7_setPast 50 = .ok (.iload_n 1, 1) := by decide +kernel
theorem eX7_setPast_51 : decode cX7_setPast 51 = .ok (.iload_n 2, 1) := by decide +kernel
theorem eX7_setPast_52 : decode cX7_setPast 52 = .ok (.iastore, 1) := by decide +kernel
theorem eX7_setPast_53 : decode cX7_setPast 53 = .ok (.iinc 1 1, 3) := by decide +kernel
theorem eX7_setPast_56 : decode cX7_setPast 56 = .ok (.goto (-54), 3) := by decide +kernel
theorem eX7_setPast_59 : decode cX7_setPast 59 = .ok (.return_, 1) := by decide +kernel
abbrev vs_E_7_setPast_16 : List Cond := .code yX7_setPast cX7_setPast 4 none :: CM
noncomputable def sp_E_7_setPast_16_L1 (zn : Nat) (g_4 : Nat) (g_3 : Nat → Int32) : (Int32 × Nat) → (Int32 × Nat) ⊕ (((Nat → Int32) × Nat) ⊕ ((Nat → Int32))) := fun (g_14, g_15) => (if zn ≤ g_15 then (Sum.inr (slet (upd g_3 g_4 g_14) (fun f_23 => (Sum.inl (f_23, (g_4 + 1)))))) else (slet (g_3 ((g_15 * zn) + g_4)) (fun y_26 => (slet (if (y_26 : Int32) < g_14 then y_26 else g_14) (fun y_27 => (Sum.inl (y_27, (g_15 + 1))))))))
noncomputable def sp_E_7_setPast_16_L2 (zn : Nat) : ((Nat → Int32) × Nat) → ((Nat → Int32) × Nat) ⊕ ((Nat → Int32)) := fun (g_3, g_4) => (if zn ≤ g_4 then (Sum.inr g_3) else (itrv (α := Int32 × Nat) (β := (((Nat → Int32) × Nat) ⊕ ((Nat → Int32)))) (Sum.inr default) (sp_E_7_setPast_16_L1 zn g_4 g_3) (1, 1)))
noncomputable def sp_E_7_setPast_16 (zn : Nat) (fz : Nat → Int32) : (Nat → Int32) := (itrv (α := (Nat → Int32) × Nat) (β := ((Nat → Int32))) default (sp_E_7_setPast_16_L2 zn) (fz, 1))
set_option maxHeartbeats 4000000 in
set_option maxRecDepth 100000 in
theorem c_E_7_setPast_16 (l : Launch) (dC : Nat → ClassId) (dI : Nat → Nat → Nat) (sz : Nat) (z : Nat) (zc : Nat) (zn : Nat) (k_fz : ClassId) (fz : Nat → Int32) (hzn : zn ≤ 4) : Met l yX7_setPast vs_E_7_setPast_16 ({ frames := 1, cells := 0, slots := 0, locals := 14 }) (va_Pc [.ref z] (pu_B (dC, dI) (z16__w z zc (nI zn) k_fz fz) (z16__t k_fz) sz)) (va_Qv (fun (_ : Unit) => True) (fun _ t => ∃ (z_fz : Nat → Int32), pu_E (dC, dI) (z16__w z zc (nI zn) k_fz z_fz) (z16__t k_fz) (va_A ((z16__w z zc (nI zn) k_fz fz)) sz) t ∧ (z_fz = (sp_E_7_setPast_16 zn fz))) (va_A ((z16__w z zc (nI zn) k_fz fz)) sz)) 0 0 (va_A ((z16__w z zc (nI zn) k_fz fz)) sz) := by
  refine Met.ofW (cc := cX7_setPast) (maxL := 4) (ret := none) (by decide) rfl ?_
  intro p e s m args below meth c s₁ B hml hv
  obtain ⟨rfl, rfl, hP, hK, hD0⟩ := hv
  have hx := B.exec
  have hb := B.bytes
  have hr := B.returns
  have hts := atoms_spec (ws := vs_E_7_setPast_16) B.pre
  have v_1 := hts (.fieldLink RX7 18 "ClockReach$Zone" "size" "I") (List.mem_cons_of_mem _ cm_48)
  have v_2 := hts (.fieldLink RX7 11 "ClockReach$Zone" "cells" "[I") (List.mem_cons_of_mem _ cm_47)
  have v_3 := hts (.methodLink RX7 22 Lib.Math.min.name) (List.mem_cons_of_mem _ cm_340)
  have v_4 := hts (.static Lib.Math.min.name) (List.mem_cons_of_mem _ cm_188)
  have v_5 := hts (.initialized "java/lang/Math") (List.mem_cons_of_mem _ cm_37)
  have v_6 := hts (.code Lib.Math.min.name Lib.Math.min.code 2 (some .int)) (List.mem_cons_of_mem _ cm_189)
  have hown : s.vm.findClass RX7 = some m.cls := findClass_of_methodNamed B.named
  have hlocks := B.notSynchronized
  have hiX7 : ∀ w ∈ wsX70, w ∈ vs_E_7_setPast_16 := fun _ h => List.mem_cons_of_mem _ (cm_X7 h)
  have hD := hD0.self (sz := s.heap.size)
  generalize hAe : va_A ((z16__w z zc (nI zn) k_fz fz)) s.heap.size = A at hD ⊢
  have hA : ∀ q : Nat, s.heap.size ≤ q → A q := fun q h => by rw [← hAe]; exact Or.inr h
  have hS : va_S A s.heap s.heap [] := va_S.rf
  have hl := lv_entry ([.ref z]) (n := 4) (Nat.le_of_ble_eq_true rfl)
  rw [lg_entry_eq]
  generalize (lg_sl ([.ref z]) ++ List.replicate (4 - (lg_sl ([.ref z])).length) Slot.unset).toArray = ls at hl ⊢
  have hl : lv_has ls 4 [(0, .ref z)] := hl
  have hzz := zz4 hzn
  obtain ⟨RR, hRR⟩ : ∃ x, x = (sp_E_7_setPast_16 zn fz) := ⟨_, rfl⟩
  have hsp := hRR
  refine lv_iconst (v := 1) hx hb eX7_setPast_0 (by decide) ?_
  refine lv_istore_n (lv' := [(1, .int 1), (0, .ref z)]) hx hb eX7_setPast_1 rfl hl (by decide) rfl (fun ls hl => ?_)
  obtain ⟨lf_6, dlf_6, hlf_6, hsp⟩ := itr_ex hsp
  delta sp_E_7_setPast_16_L2 at hlf_6
  refine pu_while (fun nn H locs ls => ∃ (g_3 : Nat → Int32) (g_4 : Nat), nn = 4 - g_4 ∧ (1 ≤ g_4 ∧ g_4 ≤ 4) ∧ RR = itrv dlf_6 lf_6 (g_3, g_4) ∧ va_P (dC, dI) vwCl (z16__w z zc (nI zn) k_fz g_3) H ∧ va_D A (z16__w z zc (nI zn) k_fz g_3) ∧ va_S A s.heap H locs ∧ lv_has ls 4 [(0, .ref z), (1, .int (nI g_4))]) 2 ?_ _ _ _ _ ⟨fz, 1, rfl, ⟨by omega, by omega⟩, hsp, hP, hD, hS, lv_sub hl [1, 0] rfl⟩
  rintro nn ih_5 H locs ls ⟨g_3, g_4, rfl, hg_4, he_8, hP, hD, hS, hl⟩
  obtain ⟨S_7, hsp, hin_9, hout_10⟩ := itr_step hlf_6 he_8
  refine lv_iload_n hx hb eX7_setPast_2 rfl (lv_at hl 1 rfl) ?_
  refine lv_aload_n hx hb eX7_setPast_3 rfl (lv_at hl 0 rfl) ?_
  refine va_get (D := (dC, dI)) (ci := 7) (v := .int (nI zn)) (C := RX7) (T := TX7) (N := 2) hx hb hts hiX7 hown hK hP 0 rfl rfl 1 (by decide) v_1 (fun _ h9 => h9) rfl eX7_setPast_4 ?_
  refine lv_icmp_ge (tgt := 59) hx hb eX7_setPast_7 (by decide) (fun c_11 => ?_) (fun c_11 => ?_)
  · have c_11 : zn ≤ g_4 := (nI_leI (a := zn) (b := g_4) (Nat.lt_of_le_of_lt hzn (Nat.le_of_ble_eq_true rfl)) (Nat.lt_of_le_of_lt hg_4.2 (Nat.le_of_ble_eq_true rfl))).mp c_11
    have hsp := hsp.trans (if_pos c_11)
    have hsp := hout_10 _ hsp
    exact W.vret hx hb hr (fun t ht hW => ⟨⟨(), rfl, trivial, ⟨g_3, ⟨by rw [ht]; exact hP, va_K.moved hW.alike hK, hD⟩, (hsp.symm.trans hRR)⟩⟩, hS.F ht⟩) hS.2.2 eX7_setPast_59
  · have c_11 : ¬ zn ≤ g_4 := fun z => c_11 ((nI_leI (a := zn) (b := g_4) (Nat.lt_of_le_of_lt hzn (Nat.le_of_ble_eq_true rfl)) (Nat.lt_of_le_of_lt hg_4.2 (Nat.le_of_ble_eq_true rfl))).mpr z)
    have hsp := hsp.trans (if_neg c_11)
    refine lv_iconst (v := 1) hx hb eX7_setPast_10 (by decide) ?_
    refine lv_istore_n (lv' := [(2, .int 1), (0, .ref z), (1, .int (nI g_4))]) hx hb eX7_setPast_11 rfl hl (by decide) rfl (fun ls hl => ?_)
    refine lv_iconst (v := 1) hx hb eX7_setPast_12 (by decide) ?_
    refine lv_istore_n (lv' := [(3, .int 1), (2, .int 1), (0, .ref z), (1, .int (nI g_4))]) hx hb eX7_setPast_13 rfl hl (by decide) rfl (fun ls hl => ?_)
    obtain ⟨lf_17, dlf_17, hlf_17, hsp⟩ := itr_ex hsp
    delta sp_E_7_setPast_16_L1 at hlf_17
    refine pu_while (fun nn H locs ls => ∃ (g_14 : Int32) (g_15 : Nat), nn = 4 - g_15 ∧ (1 ≤ g_15 ∧ g_15 ≤ 4) ∧ S_7 = itrv dlf_17 lf_17 (g_14, g_15) ∧ va_P (dC, dI) vwCl (z16__w z zc (nI zn) k_fz g_3) H ∧ va_D A (z16__w z zc (nI zn) k_fz g_3) ∧ va_S A s.heap H locs ∧ lv_has ls 4 [(0, .ref z), (1, .int (nI g_4)), (2, .int g_14), (3, .int (nI g_15))]) 14 ?_ _ _ _ _ ⟨1, 1, rfl, ⟨by omega, by omega⟩, hsp, hP, hD, hS, lv_sub hl [2, 3, 1, 0] rfl⟩
    rintro nn ih_16 H locs ls ⟨g_14, g_15, rfl, hg_15, he_19, hP, hD, hS, hl⟩
    obtain ⟨S_18, hsp, hin_20, hout_21⟩ := itr_step hlf_17 he_19
    refine lv_iload_n hx hb eX7_setPast_14 rfl (lv_at hl 3 rfl) ?_
    refine lv_aload_n hx hb eX7_setPast_15 rfl (lv_at hl 0 rfl) ?_
    refine va_get (D := (dC, dI)) (ci := 7) (v := .int (nI zn)) (C := RX7) (T := TX7) (N := 2) hx hb hts hiX7 hown hK hP 0 rfl rfl 1 (by decide) v_1 (fun _ h9 => h9) rfl eX7_setPast_16 ?_
    refine lv_icmp_ge (tgt := 46) hx hb eX7_setPast_19 (by decide) (fun c_22 => ?_) (fun c_22 => ?_)
    · have c_22 : zn ≤ g_15 := (nI_leI (a := zn) (b := g_15) (Nat.lt_of_le_of_lt hzn (Nat.le_of_ble_eq_true rfl)) (Nat.lt_of_le_of_lt hg_15.2 (Nat.le_of_ble_eq_true rfl))).mp c_22
      have hsp := hsp.trans (if_pos c_22)
      have hsp := hout_21 _ hsp
      refine lv_aload_n hx hb eX7_setPast_46 rfl (lv_at hl 0 rfl) ?_
      refine va_get (D := (dC, dI)) (ci := 7) (v := .ref zc) (C := RX7) (T := TX7) (N := 2) hx hb hts hiX7 hown hK hP 0 rfl rfl 0 (by decide) v_2 (fun _ h9 => h9) rfl eX7_setPast_47 ?_
      refine lv_iload_n hx hb eX7_setPast_50 rfl (lv_at hl 1 rfl) ?_
      refine lv_iload_n hx hb eX7_setPast_51 rfl (lv_at hl 2 rfl) ?_
      refine va_iast hx hb hK hP hD hS 1 0 rfl rfl (vp_in_nI (n := g_4) (Nat.lt_of_le_of_lt hg_4.2 (Nat.le_of_ble_eq_true rfl)) (Nat.le_of_ble_eq_true rfl)) eX7_setPast_52 (fun H locs hP hD hS => ?_)
      obtain ⟨f_23, ef_23, xf_23⟩ := up_x g_3 (n := g_4) g_14 (Nat.lt_of_le_of_lt hg_4.2 (Nat.le_of_ble_eq_true rfl))
      have hP : va_P (dC, dI) vwCl (z16__w z zc (nI zn) k_fz f_23) H := by rw [← ef_23]; exact hP
      have hD : va_D A (z16__w z zc (nI zn) k_fz f_23) := by rw [← ef_23]; exact hD
      have hsp := hsp.trans (slet_eq xf_23)
      refine lv_iinc (v := (nI (g_4 + 1))) (lv' := [(1, .int (nI (g_4 + 1))), (0, .ref z), (2, .int g_14), (3, .int (nI g_15))]) hx hb eX7_setPast_53 hl (k := 1) rfl (nI_1 _) (by decide) rfl (fun ls hl => ?_)
      refine lv_goto (tgt := 2) hx hb eX7_setPast_56 (by decide) ?_
      exact ih_5 (4 - (g_4 + 1)) (by omega) _ _ _ ⟨f_23, (g_4 + 1), rfl, ⟨by omega, by omega⟩, hin_9 _ hsp, hP, hD, hS, lv_sub hl [1, 0] rfl⟩
    · have c_22 : ¬ zn ≤ g_15 := fun z => c_22 ((nI_leI (a := zn) (b := g_15) (Nat.lt_of_le_of_lt hzn (Nat.le_of_ble_eq_true rfl)) (Nat.lt_of_le_of_lt hg_15.2 (Nat.le_of_ble_eq_true rfl))).mpr z)
      have hsp := hsp.trans (if_neg c_22)
      refine lv_iload_n hx hb eX7_setPast_22 rfl (lv_at hl 2 rfl) ?_
      refine lv_aload_n hx hb eX7_setPast_23 rfl (lv_at hl 0 rfl) ?_
      refine va_get (D := (dC, dI)) (ci := 7) (v := .ref zc) (C := RX7) (T := TX7) (N := 2) hx hb hts hiX7 hown hK hP 0 rfl rfl 0 (by decide) v_2 (fun _ h9 => h9) rfl eX7_setPast_24 ?_
      refine lv_iload_n hx hb eX7_setPast_27 rfl (lv_at hl 3 rfl) ?_
      refine lv_aload_n hx hb eX7_setPast_28 rfl (lv_at hl 0 rfl) ?_
      refine va_get (D := (dC, dI)) (ci := 7) (v := .int (nI zn)) (C := RX7) (T := TX7) (N := 2) hx hb hts hiX7 hown hK hP 0 rfl rfl 1 (by decide) v_1 (fun _ h9 => h9) rfl eX7_setPast_29 ?_
      refine lv_imul hx hb eX7_setPast_32 ?_
      refine lv_topi (fun y_24 ey_24 => ?_)
      obtain rfl : y_24 = (nI (g_15 * zn)) := ey_24.trans (pk_mul g_15 zn)
      refine lv_iload_n hx hb eX7_setPast_33 rfl (lv_at hl 1 rfl) ?_
      refine lv_iadd hx hb eX7_setPast_34 ?_
      refine lv_topi (fun y_25 ey_25 => ?_)
      obtain rfl : y_25 = (nI ((g_15 * zn) + g_4)) := ey_25.trans (nI_add (g_15 * zn) g_4)
      refine va_iald hx hb hK hP 1 0 rfl rfl (vp_in_nI (n := ((g_15 * zn) + g_4)) (by first | exact zx16 (by omega) (by omega) (by omega) | exact zy16 (by omega) (by omega) | omega) (Nat.le_of_ble_eq_true rfl)) eX7_setPast_35 ?_
      refine lv_topi (fun y_26 ey_26 => ?_)
      have ey_26 : y_26 = g_3 ((g_15 * zn) + g_4) := ey_26.trans (congrArg g_3 (nI_clamp (n := ((g_15 * zn) + g_4)) (by first | omega | exact Nat.lt_trans (zx16 (by omega) (by omega) (by omega)) (Nat.le_of_ble_eq_true rfl) | exact Nat.lt_trans (zy16 (by omega) (by omega)) (Nat.le_of_ble_eq_true rfl) | exact Nat.lt_trans (zx25 (by omega) (by omega) (by omega)) (Nat.le_of_ble_eq_true rfl) | exact Nat.lt_trans (zy25 (by omega) (by omega)) (Nat.le_of_ble_eq_true rfl))))
      have hsp := hsp.trans (slet_eq ey_26)
      refine va_mmin hx hb (hml.trans hl.1.symm) hown v_3 v_4 v_5 v_6 (Nat.le_of_ble_eq_true rfl) (Nat.le_of_ble_eq_true rfl) (Nat.le_of_ble_eq_true rfl) (Nat.le_of_ble_eq_true rfl) eX7_setPast_36 ?_
      refine lv_topi (fun y_27 ey_27 => ?_)
      have hsp := hsp.trans (slet_eq ey_27)
      refine lv_istore_n (lv' := [(2, .int y_27), (0, .ref z), (1, .int (nI g_4)), (3, .int (nI g_15))]) hx hb eX7_setPast_39 rfl hl (by decide) rfl (fun ls hl => ?_)
      refine lv_iinc (v := (nI (g_15 + 1))) (lv' := [(3, .int (nI (g_15 + 1))), (2, .int y_27), (0, .ref z), (1, .int (nI g_4))]) hx hb eX7_setPast_40 hl (k := 3) rfl (nI_1 _) (by decide) rfl (fun ls hl => ?_)
      refine lv_goto (tgt := 14) hx hb eX7_setPast_43 (by decide) ?_
      exact ih_16 (4 - (g_15 + 1)) (by omega) _ _ _ ⟨y_27, (g_15 + 1), rfl, ⟨by omega, by omega⟩, hin_20 _ hsp, hP, hD, hS, lv_sub hl [2, 3, 1, 0] rfl⟩
theorem eX7_close_0 : decode cX7_close 0 = .ok (.iconst 0, 1) := by decide +kernel
theorem eX7_close_1 : decode cX7_close 1 = .ok (.istore_n 1, 1) := by decide +kernel
theorem eX7_close_2 : decode cX7_close 2 = .ok (.iload_n 1, 1) := by decide +kernel
theorem eX7_close_3 : decode cX7_close 3 = .ok (.aload_n 0, 1) := by decide +kernel
theorem eX7_close_4 : decode cX7_close 4 = .ok (.getfield 18, 3) := by decide +kernel
theorem eX7_close_7 : decode cX7_close 7 = .ok (.if_icmp .ge 140, 3) := by decide +kernel
theorem eX7_close_10 : decode cX7_close 10 = .ok (.iconst 0, 1) := by decide +kernel
theorem eX7_close_11 : decode cX7_close 11 = .ok (.istore_n 2, 1) := by decide +kernel
theorem eX7_close_12 : decode cX7_close 12 = .ok (.iload_n 2, 1) := by decide +kernel
theorem eX7_close_13 : decode cX7_close 13 = .ok (.aload_n 0, 1) := by decide +kernel
theorem eX7_close_14 : decode cX7_close 14 = .ok (.getfield 18, 3) := by decide +kernel
theorem eX7_close_17 : decode cX7_close 17 = .ok (.if_icmp .ge 124, 3) := by decide +kernel
theorem eX7_close_20 : decode cX7_close 20 = .ok (.aload_n 0, 1) := by decide +kernel
theorem eX7_close_21 : decode cX7_close 21 = .ok (.getfield 11, 3) := by decide +kernel
theorem eX7_close_24 : decode cX7_close 24 = .ok (.iload_n 2, 1) := by decide +kernel
theorem eX7_close_25 : decode cX7_close 25 = .ok (.aload_n 0, 1) := by decide +kernel
theorem eX7_close_26 : decode cX7_close 26 = .ok (.getfield 18, 3) := by decide +kernel
theorem eX7_close_29 : decode cX7_close 29 = .ok (.imul, 1) := by decide +kernel
theorem eX7_close_30 : decode cX7_close 30 = .ok (.iload_n 1, 1) := by decide +kernel
theorem eX7_close_31 : decode cX7_close 31 = .ok (.iadd, 1) := by decide +kernel
theorem eX7_close_32 : decode cX7_close 32 = .ok (.iaload, 1) := by decide +kernel
theorem eX7_close_33 : decode cX7_close 33 = .ok (.istore_n 3, 1) := by decide +kernel
theorem eX7_close_34 : decode cX7_close 34 = .ok (.iload_n 3, 1) := by decide +kernel
theorem eX7_close_35 : decode cX7_close 35 = .ok (.ldc 17, 2) := by decide +kernel
theorem eX7_close_37 : decode cX7_close 37 = .ok (.if_icmp .ne 6, 3) := by decide +kernel
theorem eX7_close_40 : decode cX7_close 40 = .ok (.goto 95, 3) := by decide +kernel
theorem eX7_close_43 : decode cX7_close 43 = .ok (.iconst 0, 1) := by decide +kernel
theorem eX7_close_44 : decode cX7_close 44 = .ok (.istore 4, 2) := by decide +kernel
theorem eX7_close_46 : decode cX7_close 46 = .ok (.iload 4, 2) := by decide +kernel
theorem eX7_close_48 : decode cX7_close 48 = .ok (.aload_n 0, 1) := by decide +kernel
theorem eX7_close_49 : decode cX7_close 49 = .ok (.getfield 18, 3) := by decide +kernel
theorem eX7_close_52 : decode cX7_close 52 = .ok (.if_icmp .ge 83, 3) := by decide +kernel
theorem eX7_close_55 : decode cX7_close 55 = .ok (.aload_n 0, 1) := by decide +kernel
theorem eX7_close_56 : decode cX7_close 56 = .ok (.getfield 11, 3) := by decide +kernel
theorem eX7_close_59 : decode cX7_close 59 = .ok (.iload_n 1, 1) := by decide +kernel
theorem eX7_close_60 : decode cX7_close 60 = .ok (.aload_n 0, 1) := by decide +kernel
theorem eX7_close_61 : decode cX7_close 61 = .ok (.getfield 18, 3) := by decide +kernel
theorem eX7_close_64 : decode cX7_close 64 = .ok (.imul, 1) := by decide +kernel
theorem eX7_close_65 : decode cX7_close 65 = .ok (.iload 4, 2) := by decide +kernel
theorem eX7_close_67 : decode cX7_close 67 = .ok (.iadd, 1) := by decide +kernel
theorem eX7_close_68 : decode cX7_close 68 = .ok (.iaload, 1) := by decide +kernel
theorem eX7_close_69 : decode cX7_close 69 = .ok (.istore 5, 2) := by decide +kernel
theorem eX7_close_71 : decode cX7_close 71 = .ok (.iload 5, 2) := by decide +kernel
theorem eX7_close_73 : decode cX7_close 73 = .ok (.ldc 17, 2) := by decide +kernel
theorem eX7_close_75 : decode cX7_close 75 = .ok (.if_icmp .ne 6, 3) := by decide +kernel
theorem eX7_close_78 : decode cX7_close 78 = .ok (.goto 51, 3) := by decide +kernel
theorem eX7_close_81 : decode cX7_close 81 = .ok (.iload_n 3, 1) := by decide +kernel
theorem eX7_close_82 : decode cX7_close 82 = .ok (.iload 5, 2) := by decide +kernel
theorem eX7_close_84 : decode cX7_close 84 = .ok (.iadd, 1) := by decide +kernel
theorem eX7_close_85 : decode cX7_close 85 = .ok (.iload_n 3, 1) := by decide +kernel
theorem eX7_close_86 : decode cX7_close 86 = .ok (.iload 5, 2) := by decide +kernel
theorem eX7_close_88 : decode cX7_close 88 = .ok (.ior, 1) := by decide +kernel
theorem eX7_close_89 : decode cX7_close 89 = .ok (.iconst 1, 1) := by decide +kernel
theorem eX7_close_90 : decode cX7_close 90 = .ok (.iand, 1) := by decide +kernel
theorem eX7_close_91 : decode cX7_close 91 = .ok (.isub, 1) := by decide +kernel
theorem eX7_close_92 : decode cX7_close 92 = .ok (.istore 6, 2) := by decide +kernel
theorem eX7_close_94 : decode cX7_close 94 = .ok (.iload 6, 2) := by decide +kernel
theorem eX7_close_96 : decode cX7_close 96 = .ok (.aload_n 0, 1) := by decide +kernel
theorem eX7_close_97 : decode cX7_close 97 = .ok (.getfield 11, 3) := by decide +kernel
theorem eX7_close_100 : decode cX7_close 100 = .ok (.iload_n 2, 1) := by decide +kernel
theorem eX7_close_101 : decode cX7_close 101 = .ok (.aload_n 0, 1) := by decide +kernel
theorem eX7_close_102 : decode cX7_close 102 = .ok (.getfield 18, 3) := by decide +kernel
theorem eX7_close_105 : decode cX7_close 105 = .ok (.imul, 1) := by decide +kernel
theorem eX7_close_106 : decode cX7_close 106 = .ok (.iload 4, 2) := by decide +kernel
theorem eX7_close_108 : decode cX7_close 108 = .ok (.iadd, 1) := by decide +kernel
theorem eX7_close_109 : decode cX7_close 109 = .ok (.iaload, 1) := by decide +kernel
theorem eX7_close_110 : decode cX7_close 110 = .ok (.if_icmp .ge 19, 3) := by decide +kernel
theorem eX7_close_113 : decode cX7_close 113 = .ok (.aload_n 0, 1) := by decide +kernel
theorem eX7_close_114 : decode cX7_close 114 = .ok (.getfield 11, 3) := by decide +kernel
theorem eX7_close_117 : decode cX7_close 117 = .ok (.iload_n 2, 1) := by decide +kernel
theorem eX7_close_118 : decode cX7_close 118 = .ok (.aload_n 0, 1) := by decide +kernel
theorem eX7_close_119 : decode cX7_close 119 = .ok (.getfield 18, 3) := by decide +kernel
theorem eX7_close_122 : decode cX7_close 122 = .ok (.imul, 1) := by decide +kernel
theorem eX7_close_123 : decode cX7_close 123 = .ok (.iload 4, 2) := by decide +kernel
theorem eX7_close_125 : decode cX7_close 125 = .ok (.iadd, 1) := by decide +kernel
theorem eX7_close_126 : decode cX7_close 126 = .ok (.iload 6, 2) := by decide +kernel
theorem eX7_close_128 : decode cX7_close 128 = .ok (.iastore, 1) := by decide +kernel
theorem eX7_close_129 : decode cX7_close 129 = .ok (.iinc 4 1, 3) := by decide +kernel
theorem eX7_close_132 : decode cX7_close 132 = .ok (.goto (-86), 3) := by decide +kernel
theorem eX7_close_135 : decode cX7_close 135 = .ok (.iinc 2 1, 3) := by decide +kernel
theorem eX7_close_138 : decode cX7_close 138 = .ok (.goto (-126), 3) := by decide +kernel
theorem eX7_close_141 : decode cX7_close 141 = .ok (.iinc 1 1, 3) := by decide +kernel
theorem eX7_close_144 : decode cX7_close 144 = .ok (.goto (-142), 3) := by decide +kernel
theorem eX7_close_147 : decode cX7_close 147 = .ok (.return_, 1) := by decide +kernel
abbrev vs_E_7_close_16 : List Cond := .code yX7_close cX7_close 7 none :: CM
noncomputable def sp_E_7_close_16_L1 (zn : Nat) (g_15 : Nat) (y_25 : Int32) (g_4 : Nat) : ((Nat → Int32) × Nat) → ((Nat → Int32) × Nat) ⊕ ((Nat → Int32)) := fun (g_33, g_34) => (if zn ≤ g_34 then (Sum.inr g_33) else (slet (g_33 ((g_4 * zn) + g_34)) (fun y_44 => (slet (α := (Nat → Int32)) (if (y_44 : Int32) = 2147483647 then g_33 else (slet ((y_25 : Int32) + y_44) (fun y_50 => (slet ((y_25 : Int32) ||| (y_44 : Int32)) (fun y_51 => (slet ((y_51 : Int32) &&& (1 : Int32)) (fun y_52 => (slet ((y_50 : Int32) - y_52) (fun y_53 => (slet (g_33 ((g_15 * zn) + g_34)) (fun y_56 => (if (y_56 : Int32) ≤ y_53 then g_33 else (slet (upd g_33 ((g_15 * zn) + g_34) y_53) (fun f_60 => f_60)))))))))))))) (fun g_45 => (Sum.inl (g_45, (g_34 + 1))))))))
noncomputable def sp_E_7_close_16_L2 (zn : Nat) (g_4 : Nat) : ((Nat → Int32) × Nat) → ((Nat → Int32) × Nat) ⊕ (((Nat → Int32) × Nat) ⊕ ((Nat → Int32))) := fun (g_14, g_15) => (if zn ≤ g_15 then (Sum.inr (Sum.inl (g_14, (g_4 + 1)))) else (slet (g_14 ((g_15 * zn) + g_4)) (fun y_25 => (slet (α := (Nat → Int32)) (if (y_25 : Int32) = 2147483647 then g_14 else (itrv (α := (Nat → Int32) × Nat) (β := ((Nat → Int32))) default (sp_E_7_close_16_L1 zn g_15 y_25 g_4) (g_14, 0))) (fun g_26 => (Sum.inl (g_26, (g_15 + 1))))))))
noncomputable def sp_E_7_close_16_L3 (zn : Nat) : ((Nat → Int32) × Nat) → ((Nat → Int32) × Nat) ⊕ ((Nat → Int32)) := fun (g_3, g_4) => (if zn ≤ g_4 then (Sum.inr g_3) else (itrv (α := (Nat → Int32) × Nat) (β := (((Nat → Int32) × Nat) ⊕ ((Nat → Int32)))) (Sum.inr default) (sp_E_7_close_16_L2 zn g_4) (g_3, 0)))
noncomputable def sp_E_7_close_16 (zn : Nat) (fz : Nat → Int32) : (Nat → Int32) := (itrv (α := (Nat → Int32) × Nat) (β := ((Nat → Int32))) default (sp_E_7_close_16_L3 zn) (fz, 0))
set_option maxHeartbeats 4000000 in
set_option maxRecDepth 100000 in
theorem c_E_7_close_16 (l : Launch) (dC : Nat → ClassId) (dI : Nat → Nat → Nat) (sz : Nat) (z : Nat) (zc : Nat) (zn : Nat) (k_fz : ClassId) (fz : Nat → Int32) (hzn : zn ≤ 4) : Met l yX7_close vs_E_7_close_16 ({ frames := 0, cells := 0, slots := 0, locals := 0 }) (va_Pc [.ref z] (pu_B (dC, dI) (z16__w z zc (nI zn) k_fz fz) (z16__t k_fz) sz)) (va_Qv (fun (_ : Unit) => True) (fun _ t => ∃ (z_fz : Nat → Int32), pu_E (dC, dI) (z16__w z zc (nI zn) k_fz z_fz) (z16__t k_fz) (va_A ((z16__w z zc (nI zn) k_fz fz)) sz) t ∧ (z_fz = (sp_E_7_close_16 zn fz))) (va_A ((z16__w z zc (nI zn) k_fz fz)) sz)) 0 0 (va_A ((z16__w z zc (nI zn) k_fz fz)) sz) := by
  refine Met.ofW (cc := cX7_close) (maxL := 7) (ret := none) (by decide) rfl ?_
  intro p e s m args below meth c s₁ B hml hv
  obtain ⟨rfl, rfl, hP, hK, hD0⟩ := hv
  have hx := B.exec
  have hb := B.bytes
  have hr := B.returns
  have hts := atoms_spec (ws := vs_E_7_close_16) B.pre
  have v_1 := hts (.fieldLink RX7 18 "ClockReach$Zone" "size" "I") (List.mem_cons_of_mem _ cm_48)
  have v_2 := hts (.fieldLink RX7 11 "ClockReach$Zone" "cells" "[I") (List.mem_cons_of_mem _ cm_47)
  have v_3 := hts (.constant RX7 17 (2147483647)) (List.mem_cons_of_mem _ cm_49)
  have hown : s.vm.findClass RX7 = some m.cls := findClass_of_methodNamed B.named
  have hlocks := B.notSynchronized
  have hiX7 : ∀ w ∈ wsX70, w ∈ vs_E_7_close_16 := fun _ h => List.mem_cons_of_mem _ (cm_X7 h)
  have hD := hD0.self (sz := s.heap.size)
  generalize hAe : va_A ((z16__w z zc (nI zn) k_fz fz)) s.heap.size = A at hD ⊢
  have hA : ∀ q : Nat, s.heap.size ≤ q → A q := fun q h => by rw [← hAe]; exact Or.inr h
  have hS : va_S A s.heap s.heap [] := va_S.rf
  have hl := lv_entry ([.ref z]) (n := 7) (Nat.le_of_ble_eq_true rfl)
  rw [lg_entry_eq]
  generalize (lg_sl ([.ref z]) ++ List.replicate (7 - (lg_sl ([.ref z])).length) Slot.unset).toArray = ls at hl ⊢
  have hl : lv_has ls 7 [(0, .ref z)] := hl
  have hzz := zz4 hzn
  obtain ⟨RR, hRR⟩ : ∃ x, x = (sp_E_7_close_16 zn fz) := ⟨_, rfl⟩
  have hsp := hRR
  refine lv_iconst (v := 0) hx hb eX7_close_0 (by decide) ?_
  refine lv_istore_n (lv' := [(1, .int 0), (0, .ref z)]) hx hb eX7_close_1 rfl hl (by decide) rfl (fun ls hl => ?_)
  obtain ⟨lf_6, dlf_6, hlf_6, hsp⟩ := itr_ex hsp
  delta sp_E_7_close_16_L3 at hlf_6
  refine pu_while (fun nn H locs ls => ∃ (g_3 : Nat → Int32) (g_4 : Nat), nn = 4 - g_4 ∧ g_4 ≤ 4 ∧ RR = itrv dlf_6 lf_6 (g_3, g_4) ∧ va_P (dC, dI) vwCl (z16__w z zc (nI zn) k_fz g_3) H ∧ va_D A (z16__w z zc (nI zn) k_fz g_3) ∧ va_S A s.heap H locs ∧ lv_has ls 7 [(0, .ref z), (1, .int (nI g_4))]) 2 ?_ _ _ _ _ ⟨fz, 0, rfl, (Nat.le_of_ble_eq_true rfl), hsp, hP, hD, hS, lv_sub hl [1, 0] rfl⟩
  rintro nn ih_5 H locs ls ⟨g_3, g_4, rfl, hg_4, he_8, hP, hD, hS, hl⟩
  obtain ⟨S_7, hsp, hin_9, hout_10⟩ := itr_step hlf_6 he_8
  refine lv_iload_n hx hb eX7_close_2 rfl (lv_at hl 1 rfl) ?_
  refine lv_aload_n hx hb eX7_close_3 rfl (lv_at hl 0 rfl) ?_
  refine va_get (D := (dC, dI)) (ci := 7) (v := .int (nI zn)) (C := RX7) (T := TX7) (N := 2) hx hb hts hiX7 hown hK hP 0 rfl rfl 1 (by decide) v_1 (fun _ h9 => h9) rfl eX7_close_4 ?_
  refine lv_icmp_ge (tgt := 147) hx hb eX7_close_7 (by decide) (fun c_11 => ?_) (fun c_11 => ?_)
  · have c_11 : zn ≤ g_4 := (nI_leI (a := zn) (b := g_4) (Nat.lt_of_le_of_lt hzn (Nat.le_of_ble_eq_true rfl)) (Nat.lt_of_le_of_lt hg_4 (Nat.le_of_ble_eq_true rfl))).mp c_11
    have hsp := hsp.trans (if_pos c_11)
    have hsp := hout_10 _ hsp
    exact W.vret hx hb hr (fun t ht hW => ⟨⟨(), rfl, trivial, ⟨g_3, ⟨by rw [ht]; exact hP, va_K.moved hW.alike hK, hD⟩, (hsp.symm.trans hRR)⟩⟩, hS.F ht⟩) hS.2.2 eX7_close_147
  · have c_11 : ¬ zn ≤ g_4 := fun z => c_11 ((nI_leI (a := zn) (b := g_4) (Nat.lt_of_le_of_lt hzn (Nat.le_of_ble_eq_true rfl)) (Nat.lt_of_le_of_lt hg_4 (Nat.le_of_ble_eq_true rfl))).mpr z)
    have hsp := hsp.trans (if_neg c_11)
    refine lv_iconst (v := 0) hx hb eX7_close_10 (by decide) ?_
    refine lv_istore_n (lv' := [(2, .int 0), (0, .ref z), (1, .int (nI g_4))]) hx hb eX7_close_11 rfl hl (by decide) rfl (fun ls hl => ?_)
    obtain ⟨lf_17, dlf_17, hlf_17, hsp⟩ := itr_ex hsp
    delta sp_E_7_close_16_L2 at hlf_17
    refine pu_while (fun nn H locs ls => ∃ (g_14 : Nat → Int32) (g_15 : Nat), nn = 4 - g_15 ∧ g_15 ≤ 4 ∧ S_7 = itrv dlf_17 lf_17 (g_14, g_15) ∧ va_P (dC, dI) vwCl (z16__w z zc (nI zn) k_fz g_14) H ∧ va_D A (z16__w z zc (nI zn) k_fz g_14) ∧ va_S A s.heap H locs ∧ lv_has ls 7 [(0, .ref z), (1, .int (nI g_4)), (2, .int (nI g_15))]) 12 ?_ _ _ _ _ ⟨g_3, 0, rfl, (Nat.le_of_ble_eq_true rfl), hsp, hP, hD, hS, lv_sub hl [1, 2, 0] rfl⟩
    rintro nn ih_16 H locs ls ⟨g_14, g_15, rfl, hg_15, he_19, hP, hD, hS, hl⟩
    obtain ⟨S_18, hsp, hin_20, hout_21⟩ := itr_step hlf_17 he_19
    refine lv_iload_n hx hb eX7_close_12 rfl (lv_at hl 2 rfl) ?_
    refine lv_aload_n hx hb eX7_close_13 rfl (lv_at hl 0 rfl) ?_
    refine va_get (D := (dC, dI)) (ci := 7) (v := .int (nI zn)) (C := RX7) (T := TX7) (N := 2) hx hb hts hiX7 hown hK hP 0 rfl rfl 1 (by decide) v_1 (fun _ h9 => h9) rfl eX7_close_14 ?_
    refine lv_icmp_ge (tgt := 141) hx hb eX7_close_17 (by decide) (fun c_22 => ?_) (fun c_22 => ?_)
    · have c_22 : zn ≤ g_15 := (nI_leI (a := zn) (b := g_15) (Nat.lt_of_le_of_lt hzn (Nat.le_of_ble_eq_true rfl)) (Nat.lt_of_le_of_lt hg_15 (Nat.le_of_ble_eq_true rfl))).mp c_22
      have hsp := hsp.trans (if_pos c_22)
      have hsp := hout_21 _ hsp
      refine lv_iinc (v := (nI (g_4 + 1))) (lv' := [(1, .int (nI (g_4 + 1))), (0, .ref z), (2, .int (nI g_15))]) hx hb eX7_close_141 hl (k := 1) rfl (nI_1 _) (by decide) rfl (fun ls hl => ?_)
      refine lv_goto (tgt := 2) hx hb eX7_close_144 (by decide) ?_
      exact ih_5 (4 - (g_4 + 1)) (by omega) _ _ _ ⟨g_14, (g_4 + 1), rfl, (by omega), hin_9 _ hsp, hP, hD, hS, lv_sub hl [1, 0] rfl⟩
    · have c_22 : ¬ zn ≤ g_15 := fun z => c_22 ((nI_leI (a := zn) (b := g_15) (Nat.lt_of_le_of_lt hzn (Nat.le_of_ble_eq_true rfl)) (Nat.lt_of_le_of_lt hg_15 (Nat.le_of_ble_eq_true rfl))).mpr z)
      have hsp := hsp.trans (if_neg c_22)
      refine lv_aload_n hx hb eX7_close_20 rfl (lv_at hl 0 rfl) ?_
      refine va_get (D := (dC, dI)) (ci := 7) (v := .ref zc) (C := RX7) (T := TX7) (N := 2) hx hb hts hiX7 hown hK hP 0 rfl rfl 0 (by decide) v_2 (fun _ h9 => h9) rfl eX7_close_21 ?_
      refine lv_iload_n hx hb eX7_close_24 rfl (lv_at hl 2 rfl) ?_
      refine lv_aload_n hx hb eX7_close_25 rfl (lv_at hl 0 rfl) ?_
      refine va_get (D := (dC, dI)) (ci := 7) (v := .int (nI zn)) (C := RX7) (T := TX7) (N := 2) hx hb hts hiX7 hown hK hP 0 rfl rfl 1 (by decide) v_1 (fun _ h9 => h9) rfl eX7_close_26 ?_
      refine lv_imul hx hb eX7_close_29 ?_
      refine lv_topi (fun y_23 ey_23 => ?_)
      obtain rfl : y_23 = (nI (g_15 * zn)) := ey_23.trans (pk_mul g_15 zn)
      refine lv_iload_n hx hb eX7_close_30 rfl (lv_at hl 1 rfl) ?_
      refine lv_iadd hx hb eX7_close_31 ?_
      refine lv_topi (fun y_24 ey_24 => ?_)
      obtain rfl : y_24 = (nI ((g_15 * zn) + g_4)) := ey_24.trans (nI_add (g_15 * zn) g_4)
      refine va_iald hx hb hK hP 1 0 rfl rfl (vp_in_nI (n := ((g_15 * zn) + g_4)) (by first | exact zx16 (by omega) (by omega) (by omega) | exact zy16 (by omega) (by omega) | omega) (Nat.le_of_ble_eq_true rfl)) eX7_close_32 ?_
      refine lv_topi (fun y_25 ey_25 => ?_)
      have ey_25 : y_25 = g_14 ((g_15 * zn) + g_4) := ey_25.trans (congrArg g_14 (nI_clamp (n := ((g_15 * zn) + g_4)) (by first | omega | exact Nat.lt_trans (zx16 (by omega) (by omega) (by omega)) (Nat.le_of_ble_eq_true rfl) | exact Nat.lt_trans (zy16 (by omega) (by omega)) (Nat.le_of_ble_eq_true rfl) | exact Nat.lt_trans (zx25 (by omega) (by omega) (by omega)) (Nat.le_of_ble_eq_true rfl) | exact Nat.lt_trans (zy25 (by omega) (by omega)) (Nat.le_of_ble_eq_true rfl))))
      have hsp := hsp.trans (slet_eq ey_25)
      refine lv_istore_n (lv' := [(3, .int y_25), (0, .ref z), (1, .int (nI g_4)), (2, .int (nI g_15))]) hx hb eX7_close_33 rfl hl (by decide) rfl (fun ls hl => ?_)
      refine lv_iload_n hx hb eX7_close_34 rfl (lv_at hl 0 rfl) ?_
      refine lv_ldc hx hb hown v_3 eX7_close_35 ?_
      obtain ⟨JR_28, hJR_28, hsp⟩ := slet_ex hsp
      refine pu_join (fun H locs ls st => ∃ (g_26 : Nat → Int32), st = [] ∧ g_26 = JR_28 ∧ va_P (dC, dI) vwCl (z16__w z zc (nI zn) k_fz g_26) H ∧ va_D A (z16__w z zc (nI zn) k_fz g_26) ∧ va_S A s.heap H locs ∧ lv_has ls 7 [(0, .ref z), (1, .int (nI g_4)), (2, .int (nI g_15)), (3, .int y_25)]) 135 ?_ (fun j_27 => ?_)
      · rintro H locs ls st ⟨g_26, rfl, he_29, hP, hD, hS, hl⟩
        rw [← he_29] at hsp
        refine lv_iinc (v := (nI (g_15 + 1))) (lv' := [(2, .int (nI (g_15 + 1))), (0, .ref z), (1, .int (nI g_4)), (3, .int y_25)]) hx hb eX7_close_135 hl (k := 2) rfl (nI_1 _) (by decide) rfl (fun ls hl => ?_)
        refine lv_goto (tgt := 12) hx hb eX7_close_138 (by decide) ?_
        exact ih_16 (4 - (g_15 + 1)) (by omega) _ _ _ ⟨g_26, (g_15 + 1), rfl, (by omega), hin_20 _ hsp, hP, hD, hS, lv_sub hl [1, 2, 0] rfl⟩
      have hsp := hJR_28
      refine lv_icmp_ne (tgt := 43) hx hb eX7_close_37 (by decide) (fun c_30 => ?_) (fun c_30 => ?_)
      · have hcc_30 := c_30
        have hsp := hsp.trans (if_neg c_30)
        refine lv_iconst (v := 0) hx hb eX7_close_43 (by decide) ?_
        refine lv_istore (lv' := [(4, .int 0), (3, .int y_25), (0, .ref z), (1, .int (nI g_4)), (2, .int (nI g_15))]) hx hb eX7_close_44 hl (by decide) rfl (fun ls hl => ?_)
        obtain ⟨lf_36, dlf_36, hlf_36, hsp⟩ := itr_ex hsp
        delta sp_E_7_close_16_L1 at hlf_36
        refine pu_while (fun nn H locs ls => ∃ (g_33 : Nat → Int32) (g_34 : Nat), nn = 4 - g_34 ∧ g_34 ≤ 4 ∧ JR_28 = itrv dlf_36 lf_36 (g_33, g_34) ∧ va_P (dC, dI) vwCl (z16__w z zc (nI zn) k_fz g_33) H ∧ va_D A (z16__w z zc (nI zn) k_fz g_33) ∧ va_S A s.heap H locs ∧ lv_has ls 7 [(0, .ref z), (1, .int (nI g_4)), (2, .int (nI g_15)), (3, .int y_25), (4, .int (nI g_34))]) 46 ?_ _ _ _ _ ⟨g_14, 0, rfl, (Nat.le_of_ble_eq_true rfl), hsp, hP, hD, hS, lv_sub hl [2, 3, 4, 1, 0] rfl⟩
        rintro nn ih_35 H locs ls ⟨g_33, g_34, rfl, hg_34, he_38, hP, hD, hS, hl⟩
        obtain ⟨S_37, hsp, hin_39, hout_40⟩ := itr_step hlf_36 he_38
        refine lv_iload hx hb eX7_close_46 (lv_at hl 4 rfl) ?_
        refine lv_aload_n hx hb eX7_close_48 rfl (lv_at hl 0 rfl) ?_
        refine va_get (D := (dC, dI)) (ci := 7) (v := .int (nI zn)) (C := RX7) (T := TX7) (N := 2) hx hb hts hiX7 hown hK hP 0 rfl rfl 1 (by decide) v_1 (fun _ h9 => h9) rfl eX7_close_49 ?_
        refine lv_icmp_ge (tgt := 135) hx hb eX7_close_52 (by decide) (fun c_41 => ?_) (fun c_41 => ?_)
        · have c_41 : zn ≤ g_34 := (nI_leI (a := zn) (b := g_34) (Nat.lt_of_le_of_lt hzn (Nat.le_of_ble_eq_true rfl)) (Nat.lt_of_le_of_lt hg_34 (Nat.le_of_ble_eq_true rfl))).mp c_41
          have hsp := hsp.trans (if_pos c_41)
          have hsp := hout_40 _ hsp
          exact j_27 _ _ _ _ ⟨g_33, rfl, hsp.symm, hP, hD, hS, lv_sub hl [0, 1, 2, 3] rfl⟩
        · have c_41 : ¬ zn ≤ g_34 := fun z => c_41 ((nI_leI (a := zn) (b := g_34) (Nat.lt_of_le_of_lt hzn (Nat.le_of_ble_eq_true rfl)) (Nat.lt_of_le_of_lt hg_34 (Nat.le_of_ble_eq_true rfl))).mpr z)
          have hsp := hsp.trans (if_neg c_41)
          refine lv_aload_n hx hb eX7_close_55 rfl (lv_at hl 0 rfl) ?_
          refine va_get (D := (dC, dI)) (ci := 7) (v := .ref zc) (C := RX7) (T := TX7) (N := 2) hx hb hts hiX7 hown hK hP 0 rfl rfl 0 (by decide) v_2 (fun _ h9 => h9) rfl eX7_close_56 ?_
          refine lv_iload_n hx hb eX7_close_59 rfl (lv_at hl 1 rfl) ?_
          refine lv_aload_n hx hb eX7_close_60 rfl (lv_at hl 0 rfl) ?_
          refine va_get (D := (dC, dI)) (ci := 7) (v := .int (nI zn)) (C := RX7) (T := TX7) (N := 2) hx hb hts hiX7 hown hK hP 0 rfl rfl 1 (by decide) v_1 (fun _ h9 => h9) rfl eX7_close_61 ?_
          refine lv_imul hx hb eX7_close_64 ?_
          refine lv_topi (fun y_42 ey_42 => ?_)
          obtain rfl : y_42 = (nI (g_4 * zn)) := ey_42.trans (pk_mul g_4 zn)
          refine lv_iload hx hb eX7_close_65 (lv_at hl 4 rfl) ?_
          refine lv_iadd hx hb eX7_close_67 ?_
          refine lv_topi (fun y_43 ey_43 => ?_)
          obtain rfl : y_43 = (nI ((g_4 * zn) + g_34)) := ey_43.trans (nI_add (g_4 * zn) g_34)
          refine va_iald hx hb hK hP 1 0 rfl rfl (vp_in_nI (n := ((g_4 * zn) + g_34)) (by first | exact zx16 (by omega) (by omega) (by omega) | exact zy16 (by omega) (by omega) | omega) (Nat.le_of_ble_eq_true rfl)) eX7_close_68 ?_
          refine lv_topi (fun y_44 ey_44 => ?_)
          have ey_44 : y_44 = g_33 ((g_4 * zn) + g_34) := ey_44.trans (congrArg g_33 (nI_clamp (n := ((g_4 * zn) + g_34)) (by first | omega | exact Nat.lt_trans (zx16 (by omega) (by omega) (by omega)) (Nat.le_of_ble_eq_true rfl) | exact Nat.lt_trans (zy16 (by omega) (by omega)) (Nat.le_of_ble_eq_true rfl) | exact Nat.lt_trans (zx25 (by omega) (by omega) (by omega)) (Nat.le_of_ble_eq_true rfl) | exact Nat.lt_trans (zy25 (by omega) (by omega)) (Nat.le_of_ble_eq_true rfl))))
          have hsp := hsp.trans (slet_eq ey_44)
          refine lv_istore (lv' := [(5, .int y_44), (0, .ref z), (1, .int (nI g_4)), (2, .int (nI g_15)), (3, .int y_25), (4, .int (nI g_34))]) hx hb eX7_close_69 hl (by decide) rfl (fun ls hl => ?_)
          refine lv_iload hx hb eX7_close_71 (lv_at hl 0 rfl) ?_
          refine lv_ldc hx hb hown v_3 eX7_close_73 ?_
          obtain ⟨JR_47, hJR_47, hsp⟩ := slet_ex hsp
          refine pu_join (fun H locs ls st => ∃ (g_45 : Nat → Int32), st = [] ∧ g_45 = JR_47 ∧ va_P (dC, dI) vwCl (z16__w z zc (nI zn) k_fz g_45) H ∧ va_D A (z16__w z zc (nI zn) k_fz g_45) ∧ va_S A s.heap H locs ∧ lv_has ls 7 [(0, .ref z), (1, .int (nI g_4)), (2, .int (nI g_15)), (3, .int y_25), (4, .int (nI g_34)), (5, .int y_44)]) 129 ?_ (fun j_46 => ?_)
          · rintro H locs ls st ⟨g_45, rfl, he_48, hP, hD, hS, hl⟩
            rw [← he_48] at hsp
            refine lv_iinc (v := (nI (g_34 + 1))) (lv' := [(4, .int (nI (g_34 + 1))), (0, .ref z), (1, .int (nI g_4)), (2, .int (nI g_15)), (3, .int y_25), (5, .int y_44)]) hx hb eX7_close_129 hl (k := 4) rfl (nI_1 _) (by decide) rfl (fun ls hl => ?_)
            refine lv_goto (tgt := 46) hx hb eX7_close_132 (by decide) ?_
            exact ih_35 (4 - (g_34 + 1)) (by omega) _ _ _ ⟨g_45, (g_34 + 1), rfl, (by omega), hin_39 _ hsp, hP, hD, hS, lv_sub hl [1, 2, 3, 4, 0] rfl⟩
          have hsp := hJR_47
          refine lv_icmp_ne (tgt := 81) hx hb eX7_close_75 (by decide) (fun c_49 => ?_) (fun c_49 => ?_)
          · have hcc_49 := c_49
            have hsp := hsp.trans (if_neg c_49)
            refine lv_iload_n hx hb eX7_close_81 rfl (lv_at hl 4 rfl) ?_
            refine lv_iload hx hb eX7_close_82 (lv_at hl 0 rfl) ?_
            refine lv_iadd hx hb eX7_close_84 ?_
            refine lv_topi (fun y_50 ey_50 => ?_)
            have hsp := hsp.trans (slet_eq ey_50)
            refine lv_iload_n hx hb eX7_close_85 rfl (lv_at hl 4 rfl) ?_
            refine lv_iload hx hb eX7_close_86 (lv_at hl 0 rfl) ?_
            refine lv_ior hx hb eX7_close_88 ?_
            refine lv_topi (fun y_51 ey_51 => ?_)
            have hsp := hsp.trans (slet_eq ey_51)
            refine lv_iconst (v := 1) hx hb eX7_close_89 (by decide) ?_
            refine lv_iand hx hb eX7_close_90 ?_
            refine lv_topi (fun y_52 ey_52 => ?_)
            have hsp := hsp.trans (slet_eq ey_52)
            refine lv_isub hx hb eX7_close_91 ?_
            refine lv_topi (fun y_53 ey_53 => ?_)
            have hsp := hsp.trans (slet_eq ey_53)
            refine lv_istore (lv' := [(6, .int y_53), (5, .int y_44), (0, .ref z), (1, .int (nI g_4)), (2, .int (nI g_15)), (3, .int y_25), (4, .int (nI g_34))]) hx hb eX7_close_92 hl (by decide) rfl (fun ls hl => ?_)
            refine lv_iload hx hb eX7_close_94 (lv_at hl 0 rfl) ?_
            refine lv_aload_n hx hb eX7_close_96 rfl (lv_at hl 2 rfl) ?_
            refine va_get (D := (dC, dI)) (ci := 7) (v := .ref zc) (C := RX7) (T := TX7) (N := 2) hx hb hts hiX7 hown hK hP 0 rfl rfl 0 (by decide) v_2 (fun _ h9 => h9) rfl eX7_close_97 ?_
            refine lv_iload_n hx hb eX7_close_100 rfl (lv_at hl 4 rfl) ?_
            refine lv_aload_n hx hb eX7_close_101 rfl (lv_at hl 2 rfl) ?_
            refine va_get (D := (dC, dI)) (ci := 7) (v := .int (nI zn)) (C := RX7) (T := TX7) (N := 2) hx hb hts hiX7 hown hK hP 0 rfl rfl 1 (by decide) v_1 (fun _ h9 => h9) rfl eX7_close_102 ?_
            refine lv_imul hx hb eX7_close_105 ?_
            refine lv_topi (fun y_54 ey_54 => ?_)
            obtain rfl : y_54 = (nI (g_15 * zn)) := ey_54.trans (pk_mul g_15 zn)
            refine lv_iload hx hb eX7_close_106 (lv_at hl 6 rfl) ?_
            refine lv_iadd hx hb eX7_close_108 ?_
            refine lv_topi (fun y_55 ey_55 => ?_)
            obtain rfl : y_55 = (nI ((g_15 * zn) + g_34)) := ey_55.trans (nI_add (g_15 * zn) g_34)
            refine va_iald hx hb hK hP 1 0 rfl rfl (vp_in_nI (n := ((g_15 * zn) + g_34)) (by first | exact zx16 (by omega) (by omega) (by omega) | exact zy16 (by omega) (by omega) | omega) (Nat.le_of_ble_eq_true rfl)) eX7_close_109 ?_
            refine lv_topi (fun y_56 ey_56 => ?_)
            have ey_56 : y_56 = g_33 ((g_15 * zn) + g_34) := ey_56.trans (congrArg g_33 (nI_clamp (n := ((g_15 * zn) + g_34)) (by first | omega | exact Nat.lt_trans (zx16 (by omega) (by omega) (by omega)) (Nat.le_of_ble_eq_true rfl) | exact Nat.lt_trans (zy16 (by omega) (by omega)) (Nat.le_of_ble_eq_true rfl) | exact Nat.lt_trans (zx25 (by omega) (by omega) (by omega)) (Nat.le_of_ble_eq_true rfl) | exact Nat.lt_trans (zy25 (by omega) (by omega)) (Nat.le_of_ble_eq_true rfl))))
            have hsp := hsp.trans (slet_eq ey_56)
            refine lv_icmp_ge (tgt := 129) hx hb eX7_close_110 (by decide) (fun c_57 => ?_) (fun c_57 => ?_)
            · have hcc_57 := c_57
              have hsp := hsp.trans (if_pos c_57)
              exact j_46 _ _ _ _ ⟨g_33, rfl, hsp.symm, hP, hD, hS, lv_sub hl [2, 3, 4, 5, 6, 1] rfl⟩
            · have hcc_57 := c_57
              have hsp := hsp.trans (if_neg c_57)
              refine lv_aload_n hx hb eX7_close_113 rfl (lv_at hl 2 rfl) ?_
              refine va_get (D := (dC, dI)) (ci := 7) (v := .ref zc) (C := RX7) (T := TX7) (N := 2) hx hb hts hiX7 hown hK hP 0 rfl rfl 0 (by decide) v_2 (fun _ h9 => h9) rfl eX7_close_114 ?_
              refine lv_iload_n hx hb eX7_close_117 rfl (lv_at hl 4 rfl) ?_
              refine lv_aload_n hx hb eX7_close_118 rfl (lv_at hl 2 rfl) ?_
              refine va_get (D := (dC, dI)) (ci := 7) (v := .int (nI zn)) (C := RX7) (T := TX7) (N := 2) hx hb hts hiX7 hown hK hP 0 rfl rfl 1 (by decide) v_1 (fun _ h9 => h9) rfl eX7_close_119 ?_
              refine lv_imul hx hb eX7_close_122 ?_
              refine lv_topi (fun y_58 ey_58 => ?_)
              obtain rfl : y_58 = (nI (g_15 * zn)) := ey_58.trans (pk_mul g_15 zn)
              refine lv_iload hx hb eX7_close_123 (lv_at hl 6 rfl) ?_
              refine lv_iadd hx hb eX7_close_125 ?_
              refine lv_topi (fun y_59 ey_59 => ?_)
              obtain rfl : y_59 = (nI ((g_15 * zn) + g_34)) := ey_59.trans (nI_add (g_15 * zn) g_34)
              refine lv_iload hx hb eX7_close_126 (lv_at hl 0 rfl) ?_
              refine va_iast hx hb hK hP hD hS 1 0 rfl rfl (vp_in_nI (n := ((g_15 * zn) + g_34)) (by first | exact zx16 (by omega) (by omega) (by omega) | exact zy16 (by omega) (by omega) | omega) (Nat.le_of_ble_eq_true rfl)) eX7_close_128 (fun H locs hP hD hS => ?_)
              obtain ⟨f_60, ef_60, xf_60⟩ := up_x g_33 (n := ((g_15 * zn) + g_34)) y_53 (by first | omega | exact Nat.lt_trans (zx16 (by omega) (by omega) (by omega)) (Nat.le_of_ble_eq_true rfl) | exact Nat.lt_trans (zy16 (by omega) (by omega)) (Nat.le_of_ble_eq_true rfl) | exact Nat.lt_trans (zx25 (by omega) (by omega) (by omega)) (Nat.le_of_ble_eq_true rfl) | exact Nat.lt_trans (zy25 (by omega) (by omega)) (Nat.le_of_ble_eq_true rfl))
              have hP : va_P (dC, dI) vwCl (z16__w z zc (nI zn) k_fz f_60) H := by rw [← ef_60]; exact hP
              have hD : va_D A (z16__w z zc (nI zn) k_fz f_60) := by rw [← ef_60]; exact hD
              have hsp := hsp.trans (slet_eq xf_60)
              exact j_46 _ _ _ _ ⟨f_60, rfl, hsp.symm, hP, hD, hS, lv_sub hl [2, 3, 4, 5, 6, 1] rfl⟩
          · have hcc_49 := c_49
            have hsp := hsp.trans (if_pos c_49)
            refine lv_goto (tgt := 129) hx hb eX7_close_78 (by decide) ?_
            exact j_46 _ _ _ _ ⟨g_33, rfl, hsp.symm, hP, hD, hS, lv_sub hl [1, 2, 3, 4, 5, 0] rfl⟩
      · have hcc_30 := c_30
        have hsp := hsp.trans (if_pos c_30)
        refine lv_goto (tgt := 135) hx hb eX7_close_40 (by decide) ?_
        exact j_27 _ _ _ _ ⟨g_14, rfl, hsp.symm, hP, hD, hS, lv_sub hl [1, 2, 3, 0] rfl⟩
theorem eX7_forget_0 : decode cX7_forget 0 = .ok (.iconst 0, 1) := by decide +kernel
theorem eX7_forget_1 : decode cX7_forget 1 = .ok (.istore_n 3, 1) := by decide +kernel
theorem eX7_forget_2 : decode cX7_forget 2 = .ok (.iload_n 3, 1) := by decide +kernel
theorem eX7_forget_3 : decode cX7_forget 3 = .ok (.aload_n 0, 1) := by decide +kernel
theorem eX7_forget_4 : decode cX7_forget 4 = .ok (.getfield 18, 3) := by decide +kernel
theorem eX7_forget_7 : decode cX7_forget 7 = .ok (.if_icmp .ge 123, 3) := by decide +kernel
theorem eX7_forget_10 : decode cX7_forget 10 = .ok (.iconst 0, 1) := by decide +kernel
theorem eX7_forget_11 : decode cX7_forget 11 = .ok (.istore 4, 2) := by decide +kernel
theorem eX7_forget_13 : decode cX7_forget 13 = .ok (.iload 4, 2) := by decide +kernel
theorem eX7_forget_15 : decode cX7_forget 15 = .ok (.aload_n 0, 1) := by decide +kernel
theorem eX7_forget_16 : decode cX7_forget 16 = .ok (.getfield 18, 3) := by decide +kernel
theorem eX7_forget_19 : decode cX7_forget 19 = .ok (.if_icmp .ge 105, 3) := by decide +kernel
theorem eX7_forget_22 : decode cX7_forget 22 = .ok (.aload_n 0, 1) := by decide +kernel
theorem eX7_forget_23 : decode cX7_forget 23 = .ok (.getfield 11, 3) := by decide +kernel
theorem eX7_forget_26 : decode cX7_forget 26 = .ok (.iload_n 3, 1) := by decide +kernel
theorem eX7_forget_27 : decode cX7_forget 27 = .ok (.aload_n 0, 1) := by decide +kernel
theorem eX7_forget_28 : decode cX7_forget 28 = .ok (.getfield 18, 3) := by decide +kernel
theorem eX7_forget_31 : decode cX7_forget 31 = .ok (.imul, 1) := by decide +kernel
theorem eX7_forget_32 : decode cX7_forget 32 = .ok (.iload 4, 2) := by decide +kernel
theorem eX7_forget_34 : decode cX7_forget 34 = .ok (.iadd, 1) := by decide +kernel
theorem eX7_forget_35 : decode cX7_forget 35 = .ok (.iaload, 1) := by decide +kernel
theorem eX7_forget_36 : decode cX7_forget 36 = .ok (.istore 5, 2) := by decide +kernel
theorem eX7_forget_38 : decode cX7_forget 38 = .ok (.iload_n 3, 1) := by decide +kernel
theorem eX7_forget_39 : decode cX7_forget 39 = .ok (.iload 4, 2) := by decide +kernel
theorem eX7_forget_41 : decode cX7_forget 41 = .ok (.if_icmp .eq 77, 3) := by decide +kernel
theorem eX7_forget_44 : decode cX7_forget 44 = .ok (.iload 5, 2) := by decide +kernel
theorem eX7_forget_46 : decode cX7_forget 46 = .ok (.ldc 17, 2) := by decide +kernel
theorem eX7_forget_48 : decode cX7_forget 48 = .ok (.if_icmp .ne 6, 3) := by decide +kernel
theorem eX7_forget_51 : decode cX7_forget 51 = .ok (.goto 67, 3) := by decide +kernel
theorem eX7_forget_54 : decode cX7_forget 54 = .ok (.iload 5, 2) := by decide +kernel
theorem eX7_forget_56 : decode cX7_forget 56 = .ok (.iconst 2, 1) := by decide +kernel
theorem eX7_forget_57 : decode cX7_forget 57 = .ok (.aload_n 1, 1) := by decide +kernel
theorem eX7_forget_58 : decode cX7_forget 58 = .ok (.iload_n 3, 1) := by decide +kernel
theorem eX7_forget_59 : decode cX7_forget 59 = .ok (.iaload, 1) := by decide +kernel
theorem eX7_forget_60 : decode cX7_forget 60 = .ok (.imul, 1) := by decide +kernel
theorem eX7_forget_61 : decode cX7_forget 61 = .ok (.iconst 1, 1) := by decide +kernel
theorem eX7_forget_62 : decode cX7_forget 62 = .ok (.iadd, 1) := by decide +kernel
theorem eX7_forget_63 : decode cX7_forget 63 = .ok (.if_icmp .le 22, 3) := by decide +kernel
theorem eX7_forget_66 : decode cX7_forget 66 = .ok (.aload_n 0, 1) := by decide +kernel
theorem eX7_forget_67 : decode cX7_forget 67 = .ok (.getfield 11, 3) := by decide +kernel
theorem eX7_forget_70 : decode cX7_forget 70 = .ok (.iload_n 3, 1) := by decide +kernel
theorem eX7_forget_71 : decode cX7_forget 71 = .ok (.aload_n 0, 1) := by decide +kernel
theorem eX7_forget_72 : decode cX7_forget 72 = .ok (.getfield 18, 3) := by decide +kernel
theorem eX7_forget_75 : decode cX7_forget 75 = .ok (.imul, 1) := by decide +kernel
theorem eX7_forget_76 : decode cX7_forget 76 = .ok (.iload 4, 2) := by decide +kernel
theorem eX7_forget_78 : decode cX7_forget 78 = .ok (.iadd, 1) := by decide +kernel
theorem eX7_forget_79 : decode cX7_forget 79 = .ok (.ldc 17, 2) := by decide +kernel
theorem eX7_forget_81 : decode cX7_forget 81 = .ok (.iastore, 1) := by decide +kernel
theorem eX7_forget_82 : decode cX7_forget 82 = .ok (.goto 36, 3) := by decide +kernel
theorem eX7_forget_85 : decode cX7_forget 85 = .ok (.iload 5, 2) := by decide +kernel
theorem eX7_forget_87 : decode cX7_forget 87 = .ok (.bipush (-2), 2) := by decide +kernel
theorem eX7_forget_89 : decode cX7_forget 89 = .ok (.aload_n 2, 1) := by decide +kernel
theorem eX7_forget_90 : decode cX7_forget 90 = .ok (.iload 4, 2) := by decide +kernel
theorem eX7_forget_92 : decode cX7_forget 92 = .ok (.iaload, 1) := by decide +kernel
theorem eX7_forget_93 : decode cX7_forget 93 = .ok (.imul, 1) := by decide +kernel
theorem eX7_forget_94 : decode cX7_forget 94 = .ok (.if_icmp .ge 24, 3) := by decide +kernel
theorem eX7_forget_97 : decode cX7_forget 97 = .ok (.aload_n 0, 1) := by decide +kernel
theorem eX7_forget_98 : decode cX7_forget 98 = .ok (.getfield 11, 3) := by decide +kernel
theorem eX7_forget_101 : decode cX7_forget 101 = .ok (.iload_n 3, 1) := by decide +kernel
theorem eX7_forget_102 : decode cX7_forget 102 = .ok (.aload_n 0, 1) := by decide +kernel
theorem eX7_forget_103 : decode cX7_forget 103 = .ok (.getfield 18, 3) := by decide +kernel
theorem eX7_forget_106 : decode cX7_forget 106 = .ok (.imul, 1) := by decide +kernel
theorem eX7_forget_107 : decode cX7_forget 107 = .ok (.iload 4, 2) := by decide +kernel
theorem eX7_forget_109 : decode cX7_forget 109 = .ok (.iadd, 1) := by decide +kernel
theorem eX7_forget_110 : decode cX7_forget 110 = .ok (.bipush (-2), 2) := by decide +kernel
theorem eX7_forget_112 : decode cX7_forget 112 = .ok (.aload_n 2, 1) := by decide +kernel
theorem eX7_forget_113 : decode cX7_forget 113 = .ok (.iload 4, 2) := by decide +kernel
theorem eX7_forget_115 : decode cX7_forget 115 = .ok (.iaload, 1) := by decide +kernel
theorem eX7_forget_116 : decode cX7_forget 116 = .ok (.imul, 1) := by decide +kernel
theorem eX7_forget_117 : decode cX7_forget 117 = .ok (.iastore, 1) := by decide +kernel
theorem eX7_forget_118 : decode cX7_forget 118 = .ok (.iinc 4 1, 3) := by decide +kernel
theorem eX7_forget_121 : decode cX7_forget 121 = .ok (.goto (-108), 3) := by decide +kernel
theorem eX7_forget_124 : decode cX7_forget 124 = .ok (.iinc 3 1, 3) := by decide +kernel
theorem eX7_forget_127 : decode cX7_forget 127 = .ok (.goto (-125), 3) := by decide +kernel
theorem eX7_forget_130 : decode cX7_forget 130 = .ok (.aload_n 0, 1) := by decide +kernel
theorem eX7_forget_131 : decode cX7_forget 131 = .ok (.invokevirtual 28, 3) := by decide +kernel
theorem eX7_forget_134 : decode cX7_forget 134 = .ok (.return_, 1) := by decide +kernel
abbrev vs_E_7_forget_16 : List Cond := .code yX7_forget cX7_forget 6 none :: CM
theorem g_E_7_forget_16_E_7_close_16 : GoodIn vs_E_7_forget_16 (wsV RX7 28 RX7 yX7_close vs_E_7_close_16) := cm_gV cm_106 cm_107 cm_108 cm_45 cm_109
noncomputable def sp_E_7_forget_16_L1 (fh : Nat → Int32) (fl : Nat → Int32) (zn : Nat) (g_4 : Nat) : ((Nat → Int32) × Nat) → ((Nat → Int32) × Nat) ⊕ (((Nat → Int32) × Nat) ⊕ ((Nat → Int32))) := fun (g_16, g_17) => (if zn ≤ g_17 then (Sum.inr (Sum.inl (g_16, (g_4 + 1)))) else (slet (g_16 ((g_4 * zn) + g_17)) (fun y_27 => (slet (α := (Nat → Int32)) (if g_4 = g_17 then g_16 else (if (y_27 : Int32) = 2147483647 then g_16 else (slet (fh g_4) (fun y_34 => (slet ((2 : Int32) * y_34) (fun y_35 => (slet ((y_35 : Int32) + 1) (fun y_36 => (if (y_27 : Int32) ≤ y_36 then (slet (fl g_17) (fun y_38 => (slet (((-2) : Int32) * y_38) (fun y_39 => (if (y_39 : Int32) ≤ y_27 then g_16 else (slet (fl g_17) (fun y_43 => (slet (((-2) : Int32) * y_43) (fun y_44 => (slet (upd g_16 ((g_4 * zn) + g_17) y_44) (fun f_45 => f_45))))))))))) else (slet (upd g_16 ((g_4 * zn) + g_17) 2147483647) (fun f_48 => f_48))))))))))) (fun g_28 => (Sum.inl (g_28, (g_17 + 1))))))))
noncomputable def sp_E_7_forget_16_L2 (fh : Nat → Int32) (fl : Nat → Int32) (zn : Nat) : ((Nat → Int32) × Nat) → ((Nat → Int32) × Nat) ⊕ ((Nat → Int32)) := fun (g_3, g_4) => (if zn ≤ g_4 then (Sum.inr (slet (sp_E_7_close_16 zn g_3) (fun z_fz_13 => z_fz_13))) else (itrv (α := (Nat → Int32) × Nat) (β := (((Nat → Int32) × Nat) ⊕ ((Nat → Int32)))) (Sum.inr default) (sp_E_7_forget_16_L1 fh fl zn g_4) (g_3, 0)))
noncomputable def sp_E_7_forget_16 (fh : Nat → Int32) (fl : Nat → Int32) (zn : Nat) (fz : Nat → Int32) : (Nat → Int32) := (itrv (α := (Nat → Int32) × Nat) (β := ((Nat → Int32))) default (sp_E_7_forget_16_L2 fh fl zn) (fz, 0))
set_option maxHeartbeats 4000000 in
set_option maxRecDepth 100000 in
theorem c_E_7_forget_16 (l : Launch) (dC : Nat → ClassId) (dI : Nat → Nat → Nat) (sz : Nat) (ah : Nat) (k_fh : ClassId) (fh : Nat → Int32) (al : Nat) (k_fl : ClassId) (fl : Nat → Int32) (z : Nat) (zc : Nat) (zn : Nat) (k_fz : ClassId) (fz : Nat → Int32) (hzn : zn ≤ 4) : Met l yX7_forget vs_E_7_forget_16 ({ frames := 1, cells := 0, slots := 0, locals := 26 }) (va_Pc [.ref z, .ref ah, .ref al] (pu_B (dC, dI) (zf16__w ah k_fh fh al k_fl fl z zc (nI zn) k_fz fz) (zf16__t k_fh k_fl k_fz) sz)) (va_Qv (fun (_ : Unit) => True) (fun _ t => ∃ (z_fz : Nat → Int32), pu_E (dC, dI) (zf16__w ah k_fh fh al k_fl fl z zc (nI zn) k_fz z_fz) (zf16__t k_fh k_fl k_fz) (va_A ((zf16__w ah k_fh fh al k_fl fl z zc (nI zn) k_fz fz)) sz) t ∧ (z_fz = (sp_E_7_forget_16 fh fl zn fz))) (va_A ((zf16__w ah k_fh fh al k_fl fl z zc (nI zn) k_fz fz)) sz)) 0 0 (va_A ((zf16__w ah k_fh fh al k_fl fl z zc (nI zn) k_fz fz)) sz) := by
  refine Met.ofW (cc := cX7_forget) (maxL := 6) (ret := none) (by decide) rfl ?_
  intro p e s m args below meth c s₁ B hml hv
  obtain ⟨rfl, rfl, hP, hK, hD0⟩ := hv
  have hx := B.exec
  have hb := B.bytes
  have hr := B.returns
  have hts := atoms_spec (ws := vs_E_7_forget_16) B.pre
  have v_1 := hts (.fieldLink RX7 18 "ClockReach$Zone" "size" "I") (List.mem_cons_of_mem _ cm_48)
  have v_2 := hts (.fieldLink RX7 11 "ClockReach$Zone" "cells" "[I") (List.mem_cons_of_mem _ cm_47)
  have v_3 := hts (.constant RX7 17 (2147483647)) (List.mem_cons_of_mem _ cm_49)
  have hown : s.vm.findClass RX7 = some m.cls := findClass_of_methodNamed B.named
  have hlocks := B.notSynchronized
  have hiX7 : ∀ w ∈ wsX70, w ∈ vs_E_7_forget_16 := fun _ h => List.mem_cons_of_mem _ (cm_X7 h)
  have hD := hD0.self (sz := s.heap.size)
  generalize hAe : va_A ((zf16__w ah k_fh fh al k_fl fl z zc (nI zn) k_fz fz)) s.heap.size = A at hD ⊢
  have hA : ∀ q : Nat, s.heap.size ≤ q → A q := fun q h => by rw [← hAe]; exact Or.inr h
  have hS : va_S A s.heap s.heap [] := va_S.rf
  have hl := lv_entry ([.ref z, .ref ah, .ref al]) (n := 6) (Nat.le_of_ble_eq_true rfl)
  rw [lg_entry_eq]
  generalize (lg_sl ([.ref z, .ref ah, .ref al]) ++ List.replicate (6 - (lg_sl ([.ref z, .ref ah, .ref al])).length) Slot.unset).toArray = ls at hl ⊢
  have hl : lv_has ls 6 [(0, .ref z), (1, .ref ah), (2, .ref al)] := hl
  have hzz := zz4 hzn
  obtain ⟨RR, hRR⟩ : ∃ x, x = (sp_E_7_forget_16 fh fl zn fz) := ⟨_, rfl⟩
  have hsp := hRR
  refine lv_iconst (v := 0) hx hb eX7_forget_0 (by decide) ?_
  refine lv_istore_n (lv' := [(3, .int 0), (0, .ref z), (1, .ref ah), (2, .ref al)]) hx hb eX7_forget_1 rfl hl (by decide) rfl (fun ls hl => ?_)
  obtain ⟨lf_6, dlf_6, hlf_6, hsp⟩ := itr_ex hsp
  delta sp_E_7_forget_16_L2 at hlf_6
  refine pu_while (fun nn H locs ls => ∃ (g_3 : Nat → Int32) (g_4 : Nat), nn = 4 - g_4 ∧ g_4 ≤ 4 ∧ RR = itrv dlf_6 lf_6 (g_3, g_4) ∧ va_P (dC, dI) vwCl (zf16__w ah k_fh fh al k_fl fl z zc (nI zn) k_fz g_3) H ∧ va_D A (zf16__w ah k_fh fh al k_fl fl z zc (nI zn) k_fz g_3) ∧ va_S A s.heap H locs ∧ lv_has ls 6 [(0, .ref z), (1, .ref ah), (2, .ref al), (3, .int (nI g_4))]) 2 ?_ _ _ _ _ ⟨fz, 0, rfl, (Nat.le_of_ble_eq_true rfl), hsp, hP, hD, hS, lv_sub hl [1, 2, 3, 0] rfl⟩
  rintro nn ih_5 H locs ls ⟨g_3, g_4, rfl, hg_4, he_8, hP, hD, hS, hl⟩
  obtain ⟨S_7, hsp, hin_9, hout_10⟩ := itr_step hlf_6 he_8
  refine lv_iload_n hx hb eX7_forget_2 rfl (lv_at hl 3 rfl) ?_
  refine lv_aload_n hx hb eX7_forget_3 rfl (lv_at hl 0 rfl) ?_
  refine va_get (D := (dC, dI)) (ci := 7) (v := .int (nI zn)) (C := RX7) (T := TX7) (N := 2) hx hb hts hiX7 hown hK hP 2 rfl rfl 1 (by decide) v_1 (fun _ h9 => h9) rfl eX7_forget_4 ?_
  refine lv_icmp_ge (tgt := 130) hx hb eX7_forget_7 (by decide) (fun c_11 => ?_) (fun c_11 => ?_)
  · have c_11 : zn ≤ g_4 := (nI_leI (a := zn) (b := g_4) (Nat.lt_of_le_of_lt hzn (Nat.le_of_ble_eq_true rfl)) (Nat.lt_of_le_of_lt hg_4 (Nat.le_of_ble_eq_true rfl))).mp c_11
    have hsp := hsp.trans (if_pos c_11)
    have hsp := hout_10 _ hsp
    refine lv_aload_n hx hb eX7_forget_130 rfl (lv_at hl 0 rfl) ?_
    have hPc : va_P (dC, dI) vwCl (z16__w z zc (nI zn) k_fz g_3) _ := hP.sub [2, 3] rfl
    have hDc := hD.sub (ws' := (z16__w z zc (nI zn) k_fz g_3)) [2, 3] (by decide) rfl
    have hKc : va_K (dC, dI) vwCl (z16__t k_fz) s := hK.sub [2] rfl
    have hFc := pu_free hDc hS hA
    refine va_callv (va_runV (As := []) (rest := []) ⟨hx, hb, hml, hown, hts⟩ (c_E_7_close_16 l dC dI _ z zc zn k_fz g_3 hzn) (cwV 0 hts g_E_7_forget_16_E_7_close_16 rfl rfl rfl (by decide +kernel) ⟨Nat.le_of_ble_eq_true rfl, Nat.le_of_ble_eq_true rfl⟩) ⟨pu_bl, va_recv hK hP (ci := 7) (q0 := 2) rfl rfl, pu_in hPc hKc hDc⟩ rfl rfl hl.1 rfl (lv_room (Nat.le_of_ble_eq_true rfl)) eX7_forget_131 ⟨Nat.le_of_ble_eq_true rfl, Nat.le_of_ble_eq_true rfl⟩) hS (fun q _ h => hFc q h) hFc (fun u t H1 locs ht hvm hw hB hz1 hk1 hS => ?_)
    obtain ⟨z_fz_13, ⟨hP1, -, hD1⟩, xr_12_0⟩ := hB
    rw [ht] at hP1
    obtain ⟨hP, hD⟩ := pj_a (X := (zf16__w ah k_fh fh al k_fl fl z zc (nI zn) k_fz g_3)) (X' := (zf16__w ah k_fh fh al k_fl fl z zc (nI zn) k_fz z_fz_13)) (wc := (z16__w z zc (nI zn) k_fz g_3)) (w1 := (z16__w z zc (nI zn) k_fz z_fz_13)) hP hD [2, 3] [2, 3, 0, 1] 2 rfl hk1 hP1 rfl rfl rfl (by decide)
    clear hP1 hD1 hFc hPc hDc hKc
    clear hk1 hz1 ht hvm
    generalize H1 = H at hP hS ⊢
    have hsp := hsp.trans (slet_eq xr_12_0)
    exact W.vret hx hb hr (fun t ht hW => ⟨⟨(), rfl, trivial, ⟨z_fz_13, ⟨by rw [ht]; exact hP, va_K.moved hW.alike hK, hD⟩, (hsp.symm.trans hRR)⟩⟩, hS.F ht⟩) hS.2.2 eX7_forget_134
  · have c_11 : ¬ zn ≤ g_4 := fun z => c_11 ((nI_leI (a := zn) (b := g_4) (Nat.lt_of_le_of_lt hzn (Nat.le_of_ble_eq_true rfl)) (Nat.lt_of_le_of_lt hg_4 (Nat.le_of_ble_eq_true rfl))).mpr z)
    have hsp := hsp.trans (if_neg c_11)
    refine lv_iconst (v := 0) hx hb eX7_forget_10 (by decide) ?_
    refine lv_istore (lv' := [(4, .int 0), (0, .ref z), (1, .ref ah), (2, .ref al), (3, .int (nI g_4))]) hx hb eX7_forget_11 hl (by decide) rfl (fun ls hl => ?_)
    obtain ⟨lf_19, dlf_19, hlf_19, hsp⟩ := itr_ex hsp
    delta sp_E_7_forget_16_L1 at hlf_19
    refine pu_while (fun nn H locs ls => ∃ (g_16 : Nat → Int32) (g_17 : Nat), nn = 4 - g_17 ∧ g_17 ≤ 4 ∧ S_7 = itrv dlf_19 lf_19 (g_16, g_17) ∧ va_P (dC, dI) vwCl (zf16__w ah k_fh fh al k_fl fl z zc (nI zn) k_fz g_16) H ∧ va_D A (zf16__w ah k_fh fh al k_fl fl z zc (nI zn) k_fz g_16) ∧ va_S A s.heap H locs ∧ lv_has ls 6 [(0, .ref z), (1, .ref ah), (2, .ref al), (3, .int (nI g_4)), (4, .int (nI g_17))]) 13 ?_ _ _ _ _ ⟨g_3, 0, rfl, (Nat.le_of_ble_eq_true rfl), hsp, hP, hD, hS, lv_sub hl [1, 2, 3, 4, 0] rfl⟩
    rintro nn ih_18 H locs ls ⟨g_16, g_17, rfl, hg_17, he_21, hP, hD, hS, hl⟩
    obtain ⟨S_20, hsp, hin_22, hout_23⟩ := itr_step hlf_19 he_21
    refine lv_iload hx hb eX7_forget_13 (lv_at hl 4 rfl) ?_
    refine lv_aload_n hx hb eX7_forget_15 rfl (lv_at hl 0 rfl) ?_
    refine va_get (D := (dC, dI)) (ci := 7) (v := .int (nI zn)) (C := RX7) (T := TX7) (N := 2) hx hb hts hiX7 hown hK hP 2 rfl rfl 1 (by decide) v_1 (fun _ h9 => h9) rfl eX7_forget_16 ?_
    refine lv_icmp_ge (tgt := 124) hx hb eX7_forget_19 (by decide) (fun c_24 => ?_) (fun c_24 => ?_)
    · have c_24 : zn ≤ g_17 := (nI_leI (a := zn) (b := g_17) (Nat.lt_of_le_of_lt hzn (Nat.le_of_ble_eq_true rfl)) (Nat.lt_of_le_of_lt hg_17 (Nat.le_of_ble_eq_true rfl))).mp c_24
      have hsp := hsp.trans (if_pos c_24)
      have hsp := hout_23 _ hsp
      refine lv_iinc (v := (nI (g_4 + 1))) (lv' := [(3, .int (nI (g_4 + 1))), (0, .ref z), (1, .ref ah), (2, .ref al), (4, .int (nI g_17))]) hx hb eX7_forget_124 hl (k := 3) rfl (nI_1 _) (by decide) rfl (fun ls hl => ?_)
      refine lv_goto (tgt := 2) hx hb eX7_forget_127 (by decide) ?_
      exact ih_5 (4 - (g_4 + 1)) (by omega) _ _ _ ⟨g_16, (g_4 + 1), rfl, (by omega), hin_9 _ hsp, hP, hD, hS, lv_sub hl [1, 2, 3, 0] rfl⟩
    · have c_24 : ¬ zn ≤ g_17 := fun z => c_24 ((nI_leI (a := zn) (b := g_17) (Nat.lt_of_le_of_lt hzn (Nat.le_of_ble_eq_true rfl)) (Nat.lt_of_le_of_lt hg_17 (Nat.le_of_ble_eq_true rfl))).mpr z)
      have hsp := hsp.trans (if_neg c_24)
      refine lv_aload_n hx hb eX7_forget_22 rfl (lv_at hl 0 rfl) ?_
      refine va_get (D := (dC, dI)) (ci := 7) (v := .ref zc) (C := RX7) (T := TX7) (N := 2) hx hb hts hiX7 hown hK hP 2 rfl rfl 0 (by decide) v_2 (fun _ h9 => h9) rfl eX7_forget_23 ?_
      refine lv_iload_n hx hb eX7_forget_26 rfl (lv_at hl 3 rfl) ?_
      refine lv_aload_n hx hb eX7_forget_27 rfl (lv_at hl 0 rfl) ?_
      refine va_get (D := (dC, dI)) (ci := 7) (v := .int (nI zn)) (C := RX7) (T := TX7) (N := 2) hx hb hts hiX7 hown hK hP 2 rfl rfl 1 (by decide) v_1 (fun _ h9 => h9) rfl eX7_forget_28 ?_
      refine lv_imul hx hb eX7_forget_31 ?_
      refine lv_topi (fun y_25 ey_25 => ?_)
      obtain rfl : y_25 = (nI (g_4 * zn)) := ey_25.trans (pk_mul g_4 zn)
      refine lv_iload hx hb eX7_forget_32 (lv_at hl 4 rfl) ?_
      refine lv_iadd hx hb eX7_forget_34 ?_
      refine lv_topi (fun y_26 ey_26 => ?_)
      obtain rfl : y_26 = (nI ((g_4 * zn) + g_17)) := ey_26.trans (nI_add (g_4 * zn) g_17)
      refine va_iald hx hb hK hP 3 2 rfl rfl (vp_in_nI (n := ((g_4 * zn) + g_17)) (by first | exact zx16 (by omega) (by omega) (by omega) | exact zy16 (by omega) (by omega) | omega) (Nat.le_of_ble_eq_true rfl)) eX7_forget_35 ?_
      refine lv_topi (fun y_27 ey_27 => ?_)
      have ey_27 : y_27 = g_16 ((g_4 * zn) + g_17) := ey_27.trans (congrArg g_16 (nI_clamp (n := ((g_4 * zn) + g_17)) (by first | omega | exact Nat.lt_trans (zx16 (by omega) (by omega) (by omega)) (Nat.le_of_ble_eq_true rfl) | exact Nat.lt_trans (zy16 (by omega) (by omega)) (Nat.le_of_ble_eq_true rfl) | exact Nat.lt_trans (zx25 (by omega) (by omega) (by omega)) (Nat.le_of_ble_eq_true rfl) | exact Nat.lt_trans (zy25 (by omega) (by omega)) (Nat.le_of_ble_eq_true rfl))))
      have hsp := hsp.trans (slet_eq ey_27)
      refine lv_istore (lv' := [(5, .int y_27), (0, .ref z), (1, .ref ah), (2, .ref al), (3, .int (nI g_4)), (4, .int (nI g_17))]) hx hb eX7_forget_36 hl (by decide) rfl (fun ls hl => ?_)
      refine lv_iload_n hx hb eX7_forget_38 rfl (lv_at hl 4 rfl) ?_
      refine lv_iload hx hb eX7_forget_39 (lv_at hl 5 rfl) ?_
      obtain ⟨JR_30, hJR_30, hsp⟩ := slet_ex hsp
      refine pu_join (fun H locs ls st => ∃ (g_28 : Nat → Int32), st = [] ∧ g_28 = JR_30 ∧ va_P (dC, dI) vwCl (zf16__w ah k_fh fh al k_fl fl z zc (nI zn) k_fz g_28) H ∧ va_D A (zf16__w ah k_fh fh al k_fl fl z zc (nI zn) k_fz g_28) ∧ va_S A s.heap H locs ∧ lv_has ls 6 [(0, .ref z), (1, .ref ah), (2, .ref al), (3, .int (nI g_4)), (4, .int (nI g_17)), (5, .int y_27)]) 118 ?_ (fun j_29 => ?_)
      · rintro H locs ls st ⟨g_28, rfl, he_31, hP, hD, hS, hl⟩
        rw [← he_31] at hsp
        refine lv_iinc (v := (nI (g_17 + 1))) (lv' := [(4, .int (nI (g_17 + 1))), (0, .ref z), (1, .ref ah), (2, .ref al), (3, .int (nI g_4)), (5, .int y_27)]) hx hb eX7_forget_118 hl (k := 4) rfl (nI_1 _) (by decide) rfl (fun ls hl => ?_)
        refine lv_goto (tgt := 13) hx hb eX7_forget_121 (by decide) ?_
        exact ih_18 (4 - (g_17 + 1)) (by omega) _ _ _ ⟨g_28, (g_17 + 1), rfl, (by omega), hin_22 _ hsp, hP, hD, hS, lv_sub hl [1, 2, 3, 4, 0] rfl⟩
      have hsp := hJR_30
      refine lv_icmp_eq (tgt := 118) hx hb eX7_forget_41 (by decide) (fun c_32 => ?_) (fun c_32 => ?_)
      · have c_32 : g_4 = g_17 := (nI_eq (a := g_4) (b := g_17) (Nat.lt_of_le_of_lt hg_4 (Nat.le_of_ble_eq_true rfl)) (Nat.lt_of_le_of_lt hg_17 (Nat.le_of_ble_eq_true rfl))).mp c_32
        have hsp := hsp.trans (if_pos c_32)
        exact j_29 _ _ _ _ ⟨g_16, rfl, hsp.symm, hP, hD, hS, lv_sub hl [1, 2, 3, 4, 5, 0] rfl⟩
      · have c_32 : ¬ g_4 = g_17 := fun z => c_32 ((nI_eq (a := g_4) (b := g_17) (Nat.lt_of_le_of_lt hg_4 (Nat.le_of_ble_eq_true rfl)) (Nat.lt_of_le_of_lt hg_17 (Nat.le_of_ble_eq_true rfl))).mpr z)
        have hsp := hsp.trans (if_neg c_32)
        refine lv_iload hx hb eX7_forget_44 (lv_at hl 0 rfl) ?_
        refine lv_ldc hx hb hown v_3 eX7_forget_46 ?_
        refine lv_icmp_ne (tgt := 54) hx hb eX7_forget_48 (by decide) (fun c_33 => ?_) (fun c_33 => ?_)
        · have hcc_33 := c_33
          have hsp := hsp.trans (if_neg c_33)
          refine lv_iload hx hb eX7_forget_54 (lv_at hl 0 rfl) ?_
          refine lv_iconst (v := 2) hx hb eX7_forget_56 (by decide) ?_
          refine lv_aload_n hx hb eX7_forget_57 rfl (lv_at hl 2 rfl) ?_
          refine lv_iload_n hx hb eX7_forget_58 rfl (lv_at hl 4 rfl) ?_
          refine va_iald hx hb hK hP 0 0 rfl rfl (vp_in_nI (n := g_4) (Nat.lt_of_le_of_lt hg_4 (Nat.le_of_ble_eq_true rfl)) (Nat.le_of_ble_eq_true rfl)) eX7_forget_59 ?_
          refine lv_topi (fun y_34 ey_34 => ?_)
          have ey_34 : y_34 = fh g_4 := ey_34.trans (congrArg fh (nI_clamp (n := g_4) (Nat.lt_of_le_of_lt hg_4 (Nat.le_of_ble_eq_true rfl))))
          have hsp := hsp.trans (slet_eq ey_34)
          refine lv_imul hx hb eX7_forget_60 ?_
          refine lv_topi (fun y_35 ey_35 => ?_)
          have hsp := hsp.trans (slet_eq ey_35)
          refine lv_iconst (v := 1) hx hb eX7_forget_61 (by decide) ?_
          refine lv_iadd hx hb eX7_forget_62 ?_
          refine lv_topi (fun y_36 ey_36 => ?_)
          have hsp := hsp.trans (slet_eq ey_36)
          refine lv_icmp_le (tgt := 85) hx hb eX7_forget_63 (by decide) (fun c_37 => ?_) (fun c_37 => ?_)
          · have hcc_37 := c_37
            have hsp := hsp.trans (if_pos c_37)
            refine lv_iload hx hb eX7_forget_85 (lv_at hl 0 rfl) ?_
            refine lv_bipush (v := (-2)) hx hb eX7_forget_87 (by decide) ?_
            refine lv_aload_n hx hb eX7_forget_89 rfl (lv_at hl 3 rfl) ?_
            refine lv_iload hx hb eX7_forget_90 (lv_at hl 5 rfl) ?_
            refine va_iald hx hb hK hP 1 1 rfl rfl (vp_in_nI (n := g_17) (Nat.lt_of_le_of_lt hg_17 (Nat.le_of_ble_eq_true rfl)) (Nat.le_of_ble_eq_true rfl)) eX7_forget_92 ?_
            refine lv_topi (fun y_38 ey_38 => ?_)
            have ey_38 : y_38 = fl g_17 := ey_38.trans (congrArg fl (nI_clamp (n := g_17) (Nat.lt_of_le_of_lt hg_17 (Nat.le_of_ble_eq_true rfl))))
            have hsp := hsp.trans (slet_eq ey_38)
            refine lv_imul hx hb eX7_forget_93 ?_
            refine lv_topi (fun y_39 ey_39 => ?_)
            have hsp := hsp.trans (slet_eq ey_39)
            refine lv_icmp_ge (tgt := 118) hx hb eX7_forget_94 (by decide) (fun c_40 => ?_) (fun c_40 => ?_)
            · have hcc_40 := c_40
              have hsp := hsp.trans (if_pos c_40)
              exact j_29 _ _ _ _ ⟨g_16, rfl, hsp.symm, hP, hD, hS, lv_sub hl [1, 2, 3, 4, 5, 0] rfl⟩
            · have hcc_40 := c_40
              have hsp := hsp.trans (if_neg c_40)
              refine lv_aload_n hx hb eX7_forget_97 rfl (lv_at hl 1 rfl) ?_
              refine va_get (D := (dC, dI)) (ci := 7) (v := .ref zc) (C := RX7) (T := TX7) (N := 2) hx hb hts hiX7 hown hK hP 2 rfl rfl 0 (by decide) v_2 (fun _ h9 => h9) rfl eX7_forget_98 ?_
              refine lv_iload_n hx hb eX7_forget_101 rfl (lv_at hl 4 rfl) ?_
              refine lv_aload_n hx hb eX7_forget_102 rfl (lv_at hl 1 rfl) ?_
              refine va_get (D := (dC, dI)) (ci := 7) (v := .int (nI zn)) (C := RX7) (T := TX7) (N := 2) hx hb hts hiX7 hown hK hP 2 rfl rfl 1 (by decide) v_1 (fun _ h9 => h9) rfl eX7_forget_103 ?_
              refine lv_imul hx hb eX7_forget_106 ?_
              refine lv_topi (fun y_41 ey_41 => ?_)
              obtain rfl : y_41 = (nI (g_4 * zn)) := ey_41.trans (pk_mul g_4 zn)
              refine lv_iload hx hb eX7_forget_107 (lv_at hl 5 rfl) ?_
              refine lv_iadd hx hb eX7_forget_109 ?_
              refine lv_topi (fun y_42 ey_42 => ?_)
              obtain rfl : y_42 = (nI ((g_4 * zn) + g_17)) := ey_42.trans (nI_add (g_4 * zn) g_17)
              refine lv_bipush (v := (-2)) hx hb eX7_forget_110 (by decide) ?_
              refine lv_aload_n hx hb eX7_forget_112 rfl (lv_at hl 3 rfl) ?_
              refine lv_iload hx hb eX7_forget_113 (lv_at hl 5 rfl) ?_
              refine va_iald hx hb hK hP 1 1 rfl rfl (vp_in_nI (n := g_17) (Nat.lt_of_le_of_lt hg_17 (Nat.le_of_ble_eq_true rfl)) (Nat.le_of_ble_eq_true rfl)) eX7_forget_115 ?_
              refine lv_topi (fun y_43 ey_43 => ?_)
              have ey_43 : y_43 = fl g_17 := ey_43.trans (congrArg fl (nI_clamp (n := g_17) (Nat.lt_of_le_of_lt hg_17 (Nat.le_of_ble_eq_true rfl))))
              have hsp := hsp.trans (slet_eq ey_43)
              refine lv_imul hx hb eX7_forget_116 ?_
              refine lv_topi (fun y_44 ey_44 => ?_)
              have hsp := hsp.trans (slet_eq ey_44)
              refine va_iast hx hb hK hP hD hS 3 2 rfl rfl (vp_in_nI (n := ((g_4 * zn) + g_17)) (by first | exact zx16 (by omega) (by omega) (by omega) | exact zy16 (by omega) (by omega) | omega) (Nat.le_of_ble_eq_true rfl)) eX7_forget_117 (fun H locs hP hD hS => ?_)
              obtain ⟨f_45, ef_45, xf_45⟩ := up_x g_16 (n := ((g_4 * zn) + g_17)) y_44 (by first | omega | exact Nat.lt_trans (zx16 (by omega) (by omega) (by omega)) (Nat.le_of_ble_eq_true rfl) | exact Nat.lt_trans (zy16 (by omega) (by omega)) (Nat.le_of_ble_eq_true rfl) | exact Nat.lt_trans (zx25 (by omega) (by omega) (by omega)) (Nat.le_of_ble_eq_true rfl) | exact Nat.lt_trans (zy25 (by omega) (by omega)) (Nat.le_of_ble_eq_true rfl))
              have hP : va_P (dC, dI) vwCl (zf16__w ah k_fh fh al k_fl fl z zc (nI zn) k_fz f_45) H := by rw [← ef_45]; exact hP
              have hD : va_D A (zf16__w ah k_fh fh al k_fl fl z zc (nI zn) k_fz f_45) := by rw [← ef_45]; exact hD
              have hsp := hsp.trans (slet_eq xf_45)
              exact j_29 _ _ _ _ ⟨f_45, rfl, hsp.symm, hP, hD, hS, lv_sub hl [1, 2, 3, 4, 5, 0] rfl⟩
          · have hcc_37 := c_37
            have hsp := hsp.trans (if_neg c_37)
            refine lv_aload_n hx hb eX7_forget_66 rfl (lv_at hl 1 rfl) ?_
            refine va_get (D := (dC, dI)) (ci := 7) (v := .ref zc) (C := RX7) (T := TX7) (N := 2) hx hb hts hiX7 hown hK hP 2 rfl rfl 0 (by decide) v_2 (fun _ h9 => h9) rfl eX7_forget_67 ?_
            refine lv_iload_n hx hb eX7_forget_70 rfl (lv_at hl 4 rfl) ?_
            refine lv_aload_n hx hb eX7_forget_71 rfl (lv_at hl 1 rfl) ?_
            refine va_get (D := (dC, dI)) (ci := 7) (v := .int (nI zn)) (C := RX7) (T := TX7) (N := 2) hx hb hts hiX7 hown hK hP 2 rfl rfl 1 (by decide) v_1 (fun _ h9 => h9) rfl eX7_forget_72 ?_
            refine lv_imul hx hb eX7_forget_75 ?_
            refine lv_topi (fun y_46 ey_46 => ?_)
            obtain rfl : y_46 = (nI (g_4 * zn)) := ey_46.trans (pk_mul g_4 zn)
            refine lv_iload hx hb eX7_forget_76 (lv_at hl 5 rfl) ?_
            refine lv_iadd hx hb eX7_forget_78 ?_
            refine lv_topi (fun y_47 ey_47 => ?_)
            obtain rfl : y_47 = (nI ((g_4 * zn) + g_17)) := ey_47.trans (nI_add (g_4 * zn) g_17)
            refine lv_ldc hx hb hown v_3 eX7_forget_79 ?_
            refine va_iast hx hb hK hP hD hS 3 2 rfl rfl (vp_in_nI (n := ((g_4 * zn) + g_17)) (by first | exact zx16 (by omega) (by omega) (by omega) | exact zy16 (by omega) (by omega) | omega) (Nat.le_of_ble_eq_true rfl)) eX7_forget_81 (fun H locs hP hD hS => ?_)
            obtain ⟨f_48, ef_48, xf_48⟩ := up_x g_16 (n := ((g_4 * zn) + g_17)) 2147483647 (by first | omega | exact Nat.lt_trans (zx16 (by omega) (by omega) (by omega)) (Nat.le_of_ble_eq_true rfl) | exact Nat.lt_trans (zy16 (by omega) (by omega)) (Nat.le_of_ble_eq_true rfl) | exact Nat.lt_trans (zx25 (by omega) (by omega) (by omega)) (Nat.le_of_ble_eq_true rfl) | exact Nat.lt_trans (zy25 (by omega) (by omega)) (Nat.le_of_ble_eq_true rfl))
            have hP : va_P (dC, dI) vwCl (zf16__w ah k_fh fh al k_fl fl z zc (nI zn) k_fz f_48) H := by rw [← ef_48]; exact hP
            have hD : va_D A (zf16__w ah k_fh fh al k_fl fl z zc (nI zn) k_fz f_48) := by rw [← ef_48]; exact hD
            have hsp := hsp.trans (slet_eq xf_48)
            refine lv_goto (tgt := 118) hx hb eX7_forget_82 (by decide) ?_
            exact j_29 _ _ _ _ ⟨f_48, rfl, hsp.symm, hP, hD, hS, lv_sub hl [1, 2, 3, 4, 5, 0] rfl⟩
        · have hcc_33 := c_33
          have hsp := hsp.trans (if_pos c_33)
          refine lv_goto (tgt := 118) hx hb eX7_forget_51 (by decide) ?_
          exact j_29 _ _ _ _ ⟨g_16, rfl, hsp.symm, hP, hD, hS, lv_sub hl [1, 2, 3, 4, 5, 0] rfl⟩
theorem eX7_holdsAll_0 : decode cX7_holdsAll 0 = .ok (.iconst 0, 1) := by decide +kernel
theorem eX7_holdsAll_1 : decode cX7_holdsAll 1 = .ok (.istore_n 2, 1) := by decide +kernel
theorem eX7_holdsAll_2 : decode cX7_holdsAll 2 = .ok (.iload_n 2, 1) := by decide +kernel
theorem eX7_holdsAll_3 : decode cX7_holdsAll 3 = .ok (.aload_n 0, 1) := by decide +kernel
theorem eX7_holdsAll_4 : decode cX7_holdsAll 4 = .ok (.getfield 18, 3) := by decide +kernel
theorem eX7_holdsAll_7 : decode cX7_holdsAll 7 = .ok (.aload_n 0, 1) := by decide +kernel
theorem eX7_holdsAll_8 : decode cX7_holdsAll 8 = .ok (.getfield 18, 3) := by decide +kernel
theorem eX7_holdsAll_11 : decode cX7_holdsAll 11 = .ok (.imul, 1) := by decide +kernel
theorem eX7_holdsAll_12 : decode cX7_holdsAll 12 = .ok (.if_icmp .ge 26, 3) := by decide +kernel
theorem eX7_holdsAll_15 : decode cX7_holdsAll 15 = .ok (.aload_n 1, 1) := by decide +kernel
theorem eX7_holdsAll_16 : decode cX7_holdsAll 16 = .ok (.getfield 11, 3) := by decide +kernel
theorem eX7_holdsAll_19 : decode cX7_holdsAll 19 = .ok (.iload_n 2, 1) := by decide +kernel
theorem eX7_holdsAll_20 : decode cX7_holdsAll 20 = .ok (.iaload, 1) := by decide +kernel
theorem eX7_holdsAll_21 : decode cX7_holdsAll 21 = .ok (.aload_n 0, 1) := by decide +kernel
theorem eX7_holdsAll_22 : decode cX7_holdsAll 22 = .ok (.getfield 11, 3) := by decide +kernel
theorem eX7_holdsAll_25 : decode cX7_holdsAll 25 = .ok (.iload_n 2, 1) := by decide +kernel
theorem eX7_holdsAll_26 : decode cX7_holdsAll 26 = .ok (.iaload, 1) := by decide +kernel
theorem eX7_holdsAll_27 : decode cX7_holdsAll 27 = .ok (.if_icmp .le 5, 3) := by decide +kernel
theorem eX7_holdsAll_30 : decode cX7_holdsAll 30 = .ok (.iconst 0, 1) := by decide +kernel
theorem eX7_holdsAll_31 : decode cX7_holdsAll 31 = .ok (.ireturn, 1) := by decide +kernel
theorem eX7_holdsAll_32 : decode cX7_holdsAll 32 = .ok (.iinc 2 1, 3) := by decide +kernel
theorem eX7_holdsAll_35 : decode cX7_holdsAll 35 = .ok (.goto (-33), 3) := by decide +kernel
theorem eX7_holdsAll_38 : decode cX7_holdsAll 38 = .ok (.iconst 1, 1) := by decide +kernel
theorem eX7_holdsAll_39 : decode cX7_holdsAll 39 = .ok (.ireturn, 1) := by decide +kernel
abbrev vs_E_7_holdsAll_16 : List Cond := .code yX7_holdsAll cX7_holdsAll 3 (some .boolean) :: CM
noncomputable def sp_E_7_holdsAll_16_L1 (fo : Nat → Int32) (zn : Nat) (fz : Nat → Int32) : (Nat) → (Nat) ⊕ (Nat) := fun g_2 => (if (zn * zn) ≤ g_2 then (Sum.inr 1) else (slet (fo g_2) (fun y_11 => (slet (fz g_2) (fun y_12 => (if (y_11 : Int32) ≤ y_12 then (Sum.inl (g_2 + 1)) else (Sum.inr 0)))))))
noncomputable def sp_E_7_holdsAll_16 (fo : Nat → Int32) (zn : Nat) (fz : Nat → Int32) : Nat := (itrv (α := Nat) (β := (Nat)) default (sp_E_7_holdsAll_16_L1 fo zn fz) 0)
set_option maxHeartbeats 4000000 in
set_option maxRecDepth 100000 in
theorem c_E_7_holdsAll_16 (l : Launch) (dC : Nat → ClassId) (dI : Nat → Nat → Nat) (sz : Nat) (zo : Nat) (zd : Nat) (zm : Nat) (k_fo : ClassId) (fo : Nat → Int32) (z : Nat) (zc : Nat) (zn : Nat) (k_fz : ClassId) (fz : Nat → Int32) (hzm : zm ≤ 4) (hzn : zn ≤ 4) : Met l yX7_holdsAll vs_E_7_holdsAll_16 ({ frames := 0, cells := 0, slots := 0, locals := 0 }) (va_Pc [.ref z, .ref zo] (pu_B (dC, dI) (zz16__w zo zd (nI zm) k_fo fo z zc (nI zn) k_fz fz) (zz16__t k_fo k_fz) sz)) (va_Qi (fun (r : Int32) (_ : Unit) => ∃ v : Nat, v ≤ 1 ∧ r = nI v ∧ v = (sp_E_7_holdsAll_16 fo zn fz)) (fun _ _ => True) (va_A [] sz)) 0 0 (va_A [] sz) := by
  refine Met.ofW (cc := cX7_holdsAll) (maxL := 3) (ret := (some .boolean)) (by decide) rfl ?_
  intro p e s m args below meth c s₁ B hml hv
  obtain ⟨rfl, rfl, hP, hK, hD0⟩ := hv
  have hx := B.exec
  have hb := B.bytes
  have hr := B.returns
  have hts := atoms_spec (ws := vs_E_7_holdsAll_16) B.pre
  have v_1 := hts (.fieldLink RX7 18 "ClockReach$Zone" "size" "I") (List.mem_cons_of_mem _ cm_48)
  have v_2 := hts (.fieldLink RX7 11 "ClockReach$Zone" "cells" "[I") (List.mem_cons_of_mem _ cm_47)
  have hown : s.vm.findClass RX7 = some m.cls := findClass_of_methodNamed B.named
  have hlocks := B.notSynchronized
  have hiX7 : ∀ w ∈ wsX70, w ∈ vs_E_7_holdsAll_16 := fun _ h => List.mem_cons_of_mem _ (cm_X7 h)
  have hD := hD0
  have hA : ∀ q : Nat, s.heap.size ≤ q → va_A [] s.heap.size q := fun _ h => Or.inr h
  have hS : va_S (va_A [] s.heap.size) s.heap s.heap [] := va_S.rf
  have hl := lv_entry ([.ref z, .ref zo]) (n := 3) (Nat.le_of_ble_eq_true rfl)
  rw [lg_entry_eq]
  generalize (lg_sl ([.ref z, .ref zo]) ++ List.replicate (3 - (lg_sl ([.ref z, .ref zo])).length) Slot.unset).toArray = ls at hl ⊢
  have hl : lv_has ls 3 [(0, .ref z), (1, .ref zo)] := hl
  have hzz := zz4 hzn
  obtain ⟨RR, hRR⟩ : ∃ x, x = (sp_E_7_holdsAll_16 fo zn fz) := ⟨_, rfl⟩
  have hsp := hRR
  refine lv_iconst (v := 0) hx hb eX7_holdsAll_0 (by decide) ?_
  refine lv_istore_n (lv' := [(2, .int 0), (0, .ref z), (1, .ref zo)]) hx hb eX7_holdsAll_1 rfl hl (by decide) rfl (fun ls hl => ?_)
  obtain ⟨lf_4, dlf_4, hlf_4, hsp⟩ := itr_ex hsp
  delta sp_E_7_holdsAll_16_L1 at hlf_4
  refine pu_while (fun nn H locs ls => ∃ (g_2 : Nat), nn = 16 - g_2 ∧ g_2 ≤ 16 ∧ RR = itrv dlf_4 lf_4 g_2 ∧ va_P (dC, dI) vwCl (zz16__w zo zd (nI zm) k_fo fo z zc (nI zn) k_fz fz) H ∧ va_D (fun _ => True) (zz16__w zo zd (nI zm) k_fo fo z zc (nI zn) k_fz fz) ∧ va_S (va_A [] s.heap.size) s.heap H locs ∧ lv_has ls 3 [(0, .ref z), (1, .ref zo), (2, .int (nI g_2))]) 2 ?_ _ _ _ _ ⟨0, rfl, (Nat.le_of_ble_eq_true rfl), hsp, hP, hD, hS, lv_sub hl [1, 2, 0] rfl⟩
  rintro nn ih_3 H locs ls ⟨g_2, rfl, hg_2, he_6, hP, hD, hS, hl⟩
  obtain ⟨S_5, hsp, hin_7, hout_8⟩ := itr_step hlf_4 he_6
  refine lv_iload_n hx hb eX7_holdsAll_2 rfl (lv_at hl 2 rfl) ?_
  refine lv_aload_n hx hb eX7_holdsAll_3 rfl (lv_at hl 0 rfl) ?_
  refine va_get (D := (dC, dI)) (ci := 7) (v := .int (nI zn)) (C := RX7) (T := TX7) (N := 2) hx hb hts hiX7 hown hK hP 2 rfl rfl 1 (by decide) v_1 (fun _ h9 => h9) rfl eX7_holdsAll_4 ?_
  refine lv_aload_n hx hb eX7_holdsAll_7 rfl (lv_at hl 0 rfl) ?_
  refine va_get (D := (dC, dI)) (ci := 7) (v := .int (nI zn)) (C := RX7) (T := TX7) (N := 2) hx hb hts hiX7 hown hK hP 2 rfl rfl 1 (by decide) v_1 (fun _ h9 => h9) rfl eX7_holdsAll_8 ?_
  refine lv_imul hx hb eX7_holdsAll_11 ?_
  refine lv_topi (fun y_9 ey_9 => ?_)
  obtain rfl : y_9 = (nI (zn * zn)) := ey_9.trans (pk_mul zn zn)
  refine lv_icmp_ge (tgt := 38) hx hb eX7_holdsAll_12 (by decide) (fun c_10 => ?_) (fun c_10 => ?_)
  · have c_10 : (zn * zn) ≤ g_2 := (nI_leI (a := (zn * zn)) (b := g_2) (by first | omega | exact Nat.lt_trans (zx16 (by omega) (by omega) (by omega)) (Nat.le_of_ble_eq_true rfl) | exact Nat.lt_trans (zy16 (by omega) (by omega)) (Nat.le_of_ble_eq_true rfl) | exact Nat.lt_trans (zx25 (by omega) (by omega) (by omega)) (Nat.le_of_ble_eq_true rfl) | exact Nat.lt_trans (zy25 (by omega) (by omega)) (Nat.le_of_ble_eq_true rfl)) (Nat.lt_of_le_of_lt hg_2 (Nat.le_of_ble_eq_true rfl))).mp c_10
    have hsp := hsp.trans (if_pos c_10)
    have hsp := hout_8 _ hsp
    refine lv_iconst (v := 1) hx hb eX7_holdsAll_38 (by decide) ?_
    exact W.zret (v := 1) (ty := .boolean) hx hb hr (rfl) (fun t ht hW => ⟨⟨1, (), rfl, ⟨1, (Nat.le_of_ble_eq_true rfl), rfl, (hsp.symm.trans hRR)⟩, trivial⟩, hS.F ht⟩) hS.2.2 eX7_holdsAll_39
  · have c_10 : ¬ (zn * zn) ≤ g_2 := fun z => c_10 ((nI_leI (a := (zn * zn)) (b := g_2) (by first | omega | exact Nat.lt_trans (zx16 (by omega) (by omega) (by omega)) (Nat.le_of_ble_eq_true rfl) | exact Nat.lt_trans (zy16 (by omega) (by omega)) (Nat.le_of_ble_eq_true rfl) | exact Nat.lt_trans (zx25 (by omega) (by omega) (by omega)) (Nat.le_of_ble_eq_true rfl) | exact Nat.lt_trans (zy25 (by omega) (by omega)) (Nat.le_of_ble_eq_true rfl)) (Nat.lt_of_le_of_lt hg_2 (Nat.le_of_ble_eq_true rfl))).mpr z)
    have hsp := hsp.trans (if_neg c_10)
    refine lv_aload_n hx hb eX7_holdsAll_15 rfl (lv_at hl 1 rfl) ?_
    refine va_get (D := (dC, dI)) (ci := 7) (v := .ref zd) (C := RX7) (T := TX7) (N := 2) hx hb hts hiX7 hown hK hP 0 rfl rfl 0 (by decide) v_2 (fun _ h9 => h9) rfl eX7_holdsAll_16 ?_
    refine lv_iload_n hx hb eX7_holdsAll_19 rfl (lv_at hl 2 rfl) ?_
    refine va_iald hx hb hK hP 1 0 rfl rfl (vp_in_nI (n := g_2) (by omega) (Nat.le_of_ble_eq_true rfl)) eX7_holdsAll_20 ?_
    refine lv_topi (fun y_11 ey_11 => ?_)
    have ey_11 : y_11 = fo g_2 := ey_11.trans (congrArg fo (nI_clamp (n := g_2) (Nat.lt_of_le_of_lt hg_2 (Nat.le_of_ble_eq_true rfl))))
    have hsp := hsp.trans (slet_eq ey_11)
    refine lv_aload_n hx hb eX7_holdsAll_21 rfl (lv_at hl 0 rfl) ?_
    refine va_get (D := (dC, dI)) (ci := 7) (v := .ref zc) (C := RX7) (T := TX7) (N := 2) hx hb hts hiX7 hown hK hP 2 rfl rfl 0 (by decide) v_2 (fun _ h9 => h9) rfl eX7_holdsAll_22 ?_
    refine lv_iload_n hx hb eX7_holdsAll_25 rfl (lv_at hl 2 rfl) ?_
    refine va_iald hx hb hK hP 3 1 rfl rfl (vp_in_nI (n := g_2) (by omega) (Nat.le_of_ble_eq_true rfl)) eX7_holdsAll_26 ?_
    refine lv_topi (fun y_12 ey_12 => ?_)
    have ey_12 : y_12 = fz g_2 := ey_12.trans (congrArg fz (nI_clamp (n := g_2) (Nat.lt_of_le_of_lt hg_2 (Nat.le_of_ble_eq_true rfl))))
    have hsp := hsp.trans (slet_eq ey_12)
    refine lv_icmp_le (tgt := 32) hx hb eX7_holdsAll_27 (by decide) (fun c_13 => ?_) (fun c_13 => ?_)
    · have hcc_13 := c_13
      have hsp := hsp.trans (if_pos c_13)
      refine lv_iinc (v := (nI (g_2 + 1))) (lv' := [(2, .int (nI (g_2 + 1))), (0, .ref z), (1, .ref zo)]) hx hb eX7_holdsAll_32 hl (k := 2) rfl (nI_1 _) (by decide) rfl (fun ls hl => ?_)
      refine lv_goto (tgt := 2) hx hb eX7_holdsAll_35 (by decide) ?_
      exact ih_3 (16 - (g_2 + 1)) (by omega) _ _ _ ⟨(g_2 + 1), rfl, (by omega), hin_7 _ hsp, hP, hD, hS, lv_sub hl [1, 2, 0] rfl⟩
    · have hcc_13 := c_13
      have hsp := hsp.trans (if_neg c_13)
      have hsp := hout_8 _ hsp
      refine lv_iconst (v := 0) hx hb eX7_holdsAll_30 (by decide) ?_
      exact W.zret (v := 0) (ty := .boolean) hx hb hr (rfl) (fun t ht hW => ⟨⟨0, (), rfl, ⟨0, (Nat.le_of_ble_eq_true rfl), rfl, (hsp.symm.trans hRR)⟩, trivial⟩, hS.F ht⟩) hS.2.2 eX7_holdsAll_31
abbrev vs_E_7_holdsAll_s_16 : List Cond := .code yX7_holdsAll cX7_holdsAll 3 (some .boolean) :: CM
noncomputable def sp_E_7_holdsAll_s_16_L1 (zn : Nat) (fz : Nat → Int32) : (Nat) → (Nat) ⊕ (Nat) := fun g_2 => (if (zn * zn) ≤ g_2 then (Sum.inr 1) else (slet (fz g_2) (fun y_11 => (slet (fz g_2) (fun y_12 => (if (y_11 : Int32) ≤ y_12 then (Sum.inl (g_2 + 1)) else (Sum.inr 0)))))))
noncomputable def sp_E_7_holdsAll_s_16 (zn : Nat) (fz : Nat → Int32) : Nat := (itrv (α := Nat) (β := (Nat)) default (sp_E_7_holdsAll_s_16_L1 zn fz) 0)
set_option maxHeartbeats 4000000 in
set_option maxRecDepth 100000 in
theorem c_E_7_holdsAll_s_16 (l : Launch) (dC : Nat → ClassId) (dI : Nat → Nat → Nat) (sz : Nat) (z : Nat) (zc : Nat) (zn : Nat) (k_fz : ClassId) (fz : Nat → Int32) (hzn : zn ≤ 4) : Met l yX7_holdsAll vs_E_7_holdsAll_s_16 ({ frames := 0, cells := 0, slots := 0, locals := 0 }) (va_Pc [.ref z, .ref z] (pu_B (dC, dI) (z16__w z zc (nI zn) k_fz fz) (z16__t k_fz) sz)) (va_Qi (fun (r : Int32) (_ : Unit) => ∃ v : Nat, v ≤ 1 ∧ r = nI v ∧ v = (sp_E_7_holdsAll_s_16 zn fz)) (fun _ _ => True) (va_A [] sz)) 0 0 (va_A [] sz) := by
  refine Met.ofW (cc := cX7_holdsAll) (maxL := 3) (ret := (some .boolean)) (by decide) rfl ?_
  intro p e s m args below meth c s₁ B hml hv
  obtain ⟨rfl, rfl, hP, hK, hD0⟩ := hv
  have hx := B.exec
  have hb := B.bytes
  have hr := B.returns
  have hts := atoms_spec (ws := vs_E_7_holdsAll_s_16) B.pre
  have v_1 := hts (.fieldLink RX7 18 "ClockReach$Zone" "size" "I") (List.mem_cons_of_mem _ cm_48)
  have v_2 := hts (.fieldLink RX7 11 "ClockReach$Zone" "cells" "[I") (List.mem_cons_of_mem _ cm_47)
  have hown : s.vm.findClass RX7 = some m.cls := findClass_of_methodNamed B.named
  have hlocks := B.notSynchronized
  have hiX7 : ∀ w ∈ wsX70, w ∈ vs_E_7_holdsAll_s_16 := fun _ h => List.mem_cons_of_mem _ (cm_X7 h)
  have hD := hD0
  have hA : ∀ q : Nat, s.heap.size ≤ q → va_A [] s.heap.size q := fun _ h => Or.inr h
  have hS : va_S (va_A [] s.heap.size) s.heap s.heap [] := va_S.rf
  have hl := lv_entry ([.ref z, .ref z]) (n := 3) (Nat.le_of_ble_eq_true rfl)
  rw [lg_entry_eq]
  generalize (lg_sl ([.ref z, .ref z]) ++ List.replicate (3 - (lg_sl ([.ref z, .ref z])).length) Slot.unset).toArray = ls at hl ⊢
  have hl : lv_has ls 3 [(0, .ref z), (1, .ref z)] := hl
  have hzz := zz4 hzn
  obtain ⟨RR, hRR⟩ : ∃ x, x = (sp_E_7_holdsAll_s_16 zn fz) := ⟨_, rfl⟩
  have hsp := hRR
  refine lv_iconst (v := 0) hx hb eX7_holdsAll_0 (by decide) ?_
  refine lv_istore_n (lv' := [(2, .int 0), (0, .ref z), (1, .ref z)]) hx hb eX7_holdsAll_1 rfl hl (by decide) rfl (fun ls hl => ?_)
  obtain ⟨lf_4, dlf_4, hlf_4, hsp⟩ := itr_ex hsp
  delta sp_E_7_holdsAll_s_16_L1 at hlf_4
  refine pu_while (fun nn H locs ls => ∃ (g_2 : Nat), nn = 16 - g_2 ∧ g_2 ≤ 16 ∧ RR = itrv dlf_4 lf_4 g_2 ∧ va_P (dC, dI) vwCl (z16__w z zc (nI zn) k_fz fz) H ∧ va_D (fun _ => True) (z16__w z zc (nI zn) k_fz fz) ∧ va_S (va_A [] s.heap.size) s.heap H locs ∧ lv_has ls 3 [(0, .ref z), (1, .ref z), (2, .int (nI g_2))]) 2 ?_ _ _ _ _ ⟨0, rfl, (Nat.le_of_ble_eq_true rfl), hsp, hP, hD, hS, lv_sub hl [1, 2, 0] rfl⟩
  rintro nn ih_3 H locs ls ⟨g_2, rfl, hg_2, he_6, hP, hD, hS, hl⟩
  obtain ⟨S_5, hsp, hin_7, hout_8⟩ := itr_step hlf_4 he_6
  refine lv_iload_n hx hb eX7_holdsAll_2 rfl (lv_at hl 2 rfl) ?_
  refine lv_aload_n hx hb eX7_holdsAll_3 rfl (lv_at hl 0 rfl) ?_
  refine va_get (D := (dC, dI)) (ci := 7) (v := .int (nI zn)) (C := RX7) (T := TX7) (N := 2) hx hb hts hiX7 hown hK hP 0 rfl rfl 1 (by decide) v_1 (fun _ h9 => h9) rfl eX7_holdsAll_4 ?_
  refine lv_aload_n hx hb eX7_holdsAll_7 rfl (lv_at hl 0 rfl) ?_
  refine va_get (D := (dC, dI)) (ci := 7) (v := .int (nI zn)) (C := RX7) (T := TX7) (N := 2) hx hb hts hiX7 hown hK hP 0 rfl rfl 1 (by decide) v_1 (fun _ h9 => h9) rfl eX7_holdsAll_8 ?_
  refine lv_imul hx hb eX7_holdsAll_11 ?_
  refine lv_topi (fun y_9 ey_9 => ?_)
  obtain rfl : y_9 = (nI (zn * zn)) := ey_9.trans (pk_mul zn zn)
  refine lv_icmp_ge (tgt := 38) hx hb eX7_holdsAll_12 (by decide) (fun c_10 => ?_) (fun c_10 => ?_)
  · have c_10 : (zn * zn) ≤ g_2 := (nI_leI (a := (zn * zn)) (b := g_2) (by first | omega | exact Nat.lt_trans (zx16 (by omega) (by omega) (by omega)) (Nat.le_of_ble_eq_true rfl) | exact Nat.lt_trans (zy16 (by omega) (by omega)) (Nat.le_of_ble_eq_true rfl) | exact Nat.lt_trans (zx25 (by omega) (by omega) (by omega)) (Nat.le_of_ble_eq_true rfl) | exact Nat.lt_trans (zy25 (by omega) (by omega)) (Nat.le_of_ble_eq_true rfl)) (Nat.lt_of_le_of_lt hg_2 (Nat.le_of_ble_eq_true rfl))).mp c_10
    have hsp := hsp.trans (if_pos c_10)
    have hsp := hout_8 _ hsp
    refine lv_iconst (v := 1) hx hb eX7_holdsAll_38 (by decide) ?_
    exact W.zret (v := 1) (ty := .boolean) hx hb hr (rfl) (fun t ht hW => ⟨⟨1, (), rfl, ⟨1, (Nat.le_of_ble_eq_true rfl), rfl, (hsp.symm.trans hRR)⟩, trivial⟩, hS.F ht⟩) hS.2.2 eX7_holdsAll_39
  · have c_10 : ¬ (zn * zn) ≤ g_2 := fun z => c_10 ((nI_leI (a := (zn * zn)) (b := g_2) (by first | omega | exact Nat.lt_trans (zx16 (by omega) (by omega) (by omega)) (Nat.le_of_ble_eq_true rfl) | exact Nat.lt_trans (zy16 (by omega) (by omega)) (Nat.le_of_ble_eq_true rfl) | exact Nat.lt_trans (zx25 (by omega) (by omega) (by omega)) (Nat.le_of_ble_eq_true rfl) | exact Nat.lt_trans (zy25 (by omega) (by omega)) (Nat.le_of_ble_eq_true rfl)) (Nat.lt_of_le_of_lt hg_2 (Nat.le_of_ble_eq_true rfl))).mpr z)
    have hsp := hsp.trans (if_neg c_10)
    refine lv_aload_n hx hb eX7_holdsAll_15 rfl (lv_at hl 1 rfl) ?_
    refine va_get (D := (dC, dI)) (ci := 7) (v := .ref zc) (C := RX7) (T := TX7) (N := 2) hx hb hts hiX7 hown hK hP 0 rfl rfl 0 (by decide) v_2 (fun _ h9 => h9) rfl eX7_holdsAll_16 ?_
    refine lv_iload_n hx hb eX7_holdsAll_19 rfl (lv_at hl 2 rfl) ?_
    refine va_iald hx hb hK hP 1 0 rfl rfl (vp_in_nI (n := g_2) (by omega) (Nat.le_of_ble_eq_true rfl)) eX7_holdsAll_20 ?_
    refine lv_topi (fun y_11 ey_11 => ?_)
    have ey_11 : y_11 = fz g_2 := ey_11.trans (congrArg fz (nI_clamp (n := g_2) (Nat.lt_of_le_of_lt hg_2 (Nat.le_of_ble_eq_true rfl))))
    have hsp := hsp.trans (slet_eq ey_11)
    refine lv_aload_n hx hb eX7_holdsAll_21 rfl (lv_at hl 0 rfl) ?_
    refine va_get (D := (dC, dI)) (ci := 7) (v := .ref zc) (C := RX7) (T := TX7) (N := 2) hx hb hts hiX7 hown hK hP 0 rfl rfl 0 (by decide) v_2 (fun _ h9 => h9) rfl eX7_holdsAll_22 ?_
    refine lv_iload_n hx hb eX7_holdsAll_25 rfl (lv_at hl 2 rfl) ?_
    refine va_iald hx hb hK hP 1 0 rfl rfl (vp_in_nI (n := g_2) (by omega) (Nat.le_of_ble_eq_true rfl)) eX7_holdsAll_26 ?_
    refine lv_topi (fun y_12 ey_12 => ?_)
    have ey_12 : y_12 = fz g_2 := ey_12.trans (congrArg fz (nI_clamp (n := g_2) (Nat.lt_of_le_of_lt hg_2 (Nat.le_of_ble_eq_true rfl))))
    have hsp := hsp.trans (slet_eq ey_12)
    refine lv_icmp_le (tgt := 32) hx hb eX7_holdsAll_27 (by decide) (fun c_13 => ?_) (fun c_13 => ?_)
    · have hcc_13 := c_13
      have hsp := hsp.trans (if_pos c_13)
      refine lv_iinc (v := (nI (g_2 + 1))) (lv' := [(2, .int (nI (g_2 + 1))), (0, .ref z), (1, .ref z)]) hx hb eX7_holdsAll_32 hl (k := 2) rfl (nI_1 _) (by decide) rfl (fun ls hl => ?_)
      refine lv_goto (tgt := 2) hx hb eX7_holdsAll_35 (by decide) ?_
      exact ih_3 (16 - (g_2 + 1)) (by omega) _ _ _ ⟨(g_2 + 1), rfl, (by omega), hin_7 _ hsp, hP, hD, hS, lv_sub hl [1, 2, 0] rfl⟩
    · have hcc_13 := c_13
      have hsp := hsp.trans (if_neg c_13)
      have hsp := hout_8 _ hsp
      refine lv_iconst (v := 0) hx hb eX7_holdsAll_30 (by decide) ?_
      exact W.zret (v := 0) (ty := .boolean) hx hb hr (rfl) (fun t ht hW => ⟨⟨0, (), rfl, ⟨0, (Nat.le_of_ble_eq_true rfl), rfl, (hsp.symm.trans hRR)⟩, trivial⟩, hS.F ht⟩) hS.2.2 eX7_holdsAll_31
theorem eX7_equalTo_0 : decode cX7_equalTo 0 = .ok (.iconst 0, 1) := by decide +kernel
theorem eX7_equalTo_1 : decode cX7_equalTo 1 = .ok (.istore_n 2, 1) := by decide +kernel
theorem eX7_equalTo_2 : decode cX7_equalTo 2 = .ok (.iload_n 2, 1) := by decide +kernel
theorem eX7_equalTo_3 : decode cX7_equalTo 3 = .ok (.aload_n 0, 1) := by decide +kernel
theorem eX7_equalTo_4 : decode cX7_equalTo 4 = .ok (.getfield 18, 3) := by decide +kernel
theorem eX7_equalTo_7 : decode cX7_equalTo 7 = .ok (.aload_n 0, 1) := by decide +kernel
theorem eX7_equalTo_8 : decode cX7_equalTo 8 = .ok (.getfield 18, 3) := by decide +kernel
theorem eX7_equalTo_11 : decode cX7_equalTo 11 = .ok (.imul, 1) := by decide +kernel
theorem eX7_equalTo_12 : decode cX7_equalTo 12 = .ok (.if_icmp .ge 26, 3) := by decide +kernel
theorem eX7_equalTo_15 : decode cX7_equalTo 15 = .ok (.aload_n 1, 1) := by decide +kernel
theorem eX7_equalTo_16 : decode cX7_equalTo 16 = .ok (.getfield 11, 3) := by decide +kernel
theorem eX7_equalTo_19 : decode cX7_equalTo 19 = .ok (.iload_n 2, 1) := by decide +kernel
theorem eX7_equalTo_20 : decode cX7_equalTo 20 = .ok (.iaload, 1) := by decide +kernel
theorem eX7_equalTo_21 : decode cX7_equalTo 21 = .ok (.aload_n 0, 1) := by decide +kernel
theorem eX7_equalTo_22 : decode cX7_equalTo 22 = .ok (.getfield 11, 3) := by decide +kernel
theorem eX7_equalTo_25 : decode cX7_equalTo 25 = .ok (.iload_n 2, 1) := by decide +kernel
theorem eX7_equalTo_26 : decode cX7_equalTo 26 = .ok (.iaload, 1) := by decide +kernel
theorem eX7_equalTo_27 : decode cX7_equalTo 27 = .ok (.if_icmp .eq 5, 3) := by decide +kernel
theorem eX7_equalTo_30 : decode cX7_equalTo 30 = .ok (.iconst 0, 1) := by decide +kernel
theorem eX7_equalTo_31 : decode cX7_equalTo 31 = .ok (.ireturn, 1) := by decide +kernel
theorem eX7_equalTo_32 : decode cX7_equalTo 32 = .ok (.iinc 2 1, 3) := by decide +kernel
theorem eX7_equalTo_35 : decode cX7_equalTo 35 = .ok (.goto (-33), 3) := by decide +kernel
theorem eX7_equalTo_38 : decode cX7_equalTo 38 = .ok (.iconst 1, 1) := by decide +kernel
theorem eX7_equalTo_39 : decode cX7_equalTo 39 = .ok (.ireturn, 1) := by decide +kernel
abbrev vs_E_7_equalTo_16 : List Cond := .code yX7_equalTo cX7_equalTo 3 (some .boolean) :: CM
noncomputable def sp_E_7_equalTo_16_L1 (fo : Nat → Int32) (zn : Nat) (fz : Nat → Int32) : (Nat) → (Nat) ⊕ (Nat) := fun g_2 => (if (zn * zn) ≤ g_2 then (Sum.inr 1) else (slet (fo g_2) (fun y_11 => (slet (fz g_2) (fun y_12 => (if (y_11 : Int32) = y_12 then (Sum.inl (g_2 + 1)) else (Sum.inr 0)))))))
noncomputable def sp_E_7_equalTo_16 (fo : Nat → Int32) (zn : Nat) (fz : Nat → Int32) : Nat := (itrv (α := Nat) (β := (Nat)) default (sp_E_7_equalTo_16_L1 fo zn fz) 0)
set_option maxHeartbeats 4000000 in
set_option maxRecDepth 100000 in
theorem c_E_7_equalTo_16 (l : Launch) (dC : Nat → ClassId) (dI : Nat → Nat → Nat) (sz : Nat) (zo : Nat) (zd : Nat) (zm : Nat) (k_fo : ClassId) (fo : Nat → Int32) (z : Nat) (zc : Nat) (zn : Nat) (k_fz : ClassId) (fz : Nat → Int32) (hzm : zm ≤ 4) (hzn : zn ≤ 4) : Met l yX7_equalTo vs_E_7_equalTo_16 ({ frames := 0, cells := 0, slots := 0, locals := 0 }) (va_Pc [.ref z, .ref zo] (pu_B (dC, dI) (zz16__w zo zd (nI zm) k_fo fo z zc (nI zn) k_fz fz) (zz16__t k_fo k_fz) sz)) (va_Qi (fun (r : Int32) (_ : Unit) => ∃ v : Nat, v ≤ 1 ∧ r = nI v ∧ v = (sp_E_7_equalTo_16 fo zn fz)) (fun _ _ => True) (va_A [] sz)) 0 0 (va_A [] sz) := by
  refine Met.ofW (cc := cX7_equalTo) (maxL := 3) (ret := (some .boolean)) (by decide) rfl ?_
  intro p e s m args below meth c s₁ B hml hv
  obtain ⟨rfl, rfl, hP, hK, hD0⟩ := hv
  have hx := B.exec
  have hb := B.bytes
  have hr := B.returns
  have hts := atoms_spec (ws := vs_E_7_equalTo_16) B.pre
  have v_1 := hts (.fieldLink RX7 18 "ClockReach$Zone" "size" "I") (List.mem_cons_of_mem _ cm_48)
  have v_2 := hts (.fieldLink RX7 11 "ClockReach$Zone" "cells" "[I") (List.mem_cons_of_mem _ cm_47)
  have hown : s.vm.findClass RX7 = some m.cls := findClass_of_methodNamed B.named
  have hlocks := B.notSynchronized
  have hiX7 : ∀ w ∈ wsX70, w ∈ vs_E_7_equalTo_16 := fun _ h => List.mem_cons_of_mem _ (cm_X7 h)
  have hD := hD0
  have hA : ∀ q : Nat, s.heap.size ≤ q → va_A [] s.heap.size q := fun _ h => Or.inr h
  have hS : va_S (va_A [] s.heap.size) s.heap s.heap [] := va_S.rf
  have hl := lv_entry ([.ref z, .ref zo]) (n := 3) (Nat.le_of_ble_eq_true rfl)
  rw [lg_entry_eq]
  generalize (lg_sl ([.ref z, .ref zo]) ++ List.replicate (3 - (lg_sl ([.ref z, .ref zo])).length) Slot.unset).toArray = ls at hl ⊢
  have hl : lv_has ls 3 [(0, .ref z), (1, .ref zo)] := hl
  have hzz := zz4 hzn
  obtain ⟨RR, hRR⟩ : ∃ x, x = (sp_E_7_equalTo_16 fo zn fz) := ⟨_, rfl⟩
  have hsp := hRR
  refine lv_iconst (v := 0) hx hb eX7_equalTo_0 (by decide) ?_
  refine lv_istore_n (lv' := [(2, .int 0), (0, .ref z), (1, .ref zo)]) hx hb eX7_equalTo_1 rfl hl (by decide) rfl (fun ls hl => ?_)
  obtain ⟨lf_4, dlf_4, hlf_4, hsp⟩ := itr_ex hsp
  delta sp_E_7_equalTo_16_L1 at hlf_4
  refine pu_while (fun nn H locs ls => ∃ (g_2 : Nat), nn = 16 - g_2 ∧ g_2 ≤ 16 ∧ RR = itrv dlf_4 lf_4 g_2 ∧ va_P (dC, dI) vwCl (zz16__w zo zd (nI zm) k_fo fo z zc (nI zn) k_fz fz) H ∧ va_D (fun _ => True) (zz16__w zo zd (nI zm) k_fo fo z zc (nI zn) k_fz fz) ∧ va_S (va_A [] s.heap.size) s.heap H locs ∧ lv_has ls 3 [(0, .ref z), (1, .ref zo), (2, .int (nI g_2))]) 2 ?_ _ _ _ _ ⟨0, rfl, (Nat.le_of_ble_eq_true rfl), hsp, hP, hD, hS, lv_sub hl [1, 2, 0] rfl⟩
  rintro nn ih_3 H locs ls ⟨g_2, rfl, hg_2, he_6, hP, hD, hS, hl⟩
  obtain ⟨S_5, hsp, hin_7, hout_8⟩ := itr_step hlf_4 he_6
  refine lv_iload_n hx hb eX7_equalTo_2 rfl (lv_at hl 2 rfl) ?_
  refine lv_aload_n hx hb eX7_equalTo_3 rfl (lv_at hl 0 rfl) ?_
  refine va_get (D := (dC, dI)) (ci := 7) (v := .int (nI zn)) (C := RX7) (T := TX7) (N := 2) hx hb hts hiX7 hown hK hP 2 rfl rfl 1 (by decide) v_1 (fun _ h9 => h9) rfl eX7_equalTo_4 ?_
  refine lv_aload_n hx hb eX7_equalTo_7 rfl (lv_at hl 0 rfl) ?_
  refine va_get (D := (dC, dI)) (ci := 7) (v := .int (nI zn)) (C := RX7) (T := TX7) (N := 2) hx hb hts hiX7 hown hK hP 2 rfl rfl 1 (by decide) v_1 (fun _ h9 => h9) rfl eX7_equalTo_8 ?_
  refine lv_imul hx hb eX7_equalTo_11 ?_
  refine lv_topi (fun y_9 ey_9 => ?_)
  obtain rfl : y_9 = (nI (zn * zn)) := ey_9.trans (pk_mul zn zn)
  refine lv_icmp_ge (tgt := 38) hx hb eX7_equalTo_12 (by decide) (fun c_10 => ?_) (fun c_10 => ?_)
  · have c_10 : (zn * zn) ≤ g_2 := (nI_leI (a := (zn * zn)) (b := g_2) (by first | omega | exact Nat.lt_trans (zx16 (by omega) (by omega) (by omega)) (Nat.le_of_ble_eq_true rfl) | exact Nat.lt_trans (zy16 (by omega) (by omega)) (Nat.le_of_ble_eq_true rfl) | exact Nat.lt_trans (zx25 (by omega) (by omega) (by omega)) (Nat.le_of_ble_eq_true rfl) | exact Nat.lt_trans (zy25 (by omega) (by omega)) (Nat.le_of_ble_eq_true rfl)) (Nat.lt_of_le_of_lt hg_2 (Nat.le_of_ble_eq_true rfl))).mp c_10
    have hsp := hsp.trans (if_pos c_10)
    have hsp := hout_8 _ hsp
    refine lv_iconst (v := 1) hx hb eX7_equalTo_38 (by decide) ?_
    exact W.zret (v := 1) (ty := .boolean) hx hb hr (rfl) (fun t ht hW => ⟨⟨1, (), rfl, ⟨1, (Nat.le_of_ble_eq_true rfl), rfl, (hsp.symm.trans hRR)⟩, trivial⟩, hS.F ht⟩) hS.2.2 eX7_equalTo_39
  · have c_10 : ¬ (zn * zn) ≤ g_2 := fun z => c_10 ((nI_leI (a := (zn * zn)) (b := g_2) (by first | omega | exact Nat.lt_trans (zx16 (by omega) (by omega) (by omega)) (Nat.le_of_ble_eq_true rfl) | exact Nat.lt_trans (zy16 (by omega) (by omega)) (Nat.le_of_ble_eq_true rfl) | exact Nat.lt_trans (zx25 (by omega) (by omega) (by omega)) (Nat.le_of_ble_eq_true rfl) | exact Nat.lt_trans (zy25 (by omega) (by omega)) (Nat.le_of_ble_eq_true rfl)) (Nat.lt_of_le_of_lt hg_2 (Nat.le_of_ble_eq_true rfl))).mpr z)
    have hsp := hsp.trans (if_neg c_10)
    refine lv_aload_n hx hb eX7_equalTo_15 rfl (lv_at hl 1 rfl) ?_
    refine va_get (D := (dC, dI)) (ci := 7) (v := .ref zd) (C := RX7) (T := TX7) (N := 2) hx hb hts hiX7 hown hK hP 0 rfl rfl 0 (by decide) v_2 (fun _ h9 => h9) rfl eX7_equalTo_16 ?_
    refine lv_iload_n hx hb eX7_equalTo_19 rfl (lv_at hl 2 rfl) ?_
    refine va_iald hx hb hK hP 1 0 rfl rfl (vp_in_nI (n := g_2) (by omega) (Nat.le_of_ble_eq_true rfl)) eX7_equalTo_20 ?_
    refine lv_topi (fun y_11 ey_11 => ?_)
    have ey_11 : y_11 = fo g_2 := ey_11.trans (congrArg fo (nI_clamp (n := g_2) (Nat.lt_of_le_of_lt hg_2 (Nat.le_of_ble_eq_true rfl))))
    have hsp := hsp.trans (slet_eq ey_11)
    refine lv_aload_n hx hb eX7_equalTo_21 rfl (lv_at hl 0 rfl) ?_
    refine va_get (D := (dC, dI)) (ci := 7) (v := .ref zc) (C := RX7) (T := TX7) (N := 2) hx hb hts hiX7 hown hK hP 2 rfl rfl 0 (by decide) v_2 (fun _ h9 => h9) rfl eX7_equalTo_22 ?_
    refine lv_iload_n hx hb eX7_equalTo_25 rfl (lv_at hl 2 rfl) ?_
    refine va_iald hx hb hK hP 3 1 rfl rfl (vp_in_nI (n := g_2) (by omega) (Nat.le_of_ble_eq_true rfl)) eX7_equalTo_26 ?_
    refine lv_topi (fun y_12 ey_12 => ?_)
    have ey_12 : y_12 = fz g_2 := ey_12.trans (congrArg fz (nI_clamp (n := g_2) (Nat.lt_of_le_of_lt hg_2 (Nat.le_of_ble_eq_true rfl))))
    have hsp := hsp.trans (slet_eq ey_12)
    refine lv_icmp_eq (tgt := 32) hx hb eX7_equalTo_27 (by decide) (fun c_13 => ?_) (fun c_13 => ?_)
    · have hcc_13 := c_13
      have hsp := hsp.trans (if_pos c_13)
      refine lv_iinc (v := (nI (g_2 + 1))) (lv' := [(2, .int (nI (g_2 + 1))), (0, .ref z), (1, .ref zo)]) hx hb eX7_equalTo_32 hl (k := 2) rfl (nI_1 _) (by decide) rfl (fun ls hl => ?_)
      refine lv_goto (tgt := 2) hx hb eX7_equalTo_35 (by decide) ?_
      exact ih_3 (16 - (g_2 + 1)) (by omega) _ _ _ ⟨(g_2 + 1), rfl, (by omega), hin_7 _ hsp, hP, hD, hS, lv_sub hl [1, 2, 0] rfl⟩
    · have hcc_13 := c_13
      have hsp := hsp.trans (if_neg c_13)
      have hsp := hout_8 _ hsp
      refine lv_iconst (v := 0) hx hb eX7_equalTo_30 (by decide) ?_
      exact W.zret (v := 0) (ty := .boolean) hx hb hr (rfl) (fun t ht hW => ⟨⟨0, (), rfl, ⟨0, (Nat.le_of_ble_eq_true rfl), rfl, (hsp.symm.trans hRR)⟩, trivial⟩, hS.F ht⟩) hS.2.2 eX7_equalTo_31
abbrev vs_E_7_equalTo_s_16 : List Cond := .code yX7_equalTo cX7_equalTo 3 (some .boolean) :: CM
noncomputable def sp_E_7_equalTo_s_16_L1 (zn : Nat) (fz : Nat → Int32) : (Nat) → (Nat) ⊕ (Nat) := fun g_2 => (if (zn * zn) ≤ g_2 then (Sum.inr 1) else (slet (fz g_2) (fun y_11 => (slet (fz g_2) (fun y_12 => (if (y_11 : Int32) = y_12 then (Sum.inl (g_2 + 1)) else (Sum.inr 0)))))))
noncomputable def sp_E_7_equalTo_s_16 (zn : Nat) (fz : Nat → Int32) : Nat := (itrv (α := Nat) (β := (Nat)) default (sp_E_7_equalTo_s_16_L1 zn fz) 0)
set_option maxHeartbeats 4000000 in
set_option maxRecDepth 100000 in
theorem c_E_7_equalTo_s_16 (l : Launch) (dC : Nat → ClassId) (dI : Nat → Nat → Nat) (sz : Nat) (z : Nat) (zc : Nat) (zn : Nat) (k_fz : ClassId) (fz : Nat → Int32) (hzn : zn ≤ 4) : Met l yX7_equalTo vs_E_7_equalTo_s_16 ({ frames := 0, cells := 0, slots := 0, locals := 0 }) (va_Pc [.ref z, .ref z] (pu_B (dC, dI) (z16__w z zc (nI zn) k_fz fz) (z16__t k_fz) sz)) (va_Qi (fun (r : Int32) (_ : Unit) => ∃ v : Nat, v ≤ 1 ∧ r = nI v ∧ v = (sp_E_7_equalTo_s_16 zn fz)) (fun _ _ => True) (va_A [] sz)) 0 0 (va_A [] sz) := by
  refine Met.ofW (cc := cX7_equalTo) (maxL := 3) (ret := (some .boolean)) (by decide) rfl ?_
  intro p e s m args below meth c s₁ B hml hv
  obtain ⟨rfl, rfl, hP, hK, hD0⟩ := hv
  have hx := B.exec
  have hb := B.bytes
  have hr := B.returns
  have hts := atoms_spec (ws := vs_E_7_equalTo_s_16) B.pre
  have v_1 := hts (.fieldLink RX7 18 "ClockReach$Zone" "size" "I") (List.mem_cons_of_mem _ cm_48)
  have v_2 := hts (.fieldLink RX7 11 "ClockReach$Zone" "cells" "[I") (List.mem_cons_of_mem _ cm_47)
  have hown : s.vm.findClass RX7 = some m.cls := findClass_of_methodNamed B.named
  have hlocks := B.notSynchronized
  have hiX7 : ∀ w ∈ wsX70, w ∈ vs_E_7_equalTo_s_16 := fun _ h => List.mem_cons_of_mem _ (cm_X7 h)
  have hD := hD0
  have hA : ∀ q : Nat, s.heap.size ≤ q → va_A [] s.heap.size q := fun _ h => Or.inr h
  have hS : va_S (va_A [] s.heap.size) s.heap s.heap [] := va_S.rf
  have hl := lv_entry ([.ref z, .ref z]) (n := 3) (Nat.le_of_ble_eq_true rfl)
  rw [lg_entry_eq]
  generalize (lg_sl ([.ref z, .ref z]) ++ List.replicate (3 - (lg_sl ([.ref z, .ref z])).length) Slot.unset).toArray = ls at hl ⊢
  have hl : lv_has ls 3 [(0, .ref z), (1, .ref z)] := hl
  have hzz := zz4 hzn
  obtain ⟨RR, hRR⟩ : ∃ x, x = (sp_E_7_equalTo_s_16 zn fz) := ⟨_, rfl⟩
  have hsp := hRR
  refine lv_iconst (v := 0) hx hb eX7_equalTo_0 (by decide) ?_
  refine lv_istore_n (lv' := [(2, .int 0), (0, .ref z), (1, .ref z)]) hx hb eX7_equalTo_1 rfl hl (by decide) rfl (fun ls hl => ?_)
  obtain ⟨lf_4, dlf_4, hlf_4, hsp⟩ := itr_ex hsp
  delta sp_E_7_equalTo_s_16_L1 at hlf_4
  refine pu_while (fun nn H locs ls => ∃ (g_2 : Nat), nn = 16 - g_2 ∧ g_2 ≤ 16 ∧ RR = itrv dlf_4 lf_4 g_2 ∧ va_P (dC, dI) vwCl (z16__w z zc (nI zn) k_fz fz) H ∧ va_D (fun _ => True) (z16__w z zc (nI zn) k_fz fz) ∧ va_S (va_A [] s.heap.size) s.heap H locs ∧ lv_has ls 3 [(0, .ref z), (1, .ref z), (2, .int (nI g_2))]) 2 ?_ _ _ _ _ ⟨0, rfl, (Nat.le_of_ble_eq_true rfl), hsp, hP, hD, hS, lv_sub hl [1, 2, 0] rfl⟩
  rintro nn ih_3 H locs ls ⟨g_2, rfl, hg_2, he_6, hP, hD, hS, hl⟩
  obtain ⟨S_5, hsp, hin_7, hout_8⟩ := itr_step hlf_4 he_6
  refine lv_iload_n hx hb eX7_equalTo_2 rfl (lv_at hl 2 rfl) ?_
  refine lv_aload_n hx hb eX7_equalTo_3 rfl (lv_at hl 0 rfl) ?_
  refine va_get (D := (dC, dI)) (ci := 7) (v := .int (nI zn)) (C := RX7) (T := TX7) (N := 2) hx hb hts hiX7 hown hK hP 0 rfl rfl 1 (by decide) v_1 (fun _ h9 => h9) rfl eX7_equalTo_4 ?_
  refine lv_aload_n hx hb eX7_equalTo_7 rfl (lv_at hl 0 rfl) ?_
  refine va_get (D := (dC, dI)) (ci := 7) (v := .int (nI zn)) (C := RX7) (T := TX7) (N := 2) hx hb hts hiX7 hown hK hP 0 rfl rfl 1 (by decide) v_1 (fun _ h9 => h9) rfl eX7_equalTo_8 ?_
  refine lv_imul hx hb eX7_equalTo_11 ?_
  refine lv_topi (fun y_9 ey_9 => ?_)
  obtain rfl : y_9 = (nI (zn * zn)) := ey_9.trans (pk_mul zn zn)
  refine lv_icmp_ge (tgt := 38) hx hb eX7_equalTo_12 (by decide) (fun c_10 => ?_) (fun c_10 => ?_)
  · have c_10 : (zn * zn) ≤ g_2 := (nI_leI (a := (zn * zn)) (b := g_2) (by first | omega | exact Nat.lt_trans (zx16 (by omega) (by omega) (by omega)) (Nat.le_of_ble_eq_true rfl) | exact Nat.lt_trans (zy16 (by omega) (by omega)) (Nat.le_of_ble_eq_true rfl) | exact Nat.lt_trans (zx25 (by omega) (by omega) (by omega)) (Nat.le_of_ble_eq_true rfl) | exact Nat.lt_trans (zy25 (by omega) (by omega)) (Nat.le_of_ble_eq_true rfl)) (Nat.lt_of_le_of_lt hg_2 (Nat.le_of_ble_eq_true rfl))).mp c_10
    have hsp := hsp.trans (if_pos c_10)
    have hsp := hout_8 _ hsp
    refine lv_iconst (v := 1) hx hb eX7_equalTo_38 (by decide) ?_
    exact W.zret (v := 1) (ty := .boolean) hx hb hr (rfl) (fun t ht hW => ⟨⟨1, (), rfl, ⟨1, (Nat.le_of_ble_eq_true rfl), rfl, (hsp.symm.trans hRR)⟩, trivial⟩, hS.F ht⟩) hS.2.2 eX7_equalTo_39
  · have c_10 : ¬ (zn * zn) ≤ g_2 := fun z => c_10 ((nI_leI (a := (zn * zn)) (b := g_2) (by first | omega | exact Nat.lt_trans (zx16 (by omega) (by omega) (by omega)) (Nat.le_of_ble_eq_true rfl) | exact Nat.lt_trans (zy16 (by omega) (by omega)) (Nat.le_of_ble_eq_true rfl) | exact Nat.lt_trans (zx25 (by omega) (by omega) (by omega)) (Nat.le_of_ble_eq_true rfl) | exact Nat.lt_trans (zy25 (by omega) (by omega)) (Nat.le_of_ble_eq_true rfl)) (Nat.lt_of_le_of_lt hg_2 (Nat.le_of_ble_eq_true rfl))).mpr z)
    have hsp := hsp.trans (if_neg c_10)
    refine lv_aload_n hx hb eX7_equalTo_15 rfl (lv_at hl 1 rfl) ?_
    refine va_get (D := (dC, dI)) (ci := 7) (v := .ref zc) (C := RX7) (T := TX7) (N := 2) hx hb hts hiX7 hown hK hP 0 rfl rfl 0 (by decide) v_2 (fun _ h9 => h9) rfl eX7_equalTo_16 ?_
    refine lv_iload_n hx hb eX7_equalTo_19 rfl (lv_at hl 2 rfl) ?_
    refine va_iald hx hb hK hP 1 0 rfl rfl (vp_in_nI (n := g_2) (by omega) (Nat.le_of_ble_eq_true rfl)) eX7_equalTo_20 ?_
    refine lv_topi (fun y_11 ey_11 => ?_)
    have ey_11 : y_11 = fz g_2 := ey_11.trans (congrArg fz (nI_clamp (n := g_2) (Nat.lt_of_le_of_lt hg_2 (Nat.le_of_ble_eq_true rfl))))
    have hsp := hsp.trans (slet_eq ey_11)
    refine lv_aload_n hx hb eX7_equalTo_21 rfl (lv_at hl 0 rfl) ?_
    refine va_get (D := (dC, dI)) (ci := 7) (v := .ref zc) (C := RX7) (T := TX7) (N := 2) hx hb hts hiX7 hown hK hP 0 rfl rfl 0 (by decide) v_2 (fun _ h9 => h9) rfl eX7_equalTo_22 ?_
    refine lv_iload_n hx hb eX7_equalTo_25 rfl (lv_at hl 2 rfl) ?_
    refine va_iald hx hb hK hP 1 0 rfl rfl (vp_in_nI (n := g_2) (by omega) (Nat.le_of_ble_eq_true rfl)) eX7_equalTo_26 ?_
    refine lv_topi (fun y_12 ey_12 => ?_)
    have ey_12 : y_12 = fz g_2 := ey_12.trans (congrArg fz (nI_clamp (n := g_2) (Nat.lt_of_le_of_lt hg_2 (Nat.le_of_ble_eq_true rfl))))
    have hsp := hsp.trans (slet_eq ey_12)
    refine lv_icmp_eq (tgt := 32) hx hb eX7_equalTo_27 (by decide) (fun c_13 => ?_) (fun c_13 => ?_)
    · have hcc_13 := c_13
      have hsp := hsp.trans (if_pos c_13)
      refine lv_iinc (v := (nI (g_2 + 1))) (lv' := [(2, .int (nI (g_2 + 1))), (0, .ref z), (1, .ref z)]) hx hb eX7_equalTo_32 hl (k := 2) rfl (nI_1 _) (by decide) rfl (fun ls hl => ?_)
      refine lv_goto (tgt := 2) hx hb eX7_equalTo_35 (by decide) ?_
      exact ih_3 (16 - (g_2 + 1)) (by omega) _ _ _ ⟨(g_2 + 1), rfl, (by omega), hin_7 _ hsp, hP, hD, hS, lv_sub hl [1, 2, 0] rfl⟩
    · have hcc_13 := c_13
      have hsp := hsp.trans (if_neg c_13)
      have hsp := hout_8 _ hsp
      refine lv_iconst (v := 0) hx hb eX7_equalTo_30 (by decide) ?_
      exact W.zret (v := 0) (ty := .boolean) hx hb hr (rfl) (fun t ht hW => ⟨⟨0, (), rfl, ⟨0, (Nat.le_of_ble_eq_true rfl), rfl, (hsp.symm.trans hRR)⟩, trivial⟩, hS.F ht⟩) hS.2.2 eX7_equalTo_31
