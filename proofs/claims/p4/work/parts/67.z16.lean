theorem eX7_cellOf_0 : decode cX7_cellOf 0 = .ok (.aload_n 0, 1) := by decide +kernel
theorem eX7_cellOf_1 : decode cX7_cellOf 1 = .ok (.getfield 11, 3) := by decide +kernel
theorem eX7_cellOf_4 : decode cX7_cellOf 4 = .ok (.iload_n 1, 1) := by decide +kernel
theorem eX7_cellOf_5 : decode cX7_cellOf 5 = .ok (.aload_n 0, 1) := by decide +kernel
theorem eX7_cellOf_6 : decode cX7_cellOf 6 = .ok (.getfield 18, 3) := by decide +kernel
theorem eX7_cellOf_9 : decode cX7_cellOf 9 = .ok (.imul, 1) := by decide +kernel
theorem eX7_cellOf_10 : decode cX7_cellOf 10 = .ok (.iload_n 2, 1) := by decide +kernel
theorem eX7_cellOf_11 : decode cX7_cellOf 11 = .ok (.iadd, 1) := by decide +kernel
theorem eX7_cellOf_12 : decode cX7_cellOf 12 = .ok (.iaload, 1) := by decide +kernel
theorem eX7_cellOf_13 : decode cX7_cellOf 13 = .ok (.ireturn, 1) := by decide +kernel
abbrev vs_C_7_cellOf_16 : List Cond := .code yX7_cellOf cX7_cellOf 3 (some .int) :: CM
set_option maxHeartbeats 4000000 in
set_option maxRecDepth 100000 in
theorem c_C_7_cellOf_16 (l : Launch) (dC : Nat → ClassId) (dI : Nat → Nat → Nat) (sz : Nat) (z : Nat) (zc : Nat) (zn : Nat) (k_fz : ClassId) (fz : Nat → Int32) (a0 : Nat) (a1 : Nat) (hzn : zn ≤ 4) (ha0 : a0 ≤ 3) (ha1 : a1 ≤ 3) : Met l yX7_cellOf vs_C_7_cellOf_16 ({ frames := 0, cells := 0, slots := 0, locals := 0 }) (va_Pc [.ref z, .int (nI a0), .int (nI a1)] (pu_B (dC, dI) (z16__w z zc (nI zn) k_fz fz) (z16__t k_fz) sz)) (va_Qi (fun (r : Int32) (_ : Unit) => True) (fun _ _ => True) (va_A [] sz)) 0 0 (va_A [] sz) := by
  refine Met.ofW (cc := cX7_cellOf) (maxL := 3) (ret := (some .int)) (by decide) rfl ?_
  intro p e s m args below meth c s₁ B hml hv
  obtain ⟨rfl, rfl, hP, hK, hD0⟩ := hv
  have hx := B.exec
  have hb := B.bytes
  have hr := B.returns
  have hts := atoms_spec (ws := vs_C_7_cellOf_16) B.pre
  have v_1 := hts (.fieldLink RX7 11 "ClockReach$Zone" "cells" "[I") (List.mem_cons_of_mem _ cm_47)
  have v_2 := hts (.fieldLink RX7 18 "ClockReach$Zone" "size" "I") (List.mem_cons_of_mem _ cm_48)
  have hown : s.vm.findClass RX7 = some m.cls := findClass_of_methodNamed B.named
  have hlocks := B.notSynchronized
  have hiX7 : ∀ w ∈ wsX70, w ∈ vs_C_7_cellOf_16 := fun _ h => List.mem_cons_of_mem _ (cm_X7 h)
  have hD := hD0
  have hA : ∀ q : Nat, s.heap.size ≤ q → va_A [] s.heap.size q := fun _ h => Or.inr h
  have hS : va_S (va_A [] s.heap.size) s.heap s.heap [] := va_S.rf
  have hl := lv_entry ([.ref z, .int (nI a0), .int (nI a1)]) (n := 3) (Nat.le_of_ble_eq_true rfl)
  rw [lg_entry_eq]
  generalize (lg_sl ([.ref z, .int (nI a0), .int (nI a1)]) ++ List.replicate (3 - (lg_sl ([.ref z, .int (nI a0), .int (nI a1)])).length) Slot.unset).toArray = ls at hl ⊢
  have hl : lv_has ls 3 [(0, .ref z), (1, .int (nI a0)), (2, .int (nI a1))] := hl
  have hzz := zz4 hzn
  refine lv_aload_n hx hb eX7_cellOf_0 rfl (lv_at hl 0 rfl) ?_
  refine va_get (D := (dC, dI)) (ci := 7) (v := .ref zc) (C := RX7) (T := TX7) (N := 2) hx hb hts hiX7 hown hK hP 0 rfl rfl 0 (by decide) v_1 (fun _ h9 => h9) rfl eX7_cellOf_1 ?_
  refine lv_iload_n hx hb eX7_cellOf_4 rfl (lv_at hl 1 rfl) ?_
  refine lv_aload_n hx hb eX7_cellOf_5 rfl (lv_at hl 0 rfl) ?_
  refine va_get (D := (dC, dI)) (ci := 7) (v := .int (nI zn)) (C := RX7) (T := TX7) (N := 2) hx hb hts hiX7 hown hK hP 0 rfl rfl 1 (by decide) v_2 (fun _ h9 => h9) rfl eX7_cellOf_6 ?_
  refine lv_imul hx hb eX7_cellOf_9 ?_
  refine lv_topi (fun y_1 ey_1 => ?_)
  obtain rfl : y_1 = (nI (a0 * zn)) := ey_1.trans (pk_mul a0 zn)
  refine lv_iload_n hx hb eX7_cellOf_10 rfl (lv_at hl 2 rfl) ?_
  refine lv_iadd hx hb eX7_cellOf_11 ?_
  refine lv_topi (fun y_2 ey_2 => ?_)
  obtain rfl : y_2 = (nI ((a0 * zn) + a1)) := ey_2.trans (nI_add (a0 * zn) a1)
  refine va_iald hx hb hK hP 1 0 rfl rfl (vp_in_nI (n := ((a0 * zn) + a1)) (by first | exact zx16 (by omega) (by omega) (by omega) | exact zy16 (by omega) (by omega) | omega) (Nat.le_of_ble_eq_true rfl)) eX7_cellOf_12 ?_
  refine lv_topi (fun y_3 ey_3 => ?_)
  exact W.iret (v := y_3) hx hb hr (fun t ht hW => ⟨⟨y_3, (), rfl, trivial, trivial⟩, hS.F ht⟩) hS.2.2 eX7_cellOf_13
theorem eX7_setPoint_0 : decode cX7_setPoint 0 = .ok (.aload_n 0, 1) := by decide +kernel
theorem eX7_setPoint_1 : decode cX7_setPoint 1 = .ok (.iload_n 1, 1) := by decide +kernel
theorem eX7_setPoint_2 : decode cX7_setPoint 2 = .ok (.putfield 18, 3) := by decide +kernel
theorem eX7_setPoint_5 : decode cX7_setPoint 5 = .ok (.iconst 0, 1) := by decide +kernel
theorem eX7_setPoint_6 : decode cX7_setPoint 6 = .ok (.istore_n 3, 1) := by decide +kernel
theorem eX7_setPoint_7 : decode cX7_setPoint 7 = .ok (.iload_n 3, 1) := by decide +kernel
theorem eX7_setPoint_8 : decode cX7_setPoint 8 = .ok (.aload_n 0, 1) := by decide +kernel
theorem eX7_setPoint_9 : decode cX7_setPoint 9 = .ok (.getfield 18, 3) := by decide +kernel
theorem eX7_setPoint_12 : decode cX7_setPoint 12 = .ok (.if_icmp .ge 53, 3) := by decide +kernel
theorem eX7_setPoint_15 : decode cX7_setPoint 15 = .ok (.iconst 0, 1) := by decide +kernel
theorem eX7_setPoint_16 : decode cX7_setPoint 16 = .ok (.istore 4, 2) := by decide +kernel
theorem eX7_setPoint_18 : decode cX7_setPoint 18 = .ok (.iload 4, 2) := by decide +kernel
theorem eX7_setPoint_20 : decode cX7_setPoint 20 = .ok (.aload_n 0, 1) := by decide +kernel
theorem eX7_setPoint_21 : decode cX7_setPoint 21 = .ok (.getfield 18, 3) := by decide +kernel
theorem eX7_setPoint_24 : decode cX7_setPoint 24 = .ok (.if_icmp .ge 35, 3) := by decide +kernel
theorem eX7_setPoint_27 : decode cX7_setPoint 27 = .ok (.aload_n 0, 1) := by decide +kernel
theorem eX7_setPoint_28 : decode cX7_setPoint 28 = .ok (.getfield 11, 3) := by decide +kernel
theorem eX7_setPoint_31 : decode cX7_setPoint 31 = .ok (.iload_n 3, 1) := by decide +kernel
theorem eX7_setPoint_32 : decode cX7_setPoint 32 = .ok (.aload_n 0, 1) := by decide +kernel
theorem eX7_setPoint_33 : decode cX7_setPoint 33 = .ok (.getfield 18, 3) := by decide +kernel
theorem eX7_setPoint_36 : decode cX7_setPoint 36 = .ok (.imul, 1) := by decide +kernel
theorem eX7_setPoint_37 : decode cX7_setPoint 37 = .ok (.iload 4, 2) := by decide +kernel
theorem eX7_setPoint_39 : decode cX7_setPoint 39 = .ok (.iadd, 1) := by decide +kernel
theorem eX7_setPoint_40 : decode cX7_setPoint 40 = .ok (.iconst 2, 1) := by decide +kernel
theorem eX7_setPoint_41 : decode cX7_setPoint 41 = .ok (.aload_n 2, 1) := by decide +kernel
theorem eX7_setPoint_42 : decode cX7_setPoint 42 = .ok (.iload_n 3, 1) := by decide +kernel
theorem eX7_setPoint_43 : decode cX7_setPoint 43 = .ok (.iaload, 1) := by decide +kernel
theorem eX7_setPoint_44 : decode cX7_setPoint 44 = .ok (.aload_n 2, 1) := by decide +kernel
theorem eX7_setPoint_45 : decode cX7_setPoint 45 = .ok (.iload 4, 2) := by decide +kernel
theorem eX7_setPoint_47 : decode cX7_setPoint 47 = .ok (.iaload, 1) := by decide +kernel
theorem eX7_setPoint_48 : decode cX7_setPoint 48 = .ok (.isub, 1) := by decide +kernel
theorem eX7_setPoint_49 : decode cX7_setPoint 49 = .ok (.imul, 1) := by decide +kernel
theorem eX7_setPoint_50 : decode cX7_setPoint 50 = .ok (.iconst 1, 1) := by decide +kernel
theorem eX7_setPoint_51 : decode cX7_setPoint 51 = .ok (.iadd, 1) := by decide +kernel
theorem eX7_setPoint_52 : decode cX7_setPoint 52 = .ok (.iastore, 1) := by decide +kernel
theorem eX7_setPoint_53 : decode cX7_setPoint 53 = .ok (.iinc 4 1, 3) := by decide +kernel
theorem eX7_setPoint_56 : decode cX7_setPoint 56 = .ok (.goto (-38), 3) := by decide +kernel
theorem eX7_setPoint_59 : decode cX7_setPoint 59 = .ok (.iinc 3 1, 3) := by decide +kernel
theorem eX7_setPoint_62 : decode cX7_setPoint 62 = .ok (.goto (-55), 3) := by decide +kernel
theorem eX7_setPoint_65 : decode cX7_setPoint 65 = .ok (.return_, 1) := by decide +kernel
abbrev vs_C_7_setPoint_16 : List Cond := .code yX7_setPoint cX7_setPoint 5 none :: CM
set_option maxHeartbeats 4000000 in
set_option maxRecDepth 100000 in
theorem c_C_7_setPoint_16 (l : Launch) (dC : Nat → ClassId) (dI : Nat → Nat → Nat) (sz : Nat) (vz : Nat) (k_fv : ClassId) (fv : Nat → Int32) (z : Nat) (zc : Nat) (zn : Nat) (k_fz : ClassId) (fz : Nat → Int32) (a0 : Nat) (hzn : zn ≤ 4) (ha0 : a0 ≤ 4) : Met l yX7_setPoint vs_C_7_setPoint_16 ({ frames := 0, cells := 0, slots := 0, locals := 0 }) (va_Pc [.ref z, .int (nI a0), .ref vz] (pu_B (dC, dI) (zu16__w vz k_fv fv z zc (nI zn) k_fz fz) (zu16__t k_fv k_fz) sz)) (va_Qv (fun (_ : Unit) => True) (fun _ t => ∃ (z_fz : Nat → Int32), pu_E (dC, dI) (zu16__w vz k_fv fv z zc (nI a0) k_fz z_fz) (zu16__t k_fv k_fz) (va_A ((zu16__w vz k_fv fv z zc (nI zn) k_fz fz)) sz) t) (va_A ((zu16__w vz k_fv fv z zc (nI zn) k_fz fz)) sz)) 0 0 (va_A ((zu16__w vz k_fv fv z zc (nI zn) k_fz fz)) sz) := by
  refine Met.ofW (cc := cX7_setPoint) (maxL := 5) (ret := none) (by decide) rfl ?_
  intro p e s m args below meth c s₁ B hml hv
  obtain ⟨rfl, rfl, hP, hK, hD0⟩ := hv
  have hx := B.exec
  have hb := B.bytes
  have hr := B.returns
  have hts := atoms_spec (ws := vs_C_7_setPoint_16) B.pre
  have v_1 := hts (.fieldLink RX7 18 "ClockReach$Zone" "size" "I") (List.mem_cons_of_mem _ cm_48)
  have v_2 := hts (.fieldLink RX7 11 "ClockReach$Zone" "cells" "[I") (List.mem_cons_of_mem _ cm_47)
  have hown : s.vm.findClass RX7 = some m.cls := findClass_of_methodNamed B.named
  have hlocks := B.notSynchronized
  have hiX7 : ∀ w ∈ wsX70, w ∈ vs_C_7_setPoint_16 := fun _ h => List.mem_cons_of_mem _ (cm_X7 h)
  have hD := hD0.self (sz := s.heap.size)
  generalize hAe : va_A ((zu16__w vz k_fv fv z zc (nI zn) k_fz fz)) s.heap.size = A at hD ⊢
  have hA : ∀ q : Nat, s.heap.size ≤ q → A q := fun q h => by rw [← hAe]; exact Or.inr h
  have hS : va_S A s.heap s.heap [] := va_S.rf
  have hl := lv_entry ([.ref z, .int (nI a0), .ref vz]) (n := 5) (Nat.le_of_ble_eq_true rfl)
  rw [lg_entry_eq]
  generalize (lg_sl ([.ref z, .int (nI a0), .ref vz]) ++ List.replicate (5 - (lg_sl ([.ref z, .int (nI a0), .ref vz])).length) Slot.unset).toArray = ls at hl ⊢
  have hl : lv_has ls 5 [(0, .ref z), (1, .int (nI a0)), (2, .ref vz)] := hl
  have hzz := zz4 hzn
  refine lv_aload_n hx hb eX7_setPoint_0 rfl (lv_at hl 0 rfl) ?_
  refine lv_iload_n hx hb eX7_setPoint_1 rfl (lv_at hl 1 rfl) ?_
  refine va_put (D := (dC, dI)) (ci := 7) (v := .int (nI a0)) (ty := .int) (C := RX7) (T := TX7) (N := 2) hx hb hts hiX7 tyX7 tyX7_ok nmX7 hown hK hP hD hS 1 rfl rfl 1 (by decide) v_1 (fun _ h9 => h9) rfl (by decide +kernel) rfl rfl (Nat.le_of_ble_eq_true rfl) eX7_setPoint_2 (fun H locs hP hD hS => ?_)
  have hP : va_P (dC, dI) vwCl (zu16__w vz k_fv fv z zc (nI a0) k_fz fz) H := hP
  have hD : va_D A (zu16__w vz k_fv fv z zc (nI a0) k_fz fz) := hD
  refine lv_iconst (v := 0) hx hb eX7_setPoint_5 (by decide) ?_
  refine lv_istore_n (lv' := [(3, .int 0), (0, .ref z), (1, .int (nI a0)), (2, .ref vz)]) hx hb eX7_setPoint_6 rfl hl (by decide) rfl (fun ls hl => ?_)
  refine pu_while (fun nn H locs ls => ∃ (g_3 : Nat → Int32) (g_4 : Nat), nn = 4 - g_4 ∧ g_4 ≤ 4 ∧ va_P (dC, dI) vwCl (zu16__w vz k_fv fv z zc (nI a0) k_fz g_3) H ∧ va_D A (zu16__w vz k_fv fv z zc (nI a0) k_fz g_3) ∧ va_S A s.heap H locs ∧ lv_has ls 5 [(0, .ref z), (1, .int (nI a0)), (2, .ref vz), (3, .int (nI g_4))]) 7 ?_ _ _ _ _ ⟨fz, 0, rfl, (Nat.le_of_ble_eq_true rfl), hP, hD, hS, lv_sub hl [1, 2, 3, 0] rfl⟩
  rintro nn ih_5 H locs ls ⟨g_3, g_4, rfl, hg_4, hP, hD, hS, hl⟩
  refine lv_iload_n hx hb eX7_setPoint_7 rfl (lv_at hl 3 rfl) ?_
  refine lv_aload_n hx hb eX7_setPoint_8 rfl (lv_at hl 0 rfl) ?_
  refine va_get (D := (dC, dI)) (ci := 7) (v := .int (nI a0)) (C := RX7) (T := TX7) (N := 2) hx hb hts hiX7 hown hK hP 1 rfl rfl 1 (by decide) v_1 (fun _ h9 => h9) rfl eX7_setPoint_9 ?_
  refine lv_icmp_ge (tgt := 65) hx hb eX7_setPoint_12 (by decide) (fun c_6 => ?_) (fun c_6 => ?_)
  · have c_6 : a0 ≤ g_4 := (nI_leI (a := a0) (b := g_4) (Nat.lt_of_le_of_lt ha0 (Nat.le_of_ble_eq_true rfl)) (Nat.lt_of_le_of_lt hg_4 (Nat.le_of_ble_eq_true rfl))).mp c_6
    exact W.vret hx hb hr (fun t ht hW => ⟨⟨(), rfl, trivial, ⟨g_3, ⟨by rw [ht]; exact hP, va_K.moved hW.alike hK, hD⟩⟩⟩, hS.F ht⟩) hS.2.2 eX7_setPoint_65
  · have c_6 : ¬ a0 ≤ g_4 := fun z => c_6 ((nI_leI (a := a0) (b := g_4) (Nat.lt_of_le_of_lt ha0 (Nat.le_of_ble_eq_true rfl)) (Nat.lt_of_le_of_lt hg_4 (Nat.le_of_ble_eq_true rfl))).mpr z)
    refine lv_iconst (v := 0) hx hb eX7_setPoint_15 (by decide) ?_
    refine lv_istore (lv' := [(4, .int 0), (0, .ref z), (1, .int (nI a0)), (2, .ref vz), (3, .int (nI g_4))]) hx hb eX7_setPoint_16 hl (by decide) rfl (fun ls hl => ?_)
    refine pu_while (fun nn H locs ls => ∃ (g_9 : Nat → Int32) (g_10 : Nat), nn = 4 - g_10 ∧ g_10 ≤ 4 ∧ va_P (dC, dI) vwCl (zu16__w vz k_fv fv z zc (nI a0) k_fz g_9) H ∧ va_D A (zu16__w vz k_fv fv z zc (nI a0) k_fz g_9) ∧ va_S A s.heap H locs ∧ lv_has ls 5 [(0, .ref z), (1, .int (nI a0)), (2, .ref vz), (3, .int (nI g_4)), (4, .int (nI g_10))]) 18 ?_ _ _ _ _ ⟨g_3, 0, rfl, (Nat.le_of_ble_eq_true rfl), hP, hD, hS, lv_sub hl [1, 2, 3, 4, 0] rfl⟩
    rintro nn ih_11 H locs ls ⟨g_9, g_10, rfl, hg_10, hP, hD, hS, hl⟩
    refine lv_iload hx hb eX7_setPoint_18 (lv_at hl 4 rfl) ?_
    refine lv_aload_n hx hb eX7_setPoint_20 rfl (lv_at hl 0 rfl) ?_
    refine va_get (D := (dC, dI)) (ci := 7) (v := .int (nI a0)) (C := RX7) (T := TX7) (N := 2) hx hb hts hiX7 hown hK hP 1 rfl rfl 1 (by decide) v_1 (fun _ h9 => h9) rfl eX7_setPoint_21 ?_
    refine lv_icmp_ge (tgt := 59) hx hb eX7_setPoint_24 (by decide) (fun c_12 => ?_) (fun c_12 => ?_)
    · have c_12 : a0 ≤ g_10 := (nI_leI (a := a0) (b := g_10) (Nat.lt_of_le_of_lt ha0 (Nat.le_of_ble_eq_true rfl)) (Nat.lt_of_le_of_lt hg_10 (Nat.le_of_ble_eq_true rfl))).mp c_12
      refine lv_iinc (v := (nI (g_4 + 1))) (lv' := [(3, .int (nI (g_4 + 1))), (0, .ref z), (1, .int (nI a0)), (2, .ref vz), (4, .int (nI g_10))]) hx hb eX7_setPoint_59 hl (k := 3) rfl (nI_1 _) (by decide) rfl (fun ls hl => ?_)
      refine lv_goto (tgt := 7) hx hb eX7_setPoint_62 (by decide) ?_
      exact ih_5 (4 - (g_4 + 1)) (by omega) _ _ _ ⟨g_9, (g_4 + 1), rfl, (by omega), hP, hD, hS, lv_sub hl [1, 2, 3, 0] rfl⟩
    · have c_12 : ¬ a0 ≤ g_10 := fun z => c_12 ((nI_leI (a := a0) (b := g_10) (Nat.lt_of_le_of_lt ha0 (Nat.le_of_ble_eq_true rfl)) (Nat.lt_of_le_of_lt hg_10 (Nat.le_of_ble_eq_true rfl))).mpr z)
      refine lv_aload_n hx hb eX7_setPoint_27 rfl (lv_at hl 0 rfl) ?_
      refine va_get (D := (dC, dI)) (ci := 7) (v := .ref zc) (C := RX7) (T := TX7) (N := 2) hx hb hts hiX7 hown hK hP 1 rfl rfl 0 (by decide) v_2 (fun _ h9 => h9) rfl eX7_setPoint_28 ?_
      refine lv_iload_n hx hb eX7_setPoint_31 rfl (lv_at hl 3 rfl) ?_
      refine lv_aload_n hx hb eX7_setPoint_32 rfl (lv_at hl 0 rfl) ?_
      refine va_get (D := (dC, dI)) (ci := 7) (v := .int (nI a0)) (C := RX7) (T := TX7) (N := 2) hx hb hts hiX7 hown hK hP 1 rfl rfl 1 (by decide) v_1 (fun _ h9 => h9) rfl eX7_setPoint_33 ?_
      refine lv_imul hx hb eX7_setPoint_36 ?_
      refine lv_topi (fun y_13 ey_13 => ?_)
      obtain rfl : y_13 = (nI (g_4 * a0)) := ey_13.trans (pk_mul g_4 a0)
      refine lv_iload hx hb eX7_setPoint_37 (lv_at hl 4 rfl) ?_
      refine lv_iadd hx hb eX7_setPoint_39 ?_
      refine lv_topi (fun y_14 ey_14 => ?_)
      obtain rfl : y_14 = (nI ((g_4 * a0) + g_10)) := ey_14.trans (nI_add (g_4 * a0) g_10)
      refine lv_iconst (v := 2) hx hb eX7_setPoint_40 (by decide) ?_
      refine lv_aload_n hx hb eX7_setPoint_41 rfl (lv_at hl 2 rfl) ?_
      refine lv_iload_n hx hb eX7_setPoint_42 rfl (lv_at hl 3 rfl) ?_
      refine va_iald hx hb hK hP 0 0 rfl rfl (vp_in_nI (n := g_4) (Nat.lt_of_le_of_lt hg_4 (Nat.le_of_ble_eq_true rfl)) (Nat.le_of_ble_eq_true rfl)) eX7_setPoint_43 ?_
      refine lv_topi (fun y_15 ey_15 => ?_)
      refine lv_aload_n hx hb eX7_setPoint_44 rfl (lv_at hl 2 rfl) ?_
      refine lv_iload hx hb eX7_setPoint_45 (lv_at hl 4 rfl) ?_
      refine va_iald hx hb hK hP 0 0 rfl rfl (vp_in_nI (n := g_10) (Nat.lt_of_le_of_lt hg_10 (Nat.le_of_ble_eq_true rfl)) (Nat.le_of_ble_eq_true rfl)) eX7_setPoint_47 ?_
      refine lv_topi (fun y_16 ey_16 => ?_)
      refine lv_isub hx hb eX7_setPoint_48 ?_
      refine lv_topi (fun y_17 ey_17 => ?_)
      refine lv_imul hx hb eX7_setPoint_49 ?_
      refine lv_topi (fun y_18 ey_18 => ?_)
      refine lv_iconst (v := 1) hx hb eX7_setPoint_50 (by decide) ?_
      refine lv_iadd hx hb eX7_setPoint_51 ?_
      refine lv_topi (fun y_19 ey_19 => ?_)
      refine va_iast hx hb hK hP hD hS 2 1 rfl rfl (vp_in_nI (n := ((g_4 * a0) + g_10)) (by first | exact zx16 (by omega) (by omega) (by omega) | exact zy16 (by omega) (by omega) | omega) (Nat.le_of_ble_eq_true rfl)) eX7_setPoint_52 (fun H locs hP hD hS => ?_)
      have hP : va_P (dC, dI) vwCl (zu16__w vz k_fv fv z zc (nI a0) k_fz (upd g_9 ((nI ((g_4 * a0) + g_10)) : Int32).toNatClampNeg y_19)) H := hP
      have hD : va_D A (zu16__w vz k_fv fv z zc (nI a0) k_fz (upd g_9 ((nI ((g_4 * a0) + g_10)) : Int32).toNatClampNeg y_19)) := hD
      refine lv_iinc (v := (nI (g_10 + 1))) (lv' := [(4, .int (nI (g_10 + 1))), (0, .ref z), (1, .int (nI a0)), (2, .ref vz), (3, .int (nI g_4))]) hx hb eX7_setPoint_53 hl (k := 4) rfl (nI_1 _) (by decide) rfl (fun ls hl => ?_)
      refine lv_goto (tgt := 18) hx hb eX7_setPoint_56 (by decide) ?_
      exact ih_11 (4 - (g_10 + 1)) (by omega) _ _ _ ⟨(upd g_9 ((nI ((g_4 * a0) + g_10)) : Int32).toNatClampNeg y_19), (g_10 + 1), rfl, (by omega), hP, hD, hS, lv_sub hl [1, 2, 3, 4, 0] rfl⟩
theorem eX7_setAll_0 : decode cX7_setAll 0 = .ok (.aload_n 0, 1) := by decide +kernel
theorem eX7_setAll_1 : decode cX7_setAll 1 = .ok (.iload_n 1, 1) := by decide +kernel
theorem eX7_setAll_2 : decode cX7_setAll 2 = .ok (.putfield 18, 3) := by decide +kernel
theorem eX7_setAll_5 : decode cX7_setAll 5 = .ok (.iconst 0, 1) := by decide +kernel
theorem eX7_setAll_6 : decode cX7_setAll 6 = .ok (.istore_n 2, 1) := by decide +kernel
theorem eX7_setAll_7 : decode cX7_setAll 7 = .ok (.iload_n 2, 1) := by decide +kernel
theorem eX7_setAll_8 : decode cX7_setAll 8 = .ok (.aload_n 0, 1) := by decide +kernel
theorem eX7_setAll_9 : decode cX7_setAll 9 = .ok (.getfield 18, 3) := by decide +kernel
theorem eX7_setAll_12 : decode cX7_setAll 12 = .ok (.if_icmp .ge 53, 3) := by decide +kernel
theorem eX7_setAll_15 : decode cX7_setAll 15 = .ok (.iconst 0, 1) := by decide +kernel
theorem eX7_setAll_16 : decode cX7_setAll 16 = .ok (.istore_n 3, 1) := by decide +kernel
theorem eX7_setAll_17 : decode cX7_setAll 17 = .ok (.iload_n 3, 1) := by decide +kernel
theorem eX7_setAll_18 : decode cX7_setAll 18 = .ok (.aload_n 0, 1) := by decide +kernel
theorem eX7_setAll_19 : decode cX7_setAll 19 = .ok (.getfield 18, 3) := by decide +kernel
theorem eX7_setAll_22 : decode cX7_setAll 22 = .ok (.if_icmp .ge 37, 3) := by decide +kernel
theorem eX7_setAll_25 : decode cX7_setAll 25 = .ok (.aload_n 0, 1) := by decide +kernel
theorem eX7_setAll_26 : decode cX7_setAll 26 = .ok (.getfield 11, 3) := by decide +kernel
theorem eX7_setAll_29 : decode cX7_setAll 29 = .ok (.iload_n 2, 1) := by decide +kernel
theorem eX7_setAll_30 : decode cX7_setAll 30 = .ok (.aload_n 0, 1) := by decide +kernel
theorem eX7_setAll_31 : decode cX7_setAll 31 = .ok (.getfield 18, 3) := by decide +kernel
theorem eX7_setAll_34 : decode cX7_setAll 34 = .ok (.imul, 1) := by decide +kernel
theorem eX7_setAll_35 : decode cX7_setAll 35 = .ok (.iload_n 3, 1) := by decide +kernel
theorem eX7_setAll_36 : decode cX7_setAll 36 = .ok (.iadd, 1) := by decide +kernel
theorem eX7_setAll_37 : decode cX7_setAll 37 = .ok (.iload_n 2, 1) := by decide +kernel
theorem eX7_setAll_38 : decode cX7_setAll 38 = .ok (.ifCond .eq 8, 3) := by decide +kernel
theorem eX7_setAll_41 : decode cX7_setAll 41 = .ok (.iload_n 2, 1) := by decide +kernel
theorem eX7_setAll_42 : decode cX7_setAll 42 = .ok (.iload_n 3, 1) := by decide +kernel
theorem eX7_setAll_43 : decode cX7_setAll 43 = .ok (.if_icmp .ne 7, 3) := by decide +kernel
theorem eX7_setAll_46 : decode cX7_setAll 46 = .ok (.iconst 1, 1) := by decide +kernel
theorem eX7_setAll_47 : decode cX7_setAll 47 = .ok (.goto 5, 3) := by decide +kernel
theorem eX7_setAll_50 : decode cX7_setAll 50 = .ok (.ldc 17, 2) := by decide +kernel
theorem eX7_setAll_52 : decode cX7_setAll 52 = .ok (.iastore, 1) := by decide +kernel
theorem eX7_setAll_53 : decode cX7_setAll 53 = .ok (.iinc 3 1, 3) := by decide +kernel
theorem eX7_setAll_56 : decode cX7_setAll 56 = .ok (.goto (-39), 3) := by decide +kernel
theorem eX7_setAll_59 : decode cX7_setAll 59 = .ok (.iinc 2 1, 3) := by decide +kernel
theorem eX7_setAll_62 : decode cX7_setAll 62 = .ok (.goto (-55), 3) := by decide +kernel
theorem eX7_setAll_65 : decode cX7_setAll 65 = .ok (.return_, 1) := by decide +kernel
abbrev vs_C_7_setAll_16 : List Cond := .code yX7_setAll cX7_setAll 4 none :: CM
set_option maxHeartbeats 4000000 in
set_option maxRecDepth 100000 in
theorem c_C_7_setAll_16 (l : Launch) (dC : Nat → ClassId) (dI : Nat → Nat → Nat) (sz : Nat) (z : Nat) (zc : Nat) (zn : Nat) (k_fz : ClassId) (fz : Nat → Int32) (a0 : Nat) (hzn : zn ≤ 4) (ha0 : a0 ≤ 4) : Met l yX7_setAll vs_C_7_setAll_16 ({ frames := 0, cells := 0, slots := 0, locals := 0 }) (va_Pc [.ref z, .int (nI a0)] (pu_B (dC, dI) (z16__w z zc (nI zn) k_fz fz) (z16__t k_fz) sz)) (va_Qv (fun (_ : Unit) => True) (fun _ t => ∃ (z_fz : Nat → Int32), pu_E (dC, dI) (z16__w z zc (nI a0) k_fz z_fz) (z16__t k_fz) (va_A ((z16__w z zc (nI zn) k_fz fz)) sz) t) (va_A ((z16__w z zc (nI zn) k_fz fz)) sz)) 0 0 (va_A ((z16__w z zc (nI zn) k_fz fz)) sz) := by
  refine Met.ofW (cc := cX7_setAll) (maxL := 4) (ret := none) (by decide) rfl ?_
  intro p e s m args below meth c s₁ B hml hv
  obtain ⟨rfl, rfl, hP, hK, hD0⟩ := hv
  have hx := B.exec
  have hb := B.bytes
  have hr := B.returns
  have hts := atoms_spec (ws := vs_C_7_setAll_16) B.pre
  have v_1 := hts (.fieldLink RX7 18 "ClockReach$Zone" "size" "I") (List.mem_cons_of_mem _ cm_48)
  have v_2 := hts (.fieldLink RX7 11 "ClockReach$Zone" "cells" "[I") (List.mem_cons_of_mem _ cm_47)
  have v_3 := hts (.constant RX7 17 (2147483647)) (List.mem_cons_of_mem _ cm_49)
  have hown : s.vm.findClass RX7 = some m.cls := findClass_of_methodNamed B.named
  have hlocks := B.notSynchronized
  have hiX7 : ∀ w ∈ wsX70, w ∈ vs_C_7_setAll_16 := fun _ h => List.mem_cons_of_mem _ (cm_X7 h)
  have hD := hD0.self (sz := s.heap.size)
  generalize hAe : va_A ((z16__w z zc (nI zn) k_fz fz)) s.heap.size = A at hD ⊢
  have hA : ∀ q : Nat, s.heap.size ≤ q → A q := fun q h => by rw [← hAe]; exact Or.inr h
  have hS : va_S A s.heap s.heap [] := va_S.rf
  have hl := lv_entry ([.ref z, .int (nI a0)]) (n := 4) (Nat.le_of_ble_eq_true rfl)
  rw [lg_entry_eq]
  generalize (lg_sl ([.ref z, .int (nI a0)]) ++ List.replicate (4 - (lg_sl ([.ref z, .int (nI a0)])).length) Slot.unset).toArray = ls at hl ⊢
  have hl : lv_has ls 4 [(0, .ref z), (1, .int (nI a0))] := hl
  have hzz := zz4 hzn
  refine lv_aload_n hx hb eX7_setAll_0 rfl (lv_at hl 0 rfl) ?_
  refine lv_iload_n hx hb eX7_setAll_1 rfl (lv_at hl 1 rfl) ?_
  refine va_put (D := (dC, dI)) (ci := 7) (v := .int (nI a0)) (ty := .int) (C := RX7) (T := TX7) (N := 2) hx hb hts hiX7 tyX7 tyX7_ok nmX7 hown hK hP hD hS 0 rfl rfl 1 (by decide) v_1 (fun _ h9 => h9) rfl (by decide +kernel) rfl rfl (Nat.le_of_ble_eq_true rfl) eX7_setAll_2 (fun H locs hP hD hS => ?_)
  have hP : va_P (dC, dI) vwCl (z16__w z zc (nI a0) k_fz fz) H := hP
  have hD : va_D A (z16__w z zc (nI a0) k_fz fz) := hD
  refine lv_iconst (v := 0) hx hb eX7_setAll_5 (by decide) ?_
  refine lv_istore_n (lv' := [(2, .int 0), (0, .ref z), (1, .int (nI a0))]) hx hb eX7_setAll_6 rfl hl (by decide) rfl (fun ls hl => ?_)
  refine pu_while (fun nn H locs ls => ∃ (g_3 : Nat → Int32) (g_4 : Nat), nn = 4 - g_4 ∧ g_4 ≤ 4 ∧ va_P (dC, dI) vwCl (z16__w z zc (nI a0) k_fz g_3) H ∧ va_D A (z16__w z zc (nI a0) k_fz g_3) ∧ va_S A s.heap H locs ∧ lv_has ls 4 [(0, .ref z), (1, .int (nI a0)), (2, .int (nI g_4))]) 7 ?_ _ _ _ _ ⟨fz, 0, rfl, (Nat.le_of_ble_eq_true rfl), hP, hD, hS, lv_sub hl [1, 2, 0] rfl⟩
  rintro nn ih_5 H locs ls ⟨g_3, g_4, rfl, hg_4, hP, hD, hS, hl⟩
  refine lv_iload_n hx hb eX7_setAll_7 rfl (lv_at hl 2 rfl) ?_
  refine lv_aload_n hx hb eX7_setAll_8 rfl (lv_at hl 0 rfl) ?_
  refine va_get (D := (dC, dI)) (ci := 7) (v := .int (nI a0)) (C := RX7) (T := TX7) (N := 2) hx hb hts hiX7 hown hK hP 0 rfl rfl 1 (by decide) v_1 (fun _ h9 => h9) rfl eX7_setAll_9 ?_
  refine lv_icmp_ge (tgt := 65) hx hb eX7_setAll_12 (by decide) (fun c_6 => ?_) (fun c_6 => ?_)
  · have c_6 : a0 ≤ g_4 := (nI_leI (a := a0) (b := g_4) (Nat.lt_of_le_of_lt ha0 (Nat.le_of_ble_eq_true rfl)) (Nat.lt_of_le_of_lt hg_4 (Nat.le_of_ble_eq_true rfl))).mp c_6
    exact W.vret hx hb hr (fun t ht hW => ⟨⟨(), rfl, trivial, ⟨g_3, ⟨by rw [ht]; exact hP, va_K.moved hW.alike hK, hD⟩⟩⟩, hS.F ht⟩) hS.2.2 eX7_setAll_65
  · have c_6 : ¬ a0 ≤ g_4 := fun z => c_6 ((nI_leI (a := a0) (b := g_4) (Nat.lt_of_le_of_lt ha0 (Nat.le_of_ble_eq_true rfl)) (Nat.lt_of_le_of_lt hg_4 (Nat.le_of_ble_eq_true rfl))).mpr z)
    refine lv_iconst (v := 0) hx hb eX7_setAll_15 (by decide) ?_
    refine lv_istore_n (lv' := [(3, .int 0), (0, .ref z), (1, .int (nI a0)), (2, .int (nI g_4))]) hx hb eX7_setAll_16 rfl hl (by decide) rfl (fun ls hl => ?_)
    refine pu_while (fun nn H locs ls => ∃ (g_9 : Nat → Int32) (g_10 : Nat), nn = 4 - g_10 ∧ g_10 ≤ 4 ∧ va_P (dC, dI) vwCl (z16__w z zc (nI a0) k_fz g_9) H ∧ va_D A (z16__w z zc (nI a0) k_fz g_9) ∧ va_S A s.heap H locs ∧ lv_has ls 4 [(0, .ref z), (1, .int (nI a0)), (2, .int (nI g_4)), (3, .int (nI g_10))]) 17 ?_ _ _ _ _ ⟨g_3, 0, rfl, (Nat.le_of_ble_eq_true rfl), hP, hD, hS, lv_sub hl [1, 2, 3, 0] rfl⟩
    rintro nn ih_11 H locs ls ⟨g_9, g_10, rfl, hg_10, hP, hD, hS, hl⟩
    refine lv_iload_n hx hb eX7_setAll_17 rfl (lv_at hl 3 rfl) ?_
    refine lv_aload_n hx hb eX7_setAll_18 rfl (lv_at hl 0 rfl) ?_
    refine va_get (D := (dC, dI)) (ci := 7) (v := .int (nI a0)) (C := RX7) (T := TX7) (N := 2) hx hb hts hiX7 hown hK hP 0 rfl rfl 1 (by decide) v_1 (fun _ h9 => h9) rfl eX7_setAll_19 ?_
    refine lv_icmp_ge (tgt := 59) hx hb eX7_setAll_22 (by decide) (fun c_12 => ?_) (fun c_12 => ?_)
    · have c_12 : a0 ≤ g_10 := (nI_leI (a := a0) (b := g_10) (Nat.lt_of_le_of_lt ha0 (Nat.le_of_ble_eq_true rfl)) (Nat.lt_of_le_of_lt hg_10 (Nat.le_of_ble_eq_true rfl))).mp c_12
      refine lv_iinc (v := (nI (g_4 + 1))) (lv' := [(2, .int (nI (g_4 + 1))), (0, .ref z), (1, .int (nI a0)), (3, .int (nI g_10))]) hx hb eX7_setAll_59 hl (k := 2) rfl (nI_1 _) (by decide) rfl (fun ls hl => ?_)
      refine lv_goto (tgt := 7) hx hb eX7_setAll_62 (by decide) ?_
      exact ih_5 (4 - (g_4 + 1)) (by omega) _ _ _ ⟨g_9, (g_4 + 1), rfl, (by omega), hP, hD, hS, lv_sub hl [1, 2, 0] rfl⟩
    · have c_12 : ¬ a0 ≤ g_10 := fun z => c_12 ((nI_leI (a := a0) (b := g_10) (Nat.lt_of_le_of_lt ha0 (Nat.le_of_ble_eq_true rfl)) (Nat.lt_of_le_of_lt hg_10 (Nat.le_of_ble_eq_true rfl))).mpr z)
      refine lv_aload_n hx hb eX7_setAll_25 rfl (lv_at hl 0 rfl) ?_
      refine va_get (D := (dC, dI)) (ci := 7) (v := .ref zc) (C := RX7) (T := TX7) (N := 2) hx hb hts hiX7 hown hK hP 0 rfl rfl 0 (by decide) v_2 (fun _ h9 => h9) rfl eX7_setAll_26 ?_
      refine lv_iload_n hx hb eX7_setAll_29 rfl (lv_at hl 2 rfl) ?_
      refine lv_aload_n hx hb eX7_setAll_30 rfl (lv_at hl 0 rfl) ?_
      refine va_get (D := (dC, dI)) (ci := 7) (v := .int (nI a0)) (C := RX7) (T := TX7) (N := 2) hx hb hts hiX7 hown hK hP 0 rfl rfl 1 (by decide) v_1 (fun _ h9 => h9) rfl eX7_setAll_31 ?_
      refine lv_imul hx hb eX7_setAll_34 ?_
      refine lv_topi (fun y_13 ey_13 => ?_)
      obtain rfl : y_13 = (nI (g_4 * a0)) := ey_13.trans (pk_mul g_4 a0)
      refine lv_iload_n hx hb eX7_setAll_35 rfl (lv_at hl 3 rfl) ?_
      refine lv_iadd hx hb eX7_setAll_36 ?_
      refine lv_topi (fun y_14 ey_14 => ?_)
      obtain rfl : y_14 = (nI ((g_4 * a0) + g_10)) := ey_14.trans (nI_add (g_4 * a0) g_10)
      refine lv_iload_n hx hb eX7_setAll_37 rfl (lv_at hl 2 rfl) ?_
      refine pu_join (fun H locs ls st => ∃ (g_15 : Int32), st = [.int g_15, .int (nI ((g_4 * a0) + g_10)), .ref zc] ∧ (g_15 = -1 ∨ (∃ q : Nat, q ≤ 2147483647 ∧ g_15 = nI q)) ∧ va_P (dC, dI) vwCl (z16__w z zc (nI a0) k_fz g_9) H ∧ va_D A (z16__w z zc (nI a0) k_fz g_9) ∧ va_S A s.heap H locs ∧ lv_has ls 4 [(0, .ref z), (1, .int (nI a0)), (2, .int (nI g_4)), (3, .int (nI g_10))]) 52 ?_ (fun j_16 => ?_)
      · rintro H locs ls st ⟨g_15, rfl, hg_15, hP, hD, hS, hl⟩
        refine va_iast hx hb hK hP hD hS 1 0 rfl rfl (vp_in_nI (n := ((g_4 * a0) + g_10)) (by first | exact zx16 (by omega) (by omega) (by omega) | exact zy16 (by omega) (by omega) | omega) (Nat.le_of_ble_eq_true rfl)) eX7_setAll_52 (fun H locs hP hD hS => ?_)
        have hP : va_P (dC, dI) vwCl (z16__w z zc (nI a0) k_fz (upd g_9 ((nI ((g_4 * a0) + g_10)) : Int32).toNatClampNeg g_15)) H := hP
        have hD : va_D A (z16__w z zc (nI a0) k_fz (upd g_9 ((nI ((g_4 * a0) + g_10)) : Int32).toNatClampNeg g_15)) := hD
        refine lv_iinc (v := (nI (g_10 + 1))) (lv' := [(3, .int (nI (g_10 + 1))), (0, .ref z), (1, .int (nI a0)), (2, .int (nI g_4))]) hx hb eX7_setAll_53 hl (k := 3) rfl (nI_1 _) (by decide) rfl (fun ls hl => ?_)
        refine lv_goto (tgt := 17) hx hb eX7_setAll_56 (by decide) ?_
        exact ih_11 (4 - (g_10 + 1)) (by omega) _ _ _ ⟨(upd g_9 ((nI ((g_4 * a0) + g_10)) : Int32).toNatClampNeg g_15), (g_10 + 1), rfl, (by omega), hP, hD, hS, lv_sub hl [1, 2, 3, 0] rfl⟩
      refine lv_if_eq (tgt := 46) hx hb eX7_setAll_38 (by decide) (fun c_17 => ?_) (fun c_17 => ?_)
      · have c_17 : g_4 = 0 := (nI_eq (a := g_4) (b := 0) (Nat.lt_of_le_of_lt hg_4 (Nat.le_of_ble_eq_true rfl)) (Nat.le_of_ble_eq_true rfl)).mp c_17
        refine lv_iconst (v := 1) hx hb eX7_setAll_46 (by decide) ?_
        refine lv_goto (tgt := 52) hx hb eX7_setAll_47 (by decide) ?_
        exact j_16 _ _ _ _ ⟨1, rfl, Or.inr ⟨1, (Nat.le_of_ble_eq_true rfl), rfl⟩, hP, hD, hS, lv_sub hl [0, 1, 2, 3] rfl⟩
      · have c_17 : ¬ g_4 = 0 := fun z => c_17 ((nI_eq (a := g_4) (b := 0) (Nat.lt_of_le_of_lt hg_4 (Nat.le_of_ble_eq_true rfl)) (Nat.le_of_ble_eq_true rfl)).mpr z)
        refine lv_iload_n hx hb eX7_setAll_41 rfl (lv_at hl 2 rfl) ?_
        refine lv_iload_n hx hb eX7_setAll_42 rfl (lv_at hl 3 rfl) ?_
        refine lv_icmp_ne (tgt := 50) hx hb eX7_setAll_43 (by decide) (fun c_18 => ?_) (fun c_18 => ?_)
        · have c_18 : ¬ g_4 = g_10 := fun z => c_18 ((nI_eq (a := g_4) (b := g_10) (Nat.lt_of_le_of_lt hg_4 (Nat.le_of_ble_eq_true rfl)) (Nat.lt_of_le_of_lt hg_10 (Nat.le_of_ble_eq_true rfl))).mpr z)
          refine lv_ldc hx hb hown v_3 eX7_setAll_50 ?_
          exact j_16 _ _ _ _ ⟨2147483647, rfl, Or.inr ⟨2147483647, (Nat.le_of_ble_eq_true rfl), rfl⟩, hP, hD, hS, lv_sub hl [0, 1, 2, 3] rfl⟩
        · have c_18 : g_4 = g_10 := (nI_eq (a := g_4) (b := g_10) (Nat.lt_of_le_of_lt hg_4 (Nat.le_of_ble_eq_true rfl)) (Nat.lt_of_le_of_lt hg_10 (Nat.le_of_ble_eq_true rfl))).mp c_18
          refine lv_iconst (v := 1) hx hb eX7_setAll_46 (by decide) ?_
          refine lv_goto (tgt := 52) hx hb eX7_setAll_47 (by decide) ?_
          exact j_16 _ _ _ _ ⟨1, rfl, Or.inr ⟨1, (Nat.le_of_ble_eq_true rfl), rfl⟩, hP, hD, hS, lv_sub hl [0, 1, 2, 3] rfl⟩
theorem eX7_copyOf_0 : decode cX7_copyOf 0 = .ok (.aload_n 0, 1) := by decide +kernel
theorem eX7_copyOf_1 : decode cX7_copyOf 1 = .ok (.aload_n 1, 1) := by decide +kernel
theorem eX7_copyOf_2 : decode cX7_copyOf 2 = .ok (.getfield 18, 3) := by decide +kernel
theorem eX7_copyOf_5 : decode cX7_copyOf 5 = .ok (.putfield 18, 3) := by decide +kernel
theorem eX7_copyOf_8 : decode cX7_copyOf 8 = .ok (.iconst 0, 1) := by decide +kernel
theorem eX7_copyOf_9 : decode cX7_copyOf 9 = .ok (.istore_n 2, 1) := by decide +kernel
theorem eX7_copyOf_10 : decode cX7_copyOf 10 = .ok (.iload_n 2, 1) := by decide +kernel
theorem eX7_copyOf_11 : decode cX7_copyOf 11 = .ok (.aload_n 0, 1) := by decide +kernel
theorem eX7_copyOf_12 : decode cX7_copyOf 12 = .ok (.getfield 18, 3) := by decide +kernel
theorem eX7_copyOf_15 : decode cX7_copyOf 15 = .ok (.aload_n 0, 1) := by decide +kernel
theorem eX7_copyOf_16 : decode cX7_copyOf 16 = .ok (.getfield 18, 3) := by decide +kernel
theorem eX7_copyOf_19 : decode cX7_copyOf 19 = .ok (.imul, 1) := by decide +kernel
theorem eX7_copyOf_20 : decode cX7_copyOf 20 = .ok (.if_icmp .ge 21, 3) := by decide +kernel
theorem eX7_copyOf_23 : decode cX7_copyOf 23 = .ok (.aload_n 0, 1) := by decide +kernel
theorem eX7_copyOf_24 : decode cX7_copyOf 24 = .ok (.getfield 11, 3) := by decide +kernel
theorem eX7_copyOf_27 : decode cX7_copyOf 27 = .ok (.iload_n 2, 1) := by decide +kernel
theorem eX7_copyOf_28 : decode cX7_copyOf 28 = .ok (.aload_n 1, 1) := by decide +kernel
theorem eX7_copyOf_29 : decode cX7_copyOf 29 = .ok (.getfield 11, 3) := by decide +kernel
theorem eX7_copyOf_32 : decode cX7_copyOf 32 = .ok (.iload_n 2, 1) := by decide +kernel
theorem eX7_copyOf_33 : decode cX7_copyOf 33 = .ok (.iaload, 1) := by decide +kernel
theorem eX7_copyOf_34 : decode cX7_copyOf 34 = .ok (.iastore, 1) := by decide +kernel
theorem eX7_copyOf_35 : decode cX7_copyOf 35 = .ok (.iinc 2 1, 3) := by decide +kernel
theorem eX7_copyOf_38 : decode cX7_copyOf 38 = .ok (.goto (-28), 3) := by decide +kernel
theorem eX7_copyOf_41 : decode cX7_copyOf 41 = .ok (.return_, 1) := by decide +kernel
abbrev vs_C_7_copyOf_16 : List Cond := .code yX7_copyOf cX7_copyOf 3 none :: CM
set_option maxHeartbeats 4000000 in
set_option maxRecDepth 100000 in
theorem c_C_7_copyOf_16 (l : Launch) (dC : Nat → ClassId) (dI : Nat → Nat → Nat) (sz : Nat) (zo : Nat) (zd : Nat) (zm : Nat) (k_fo : ClassId) (fo : Nat → Int32) (z : Nat) (zc : Nat) (zn : Nat) (k_fz : ClassId) (fz : Nat → Int32) (hzm : zm ≤ 4) (hzn : zn ≤ 4) : Met l yX7_copyOf vs_C_7_copyOf_16 ({ frames := 0, cells := 0, slots := 0, locals := 0 }) (va_Pc [.ref z, .ref zo] (pu_B (dC, dI) (zz16__w zo zd (nI zm) k_fo fo z zc (nI zn) k_fz fz) (zz16__t k_fo k_fz) sz)) (va_Qv (fun (_ : Unit) => True) (fun _ t => ∃ (z_fz : Nat → Int32), pu_E (dC, dI) (zz16__w zo zd (nI zm) k_fo fo z zc (nI zm) k_fz z_fz) (zz16__t k_fo k_fz) (va_A ((zz16__w zo zd (nI zm) k_fo fo z zc (nI zn) k_fz fz)) sz) t) (va_A ((zz16__w zo zd (nI zm) k_fo fo z zc (nI zn) k_fz fz)) sz)) 0 0 (va_A ((zz16__w zo zd (nI zm) k_fo fo z zc (nI zn) k_fz fz)) sz) := by
  refine Met.ofW (cc := cX7_copyOf) (maxL := 3) (ret := none) (by decide) rfl ?_
  intro p e s m args below meth c s₁ B hml hv
  obtain ⟨rfl, rfl, hP, hK, hD0⟩ := hv
  have hx := B.exec
  have hb := B.bytes
  have hr := B.returns
  have hts := atoms_spec (ws := vs_C_7_copyOf_16) B.pre
  have v_1 := hts (.fieldLink RX7 18 "ClockReach$Zone" "size" "I") (List.mem_cons_of_mem _ cm_48)
  have v_2 := hts (.fieldLink RX7 11 "ClockReach$Zone" "cells" "[I") (List.mem_cons_of_mem _ cm_47)
  have hown : s.vm.findClass RX7 = some m.cls := findClass_of_methodNamed B.named
  have hlocks := B.notSynchronized
  have hiX7 : ∀ w ∈ wsX70, w ∈ vs_C_7_copyOf_16 := fun _ h => List.mem_cons_of_mem _ (cm_X7 h)
  have hD := hD0.self (sz := s.heap.size)
  generalize hAe : va_A ((zz16__w zo zd (nI zm) k_fo fo z zc (nI zn) k_fz fz)) s.heap.size = A at hD ⊢
  have hA : ∀ q : Nat, s.heap.size ≤ q → A q := fun q h => by rw [← hAe]; exact Or.inr h
  have hS : va_S A s.heap s.heap [] := va_S.rf
  have hl := lv_entry ([.ref z, .ref zo]) (n := 3) (Nat.le_of_ble_eq_true rfl)
  rw [lg_entry_eq]
  generalize (lg_sl ([.ref z, .ref zo]) ++ List.replicate (3 - (lg_sl ([.ref z, .ref zo])).length) Slot.unset).toArray = ls at hl ⊢
  have hl : lv_has ls 3 [(0, .ref z), (1, .ref zo)] := hl
  have hzz := zz4 hzn
  have hzy := zz4 hzm
  refine lv_aload_n hx hb eX7_copyOf_0 rfl (lv_at hl 0 rfl) ?_
  refine lv_aload_n hx hb eX7_copyOf_1 rfl (lv_at hl 1 rfl) ?_
  refine va_get (D := (dC, dI)) (ci := 7) (v := .int (nI zm)) (C := RX7) (T := TX7) (N := 2) hx hb hts hiX7 hown hK hP 0 rfl rfl 1 (by decide) v_1 (fun _ h9 => h9) rfl eX7_copyOf_2 ?_
  refine va_put (D := (dC, dI)) (ci := 7) (v := .int (nI zm)) (ty := .int) (C := RX7) (T := TX7) (N := 2) hx hb hts hiX7 tyX7 tyX7_ok nmX7 hown hK hP hD hS 2 rfl rfl 1 (by decide) v_1 (fun _ h9 => h9) rfl (by decide +kernel) rfl rfl (Nat.le_of_ble_eq_true rfl) eX7_copyOf_5 (fun H locs hP hD hS => ?_)
  have hP : va_P (dC, dI) vwCl (zz16__w zo zd (nI zm) k_fo fo z zc (nI zm) k_fz fz) H := hP
  have hD : va_D A (zz16__w zo zd (nI zm) k_fo fo z zc (nI zm) k_fz fz) := hD
  refine lv_iconst (v := 0) hx hb eX7_copyOf_8 (by decide) ?_
  refine lv_istore_n (lv' := [(2, .int 0), (0, .ref z), (1, .ref zo)]) hx hb eX7_copyOf_9 rfl hl (by decide) rfl (fun ls hl => ?_)
  refine pu_while (fun nn H locs ls => ∃ (g_3 : Nat → Int32) (g_4 : Nat), nn = 16 - g_4 ∧ g_4 ≤ 16 ∧ va_P (dC, dI) vwCl (zz16__w zo zd (nI zm) k_fo fo z zc (nI zm) k_fz g_3) H ∧ va_D A (zz16__w zo zd (nI zm) k_fo fo z zc (nI zm) k_fz g_3) ∧ va_S A s.heap H locs ∧ lv_has ls 3 [(0, .ref z), (1, .ref zo), (2, .int (nI g_4))]) 10 ?_ _ _ _ _ ⟨fz, 0, rfl, (Nat.le_of_ble_eq_true rfl), hP, hD, hS, lv_sub hl [1, 2, 0] rfl⟩
  rintro nn ih_5 H locs ls ⟨g_3, g_4, rfl, hg_4, hP, hD, hS, hl⟩
  refine lv_iload_n hx hb eX7_copyOf_10 rfl (lv_at hl 2 rfl) ?_
  refine lv_aload_n hx hb eX7_copyOf_11 rfl (lv_at hl 0 rfl) ?_
  refine va_get (D := (dC, dI)) (ci := 7) (v := .int (nI zm)) (C := RX7) (T := TX7) (N := 2) hx hb hts hiX7 hown hK hP 2 rfl rfl 1 (by decide) v_1 (fun _ h9 => h9) rfl eX7_copyOf_12 ?_
  refine lv_aload_n hx hb eX7_copyOf_15 rfl (lv_at hl 0 rfl) ?_
  refine va_get (D := (dC, dI)) (ci := 7) (v := .int (nI zm)) (C := RX7) (T := TX7) (N := 2) hx hb hts hiX7 hown hK hP 2 rfl rfl 1 (by decide) v_1 (fun _ h9 => h9) rfl eX7_copyOf_16 ?_
  refine lv_imul hx hb eX7_copyOf_19 ?_
  refine lv_topi (fun y_6 ey_6 => ?_)
  obtain rfl : y_6 = (nI (zm * zm)) := ey_6.trans (pk_mul zm zm)
  refine lv_icmp_ge (tgt := 41) hx hb eX7_copyOf_20 (by decide) (fun c_7 => ?_) (fun c_7 => ?_)
  · have c_7 : (zm * zm) ≤ g_4 := (nI_leI (a := (zm * zm)) (b := g_4) (by omega) (Nat.lt_of_le_of_lt hg_4 (Nat.le_of_ble_eq_true rfl))).mp c_7
    exact W.vret hx hb hr (fun t ht hW => ⟨⟨(), rfl, trivial, ⟨g_3, ⟨by rw [ht]; exact hP, va_K.moved hW.alike hK, hD⟩⟩⟩, hS.F ht⟩) hS.2.2 eX7_copyOf_41
  · have c_7 : ¬ (zm * zm) ≤ g_4 := fun z => c_7 ((nI_leI (a := (zm * zm)) (b := g_4) (by omega) (Nat.lt_of_le_of_lt hg_4 (Nat.le_of_ble_eq_true rfl))).mpr z)
    refine lv_aload_n hx hb eX7_copyOf_23 rfl (lv_at hl 0 rfl) ?_
    refine va_get (D := (dC, dI)) (ci := 7) (v := .ref zc) (C := RX7) (T := TX7) (N := 2) hx hb hts hiX7 hown hK hP 2 rfl rfl 0 (by decide) v_2 (fun _ h9 => h9) rfl eX7_copyOf_24 ?_
    refine lv_iload_n hx hb eX7_copyOf_27 rfl (lv_at hl 2 rfl) ?_
    refine lv_aload_n hx hb eX7_copyOf_28 rfl (lv_at hl 1 rfl) ?_
    refine va_get (D := (dC, dI)) (ci := 7) (v := .ref zd) (C := RX7) (T := TX7) (N := 2) hx hb hts hiX7 hown hK hP 0 rfl rfl 0 (by decide) v_2 (fun _ h9 => h9) rfl eX7_copyOf_29 ?_
    refine lv_iload_n hx hb eX7_copyOf_32 rfl (lv_at hl 2 rfl) ?_
    refine va_iald hx hb hK hP 1 0 rfl rfl (vp_in_nI (n := g_4) (by omega) (Nat.le_of_ble_eq_true rfl)) eX7_copyOf_33 ?_
    refine lv_topi (fun y_8 ey_8 => ?_)
    refine va_iast hx hb hK hP hD hS 3 1 rfl rfl (vp_in_nI (n := g_4) (by omega) (Nat.le_of_ble_eq_true rfl)) eX7_copyOf_34 (fun H locs hP hD hS => ?_)
    have hP : va_P (dC, dI) vwCl (zz16__w zo zd (nI zm) k_fo fo z zc (nI zm) k_fz (upd g_3 ((nI g_4) : Int32).toNatClampNeg y_8)) H := hP
    have hD : va_D A (zz16__w zo zd (nI zm) k_fo fo z zc (nI zm) k_fz (upd g_3 ((nI g_4) : Int32).toNatClampNeg y_8)) := hD
    refine lv_iinc (v := (nI (g_4 + 1))) (lv' := [(2, .int (nI (g_4 + 1))), (0, .ref z), (1, .ref zo)]) hx hb eX7_copyOf_35 hl (k := 2) rfl (nI_1 _) (by decide) rfl (fun ls hl => ?_)
    refine lv_goto (tgt := 10) hx hb eX7_copyOf_38 (by decide) ?_
    exact ih_5 (16 - (g_4 + 1)) (by omega) _ _ _ ⟨(upd g_3 ((nI g_4) : Int32).toNatClampNeg y_8), (g_4 + 1), rfl, (by omega), hP, hD, hS, lv_sub hl [1, 2, 0] rfl⟩
theorem eX7_narrow_0 : decode cX7_narrow 0 = .ok (.iload_n 3, 1) := by decide +kernel
theorem eX7_narrow_1 : decode cX7_narrow 1 = .ok (.aload_n 0, 1) := by decide +kernel
theorem eX7_narrow_2 : decode cX7_narrow 2 = .ok (.getfield 11, 3) := by decide +kernel
theorem eX7_narrow_5 : decode cX7_narrow 5 = .ok (.iload_n 1, 1) := by decide +kernel
theorem eX7_narrow_6 : decode cX7_narrow 6 = .ok (.aload_n 0, 1) := by decide +kernel
theorem eX7_narrow_7 : decode cX7_narrow 7 = .ok (.getfield 18, 3) := by decide +kernel
theorem eX7_narrow_10 : decode cX7_narrow 10 = .ok (.imul, 1) := by decide +kernel
theorem eX7_narrow_11 : decode cX7_narrow 11 = .ok (.iload_n 2, 1) := by decide +kernel
theorem eX7_narrow_12 : decode cX7_narrow 12 = .ok (.iadd, 1) := by decide +kernel
theorem eX7_narrow_13 : decode cX7_narrow 13 = .ok (.iaload, 1) := by decide +kernel
theorem eX7_narrow_14 : decode cX7_narrow 14 = .ok (.if_icmp .lt 5, 3) := by decide +kernel
theorem eX7_narrow_17 : decode cX7_narrow 17 = .ok (.iconst 1, 1) := by decide +kernel
theorem eX7_narrow_18 : decode cX7_narrow 18 = .ok (.ireturn, 1) := by decide +kernel
theorem eX7_narrow_19 : decode cX7_narrow 19 = .ok (.aload_n 0, 1) := by decide +kernel
theorem eX7_narrow_20 : decode cX7_narrow 20 = .ok (.getfield 11, 3) := by decide +kernel
theorem eX7_narrow_23 : decode cX7_narrow 23 = .ok (.iload_n 2, 1) := by decide +kernel
theorem eX7_narrow_24 : decode cX7_narrow 24 = .ok (.aload_n 0, 1) := by decide +kernel
theorem eX7_narrow_25 : decode cX7_narrow 25 = .ok (.getfield 18, 3) := by decide +kernel
theorem eX7_narrow_28 : decode cX7_narrow 28 = .ok (.imul, 1) := by decide +kernel
theorem eX7_narrow_29 : decode cX7_narrow 29 = .ok (.iload_n 1, 1) := by decide +kernel
theorem eX7_narrow_30 : decode cX7_narrow 30 = .ok (.iadd, 1) := by decide +kernel
theorem eX7_narrow_31 : decode cX7_narrow 31 = .ok (.iaload, 1) := by decide +kernel
theorem eX7_narrow_32 : decode cX7_narrow 32 = .ok (.istore 4, 2) := by decide +kernel
theorem eX7_narrow_34 : decode cX7_narrow 34 = .ok (.iload 4, 2) := by decide +kernel
theorem eX7_narrow_36 : decode cX7_narrow 36 = .ok (.ldc 17, 2) := by decide +kernel
theorem eX7_narrow_38 : decode cX7_narrow 38 = .ok (.if_icmp .eq 20, 3) := by decide +kernel
theorem eX7_narrow_41 : decode cX7_narrow 41 = .ok (.iload 4, 2) := by decide +kernel
theorem eX7_narrow_43 : decode cX7_narrow 43 = .ok (.iload_n 3, 1) := by decide +kernel
theorem eX7_narrow_44 : decode cX7_narrow 44 = .ok (.iadd, 1) := by decide +kernel
theorem eX7_narrow_45 : decode cX7_narrow 45 = .ok (.iload 4, 2) := by decide +kernel
theorem eX7_narrow_47 : decode cX7_narrow 47 = .ok (.iload_n 3, 1) := by decide +kernel
theorem eX7_narrow_48 : decode cX7_narrow 48 = .ok (.ior, 1) := by decide +kernel
theorem eX7_narrow_49 : decode cX7_narrow 49 = .ok (.iconst 1, 1) := by decide +kernel
theorem eX7_narrow_50 : decode cX7_narrow 50 = .ok (.iand, 1) := by decide +kernel
theorem eX7_narrow_51 : decode cX7_narrow 51 = .ok (.isub, 1) := by decide +kernel
theorem eX7_narrow_52 : decode cX7_narrow 52 = .ok (.iconst 1, 1) := by decide +kernel
theorem eX7_narrow_53 : decode cX7_narrow 53 = .ok (.if_icmp .ge 5, 3) := by decide +kernel
theorem eX7_narrow_56 : decode cX7_narrow 56 = .ok (.iconst 0, 1) := by decide +kernel
theorem eX7_narrow_57 : decode cX7_narrow 57 = .ok (.ireturn, 1) := by decide +kernel
theorem eX7_narrow_58 : decode cX7_narrow 58 = .ok (.iconst 0, 1) := by decide +kernel
theorem eX7_narrow_59 : decode cX7_narrow 59 = .ok (.istore 5, 2) := by decide +kernel
theorem eX7_narrow_61 : decode cX7_narrow 61 = .ok (.iload 5, 2) := by decide +kernel
theorem eX7_narrow_63 : decode cX7_narrow 63 = .ok (.aload_n 0, 1) := by decide +kernel
theorem eX7_narrow_64 : decode cX7_narrow 64 = .ok (.getfield 18, 3) := by decide +kernel
theorem eX7_narrow_67 : decode cX7_narrow 67 = .ok (.if_icmp .ge 144, 3) := by decide +kernel
theorem eX7_narrow_70 : decode cX7_narrow 70 = .ok (.aload_n 0, 1) := by decide +kernel
theorem eX7_narrow_71 : decode cX7_narrow 71 = .ok (.getfield 11, 3) := by decide +kernel
theorem eX7_narrow_74 : decode cX7_narrow 74 = .ok (.iload 5, 2) := by decide +kernel
theorem eX7_narrow_76 : decode cX7_narrow 76 = .ok (.aload_n 0, 1) := by decide +kernel
theorem eX7_narrow_77 : decode cX7_narrow 77 = .ok (.getfield 18, 3) := by decide +kernel
theorem eX7_narrow_80 : decode cX7_narrow 80 = .ok (.imul, 1) := by decide +kernel
theorem eX7_narrow_81 : decode cX7_narrow 81 = .ok (.iload_n 1, 1) := by decide +kernel
theorem eX7_narrow_82 : decode cX7_narrow 82 = .ok (.iadd, 1) := by decide +kernel
theorem eX7_narrow_83 : decode cX7_narrow 83 = .ok (.iaload, 1) := by decide +kernel
theorem eX7_narrow_84 : decode cX7_narrow 84 = .ok (.istore 6, 2) := by decide +kernel
theorem eX7_narrow_86 : decode cX7_narrow 86 = .ok (.iload 6, 2) := by decide +kernel
theorem eX7_narrow_88 : decode cX7_narrow 88 = .ok (.ldc 17, 2) := by decide +kernel
theorem eX7_narrow_90 : decode cX7_narrow 90 = .ok (.if_icmp .ne 6, 3) := by decide +kernel
theorem eX7_narrow_93 : decode cX7_narrow 93 = .ok (.goto 112, 3) := by decide +kernel
theorem eX7_narrow_96 : decode cX7_narrow 96 = .ok (.iload 6, 2) := by decide +kernel
theorem eX7_narrow_98 : decode cX7_narrow 98 = .ok (.iload_n 3, 1) := by decide +kernel
theorem eX7_narrow_99 : decode cX7_narrow 99 = .ok (.iadd, 1) := by decide +kernel
theorem eX7_narrow_100 : decode cX7_narrow 100 = .ok (.iload 6, 2) := by decide +kernel
theorem eX7_narrow_102 : decode cX7_narrow 102 = .ok (.iload_n 3, 1) := by decide +kernel
theorem eX7_narrow_103 : decode cX7_narrow 103 = .ok (.ior, 1) := by decide +kernel
theorem eX7_narrow_104 : decode cX7_narrow 104 = .ok (.iconst 1, 1) := by decide +kernel
theorem eX7_narrow_105 : decode cX7_narrow 105 = .ok (.iand, 1) := by decide +kernel
theorem eX7_narrow_106 : decode cX7_narrow 106 = .ok (.isub, 1) := by decide +kernel
theorem eX7_narrow_107 : decode cX7_narrow 107 = .ok (.istore 6, 2) := by decide +kernel
theorem eX7_narrow_109 : decode cX7_narrow 109 = .ok (.iconst 0, 1) := by decide +kernel
theorem eX7_narrow_110 : decode cX7_narrow 110 = .ok (.istore 7, 2) := by decide +kernel
theorem eX7_narrow_112 : decode cX7_narrow 112 = .ok (.iload 7, 2) := by decide +kernel
theorem eX7_narrow_114 : decode cX7_narrow 114 = .ok (.aload_n 0, 1) := by decide +kernel
theorem eX7_narrow_115 : decode cX7_narrow 115 = .ok (.getfield 18, 3) := by decide +kernel
theorem eX7_narrow_118 : decode cX7_narrow 118 = .ok (.if_icmp .ge 87, 3) := by decide +kernel
theorem eX7_narrow_121 : decode cX7_narrow 121 = .ok (.aload_n 0, 1) := by decide +kernel
theorem eX7_narrow_122 : decode cX7_narrow 122 = .ok (.getfield 11, 3) := by decide +kernel
theorem eX7_narrow_125 : decode cX7_narrow 125 = .ok (.iload_n 2, 1) := by decide +kernel
theorem eX7_narrow_126 : decode cX7_narrow 126 = .ok (.aload_n 0, 1) := by decide +kernel
theorem eX7_narrow_127 : decode cX7_narrow 127 = .ok (.getfield 18, 3) := by decide +kernel
theorem eX7_narrow_130 : decode cX7_narrow 130 = .ok (.imul, 1) := by decide +kernel
theorem eX7_narrow_131 : decode cX7_narrow 131 = .ok (.iload 7, 2) := by decide +kernel
theorem eX7_narrow_133 : decode cX7_narrow 133 = .ok (.iadd, 1) := by decide +kernel
theorem eX7_narrow_134 : decode cX7_narrow 134 = .ok (.iaload, 1) := by decide +kernel
theorem eX7_narrow_135 : decode cX7_narrow 135 = .ok (.istore 8, 2) := by decide +kernel
theorem eX7_narrow_137 : decode cX7_narrow 137 = .ok (.iload 8, 2) := by decide +kernel
theorem eX7_narrow_139 : decode cX7_narrow 139 = .ok (.ldc 17, 2) := by decide +kernel
theorem eX7_narrow_141 : decode cX7_narrow 141 = .ok (.if_icmp .ne 6, 3) := by decide +kernel
theorem eX7_narrow_144 : decode cX7_narrow 144 = .ok (.goto 55, 3) := by decide +kernel
theorem eX7_narrow_147 : decode cX7_narrow 147 = .ok (.iload 6, 2) := by decide +kernel
theorem eX7_narrow_149 : decode cX7_narrow 149 = .ok (.iload 8, 2) := by decide +kernel
theorem eX7_narrow_151 : decode cX7_narrow 151 = .ok (.iadd, 1) := by decide +kernel
theorem eX7_narrow_152 : decode cX7_narrow 152 = .ok (.iload 6, 2) := by decide +kernel
theorem eX7_narrow_154 : decode cX7_narrow 154 = .ok (.iload 8, 2) := by decide +kernel
theorem eX7_narrow_156 : decode cX7_narrow 156 = .ok (.ior, 1) := by decide +kernel
theorem eX7_narrow_157 : decode cX7_narrow 157 = .ok (.iconst 1, 1) := by decide +kernel
theorem eX7_narrow_158 : decode cX7_narrow 158 = .ok (.iand, 1) := by decide +kernel
theorem eX7_narrow_159 : decode cX7_narrow 159 = .ok (.isub, 1) := by decide +kernel
theorem eX7_narrow_160 : decode cX7_narrow 160 = .ok (.istore 9, 2) := by decide +kernel
theorem eX7_narrow_162 : decode cX7_narrow 162 = .ok (.iload 9, 2) := by decide +kernel
theorem eX7_narrow_164 : decode cX7_narrow 164 = .ok (.aload_n 0, 1) := by decide +kernel
theorem eX7_narrow_165 : decode cX7_narrow 165 = .ok (.getfield 11, 3) := by decide +kernel
theorem eX7_narrow_168 : decode cX7_narrow 168 = .ok (.iload 5, 2) := by decide +kernel
theorem eX7_narrow_170 : decode cX7_narrow 170 = .ok (.aload_n 0, 1) := by decide +kernel
theorem eX7_narrow_171 : decode cX7_narrow 171 = .ok (.getfield 18, 3) := by decide +kernel
theorem eX7_narrow_174 : decode cX7_narrow 174 = .ok (.imul, 1) := by decide +kernel
theorem eX7_narrow_175 : decode cX7_narrow 175 = .ok (.iload 7, 2) := by decide +kernel
theorem eX7_narrow_177 : decode cX7_narrow 177 = .ok (.iadd, 1) := by decide +kernel
theorem eX7_narrow_178 : decode cX7_narrow 178 = .ok (.iaload, 1) := by decide +kernel
theorem eX7_narrow_179 : decode cX7_narrow 179 = .ok (.if_icmp .ge 20, 3) := by decide +kernel
theorem eX7_narrow_182 : decode cX7_narrow 182 = .ok (.aload_n 0, 1) := by decide +kernel
theorem eX7_narrow_183 : decode cX7_narrow 183 = .ok (.getfield 11, 3) := by decide +kernel
theorem eX7_narrow_186 : decode cX7_narrow 186 = .ok (.iload 5, 2) := by decide +kernel
theorem eX7_narrow_188 : decode cX7_narrow 188 = .ok (.aload_n 0, 1) := by decide +kernel
theorem eX7_narrow_189 : decode cX7_narrow 189 = .ok (.getfield 18, 3) := by decide +kernel
theorem eX7_narrow_192 : decode cX7_narrow 192 = .ok (.imul, 1) := by decide +kernel
theorem eX7_narrow_193 : decode cX7_narrow 193 = .ok (.iload 7, 2) := by decide +kernel
theorem eX7_narrow_195 : decode cX7_narrow 195 = .ok (.iadd, 1) := by decide +kernel
theorem eX7_narrow_196 : decode cX7_narrow 196 = .ok (.iload 9, 2) := by decide +kernel
theorem eX7_narrow_198 : decode cX7_narrow 198 = .ok (.iastore, 1) := by decide +kernel
theorem eX7_narrow_199 : decode cX7_narrow 199 = .ok (.iinc 7 1, 3) := by decide +kernel
theorem eX7_narrow_202 : decode cX7_narrow 202 = .ok (.goto (-90), 3) := by decide +kernel
theorem eX7_narrow_205 : decode cX7_narrow 205 = .ok (.iinc 5 1, 3) := by decide +kernel
theorem eX7_narrow_208 : decode cX7_narrow 208 = .ok (.goto (-147), 3) := by decide +kernel
theorem eX7_narrow_211 : decode cX7_narrow 211 = .ok (.iconst 1, 1) := by decide +kernel
theorem eX7_narrow_212 : decode cX7_narrow 212 = .ok (.ireturn, 1) := by decide +kernel
abbrev vs_C_7_narrow_16 : List Cond := .code yX7_narrow cX7_narrow 10 (some .boolean) :: CM
set_option maxHeartbeats 4000000 in
set_option maxRecDepth 100000 in
theorem c_C_7_narrow_16 (l : Launch) (dC : Nat → ClassId) (dI : Nat → Nat → Nat) (sz : Nat) (z : Nat) (zc : Nat) (zn : Nat) (k_fz : ClassId) (fz : Nat → Int32) (a0 : Nat) (a1 : Nat) (p2 : Int32) (hzn : zn ≤ 4) (ha0 : a0 ≤ 3) (ha1 : a1 ≤ 3) : Met l yX7_narrow vs_C_7_narrow_16 ({ frames := 0, cells := 0, slots := 0, locals := 0 }) (va_Pc [.ref z, .int (nI a0), .int (nI a1), .int p2] (pu_B (dC, dI) (z16__w z zc (nI zn) k_fz fz) (z16__t k_fz) sz)) (va_Qi (fun (r : Int32) (_ : Unit) => ∃ v : Nat, v ≤ 1 ∧ r = nI v) (fun _ t => ∃ (z_fz : Nat → Int32), pu_E (dC, dI) (z16__w z zc (nI zn) k_fz z_fz) (z16__t k_fz) (va_A ((z16__w z zc (nI zn) k_fz fz)) sz) t) (va_A ((z16__w z zc (nI zn) k_fz fz)) sz)) 0 0 (va_A ((z16__w z zc (nI zn) k_fz fz)) sz) := by
  refine Met.ofW (cc := cX7_narrow) (maxL := 10) (ret := (some .boolean)) (by decide) rfl ?_
  intro p e s m args below meth c s₁ B hml hv
  obtain ⟨rfl, rfl, hP, hK, hD0⟩ := hv
  have hx := B.exec
  have hb := B.bytes
  have hr := B.returns
  have hts := atoms_spec (ws := vs_C_7_narrow_16) B.pre
  have v_1 := hts (.fieldLink RX7 11 "ClockReach$Zone" "cells" "[I") (List.mem_cons_of_mem _ cm_47)
  have v_2 := hts (.fieldLink RX7 18 "ClockReach$Zone" "size" "I") (List.mem_cons_of_mem _ cm_48)
  have v_3 := hts (.constant RX7 17 (2147483647)) (List.mem_cons_of_mem _ cm_49)
  have hown : s.vm.findClass RX7 = some m.cls := findClass_of_methodNamed B.named
  have hlocks := B.notSynchronized
  have hiX7 : ∀ w ∈ wsX70, w ∈ vs_C_7_narrow_16 := fun _ h => List.mem_cons_of_mem _ (cm_X7 h)
  have hD := hD0.self (sz := s.heap.size)
  generalize hAe : va_A ((z16__w z zc (nI zn) k_fz fz)) s.heap.size = A at hD ⊢
  have hA : ∀ q : Nat, s.heap.size ≤ q → A q := fun q h => by rw [← hAe]; exact Or.inr h
  have hS : va_S A s.heap s.heap [] := va_S.rf
  have hl := lv_entry ([.ref z, .int (nI a0), .int (nI a1), .int p2]) (n := 10) (Nat.le_of_ble_eq_true rfl)
  rw [lg_entry_eq]
  generalize (lg_sl ([.ref z, .int (nI a0), .int (nI a1), .int p2]) ++ List.replicate (10 - (lg_sl ([.ref z, .int (nI a0), .int (nI a1), .int p2])).length) Slot.unset).toArray = ls at hl ⊢
  have hl : lv_has ls 10 [(0, .ref z), (1, .int (nI a0)), (2, .int (nI a1)), (3, .int p2)] := hl
  have hzz := zz4 hzn
  refine lv_iload_n hx hb eX7_narrow_0 rfl (lv_at hl 3 rfl) ?_
  refine lv_aload_n hx hb eX7_narrow_1 rfl (lv_at hl 0 rfl) ?_
  refine va_get (D := (dC, dI)) (ci := 7) (v := .ref zc) (C := RX7) (T := TX7) (N := 2) hx hb hts hiX7 hown hK hP 0 rfl rfl 0 (by decide) v_1 (fun _ h9 => h9) rfl eX7_narrow_2 ?_
  refine lv_iload_n hx hb eX7_narrow_5 rfl (lv_at hl 1 rfl) ?_
  refine lv_aload_n hx hb eX7_narrow_6 rfl (lv_at hl 0 rfl) ?_
  refine va_get (D := (dC, dI)) (ci := 7) (v := .int (nI zn)) (C := RX7) (T := TX7) (N := 2) hx hb hts hiX7 hown hK hP 0 rfl rfl 1 (by decide) v_2 (fun _ h9 => h9) rfl eX7_narrow_7 ?_
  refine lv_imul hx hb eX7_narrow_10 ?_
  refine lv_topi (fun y_1 ey_1 => ?_)
  obtain rfl : y_1 = (nI (a0 * zn)) := ey_1.trans (pk_mul a0 zn)
  refine lv_iload_n hx hb eX7_narrow_11 rfl (lv_at hl 2 rfl) ?_
  refine lv_iadd hx hb eX7_narrow_12 ?_
  refine lv_topi (fun y_2 ey_2 => ?_)
  obtain rfl : y_2 = (nI ((a0 * zn) + a1)) := ey_2.trans (nI_add (a0 * zn) a1)
  refine va_iald hx hb hK hP 1 0 rfl rfl (vp_in_nI (n := ((a0 * zn) + a1)) (by first | exact zx16 (by omega) (by omega) (by omega) | exact zy16 (by omega) (by omega) | omega) (Nat.le_of_ble_eq_true rfl)) eX7_narrow_13 ?_
  refine lv_topi (fun y_3 ey_3 => ?_)
  refine lv_icmp_lt (tgt := 19) hx hb eX7_narrow_14 (by decide) (fun c_4 => ?_) (fun c_4 => ?_)
  · refine lv_aload_n hx hb eX7_narrow_19 rfl (lv_at hl 0 rfl) ?_
    refine va_get (D := (dC, dI)) (ci := 7) (v := .ref zc) (C := RX7) (T := TX7) (N := 2) hx hb hts hiX7 hown hK hP 0 rfl rfl 0 (by decide) v_1 (fun _ h9 => h9) rfl eX7_narrow_20 ?_
    refine lv_iload_n hx hb eX7_narrow_23 rfl (lv_at hl 2 rfl) ?_
    refine lv_aload_n hx hb eX7_narrow_24 rfl (lv_at hl 0 rfl) ?_
    refine va_get (D := (dC, dI)) (ci := 7) (v := .int (nI zn)) (C := RX7) (T := TX7) (N := 2) hx hb hts hiX7 hown hK hP 0 rfl rfl 1 (by decide) v_2 (fun _ h9 => h9) rfl eX7_narrow_25 ?_
    refine lv_imul hx hb eX7_narrow_28 ?_
    refine lv_topi (fun y_5 ey_5 => ?_)
    obtain rfl : y_5 = (nI (a1 * zn)) := ey_5.trans (pk_mul a1 zn)
    refine lv_iload_n hx hb eX7_narrow_29 rfl (lv_at hl 1 rfl) ?_
    refine lv_iadd hx hb eX7_narrow_30 ?_
    refine lv_topi (fun y_6 ey_6 => ?_)
    obtain rfl : y_6 = (nI ((a1 * zn) + a0)) := ey_6.trans (nI_add (a1 * zn) a0)
    refine va_iald hx hb hK hP 1 0 rfl rfl (vp_in_nI (n := ((a1 * zn) + a0)) (by first | exact zx16 (by omega) (by omega) (by omega) | exact zy16 (by omega) (by omega) | omega) (Nat.le_of_ble_eq_true rfl)) eX7_narrow_31 ?_
    refine lv_topi (fun y_7 ey_7 => ?_)
    refine lv_istore (lv' := [(4, .int y_7), (0, .ref z), (1, .int (nI a0)), (2, .int (nI a1)), (3, .int p2)]) hx hb eX7_narrow_32 hl (by decide) rfl (fun ls hl => ?_)
    refine lv_iload hx hb eX7_narrow_34 (lv_at hl 0 rfl) ?_
    refine lv_ldc hx hb hown v_3 eX7_narrow_36 ?_
    refine lv_icmp_eq (tgt := 58) hx hb eX7_narrow_38 (by decide) (fun c_8 => ?_) (fun c_8 => ?_)
    · refine lv_iconst (v := 0) hx hb eX7_narrow_58 (by decide) ?_
      refine lv_istore (lv' := [(5, .int 0), (4, .int y_7), (0, .ref z), (1, .int (nI a0)), (2, .int (nI a1)), (3, .int p2)]) hx hb eX7_narrow_59 hl (by decide) rfl (fun ls hl => ?_)
      refine pu_while (fun nn H locs ls => ∃ (g_11 : Nat → Int32) (g_12 : Nat), nn = 4 - g_12 ∧ g_12 ≤ 4 ∧ va_P (dC, dI) vwCl (z16__w z zc (nI zn) k_fz g_11) H ∧ va_D A (z16__w z zc (nI zn) k_fz g_11) ∧ va_S A s.heap H locs ∧ lv_has ls 10 [(0, .ref z), (1, .int (nI a0)), (2, .int (nI a1)), (3, .int p2), (4, .int y_7), (5, .int (nI g_12))]) 61 ?_ _ _ _ _ ⟨fz, 0, rfl, (Nat.le_of_ble_eq_true rfl), hP, hD, hS, lv_sub hl [2, 3, 4, 5, 1, 0] rfl⟩
      rintro nn ih_13 H locs ls ⟨g_11, g_12, rfl, hg_12, hP, hD, hS, hl⟩
      refine lv_iload hx hb eX7_narrow_61 (lv_at hl 5 rfl) ?_
      refine lv_aload_n hx hb eX7_narrow_63 rfl (lv_at hl 0 rfl) ?_
      refine va_get (D := (dC, dI)) (ci := 7) (v := .int (nI zn)) (C := RX7) (T := TX7) (N := 2) hx hb hts hiX7 hown hK hP 0 rfl rfl 1 (by decide) v_2 (fun _ h9 => h9) rfl eX7_narrow_64 ?_
      refine lv_icmp_ge (tgt := 211) hx hb eX7_narrow_67 (by decide) (fun c_14 => ?_) (fun c_14 => ?_)
      · have c_14 : zn ≤ g_12 := (nI_leI (a := zn) (b := g_12) (Nat.lt_of_le_of_lt hzn (Nat.le_of_ble_eq_true rfl)) (Nat.lt_of_le_of_lt hg_12 (Nat.le_of_ble_eq_true rfl))).mp c_14
        refine lv_iconst (v := 1) hx hb eX7_narrow_211 (by decide) ?_
        exact W.zret (v := 1) (ty := .boolean) hx hb hr (rfl) (fun t ht hW => ⟨⟨1, (), rfl, ⟨1, (Nat.le_of_ble_eq_true rfl), rfl⟩, ⟨g_11, ⟨by rw [ht]; exact hP, va_K.moved hW.alike hK, hD⟩⟩⟩, hS.F ht⟩) hS.2.2 eX7_narrow_212
      · have c_14 : ¬ zn ≤ g_12 := fun z => c_14 ((nI_leI (a := zn) (b := g_12) (Nat.lt_of_le_of_lt hzn (Nat.le_of_ble_eq_true rfl)) (Nat.lt_of_le_of_lt hg_12 (Nat.le_of_ble_eq_true rfl))).mpr z)
        refine lv_aload_n hx hb eX7_narrow_70 rfl (lv_at hl 0 rfl) ?_
        refine va_get (D := (dC, dI)) (ci := 7) (v := .ref zc) (C := RX7) (T := TX7) (N := 2) hx hb hts hiX7 hown hK hP 0 rfl rfl 0 (by decide) v_1 (fun _ h9 => h9) rfl eX7_narrow_71 ?_
        refine lv_iload hx hb eX7_narrow_74 (lv_at hl 5 rfl) ?_
        refine lv_aload_n hx hb eX7_narrow_76 rfl (lv_at hl 0 rfl) ?_
        refine va_get (D := (dC, dI)) (ci := 7) (v := .int (nI zn)) (C := RX7) (T := TX7) (N := 2) hx hb hts hiX7 hown hK hP 0 rfl rfl 1 (by decide) v_2 (fun _ h9 => h9) rfl eX7_narrow_77 ?_
        refine lv_imul hx hb eX7_narrow_80 ?_
        refine lv_topi (fun y_15 ey_15 => ?_)
        obtain rfl : y_15 = (nI (g_12 * zn)) := ey_15.trans (pk_mul g_12 zn)
        refine lv_iload_n hx hb eX7_narrow_81 rfl (lv_at hl 1 rfl) ?_
        refine lv_iadd hx hb eX7_narrow_82 ?_
        refine lv_topi (fun y_16 ey_16 => ?_)
        obtain rfl : y_16 = (nI ((g_12 * zn) + a0)) := ey_16.trans (nI_add (g_12 * zn) a0)
        refine va_iald hx hb hK hP 1 0 rfl rfl (vp_in_nI (n := ((g_12 * zn) + a0)) (by first | exact zx16 (by omega) (by omega) (by omega) | exact zy16 (by omega) (by omega) | omega) (Nat.le_of_ble_eq_true rfl)) eX7_narrow_83 ?_
        refine lv_topi (fun y_17 ey_17 => ?_)
        refine lv_istore (lv' := [(6, .int y_17), (0, .ref z), (1, .int (nI a0)), (2, .int (nI a1)), (3, .int p2), (4, .int y_7), (5, .int (nI g_12))]) hx hb eX7_narrow_84 hl (by decide) rfl (fun ls hl => ?_)
        refine lv_iload hx hb eX7_narrow_86 (lv_at hl 0 rfl) ?_
        refine lv_ldc hx hb hown v_3 eX7_narrow_88 ?_
        refine pu_join (fun H locs ls st => ∃ (g_18 : Int32) (g_19 : Nat → Int32), st = [] ∧ va_P (dC, dI) vwCl (z16__w z zc (nI zn) k_fz g_19) H ∧ va_D A (z16__w z zc (nI zn) k_fz g_19) ∧ va_S A s.heap H locs ∧ lv_has ls 10 [(0, .ref z), (1, .int (nI a0)), (2, .int (nI a1)), (3, .int p2), (4, .int y_7), (5, .int (nI g_12)), (6, .int g_18)]) 205 ?_ (fun j_20 => ?_)
        · rintro H locs ls st ⟨g_18, g_19, rfl, hP, hD, hS, hl⟩
          refine lv_iinc (v := (nI (g_12 + 1))) (lv' := [(5, .int (nI (g_12 + 1))), (0, .ref z), (1, .int (nI a0)), (2, .int (nI a1)), (3, .int p2), (4, .int y_7), (6, .int g_18)]) hx hb eX7_narrow_205 hl (k := 5) rfl (nI_1 _) (by decide) rfl (fun ls hl => ?_)
          refine lv_goto (tgt := 61) hx hb eX7_narrow_208 (by decide) ?_
          exact ih_13 (4 - (g_12 + 1)) (by omega) _ _ _ ⟨g_19, (g_12 + 1), rfl, (by omega), hP, hD, hS, lv_sub hl [1, 2, 3, 4, 5, 0] rfl⟩
        refine lv_icmp_ne (tgt := 96) hx hb eX7_narrow_90 (by decide) (fun c_21 => ?_) (fun c_21 => ?_)
        · refine lv_iload hx hb eX7_narrow_96 (lv_at hl 0 rfl) ?_
          refine lv_iload_n hx hb eX7_narrow_98 rfl (lv_at hl 4 rfl) ?_
          refine lv_iadd hx hb eX7_narrow_99 ?_
          refine lv_topi (fun y_22 ey_22 => ?_)
          refine lv_iload hx hb eX7_narrow_100 (lv_at hl 0 rfl) ?_
          refine lv_iload_n hx hb eX7_narrow_102 rfl (lv_at hl 4 rfl) ?_
          refine lv_ior hx hb eX7_narrow_103 ?_
          refine lv_topi (fun y_23 ey_23 => ?_)
          refine lv_iconst (v := 1) hx hb eX7_narrow_104 (by decide) ?_
          refine lv_iand hx hb eX7_narrow_105 ?_
          refine lv_topi (fun y_24 ey_24 => ?_)
          refine lv_isub hx hb eX7_narrow_106 ?_
          refine lv_topi (fun y_25 ey_25 => ?_)
          refine lv_istore (lv' := [(6, .int y_25), (0, .ref z), (1, .int (nI a0)), (2, .int (nI a1)), (3, .int p2), (4, .int y_7), (5, .int (nI g_12))]) hx hb eX7_narrow_107 hl (by decide) rfl (fun ls hl => ?_)
          refine lv_iconst (v := 0) hx hb eX7_narrow_109 (by decide) ?_
          refine lv_istore (lv' := [(7, .int 0), (6, .int y_25), (0, .ref z), (1, .int (nI a0)), (2, .int (nI a1)), (3, .int p2), (4, .int y_7), (5, .int (nI g_12))]) hx hb eX7_narrow_110 hl (by decide) rfl (fun ls hl => ?_)
          refine pu_while (fun nn H locs ls => ∃ (g_28 : Nat → Int32) (g_29 : Nat), nn = 4 - g_29 ∧ g_29 ≤ 4 ∧ va_P (dC, dI) vwCl (z16__w z zc (nI zn) k_fz g_28) H ∧ va_D A (z16__w z zc (nI zn) k_fz g_28) ∧ va_S A s.heap H locs ∧ lv_has ls 10 [(0, .ref z), (1, .int (nI a0)), (2, .int (nI a1)), (3, .int p2), (4, .int y_7), (5, .int (nI g_12)), (6, .int y_25), (7, .int (nI g_29))]) 112 ?_ _ _ _ _ ⟨g_11, 0, rfl, (Nat.le_of_ble_eq_true rfl), hP, hD, hS, lv_sub hl [2, 3, 4, 5, 6, 7, 1, 0] rfl⟩
          rintro nn ih_30 H locs ls ⟨g_28, g_29, rfl, hg_29, hP, hD, hS, hl⟩
          refine lv_iload hx hb eX7_narrow_112 (lv_at hl 7 rfl) ?_
          refine lv_aload_n hx hb eX7_narrow_114 rfl (lv_at hl 0 rfl) ?_
          refine va_get (D := (dC, dI)) (ci := 7) (v := .int (nI zn)) (C := RX7) (T := TX7) (N := 2) hx hb hts hiX7 hown hK hP 0 rfl rfl 1 (by decide) v_2 (fun _ h9 => h9) rfl eX7_narrow_115 ?_
          refine lv_icmp_ge (tgt := 205) hx hb eX7_narrow_118 (by decide) (fun c_31 => ?_) (fun c_31 => ?_)
          · have c_31 : zn ≤ g_29 := (nI_leI (a := zn) (b := g_29) (Nat.lt_of_le_of_lt hzn (Nat.le_of_ble_eq_true rfl)) (Nat.lt_of_le_of_lt hg_29 (Nat.le_of_ble_eq_true rfl))).mp c_31
            exact j_20 _ _ _ _ ⟨y_25, g_28, rfl, hP, hD, hS, lv_sub hl [0, 1, 2, 3, 4, 5, 6] rfl⟩
          · have c_31 : ¬ zn ≤ g_29 := fun z => c_31 ((nI_leI (a := zn) (b := g_29) (Nat.lt_of_le_of_lt hzn (Nat.le_of_ble_eq_true rfl)) (Nat.lt_of_le_of_lt hg_29 (Nat.le_of_ble_eq_true rfl))).mpr z)
            refine lv_aload_n hx hb eX7_narrow_121 rfl (lv_at hl 0 rfl) ?_
            refine va_get (D := (dC, dI)) (ci := 7) (v := .ref zc) (C := RX7) (T := TX7) (N := 2) hx hb hts hiX7 hown hK hP 0 rfl rfl 0 (by decide) v_1 (fun _ h9 => h9) rfl eX7_narrow_122 ?_
            refine lv_iload_n hx hb eX7_narrow_125 rfl (lv_at hl 2 rfl) ?_
            refine lv_aload_n hx hb eX7_narrow_126 rfl (lv_at hl 0 rfl) ?_
            refine va_get (D := (dC, dI)) (ci := 7) (v := .int (nI zn)) (C := RX7) (T := TX7) (N := 2) hx hb hts hiX7 hown hK hP 0 rfl rfl 1 (by decide) v_2 (fun _ h9 => h9) rfl eX7_narrow_127 ?_
            refine lv_imul hx hb eX7_narrow_130 ?_
            refine lv_topi (fun y_32 ey_32 => ?_)
            obtain rfl : y_32 = (nI (a1 * zn)) := ey_32.trans (pk_mul a1 zn)
            refine lv_iload hx hb eX7_narrow_131 (lv_at hl 7 rfl) ?_
            refine lv_iadd hx hb eX7_narrow_133 ?_
            refine lv_topi (fun y_33 ey_33 => ?_)
            obtain rfl : y_33 = (nI ((a1 * zn) + g_29)) := ey_33.trans (nI_add (a1 * zn) g_29)
            refine va_iald hx hb hK hP 1 0 rfl rfl (vp_in_nI (n := ((a1 * zn) + g_29)) (by first | exact zx16 (by omega) (by omega) (by omega) | exact zy16 (by omega) (by omega) | omega) (Nat.le_of_ble_eq_true rfl)) eX7_narrow_134 ?_
            refine lv_topi (fun y_34 ey_34 => ?_)
            refine lv_istore (lv' := [(8, .int y_34), (0, .ref z), (1, .int (nI a0)), (2, .int (nI a1)), (3, .int p2), (4, .int y_7), (5, .int (nI g_12)), (6, .int y_25), (7, .int (nI g_29))]) hx hb eX7_narrow_135 hl (by decide) rfl (fun ls hl => ?_)
            refine lv_iload hx hb eX7_narrow_137 (lv_at hl 0 rfl) ?_
            refine lv_ldc hx hb hown v_3 eX7_narrow_139 ?_
            refine pu_join (fun H locs ls st => ∃ (g_35 : Nat → Int32), st = [] ∧ va_P (dC, dI) vwCl (z16__w z zc (nI zn) k_fz g_35) H ∧ va_D A (z16__w z zc (nI zn) k_fz g_35) ∧ va_S A s.heap H locs ∧ lv_has ls 10 [(0, .ref z), (1, .int (nI a0)), (2, .int (nI a1)), (3, .int p2), (4, .int y_7), (5, .int (nI g_12)), (6, .int y_25), (7, .int (nI g_29)), (8, .int y_34)]) 199 ?_ (fun j_36 => ?_)
            · rintro H locs ls st ⟨g_35, rfl, hP, hD, hS, hl⟩
              refine lv_iinc (v := (nI (g_29 + 1))) (lv' := [(7, .int (nI (g_29 + 1))), (0, .ref z), (1, .int (nI a0)), (2, .int (nI a1)), (3, .int p2), (4, .int y_7), (5, .int (nI g_12)), (6, .int y_25), (8, .int y_34)]) hx hb eX7_narrow_199 hl (k := 7) rfl (nI_1 _) (by decide) rfl (fun ls hl => ?_)
              refine lv_goto (tgt := 112) hx hb eX7_narrow_202 (by decide) ?_
              exact ih_30 (4 - (g_29 + 1)) (by omega) _ _ _ ⟨g_35, (g_29 + 1), rfl, (by omega), hP, hD, hS, lv_sub hl [1, 2, 3, 4, 5, 6, 7, 0] rfl⟩
            refine lv_icmp_ne (tgt := 147) hx hb eX7_narrow_141 (by decide) (fun c_37 => ?_) (fun c_37 => ?_)
            · refine lv_iload hx hb eX7_narrow_147 (lv_at hl 7 rfl) ?_
              refine lv_iload hx hb eX7_narrow_149 (lv_at hl 0 rfl) ?_
              refine lv_iadd hx hb eX7_narrow_151 ?_
              refine lv_topi (fun y_38 ey_38 => ?_)
              refine lv_iload hx hb eX7_narrow_152 (lv_at hl 7 rfl) ?_
              refine lv_iload hx hb eX7_narrow_154 (lv_at hl 0 rfl) ?_
              refine lv_ior hx hb eX7_narrow_156 ?_
              refine lv_topi (fun y_39 ey_39 => ?_)
              refine lv_iconst (v := 1) hx hb eX7_narrow_157 (by decide) ?_
              refine lv_iand hx hb eX7_narrow_158 ?_
              refine lv_topi (fun y_40 ey_40 => ?_)
              refine lv_isub hx hb eX7_narrow_159 ?_
              refine lv_topi (fun y_41 ey_41 => ?_)
              refine lv_istore (lv' := [(9, .int y_41), (8, .int y_34), (0, .ref z), (1, .int (nI a0)), (2, .int (nI a1)), (3, .int p2), (4, .int y_7), (5, .int (nI g_12)), (6, .int y_25), (7, .int (nI g_29))]) hx hb eX7_narrow_160 hl (by decide) rfl (fun ls hl => ?_)
              refine lv_iload hx hb eX7_narrow_162 (lv_at hl 0 rfl) ?_
              refine lv_aload_n hx hb eX7_narrow_164 rfl (lv_at hl 2 rfl) ?_
              refine va_get (D := (dC, dI)) (ci := 7) (v := .ref zc) (C := RX7) (T := TX7) (N := 2) hx hb hts hiX7 hown hK hP 0 rfl rfl 0 (by decide) v_1 (fun _ h9 => h9) rfl eX7_narrow_165 ?_
              refine lv_iload hx hb eX7_narrow_168 (lv_at hl 7 rfl) ?_
              refine lv_aload_n hx hb eX7_narrow_170 rfl (lv_at hl 2 rfl) ?_
              refine va_get (D := (dC, dI)) (ci := 7) (v := .int (nI zn)) (C := RX7) (T := TX7) (N := 2) hx hb hts hiX7 hown hK hP 0 rfl rfl 1 (by decide) v_2 (fun _ h9 => h9) rfl eX7_narrow_171 ?_
              refine lv_imul hx hb eX7_narrow_174 ?_
              refine lv_topi (fun y_42 ey_42 => ?_)
              obtain rfl : y_42 = (nI (g_12 * zn)) := ey_42.trans (pk_mul g_12 zn)
              refine lv_iload hx hb eX7_narrow_175 (lv_at hl 9 rfl) ?_
              refine lv_iadd hx hb eX7_narrow_177 ?_
              refine lv_topi (fun y_43 ey_43 => ?_)
              obtain rfl : y_43 = (nI ((g_12 * zn) + g_29)) := ey_43.trans (nI_add (g_12 * zn) g_29)
              refine va_iald hx hb hK hP 1 0 rfl rfl (vp_in_nI (n := ((g_12 * zn) + g_29)) (by first | exact zx16 (by omega) (by omega) (by omega) | exact zy16 (by omega) (by omega) | omega) (Nat.le_of_ble_eq_true rfl)) eX7_narrow_178 ?_
              refine lv_topi (fun y_44 ey_44 => ?_)
              refine lv_icmp_ge (tgt := 199) hx hb eX7_narrow_179 (by decide) (fun c_45 => ?_) (fun c_45 => ?_)
              · exact j_36 _ _ _ _ ⟨g_28, rfl, hP, hD, hS, lv_sub hl [2, 3, 4, 5, 6, 7, 8, 9, 1] rfl⟩
              · refine lv_aload_n hx hb eX7_narrow_182 rfl (lv_at hl 2 rfl) ?_
                refine va_get (D := (dC, dI)) (ci := 7) (v := .ref zc) (C := RX7) (T := TX7) (N := 2) hx hb hts hiX7 hown hK hP 0 rfl rfl 0 (by decide) v_1 (fun _ h9 => h9) rfl eX7_narrow_183 ?_
                refine lv_iload hx hb eX7_narrow_186 (lv_at hl 7 rfl) ?_
                refine lv_aload_n hx hb eX7_narrow_188 rfl (lv_at hl 2 rfl) ?_
                refine va_get (D := (dC, dI)) (ci := 7) (v := .int (nI zn)) (C := RX7) (T := TX7) (N := 2) hx hb hts hiX7 hown hK hP 0 rfl rfl 1 (by decide) v_2 (fun _ h9 => h9) rfl eX7_narrow_189 ?_
                refine lv_imul hx hb eX7_narrow_192 ?_
                refine lv_topi (fun y_46 ey_46 => ?_)
                obtain rfl : y_46 = (nI (g_12 * zn)) := ey_46.trans (pk_mul g_12 zn)
                refine lv_iload hx hb eX7_narrow_193 (lv_at hl 9 rfl) ?_
                refine lv_iadd hx hb eX7_narrow_195 ?_
                refine lv_topi (fun y_47 ey_47 => ?_)
                obtain rfl : y_47 = (nI ((g_12 * zn) + g_29)) := ey_47.trans (nI_add (g_12 * zn) g_29)
                refine lv_iload hx hb eX7_narrow_196 (lv_at hl 0 rfl) ?_
                refine va_iast hx hb hK hP hD hS 1 0 rfl rfl (vp_in_nI (n := ((g_12 * zn) + g_29)) (by first | exact zx16 (by omega) (by omega) (by omega) | exact zy16 (by omega) (by omega) | omega) (Nat.le_of_ble_eq_true rfl)) eX7_narrow_198 (fun H locs hP hD hS => ?_)
                have hP : va_P (dC, dI) vwCl (z16__w z zc (nI zn) k_fz (upd g_28 ((nI ((g_12 * zn) + g_29)) : Int32).toNatClampNeg y_41)) H := hP
                have hD : va_D A (z16__w z zc (nI zn) k_fz (upd g_28 ((nI ((g_12 * zn) + g_29)) : Int32).toNatClampNeg y_41)) := hD
                exact j_36 _ _ _ _ ⟨(upd g_28 ((nI ((g_12 * zn) + g_29)) : Int32).toNatClampNeg y_41), rfl, hP, hD, hS, lv_sub hl [2, 3, 4, 5, 6, 7, 8, 9, 1] rfl⟩
            · refine lv_goto (tgt := 199) hx hb eX7_narrow_144 (by decide) ?_
              exact j_36 _ _ _ _ ⟨g_28, rfl, hP, hD, hS, lv_sub hl [1, 2, 3, 4, 5, 6, 7, 8, 0] rfl⟩
        · refine lv_goto (tgt := 205) hx hb eX7_narrow_93 (by decide) ?_
          exact j_20 _ _ _ _ ⟨y_17, g_11, rfl, hP, hD, hS, lv_sub hl [1, 2, 3, 4, 5, 6, 0] rfl⟩
    · refine lv_iload hx hb eX7_narrow_41 (lv_at hl 0 rfl) ?_
      refine lv_iload_n hx hb eX7_narrow_43 rfl (lv_at hl 4 rfl) ?_
      refine lv_iadd hx hb eX7_narrow_44 ?_
      refine lv_topi (fun y_48 ey_48 => ?_)
      refine lv_iload hx hb eX7_narrow_45 (lv_at hl 0 rfl) ?_
      refine lv_iload_n hx hb eX7_narrow_47 rfl (lv_at hl 4 rfl) ?_
      refine lv_ior hx hb eX7_narrow_48 ?_
      refine lv_topi (fun y_49 ey_49 => ?_)
      refine lv_iconst (v := 1) hx hb eX7_narrow_49 (by decide) ?_
      refine lv_iand hx hb eX7_narrow_50 ?_
      refine lv_topi (fun y_50 ey_50 => ?_)
      refine lv_isub hx hb eX7_narrow_51 ?_
      refine lv_topi (fun y_51 ey_51 => ?_)
      refine lv_iconst (v := 1) hx hb eX7_narrow_52 (by decide) ?_
      refine lv_icmp_ge (tgt := 58) hx hb eX7_narrow_53 (by decide) (fun c_52 => ?_) (fun c_52 => ?_)
      · refine lv_iconst (v := 0) hx hb eX7_narrow_58 (by decide) ?_
        refine lv_istore (lv' := [(5, .int 0), (4, .int y_7), (0, .ref z), (1, .int (nI a0)), (2, .int (nI a1)), (3, .int p2)]) hx hb eX7_narrow_59 hl (by decide) rfl (fun ls hl => ?_)
        refine pu_while (fun nn H locs ls => ∃ (g_55 : Nat → Int32) (g_56 : Nat), nn = 4 - g_56 ∧ g_56 ≤ 4 ∧ va_P (dC, dI) vwCl (z16__w z zc (nI zn) k_fz g_55) H ∧ va_D A (z16__w z zc (nI zn) k_fz g_55) ∧ va_S A s.heap H locs ∧ lv_has ls 10 [(0, .ref z), (1, .int (nI a0)), (2, .int (nI a1)), (3, .int p2), (4, .int y_7), (5, .int (nI g_56))]) 61 ?_ _ _ _ _ ⟨fz, 0, rfl, (Nat.le_of_ble_eq_true rfl), hP, hD, hS, lv_sub hl [2, 3, 4, 5, 1, 0] rfl⟩
        rintro nn ih_57 H locs ls ⟨g_55, g_56, rfl, hg_56, hP, hD, hS, hl⟩
        refine lv_iload hx hb eX7_narrow_61 (lv_at hl 5 rfl) ?_
        refine lv_aload_n hx hb eX7_narrow_63 rfl (lv_at hl 0 rfl) ?_
        refine va_get (D := (dC, dI)) (ci := 7) (v := .int (nI zn)) (C := RX7) (T := TX7) (N := 2) hx hb hts hiX7 hown hK hP 0 rfl rfl 1 (by decide) v_2 (fun _ h9 => h9) rfl eX7_narrow_64 ?_
        refine lv_icmp_ge (tgt := 211) hx hb eX7_narrow_67 (by decide) (fun c_58 => ?_) (fun c_58 => ?_)
        · have c_58 : zn ≤ g_56 := (nI_leI (a := zn) (b := g_56) (Nat.lt_of_le_of_lt hzn (Nat.le_of_ble_eq_true rfl)) (Nat.lt_of_le_of_lt hg_56 (Nat.le_of_ble_eq_true rfl))).mp c_58
          refine lv_iconst (v := 1) hx hb eX7_narrow_211 (by decide) ?_
          exact W.zret (v := 1) (ty := .boolean) hx hb hr (rfl) (fun t ht hW => ⟨⟨1, (), rfl, ⟨1, (Nat.le_of_ble_eq_true rfl), rfl⟩, ⟨g_55, ⟨by rw [ht]; exact hP, va_K.moved hW.alike hK, hD⟩⟩⟩, hS.F ht⟩) hS.2.2 eX7_narrow_212
        · have c_58 : ¬ zn ≤ g_56 := fun z => c_58 ((nI_leI (a := zn) (b := g_56) (Nat.lt_of_le_of_lt hzn (Nat.le_of_ble_eq_true rfl)) (Nat.lt_of_le_of_lt hg_56 (Nat.le_of_ble_eq_true rfl))).mpr z)
          refine lv_aload_n hx hb eX7_narrow_70 rfl (lv_at hl 0 rfl) ?_
          refine va_get (D := (dC, dI)) (ci := 7) (v := .ref zc) (C := RX7) (T := TX7) (N := 2) hx hb hts hiX7 hown hK hP 0 rfl rfl 0 (by decide) v_1 (fun _ h9 => h9) rfl eX7_narrow_71 ?_
          refine lv_iload hx hb eX7_narrow_74 (lv_at hl 5 rfl) ?_
          refine lv_aload_n hx hb eX7_narrow_76 rfl (lv_at hl 0 rfl) ?_
          refine va_get (D := (dC, dI)) (ci := 7) (v := .int (nI zn)) (C := RX7) (T := TX7) (N := 2) hx hb hts hiX7 hown hK hP 0 rfl rfl 1 (by decide) v_2 (fun _ h9 => h9) rfl eX7_narrow_77 ?_
          refine lv_imul hx hb eX7_narrow_80 ?_
          refine lv_topi (fun y_59 ey_59 => ?_)
          obtain rfl : y_59 = (nI (g_56 * zn)) := ey_59.trans (pk_mul g_56 zn)
          refine lv_iload_n hx hb eX7_narrow_81 rfl (lv_at hl 1 rfl) ?_
          refine lv_iadd hx hb eX7_narrow_82 ?_
          refine lv_topi (fun y_60 ey_60 => ?_)
          obtain rfl : y_60 = (nI ((g_56 * zn) + a0)) := ey_60.trans (nI_add (g_56 * zn) a0)
          refine va_iald hx hb hK hP 1 0 rfl rfl (vp_in_nI (n := ((g_56 * zn) + a0)) (by first | exact zx16 (by omega) (by omega) (by omega) | exact zy16 (by omega) (by omega) | omega) (Nat.le_of_ble_eq_true rfl)) eX7_narrow_83 ?_
          refine lv_topi (fun y_61 ey_61 => ?_)
          refine lv_istore (lv' := [(6, .int y_61), (0, .ref z), (1, .int (nI a0)), (2, .int (nI a1)), (3, .int p2), (4, .int y_7), (5, .int (nI g_56))]) hx hb eX7_narrow_84 hl (by decide) rfl (fun ls hl => ?_)
          refine lv_iload hx hb eX7_narrow_86 (lv_at hl 0 rfl) ?_
          refine lv_ldc hx hb hown v_3 eX7_narrow_88 ?_
          refine pu_join (fun H locs ls st => ∃ (g_62 : Int32) (g_63 : Nat → Int32), st = [] ∧ va_P (dC, dI) vwCl (z16__w z zc (nI zn) k_fz g_63) H ∧ va_D A (z16__w z zc (nI zn) k_fz g_63) ∧ va_S A s.heap H locs ∧ lv_has ls 10 [(0, .ref z), (1, .int (nI a0)), (2, .int (nI a1)), (3, .int p2), (4, .int y_7), (5, .int (nI g_56)), (6, .int g_62)]) 205 ?_ (fun j_64 => ?_)
          · rintro H locs ls st ⟨g_62, g_63, rfl, hP, hD, hS, hl⟩
            refine lv_iinc (v := (nI (g_56 + 1))) (lv' := [(5, .int (nI (g_56 + 1))), (0, .ref z), (1, .int (nI a0)), (2, .int (nI a1)), (3, .int p2), (4, .int y_7), (6, .int g_62)]) hx hb eX7_narrow_205 hl (k := 5) rfl (nI_1 _) (by decide) rfl (fun ls hl => ?_)
            refine lv_goto (tgt := 61) hx hb eX7_narrow_208 (by decide) ?_
            exact ih_57 (4 - (g_56 + 1)) (by omega) _ _ _ ⟨g_63, (g_56 + 1), rfl, (by omega), hP, hD, hS, lv_sub hl [1, 2, 3, 4, 5, 0] rfl⟩
          refine lv_icmp_ne (tgt := 96) hx hb eX7_narrow_90 (by decide) (fun c_65 => ?_) (fun c_65 => ?_)
          · refine lv_iload hx hb eX7_narrow_96 (lv_at hl 0 rfl) ?_
            refine lv_iload_n hx hb eX7_narrow_98 rfl (lv_at hl 4 rfl) ?_
            refine lv_iadd hx hb eX7_narrow_99 ?_
            refine lv_topi (fun y_66 ey_66 => ?_)
            refine lv_iload hx hb eX7_narrow_100 (lv_at hl 0 rfl) ?_
            refine lv_iload_n hx hb eX7_narrow_102 rfl (lv_at hl 4 rfl) ?_
            refine lv_ior hx hb eX7_narrow_103 ?_
            refine lv_topi (fun y_67 ey_67 => ?_)
            refine lv_iconst (v := 1) hx hb eX7_narrow_104 (by decide) ?_
            refine lv_iand hx hb eX7_narrow_105 ?_
            refine lv_topi (fun y_68 ey_68 => ?_)
            refine lv_isub hx hb eX7_narrow_106 ?_
            refine lv_topi (fun y_69 ey_69 => ?_)
            refine lv_istore (lv' := [(6, .int y_69), (0, .ref z), (1, .int (nI a0)), (2, .int (nI a1)), (3, .int p2), (4, .int y_7), (5, .int (nI g_56))]) hx hb eX7_narrow_107 hl (by decide) rfl (fun ls hl => ?_)
            refine lv_iconst (v := 0) hx hb eX7_narrow_109 (by decide) ?_
            refine lv_istore (lv' := [(7, .int 0), (6, .int y_69), (0, .ref z), (1, .int (nI a0)), (2, .int (nI a1)), (3, .int p2), (4, .int y_7), (5, .int (nI g_56))]) hx hb eX7_narrow_110 hl (by decide) rfl (fun ls hl => ?_)
            refine pu_while (fun nn H locs ls => ∃ (g_72 : Nat → Int32) (g_73 : Nat), nn = 4 - g_73 ∧ g_73 ≤ 4 ∧ va_P (dC, dI) vwCl (z16__w z zc (nI zn) k_fz g_72) H ∧ va_D A (z16__w z zc (nI zn) k_fz g_72) ∧ va_S A s.heap H locs ∧ lv_has ls 10 [(0, .ref z), (1, .int (nI a0)), (2, .int (nI a1)), (3, .int p2), (4, .int y_7), (5, .int (nI g_56)), (6, .int y_69), (7, .int (nI g_73))]) 112 ?_ _ _ _ _ ⟨g_55, 0, rfl, (Nat.le_of_ble_eq_true rfl), hP, hD, hS, lv_sub hl [2, 3, 4, 5, 6, 7, 1, 0] rfl⟩
            rintro nn ih_74 H locs ls ⟨g_72, g_73, rfl, hg_73, hP, hD, hS, hl⟩
            refine lv_iload hx hb eX7_narrow_112 (lv_at hl 7 rfl) ?_
            refine lv_aload_n hx hb eX7_narrow_114 rfl (lv_at hl 0 rfl) ?_
            refine va_get (D := (dC, dI)) (ci := 7) (v := .int (nI zn)) (C := RX7) (T := TX7) (N := 2) hx hb hts hiX7 hown hK hP 0 rfl rfl 1 (by decide) v_2 (fun _ h9 => h9) rfl eX7_narrow_115 ?_
            refine lv_icmp_ge (tgt := 205) hx hb eX7_narrow_118 (by decide) (fun c_75 => ?_) (fun c_75 => ?_)
            · have c_75 : zn ≤ g_73 := (nI_leI (a := zn) (b := g_73) (Nat.lt_of_le_of_lt hzn (Nat.le_of_ble_eq_true rfl)) (Nat.lt_of_le_of_lt hg_73 (Nat.le_of_ble_eq_true rfl))).mp c_75
              exact j_64 _ _ _ _ ⟨y_69, g_72, rfl, hP, hD, hS, lv_sub hl [0, 1, 2, 3, 4, 5, 6] rfl⟩
            · have c_75 : ¬ zn ≤ g_73 := fun z => c_75 ((nI_leI (a := zn) (b := g_73) (Nat.lt_of_le_of_lt hzn (Nat.le_of_ble_eq_true rfl)) (Nat.lt_of_le_of_lt hg_73 (Nat.le_of_ble_eq_true rfl))).mpr z)
              refine lv_aload_n hx hb eX7_narrow_121 rfl (lv_at hl 0 rfl) ?_
              refine va_get (D := (dC, dI)) (ci := 7) (v := .ref zc) (C := RX7) (T := TX7) (N := 2) hx hb hts hiX7 hown hK hP 0 rfl rfl 0 (by decide) v_1 (fun _ h9 => h9) rfl eX7_narrow_122 ?_
              refine lv_iload_n hx hb eX7_narrow_125 rfl (lv_at hl 2 rfl) ?_
              refine lv_aload_n hx hb eX7_narrow_126 rfl (lv_at hl 0 rfl) ?_
              refine va_get (D := (dC, dI)) (ci := 7) (v := .int (nI zn)) (C := RX7) (T := TX7) (N := 2) hx hb hts hiX7 hown hK hP 0 rfl rfl 1 (by decide) v_2 (fun _ h9 => h9) rfl eX7_narrow_127 ?_
              refine lv_imul hx hb eX7_narrow_130 ?_
              refine lv_topi (fun y_76 ey_76 => ?_)
              obtain rfl : y_76 = (nI (a1 * zn)) := ey_76.trans (pk_mul a1 zn)
              refine lv_iload hx hb eX7_narrow_131 (lv_at hl 7 rfl) ?_
              refine lv_iadd hx hb eX7_narrow_133 ?_
              refine lv_topi (fun y_77 ey_77 => ?_)
              obtain rfl : y_77 = (nI ((a1 * zn) + g_73)) := ey_77.trans (nI_add (a1 * zn) g_73)
              refine va_iald hx hb hK hP 1 0 rfl rfl (vp_in_nI (n := ((a1 * zn) + g_73)) (by first | exact zx16 (by omega) (by omega) (by omega) | exact zy16 (by omega) (by omega) | omega) (Nat.le_of_ble_eq_true rfl)) eX7_narrow_134 ?_
              refine lv_topi (fun y_78 ey_78 => ?_)
              refine lv_istore (lv' := [(8, .int y_78), (0, .ref z), (1, .int (nI a0)), (2, .int (nI a1)), (3, .int p2), (4, .int y_7), (5, .int (nI g_56)), (6, .int y_69), (7, .int (nI g_73))]) hx hb eX7_narrow_135 hl (by decide) rfl (fun ls hl => ?_)
              refine lv_iload hx hb eX7_narrow_137 (lv_at hl 0 rfl) ?_
              refine lv_ldc hx hb hown v_3 eX7_narrow_139 ?_
              refine pu_join (fun H locs ls st => ∃ (g_79 : Nat → Int32), st = [] ∧ va_P (dC, dI) vwCl (z16__w z zc (nI zn) k_fz g_79) H ∧ va_D A (z16__w z zc (nI zn) k_fz g_79) ∧ va_S A s.heap H locs ∧ lv_has ls 10 [(0, .ref z), (1, .int (nI a0)), (2, .int (nI a1)), (3, .int p2), (4, .int y_7), (5, .int (nI g_56)), (6, .int y_69), (7, .int (nI g_73)), (8, .int y_78)]) 199 ?_ (fun j_80 => ?_)
              · rintro H locs ls st ⟨g_79, rfl, hP, hD, hS, hl⟩
                refine lv_iinc (v := (nI (g_73 + 1))) (lv' := [(7, .int (nI (g_73 + 1))), (0, .ref z), (1, .int (nI a0)), (2, .int (nI a1)), (3, .int p2), (4, .int y_7), (5, .int (nI g_56)), (6, .int y_69), (8, .int y_78)]) hx hb eX7_narrow_199 hl (k := 7) rfl (nI_1 _) (by decide) rfl (fun ls hl => ?_)
                refine lv_goto (tgt := 112) hx hb eX7_narrow_202 (by decide) ?_
                exact ih_74 (4 - (g_73 + 1)) (by omega) _ _ _ ⟨g_79, (g_73 + 1), rfl, (by omega), hP, hD, hS, lv_sub hl [1, 2, 3, 4, 5, 6, 7, 0] rfl⟩
              refine lv_icmp_ne (tgt := 147) hx hb eX7_narrow_141 (by decide) (fun c_81 => ?_) (fun c_81 => ?_)
              · refine lv_iload hx hb eX7_narrow_147 (lv_at hl 7 rfl) ?_
                refine lv_iload hx hb eX7_narrow_149 (lv_at hl 0 rfl) ?_
                refine lv_iadd hx hb eX7_narrow_151 ?_
                refine lv_topi (fun y_82 ey_82 => ?_)
                refine lv_iload hx hb eX7_narrow_152 (lv_at hl 7 rfl) ?_
                refine lv_iload hx hb eX7_narrow_154 (lv_at hl 0 rfl) ?_
                refine lv_ior hx hb eX7_narrow_156 ?_
                refine lv_topi (fun y_83 ey_83 => ?_)
                refine lv_iconst (v := 1) hx hb eX7_narrow_157 (by decide) ?_
                refine lv_iand hx hb eX7_narrow_158 ?_
                refine lv_topi (fun y_84 ey_84 => ?_)
                refine lv_isub hx hb eX7_narrow_159 ?_
                refine lv_topi (fun y_85 ey_85 => ?_)
                refine lv_istore (lv' := [(9, .int y_85), (8, .int y_78), (0, .ref z), (1, .int (nI a0)), (2, .int (nI a1)), (3, .int p2), (4, .int y_7), (5, .int (nI g_56)), (6, .int y_69), (7, .int (nI g_73))]) hx hb eX7_narrow_160 hl (by decide) rfl (fun ls hl => ?_)
                refine lv_iload hx hb eX7_narrow_162 (lv_at hl 0 rfl) ?_
                refine lv_aload_n hx hb eX7_narrow_164 rfl (lv_at hl 2 rfl) ?_
                refine va_get (D := (dC, dI)) (ci := 7) (v := .ref zc) (C := RX7) (T := TX7) (N := 2) hx hb hts hiX7 hown hK hP 0 rfl rfl 0 (by decide) v_1 (fun _ h9 => h9) rfl eX7_narrow_165 ?_
                refine lv_iload hx hb eX7_narrow_168 (lv_at hl 7 rfl) ?_
                refine lv_aload_n hx hb eX7_narrow_170 rfl (lv_at hl 2 rfl) ?_
                refine va_get (D := (dC, dI)) (ci := 7) (v := .int (nI zn)) (C := RX7) (T := TX7) (N := 2) hx hb hts hiX7 hown hK hP 0 rfl rfl 1 (by decide) v_2 (fun _ h9 => h9) rfl eX7_narrow_171 ?_
                refine lv_imul hx hb eX7_narrow_174 ?_
                refine lv_topi (fun y_86 ey_86 => ?_)
                obtain rfl : y_86 = (nI (g_56 * zn)) := ey_86.trans (pk_mul g_56 zn)
                refine lv_iload hx hb eX7_narrow_175 (lv_at hl 9 rfl) ?_
                refine lv_iadd hx hb eX7_narrow_177 ?_
                refine lv_topi (fun y_87 ey_87 => ?_)
                obtain rfl : y_87 = (nI ((g_56 * zn) + g_73)) := ey_87.trans (nI_add (g_56 * zn) g_73)
                refine va_iald hx hb hK hP 1 0 rfl rfl (vp_in_nI (n := ((g_56 * zn) + g_73)) (by first | exact zx16 (by omega) (by omega) (by omega) | exact zy16 (by omega) (by omega) | omega) (Nat.le_of_ble_eq_true rfl)) eX7_narrow_178 ?_
                refine lv_topi (fun y_88 ey_88 => ?_)
                refine lv_icmp_ge (tgt := 199) hx hb eX7_narrow_179 (by decide) (fun c_89 => ?_) (fun c_89 => ?_)
                · exact j_80 _ _ _ _ ⟨g_72, rfl, hP, hD, hS, lv_sub hl [2, 3, 4, 5, 6, 7, 8, 9, 1] rfl⟩
                · refine lv_aload_n hx hb eX7_narrow_182 rfl (lv_at hl 2 rfl) ?_
                  refine va_get (D := (dC, dI)) (ci := 7) (v := .ref zc) (C := RX7) (T := TX7) (N := 2) hx hb hts hiX7 hown hK hP 0 rfl rfl 0 (by decide) v_1 (fun _ h9 => h9) rfl eX7_narrow_183 ?_
                  refine lv_iload hx hb eX7_narrow_186 (lv_at hl 7 rfl) ?_
                  refine lv_aload_n hx hb eX7_narrow_188 rfl (lv_at hl 2 rfl) ?_
                  refine va_get (D := (dC, dI)) (ci := 7) (v := .int (nI zn)) (C := RX7) (T := TX7) (N := 2) hx hb hts hiX7 hown hK hP 0 rfl rfl 1 (by decide) v_2 (fun _ h9 => h9) rfl eX7_narrow_189 ?_
                  refine lv_imul hx hb eX7_narrow_192 ?_
                  refine lv_topi (fun y_90 ey_90 => ?_)
                  obtain rfl : y_90 = (nI (g_56 * zn)) := ey_90.trans (pk_mul g_56 zn)
                  refine lv_iload hx hb eX7_narrow_193 (lv_at hl 9 rfl) ?_
                  refine lv_iadd hx hb eX7_narrow_195 ?_
                  refine lv_topi (fun y_91 ey_91 => ?_)
                  obtain rfl : y_91 = (nI ((g_56 * zn) + g_73)) := ey_91.trans (nI_add (g_56 * zn) g_73)
                  refine lv_iload hx hb eX7_narrow_196 (lv_at hl 0 rfl) ?_
                  refine va_iast hx hb hK hP hD hS 1 0 rfl rfl (vp_in_nI (n := ((g_56 * zn) + g_73)) (by first | exact zx16 (by omega) (by omega) (by omega) | exact zy16 (by omega) (by omega) | omega) (Nat.le_of_ble_eq_true rfl)) eX7_narrow_198 (fun H locs hP hD hS => ?_)
                  have hP : va_P (dC, dI) vwCl (z16__w z zc (nI zn) k_fz (upd g_72 ((nI ((g_56 * zn) + g_73)) : Int32).toNatClampNeg y_85)) H := hP
                  have hD : va_D A (z16__w z zc (nI zn) k_fz (upd g_72 ((nI ((g_56 * zn) + g_73)) : Int32).toNatClampNeg y_85)) := hD
                  exact j_80 _ _ _ _ ⟨(upd g_72 ((nI ((g_56 * zn) + g_73)) : Int32).toNatClampNeg y_85), rfl, hP, hD, hS, lv_sub hl [2, 3, 4, 5, 6, 7, 8, 9, 1] rfl⟩
              · refine lv_goto (tgt := 199) hx hb eX7_narrow_144 (by decide) ?_
                exact j_80 _ _ _ _ ⟨g_72, rfl, hP, hD, hS, lv_sub hl [1, 2, 3, 4, 5, 6, 7, 8, 0] rfl⟩
          · refine lv_goto (tgt := 205) hx hb eX7_narrow_93 (by decide) ?_
            exact j_64 _ _ _ _ ⟨y_61, g_55, rfl, hP, hD, hS, lv_sub hl [1, 2, 3, 4, 5, 6, 0] rfl⟩
      · refine lv_iconst (v := 0) hx hb eX7_narrow_56 (by decide) ?_
        exact W.zret (v := 0) (ty := .boolean) hx hb hr (rfl) (fun t ht hW => ⟨⟨0, (), rfl, ⟨0, (Nat.le_of_ble_eq_true rfl), rfl⟩, ⟨fz, ⟨by rw [ht]; exact hP, va_K.moved hW.alike hK, hD⟩⟩⟩, hS.F ht⟩) hS.2.2 eX7_narrow_57
  · refine lv_iconst (v := 1) hx hb eX7_narrow_17 (by decide) ?_
    exact W.zret (v := 1) (ty := .boolean) hx hb hr (rfl) (fun t ht hW => ⟨⟨1, (), rfl, ⟨1, (Nat.le_of_ble_eq_true rfl), rfl⟩, ⟨fz, ⟨by rw [ht]; exact hP, va_K.moved hW.alike hK, hD⟩⟩⟩, hS.F ht⟩) hS.2.2 eX7_narrow_18
theorem eX7_setBack_0 : decode cX7_setBack 0 = .ok (.iconst 0, 1) := by decide +kernel
theorem eX7_setBack_1 : decode cX7_setBack 1 = .ok (.istore_n 2, 1) := by decide +kernel
theorem eX7_setBack_2 : decode cX7_setBack 2 = .ok (.iload_n 2, 1) := by decide +kernel
theorem eX7_setBack_3 : decode cX7_setBack 3 = .ok (.aload_n 0, 1) := by decide +kernel
theorem eX7_setBack_4 : decode cX7_setBack 4 = .ok (.getfield 18, 3) := by decide +kernel
theorem eX7_setBack_7 : decode cX7_setBack 7 = .ok (.if_icmp .ge 52, 3) := by decide +kernel
theorem eX7_setBack_10 : decode cX7_setBack 10 = .ok (.aload_n 0, 1) := by decide +kernel
theorem eX7_setBack_11 : decode cX7_setBack 11 = .ok (.getfield 11, 3) := by decide +kernel
theorem eX7_setBack_14 : decode cX7_setBack 14 = .ok (.iload_n 1, 1) := by decide +kernel
theorem eX7_setBack_15 : decode cX7_setBack 15 = .ok (.aload_n 0, 1) := by decide +kernel
theorem eX7_setBack_16 : decode cX7_setBack 16 = .ok (.getfield 18, 3) := by decide +kernel
theorem eX7_setBack_19 : decode cX7_setBack 19 = .ok (.imul, 1) := by decide +kernel
theorem eX7_setBack_20 : decode cX7_setBack 20 = .ok (.iload_n 2, 1) := by decide +kernel
theorem eX7_setBack_21 : decode cX7_setBack 21 = .ok (.iadd, 1) := by decide +kernel
theorem eX7_setBack_22 : decode cX7_setBack 22 = .ok (.aload_n 0, 1) := by decide +kernel
theorem eX7_setBack_23 : decode cX7_setBack 23 = .ok (.getfield 11, 3) := by decide +kernel
theorem eX7_setBack_26 : decode cX7_setBack 26 = .ok (.iload_n 2, 1) := by decide +kernel
theorem eX7_setBack_27 : decode cX7_setBack 27 = .ok (.iaload, 1) := by decide +kernel
theorem eX7_setBack_28 : decode cX7_setBack 28 = .ok (.iastore, 1) := by decide +kernel
theorem eX7_setBack_29 : decode cX7_setBack 29 = .ok (.aload_n 0, 1) := by decide +kernel
theorem eX7_setBack_30 : decode cX7_setBack 30 = .ok (.getfield 11, 3) := by decide +kernel
theorem eX7_setBack_33 : decode cX7_setBack 33 = .ok (.iload_n 2, 1) := by decide +kernel
theorem eX7_setBack_34 : decode cX7_setBack 34 = .ok (.aload_n 0, 1) := by decide +kernel
theorem eX7_setBack_35 : decode cX7_setBack 35 = .ok (.getfield 18, 3) := by decide +kernel
theorem eX7_setBack_38 : decode cX7_setBack 38 = .ok (.imul, 1) := by decide +kernel
theorem eX7_setBack_39 : decode cX7_setBack 39 = .ok (.iload_n 1, 1) := by decide +kernel
theorem eX7_setBack_40 : decode cX7_setBack 40 = .ok (.iadd, 1) := by decide +kernel
theorem eX7_setBack_41 : decode cX7_setBack 41 = .ok (.aload_n 0, 1) := by decide +kernel
theorem eX7_setBack_42 : decode cX7_setBack 42 = .ok (.getfield 11, 3) := by decide +kernel
theorem eX7_setBack_45 : decode cX7_setBack 45 = .ok (.iload_n 2, 1) := by decide +kernel
theorem eX7_setBack_46 : decode cX7_setBack 46 = .ok (.aload_n 0, 1) := by decide +kernel
theorem eX7_setBack_47 : decode cX7_setBack 47 = .ok (.getfield 18, 3) := by decide +kernel
theorem eX7_setBack_50 : decode cX7_setBack 50 = .ok (.imul, 1) := by decide +kernel
theorem eX7_setBack_51 : decode cX7_setBack 51 = .ok (.iaload, 1) := by decide +kernel
theorem eX7_setBack_52 : decode cX7_setBack 52 = .ok (.iastore, 1) := by decide +kernel
theorem eX7_setBack_53 : decode cX7_setBack 53 = .ok (.iinc 2 1, 3) := by decide +kernel
theorem eX7_setBack_56 : decode cX7_setBack 56 = .ok (.goto (-54), 3) := by decide +kernel
theorem eX7_setBack_59 : decode cX7_setBack 59 = .ok (.aload_n 0, 1) := by decide +kernel
theorem eX7_setBack_60 : decode cX7_setBack 60 = .ok (.getfield 11, 3) := by decide +kernel
theorem eX7_setBack_63 : decode cX7_setBack 63 = .ok (.iload_n 1, 1) := by decide +kernel
theorem eX7_setBack_64 : decode cX7_setBack 64 = .ok (.aload_n 0, 1) := by decide +kernel
theorem eX7_setBack_65 : decode cX7_setBack 65 = .ok (.getfield 18, 3) := by decide +kernel
theorem eX7_setBack_68 : decode cX7_setBack 68 = .ok (.imul, 1) := by decide +kernel
theorem eX7_setBack_69 : decode cX7_setBack 69 = .ok (.iload_n 1, 1) := by decide +kernel
theorem eX7_setBack_70 : decode cX7_setBack 70 = .ok (.iadd, 1) := by decide +kernel
theorem eX7_setBack_71 : decode cX7_setBack 71 = .ok (.iconst 1, 1) := by decide +kernel
theorem eX7_setBack_72 : decode cX7_setBack 72 = .ok (.iastore, 1) := by decide +kernel
theorem eX7_setBack_73 : decode cX7_setBack 73 = .ok (.return_, 1) := by decide +kernel
abbrev vs_C_7_setBack_16 : List Cond := .code yX7_setBack cX7_setBack 3 none :: CM
set_option maxHeartbeats 4000000 in
set_option maxRecDepth 100000 in
theorem c_C_7_setBack_16 (l : Launch) (dC : Nat → ClassId) (dI : Nat → Nat → Nat) (sz : Nat) (z : Nat) (zc : Nat) (zn : Nat) (k_fz : ClassId) (fz : Nat → Int32) (a0 : Nat) (hzn : zn ≤ 4) (ha0 : a0 ≤ 3) : Met l yX7_setBack vs_C_7_setBack_16 ({ frames := 0, cells := 0, slots := 0, locals := 0 }) (va_Pc [.ref z, .int (nI a0)] (pu_B (dC, dI) (z16__w z zc (nI zn) k_fz fz) (z16__t k_fz) sz)) (va_Qv (fun (_ : Unit) => True) (fun _ t => ∃ (z_fz : Nat → Int32), pu_E (dC, dI) (z16__w z zc (nI zn) k_fz z_fz) (z16__t k_fz) (va_A ((z16__w z zc (nI zn) k_fz fz)) sz) t) (va_A ((z16__w z zc (nI zn) k_fz fz)) sz)) 0 0 (va_A ((z16__w z zc (nI zn) k_fz fz)) sz) := by
  refine Met.ofW (cc := cX7_setBack) (maxL := 3) (ret := none) (by decide) rfl ?_
  intro p e s m args below meth c s₁ B hml hv
  obtain ⟨rfl, rfl, hP, hK, hD0⟩ := hv
  have hx := B.exec
  have hb := B.bytes
  have hr := B.returns
  have hts := atoms_spec (ws := vs_C_7_setBack_16) B.pre
  have v_1 := hts (.fieldLink RX7 18 "ClockReach$Zone" "size" "I") (List.mem_cons_of_mem _ cm_48)
  have v_2 := hts (.fieldLink RX7 11 "ClockReach$Zone" "cells" "[I") (List.mem_cons_of_mem _ cm_47)
  have hown : s.vm.findClass RX7 = some m.cls := findClass_of_methodNamed B.named
  have hlocks := B.notSynchronized
  have hiX7 : ∀ w ∈ wsX70, w ∈ vs_C_7_setBack_16 := fun _ h => List.mem_cons_of_mem _ (cm_X7 h)
  have hD := hD0.self (sz := s.heap.size)
  generalize hAe : va_A ((z16__w z zc (nI zn) k_fz fz)) s.heap.size = A at hD ⊢
  have hA : ∀ q : Nat, s.heap.size ≤ q → A q := fun q h => by rw [← hAe]; exact Or.inr h
  have hS : va_S A s.heap s.heap [] := va_S.rf
  have hl := lv_entry ([.ref z, .int (nI a0)]) (n := 3) (Nat.le_of_ble_eq_true rfl)
  rw [lg_entry_eq]
  generalize (lg_sl ([.ref z, .int (nI a0)]) ++ List.replicate (3 - (lg_sl ([.ref z, .int (nI a0)])).length) Slot.unset).toArray = ls at hl ⊢
  have hl : lv_has ls 3 [(0, .ref z), (1, .int (nI a0))] := hl
  have hzz := zz4 hzn
  refine lv_iconst (v := 0) hx hb eX7_setBack_0 (by decide) ?_
  refine lv_istore_n (lv' := [(2, .int 0), (0, .ref z), (1, .int (nI a0))]) hx hb eX7_setBack_1 rfl hl (by decide) rfl (fun ls hl => ?_)
  refine pu_while (fun nn H locs ls => ∃ (g_3 : Nat → Int32) (g_4 : Nat), nn = 4 - g_4 ∧ g_4 ≤ 4 ∧ va_P (dC, dI) vwCl (z16__w z zc (nI zn) k_fz g_3) H ∧ va_D A (z16__w z zc (nI zn) k_fz g_3) ∧ va_S A s.heap H locs ∧ lv_has ls 3 [(0, .ref z), (1, .int (nI a0)), (2, .int (nI g_4))]) 2 ?_ _ _ _ _ ⟨fz, 0, rfl, (Nat.le_of_ble_eq_true rfl), hP, hD, hS, lv_sub hl [1, 2, 0] rfl⟩
  rintro nn ih_5 H locs ls ⟨g_3, g_4, rfl, hg_4, hP, hD, hS, hl⟩
  refine lv_iload_n hx hb eX7_setBack_2 rfl (lv_at hl 2 rfl) ?_
  refine lv_aload_n hx hb eX7_setBack_3 rfl (lv_at hl 0 rfl) ?_
  refine va_get (D := (dC, dI)) (ci := 7) (v := .int (nI zn)) (C := RX7) (T := TX7) (N := 2) hx hb hts hiX7 hown hK hP 0 rfl rfl 1 (by decide) v_1 (fun _ h9 => h9) rfl eX7_setBack_4 ?_
  refine lv_icmp_ge (tgt := 59) hx hb eX7_setBack_7 (by decide) (fun c_6 => ?_) (fun c_6 => ?_)
  · have c_6 : zn ≤ g_4 := (nI_leI (a := zn) (b := g_4) (Nat.lt_of_le_of_lt hzn (Nat.le_of_ble_eq_true rfl)) (Nat.lt_of_le_of_lt hg_4 (Nat.le_of_ble_eq_true rfl))).mp c_6
    refine lv_aload_n hx hb eX7_setBack_59 rfl (lv_at hl 0 rfl) ?_
    refine va_get (D := (dC, dI)) (ci := 7) (v := .ref zc) (C := RX7) (T := TX7) (N := 2) hx hb hts hiX7 hown hK hP 0 rfl rfl 0 (by decide) v_2 (fun _ h9 => h9) rfl eX7_setBack_60 ?_
    refine lv_iload_n hx hb eX7_setBack_63 rfl (lv_at hl 1 rfl) ?_
    refine lv_aload_n hx hb eX7_setBack_64 rfl (lv_at hl 0 rfl) ?_
    refine va_get (D := (dC, dI)) (ci := 7) (v := .int (nI zn)) (C := RX7) (T := TX7) (N := 2) hx hb hts hiX7 hown hK hP 0 rfl rfl 1 (by decide) v_1 (fun _ h9 => h9) rfl eX7_setBack_65 ?_
    refine lv_imul hx hb eX7_setBack_68 ?_
    refine lv_topi (fun y_7 ey_7 => ?_)
    obtain rfl : y_7 = (nI (a0 * zn)) := ey_7.trans (pk_mul a0 zn)
    refine lv_iload_n hx hb eX7_setBack_69 rfl (lv_at hl 1 rfl) ?_
    refine lv_iadd hx hb eX7_setBack_70 ?_
    refine lv_topi (fun y_8 ey_8 => ?_)
    obtain rfl : y_8 = (nI ((a0 * zn) + a0)) := ey_8.trans (nI_add (a0 * zn) a0)
    refine lv_iconst (v := 1) hx hb eX7_setBack_71 (by decide) ?_
    refine va_iast hx hb hK hP hD hS 1 0 rfl rfl (vp_in_nI (n := ((a0 * zn) + a0)) (by first | exact zx16 (by omega) (by omega) (by omega) | exact zy16 (by omega) (by omega) | omega) (Nat.le_of_ble_eq_true rfl)) eX7_setBack_72 (fun H locs hP hD hS => ?_)
    have hP : va_P (dC, dI) vwCl (z16__w z zc (nI zn) k_fz (upd g_3 ((nI ((a0 * zn) + a0)) : Int32).toNatClampNeg 1)) H := hP
    have hD : va_D A (z16__w z zc (nI zn) k_fz (upd g_3 ((nI ((a0 * zn) + a0)) : Int32).toNatClampNeg 1)) := hD
    exact W.vret hx hb hr (fun t ht hW => ⟨⟨(), rfl, trivial, ⟨(upd g_3 ((nI ((a0 * zn) + a0)) : Int32).toNatClampNeg 1), ⟨by rw [ht]; exact hP, va_K.moved hW.alike hK, hD⟩⟩⟩, hS.F ht⟩) hS.2.2 eX7_setBack_73
  · have c_6 : ¬ zn ≤ g_4 := fun z => c_6 ((nI_leI (a := zn) (b := g_4) (Nat.lt_of_le_of_lt hzn (Nat.le_of_ble_eq_true rfl)) (Nat.lt_of_le_of_lt hg_4 (Nat.le_of_ble_eq_true rfl))).mpr z)
    refine lv_aload_n hx hb eX7_setBack_10 rfl (lv_at hl 0 rfl) ?_
    refine va_get (D := (dC, dI)) (ci := 7) (v := .ref zc) (C := RX7) (T := TX7) (N := 2) hx hb hts hiX7 hown hK hP 0 rfl rfl 0 (by decide) v_2 (fun _ h9 => h9) rfl eX7_setBack_11 ?_
    refine lv_iload_n hx hb eX7_setBack_14 rfl (lv_at hl 1 rfl) ?_
    refine lv_aload_n hx hb eX7_setBack_15 rfl (lv_at hl 0 rfl) ?_
    refine va_get (D := (dC, dI)) (ci := 7) (v := .int (nI zn)) (C := RX7) (T := TX7) (N := 2) hx hb hts hiX7 hown hK hP 0 rfl rfl 1 (by decide) v_1 (fun _ h9 => h9) rfl eX7_setBack_16 ?_
    refine lv_imul hx hb eX7_setBack_19 ?_
    refine lv_topi (fun y_9 ey_9 => ?_)
    obtain rfl : y_9 = (nI (a0 * zn)) := ey_9.trans (pk_mul a0 zn)
    refine lv_iload_n hx hb eX7_setBack_20 rfl (lv_at hl 2 rfl) ?_
    refine lv_iadd hx hb eX7_setBack_21 ?_
    refine lv_topi (fun y_10 ey_10 => ?_)
    obtain rfl : y_10 = (nI ((a0 * zn) + g_4)) := ey_10.trans (nI_add (a0 * zn) g_4)
    refine lv_aload_n hx hb eX7_setBack_22 rfl (lv_at hl 0 rfl) ?_
    refine va_get (D := (dC, dI)) (ci := 7) (v := .ref zc) (C := RX7) (T := TX7) (N := 2) hx hb hts hiX7 hown hK hP 0 rfl rfl 0 (by decide) v_2 (fun _ h9 => h9) rfl eX7_setBack_23 ?_
    refine lv_iload_n hx hb eX7_setBack_26 rfl (lv_at hl 2 rfl) ?_
    refine va_iald hx hb hK hP 1 0 rfl rfl (vp_in_nI (n := g_4) (Nat.lt_of_le_of_lt hg_4 (Nat.le_of_ble_eq_true rfl)) (Nat.le_of_ble_eq_true rfl)) eX7_setBack_27 ?_
    refine lv_topi (fun y_11 ey_11 => ?_)
    refine va_iast hx hb hK hP hD hS 1 0 rfl rfl (vp_in_nI (n := ((a0 * zn) + g_4)) (by first | exact zx16 (by omega) (by omega) (by omega) | exact zy16 (by omega) (by omega) | omega) (Nat.le_of_ble_eq_true rfl)) eX7_setBack_28 (fun H locs hP hD hS => ?_)
    have hP : va_P (dC, dI) vwCl (z16__w z zc (nI zn) k_fz (upd g_3 ((nI ((a0 * zn) + g_4)) : Int32).toNatClampNeg y_11)) H := hP
    have hD : va_D A (z16__w z zc (nI zn) k_fz (upd g_3 ((nI ((a0 * zn) + g_4)) : Int32).toNatClampNeg y_11)) := hD
    refine lv_aload_n hx hb eX7_setBack_29 rfl (lv_at hl 0 rfl) ?_
    refine va_get (D := (dC, dI)) (ci := 7) (v := .ref zc) (C := RX7) (T := TX7) (N := 2) hx hb hts hiX7 hown hK hP 0 rfl rfl 0 (by decide) v_2 (fun _ h9 => h9) rfl eX7_setBack_30 ?_
    refine lv_iload_n hx hb eX7_setBack_33 rfl (lv_at hl 2 rfl) ?_
    refine lv_aload_n hx hb eX7_setBack_34 rfl (lv_at hl 0 rfl) ?_
    refine va_get (D := (dC, dI)) (ci := 7) (v := .int (nI zn)) (C := RX7) (T := TX7) (N := 2) hx hb hts hiX7 hown hK hP 0 rfl rfl 1 (by decide) v_1 (fun _ h9 => h9) rfl eX7_setBack_35 ?_
    refine lv_imul hx hb eX7_setBack_38 ?_
    refine lv_topi (fun y_12 ey_12 => ?_)
    obtain rfl : y_12 = (nI (g_4 * zn)) := ey_12.trans (pk_mul g_4 zn)
    refine lv_iload_n hx hb eX7_setBack_39 rfl (lv_at hl 1 rfl) ?_
    refine lv_iadd hx hb eX7_setBack_40 ?_
    refine lv_topi (fun y_13 ey_13 => ?_)
    obtain rfl : y_13 = (nI ((g_4 * zn) + a0)) := ey_13.trans (nI_add (g_4 * zn) a0)
    refine lv_aload_n hx hb eX7_setBack_41 rfl (lv_at hl 0 rfl) ?_
    refine va_get (D := (dC, dI)) (ci := 7) (v := .ref zc) (C := RX7) (T := TX7) (N := 2) hx hb hts hiX7 hown hK hP 0 rfl rfl 0 (by decide) v_2 (fun _ h9 => h9) rfl eX7_setBack_42 ?_
    refine lv_iload_n hx hb eX7_setBack_45 rfl (lv_at hl 2 rfl) ?_
    refine lv_aload_n hx hb eX7_setBack_46 rfl (lv_at hl 0 rfl) ?_
    refine va_get (D := (dC, dI)) (ci := 7) (v := .int (nI zn)) (C := RX7) (T := TX7) (N := 2) hx hb hts hiX7 hown hK hP 0 rfl rfl 1 (by decide) v_1 (fun _ h9 => h9) rfl eX7_setBack_47 ?_
    refine lv_imul hx hb eX7_setBack_50 ?_
    refine lv_topi (fun y_14 ey_14 => ?_)
    obtain rfl : y_14 = (nI (g_4 * zn)) := ey_14.trans (pk_mul g_4 zn)
    refine va_iald hx hb hK hP 1 0 rfl rfl (vp_in_nI (n := (g_4 * zn)) (by first | exact zx16 (by omega) (by omega) (by omega) | exact zy16 (by omega) (by omega) | omega) (Nat.le_of_ble_eq_true rfl)) eX7_setBack_51 ?_
    refine lv_topi (fun y_15 ey_15 => ?_)
    refine va_iast hx hb hK hP hD hS 1 0 rfl rfl (vp_in_nI (n := ((g_4 * zn) + a0)) (by first | exact zx16 (by omega) (by omega) (by omega) | exact zy16 (by omega) (by omega) | omega) (Nat.le_of_ble_eq_true rfl)) eX7_setBack_52 (fun H locs hP hD hS => ?_)
    have hP : va_P (dC, dI) vwCl (z16__w z zc (nI zn) k_fz (upd (upd g_3 ((nI ((a0 * zn) + g_4)) : Int32).toNatClampNeg y_11) ((nI ((g_4 * zn) + a0)) : Int32).toNatClampNeg y_15)) H := hP
    have hD : va_D A (z16__w z zc (nI zn) k_fz (upd (upd g_3 ((nI ((a0 * zn) + g_4)) : Int32).toNatClampNeg y_11) ((nI ((g_4 * zn) + a0)) : Int32).toNatClampNeg y_15)) := hD
    refine lv_iinc (v := (nI (g_4 + 1))) (lv' := [(2, .int (nI (g_4 + 1))), (0, .ref z), (1, .int (nI a0))]) hx hb eX7_setBack_53 hl (k := 2) rfl (nI_1 _) (by decide) rfl (fun ls hl => ?_)
    refine lv_goto (tgt := 2) hx hb eX7_setBack_56 (by decide) ?_
    exact ih_5 (4 - (g_4 + 1)) (by omega) _ _ _ ⟨(upd (upd g_3 ((nI ((a0 * zn) + g_4)) : Int32).toNatClampNeg y_11) ((nI ((g_4 * zn) + a0)) : Int32).toNatClampNeg y_15), (g_4 + 1), rfl, (by omega), hP, hD, hS, lv_sub hl [1, 2, 0] rfl⟩
theorem eX7_delay_0 : decode cX7_delay 0 = .ok (.iconst 1, 1) := by decide +kernel
theorem eX7_delay_1 : decode cX7_delay 1 = .ok (.istore_n 1, 1) := by decide +kernel
theorem eX7_delay_2 : decode cX7_delay 2 = .ok (.iload_n 1, 1) := by decide +kernel
theorem eX7_delay_3 : decode cX7_delay 3 = .ok (.aload_n 0, 1) := by decide +kernel
theorem eX7_delay_4 : decode cX7_delay 4 = .ok (.getfield 18, 3) := by decide +kernel
theorem eX7_delay_7 : decode cX7_delay 7 = .ok (.if_icmp .ge 22, 3) := by decide +kernel
theorem eX7_delay_10 : decode cX7_delay 10 = .ok (.aload_n 0, 1) := by decide +kernel
theorem eX7_delay_11 : decode cX7_delay 11 = .ok (.getfield 11, 3) := by decide +kernel
theorem eX7_delay_14 : decode cX7_delay 14 = .ok (.iload_n 1, 1) := by decide +kernel
theorem eX7_delay_15 : decode cX7_delay 15 = .ok (.aload_n 0, 1) := by decide +kernel
theorem eX7_delay_16 : decode cX7_delay 16 = .ok (.getfield 18, 3) := by decide +kernel
theorem eX7_delay_19 : decode cX7_delay 19 = .ok (.imul, 1) := by decide +kernel
theorem eX7_delay_20 : decode cX7_delay 20 = .ok (.ldc 17, 2) := by decide +kernel
theorem eX7_delay_22 : decode cX7_delay 22 = .ok (.iastore, 1) := by decide +kernel
theorem eX7_delay_23 : decode cX7_delay 23 = .ok (.iinc 1 1, 3) := by decide +kernel
theorem eX7_delay_26 : decode cX7_delay 26 = .ok (.goto (-24), 3) := by decide +kernel
theorem eX7_delay_29 : decode cX7_delay 29 = .ok (.return_, 1) := by decide +kernel
abbrev vs_C_7_delay_16 : List Cond := .code yX7_delay cX7_delay 2 none :: CM
set_option maxHeartbeats 4000000 in
set_option maxRecDepth 100000 in
theorem c_C_7_delay_16 (l : Launch) (dC : Nat → ClassId) (dI : Nat → Nat → Nat) (sz : Nat) (z : Nat) (zc : Nat) (zn : Nat) (k_fz : ClassId) (fz : Nat → Int32) (hzn : zn ≤ 4) : Met l yX7_delay vs_C_7_delay_16 ({ frames := 0, cells := 0, slots := 0, locals := 0 }) (va_Pc [.ref z] (pu_B (dC, dI) (z16__w z zc (nI zn) k_fz fz) (z16__t k_fz) sz)) (va_Qv (fun (_ : Unit) => True) (fun _ t => ∃ (z_fz : Nat → Int32), pu_E (dC, dI) (z16__w z zc (nI zn) k_fz z_fz) (z16__t k_fz) (va_A ((z16__w z zc (nI zn) k_fz fz)) sz) t) (va_A ((z16__w z zc (nI zn) k_fz fz)) sz)) 0 0 (va_A ((z16__w z zc (nI zn) k_fz fz)) sz) := by
  refine Met.ofW (cc := cX7_delay) (maxL := 2) (ret := none) (by decide) rfl ?_
  intro p e s m args below meth c s₁ B hml hv
  obtain ⟨rfl, rfl, hP, hK, hD0⟩ := hv
  have hx := B.exec
  have hb := B.bytes
  have hr := B.returns
  have hts := atoms_spec (ws := vs_C_7_delay_16) B.pre
  have v_1 := hts (.fieldLink RX7 18 "ClockReach$Zone" "size" "I") (List.mem_cons_of_mem _ cm_48)
  have v_2 := hts (.fieldLink RX7 11 "ClockReach$Zone" "cells" "[I") (List.mem_cons_of_mem _ cm_47)
  have v_3 := hts (.constant RX7 17 (2147483647)) (List.mem_cons_of_mem _ cm_49)
  have hown : s.vm.findClass RX7 = some m.cls := findClass_of_methodNamed B.named
  have hlocks := B.notSynchronized
  have hiX7 : ∀ w ∈ wsX70, w ∈ vs_C_7_delay_16 := fun _ h => List.mem_cons_of_mem _ (cm_X7 h)
  have hD := hD0.self (sz := s.heap.size)
  generalize hAe : va_A ((z16__w z zc (nI zn) k_fz fz)) s.heap.size = A at hD ⊢
  have hA : ∀ q : Nat, s.heap.size ≤ q → A q := fun q h => by rw [← hAe]; exact Or.inr h
  have hS : va_S A s.heap s.heap [] := va_S.rf
  have hl := lv_entry ([.ref z]) (n := 2) (Nat.le_of_ble_eq_true rfl)
  rw [lg_entry_eq]
  generalize (lg_sl ([.ref z]) ++ List.replicate (2 - (lg_sl ([.ref z])).length) Slot.unset).toArray = ls at hl ⊢
  have hl : lv_has ls 2 [(0, .ref z)] := hl
  have hzz := zz4 hzn
  refine lv_iconst (v := 1) hx hb eX7_delay_0 (by decide) ?_
  refine lv_istore_n (lv' := [(1, .int 1), (0, .ref z)]) hx hb eX7_delay_1 rfl hl (by decide) rfl (fun ls hl => ?_)
  refine pu_while (fun nn H locs ls => ∃ (g_3 : Nat → Int32) (g_4 : Nat), nn = 4 - g_4 ∧ (1 ≤ g_4 ∧ g_4 ≤ 4) ∧ va_P (dC, dI) vwCl (z16__w z zc (nI zn) k_fz g_3) H ∧ va_D A (z16__w z zc (nI zn) k_fz g_3) ∧ va_S A s.heap H locs ∧ lv_has ls 2 [(0, .ref z), (1, .int (nI g_4))]) 2 ?_ _ _ _ _ ⟨fz, 1, rfl, ⟨by omega, by omega⟩, hP, hD, hS, lv_sub hl [1, 0] rfl⟩
  rintro nn ih_5 H locs ls ⟨g_3, g_4, rfl, hg_4, hP, hD, hS, hl⟩
  refine lv_iload_n hx hb eX7_delay_2 rfl (lv_at hl 1 rfl) ?_
  refine lv_aload_n hx hb eX7_delay_3 rfl (lv_at hl 0 rfl) ?_
  refine va_get (D := (dC, dI)) (ci := 7) (v := .int (nI zn)) (C := RX7) (T := TX7) (N := 2) hx hb hts hiX7 hown hK hP 0 rfl rfl 1 (by decide) v_1 (fun _ h9 => h9) rfl eX7_delay_4 ?_
  refine lv_icmp_ge (tgt := 29) hx hb eX7_delay_7 (by decide) (fun c_6 => ?_) (fun c_6 => ?_)
  · have c_6 : zn ≤ g_4 := (nI_leI (a := zn) (b := g_4) (Nat.lt_of_le_of_lt hzn (Nat.le_of_ble_eq_true rfl)) (Nat.lt_of_le_of_lt hg_4.2 (Nat.le_of_ble_eq_true rfl))).mp c_6
    exact W.vret hx hb hr (fun t ht hW => ⟨⟨(), rfl, trivial, ⟨g_3, ⟨by rw [ht]; exact hP, va_K.moved hW.alike hK, hD⟩⟩⟩, hS.F ht⟩) hS.2.2 eX7_delay_29
  · have c_6 : ¬ zn ≤ g_4 := fun z => c_6 ((nI_leI (a := zn) (b := g_4) (Nat.lt_of_le_of_lt hzn (Nat.le_of_ble_eq_true rfl)) (Nat.lt_of_le_of_lt hg_4.2 (Nat.le_of_ble_eq_true rfl))).mpr z)
    refine lv_aload_n hx hb eX7_delay_10 rfl (lv_at hl 0 rfl) ?_
    refine va_get (D := (dC, dI)) (ci := 7) (v := .ref zc) (C := RX7) (T := TX7) (N := 2) hx hb hts hiX7 hown hK hP 0 rfl rfl 0 (by decide) v_2 (fun _ h9 => h9) rfl eX7_delay_11 ?_
    refine lv_iload_n hx hb eX7_delay_14 rfl (lv_at hl 1 rfl) ?_
    refine lv_aload_n hx hb eX7_delay_15 rfl (lv_at hl 0 rfl) ?_
    refine va_get (D := (dC, dI)) (ci := 7) (v := .int (nI zn)) (C := RX7) (T := TX7) (N := 2) hx hb hts hiX7 hown hK hP 0 rfl rfl 1 (by decide) v_1 (fun _ h9 => h9) rfl eX7_delay_16 ?_
    refine lv_imul hx hb eX7_delay_19 ?_
    refine lv_topi (fun y_7 ey_7 => ?_)
    obtain rfl : y_7 = (nI (g_4 * zn)) := ey_7.trans (pk_mul g_4 zn)
    refine lv_ldc hx hb hown v_3 eX7_delay_20 ?_
    refine va_iast hx hb hK hP hD hS 1 0 rfl rfl (vp_in_nI (n := (g_4 * zn)) (by first | exact zx16 (by omega) (by omega) (by omega) | exact zy16 (by omega) (by omega) | omega) (Nat.le_of_ble_eq_true rfl)) eX7_delay_22 (fun H locs hP hD hS => ?_)
    have hP : va_P (dC, dI) vwCl (z16__w z zc (nI zn) k_fz (upd g_3 ((nI (g_4 * zn)) : Int32).toNatClampNeg 2147483647)) H := hP
    have hD : va_D A (z16__w z zc (nI zn) k_fz (upd g_3 ((nI (g_4 * zn)) : Int32).toNatClampNeg 2147483647)) := hD
    refine lv_iinc (v := (nI (g_4 + 1))) (lv' := [(1, .int (nI (g_4 + 1))), (0, .ref z)]) hx hb eX7_delay_23 hl (k := 1) rfl (nI_1 _) (by decide) rfl (fun ls hl => ?_)
    refine lv_goto (tgt := 2) hx hb eX7_delay_26 (by decide) ?_
    exact ih_5 (4 - (g_4 + 1)) (by omega) _ _ _ ⟨(upd g_3 ((nI (g_4 * zn)) : Int32).toNatClampNeg 2147483647), (g_4 + 1), rfl, ⟨by omega, by omega⟩, hP, hD, hS, lv_sub hl [1, 0] rfl⟩
theorem eX7_setPast_0 : decode cX7_setPast 0 = .ok (.iconst 1, 1) := by decide +kernel
theorem eX7_setPast_1 : decode cX7_setPast 1 = .ok (.istore_n 1, 1) := by decide +kernel
theorem eX7_setPast_2 : decode cX7_setPast 2 = .ok (.iload_n 1, 1) := by decide +kernel
theorem eX7_setPast_3 : decode cX7_setPast 3 = .ok (.aload_n 0, 1) := by decide +kernel
theorem eX7_setPast_4 : decode cX7_setPast 4 = .ok (.getfield 18, 3) := by decide +kernel
theorem eX7_setPast_7 : decode cX7_setPast 7 = .ok (.if_icmp .ge 52, 3) := by decide +kernel
theorem eX7_setPast_10 : decode cX7_setPast 10 = .ok (.iconst 1, 1) := by decide +kernel
theorem eX7_setPast_11 : decode cX7_setPast 11 = .ok (.istore_n 2, 1) := by decide +kernel
theorem eX7_setPast_12 : decode cX7_setPast 12 = .ok (.iconst 1, 1) := by decide +kernel
theorem eX7_setPast_13 : decode cX7_setPast 13 = .ok (.istore_n 3, 1) := by decide +kernel
theorem eX7_setPast_14 : decode cX7_setPast 14 = .ok (.iload_n 3, 1) := by decide +kernel
theorem eX7_setPast_15 : decode cX7_setPast 15 = .ok (.aload_n 0, 1) := by decide +kernel
theorem eX7_setPast_16 : decode cX7_setPast 16 = .ok (.getfield 18, 3) := by decide +kernel
theorem eX7_setPast_19 : decode cX7_setPast 19 = .ok (.if_icmp .ge 27, 3) := by decide +kernel
theorem eX7_setPast_22 : decode cX7_setPast 22 = .ok (.iload_n 2, 1) := by decide +kernel
theorem eX7_setPast_23 : decode cX7_setPast 23 = .ok (.aload_n 0, 1) := by decide +kernel
theorem eX7_setPast_24 : decode cX7_setPast 24 = .ok (.getfield 11, 3) := by decide +kernel
theorem eX7_setPast_27 : decode cX7_setPast 27 = .ok (.iload_n 3, 1) := by decide +kernel
theorem eX7_setPast_28 : decode cX7_setPast 28 = .ok (.aload_n 0, 1) := by decide +kernel
theorem eX7_setPast_29 : decode cX7_setPast 29 = .ok (.getfield 18, 3) := by decide +kernel
theorem eX7_setPast_32 : decode cX7_setPast 32 = .ok (.imul, 1) := by decide +kernel
theorem eX7_setPast_33 : decode cX7_setPast 33 = .ok (.iload_n 1, 1) := by decide +kernel
theorem eX7_setPast_34 : decode cX7_setPast 34 = .ok (.iadd, 1) := by decide +kernel
theorem eX7_setPast_35 : decode cX7_setPast 35 = .ok (.iaload, 1) := by decide +kernel
theorem eX7_setPast_36 : decode cX7_setPast 36 = .ok (.invokestatic 22, 3) := by decide +kernel
theorem eX7_setPast_39 : decode cX7_setPast 39 = .ok (.istore_n 2, 1) := by decide +kernel
theorem eX7_setPast_40 : decode cX7_setPast 40 = .ok (.iinc 3 1, 3) := by decide +kernel
theorem eX7_setPast_43 : decode cX7_setPast 43 = .ok (.goto (-29), 3) := by decide +kernel
theorem eX7_setPast_46 : decode cX7_setPast 46 = .ok (.aload_n 0, 1) := by decide +kernel
theorem eX7_setPast_47 : decode cX7_setPast 47 = .ok (.getfield 11, 3) := by decide +kernel
theorem eX7_setPast_50 : decode cX7_setPast 50 = .ok (.iload_n 1, 1) := by decide +kernel
theorem eX7_setPast_51 : decode cX7_setPast 51 = .ok (.iload_n 2, 1) := by decide +kernel
theorem eX7_setPast_52 : decode cX7_setPast 52 = .ok (.iastore, 1) := by decide +kernel
theorem eX7_setPast_53 : decode cX7_setPast 53 = .ok (.iinc 1 1, 3) := by decide +kernel
theorem eX7_setPast_56 : decode cX7_setPast 56 = .ok (.goto (-54), 3) := by decide +kernel
theorem eX7_setPast_59 : decode cX7_setPast 59 = .ok (.return_, 1) := by decide +kernel
abbrev vs_C_7_setPast_16 : List Cond := .code yX7_setPast cX7_setPast 4 none :: CM
set_option maxHeartbeats 4000000 in
set_option maxRecDepth 100000 in
theorem c_C_7_setPast_16 (l : Launch) (dC : Nat → ClassId) (dI : Nat → Nat → Nat) (sz : Nat) (z : Nat) (zc : Nat) (zn : Nat) (k_fz : ClassId) (fz : Nat → Int32) (hzn : zn ≤ 4) : Met l yX7_setPast vs_C_7_setPast_16 ({ frames := 1, cells := 0, slots := 0, locals := 14 }) (va_Pc [.ref z] (pu_B (dC, dI) (z16__w z zc (nI zn) k_fz fz) (z16__t k_fz) sz)) (va_Qv (fun (_ : Unit) => True) (fun _ t => ∃ (z_fz : Nat → Int32), pu_E (dC, dI) (z16__w z zc (nI zn) k_fz z_fz) (z16__t k_fz) (va_A ((z16__w z zc (nI zn) k_fz fz)) sz) t) (va_A ((z16__w z zc (nI zn) k_fz fz)) sz)) 0 0 (va_A ((z16__w z zc (nI zn) k_fz fz)) sz) := by
  refine Met.ofW (cc := cX7_setPast) (maxL := 4) (ret := none) (by decide) rfl ?_
  intro p e s m args below meth c s₁ B hml hv
  obtain ⟨rfl, rfl, hP, hK, hD0⟩ := hv
  have hx := B.exec
  have hb := B.bytes
  have hr := B.returns
  have hts := atoms_spec (ws := vs_C_7_setPast_16) B.pre
  have v_1 := hts (.fieldLink RX7 18 "ClockReach$Zone" "size" "I") (List.mem_cons_of_mem _ cm_48)
  have v_2 := hts (.fieldLink RX7 11 "ClockReach$Zone" "cells" "[I") (List.mem_cons_of_mem _ cm_47)
  have v_3 := hts (.methodLink RX7 22 Lib.Math.min.name) (List.mem_cons_of_mem _ cm_340)
  have v_4 := hts (.static Lib.Math.min.name) (List.mem_cons_of_mem _ cm_188)
  have v_5 := hts (.initialized "java/lang/Math") (List.mem_cons_of_mem _ cm_37)
  have v_6 := hts (.code Lib.Math.min.name Lib.Math.min.code 2 (some .int)) (List.mem_cons_of_mem _ cm_189)
  have hown : s.vm.findClass RX7 = some m.cls := findClass_of_methodNamed B.named
  have hlocks := B.notSynchronized
  have hiX7 : ∀ w ∈ wsX70, w ∈ vs_C_7_setPast_16 := fun _ h => List.mem_cons_of_mem _ (cm_X7 h)
  have hD := hD0.self (sz := s.heap.size)
  generalize hAe : va_A ((z16__w z zc (nI zn) k_fz fz)) s.heap.size = A at hD ⊢
  have hA : ∀ q : Nat, s.heap.size ≤ q → A q := fun q h => by rw [← hAe]; exact Or.inr h
  have hS : va_S A s.heap s.heap [] := va_S.rf
  have hl := lv_entry ([.ref z]) (n := 4) (Nat.le_of_ble_eq_true rfl)
  rw [lg_entry_eq]
  generalize (lg_sl ([.ref z]) ++ List.replicate (4 - (lg_sl ([.ref z])).length) Slot.unset).toArray = ls at hl ⊢
  have hl : lv_has ls 4 [(0, .ref z)] := hl
  have hzz := zz4 hzn
  refine lv_iconst (v := 1) hx hb eX7_setPast_0 (by decide) ?_
  refine lv_istore_n (lv' := [(1, .int 1), (0, .ref z)]) hx hb eX7_setPast_1 rfl hl (by decide) rfl (fun ls hl => ?_)
  refine pu_while (fun nn H locs ls => ∃ (g_3 : Nat → Int32) (g_4 : Nat), nn = 4 - g_4 ∧ (1 ≤ g_4 ∧ g_4 ≤ 4) ∧ va_P (dC, dI) vwCl (z16__w z zc (nI zn) k_fz g_3) H ∧ va_D A (z16__w z zc (nI zn) k_fz g_3) ∧ va_S A s.heap H locs ∧ lv_has ls 4 [(0, .ref z), (1, .int (nI g_4))]) 2 ?_ _ _ _ _ ⟨fz, 1, rfl, ⟨by omega, by omega⟩, hP, hD, hS, lv_sub hl [1, 0] rfl⟩
  rintro nn ih_5 H locs ls ⟨g_3, g_4, rfl, hg_4, hP, hD, hS, hl⟩
  refine lv_iload_n hx hb eX7_setPast_2 rfl (lv_at hl 1 rfl) ?_
  refine lv_aload_n hx hb eX7_setPast_3 rfl (lv_at hl 0 rfl) ?_
  refine va_get (D := (dC, dI)) (ci := 7) (v := .int (nI zn)) (C := RX7) (T := TX7) (N := 2) hx hb hts hiX7 hown hK hP 0 rfl rfl 1 (by decide) v_1 (fun _ h9 => h9) rfl eX7_setPast_4 ?_
  refine lv_icmp_ge (tgt := 59) hx hb eX7_setPast_7 (by decide) (fun c_6 => ?_) (fun c_6 => ?_)
  · have c_6 : zn ≤ g_4 := (nI_leI (a := zn) (b := g_4) (Nat.lt_of_le_of_lt hzn (Nat.le_of_ble_eq_true rfl)) (Nat.lt_of_le_of_lt hg_4.2 (Nat.le_of_ble_eq_true rfl))).mp c_6
    exact W.vret hx hb hr (fun t ht hW => ⟨⟨(), rfl, trivial, ⟨g_3, ⟨by rw [ht]; exact hP, va_K.moved hW.alike hK, hD⟩⟩⟩, hS.F ht⟩) hS.2.2 eX7_setPast_59
  · have c_6 : ¬ zn ≤ g_4 := fun z => c_6 ((nI_leI (a := zn) (b := g_4) (Nat.lt_of_le_of_lt hzn (Nat.le_of_ble_eq_true rfl)) (Nat.lt_of_le_of_lt hg_4.2 (Nat.le_of_ble_eq_true rfl))).mpr z)
    refine lv_iconst (v := 1) hx hb eX7_setPast_10 (by decide) ?_
    refine lv_istore_n (lv' := [(2, .int 1), (0, .ref z), (1, .int (nI g_4))]) hx hb eX7_setPast_11 rfl hl (by decide) rfl (fun ls hl => ?_)
    refine lv_iconst (v := 1) hx hb eX7_setPast_12 (by decide) ?_
    refine lv_istore_n (lv' := [(3, .int 1), (2, .int 1), (0, .ref z), (1, .int (nI g_4))]) hx hb eX7_setPast_13 rfl hl (by decide) rfl (fun ls hl => ?_)
    refine pu_while (fun nn H locs ls => ∃ (g_9 : Int32) (g_10 : Nat), nn = 4 - g_10 ∧ (1 ≤ g_10 ∧ g_10 ≤ 4) ∧ va_P (dC, dI) vwCl (z16__w z zc (nI zn) k_fz g_3) H ∧ va_D A (z16__w z zc (nI zn) k_fz g_3) ∧ va_S A s.heap H locs ∧ lv_has ls 4 [(0, .ref z), (1, .int (nI g_4)), (2, .int g_9), (3, .int (nI g_10))]) 14 ?_ _ _ _ _ ⟨1, 1, rfl, ⟨by omega, by omega⟩, hP, hD, hS, lv_sub hl [2, 3, 1, 0] rfl⟩
    rintro nn ih_11 H locs ls ⟨g_9, g_10, rfl, hg_10, hP, hD, hS, hl⟩
    refine lv_iload_n hx hb eX7_setPast_14 rfl (lv_at hl 3 rfl) ?_
    refine lv_aload_n hx hb eX7_setPast_15 rfl (lv_at hl 0 rfl) ?_
    refine va_get (D := (dC, dI)) (ci := 7) (v := .int (nI zn)) (C := RX7) (T := TX7) (N := 2) hx hb hts hiX7 hown hK hP 0 rfl rfl 1 (by decide) v_1 (fun _ h9 => h9) rfl eX7_setPast_16 ?_
    refine lv_icmp_ge (tgt := 46) hx hb eX7_setPast_19 (by decide) (fun c_12 => ?_) (fun c_12 => ?_)
    · have c_12 : zn ≤ g_10 := (nI_leI (a := zn) (b := g_10) (Nat.lt_of_le_of_lt hzn (Nat.le_of_ble_eq_true rfl)) (Nat.lt_of_le_of_lt hg_10.2 (Nat.le_of_ble_eq_true rfl))).mp c_12
      refine lv_aload_n hx hb eX7_setPast_46 rfl (lv_at hl 0 rfl) ?_
      refine va_get (D := (dC, dI)) (ci := 7) (v := .ref zc) (C := RX7) (T := TX7) (N := 2) hx hb hts hiX7 hown hK hP 0 rfl rfl 0 (by decide) v_2 (fun _ h9 => h9) rfl eX7_setPast_47 ?_
      refine lv_iload_n hx hb eX7_setPast_50 rfl (lv_at hl 1 rfl) ?_
      refine lv_iload_n hx hb eX7_setPast_51 rfl (lv_at hl 2 rfl) ?_
      refine va_iast hx hb hK hP hD hS 1 0 rfl rfl (vp_in_nI (n := g_4) (Nat.lt_of_le_of_lt hg_4.2 (Nat.le_of_ble_eq_true rfl)) (Nat.le_of_ble_eq_true rfl)) eX7_setPast_52 (fun H locs hP hD hS => ?_)
      have hP : va_P (dC, dI) vwCl (z16__w z zc (nI zn) k_fz (upd g_3 ((nI g_4) : Int32).toNatClampNeg g_9)) H := hP
      have hD : va_D A (z16__w z zc (nI zn) k_fz (upd g_3 ((nI g_4) : Int32).toNatClampNeg g_9)) := hD
      refine lv_iinc (v := (nI (g_4 + 1))) (lv' := [(1, .int (nI (g_4 + 1))), (0, .ref z), (2, .int g_9), (3, .int (nI g_10))]) hx hb eX7_setPast_53 hl (k := 1) rfl (nI_1 _) (by decide) rfl (fun ls hl => ?_)
      refine lv_goto (tgt := 2) hx hb eX7_setPast_56 (by decide) ?_
      exact ih_5 (4 - (g_4 + 1)) (by omega) _ _ _ ⟨(upd g_3 ((nI g_4) : Int32).toNatClampNeg g_9), (g_4 + 1), rfl, ⟨by omega, by omega⟩, hP, hD, hS, lv_sub hl [1, 0] rfl⟩
    · have c_12 : ¬ zn ≤ g_10 := fun z => c_12 ((nI_leI (a := zn) (b := g_10) (Nat.lt_of_le_of_lt hzn (Nat.le_of_ble_eq_true rfl)) (Nat.lt_of_le_of_lt hg_10.2 (Nat.le_of_ble_eq_true rfl))).mpr z)
      refine lv_iload_n hx hb eX7_setPast_22 rfl (lv_at hl 2 rfl) ?_
      refine lv_aload_n hx hb eX7_setPast_23 rfl (lv_at hl 0 rfl) ?_
      refine va_get (D := (dC, dI)) (ci := 7) (v := .ref zc) (C := RX7) (T := TX7) (N := 2) hx hb hts hiX7 hown hK hP 0 rfl rfl 0 (by decide) v_2 (fun _ h9 => h9) rfl eX7_setPast_24 ?_
      refine lv_iload_n hx hb eX7_setPast_27 rfl (lv_at hl 3 rfl) ?_
      refine lv_aload_n hx hb eX7_setPast_28 rfl (lv_at hl 0 rfl) ?_
      refine va_get (D := (dC, dI)) (ci := 7) (v := .int (nI zn)) (C := RX7) (T := TX7) (N := 2) hx hb hts hiX7 hown hK hP 0 rfl rfl 1 (by decide) v_1 (fun _ h9 => h9) rfl eX7_setPast_29 ?_
      refine lv_imul hx hb eX7_setPast_32 ?_
      refine lv_topi (fun y_13 ey_13 => ?_)
      obtain rfl : y_13 = (nI (g_10 * zn)) := ey_13.trans (pk_mul g_10 zn)
      refine lv_iload_n hx hb eX7_setPast_33 rfl (lv_at hl 1 rfl) ?_
      refine lv_iadd hx hb eX7_setPast_34 ?_
      refine lv_topi (fun y_14 ey_14 => ?_)
      obtain rfl : y_14 = (nI ((g_10 * zn) + g_4)) := ey_14.trans (nI_add (g_10 * zn) g_4)
      refine va_iald hx hb hK hP 1 0 rfl rfl (vp_in_nI (n := ((g_10 * zn) + g_4)) (by first | exact zx16 (by omega) (by omega) (by omega) | exact zy16 (by omega) (by omega) | omega) (Nat.le_of_ble_eq_true rfl)) eX7_setPast_35 ?_
      refine lv_topi (fun y_15 ey_15 => ?_)
      refine va_mmin hx hb (hml.trans hl.1.symm) hown v_3 v_4 v_5 v_6 (Nat.le_of_ble_eq_true rfl) (Nat.le_of_ble_eq_true rfl) (Nat.le_of_ble_eq_true rfl) (Nat.le_of_ble_eq_true rfl) eX7_setPast_36 ?_
      refine lv_topi (fun y_16 ey_16 => ?_)
      refine lv_istore_n (lv' := [(2, .int y_16), (0, .ref z), (1, .int (nI g_4)), (3, .int (nI g_10))]) hx hb eX7_setPast_39 rfl hl (by decide) rfl (fun ls hl => ?_)
      refine lv_iinc (v := (nI (g_10 + 1))) (lv' := [(3, .int (nI (g_10 + 1))), (2, .int y_16), (0, .ref z), (1, .int (nI g_4))]) hx hb eX7_setPast_40 hl (k := 3) rfl (nI_1 _) (by decide) rfl (fun ls hl => ?_)
      refine lv_goto (tgt := 14) hx hb eX7_setPast_43 (by decide) ?_
      exact ih_11 (4 - (g_10 + 1)) (by omega) _ _ _ ⟨y_16, (g_10 + 1), rfl, ⟨by omega, by omega⟩, hP, hD, hS, lv_sub hl [2, 3, 1, 0] rfl⟩
theorem eX7_close_0 : decode cX7_close 0 = .ok (.iconst 0, 1) := by decide +kernel
theorem eX7_close_1 : decode cX7_close 1 = .ok (.istore_n 1, 1) := by decide +kernel
theorem eX7_close_2 : decode cX7_close 2 = .ok (.iload_n 1, 1) := by decide +kernel
theorem eX7_close_3 : decode cX7_close 3 = .ok (.aload_n 0, 1) := by decide +kernel
theorem eX7_close_4 : decode cX7_close 4 = .ok (.getfield 18, 3) := by decide +kernel
theorem eX7_close_7 : decode cX7_close 7 = .ok (.if_icmp .ge 140, 3) := by decide +kernel
theorem eX7_close_10 : decode cX7_close 10 = .ok (.iconst 0, 1) := by decide +kernel
theorem eX7_close_11 : decode cX7_close 11 = .ok (.istore_n 2, 1) := by decide +kernel
theorem eX7_close_12 : decode cX7_close 12 = .ok (.iload_n 2, 1) := by decide +kernel
theorem eX7_close_13 : decode cX7_close 13 = .ok (.aload_n 0, 1) := by decide +kernel
theorem eX7_close_14 : decode cX7_close 14 = .ok (.getfield 18, 3) := by decide +kernel
theorem eX7_close_17 : decode cX7_close 17 = .ok (.if_icmp .ge 124, 3) := by decide +kernel
theorem eX7_close_20 : decode cX7_close 20 = .ok (.aload_n 0, 1) := by decide +kernel
theorem eX7_close_21 : decode cX7_close 21 = .ok (.getfield 11, 3) := by decide +kernel
theorem eX7_close_24 : decode cX7_close 24 = .ok (.iload_n 2, 1) := by decide +kernel
theorem eX7_close_25 : decode cX7_close 25 = .ok (.aload_n 0, 1) := by decide +kernel
theorem eX7_close_26 : decode cX7_close 26 = .ok (.getfield 18, 3) := by decide +kernel
theorem eX7_close_29 : decode cX7_close 29 = .ok (.imul, 1) := by decide +kernel
theorem eX7_close_30 : decode cX7_close 30 = .ok (.iload_n 1, 1) := by decide +kernel
theorem eX7_close_31 : decode cX7_close 31 = .ok (.iadd, 1) := by decide +kernel
theorem eX7_close_32 : decode cX7_close 32 = .ok (.iaload, 1) := by decide +kernel
theorem eX7_close_33 : decode cX7_close 33 = .ok (.istore_n 3, 1) := by decide +kernel
theorem eX7_close_34 : decode cX7_close 34 = .ok (.iload_n 3, 1) := by decide +kernel
theorem eX7_close_35 : decode cX7_close 35 = .ok (.ldc 17, 2) := by decide +kernel
theorem eX7_close_37 : decode cX7_close 37 = .ok (.if_icmp .ne 6, 3) := by decide +kernel
theorem eX7_close_40 : decode cX7_close 40 = .ok (.goto 95, 3) := by decide +kernel
theorem eX7_close_43 : decode cX7_close 43 = .ok (.iconst 0, 1) := by decide +kernel
theorem eX7_close_44 : decode cX7_close 44 = .ok (.istore 4, 2) := by decide +kernel
theorem eX7_close_46 : decode cX7_close 46 = .ok (.iload 4, 2) := by decide +kernel
theorem eX7_close_48 : decode cX7_close 48 = .ok (.aload_n 0, 1) := by decide +kernel
theorem eX7_close_49 : decode cX7_close 49 = .ok (.getfield 18, 3) := by decide +kernel
theorem eX7_close_52 : decode cX7_close 52 = .ok (.if_icmp .ge 83, 3) := by decide +kernel
theorem eX7_close_55 : decode cX7_close 55 = .ok (.aload_n 0, 1) := by decide +kernel
theorem eX7_close_56 : decode cX7_close 56 = .ok (.getfield 11, 3) := by decide +kernel
theorem eX7_close_59 : decode cX7_close 59 = .ok (.iload_n 1, 1) := by decide +kernel
theorem eX7_close_60 : decode cX7_close 60 = .ok (.aload_n 0, 1) := by decide +kernel
theorem eX7_close_61 : decode cX7_close 61 = .ok (.getfield 18, 3) := by decide +kernel
theorem eX7_close_64 : decode cX7_close 64 = .ok (.imul, 1) := by decide +kernel
theorem eX7_close_65 : decode cX7_close 65 = .ok (.iload 4, 2) := by decide +kernel
theorem eX7_close_67 : decode cX7_close 67 = .ok (.iadd, 1) := by decide +kernel
theorem eX7_close_68 : decode cX7_close 68 = .ok (.iaload, 1) := by decide +kernel
theorem eX7_close_69 : decode cX7_close 69 = .ok (.istore 5, 2) := by decide +kernel
theorem eX7_close_71 : decode cX7_close 71 = .ok (.iload 5, 2) := by decide +kernel
theorem eX7_close_73 : decode cX7_close 73 = .ok (.ldc 17, 2) := by decide +kernel
theorem eX7_close_75 : decode cX7_close 75 = .ok (.if_icmp .ne 6, 3) := by decide +kernel
theorem eX7_close_78 : decode cX7_close 78 = .ok (.goto 51, 3) := by decide +kernel
theorem eX7_close_81 : decode cX7_close 81 = .ok (.iload_n 3, 1) := by decide +kernel
theorem eX7_close_82 : decode cX7_close 82 = .ok (.iload 5, 2) := by decide +kernel
theorem eX7_close_84 : decode cX7_close 84 = .ok (.iadd, 1) := by decide +kernel
theorem eX7_close_85 : decode cX7_close 85 = .ok (.iload_n 3, 1) := by decide +kernel
theorem eX7_close_86 : decode cX7_close 86 = .ok (.iload 5, 2) := by decide +kernel
theorem eX7_close_88 : decode cX7_close 88 = .ok (.ior, 1) := by decide +kernel
theorem eX7_close_89 : decode cX7_close 89 = .ok (.iconst 1, 1) := by decide +kernel
theorem eX7_close_90 : decode cX7_close 90 = .ok (.iand, 1) := by decide +kernel
theorem eX7_close_91 : decode cX7_close 91 = .ok (.isub, 1) := by decide +kernel
theorem eX7_close_92 : decode cX7_close 92 = .ok (.istore 6, 2) := by decide +kernel
theorem eX7_close_94 : decode cX7_close 94 = .ok (.iload 6, 2) := by decide +kernel
theorem eX7_close_96 : decode cX7_close 96 = .ok (.aload_n 0, 1) := by decide +kernel
theorem eX7_close_97 : decode cX7_close 97 = .ok (.getfield 11, 3) := by decide +kernel
theorem eX7_close_100 : decode cX7_close 100 = .ok (.iload_n 2, 1) := by decide +kernel
theorem eX7_close_101 : decode cX7_close 101 = .ok (.aload_n 0, 1) := by decide +kernel
theorem eX7_close_102 : decode cX7_close 102 = .ok (.getfield 18, 3) := by decide +kernel
theorem eX7_close_105 : decode cX7_close 105 = .ok (.imul, 1) := by decide +kernel
theorem eX7_close_106 : decode cX7_close 106 = .ok (.iload 4, 2) := by decide +kernel
theorem eX7_close_108 : decode cX7_close 108 = .ok (.iadd, 1) := by decide +kernel
theorem eX7_close_109 : decode cX7_close 109 = .ok (.iaload, 1) := by decide +kernel
theorem eX7_close_110 : decode cX7_close 110 = .ok (.if_icmp .ge 19, 3) := by decide +kernel
theorem eX7_close_113 : decode cX7_close 113 = .ok (.aload_n 0, 1) := by decide +kernel
theorem eX7_close_114 : decode cX7_close 114 = .ok (.getfield 11, 3) := by decide +kernel
theorem eX7_close_117 : decode cX7_close 117 = .ok (.iload_n 2, 1) := by decide +kernel
theorem eX7_close_118 : decode cX7_close 118 = .ok (.aload_n 0, 1) := by decide +kernel
theorem eX7_close_119 : decode cX7_close 119 = .ok (.getfield 18, 3) := by decide +kernel
theorem eX7_close_122 : decode cX7_close 122 = .ok (.imul, 1) := by decide +kernel
theorem eX7_close_123 : decode cX7_close 123 = .ok (.iload 4, 2) := by decide +kernel
theorem eX7_close_125 : decode cX7_close 125 = .ok (.iadd, 1) := by decide +kernel
theorem eX7_close_126 : decode cX7_close 126 = .ok (.iload 6, 2) := by decide +kernel
theorem eX7_close_128 : decode cX7_close 128 = .ok (.iastore, 1) := by decide +kernel
theorem eX7_close_129 : decode cX7_close 129 = .ok (.iinc 4 1, 3) := by decide +kernel
theorem eX7_close_132 : decode cX7_close 132 = .ok (.goto (-86), 3) := by decide +kernel
theorem eX7_close_135 : decode cX7_close 135 = .ok (.iinc 2 1, 3) := by decide +kernel
theorem eX7_close_138 : decode cX7_close 138 = .ok (.goto (-126), 3) := by decide +kernel
theorem eX7_close_141 : decode cX7_close 141 = .ok (.iinc 1 1, 3) := by decide +kernel
theorem eX7_close_144 : decode cX7_close 144 = .ok (.goto (-142), 3) := by decide +kernel
theorem eX7_close_147 : decode cX7_close 147 = .ok (.return_, 1) := by decide +kernel
abbrev vs_C_7_close_16 : List Cond := .code yX7_close cX7_close 7 none :: CM
set_option maxHeartbeats 4000000 in
set_option maxRecDepth 100000 in
theorem c_C_7_close_16 (l : Launch) (dC : Nat → ClassId) (dI : Nat → Nat → Nat) (sz : Nat) (z : Nat) (zc : Nat) (zn : Nat) (k_fz : ClassId) (fz : Nat → Int32) (hzn : zn ≤ 4) : Met l yX7_close vs_C_7_close_16 ({ frames := 0, cells := 0, slots := 0, locals := 0 }) (va_Pc [.ref z] (pu_B (dC, dI) (z16__w z zc (nI zn) k_fz fz) (z16__t k_fz) sz)) (va_Qv (fun (_ : Unit) => True) (fun _ t => ∃ (z_fz : Nat → Int32), pu_E (dC, dI) (z16__w z zc (nI zn) k_fz z_fz) (z16__t k_fz) (va_A ((z16__w z zc (nI zn) k_fz fz)) sz) t) (va_A ((z16__w z zc (nI zn) k_fz fz)) sz)) 0 0 (va_A ((z16__w z zc (nI zn) k_fz fz)) sz) := by
  refine Met.ofW (cc := cX7_close) (maxL := 7) (ret := none) (by decide) rfl ?_
  intro p e s m args below meth c s₁ B hml hv
  obtain ⟨rfl, rfl, hP, hK, hD0⟩ := hv
  have hx := B.exec
  have hb := B.bytes
  have hr := B.returns
  have hts := atoms_spec (ws := vs_C_7_close_16) B.pre
  have v_1 := hts (.fieldLink RX7 18 "ClockReach$Zone" "size" "I") (List.mem_cons_of_mem _ cm_48)
  have v_2 := hts (.fieldLink RX7 11 "ClockReach$Zone" "cells" "[I") (List.mem_cons_of_mem _ cm_47)
  have v_3 := hts (.constant RX7 17 (2147483647)) (List.mem_cons_of_mem _ cm_49)
  have hown : s.vm.findClass RX7 = some m.cls := findClass_of_methodNamed B.named
  have hlocks := B.notSynchronized
  have hiX7 : ∀ w ∈ wsX70, w ∈ vs_C_7_close_16 := fun _ h => List.mem_cons_of_mem _ (cm_X7 h)
  have hD := hD0.self (sz := s.heap.size)
  generalize hAe : va_A ((z16__w z zc (nI zn) k_fz fz)) s.heap.size = A at hD ⊢
  have hA : ∀ q : Nat, s.heap.size ≤ q → A q := fun q h => by rw [← hAe]; exact Or.inr h
  have hS : va_S A s.heap s.heap [] := va_S.rf
  have hl := lv_entry ([.ref z]) (n := 7) (Nat.le_of_ble_eq_true rfl)
  rw [lg_entry_eq]
  generalize (lg_sl ([.ref z]) ++ List.replicate (7 - (lg_sl ([.ref z])).length) Slot.unset).toArray = ls at hl ⊢
  have hl : lv_has ls 7 [(0, .ref z)] := hl
  have hzz := zz4 hzn
  refine lv_iconst (v := 0) hx hb eX7_close_0 (by decide) ?_
  refine lv_istore_n (lv' := [(1, .int 0), (0, .ref z)]) hx hb eX7_close_1 rfl hl (by decide) rfl (fun ls hl => ?_)
  refine pu_while (fun nn H locs ls => ∃ (g_3 : Nat → Int32) (g_4 : Nat), nn = 4 - g_4 ∧ g_4 ≤ 4 ∧ va_P (dC, dI) vwCl (z16__w z zc (nI zn) k_fz g_3) H ∧ va_D A (z16__w z zc (nI zn) k_fz g_3) ∧ va_S A s.heap H locs ∧ lv_has ls 7 [(0, .ref z), (1, .int (nI g_4))]) 2 ?_ _ _ _ _ ⟨fz, 0, rfl, (Nat.le_of_ble_eq_true rfl), hP, hD, hS, lv_sub hl [1, 0] rfl⟩
  rintro nn ih_5 H locs ls ⟨g_3, g_4, rfl, hg_4, hP, hD, hS, hl⟩
  refine lv_iload_n hx hb eX7_close_2 rfl (lv_at hl 1 rfl) ?_
  refine lv_aload_n hx hb eX7_close_3 rfl (lv_at hl 0 rfl) ?_
  refine va_get (D := (dC, dI)) (ci := 7) (v := .int (nI zn)) (C := RX7) (T := TX7) (N := 2) hx hb hts hiX7 hown hK hP 0 rfl rfl 1 (by decide) v_1 (fun _ h9 => h9) rfl eX7_close_4 ?_
  refine lv_icmp_ge (tgt := 147) hx hb eX7_close_7 (by decide) (fun c_6 => ?_) (fun c_6 => ?_)
  · have c_6 : zn ≤ g_4 := (nI_leI (a := zn) (b := g_4) (Nat.lt_of_le_of_lt hzn (Nat.le_of_ble_eq_true rfl)) (Nat.lt_of_le_of_lt hg_4 (Nat.le_of_ble_eq_true rfl))).mp c_6
    exact W.vret hx hb hr (fun t ht hW => ⟨⟨(), rfl, trivial, ⟨g_3, ⟨by rw [ht]; exact hP, va_K.moved hW.alike hK, hD⟩⟩⟩, hS.F ht⟩) hS.2.2 eX7_close_147
  · have c_6 : ¬ zn ≤ g_4 := fun z => c_6 ((nI_leI (a := zn) (b := g_4) (Nat.lt_of_le_of_lt hzn (Nat.le_of_ble_eq_true rfl)) (Nat.lt_of_le_of_lt hg_4 (Nat.le_of_ble_eq_true rfl))).mpr z)
    refine lv_iconst (v := 0) hx hb eX7_close_10 (by decide) ?_
    refine lv_istore_n (lv' := [(2, .int 0), (0, .ref z), (1, .int (nI g_4))]) hx hb eX7_close_11 rfl hl (by decide) rfl (fun ls hl => ?_)
    refine pu_while (fun nn H locs ls => ∃ (g_9 : Nat → Int32) (g_10 : Nat), nn = 4 - g_10 ∧ g_10 ≤ 4 ∧ va_P (dC, dI) vwCl (z16__w z zc (nI zn) k_fz g_9) H ∧ va_D A (z16__w z zc (nI zn) k_fz g_9) ∧ va_S A s.heap H locs ∧ lv_has ls 7 [(0, .ref z), (1, .int (nI g_4)), (2, .int (nI g_10))]) 12 ?_ _ _ _ _ ⟨g_3, 0, rfl, (Nat.le_of_ble_eq_true rfl), hP, hD, hS, lv_sub hl [1, 2, 0] rfl⟩
    rintro nn ih_11 H locs ls ⟨g_9, g_10, rfl, hg_10, hP, hD, hS, hl⟩
    refine lv_iload_n hx hb eX7_close_12 rfl (lv_at hl 2 rfl) ?_
    refine lv_aload_n hx hb eX7_close_13 rfl (lv_at hl 0 rfl) ?_
    refine va_get (D := (dC, dI)) (ci := 7) (v := .int (nI zn)) (C := RX7) (T := TX7) (N := 2) hx hb hts hiX7 hown hK hP 0 rfl rfl 1 (by decide) v_1 (fun _ h9 => h9) rfl eX7_close_14 ?_
    refine lv_icmp_ge (tgt := 141) hx hb eX7_close_17 (by decide) (fun c_12 => ?_) (fun c_12 => ?_)
    · have c_12 : zn ≤ g_10 := (nI_leI (a := zn) (b := g_10) (Nat.lt_of_le_of_lt hzn (Nat.le_of_ble_eq_true rfl)) (Nat.lt_of_le_of_lt hg_10 (Nat.le_of_ble_eq_true rfl))).mp c_12
      refine lv_iinc (v := (nI (g_4 + 1))) (lv' := [(1, .int (nI (g_4 + 1))), (0, .ref z), (2, .int (nI g_10))]) hx hb eX7_close_141 hl (k := 1) rfl (nI_1 _) (by decide) rfl (fun ls hl => ?_)
      refine lv_goto (tgt := 2) hx hb eX7_close_144 (by decide) ?_
      exact ih_5 (4 - (g_4 + 1)) (by omega) _ _ _ ⟨g_9, (g_4 + 1), rfl, (by omega), hP, hD, hS, lv_sub hl [1, 0] rfl⟩
    · have c_12 : ¬ zn ≤ g_10 := fun z => c_12 ((nI_leI (a := zn) (b := g_10) (Nat.lt_of_le_of_lt hzn (Nat.le_of_ble_eq_true rfl)) (Nat.lt_of_le_of_lt hg_10 (Nat.le_of_ble_eq_true rfl))).mpr z)
      refine lv_aload_n hx hb eX7_close_20 rfl (lv_at hl 0 rfl) ?_
      refine va_get (D := (dC, dI)) (ci := 7) (v := .ref zc) (C := RX7) (T := TX7) (N := 2) hx hb hts hiX7 hown hK hP 0 rfl rfl 0 (by decide) v_2 (fun _ h9 => h9) rfl eX7_close_21 ?_
      refine lv_iload_n hx hb eX7_close_24 rfl (lv_at hl 2 rfl) ?_
      refine lv_aload_n hx hb eX7_close_25 rfl (lv_at hl 0 rfl) ?_
      refine va_get (D := (dC, dI)) (ci := 7) (v := .int (nI zn)) (C := RX7) (T := TX7) (N := 2) hx hb hts hiX7 hown hK hP 0 rfl rfl 1 (by decide) v_1 (fun _ h9 => h9) rfl eX7_close_26 ?_
      refine lv_imul hx hb eX7_close_29 ?_
      refine lv_topi (fun y_13 ey_13 => ?_)
      obtain rfl : y_13 = (nI (g_10 * zn)) := ey_13.trans (pk_mul g_10 zn)
      refine lv_iload_n hx hb eX7_close_30 rfl (lv_at hl 1 rfl) ?_
      refine lv_iadd hx hb eX7_close_31 ?_
      refine lv_topi (fun y_14 ey_14 => ?_)
      obtain rfl : y_14 = (nI ((g_10 * zn) + g_4)) := ey_14.trans (nI_add (g_10 * zn) g_4)
      refine va_iald hx hb hK hP 1 0 rfl rfl (vp_in_nI (n := ((g_10 * zn) + g_4)) (by first | exact zx16 (by omega) (by omega) (by omega) | exact zy16 (by omega) (by omega) | omega) (Nat.le_of_ble_eq_true rfl)) eX7_close_32 ?_
      refine lv_topi (fun y_15 ey_15 => ?_)
      refine lv_istore_n (lv' := [(3, .int y_15), (0, .ref z), (1, .int (nI g_4)), (2, .int (nI g_10))]) hx hb eX7_close_33 rfl hl (by decide) rfl (fun ls hl => ?_)
      refine lv_iload_n hx hb eX7_close_34 rfl (lv_at hl 0 rfl) ?_
      refine lv_ldc hx hb hown v_3 eX7_close_35 ?_
      refine pu_join (fun H locs ls st => ∃ (g_16 : Nat → Int32), st = [] ∧ va_P (dC, dI) vwCl (z16__w z zc (nI zn) k_fz g_16) H ∧ va_D A (z16__w z zc (nI zn) k_fz g_16) ∧ va_S A s.heap H locs ∧ lv_has ls 7 [(0, .ref z), (1, .int (nI g_4)), (2, .int (nI g_10)), (3, .int y_15)]) 135 ?_ (fun j_17 => ?_)
      · rintro H locs ls st ⟨g_16, rfl, hP, hD, hS, hl⟩
        refine lv_iinc (v := (nI (g_10 + 1))) (lv' := [(2, .int (nI (g_10 + 1))), (0, .ref z), (1, .int (nI g_4)), (3, .int y_15)]) hx hb eX7_close_135 hl (k := 2) rfl (nI_1 _) (by decide) rfl (fun ls hl => ?_)
        refine lv_goto (tgt := 12) hx hb eX7_close_138 (by decide) ?_
        exact ih_11 (4 - (g_10 + 1)) (by omega) _ _ _ ⟨g_16, (g_10 + 1), rfl, (by omega), hP, hD, hS, lv_sub hl [1, 2, 0] rfl⟩
      refine lv_icmp_ne (tgt := 43) hx hb eX7_close_37 (by decide) (fun c_18 => ?_) (fun c_18 => ?_)
      · refine lv_iconst (v := 0) hx hb eX7_close_43 (by decide) ?_
        refine lv_istore (lv' := [(4, .int 0), (3, .int y_15), (0, .ref z), (1, .int (nI g_4)), (2, .int (nI g_10))]) hx hb eX7_close_44 hl (by decide) rfl (fun ls hl => ?_)
        refine pu_while (fun nn H locs ls => ∃ (g_21 : Nat → Int32) (g_22 : Nat), nn = 4 - g_22 ∧ g_22 ≤ 4 ∧ va_P (dC, dI) vwCl (z16__w z zc (nI zn) k_fz g_21) H ∧ va_D A (z16__w z zc (nI zn) k_fz g_21) ∧ va_S A s.heap H locs ∧ lv_has ls 7 [(0, .ref z), (1, .int (nI g_4)), (2, .int (nI g_10)), (3, .int y_15), (4, .int (nI g_22))]) 46 ?_ _ _ _ _ ⟨g_9, 0, rfl, (Nat.le_of_ble_eq_true rfl), hP, hD, hS, lv_sub hl [2, 3, 4, 1, 0] rfl⟩
        rintro nn ih_23 H locs ls ⟨g_21, g_22, rfl, hg_22, hP, hD, hS, hl⟩
        refine lv_iload hx hb eX7_close_46 (lv_at hl 4 rfl) ?_
        refine lv_aload_n hx hb eX7_close_48 rfl (lv_at hl 0 rfl) ?_
        refine va_get (D := (dC, dI)) (ci := 7) (v := .int (nI zn)) (C := RX7) (T := TX7) (N := 2) hx hb hts hiX7 hown hK hP 0 rfl rfl 1 (by decide) v_1 (fun _ h9 => h9) rfl eX7_close_49 ?_
        refine lv_icmp_ge (tgt := 135) hx hb eX7_close_52 (by decide) (fun c_24 => ?_) (fun c_24 => ?_)
        · have c_24 : zn ≤ g_22 := (nI_leI (a := zn) (b := g_22) (Nat.lt_of_le_of_lt hzn (Nat.le_of_ble_eq_true rfl)) (Nat.lt_of_le_of_lt hg_22 (Nat.le_of_ble_eq_true rfl))).mp c_24
          exact j_17 _ _ _ _ ⟨g_21, rfl, hP, hD, hS, lv_sub hl [0, 1, 2, 3] rfl⟩
        · have c_24 : ¬ zn ≤ g_22 := fun z => c_24 ((nI_leI (a := zn) (b := g_22) (Nat.lt_of_le_of_lt hzn (Nat.le_of_ble_eq_true rfl)) (Nat.lt_of_le_of_lt hg_22 (Nat.le_of_ble_eq_true rfl))).mpr z)
          refine lv_aload_n hx hb eX7_close_55 rfl (lv_at hl 0 rfl) ?_
          refine va_get (D := (dC, dI)) (ci := 7) (v := .ref zc) (C := RX7) (T := TX7) (N := 2) hx hb hts hiX7 hown hK hP 0 rfl rfl 0 (by decide) v_2 (fun _ h9 => h9) rfl eX7_close_56 ?_
          refine lv_iload_n hx hb eX7_close_59 rfl (lv_at hl 1 rfl) ?_
          refine lv_aload_n hx hb eX7_close_60 rfl (lv_at hl 0 rfl) ?_
          refine va_get (D := (dC, dI)) (ci := 7) (v := .int (nI zn)) (C := RX7) (T := TX7) (N := 2) hx hb hts hiX7 hown hK hP 0 rfl rfl 1 (by decide) v_1 (fun _ h9 => h9) rfl eX7_close_61 ?_
          refine lv_imul hx hb eX7_close_64 ?_
          refine lv_topi (fun y_25 ey_25 => ?_)
          obtain rfl : y_25 = (nI (g_4 * zn)) := ey_25.trans (pk_mul g_4 zn)
          refine lv_iload hx hb eX7_close_65 (lv_at hl 4 rfl) ?_
          refine lv_iadd hx hb eX7_close_67 ?_
          refine lv_topi (fun y_26 ey_26 => ?_)
          obtain rfl : y_26 = (nI ((g_4 * zn) + g_22)) := ey_26.trans (nI_add (g_4 * zn) g_22)
          refine va_iald hx hb hK hP 1 0 rfl rfl (vp_in_nI (n := ((g_4 * zn) + g_22)) (by first | exact zx16 (by omega) (by omega) (by omega) | exact zy16 (by omega) (by omega) | omega) (Nat.le_of_ble_eq_true rfl)) eX7_close_68 ?_
          refine lv_topi (fun y_27 ey_27 => ?_)
          refine lv_istore (lv' := [(5, .int y_27), (0, .ref z), (1, .int (nI g_4)), (2, .int (nI g_10)), (3, .int y_15), (4, .int (nI g_22))]) hx hb eX7_close_69 hl (by decide) rfl (fun ls hl => ?_)
          refine lv_iload hx hb eX7_close_71 (lv_at hl 0 rfl) ?_
          refine lv_ldc hx hb hown v_3 eX7_close_73 ?_
          refine pu_join (fun H locs ls st => ∃ (g_28 : Nat → Int32), st = [] ∧ va_P (dC, dI) vwCl (z16__w z zc (nI zn) k_fz g_28) H ∧ va_D A (z16__w z zc (nI zn) k_fz g_28) ∧ va_S A s.heap H locs ∧ lv_has ls 7 [(0, .ref z), (1, .int (nI g_4)), (2, .int (nI g_10)), (3, .int y_15), (4, .int (nI g_22)), (5, .int y_27)]) 129 ?_ (fun j_29 => ?_)
          · rintro H locs ls st ⟨g_28, rfl, hP, hD, hS, hl⟩
            refine lv_iinc (v := (nI (g_22 + 1))) (lv' := [(4, .int (nI (g_22 + 1))), (0, .ref z), (1, .int (nI g_4)), (2, .int (nI g_10)), (3, .int y_15), (5, .int y_27)]) hx hb eX7_close_129 hl (k := 4) rfl (nI_1 _) (by decide) rfl (fun ls hl => ?_)
            refine lv_goto (tgt := 46) hx hb eX7_close_132 (by decide) ?_
            exact ih_23 (4 - (g_22 + 1)) (by omega) _ _ _ ⟨g_28, (g_22 + 1), rfl, (by omega), hP, hD, hS, lv_sub hl [1, 2, 3, 4, 0] rfl⟩
          refine lv_icmp_ne (tgt := 81) hx hb eX7_close_75 (by decide) (fun c_30 => ?_) (fun c_30 => ?_)
          · refine lv_iload_n hx hb eX7_close_81 rfl (lv_at hl 4 rfl) ?_
            refine lv_iload hx hb eX7_close_82 (lv_at hl 0 rfl) ?_
            refine lv_iadd hx hb eX7_close_84 ?_
            refine lv_topi (fun y_31 ey_31 => ?_)
            refine lv_iload_n hx hb eX7_close_85 rfl (lv_at hl 4 rfl) ?_
            refine lv_iload hx hb eX7_close_86 (lv_at hl 0 rfl) ?_
            refine lv_ior hx hb eX7_close_88 ?_
            refine lv_topi (fun y_32 ey_32 => ?_)
            refine lv_iconst (v := 1) hx hb eX7_close_89 (by decide) ?_
            refine lv_iand hx hb eX7_close_90 ?_
            refine lv_topi (fun y_33 ey_33 => ?_)
            refine lv_isub hx hb eX7_close_91 ?_
            refine lv_topi (fun y_34 ey_34 => ?_)
            refine lv_istore (lv' := [(6, .int y_34), (5, .int y_27), (0, .ref z), (1, .int (nI g_4)), (2, .int (nI g_10)), (3, .int y_15), (4, .int (nI g_22))]) hx hb eX7_close_92 hl (by decide) rfl (fun ls hl => ?_)
            refine lv_iload hx hb eX7_close_94 (lv_at hl 0 rfl) ?_
            refine lv_aload_n hx hb eX7_close_96 rfl (lv_at hl 2 rfl) ?_
            refine va_get (D := (dC, dI)) (ci := 7) (v := .ref zc) (C := RX7) (T := TX7) (N := 2) hx hb hts hiX7 hown hK hP 0 rfl rfl 0 (by decide) v_2 (fun _ h9 => h9) rfl eX7_close_97 ?_
            refine lv_iload_n hx hb eX7_close_100 rfl (lv_at hl 4 rfl) ?_
            refine lv_aload_n hx hb eX7_close_101 rfl (lv_at hl 2 rfl) ?_
            refine va_get (D := (dC, dI)) (ci := 7) (v := .int (nI zn)) (C := RX7) (T := TX7) (N := 2) hx hb hts hiX7 hown hK hP 0 rfl rfl 1 (by decide) v_1 (fun _ h9 => h9) rfl eX7_close_102 ?_
            refine lv_imul hx hb eX7_close_105 ?_
            refine lv_topi (fun y_35 ey_35 => ?_)
            obtain rfl : y_35 = (nI (g_10 * zn)) := ey_35.trans (pk_mul g_10 zn)
            refine lv_iload hx hb eX7_close_106 (lv_at hl 6 rfl) ?_
            refine lv_iadd hx hb eX7_close_108 ?_
            refine lv_topi (fun y_36 ey_36 => ?_)
            obtain rfl : y_36 = (nI ((g_10 * zn) + g_22)) := ey_36.trans (nI_add (g_10 * zn) g_22)
            refine va_iald hx hb hK hP 1 0 rfl rfl (vp_in_nI (n := ((g_10 * zn) + g_22)) (by first | exact zx16 (by omega) (by omega) (by omega) | exact zy16 (by omega) (by omega) | omega) (Nat.le_of_ble_eq_true rfl)) eX7_close_109 ?_
            refine lv_topi (fun y_37 ey_37 => ?_)
            refine lv_icmp_ge (tgt := 129) hx hb eX7_close_110 (by decide) (fun c_38 => ?_) (fun c_38 => ?_)
            · exact j_29 _ _ _ _ ⟨g_21, rfl, hP, hD, hS, lv_sub hl [2, 3, 4, 5, 6, 1] rfl⟩
            · refine lv_aload_n hx hb eX7_close_113 rfl (lv_at hl 2 rfl) ?_
              refine va_get (D := (dC, dI)) (ci := 7) (v := .ref zc) (C := RX7) (T := TX7) (N := 2) hx hb hts hiX7 hown hK hP 0 rfl rfl 0 (by decide) v_2 (fun _ h9 => h9) rfl eX7_close_114 ?_
              refine lv_iload_n hx hb eX7_close_117 rfl (lv_at hl 4 rfl) ?_
              refine lv_aload_n hx hb eX7_close_118 rfl (lv_at hl 2 rfl) ?_
              refine va_get (D := (dC, dI)) (ci := 7) (v := .int (nI zn)) (C := RX7) (T := TX7) (N := 2) hx hb hts hiX7 hown hK hP 0 rfl rfl 1 (by decide) v_1 (fun _ h9 => h9) rfl eX7_close_119 ?_
              refine lv_imul hx hb eX7_close_122 ?_
              refine lv_topi (fun y_39 ey_39 => ?_)
              obtain rfl : y_39 = (nI (g_10 * zn)) := ey_39.trans (pk_mul g_10 zn)
              refine lv_iload hx hb eX7_close_123 (lv_at hl 6 rfl) ?_
              refine lv_iadd hx hb eX7_close_125 ?_
              refine lv_topi (fun y_40 ey_40 => ?_)
              obtain rfl : y_40 = (nI ((g_10 * zn) + g_22)) := ey_40.trans (nI_add (g_10 * zn) g_22)
              refine lv_iload hx hb eX7_close_126 (lv_at hl 0 rfl) ?_
              refine va_iast hx hb hK hP hD hS 1 0 rfl rfl (vp_in_nI (n := ((g_10 * zn) + g_22)) (by first | exact zx16 (by omega) (by omega) (by omega) | exact zy16 (by omega) (by omega) | omega) (Nat.le_of_ble_eq_true rfl)) eX7_close_128 (fun H locs hP hD hS => ?_)
              have hP : va_P (dC, dI) vwCl (z16__w z zc (nI zn) k_fz (upd g_21 ((nI ((g_10 * zn) + g_22)) : Int32).toNatClampNeg y_34)) H := hP
              have hD : va_D A (z16__w z zc (nI zn) k_fz (upd g_21 ((nI ((g_10 * zn) + g_22)) : Int32).toNatClampNeg y_34)) := hD
              exact j_29 _ _ _ _ ⟨(upd g_21 ((nI ((g_10 * zn) + g_22)) : Int32).toNatClampNeg y_34), rfl, hP, hD, hS, lv_sub hl [2, 3, 4, 5, 6, 1] rfl⟩
          · refine lv_goto (tgt := 129) hx hb eX7_close_78 (by decide) ?_
            exact j_29 _ _ _ _ ⟨g_21, rfl, hP, hD, hS, lv_sub hl [1, 2, 3, 4, 5, 0] rfl⟩
      · refine lv_goto (tgt := 135) hx hb eX7_close_40 (by decide) ?_
        exact j_17 _ _ _ _ ⟨g_9, rfl, hP, hD, hS, lv_sub hl [1, 2, 3, 0] rfl⟩
theorem eX7_forget_0 : decode cX7_forget 0 = .ok (.iconst 0, 1) := by decide +kernel
theorem eX7_forget_1 : decode cX7_forget 1 = .ok (.istore_n 3, 1) := by decide +kernel
theorem eX7_forget_2 : decode cX7_forget 2 = .ok (.iload_n 3, 1) := by decide +kernel
theorem eX7_forget_3 : decode cX7_forget 3 = .ok (.aload_n 0, 1) := by decide +kernel
theorem eX7_forget_4 : decode cX7_forget 4 = .ok (.getfield 18, 3) := by decide +kernel
theorem eX7_forget_7 : decode cX7_forget 7 = .ok (.if_icmp .ge 123, 3) := by decide +kernel
theorem eX7_forget_10 : decode cX7_forget 10 = .ok (.iconst 0, 1) := by decide +kernel
theorem eX7_forget_11 : decode cX7_forget 11 = .ok (.istore 4, 2) := by decide +kernel
theorem eX7_forget_13 : decode cX7_forget 13 = .ok (.iload 4, 2) := by decide +kernel
theorem eX7_forget_15 : decode cX7_forget 15 = .ok (.aload_n 0, 1) := by decide +kernel
theorem eX7_forget_16 : decode cX7_forget 16 = .ok (.getfield 18, 3) := by decide +kernel
theorem eX7_forget_19 : decode cX7_forget 19 = .ok (.if_icmp .ge 105, 3) := by decide +kernel
theorem eX7_forget_22 : decode cX7_forget 22 = .ok (.aload_n 0, 1) := by decide +kernel
theorem eX7_forget_23 : decode cX7_forget 23 = .ok (.getfield 11, 3) := by decide +kernel
theorem eX7_forget_26 : decode cX7_forget 26 = .ok (.iload_n 3, 1) := by decide +kernel
theorem eX7_forget_27 : decode cX7_forget 27 = .ok (.aload_n 0, 1) := by decide +kernel
theorem eX7_forget_28 : decode cX7_forget 28 = .ok (.getfield 18, 3) := by decide +kernel
theorem eX7_forget_31 : decode cX7_forget 31 = .ok (.imul, 1) := by decide +kernel
theorem eX7_forget_32 : decode cX7_forget 32 = .ok (.iload 4, 2) := by decide +kernel
theorem eX7_forget_34 : decode cX7_forget 34 = .ok (.iadd, 1) := by decide +kernel
theorem eX7_forget_35 : decode cX7_forget 35 = .ok (.iaload, 1) := by decide +kernel
theorem eX7_forget_36 : decode cX7_forget 36 = .ok (.istore 5, 2) := by decide +kernel
theorem eX7_forget_38 : decode cX7_forget 38 = .ok (.iload_n 3, 1) := by decide +kernel
theorem eX7_forget_39 : decode cX7_forget 39 = .ok (.iload 4, 2) := by decide +kernel
theorem eX7_forget_41 : decode cX7_forget 41 = .ok (.if_icmp .eq 77, 3) := by decide +kernel
theorem eX7_forget_44 : decode cX7_forget 44 = .ok (.iload 5, 2) := by decide +kernel
theorem eX7_forget_46 : decode cX7_forget 46 = .ok (.ldc 17, 2) := by decide +kernel
theorem eX7_forget_48 : decode cX7_forget 48 = .ok (.if_icmp .ne 6, 3) := by decide +kernel
theorem eX7_forget_51 : decode cX7_forget 51 = .ok (.goto 67, 3) := by decide +kernel
theorem eX7_forget_54 : decode cX7_forget 54 = .ok (.iload 5, 2) := by decide +kernel
theorem eX7_forget_56 : decode cX7_forget 56 = .ok (.iconst 2, 1) := by decide +kernel
theorem eX7_forget_57 : decode cX7_forget 57 = .ok (.aload_n 1, 1) := by decide +kernel
theorem eX7_forget_58 : decode cX7_forget 58 = .ok (.iload_n 3, 1) := by decide +kernel
theorem eX7_forget_59 : decode cX7_forget 59 = .ok (.iaload, 1) := by decide +kernel
theorem eX7_forget_60 : decode cX7_forget 60 = .ok (.imul, 1) := by decide +kernel
theorem eX7_forget_61 : decode cX7_forget 61 = .ok (.iconst 1, 1) := by decide +kernel
theorem eX7_forget_62 : decode cX7_forget 62 = .ok (.iadd, 1) := by decide +kernel
theorem eX7_forget_63 : decode cX7_forget 63 = .ok (.if_icmp .le 22, 3) := by decide +kernel
theorem eX7_forget_66 : decode cX7_forget 66 = .ok (.aload_n 0, 1) := by decide +kernel
theorem eX7_forget_67 : decode cX7_forget 67 = .ok (.getfield 11, 3) := by decide +kernel
theorem eX7_forget_70 : decode cX7_forget 70 = .ok (.iload_n 3, 1) := by decide +kernel
theorem eX7_forget_71 : decode cX7_forget 71 = .ok (.aload_n 0, 1) := by decide +kernel
theorem eX7_forget_72 : decode cX7_forget 72 = .ok (.getfield 18, 3) := by decide +kernel
theorem eX7_forget_75 : decode cX7_forget 75 = .ok (.imul, 1) := by decide +kernel
theorem eX7_forget_76 : decode cX7_forget 76 = .ok (.iload 4, 2) := by decide +kernel
theorem eX7_forget_78 : decode cX7_forget 78 = .ok (.iadd, 1) := by decide +kernel
theorem eX7_forget_79 : decode cX7_forget 79 = .ok (.ldc 17, 2) := by decide +kernel
theorem eX7_forget_81 : decode cX7_forget 81 = .ok (.iastore, 1) := by decide +kernel
theorem eX7_forget_82 : decode cX7_forget 82 = .ok (.goto 36, 3) := by decide +kernel
theorem eX7_forget_85 : decode cX7_forget 85 = .ok (.iload 5, 2) := by decide +kernel
theorem eX7_forget_87 : decode cX7_forget 87 = .ok (.bipush (-2), 2) := by decide +kernel
theorem eX7_forget_89 : decode cX7_forget 89 = .ok (.aload_n 2, 1) := by decide +kernel
theorem eX7_forget_90 : decode cX7_forget 90 = .ok (.iload 4, 2) := by decide +kernel
theorem eX7_forget_92 : decode cX7_forget 92 = .ok (.iaload, 1) := by decide +kernel
theorem eX7_forget_93 : decode cX7_forget 93 = .ok (.imul, 1) := by decide +kernel
theorem eX7_forget_94 : decode cX7_forget 94 = .ok (.if_icmp .ge 24, 3) := by decide +kernel
theorem eX7_forget_97 : decode cX7_forget 97 = .ok (.aload_n 0, 1) := by decide +kernel
theorem eX7_forget_98 : decode cX7_forget 98 = .ok (.getfield 11, 3) := by decide +kernel
theorem eX7_forget_101 : decode cX7_forget 101 = .ok (.iload_n 3, 1) := by decide +kernel
theorem eX7_forget_102 : decode cX7_forget 102 = .ok (.aload_n 0, 1) := by decide +kernel
theorem eX7_forget_103 : decode cX7_forget 103 = .ok (.getfield 18, 3) := by decide +kernel
theorem eX7_forget_106 : decode cX7_forget 106 = .ok (.imul, 1) := by decide +kernel
theorem eX7_forget_107 : decode cX7_forget 107 = .ok (.iload 4, 2) := by decide +kernel
theorem eX7_forget_109 : decode cX7_forget 109 = .ok (.iadd, 1) := by decide +kernel
theorem eX7_forget_110 : decode cX7_forget 110 = .ok (.bipush (-2), 2) := by decide +kernel
theorem eX7_forget_112 : decode cX7_forget 112 = .ok (.aload_n 2, 1) := by decide +kernel
theorem eX7_forget_113 : decode cX7_forget 113 = .ok (.iload 4, 2) := by decide +kernel
theorem eX7_forget_115 : decode cX7_forget 115 = .ok (.iaload, 1) := by decide +kernel
theorem eX7_forget_116 : decode cX7_forget 116 = .ok (.imul, 1) := by decide +kernel
theorem eX7_forget_117 : decode cX7_forget 117 = .ok (.iastore, 1) := by decide +kernel
theorem eX7_forget_118 : decode cX7_forget 118 = .ok (.iinc 4 1, 3) := by decide +kernel
theorem eX7_forget_121 : decode cX7_forget 121 = .ok (.goto (-108), 3) := by decide +kernel
theorem eX7_forget_124 : decode cX7_forget 124 = .ok (.iinc 3 1, 3) := by decide +kernel
theorem eX7_forget_127 : decode cX7_forget 127 = .ok (.goto (-125), 3) := by decide +kernel
theorem eX7_forget_130 : decode cX7_forget 130 = .ok (.aload_n 0, 1) := by decide +kernel
theorem eX7_forget_131 : decode cX7_forget 131 = .ok (.invokevirtual 28, 3) := by decide +kernel
theorem eX7_forget_134 : decode cX7_forget 134 = .ok (.return_, 1) := by decide +kernel
abbrev vs_C_7_forget_16 : List Cond := .code yX7_forget cX7_forget 6 none :: CM
theorem g_C_7_forget_16_C_7_close_16 : GoodIn vs_C_7_forget_16 (wsV RX7 28 RX7 yX7_close vs_C_7_close_16) := cm_gV cm_106 cm_107 cm_108 cm_45 cm_109
set_option maxHeartbeats 4000000 in
set_option maxRecDepth 100000 in
theorem c_C_7_forget_16 (l : Launch) (dC : Nat → ClassId) (dI : Nat → Nat → Nat) (sz : Nat) (ah : Nat) (k_fh : ClassId) (fh : Nat → Int32) (al : Nat) (k_fl : ClassId) (fl : Nat → Int32) (z : Nat) (zc : Nat) (zn : Nat) (k_fz : ClassId) (fz : Nat → Int32) (hzn : zn ≤ 4) : Met l yX7_forget vs_C_7_forget_16 ({ frames := 1, cells := 0, slots := 0, locals := 26 }) (va_Pc [.ref z, .ref ah, .ref al] (pu_B (dC, dI) (zf16__w ah k_fh fh al k_fl fl z zc (nI zn) k_fz fz) (zf16__t k_fh k_fl k_fz) sz)) (va_Qv (fun (_ : Unit) => True) (fun _ t => ∃ (z_fz : Nat → Int32), pu_E (dC, dI) (zf16__w ah k_fh fh al k_fl fl z zc (nI zn) k_fz z_fz) (zf16__t k_fh k_fl k_fz) (va_A ((zf16__w ah k_fh fh al k_fl fl z zc (nI zn) k_fz fz)) sz) t) (va_A ((zf16__w ah k_fh fh al k_fl fl z zc (nI zn) k_fz fz)) sz)) 0 0 (va_A ((zf16__w ah k_fh fh al k_fl fl z zc (nI zn) k_fz fz)) sz) := by
  refine Met.ofW (cc := cX7_forget) (maxL := 6) (ret := none) (by decide) rfl ?_
  intro p e s m args below meth c s₁ B hml hv
  obtain ⟨rfl, rfl, hP, hK, hD0⟩ := hv
  have hx := B.exec
  have hb := B.bytes
  have hr := B.returns
  have hts := atoms_spec (ws := vs_C_7_forget_16) B.pre
  have v_1 := hts (.fieldLink RX7 18 "ClockReach$Zone" "size" "I") (List.mem_cons_of_mem _ cm_48)
  have v_2 := hts (.fieldLink RX7 11 "ClockReach$Zone" "cells" "[I") (List.mem_cons_of_mem _ cm_47)
  have v_3 := hts (.constant RX7 17 (2147483647)) (List.mem_cons_of_mem _ cm_49)
  have hown : s.vm.findClass RX7 = some m.cls := findClass_of_methodNamed B.named
  have hlocks := B.notSynchronized
  have hiX7 : ∀ w ∈ wsX70, w ∈ vs_C_7_forget_16 := fun _ h => List.mem_cons_of_mem _ (cm_X7 h)
  have hD := hD0.self (sz := s.heap.size)
  generalize hAe : va_A ((zf16__w ah k_fh fh al k_fl fl z zc (nI zn) k_fz fz)) s.heap.size = A at hD ⊢
  have hA : ∀ q : Nat, s.heap.size ≤ q → A q := fun q h => by rw [← hAe]; exact Or.inr h
  have hS : va_S A s.heap s.heap [] := va_S.rf
  have hl := lv_entry ([.ref z, .ref ah, .ref al]) (n := 6) (Nat.le_of_ble_eq_true rfl)
  rw [lg_entry_eq]
  generalize (lg_sl ([.ref z, .ref ah, .ref al]) ++ List.replicate (6 - (lg_sl ([.ref z, .ref ah, .ref al])).length) Slot.unset).toArray = ls at hl ⊢
  have hl : lv_has ls 6 [(0, .ref z), (1, .ref ah), (2, .ref al)] := hl
  have hzz := zz4 hzn
  refine lv_iconst (v := 0) hx hb eX7_forget_0 (by decide) ?_
  refine lv_istore_n (lv' := [(3, .int 0), (0, .ref z), (1, .ref ah), (2, .ref al)]) hx hb eX7_forget_1 rfl hl (by decide) rfl (fun ls hl => ?_)
  refine pu_while (fun nn H locs ls => ∃ (g_3 : Nat → Int32) (g_4 : Nat), nn = 4 - g_4 ∧ g_4 ≤ 4 ∧ va_P (dC, dI) vwCl (zf16__w ah k_fh fh al k_fl fl z zc (nI zn) k_fz g_3) H ∧ va_D A (zf16__w ah k_fh fh al k_fl fl z zc (nI zn) k_fz g_3) ∧ va_S A s.heap H locs ∧ lv_has ls 6 [(0, .ref z), (1, .ref ah), (2, .ref al), (3, .int (nI g_4))]) 2 ?_ _ _ _ _ ⟨fz, 0, rfl, (Nat.le_of_ble_eq_true rfl), hP, hD, hS, lv_sub hl [1, 2, 3, 0] rfl⟩
  rintro nn ih_5 H locs ls ⟨g_3, g_4, rfl, hg_4, hP, hD, hS, hl⟩
  refine lv_iload_n hx hb eX7_forget_2 rfl (lv_at hl 3 rfl) ?_
  refine lv_aload_n hx hb eX7_forget_3 rfl (lv_at hl 0 rfl) ?_
  refine va_get (D := (dC, dI)) (ci := 7) (v := .int (nI zn)) (C := RX7) (T := TX7) (N := 2) hx hb hts hiX7 hown hK hP 2 rfl rfl 1 (by decide) v_1 (fun _ h9 => h9) rfl eX7_forget_4 ?_
  refine lv_icmp_ge (tgt := 130) hx hb eX7_forget_7 (by decide) (fun c_6 => ?_) (fun c_6 => ?_)
  · have c_6 : zn ≤ g_4 := (nI_leI (a := zn) (b := g_4) (Nat.lt_of_le_of_lt hzn (Nat.le_of_ble_eq_true rfl)) (Nat.lt_of_le_of_lt hg_4 (Nat.le_of_ble_eq_true rfl))).mp c_6
    refine lv_aload_n hx hb eX7_forget_130 rfl (lv_at hl 0 rfl) ?_
    have hPc : va_P (dC, dI) vwCl (z16__w z zc (nI zn) k_fz g_3) _ := hP.sub [2, 3] rfl
    have hDc := hD.sub (ws' := (z16__w z zc (nI zn) k_fz g_3)) [2, 3] (by decide) rfl
    have hKc : va_K (dC, dI) vwCl (z16__t k_fz) s := hK.sub [2] rfl
    have hFc := pu_free hDc hS hA
    refine va_callv (va_runV (As := []) (rest := []) ⟨hx, hb, hml, hown, hts⟩ (c_C_7_close_16 l dC dI _ z zc zn k_fz g_3 hzn) (cwV 0 hts g_C_7_forget_16_C_7_close_16 rfl rfl rfl (by decide +kernel) ⟨Nat.le_of_ble_eq_true rfl, Nat.le_of_ble_eq_true rfl⟩) ⟨pu_bl, va_recv hK hP (ci := 7) (q0 := 2) rfl rfl, pu_in hPc hKc hDc⟩ rfl rfl hl.1 rfl (lv_room (Nat.le_of_ble_eq_true rfl)) eX7_forget_131 ⟨Nat.le_of_ble_eq_true rfl, Nat.le_of_ble_eq_true rfl⟩) hS (fun q _ h => hFc q h) hFc (fun u t H1 locs ht hvm hw hB hz1 hk1 hS => ?_)
    obtain ⟨z_fz_8, ⟨hP1, -, hD1⟩⟩ := hB
    rw [ht] at hP1
    obtain ⟨hP, hD⟩ := pu_put (ws' := (zf16__w ah k_fh fh al k_fl fl z zc (nI zn) k_fz z_fz_8)) (w1 := (z16__w z zc (nI zn) k_fz z_fz_8)) hP hD [2, 3] rfl hk1 hP1 rfl rfl
    clear hP1 hD1 hFc hPc hDc hKc
    clear hk1 hz1 ht hvm
    generalize H1 = H at hP hS ⊢
    exact W.vret hx hb hr (fun t ht hW => ⟨⟨(), rfl, trivial, ⟨z_fz_8, ⟨by rw [ht]; exact hP, va_K.moved hW.alike hK, hD⟩⟩⟩, hS.F ht⟩) hS.2.2 eX7_forget_134
  · have c_6 : ¬ zn ≤ g_4 := fun z => c_6 ((nI_leI (a := zn) (b := g_4) (Nat.lt_of_le_of_lt hzn (Nat.le_of_ble_eq_true rfl)) (Nat.lt_of_le_of_lt hg_4 (Nat.le_of_ble_eq_true rfl))).mpr z)
    refine lv_iconst (v := 0) hx hb eX7_forget_10 (by decide) ?_
    refine lv_istore (lv' := [(4, .int 0), (0, .ref z), (1, .ref ah), (2, .ref al), (3, .int (nI g_4))]) hx hb eX7_forget_11 hl (by decide) rfl (fun ls hl => ?_)
    refine pu_while (fun nn H locs ls => ∃ (g_11 : Nat → Int32) (g_12 : Nat), nn = 4 - g_12 ∧ g_12 ≤ 4 ∧ va_P (dC, dI) vwCl (zf16__w ah k_fh fh al k_fl fl z zc (nI zn) k_fz g_11) H ∧ va_D A (zf16__w ah k_fh fh al k_fl fl z zc (nI zn) k_fz g_11) ∧ va_S A s.heap H locs ∧ lv_has ls 6 [(0, .ref z), (1, .ref ah), (2, .ref al), (3, .int (nI g_4)), (4, .int (nI g_12))]) 13 ?_ _ _ _ _ ⟨g_3, 0, rfl, (Nat.le_of_ble_eq_true rfl), hP, hD, hS, lv_sub hl [1, 2, 3, 4, 0] rfl⟩
    rintro nn ih_13 H locs ls ⟨g_11, g_12, rfl, hg_12, hP, hD, hS, hl⟩
    refine lv_iload hx hb eX7_forget_13 (lv_at hl 4 rfl) ?_
    refine lv_aload_n hx hb eX7_forget_15 rfl (lv_at hl 0 rfl) ?_
    refine va_get (D := (dC, dI)) (ci := 7) (v := .int (nI zn)) (C := RX7) (T := TX7) (N := 2) hx hb hts hiX7 hown hK hP 2 rfl rfl 1 (by decide) v_1 (fun _ h9 => h9) rfl eX7_forget_16 ?_
    refine lv_icmp_ge (tgt := 124) hx hb eX7_forget_19 (by decide) (fun c_14 => ?_) (fun c_14 => ?_)
    · have c_14 : zn ≤ g_12 := (nI_leI (a := zn) (b := g_12) (Nat.lt_of_le_of_lt hzn (Nat.le_of_ble_eq_true rfl)) (Nat.lt_of_le_of_lt hg_12 (Nat.le_of_ble_eq_true rfl))).mp c_14
      refine lv_iinc (v := (nI (g_4 + 1))) (lv' := [(3, .int (nI (g_4 + 1))), (0, .ref z), (1, .ref ah), (2, .ref al), (4, .int (nI g_12))]) hx hb eX7_forget_124 hl (k := 3) rfl (nI_1 _) (by decide) rfl (fun ls hl => ?_)
      refine lv_goto (tgt := 2) hx hb eX7_forget_127 (by decide) ?_
      exact ih_5 (4 - (g_4 + 1)) (by omega) _ _ _ ⟨g_11, (g_4 + 1), rfl, (by omega), hP, hD, hS, lv_sub hl [1, 2, 3, 0] rfl⟩
    · have c_14 : ¬ zn ≤ g_12 := fun z => c_14 ((nI_leI (a := zn) (b := g_12) (Nat.lt_of_le_of_lt hzn (Nat.le_of_ble_eq_true rfl)) (Nat.lt_of_le_of_lt hg_12 (Nat.le_of_ble_eq_true rfl))).mpr z)
      refine lv_aload_n hx hb eX7_forget_22 rfl (lv_at hl 0 rfl) ?_
      refine va_get (D := (dC, dI)) (ci := 7) (v := .ref zc) (C := RX7) (T := TX7) (N := 2) hx hb hts hiX7 hown hK hP 2 rfl rfl 0 (by decide) v_2 (fun _ h9 => h9) rfl eX7_forget_23 ?_
      refine lv_iload_n hx hb eX7_forget_26 rfl (lv_at hl 3 rfl) ?_
      refine lv_aload_n hx hb eX7_forget_27 rfl (lv_at hl 0 rfl) ?_
      refine va_get (D := (dC, dI)) (ci := 7) (v := .int (nI zn)) (C := RX7) (T := TX7) (N := 2) hx hb hts hiX7 hown hK hP 2 rfl rfl 1 (by decide) v_1 (fun _ h9 => h9) rfl eX7_forget_28 ?_
      refine lv_imul hx hb eX7_forget_31 ?_
      refine lv_topi (fun y_15 ey_15 => ?_)
      obtain rfl : y_15 = (nI (g_4 * zn)) := ey_15.trans (pk_mul g_4 zn)
      refine lv_iload hx hb eX7_forget_32 (lv_at hl 4 rfl) ?_
      refine lv_iadd hx hb eX7_forget_34 ?_
      refine lv_topi (fun y_16 ey_16 => ?_)
      obtain rfl : y_16 = (nI ((g_4 * zn) + g_12)) := ey_16.trans (nI_add (g_4 * zn) g_12)
      refine va_iald hx hb hK hP 3 2 rfl rfl (vp_in_nI (n := ((g_4 * zn) + g_12)) (by first | exact zx16 (by omega) (by omega) (by omega) | exact zy16 (by omega) (by omega) | omega) (Nat.le_of_ble_eq_true rfl)) eX7_forget_35 ?_
      refine lv_topi (fun y_17 ey_17 => ?_)
      refine lv_istore (lv' := [(5, .int y_17), (0, .ref z), (1, .ref ah), (2, .ref al), (3, .int (nI g_4)), (4, .int (nI g_12))]) hx hb eX7_forget_36 hl (by decide) rfl (fun ls hl => ?_)
      refine lv_iload_n hx hb eX7_forget_38 rfl (lv_at hl 4 rfl) ?_
      refine lv_iload hx hb eX7_forget_39 (lv_at hl 5 rfl) ?_
      refine pu_join (fun H locs ls st => ∃ (g_18 : Nat → Int32), st = [] ∧ va_P (dC, dI) vwCl (zf16__w ah k_fh fh al k_fl fl z zc (nI zn) k_fz g_18) H ∧ va_D A (zf16__w ah k_fh fh al k_fl fl z zc (nI zn) k_fz g_18) ∧ va_S A s.heap H locs ∧ lv_has ls 6 [(0, .ref z), (1, .ref ah), (2, .ref al), (3, .int (nI g_4)), (4, .int (nI g_12)), (5, .int y_17)]) 118 ?_ (fun j_19 => ?_)
      · rintro H locs ls st ⟨g_18, rfl, hP, hD, hS, hl⟩
        refine lv_iinc (v := (nI (g_12 + 1))) (lv' := [(4, .int (nI (g_12 + 1))), (0, .ref z), (1, .ref ah), (2, .ref al), (3, .int (nI g_4)), (5, .int y_17)]) hx hb eX7_forget_118 hl (k := 4) rfl (nI_1 _) (by decide) rfl (fun ls hl => ?_)
        refine lv_goto (tgt := 13) hx hb eX7_forget_121 (by decide) ?_
        exact ih_13 (4 - (g_12 + 1)) (by omega) _ _ _ ⟨g_18, (g_12 + 1), rfl, (by omega), hP, hD, hS, lv_sub hl [1, 2, 3, 4, 0] rfl⟩
      refine lv_icmp_eq (tgt := 118) hx hb eX7_forget_41 (by decide) (fun c_20 => ?_) (fun c_20 => ?_)
      · have c_20 : g_4 = g_12 := (nI_eq (a := g_4) (b := g_12) (Nat.lt_of_le_of_lt hg_4 (Nat.le_of_ble_eq_true rfl)) (Nat.lt_of_le_of_lt hg_12 (Nat.le_of_ble_eq_true rfl))).mp c_20
        exact j_19 _ _ _ _ ⟨g_11, rfl, hP, hD, hS, lv_sub hl [1, 2, 3, 4, 5, 0] rfl⟩
      · have c_20 : ¬ g_4 = g_12 := fun z => c_20 ((nI_eq (a := g_4) (b := g_12) (Nat.lt_of_le_of_lt hg_4 (Nat.le_of_ble_eq_true rfl)) (Nat.lt_of_le_of_lt hg_12 (Nat.le_of_ble_eq_true rfl))).mpr z)
        refine lv_iload hx hb eX7_forget_44 (lv_at hl 0 rfl) ?_
        refine lv_ldc hx hb hown v_3 eX7_forget_46 ?_
        refine lv_icmp_ne (tgt := 54) hx hb eX7_forget_48 (by decide) (fun c_21 => ?_) (fun c_21 => ?_)
        · refine lv_iload hx hb eX7_forget_54 (lv_at hl 0 rfl) ?_
          refine lv_iconst (v := 2) hx hb eX7_forget_56 (by decide) ?_
          refine lv_aload_n hx hb eX7_forget_57 rfl (lv_at hl 2 rfl) ?_
          refine lv_iload_n hx hb eX7_forget_58 rfl (lv_at hl 4 rfl) ?_
          refine va_iald hx hb hK hP 0 0 rfl rfl (vp_in_nI (n := g_4) (Nat.lt_of_le_of_lt hg_4 (Nat.le_of_ble_eq_true rfl)) (Nat.le_of_ble_eq_true rfl)) eX7_forget_59 ?_
          refine lv_topi (fun y_22 ey_22 => ?_)
          refine lv_imul hx hb eX7_forget_60 ?_
          refine lv_topi (fun y_23 ey_23 => ?_)
          refine lv_iconst (v := 1) hx hb eX7_forget_61 (by decide) ?_
          refine lv_iadd hx hb eX7_forget_62 ?_
          refine lv_topi (fun y_24 ey_24 => ?_)
          refine lv_icmp_le (tgt := 85) hx hb eX7_forget_63 (by decide) (fun c_25 => ?_) (fun c_25 => ?_)
          · refine lv_iload hx hb eX7_forget_85 (lv_at hl 0 rfl) ?_
            refine lv_bipush (v := (-2)) hx hb eX7_forget_87 (by decide) ?_
            refine lv_aload_n hx hb eX7_forget_89 rfl (lv_at hl 3 rfl) ?_
            refine lv_iload hx hb eX7_forget_90 (lv_at hl 5 rfl) ?_
            refine va_iald hx hb hK hP 1 1 rfl rfl (vp_in_nI (n := g_12) (Nat.lt_of_le_of_lt hg_12 (Nat.le_of_ble_eq_true rfl)) (Nat.le_of_ble_eq_true rfl)) eX7_forget_92 ?_
            refine lv_topi (fun y_26 ey_26 => ?_)
            refine lv_imul hx hb eX7_forget_93 ?_
            refine lv_topi (fun y_27 ey_27 => ?_)
            refine lv_icmp_ge (tgt := 118) hx hb eX7_forget_94 (by decide) (fun c_28 => ?_) (fun c_28 => ?_)
            · exact j_19 _ _ _ _ ⟨g_11, rfl, hP, hD, hS, lv_sub hl [1, 2, 3, 4, 5, 0] rfl⟩
            · refine lv_aload_n hx hb eX7_forget_97 rfl (lv_at hl 1 rfl) ?_
              refine va_get (D := (dC, dI)) (ci := 7) (v := .ref zc) (C := RX7) (T := TX7) (N := 2) hx hb hts hiX7 hown hK hP 2 rfl rfl 0 (by decide) v_2 (fun _ h9 => h9) rfl eX7_forget_98 ?_
              refine lv_iload_n hx hb eX7_forget_101 rfl (lv_at hl 4 rfl) ?_
              refine lv_aload_n hx hb eX7_forget_102 rfl (lv_at hl 1 rfl) ?_
              refine va_get (D := (dC, dI)) (ci := 7) (v := .int (nI zn)) (C := RX7) (T := TX7) (N := 2) hx hb hts hiX7 hown hK hP 2 rfl rfl 1 (by decide) v_1 (fun _ h9 => h9) rfl eX7_forget_103 ?_
              refine lv_imul hx hb eX7_forget_106 ?_
              refine lv_topi (fun y_29 ey_29 => ?_)
              obtain rfl : y_29 = (nI (g_4 * zn)) := ey_29.trans (pk_mul g_4 zn)
              refine lv_iload hx hb eX7_forget_107 (lv_at hl 5 rfl) ?_
              refine lv_iadd hx hb eX7_forget_109 ?_
              refine lv_topi (fun y_30 ey_30 => ?_)
              obtain rfl : y_30 = (nI ((g_4 * zn) + g_12)) := ey_30.trans (nI_add (g_4 * zn) g_12)
              refine lv_bipush (v := (-2)) hx hb eX7_forget_110 (by decide) ?_
              refine lv_aload_n hx hb eX7_forget_112 rfl (lv_at hl 3 rfl) ?_
              refine lv_iload hx hb eX7_forget_113 (lv_at hl 5 rfl) ?_
              refine va_iald hx hb hK hP 1 1 rfl rfl (vp_in_nI (n := g_12) (Nat.lt_of_le_of_lt hg_12 (Nat.le_of_ble_eq_true rfl)) (Nat.le_of_ble_eq_true rfl)) eX7_forget_115 ?_
              refine lv_topi (fun y_31 ey_31 => ?_)
              refine lv_imul hx hb eX7_forget_116 ?_
              refine lv_topi (fun y_32 ey_32 => ?_)
              refine va_iast hx hb hK hP hD hS 3 2 rfl rfl (vp_in_nI (n := ((g_4 * zn) + g_12)) (by first | exact zx16 (by omega) (by omega) (by omega) | exact zy16 (by omega) (by omega) | omega) (Nat.le_of_ble_eq_true rfl)) eX7_forget_117 (fun H locs hP hD hS => ?_)
              have hP : va_P (dC, dI) vwCl (zf16__w ah k_fh fh al k_fl fl z zc (nI zn) k_fz (upd g_11 ((nI ((g_4 * zn) + g_12)) : Int32).toNatClampNeg y_32)) H := hP
              have hD : va_D A (zf16__w ah k_fh fh al k_fl fl z zc (nI zn) k_fz (upd g_11 ((nI ((g_4 * zn) + g_12)) : Int32).toNatClampNeg y_32)) := hD
              exact j_19 _ _ _ _ ⟨(upd g_11 ((nI ((g_4 * zn) + g_12)) : Int32).toNatClampNeg y_32), rfl, hP, hD, hS, lv_sub hl [1, 2, 3, 4, 5, 0] rfl⟩
          · refine lv_aload_n hx hb eX7_forget_66 rfl (lv_at hl 1 rfl) ?_
            refine va_get (D := (dC, dI)) (ci := 7) (v := .ref zc) (C := RX7) (T := TX7) (N := 2) hx hb hts hiX7 hown hK hP 2 rfl rfl 0 (by decide) v_2 (fun _ h9 => h9) rfl eX7_forget_67 ?_
            refine lv_iload_n hx hb eX7_forget_70 rfl (lv_at hl 4 rfl) ?_
            refine lv_aload_n hx hb eX7_forget_71 rfl (lv_at hl 1 rfl) ?_
            refine va_get (D := (dC, dI)) (ci := 7) (v := .int (nI zn)) (C := RX7) (T := TX7) (N := 2) hx hb hts hiX7 hown hK hP 2 rfl rfl 1 (by decide) v_1 (fun _ h9 => h9) rfl eX7_forget_72 ?_
            refine lv_imul hx hb eX7_forget_75 ?_
            refine lv_topi (fun y_33 ey_33 => ?_)
            obtain rfl : y_33 = (nI (g_4 * zn)) := ey_33.trans (pk_mul g_4 zn)
            refine lv_iload hx hb eX7_forget_76 (lv_at hl 5 rfl) ?_
            refine lv_iadd hx hb eX7_forget_78 ?_
            refine lv_topi (fun y_34 ey_34 => ?_)
            obtain rfl : y_34 = (nI ((g_4 * zn) + g_12)) := ey_34.trans (nI_add (g_4 * zn) g_12)
            refine lv_ldc hx hb hown v_3 eX7_forget_79 ?_
            refine va_iast hx hb hK hP hD hS 3 2 rfl rfl (vp_in_nI (n := ((g_4 * zn) + g_12)) (by first | exact zx16 (by omega) (by omega) (by omega) | exact zy16 (by omega) (by omega) | omega) (Nat.le_of_ble_eq_true rfl)) eX7_forget_81 (fun H locs hP hD hS => ?_)
            have hP : va_P (dC, dI) vwCl (zf16__w ah k_fh fh al k_fl fl z zc (nI zn) k_fz (upd g_11 ((nI ((g_4 * zn) + g_12)) : Int32).toNatClampNeg 2147483647)) H := hP
            have hD : va_D A (zf16__w ah k_fh fh al k_fl fl z zc (nI zn) k_fz (upd g_11 ((nI ((g_4 * zn) + g_12)) : Int32).toNatClampNeg 2147483647)) := hD
            refine lv_goto (tgt := 118) hx hb eX7_forget_82 (by decide) ?_
            exact j_19 _ _ _ _ ⟨(upd g_11 ((nI ((g_4 * zn) + g_12)) : Int32).toNatClampNeg 2147483647), rfl, hP, hD, hS, lv_sub hl [1, 2, 3, 4, 5, 0] rfl⟩
        · refine lv_goto (tgt := 118) hx hb eX7_forget_51 (by decide) ?_
          exact j_19 _ _ _ _ ⟨g_11, rfl, hP, hD, hS, lv_sub hl [1, 2, 3, 4, 5, 0] rfl⟩
theorem eX7_holdsAll_0 : decode cX7_holdsAll 0 = .ok (.iconst 0, 1) := by decide +kernel
theorem eX7_holdsAll_1 : decode cX7_holdsAll 1 = .ok (.istore_n 2, 1) := by decide +kernel
theorem eX7_holdsAll_2 : decode cX7_holdsAll 2 = .ok (.iload_n 2, 1) := by decide +kernel
theorem eX7_holdsAll_3 : decode cX7_holdsAll 3 = .ok (.aload_n 0, 1) := by decide +kernel
theorem eX7_holdsAll_4 : decode cX7_holdsAll 4 = .ok (.getfield 18, 3) := by decide +kernel
theorem eX7_holdsAll_7 : decode cX7_holdsAll 7 = .ok (.aload_n 0, 1) := by decide +kernel
theorem eX7_holdsAll_8 : decode cX7_holdsAll 8 = .ok (.getfield 18, 3) := by decide +kernel
theorem eX7_holdsAll_11 : decode cX7_holdsAll 11 = .ok (.imul, 1) := by decide +kernel
theorem eX7_holdsAll_12 : decode cX7_holdsAll 12 = .ok (.if_icmp .ge 26, 3) := by decide +kernel
theorem eX7_holdsAll_15 : decode cX7_holdsAll 15 = .ok (.aload_n 1, 1) := by decide +kernel
theorem eX7_holdsAll_16 : decode cX7_holdsAll 16 = .ok (.getfield 11, 3) := by decide +kernel
theorem eX7_holdsAll_19 : decode cX7_holdsAll 19 = .ok (.iload_n 2, 1) := by decide +kernel
theorem eX7_holdsAll_20 : decode cX7_holdsAll 20 = .ok (.iaload, 1) := by decide +kernel
theorem eX7_holdsAll_21 : decode cX7_holdsAll 21 = .ok (.aload_n 0, 1) := by decide +kernel
theorem eX7_holdsAll_22 : decode cX7_holdsAll 22 = .ok (.getfield 11, 3) := by decide +kernel
theorem eX7_holdsAll_25 : decode cX7_holdsAll 25 = .ok (.iload_n 2, 1) := by decide +kernel
theorem eX7_holdsAll_26 : decode cX7_holdsAll 26 = .ok (.iaload, 1) := by decide +kernel
theorem eX7_holdsAll_27 : decode cX7_holdsAll 27 = .ok (.if_icmp .le 5, 3) := by decide +kernel
theorem eX7_holdsAll_30 : decode cX7_holdsAll 30 = .ok (.iconst 0, 1) := by decide +kernel
theorem eX7_holdsAll_31 : decode cX7_holdsAll 31 = .ok (.ireturn, 1) := by decide +kernel
theorem eX7_holdsAll_32 : decode cX7_holdsAll 32 = .ok (.iinc 2 1, 3) := by decide +kernel
theorem eX7_holdsAll_35 : decode cX7_holdsAll 35 = .ok (.goto (-33), 3) := by decide +kernel
theorem eX7_holdsAll_38 : decode cX7_holdsAll 38 = .ok (.iconst 1, 1) := by decide +kernel
theorem eX7_holdsAll_39 : decode cX7_holdsAll 39 = .ok (.ireturn, 1) := by decide +kernel
abbrev vs_C_7_holdsAll_16 : List Cond := .code yX7_holdsAll cX7_holdsAll 3 (some .boolean) :: CM
set_option maxHeartbeats 4000000 in
set_option maxRecDepth 100000 in
theorem c_C_7_holdsAll_16 (l : Launch) (dC : Nat → ClassId) (dI : Nat → Nat → Nat) (sz : Nat) (zo : Nat) (zd : Nat) (zm : Nat) (k_fo : ClassId) (fo : Nat → Int32) (z : Nat) (zc : Nat) (zn : Nat) (k_fz : ClassId) (fz : Nat → Int32) (hzm : zm ≤ 4) (hzn : zn ≤ 4) : Met l yX7_holdsAll vs_C_7_holdsAll_16 ({ frames := 0, cells := 0, slots := 0, locals := 0 }) (va_Pc [.ref z, .ref zo] (pu_B (dC, dI) (zz16__w zo zd (nI zm) k_fo fo z zc (nI zn) k_fz fz) (zz16__t k_fo k_fz) sz)) (va_Qi (fun (r : Int32) (_ : Unit) => ∃ v : Nat, v ≤ 1 ∧ r = nI v) (fun _ _ => True) (va_A [] sz)) 0 0 (va_A [] sz) := by
  refine Met.ofW (cc := cX7_holdsAll) (maxL := 3) (ret := (some .boolean)) (by decide) rfl ?_
  intro p e s m args below meth c s₁ B hml hv
  obtain ⟨rfl, rfl, hP, hK, hD0⟩ := hv
  have hx := B.exec
  have hb := B.bytes
  have hr := B.returns
  have hts := atoms_spec (ws := vs_C_7_holdsAll_16) B.pre
  have v_1 := hts (.fieldLink RX7 18 "ClockReach$Zone" "size" "I") (List.mem_cons_of_mem _ cm_48)
  have v_2 := hts (.fieldLink RX7 11 "ClockReach$Zone" "cells" "[I") (List.mem_cons_of_mem _ cm_47)
  have hown : s.vm.findClass RX7 = some m.cls := findClass_of_methodNamed B.named
  have hlocks := B.notSynchronized
  have hiX7 : ∀ w ∈ wsX70, w ∈ vs_C_7_holdsAll_16 := fun _ h => List.mem_cons_of_mem _ (cm_X7 h)
  have hD := hD0
  have hA : ∀ q : Nat, s.heap.size ≤ q → va_A [] s.heap.size q := fun _ h => Or.inr h
  have hS : va_S (va_A [] s.heap.size) s.heap s.heap [] := va_S.rf
  have hl := lv_entry ([.ref z, .ref zo]) (n := 3) (Nat.le_of_ble_eq_true rfl)
  rw [lg_entry_eq]
  generalize (lg_sl ([.ref z, .ref zo]) ++ List.replicate (3 - (lg_sl ([.ref z, .ref zo])).length) Slot.unset).toArray = ls at hl ⊢
  have hl : lv_has ls 3 [(0, .ref z), (1, .ref zo)] := hl
  have hzz := zz4 hzn
  refine lv_iconst (v := 0) hx hb eX7_holdsAll_0 (by decide) ?_
  refine lv_istore_n (lv' := [(2, .int 0), (0, .ref z), (1, .ref zo)]) hx hb eX7_holdsAll_1 rfl hl (by decide) rfl (fun ls hl => ?_)
  refine pu_while (fun nn H locs ls => ∃ (g_2 : Nat), nn = 16 - g_2 ∧ g_2 ≤ 16 ∧ va_P (dC, dI) vwCl (zz16__w zo zd (nI zm) k_fo fo z zc (nI zn) k_fz fz) H ∧ va_D (fun _ => True) (zz16__w zo zd (nI zm) k_fo fo z zc (nI zn) k_fz fz) ∧ va_S (va_A [] s.heap.size) s.heap H locs ∧ lv_has ls 3 [(0, .ref z), (1, .ref zo), (2, .int (nI g_2))]) 2 ?_ _ _ _ _ ⟨0, rfl, (Nat.le_of_ble_eq_true rfl), hP, hD, hS, lv_sub hl [1, 2, 0] rfl⟩
  rintro nn ih_3 H locs ls ⟨g_2, rfl, hg_2, hP, hD, hS, hl⟩
  refine lv_iload_n hx hb eX7_holdsAll_2 rfl (lv_at hl 2 rfl) ?_
  refine lv_aload_n hx hb eX7_holdsAll_3 rfl (lv_at hl 0 rfl) ?_
  refine va_get (D := (dC, dI)) (ci := 7) (v := .int (nI zn)) (C := RX7) (T := TX7) (N := 2) hx hb hts hiX7 hown hK hP 2 rfl rfl 1 (by decide) v_1 (fun _ h9 => h9) rfl eX7_holdsAll_4 ?_
  refine lv_aload_n hx hb eX7_holdsAll_7 rfl (lv_at hl 0 rfl) ?_
  refine va_get (D := (dC, dI)) (ci := 7) (v := .int (nI zn)) (C := RX7) (T := TX7) (N := 2) hx hb hts hiX7 hown hK hP 2 rfl rfl 1 (by decide) v_1 (fun _ h9 => h9) rfl eX7_holdsAll_8 ?_
  refine lv_imul hx hb eX7_holdsAll_11 ?_
  refine lv_topi (fun y_4 ey_4 => ?_)
  obtain rfl : y_4 = (nI (zn * zn)) := ey_4.trans (pk_mul zn zn)
  refine lv_icmp_ge (tgt := 38) hx hb eX7_holdsAll_12 (by decide) (fun c_5 => ?_) (fun c_5 => ?_)
  · have c_5 : (zn * zn) ≤ g_2 := (nI_leI (a := (zn * zn)) (b := g_2) (by omega) (Nat.lt_of_le_of_lt hg_2 (Nat.le_of_ble_eq_true rfl))).mp c_5
    refine lv_iconst (v := 1) hx hb eX7_holdsAll_38 (by decide) ?_
    exact W.zret (v := 1) (ty := .boolean) hx hb hr (rfl) (fun t ht hW => ⟨⟨1, (), rfl, ⟨1, (Nat.le_of_ble_eq_true rfl), rfl⟩, trivial⟩, hS.F ht⟩) hS.2.2 eX7_holdsAll_39
  · have c_5 : ¬ (zn * zn) ≤ g_2 := fun z => c_5 ((nI_leI (a := (zn * zn)) (b := g_2) (by omega) (Nat.lt_of_le_of_lt hg_2 (Nat.le_of_ble_eq_true rfl))).mpr z)
    refine lv_aload_n hx hb eX7_holdsAll_15 rfl (lv_at hl 1 rfl) ?_
    refine va_get (D := (dC, dI)) (ci := 7) (v := .ref zd) (C := RX7) (T := TX7) (N := 2) hx hb hts hiX7 hown hK hP 0 rfl rfl 0 (by decide) v_2 (fun _ h9 => h9) rfl eX7_holdsAll_16 ?_
    refine lv_iload_n hx hb eX7_holdsAll_19 rfl (lv_at hl 2 rfl) ?_
    refine va_iald hx hb hK hP 1 0 rfl rfl (vp_in_nI (n := g_2) (by omega) (Nat.le_of_ble_eq_true rfl)) eX7_holdsAll_20 ?_
    refine lv_topi (fun y_6 ey_6 => ?_)
    refine lv_aload_n hx hb eX7_holdsAll_21 rfl (lv_at hl 0 rfl) ?_
    refine va_get (D := (dC, dI)) (ci := 7) (v := .ref zc) (C := RX7) (T := TX7) (N := 2) hx hb hts hiX7 hown hK hP 2 rfl rfl 0 (by decide) v_2 (fun _ h9 => h9) rfl eX7_holdsAll_22 ?_
    refine lv_iload_n hx hb eX7_holdsAll_25 rfl (lv_at hl 2 rfl) ?_
    refine va_iald hx hb hK hP 3 1 rfl rfl (vp_in_nI (n := g_2) (by omega) (Nat.le_of_ble_eq_true rfl)) eX7_holdsAll_26 ?_
    refine lv_topi (fun y_7 ey_7 => ?_)
    refine lv_icmp_le (tgt := 32) hx hb eX7_holdsAll_27 (by decide) (fun c_8 => ?_) (fun c_8 => ?_)
    · refine lv_iinc (v := (nI (g_2 + 1))) (lv' := [(2, .int (nI (g_2 + 1))), (0, .ref z), (1, .ref zo)]) hx hb eX7_holdsAll_32 hl (k := 2) rfl (nI_1 _) (by decide) rfl (fun ls hl => ?_)
      refine lv_goto (tgt := 2) hx hb eX7_holdsAll_35 (by decide) ?_
      exact ih_3 (16 - (g_2 + 1)) (by omega) _ _ _ ⟨(g_2 + 1), rfl, (by omega), hP, hD, hS, lv_sub hl [1, 2, 0] rfl⟩
    · refine lv_iconst (v := 0) hx hb eX7_holdsAll_30 (by decide) ?_
      exact W.zret (v := 0) (ty := .boolean) hx hb hr (rfl) (fun t ht hW => ⟨⟨0, (), rfl, ⟨0, (Nat.le_of_ble_eq_true rfl), rfl⟩, trivial⟩, hS.F ht⟩) hS.2.2 eX7_holdsAll_31
abbrev vs_C_7_holdsAll_s_16 : List Cond := .code yX7_holdsAll cX7_holdsAll 3 (some .boolean) :: CM
set_option maxHeartbeats 4000000 in
set_option maxRecDepth 100000 in
theorem c_C_7_holdsAll_s_16 (l : Launch) (dC : Nat → ClassId) (dI : Nat → Nat → Nat) (sz : Nat) (z : Nat) (zc : Nat) (zn : Nat) (k_fz : ClassId) (fz : Nat → Int32) (hzn : zn ≤ 4) : Met l yX7_holdsAll vs_C_7_holdsAll_s_16 ({ frames := 0, cells := 0, slots := 0, locals := 0 }) (va_Pc [.ref z, .ref z] (pu_B (dC, dI) (z16__w z zc (nI zn) k_fz fz) (z16__t k_fz) sz)) (va_Qi (fun (r : Int32) (_ : Unit) => ∃ v : Nat, v ≤ 1 ∧ r = nI v) (fun _ _ => True) (va_A [] sz)) 0 0 (va_A [] sz) := by
  refine Met.ofW (cc := cX7_holdsAll) (maxL := 3) (ret := (some .boolean)) (by decide) rfl ?_
  intro p e s m args below meth c s₁ B hml hv
  obtain ⟨rfl, rfl, hP, hK, hD0⟩ := hv
  have hx := B.exec
  have hb := B.bytes
  have hr := B.returns
  have hts := atoms_spec (ws := vs_C_7_holdsAll_s_16) B.pre
  have v_1 := hts (.fieldLink RX7 18 "ClockReach$Zone" "size" "I") (List.mem_cons_of_mem _ cm_48)
  have v_2 := hts (.fieldLink RX7 11 "ClockReach$Zone" "cells" "[I") (List.mem_cons_of_mem _ cm_47)
  have hown : s.vm.findClass RX7 = some m.cls := findClass_of_methodNamed B.named
  have hlocks := B.notSynchronized
  have hiX7 : ∀ w ∈ wsX70, w ∈ vs_C_7_holdsAll_s_16 := fun _ h => List.mem_cons_of_mem _ (cm_X7 h)
  have hD := hD0
  have hA : ∀ q : Nat, s.heap.size ≤ q → va_A [] s.heap.size q := fun _ h => Or.inr h
  have hS : va_S (va_A [] s.heap.size) s.heap s.heap [] := va_S.rf
  have hl := lv_entry ([.ref z, .ref z]) (n := 3) (Nat.le_of_ble_eq_true rfl)
  rw [lg_entry_eq]
  generalize (lg_sl ([.ref z, .ref z]) ++ List.replicate (3 - (lg_sl ([.ref z, .ref z])).length) Slot.unset).toArray = ls at hl ⊢
  have hl : lv_has ls 3 [(0, .ref z), (1, .ref z)] := hl
  have hzz := zz4 hzn
  refine lv_iconst (v := 0) hx hb eX7_holdsAll_0 (by decide) ?_
  refine lv_istore_n (lv' := [(2, .int 0), (0, .ref z), (1, .ref z)]) hx hb eX7_holdsAll_1 rfl hl (by decide) rfl (fun ls hl => ?_)
  refine pu_while (fun nn H locs ls => ∃ (g_2 : Nat), nn = 16 - g_2 ∧ g_2 ≤ 16 ∧ va_P (dC, dI) vwCl (z16__w z zc (nI zn) k_fz fz) H ∧ va_D (fun _ => True) (z16__w z zc (nI zn) k_fz fz) ∧ va_S (va_A [] s.heap.size) s.heap H locs ∧ lv_has ls 3 [(0, .ref z), (1, .ref z), (2, .int (nI g_2))]) 2 ?_ _ _ _ _ ⟨0, rfl, (Nat.le_of_ble_eq_true rfl), hP, hD, hS, lv_sub hl [1, 2, 0] rfl⟩
  rintro nn ih_3 H locs ls ⟨g_2, rfl, hg_2, hP, hD, hS, hl⟩
  refine lv_iload_n hx hb eX7_holdsAll_2 rfl (lv_at hl 2 rfl) ?_
  refine lv_aload_n hx hb eX7_holdsAll_3 rfl (lv_at hl 0 rfl) ?_
  refine va_get (D := (dC, dI)) (ci := 7) (v := .int (nI zn)) (C := RX7) (T := TX7) (N := 2) hx hb hts hiX7 hown hK hP 0 rfl rfl 1 (by decide) v_1 (fun _ h9 => h9) rfl eX7_holdsAll_4 ?_
  refine lv_aload_n hx hb eX7_holdsAll_7 rfl (lv_at hl 0 rfl) ?_
  refine va_get (D := (dC, dI)) (ci := 7) (v := .int (nI zn)) (C := RX7) (T := TX7) (N := 2) hx hb hts hiX7 hown hK hP 0 rfl rfl 1 (by decide) v_1 (fun _ h9 => h9) rfl eX7_holdsAll_8 ?_
  refine lv_imul hx hb eX7_holdsAll_11 ?_
  refine lv_topi (fun y_4 ey_4 => ?_)
  obtain rfl : y_4 = (nI (zn * zn)) := ey_4.trans (pk_mul zn zn)
  refine lv_icmp_ge (tgt := 38) hx hb eX7_holdsAll_12 (by decide) (fun c_5 => ?_) (fun c_5 => ?_)
  · have c_5 : (zn * zn) ≤ g_2 := (nI_leI (a := (zn * zn)) (b := g_2) (by omega) (Nat.lt_of_le_of_lt hg_2 (Nat.le_of_ble_eq_true rfl))).mp c_5
    refine lv_iconst (v := 1) hx hb eX7_holdsAll_38 (by decide) ?_
    exact W.zret (v := 1) (ty := .boolean) hx hb hr (rfl) (fun t ht hW => ⟨⟨1, (), rfl, ⟨1, (Nat.le_of_ble_eq_true rfl), rfl⟩, trivial⟩, hS.F ht⟩) hS.2.2 eX7_holdsAll_39
  · have c_5 : ¬ (zn * zn) ≤ g_2 := fun z => c_5 ((nI_leI (a := (zn * zn)) (b := g_2) (by omega) (Nat.lt_of_le_of_lt hg_2 (Nat.le_of_ble_eq_true rfl))).mpr z)
    refine lv_aload_n hx hb eX7_holdsAll_15 rfl (lv_at hl 1 rfl) ?_
    refine va_get (D := (dC, dI)) (ci := 7) (v := .ref zc) (C := RX7) (T := TX7) (N := 2) hx hb hts hiX7 hown hK hP 0 rfl rfl 0 (by decide) v_2 (fun _ h9 => h9) rfl eX7_holdsAll_16 ?_
    refine lv_iload_n hx hb eX7_holdsAll_19 rfl (lv_at hl 2 rfl) ?_
    refine va_iald hx hb hK hP 1 0 rfl rfl (vp_in_nI (n := g_2) (by omega) (Nat.le_of_ble_eq_true rfl)) eX7_holdsAll_20 ?_
    refine lv_topi (fun y_6 ey_6 => ?_)
    refine lv_aload_n hx hb eX7_holdsAll_21 rfl (lv_at hl 0 rfl) ?_
    refine va_get (D := (dC, dI)) (ci := 7) (v := .ref zc) (C := RX7) (T := TX7) (N := 2) hx hb hts hiX7 hown hK hP 0 rfl rfl 0 (by decide) v_2 (fun _ h9 => h9) rfl eX7_holdsAll_22 ?_
    refine lv_iload_n hx hb eX7_holdsAll_25 rfl (lv_at hl 2 rfl) ?_
    refine va_iald hx hb hK hP 1 0 rfl rfl (vp_in_nI (n := g_2) (by omega) (Nat.le_of_ble_eq_true rfl)) eX7_holdsAll_26 ?_
    refine lv_topi (fun y_7 ey_7 => ?_)
    refine lv_icmp_le (tgt := 32) hx hb eX7_holdsAll_27 (by decide) (fun c_8 => ?_) (fun c_8 => ?_)
    · refine lv_iinc (v := (nI (g_2 + 1))) (lv' := [(2, .int (nI (g_2 + 1))), (0, .ref z), (1, .ref z)]) hx hb eX7_holdsAll_32 hl (k := 2) rfl (nI_1 _) (by decide) rfl (fun ls hl => ?_)
      refine lv_goto (tgt := 2) hx hb eX7_holdsAll_35 (by decide) ?_
      exact ih_3 (16 - (g_2 + 1)) (by omega) _ _ _ ⟨(g_2 + 1), rfl, (by omega), hP, hD, hS, lv_sub hl [1, 2, 0] rfl⟩
    · refine lv_iconst (v := 0) hx hb eX7_holdsAll_30 (by decide) ?_
      exact W.zret (v := 0) (ty := .boolean) hx hb hr (rfl) (fun t ht hW => ⟨⟨0, (), rfl, ⟨0, (Nat.le_of_ble_eq_true rfl), rfl⟩, trivial⟩, hS.F ht⟩) hS.2.2 eX7_holdsAll_31
theorem eX7_equalTo_0 : decode cX7_equalTo 0 = .ok (.iconst 0, 1) := by decide +kernel
theorem eX7_equalTo_1 : decode cX7_equalTo 1 = .ok (.istore_n 2, 1) := by decide +kernel
theorem eX7_equalTo_2 : decode cX7_equalTo 2 = .ok (.iload_n 2, 1) := by decide +kernel
theorem eX7_equalTo_3 : decode cX7_equalTo 3 = .ok (.aload_n 0, 1) := by decide +kernel
theorem eX7_equalTo_4 : decode cX7_equalTo 4 = .ok (.getfield 18, 3) := by decide +kernel
theorem eX7_equalTo_7 : decode cX7_equalTo 7 = .ok (.aload_n 0, 1) := by decide +kernel
theorem eX7_equalTo_8 : decode cX7_equalTo 8 = .ok (.getfield 18, 3) := by decide +kernel
theorem eX7_equalTo_11 : decode cX7_equalTo 11 = .ok (.imul, 1) := by decide +kernel
theorem eX7_equalTo_12 : decode cX7_equalTo 12 = .ok (.if_icmp .ge 26, 3) := by decide +kernel
theorem eX7_equalTo_15 : decode cX7_equalTo 15 = .ok (.aload_n 1, 1) := by decide +kernel
theorem eX7_equalTo_16 : decode cX7_equalTo 16 = .ok (.getfield 11, 3) := by decide +kernel
theorem eX7_equalTo_19 : decode cX7_equalTo 19 = .ok (.iload_n 2, 1) := by decide +kernel
theorem eX7_equalTo_20 : decode cX7_equalTo 20 = .ok (.iaload, 1) := by decide +kernel
theorem eX7_equalTo_21 : decode cX7_equalTo 21 = .ok (.aload_n 0, 1) := by decide +kernel
theorem eX7_equalTo_22 : decode cX7_equalTo 22 = .ok (.getfield 11, 3) := by decide +kernel
theorem eX7_equalTo_25 : decode cX7_equalTo 25 = .ok (.iload_n 2, 1) := by decide +kernel
theorem eX7_equalTo_26 : decode cX7_equalTo 26 = .ok (.iaload, 1) := by decide +kernel
theorem eX7_equalTo_27 : decode cX7_equalTo 27 = .ok (.if_icmp .eq 5, 3) := by decide +kernel
theorem eX7_equalTo_30 : decode cX7_equalTo 30 = .ok (.iconst 0, 1) := by decide +kernel
theorem eX7_equalTo_31 : decode cX7_equalTo 31 = .ok (.ireturn, 1) := by decide +kernel
theorem eX7_equalTo_32 : decode cX7_equalTo 32 = .ok (.iinc 2 1, 3) := by decide +kernel
theorem eX7_equalTo_35 : decode cX7_equalTo 35 = .ok (.goto (-33), 3) := by decide +kernel
theorem eX7_equalTo_38 : decode cX7_equalTo 38 = .ok (.iconst 1, 1) := by decide +kernel
theorem eX7_equalTo_39 : decode cX7_equalTo 39 = .ok (.ireturn, 1) := by decide +kernel
abbrev vs_C_7_equalTo_16 : List Cond := .code yX7_equalTo cX7_equalTo 3 (some .boolean) :: CM
set_option maxHeartbeats 4000000 in
set_option maxRecDepth 100000 in
theorem c_C_7_equalTo_16 (l : Launch) (dC : Nat → ClassId) (dI : Nat → Nat → Nat) (sz : Nat) (zo : Nat) (zd : Nat) (zm : Nat) (k_fo : ClassId) (fo : Nat → Int32) (z : Nat) (zc : Nat) (zn : Nat) (k_fz : ClassId) (fz : Nat → Int32) (hzm : zm ≤ 4) (hzn : zn ≤ 4) : Met l yX7_equalTo vs_C_7_equalTo_16 ({ frames := 0, cells := 0, slots := 0, locals := 0 }) (va_Pc [.ref z, .ref zo] (pu_B (dC, dI) (zz16__w zo zd (nI zm) k_fo fo z zc (nI zn) k_fz fz) (zz16__t k_fo k_fz) sz)) (va_Qi (fun (r : Int32) (_ : Unit) => ∃ v : Nat, v ≤ 1 ∧ r = nI v) (fun _ _ => True) (va_A [] sz)) 0 0 (va_A [] sz) := by
  refine Met.ofW (cc := cX7_equalTo) (maxL := 3) (ret := (some .boolean)) (by decide) rfl ?_
  intro p e s m args below meth c s₁ B hml hv
  obtain ⟨rfl, rfl, hP, hK, hD0⟩ := hv
  have hx := B.exec
  have hb := B.bytes
  have hr := B.returns
  have hts := atoms_spec (ws := vs_C_7_equalTo_16) B.pre
  have v_1 := hts (.fieldLink RX7 18 "ClockReach$Zone" "size" "I") (List.mem_cons_of_mem _ cm_48)
  have v_2 := hts (.fieldLink RX7 11 "ClockReach$Zone" "cells" "[I") (List.mem_cons_of_mem _ cm_47)
  have hown : s.vm.findClass RX7 = some m.cls := findClass_of_methodNamed B.named
  have hlocks := B.notSynchronized
  have hiX7 : ∀ w ∈ wsX70, w ∈ vs_C_7_equalTo_16 := fun _ h => List.mem_cons_of_mem _ (cm_X7 h)
  have hD := hD0
  have hA : ∀ q : Nat, s.heap.size ≤ q → va_A [] s.heap.size q := fun _ h => Or.inr h
  have hS : va_S (va_A [] s.heap.size) s.heap s.heap [] := va_S.rf
  have hl := lv_entry ([.ref z, .ref zo]) (n := 3) (Nat.le_of_ble_eq_true rfl)
  rw [lg_entry_eq]
  generalize (lg_sl ([.ref z, .ref zo]) ++ List.replicate (3 - (lg_sl ([.ref z, .ref zo])).length) Slot.unset).toArray = ls at hl ⊢
  have hl : lv_has ls 3 [(0, .ref z), (1, .ref zo)] := hl
  have hzz := zz4 hzn
  refine lv_iconst (v := 0) hx hb eX7_equalTo_0 (by decide) ?_
  refine lv_istore_n (lv' := [(2, .int 0), (0, .ref z), (1, .ref zo)]) hx hb eX7_equalTo_1 rfl hl (by decide) rfl (fun ls hl => ?_)
  refine pu_while (fun nn H locs ls => ∃ (g_2 : Nat), nn = 16 - g_2 ∧ g_2 ≤ 16 ∧ va_P (dC, dI) vwCl (zz16__w zo zd (nI zm) k_fo fo z zc (nI zn) k_fz fz) H ∧ va_D (fun _ => True) (zz16__w zo zd (nI zm) k_fo fo z zc (nI zn) k_fz fz) ∧ va_S (va_A [] s.heap.size) s.heap H locs ∧ lv_has ls 3 [(0, .ref z), (1, .ref zo), (2, .int (nI g_2))]) 2 ?_ _ _ _ _ ⟨0, rfl, (Nat.le_of_ble_eq_true rfl), hP, hD, hS, lv_sub hl [1, 2, 0] rfl⟩
  rintro nn ih_3 H locs ls ⟨g_2, rfl, hg_2, hP, hD, hS, hl⟩
  refine lv_iload_n hx hb eX7_equalTo_2 rfl (lv_at hl 2 rfl) ?_
  refine lv_aload_n hx hb eX7_equalTo_3 rfl (lv_at hl 0 rfl) ?_
  refine va_get (D := (dC, dI)) (ci := 7) (v := .int (nI zn)) (C := RX7) (T := TX7) (N := 2) hx hb hts hiX7 hown hK hP 2 rfl rfl 1 (by decide) v_1 (fun _ h9 => h9) rfl eX7_equalTo_4 ?_
  refine lv_aload_n hx hb eX7_equalTo_7 rfl (lv_at hl 0 rfl) ?_
  refine va_get (D := (dC, dI)) (ci := 7) (v := .int (nI zn)) (C := RX7) (T := TX7) (N := 2) hx hb hts hiX7 hown hK hP 2 rfl rfl 1 (by decide) v_1 (fun _ h9 => h9) rfl eX7_equalTo_8 ?_
  refine lv_imul hx hb eX7_equalTo_11 ?_
  refine lv_topi (fun y_4 ey_4 => ?_)
  obtain rfl : y_4 = (nI (zn * zn)) := ey_4.trans (pk_mul zn zn)
  refine lv_icmp_ge (tgt := 38) hx hb eX7_equalTo_12 (by decide) (fun c_5 => ?_) (fun c_5 => ?_)
  · have c_5 : (zn * zn) ≤ g_2 := (nI_leI (a := (zn * zn)) (b := g_2) (by omega) (Nat.lt_of_le_of_lt hg_2 (Nat.le_of_ble_eq_true rfl))).mp c_5
    refine lv_iconst (v := 1) hx hb eX7_equalTo_38 (by decide) ?_
    exact W.zret (v := 1) (ty := .boolean) hx hb hr (rfl) (fun t ht hW => ⟨⟨1, (), rfl, ⟨1, (Nat.le_of_ble_eq_true rfl), rfl⟩, trivial⟩, hS.F ht⟩) hS.2.2 eX7_equalTo_39
  · have c_5 : ¬ (zn * zn) ≤ g_2 := fun z => c_5 ((nI_leI (a := (zn * zn)) (b := g_2) (by omega) (Nat.lt_of_le_of_lt hg_2 (Nat.le_of_ble_eq_true rfl))).mpr z)
    refine lv_aload_n hx hb eX7_equalTo_15 rfl (lv_at hl 1 rfl) ?_
    refine va_get (D := (dC, dI)) (ci := 7) (v := .ref zd) (C := RX7) (T := TX7) (N := 2) hx hb hts hiX7 hown hK hP 0 rfl rfl 0 (by decide) v_2 (fun _ h9 => h9) rfl eX7_equalTo_16 ?_
    refine lv_iload_n hx hb eX7_equalTo_19 rfl (lv_at hl 2 rfl) ?_
    refine va_iald hx hb hK hP 1 0 rfl rfl (vp_in_nI (n := g_2) (by omega) (Nat.le_of_ble_eq_true rfl)) eX7_equalTo_20 ?_
    refine lv_topi (fun y_6 ey_6 => ?_)
    refine lv_aload_n hx hb eX7_equalTo_21 rfl (lv_at hl 0 rfl) ?_
    refine va_get (D := (dC, dI)) (ci := 7) (v := .ref zc) (C := RX7) (T := TX7) (N := 2) hx hb hts hiX7 hown hK hP 2 rfl rfl 0 (by decide) v_2 (fun _ h9 => h9) rfl eX7_equalTo_22 ?_
    refine lv_iload_n hx hb eX7_equalTo_25 rfl (lv_at hl 2 rfl) ?_
    refine va_iald hx hb hK hP 3 1 rfl rfl (vp_in_nI (n := g_2) (by omega) (Nat.le_of_ble_eq_true rfl)) eX7_equalTo_26 ?_
    refine lv_topi (fun y_7 ey_7 => ?_)
    refine lv_icmp_eq (tgt := 32) hx hb eX7_equalTo_27 (by decide) (fun c_8 => ?_) (fun c_8 => ?_)
    · refine lv_iinc (v := (nI (g_2 + 1))) (lv' := [(2, .int (nI (g_2 + 1))), (0, .ref z), (1, .ref zo)]) hx hb eX7_equalTo_32 hl (k := 2) rfl (nI_1 _) (by decide) rfl (fun ls hl => ?_)
      refine lv_goto (tgt := 2) hx hb eX7_equalTo_35 (by decide) ?_
      exact ih_3 (16 - (g_2 + 1)) (by omega) _ _ _ ⟨(g_2 + 1), rfl, (by omega), hP, hD, hS, lv_sub hl [1, 2, 0] rfl⟩
    · refine lv_iconst (v := 0) hx hb eX7_equalTo_30 (by decide) ?_
      exact W.zret (v := 0) (ty := .boolean) hx hb hr (rfl) (fun t ht hW => ⟨⟨0, (), rfl, ⟨0, (Nat.le_of_ble_eq_true rfl), rfl⟩, trivial⟩, hS.F ht⟩) hS.2.2 eX7_equalTo_31
