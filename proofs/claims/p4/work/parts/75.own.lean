theorem eX7_holdsTimes_0 : decode cX7_holdsTimes 0 = .ok (.iconst 0, 1) := by decide +kernel
theorem eX7_holdsTimes_1 : decode cX7_holdsTimes 1 = .ok (.istore_n 2, 1) := by decide +kernel
theorem eX7_holdsTimes_2 : decode cX7_holdsTimes 2 = .ok (.iload_n 2, 1) := by decide +kernel
theorem eX7_holdsTimes_3 : decode cX7_holdsTimes 3 = .ok (.aload_n 0, 1) := by decide +kernel
theorem eX7_holdsTimes_4 : decode cX7_holdsTimes 4 = .ok (.getfield 18, 3) := by decide +kernel
theorem eX7_holdsTimes_7 : decode cX7_holdsTimes 7 = .ok (.if_icmp .ge 68, 3) := by decide +kernel
theorem eX7_holdsTimes_10 : decode cX7_holdsTimes 10 = .ok (.iconst 0, 1) := by decide +kernel
theorem eX7_holdsTimes_11 : decode cX7_holdsTimes 11 = .ok (.istore_n 3, 1) := by decide +kernel
theorem eX7_holdsTimes_12 : decode cX7_holdsTimes 12 = .ok (.iload_n 3, 1) := by decide +kernel
theorem eX7_holdsTimes_13 : decode cX7_holdsTimes 13 = .ok (.aload_n 0, 1) := by decide +kernel
theorem eX7_holdsTimes_14 : decode cX7_holdsTimes 14 = .ok (.getfield 18, 3) := by decide +kernel
theorem eX7_holdsTimes_17 : decode cX7_holdsTimes 17 = .ok (.if_icmp .ge 52, 3) := by decide +kernel
theorem eX7_holdsTimes_20 : decode cX7_holdsTimes 20 = .ok (.aload_n 0, 1) := by decide +kernel
theorem eX7_holdsTimes_21 : decode cX7_holdsTimes 21 = .ok (.getfield 11, 3) := by decide +kernel
theorem eX7_holdsTimes_24 : decode cX7_holdsTimes 24 = .ok (.iload_n 2, 1) := by decide +kernel
theorem eX7_holdsTimes_25 : decode cX7_holdsTimes 25 = .ok (.aload_n 0, 1) := by decide +kernel
theorem eX7_holdsTimes_26 : decode cX7_holdsTimes 26 = .ok (.getfield 18, 3) := by decide +kernel
theorem eX7_holdsTimes_29 : decode cX7_holdsTimes 29 = .ok (.imul, 1) := by decide +kernel
theorem eX7_holdsTimes_30 : decode cX7_holdsTimes 30 = .ok (.iload_n 3, 1) := by decide +kernel
theorem eX7_holdsTimes_31 : decode cX7_holdsTimes 31 = .ok (.iadd, 1) := by decide +kernel
theorem eX7_holdsTimes_32 : decode cX7_holdsTimes 32 = .ok (.iaload, 1) := by decide +kernel
theorem eX7_holdsTimes_33 : decode cX7_holdsTimes 33 = .ok (.istore 4, 2) := by decide +kernel
theorem eX7_holdsTimes_35 : decode cX7_holdsTimes 35 = .ok (.iload 4, 2) := by decide +kernel
theorem eX7_holdsTimes_37 : decode cX7_holdsTimes 37 = .ok (.ldc 17, 2) := by decide +kernel
theorem eX7_holdsTimes_39 : decode cX7_holdsTimes 39 = .ok (.if_icmp .eq 24, 3) := by decide +kernel
theorem eX7_holdsTimes_42 : decode cX7_holdsTimes 42 = .ok (.aload_n 1, 1) := by decide +kernel
theorem eX7_holdsTimes_43 : decode cX7_holdsTimes 43 = .ok (.iload_n 2, 1) := by decide +kernel
theorem eX7_holdsTimes_44 : decode cX7_holdsTimes 44 = .ok (.iaload, 1) := by decide +kernel
theorem eX7_holdsTimes_45 : decode cX7_holdsTimes 45 = .ok (.i2l, 1) := by decide +kernel
theorem eX7_holdsTimes_46 : decode cX7_holdsTimes 46 = .ok (.aload_n 1, 1) := by decide +kernel
theorem eX7_holdsTimes_47 : decode cX7_holdsTimes 47 = .ok (.iload_n 3, 1) := by decide +kernel
theorem eX7_holdsTimes_48 : decode cX7_holdsTimes 48 = .ok (.iaload, 1) := by decide +kernel
theorem eX7_holdsTimes_49 : decode cX7_holdsTimes 49 = .ok (.i2l, 1) := by decide +kernel
theorem eX7_holdsTimes_50 : decode cX7_holdsTimes 50 = .ok (.lsub, 1) := by decide +kernel
theorem eX7_holdsTimes_51 : decode cX7_holdsTimes 51 = .ok (.iload 4, 2) := by decide +kernel
theorem eX7_holdsTimes_53 : decode cX7_holdsTimes 53 = .ok (.invokestatic 31, 3) := by decide +kernel
theorem eX7_holdsTimes_56 : decode cX7_holdsTimes 56 = .ok (.i2l, 1) := by decide +kernel
theorem eX7_holdsTimes_57 : decode cX7_holdsTimes 57 = .ok (.lcmp, 1) := by decide +kernel
theorem eX7_holdsTimes_58 : decode cX7_holdsTimes 58 = .ok (.ifCond .le 5, 3) := by decide +kernel
theorem eX7_holdsTimes_61 : decode cX7_holdsTimes 61 = .ok (.iconst 0, 1) := by decide +kernel
theorem eX7_holdsTimes_62 : decode cX7_holdsTimes 62 = .ok (.ireturn, 1) := by decide +kernel
theorem eX7_holdsTimes_63 : decode cX7_holdsTimes 63 = .ok (.iinc 3 1, 3) := by decide +kernel
theorem eX7_holdsTimes_66 : decode cX7_holdsTimes 66 = .ok (.goto (-54), 3) := by decide +kernel
theorem eX7_holdsTimes_69 : decode cX7_holdsTimes 69 = .ok (.iinc 2 1, 3) := by decide +kernel
theorem eX7_holdsTimes_72 : decode cX7_holdsTimes 72 = .ok (.goto (-70), 3) := by decide +kernel
theorem eX7_holdsTimes_75 : decode cX7_holdsTimes 75 = .ok (.iconst 1, 1) := by decide +kernel
theorem eX7_holdsTimes_76 : decode cX7_holdsTimes 76 = .ok (.ireturn, 1) := by decide +kernel
abbrev vs_C_7_holdsTimes : List Cond := .code yX7_holdsTimes cX7_holdsTimes 5 (some .boolean) :: CM
theorem g_C_7_holdsTimes_C_7_ticks : GoodIn vs_C_7_holdsTimes (va_wsS RX7 31 yX7_ticks vs_C_7_ticks) := cm_gS cm_414 cm_68 cm_45 cm_69
set_option maxHeartbeats 4000000 in
set_option maxRecDepth 100000 in
theorem c_C_7_holdsTimes (l : Launch) (dC : Nat → ClassId) (dI : Nat → Nat → Nat) (sz : Nat) (vz : Nat) (k_fv : ClassId) (fv : Nat → Int32) (z : Nat) (zc : Nat) (zn : Nat) (k_fz : ClassId) (fz : Nat → Int32) (hzn : zn ≤ 4) : Met l yX7_holdsTimes vs_C_7_holdsTimes ({ frames := 1, cells := 0, slots := 0, locals := 20 }) (va_Pc [.ref z, .ref vz] (pu_B (dC, dI) (zs16__w vz k_fv fv z zc (nI zn) k_fz fz) (zs16__t k_fv k_fz) sz)) (va_Qi (fun (r : Int32) (_ : Unit) => ∃ v : Nat, v ≤ 1 ∧ r = nI v) (fun _ _ => True) (va_A [] sz)) 0 0 (va_A [] sz) := by
  refine Met.ofW (cc := cX7_holdsTimes) (maxL := 5) (ret := (some .boolean)) (by decide) rfl ?_
  intro p e s m args below meth c s₁ B hml hv
  obtain ⟨rfl, rfl, hP, hK, hD0⟩ := hv
  have hx := B.exec
  have hb := B.bytes
  have hr := B.returns
  have hts := atoms_spec (ws := vs_C_7_holdsTimes) B.pre
  have v_1 := hts (.fieldLink RX7 18 "ClockReach$Zone" "size" "I") (List.mem_cons_of_mem _ cm_48)
  have v_2 := hts (.fieldLink RX7 11 "ClockReach$Zone" "cells" "[I") (List.mem_cons_of_mem _ cm_47)
  have v_3 := hts (.constant RX7 17 (2147483647)) (List.mem_cons_of_mem _ cm_49)
  have hown : s.vm.findClass RX7 = some m.cls := findClass_of_methodNamed B.named
  have hlocks := B.notSynchronized
  have hiX7 : ∀ w ∈ wsX70, w ∈ vs_C_7_holdsTimes := fun _ h => List.mem_cons_of_mem _ (cm_X7 h)
  have hD := hD0
  have hA : ∀ q : Nat, s.heap.size ≤ q → va_A [] s.heap.size q := fun _ h => Or.inr h
  have hS : va_S (va_A [] s.heap.size) s.heap s.heap [] := va_S.rf
  have hl := lv_entry ([.ref z, .ref vz]) (n := 5) (Nat.le_of_ble_eq_true rfl)
  rw [lg_entry_eq]
  generalize (lg_sl ([.ref z, .ref vz]) ++ List.replicate (5 - (lg_sl ([.ref z, .ref vz])).length) Slot.unset).toArray = ls at hl ⊢
  have hl : lv_has ls 5 [(0, .ref z), (1, .ref vz)] := hl
  have hzz := zz4 hzn
  refine lv_iconst (v := 0) hx hb eX7_holdsTimes_0 (by decide) ?_
  refine lv_istore_n (lv' := [(2, .int 0), (0, .ref z), (1, .ref vz)]) hx hb eX7_holdsTimes_1 rfl hl (by decide) rfl (fun ls hl => ?_)
  refine pu_while (fun nn H locs ls => ∃ (g_2 : Nat), nn = 4 - g_2 ∧ g_2 ≤ 4 ∧ va_P (dC, dI) vwCl (zs16__w vz k_fv fv z zc (nI zn) k_fz fz) H ∧ va_D (fun _ => True) (zs16__w vz k_fv fv z zc (nI zn) k_fz fz) ∧ va_S (va_A [] s.heap.size) s.heap H locs ∧ lv_has ls 5 [(0, .ref z), (1, .ref vz), (2, .int (nI g_2))]) 2 ?_ _ _ _ _ ⟨0, rfl, (Nat.le_of_ble_eq_true rfl), hP, hD, hS, lv_sub hl [1, 2, 0] rfl⟩
  rintro nn ih_3 H locs ls ⟨g_2, rfl, hg_2, hP, hD, hS, hl⟩
  refine lv_iload_n hx hb eX7_holdsTimes_2 rfl (lv_at hl 2 rfl) ?_
  refine lv_aload_n hx hb eX7_holdsTimes_3 rfl (lv_at hl 0 rfl) ?_
  refine va_get (D := (dC, dI)) (ci := 7) (v := .int (nI zn)) (C := RX7) (T := TX7) (N := 2) hx hb hts hiX7 hown hK hP 1 rfl rfl 1 (by decide) v_1 (fun _ h9 => h9) rfl eX7_holdsTimes_4 ?_
  refine lv_icmp_ge (tgt := 75) hx hb eX7_holdsTimes_7 (by decide) (fun c_4 => ?_) (fun c_4 => ?_)
  · have c_4 : zn ≤ g_2 := (nI_leI (a := zn) (b := g_2) (Nat.lt_of_le_of_lt hzn (Nat.le_of_ble_eq_true rfl)) (Nat.lt_of_le_of_lt hg_2 (Nat.le_of_ble_eq_true rfl))).mp c_4
    refine lv_iconst (v := 1) hx hb eX7_holdsTimes_75 (by decide) ?_
    exact W.zret (v := 1) (ty := .boolean) hx hb hr (rfl) (fun t ht hW => ⟨⟨1, (), rfl, ⟨1, (Nat.le_of_ble_eq_true rfl), rfl⟩, trivial⟩, hS.F ht⟩) hS.2.2 eX7_holdsTimes_76
  · have c_4 : ¬ zn ≤ g_2 := fun z => c_4 ((nI_leI (a := zn) (b := g_2) (Nat.lt_of_le_of_lt hzn (Nat.le_of_ble_eq_true rfl)) (Nat.lt_of_le_of_lt hg_2 (Nat.le_of_ble_eq_true rfl))).mpr z)
    refine lv_iconst (v := 0) hx hb eX7_holdsTimes_10 (by decide) ?_
    refine lv_istore_n (lv' := [(3, .int 0), (0, .ref z), (1, .ref vz), (2, .int (nI g_2))]) hx hb eX7_holdsTimes_11 rfl hl (by decide) rfl (fun ls hl => ?_)
    refine pu_while (fun nn H locs ls => ∃ (g_6 : Nat), nn = 4 - g_6 ∧ g_6 ≤ 4 ∧ va_P (dC, dI) vwCl (zs16__w vz k_fv fv z zc (nI zn) k_fz fz) H ∧ va_D (fun _ => True) (zs16__w vz k_fv fv z zc (nI zn) k_fz fz) ∧ va_S (va_A [] s.heap.size) s.heap H locs ∧ lv_has ls 5 [(0, .ref z), (1, .ref vz), (2, .int (nI g_2)), (3, .int (nI g_6))]) 12 ?_ _ _ _ _ ⟨0, rfl, (Nat.le_of_ble_eq_true rfl), hP, hD, hS, lv_sub hl [1, 2, 3, 0] rfl⟩
    rintro nn ih_7 H locs ls ⟨g_6, rfl, hg_6, hP, hD, hS, hl⟩
    refine lv_iload_n hx hb eX7_holdsTimes_12 rfl (lv_at hl 3 rfl) ?_
    refine lv_aload_n hx hb eX7_holdsTimes_13 rfl (lv_at hl 0 rfl) ?_
    refine va_get (D := (dC, dI)) (ci := 7) (v := .int (nI zn)) (C := RX7) (T := TX7) (N := 2) hx hb hts hiX7 hown hK hP 1 rfl rfl 1 (by decide) v_1 (fun _ h9 => h9) rfl eX7_holdsTimes_14 ?_
    refine lv_icmp_ge (tgt := 69) hx hb eX7_holdsTimes_17 (by decide) (fun c_8 => ?_) (fun c_8 => ?_)
    · have c_8 : zn ≤ g_6 := (nI_leI (a := zn) (b := g_6) (Nat.lt_of_le_of_lt hzn (Nat.le_of_ble_eq_true rfl)) (Nat.lt_of_le_of_lt hg_6 (Nat.le_of_ble_eq_true rfl))).mp c_8
      refine lv_iinc (v := (nI (g_2 + 1))) (lv' := [(2, .int (nI (g_2 + 1))), (0, .ref z), (1, .ref vz), (3, .int (nI g_6))]) hx hb eX7_holdsTimes_69 hl (k := 2) rfl (nI_1 _) (by decide) rfl (fun ls hl => ?_)
      refine lv_goto (tgt := 2) hx hb eX7_holdsTimes_72 (by decide) ?_
      exact ih_3 (4 - (g_2 + 1)) (by omega) _ _ _ ⟨(g_2 + 1), rfl, (by omega), hP, hD, hS, lv_sub hl [1, 2, 0] rfl⟩
    · have c_8 : ¬ zn ≤ g_6 := fun z => c_8 ((nI_leI (a := zn) (b := g_6) (Nat.lt_of_le_of_lt hzn (Nat.le_of_ble_eq_true rfl)) (Nat.lt_of_le_of_lt hg_6 (Nat.le_of_ble_eq_true rfl))).mpr z)
      refine lv_aload_n hx hb eX7_holdsTimes_20 rfl (lv_at hl 0 rfl) ?_
      refine va_get (D := (dC, dI)) (ci := 7) (v := .ref zc) (C := RX7) (T := TX7) (N := 2) hx hb hts hiX7 hown hK hP 1 rfl rfl 0 (by decide) v_2 (fun _ h9 => h9) rfl eX7_holdsTimes_21 ?_
      refine lv_iload_n hx hb eX7_holdsTimes_24 rfl (lv_at hl 2 rfl) ?_
      refine lv_aload_n hx hb eX7_holdsTimes_25 rfl (lv_at hl 0 rfl) ?_
      refine va_get (D := (dC, dI)) (ci := 7) (v := .int (nI zn)) (C := RX7) (T := TX7) (N := 2) hx hb hts hiX7 hown hK hP 1 rfl rfl 1 (by decide) v_1 (fun _ h9 => h9) rfl eX7_holdsTimes_26 ?_
      refine lv_imul hx hb eX7_holdsTimes_29 ?_
      refine lv_topi (fun y_9 ey_9 => ?_)
      obtain rfl : y_9 = (nI (g_2 * zn)) := ey_9.trans (pk_mul g_2 zn)
      refine lv_iload_n hx hb eX7_holdsTimes_30 rfl (lv_at hl 3 rfl) ?_
      refine lv_iadd hx hb eX7_holdsTimes_31 ?_
      refine lv_topi (fun y_10 ey_10 => ?_)
      obtain rfl : y_10 = (nI ((g_2 * zn) + g_6)) := ey_10.trans (nI_add (g_2 * zn) g_6)
      refine va_iald hx hb hK hP 2 1 rfl rfl (vp_in_nI (n := ((g_2 * zn) + g_6)) (by first | exact zx16 (by omega) (by omega) (by omega) | exact zy16 (by omega) (by omega) | omega) (Nat.le_of_ble_eq_true rfl)) eX7_holdsTimes_32 ?_
      refine lv_topi (fun y_11 ey_11 => ?_)
      refine lv_istore (lv' := [(4, .int y_11), (0, .ref z), (1, .ref vz), (2, .int (nI g_2)), (3, .int (nI g_6))]) hx hb eX7_holdsTimes_33 hl (by decide) rfl (fun ls hl => ?_)
      refine lv_iload hx hb eX7_holdsTimes_35 (lv_at hl 0 rfl) ?_
      refine lv_ldc hx hb hown v_3 eX7_holdsTimes_37 ?_
      refine lv_icmp_eq (tgt := 63) hx hb eX7_holdsTimes_39 (by decide) (fun c_12 => ?_) (fun c_12 => ?_)
      · refine lv_iinc (v := (nI (g_6 + 1))) (lv' := [(3, .int (nI (g_6 + 1))), (4, .int y_11), (0, .ref z), (1, .ref vz), (2, .int (nI g_2))]) hx hb eX7_holdsTimes_63 hl (k := 4) rfl (nI_1 _) (by decide) rfl (fun ls hl => ?_)
        refine lv_goto (tgt := 12) hx hb eX7_holdsTimes_66 (by decide) ?_
        exact ih_7 (4 - (g_6 + 1)) (by omega) _ _ _ ⟨(g_6 + 1), rfl, (by omega), hP, hD, hS, lv_sub hl [2, 3, 4, 0] rfl⟩
      · refine lv_aload_n hx hb eX7_holdsTimes_42 rfl (lv_at hl 2 rfl) ?_
        refine lv_iload_n hx hb eX7_holdsTimes_43 rfl (lv_at hl 3 rfl) ?_
        refine va_iald hx hb hK hP 0 0 rfl rfl (vp_in_nI (n := g_2) (by omega) (Nat.le_of_ble_eq_true rfl)) eX7_holdsTimes_44 ?_
        refine lv_topi (fun y_13 ey_13 => ?_)
        refine lv_i2l (v := y_13.toInt64) hx hb eX7_holdsTimes_45 rfl ?_
        refine lv_topl (fun y_14 ey_14 => ?_)
        refine lv_aload_n hx hb eX7_holdsTimes_46 rfl (lv_at hl 2 rfl) ?_
        refine lv_iload_n hx hb eX7_holdsTimes_47 rfl (lv_at hl 4 rfl) ?_
        refine va_iald hx hb hK hP 0 0 rfl rfl (vp_in_nI (n := g_6) (by omega) (Nat.le_of_ble_eq_true rfl)) eX7_holdsTimes_48 ?_
        refine lv_topi (fun y_15 ey_15 => ?_)
        refine lv_i2l (v := y_15.toInt64) hx hb eX7_holdsTimes_49 rfl ?_
        refine lv_topl (fun y_16 ey_16 => ?_)
        refine lv_lsub hx hb eX7_holdsTimes_50 ?_
        refine lv_topl (fun y_17 ey_17 => ?_)
        refine lv_iload hx hb eX7_holdsTimes_51 (lv_at hl 0 rfl) ?_
        refine va_calli (va_runS (As := [.int y_11]) (rest := [.long y_17]) ⟨hx, hb, hml, hown, hts⟩ (c_C_7_ticks l dC dI _ y_11) (va_cwS 1 hts g_C_7_holdsTimes_C_7_ticks rfl rfl rfl (by decide +kernel) ⟨Nat.le_of_ble_eq_true rfl, Nat.le_of_ble_eq_true rfl⟩) ⟨pu_bl, pu_in (hP.sub [] rfl) (hK.sub [] rfl) (hD.sub [] (by decide) rfl)⟩ rfl rfl hl.1 rfl (lv_room (Nat.le_of_ble_eq_true rfl)) eX7_holdsTimes_53 ⟨Nat.le_of_ble_eq_true rfl, Nat.le_of_ble_eq_true rfl⟩) hS (fun q _ h => pu_fr hS hA q h) (pu_fr hS hA) (fun r_18 u t H1 locs ht hvm hw hB hz1 hk1 hS => ?_)
        have hP := pu_keep hP hk1
        clear hk1 hz1 ht hvm
        generalize H1 = H at hP hS ⊢
        refine lv_i2l (v := r_18.toInt64) hx hb eX7_holdsTimes_56 rfl ?_
        refine lv_topl (fun y_19 ey_19 => ?_)
        refine W.lcmp hx hb eX7_holdsTimes_57 ?_
        refine lv_topi (fun y_20 ey_20 => ?_)
        refine lv_if_le (tgt := 63) hx hb eX7_holdsTimes_58 (by decide) (fun c_21 => ?_) (fun c_21 => ?_)
        · refine lv_iinc (v := (nI (g_6 + 1))) (lv' := [(3, .int (nI (g_6 + 1))), (4, .int y_11), (0, .ref z), (1, .ref vz), (2, .int (nI g_2))]) hx hb eX7_holdsTimes_63 hl (k := 4) rfl (nI_1 _) (by decide) rfl (fun ls hl => ?_)
          refine lv_goto (tgt := 12) hx hb eX7_holdsTimes_66 (by decide) ?_
          exact ih_7 (4 - (g_6 + 1)) (by omega) _ _ _ ⟨(g_6 + 1), rfl, (by omega), hP, hD, hS, lv_sub hl [2, 3, 4, 0] rfl⟩
        · refine lv_iconst (v := 0) hx hb eX7_holdsTimes_61 (by decide) ?_
          exact W.zret (v := 0) (ty := .boolean) hx hb hr (rfl) (fun t ht hW => ⟨⟨0, (), rfl, ⟨0, (Nat.le_of_ble_eq_true rfl), rfl⟩, trivial⟩, hS.F ht⟩) hS.2.2 eX7_holdsTimes_62
abbrev vs_C_8_isState_0 : List Cond := .code yX8_isState cX8_isState 2 (some .boolean) :: CM
set_option maxHeartbeats 4000000 in
set_option maxRecDepth 100000 in
theorem c_C_8_isState_0 (l : Launch) (dC : Nat → ClassId) (dI : Nat → Nat → Nat) (sz : Nat) (xa : Nat) (xtape : Nat) (tp : Nat) (rd : Nat) (au : Nat) (xdr : Nat) (hy : Nat) (g : Nat) (tg : Nat) (sg : Nat) (ss : Nat) (rm : Nat) (ti : Nat) (py : Nat) (bu : Nat) (sm : Nat) (gz : Nat) (g1 : Nat) (g2 : Nat) (g3 : Nat) (g4 : Nat) (g5 : Nat) (gc : Nat) (gfull : Nat) (gx : Int32) (gway : Int32) (gav : Int32) (ggoal : Int32) (gfound : Nat) (gl : Nat) (gsz : Nat) (g16 : Nat) (g17 : Nat) (p0 : Int32) (htp : tp ≤ 900) (hss : ss ≤ 1) (hgc : gc ≤ 120) (hgfull : gfull ≤ 1) (hgfound : gfound ≤ 1) (hgl : gl ≤ 1) (hgsz : gsz ≤ 4) : Met l yX8_isState vs_C_8_isState_0 ({ frames := 0, cells := 0, slots := 0, locals := 0 }) (va_Pc [.ref xa, .int p0] (pu_B (dC, dI) (xg0__w xa xtape (nI tp) rd au xdr hy g 0 tg sg (nI ss) rm ti py bu sm gz g1 g2 g3 g4 g5 (nI gc) (nI gfull) gx gway gav ggoal (nI gfound) 120 (nI gl) (nI gsz) g16 g17) (xg0__t ) sz)) (va_Qi (fun (r : Int32) (_ : Unit) => r = 0) (fun _ _ => True) (va_A [] sz)) 0 0 (va_A [] sz) := by
  refine Met.ofW (cc := cX8_isState) (maxL := 2) (ret := (some .boolean)) (by decide) rfl ?_
  intro p e s m args below meth c s₁ B hml hv
  obtain ⟨rfl, rfl, hP, hK, hD0⟩ := hv
  have hx := B.exec
  have hb := B.bytes
  have hr := B.returns
  have hts := atoms_spec (ws := vs_C_8_isState_0) B.pre
  have v_1 := hts (.fieldLink RX8 100 "ClockReach" "hasShown" "Z") (List.mem_cons_of_mem _ cm_445)
  have hown : s.vm.findClass RX8 = some m.cls := findClass_of_methodNamed B.named
  have hlocks := B.notSynchronized
  have hiX8 : ∀ w ∈ wsX80, w ∈ vs_C_8_isState_0 := fun _ h => List.mem_cons_of_mem _ (cm_X8 h)
  have hD := hD0
  have hA : ∀ q : Nat, s.heap.size ≤ q → va_A [] s.heap.size q := fun _ h => Or.inr h
  have hS : va_S (va_A [] s.heap.size) s.heap s.heap [] := va_S.rf
  have hl := lv_entry ([.ref xa, .int p0]) (n := 2) (Nat.le_of_ble_eq_true rfl)
  rw [lg_entry_eq]
  generalize (lg_sl ([.ref xa, .int p0]) ++ List.replicate (2 - (lg_sl ([.ref xa, .int p0])).length) Slot.unset).toArray = ls at hl ⊢
  have hl : lv_has ls 2 [(0, .ref xa), (1, .int p0)] := hl
  refine lv_aload_n hx hb eX8_isState_0 rfl (lv_at hl 0 rfl) ?_
  refine va_get (D := (dC, dI)) (ci := 8) (v := .int 0) (C := RX8) (T := TX8) (N := 16) hx hb hts hiX8 hown hK hP 0 rfl rfl 7 (by decide) v_1 (fun _ h9 => h9) rfl eX8_isState_1 ?_
  refine lv_if_eq (tgt := 26) hx hb eX8_isState_4 (by decide) (fun _ => ?_) (fun z => absurd z (by decide))
  refine lv_iconst (v := 0) hx hb eX8_isState_26 (by decide) ?_
  exact W.zret (v := 0) (ty := .boolean) hx hb hr (rfl) (fun t ht hW => ⟨⟨0, (), rfl, rfl, trivial⟩, hS.F ht⟩) hS.2.2 eX8_isState_27
theorem eX8_isStep_0 : decode cX8_isStep 0 = .ok (.aload_n 0, 1) := by decide +kernel
theorem eX8_isStep_1 : decode cX8_isStep 1 = .ok (.iload_n 1, 1) := by decide +kernel
theorem eX8_isStep_2 : decode cX8_isStep 2 = .ok (.invokevirtual 228, 3) := by decide +kernel
theorem eX8_isStep_5 : decode cX8_isStep 5 = .ok (.ifCond .eq 24, 3) := by decide +kernel
theorem eX8_isStep_29 : decode cX8_isStep 29 = .ok (.iconst 0, 1) := by decide +kernel
theorem eX8_isStep_30 : decode cX8_isStep 30 = .ok (.ireturn, 1) := by decide +kernel
abbrev vs_C_8_isStep_0 : List Cond := .code yX8_isStep cX8_isStep 3 (some .boolean) :: CM
theorem g_C_8_isStep_0_C_8_isState_0 : GoodIn vs_C_8_isStep_0 (wsV RX8 228 RX8 yX8_isState vs_C_8_isState_0) := cm_gV cm_537 cm_538 cm_539 cm_427 cm_530
set_option maxHeartbeats 4000000 in
set_option maxRecDepth 100000 in
theorem c_C_8_isStep_0 (l : Launch) (dC : Nat → ClassId) (dI : Nat → Nat → Nat) (sz : Nat) (xa : Nat) (xtape : Nat) (tp : Nat) (rd : Nat) (au : Nat) (xdr : Nat) (hy : Nat) (g : Nat) (tg : Nat) (sg : Nat) (ss : Nat) (rm : Nat) (ti : Nat) (py : Nat) (bu : Nat) (sm : Nat) (gz : Nat) (g1 : Nat) (g2 : Nat) (g3 : Nat) (g4 : Nat) (g5 : Nat) (gc : Nat) (gfull : Nat) (gx : Int32) (gway : Int32) (gav : Int32) (ggoal : Int32) (gfound : Nat) (gl : Nat) (gsz : Nat) (g16 : Nat) (g17 : Nat) (k_fs2 : ClassId) (fs2 : Nat → Int32) (k_fs3 : ClassId) (fs3 : Nat → Int32) (k_fs4 : ClassId) (fs4 : Nat → Int32) (p0 : Int32) (p1 : Int32) (htp : tp ≤ 900) (hss : ss ≤ 1) (hgc : gc ≤ 120) (hgfull : gfull ≤ 1) (hgfound : gfound ≤ 1) (hgl : gl ≤ 1) (hgsz : gsz ≤ 4) : Met l yX8_isStep vs_C_8_isStep_0 ({ frames := 1, cells := 0, slots := 0, locals := 21 }) (va_Pc [.ref xa, .int p0, .int p1] (pu_B (dC, dI) (xgl__w xa xtape (nI tp) rd au xdr hy g 0 tg sg (nI ss) rm ti py bu sm gz g1 g2 g3 g4 g5 (nI gc) (nI gfull) gx gway gav ggoal (nI gfound) 120 (nI gl) (nI gsz) g16 g17 k_fs2 fs2 k_fs3 fs3 k_fs4 fs4) (xgl__t k_fs2 k_fs3 k_fs4) sz)) (va_Qi (fun (r : Int32) (_ : Unit) => r = 0) (fun _ _ => True) (va_A [] sz)) 0 0 (va_A [] sz) := by
  refine Met.ofW (cc := cX8_isStep) (maxL := 3) (ret := (some .boolean)) (by decide) rfl ?_
  intro p e s m args below meth c s₁ B hml hv
  obtain ⟨rfl, rfl, hP, hK, hD0⟩ := hv
  have hx := B.exec
  have hb := B.bytes
  have hr := B.returns
  have hts := atoms_spec (ws := vs_C_8_isStep_0) B.pre
  have hown : s.vm.findClass RX8 = some m.cls := findClass_of_methodNamed B.named
  have hlocks := B.notSynchronized
  have hD := hD0
  have hA : ∀ q : Nat, s.heap.size ≤ q → va_A [] s.heap.size q := fun _ h => Or.inr h
  have hS : va_S (va_A [] s.heap.size) s.heap s.heap [] := va_S.rf
  have hl := lv_entry ([.ref xa, .int p0, .int p1]) (n := 3) (Nat.le_of_ble_eq_true rfl)
  rw [lg_entry_eq]
  generalize (lg_sl ([.ref xa, .int p0, .int p1]) ++ List.replicate (3 - (lg_sl ([.ref xa, .int p0, .int p1])).length) Slot.unset).toArray = ls at hl ⊢
  have hl : lv_has ls 3 [(0, .ref xa), (1, .int p0), (2, .int p1)] := hl
  refine lv_aload_n hx hb eX8_isStep_0 rfl (lv_at hl 0 rfl) ?_
  refine lv_iload_n hx hb eX8_isStep_1 rfl (lv_at hl 1 rfl) ?_
  have hPc : va_P (dC, dI) vwCl (xg0__w xa xtape (nI tp) rd au xdr hy g 0 tg sg (nI ss) rm ti py bu sm gz g1 g2 g3 g4 g5 (nI gc) (nI gfull) gx gway gav ggoal (nI gfound) 120 (nI gl) (nI gsz) g16 g17) _ := hP.sub [0, 1] rfl
  have hDc := hD.sub (ws' := (xg0__w xa xtape (nI tp) rd au xdr hy g 0 tg sg (nI ss) rm ti py bu sm gz g1 g2 g3 g4 g5 (nI gc) (nI gfull) gx gway gav ggoal (nI gfound) 120 (nI gl) (nI gsz) g16 g17)) [0, 1] (by decide) rfl
  have hKc : va_K (dC, dI) vwCl (xg0__t ) s := hK.sub [] rfl
  refine va_calli (va_runV (As := [.int p0]) (rest := []) ⟨hx, hb, hml, hown, hts⟩ (c_C_8_isState_0 l dC dI _ xa xtape tp rd au xdr hy g tg sg ss rm ti py bu sm gz g1 g2 g3 g4 g5 gc gfull gx gway gav ggoal gfound gl gsz g16 g17 p0 htp hss hgc hgfull hgfound hgl hgsz) (cwV 1 hts g_C_8_isStep_0_C_8_isState_0 rfl rfl rfl (by decide +kernel) ⟨Nat.le_of_ble_eq_true rfl, Nat.le_of_ble_eq_true rfl⟩) ⟨pu_bl, va_recv hK hP (ci := 8) (q0 := 0) rfl rfl, pu_in hPc hKc hDc⟩ rfl rfl hl.1 rfl (lv_room (Nat.le_of_ble_eq_true rfl)) eX8_isStep_2 ⟨Nat.le_of_ble_eq_true rfl, Nat.le_of_ble_eq_true rfl⟩) hS (fun q _ h => pu_fr hS hA q h) (pu_fr hS hA) (fun r_1 u t H1 locs ht hvm hw hB hz1 hk1 hS => ?_)
  have hP := pu_keep hP hk1
  clear hk1 hz1 ht hvm
  generalize H1 = H at hP hS ⊢
  obtain rfl : r_1 = 0 := hw
  refine lv_if_eq (tgt := 29) hx hb eX8_isStep_5 (by decide) (fun _ => ?_) (fun z => absurd z (by decide))
  refine lv_iconst (v := 0) hx hb eX8_isStep_29 (by decide) ?_
  exact W.zret (v := 0) (ty := .boolean) hx hb hr (rfl) (fun t ht hW => ⟨⟨0, (), rfl, rfl, trivial⟩, hS.F ht⟩) hS.2.2 eX8_isStep_30
theorem eX8_isStep_8 : decode cX8_isStep 8 = .ok (.iload_n 2, 1) := by decide +kernel
theorem eX8_isStep_9 : decode cX8_isStep 9 = .ok (.ifCond .lt 20, 3) := by decide +kernel
theorem eX8_isStep_12 : decode cX8_isStep 12 = .ok (.iload_n 2, 1) := by decide +kernel
theorem eX8_isStep_13 : decode cX8_isStep 13 = .ok (.aload_n 0, 1) := by decide +kernel
theorem eX8_isStep_14 : decode cX8_isStep 14 = .ok (.getfield 42, 3) := by decide +kernel
theorem eX8_isStep_17 : decode cX8_isStep 17 = .ok (.getfield 240, 3) := by decide +kernel
theorem eX8_isStep_20 : decode cX8_isStep 20 = .ok (.iload_n 1, 1) := by decide +kernel
theorem eX8_isStep_21 : decode cX8_isStep 21 = .ok (.iaload, 1) := by decide +kernel
theorem eX8_isStep_22 : decode cX8_isStep 22 = .ok (.if_icmp .ge 7, 3) := by decide +kernel
theorem eX8_isStep_25 : decode cX8_isStep 25 = .ok (.iconst 1, 1) := by decide +kernel
theorem eX8_isStep_26 : decode cX8_isStep 26 = .ok (.goto 4, 3) := by decide +kernel
abbrev vs_C_8_isStep : List Cond := .code yX8_isStep cX8_isStep 3 (some .boolean) :: CM
theorem g_C_8_isStep_C_8_isState : GoodIn vs_C_8_isStep (wsV RX8 228 RX8 yX8_isState vs_C_8_isState) := cm_gV cm_537 cm_538 cm_539 cm_427 cm_530
set_option maxHeartbeats 4000000 in
set_option maxRecDepth 100000 in
theorem c_C_8_isStep (l : Launch) (dC : Nat → ClassId) (dI : Nat → Nat → Nat) (sz : Nat) (xa : Nat) (xtape : Nat) (tp : Nat) (rd : Nat) (au : Nat) (xdr : Nat) (hy : Nat) (g : Nat) (hs : Nat) (tg : Nat) (sg : Nat) (ss : Nat) (rm : Nat) (ti : Nat) (py : Nat) (bu : Nat) (sm : Nat) (gz : Nat) (g1 : Nat) (g2 : Nat) (g3 : Nat) (g4 : Nat) (g5 : Nat) (gc : Nat) (gfull : Nat) (gx : Int32) (gway : Int32) (gav : Int32) (ggoal : Int32) (gfound : Nat) (gl : Nat) (gsz : Nat) (g16 : Nat) (g17 : Nat) (k_fs2 : ClassId) (fs2 : Nat → Int32) (k_fs3 : ClassId) (fs3 : Nat → Int32) (k_fs4 : ClassId) (fs4 : Nat → Int32) (p0 : Int32) (p1 : Int32) (htp : tp ≤ 900) (hhs : hs ≤ 1) (hss : ss ≤ 1) (hgc : gc ≤ 120) (hgfull : gfull ≤ 1) (hgfound : gfound ≤ 1) (hgl : gl ≤ 1) (hgsz : gsz ≤ 4) (hq0 : gz_ok gc fs2 fs3 fs4) : Met l yX8_isStep vs_C_8_isStep ({ frames := 1, cells := 0, slots := 0, locals := 21 }) (va_Pc [.ref xa, .int p0, .int p1] (pu_B (dC, dI) (xgl__w xa xtape (nI tp) rd au xdr hy g (nI hs) tg sg (nI ss) rm ti py bu sm gz g1 g2 g3 g4 g5 (nI gc) (nI gfull) gx gway gav ggoal (nI gfound) 120 (nI gl) (nI gsz) g16 g17 k_fs2 fs2 k_fs3 fs3 k_fs4 fs4) (xgl__t k_fs2 k_fs3 k_fs4) sz)) (va_Qi (fun (r : Int32) (_ : Unit) => (r = 1 ∧ ∃ q j : Nat, q < gc ∧ j ≤ 118 ∧ p0 = nI q ∧ p1 = nI j) ∨ r = 0) (fun _ _ => True) (va_A [] sz)) 0 0 (va_A [] sz) := by
  refine Met.ofW (cc := cX8_isStep) (maxL := 3) (ret := (some .boolean)) (by decide) rfl ?_
  intro p e s m args below meth c s₁ B hml hv
  obtain ⟨rfl, rfl, hP, hK, hD0⟩ := hv
  have hx := B.exec
  have hb := B.bytes
  have hr := B.returns
  have hts := atoms_spec (ws := vs_C_8_isStep) B.pre
  have v_6 := hts (.fieldLink RX8 42 "ClockReach" "shown" "LClockReach$Graph;") (List.mem_cons_of_mem _ cm_456)
  have v_7 := hts (.fieldLink RX8 240 "ClockReach$Graph" "depths" "[I") (List.mem_cons_of_mem _ cm_535)
  have hown : s.vm.findClass RX8 = some m.cls := findClass_of_methodNamed B.named
  have hlocks := B.notSynchronized
  have hiX1 : ∀ w ∈ wsX10, w ∈ vs_C_8_isStep := fun _ h => List.mem_cons_of_mem _ (cm_X1 h)
  have hiX8 : ∀ w ∈ wsX80, w ∈ vs_C_8_isStep := fun _ h => List.mem_cons_of_mem _ (cm_X8 h)
  have hD := hD0
  have hA : ∀ q : Nat, s.heap.size ≤ q → va_A [] s.heap.size q := fun _ h => Or.inr h
  have hS : va_S (va_A [] s.heap.size) s.heap s.heap [] := va_S.rf
  have hl := lv_entry ([.ref xa, .int p0, .int p1]) (n := 3) (Nat.le_of_ble_eq_true rfl)
  rw [lg_entry_eq]
  generalize (lg_sl ([.ref xa, .int p0, .int p1]) ++ List.replicate (3 - (lg_sl ([.ref xa, .int p0, .int p1])).length) Slot.unset).toArray = ls at hl ⊢
  have hl : lv_has ls 3 [(0, .ref xa), (1, .int p0), (2, .int p1)] := hl
  refine lv_aload_n hx hb eX8_isStep_0 rfl (lv_at hl 0 rfl) ?_
  refine lv_iload_n hx hb eX8_isStep_1 rfl (lv_at hl 1 rfl) ?_
  have hPc : va_P (dC, dI) vwCl (xg0__w xa xtape (nI tp) rd au xdr hy g (nI hs) tg sg (nI ss) rm ti py bu sm gz g1 g2 g3 g4 g5 (nI gc) (nI gfull) gx gway gav ggoal (nI gfound) 120 (nI gl) (nI gsz) g16 g17) _ := hP.sub [0, 1] rfl
  have hDc := hD.sub (ws' := (xg0__w xa xtape (nI tp) rd au xdr hy g (nI hs) tg sg (nI ss) rm ti py bu sm gz g1 g2 g3 g4 g5 (nI gc) (nI gfull) gx gway gav ggoal (nI gfound) 120 (nI gl) (nI gsz) g16 g17)) [0, 1] (by decide) rfl
  have hKc : va_K (dC, dI) vwCl (xg0__t ) s := hK.sub [] rfl
  refine va_calli (va_runV (As := [.int p0]) (rest := []) ⟨hx, hb, hml, hown, hts⟩ (c_C_8_isState l dC dI _ xa xtape tp rd au xdr hy g hs tg sg ss rm ti py bu sm gz g1 g2 g3 g4 g5 gc gfull gx gway gav ggoal gfound gl gsz g16 g17 p0 htp hhs hss hgc hgfull hgfound hgl hgsz) (cwV 1 hts g_C_8_isStep_C_8_isState rfl rfl rfl (by decide +kernel) ⟨Nat.le_of_ble_eq_true rfl, Nat.le_of_ble_eq_true rfl⟩) ⟨pu_bl, va_recv hK hP (ci := 8) (q0 := 0) rfl rfl, pu_in hPc hKc hDc⟩ rfl rfl hl.1 rfl (lv_room (Nat.le_of_ble_eq_true rfl)) eX8_isStep_2 ⟨Nat.le_of_ble_eq_true rfl, Nat.le_of_ble_eq_true rfl⟩) hS (fun q _ h => pu_fr hS hA q h) (pu_fr hS hA) (fun r_1 u t H1 locs ht hvm hw hB hz1 hk1 hS => ?_)
  have hP := pu_keep hP hk1
  clear hk1 hz1 ht hvm
  generalize H1 = H at hP hS ⊢
  rcases hw with ⟨rfl, hw⟩ | rfl
  · obtain ⟨n_2, hn_2, rfl⟩ := hw
    refine lv_if_eq (tgt := 29) hx hb eX8_isStep_5 (by decide) (fun z => absurd z (by decide)) (fun _ => ?_)
    refine lv_iload_n hx hb eX8_isStep_8 rfl (lv_at hl 2 rfl) ?_
    refine lv_if_lt (tgt := 29) hx hb eX8_isStep_9 (by decide) (fun c_3 => ?_) (fun c_3 => ?_)
    · refine lv_iconst (v := 0) hx hb eX8_isStep_29 (by decide) ?_
      exact W.zret (v := 0) (ty := .boolean) hx hb hr (rfl) (fun t ht hW => ⟨⟨0, (), rfl, Or.inr rfl, trivial⟩, hS.F ht⟩) hS.2.2 eX8_isStep_30
    · have lp1 : ¬ p1 < 0 := c_3
      refine lv_iload_n hx hb eX8_isStep_12 rfl (lv_at hl 2 rfl) ?_
      refine lv_aload_n hx hb eX8_isStep_13 rfl (lv_at hl 0 rfl) ?_
      refine va_get (D := (dC, dI)) (ci := 8) (v := .ref g) (C := RX8) (T := TX8) (N := 16) hx hb hts hiX8 hown hK hP 0 rfl rfl 6 (by decide) v_6 (fun _ h9 => h9) rfl eX8_isStep_14 ?_
      refine va_get (D := (dC, dI)) (ci := 1) (v := .ref g4) (C := RX1) (T := TX1) (N := 18) hx hb hts hiX1 hown hK hP 1 rfl rfl 4 (by decide) v_7 (fun _ h9 => h9) rfl eX8_isStep_17 ?_
      refine lv_iload_n hx hb eX8_isStep_20 rfl (lv_at hl 1 rfl) ?_
      obtain ⟨d_4, hd_4, fd_4, gd_4⟩ := gz_get hq0 (i := n_2) (by omega) (by omega)
      refine va_iald hx hb hK hP 4 2 rfl rfl (vp_in_nI (n := n_2) (by omega) (Nat.le_of_ble_eq_true rfl)) eX8_isStep_21 ?_
      refine lv_topi (fun y_5 ey_5 => ?_)
      obtain rfl : y_5 = nI d_4 := ey_5.trans fd_4
      refine lv_icmp_ge (tgt := 29) hx hb eX8_isStep_22 (by decide) (fun c_6 => ?_) (fun c_6 => ?_)
      · refine lv_iconst (v := 0) hx hb eX8_isStep_29 (by decide) ?_
        exact W.zret (v := 0) (ty := .boolean) hx hb hr (rfl) (fun t ht hW => ⟨⟨0, (), rfl, Or.inr rfl, trivial⟩, hS.F ht⟩) hS.2.2 eX8_isStep_30
      · obtain ⟨n_7, hn_7, rfl⟩ := pu_ult (b := d_4) (by omega) lp1 (Int32.not_le.mp c_6)
        refine lv_iconst (v := 1) hx hb eX8_isStep_25 (by decide) ?_
        refine lv_goto (tgt := 30) hx hb eX8_isStep_26 (by decide) ?_
        exact W.zret (v := 1) (ty := .boolean) hx hb hr (rfl) (fun t ht hW => ⟨⟨1, (), rfl, Or.inl ⟨rfl, n_2, n_7, by omega, by omega, rfl, rfl⟩, trivial⟩, hS.F ht⟩) hS.2.2 eX8_isStep_30
  · refine lv_if_eq (tgt := 29) hx hb eX8_isStep_5 (by decide) (fun _ => ?_) (fun z => absurd z (by decide))
    refine lv_iconst (v := 0) hx hb eX8_isStep_29 (by decide) ?_
    exact W.zret (v := 0) (ty := .boolean) hx hb hr (rfl) (fun t ht hW => ⟨⟨0, (), rfl, Or.inr rfl, trivial⟩, hS.F ht⟩) hS.2.2 eX8_isStep_30
theorem eX8_timesRun_0 : decode cX8_timesRun 0 = .ok (.aload_n 0, 1) := by decide +kernel
theorem eX8_timesRun_1 : decode cX8_timesRun 1 = .ok (.getfield 62, 3) := by decide +kernel
theorem eX8_timesRun_4 : decode cX8_timesRun 4 = .ok (.aload_n 0, 1) := by decide +kernel
theorem eX8_timesRun_5 : decode cX8_timesRun 5 = .ok (.getfield 42, 3) := by decide +kernel
theorem eX8_timesRun_8 : decode cX8_timesRun 8 = .ok (.iload_n 1, 1) := by decide +kernel
theorem eX8_timesRun_9 : decode cX8_timesRun 9 = .ok (.invokevirtual 323, 3) := by decide +kernel
theorem eX8_timesRun_12 : decode cX8_timesRun 12 = .ok (.aload_n 0, 1) := by decide +kernel
theorem eX8_timesRun_13 : decode cX8_timesRun 13 = .ok (.getfield 62, 3) := by decide +kernel
theorem eX8_timesRun_16 : decode cX8_timesRun 16 = .ok (.aload_n 0, 1) := by decide +kernel
theorem eX8_timesRun_17 : decode cX8_timesRun 17 = .ok (.getfield 23, 3) := by decide +kernel
theorem eX8_timesRun_20 : decode cX8_timesRun 20 = .ok (.invokevirtual 330, 3) := by decide +kernel
theorem eX8_timesRun_23 : decode cX8_timesRun 23 = .ok (.aload_n 0, 1) := by decide +kernel
theorem eX8_timesRun_24 : decode cX8_timesRun 24 = .ok (.getfield 62, 3) := by decide +kernel
theorem eX8_timesRun_27 : decode cX8_timesRun 27 = .ok (.invokevirtual 333, 3) := by decide +kernel
theorem eX8_timesRun_30 : decode cX8_timesRun 30 = .ok (.ireturn, 1) := by decide +kernel
abbrev vs_C_8_timesRun : List Cond := .code yX8_timesRun cX8_timesRun 2 (some .boolean) :: CM
theorem g_C_8_timesRun_C_6_loadRun : GoodIn vs_C_8_timesRun (wsV RX8 323 RX6 yX6_loadRun vs_C_6_loadRun) := cm_gV cm_606 cm_607 cm_608 cm_383 cm_364
theorem g_C_8_timesRun_C_6_layRules : GoodIn vs_C_8_timesRun (wsV RX8 330 RX6 yX6_layRules vs_C_6_layRules) := cm_gV cm_610 cm_611 cm_612 cm_383 cm_370
theorem g_C_8_timesRun_C_6_findsLeast : GoodIn vs_C_8_timesRun (wsV RX8 333 RX6 yX6_findsLeast vs_C_6_findsLeast) := cm_gV cm_613 cm_614 cm_615 cm_383 cm_399
set_option maxHeartbeats 4000000 in
set_option maxRecDepth 100000 in
theorem c_C_8_timesRun (l : Launch) (dC : Nat → ClassId) (dI : Nat → Nat → Nat) (sz : Nat) (xa : Nat) (xtape : Nat) (tp : Nat) (rd : Nat) (au : Nat) (xdr : Nat) (hy : Nat) (g : Nat) (hs : Nat) (tg : Nat) (sg : Nat) (ss : Nat) (rm : Nat) (ti : Nat) (py : Nat) (bu : Nat) (sm : Nat) (nc : Nat) (np : Nat) (ne : Nat) (st0 : Nat) (q4 : Nat) (q5 : Nat) (q6 : Nat) (q7 : Nat) (q8 : Nat) (q9 : Nat) (q10 : Nat) (q11 : Nat) (q12 : Nat) (q13 : Nat) (q14 : Nat) (q15 : Nat) (q16 : Nat) (k_f4 : ClassId) (f4 : Nat → Int32) (k_f5 : ClassId) (q_f5 : Nat → Nat) (k_f6 : ClassId) (q_f6 : Nat → Nat) (k_f7 : ClassId) (f7 : Nat → Int32) (k_f8 : ClassId) (q_f8 : Nat → Nat) (k_f9 : ClassId) (q_f9 : Nat → Nat) (k_f10 : ClassId) (f10 : Nat → Int32) (k_f11 : ClassId) (f11 : Nat → Int32) (k_f12 : ClassId) (f12 : Nat → Int32) (k_f13 : ClassId) (f13 : Nat → Int32) (k_f14 : ClassId) (f14 : Nat → Int32) (k_f15 : ClassId) (f15 : Nat → Int32) (k_f16 : ClassId) (f16 : Nat → Int32) (gz : Nat) (g1 : Nat) (g2 : Nat) (g3 : Nat) (g4 : Nat) (g5 : Nat) (gc : Nat) (gfull : Nat) (gx : Int32) (gway : Int32) (gav : Int32) (ggoal : Int32) (gfound : Nat) (gl : Nat) (gsz : Nat) (g16 : Nat) (g17 : Nat) (k_fs2 : ClassId) (fs2 : Nat → Int32) (k_fs3 : ClassId) (fs3 : Nat → Int32) (k_fs4 : ClassId) (fs4 : Nat → Int32) (r0 : Nat) (ln : Nat) (r2 : Nat) (r3 : Nat) (r4 : Nat) (r5 : Nat) (nr : Nat) (r7 : Nat) (r8 : Nat) (tz : Nat) (k_j0 : ClassId) (q_j0 : Nat → Nat) (k_j2 : ClassId) (j2 : Nat → Int32) (k_j3 : ClassId) (q_j3 : Nat → Nat) (k_j4 : ClassId) (q_j4 : Nat → Nat) (k_j5 : ClassId) (j5 : Nat → Int32) (k_j7 : ClassId) (q_j7 : Nat → Nat) (k_j8 : ClassId) (j8 : Nat → Int32) (a0 : Nat) (htp : tp ≤ 900) (hhs : hs ≤ 1) (hss : ss ≤ 1) (hnc : nc ≤ 3) (hnp : np ≤ 8) (hne : ne ≤ 14) (hst0 : st0 ≤ 7) (hgc : gc ≤ 120) (hgfull : gfull ≤ 1) (hgfound : gfound ≤ 1) (hgl : gl ≤ 1) (hgsz : gsz ≤ 4) (hln : ln ≤ 119) (hnr : nr ≤ 1920) (ha0 : a0 ≤ 119) (hq0 : gz_ok gc fs2 fs3 fs4) (hq1 : a0 < gc) : Met l yX8_timesRun vs_C_8_timesRun ({ frames := 3, cells := 0, slots := 0, locals := 74 }) (va_Pc [.ref xa, .int (nI a0)] (pu_B (dC, dI) (xti__w xa xtape (nI tp) rd au xdr hy g (nI hs) tg sg (nI ss) rm ti py bu sm (nI nc) (nI np) (nI ne) (nI st0) q4 q5 q6 q7 q8 q9 q10 q11 q12 q13 q14 q15 q16 k_f4 f4 k_f5 (bN 7 q_f5) k_f6 (bN 7 q_f6) k_f7 f7 k_f8 (bN 4 q_f8) k_f9 (bN 2 q_f9) k_f10 f10 k_f11 f11 k_f12 f12 k_f13 f13 k_f14 f14 k_f15 f15 k_f16 f16 gz g1 g2 g3 g4 g5 (nI gc) (nI gfull) gx gway gav ggoal (nI gfound) 120 (nI gl) (nI gsz) g16 g17 k_fs2 fs2 k_fs3 fs3 k_fs4 fs4 r0 (nI ln) r2 r3 r4 r5 (nI nr) r7 r8 tz k_j0 (bN 13 q_j0) k_j2 j2 k_j3 (bN 120 q_j3) k_j4 (bN 120 q_j4) k_j5 j5 k_j7 (bN 120 q_j7) k_j8 j8) (xti__t k_f4 k_f5 k_f6 k_f7 k_f8 k_f9 k_f10 k_f11 k_f12 k_f13 k_f14 k_f15 k_f16 k_fs2 k_fs3 k_fs4 k_j0 k_j2 k_j3 k_j4 k_j5 k_j7 k_j8) sz)) (va_Qi (fun (r : Int32) (_ : Unit) => ∃ v : Nat, v ≤ 1 ∧ r = nI v) (fun _ t => ∃ (z_j0 : Nat → Nat) (z_j2 : Nat → Int32) (z_j3 : Nat → Nat) (z_j4 : Nat → Nat) (z_j5 : Nat → Int32) (z_j7 : Nat → Nat) (z_ln : Nat) (z_nr : Nat), pu_E (dC, dI) (xti__w xa xtape (nI tp) rd au xdr hy g (nI hs) tg sg (nI ss) rm ti py bu sm (nI nc) (nI np) (nI ne) (nI st0) q4 q5 q6 q7 q8 q9 q10 q11 q12 q13 q14 q15 q16 k_f4 f4 k_f5 (bN 7 q_f5) k_f6 (bN 7 q_f6) k_f7 f7 k_f8 (bN 4 q_f8) k_f9 (bN 2 q_f9) k_f10 f10 k_f11 f11 k_f12 f12 k_f13 f13 k_f14 f14 k_f15 f15 k_f16 f16 gz g1 g2 g3 g4 g5 (nI gc) (nI gfull) gx gway gav ggoal (nI gfound) 120 (nI gl) (nI gsz) g16 g17 k_fs2 fs2 k_fs3 fs3 k_fs4 fs4 r0 (nI z_ln) r2 r3 r4 r5 (nI z_nr) r7 r8 tz k_j0 (bN 13 z_j0) k_j2 z_j2 k_j3 (bN 120 z_j3) k_j4 (bN 120 z_j4) k_j5 z_j5 k_j7 (bN 120 z_j7) k_j8 j8) (xti__t k_f4 k_f5 k_f6 k_f7 k_f8 k_f9 k_f10 k_f11 k_f12 k_f13 k_f14 k_f15 k_f16 k_fs2 k_fs3 k_fs4 k_j0 k_j2 k_j3 k_j4 k_j5 k_j7 k_j8) (va_A ((xti__w xa xtape (nI tp) rd au xdr hy g (nI hs) tg sg (nI ss) rm ti py bu sm (nI nc) (nI np) (nI ne) (nI st0) q4 q5 q6 q7 q8 q9 q10 q11 q12 q13 q14 q15 q16 k_f4 f4 k_f5 (bN 7 q_f5) k_f6 (bN 7 q_f6) k_f7 f7 k_f8 (bN 4 q_f8) k_f9 (bN 2 q_f9) k_f10 f10 k_f11 f11 k_f12 f12 k_f13 f13 k_f14 f14 k_f15 f15 k_f16 f16 gz g1 g2 g3 g4 g5 (nI gc) (nI gfull) gx gway gav ggoal (nI gfound) 120 (nI gl) (nI gsz) g16 g17 k_fs2 fs2 k_fs3 fs3 k_fs4 fs4 r0 (nI ln) r2 r3 r4 r5 (nI nr) r7 r8 tz k_j0 (bN 13 q_j0) k_j2 j2 k_j3 (bN 120 q_j3) k_j4 (bN 120 q_j4) k_j5 j5 k_j7 (bN 120 q_j7) k_j8 j8)) sz) t ∧ (z_ln ≤ 119) ∧ (z_nr ≤ 1920)) (va_A ((xti__w xa xtape (nI tp) rd au xdr hy g (nI hs) tg sg (nI ss) rm ti py bu sm (nI nc) (nI np) (nI ne) (nI st0) q4 q5 q6 q7 q8 q9 q10 q11 q12 q13 q14 q15 q16 k_f4 f4 k_f5 (bN 7 q_f5) k_f6 (bN 7 q_f6) k_f7 f7 k_f8 (bN 4 q_f8) k_f9 (bN 2 q_f9) k_f10 f10 k_f11 f11 k_f12 f12 k_f13 f13 k_f14 f14 k_f15 f15 k_f16 f16 gz g1 g2 g3 g4 g5 (nI gc) (nI gfull) gx gway gav ggoal (nI gfound) 120 (nI gl) (nI gsz) g16 g17 k_fs2 fs2 k_fs3 fs3 k_fs4 fs4 r0 (nI ln) r2 r3 r4 r5 (nI nr) r7 r8 tz k_j0 (bN 13 q_j0) k_j2 j2 k_j3 (bN 120 q_j3) k_j4 (bN 120 q_j4) k_j5 j5 k_j7 (bN 120 q_j7) k_j8 j8)) sz)) 0 0 (va_A ((xti__w xa xtape (nI tp) rd au xdr hy g (nI hs) tg sg (nI ss) rm ti py bu sm (nI nc) (nI np) (nI ne) (nI st0) q4 q5 q6 q7 q8 q9 q10 q11 q12 q13 q14 q15 q16 k_f4 f4 k_f5 (bN 7 q_f5) k_f6 (bN 7 q_f6) k_f7 f7 k_f8 (bN 4 q_f8) k_f9 (bN 2 q_f9) k_f10 f10 k_f11 f11 k_f12 f12 k_f13 f13 k_f14 f14 k_f15 f15 k_f16 f16 gz g1 g2 g3 g4 g5 (nI gc) (nI gfull) gx gway gav ggoal (nI gfound) 120 (nI gl) (nI gsz) g16 g17 k_fs2 fs2 k_fs3 fs3 k_fs4 fs4 r0 (nI ln) r2 r3 r4 r5 (nI nr) r7 r8 tz k_j0 (bN 13 q_j0) k_j2 j2 k_j3 (bN 120 q_j3) k_j4 (bN 120 q_j4) k_j5 j5 k_j7 (bN 120 q_j7) k_j8 j8)) sz) := by
  refine Met.ofW (cc := cX8_timesRun) (maxL := 2) (ret := (some .boolean)) (by decide) rfl ?_
  intro p e s m args below meth c s₁ B hml hv
  obtain ⟨rfl, rfl, hP, hK, hD0⟩ := hv
  have hx := B.exec
  have hb := B.bytes
  have hr := B.returns
  have hts := atoms_spec (ws := vs_C_8_timesRun) B.pre
  have v_1 := hts (.fieldLink RX8 62 "ClockReach" "timing" "LClockReach$Timing;") (List.mem_cons_of_mem _ cm_601)
  have v_2 := hts (.fieldLink RX8 42 "ClockReach" "shown" "LClockReach$Graph;") (List.mem_cons_of_mem _ cm_456)
  have v_8 := hts (.fieldLink RX8 23 "ClockReach" "model" "LClockReach$Automaton;") (List.mem_cons_of_mem _ cm_434)
  have hown : s.vm.findClass RX8 = some m.cls := findClass_of_methodNamed B.named
  have hlocks := B.notSynchronized
  have hiX8 : ∀ w ∈ wsX80, w ∈ vs_C_8_timesRun := fun _ h => List.mem_cons_of_mem _ (cm_X8 h)
  have hD := hD0.self (sz := s.heap.size)
  generalize hAe : va_A ((xti__w xa xtape (nI tp) rd au xdr hy g (nI hs) tg sg (nI ss) rm ti py bu sm (nI nc) (nI np) (nI ne) (nI st0) q4 q5 q6 q7 q8 q9 q10 q11 q12 q13 q14 q15 q16 k_f4 f4 k_f5 (bN 7 q_f5) k_f6 (bN 7 q_f6) k_f7 f7 k_f8 (bN 4 q_f8) k_f9 (bN 2 q_f9) k_f10 f10 k_f11 f11 k_f12 f12 k_f13 f13 k_f14 f14 k_f15 f15 k_f16 f16 gz g1 g2 g3 g4 g5 (nI gc) (nI gfull) gx gway gav ggoal (nI gfound) 120 (nI gl) (nI gsz) g16 g17 k_fs2 fs2 k_fs3 fs3 k_fs4 fs4 r0 (nI ln) r2 r3 r4 r5 (nI nr) r7 r8 tz k_j0 (bN 13 q_j0) k_j2 j2 k_j3 (bN 120 q_j3) k_j4 (bN 120 q_j4) k_j5 j5 k_j7 (bN 120 q_j7) k_j8 j8)) s.heap.size = A at hD ⊢
  have hA : ∀ q : Nat, s.heap.size ≤ q → A q := fun q h => by rw [← hAe]; exact Or.inr h
  have hS : va_S A s.heap s.heap [] := va_S.rf
  have hl := lv_entry ([.ref xa, .int (nI a0)]) (n := 2) (Nat.le_of_ble_eq_true rfl)
  rw [lg_entry_eq]
  generalize (lg_sl ([.ref xa, .int (nI a0)]) ++ List.replicate (2 - (lg_sl ([.ref xa, .int (nI a0)])).length) Slot.unset).toArray = ls at hl ⊢
  have hl : lv_has ls 2 [(0, .ref xa), (1, .int (nI a0))] := hl
  refine lv_aload_n hx hb eX8_timesRun_0 rfl (lv_at hl 0 rfl) ?_
  refine va_get (D := (dC, dI)) (ci := 8) (v := .ref ti) (C := RX8) (T := TX8) (N := 16) hx hb hts hiX8 hown hK hP 0 rfl rfl 12 (by decide) v_1 (fun _ h9 => h9) rfl eX8_timesRun_1 ?_
  refine lv_aload_n hx hb eX8_timesRun_4 rfl (lv_at hl 0 rfl) ?_
  refine va_get (D := (dC, dI)) (ci := 8) (v := .ref g) (C := RX8) (T := TX8) (N := 16) hx hb hts hiX8 hown hK hP 0 rfl rfl 6 (by decide) v_2 (fun _ h9 => h9) rfl eX8_timesRun_5 ?_
  refine lv_iload_n hx hb eX8_timesRun_8 rfl (lv_at hl 1 rfl) ?_
  have hPc : va_P (dC, dI) vwCl (tg__w ti r0 (nI ln) r2 r3 r4 r5 (nI nr) r7 r8 tz k_j0 (bN 13 q_j0) k_j2 j2 k_j3 (bN 120 q_j3) k_j4 (bN 120 q_j4) k_j5 j5 k_j7 (bN 120 q_j7) k_j8 j8 g gz g1 g2 g3 g4 g5 (nI gc) (nI gfull) gx gway gav ggoal (nI gfound) 120 (nI gl) (nI gsz) g16 g17 k_fs2 fs2 k_fs3 fs3 k_fs4 fs4) _ := hP.sub [19, 20, 21, 22, 23, 24, 25, 26, 15, 16, 17, 18] rfl
  have hDc := hD.sub (ws' := (tg__w ti r0 (nI ln) r2 r3 r4 r5 (nI nr) r7 r8 tz k_j0 (bN 13 q_j0) k_j2 j2 k_j3 (bN 120 q_j3) k_j4 (bN 120 q_j4) k_j5 j5 k_j7 (bN 120 q_j7) k_j8 j8 g gz g1 g2 g3 g4 g5 (nI gc) (nI gfull) gx gway gav ggoal (nI gfound) 120 (nI gl) (nI gsz) g16 g17 k_fs2 fs2 k_fs3 fs3 k_fs4 fs4)) [19, 20, 21, 22, 23, 24, 25, 26, 15, 16, 17, 18] (by decide) rfl
  have hKc : va_K (dC, dI) vwCl (tg__t k_j0 k_j2 k_j3 k_j4 k_j5 k_j7 k_j8 k_fs2 k_fs3 k_fs4) s := hK.sub [16, 17, 18, 19, 20, 21, 22, 13, 14, 15] rfl
  have hFc := pu_free hDc hS hA
  refine va_callv (va_runV (As := [.ref g, .int (nI a0)]) (rest := []) ⟨hx, hb, hml, hown, hts⟩ (c_C_6_loadRun l dC dI _ ti r0 ln r2 r3 r4 r5 nr r7 r8 tz k_j0 q_j0 k_j2 j2 k_j3 q_j3 k_j4 q_j4 k_j5 j5 k_j7 q_j7 k_j8 j8 g gz g1 g2 g3 g4 g5 gc gfull gx gway gav ggoal gfound gl gsz g16 g17 k_fs2 fs2 k_fs3 fs3 k_fs4 fs4 a0 hln hnr hgc hgfull hgfound hgl hgsz ha0 (by first | assumption | exact gz_0) (by omega)) (cwV 2 hts g_C_8_timesRun_C_6_loadRun rfl rfl rfl (by decide +kernel) ⟨Nat.le_of_ble_eq_true rfl, Nat.le_of_ble_eq_true rfl⟩) ⟨pu_bl, va_recv hK hP (ci := 6) (q0 := 19) rfl rfl, pu_in hPc hKc hDc⟩ rfl rfl hl.1 rfl (lv_room (Nat.le_of_ble_eq_true rfl)) eX8_timesRun_9 ⟨Nat.le_of_ble_eq_true rfl, Nat.le_of_ble_eq_true rfl⟩) hS (fun q _ h => hFc q h) hFc (fun u t H1 locs ht hvm hw hB hz1 hk1 hS => ?_)
  obtain ⟨z_j0_2, z_ln_3, ⟨hP1, -, hD1⟩, hz_ln_3⟩ := hB
  rw [ht] at hP1
  obtain ⟨hP, hD⟩ := pj_a (X := (xti__w xa xtape (nI tp) rd au xdr hy g (nI hs) tg sg (nI ss) rm ti py bu sm (nI nc) (nI np) (nI ne) (nI st0) q4 q5 q6 q7 q8 q9 q10 q11 q12 q13 q14 q15 q16 k_f4 f4 k_f5 (bN 7 q_f5) k_f6 (bN 7 q_f6) k_f7 f7 k_f8 (bN 4 q_f8) k_f9 (bN 2 q_f9) k_f10 f10 k_f11 f11 k_f12 f12 k_f13 f13 k_f14 f14 k_f15 f15 k_f16 f16 gz g1 g2 g3 g4 g5 (nI gc) (nI gfull) gx gway gav ggoal (nI gfound) 120 (nI gl) (nI gsz) g16 g17 k_fs2 fs2 k_fs3 fs3 k_fs4 fs4 r0 (nI ln) r2 r3 r4 r5 (nI nr) r7 r8 tz k_j0 (bN 13 q_j0) k_j2 j2 k_j3 (bN 120 q_j3) k_j4 (bN 120 q_j4) k_j5 j5 k_j7 (bN 120 q_j7) k_j8 j8)) (X' := (xti__w xa xtape (nI tp) rd au xdr hy g (nI hs) tg sg (nI ss) rm ti py bu sm (nI nc) (nI np) (nI ne) (nI st0) q4 q5 q6 q7 q8 q9 q10 q11 q12 q13 q14 q15 q16 k_f4 f4 k_f5 (bN 7 q_f5) k_f6 (bN 7 q_f6) k_f7 f7 k_f8 (bN 4 q_f8) k_f9 (bN 2 q_f9) k_f10 f10 k_f11 f11 k_f12 f12 k_f13 f13 k_f14 f14 k_f15 f15 k_f16 f16 gz g1 g2 g3 g4 g5 (nI gc) (nI gfull) gx gway gav ggoal (nI gfound) 120 (nI gl) (nI gsz) g16 g17 k_fs2 fs2 k_fs3 fs3 k_fs4 fs4 r0 (nI z_ln_3) r2 r3 r4 r5 (nI nr) r7 r8 tz k_j0 (bN 13 z_j0_2) k_j2 j2 k_j3 (bN 120 q_j3) k_j4 (bN 120 q_j4) k_j5 j5 k_j7 (bN 120 q_j7) k_j8 j8)) (wc := (tg__w ti r0 (nI ln) r2 r3 r4 r5 (nI nr) r7 r8 tz k_j0 (bN 13 q_j0) k_j2 j2 k_j3 (bN 120 q_j3) k_j4 (bN 120 q_j4) k_j5 j5 k_j7 (bN 120 q_j7) k_j8 j8 g gz g1 g2 g3 g4 g5 (nI gc) (nI gfull) gx gway gav ggoal (nI gfound) 120 (nI gl) (nI gsz) g16 g17 k_fs2 fs2 k_fs3 fs3 k_fs4 fs4)) (w1 := (tg__w ti r0 (nI z_ln_3) r2 r3 r4 r5 (nI nr) r7 r8 tz k_j0 (bN 13 z_j0_2) k_j2 j2 k_j3 (bN 120 q_j3) k_j4 (bN 120 q_j4) k_j5 j5 k_j7 (bN 120 q_j7) k_j8 j8 g gz g1 g2 g3 g4 g5 (nI gc) (nI gfull) gx gway gav ggoal (nI gfound) 120 (nI gl) (nI gsz) g16 g17 k_fs2 fs2 k_fs3 fs3 k_fs4 fs4)) hP hD [19, 20, 21, 22, 23, 24, 25, 26, 15, 16, 17, 18] [12, 13, 14, 15, 16, 17, 18, 19, 20, 21, 22, 23, 24, 25, 26, 8, 9, 10, 11, 0, 1, 2, 3, 4, 5, 6, 7] 12 rfl hk1 hP1 rfl rfl rfl (by decide)
  clear hP1 hD1 hFc hPc hDc hKc
  clear hk1 hz1 ht hvm
  generalize H1 = H at hP hS ⊢
  refine lv_aload_n hx hb eX8_timesRun_12 rfl (lv_at hl 0 rfl) ?_
  refine va_get (D := (dC, dI)) (ci := 8) (v := .ref ti) (C := RX8) (T := TX8) (N := 16) hx hb hts hiX8 hown hK hP 0 rfl rfl 12 (by decide) v_1 (fun _ h9 => h9) rfl eX8_timesRun_13 ?_
  refine lv_aload_n hx hb eX8_timesRun_16 rfl (lv_at hl 0 rfl) ?_
  refine va_get (D := (dC, dI)) (ci := 8) (v := .ref au) (C := RX8) (T := TX8) (N := 16) hx hb hts hiX8 hown hK hP 0 rfl rfl 3 (by decide) v_8 (fun _ h9 => h9) rfl eX8_timesRun_17 ?_
  have hPc : va_P (dC, dI) vwCl (ta__w ti r0 (nI z_ln_3) r2 r3 r4 r5 (nI nr) r7 r8 tz k_j0 (bN 13 z_j0_2) k_j2 j2 k_j3 (bN 120 q_j3) k_j4 (bN 120 q_j4) k_j5 j5 k_j7 (bN 120 q_j7) k_j8 j8 au (nI nc) (nI np) (nI ne) (nI st0) q4 q5 q6 q7 q8 q9 q10 q11 q12 q13 q14 q15 q16 k_f4 f4 k_f5 (bN 7 q_f5) k_f6 (bN 7 q_f6) k_f7 f7 k_f8 (bN 4 q_f8) k_f9 (bN 2 q_f9) k_f10 f10 k_f11 f11 k_f12 f12 k_f13 f13 k_f14 f14 k_f15 f15 k_f16 f16) _ := hP.sub [19, 20, 21, 22, 23, 24, 25, 26, 1, 2, 3, 4, 5, 6, 7, 8, 9, 10, 11, 12, 13, 14] rfl
  have hDc := hD.sub (ws' := (ta__w ti r0 (nI z_ln_3) r2 r3 r4 r5 (nI nr) r7 r8 tz k_j0 (bN 13 z_j0_2) k_j2 j2 k_j3 (bN 120 q_j3) k_j4 (bN 120 q_j4) k_j5 j5 k_j7 (bN 120 q_j7) k_j8 j8 au (nI nc) (nI np) (nI ne) (nI st0) q4 q5 q6 q7 q8 q9 q10 q11 q12 q13 q14 q15 q16 k_f4 f4 k_f5 (bN 7 q_f5) k_f6 (bN 7 q_f6) k_f7 f7 k_f8 (bN 4 q_f8) k_f9 (bN 2 q_f9) k_f10 f10 k_f11 f11 k_f12 f12 k_f13 f13 k_f14 f14 k_f15 f15 k_f16 f16)) [19, 20, 21, 22, 23, 24, 25, 26, 1, 2, 3, 4, 5, 6, 7, 8, 9, 10, 11, 12, 13, 14] (by decide) rfl
  have hKc : va_K (dC, dI) vwCl (ta__t k_j0 k_j2 k_j3 k_j4 k_j5 k_j7 k_j8 k_f4 k_f5 k_f6 k_f7 k_f8 k_f9 k_f10 k_f11 k_f12 k_f13 k_f14 k_f15 k_f16) s := hK.sub [16, 17, 18, 19, 20, 21, 22, 0, 1, 2, 3, 4, 5, 6, 7, 8, 9, 10, 11, 12] rfl
  have hFc := pu_free hDc hS hA
  refine va_callv (va_runV (As := [.ref au]) (rest := []) ⟨hx, hb, hml, hown, hts⟩ (c_C_6_layRules l dC dI _ ti r0 z_ln_3 r2 r3 r4 r5 nr r7 r8 tz k_j0 z_j0_2 k_j2 j2 k_j3 q_j3 k_j4 q_j4 k_j5 j5 k_j7 q_j7 k_j8 j8 au nc np ne st0 q4 q5 q6 q7 q8 q9 q10 q11 q12 q13 q14 q15 q16 k_f4 f4 k_f5 q_f5 k_f6 q_f6 k_f7 f7 k_f8 q_f8 k_f9 q_f9 k_f10 f10 k_f11 f11 k_f12 f12 k_f13 f13 k_f14 f14 k_f15 f15 k_f16 f16 hz_ln_3 hnr hnc hnp hne hst0) (cwV 1 hts g_C_8_timesRun_C_6_layRules rfl rfl rfl (by decide +kernel) ⟨Nat.le_of_ble_eq_true rfl, Nat.le_of_ble_eq_true rfl⟩) ⟨pu_bl, va_recv hK hP (ci := 6) (q0 := 19) rfl rfl, pu_in hPc hKc hDc⟩ rfl rfl hl.1 rfl (lv_room (Nat.le_of_ble_eq_true rfl)) eX8_timesRun_20 ⟨Nat.le_of_ble_eq_true rfl, Nat.le_of_ble_eq_true rfl⟩) hS (fun q _ h => hFc q h) hFc (fun u t H1 locs ht hvm hw hB hz1 hk1 hS => ?_)
  obtain ⟨z_j3_5, z_j4_6, z_j5_7, z_j7_8, z_nr_9, ⟨hP1, -, hD1⟩, hz_nr_9⟩ := hB
  rw [ht] at hP1
  obtain ⟨hP, hD⟩ := pj_a (X := (xti__w xa xtape (nI tp) rd au xdr hy g (nI hs) tg sg (nI ss) rm ti py bu sm (nI nc) (nI np) (nI ne) (nI st0) q4 q5 q6 q7 q8 q9 q10 q11 q12 q13 q14 q15 q16 k_f4 f4 k_f5 (bN 7 q_f5) k_f6 (bN 7 q_f6) k_f7 f7 k_f8 (bN 4 q_f8) k_f9 (bN 2 q_f9) k_f10 f10 k_f11 f11 k_f12 f12 k_f13 f13 k_f14 f14 k_f15 f15 k_f16 f16 gz g1 g2 g3 g4 g5 (nI gc) (nI gfull) gx gway gav ggoal (nI gfound) 120 (nI gl) (nI gsz) g16 g17 k_fs2 fs2 k_fs3 fs3 k_fs4 fs4 r0 (nI z_ln_3) r2 r3 r4 r5 (nI nr) r7 r8 tz k_j0 (bN 13 z_j0_2) k_j2 j2 k_j3 (bN 120 q_j3) k_j4 (bN 120 q_j4) k_j5 j5 k_j7 (bN 120 q_j7) k_j8 j8)) (X' := (xti__w xa xtape (nI tp) rd au xdr hy g (nI hs) tg sg (nI ss) rm ti py bu sm (nI nc) (nI np) (nI ne) (nI st0) q4 q5 q6 q7 q8 q9 q10 q11 q12 q13 q14 q15 q16 k_f4 f4 k_f5 (bN 7 q_f5) k_f6 (bN 7 q_f6) k_f7 f7 k_f8 (bN 4 q_f8) k_f9 (bN 2 q_f9) k_f10 f10 k_f11 f11 k_f12 f12 k_f13 f13 k_f14 f14 k_f15 f15 k_f16 f16 gz g1 g2 g3 g4 g5 (nI gc) (nI gfull) gx gway gav ggoal (nI gfound) 120 (nI gl) (nI gsz) g16 g17 k_fs2 fs2 k_fs3 fs3 k_fs4 fs4 r0 (nI z_ln_3) r2 r3 r4 r5 (nI z_nr_9) r7 r8 tz k_j0 (bN 13 z_j0_2) k_j2 j2 k_j3 (bN 120 z_j3_5) k_j4 (bN 120 z_j4_6) k_j5 z_j5_7 k_j7 (bN 120 z_j7_8) k_j8 j8)) (wc := (ta__w ti r0 (nI z_ln_3) r2 r3 r4 r5 (nI nr) r7 r8 tz k_j0 (bN 13 z_j0_2) k_j2 j2 k_j3 (bN 120 q_j3) k_j4 (bN 120 q_j4) k_j5 j5 k_j7 (bN 120 q_j7) k_j8 j8 au (nI nc) (nI np) (nI ne) (nI st0) q4 q5 q6 q7 q8 q9 q10 q11 q12 q13 q14 q15 q16 k_f4 f4 k_f5 (bN 7 q_f5) k_f6 (bN 7 q_f6) k_f7 f7 k_f8 (bN 4 q_f8) k_f9 (bN 2 q_f9) k_f10 f10 k_f11 f11 k_f12 f12 k_f13 f13 k_f14 f14 k_f15 f15 k_f16 f16)) (w1 := (ta__w ti r0 (nI z_ln_3) r2 r3 r4 r5 (nI z_nr_9) r7 r8 tz k_j0 (bN 13 z_j0_2) k_j2 j2 k_j3 (bN 120 z_j3_5) k_j4 (bN 120 z_j4_6) k_j5 z_j5_7 k_j7 (bN 120 z_j7_8) k_j8 j8 au (nI nc) (nI np) (nI ne) (nI st0) q4 q5 q6 q7 q8 q9 q10 q11 q12 q13 q14 q15 q16 k_f4 f4 k_f5 (bN 7 q_f5) k_f6 (bN 7 q_f6) k_f7 f7 k_f8 (bN 4 q_f8) k_f9 (bN 2 q_f9) k_f10 f10 k_f11 f11 k_f12 f12 k_f13 f13 k_f14 f14 k_f15 f15 k_f16 f16)) hP hD [19, 20, 21, 22, 23, 24, 25, 26, 1, 2, 3, 4, 5, 6, 7, 8, 9, 10, 11, 12, 13, 14] [22, 8, 9, 10, 11, 12, 13, 14, 15, 16, 17, 18, 19, 20, 21, 37, 38, 39, 40, 0, 1, 2, 3, 4, 5, 6, 7] 22 rfl hk1 hP1 rfl rfl rfl (by decide)
  clear hP1 hD1 hFc hPc hDc hKc
  clear hk1 hz1 ht hvm
  generalize H1 = H at hP hS ⊢
  refine lv_aload_n hx hb eX8_timesRun_23 rfl (lv_at hl 0 rfl) ?_
  refine va_get (D := (dC, dI)) (ci := 8) (v := .ref ti) (C := RX8) (T := TX8) (N := 16) hx hb hts hiX8 hown hK hP 0 rfl rfl 12 (by decide) v_1 (fun _ h9 => h9) rfl eX8_timesRun_24 ?_
  have hPc : va_P (dC, dI) vwCl (ti__w ti r0 (nI z_ln_3) r2 r3 r4 r5 (nI z_nr_9) r7 r8 tz k_j0 (bN 13 z_j0_2) k_j2 j2 k_j3 (bN 120 z_j3_5) k_j4 (bN 120 z_j4_6) k_j5 z_j5_7 k_j7 (bN 120 z_j7_8) k_j8 j8) _ := hP.sub [19, 20, 21, 22, 23, 24, 25, 26] rfl
  have hDc := hD.sub (ws' := (ti__w ti r0 (nI z_ln_3) r2 r3 r4 r5 (nI z_nr_9) r7 r8 tz k_j0 (bN 13 z_j0_2) k_j2 j2 k_j3 (bN 120 z_j3_5) k_j4 (bN 120 z_j4_6) k_j5 z_j5_7 k_j7 (bN 120 z_j7_8) k_j8 j8)) [19, 20, 21, 22, 23, 24, 25, 26] (by decide) rfl
  have hKc : va_K (dC, dI) vwCl (ti__t k_j0 k_j2 k_j3 k_j4 k_j5 k_j7 k_j8) s := hK.sub [16, 17, 18, 19, 20, 21, 22] rfl
  have hFc := pu_free hDc hS hA
  refine va_calli (va_runV (As := []) (rest := []) ⟨hx, hb, hml, hown, hts⟩ (c_C_6_findsLeast l dC dI _ ti r0 z_ln_3 r2 r3 r4 r5 z_nr_9 r7 r8 tz k_j0 z_j0_2 k_j2 j2 k_j3 z_j3_5 k_j4 z_j4_6 k_j5 z_j5_7 k_j7 z_j7_8 k_j8 j8 hz_ln_3 hz_nr_9) (cwV 0 hts g_C_8_timesRun_C_6_findsLeast rfl rfl rfl (by decide +kernel) ⟨Nat.le_of_ble_eq_true rfl, Nat.le_of_ble_eq_true rfl⟩) ⟨pu_bl, va_recv hK hP (ci := 6) (q0 := 19) rfl rfl, pu_in hPc hKc hDc⟩ rfl rfl hl.1 rfl (lv_room (Nat.le_of_ble_eq_true rfl)) eX8_timesRun_27 ⟨Nat.le_of_ble_eq_true rfl, Nat.le_of_ble_eq_true rfl⟩) hS (fun q _ h => hFc q h) hFc (fun r_10 u t H1 locs ht hvm hw hB hz1 hk1 hS => ?_)
  obtain ⟨z_j2_11, ⟨hP1, -, hD1⟩⟩ := hB
  rw [ht] at hP1
  obtain ⟨hP, hD⟩ := pj_a (X := (xti__w xa xtape (nI tp) rd au xdr hy g (nI hs) tg sg (nI ss) rm ti py bu sm (nI nc) (nI np) (nI ne) (nI st0) q4 q5 q6 q7 q8 q9 q10 q11 q12 q13 q14 q15 q16 k_f4 f4 k_f5 (bN 7 q_f5) k_f6 (bN 7 q_f6) k_f7 f7 k_f8 (bN 4 q_f8) k_f9 (bN 2 q_f9) k_f10 f10 k_f11 f11 k_f12 f12 k_f13 f13 k_f14 f14 k_f15 f15 k_f16 f16 gz g1 g2 g3 g4 g5 (nI gc) (nI gfull) gx gway gav ggoal (nI gfound) 120 (nI gl) (nI gsz) g16 g17 k_fs2 fs2 k_fs3 fs3 k_fs4 fs4 r0 (nI z_ln_3) r2 r3 r4 r5 (nI z_nr_9) r7 r8 tz k_j0 (bN 13 z_j0_2) k_j2 j2 k_j3 (bN 120 z_j3_5) k_j4 (bN 120 z_j4_6) k_j5 z_j5_7 k_j7 (bN 120 z_j7_8) k_j8 j8)) (X' := (xti__w xa xtape (nI tp) rd au xdr hy g (nI hs) tg sg (nI ss) rm ti py bu sm (nI nc) (nI np) (nI ne) (nI st0) q4 q5 q6 q7 q8 q9 q10 q11 q12 q13 q14 q15 q16 k_f4 f4 k_f5 (bN 7 q_f5) k_f6 (bN 7 q_f6) k_f7 f7 k_f8 (bN 4 q_f8) k_f9 (bN 2 q_f9) k_f10 f10 k_f11 f11 k_f12 f12 k_f13 f13 k_f14 f14 k_f15 f15 k_f16 f16 gz g1 g2 g3 g4 g5 (nI gc) (nI gfull) gx gway gav ggoal (nI gfound) 120 (nI gl) (nI gsz) g16 g17 k_fs2 fs2 k_fs3 fs3 k_fs4 fs4 r0 (nI z_ln_3) r2 r3 r4 r5 (nI z_nr_9) r7 r8 tz k_j0 (bN 13 z_j0_2) k_j2 z_j2_11 k_j3 (bN 120 z_j3_5) k_j4 (bN 120 z_j4_6) k_j5 z_j5_7 k_j7 (bN 120 z_j7_8) k_j8 j8)) (wc := (ti__w ti r0 (nI z_ln_3) r2 r3 r4 r5 (nI z_nr_9) r7 r8 tz k_j0 (bN 13 z_j0_2) k_j2 j2 k_j3 (bN 120 z_j3_5) k_j4 (bN 120 z_j4_6) k_j5 z_j5_7 k_j7 (bN 120 z_j7_8) k_j8 j8)) (w1 := (ti__w ti r0 (nI z_ln_3) r2 r3 r4 r5 (nI z_nr_9) r7 r8 tz k_j0 (bN 13 z_j0_2) k_j2 z_j2_11 k_j3 (bN 120 z_j3_5) k_j4 (bN 120 z_j4_6) k_j5 z_j5_7 k_j7 (bN 120 z_j7_8) k_j8 j8)) hP hD [19, 20, 21, 22, 23, 24, 25, 26] [8, 9, 10, 11, 12, 13, 14, 15, 16, 17, 18, 19, 20, 21, 22, 23, 24, 25, 26, 0, 1, 2, 3, 4, 5, 6, 7] 8 rfl hk1 hP1 rfl rfl rfl (by decide)
  clear hP1 hD1 hFc hPc hDc hKc
  clear hk1 hz1 ht hvm
  generalize H1 = H at hP hS ⊢
  obtain ⟨u_12, hu_12, rfl⟩ := hw
  exact W.zret (v := (nI u_12)) (ty := .boolean) hx hb hr (pu_nz (pu_b1 (n := u_12) (by omega))) (fun t ht hW => ⟨⟨(nI u_12), (), rfl, ⟨u_12, hu_12, rfl⟩, ⟨z_j0_2, z_j2_11, z_j3_5, z_j4_6, z_j5_7, z_j7_8, z_ln_3, z_nr_9, ⟨by rw [ht]; exact hP, va_K.moved hW.alike hK, hD⟩, hz_ln_3, hz_nr_9⟩⟩, hS.F ht⟩) hS.2.2 eX8_timesRun_30
theorem eX8_run_0 : decode cX8_run 0 = .ok (.aload_n 0, 1) := by decide +kernel
theorem eX8_run_1 : decode cX8_run 1 = .ok (.iload_n 1, 1) := by decide +kernel
theorem eX8_run_2 : decode cX8_run 2 = .ok (.iload_n 2, 1) := by decide +kernel
theorem eX8_run_3 : decode cX8_run 3 = .ok (.invokevirtual 320, 3) := by decide +kernel
theorem eX8_run_6 : decode cX8_run 6 = .ok (.ifCond .ne 5, 3) := by decide +kernel
theorem eX8_run_9 : decode cX8_run 9 = .ok (.iconst (-1), 1) := by decide +kernel
theorem eX8_run_10 : decode cX8_run 10 = .ok (.ireturn, 1) := by decide +kernel
abbrev vs_C_8_run_0 : List Cond := .code yX8_run cX8_run 3 (some .int) :: CM
theorem g_C_8_run_0_C_8_isStep_0 : GoodIn vs_C_8_run_0 (wsV RX8 320 RX8 yX8_isStep vs_C_8_isStep_0) := cm_gV cm_603 cm_604 cm_605 cm_427 cm_599
set_option maxHeartbeats 4000000 in
set_option maxRecDepth 100000 in
theorem c_C_8_run_0 (l : Launch) (dC : Nat → ClassId) (dI : Nat → Nat → Nat) (sz : Nat) (xa : Nat) (xtape : Nat) (tp : Nat) (rd : Nat) (au : Nat) (xdr : Nat) (hy : Nat) (g : Nat) (tg : Nat) (sg : Nat) (rm : Nat) (ti : Nat) (py : Nat) (bu : Nat) (sm : Nat) (nc : Nat) (ne : Nat) (st0 : Int32) (q4 : Nat) (q5 : Nat) (q6 : Nat) (q7 : Nat) (q8 : Nat) (q9 : Nat) (q10 : Nat) (q11 : Nat) (q12 : Nat) (q13 : Nat) (q14 : Nat) (q15 : Nat) (q16 : Nat) (k_f4 : ClassId) (f4 : Nat → Int32) (k_f5 : ClassId) (q_f5 : Nat → Nat) (k_f6 : ClassId) (q_f6 : Nat → Nat) (k_f7 : ClassId) (f7 : Nat → Int32) (k_f8 : ClassId) (q_f8 : Nat → Nat) (k_f9 : ClassId) (q_f9 : Nat → Nat) (k_f10 : ClassId) (f10 : Nat → Int32) (k_f11 : ClassId) (f11 : Nat → Int32) (k_f12 : ClassId) (f12 : Nat → Int32) (k_f13 : ClassId) (f13 : Nat → Int32) (k_f14 : ClassId) (f14 : Nat → Int32) (k_f15 : ClassId) (f15 : Nat → Int32) (k_f16 : ClassId) (f16 : Nat → Int32) (gz : Nat) (g1 : Nat) (g2 : Nat) (g3 : Nat) (g4 : Nat) (g5 : Nat) (gc : Nat) (gfull : Nat) (gx : Int32) (gway : Int32) (gav : Int32) (ggoal : Int32) (gfound : Nat) (gl : Nat) (gsz : Nat) (g16 : Nat) (g17 : Nat) (k_fs2 : ClassId) (fs2 : Nat → Int32) (k_fs3 : ClassId) (fs3 : Nat → Int32) (k_fs4 : ClassId) (fs4 : Nat → Int32) (r0 : Nat) (ln : Nat) (r2 : Nat) (r3 : Nat) (r4 : Nat) (r5 : Nat) (nr : Nat) (r7 : Nat) (r8 : Nat) (tz : Nat) (k_j0 : ClassId) (q_j0 : Nat → Nat) (k_j2 : ClassId) (j2 : Nat → Int32) (k_j3 : ClassId) (q_j3 : Nat → Nat) (k_j4 : ClassId) (q_j4 : Nat → Nat) (k_j5 : ClassId) (j5 : Nat → Int32) (k_j7 : ClassId) (q_j7 : Nat → Nat) (k_j8 : ClassId) (j8 : Nat → Int32) (p0 : Int32) (p1 : Int32) (htp : tp ≤ 900) (hnc : nc ≤ 3) (hne : ne ≤ 14) (hst0 : pm1 7 st0) (hgc : gc ≤ 120) (hgfull : gfull ≤ 1) (hgfound : gfound ≤ 1) (hgl : gl ≤ 1) (hgsz : gsz ≤ 4) (hln : ln ≤ 119) (hnr : nr ≤ 1920) : Met l yX8_run vs_C_8_run_0 ({ frames := 2, cells := 0, slots := 0, locals := 43 }) (va_Pc [.ref xa, .int p0, .int p1] (pu_B (dC, dI) (xti__w xa xtape (nI tp) rd au xdr hy g 0 tg sg 0 rm ti py bu sm (nI nc) 0 (nI ne) st0 q4 q5 q6 q7 q8 q9 q10 q11 q12 q13 q14 q15 q16 k_f4 f4 k_f5 (bN 7 q_f5) k_f6 (bN 7 q_f6) k_f7 f7 k_f8 (bN 4 q_f8) k_f9 (bN 2 q_f9) k_f10 f10 k_f11 f11 k_f12 f12 k_f13 f13 k_f14 f14 k_f15 f15 k_f16 f16 gz g1 g2 g3 g4 g5 (nI gc) (nI gfull) gx gway gav ggoal (nI gfound) 120 (nI gl) (nI gsz) g16 g17 k_fs2 fs2 k_fs3 fs3 k_fs4 fs4 r0 (nI ln) r2 r3 r4 r5 (nI nr) r7 r8 tz k_j0 (bN 13 q_j0) k_j2 j2 k_j3 (bN 120 q_j3) k_j4 (bN 120 q_j4) k_j5 j5 k_j7 (bN 120 q_j7) k_j8 j8) (xti__t k_f4 k_f5 k_f6 k_f7 k_f8 k_f9 k_f10 k_f11 k_f12 k_f13 k_f14 k_f15 k_f16 k_fs2 k_fs3 k_fs4 k_j0 k_j2 k_j3 k_j4 k_j5 k_j7 k_j8) sz)) (va_Qi (fun (r : Int32) (_ : Unit) => True) (fun _ _ => True) (va_A [] sz)) 0 0 (va_A [] sz) := by
  refine Met.ofW (cc := cX8_run) (maxL := 3) (ret := (some .int)) (by decide) rfl ?_
  intro p e s m args below meth c s₁ B hml hv
  obtain ⟨rfl, rfl, hP, hK, hD0⟩ := hv
  have hx := B.exec
  have hb := B.bytes
  have hr := B.returns
  have hts := atoms_spec (ws := vs_C_8_run_0) B.pre
  have hown : s.vm.findClass RX8 = some m.cls := findClass_of_methodNamed B.named
  have hlocks := B.notSynchronized
  have hD := hD0
  have hA : ∀ q : Nat, s.heap.size ≤ q → va_A [] s.heap.size q := fun _ h => Or.inr h
  have hS : va_S (va_A [] s.heap.size) s.heap s.heap [] := va_S.rf
  have hl := lv_entry ([.ref xa, .int p0, .int p1]) (n := 3) (Nat.le_of_ble_eq_true rfl)
  rw [lg_entry_eq]
  generalize (lg_sl ([.ref xa, .int p0, .int p1]) ++ List.replicate (3 - (lg_sl ([.ref xa, .int p0, .int p1])).length) Slot.unset).toArray = ls at hl ⊢
  have hl : lv_has ls 3 [(0, .ref xa), (1, .int p0), (2, .int p1)] := hl
  refine lv_aload_n hx hb eX8_run_0 rfl (lv_at hl 0 rfl) ?_
  refine lv_iload_n hx hb eX8_run_1 rfl (lv_at hl 1 rfl) ?_
  refine lv_iload_n hx hb eX8_run_2 rfl (lv_at hl 2 rfl) ?_
  have hPc : va_P (dC, dI) vwCl (xgl__w xa xtape (nI tp) rd au xdr hy g 0 tg sg 0 rm ti py bu sm gz g1 g2 g3 g4 g5 (nI gc) (nI gfull) gx gway gav ggoal (nI gfound) 120 (nI gl) (nI gsz) g16 g17 k_fs2 fs2 k_fs3 fs3 k_fs4 fs4) _ := hP.sub [0, 15, 16, 17, 18] rfl
  have hDc := hD.sub (ws' := (xgl__w xa xtape (nI tp) rd au xdr hy g 0 tg sg 0 rm ti py bu sm gz g1 g2 g3 g4 g5 (nI gc) (nI gfull) gx gway gav ggoal (nI gfound) 120 (nI gl) (nI gsz) g16 g17 k_fs2 fs2 k_fs3 fs3 k_fs4 fs4)) [0, 15, 16, 17, 18] (by decide) rfl
  have hKc : va_K (dC, dI) vwCl (xgl__t k_fs2 k_fs3 k_fs4) s := hK.sub [13, 14, 15] rfl
  refine va_calli (va_runV (As := [.int p0, .int p1]) (rest := []) ⟨hx, hb, hml, hown, hts⟩ (c_C_8_isStep_0 l dC dI _ xa xtape tp rd au xdr hy g tg sg 0 rm ti py bu sm gz g1 g2 g3 g4 g5 gc gfull gx gway gav ggoal gfound gl gsz g16 g17 k_fs2 fs2 k_fs3 fs3 k_fs4 fs4 p0 p1 htp (Nat.le_of_ble_eq_true rfl) hgc hgfull hgfound hgl hgsz) (cwV 2 hts g_C_8_run_0_C_8_isStep_0 rfl rfl rfl (by decide +kernel) ⟨Nat.le_of_ble_eq_true rfl, Nat.le_of_ble_eq_true rfl⟩) ⟨pu_bl, va_recv hK hP (ci := 8) (q0 := 0) rfl rfl, pu_in hPc hKc hDc⟩ rfl rfl hl.1 rfl (lv_room (Nat.le_of_ble_eq_true rfl)) eX8_run_3 ⟨Nat.le_of_ble_eq_true rfl, Nat.le_of_ble_eq_true rfl⟩) hS (fun q _ h => pu_fr hS hA q h) (pu_fr hS hA) (fun r_1 u t H1 locs ht hvm hw hB hz1 hk1 hS => ?_)
  have hP := pu_keep hP hk1
  clear hk1 hz1 ht hvm
  generalize H1 = H at hP hS ⊢
  obtain rfl : r_1 = 0 := hw
  refine lv_if_ne (tgt := 11) hx hb eX8_run_6 (by decide) (fun z => absurd z (by decide)) (fun _ => ?_)
  refine lv_iconst (v := (-1)) hx hb eX8_run_9 (by decide) ?_
  exact W.iret (v := (-1)) hx hb hr (fun t ht hW => ⟨⟨(-1), (), rfl, trivial, trivial⟩, hS.F ht⟩) hS.2.2 eX8_run_10
theorem eX8_run_11 : decode cX8_run 11 = .ok (.aload_n 0, 1) := by decide +kernel
theorem eX8_run_12 : decode cX8_run 12 = .ok (.getfield 62, 3) := by decide +kernel
theorem eX8_run_15 : decode cX8_run 15 = .ok (.aload_n 0, 1) := by decide +kernel
theorem eX8_run_16 : decode cX8_run 16 = .ok (.getfield 42, 3) := by decide +kernel
theorem eX8_run_19 : decode cX8_run 19 = .ok (.iload_n 1, 1) := by decide +kernel
theorem eX8_run_20 : decode cX8_run 20 = .ok (.invokevirtual 323, 3) := by decide +kernel
theorem eX8_run_23 : decode cX8_run 23 = .ok (.aload_n 0, 1) := by decide +kernel
theorem eX8_run_24 : decode cX8_run 24 = .ok (.getfield 62, 3) := by decide +kernel
theorem eX8_run_27 : decode cX8_run 27 = .ok (.getfield 327, 3) := by decide +kernel
theorem eX8_run_30 : decode cX8_run 30 = .ok (.iload_n 2, 1) := by decide +kernel
theorem eX8_run_31 : decode cX8_run 31 = .ok (.iaload, 1) := by decide +kernel
theorem eX8_run_32 : decode cX8_run 32 = .ok (.ireturn, 1) := by decide +kernel
abbrev vs_C_8_run : List Cond := .code yX8_run cX8_run 3 (some .int) :: CM
theorem g_C_8_run_C_8_isStep : GoodIn vs_C_8_run (wsV RX8 320 RX8 yX8_isStep vs_C_8_isStep) := cm_gV cm_603 cm_604 cm_605 cm_427 cm_599
theorem g_C_8_run_C_6_loadRun : GoodIn vs_C_8_run (wsV RX8 323 RX6 yX6_loadRun vs_C_6_loadRun) := cm_gV cm_606 cm_607 cm_608 cm_383 cm_364
set_option maxHeartbeats 4000000 in
set_option maxRecDepth 100000 in
theorem c_C_8_run (l : Launch) (dC : Nat → ClassId) (dI : Nat → Nat → Nat) (sz : Nat) (xa : Nat) (xtape : Nat) (tp : Nat) (rd : Nat) (au : Nat) (xdr : Nat) (hy : Nat) (g : Nat) (hs : Nat) (tg : Nat) (sg : Nat) (ss : Nat) (rm : Nat) (ti : Nat) (py : Nat) (bu : Nat) (sm : Nat) (nc : Nat) (np : Nat) (ne : Nat) (st0 : Nat) (q4 : Nat) (q5 : Nat) (q6 : Nat) (q7 : Nat) (q8 : Nat) (q9 : Nat) (q10 : Nat) (q11 : Nat) (q12 : Nat) (q13 : Nat) (q14 : Nat) (q15 : Nat) (q16 : Nat) (k_f4 : ClassId) (f4 : Nat → Int32) (k_f5 : ClassId) (q_f5 : Nat → Nat) (k_f6 : ClassId) (q_f6 : Nat → Nat) (k_f7 : ClassId) (f7 : Nat → Int32) (k_f8 : ClassId) (q_f8 : Nat → Nat) (k_f9 : ClassId) (q_f9 : Nat → Nat) (k_f10 : ClassId) (f10 : Nat → Int32) (k_f11 : ClassId) (f11 : Nat → Int32) (k_f12 : ClassId) (f12 : Nat → Int32) (k_f13 : ClassId) (f13 : Nat → Int32) (k_f14 : ClassId) (f14 : Nat → Int32) (k_f15 : ClassId) (f15 : Nat → Int32) (k_f16 : ClassId) (f16 : Nat → Int32) (gz : Nat) (g1 : Nat) (g2 : Nat) (g3 : Nat) (g4 : Nat) (g5 : Nat) (gc : Nat) (gfull : Nat) (gx : Int32) (gway : Int32) (gav : Int32) (ggoal : Int32) (gfound : Nat) (gl : Nat) (gsz : Nat) (g16 : Nat) (g17 : Nat) (k_fs2 : ClassId) (fs2 : Nat → Int32) (k_fs3 : ClassId) (fs3 : Nat → Int32) (k_fs4 : ClassId) (fs4 : Nat → Int32) (r0 : Nat) (ln : Nat) (r2 : Nat) (r3 : Nat) (r4 : Nat) (r5 : Nat) (nr : Nat) (r7 : Nat) (r8 : Nat) (tz : Nat) (k_j0 : ClassId) (q_j0 : Nat → Nat) (k_j2 : ClassId) (j2 : Nat → Int32) (k_j3 : ClassId) (q_j3 : Nat → Nat) (k_j4 : ClassId) (q_j4 : Nat → Nat) (k_j5 : ClassId) (j5 : Nat → Int32) (k_j7 : ClassId) (q_j7 : Nat → Nat) (k_j8 : ClassId) (j8 : Nat → Int32) (p0 : Int32) (p1 : Int32) (htp : tp ≤ 900) (hhs : hs ≤ 1) (hss : ss ≤ 1) (hnc : nc ≤ 3) (hnp : np ≤ 8) (hne : ne ≤ 14) (hst0 : st0 ≤ 7) (hgc : gc ≤ 120) (hgfull : gfull ≤ 1) (hgfound : gfound ≤ 1) (hgl : gl ≤ 1) (hgsz : gsz ≤ 4) (hln : ln ≤ 119) (hnr : nr ≤ 1920) (hq0 : gz_ok gc fs2 fs3 fs4) : Met l yX8_run vs_C_8_run ({ frames := 2, cells := 0, slots := 0, locals := 43 }) (va_Pc [.ref xa, .int p0, .int p1] (pu_B (dC, dI) (xti__w xa xtape (nI tp) rd au xdr hy g (nI hs) tg sg (nI ss) rm ti py bu sm (nI nc) (nI np) (nI ne) (nI st0) q4 q5 q6 q7 q8 q9 q10 q11 q12 q13 q14 q15 q16 k_f4 f4 k_f5 (bN 7 q_f5) k_f6 (bN 7 q_f6) k_f7 f7 k_f8 (bN 4 q_f8) k_f9 (bN 2 q_f9) k_f10 f10 k_f11 f11 k_f12 f12 k_f13 f13 k_f14 f14 k_f15 f15 k_f16 f16 gz g1 g2 g3 g4 g5 (nI gc) (nI gfull) gx gway gav ggoal (nI gfound) 120 (nI gl) (nI gsz) g16 g17 k_fs2 fs2 k_fs3 fs3 k_fs4 fs4 r0 (nI ln) r2 r3 r4 r5 (nI nr) r7 r8 tz k_j0 (bN 13 q_j0) k_j2 j2 k_j3 (bN 120 q_j3) k_j4 (bN 120 q_j4) k_j5 j5 k_j7 (bN 120 q_j7) k_j8 j8) (xti__t k_f4 k_f5 k_f6 k_f7 k_f8 k_f9 k_f10 k_f11 k_f12 k_f13 k_f14 k_f15 k_f16 k_fs2 k_fs3 k_fs4 k_j0 k_j2 k_j3 k_j4 k_j5 k_j7 k_j8) sz)) (va_Qi (fun (r : Int32) (_ : Unit) => True) (fun _ t => ∃ (z_j0 : Nat → Nat) (z_ln : Nat), pu_E (dC, dI) (xti__w xa xtape (nI tp) rd au xdr hy g (nI hs) tg sg (nI ss) rm ti py bu sm (nI nc) (nI np) (nI ne) (nI st0) q4 q5 q6 q7 q8 q9 q10 q11 q12 q13 q14 q15 q16 k_f4 f4 k_f5 (bN 7 q_f5) k_f6 (bN 7 q_f6) k_f7 f7 k_f8 (bN 4 q_f8) k_f9 (bN 2 q_f9) k_f10 f10 k_f11 f11 k_f12 f12 k_f13 f13 k_f14 f14 k_f15 f15 k_f16 f16 gz g1 g2 g3 g4 g5 (nI gc) (nI gfull) gx gway gav ggoal (nI gfound) 120 (nI gl) (nI gsz) g16 g17 k_fs2 fs2 k_fs3 fs3 k_fs4 fs4 r0 (nI z_ln) r2 r3 r4 r5 (nI nr) r7 r8 tz k_j0 (bN 13 z_j0) k_j2 j2 k_j3 (bN 120 q_j3) k_j4 (bN 120 q_j4) k_j5 j5 k_j7 (bN 120 q_j7) k_j8 j8) (xti__t k_f4 k_f5 k_f6 k_f7 k_f8 k_f9 k_f10 k_f11 k_f12 k_f13 k_f14 k_f15 k_f16 k_fs2 k_fs3 k_fs4 k_j0 k_j2 k_j3 k_j4 k_j5 k_j7 k_j8) (va_A ((xti__w xa xtape (nI tp) rd au xdr hy g (nI hs) tg sg (nI ss) rm ti py bu sm (nI nc) (nI np) (nI ne) (nI st0) q4 q5 q6 q7 q8 q9 q10 q11 q12 q13 q14 q15 q16 k_f4 f4 k_f5 (bN 7 q_f5) k_f6 (bN 7 q_f6) k_f7 f7 k_f8 (bN 4 q_f8) k_f9 (bN 2 q_f9) k_f10 f10 k_f11 f11 k_f12 f12 k_f13 f13 k_f14 f14 k_f15 f15 k_f16 f16 gz g1 g2 g3 g4 g5 (nI gc) (nI gfull) gx gway gav ggoal (nI gfound) 120 (nI gl) (nI gsz) g16 g17 k_fs2 fs2 k_fs3 fs3 k_fs4 fs4 r0 (nI ln) r2 r3 r4 r5 (nI nr) r7 r8 tz k_j0 (bN 13 q_j0) k_j2 j2 k_j3 (bN 120 q_j3) k_j4 (bN 120 q_j4) k_j5 j5 k_j7 (bN 120 q_j7) k_j8 j8)) sz) t ∧ (z_ln ≤ 119)) (va_A ((xti__w xa xtape (nI tp) rd au xdr hy g (nI hs) tg sg (nI ss) rm ti py bu sm (nI nc) (nI np) (nI ne) (nI st0) q4 q5 q6 q7 q8 q9 q10 q11 q12 q13 q14 q15 q16 k_f4 f4 k_f5 (bN 7 q_f5) k_f6 (bN 7 q_f6) k_f7 f7 k_f8 (bN 4 q_f8) k_f9 (bN 2 q_f9) k_f10 f10 k_f11 f11 k_f12 f12 k_f13 f13 k_f14 f14 k_f15 f15 k_f16 f16 gz g1 g2 g3 g4 g5 (nI gc) (nI gfull) gx gway gav ggoal (nI gfound) 120 (nI gl) (nI gsz) g16 g17 k_fs2 fs2 k_fs3 fs3 k_fs4 fs4 r0 (nI ln) r2 r3 r4 r5 (nI nr) r7 r8 tz k_j0 (bN 13 q_j0) k_j2 j2 k_j3 (bN 120 q_j3) k_j4 (bN 120 q_j4) k_j5 j5 k_j7 (bN 120 q_j7) k_j8 j8)) sz)) 0 0 (va_A ((xti__w xa xtape (nI tp) rd au xdr hy g (nI hs) tg sg (nI ss) rm ti py bu sm (nI nc) (nI np) (nI ne) (nI st0) q4 q5 q6 q7 q8 q9 q10 q11 q12 q13 q14 q15 q16 k_f4 f4 k_f5 (bN 7 q_f5) k_f6 (bN 7 q_f6) k_f7 f7 k_f8 (bN 4 q_f8) k_f9 (bN 2 q_f9) k_f10 f10 k_f11 f11 k_f12 f12 k_f13 f13 k_f14 f14 k_f15 f15 k_f16 f16 gz g1 g2 g3 g4 g5 (nI gc) (nI gfull) gx gway gav ggoal (nI gfound) 120 (nI gl) (nI gsz) g16 g17 k_fs2 fs2 k_fs3 fs3 k_fs4 fs4 r0 (nI ln) r2 r3 r4 r5 (nI nr) r7 r8 tz k_j0 (bN 13 q_j0) k_j2 j2 k_j3 (bN 120 q_j3) k_j4 (bN 120 q_j4) k_j5 j5 k_j7 (bN 120 q_j7) k_j8 j8)) sz) := by
  refine Met.ofW (cc := cX8_run) (maxL := 3) (ret := (some .int)) (by decide) rfl ?_
  intro p e s m args below meth c s₁ B hml hv
  obtain ⟨rfl, rfl, hP, hK, hD0⟩ := hv
  have hx := B.exec
  have hb := B.bytes
  have hr := B.returns
  have hts := atoms_spec (ws := vs_C_8_run) B.pre
  have v_6 := hts (.fieldLink RX8 62 "ClockReach" "timing" "LClockReach$Timing;") (List.mem_cons_of_mem _ cm_601)
  have v_7 := hts (.fieldLink RX8 42 "ClockReach" "shown" "LClockReach$Graph;") (List.mem_cons_of_mem _ cm_456)
  have v_13 := hts (.fieldLink RX8 327 "ClockReach$Timing" "path" "[I") (List.mem_cons_of_mem _ cm_602)
  have hown : s.vm.findClass RX8 = some m.cls := findClass_of_methodNamed B.named
  have hlocks := B.notSynchronized
  have hiX6 : ∀ w ∈ wsX60, w ∈ vs_C_8_run := fun _ h => List.mem_cons_of_mem _ (cm_X6 h)
  have hiX8 : ∀ w ∈ wsX80, w ∈ vs_C_8_run := fun _ h => List.mem_cons_of_mem _ (cm_X8 h)
  have hD := hD0.self (sz := s.heap.size)
  generalize hAe : va_A ((xti__w xa xtape (nI tp) rd au xdr hy g (nI hs) tg sg (nI ss) rm ti py bu sm (nI nc) (nI np) (nI ne) (nI st0) q4 q5 q6 q7 q8 q9 q10 q11 q12 q13 q14 q15 q16 k_f4 f4 k_f5 (bN 7 q_f5) k_f6 (bN 7 q_f6) k_f7 f7 k_f8 (bN 4 q_f8) k_f9 (bN 2 q_f9) k_f10 f10 k_f11 f11 k_f12 f12 k_f13 f13 k_f14 f14 k_f15 f15 k_f16 f16 gz g1 g2 g3 g4 g5 (nI gc) (nI gfull) gx gway gav ggoal (nI gfound) 120 (nI gl) (nI gsz) g16 g17 k_fs2 fs2 k_fs3 fs3 k_fs4 fs4 r0 (nI ln) r2 r3 r4 r5 (nI nr) r7 r8 tz k_j0 (bN 13 q_j0) k_j2 j2 k_j3 (bN 120 q_j3) k_j4 (bN 120 q_j4) k_j5 j5 k_j7 (bN 120 q_j7) k_j8 j8)) s.heap.size = A at hD ⊢
  have hA : ∀ q : Nat, s.heap.size ≤ q → A q := fun q h => by rw [← hAe]; exact Or.inr h
  have hS : va_S A s.heap s.heap [] := va_S.rf
  have hl := lv_entry ([.ref xa, .int p0, .int p1]) (n := 3) (Nat.le_of_ble_eq_true rfl)
  rw [lg_entry_eq]
  generalize (lg_sl ([.ref xa, .int p0, .int p1]) ++ List.replicate (3 - (lg_sl ([.ref xa, .int p0, .int p1])).length) Slot.unset).toArray = ls at hl ⊢
  have hl : lv_has ls 3 [(0, .ref xa), (1, .int p0), (2, .int p1)] := hl
  refine lv_aload_n hx hb eX8_run_0 rfl (lv_at hl 0 rfl) ?_
  refine lv_iload_n hx hb eX8_run_1 rfl (lv_at hl 1 rfl) ?_
  refine lv_iload_n hx hb eX8_run_2 rfl (lv_at hl 2 rfl) ?_
  have hPc : va_P (dC, dI) vwCl (xgl__w xa xtape (nI tp) rd au xdr hy g (nI hs) tg sg (nI ss) rm ti py bu sm gz g1 g2 g3 g4 g5 (nI gc) (nI gfull) gx gway gav ggoal (nI gfound) 120 (nI gl) (nI gsz) g16 g17 k_fs2 fs2 k_fs3 fs3 k_fs4 fs4) _ := hP.sub [0, 15, 16, 17, 18] rfl
  have hDc := hD.sub (ws' := (xgl__w xa xtape (nI tp) rd au xdr hy g (nI hs) tg sg (nI ss) rm ti py bu sm gz g1 g2 g3 g4 g5 (nI gc) (nI gfull) gx gway gav ggoal (nI gfound) 120 (nI gl) (nI gsz) g16 g17 k_fs2 fs2 k_fs3 fs3 k_fs4 fs4)) [0, 15, 16, 17, 18] (by decide) rfl
  have hKc : va_K (dC, dI) vwCl (xgl__t k_fs2 k_fs3 k_fs4) s := hK.sub [13, 14, 15] rfl
  refine va_calli (va_runV (As := [.int p0, .int p1]) (rest := []) ⟨hx, hb, hml, hown, hts⟩ (c_C_8_isStep l dC dI _ xa xtape tp rd au xdr hy g hs tg sg ss rm ti py bu sm gz g1 g2 g3 g4 g5 gc gfull gx gway gav ggoal gfound gl gsz g16 g17 k_fs2 fs2 k_fs3 fs3 k_fs4 fs4 p0 p1 htp hhs hss hgc hgfull hgfound hgl hgsz (by assumption)) (cwV 2 hts g_C_8_run_C_8_isStep rfl rfl rfl (by decide +kernel) ⟨Nat.le_of_ble_eq_true rfl, Nat.le_of_ble_eq_true rfl⟩) ⟨pu_bl, va_recv hK hP (ci := 8) (q0 := 0) rfl rfl, pu_in hPc hKc hDc⟩ rfl rfl hl.1 rfl (lv_room (Nat.le_of_ble_eq_true rfl)) eX8_run_3 ⟨Nat.le_of_ble_eq_true rfl, Nat.le_of_ble_eq_true rfl⟩) hS (fun q _ h => pu_fr hS hA q h) (pu_fr hS hA) (fun r_1 u t H1 locs ht hvm hw hB hz1 hk1 hS => ?_)
  have hP := pu_keep hP hk1
  clear hk1 hz1 ht hvm
  generalize H1 = H at hP hS ⊢
  rcases hw with ⟨rfl, n_2, n_3, hn_2, hn_3, rfl, rfl⟩ | rfl
  · refine lv_if_ne (tgt := 11) hx hb eX8_run_6 (by decide) (fun _ => ?_) (fun z => absurd z (by decide))
    refine lv_aload_n hx hb eX8_run_11 rfl (lv_at hl 0 rfl) ?_
    refine va_get (D := (dC, dI)) (ci := 8) (v := .ref ti) (C := RX8) (T := TX8) (N := 16) hx hb hts hiX8 hown hK hP 0 rfl rfl 12 (by decide) v_6 (fun _ h9 => h9) rfl eX8_run_12 ?_
    refine lv_aload_n hx hb eX8_run_15 rfl (lv_at hl 0 rfl) ?_
    refine va_get (D := (dC, dI)) (ci := 8) (v := .ref g) (C := RX8) (T := TX8) (N := 16) hx hb hts hiX8 hown hK hP 0 rfl rfl 6 (by decide) v_7 (fun _ h9 => h9) rfl eX8_run_16 ?_
    refine lv_iload_n hx hb eX8_run_19 rfl (lv_at hl 1 rfl) ?_
    have hPc : va_P (dC, dI) vwCl (tg__w ti r0 (nI ln) r2 r3 r4 r5 (nI nr) r7 r8 tz k_j0 (bN 13 q_j0) k_j2 j2 k_j3 (bN 120 q_j3) k_j4 (bN 120 q_j4) k_j5 j5 k_j7 (bN 120 q_j7) k_j8 j8 g gz g1 g2 g3 g4 g5 (nI gc) (nI gfull) gx gway gav ggoal (nI gfound) 120 (nI gl) (nI gsz) g16 g17 k_fs2 fs2 k_fs3 fs3 k_fs4 fs4) _ := hP.sub [19, 20, 21, 22, 23, 24, 25, 26, 15, 16, 17, 18] rfl
    have hDc := hD.sub (ws' := (tg__w ti r0 (nI ln) r2 r3 r4 r5 (nI nr) r7 r8 tz k_j0 (bN 13 q_j0) k_j2 j2 k_j3 (bN 120 q_j3) k_j4 (bN 120 q_j4) k_j5 j5 k_j7 (bN 120 q_j7) k_j8 j8 g gz g1 g2 g3 g4 g5 (nI gc) (nI gfull) gx gway gav ggoal (nI gfound) 120 (nI gl) (nI gsz) g16 g17 k_fs2 fs2 k_fs3 fs3 k_fs4 fs4)) [19, 20, 21, 22, 23, 24, 25, 26, 15, 16, 17, 18] (by decide) rfl
    have hKc : va_K (dC, dI) vwCl (tg__t k_j0 k_j2 k_j3 k_j4 k_j5 k_j7 k_j8 k_fs2 k_fs3 k_fs4) s := hK.sub [16, 17, 18, 19, 20, 21, 22, 13, 14, 15] rfl
    have hFc := pu_free hDc hS hA
    refine va_callv (va_runV (As := [.ref g, .int (nI n_2)]) (rest := []) ⟨hx, hb, hml, hown, hts⟩ (c_C_6_loadRun l dC dI _ ti r0 ln r2 r3 r4 r5 nr r7 r8 tz k_j0 q_j0 k_j2 j2 k_j3 q_j3 k_j4 q_j4 k_j5 j5 k_j7 q_j7 k_j8 j8 g gz g1 g2 g3 g4 g5 gc gfull gx gway gav ggoal gfound gl gsz g16 g17 k_fs2 fs2 k_fs3 fs3 k_fs4 fs4 n_2 hln hnr hgc hgfull hgfound hgl hgsz (by omega) (by first | assumption | exact gz_0) (by omega)) (cwV 2 hts g_C_8_run_C_6_loadRun rfl rfl rfl (by decide +kernel) ⟨Nat.le_of_ble_eq_true rfl, Nat.le_of_ble_eq_true rfl⟩) ⟨pu_bl, va_recv hK hP (ci := 6) (q0 := 19) rfl rfl, pu_in hPc hKc hDc⟩ rfl rfl hl.1 rfl (lv_room (Nat.le_of_ble_eq_true rfl)) eX8_run_20 ⟨Nat.le_of_ble_eq_true rfl, Nat.le_of_ble_eq_true rfl⟩) hS (fun q _ h => hFc q h) hFc (fun u t H1 locs ht hvm hw hB hz1 hk1 hS => ?_)
    obtain ⟨z_j0_5, z_ln_6, ⟨hP1, -, hD1⟩, hz_ln_6⟩ := hB
    rw [ht] at hP1
    obtain ⟨hP, hD⟩ := pj_a (X := (xti__w xa xtape (nI tp) rd au xdr hy g (nI hs) tg sg (nI ss) rm ti py bu sm (nI nc) (nI np) (nI ne) (nI st0) q4 q5 q6 q7 q8 q9 q10 q11 q12 q13 q14 q15 q16 k_f4 f4 k_f5 (bN 7 q_f5) k_f6 (bN 7 q_f6) k_f7 f7 k_f8 (bN 4 q_f8) k_f9 (bN 2 q_f9) k_f10 f10 k_f11 f11 k_f12 f12 k_f13 f13 k_f14 f14 k_f15 f15 k_f16 f16 gz g1 g2 g3 g4 g5 (nI gc) (nI gfull) gx gway gav ggoal (nI gfound) 120 (nI gl) (nI gsz) g16 g17 k_fs2 fs2 k_fs3 fs3 k_fs4 fs4 r0 (nI ln) r2 r3 r4 r5 (nI nr) r7 r8 tz k_j0 (bN 13 q_j0) k_j2 j2 k_j3 (bN 120 q_j3) k_j4 (bN 120 q_j4) k_j5 j5 k_j7 (bN 120 q_j7) k_j8 j8)) (X' := (xti__w xa xtape (nI tp) rd au xdr hy g (nI hs) tg sg (nI ss) rm ti py bu sm (nI nc) (nI np) (nI ne) (nI st0) q4 q5 q6 q7 q8 q9 q10 q11 q12 q13 q14 q15 q16 k_f4 f4 k_f5 (bN 7 q_f5) k_f6 (bN 7 q_f6) k_f7 f7 k_f8 (bN 4 q_f8) k_f9 (bN 2 q_f9) k_f10 f10 k_f11 f11 k_f12 f12 k_f13 f13 k_f14 f14 k_f15 f15 k_f16 f16 gz g1 g2 g3 g4 g5 (nI gc) (nI gfull) gx gway gav ggoal (nI gfound) 120 (nI gl) (nI gsz) g16 g17 k_fs2 fs2 k_fs3 fs3 k_fs4 fs4 r0 (nI z_ln_6) r2 r3 r4 r5 (nI nr) r7 r8 tz k_j0 (bN 13 z_j0_5) k_j2 j2 k_j3 (bN 120 q_j3) k_j4 (bN 120 q_j4) k_j5 j5 k_j7 (bN 120 q_j7) k_j8 j8)) (wc := (tg__w ti r0 (nI ln) r2 r3 r4 r5 (nI nr) r7 r8 tz k_j0 (bN 13 q_j0) k_j2 j2 k_j3 (bN 120 q_j3) k_j4 (bN 120 q_j4) k_j5 j5 k_j7 (bN 120 q_j7) k_j8 j8 g gz g1 g2 g3 g4 g5 (nI gc) (nI gfull) gx gway gav ggoal (nI gfound) 120 (nI gl) (nI gsz) g16 g17 k_fs2 fs2 k_fs3 fs3 k_fs4 fs4)) (w1 := (tg__w ti r0 (nI z_ln_6) r2 r3 r4 r5 (nI nr) r7 r8 tz k_j0 (bN 13 z_j0_5) k_j2 j2 k_j3 (bN 120 q_j3) k_j4 (bN 120 q_j4) k_j5 j5 k_j7 (bN 120 q_j7) k_j8 j8 g gz g1 g2 g3 g4 g5 (nI gc) (nI gfull) gx gway gav ggoal (nI gfound) 120 (nI gl) (nI gsz) g16 g17 k_fs2 fs2 k_fs3 fs3 k_fs4 fs4)) hP hD [19, 20, 21, 22, 23, 24, 25, 26, 15, 16, 17, 18] [12, 13, 14, 15, 16, 17, 18, 19, 20, 21, 22, 23, 24, 25, 26, 8, 9, 10, 11, 0, 1, 2, 3, 4, 5, 6, 7] 12 rfl hk1 hP1 rfl rfl rfl (by decide)
    clear hP1 hD1 hFc hPc hDc hKc
    clear hk1 hz1 ht hvm
    generalize H1 = H at hP hS ⊢
    refine lv_aload_n hx hb eX8_run_23 rfl (lv_at hl 0 rfl) ?_
    refine va_get (D := (dC, dI)) (ci := 8) (v := .ref ti) (C := RX8) (T := TX8) (N := 16) hx hb hts hiX8 hown hK hP 0 rfl rfl 12 (by decide) v_6 (fun _ h9 => h9) rfl eX8_run_24 ?_
    refine va_get (D := (dC, dI)) (ci := 6) (v := .ref r0) (C := RX6) (T := TX6) (N := 10) hx hb hts hiX6 hown hK hP 19 rfl rfl 0 (by decide) v_13 (fun _ h9 => h9) rfl eX8_run_27 ?_
    refine lv_iload_n hx hb eX8_run_30 rfl (lv_at hl 2 rfl) ?_
    refine va_iald hx hb hK hP 20 16 rfl rfl (vp_in_nI (n := n_3) (by omega) (Nat.le_of_ble_eq_true rfl)) eX8_run_31 ?_
    refine lv_topi (fun y_7 ey_7 => ?_)
    obtain ⟨u_8, hu_8, qu_8⟩ := bN_get 13 z_j0_5 (((nI n_3) : Int32).toNatClampNeg)
    obtain rfl : y_7 = nI u_8 := ey_7.trans qu_8
    exact W.iret (v := (nI u_8)) hx hb hr (fun t ht hW => ⟨⟨(nI u_8), (), rfl, trivial, ⟨z_j0_5, z_ln_6, ⟨by rw [ht]; exact hP, va_K.moved hW.alike hK, hD⟩, hz_ln_6⟩⟩, hS.F ht⟩) hS.2.2 eX8_run_32
  · refine lv_if_ne (tgt := 11) hx hb eX8_run_6 (by decide) (fun z => absurd z (by decide)) (fun _ => ?_)
    refine lv_iconst (v := (-1)) hx hb eX8_run_9 (by decide) ?_
    exact W.iret (v := (-1)) hx hb hr (fun t ht hW => ⟨⟨(-1), (), rfl, trivial, ⟨q_j0, ln, ⟨by rw [ht]; exact hP, va_K.moved hW.alike hK, hD⟩, hln⟩⟩, hS.F ht⟩) hS.2.2 eX8_run_10
theorem eX8_when_0 : decode cX8_when 0 = .ok (.aload_n 0, 1) := by decide +kernel
theorem eX8_when_1 : decode cX8_when 1 = .ok (.iload_n 1, 1) := by decide +kernel
theorem eX8_when_2 : decode cX8_when 2 = .ok (.iload_n 2, 1) := by decide +kernel
theorem eX8_when_3 : decode cX8_when 3 = .ok (.invokevirtual 320, 3) := by decide +kernel
theorem eX8_when_6 : decode cX8_when 6 = .ok (.ifCond .eq 11, 3) := by decide +kernel
theorem eX8_when_17 : decode cX8_when 17 = .ok (.iconst (-1), 1) := by decide +kernel
theorem eX8_when_18 : decode cX8_when 18 = .ok (.ireturn, 1) := by decide +kernel
abbrev vs_C_8_when_0 : List Cond := .code yX8_when cX8_when 3 (some .int) :: CM
theorem g_C_8_when_0_C_8_isStep_0 : GoodIn vs_C_8_when_0 (wsV RX8 320 RX8 yX8_isStep vs_C_8_isStep_0) := cm_gV cm_603 cm_604 cm_605 cm_427 cm_599
set_option maxHeartbeats 4000000 in
set_option maxRecDepth 100000 in
theorem c_C_8_when_0 (l : Launch) (dC : Nat → ClassId) (dI : Nat → Nat → Nat) (sz : Nat) (xa : Nat) (xtape : Nat) (tp : Nat) (rd : Nat) (au : Nat) (xdr : Nat) (hy : Nat) (g : Nat) (tg : Nat) (sg : Nat) (rm : Nat) (ti : Nat) (py : Nat) (bu : Nat) (sm : Nat) (nc : Nat) (ne : Nat) (st0 : Int32) (q4 : Nat) (q5 : Nat) (q6 : Nat) (q7 : Nat) (q8 : Nat) (q9 : Nat) (q10 : Nat) (q11 : Nat) (q12 : Nat) (q13 : Nat) (q14 : Nat) (q15 : Nat) (q16 : Nat) (k_f4 : ClassId) (f4 : Nat → Int32) (k_f5 : ClassId) (q_f5 : Nat → Nat) (k_f6 : ClassId) (q_f6 : Nat → Nat) (k_f7 : ClassId) (f7 : Nat → Int32) (k_f8 : ClassId) (q_f8 : Nat → Nat) (k_f9 : ClassId) (q_f9 : Nat → Nat) (k_f10 : ClassId) (f10 : Nat → Int32) (k_f11 : ClassId) (f11 : Nat → Int32) (k_f12 : ClassId) (f12 : Nat → Int32) (k_f13 : ClassId) (f13 : Nat → Int32) (k_f14 : ClassId) (f14 : Nat → Int32) (k_f15 : ClassId) (f15 : Nat → Int32) (k_f16 : ClassId) (f16 : Nat → Int32) (gz : Nat) (g1 : Nat) (g2 : Nat) (g3 : Nat) (g4 : Nat) (g5 : Nat) (gc : Nat) (gfull : Nat) (gx : Int32) (gway : Int32) (gav : Int32) (ggoal : Int32) (gfound : Nat) (gl : Nat) (gsz : Nat) (g16 : Nat) (g17 : Nat) (k_fs2 : ClassId) (fs2 : Nat → Int32) (k_fs3 : ClassId) (fs3 : Nat → Int32) (k_fs4 : ClassId) (fs4 : Nat → Int32) (r0 : Nat) (ln : Nat) (r2 : Nat) (r3 : Nat) (r4 : Nat) (r5 : Nat) (nr : Nat) (r7 : Nat) (r8 : Nat) (tz : Nat) (k_j0 : ClassId) (q_j0 : Nat → Nat) (k_j2 : ClassId) (j2 : Nat → Int32) (k_j3 : ClassId) (q_j3 : Nat → Nat) (k_j4 : ClassId) (q_j4 : Nat → Nat) (k_j5 : ClassId) (j5 : Nat → Int32) (k_j7 : ClassId) (q_j7 : Nat → Nat) (k_j8 : ClassId) (j8 : Nat → Int32) (p0 : Int32) (p1 : Int32) (htp : tp ≤ 900) (hnc : nc ≤ 3) (hne : ne ≤ 14) (hst0 : pm1 7 st0) (hgc : gc ≤ 120) (hgfull : gfull ≤ 1) (hgfound : gfound ≤ 1) (hgl : gl ≤ 1) (hgsz : gsz ≤ 4) (hln : ln ≤ 119) (hnr : nr ≤ 1920) : Met l yX8_when vs_C_8_when_0 ({ frames := 2, cells := 0, slots := 0, locals := 43 }) (va_Pc [.ref xa, .int p0, .int p1] (pu_B (dC, dI) (xti__w xa xtape (nI tp) rd au xdr hy g 0 tg sg 0 rm ti py bu sm (nI nc) 0 (nI ne) st0 q4 q5 q6 q7 q8 q9 q10 q11 q12 q13 q14 q15 q16 k_f4 f4 k_f5 (bN 7 q_f5) k_f6 (bN 7 q_f6) k_f7 f7 k_f8 (bN 4 q_f8) k_f9 (bN 2 q_f9) k_f10 f10 k_f11 f11 k_f12 f12 k_f13 f13 k_f14 f14 k_f15 f15 k_f16 f16 gz g1 g2 g3 g4 g5 (nI gc) (nI gfull) gx gway gav ggoal (nI gfound) 120 (nI gl) (nI gsz) g16 g17 k_fs2 fs2 k_fs3 fs3 k_fs4 fs4 r0 (nI ln) r2 r3 r4 r5 (nI nr) r7 r8 tz k_j0 (bN 13 q_j0) k_j2 j2 k_j3 (bN 120 q_j3) k_j4 (bN 120 q_j4) k_j5 j5 k_j7 (bN 120 q_j7) k_j8 j8) (xti__t k_f4 k_f5 k_f6 k_f7 k_f8 k_f9 k_f10 k_f11 k_f12 k_f13 k_f14 k_f15 k_f16 k_fs2 k_fs3 k_fs4 k_j0 k_j2 k_j3 k_j4 k_j5 k_j7 k_j8) sz)) (va_Qi (fun (r : Int32) (_ : Unit) => True) (fun _ _ => True) (va_A [] sz)) 0 0 (va_A [] sz) := by
  refine Met.ofW (cc := cX8_when) (maxL := 3) (ret := (some .int)) (by decide) rfl ?_
  intro p e s m args below meth c s₁ B hml hv
  obtain ⟨rfl, rfl, hP, hK, hD0⟩ := hv
  have hx := B.exec
  have hb := B.bytes
  have hr := B.returns
  have hts := atoms_spec (ws := vs_C_8_when_0) B.pre
  have hown : s.vm.findClass RX8 = some m.cls := findClass_of_methodNamed B.named
  have hlocks := B.notSynchronized
  have hD := hD0
  have hA : ∀ q : Nat, s.heap.size ≤ q → va_A [] s.heap.size q := fun _ h => Or.inr h
  have hS : va_S (va_A [] s.heap.size) s.heap s.heap [] := va_S.rf
  have hl := lv_entry ([.ref xa, .int p0, .int p1]) (n := 3) (Nat.le_of_ble_eq_true rfl)
  rw [lg_entry_eq]
  generalize (lg_sl ([.ref xa, .int p0, .int p1]) ++ List.replicate (3 - (lg_sl ([.ref xa, .int p0, .int p1])).length) Slot.unset).toArray = ls at hl ⊢
  have hl : lv_has ls 3 [(0, .ref xa), (1, .int p0), (2, .int p1)] := hl
  refine lv_aload_n hx hb eX8_when_0 rfl (lv_at hl 0 rfl) ?_
  refine lv_iload_n hx hb eX8_when_1 rfl (lv_at hl 1 rfl) ?_
  refine lv_iload_n hx hb eX8_when_2 rfl (lv_at hl 2 rfl) ?_
  have hPc : va_P (dC, dI) vwCl (xgl__w xa xtape (nI tp) rd au xdr hy g 0 tg sg 0 rm ti py bu sm gz g1 g2 g3 g4 g5 (nI gc) (nI gfull) gx gway gav ggoal (nI gfound) 120 (nI gl) (nI gsz) g16 g17 k_fs2 fs2 k_fs3 fs3 k_fs4 fs4) _ := hP.sub [0, 15, 16, 17, 18] rfl
  have hDc := hD.sub (ws' := (xgl__w xa xtape (nI tp) rd au xdr hy g 0 tg sg 0 rm ti py bu sm gz g1 g2 g3 g4 g5 (nI gc) (nI gfull) gx gway gav ggoal (nI gfound) 120 (nI gl) (nI gsz) g16 g17 k_fs2 fs2 k_fs3 fs3 k_fs4 fs4)) [0, 15, 16, 17, 18] (by decide) rfl
  have hKc : va_K (dC, dI) vwCl (xgl__t k_fs2 k_fs3 k_fs4) s := hK.sub [13, 14, 15] rfl
  refine va_calli (va_runV (As := [.int p0, .int p1]) (rest := []) ⟨hx, hb, hml, hown, hts⟩ (c_C_8_isStep_0 l dC dI _ xa xtape tp rd au xdr hy g tg sg 0 rm ti py bu sm gz g1 g2 g3 g4 g5 gc gfull gx gway gav ggoal gfound gl gsz g16 g17 k_fs2 fs2 k_fs3 fs3 k_fs4 fs4 p0 p1 htp (Nat.le_of_ble_eq_true rfl) hgc hgfull hgfound hgl hgsz) (cwV 2 hts g_C_8_when_0_C_8_isStep_0 rfl rfl rfl (by decide +kernel) ⟨Nat.le_of_ble_eq_true rfl, Nat.le_of_ble_eq_true rfl⟩) ⟨pu_bl, va_recv hK hP (ci := 8) (q0 := 0) rfl rfl, pu_in hPc hKc hDc⟩ rfl rfl hl.1 rfl (lv_room (Nat.le_of_ble_eq_true rfl)) eX8_when_3 ⟨Nat.le_of_ble_eq_true rfl, Nat.le_of_ble_eq_true rfl⟩) hS (fun q _ h => pu_fr hS hA q h) (pu_fr hS hA) (fun r_1 u t H1 locs ht hvm hw hB hz1 hk1 hS => ?_)
  have hP := pu_keep hP hk1
  clear hk1 hz1 ht hvm
  generalize H1 = H at hP hS ⊢
  obtain rfl : r_1 = 0 := hw
  refine lv_if_eq (tgt := 17) hx hb eX8_when_6 (by decide) (fun _ => ?_) (fun z => absurd z (by decide))
  refine lv_iconst (v := (-1)) hx hb eX8_when_17 (by decide) ?_
  exact W.iret (v := (-1)) hx hb hr (fun t ht hW => ⟨⟨(-1), (), rfl, trivial, trivial⟩, hS.F ht⟩) hS.2.2 eX8_when_18
theorem eX8_when_9 : decode cX8_when 9 = .ok (.aload_n 0, 1) := by decide +kernel
theorem eX8_when_10 : decode cX8_when 10 = .ok (.iload_n 1, 1) := by decide +kernel
theorem eX8_when_11 : decode cX8_when 11 = .ok (.invokevirtual 337, 3) := by decide +kernel
theorem eX8_when_14 : decode cX8_when 14 = .ok (.ifCond .ne 5, 3) := by decide +kernel
theorem eX8_when_19 : decode cX8_when 19 = .ok (.aload_n 0, 1) := by decide +kernel
theorem eX8_when_20 : decode cX8_when 20 = .ok (.getfield 62, 3) := by decide +kernel
theorem eX8_when_23 : decode cX8_when 23 = .ok (.getfield 340, 3) := by decide +kernel
theorem eX8_when_26 : decode cX8_when 26 = .ok (.iload_n 2, 1) := by decide +kernel
theorem eX8_when_27 : decode cX8_when 27 = .ok (.iconst 1, 1) := by decide +kernel
theorem eX8_when_28 : decode cX8_when 28 = .ok (.iadd, 1) := by decide +kernel
theorem eX8_when_29 : decode cX8_when 29 = .ok (.iaload, 1) := by decide +kernel
theorem eX8_when_30 : decode cX8_when 30 = .ok (.ireturn, 1) := by decide +kernel
abbrev vs_C_8_when : List Cond := .code yX8_when cX8_when 3 (some .int) :: CM
theorem g_C_8_when_C_8_isStep : GoodIn vs_C_8_when (wsV RX8 320 RX8 yX8_isStep vs_C_8_isStep) := cm_gV cm_603 cm_604 cm_605 cm_427 cm_599
theorem g_C_8_when_C_8_timesRun : GoodIn vs_C_8_when (wsV RX8 337 RX8 yX8_timesRun vs_C_8_timesRun) := cm_gV cm_618 cm_619 cm_620 cm_427 cm_609
set_option maxHeartbeats 4000000 in
set_option maxRecDepth 100000 in
theorem c_C_8_when (l : Launch) (dC : Nat → ClassId) (dI : Nat → Nat → Nat) (sz : Nat) (xa : Nat) (xtape : Nat) (tp : Nat) (rd : Nat) (au : Nat) (xdr : Nat) (hy : Nat) (g : Nat) (hs : Nat) (tg : Nat) (sg : Nat) (ss : Nat) (rm : Nat) (ti : Nat) (py : Nat) (bu : Nat) (sm : Nat) (nc : Nat) (np : Nat) (ne : Nat) (st0 : Nat) (q4 : Nat) (q5 : Nat) (q6 : Nat) (q7 : Nat) (q8 : Nat) (q9 : Nat) (q10 : Nat) (q11 : Nat) (q12 : Nat) (q13 : Nat) (q14 : Nat) (q15 : Nat) (q16 : Nat) (k_f4 : ClassId) (f4 : Nat → Int32) (k_f5 : ClassId) (q_f5 : Nat → Nat) (k_f6 : ClassId) (q_f6 : Nat → Nat) (k_f7 : ClassId) (f7 : Nat → Int32) (k_f8 : ClassId) (q_f8 : Nat → Nat) (k_f9 : ClassId) (q_f9 : Nat → Nat) (k_f10 : ClassId) (f10 : Nat → Int32) (k_f11 : ClassId) (f11 : Nat → Int32) (k_f12 : ClassId) (f12 : Nat → Int32) (k_f13 : ClassId) (f13 : Nat → Int32) (k_f14 : ClassId) (f14 : Nat → Int32) (k_f15 : ClassId) (f15 : Nat → Int32) (k_f16 : ClassId) (f16 : Nat → Int32) (gz : Nat) (g1 : Nat) (g2 : Nat) (g3 : Nat) (g4 : Nat) (g5 : Nat) (gc : Nat) (gfull : Nat) (gx : Int32) (gway : Int32) (gav : Int32) (ggoal : Int32) (gfound : Nat) (gl : Nat) (gsz : Nat) (g16 : Nat) (g17 : Nat) (k_fs2 : ClassId) (fs2 : Nat → Int32) (k_fs3 : ClassId) (fs3 : Nat → Int32) (k_fs4 : ClassId) (fs4 : Nat → Int32) (r0 : Nat) (ln : Nat) (r2 : Nat) (r3 : Nat) (r4 : Nat) (r5 : Nat) (nr : Nat) (r7 : Nat) (r8 : Nat) (tz : Nat) (k_j0 : ClassId) (q_j0 : Nat → Nat) (k_j2 : ClassId) (j2 : Nat → Int32) (k_j3 : ClassId) (q_j3 : Nat → Nat) (k_j4 : ClassId) (q_j4 : Nat → Nat) (k_j5 : ClassId) (j5 : Nat → Int32) (k_j7 : ClassId) (q_j7 : Nat → Nat) (k_j8 : ClassId) (j8 : Nat → Int32) (p0 : Int32) (p1 : Int32) (htp : tp ≤ 900) (hhs : hs ≤ 1) (hss : ss ≤ 1) (hnc : nc ≤ 3) (hnp : np ≤ 8) (hne : ne ≤ 14) (hst0 : st0 ≤ 7) (hgc : gc ≤ 120) (hgfull : gfull ≤ 1) (hgfound : gfound ≤ 1) (hgl : gl ≤ 1) (hgsz : gsz ≤ 4) (hln : ln ≤ 119) (hnr : nr ≤ 1920) (hq0 : gz_ok gc fs2 fs3 fs4) : Met l yX8_when vs_C_8_when ({ frames := 4, cells := 0, slots := 0, locals := 95 }) (va_Pc [.ref xa, .int p0, .int p1] (pu_B (dC, dI) (xti__w xa xtape (nI tp) rd au xdr hy g (nI hs) tg sg (nI ss) rm ti py bu sm (nI nc) (nI np) (nI ne) (nI st0) q4 q5 q6 q7 q8 q9 q10 q11 q12 q13 q14 q15 q16 k_f4 f4 k_f5 (bN 7 q_f5) k_f6 (bN 7 q_f6) k_f7 f7 k_f8 (bN 4 q_f8) k_f9 (bN 2 q_f9) k_f10 f10 k_f11 f11 k_f12 f12 k_f13 f13 k_f14 f14 k_f15 f15 k_f16 f16 gz g1 g2 g3 g4 g5 (nI gc) (nI gfull) gx gway gav ggoal (nI gfound) 120 (nI gl) (nI gsz) g16 g17 k_fs2 fs2 k_fs3 fs3 k_fs4 fs4 r0 (nI ln) r2 r3 r4 r5 (nI nr) r7 r8 tz k_j0 (bN 13 q_j0) k_j2 j2 k_j3 (bN 120 q_j3) k_j4 (bN 120 q_j4) k_j5 j5 k_j7 (bN 120 q_j7) k_j8 j8) (xti__t k_f4 k_f5 k_f6 k_f7 k_f8 k_f9 k_f10 k_f11 k_f12 k_f13 k_f14 k_f15 k_f16 k_fs2 k_fs3 k_fs4 k_j0 k_j2 k_j3 k_j4 k_j5 k_j7 k_j8) sz)) (va_Qi (fun (r : Int32) (_ : Unit) => True) (fun _ t => ∃ (z_j0 : Nat → Nat) (z_j2 : Nat → Int32) (z_j3 : Nat → Nat) (z_j4 : Nat → Nat) (z_j5 : Nat → Int32) (z_j7 : Nat → Nat) (z_ln : Nat) (z_nr : Nat), pu_E (dC, dI) (xti__w xa xtape (nI tp) rd au xdr hy g (nI hs) tg sg (nI ss) rm ti py bu sm (nI nc) (nI np) (nI ne) (nI st0) q4 q5 q6 q7 q8 q9 q10 q11 q12 q13 q14 q15 q16 k_f4 f4 k_f5 (bN 7 q_f5) k_f6 (bN 7 q_f6) k_f7 f7 k_f8 (bN 4 q_f8) k_f9 (bN 2 q_f9) k_f10 f10 k_f11 f11 k_f12 f12 k_f13 f13 k_f14 f14 k_f15 f15 k_f16 f16 gz g1 g2 g3 g4 g5 (nI gc) (nI gfull) gx gway gav ggoal (nI gfound) 120 (nI gl) (nI gsz) g16 g17 k_fs2 fs2 k_fs3 fs3 k_fs4 fs4 r0 (nI z_ln) r2 r3 r4 r5 (nI z_nr) r7 r8 tz k_j0 (bN 13 z_j0) k_j2 z_j2 k_j3 (bN 120 z_j3) k_j4 (bN 120 z_j4) k_j5 z_j5 k_j7 (bN 120 z_j7) k_j8 j8) (xti__t k_f4 k_f5 k_f6 k_f7 k_f8 k_f9 k_f10 k_f11 k_f12 k_f13 k_f14 k_f15 k_f16 k_fs2 k_fs3 k_fs4 k_j0 k_j2 k_j3 k_j4 k_j5 k_j7 k_j8) (va_A ((xti__w xa xtape (nI tp) rd au xdr hy g (nI hs) tg sg (nI ss) rm ti py bu sm (nI nc) (nI np) (nI ne) (nI st0) q4 q5 q6 q7 q8 q9 q10 q11 q12 q13 q14 q15 q16 k_f4 f4 k_f5 (bN 7 q_f5) k_f6 (bN 7 q_f6) k_f7 f7 k_f8 (bN 4 q_f8) k_f9 (bN 2 q_f9) k_f10 f10 k_f11 f11 k_f12 f12 k_f13 f13 k_f14 f14 k_f15 f15 k_f16 f16 gz g1 g2 g3 g4 g5 (nI gc) (nI gfull) gx gway gav ggoal (nI gfound) 120 (nI gl) (nI gsz) g16 g17 k_fs2 fs2 k_fs3 fs3 k_fs4 fs4 r0 (nI ln) r2 r3 r4 r5 (nI nr) r7 r8 tz k_j0 (bN 13 q_j0) k_j2 j2 k_j3 (bN 120 q_j3) k_j4 (bN 120 q_j4) k_j5 j5 k_j7 (bN 120 q_j7) k_j8 j8)) sz) t ∧ (z_ln ≤ 119) ∧ (z_nr ≤ 1920)) (va_A ((xti__w xa xtape (nI tp) rd au xdr hy g (nI hs) tg sg (nI ss) rm ti py bu sm (nI nc) (nI np) (nI ne) (nI st0) q4 q5 q6 q7 q8 q9 q10 q11 q12 q13 q14 q15 q16 k_f4 f4 k_f5 (bN 7 q_f5) k_f6 (bN 7 q_f6) k_f7 f7 k_f8 (bN 4 q_f8) k_f9 (bN 2 q_f9) k_f10 f10 k_f11 f11 k_f12 f12 k_f13 f13 k_f14 f14 k_f15 f15 k_f16 f16 gz g1 g2 g3 g4 g5 (nI gc) (nI gfull) gx gway gav ggoal (nI gfound) 120 (nI gl) (nI gsz) g16 g17 k_fs2 fs2 k_fs3 fs3 k_fs4 fs4 r0 (nI ln) r2 r3 r4 r5 (nI nr) r7 r8 tz k_j0 (bN 13 q_j0) k_j2 j2 k_j3 (bN 120 q_j3) k_j4 (bN 120 q_j4) k_j5 j5 k_j7 (bN 120 q_j7) k_j8 j8)) sz)) 0 0 (va_A ((xti__w xa xtape (nI tp) rd au xdr hy g (nI hs) tg sg (nI ss) rm ti py bu sm (nI nc) (nI np) (nI ne) (nI st0) q4 q5 q6 q7 q8 q9 q10 q11 q12 q13 q14 q15 q16 k_f4 f4 k_f5 (bN 7 q_f5) k_f6 (bN 7 q_f6) k_f7 f7 k_f8 (bN 4 q_f8) k_f9 (bN 2 q_f9) k_f10 f10 k_f11 f11 k_f12 f12 k_f13 f13 k_f14 f14 k_f15 f15 k_f16 f16 gz g1 g2 g3 g4 g5 (nI gc) (nI gfull) gx gway gav ggoal (nI gfound) 120 (nI gl) (nI gsz) g16 g17 k_fs2 fs2 k_fs3 fs3 k_fs4 fs4 r0 (nI ln) r2 r3 r4 r5 (nI nr) r7 r8 tz k_j0 (bN 13 q_j0) k_j2 j2 k_j3 (bN 120 q_j3) k_j4 (bN 120 q_j4) k_j5 j5 k_j7 (bN 120 q_j7) k_j8 j8)) sz) := by
  refine Met.ofW (cc := cX8_when) (maxL := 3) (ret := (some .int)) (by decide) rfl ?_
  intro p e s m args below meth c s₁ B hml hv
  obtain ⟨rfl, rfl, hP, hK, hD0⟩ := hv
  have hx := B.exec
  have hb := B.bytes
  have hr := B.returns
  have hts := atoms_spec (ws := vs_C_8_when) B.pre
  have v_10 := hts (.fieldLink RX8 62 "ClockReach" "timing" "LClockReach$Timing;") (List.mem_cons_of_mem _ cm_601)
  have v_11 := hts (.fieldLink RX8 340 "ClockReach$Timing" "at" "[I") (List.mem_cons_of_mem _ cm_617)
  have hown : s.vm.findClass RX8 = some m.cls := findClass_of_methodNamed B.named
  have hlocks := B.notSynchronized
  have hiX6 : ∀ w ∈ wsX60, w ∈ vs_C_8_when := fun _ h => List.mem_cons_of_mem _ (cm_X6 h)
  have hiX8 : ∀ w ∈ wsX80, w ∈ vs_C_8_when := fun _ h => List.mem_cons_of_mem _ (cm_X8 h)
  have hD := hD0.self (sz := s.heap.size)
  generalize hAe : va_A ((xti__w xa xtape (nI tp) rd au xdr hy g (nI hs) tg sg (nI ss) rm ti py bu sm (nI nc) (nI np) (nI ne) (nI st0) q4 q5 q6 q7 q8 q9 q10 q11 q12 q13 q14 q15 q16 k_f4 f4 k_f5 (bN 7 q_f5) k_f6 (bN 7 q_f6) k_f7 f7 k_f8 (bN 4 q_f8) k_f9 (bN 2 q_f9) k_f10 f10 k_f11 f11 k_f12 f12 k_f13 f13 k_f14 f14 k_f15 f15 k_f16 f16 gz g1 g2 g3 g4 g5 (nI gc) (nI gfull) gx gway gav ggoal (nI gfound) 120 (nI gl) (nI gsz) g16 g17 k_fs2 fs2 k_fs3 fs3 k_fs4 fs4 r0 (nI ln) r2 r3 r4 r5 (nI nr) r7 r8 tz k_j0 (bN 13 q_j0) k_j2 j2 k_j3 (bN 120 q_j3) k_j4 (bN 120 q_j4) k_j5 j5 k_j7 (bN 120 q_j7) k_j8 j8)) s.heap.size = A at hD ⊢
  have hA : ∀ q : Nat, s.heap.size ≤ q → A q := fun q h => by rw [← hAe]; exact Or.inr h
  have hS : va_S A s.heap s.heap [] := va_S.rf
  have hl := lv_entry ([.ref xa, .int p0, .int p1]) (n := 3) (Nat.le_of_ble_eq_true rfl)
  rw [lg_entry_eq]
  generalize (lg_sl ([.ref xa, .int p0, .int p1]) ++ List.replicate (3 - (lg_sl ([.ref xa, .int p0, .int p1])).length) Slot.unset).toArray = ls at hl ⊢
  have hl : lv_has ls 3 [(0, .ref xa), (1, .int p0), (2, .int p1)] := hl
  refine lv_aload_n hx hb eX8_when_0 rfl (lv_at hl 0 rfl) ?_
  refine lv_iload_n hx hb eX8_when_1 rfl (lv_at hl 1 rfl) ?_
  refine lv_iload_n hx hb eX8_when_2 rfl (lv_at hl 2 rfl) ?_
  have hPc : va_P (dC, dI) vwCl (xgl__w xa xtape (nI tp) rd au xdr hy g (nI hs) tg sg (nI ss) rm ti py bu sm gz g1 g2 g3 g4 g5 (nI gc) (nI gfull) gx gway gav ggoal (nI gfound) 120 (nI gl) (nI gsz) g16 g17 k_fs2 fs2 k_fs3 fs3 k_fs4 fs4) _ := hP.sub [0, 15, 16, 17, 18] rfl
  have hDc := hD.sub (ws' := (xgl__w xa xtape (nI tp) rd au xdr hy g (nI hs) tg sg (nI ss) rm ti py bu sm gz g1 g2 g3 g4 g5 (nI gc) (nI gfull) gx gway gav ggoal (nI gfound) 120 (nI gl) (nI gsz) g16 g17 k_fs2 fs2 k_fs3 fs3 k_fs4 fs4)) [0, 15, 16, 17, 18] (by decide) rfl
  have hKc : va_K (dC, dI) vwCl (xgl__t k_fs2 k_fs3 k_fs4) s := hK.sub [13, 14, 15] rfl
  refine va_calli (va_runV (As := [.int p0, .int p1]) (rest := []) ⟨hx, hb, hml, hown, hts⟩ (c_C_8_isStep l dC dI _ xa xtape tp rd au xdr hy g hs tg sg ss rm ti py bu sm gz g1 g2 g3 g4 g5 gc gfull gx gway gav ggoal gfound gl gsz g16 g17 k_fs2 fs2 k_fs3 fs3 k_fs4 fs4 p0 p1 htp hhs hss hgc hgfull hgfound hgl hgsz (by assumption)) (cwV 2 hts g_C_8_when_C_8_isStep rfl rfl rfl (by decide +kernel) ⟨Nat.le_of_ble_eq_true rfl, Nat.le_of_ble_eq_true rfl⟩) ⟨pu_bl, va_recv hK hP (ci := 8) (q0 := 0) rfl rfl, pu_in hPc hKc hDc⟩ rfl rfl hl.1 rfl (lv_room (Nat.le_of_ble_eq_true rfl)) eX8_when_3 ⟨Nat.le_of_ble_eq_true rfl, Nat.le_of_ble_eq_true rfl⟩) hS (fun q _ h => pu_fr hS hA q h) (pu_fr hS hA) (fun r_1 u t H1 locs ht hvm hw hB hz1 hk1 hS => ?_)
  have hP := pu_keep hP hk1
  clear hk1 hz1 ht hvm
  generalize H1 = H at hP hS ⊢
  rcases hw with ⟨rfl, n_2, n_3, hn_2, hn_3, rfl, rfl⟩ | rfl
  · refine lv_if_eq (tgt := 17) hx hb eX8_when_6 (by decide) (fun z => absurd z (by decide)) (fun _ => ?_)
    refine lv_aload_n hx hb eX8_when_9 rfl (lv_at hl 0 rfl) ?_
    refine lv_iload_n hx hb eX8_when_10 rfl (lv_at hl 1 rfl) ?_
    have hFc := pu_free hD hS hA
    refine va_calli (va_runV (As := [.int (nI n_2)]) (rest := []) ⟨hx, hb, hml, hown, hts⟩ (c_C_8_timesRun l dC dI _ xa xtape tp rd au xdr hy g hs tg sg ss rm ti py bu sm nc np ne st0 q4 q5 q6 q7 q8 q9 q10 q11 q12 q13 q14 q15 q16 k_f4 f4 k_f5 q_f5 k_f6 q_f6 k_f7 f7 k_f8 q_f8 k_f9 q_f9 k_f10 f10 k_f11 f11 k_f12 f12 k_f13 f13 k_f14 f14 k_f15 f15 k_f16 f16 gz g1 g2 g3 g4 g5 gc gfull gx gway gav ggoal gfound gl gsz g16 g17 k_fs2 fs2 k_fs3 fs3 k_fs4 fs4 r0 ln r2 r3 r4 r5 nr r7 r8 tz k_j0 q_j0 k_j2 j2 k_j3 q_j3 k_j4 q_j4 k_j5 j5 k_j7 q_j7 k_j8 j8 n_2 htp hhs hss hnc hnp hne hst0 hgc hgfull hgfound hgl hgsz hln hnr (by omega) (by assumption) (by omega)) (cwV 1 hts g_C_8_when_C_8_timesRun rfl rfl rfl (by decide +kernel) ⟨Nat.le_of_ble_eq_true rfl, Nat.le_of_ble_eq_true rfl⟩) ⟨pu_bl, va_recv hK hP (ci := 8) (q0 := 0) rfl rfl, pu_in hP hK hD⟩ rfl rfl hl.1 rfl (lv_room (Nat.le_of_ble_eq_true rfl)) eX8_when_11 ⟨Nat.le_of_ble_eq_true rfl, Nat.le_of_ble_eq_true rfl⟩) hS (fun q _ h => hFc q h) hFc (fun r_4 u t H1 locs ht hvm hw hB hz1 hk1 hS => ?_)
    obtain ⟨z_j0_5, z_j2_6, z_j3_7, z_j4_8, z_j5_9, z_j7_10, z_ln_11, z_nr_12, ⟨hP1, -, hD1⟩, hz_ln_11, hz_nr_12⟩ := hB
    rw [ht] at hP1
    have hP := hP1
    have hD := pu_all hFc hD1
    clear hP1 hD1 hFc
    clear hk1 hz1 ht hvm
    generalize H1 = H at hP hS ⊢
    obtain ⟨u_13, hu_13, rfl⟩ := hw
    refine lv_if_ne (tgt := 19) hx hb eX8_when_14 (by decide) (fun c_14 => ?_) (fun c_14 => ?_)
    · have c_14 : ¬ u_13 = 0 := fun z => c_14 ((nI_eq (a := u_13) (b := 0) (Nat.lt_of_le_of_lt hu_13 (Nat.le_of_ble_eq_true rfl)) (Nat.le_of_ble_eq_true rfl)).mpr z)
      refine lv_aload_n hx hb eX8_when_19 rfl (lv_at hl 0 rfl) ?_
      refine va_get (D := (dC, dI)) (ci := 8) (v := .ref ti) (C := RX8) (T := TX8) (N := 16) hx hb hts hiX8 hown hK hP 0 rfl rfl 12 (by decide) v_10 (fun _ h9 => h9) rfl eX8_when_20 ?_
      refine va_get (D := (dC, dI)) (ci := 6) (v := .ref r2) (C := RX6) (T := TX6) (N := 10) hx hb hts hiX6 hown hK hP 19 rfl rfl 2 (by decide) v_11 (fun _ h9 => h9) rfl eX8_when_23 ?_
      refine lv_iload_n hx hb eX8_when_26 rfl (lv_at hl 2 rfl) ?_
      refine lv_iconst (v := 1) hx hb eX8_when_27 (by decide) ?_
      refine lv_iadd hx hb eX8_when_28 ?_
      refine lv_topi (fun y_15 ey_15 => ?_)
      obtain rfl : y_15 = (nI (n_3 + 1)) := ey_15.trans (nI_add n_3 1)
      refine va_iald hx hb hK hP 21 17 rfl rfl (vp_in_nI (n := (n_3 + 1)) (by omega) (Nat.le_of_ble_eq_true rfl)) eX8_when_29 ?_
      refine lv_topi (fun y_16 ey_16 => ?_)
      exact W.iret (v := y_16) hx hb hr (fun t ht hW => ⟨⟨y_16, (), rfl, trivial, ⟨z_j0_5, z_j2_6, z_j3_7, z_j4_8, z_j5_9, z_j7_10, z_ln_11, z_nr_12, ⟨by rw [ht]; exact hP, va_K.moved hW.alike hK, hD⟩, hz_ln_11, hz_nr_12⟩⟩, hS.F ht⟩) hS.2.2 eX8_when_30
    · have c_14 : u_13 = 0 := (nI_eq (a := u_13) (b := 0) (Nat.lt_of_le_of_lt hu_13 (Nat.le_of_ble_eq_true rfl)) (Nat.le_of_ble_eq_true rfl)).mp c_14
      refine lv_iconst (v := (-1)) hx hb eX8_when_17 (by decide) ?_
      exact W.iret (v := (-1)) hx hb hr (fun t ht hW => ⟨⟨(-1), (), rfl, trivial, ⟨z_j0_5, z_j2_6, z_j3_7, z_j4_8, z_j5_9, z_j7_10, z_ln_11, z_nr_12, ⟨by rw [ht]; exact hP, va_K.moved hW.alike hK, hD⟩, hz_ln_11, hz_nr_12⟩⟩, hS.F ht⟩) hS.2.2 eX8_when_18
  · refine lv_if_eq (tgt := 17) hx hb eX8_when_6 (by decide) (fun _ => ?_) (fun z => absurd z (by decide))
    refine lv_iconst (v := (-1)) hx hb eX8_when_17 (by decide) ?_
    exact W.iret (v := (-1)) hx hb hr (fun t ht hW => ⟨⟨(-1), (), rfl, trivial, ⟨q_j0, j2, q_j3, q_j4, j5, q_j7, ln, nr, ⟨by rw [ht]; exact hP, va_K.moved hW.alike hK, hD⟩, hln, hnr⟩⟩, hS.F ht⟩) hS.2.2 eX8_when_18
theorem eX8_then_0 : decode cX8_then 0 = .ok (.aload_n 0, 1) := by decide +kernel
theorem eX8_then_1 : decode cX8_then 1 = .ok (.iload_n 1, 1) := by decide +kernel
theorem eX8_then_2 : decode cX8_then 2 = .ok (.iload_n 2, 1) := by decide +kernel
theorem eX8_then_3 : decode cX8_then 3 = .ok (.invokevirtual 320, 3) := by decide +kernel
theorem eX8_then_6 : decode cX8_then 6 = .ok (.ifCond .eq 19, 3) := by decide +kernel
theorem eX8_then_25 : decode cX8_then 25 = .ok (.iconst (-1), 1) := by decide +kernel
theorem eX8_then_26 : decode cX8_then 26 = .ok (.ireturn, 1) := by decide +kernel
abbrev vs_C_8_then_0 : List Cond := .code yX8_then cX8_then 4 (some .int) :: CM
theorem g_C_8_then_0_C_8_isStep_0 : GoodIn vs_C_8_then_0 (wsV RX8 320 RX8 yX8_isStep vs_C_8_isStep_0) := cm_gV cm_603 cm_604 cm_605 cm_427 cm_599
set_option maxHeartbeats 4000000 in
set_option maxRecDepth 100000 in
theorem c_C_8_then_0 (l : Launch) (dC : Nat → ClassId) (dI : Nat → Nat → Nat) (sz : Nat) (xa : Nat) (xtape : Nat) (tp : Nat) (rd : Nat) (au : Nat) (xdr : Nat) (hy : Nat) (g : Nat) (tg : Nat) (sg : Nat) (rm : Nat) (ti : Nat) (py : Nat) (bu : Nat) (sm : Nat) (nc : Nat) (ne : Nat) (st0 : Int32) (q4 : Nat) (q5 : Nat) (q6 : Nat) (q7 : Nat) (q8 : Nat) (q9 : Nat) (q10 : Nat) (q11 : Nat) (q12 : Nat) (q13 : Nat) (q14 : Nat) (q15 : Nat) (q16 : Nat) (k_f4 : ClassId) (f4 : Nat → Int32) (k_f5 : ClassId) (q_f5 : Nat → Nat) (k_f6 : ClassId) (q_f6 : Nat → Nat) (k_f7 : ClassId) (f7 : Nat → Int32) (k_f8 : ClassId) (q_f8 : Nat → Nat) (k_f9 : ClassId) (q_f9 : Nat → Nat) (k_f10 : ClassId) (f10 : Nat → Int32) (k_f11 : ClassId) (f11 : Nat → Int32) (k_f12 : ClassId) (f12 : Nat → Int32) (k_f13 : ClassId) (f13 : Nat → Int32) (k_f14 : ClassId) (f14 : Nat → Int32) (k_f15 : ClassId) (f15 : Nat → Int32) (k_f16 : ClassId) (f16 : Nat → Int32) (gz : Nat) (g1 : Nat) (g2 : Nat) (g3 : Nat) (g4 : Nat) (g5 : Nat) (gc : Nat) (gfull : Nat) (gx : Int32) (gway : Int32) (gav : Int32) (ggoal : Int32) (gfound : Nat) (gl : Nat) (gsz : Nat) (g16 : Nat) (g17 : Nat) (k_fs2 : ClassId) (fs2 : Nat → Int32) (k_fs3 : ClassId) (fs3 : Nat → Int32) (k_fs4 : ClassId) (fs4 : Nat → Int32) (r0 : Nat) (ln : Nat) (r2 : Nat) (r3 : Nat) (r4 : Nat) (r5 : Nat) (nr : Nat) (r7 : Nat) (r8 : Nat) (tz : Nat) (k_j0 : ClassId) (q_j0 : Nat → Nat) (k_j2 : ClassId) (j2 : Nat → Int32) (k_j3 : ClassId) (q_j3 : Nat → Nat) (k_j4 : ClassId) (q_j4 : Nat → Nat) (k_j5 : ClassId) (j5 : Nat → Int32) (k_j7 : ClassId) (q_j7 : Nat → Nat) (k_j8 : ClassId) (j8 : Nat → Int32) (p0 : Int32) (p1 : Int32) (p2 : Int32) (htp : tp ≤ 900) (hnc : nc ≤ 3) (hne : ne ≤ 14) (hst0 : pm1 7 st0) (hgc : gc ≤ 120) (hgfull : gfull ≤ 1) (hgfound : gfound ≤ 1) (hgl : gl ≤ 1) (hgsz : gsz ≤ 4) (hln : ln ≤ 119) (hnr : nr ≤ 1920) : Met l yX8_then vs_C_8_then_0 ({ frames := 2, cells := 0, slots := 0, locals := 43 }) (va_Pc [.ref xa, .int p0, .int p1, .int p2] (pu_B (dC, dI) (xti__w xa xtape (nI tp) rd au xdr hy g 0 tg sg 0 rm ti py bu sm (nI nc) 0 (nI ne) st0 q4 q5 q6 q7 q8 q9 q10 q11 q12 q13 q14 q15 q16 k_f4 f4 k_f5 (bN 7 q_f5) k_f6 (bN 7 q_f6) k_f7 f7 k_f8 (bN 4 q_f8) k_f9 (bN 2 q_f9) k_f10 f10 k_f11 f11 k_f12 f12 k_f13 f13 k_f14 f14 k_f15 f15 k_f16 f16 gz g1 g2 g3 g4 g5 (nI gc) (nI gfull) gx gway gav ggoal (nI gfound) 120 (nI gl) (nI gsz) g16 g17 k_fs2 fs2 k_fs3 fs3 k_fs4 fs4 r0 (nI ln) r2 r3 r4 r5 (nI nr) r7 r8 tz k_j0 (bN 13 q_j0) k_j2 j2 k_j3 (bN 120 q_j3) k_j4 (bN 120 q_j4) k_j5 j5 k_j7 (bN 120 q_j7) k_j8 j8) (xti__t k_f4 k_f5 k_f6 k_f7 k_f8 k_f9 k_f10 k_f11 k_f12 k_f13 k_f14 k_f15 k_f16 k_fs2 k_fs3 k_fs4 k_j0 k_j2 k_j3 k_j4 k_j5 k_j7 k_j8) sz)) (va_Qi (fun (r : Int32) (_ : Unit) => True) (fun _ _ => True) (va_A [] sz)) 0 0 (va_A [] sz) := by
  refine Met.ofW (cc := cX8_then) (maxL := 4) (ret := (some .int)) (by decide) rfl ?_
  intro p e s m args below meth c s₁ B hml hv
  obtain ⟨rfl, rfl, hP, hK, hD0⟩ := hv
  have hx := B.exec
  have hb := B.bytes
  have hr := B.returns
  have hts := atoms_spec (ws := vs_C_8_then_0) B.pre
  have hown : s.vm.findClass RX8 = some m.cls := findClass_of_methodNamed B.named
  have hlocks := B.notSynchronized
  have hD := hD0
  have hA : ∀ q : Nat, s.heap.size ≤ q → va_A [] s.heap.size q := fun _ h => Or.inr h
  have hS : va_S (va_A [] s.heap.size) s.heap s.heap [] := va_S.rf
  have hl := lv_entry ([.ref xa, .int p0, .int p1, .int p2]) (n := 4) (Nat.le_of_ble_eq_true rfl)
  rw [lg_entry_eq]
  generalize (lg_sl ([.ref xa, .int p0, .int p1, .int p2]) ++ List.replicate (4 - (lg_sl ([.ref xa, .int p0, .int p1, .int p2])).length) Slot.unset).toArray = ls at hl ⊢
  have hl : lv_has ls 4 [(0, .ref xa), (1, .int p0), (2, .int p1), (3, .int p2)] := hl
  refine lv_aload_n hx hb eX8_then_0 rfl (lv_at hl 0 rfl) ?_
  refine lv_iload_n hx hb eX8_then_1 rfl (lv_at hl 1 rfl) ?_
  refine lv_iload_n hx hb eX8_then_2 rfl (lv_at hl 2 rfl) ?_
  have hPc : va_P (dC, dI) vwCl (xgl__w xa xtape (nI tp) rd au xdr hy g 0 tg sg 0 rm ti py bu sm gz g1 g2 g3 g4 g5 (nI gc) (nI gfull) gx gway gav ggoal (nI gfound) 120 (nI gl) (nI gsz) g16 g17 k_fs2 fs2 k_fs3 fs3 k_fs4 fs4) _ := hP.sub [0, 15, 16, 17, 18] rfl
  have hDc := hD.sub (ws' := (xgl__w xa xtape (nI tp) rd au xdr hy g 0 tg sg 0 rm ti py bu sm gz g1 g2 g3 g4 g5 (nI gc) (nI gfull) gx gway gav ggoal (nI gfound) 120 (nI gl) (nI gsz) g16 g17 k_fs2 fs2 k_fs3 fs3 k_fs4 fs4)) [0, 15, 16, 17, 18] (by decide) rfl
  have hKc : va_K (dC, dI) vwCl (xgl__t k_fs2 k_fs3 k_fs4) s := hK.sub [13, 14, 15] rfl
  refine va_calli (va_runV (As := [.int p0, .int p1]) (rest := []) ⟨hx, hb, hml, hown, hts⟩ (c_C_8_isStep_0 l dC dI _ xa xtape tp rd au xdr hy g tg sg 0 rm ti py bu sm gz g1 g2 g3 g4 g5 gc gfull gx gway gav ggoal gfound gl gsz g16 g17 k_fs2 fs2 k_fs3 fs3 k_fs4 fs4 p0 p1 htp (Nat.le_of_ble_eq_true rfl) hgc hgfull hgfound hgl hgsz) (cwV 2 hts g_C_8_then_0_C_8_isStep_0 rfl rfl rfl (by decide +kernel) ⟨Nat.le_of_ble_eq_true rfl, Nat.le_of_ble_eq_true rfl⟩) ⟨pu_bl, va_recv hK hP (ci := 8) (q0 := 0) rfl rfl, pu_in hPc hKc hDc⟩ rfl rfl hl.1 rfl (lv_room (Nat.le_of_ble_eq_true rfl)) eX8_then_3 ⟨Nat.le_of_ble_eq_true rfl, Nat.le_of_ble_eq_true rfl⟩) hS (fun q _ h => pu_fr hS hA q h) (pu_fr hS hA) (fun r_1 u t H1 locs ht hvm hw hB hz1 hk1 hS => ?_)
  have hP := pu_keep hP hk1
  clear hk1 hz1 ht hvm
  generalize H1 = H at hP hS ⊢
  obtain rfl : r_1 = 0 := hw
  refine lv_if_eq (tgt := 25) hx hb eX8_then_6 (by decide) (fun _ => ?_) (fun z => absurd z (by decide))
  refine lv_iconst (v := (-1)) hx hb eX8_then_25 (by decide) ?_
  exact W.iret (v := (-1)) hx hb hr (fun t ht hW => ⟨⟨(-1), (), rfl, trivial, trivial⟩, hS.F ht⟩) hS.2.2 eX8_then_26
theorem eX8_then_9 : decode cX8_then 9 = .ok (.aload_n 0, 1) := by decide +kernel
theorem eX8_then_10 : decode cX8_then 10 = .ok (.iload_n 3, 1) := by decide +kernel
theorem eX8_then_11 : decode cX8_then 11 = .ok (.invokevirtual 187, 3) := by decide +kernel
theorem eX8_then_14 : decode cX8_then 14 = .ok (.ifCond .eq 11, 3) := by decide +kernel
theorem eX8_then_17 : decode cX8_then 17 = .ok (.aload_n 0, 1) := by decide +kernel
theorem eX8_then_18 : decode cX8_then 18 = .ok (.iload_n 1, 1) := by decide +kernel
theorem eX8_then_19 : decode cX8_then 19 = .ok (.invokevirtual 337, 3) := by decide +kernel
theorem eX8_then_22 : decode cX8_then 22 = .ok (.ifCond .ne 5, 3) := by decide +kernel
theorem eX8_then_27 : decode cX8_then 27 = .ok (.aload_n 0, 1) := by decide +kernel
theorem eX8_then_28 : decode cX8_then 28 = .ok (.getfield 62, 3) := by decide +kernel
theorem eX8_then_31 : decode cX8_then 31 = .ok (.aload_n 0, 1) := by decide +kernel
theorem eX8_then_32 : decode cX8_then 32 = .ok (.getfield 23, 3) := by decide +kernel
theorem eX8_then_35 : decode cX8_then 35 = .ok (.iload_n 2, 1) := by decide +kernel
theorem eX8_then_36 : decode cX8_then 36 = .ok (.iload_n 3, 1) := by decide +kernel
theorem eX8_then_37 : decode cX8_then 37 = .ok (.invokevirtual 343, 3) := by decide +kernel
theorem eX8_then_40 : decode cX8_then 40 = .ok (.ireturn, 1) := by decide +kernel
abbrev vs_C_8_then : List Cond := .code yX8_then cX8_then 4 (some .int) :: CM
theorem g_C_8_then_C_8_isStep : GoodIn vs_C_8_then (wsV RX8 320 RX8 yX8_isStep vs_C_8_isStep) := cm_gV cm_603 cm_604 cm_605 cm_427 cm_599
theorem g_C_8_then_C_8_isClock : GoodIn vs_C_8_then (wsV RX8 187 RX8 yX8_isClock vs_C_8_isClock) := cm_gV cm_499 cm_500 cm_501 cm_427 cm_480
theorem g_C_8_then_C_8_timesRun : GoodIn vs_C_8_then (wsV RX8 337 RX8 yX8_timesRun vs_C_8_timesRun) := cm_gV cm_618 cm_619 cm_620 cm_427 cm_609
theorem g_C_8_then_C_6_clockBehind : GoodIn vs_C_8_then (wsV RX8 343 RX6 yX6_clockBehind vs_C_6_clockBehind) := cm_gV cm_622 cm_623 cm_624 cm_383 cm_402
set_option maxHeartbeats 4000000 in
set_option maxRecDepth 100000 in
theorem c_C_8_then (l : Launch) (dC : Nat → ClassId) (dI : Nat → Nat → Nat) (sz : Nat) (xa : Nat) (xtape : Nat) (tp : Nat) (rd : Nat) (au : Nat) (xdr : Nat) (hy : Nat) (g : Nat) (hs : Nat) (tg : Nat) (sg : Nat) (ss : Nat) (rm : Nat) (ti : Nat) (py : Nat) (bu : Nat) (sm : Nat) (nc : Nat) (np : Nat) (ne : Nat) (st0 : Nat) (q4 : Nat) (q5 : Nat) (q6 : Nat) (q7 : Nat) (q8 : Nat) (q9 : Nat) (q10 : Nat) (q11 : Nat) (q12 : Nat) (q13 : Nat) (q14 : Nat) (q15 : Nat) (q16 : Nat) (k_f4 : ClassId) (f4 : Nat → Int32) (k_f5 : ClassId) (q_f5 : Nat → Nat) (k_f6 : ClassId) (q_f6 : Nat → Nat) (k_f7 : ClassId) (f7 : Nat → Int32) (k_f8 : ClassId) (q_f8 : Nat → Nat) (k_f9 : ClassId) (q_f9 : Nat → Nat) (k_f10 : ClassId) (f10 : Nat → Int32) (k_f11 : ClassId) (f11 : Nat → Int32) (k_f12 : ClassId) (f12 : Nat → Int32) (k_f13 : ClassId) (f13 : Nat → Int32) (k_f14 : ClassId) (f14 : Nat → Int32) (k_f15 : ClassId) (f15 : Nat → Int32) (k_f16 : ClassId) (f16 : Nat → Int32) (gz : Nat) (g1 : Nat) (g2 : Nat) (g3 : Nat) (g4 : Nat) (g5 : Nat) (gc : Nat) (gfull : Nat) (gx : Int32) (gway : Int32) (gav : Int32) (ggoal : Int32) (gfound : Nat) (gl : Nat) (gsz : Nat) (g16 : Nat) (g17 : Nat) (k_fs2 : ClassId) (fs2 : Nat → Int32) (k_fs3 : ClassId) (fs3 : Nat → Int32) (k_fs4 : ClassId) (fs4 : Nat → Int32) (r0 : Nat) (ln : Nat) (r2 : Nat) (r3 : Nat) (r4 : Nat) (r5 : Nat) (nr : Nat) (r7 : Nat) (r8 : Nat) (tz : Nat) (k_j0 : ClassId) (q_j0 : Nat → Nat) (k_j2 : ClassId) (j2 : Nat → Int32) (k_j3 : ClassId) (q_j3 : Nat → Nat) (k_j4 : ClassId) (q_j4 : Nat → Nat) (k_j5 : ClassId) (j5 : Nat → Int32) (k_j7 : ClassId) (q_j7 : Nat → Nat) (k_j8 : ClassId) (j8 : Nat → Int32) (p0 : Int32) (p1 : Int32) (p2 : Int32) (htp : tp ≤ 900) (hhs : hs ≤ 1) (hss : ss ≤ 1) (hnc : nc ≤ 3) (hnp : np ≤ 8) (hne : ne ≤ 14) (hst0 : st0 ≤ 7) (hgc : gc ≤ 120) (hgfull : gfull ≤ 1) (hgfound : gfound ≤ 1) (hgl : gl ≤ 1) (hgsz : gsz ≤ 4) (hln : ln ≤ 119) (hnr : nr ≤ 1920) (hq0 : gz_ok gc fs2 fs3 fs4) : Met l yX8_then vs_C_8_then ({ frames := 4, cells := 0, slots := 0, locals := 95 }) (va_Pc [.ref xa, .int p0, .int p1, .int p2] (pu_B (dC, dI) (xti__w xa xtape (nI tp) rd au xdr hy g (nI hs) tg sg (nI ss) rm ti py bu sm (nI nc) (nI np) (nI ne) (nI st0) q4 q5 q6 q7 q8 q9 q10 q11 q12 q13 q14 q15 q16 k_f4 f4 k_f5 (bN 7 q_f5) k_f6 (bN 7 q_f6) k_f7 f7 k_f8 (bN 4 q_f8) k_f9 (bN 2 q_f9) k_f10 f10 k_f11 f11 k_f12 f12 k_f13 f13 k_f14 f14 k_f15 f15 k_f16 f16 gz g1 g2 g3 g4 g5 (nI gc) (nI gfull) gx gway gav ggoal (nI gfound) 120 (nI gl) (nI gsz) g16 g17 k_fs2 fs2 k_fs3 fs3 k_fs4 fs4 r0 (nI ln) r2 r3 r4 r5 (nI nr) r7 r8 tz k_j0 (bN 13 q_j0) k_j2 j2 k_j3 (bN 120 q_j3) k_j4 (bN 120 q_j4) k_j5 j5 k_j7 (bN 120 q_j7) k_j8 j8) (xti__t k_f4 k_f5 k_f6 k_f7 k_f8 k_f9 k_f10 k_f11 k_f12 k_f13 k_f14 k_f15 k_f16 k_fs2 k_fs3 k_fs4 k_j0 k_j2 k_j3 k_j4 k_j5 k_j7 k_j8) sz)) (va_Qi (fun (r : Int32) (_ : Unit) => True) (fun _ t => ∃ (z_j0 : Nat → Nat) (z_j2 : Nat → Int32) (z_j3 : Nat → Nat) (z_j4 : Nat → Nat) (z_j5 : Nat → Int32) (z_j7 : Nat → Nat) (z_ln : Nat) (z_nr : Nat), pu_E (dC, dI) (xti__w xa xtape (nI tp) rd au xdr hy g (nI hs) tg sg (nI ss) rm ti py bu sm (nI nc) (nI np) (nI ne) (nI st0) q4 q5 q6 q7 q8 q9 q10 q11 q12 q13 q14 q15 q16 k_f4 f4 k_f5 (bN 7 q_f5) k_f6 (bN 7 q_f6) k_f7 f7 k_f8 (bN 4 q_f8) k_f9 (bN 2 q_f9) k_f10 f10 k_f11 f11 k_f12 f12 k_f13 f13 k_f14 f14 k_f15 f15 k_f16 f16 gz g1 g2 g3 g4 g5 (nI gc) (nI gfull) gx gway gav ggoal (nI gfound) 120 (nI gl) (nI gsz) g16 g17 k_fs2 fs2 k_fs3 fs3 k_fs4 fs4 r0 (nI z_ln) r2 r3 r4 r5 (nI z_nr) r7 r8 tz k_j0 (bN 13 z_j0) k_j2 z_j2 k_j3 (bN 120 z_j3) k_j4 (bN 120 z_j4) k_j5 z_j5 k_j7 (bN 120 z_j7) k_j8 j8) (xti__t k_f4 k_f5 k_f6 k_f7 k_f8 k_f9 k_f10 k_f11 k_f12 k_f13 k_f14 k_f15 k_f16 k_fs2 k_fs3 k_fs4 k_j0 k_j2 k_j3 k_j4 k_j5 k_j7 k_j8) (va_A ((xti__w xa xtape (nI tp) rd au xdr hy g (nI hs) tg sg (nI ss) rm ti py bu sm (nI nc) (nI np) (nI ne) (nI st0) q4 q5 q6 q7 q8 q9 q10 q11 q12 q13 q14 q15 q16 k_f4 f4 k_f5 (bN 7 q_f5) k_f6 (bN 7 q_f6) k_f7 f7 k_f8 (bN 4 q_f8) k_f9 (bN 2 q_f9) k_f10 f10 k_f11 f11 k_f12 f12 k_f13 f13 k_f14 f14 k_f15 f15 k_f16 f16 gz g1 g2 g3 g4 g5 (nI gc) (nI gfull) gx gway gav ggoal (nI gfound) 120 (nI gl) (nI gsz) g16 g17 k_fs2 fs2 k_fs3 fs3 k_fs4 fs4 r0 (nI ln) r2 r3 r4 r5 (nI nr) r7 r8 tz k_j0 (bN 13 q_j0) k_j2 j2 k_j3 (bN 120 q_j3) k_j4 (bN 120 q_j4) k_j5 j5 k_j7 (bN 120 q_j7) k_j8 j8)) sz) t ∧ (z_ln ≤ 119) ∧ (z_nr ≤ 1920)) (va_A ((xti__w xa xtape (nI tp) rd au xdr hy g (nI hs) tg sg (nI ss) rm ti py bu sm (nI nc) (nI np) (nI ne) (nI st0) q4 q5 q6 q7 q8 q9 q10 q11 q12 q13 q14 q15 q16 k_f4 f4 k_f5 (bN 7 q_f5) k_f6 (bN 7 q_f6) k_f7 f7 k_f8 (bN 4 q_f8) k_f9 (bN 2 q_f9) k_f10 f10 k_f11 f11 k_f12 f12 k_f13 f13 k_f14 f14 k_f15 f15 k_f16 f16 gz g1 g2 g3 g4 g5 (nI gc) (nI gfull) gx gway gav ggoal (nI gfound) 120 (nI gl) (nI gsz) g16 g17 k_fs2 fs2 k_fs3 fs3 k_fs4 fs4 r0 (nI ln) r2 r3 r4 r5 (nI nr) r7 r8 tz k_j0 (bN 13 q_j0) k_j2 j2 k_j3 (bN 120 q_j3) k_j4 (bN 120 q_j4) k_j5 j5 k_j7 (bN 120 q_j7) k_j8 j8)) sz)) 0 0 (va_A ((xti__w xa xtape (nI tp) rd au xdr hy g (nI hs) tg sg (nI ss) rm ti py bu sm (nI nc) (nI np) (nI ne) (nI st0) q4 q5 q6 q7 q8 q9 q10 q11 q12 q13 q14 q15 q16 k_f4 f4 k_f5 (bN 7 q_f5) k_f6 (bN 7 q_f6) k_f7 f7 k_f8 (bN 4 q_f8) k_f9 (bN 2 q_f9) k_f10 f10 k_f11 f11 k_f12 f12 k_f13 f13 k_f14 f14 k_f15 f15 k_f16 f16 gz g1 g2 g3 g4 g5 (nI gc) (nI gfull) gx gway gav ggoal (nI gfound) 120 (nI gl) (nI gsz) g16 g17 k_fs2 fs2 k_fs3 fs3 k_fs4 fs4 r0 (nI ln) r2 r3 r4 r5 (nI nr) r7 r8 tz k_j0 (bN 13 q_j0) k_j2 j2 k_j3 (bN 120 q_j3) k_j4 (bN 120 q_j4) k_j5 j5 k_j7 (bN 120 q_j7) k_j8 j8)) sz) := by
  refine Met.ofW (cc := cX8_then) (maxL := 4) (ret := (some .int)) (by decide) rfl ?_
  intro p e s m args below meth c s₁ B hml hv
  obtain ⟨rfl, rfl, hP, hK, hD0⟩ := hv
  have hx := B.exec
  have hb := B.bytes
  have hr := B.returns
  have hts := atoms_spec (ws := vs_C_8_then) B.pre
  have v_14 := hts (.fieldLink RX8 62 "ClockReach" "timing" "LClockReach$Timing;") (List.mem_cons_of_mem _ cm_601)
  have v_15 := hts (.fieldLink RX8 23 "ClockReach" "model" "LClockReach$Automaton;") (List.mem_cons_of_mem _ cm_434)
  have hown : s.vm.findClass RX8 = some m.cls := findClass_of_methodNamed B.named
  have hlocks := B.notSynchronized
  have hiX8 : ∀ w ∈ wsX80, w ∈ vs_C_8_then := fun _ h => List.mem_cons_of_mem _ (cm_X8 h)
  have hD := hD0.self (sz := s.heap.size)
  generalize hAe : va_A ((xti__w xa xtape (nI tp) rd au xdr hy g (nI hs) tg sg (nI ss) rm ti py bu sm (nI nc) (nI np) (nI ne) (nI st0) q4 q5 q6 q7 q8 q9 q10 q11 q12 q13 q14 q15 q16 k_f4 f4 k_f5 (bN 7 q_f5) k_f6 (bN 7 q_f6) k_f7 f7 k_f8 (bN 4 q_f8) k_f9 (bN 2 q_f9) k_f10 f10 k_f11 f11 k_f12 f12 k_f13 f13 k_f14 f14 k_f15 f15 k_f16 f16 gz g1 g2 g3 g4 g5 (nI gc) (nI gfull) gx gway gav ggoal (nI gfound) 120 (nI gl) (nI gsz) g16 g17 k_fs2 fs2 k_fs3 fs3 k_fs4 fs4 r0 (nI ln) r2 r3 r4 r5 (nI nr) r7 r8 tz k_j0 (bN 13 q_j0) k_j2 j2 k_j3 (bN 120 q_j3) k_j4 (bN 120 q_j4) k_j5 j5 k_j7 (bN 120 q_j7) k_j8 j8)) s.heap.size = A at hD ⊢
  have hA : ∀ q : Nat, s.heap.size ≤ q → A q := fun q h => by rw [← hAe]; exact Or.inr h
  have hS : va_S A s.heap s.heap [] := va_S.rf
  have hl := lv_entry ([.ref xa, .int p0, .int p1, .int p2]) (n := 4) (Nat.le_of_ble_eq_true rfl)
  rw [lg_entry_eq]
  generalize (lg_sl ([.ref xa, .int p0, .int p1, .int p2]) ++ List.replicate (4 - (lg_sl ([.ref xa, .int p0, .int p1, .int p2])).length) Slot.unset).toArray = ls at hl ⊢
  have hl : lv_has ls 4 [(0, .ref xa), (1, .int p0), (2, .int p1), (3, .int p2)] := hl
  refine lv_aload_n hx hb eX8_then_0 rfl (lv_at hl 0 rfl) ?_
  refine lv_iload_n hx hb eX8_then_1 rfl (lv_at hl 1 rfl) ?_
  refine lv_iload_n hx hb eX8_then_2 rfl (lv_at hl 2 rfl) ?_
  have hPc : va_P (dC, dI) vwCl (xgl__w xa xtape (nI tp) rd au xdr hy g (nI hs) tg sg (nI ss) rm ti py bu sm gz g1 g2 g3 g4 g5 (nI gc) (nI gfull) gx gway gav ggoal (nI gfound) 120 (nI gl) (nI gsz) g16 g17 k_fs2 fs2 k_fs3 fs3 k_fs4 fs4) _ := hP.sub [0, 15, 16, 17, 18] rfl
  have hDc := hD.sub (ws' := (xgl__w xa xtape (nI tp) rd au xdr hy g (nI hs) tg sg (nI ss) rm ti py bu sm gz g1 g2 g3 g4 g5 (nI gc) (nI gfull) gx gway gav ggoal (nI gfound) 120 (nI gl) (nI gsz) g16 g17 k_fs2 fs2 k_fs3 fs3 k_fs4 fs4)) [0, 15, 16, 17, 18] (by decide) rfl
  have hKc : va_K (dC, dI) vwCl (xgl__t k_fs2 k_fs3 k_fs4) s := hK.sub [13, 14, 15] rfl
  refine va_calli (va_runV (As := [.int p0, .int p1]) (rest := []) ⟨hx, hb, hml, hown, hts⟩ (c_C_8_isStep l dC dI _ xa xtape tp rd au xdr hy g hs tg sg ss rm ti py bu sm gz g1 g2 g3 g4 g5 gc gfull gx gway gav ggoal gfound gl gsz g16 g17 k_fs2 fs2 k_fs3 fs3 k_fs4 fs4 p0 p1 htp hhs hss hgc hgfull hgfound hgl hgsz (by assumption)) (cwV 2 hts g_C_8_then_C_8_isStep rfl rfl rfl (by decide +kernel) ⟨Nat.le_of_ble_eq_true rfl, Nat.le_of_ble_eq_true rfl⟩) ⟨pu_bl, va_recv hK hP (ci := 8) (q0 := 0) rfl rfl, pu_in hPc hKc hDc⟩ rfl rfl hl.1 rfl (lv_room (Nat.le_of_ble_eq_true rfl)) eX8_then_3 ⟨Nat.le_of_ble_eq_true rfl, Nat.le_of_ble_eq_true rfl⟩) hS (fun q _ h => pu_fr hS hA q h) (pu_fr hS hA) (fun r_1 u t H1 locs ht hvm hw hB hz1 hk1 hS => ?_)
  have hP := pu_keep hP hk1
  clear hk1 hz1 ht hvm
  generalize H1 = H at hP hS ⊢
  rcases hw with ⟨rfl, n_2, n_3, hn_2, hn_3, rfl, rfl⟩ | rfl
  · refine lv_if_eq (tgt := 25) hx hb eX8_then_6 (by decide) (fun z => absurd z (by decide)) (fun _ => ?_)
    refine lv_aload_n hx hb eX8_then_9 rfl (lv_at hl 0 rfl) ?_
    refine lv_iload_n hx hb eX8_then_10 rfl (lv_at hl 3 rfl) ?_
    have hPc : va_P (dC, dI) vwCl (xo__w xa xtape (nI tp) rd au xdr hy g (nI hs) tg sg (nI ss) rm ti py bu sm (nI nc) (nI np) (nI ne) (nI st0) q4 q5 q6 q7 q8 q9 q10 q11 q12 q13 q14 q15 q16) _ := hP.sub [0, 1] rfl
    have hDc := hD.sub (ws' := (xo__w xa xtape (nI tp) rd au xdr hy g (nI hs) tg sg (nI ss) rm ti py bu sm (nI nc) (nI np) (nI ne) (nI st0) q4 q5 q6 q7 q8 q9 q10 q11 q12 q13 q14 q15 q16)) [0, 1] (by decide) rfl
    have hKc : va_K (dC, dI) vwCl (xo__t ) s := hK.sub [] rfl
    refine va_calli (va_runV (As := [.int p2]) (rest := []) ⟨hx, hb, hml, hown, hts⟩ (c_C_8_isClock l dC dI _ xa xtape tp rd au xdr hy g hs tg sg ss rm ti py bu sm nc np ne (nI st0) q4 q5 q6 q7 q8 q9 q10 q11 q12 q13 q14 q15 q16 p2 htp hhs hss hnc hnp hne (Or.inr ⟨st0, hst0, rfl⟩)) (cwV 1 hts g_C_8_then_C_8_isClock rfl rfl rfl (by decide +kernel) ⟨Nat.le_of_ble_eq_true rfl, Nat.le_of_ble_eq_true rfl⟩) ⟨pu_bl, va_recv hK hP (ci := 8) (q0 := 0) rfl rfl, pu_in hPc hKc hDc⟩ rfl rfl hl.1 rfl (lv_room (Nat.le_of_ble_eq_true rfl)) eX8_then_11 ⟨Nat.le_of_ble_eq_true rfl, Nat.le_of_ble_eq_true rfl⟩) hS (fun q _ h => pu_fr hS hA q h) (pu_fr hS hA) (fun r_4 u t H1 locs ht hvm hw hB hz1 hk1 hS => ?_)
    have hP := pu_keep hP hk1
    clear hk1 hz1 ht hvm
    generalize H1 = H at hP hS ⊢
    rcases hw with ⟨rfl, hw⟩ | rfl
    · obtain ⟨n_5, hn_5, rfl⟩ := hw
      refine lv_if_eq (tgt := 25) hx hb eX8_then_14 (by decide) (fun z => absurd z (by decide)) (fun _ => ?_)
      refine lv_aload_n hx hb eX8_then_17 rfl (lv_at hl 0 rfl) ?_
      refine lv_iload_n hx hb eX8_then_18 rfl (lv_at hl 1 rfl) ?_
      have hFc := pu_free hD hS hA
      refine va_calli (va_runV (As := [.int (nI n_2)]) (rest := []) ⟨hx, hb, hml, hown, hts⟩ (c_C_8_timesRun l dC dI _ xa xtape tp rd au xdr hy g hs tg sg ss rm ti py bu sm nc np ne st0 q4 q5 q6 q7 q8 q9 q10 q11 q12 q13 q14 q15 q16 k_f4 f4 k_f5 q_f5 k_f6 q_f6 k_f7 f7 k_f8 q_f8 k_f9 q_f9 k_f10 f10 k_f11 f11 k_f12 f12 k_f13 f13 k_f14 f14 k_f15 f15 k_f16 f16 gz g1 g2 g3 g4 g5 gc gfull gx gway gav ggoal gfound gl gsz g16 g17 k_fs2 fs2 k_fs3 fs3 k_fs4 fs4 r0 ln r2 r3 r4 r5 nr r7 r8 tz k_j0 q_j0 k_j2 j2 k_j3 q_j3 k_j4 q_j4 k_j5 j5 k_j7 q_j7 k_j8 j8 n_2 htp hhs hss hnc hnp hne hst0 hgc hgfull hgfound hgl hgsz hln hnr (by omega) (by assumption) (by omega)) (cwV 1 hts g_C_8_then_C_8_timesRun rfl rfl rfl (by decide +kernel) ⟨Nat.le_of_ble_eq_true rfl, Nat.le_of_ble_eq_true rfl⟩) ⟨pu_bl, va_recv hK hP (ci := 8) (q0 := 0) rfl rfl, pu_in hP hK hD⟩ rfl rfl hl.1 rfl (lv_room (Nat.le_of_ble_eq_true rfl)) eX8_then_19 ⟨Nat.le_of_ble_eq_true rfl, Nat.le_of_ble_eq_true rfl⟩) hS (fun q _ h => hFc q h) hFc (fun r_6 u t H1 locs ht hvm hw hB hz1 hk1 hS => ?_)
      obtain ⟨z_j0_7, z_j2_8, z_j3_9, z_j4_10, z_j5_11, z_j7_12, z_ln_13, z_nr_14, ⟨hP1, -, hD1⟩, hz_ln_13, hz_nr_14⟩ := hB
      rw [ht] at hP1
      have hP := hP1
      have hD := pu_all hFc hD1
      clear hP1 hD1 hFc
      clear hk1 hz1 ht hvm
      generalize H1 = H at hP hS ⊢
      obtain ⟨u_15, hu_15, rfl⟩ := hw
      refine lv_if_ne (tgt := 27) hx hb eX8_then_22 (by decide) (fun c_16 => ?_) (fun c_16 => ?_)
      · have c_16 : ¬ u_15 = 0 := fun z => c_16 ((nI_eq (a := u_15) (b := 0) (Nat.lt_of_le_of_lt hu_15 (Nat.le_of_ble_eq_true rfl)) (Nat.le_of_ble_eq_true rfl)).mpr z)
        refine lv_aload_n hx hb eX8_then_27 rfl (lv_at hl 0 rfl) ?_
        refine va_get (D := (dC, dI)) (ci := 8) (v := .ref ti) (C := RX8) (T := TX8) (N := 16) hx hb hts hiX8 hown hK hP 0 rfl rfl 12 (by decide) v_14 (fun _ h9 => h9) rfl eX8_then_28 ?_
        refine lv_aload_n hx hb eX8_then_31 rfl (lv_at hl 0 rfl) ?_
        refine va_get (D := (dC, dI)) (ci := 8) (v := .ref au) (C := RX8) (T := TX8) (N := 16) hx hb hts hiX8 hown hK hP 0 rfl rfl 3 (by decide) v_15 (fun _ h9 => h9) rfl eX8_then_32 ?_
        refine lv_iload_n hx hb eX8_then_35 rfl (lv_at hl 2 rfl) ?_
        refine lv_iload_n hx hb eX8_then_36 rfl (lv_at hl 3 rfl) ?_
        have hPc : va_P (dC, dI) vwCl (ta__w ti r0 (nI z_ln_13) r2 r3 r4 r5 (nI z_nr_14) r7 r8 tz k_j0 (bN 13 z_j0_7) k_j2 z_j2_8 k_j3 (bN 120 z_j3_9) k_j4 (bN 120 z_j4_10) k_j5 z_j5_11 k_j7 (bN 120 z_j7_12) k_j8 j8 au (nI nc) (nI np) (nI ne) (nI st0) q4 q5 q6 q7 q8 q9 q10 q11 q12 q13 q14 q15 q16 k_f4 f4 k_f5 (bN 7 q_f5) k_f6 (bN 7 q_f6) k_f7 f7 k_f8 (bN 4 q_f8) k_f9 (bN 2 q_f9) k_f10 f10 k_f11 f11 k_f12 f12 k_f13 f13 k_f14 f14 k_f15 f15 k_f16 f16) _ := hP.sub [19, 20, 21, 22, 23, 24, 25, 26, 1, 2, 3, 4, 5, 6, 7, 8, 9, 10, 11, 12, 13, 14] rfl
        have hDc := hD.sub (ws' := (ta__w ti r0 (nI z_ln_13) r2 r3 r4 r5 (nI z_nr_14) r7 r8 tz k_j0 (bN 13 z_j0_7) k_j2 z_j2_8 k_j3 (bN 120 z_j3_9) k_j4 (bN 120 z_j4_10) k_j5 z_j5_11 k_j7 (bN 120 z_j7_12) k_j8 j8 au (nI nc) (nI np) (nI ne) (nI st0) q4 q5 q6 q7 q8 q9 q10 q11 q12 q13 q14 q15 q16 k_f4 f4 k_f5 (bN 7 q_f5) k_f6 (bN 7 q_f6) k_f7 f7 k_f8 (bN 4 q_f8) k_f9 (bN 2 q_f9) k_f10 f10 k_f11 f11 k_f12 f12 k_f13 f13 k_f14 f14 k_f15 f15 k_f16 f16)) [19, 20, 21, 22, 23, 24, 25, 26, 1, 2, 3, 4, 5, 6, 7, 8, 9, 10, 11, 12, 13, 14] (by decide) rfl
        have hKc : va_K (dC, dI) vwCl (ta__t k_j0 k_j2 k_j3 k_j4 k_j5 k_j7 k_j8 k_f4 k_f5 k_f6 k_f7 k_f8 k_f9 k_f10 k_f11 k_f12 k_f13 k_f14 k_f15 k_f16) s := hK.sub [16, 17, 18, 19, 20, 21, 22, 0, 1, 2, 3, 4, 5, 6, 7, 8, 9, 10, 11, 12] rfl
        refine va_calli (va_runV (As := [.ref au, .int (nI n_3), .int (nI n_5)]) (rest := []) ⟨hx, hb, hml, hown, hts⟩ (c_C_6_clockBehind l dC dI _ ti r0 z_ln_13 r2 r3 r4 r5 z_nr_14 r7 r8 tz k_j0 z_j0_7 k_j2 z_j2_8 k_j3 z_j3_9 k_j4 z_j4_10 k_j5 z_j5_11 k_j7 z_j7_12 k_j8 j8 au nc np ne (nI st0) q4 q5 q6 q7 q8 q9 q10 q11 q12 q13 q14 q15 q16 k_f4 f4 k_f5 q_f5 k_f6 q_f6 k_f7 f7 k_f8 q_f8 k_f9 q_f9 k_f10 f10 k_f11 f11 k_f12 f12 k_f13 f13 k_f14 f14 k_f15 f15 k_f16 f16 n_3 n_5 hz_ln_13 hz_nr_14 hnc hnp hne (Or.inr ⟨st0, hst0, rfl⟩) (by omega) (by omega)) (cwV 3 hts g_C_8_then_C_6_clockBehind rfl rfl rfl (by decide +kernel) ⟨Nat.le_of_ble_eq_true rfl, Nat.le_of_ble_eq_true rfl⟩) ⟨pu_bl, va_recv hK hP (ci := 6) (q0 := 19) rfl rfl, pu_in hPc hKc hDc⟩ rfl rfl hl.1 rfl (lv_room (Nat.le_of_ble_eq_true rfl)) eX8_then_37 ⟨Nat.le_of_ble_eq_true rfl, Nat.le_of_ble_eq_true rfl⟩) hS (fun q _ h => pu_fr hS hA q h) (pu_fr hS hA) (fun r_17 u t H1 locs ht hvm hw hB hz1 hk1 hS => ?_)
        have hP := pu_keep hP hk1
        clear hk1 hz1 ht hvm
        generalize H1 = H at hP hS ⊢
        exact W.iret (v := r_17) hx hb hr (fun t ht hW => ⟨⟨r_17, (), rfl, trivial, ⟨z_j0_7, z_j2_8, z_j3_9, z_j4_10, z_j5_11, z_j7_12, z_ln_13, z_nr_14, ⟨by rw [ht]; exact hP, va_K.moved hW.alike hK, hD⟩, hz_ln_13, hz_nr_14⟩⟩, hS.F ht⟩) hS.2.2 eX8_then_40
      · have c_16 : u_15 = 0 := (nI_eq (a := u_15) (b := 0) (Nat.lt_of_le_of_lt hu_15 (Nat.le_of_ble_eq_true rfl)) (Nat.le_of_ble_eq_true rfl)).mp c_16
        refine lv_iconst (v := (-1)) hx hb eX8_then_25 (by decide) ?_
        exact W.iret (v := (-1)) hx hb hr (fun t ht hW => ⟨⟨(-1), (), rfl, trivial, ⟨z_j0_7, z_j2_8, z_j3_9, z_j4_10, z_j5_11, z_j7_12, z_ln_13, z_nr_14, ⟨by rw [ht]; exact hP, va_K.moved hW.alike hK, hD⟩, hz_ln_13, hz_nr_14⟩⟩, hS.F ht⟩) hS.2.2 eX8_then_26
    · refine lv_if_eq (tgt := 25) hx hb eX8_then_14 (by decide) (fun _ => ?_) (fun z => absurd z (by decide))
      refine lv_iconst (v := (-1)) hx hb eX8_then_25 (by decide) ?_
      exact W.iret (v := (-1)) hx hb hr (fun t ht hW => ⟨⟨(-1), (), rfl, trivial, ⟨q_j0, j2, q_j3, q_j4, j5, q_j7, ln, nr, ⟨by rw [ht]; exact hP, va_K.moved hW.alike hK, hD⟩, hln, hnr⟩⟩, hS.F ht⟩) hS.2.2 eX8_then_26
  · refine lv_if_eq (tgt := 25) hx hb eX8_then_6 (by decide) (fun _ => ?_) (fun z => absurd z (by decide))
    refine lv_iconst (v := (-1)) hx hb eX8_then_25 (by decide) ?_
    exact W.iret (v := (-1)) hx hb hr (fun t ht hW => ⟨⟨(-1), (), rfl, trivial, ⟨q_j0, j2, q_j3, q_j4, j5, q_j7, ln, nr, ⟨by rw [ht]; exact hP, va_K.moved hW.alike hK, hD⟩, hln, hnr⟩⟩, hS.F ht⟩) hS.2.2 eX8_then_26
theorem eX8_latest_0 : decode cX8_latest 0 = .ok (.aload_n 0, 1) := by decide +kernel
theorem eX8_latest_1 : decode cX8_latest 1 = .ok (.iload_n 1, 1) := by decide +kernel
theorem eX8_latest_2 : decode cX8_latest 2 = .ok (.iload_n 2, 1) := by decide +kernel
theorem eX8_latest_3 : decode cX8_latest 3 = .ok (.invokevirtual 320, 3) := by decide +kernel
theorem eX8_latest_6 : decode cX8_latest 6 = .ok (.ifCond .eq 14, 3) := by decide +kernel
theorem eX8_latest_20 : decode cX8_latest 20 = .ok (.iconst (-1), 1) := by decide +kernel
theorem eX8_latest_21 : decode cX8_latest 21 = .ok (.ireturn, 1) := by decide +kernel
abbrev vs_C_8_latest_0 : List Cond := .code yX8_latest cX8_latest 4 (some .int) :: CM
theorem g_C_8_latest_0_C_8_isStep_0 : GoodIn vs_C_8_latest_0 (wsV RX8 320 RX8 yX8_isStep vs_C_8_isStep_0) := cm_gV cm_603 cm_604 cm_605 cm_427 cm_599
set_option maxHeartbeats 4000000 in
set_option maxRecDepth 100000 in
theorem c_C_8_latest_0 (l : Launch) (dC : Nat → ClassId) (dI : Nat → Nat → Nat) (sz : Nat) (xa : Nat) (xtape : Nat) (tp : Nat) (rd : Nat) (au : Nat) (xdr : Nat) (hy : Nat) (g : Nat) (tg : Nat) (sg : Nat) (rm : Nat) (ti : Nat) (py : Nat) (bu : Nat) (sm : Nat) (nc : Nat) (ne : Nat) (st0 : Int32) (q4 : Nat) (q5 : Nat) (q6 : Nat) (q7 : Nat) (q8 : Nat) (q9 : Nat) (q10 : Nat) (q11 : Nat) (q12 : Nat) (q13 : Nat) (q14 : Nat) (q15 : Nat) (q16 : Nat) (k_f4 : ClassId) (f4 : Nat → Int32) (k_f5 : ClassId) (q_f5 : Nat → Nat) (k_f6 : ClassId) (q_f6 : Nat → Nat) (k_f7 : ClassId) (f7 : Nat → Int32) (k_f8 : ClassId) (q_f8 : Nat → Nat) (k_f9 : ClassId) (q_f9 : Nat → Nat) (k_f10 : ClassId) (f10 : Nat → Int32) (k_f11 : ClassId) (f11 : Nat → Int32) (k_f12 : ClassId) (f12 : Nat → Int32) (k_f13 : ClassId) (f13 : Nat → Int32) (k_f14 : ClassId) (f14 : Nat → Int32) (k_f15 : ClassId) (f15 : Nat → Int32) (k_f16 : ClassId) (f16 : Nat → Int32) (gz : Nat) (g1 : Nat) (g2 : Nat) (g3 : Nat) (g4 : Nat) (g5 : Nat) (gc : Nat) (gfull : Nat) (gx : Int32) (gway : Int32) (gav : Int32) (ggoal : Int32) (gfound : Nat) (gl : Nat) (gsz : Nat) (g16 : Nat) (g17 : Nat) (k_fs2 : ClassId) (fs2 : Nat → Int32) (k_fs3 : ClassId) (fs3 : Nat → Int32) (k_fs4 : ClassId) (fs4 : Nat → Int32) (r0 : Nat) (ln : Nat) (r2 : Nat) (r3 : Nat) (r4 : Nat) (r5 : Nat) (nr : Nat) (r7 : Nat) (r8 : Nat) (tz : Nat) (k_j0 : ClassId) (q_j0 : Nat → Nat) (k_j2 : ClassId) (j2 : Nat → Int32) (k_j3 : ClassId) (q_j3 : Nat → Nat) (k_j4 : ClassId) (q_j4 : Nat → Nat) (k_j5 : ClassId) (j5 : Nat → Int32) (k_j7 : ClassId) (q_j7 : Nat → Nat) (k_j8 : ClassId) (j8 : Nat → Int32) (p0 : Int32) (p1 : Int32) (p2 : Int32) (htp : tp ≤ 900) (hnc : nc ≤ 3) (hne : ne ≤ 14) (hst0 : pm1 7 st0) (hgc : gc ≤ 120) (hgfull : gfull ≤ 1) (hgfound : gfound ≤ 1) (hgl : gl ≤ 1) (hgsz : gsz ≤ 4) (hln : ln ≤ 119) (hnr : nr ≤ 1920) : Met l yX8_latest vs_C_8_latest_0 ({ frames := 2, cells := 0, slots := 0, locals := 43 }) (va_Pc [.ref xa, .int p0, .int p1, .int p2] (pu_B (dC, dI) (xti__w xa xtape (nI tp) rd au xdr hy g 0 tg sg 0 rm ti py bu sm (nI nc) 0 (nI ne) st0 q4 q5 q6 q7 q8 q9 q10 q11 q12 q13 q14 q15 q16 k_f4 f4 k_f5 (bN 7 q_f5) k_f6 (bN 7 q_f6) k_f7 f7 k_f8 (bN 4 q_f8) k_f9 (bN 2 q_f9) k_f10 f10 k_f11 f11 k_f12 f12 k_f13 f13 k_f14 f14 k_f15 f15 k_f16 f16 gz g1 g2 g3 g4 g5 (nI gc) (nI gfull) gx gway gav ggoal (nI gfound) 120 (nI gl) (nI gsz) g16 g17 k_fs2 fs2 k_fs3 fs3 k_fs4 fs4 r0 (nI ln) r2 r3 r4 r5 (nI nr) r7 r8 tz k_j0 (bN 13 q_j0) k_j2 j2 k_j3 (bN 120 q_j3) k_j4 (bN 120 q_j4) k_j5 j5 k_j7 (bN 120 q_j7) k_j8 j8) (xti__t k_f4 k_f5 k_f6 k_f7 k_f8 k_f9 k_f10 k_f11 k_f12 k_f13 k_f14 k_f15 k_f16 k_fs2 k_fs3 k_fs4 k_j0 k_j2 k_j3 k_j4 k_j5 k_j7 k_j8) sz)) (va_Qi (fun (r : Int32) (_ : Unit) => True) (fun _ _ => True) (va_A [] sz)) 0 0 (va_A [] sz) := by
  refine Met.ofW (cc := cX8_latest) (maxL := 4) (ret := (some .int)) (by decide) rfl ?_
  intro p e s m args below meth c s₁ B hml hv
  obtain ⟨rfl, rfl, hP, hK, hD0⟩ := hv
  have hx := B.exec
  have hb := B.bytes
  have hr := B.returns
  have hts := atoms_spec (ws := vs_C_8_latest_0) B.pre
  have hown : s.vm.findClass RX8 = some m.cls := findClass_of_methodNamed B.named
  have hlocks := B.notSynchronized
  have hD := hD0
  have hA : ∀ q : Nat, s.heap.size ≤ q → va_A [] s.heap.size q := fun _ h => Or.inr h
  have hS : va_S (va_A [] s.heap.size) s.heap s.heap [] := va_S.rf
  have hl := lv_entry ([.ref xa, .int p0, .int p1, .int p2]) (n := 4) (Nat.le_of_ble_eq_true rfl)
  rw [lg_entry_eq]
  generalize (lg_sl ([.ref xa, .int p0, .int p1, .int p2]) ++ List.replicate (4 - (lg_sl ([.ref xa, .int p0, .int p1, .int p2])).length) Slot.unset).toArray = ls at hl ⊢
  have hl : lv_has ls 4 [(0, .ref xa), (1, .int p0), (2, .int p1), (3, .int p2)] := hl
  refine lv_aload_n hx hb eX8_latest_0 rfl (lv_at hl 0 rfl) ?_
  refine lv_iload_n hx hb eX8_latest_1 rfl (lv_at hl 1 rfl) ?_
  refine lv_iload_n hx hb eX8_latest_2 rfl (lv_at hl 2 rfl) ?_
  have hPc : va_P (dC, dI) vwCl (xgl__w xa xtape (nI tp) rd au xdr hy g 0 tg sg 0 rm ti py bu sm gz g1 g2 g3 g4 g5 (nI gc) (nI gfull) gx gway gav ggoal (nI gfound) 120 (nI gl) (nI gsz) g16 g17 k_fs2 fs2 k_fs3 fs3 k_fs4 fs4) _ := hP.sub [0, 15, 16, 17, 18] rfl
  have hDc := hD.sub (ws' := (xgl__w xa xtape (nI tp) rd au xdr hy g 0 tg sg 0 rm ti py bu sm gz g1 g2 g3 g4 g5 (nI gc) (nI gfull) gx gway gav ggoal (nI gfound) 120 (nI gl) (nI gsz) g16 g17 k_fs2 fs2 k_fs3 fs3 k_fs4 fs4)) [0, 15, 16, 17, 18] (by decide) rfl
  have hKc : va_K (dC, dI) vwCl (xgl__t k_fs2 k_fs3 k_fs4) s := hK.sub [13, 14, 15] rfl
  refine va_calli (va_runV (As := [.int p0, .int p1]) (rest := []) ⟨hx, hb, hml, hown, hts⟩ (c_C_8_isStep_0 l dC dI _ xa xtape tp rd au xdr hy g tg sg 0 rm ti py bu sm gz g1 g2 g3 g4 g5 gc gfull gx gway gav ggoal gfound gl gsz g16 g17 k_fs2 fs2 k_fs3 fs3 k_fs4 fs4 p0 p1 htp (Nat.le_of_ble_eq_true rfl) hgc hgfull hgfound hgl hgsz) (cwV 2 hts g_C_8_latest_0_C_8_isStep_0 rfl rfl rfl (by decide +kernel) ⟨Nat.le_of_ble_eq_true rfl, Nat.le_of_ble_eq_true rfl⟩) ⟨pu_bl, va_recv hK hP (ci := 8) (q0 := 0) rfl rfl, pu_in hPc hKc hDc⟩ rfl rfl hl.1 rfl (lv_room (Nat.le_of_ble_eq_true rfl)) eX8_latest_3 ⟨Nat.le_of_ble_eq_true rfl, Nat.le_of_ble_eq_true rfl⟩) hS (fun q _ h => pu_fr hS hA q h) (pu_fr hS hA) (fun r_1 u t H1 locs ht hvm hw hB hz1 hk1 hS => ?_)
  have hP := pu_keep hP hk1
  clear hk1 hz1 ht hvm
  generalize H1 = H at hP hS ⊢
  obtain rfl : r_1 = 0 := hw
  refine lv_if_eq (tgt := 20) hx hb eX8_latest_6 (by decide) (fun _ => ?_) (fun z => absurd z (by decide))
  refine lv_iconst (v := (-1)) hx hb eX8_latest_20 (by decide) ?_
  exact W.iret (v := (-1)) hx hb hr (fun t ht hW => ⟨⟨(-1), (), rfl, trivial, trivial⟩, hS.F ht⟩) hS.2.2 eX8_latest_21
theorem eX8_latest_9 : decode cX8_latest 9 = .ok (.iload_n 3, 1) := by decide +kernel
theorem eX8_latest_10 : decode cX8_latest 10 = .ok (.ifCond .lt 10, 3) := by decide +kernel
theorem eX8_latest_13 : decode cX8_latest 13 = .ok (.iload_n 3, 1) := by decide +kernel
theorem eX8_latest_14 : decode cX8_latest 14 = .ok (.sipush 1000, 3) := by decide +kernel
theorem eX8_latest_17 : decode cX8_latest 17 = .ok (.if_icmp .le 5, 3) := by decide +kernel
theorem eX8_latest_22 : decode cX8_latest 22 = .ok (.aload_n 0, 1) := by decide +kernel
theorem eX8_latest_23 : decode cX8_latest 23 = .ok (.getfield 62, 3) := by decide +kernel
theorem eX8_latest_26 : decode cX8_latest 26 = .ok (.aload_n 0, 1) := by decide +kernel
theorem eX8_latest_27 : decode cX8_latest 27 = .ok (.getfield 42, 3) := by decide +kernel
theorem eX8_latest_30 : decode cX8_latest 30 = .ok (.iload_n 1, 1) := by decide +kernel
theorem eX8_latest_31 : decode cX8_latest 31 = .ok (.invokevirtual 323, 3) := by decide +kernel
theorem eX8_latest_34 : decode cX8_latest 34 = .ok (.aload_n 0, 1) := by decide +kernel
theorem eX8_latest_35 : decode cX8_latest 35 = .ok (.getfield 62, 3) := by decide +kernel
theorem eX8_latest_38 : decode cX8_latest 38 = .ok (.aload_n 0, 1) := by decide +kernel
theorem eX8_latest_39 : decode cX8_latest 39 = .ok (.getfield 23, 3) := by decide +kernel
theorem eX8_latest_42 : decode cX8_latest 42 = .ok (.invokevirtual 330, 3) := by decide +kernel
theorem eX8_latest_45 : decode cX8_latest 45 = .ok (.aload_n 0, 1) := by decide +kernel
theorem eX8_latest_46 : decode cX8_latest 46 = .ok (.getfield 62, 3) := by decide +kernel
theorem eX8_latest_49 : decode cX8_latest 49 = .ok (.iload_n 3, 1) := by decide +kernel
theorem eX8_latest_50 : decode cX8_latest 50 = .ok (.sipush 256, 3) := by decide +kernel
theorem eX8_latest_53 : decode cX8_latest 53 = .ok (.imul, 1) := by decide +kernel
theorem eX8_latest_54 : decode cX8_latest 54 = .ok (.invokevirtual 354, 3) := by decide +kernel
theorem eX8_latest_57 : decode cX8_latest 57 = .ok (.ifCond .eq 17, 3) := by decide +kernel
theorem eX8_latest_60 : decode cX8_latest 60 = .ok (.aload_n 0, 1) := by decide +kernel
theorem eX8_latest_61 : decode cX8_latest 61 = .ok (.getfield 62, 3) := by decide +kernel
theorem eX8_latest_64 : decode cX8_latest 64 = .ok (.getfield 340, 3) := by decide +kernel
theorem eX8_latest_67 : decode cX8_latest 67 = .ok (.iload_n 2, 1) := by decide +kernel
theorem eX8_latest_68 : decode cX8_latest 68 = .ok (.iconst 1, 1) := by decide +kernel
theorem eX8_latest_69 : decode cX8_latest 69 = .ok (.iadd, 1) := by decide +kernel
theorem eX8_latest_70 : decode cX8_latest 70 = .ok (.iaload, 1) := by decide +kernel
theorem eX8_latest_71 : decode cX8_latest 71 = .ok (.goto 4, 3) := by decide +kernel
theorem eX8_latest_74 : decode cX8_latest 74 = .ok (.iconst (-1), 1) := by decide +kernel
theorem eX8_latest_75 : decode cX8_latest 75 = .ok (.ireturn, 1) := by decide +kernel
abbrev vs_C_8_latest : List Cond := .code yX8_latest cX8_latest 4 (some .int) :: CM
theorem g_C_8_latest_C_8_isStep : GoodIn vs_C_8_latest (wsV RX8 320 RX8 yX8_isStep vs_C_8_isStep) := cm_gV cm_603 cm_604 cm_605 cm_427 cm_599
theorem g_C_8_latest_C_6_loadRun : GoodIn vs_C_8_latest (wsV RX8 323 RX6 yX6_loadRun vs_C_6_loadRun) := cm_gV cm_606 cm_607 cm_608 cm_383 cm_364
theorem g_C_8_latest_C_6_layRules : GoodIn vs_C_8_latest (wsV RX8 330 RX6 yX6_layRules vs_C_6_layRules) := cm_gV cm_610 cm_611 cm_612 cm_383 cm_370
theorem g_C_8_latest_C_6_findsGreatest : GoodIn vs_C_8_latest (wsV RX8 354 RX6 yX6_findsGreatest vs_C_6_findsGreatest) := cm_gV cm_632 cm_633 cm_634 cm_383 cm_401
set_option maxHeartbeats 4000000 in
set_option maxRecDepth 100000 in
theorem c_C_8_latest (l : Launch) (dC : Nat → ClassId) (dI : Nat → Nat → Nat) (sz : Nat) (xa : Nat) (xtape : Nat) (tp : Nat) (rd : Nat) (au : Nat) (xdr : Nat) (hy : Nat) (g : Nat) (hs : Nat) (tg : Nat) (sg : Nat) (ss : Nat) (rm : Nat) (ti : Nat) (py : Nat) (bu : Nat) (sm : Nat) (nc : Nat) (np : Nat) (ne : Nat) (st0 : Nat) (q4 : Nat) (q5 : Nat) (q6 : Nat) (q7 : Nat) (q8 : Nat) (q9 : Nat) (q10 : Nat) (q11 : Nat) (q12 : Nat) (q13 : Nat) (q14 : Nat) (q15 : Nat) (q16 : Nat) (k_f4 : ClassId) (f4 : Nat → Int32) (k_f5 : ClassId) (q_f5 : Nat → Nat) (k_f6 : ClassId) (q_f6 : Nat → Nat) (k_f7 : ClassId) (f7 : Nat → Int32) (k_f8 : ClassId) (q_f8 : Nat → Nat) (k_f9 : ClassId) (q_f9 : Nat → Nat) (k_f10 : ClassId) (f10 : Nat → Int32) (k_f11 : ClassId) (f11 : Nat → Int32) (k_f12 : ClassId) (f12 : Nat → Int32) (k_f13 : ClassId) (f13 : Nat → Int32) (k_f14 : ClassId) (f14 : Nat → Int32) (k_f15 : ClassId) (f15 : Nat → Int32) (k_f16 : ClassId) (f16 : Nat → Int32) (gz : Nat) (g1 : Nat) (g2 : Nat) (g3 : Nat) (g4 : Nat) (g5 : Nat) (gc : Nat) (gfull : Nat) (gx : Int32) (gway : Int32) (gav : Int32) (ggoal : Int32) (gfound : Nat) (gl : Nat) (gsz : Nat) (g16 : Nat) (g17 : Nat) (k_fs2 : ClassId) (fs2 : Nat → Int32) (k_fs3 : ClassId) (fs3 : Nat → Int32) (k_fs4 : ClassId) (fs4 : Nat → Int32) (r0 : Nat) (ln : Nat) (r2 : Nat) (r3 : Nat) (r4 : Nat) (r5 : Nat) (nr : Nat) (r7 : Nat) (r8 : Nat) (tz : Nat) (k_j0 : ClassId) (q_j0 : Nat → Nat) (k_j2 : ClassId) (j2 : Nat → Int32) (k_j3 : ClassId) (q_j3 : Nat → Nat) (k_j4 : ClassId) (q_j4 : Nat → Nat) (k_j5 : ClassId) (j5 : Nat → Int32) (k_j7 : ClassId) (q_j7 : Nat → Nat) (k_j8 : ClassId) (j8 : Nat → Int32) (p0 : Int32) (p1 : Int32) (p2 : Int32) (htp : tp ≤ 900) (hhs : hs ≤ 1) (hss : ss ≤ 1) (hnc : nc ≤ 3) (hnp : np ≤ 8) (hne : ne ≤ 14) (hst0 : st0 ≤ 7) (hgc : gc ≤ 120) (hgfull : gfull ≤ 1) (hgfound : gfound ≤ 1) (hgl : gl ≤ 1) (hgsz : gsz ≤ 4) (hln : ln ≤ 119) (hnr : nr ≤ 1920) (hq0 : gz_ok gc fs2 fs3 fs4) : Met l yX8_latest vs_C_8_latest ({ frames := 3, cells := 0, slots := 0, locals := 74 }) (va_Pc [.ref xa, .int p0, .int p1, .int p2] (pu_B (dC, dI) (xti__w xa xtape (nI tp) rd au xdr hy g (nI hs) tg sg (nI ss) rm ti py bu sm (nI nc) (nI np) (nI ne) (nI st0) q4 q5 q6 q7 q8 q9 q10 q11 q12 q13 q14 q15 q16 k_f4 f4 k_f5 (bN 7 q_f5) k_f6 (bN 7 q_f6) k_f7 f7 k_f8 (bN 4 q_f8) k_f9 (bN 2 q_f9) k_f10 f10 k_f11 f11 k_f12 f12 k_f13 f13 k_f14 f14 k_f15 f15 k_f16 f16 gz g1 g2 g3 g4 g5 (nI gc) (nI gfull) gx gway gav ggoal (nI gfound) 120 (nI gl) (nI gsz) g16 g17 k_fs2 fs2 k_fs3 fs3 k_fs4 fs4 r0 (nI ln) r2 r3 r4 r5 (nI nr) r7 r8 tz k_j0 (bN 13 q_j0) k_j2 j2 k_j3 (bN 120 q_j3) k_j4 (bN 120 q_j4) k_j5 j5 k_j7 (bN 120 q_j7) k_j8 j8) (xti__t k_f4 k_f5 k_f6 k_f7 k_f8 k_f9 k_f10 k_f11 k_f12 k_f13 k_f14 k_f15 k_f16 k_fs2 k_fs3 k_fs4 k_j0 k_j2 k_j3 k_j4 k_j5 k_j7 k_j8) sz)) (va_Qi (fun (r : Int32) (_ : Unit) => True) (fun _ t => ∃ (z_j0 : Nat → Nat) (z_j2 : Nat → Int32) (z_j3 : Nat → Nat) (z_j4 : Nat → Nat) (z_j5 : Nat → Int32) (z_j7 : Nat → Nat) (z_ln : Nat) (z_nr : Nat), pu_E (dC, dI) (xti__w xa xtape (nI tp) rd au xdr hy g (nI hs) tg sg (nI ss) rm ti py bu sm (nI nc) (nI np) (nI ne) (nI st0) q4 q5 q6 q7 q8 q9 q10 q11 q12 q13 q14 q15 q16 k_f4 f4 k_f5 (bN 7 q_f5) k_f6 (bN 7 q_f6) k_f7 f7 k_f8 (bN 4 q_f8) k_f9 (bN 2 q_f9) k_f10 f10 k_f11 f11 k_f12 f12 k_f13 f13 k_f14 f14 k_f15 f15 k_f16 f16 gz g1 g2 g3 g4 g5 (nI gc) (nI gfull) gx gway gav ggoal (nI gfound) 120 (nI gl) (nI gsz) g16 g17 k_fs2 fs2 k_fs3 fs3 k_fs4 fs4 r0 (nI z_ln) r2 r3 r4 r5 (nI z_nr) r7 r8 tz k_j0 (bN 13 z_j0) k_j2 z_j2 k_j3 (bN 120 z_j3) k_j4 (bN 120 z_j4) k_j5 z_j5 k_j7 (bN 120 z_j7) k_j8 j8) (xti__t k_f4 k_f5 k_f6 k_f7 k_f8 k_f9 k_f10 k_f11 k_f12 k_f13 k_f14 k_f15 k_f16 k_fs2 k_fs3 k_fs4 k_j0 k_j2 k_j3 k_j4 k_j5 k_j7 k_j8) (va_A ((xti__w xa xtape (nI tp) rd au xdr hy g (nI hs) tg sg (nI ss) rm ti py bu sm (nI nc) (nI np) (nI ne) (nI st0) q4 q5 q6 q7 q8 q9 q10 q11 q12 q13 q14 q15 q16 k_f4 f4 k_f5 (bN 7 q_f5) k_f6 (bN 7 q_f6) k_f7 f7 k_f8 (bN 4 q_f8) k_f9 (bN 2 q_f9) k_f10 f10 k_f11 f11 k_f12 f12 k_f13 f13 k_f14 f14 k_f15 f15 k_f16 f16 gz g1 g2 g3 g4 g5 (nI gc) (nI gfull) gx gway gav ggoal (nI gfound) 120 (nI gl) (nI gsz) g16 g17 k_fs2 fs2 k_fs3 fs3 k_fs4 fs4 r0 (nI ln) r2 r3 r4 r5 (nI nr) r7 r8 tz k_j0 (bN 13 q_j0) k_j2 j2 k_j3 (bN 120 q_j3) k_j4 (bN 120 q_j4) k_j5 j5 k_j7 (bN 120 q_j7) k_j8 j8)) sz) t ∧ (z_ln ≤ 119) ∧ (z_nr ≤ 1920)) (va_A ((xti__w xa xtape (nI tp) rd au xdr hy g (nI hs) tg sg (nI ss) rm ti py bu sm (nI nc) (nI np) (nI ne) (nI st0) q4 q5 q6 q7 q8 q9 q10 q11 q12 q13 q14 q15 q16 k_f4 f4 k_f5 (bN 7 q_f5) k_f6 (bN 7 q_f6) k_f7 f7 k_f8 (bN 4 q_f8) k_f9 (bN 2 q_f9) k_f10 f10 k_f11 f11 k_f12 f12 k_f13 f13 k_f14 f14 k_f15 f15 k_f16 f16 gz g1 g2 g3 g4 g5 (nI gc) (nI gfull) gx gway gav ggoal (nI gfound) 120 (nI gl) (nI gsz) g16 g17 k_fs2 fs2 k_fs3 fs3 k_fs4 fs4 r0 (nI ln) r2 r3 r4 r5 (nI nr) r7 r8 tz k_j0 (bN 13 q_j0) k_j2 j2 k_j3 (bN 120 q_j3) k_j4 (bN 120 q_j4) k_j5 j5 k_j7 (bN 120 q_j7) k_j8 j8)) sz)) 0 0 (va_A ((xti__w xa xtape (nI tp) rd au xdr hy g (nI hs) tg sg (nI ss) rm ti py bu sm (nI nc) (nI np) (nI ne) (nI st0) q4 q5 q6 q7 q8 q9 q10 q11 q12 q13 q14 q15 q16 k_f4 f4 k_f5 (bN 7 q_f5) k_f6 (bN 7 q_f6) k_f7 f7 k_f8 (bN 4 q_f8) k_f9 (bN 2 q_f9) k_f10 f10 k_f11 f11 k_f12 f12 k_f13 f13 k_f14 f14 k_f15 f15 k_f16 f16 gz g1 g2 g3 g4 g5 (nI gc) (nI gfull) gx gway gav ggoal (nI gfound) 120 (nI gl) (nI gsz) g16 g17 k_fs2 fs2 k_fs3 fs3 k_fs4 fs4 r0 (nI ln) r2 r3 r4 r5 (nI nr) r7 r8 tz k_j0 (bN 13 q_j0) k_j2 j2 k_j3 (bN 120 q_j3) k_j4 (bN 120 q_j4) k_j5 j5 k_j7 (bN 120 q_j7) k_j8 j8)) sz) := by
  refine Met.ofW (cc := cX8_latest) (maxL := 4) (ret := (some .int)) (by decide) rfl ?_
  intro p e s m args below meth c s₁ B hml hv
  obtain ⟨rfl, rfl, hP, hK, hD0⟩ := hv
  have hx := B.exec
  have hb := B.bytes
  have hr := B.returns
  have hts := atoms_spec (ws := vs_C_8_latest) B.pre
  have v_6 := hts (.fieldLink RX8 62 "ClockReach" "timing" "LClockReach$Timing;") (List.mem_cons_of_mem _ cm_601)
  have v_7 := hts (.fieldLink RX8 42 "ClockReach" "shown" "LClockReach$Graph;") (List.mem_cons_of_mem _ cm_456)
  have v_13 := hts (.fieldLink RX8 23 "ClockReach" "model" "LClockReach$Automaton;") (List.mem_cons_of_mem _ cm_434)
  have v_22 := hts (.fieldLink RX8 340 "ClockReach$Timing" "at" "[I") (List.mem_cons_of_mem _ cm_617)
  have hown : s.vm.findClass RX8 = some m.cls := findClass_of_methodNamed B.named
  have hlocks := B.notSynchronized
  have hiX6 : ∀ w ∈ wsX60, w ∈ vs_C_8_latest := fun _ h => List.mem_cons_of_mem _ (cm_X6 h)
  have hiX8 : ∀ w ∈ wsX80, w ∈ vs_C_8_latest := fun _ h => List.mem_cons_of_mem _ (cm_X8 h)
  have hD := hD0.self (sz := s.heap.size)
  generalize hAe : va_A ((xti__w xa xtape (nI tp) rd au xdr hy g (nI hs) tg sg (nI ss) rm ti py bu sm (nI nc) (nI np) (nI ne) (nI st0) q4 q5 q6 q7 q8 q9 q10 q11 q12 q13 q14 q15 q16 k_f4 f4 k_f5 (bN 7 q_f5) k_f6 (bN 7 q_f6) k_f7 f7 k_f8 (bN 4 q_f8) k_f9 (bN 2 q_f9) k_f10 f10 k_f11 f11 k_f12 f12 k_f13 f13 k_f14 f14 k_f15 f15 k_f16 f16 gz g1 g2 g3 g4 g5 (nI gc) (nI gfull) gx gway gav ggoal (nI gfound) 120 (nI gl) (nI gsz) g16 g17 k_fs2 fs2 k_fs3 fs3 k_fs4 fs4 r0 (nI ln) r2 r3 r4 r5 (nI nr) r7 r8 tz k_j0 (bN 13 q_j0) k_j2 j2 k_j3 (bN 120 q_j3) k_j4 (bN 120 q_j4) k_j5 j5 k_j7 (bN 120 q_j7) k_j8 j8)) s.heap.size = A at hD ⊢
  have hA : ∀ q : Nat, s.heap.size ≤ q → A q := fun q h => by rw [← hAe]; exact Or.inr h
  have hS : va_S A s.heap s.heap [] := va_S.rf
  have hl := lv_entry ([.ref xa, .int p0, .int p1, .int p2]) (n := 4) (Nat.le_of_ble_eq_true rfl)
  rw [lg_entry_eq]
  generalize (lg_sl ([.ref xa, .int p0, .int p1, .int p2]) ++ List.replicate (4 - (lg_sl ([.ref xa, .int p0, .int p1, .int p2])).length) Slot.unset).toArray = ls at hl ⊢
  have hl : lv_has ls 4 [(0, .ref xa), (1, .int p0), (2, .int p1), (3, .int p2)] := hl
  refine lv_aload_n hx hb eX8_latest_0 rfl (lv_at hl 0 rfl) ?_
  refine lv_iload_n hx hb eX8_latest_1 rfl (lv_at hl 1 rfl) ?_
  refine lv_iload_n hx hb eX8_latest_2 rfl (lv_at hl 2 rfl) ?_
  have hPc : va_P (dC, dI) vwCl (xgl__w xa xtape (nI tp) rd au xdr hy g (nI hs) tg sg (nI ss) rm ti py bu sm gz g1 g2 g3 g4 g5 (nI gc) (nI gfull) gx gway gav ggoal (nI gfound) 120 (nI gl) (nI gsz) g16 g17 k_fs2 fs2 k_fs3 fs3 k_fs4 fs4) _ := hP.sub [0, 15, 16, 17, 18] rfl
  have hDc := hD.sub (ws' := (xgl__w xa xtape (nI tp) rd au xdr hy g (nI hs) tg sg (nI ss) rm ti py bu sm gz g1 g2 g3 g4 g5 (nI gc) (nI gfull) gx gway gav ggoal (nI gfound) 120 (nI gl) (nI gsz) g16 g17 k_fs2 fs2 k_fs3 fs3 k_fs4 fs4)) [0, 15, 16, 17, 18] (by decide) rfl
  have hKc : va_K (dC, dI) vwCl (xgl__t k_fs2 k_fs3 k_fs4) s := hK.sub [13, 14, 15] rfl
  refine va_calli (va_runV (As := [.int p0, .int p1]) (rest := []) ⟨hx, hb, hml, hown, hts⟩ (c_C_8_isStep l dC dI _ xa xtape tp rd au xdr hy g hs tg sg ss rm ti py bu sm gz g1 g2 g3 g4 g5 gc gfull gx gway gav ggoal gfound gl gsz g16 g17 k_fs2 fs2 k_fs3 fs3 k_fs4 fs4 p0 p1 htp hhs hss hgc hgfull hgfound hgl hgsz (by assumption)) (cwV 2 hts g_C_8_latest_C_8_isStep rfl rfl rfl (by decide +kernel) ⟨Nat.le_of_ble_eq_true rfl, Nat.le_of_ble_eq_true rfl⟩) ⟨pu_bl, va_recv hK hP (ci := 8) (q0 := 0) rfl rfl, pu_in hPc hKc hDc⟩ rfl rfl hl.1 rfl (lv_room (Nat.le_of_ble_eq_true rfl)) eX8_latest_3 ⟨Nat.le_of_ble_eq_true rfl, Nat.le_of_ble_eq_true rfl⟩) hS (fun q _ h => pu_fr hS hA q h) (pu_fr hS hA) (fun r_1 u t H1 locs ht hvm hw hB hz1 hk1 hS => ?_)
  have hP := pu_keep hP hk1
  clear hk1 hz1 ht hvm
  generalize H1 = H at hP hS ⊢
  rcases hw with ⟨rfl, n_2, n_3, hn_2, hn_3, rfl, rfl⟩ | rfl
  · refine lv_if_eq (tgt := 20) hx hb eX8_latest_6 (by decide) (fun z => absurd z (by decide)) (fun _ => ?_)
    refine lv_iload_n hx hb eX8_latest_9 rfl (lv_at hl 3 rfl) ?_
    refine lv_if_lt (tgt := 20) hx hb eX8_latest_10 (by decide) (fun c_4 => ?_) (fun c_4 => ?_)
    · refine lv_iconst (v := (-1)) hx hb eX8_latest_20 (by decide) ?_
      exact W.iret (v := (-1)) hx hb hr (fun t ht hW => ⟨⟨(-1), (), rfl, trivial, ⟨q_j0, j2, q_j3, q_j4, j5, q_j7, ln, nr, ⟨by rw [ht]; exact hP, va_K.moved hW.alike hK, hD⟩, hln, hnr⟩⟩, hS.F ht⟩) hS.2.2 eX8_latest_21
    · have lp2 : ¬ p2 < 0 := c_4
      refine lv_iload_n hx hb eX8_latest_13 rfl (lv_at hl 3 rfl) ?_
      refine lv_sipush (v := 1000) hx hb eX8_latest_14 (by decide) ?_
      refine lv_icmp_le (tgt := 22) hx hb eX8_latest_17 (by decide) (fun c_5 => ?_) (fun c_5 => ?_)
      · obtain ⟨n_6, hn_6, rfl⟩ := pu_ule (b := 1000) (by omega) lp2 (c_5)
        refine lv_aload_n hx hb eX8_latest_22 rfl (lv_at hl 0 rfl) ?_
        refine va_get (D := (dC, dI)) (ci := 8) (v := .ref ti) (C := RX8) (T := TX8) (N := 16) hx hb hts hiX8 hown hK hP 0 rfl rfl 12 (by decide) v_6 (fun _ h9 => h9) rfl eX8_latest_23 ?_
        refine lv_aload_n hx hb eX8_latest_26 rfl (lv_at hl 0 rfl) ?_
        refine va_get (D := (dC, dI)) (ci := 8) (v := .ref g) (C := RX8) (T := TX8) (N := 16) hx hb hts hiX8 hown hK hP 0 rfl rfl 6 (by decide) v_7 (fun _ h9 => h9) rfl eX8_latest_27 ?_
        refine lv_iload_n hx hb eX8_latest_30 rfl (lv_at hl 1 rfl) ?_
        have hPc : va_P (dC, dI) vwCl (tg__w ti r0 (nI ln) r2 r3 r4 r5 (nI nr) r7 r8 tz k_j0 (bN 13 q_j0) k_j2 j2 k_j3 (bN 120 q_j3) k_j4 (bN 120 q_j4) k_j5 j5 k_j7 (bN 120 q_j7) k_j8 j8 g gz g1 g2 g3 g4 g5 (nI gc) (nI gfull) gx gway gav ggoal (nI gfound) 120 (nI gl) (nI gsz) g16 g17 k_fs2 fs2 k_fs3 fs3 k_fs4 fs4) _ := hP.sub [19, 20, 21, 22, 23, 24, 25, 26, 15, 16, 17, 18] rfl
        have hDc := hD.sub (ws' := (tg__w ti r0 (nI ln) r2 r3 r4 r5 (nI nr) r7 r8 tz k_j0 (bN 13 q_j0) k_j2 j2 k_j3 (bN 120 q_j3) k_j4 (bN 120 q_j4) k_j5 j5 k_j7 (bN 120 q_j7) k_j8 j8 g gz g1 g2 g3 g4 g5 (nI gc) (nI gfull) gx gway gav ggoal (nI gfound) 120 (nI gl) (nI gsz) g16 g17 k_fs2 fs2 k_fs3 fs3 k_fs4 fs4)) [19, 20, 21, 22, 23, 24, 25, 26, 15, 16, 17, 18] (by decide) rfl
        have hKc : va_K (dC, dI) vwCl (tg__t k_j0 k_j2 k_j3 k_j4 k_j5 k_j7 k_j8 k_fs2 k_fs3 k_fs4) s := hK.sub [16, 17, 18, 19, 20, 21, 22, 13, 14, 15] rfl
        have hFc := pu_free hDc hS hA
        refine va_callv (va_runV (As := [.ref g, .int (nI n_2)]) (rest := []) ⟨hx, hb, hml, hown, hts⟩ (c_C_6_loadRun l dC dI _ ti r0 ln r2 r3 r4 r5 nr r7 r8 tz k_j0 q_j0 k_j2 j2 k_j3 q_j3 k_j4 q_j4 k_j5 j5 k_j7 q_j7 k_j8 j8 g gz g1 g2 g3 g4 g5 gc gfull gx gway gav ggoal gfound gl gsz g16 g17 k_fs2 fs2 k_fs3 fs3 k_fs4 fs4 n_2 hln hnr hgc hgfull hgfound hgl hgsz (by omega) (by first | assumption | exact gz_0) (by omega)) (cwV 2 hts g_C_8_latest_C_6_loadRun rfl rfl rfl (by decide +kernel) ⟨Nat.le_of_ble_eq_true rfl, Nat.le_of_ble_eq_true rfl⟩) ⟨pu_bl, va_recv hK hP (ci := 6) (q0 := 19) rfl rfl, pu_in hPc hKc hDc⟩ rfl rfl hl.1 rfl (lv_room (Nat.le_of_ble_eq_true rfl)) eX8_latest_31 ⟨Nat.le_of_ble_eq_true rfl, Nat.le_of_ble_eq_true rfl⟩) hS (fun q _ h => hFc q h) hFc (fun u t H1 locs ht hvm hw hB hz1 hk1 hS => ?_)
        obtain ⟨z_j0_8, z_ln_9, ⟨hP1, -, hD1⟩, hz_ln_9⟩ := hB
        rw [ht] at hP1
        obtain ⟨hP, hD⟩ := pj_a (X := (xti__w xa xtape (nI tp) rd au xdr hy g (nI hs) tg sg (nI ss) rm ti py bu sm (nI nc) (nI np) (nI ne) (nI st0) q4 q5 q6 q7 q8 q9 q10 q11 q12 q13 q14 q15 q16 k_f4 f4 k_f5 (bN 7 q_f5) k_f6 (bN 7 q_f6) k_f7 f7 k_f8 (bN 4 q_f8) k_f9 (bN 2 q_f9) k_f10 f10 k_f11 f11 k_f12 f12 k_f13 f13 k_f14 f14 k_f15 f15 k_f16 f16 gz g1 g2 g3 g4 g5 (nI gc) (nI gfull) gx gway gav ggoal (nI gfound) 120 (nI gl) (nI gsz) g16 g17 k_fs2 fs2 k_fs3 fs3 k_fs4 fs4 r0 (nI ln) r2 r3 r4 r5 (nI nr) r7 r8 tz k_j0 (bN 13 q_j0) k_j2 j2 k_j3 (bN 120 q_j3) k_j4 (bN 120 q_j4) k_j5 j5 k_j7 (bN 120 q_j7) k_j8 j8)) (X' := (xti__w xa xtape (nI tp) rd au xdr hy g (nI hs) tg sg (nI ss) rm ti py bu sm (nI nc) (nI np) (nI ne) (nI st0) q4 q5 q6 q7 q8 q9 q10 q11 q12 q13 q14 q15 q16 k_f4 f4 k_f5 (bN 7 q_f5) k_f6 (bN 7 q_f6) k_f7 f7 k_f8 (bN 4 q_f8) k_f9 (bN 2 q_f9) k_f10 f10 k_f11 f11 k_f12 f12 k_f13 f13 k_f14 f14 k_f15 f15 k_f16 f16 gz g1 g2 g3 g4 g5 (nI gc) (nI gfull) gx gway gav ggoal (nI gfound) 120 (nI gl) (nI gsz) g16 g17 k_fs2 fs2 k_fs3 fs3 k_fs4 fs4 r0 (nI z_ln_9) r2 r3 r4 r5 (nI nr) r7 r8 tz k_j0 (bN 13 z_j0_8) k_j2 j2 k_j3 (bN 120 q_j3) k_j4 (bN 120 q_j4) k_j5 j5 k_j7 (bN 120 q_j7) k_j8 j8)) (wc := (tg__w ti r0 (nI ln) r2 r3 r4 r5 (nI nr) r7 r8 tz k_j0 (bN 13 q_j0) k_j2 j2 k_j3 (bN 120 q_j3) k_j4 (bN 120 q_j4) k_j5 j5 k_j7 (bN 120 q_j7) k_j8 j8 g gz g1 g2 g3 g4 g5 (nI gc) (nI gfull) gx gway gav ggoal (nI gfound) 120 (nI gl) (nI gsz) g16 g17 k_fs2 fs2 k_fs3 fs3 k_fs4 fs4)) (w1 := (tg__w ti r0 (nI z_ln_9) r2 r3 r4 r5 (nI nr) r7 r8 tz k_j0 (bN 13 z_j0_8) k_j2 j2 k_j3 (bN 120 q_j3) k_j4 (bN 120 q_j4) k_j5 j5 k_j7 (bN 120 q_j7) k_j8 j8 g gz g1 g2 g3 g4 g5 (nI gc) (nI gfull) gx gway gav ggoal (nI gfound) 120 (nI gl) (nI gsz) g16 g17 k_fs2 fs2 k_fs3 fs3 k_fs4 fs4)) hP hD [19, 20, 21, 22, 23, 24, 25, 26, 15, 16, 17, 18] [12, 13, 14, 15, 16, 17, 18, 19, 20, 21, 22, 23, 24, 25, 26, 8, 9, 10, 11, 0, 1, 2, 3, 4, 5, 6, 7] 12 rfl hk1 hP1 rfl rfl rfl (by decide)
        clear hP1 hD1 hFc hPc hDc hKc
        clear hk1 hz1 ht hvm
        generalize H1 = H at hP hS ⊢
        refine lv_aload_n hx hb eX8_latest_34 rfl (lv_at hl 0 rfl) ?_
        refine va_get (D := (dC, dI)) (ci := 8) (v := .ref ti) (C := RX8) (T := TX8) (N := 16) hx hb hts hiX8 hown hK hP 0 rfl rfl 12 (by decide) v_6 (fun _ h9 => h9) rfl eX8_latest_35 ?_
        refine lv_aload_n hx hb eX8_latest_38 rfl (lv_at hl 0 rfl) ?_
        refine va_get (D := (dC, dI)) (ci := 8) (v := .ref au) (C := RX8) (T := TX8) (N := 16) hx hb hts hiX8 hown hK hP 0 rfl rfl 3 (by decide) v_13 (fun _ h9 => h9) rfl eX8_latest_39 ?_
        have hPc : va_P (dC, dI) vwCl (ta__w ti r0 (nI z_ln_9) r2 r3 r4 r5 (nI nr) r7 r8 tz k_j0 (bN 13 z_j0_8) k_j2 j2 k_j3 (bN 120 q_j3) k_j4 (bN 120 q_j4) k_j5 j5 k_j7 (bN 120 q_j7) k_j8 j8 au (nI nc) (nI np) (nI ne) (nI st0) q4 q5 q6 q7 q8 q9 q10 q11 q12 q13 q14 q15 q16 k_f4 f4 k_f5 (bN 7 q_f5) k_f6 (bN 7 q_f6) k_f7 f7 k_f8 (bN 4 q_f8) k_f9 (bN 2 q_f9) k_f10 f10 k_f11 f11 k_f12 f12 k_f13 f13 k_f14 f14 k_f15 f15 k_f16 f16) _ := hP.sub [19, 20, 21, 22, 23, 24, 25, 26, 1, 2, 3, 4, 5, 6, 7, 8, 9, 10, 11, 12, 13, 14] rfl
        have hDc := hD.sub (ws' := (ta__w ti r0 (nI z_ln_9) r2 r3 r4 r5 (nI nr) r7 r8 tz k_j0 (bN 13 z_j0_8) k_j2 j2 k_j3 (bN 120 q_j3) k_j4 (bN 120 q_j4) k_j5 j5 k_j7 (bN 120 q_j7) k_j8 j8 au (nI nc) (nI np) (nI ne) (nI st0) q4 q5 q6 q7 q8 q9 q10 q11 q12 q13 q14 q15 q16 k_f4 f4 k_f5 (bN 7 q_f5) k_f6 (bN 7 q_f6) k_f7 f7 k_f8 (bN 4 q_f8) k_f9 (bN 2 q_f9) k_f10 f10 k_f11 f11 k_f12 f12 k_f13 f13 k_f14 f14 k_f15 f15 k_f16 f16)) [19, 20, 21, 22, 23, 24, 25, 26, 1, 2, 3, 4, 5, 6, 7, 8, 9, 10, 11, 12, 13, 14] (by decide) rfl
        have hKc : va_K (dC, dI) vwCl (ta__t k_j0 k_j2 k_j3 k_j4 k_j5 k_j7 k_j8 k_f4 k_f5 k_f6 k_f7 k_f8 k_f9 k_f10 k_f11 k_f12 k_f13 k_f14 k_f15 k_f16) s := hK.sub [16, 17, 18, 19, 20, 21, 22, 0, 1, 2, 3, 4, 5, 6, 7, 8, 9, 10, 11, 12] rfl
        have hFc := pu_free hDc hS hA
        refine va_callv (va_runV (As := [.ref au]) (rest := []) ⟨hx, hb, hml, hown, hts⟩ (c_C_6_layRules l dC dI _ ti r0 z_ln_9 r2 r3 r4 r5 nr r7 r8 tz k_j0 z_j0_8 k_j2 j2 k_j3 q_j3 k_j4 q_j4 k_j5 j5 k_j7 q_j7 k_j8 j8 au nc np ne st0 q4 q5 q6 q7 q8 q9 q10 q11 q12 q13 q14 q15 q16 k_f4 f4 k_f5 q_f5 k_f6 q_f6 k_f7 f7 k_f8 q_f8 k_f9 q_f9 k_f10 f10 k_f11 f11 k_f12 f12 k_f13 f13 k_f14 f14 k_f15 f15 k_f16 f16 hz_ln_9 hnr hnc hnp hne hst0) (cwV 1 hts g_C_8_latest_C_6_layRules rfl rfl rfl (by decide +kernel) ⟨Nat.le_of_ble_eq_true rfl, Nat.le_of_ble_eq_true rfl⟩) ⟨pu_bl, va_recv hK hP (ci := 6) (q0 := 19) rfl rfl, pu_in hPc hKc hDc⟩ rfl rfl hl.1 rfl (lv_room (Nat.le_of_ble_eq_true rfl)) eX8_latest_42 ⟨Nat.le_of_ble_eq_true rfl, Nat.le_of_ble_eq_true rfl⟩) hS (fun q _ h => hFc q h) hFc (fun u t H1 locs ht hvm hw hB hz1 hk1 hS => ?_)
        obtain ⟨z_j3_11, z_j4_12, z_j5_13, z_j7_14, z_nr_15, ⟨hP1, -, hD1⟩, hz_nr_15⟩ := hB
        rw [ht] at hP1
        obtain ⟨hP, hD⟩ := pj_a (X := (xti__w xa xtape (nI tp) rd au xdr hy g (nI hs) tg sg (nI ss) rm ti py bu sm (nI nc) (nI np) (nI ne) (nI st0) q4 q5 q6 q7 q8 q9 q10 q11 q12 q13 q14 q15 q16 k_f4 f4 k_f5 (bN 7 q_f5) k_f6 (bN 7 q_f6) k_f7 f7 k_f8 (bN 4 q_f8) k_f9 (bN 2 q_f9) k_f10 f10 k_f11 f11 k_f12 f12 k_f13 f13 k_f14 f14 k_f15 f15 k_f16 f16 gz g1 g2 g3 g4 g5 (nI gc) (nI gfull) gx gway gav ggoal (nI gfound) 120 (nI gl) (nI gsz) g16 g17 k_fs2 fs2 k_fs3 fs3 k_fs4 fs4 r0 (nI z_ln_9) r2 r3 r4 r5 (nI nr) r7 r8 tz k_j0 (bN 13 z_j0_8) k_j2 j2 k_j3 (bN 120 q_j3) k_j4 (bN 120 q_j4) k_j5 j5 k_j7 (bN 120 q_j7) k_j8 j8)) (X' := (xti__w xa xtape (nI tp) rd au xdr hy g (nI hs) tg sg (nI ss) rm ti py bu sm (nI nc) (nI np) (nI ne) (nI st0) q4 q5 q6 q7 q8 q9 q10 q11 q12 q13 q14 q15 q16 k_f4 f4 k_f5 (bN 7 q_f5) k_f6 (bN 7 q_f6) k_f7 f7 k_f8 (bN 4 q_f8) k_f9 (bN 2 q_f9) k_f10 f10 k_f11 f11 k_f12 f12 k_f13 f13 k_f14 f14 k_f15 f15 k_f16 f16 gz g1 g2 g3 g4 g5 (nI gc) (nI gfull) gx gway gav ggoal (nI gfound) 120 (nI gl) (nI gsz) g16 g17 k_fs2 fs2 k_fs3 fs3 k_fs4 fs4 r0 (nI z_ln_9) r2 r3 r4 r5 (nI z_nr_15) r7 r8 tz k_j0 (bN 13 z_j0_8) k_j2 j2 k_j3 (bN 120 z_j3_11) k_j4 (bN 120 z_j4_12) k_j5 z_j5_13 k_j7 (bN 120 z_j7_14) k_j8 j8)) (wc := (ta__w ti r0 (nI z_ln_9) r2 r3 r4 r5 (nI nr) r7 r8 tz k_j0 (bN 13 z_j0_8) k_j2 j2 k_j3 (bN 120 q_j3) k_j4 (bN 120 q_j4) k_j5 j5 k_j7 (bN 120 q_j7) k_j8 j8 au (nI nc) (nI np) (nI ne) (nI st0) q4 q5 q6 q7 q8 q9 q10 q11 q12 q13 q14 q15 q16 k_f4 f4 k_f5 (bN 7 q_f5) k_f6 (bN 7 q_f6) k_f7 f7 k_f8 (bN 4 q_f8) k_f9 (bN 2 q_f9) k_f10 f10 k_f11 f11 k_f12 f12 k_f13 f13 k_f14 f14 k_f15 f15 k_f16 f16)) (w1 := (ta__w ti r0 (nI z_ln_9) r2 r3 r4 r5 (nI z_nr_15) r7 r8 tz k_j0 (bN 13 z_j0_8) k_j2 j2 k_j3 (bN 120 z_j3_11) k_j4 (bN 120 z_j4_12) k_j5 z_j5_13 k_j7 (bN 120 z_j7_14) k_j8 j8 au (nI nc) (nI np) (nI ne) (nI st0) q4 q5 q6 q7 q8 q9 q10 q11 q12 q13 q14 q15 q16 k_f4 f4 k_f5 (bN 7 q_f5) k_f6 (bN 7 q_f6) k_f7 f7 k_f8 (bN 4 q_f8) k_f9 (bN 2 q_f9) k_f10 f10 k_f11 f11 k_f12 f12 k_f13 f13 k_f14 f14 k_f15 f15 k_f16 f16)) hP hD [19, 20, 21, 22, 23, 24, 25, 26, 1, 2, 3, 4, 5, 6, 7, 8, 9, 10, 11, 12, 13, 14] [22, 8, 9, 10, 11, 12, 13, 14, 15, 16, 17, 18, 19, 20, 21, 37, 38, 39, 40, 0, 1, 2, 3, 4, 5, 6, 7] 22 rfl hk1 hP1 rfl rfl rfl (by decide)
        clear hP1 hD1 hFc hPc hDc hKc
        clear hk1 hz1 ht hvm
        generalize H1 = H at hP hS ⊢
        refine lv_aload_n hx hb eX8_latest_45 rfl (lv_at hl 0 rfl) ?_
        refine va_get (D := (dC, dI)) (ci := 8) (v := .ref ti) (C := RX8) (T := TX8) (N := 16) hx hb hts hiX8 hown hK hP 0 rfl rfl 12 (by decide) v_6 (fun _ h9 => h9) rfl eX8_latest_46 ?_
        refine lv_iload_n hx hb eX8_latest_49 rfl (lv_at hl 3 rfl) ?_
        refine lv_sipush (v := 256) hx hb eX8_latest_50 (by decide) ?_
        refine lv_imul hx hb eX8_latest_53 ?_
        refine lv_topi (fun y_16 ey_16 => ?_)
        obtain rfl : y_16 = (nI (n_6 * 256)) := ey_16.trans (pk_mul n_6 256)
        have hPc : va_P (dC, dI) vwCl (ti__w ti r0 (nI z_ln_9) r2 r3 r4 r5 (nI z_nr_15) r7 r8 tz k_j0 (bN 13 z_j0_8) k_j2 j2 k_j3 (bN 120 z_j3_11) k_j4 (bN 120 z_j4_12) k_j5 z_j5_13 k_j7 (bN 120 z_j7_14) k_j8 j8) _ := hP.sub [19, 20, 21, 22, 23, 24, 25, 26] rfl
        have hDc := hD.sub (ws' := (ti__w ti r0 (nI z_ln_9) r2 r3 r4 r5 (nI z_nr_15) r7 r8 tz k_j0 (bN 13 z_j0_8) k_j2 j2 k_j3 (bN 120 z_j3_11) k_j4 (bN 120 z_j4_12) k_j5 z_j5_13 k_j7 (bN 120 z_j7_14) k_j8 j8)) [19, 20, 21, 22, 23, 24, 25, 26] (by decide) rfl
        have hKc : va_K (dC, dI) vwCl (ti__t k_j0 k_j2 k_j3 k_j4 k_j5 k_j7 k_j8) s := hK.sub [16, 17, 18, 19, 20, 21, 22] rfl
        have hFc := pu_free hDc hS hA
        refine va_calli (va_runV (As := [.int (nI (n_6 * 256))]) (rest := []) ⟨hx, hb, hml, hown, hts⟩ (c_C_6_findsGreatest l dC dI _ ti r0 z_ln_9 r2 r3 r4 r5 z_nr_15 r7 r8 tz k_j0 z_j0_8 k_j2 j2 k_j3 z_j3_11 k_j4 z_j4_12 k_j5 z_j5_13 k_j7 z_j7_14 k_j8 j8 (nI (n_6 * 256)) hz_ln_9 hz_nr_15) (cwV 1 hts g_C_8_latest_C_6_findsGreatest rfl rfl rfl (by decide +kernel) ⟨Nat.le_of_ble_eq_true rfl, Nat.le_of_ble_eq_true rfl⟩) ⟨pu_bl, va_recv hK hP (ci := 6) (q0 := 19) rfl rfl, pu_in hPc hKc hDc⟩ rfl rfl hl.1 rfl (lv_room (Nat.le_of_ble_eq_true rfl)) eX8_latest_54 ⟨Nat.le_of_ble_eq_true rfl, Nat.le_of_ble_eq_true rfl⟩) hS (fun q _ h => hFc q h) hFc (fun r_17 u t H1 locs ht hvm hw hB hz1 hk1 hS => ?_)
        obtain ⟨z_j2_18, ⟨hP1, -, hD1⟩⟩ := hB
        rw [ht] at hP1
        obtain ⟨hP, hD⟩ := pj_a (X := (xti__w xa xtape (nI tp) rd au xdr hy g (nI hs) tg sg (nI ss) rm ti py bu sm (nI nc) (nI np) (nI ne) (nI st0) q4 q5 q6 q7 q8 q9 q10 q11 q12 q13 q14 q15 q16 k_f4 f4 k_f5 (bN 7 q_f5) k_f6 (bN 7 q_f6) k_f7 f7 k_f8 (bN 4 q_f8) k_f9 (bN 2 q_f9) k_f10 f10 k_f11 f11 k_f12 f12 k_f13 f13 k_f14 f14 k_f15 f15 k_f16 f16 gz g1 g2 g3 g4 g5 (nI gc) (nI gfull) gx gway gav ggoal (nI gfound) 120 (nI gl) (nI gsz) g16 g17 k_fs2 fs2 k_fs3 fs3 k_fs4 fs4 r0 (nI z_ln_9) r2 r3 r4 r5 (nI z_nr_15) r7 r8 tz k_j0 (bN 13 z_j0_8) k_j2 j2 k_j3 (bN 120 z_j3_11) k_j4 (bN 120 z_j4_12) k_j5 z_j5_13 k_j7 (bN 120 z_j7_14) k_j8 j8)) (X' := (xti__w xa xtape (nI tp) rd au xdr hy g (nI hs) tg sg (nI ss) rm ti py bu sm (nI nc) (nI np) (nI ne) (nI st0) q4 q5 q6 q7 q8 q9 q10 q11 q12 q13 q14 q15 q16 k_f4 f4 k_f5 (bN 7 q_f5) k_f6 (bN 7 q_f6) k_f7 f7 k_f8 (bN 4 q_f8) k_f9 (bN 2 q_f9) k_f10 f10 k_f11 f11 k_f12 f12 k_f13 f13 k_f14 f14 k_f15 f15 k_f16 f16 gz g1 g2 g3 g4 g5 (nI gc) (nI gfull) gx gway gav ggoal (nI gfound) 120 (nI gl) (nI gsz) g16 g17 k_fs2 fs2 k_fs3 fs3 k_fs4 fs4 r0 (nI z_ln_9) r2 r3 r4 r5 (nI z_nr_15) r7 r8 tz k_j0 (bN 13 z_j0_8) k_j2 z_j2_18 k_j3 (bN 120 z_j3_11) k_j4 (bN 120 z_j4_12) k_j5 z_j5_13 k_j7 (bN 120 z_j7_14) k_j8 j8)) (wc := (ti__w ti r0 (nI z_ln_9) r2 r3 r4 r5 (nI z_nr_15) r7 r8 tz k_j0 (bN 13 z_j0_8) k_j2 j2 k_j3 (bN 120 z_j3_11) k_j4 (bN 120 z_j4_12) k_j5 z_j5_13 k_j7 (bN 120 z_j7_14) k_j8 j8)) (w1 := (ti__w ti r0 (nI z_ln_9) r2 r3 r4 r5 (nI z_nr_15) r7 r8 tz k_j0 (bN 13 z_j0_8) k_j2 z_j2_18 k_j3 (bN 120 z_j3_11) k_j4 (bN 120 z_j4_12) k_j5 z_j5_13 k_j7 (bN 120 z_j7_14) k_j8 j8)) hP hD [19, 20, 21, 22, 23, 24, 25, 26] [8, 9, 10, 11, 12, 13, 14, 15, 16, 17, 18, 19, 20, 21, 22, 23, 24, 25, 26, 0, 1, 2, 3, 4, 5, 6, 7] 8 rfl hk1 hP1 rfl rfl rfl (by decide)
        clear hP1 hD1 hFc hPc hDc hKc
        clear hk1 hz1 ht hvm
        generalize H1 = H at hP hS ⊢
        obtain ⟨u_19, hu_19, rfl⟩ := hw
        refine lv_if_eq (tgt := 74) hx hb eX8_latest_57 (by decide) (fun c_20 => ?_) (fun c_20 => ?_)
        · have c_20 : u_19 = 0 := (nI_eq (a := u_19) (b := 0) (Nat.lt_of_le_of_lt hu_19 (Nat.le_of_ble_eq_true rfl)) (Nat.le_of_ble_eq_true rfl)).mp c_20
          refine lv_iconst (v := (-1)) hx hb eX8_latest_74 (by decide) ?_
          exact W.iret (v := (-1)) hx hb hr (fun t ht hW => ⟨⟨(-1), (), rfl, trivial, ⟨z_j0_8, z_j2_18, z_j3_11, z_j4_12, z_j5_13, z_j7_14, z_ln_9, z_nr_15, ⟨by rw [ht]; exact hP, va_K.moved hW.alike hK, hD⟩, hz_ln_9, hz_nr_15⟩⟩, hS.F ht⟩) hS.2.2 eX8_latest_75
        · have c_20 : ¬ u_19 = 0 := fun z => c_20 ((nI_eq (a := u_19) (b := 0) (Nat.lt_of_le_of_lt hu_19 (Nat.le_of_ble_eq_true rfl)) (Nat.le_of_ble_eq_true rfl)).mpr z)
          refine lv_aload_n hx hb eX8_latest_60 rfl (lv_at hl 0 rfl) ?_
          refine va_get (D := (dC, dI)) (ci := 8) (v := .ref ti) (C := RX8) (T := TX8) (N := 16) hx hb hts hiX8 hown hK hP 0 rfl rfl 12 (by decide) v_6 (fun _ h9 => h9) rfl eX8_latest_61 ?_
          refine va_get (D := (dC, dI)) (ci := 6) (v := .ref r2) (C := RX6) (T := TX6) (N := 10) hx hb hts hiX6 hown hK hP 19 rfl rfl 2 (by decide) v_22 (fun _ h9 => h9) rfl eX8_latest_64 ?_
          refine lv_iload_n hx hb eX8_latest_67 rfl (lv_at hl 2 rfl) ?_
          refine lv_iconst (v := 1) hx hb eX8_latest_68 (by decide) ?_
          refine lv_iadd hx hb eX8_latest_69 ?_
          refine lv_topi (fun y_21 ey_21 => ?_)
          obtain rfl : y_21 = (nI (n_3 + 1)) := ey_21.trans (nI_add n_3 1)
          refine va_iald hx hb hK hP 21 17 rfl rfl (vp_in_nI (n := (n_3 + 1)) (by omega) (Nat.le_of_ble_eq_true rfl)) eX8_latest_70 ?_
          refine lv_topi (fun y_22 ey_22 => ?_)
          refine lv_goto (tgt := 75) hx hb eX8_latest_71 (by decide) ?_
          exact W.iret (v := y_22) hx hb hr (fun t ht hW => ⟨⟨y_22, (), rfl, trivial, ⟨z_j0_8, z_j2_18, z_j3_11, z_j4_12, z_j5_13, z_j7_14, z_ln_9, z_nr_15, ⟨by rw [ht]; exact hP, va_K.moved hW.alike hK, hD⟩, hz_ln_9, hz_nr_15⟩⟩, hS.F ht⟩) hS.2.2 eX8_latest_75
      · refine lv_iconst (v := (-1)) hx hb eX8_latest_20 (by decide) ?_
        exact W.iret (v := (-1)) hx hb hr (fun t ht hW => ⟨⟨(-1), (), rfl, trivial, ⟨q_j0, j2, q_j3, q_j4, j5, q_j7, ln, nr, ⟨by rw [ht]; exact hP, va_K.moved hW.alike hK, hD⟩, hln, hnr⟩⟩, hS.F ht⟩) hS.2.2 eX8_latest_21
  · refine lv_if_eq (tgt := 20) hx hb eX8_latest_6 (by decide) (fun _ => ?_) (fun z => absurd z (by decide))
    refine lv_iconst (v := (-1)) hx hb eX8_latest_20 (by decide) ?_
    exact W.iret (v := (-1)) hx hb hr (fun t ht hW => ⟨⟨(-1), (), rfl, trivial, ⟨q_j0, j2, q_j3, q_j4, j5, q_j7, ln, nr, ⟨by rw [ht]; exact hP, va_K.moved hW.alike hK, hD⟩, hln, hnr⟩⟩, hS.F ht⟩) hS.2.2 eX8_latest_21
theorem eX8_spans_0 : decode cX8_spans 0 = .ok (.aload_n 0, 1) := by decide +kernel
theorem eX8_spans_1 : decode cX8_spans 1 = .ok (.iload_n 1, 1) := by decide +kernel
theorem eX8_spans_2 : decode cX8_spans 2 = .ok (.invokevirtual 228, 3) := by decide +kernel
theorem eX8_spans_5 : decode cX8_spans 5 = .ok (.ifCond .ne 5, 3) := by decide +kernel
theorem eX8_spans_8 : decode cX8_spans 8 = .ok (.iconst (-1), 1) := by decide +kernel
theorem eX8_spans_9 : decode cX8_spans 9 = .ok (.ireturn, 1) := by decide +kernel
abbrev vs_C_8_spans_0 : List Cond := .code yX8_spans cX8_spans 3 (some .int) :: CM
theorem g_C_8_spans_0_C_8_isState_0 : GoodIn vs_C_8_spans_0 (wsV RX8 228 RX8 yX8_isState vs_C_8_isState_0) := cm_gV cm_537 cm_538 cm_539 cm_427 cm_530
set_option maxHeartbeats 4000000 in
set_option maxRecDepth 100000 in
theorem c_C_8_spans_0 (l : Launch) (dC : Nat → ClassId) (dI : Nat → Nat → Nat) (sz : Nat) (xa : Nat) (xtape : Nat) (tp : Nat) (rd : Nat) (au : Nat) (xdr : Nat) (hy : Nat) (g : Nat) (tg : Nat) (sg : Nat) (rm : Nat) (ti : Nat) (py : Nat) (bu : Nat) (sm : Nat) (nc : Nat) (ne : Nat) (st0 : Int32) (q4 : Nat) (q5 : Nat) (q6 : Nat) (q7 : Nat) (q8 : Nat) (q9 : Nat) (q10 : Nat) (q11 : Nat) (q12 : Nat) (q13 : Nat) (q14 : Nat) (q15 : Nat) (q16 : Nat) (k_f4 : ClassId) (f4 : Nat → Int32) (k_f5 : ClassId) (q_f5 : Nat → Nat) (k_f6 : ClassId) (q_f6 : Nat → Nat) (k_f7 : ClassId) (f7 : Nat → Int32) (k_f8 : ClassId) (q_f8 : Nat → Nat) (k_f9 : ClassId) (q_f9 : Nat → Nat) (k_f10 : ClassId) (f10 : Nat → Int32) (k_f11 : ClassId) (f11 : Nat → Int32) (k_f12 : ClassId) (f12 : Nat → Int32) (k_f13 : ClassId) (f13 : Nat → Int32) (k_f14 : ClassId) (f14 : Nat → Int32) (k_f15 : ClassId) (f15 : Nat → Int32) (k_f16 : ClassId) (f16 : Nat → Int32) (gz : Nat) (g1 : Nat) (g2 : Nat) (g3 : Nat) (g4 : Nat) (g5 : Nat) (gc : Nat) (gfull : Nat) (gx : Int32) (gway : Int32) (gav : Int32) (ggoal : Int32) (gfound : Nat) (gl : Nat) (gsz : Nat) (g16 : Nat) (g17 : Nat) (k_fs2 : ClassId) (fs2 : Nat → Int32) (k_fs3 : ClassId) (fs3 : Nat → Int32) (k_fs4 : ClassId) (fs4 : Nat → Int32) (r0 : Nat) (ln : Nat) (r2 : Nat) (r3 : Nat) (r4 : Nat) (r5 : Nat) (nr : Nat) (r7 : Nat) (r8 : Nat) (tz : Nat) (k_j0 : ClassId) (q_j0 : Nat → Nat) (k_j2 : ClassId) (j2 : Nat → Int32) (k_j3 : ClassId) (q_j3 : Nat → Nat) (k_j4 : ClassId) (q_j4 : Nat → Nat) (k_j5 : ClassId) (j5 : Nat → Int32) (k_j7 : ClassId) (q_j7 : Nat → Nat) (k_j8 : ClassId) (j8 : Nat → Int32) (tzc : Nat) (tzn : Nat) (k_ftz : ClassId) (ftz : Nat → Int32) (p0 : Int32) (p1 : Int32) (htp : tp ≤ 900) (hnc : nc ≤ 3) (hne : ne ≤ 14) (hst0 : pm1 7 st0) (hgc : gc ≤ 120) (hgfull : gfull ≤ 1) (hgfound : gfound ≤ 1) (hgl : gl ≤ 1) (hgsz : gsz ≤ 4) (hln : ln ≤ 119) (hnr : nr ≤ 1920) (htzn : tzn ≤ 5) : Met l yX8_spans vs_C_8_spans_0 ({ frames := 1, cells := 0, slots := 0, locals := 21 }) (va_Pc [.ref xa, .int p0, .int p1] (pu_B (dC, dI) (xtz__w xa xtape (nI tp) rd au xdr hy g 0 tg sg 0 rm ti py bu sm (nI nc) 0 (nI ne) st0 q4 q5 q6 q7 q8 q9 q10 q11 q12 q13 q14 q15 q16 k_f4 f4 k_f5 (bN 7 q_f5) k_f6 (bN 7 q_f6) k_f7 f7 k_f8 (bN 4 q_f8) k_f9 (bN 2 q_f9) k_f10 f10 k_f11 f11 k_f12 f12 k_f13 f13 k_f14 f14 k_f15 f15 k_f16 f16 gz g1 g2 g3 g4 g5 (nI gc) (nI gfull) gx gway gav ggoal (nI gfound) 120 (nI gl) (nI gsz) g16 g17 k_fs2 fs2 k_fs3 fs3 k_fs4 fs4 r0 (nI ln) r2 r3 r4 r5 (nI nr) r7 r8 tz k_j0 (bN 13 q_j0) k_j2 j2 k_j3 (bN 120 q_j3) k_j4 (bN 120 q_j4) k_j5 j5 k_j7 (bN 120 q_j7) k_j8 j8 tzc (nI tzn) k_ftz ftz) (xtz__t k_f4 k_f5 k_f6 k_f7 k_f8 k_f9 k_f10 k_f11 k_f12 k_f13 k_f14 k_f15 k_f16 k_fs2 k_fs3 k_fs4 k_j0 k_j2 k_j3 k_j4 k_j5 k_j7 k_j8 k_ftz) sz)) (va_Qi (fun (r : Int32) (_ : Unit) => True) (fun _ _ => True) (va_A [] sz)) 0 0 (va_A [] sz) := by
  refine Met.ofW (cc := cX8_spans) (maxL := 3) (ret := (some .int)) (by decide) rfl ?_
  intro p e s m args below meth c s₁ B hml hv
  obtain ⟨rfl, rfl, hP, hK, hD0⟩ := hv
  have hx := B.exec
  have hb := B.bytes
  have hr := B.returns
  have hts := atoms_spec (ws := vs_C_8_spans_0) B.pre
  have hown : s.vm.findClass RX8 = some m.cls := findClass_of_methodNamed B.named
  have hlocks := B.notSynchronized
  have hD := hD0
  have hA : ∀ q : Nat, s.heap.size ≤ q → va_A [] s.heap.size q := fun _ h => Or.inr h
  have hS : va_S (va_A [] s.heap.size) s.heap s.heap [] := va_S.rf
  have hl := lv_entry ([.ref xa, .int p0, .int p1]) (n := 3) (Nat.le_of_ble_eq_true rfl)
  rw [lg_entry_eq]
  generalize (lg_sl ([.ref xa, .int p0, .int p1]) ++ List.replicate (3 - (lg_sl ([.ref xa, .int p0, .int p1])).length) Slot.unset).toArray = ls at hl ⊢
  have hl : lv_has ls 3 [(0, .ref xa), (1, .int p0), (2, .int p1)] := hl
  refine lv_aload_n hx hb eX8_spans_0 rfl (lv_at hl 0 rfl) ?_
  refine lv_iload_n hx hb eX8_spans_1 rfl (lv_at hl 1 rfl) ?_
  have hPc : va_P (dC, dI) vwCl (xg0__w xa xtape (nI tp) rd au xdr hy g 0 tg sg 0 rm ti py bu sm gz g1 g2 g3 g4 g5 (nI gc) (nI gfull) gx gway gav ggoal (nI gfound) 120 (nI gl) (nI gsz) g16 g17) _ := hP.sub [0, 15] rfl
  have hDc := hD.sub (ws' := (xg0__w xa xtape (nI tp) rd au xdr hy g 0 tg sg 0 rm ti py bu sm gz g1 g2 g3 g4 g5 (nI gc) (nI gfull) gx gway gav ggoal (nI gfound) 120 (nI gl) (nI gsz) g16 g17)) [0, 15] (by decide) rfl
  have hKc : va_K (dC, dI) vwCl (xg0__t ) s := hK.sub [] rfl
  refine va_calli (va_runV (As := [.int p0]) (rest := []) ⟨hx, hb, hml, hown, hts⟩ (c_C_8_isState_0 l dC dI _ xa xtape tp rd au xdr hy g tg sg 0 rm ti py bu sm gz g1 g2 g3 g4 g5 gc gfull gx gway gav ggoal gfound gl gsz g16 g17 p0 htp (Nat.le_of_ble_eq_true rfl) hgc hgfull hgfound hgl hgsz) (cwV 1 hts g_C_8_spans_0_C_8_isState_0 rfl rfl rfl (by decide +kernel) ⟨Nat.le_of_ble_eq_true rfl, Nat.le_of_ble_eq_true rfl⟩) ⟨pu_bl, va_recv hK hP (ci := 8) (q0 := 0) rfl rfl, pu_in hPc hKc hDc⟩ rfl rfl hl.1 rfl (lv_room (Nat.le_of_ble_eq_true rfl)) eX8_spans_2 ⟨Nat.le_of_ble_eq_true rfl, Nat.le_of_ble_eq_true rfl⟩) hS (fun q _ h => pu_fr hS hA q h) (pu_fr hS hA) (fun r_1 u t H1 locs ht hvm hw hB hz1 hk1 hS => ?_)
  have hP := pu_keep hP hk1
  clear hk1 hz1 ht hvm
  generalize H1 = H at hP hS ⊢
  obtain rfl : r_1 = 0 := hw
  refine lv_if_ne (tgt := 10) hx hb eX8_spans_5 (by decide) (fun z => absurd z (by decide)) (fun _ => ?_)
  refine lv_iconst (v := (-1)) hx hb eX8_spans_8 (by decide) ?_
  exact W.iret (v := (-1)) hx hb hr (fun t ht hW => ⟨⟨(-1), (), rfl, trivial, trivial⟩, hS.F ht⟩) hS.2.2 eX8_spans_9
theorem eX8_spans_10 : decode cX8_spans 10 = .ok (.aload_n 0, 1) := by decide +kernel
theorem eX8_spans_11 : decode cX8_spans 11 = .ok (.getfield 62, 3) := by decide +kernel
theorem eX8_spans_14 : decode cX8_spans 14 = .ok (.aload_n 0, 1) := by decide +kernel
theorem eX8_spans_15 : decode cX8_spans 15 = .ok (.getfield 42, 3) := by decide +kernel
theorem eX8_spans_18 : decode cX8_spans 18 = .ok (.iload_n 1, 1) := by decide +kernel
theorem eX8_spans_19 : decode cX8_spans 19 = .ok (.invokevirtual 323, 3) := by decide +kernel
theorem eX8_spans_22 : decode cX8_spans 22 = .ok (.aload_n 0, 1) := by decide +kernel
theorem eX8_spans_23 : decode cX8_spans 23 = .ok (.getfield 62, 3) := by decide +kernel
theorem eX8_spans_26 : decode cX8_spans 26 = .ok (.aload_n 0, 1) := by decide +kernel
theorem eX8_spans_27 : decode cX8_spans 27 = .ok (.getfield 23, 3) := by decide +kernel
theorem eX8_spans_30 : decode cX8_spans 30 = .ok (.iload_n 2, 1) := by decide +kernel
theorem eX8_spans_31 : decode cX8_spans 31 = .ok (.invokevirtual 347, 3) := by decide +kernel
theorem eX8_spans_34 : decode cX8_spans 34 = .ok (.ireturn, 1) := by decide +kernel
abbrev vs_C_8_spans : List Cond := .code yX8_spans cX8_spans 3 (some .int) :: CM
theorem g_C_8_spans_C_8_isState : GoodIn vs_C_8_spans (wsV RX8 228 RX8 yX8_isState vs_C_8_isState) := cm_gV cm_537 cm_538 cm_539 cm_427 cm_530
theorem g_C_8_spans_C_6_loadRun : GoodIn vs_C_8_spans (wsV RX8 323 RX6 yX6_loadRun vs_C_6_loadRun) := cm_gV cm_606 cm_607 cm_608 cm_383 cm_364
theorem g_C_8_spans_C_6_spanOf : GoodIn vs_C_8_spans (wsV RX8 347 RX6 yX6_spanOf vs_C_6_spanOf) := cm_gV cm_626 cm_627 cm_628 cm_383 cm_403
set_option maxHeartbeats 4000000 in
set_option maxRecDepth 100000 in
theorem c_C_8_spans (l : Launch) (dC : Nat → ClassId) (dI : Nat → Nat → Nat) (sz : Nat) (xa : Nat) (xtape : Nat) (tp : Nat) (rd : Nat) (au : Nat) (xdr : Nat) (hy : Nat) (g : Nat) (hs : Nat) (tg : Nat) (sg : Nat) (ss : Nat) (rm : Nat) (ti : Nat) (py : Nat) (bu : Nat) (sm : Nat) (nc : Nat) (np : Nat) (ne : Nat) (st0 : Nat) (q4 : Nat) (q5 : Nat) (q6 : Nat) (q7 : Nat) (q8 : Nat) (q9 : Nat) (q10 : Nat) (q11 : Nat) (q12 : Nat) (q13 : Nat) (q14 : Nat) (q15 : Nat) (q16 : Nat) (k_f4 : ClassId) (f4 : Nat → Int32) (k_f5 : ClassId) (q_f5 : Nat → Nat) (k_f6 : ClassId) (q_f6 : Nat → Nat) (k_f7 : ClassId) (f7 : Nat → Int32) (k_f8 : ClassId) (q_f8 : Nat → Nat) (k_f9 : ClassId) (q_f9 : Nat → Nat) (k_f10 : ClassId) (f10 : Nat → Int32) (k_f11 : ClassId) (f11 : Nat → Int32) (k_f12 : ClassId) (f12 : Nat → Int32) (k_f13 : ClassId) (f13 : Nat → Int32) (k_f14 : ClassId) (f14 : Nat → Int32) (k_f15 : ClassId) (f15 : Nat → Int32) (k_f16 : ClassId) (f16 : Nat → Int32) (gz : Nat) (g1 : Nat) (g2 : Nat) (g3 : Nat) (g4 : Nat) (g5 : Nat) (gc : Nat) (gfull : Nat) (gx : Int32) (gway : Int32) (gav : Int32) (ggoal : Int32) (gfound : Nat) (gl : Nat) (gsz : Nat) (g16 : Nat) (g17 : Nat) (k_fs2 : ClassId) (fs2 : Nat → Int32) (k_fs3 : ClassId) (fs3 : Nat → Int32) (k_fs4 : ClassId) (fs4 : Nat → Int32) (r0 : Nat) (ln : Nat) (r2 : Nat) (r3 : Nat) (r4 : Nat) (r5 : Nat) (nr : Nat) (r7 : Nat) (r8 : Nat) (tz : Nat) (k_j0 : ClassId) (q_j0 : Nat → Nat) (k_j2 : ClassId) (j2 : Nat → Int32) (k_j3 : ClassId) (q_j3 : Nat → Nat) (k_j4 : ClassId) (q_j4 : Nat → Nat) (k_j5 : ClassId) (j5 : Nat → Int32) (k_j7 : ClassId) (q_j7 : Nat → Nat) (k_j8 : ClassId) (j8 : Nat → Int32) (tzc : Nat) (tzn : Nat) (k_ftz : ClassId) (ftz : Nat → Int32) (p0 : Int32) (p1 : Int32) (htp : tp ≤ 900) (hhs : hs ≤ 1) (hss : ss ≤ 1) (hnc : nc ≤ 3) (hnp : np ≤ 8) (hne : ne ≤ 14) (hst0 : st0 ≤ 7) (hgc : gc ≤ 120) (hgfull : gfull ≤ 1) (hgfound : gfound ≤ 1) (hgl : gl ≤ 1) (hgsz : gsz ≤ 4) (hln : ln ≤ 119) (hnr : nr ≤ 1920) (htzn : tzn ≤ 5) (hq0 : gz_ok gc fs2 fs3 fs4) : Met l yX8_spans vs_C_8_spans ({ frames := 4, cells := 0, slots := 0, locals := 102 }) (va_Pc [.ref xa, .int p0, .int p1] (pu_B (dC, dI) (xtz__w xa xtape (nI tp) rd au xdr hy g (nI hs) tg sg (nI ss) rm ti py bu sm (nI nc) (nI np) (nI ne) (nI st0) q4 q5 q6 q7 q8 q9 q10 q11 q12 q13 q14 q15 q16 k_f4 f4 k_f5 (bN 7 q_f5) k_f6 (bN 7 q_f6) k_f7 f7 k_f8 (bN 4 q_f8) k_f9 (bN 2 q_f9) k_f10 f10 k_f11 f11 k_f12 f12 k_f13 f13 k_f14 f14 k_f15 f15 k_f16 f16 gz g1 g2 g3 g4 g5 (nI gc) (nI gfull) gx gway gav ggoal (nI gfound) 120 (nI gl) (nI gsz) g16 g17 k_fs2 fs2 k_fs3 fs3 k_fs4 fs4 r0 (nI ln) r2 r3 r4 r5 (nI nr) r7 r8 tz k_j0 (bN 13 q_j0) k_j2 j2 k_j3 (bN 120 q_j3) k_j4 (bN 120 q_j4) k_j5 j5 k_j7 (bN 120 q_j7) k_j8 j8 tzc (nI tzn) k_ftz ftz) (xtz__t k_f4 k_f5 k_f6 k_f7 k_f8 k_f9 k_f10 k_f11 k_f12 k_f13 k_f14 k_f15 k_f16 k_fs2 k_fs3 k_fs4 k_j0 k_j2 k_j3 k_j4 k_j5 k_j7 k_j8 k_ftz) sz)) (va_Qi (fun (r : Int32) (_ : Unit) => True) (fun _ t => ∃ (z_j0 : Nat → Nat) (z_ftz : Nat → Int32) (z_ln : Nat) (z_tzn : Nat), pu_E (dC, dI) (xtz__w xa xtape (nI tp) rd au xdr hy g (nI hs) tg sg (nI ss) rm ti py bu sm (nI nc) (nI np) (nI ne) (nI st0) q4 q5 q6 q7 q8 q9 q10 q11 q12 q13 q14 q15 q16 k_f4 f4 k_f5 (bN 7 q_f5) k_f6 (bN 7 q_f6) k_f7 f7 k_f8 (bN 4 q_f8) k_f9 (bN 2 q_f9) k_f10 f10 k_f11 f11 k_f12 f12 k_f13 f13 k_f14 f14 k_f15 f15 k_f16 f16 gz g1 g2 g3 g4 g5 (nI gc) (nI gfull) gx gway gav ggoal (nI gfound) 120 (nI gl) (nI gsz) g16 g17 k_fs2 fs2 k_fs3 fs3 k_fs4 fs4 r0 (nI z_ln) r2 r3 r4 r5 (nI nr) r7 r8 tz k_j0 (bN 13 z_j0) k_j2 j2 k_j3 (bN 120 q_j3) k_j4 (bN 120 q_j4) k_j5 j5 k_j7 (bN 120 q_j7) k_j8 j8 tzc (nI z_tzn) k_ftz z_ftz) (xtz__t k_f4 k_f5 k_f6 k_f7 k_f8 k_f9 k_f10 k_f11 k_f12 k_f13 k_f14 k_f15 k_f16 k_fs2 k_fs3 k_fs4 k_j0 k_j2 k_j3 k_j4 k_j5 k_j7 k_j8 k_ftz) (va_A ((xtz__w xa xtape (nI tp) rd au xdr hy g (nI hs) tg sg (nI ss) rm ti py bu sm (nI nc) (nI np) (nI ne) (nI st0) q4 q5 q6 q7 q8 q9 q10 q11 q12 q13 q14 q15 q16 k_f4 f4 k_f5 (bN 7 q_f5) k_f6 (bN 7 q_f6) k_f7 f7 k_f8 (bN 4 q_f8) k_f9 (bN 2 q_f9) k_f10 f10 k_f11 f11 k_f12 f12 k_f13 f13 k_f14 f14 k_f15 f15 k_f16 f16 gz g1 g2 g3 g4 g5 (nI gc) (nI gfull) gx gway gav ggoal (nI gfound) 120 (nI gl) (nI gsz) g16 g17 k_fs2 fs2 k_fs3 fs3 k_fs4 fs4 r0 (nI ln) r2 r3 r4 r5 (nI nr) r7 r8 tz k_j0 (bN 13 q_j0) k_j2 j2 k_j3 (bN 120 q_j3) k_j4 (bN 120 q_j4) k_j5 j5 k_j7 (bN 120 q_j7) k_j8 j8 tzc (nI tzn) k_ftz ftz)) sz) t ∧ (z_ln ≤ 119) ∧ (z_tzn ≤ 5)) (va_A ((xtz__w xa xtape (nI tp) rd au xdr hy g (nI hs) tg sg (nI ss) rm ti py bu sm (nI nc) (nI np) (nI ne) (nI st0) q4 q5 q6 q7 q8 q9 q10 q11 q12 q13 q14 q15 q16 k_f4 f4 k_f5 (bN 7 q_f5) k_f6 (bN 7 q_f6) k_f7 f7 k_f8 (bN 4 q_f8) k_f9 (bN 2 q_f9) k_f10 f10 k_f11 f11 k_f12 f12 k_f13 f13 k_f14 f14 k_f15 f15 k_f16 f16 gz g1 g2 g3 g4 g5 (nI gc) (nI gfull) gx gway gav ggoal (nI gfound) 120 (nI gl) (nI gsz) g16 g17 k_fs2 fs2 k_fs3 fs3 k_fs4 fs4 r0 (nI ln) r2 r3 r4 r5 (nI nr) r7 r8 tz k_j0 (bN 13 q_j0) k_j2 j2 k_j3 (bN 120 q_j3) k_j4 (bN 120 q_j4) k_j5 j5 k_j7 (bN 120 q_j7) k_j8 j8 tzc (nI tzn) k_ftz ftz)) sz)) 0 0 (va_A ((xtz__w xa xtape (nI tp) rd au xdr hy g (nI hs) tg sg (nI ss) rm ti py bu sm (nI nc) (nI np) (nI ne) (nI st0) q4 q5 q6 q7 q8 q9 q10 q11 q12 q13 q14 q15 q16 k_f4 f4 k_f5 (bN 7 q_f5) k_f6 (bN 7 q_f6) k_f7 f7 k_f8 (bN 4 q_f8) k_f9 (bN 2 q_f9) k_f10 f10 k_f11 f11 k_f12 f12 k_f13 f13 k_f14 f14 k_f15 f15 k_f16 f16 gz g1 g2 g3 g4 g5 (nI gc) (nI gfull) gx gway gav ggoal (nI gfound) 120 (nI gl) (nI gsz) g16 g17 k_fs2 fs2 k_fs3 fs3 k_fs4 fs4 r0 (nI ln) r2 r3 r4 r5 (nI nr) r7 r8 tz k_j0 (bN 13 q_j0) k_j2 j2 k_j3 (bN 120 q_j3) k_j4 (bN 120 q_j4) k_j5 j5 k_j7 (bN 120 q_j7) k_j8 j8 tzc (nI tzn) k_ftz ftz)) sz) := by
  refine Met.ofW (cc := cX8_spans) (maxL := 3) (ret := (some .int)) (by decide) rfl ?_
  intro p e s m args below meth c s₁ B hml hv
  obtain ⟨rfl, rfl, hP, hK, hD0⟩ := hv
  have hx := B.exec
  have hb := B.bytes
  have hr := B.returns
  have hts := atoms_spec (ws := vs_C_8_spans) B.pre
  have v_6 := hts (.fieldLink RX8 62 "ClockReach" "timing" "LClockReach$Timing;") (List.mem_cons_of_mem _ cm_601)
  have v_7 := hts (.fieldLink RX8 42 "ClockReach" "shown" "LClockReach$Graph;") (List.mem_cons_of_mem _ cm_456)
  have v_13 := hts (.fieldLink RX8 23 "ClockReach" "model" "LClockReach$Automaton;") (List.mem_cons_of_mem _ cm_434)
  have hown : s.vm.findClass RX8 = some m.cls := findClass_of_methodNamed B.named
  have hlocks := B.notSynchronized
  have hiX8 : ∀ w ∈ wsX80, w ∈ vs_C_8_spans := fun _ h => List.mem_cons_of_mem _ (cm_X8 h)
  have hD := hD0.self (sz := s.heap.size)
  generalize hAe : va_A ((xtz__w xa xtape (nI tp) rd au xdr hy g (nI hs) tg sg (nI ss) rm ti py bu sm (nI nc) (nI np) (nI ne) (nI st0) q4 q5 q6 q7 q8 q9 q10 q11 q12 q13 q14 q15 q16 k_f4 f4 k_f5 (bN 7 q_f5) k_f6 (bN 7 q_f6) k_f7 f7 k_f8 (bN 4 q_f8) k_f9 (bN 2 q_f9) k_f10 f10 k_f11 f11 k_f12 f12 k_f13 f13 k_f14 f14 k_f15 f15 k_f16 f16 gz g1 g2 g3 g4 g5 (nI gc) (nI gfull) gx gway gav ggoal (nI gfound) 120 (nI gl) (nI gsz) g16 g17 k_fs2 fs2 k_fs3 fs3 k_fs4 fs4 r0 (nI ln) r2 r3 r4 r5 (nI nr) r7 r8 tz k_j0 (bN 13 q_j0) k_j2 j2 k_j3 (bN 120 q_j3) k_j4 (bN 120 q_j4) k_j5 j5 k_j7 (bN 120 q_j7) k_j8 j8 tzc (nI tzn) k_ftz ftz)) s.heap.size = A at hD ⊢
  have hA : ∀ q : Nat, s.heap.size ≤ q → A q := fun q h => by rw [← hAe]; exact Or.inr h
  have hS : va_S A s.heap s.heap [] := va_S.rf
  have hl := lv_entry ([.ref xa, .int p0, .int p1]) (n := 3) (Nat.le_of_ble_eq_true rfl)
  rw [lg_entry_eq]
  generalize (lg_sl ([.ref xa, .int p0, .int p1]) ++ List.replicate (3 - (lg_sl ([.ref xa, .int p0, .int p1])).length) Slot.unset).toArray = ls at hl ⊢
  have hl : lv_has ls 3 [(0, .ref xa), (1, .int p0), (2, .int p1)] := hl
  refine lv_aload_n hx hb eX8_spans_0 rfl (lv_at hl 0 rfl) ?_
  refine lv_iload_n hx hb eX8_spans_1 rfl (lv_at hl 1 rfl) ?_
  have hPc : va_P (dC, dI) vwCl (xg0__w xa xtape (nI tp) rd au xdr hy g (nI hs) tg sg (nI ss) rm ti py bu sm gz g1 g2 g3 g4 g5 (nI gc) (nI gfull) gx gway gav ggoal (nI gfound) 120 (nI gl) (nI gsz) g16 g17) _ := hP.sub [0, 15] rfl
  have hDc := hD.sub (ws' := (xg0__w xa xtape (nI tp) rd au xdr hy g (nI hs) tg sg (nI ss) rm ti py bu sm gz g1 g2 g3 g4 g5 (nI gc) (nI gfull) gx gway gav ggoal (nI gfound) 120 (nI gl) (nI gsz) g16 g17)) [0, 15] (by decide) rfl
  have hKc : va_K (dC, dI) vwCl (xg0__t ) s := hK.sub [] rfl
  refine va_calli (va_runV (As := [.int p0]) (rest := []) ⟨hx, hb, hml, hown, hts⟩ (c_C_8_isState l dC dI _ xa xtape tp rd au xdr hy g hs tg sg ss rm ti py bu sm gz g1 g2 g3 g4 g5 gc gfull gx gway gav ggoal gfound gl gsz g16 g17 p0 htp hhs hss hgc hgfull hgfound hgl hgsz) (cwV 1 hts g_C_8_spans_C_8_isState rfl rfl rfl (by decide +kernel) ⟨Nat.le_of_ble_eq_true rfl, Nat.le_of_ble_eq_true rfl⟩) ⟨pu_bl, va_recv hK hP (ci := 8) (q0 := 0) rfl rfl, pu_in hPc hKc hDc⟩ rfl rfl hl.1 rfl (lv_room (Nat.le_of_ble_eq_true rfl)) eX8_spans_2 ⟨Nat.le_of_ble_eq_true rfl, Nat.le_of_ble_eq_true rfl⟩) hS (fun q _ h => pu_fr hS hA q h) (pu_fr hS hA) (fun r_1 u t H1 locs ht hvm hw hB hz1 hk1 hS => ?_)
  have hP := pu_keep hP hk1
  clear hk1 hz1 ht hvm
  generalize H1 = H at hP hS ⊢
  rcases hw with ⟨rfl, hw⟩ | rfl
  · obtain ⟨n_2, hn_2, rfl⟩ := hw
    refine lv_if_ne (tgt := 10) hx hb eX8_spans_5 (by decide) (fun _ => ?_) (fun z => absurd z (by decide))
    refine lv_aload_n hx hb eX8_spans_10 rfl (lv_at hl 0 rfl) ?_
    refine va_get (D := (dC, dI)) (ci := 8) (v := .ref ti) (C := RX8) (T := TX8) (N := 16) hx hb hts hiX8 hown hK hP 0 rfl rfl 12 (by decide) v_6 (fun _ h9 => h9) rfl eX8_spans_11 ?_
    refine lv_aload_n hx hb eX8_spans_14 rfl (lv_at hl 0 rfl) ?_
    refine va_get (D := (dC, dI)) (ci := 8) (v := .ref g) (C := RX8) (T := TX8) (N := 16) hx hb hts hiX8 hown hK hP 0 rfl rfl 6 (by decide) v_7 (fun _ h9 => h9) rfl eX8_spans_15 ?_
    refine lv_iload_n hx hb eX8_spans_18 rfl (lv_at hl 1 rfl) ?_
    have hPc : va_P (dC, dI) vwCl (tg__w ti r0 (nI ln) r2 r3 r4 r5 (nI nr) r7 r8 tz k_j0 (bN 13 q_j0) k_j2 j2 k_j3 (bN 120 q_j3) k_j4 (bN 120 q_j4) k_j5 j5 k_j7 (bN 120 q_j7) k_j8 j8 g gz g1 g2 g3 g4 g5 (nI gc) (nI gfull) gx gway gav ggoal (nI gfound) 120 (nI gl) (nI gsz) g16 g17 k_fs2 fs2 k_fs3 fs3 k_fs4 fs4) _ := hP.sub [19, 20, 21, 22, 23, 24, 25, 26, 15, 16, 17, 18] rfl
    have hDc := hD.sub (ws' := (tg__w ti r0 (nI ln) r2 r3 r4 r5 (nI nr) r7 r8 tz k_j0 (bN 13 q_j0) k_j2 j2 k_j3 (bN 120 q_j3) k_j4 (bN 120 q_j4) k_j5 j5 k_j7 (bN 120 q_j7) k_j8 j8 g gz g1 g2 g3 g4 g5 (nI gc) (nI gfull) gx gway gav ggoal (nI gfound) 120 (nI gl) (nI gsz) g16 g17 k_fs2 fs2 k_fs3 fs3 k_fs4 fs4)) [19, 20, 21, 22, 23, 24, 25, 26, 15, 16, 17, 18] (by decide) rfl
    have hKc : va_K (dC, dI) vwCl (tg__t k_j0 k_j2 k_j3 k_j4 k_j5 k_j7 k_j8 k_fs2 k_fs3 k_fs4) s := hK.sub [16, 17, 18, 19, 20, 21, 22, 13, 14, 15] rfl
    have hFc := pu_free hDc hS hA
    refine va_callv (va_runV (As := [.ref g, .int (nI n_2)]) (rest := []) ⟨hx, hb, hml, hown, hts⟩ (c_C_6_loadRun l dC dI _ ti r0 ln r2 r3 r4 r5 nr r7 r8 tz k_j0 q_j0 k_j2 j2 k_j3 q_j3 k_j4 q_j4 k_j5 j5 k_j7 q_j7 k_j8 j8 g gz g1 g2 g3 g4 g5 gc gfull gx gway gav ggoal gfound gl gsz g16 g17 k_fs2 fs2 k_fs3 fs3 k_fs4 fs4 n_2 hln hnr hgc hgfull hgfound hgl hgsz (by omega) (by first | assumption | exact gz_0) (by omega)) (cwV 2 hts g_C_8_spans_C_6_loadRun rfl rfl rfl (by decide +kernel) ⟨Nat.le_of_ble_eq_true rfl, Nat.le_of_ble_eq_true rfl⟩) ⟨pu_bl, va_recv hK hP (ci := 6) (q0 := 19) rfl rfl, pu_in hPc hKc hDc⟩ rfl rfl hl.1 rfl (lv_room (Nat.le_of_ble_eq_true rfl)) eX8_spans_19 ⟨Nat.le_of_ble_eq_true rfl, Nat.le_of_ble_eq_true rfl⟩) hS (fun q _ h => hFc q h) hFc (fun u t H1 locs ht hvm hw hB hz1 hk1 hS => ?_)
    obtain ⟨z_j0_4, z_ln_5, ⟨hP1, -, hD1⟩, hz_ln_5⟩ := hB
    rw [ht] at hP1
    obtain ⟨hP, hD⟩ := pj_a (X := (xtz__w xa xtape (nI tp) rd au xdr hy g (nI hs) tg sg (nI ss) rm ti py bu sm (nI nc) (nI np) (nI ne) (nI st0) q4 q5 q6 q7 q8 q9 q10 q11 q12 q13 q14 q15 q16 k_f4 f4 k_f5 (bN 7 q_f5) k_f6 (bN 7 q_f6) k_f7 f7 k_f8 (bN 4 q_f8) k_f9 (bN 2 q_f9) k_f10 f10 k_f11 f11 k_f12 f12 k_f13 f13 k_f14 f14 k_f15 f15 k_f16 f16 gz g1 g2 g3 g4 g5 (nI gc) (nI gfull) gx gway gav ggoal (nI gfound) 120 (nI gl) (nI gsz) g16 g17 k_fs2 fs2 k_fs3 fs3 k_fs4 fs4 r0 (nI ln) r2 r3 r4 r5 (nI nr) r7 r8 tz k_j0 (bN 13 q_j0) k_j2 j2 k_j3 (bN 120 q_j3) k_j4 (bN 120 q_j4) k_j5 j5 k_j7 (bN 120 q_j7) k_j8 j8 tzc (nI tzn) k_ftz ftz)) (X' := (xtz__w xa xtape (nI tp) rd au xdr hy g (nI hs) tg sg (nI ss) rm ti py bu sm (nI nc) (nI np) (nI ne) (nI st0) q4 q5 q6 q7 q8 q9 q10 q11 q12 q13 q14 q15 q16 k_f4 f4 k_f5 (bN 7 q_f5) k_f6 (bN 7 q_f6) k_f7 f7 k_f8 (bN 4 q_f8) k_f9 (bN 2 q_f9) k_f10 f10 k_f11 f11 k_f12 f12 k_f13 f13 k_f14 f14 k_f15 f15 k_f16 f16 gz g1 g2 g3 g4 g5 (nI gc) (nI gfull) gx gway gav ggoal (nI gfound) 120 (nI gl) (nI gsz) g16 g17 k_fs2 fs2 k_fs3 fs3 k_fs4 fs4 r0 (nI z_ln_5) r2 r3 r4 r5 (nI nr) r7 r8 tz k_j0 (bN 13 z_j0_4) k_j2 j2 k_j3 (bN 120 q_j3) k_j4 (bN 120 q_j4) k_j5 j5 k_j7 (bN 120 q_j7) k_j8 j8 tzc (nI tzn) k_ftz ftz)) (wc := (tg__w ti r0 (nI ln) r2 r3 r4 r5 (nI nr) r7 r8 tz k_j0 (bN 13 q_j0) k_j2 j2 k_j3 (bN 120 q_j3) k_j4 (bN 120 q_j4) k_j5 j5 k_j7 (bN 120 q_j7) k_j8 j8 g gz g1 g2 g3 g4 g5 (nI gc) (nI gfull) gx gway gav ggoal (nI gfound) 120 (nI gl) (nI gsz) g16 g17 k_fs2 fs2 k_fs3 fs3 k_fs4 fs4)) (w1 := (tg__w ti r0 (nI z_ln_5) r2 r3 r4 r5 (nI nr) r7 r8 tz k_j0 (bN 13 z_j0_4) k_j2 j2 k_j3 (bN 120 q_j3) k_j4 (bN 120 q_j4) k_j5 j5 k_j7 (bN 120 q_j7) k_j8 j8 g gz g1 g2 g3 g4 g5 (nI gc) (nI gfull) gx gway gav ggoal (nI gfound) 120 (nI gl) (nI gsz) g16 g17 k_fs2 fs2 k_fs3 fs3 k_fs4 fs4)) hP hD [19, 20, 21, 22, 23, 24, 25, 26, 15, 16, 17, 18] [12, 13, 14, 15, 16, 17, 18, 19, 20, 21, 22, 23, 24, 25, 26, 8, 9, 10, 11, 0, 1, 2, 3, 4, 5, 6, 7, 39, 40] 12 rfl hk1 hP1 rfl rfl rfl (by decide)
    clear hP1 hD1 hFc hPc hDc hKc
    clear hk1 hz1 ht hvm
    generalize H1 = H at hP hS ⊢
    refine lv_aload_n hx hb eX8_spans_22 rfl (lv_at hl 0 rfl) ?_
    refine va_get (D := (dC, dI)) (ci := 8) (v := .ref ti) (C := RX8) (T := TX8) (N := 16) hx hb hts hiX8 hown hK hP 0 rfl rfl 12 (by decide) v_6 (fun _ h9 => h9) rfl eX8_spans_23 ?_
    refine lv_aload_n hx hb eX8_spans_26 rfl (lv_at hl 0 rfl) ?_
    refine va_get (D := (dC, dI)) (ci := 8) (v := .ref au) (C := RX8) (T := TX8) (N := 16) hx hb hts hiX8 hown hK hP 0 rfl rfl 3 (by decide) v_13 (fun _ h9 => h9) rfl eX8_spans_27 ?_
    refine lv_iload_n hx hb eX8_spans_30 rfl (lv_at hl 2 rfl) ?_
    have hPc : va_P (dC, dI) vwCl (tz__w ti r0 (nI z_ln_5) r2 r3 r4 r5 (nI nr) r7 r8 tz k_j0 (bN 13 z_j0_4) k_j2 j2 k_j3 (bN 120 q_j3) k_j4 (bN 120 q_j4) k_j5 j5 k_j7 (bN 120 q_j7) k_j8 j8 au (nI nc) (nI np) (nI ne) (nI st0) q4 q5 q6 q7 q8 q9 q10 q11 q12 q13 q14 q15 q16 k_f4 f4 k_f5 (bN 7 q_f5) k_f6 (bN 7 q_f6) k_f7 f7 k_f8 (bN 4 q_f8) k_f9 (bN 2 q_f9) k_f10 f10 k_f11 f11 k_f12 f12 k_f13 f13 k_f14 f14 k_f15 f15 k_f16 f16 tzc (nI tzn) k_ftz ftz) _ := hP.sub [19, 20, 21, 22, 23, 24, 25, 26, 1, 2, 3, 4, 5, 6, 7, 8, 9, 10, 11, 12, 13, 14, 27, 28] rfl
    have hDc := hD.sub (ws' := (tz__w ti r0 (nI z_ln_5) r2 r3 r4 r5 (nI nr) r7 r8 tz k_j0 (bN 13 z_j0_4) k_j2 j2 k_j3 (bN 120 q_j3) k_j4 (bN 120 q_j4) k_j5 j5 k_j7 (bN 120 q_j7) k_j8 j8 au (nI nc) (nI np) (nI ne) (nI st0) q4 q5 q6 q7 q8 q9 q10 q11 q12 q13 q14 q15 q16 k_f4 f4 k_f5 (bN 7 q_f5) k_f6 (bN 7 q_f6) k_f7 f7 k_f8 (bN 4 q_f8) k_f9 (bN 2 q_f9) k_f10 f10 k_f11 f11 k_f12 f12 k_f13 f13 k_f14 f14 k_f15 f15 k_f16 f16 tzc (nI tzn) k_ftz ftz)) [19, 20, 21, 22, 23, 24, 25, 26, 1, 2, 3, 4, 5, 6, 7, 8, 9, 10, 11, 12, 13, 14, 27, 28] (by decide) rfl
    have hKc : va_K (dC, dI) vwCl (tz__t k_j0 k_j2 k_j3 k_j4 k_j5 k_j7 k_j8 k_f4 k_f5 k_f6 k_f7 k_f8 k_f9 k_f10 k_f11 k_f12 k_f13 k_f14 k_f15 k_f16 k_ftz) s := hK.sub [16, 17, 18, 19, 20, 21, 22, 0, 1, 2, 3, 4, 5, 6, 7, 8, 9, 10, 11, 12, 23] rfl
    have hFc := pu_free hDc hS hA
    refine va_calli (va_runV (As := [.ref au, .int p1]) (rest := []) ⟨hx, hb, hml, hown, hts⟩ (c_C_6_spanOf l dC dI _ ti r0 z_ln_5 r2 r3 r4 r5 nr r7 r8 tz k_j0 z_j0_4 k_j2 j2 k_j3 q_j3 k_j4 q_j4 k_j5 j5 k_j7 q_j7 k_j8 j8 au nc np ne st0 q4 q5 q6 q7 q8 q9 q10 q11 q12 q13 q14 q15 q16 k_f4 f4 k_f5 q_f5 k_f6 q_f6 k_f7 f7 k_f8 q_f8 k_f9 q_f9 k_f10 f10 k_f11 f11 k_f12 f12 k_f13 f13 k_f14 f14 k_f15 f15 k_f16 f16 tzc tzn k_ftz ftz p1 hz_ln_5 hnr hnc hnp hne hst0 htzn) (cwV 2 hts g_C_8_spans_C_6_spanOf rfl rfl rfl (by decide +kernel) ⟨Nat.le_of_ble_eq_true rfl, Nat.le_of_ble_eq_true rfl⟩) ⟨pu_bl, va_recv hK hP (ci := 6) (q0 := 19) rfl rfl, pu_in hPc hKc hDc⟩ rfl rfl hl.1 rfl (lv_room (Nat.le_of_ble_eq_true rfl)) eX8_spans_31 ⟨Nat.le_of_ble_eq_true rfl, Nat.le_of_ble_eq_true rfl⟩) hS (fun q _ h => hFc q h) hFc (fun r_6 u t H1 locs ht hvm hw hB hz1 hk1 hS => ?_)
    obtain ⟨z_ftz_7, z_tzn_8, ⟨hP1, -, hD1⟩, hz_tzn_8⟩ := hB
    rw [ht] at hP1
    obtain ⟨hP, hD⟩ := pj_a (X := (xtz__w xa xtape (nI tp) rd au xdr hy g (nI hs) tg sg (nI ss) rm ti py bu sm (nI nc) (nI np) (nI ne) (nI st0) q4 q5 q6 q7 q8 q9 q10 q11 q12 q13 q14 q15 q16 k_f4 f4 k_f5 (bN 7 q_f5) k_f6 (bN 7 q_f6) k_f7 f7 k_f8 (bN 4 q_f8) k_f9 (bN 2 q_f9) k_f10 f10 k_f11 f11 k_f12 f12 k_f13 f13 k_f14 f14 k_f15 f15 k_f16 f16 gz g1 g2 g3 g4 g5 (nI gc) (nI gfull) gx gway gav ggoal (nI gfound) 120 (nI gl) (nI gsz) g16 g17 k_fs2 fs2 k_fs3 fs3 k_fs4 fs4 r0 (nI z_ln_5) r2 r3 r4 r5 (nI nr) r7 r8 tz k_j0 (bN 13 z_j0_4) k_j2 j2 k_j3 (bN 120 q_j3) k_j4 (bN 120 q_j4) k_j5 j5 k_j7 (bN 120 q_j7) k_j8 j8 tzc (nI tzn) k_ftz ftz)) (X' := (xtz__w xa xtape (nI tp) rd au xdr hy g (nI hs) tg sg (nI ss) rm ti py bu sm (nI nc) (nI np) (nI ne) (nI st0) q4 q5 q6 q7 q8 q9 q10 q11 q12 q13 q14 q15 q16 k_f4 f4 k_f5 (bN 7 q_f5) k_f6 (bN 7 q_f6) k_f7 f7 k_f8 (bN 4 q_f8) k_f9 (bN 2 q_f9) k_f10 f10 k_f11 f11 k_f12 f12 k_f13 f13 k_f14 f14 k_f15 f15 k_f16 f16 gz g1 g2 g3 g4 g5 (nI gc) (nI gfull) gx gway gav ggoal (nI gfound) 120 (nI gl) (nI gsz) g16 g17 k_fs2 fs2 k_fs3 fs3 k_fs4 fs4 r0 (nI z_ln_5) r2 r3 r4 r5 (nI nr) r7 r8 tz k_j0 (bN 13 z_j0_4) k_j2 j2 k_j3 (bN 120 q_j3) k_j4 (bN 120 q_j4) k_j5 j5 k_j7 (bN 120 q_j7) k_j8 j8 tzc (nI z_tzn_8) k_ftz z_ftz_7)) (wc := (tz__w ti r0 (nI z_ln_5) r2 r3 r4 r5 (nI nr) r7 r8 tz k_j0 (bN 13 z_j0_4) k_j2 j2 k_j3 (bN 120 q_j3) k_j4 (bN 120 q_j4) k_j5 j5 k_j7 (bN 120 q_j7) k_j8 j8 au (nI nc) (nI np) (nI ne) (nI st0) q4 q5 q6 q7 q8 q9 q10 q11 q12 q13 q14 q15 q16 k_f4 f4 k_f5 (bN 7 q_f5) k_f6 (bN 7 q_f6) k_f7 f7 k_f8 (bN 4 q_f8) k_f9 (bN 2 q_f9) k_f10 f10 k_f11 f11 k_f12 f12 k_f13 f13 k_f14 f14 k_f15 f15 k_f16 f16 tzc (nI tzn) k_ftz ftz)) (w1 := (tz__w ti r0 (nI z_ln_5) r2 r3 r4 r5 (nI nr) r7 r8 tz k_j0 (bN 13 z_j0_4) k_j2 j2 k_j3 (bN 120 q_j3) k_j4 (bN 120 q_j4) k_j5 j5 k_j7 (bN 120 q_j7) k_j8 j8 au (nI nc) (nI np) (nI ne) (nI st0) q4 q5 q6 q7 q8 q9 q10 q11 q12 q13 q14 q15 q16 k_f4 f4 k_f5 (bN 7 q_f5) k_f6 (bN 7 q_f6) k_f7 f7 k_f8 (bN 4 q_f8) k_f9 (bN 2 q_f9) k_f10 f10 k_f11 f11 k_f12 f12 k_f13 f13 k_f14 f14 k_f15 f15 k_f16 f16 tzc (nI z_tzn_8) k_ftz z_ftz_7)) hP hD [19, 20, 21, 22, 23, 24, 25, 26, 1, 2, 3, 4, 5, 6, 7, 8, 9, 10, 11, 12, 13, 14, 27, 28] [24, 8, 9, 10, 11, 12, 13, 14, 15, 16, 17, 18, 19, 20, 21, 39, 40, 41, 42, 0, 1, 2, 3, 4, 5, 6, 7, 22, 23] 24 rfl hk1 hP1 rfl rfl rfl (by decide)
    clear hP1 hD1 hFc hPc hDc hKc
    clear hk1 hz1 ht hvm
    generalize H1 = H at hP hS ⊢
    exact W.iret (v := r_6) hx hb hr (fun t ht hW => ⟨⟨r_6, (), rfl, trivial, ⟨z_j0_4, z_ftz_7, z_ln_5, z_tzn_8, ⟨by rw [ht]; exact hP, va_K.moved hW.alike hK, hD⟩, hz_ln_5, hz_tzn_8⟩⟩, hS.F ht⟩) hS.2.2 eX8_spans_34
  · refine lv_if_ne (tgt := 10) hx hb eX8_spans_5 (by decide) (fun z => absurd z (by decide)) (fun _ => ?_)
    refine lv_iconst (v := (-1)) hx hb eX8_spans_8 (by decide) ?_
    exact W.iret (v := (-1)) hx hb hr (fun t ht hW => ⟨⟨(-1), (), rfl, trivial, ⟨q_j0, ftz, ln, tzn, ⟨by rw [ht]; exact hP, va_K.moved hW.alike hK, hD⟩, hln, htzn⟩⟩, hS.F ht⟩) hS.2.2 eX8_spans_9
theorem eX8_tells_0 : decode cX8_tells 0 = .ok (.aload_n 0, 1) := by decide +kernel
theorem eX8_tells_1 : decode cX8_tells 1 = .ok (.getfield 23, 3) := by decide +kernel
theorem eX8_tells_4 : decode cX8_tells 4 = .ok (.getfield 97, 3) := by decide +kernel
theorem eX8_tells_7 : decode cX8_tells 7 = .ok (.ifCond .ne 5, 3) := by decide +kernel
theorem eX8_tells_10 : decode cX8_tells 10 = .ok (.iconst (-1), 1) := by decide +kernel
theorem eX8_tells_11 : decode cX8_tells 11 = .ok (.ireturn, 1) := by decide +kernel
abbrev vs_C_8_tells_0 : List Cond := .code yX8_tells cX8_tells 10 (some .int) :: CM
set_option maxHeartbeats 4000000 in
set_option maxRecDepth 100000 in
theorem c_C_8_tells_0 (l : Launch) (dC : Nat → ClassId) (dI : Nat → Nat → Nat) (sz : Nat) (xa : Nat) (xtape : Nat) (tp : Nat) (rd : Nat) (au : Nat) (xdr : Nat) (hy : Nat) (g : Nat) (tg : Nat) (sg : Nat) (rm : Nat) (ti : Nat) (py : Nat) (bu : Nat) (sm : Nat) (nc : Nat) (ne : Nat) (st0 : Int32) (q4 : Nat) (q5 : Nat) (q6 : Nat) (q7 : Nat) (q8 : Nat) (q9 : Nat) (q10 : Nat) (q11 : Nat) (q12 : Nat) (q13 : Nat) (q14 : Nat) (q15 : Nat) (q16 : Nat) (k_f4 : ClassId) (f4 : Nat → Int32) (k_f5 : ClassId) (q_f5 : Nat → Nat) (k_f6 : ClassId) (q_f6 : Nat → Nat) (k_f7 : ClassId) (f7 : Nat → Int32) (k_f8 : ClassId) (q_f8 : Nat → Nat) (k_f9 : ClassId) (q_f9 : Nat → Nat) (k_f10 : ClassId) (f10 : Nat → Int32) (k_f11 : ClassId) (f11 : Nat → Int32) (k_f12 : ClassId) (f12 : Nat → Int32) (k_f13 : ClassId) (f13 : Nat → Int32) (k_f14 : ClassId) (f14 : Nat → Int32) (k_f15 : ClassId) (f15 : Nat → Int32) (k_f16 : ClassId) (f16 : Nat → Int32) (r0 : Nat) (ln : Nat) (r2 : Nat) (r3 : Nat) (r4 : Nat) (r5 : Nat) (nr : Nat) (r7 : Nat) (r8 : Nat) (tz : Nat) (k_j0 : ClassId) (q_j0 : Nat → Nat) (k_j2 : ClassId) (j2 : Nat → Int32) (k_j3 : ClassId) (q_j3 : Nat → Nat) (k_j4 : ClassId) (q_j4 : Nat → Nat) (k_j5 : ClassId) (j5 : Nat → Int32) (k_j7 : ClassId) (q_j7 : Nat → Nat) (k_j8 : ClassId) (j8 : Nat → Int32) (tzc : Nat) (tzn : Nat) (k_ftz : ClassId) (ftz : Nat → Int32) (p0 : Int32) (p1 : Int32) (p2 : Int32) (p3 : Int32) (p4 : Int32) (p5 : Int32) (htp : tp ≤ 900) (hnc : nc ≤ 3) (hne : ne ≤ 14) (hst0 : pm1 7 st0) (hln : ln ≤ 119) (hnr : nr ≤ 1920) (htzn : tzn ≤ 5) : Met l yX8_tells vs_C_8_tells_0 ({ frames := 0, cells := 0, slots := 0, locals := 0 }) (va_Pc [.ref xa, .int p0, .int p1, .int p2, .int p3, .int p4, .int p5] (pu_B (dC, dI) (xtl__w xa xtape (nI tp) rd au xdr hy g 0 tg sg 0 rm ti py bu sm (nI nc) 0 (nI ne) st0 q4 q5 q6 q7 q8 q9 q10 q11 q12 q13 q14 q15 q16 k_f4 f4 k_f5 (bN 7 q_f5) k_f6 (bN 7 q_f6) k_f7 f7 k_f8 (bN 4 q_f8) k_f9 (bN 2 q_f9) k_f10 f10 k_f11 f11 k_f12 f12 k_f13 f13 k_f14 f14 k_f15 f15 k_f16 f16 r0 (nI ln) r2 r3 r4 r5 (nI nr) r7 r8 tz k_j0 (bN 13 q_j0) k_j2 j2 k_j3 (bN 120 q_j3) k_j4 (bN 120 q_j4) k_j5 j5 k_j7 (bN 120 q_j7) k_j8 j8 tzc (nI tzn) k_ftz ftz) (xtl__t k_f4 k_f5 k_f6 k_f7 k_f8 k_f9 k_f10 k_f11 k_f12 k_f13 k_f14 k_f15 k_f16 k_j0 k_j2 k_j3 k_j4 k_j5 k_j7 k_j8 k_ftz) sz)) (va_Qi (fun (r : Int32) (_ : Unit) => True) (fun _ _ => True) (va_A [] sz)) 0 0 (va_A [] sz) := by
  refine Met.ofW (cc := cX8_tells) (maxL := 10) (ret := (some .int)) (by decide) rfl ?_
  intro p e s m args below meth c s₁ B hml hv
  obtain ⟨rfl, rfl, hP, hK, hD0⟩ := hv
  have hx := B.exec
  have hb := B.bytes
  have hr := B.returns
  have hts := atoms_spec (ws := vs_C_8_tells_0) B.pre
  have v_1 := hts (.fieldLink RX8 23 "ClockReach" "model" "LClockReach$Automaton;") (List.mem_cons_of_mem _ cm_434)
  have v_2 := hts (.fieldLink RX8 97 "ClockReach$Automaton" "places" "I") (List.mem_cons_of_mem _ cm_437)
  have hown : s.vm.findClass RX8 = some m.cls := findClass_of_methodNamed B.named
  have hlocks := B.notSynchronized
  have hiX0 : ∀ w ∈ wsX00, w ∈ vs_C_8_tells_0 := fun _ h => List.mem_cons_of_mem _ (cm_X0 h)
  have hiX8 : ∀ w ∈ wsX80, w ∈ vs_C_8_tells_0 := fun _ h => List.mem_cons_of_mem _ (cm_X8 h)
  have hD := hD0
  have hA : ∀ q : Nat, s.heap.size ≤ q → va_A [] s.heap.size q := fun _ h => Or.inr h
  have hS : va_S (va_A [] s.heap.size) s.heap s.heap [] := va_S.rf
  have hl := lv_entry ([.ref xa, .int p0, .int p1, .int p2, .int p3, .int p4, .int p5]) (n := 10) (Nat.le_of_ble_eq_true rfl)
  rw [lg_entry_eq]
  generalize (lg_sl ([.ref xa, .int p0, .int p1, .int p2, .int p3, .int p4, .int p5]) ++ List.replicate (10 - (lg_sl ([.ref xa, .int p0, .int p1, .int p2, .int p3, .int p4, .int p5])).length) Slot.unset).toArray = ls at hl ⊢
  have hl : lv_has ls 10 [(0, .ref xa), (1, .int p0), (2, .int p1), (3, .int p2), (4, .int p3), (5, .int p4), (6, .int p5)] := hl
  refine lv_aload_n hx hb eX8_tells_0 rfl (lv_at hl 0 rfl) ?_
  refine va_get (D := (dC, dI)) (ci := 8) (v := .ref au) (C := RX8) (T := TX8) (N := 16) hx hb hts hiX8 hown hK hP 0 rfl rfl 3 (by decide) v_1 (fun _ h9 => h9) rfl eX8_tells_1 ?_
  refine va_get (D := (dC, dI)) (ci := 0) (v := .int 0) (C := RX0) (T := TX0) (N := 17) hx hb hts hiX0 hown hK hP 1 rfl rfl 1 (by decide) v_2 (fun _ h9 => h9) rfl eX8_tells_4 ?_
  refine lv_if_ne (tgt := 12) hx hb eX8_tells_7 (by decide) (fun z => absurd z (by decide)) (fun _ => ?_)
  refine lv_iconst (v := (-1)) hx hb eX8_tells_10 (by decide) ?_
  exact W.iret (v := (-1)) hx hb hr (fun t ht hW => ⟨⟨(-1), (), rfl, trivial, trivial⟩, hS.F ht⟩) hS.2.2 eX8_tells_11
theorem eX8_tells_12 : decode cX8_tells 12 = .ok (.aload_n 0, 1) := by decide +kernel
theorem eX8_tells_13 : decode cX8_tells 13 = .ok (.getfield 62, 3) := by decide +kernel
theorem eX8_tells_16 : decode cX8_tells 16 = .ok (.iconst 0, 1) := by decide +kernel
theorem eX8_tells_17 : decode cX8_tells 17 = .ok (.putfield 351, 3) := by decide +kernel
theorem eX8_tells_20 : decode cX8_tells 20 = .ok (.aload_n 0, 1) := by decide +kernel
theorem eX8_tells_21 : decode cX8_tells 21 = .ok (.getfield 23, 3) := by decide +kernel
theorem eX8_tells_24 : decode cX8_tells 24 = .ok (.getfield 122, 3) := by decide +kernel
theorem eX8_tells_27 : decode cX8_tells 27 = .ok (.istore 7, 2) := by decide +kernel
theorem eX8_tells_29 : decode cX8_tells 29 = .ok (.iconst 0, 1) := by decide +kernel
theorem eX8_tells_30 : decode cX8_tells 30 = .ok (.istore 8, 2) := by decide +kernel
theorem eX8_tells_32 : decode cX8_tells 32 = .ok (.iload 8, 2) := by decide +kernel
theorem eX8_tells_34 : decode cX8_tells 34 = .ok (.iconst 5, 1) := by decide +kernel
theorem eX8_tells_35 : decode cX8_tells 35 = .ok (.if_icmp .ge 123, 3) := by decide +kernel
theorem eX8_tells_38 : decode cX8_tells 38 = .ok (.iload 8, 2) := by decide +kernel
theorem eX8_tells_40 : decode cX8_tells 40 = .ok (.ifCond .ne 7, 3) := by decide +kernel
theorem eX8_tells_43 : decode cX8_tells 43 = .ok (.iload_n 1, 1) := by decide +kernel
theorem eX8_tells_44 : decode cX8_tells 44 = .ok (.goto 36, 3) := by decide +kernel
theorem eX8_tells_47 : decode cX8_tells 47 = .ok (.iload 8, 2) := by decide +kernel
theorem eX8_tells_49 : decode cX8_tells 49 = .ok (.iconst 1, 1) := by decide +kernel
theorem eX8_tells_50 : decode cX8_tells 50 = .ok (.if_icmp .ne 7, 3) := by decide +kernel
theorem eX8_tells_53 : decode cX8_tells 53 = .ok (.iload_n 2, 1) := by decide +kernel
theorem eX8_tells_54 : decode cX8_tells 54 = .ok (.goto 26, 3) := by decide +kernel
theorem eX8_tells_57 : decode cX8_tells 57 = .ok (.iload 8, 2) := by decide +kernel
theorem eX8_tells_59 : decode cX8_tells 59 = .ok (.iconst 2, 1) := by decide +kernel
theorem eX8_tells_60 : decode cX8_tells 60 = .ok (.if_icmp .ne 7, 3) := by decide +kernel
theorem eX8_tells_63 : decode cX8_tells 63 = .ok (.iload_n 3, 1) := by decide +kernel
theorem eX8_tells_64 : decode cX8_tells 64 = .ok (.goto 16, 3) := by decide +kernel
theorem eX8_tells_67 : decode cX8_tells 67 = .ok (.iload 8, 2) := by decide +kernel
theorem eX8_tells_69 : decode cX8_tells 69 = .ok (.iconst 3, 1) := by decide +kernel
theorem eX8_tells_70 : decode cX8_tells 70 = .ok (.if_icmp .ne 8, 3) := by decide +kernel
theorem eX8_tells_73 : decode cX8_tells 73 = .ok (.iload 4, 2) := by decide +kernel
theorem eX8_tells_75 : decode cX8_tells 75 = .ok (.goto 5, 3) := by decide +kernel
theorem eX8_tells_78 : decode cX8_tells 78 = .ok (.iload 5, 2) := by decide +kernel
theorem eX8_tells_80 : decode cX8_tells 80 = .ok (.istore 9, 2) := by decide +kernel
theorem eX8_tells_82 : decode cX8_tells 82 = .ok (.iload 9, 2) := by decide +kernel
theorem eX8_tells_84 : decode cX8_tells 84 = .ok (.iconst (-1), 1) := by decide +kernel
theorem eX8_tells_85 : decode cX8_tells 85 = .ok (.if_icmp .ne 6, 3) := by decide +kernel
theorem eX8_tells_88 : decode cX8_tells 88 = .ok (.goto 70, 3) := by decide +kernel
theorem eX8_tells_91 : decode cX8_tells 91 = .ok (.aload_n 0, 1) := by decide +kernel
theorem eX8_tells_92 : decode cX8_tells 92 = .ok (.iload 9, 2) := by decide +kernel
theorem eX8_tells_94 : decode cX8_tells 94 = .ok (.invokevirtual 165, 3) := by decide +kernel
theorem eX8_tells_97 : decode cX8_tells 97 = .ok (.ifCond .eq 18, 3) := by decide +kernel
theorem eX8_tells_100 : decode cX8_tells 100 = .ok (.aload_n 0, 1) := by decide +kernel
theorem eX8_tells_101 : decode cX8_tells 101 = .ok (.getfield 23, 3) := by decide +kernel
theorem eX8_tells_104 : decode cX8_tells 104 = .ok (.getfield 155, 3) := by decide +kernel
theorem eX8_tells_107 : decode cX8_tells 107 = .ok (.iload 9, 2) := by decide +kernel
theorem eX8_tells_109 : decode cX8_tells 109 = .ok (.iaload, 1) := by decide +kernel
theorem eX8_tells_110 : decode cX8_tells 110 = .ok (.iload 7, 2) := by decide +kernel
theorem eX8_tells_112 : decode cX8_tells 112 = .ok (.if_icmp .eq 5, 3) := by decide +kernel
theorem eX8_tells_115 : decode cX8_tells 115 = .ok (.iconst (-1), 1) := by decide +kernel
theorem eX8_tells_116 : decode cX8_tells 116 = .ok (.ireturn, 1) := by decide +kernel
theorem eX8_tells_117 : decode cX8_tells 117 = .ok (.aload_n 0, 1) := by decide +kernel
theorem eX8_tells_118 : decode cX8_tells 118 = .ok (.getfield 62, 3) := by decide +kernel
theorem eX8_tells_121 : decode cX8_tells 121 = .ok (.getfield 327, 3) := by decide +kernel
theorem eX8_tells_124 : decode cX8_tells 124 = .ok (.iload 8, 2) := by decide +kernel
theorem eX8_tells_126 : decode cX8_tells 126 = .ok (.iload 9, 2) := by decide +kernel
theorem eX8_tells_128 : decode cX8_tells 128 = .ok (.iastore, 1) := by decide +kernel
theorem eX8_tells_129 : decode cX8_tells 129 = .ok (.aload_n 0, 1) := by decide +kernel
theorem eX8_tells_130 : decode cX8_tells 130 = .ok (.getfield 62, 3) := by decide +kernel
theorem eX8_tells_133 : decode cX8_tells 133 = .ok (.iload 8, 2) := by decide +kernel
theorem eX8_tells_135 : decode cX8_tells 135 = .ok (.iconst 1, 1) := by decide +kernel
theorem eX8_tells_136 : decode cX8_tells 136 = .ok (.iadd, 1) := by decide +kernel
theorem eX8_tells_137 : decode cX8_tells 137 = .ok (.putfield 351, 3) := by decide +kernel
theorem eX8_tells_140 : decode cX8_tells 140 = .ok (.aload_n 0, 1) := by decide +kernel
theorem eX8_tells_141 : decode cX8_tells 141 = .ok (.getfield 23, 3) := by decide +kernel
theorem eX8_tells_144 : decode cX8_tells 144 = .ok (.getfield 162, 3) := by decide +kernel
theorem eX8_tells_147 : decode cX8_tells 147 = .ok (.iload 9, 2) := by decide +kernel
theorem eX8_tells_149 : decode cX8_tells 149 = .ok (.iaload, 1) := by decide +kernel
theorem eX8_tells_150 : decode cX8_tells 150 = .ok (.istore 7, 2) := by decide +kernel
theorem eX8_tells_152 : decode cX8_tells 152 = .ok (.iinc 8 1, 3) := by decide +kernel
theorem eX8_tells_155 : decode cX8_tells 155 = .ok (.goto (-123), 3) := by decide +kernel
theorem eX8_tells_158 : decode cX8_tells 158 = .ok (.aload_n 0, 1) := by decide +kernel
theorem eX8_tells_159 : decode cX8_tells 159 = .ok (.getfield 62, 3) := by decide +kernel
theorem eX8_tells_162 : decode cX8_tells 162 = .ok (.aload_n 0, 1) := by decide +kernel
theorem eX8_tells_163 : decode cX8_tells 163 = .ok (.getfield 23, 3) := by decide +kernel
theorem eX8_tells_166 : decode cX8_tells 166 = .ok (.iload 6, 2) := by decide +kernel
theorem eX8_tells_168 : decode cX8_tells 168 = .ok (.invokevirtual 347, 3) := by decide +kernel
theorem eX8_tells_171 : decode cX8_tells 171 = .ok (.ireturn, 1) := by decide +kernel
abbrev vs_C_8_tells : List Cond := .code yX8_tells cX8_tells 10 (some .int) :: CM
theorem g_C_8_tells_C_6_spanOf : GoodIn vs_C_8_tells (wsV RX8 347 RX6 yX6_spanOf vs_C_6_spanOf) := cm_gV cm_626 cm_627 cm_628 cm_383 cm_403
theorem g_C_8_tells_C_8_isEdge : GoodIn vs_C_8_tells (wsV RX8 165 RX8 yX8_isEdge vs_C_8_isEdge) := cm_gV cm_483 cm_484 cm_485 cm_427 cm_479
set_option maxHeartbeats 4000000 in
set_option maxRecDepth 100000 in
theorem c_C_8_tells (l : Launch) (dC : Nat → ClassId) (dI : Nat → Nat → Nat) (sz : Nat) (xa : Nat) (xtape : Nat) (tp : Nat) (rd : Nat) (au : Nat) (xdr : Nat) (hy : Nat) (g : Nat) (hs : Nat) (tg : Nat) (sg : Nat) (ss : Nat) (rm : Nat) (ti : Nat) (py : Nat) (bu : Nat) (sm : Nat) (nc : Nat) (np : Nat) (ne : Nat) (st0 : Nat) (q4 : Nat) (q5 : Nat) (q6 : Nat) (q7 : Nat) (q8 : Nat) (q9 : Nat) (q10 : Nat) (q11 : Nat) (q12 : Nat) (q13 : Nat) (q14 : Nat) (q15 : Nat) (q16 : Nat) (k_f4 : ClassId) (f4 : Nat → Int32) (k_f5 : ClassId) (q_f5 : Nat → Nat) (k_f6 : ClassId) (q_f6 : Nat → Nat) (k_f7 : ClassId) (f7 : Nat → Int32) (k_f8 : ClassId) (q_f8 : Nat → Nat) (k_f9 : ClassId) (q_f9 : Nat → Nat) (k_f10 : ClassId) (f10 : Nat → Int32) (k_f11 : ClassId) (f11 : Nat → Int32) (k_f12 : ClassId) (f12 : Nat → Int32) (k_f13 : ClassId) (f13 : Nat → Int32) (k_f14 : ClassId) (f14 : Nat → Int32) (k_f15 : ClassId) (f15 : Nat → Int32) (k_f16 : ClassId) (f16 : Nat → Int32) (r0 : Nat) (ln : Nat) (r2 : Nat) (r3 : Nat) (r4 : Nat) (r5 : Nat) (nr : Nat) (r7 : Nat) (r8 : Nat) (tz : Nat) (k_j0 : ClassId) (q_j0 : Nat → Nat) (k_j2 : ClassId) (j2 : Nat → Int32) (k_j3 : ClassId) (q_j3 : Nat → Nat) (k_j4 : ClassId) (q_j4 : Nat → Nat) (k_j5 : ClassId) (j5 : Nat → Int32) (k_j7 : ClassId) (q_j7 : Nat → Nat) (k_j8 : ClassId) (j8 : Nat → Int32) (tzc : Nat) (tzn : Nat) (k_ftz : ClassId) (ftz : Nat → Int32) (p0 : Int32) (p1 : Int32) (p2 : Int32) (p3 : Int32) (p4 : Int32) (p5 : Int32) (htp : tp ≤ 900) (hhs : hs ≤ 1) (hss : ss ≤ 1) (hnc : nc ≤ 3) (hnp : np ≤ 8) (hne : ne ≤ 14) (hst0 : st0 ≤ 7) (hln : ln ≤ 119) (hnr : nr ≤ 1920) (htzn : tzn ≤ 5) : Met l yX8_tells vs_C_8_tells ({ frames := 4, cells := 0, slots := 0, locals := 102 }) (va_Pc [.ref xa, .int p0, .int p1, .int p2, .int p3, .int p4, .int p5] (pu_B (dC, dI) (xtl__w xa xtape (nI tp) rd au xdr hy g (nI hs) tg sg (nI ss) rm ti py bu sm (nI nc) (nI np) (nI ne) (nI st0) q4 q5 q6 q7 q8 q9 q10 q11 q12 q13 q14 q15 q16 k_f4 f4 k_f5 (bN 7 q_f5) k_f6 (bN 7 q_f6) k_f7 f7 k_f8 (bN 4 q_f8) k_f9 (bN 2 q_f9) k_f10 f10 k_f11 f11 k_f12 f12 k_f13 f13 k_f14 f14 k_f15 f15 k_f16 f16 r0 (nI ln) r2 r3 r4 r5 (nI nr) r7 r8 tz k_j0 (bN 13 q_j0) k_j2 j2 k_j3 (bN 120 q_j3) k_j4 (bN 120 q_j4) k_j5 j5 k_j7 (bN 120 q_j7) k_j8 j8 tzc (nI tzn) k_ftz ftz) (xtl__t k_f4 k_f5 k_f6 k_f7 k_f8 k_f9 k_f10 k_f11 k_f12 k_f13 k_f14 k_f15 k_f16 k_j0 k_j2 k_j3 k_j4 k_j5 k_j7 k_j8 k_ftz) sz)) (va_Qi (fun (r : Int32) (_ : Unit) => True) (fun _ t => ∃ (z_j0 : Nat → Nat) (z_ftz : Nat → Int32) (z_ln : Nat) (z_tzn : Nat), pu_E (dC, dI) (xtl__w xa xtape (nI tp) rd au xdr hy g (nI hs) tg sg (nI ss) rm ti py bu sm (nI nc) (nI np) (nI ne) (nI st0) q4 q5 q6 q7 q8 q9 q10 q11 q12 q13 q14 q15 q16 k_f4 f4 k_f5 (bN 7 q_f5) k_f6 (bN 7 q_f6) k_f7 f7 k_f8 (bN 4 q_f8) k_f9 (bN 2 q_f9) k_f10 f10 k_f11 f11 k_f12 f12 k_f13 f13 k_f14 f14 k_f15 f15 k_f16 f16 r0 (nI z_ln) r2 r3 r4 r5 (nI nr) r7 r8 tz k_j0 (bN 13 z_j0) k_j2 j2 k_j3 (bN 120 q_j3) k_j4 (bN 120 q_j4) k_j5 j5 k_j7 (bN 120 q_j7) k_j8 j8 tzc (nI z_tzn) k_ftz z_ftz) (xtl__t k_f4 k_f5 k_f6 k_f7 k_f8 k_f9 k_f10 k_f11 k_f12 k_f13 k_f14 k_f15 k_f16 k_j0 k_j2 k_j3 k_j4 k_j5 k_j7 k_j8 k_ftz) (va_A ((xtl__w xa xtape (nI tp) rd au xdr hy g (nI hs) tg sg (nI ss) rm ti py bu sm (nI nc) (nI np) (nI ne) (nI st0) q4 q5 q6 q7 q8 q9 q10 q11 q12 q13 q14 q15 q16 k_f4 f4 k_f5 (bN 7 q_f5) k_f6 (bN 7 q_f6) k_f7 f7 k_f8 (bN 4 q_f8) k_f9 (bN 2 q_f9) k_f10 f10 k_f11 f11 k_f12 f12 k_f13 f13 k_f14 f14 k_f15 f15 k_f16 f16 r0 (nI ln) r2 r3 r4 r5 (nI nr) r7 r8 tz k_j0 (bN 13 q_j0) k_j2 j2 k_j3 (bN 120 q_j3) k_j4 (bN 120 q_j4) k_j5 j5 k_j7 (bN 120 q_j7) k_j8 j8 tzc (nI tzn) k_ftz ftz)) sz) t ∧ (z_ln ≤ 119) ∧ (z_tzn ≤ 5)) (va_A ((xtl__w xa xtape (nI tp) rd au xdr hy g (nI hs) tg sg (nI ss) rm ti py bu sm (nI nc) (nI np) (nI ne) (nI st0) q4 q5 q6 q7 q8 q9 q10 q11 q12 q13 q14 q15 q16 k_f4 f4 k_f5 (bN 7 q_f5) k_f6 (bN 7 q_f6) k_f7 f7 k_f8 (bN 4 q_f8) k_f9 (bN 2 q_f9) k_f10 f10 k_f11 f11 k_f12 f12 k_f13 f13 k_f14 f14 k_f15 f15 k_f16 f16 r0 (nI ln) r2 r3 r4 r5 (nI nr) r7 r8 tz k_j0 (bN 13 q_j0) k_j2 j2 k_j3 (bN 120 q_j3) k_j4 (bN 120 q_j4) k_j5 j5 k_j7 (bN 120 q_j7) k_j8 j8 tzc (nI tzn) k_ftz ftz)) sz)) 0 0 (va_A ((xtl__w xa xtape (nI tp) rd au xdr hy g (nI hs) tg sg (nI ss) rm ti py bu sm (nI nc) (nI np) (nI ne) (nI st0) q4 q5 q6 q7 q8 q9 q10 q11 q12 q13 q14 q15 q16 k_f4 f4 k_f5 (bN 7 q_f5) k_f6 (bN 7 q_f6) k_f7 f7 k_f8 (bN 4 q_f8) k_f9 (bN 2 q_f9) k_f10 f10 k_f11 f11 k_f12 f12 k_f13 f13 k_f14 f14 k_f15 f15 k_f16 f16 r0 (nI ln) r2 r3 r4 r5 (nI nr) r7 r8 tz k_j0 (bN 13 q_j0) k_j2 j2 k_j3 (bN 120 q_j3) k_j4 (bN 120 q_j4) k_j5 j5 k_j7 (bN 120 q_j7) k_j8 j8 tzc (nI tzn) k_ftz ftz)) sz) := by
  refine Met.ofW (cc := cX8_tells) (maxL := 10) (ret := (some .int)) (by decide) rfl ?_
  intro p e s m args below meth c s₁ B hml hv
  obtain ⟨rfl, rfl, hP, hK, hD0⟩ := hv
  have hx := B.exec
  have hb := B.bytes
  have hr := B.returns
  have hts := atoms_spec (ws := vs_C_8_tells) B.pre
  have v_1 := hts (.fieldLink RX8 23 "ClockReach" "model" "LClockReach$Automaton;") (List.mem_cons_of_mem _ cm_434)
  have v_2 := hts (.fieldLink RX8 97 "ClockReach$Automaton" "places" "I") (List.mem_cons_of_mem _ cm_437)
  have v_3 := hts (.fieldLink RX8 62 "ClockReach" "timing" "LClockReach$Timing;") (List.mem_cons_of_mem _ cm_601)
  have v_4 := hts (.fieldLink RX8 351 "ClockReach$Timing" "length" "I") (List.mem_cons_of_mem _ cm_630)
  have v_5 := hts (.fieldLink RX8 122 "ClockReach$Automaton" "start" "I") (List.mem_cons_of_mem _ cm_455)
  have v_11 := hts (.fieldLink RX8 155 "ClockReach$Automaton" "sources" "[I") (List.mem_cons_of_mem _ cm_469)
  have v_12 := hts (.fieldLink RX8 327 "ClockReach$Timing" "path" "[I") (List.mem_cons_of_mem _ cm_602)
  have v_13 := hts (.fieldLink RX8 162 "ClockReach$Automaton" "targets" "[I") (List.mem_cons_of_mem _ cm_470)
  have hown : s.vm.findClass RX8 = some m.cls := findClass_of_methodNamed B.named
  have hlocks := B.notSynchronized
  have hiX0 : ∀ w ∈ wsX00, w ∈ vs_C_8_tells := fun _ h => List.mem_cons_of_mem _ (cm_X0 h)
  have hiX6 : ∀ w ∈ wsX60, w ∈ vs_C_8_tells := fun _ h => List.mem_cons_of_mem _ (cm_X6 h)
  have hiX8 : ∀ w ∈ wsX80, w ∈ vs_C_8_tells := fun _ h => List.mem_cons_of_mem _ (cm_X8 h)
  have hD := hD0.self (sz := s.heap.size)
  generalize hAe : va_A ((xtl__w xa xtape (nI tp) rd au xdr hy g (nI hs) tg sg (nI ss) rm ti py bu sm (nI nc) (nI np) (nI ne) (nI st0) q4 q5 q6 q7 q8 q9 q10 q11 q12 q13 q14 q15 q16 k_f4 f4 k_f5 (bN 7 q_f5) k_f6 (bN 7 q_f6) k_f7 f7 k_f8 (bN 4 q_f8) k_f9 (bN 2 q_f9) k_f10 f10 k_f11 f11 k_f12 f12 k_f13 f13 k_f14 f14 k_f15 f15 k_f16 f16 r0 (nI ln) r2 r3 r4 r5 (nI nr) r7 r8 tz k_j0 (bN 13 q_j0) k_j2 j2 k_j3 (bN 120 q_j3) k_j4 (bN 120 q_j4) k_j5 j5 k_j7 (bN 120 q_j7) k_j8 j8 tzc (nI tzn) k_ftz ftz)) s.heap.size = A at hD ⊢
  have hA : ∀ q : Nat, s.heap.size ≤ q → A q := fun q h => by rw [← hAe]; exact Or.inr h
  have hS : va_S A s.heap s.heap [] := va_S.rf
  have hl := lv_entry ([.ref xa, .int p0, .int p1, .int p2, .int p3, .int p4, .int p5]) (n := 10) (Nat.le_of_ble_eq_true rfl)
  rw [lg_entry_eq]
  generalize (lg_sl ([.ref xa, .int p0, .int p1, .int p2, .int p3, .int p4, .int p5]) ++ List.replicate (10 - (lg_sl ([.ref xa, .int p0, .int p1, .int p2, .int p3, .int p4, .int p5])).length) Slot.unset).toArray = ls at hl ⊢
  have hl : lv_has ls 10 [(0, .ref xa), (1, .int p0), (2, .int p1), (3, .int p2), (4, .int p3), (5, .int p4), (6, .int p5)] := hl
  refine lv_aload_n hx hb eX8_tells_0 rfl (lv_at hl 0 rfl) ?_
  refine va_get (D := (dC, dI)) (ci := 8) (v := .ref au) (C := RX8) (T := TX8) (N := 16) hx hb hts hiX8 hown hK hP 0 rfl rfl 3 (by decide) v_1 (fun _ h9 => h9) rfl eX8_tells_1 ?_
  refine va_get (D := (dC, dI)) (ci := 0) (v := .int (nI np)) (C := RX0) (T := TX0) (N := 17) hx hb hts hiX0 hown hK hP 1 rfl rfl 1 (by decide) v_2 (fun _ h9 => h9) rfl eX8_tells_4 ?_
  refine lv_if_ne (tgt := 12) hx hb eX8_tells_7 (by decide) (fun c_1 => ?_) (fun c_1 => ?_)
  · have c_1 : ¬ np = 0 := fun z => c_1 ((nI_eq (a := np) (b := 0) (Nat.lt_of_le_of_lt hnp (Nat.le_of_ble_eq_true rfl)) (Nat.le_of_ble_eq_true rfl)).mpr z)
    refine lv_aload_n hx hb eX8_tells_12 rfl (lv_at hl 0 rfl) ?_
    refine va_get (D := (dC, dI)) (ci := 8) (v := .ref ti) (C := RX8) (T := TX8) (N := 16) hx hb hts hiX8 hown hK hP 0 rfl rfl 12 (by decide) v_3 (fun _ h9 => h9) rfl eX8_tells_13 ?_
    refine lv_iconst (v := 0) hx hb eX8_tells_16 (by decide) ?_
    refine va_put (D := (dC, dI)) (ci := 6) (v := .int 0) (ty := .int) (C := RX6) (T := TX6) (N := 10) hx hb hts hiX6 tyX6 tyX6_ok nmX6 hown hK hP hD hS 15 rfl rfl 1 (by decide) v_4 (fun _ h9 => h9) rfl (by decide +kernel) rfl rfl (Nat.le_of_ble_eq_true rfl) eX8_tells_17 (fun H locs hP hD hS => ?_)
    have hP : va_P (dC, dI) vwCl (xtl__w xa xtape (nI tp) rd au xdr hy g (nI hs) tg sg (nI ss) rm ti py bu sm (nI nc) (nI np) (nI ne) (nI st0) q4 q5 q6 q7 q8 q9 q10 q11 q12 q13 q14 q15 q16 k_f4 f4 k_f5 (bN 7 q_f5) k_f6 (bN 7 q_f6) k_f7 f7 k_f8 (bN 4 q_f8) k_f9 (bN 2 q_f9) k_f10 f10 k_f11 f11 k_f12 f12 k_f13 f13 k_f14 f14 k_f15 f15 k_f16 f16 r0 0 r2 r3 r4 r5 (nI nr) r7 r8 tz k_j0 (bN 13 q_j0) k_j2 j2 k_j3 (bN 120 q_j3) k_j4 (bN 120 q_j4) k_j5 j5 k_j7 (bN 120 q_j7) k_j8 j8 tzc (nI tzn) k_ftz ftz) H := hP
    have hD : va_D A (xtl__w xa xtape (nI tp) rd au xdr hy g (nI hs) tg sg (nI ss) rm ti py bu sm (nI nc) (nI np) (nI ne) (nI st0) q4 q5 q6 q7 q8 q9 q10 q11 q12 q13 q14 q15 q16 k_f4 f4 k_f5 (bN 7 q_f5) k_f6 (bN 7 q_f6) k_f7 f7 k_f8 (bN 4 q_f8) k_f9 (bN 2 q_f9) k_f10 f10 k_f11 f11 k_f12 f12 k_f13 f13 k_f14 f14 k_f15 f15 k_f16 f16 r0 0 r2 r3 r4 r5 (nI nr) r7 r8 tz k_j0 (bN 13 q_j0) k_j2 j2 k_j3 (bN 120 q_j3) k_j4 (bN 120 q_j4) k_j5 j5 k_j7 (bN 120 q_j7) k_j8 j8 tzc (nI tzn) k_ftz ftz) := hD
    refine lv_aload_n hx hb eX8_tells_20 rfl (lv_at hl 0 rfl) ?_
    refine va_get (D := (dC, dI)) (ci := 8) (v := .ref au) (C := RX8) (T := TX8) (N := 16) hx hb hts hiX8 hown hK hP 0 rfl rfl 3 (by decide) v_1 (fun _ h9 => h9) rfl eX8_tells_21 ?_
    refine va_get (D := (dC, dI)) (ci := 0) (v := .int (nI st0)) (C := RX0) (T := TX0) (N := 17) hx hb hts hiX0 hown hK hP 1 rfl rfl 3 (by decide) v_5 (fun _ h9 => h9) rfl eX8_tells_24 ?_
    refine lv_istore (lv' := [(7, .int (nI st0)), (0, .ref xa), (1, .int p0), (2, .int p1), (3, .int p2), (4, .int p3), (5, .int p4), (6, .int p5)]) hx hb eX8_tells_27 hl (by decide) rfl (fun ls hl => ?_)
    refine lv_iconst (v := 0) hx hb eX8_tells_29 (by decide) ?_
    refine lv_istore (lv' := [(8, .int 0), (7, .int (nI st0)), (0, .ref xa), (1, .int p0), (2, .int p1), (3, .int p2), (4, .int p3), (5, .int p4), (6, .int p5)]) hx hb eX8_tells_30 hl (by decide) rfl (fun ls hl => ?_)
    refine pu_while (fun nn H locs ls => ∃ (g_7 : Nat → Nat) (g_8 : Nat) (g_9 : Int32) (g_10 : Nat) (g_11 : Nat), nn = 5 - g_11 ∧ g_8 ≤ 119 ∧ g_10 ≤ 7 ∧ g_11 ≤ 5 ∧ va_P (dC, dI) vwCl (xtl__w xa xtape (nI tp) rd au xdr hy g (nI hs) tg sg (nI ss) rm ti py bu sm (nI nc) (nI np) (nI ne) (nI st0) q4 q5 q6 q7 q8 q9 q10 q11 q12 q13 q14 q15 q16 k_f4 f4 k_f5 (bN 7 q_f5) k_f6 (bN 7 q_f6) k_f7 f7 k_f8 (bN 4 q_f8) k_f9 (bN 2 q_f9) k_f10 f10 k_f11 f11 k_f12 f12 k_f13 f13 k_f14 f14 k_f15 f15 k_f16 f16 r0 (nI g_8) r2 r3 r4 r5 (nI nr) r7 r8 tz k_j0 (bN 13 g_7) k_j2 j2 k_j3 (bN 120 q_j3) k_j4 (bN 120 q_j4) k_j5 j5 k_j7 (bN 120 q_j7) k_j8 j8 tzc (nI tzn) k_ftz ftz) H ∧ va_D A (xtl__w xa xtape (nI tp) rd au xdr hy g (nI hs) tg sg (nI ss) rm ti py bu sm (nI nc) (nI np) (nI ne) (nI st0) q4 q5 q6 q7 q8 q9 q10 q11 q12 q13 q14 q15 q16 k_f4 f4 k_f5 (bN 7 q_f5) k_f6 (bN 7 q_f6) k_f7 f7 k_f8 (bN 4 q_f8) k_f9 (bN 2 q_f9) k_f10 f10 k_f11 f11 k_f12 f12 k_f13 f13 k_f14 f14 k_f15 f15 k_f16 f16 r0 (nI g_8) r2 r3 r4 r5 (nI nr) r7 r8 tz k_j0 (bN 13 g_7) k_j2 j2 k_j3 (bN 120 q_j3) k_j4 (bN 120 q_j4) k_j5 j5 k_j7 (bN 120 q_j7) k_j8 j8 tzc (nI tzn) k_ftz ftz) ∧ va_S A s.heap H locs ∧ lv_has ls 10 [(0, .ref xa), (1, .int g_9), (2, .int p1), (3, .int p2), (4, .int p3), (5, .int p4), (6, .int p5), (7, .int (nI g_10)), (8, .int (nI g_11))]) 32 ?_ _ _ _ _ ⟨q_j0, 0, p0, st0, 0, rfl, (Nat.le_of_ble_eq_true rfl), hst0, (Nat.le_of_ble_eq_true rfl), hP, hD, hS, lv_sub hl [2, 3, 4, 5, 6, 7, 8, 1, 0] rfl⟩
    rintro nn ih_12 H locs ls ⟨g_7, g_8, g_9, g_10, g_11, rfl, hg_8, hg_10, hg_11, hP, hD, hS, hl⟩
    refine lv_iload hx hb eX8_tells_32 (lv_at hl 8 rfl) ?_
    refine lv_iconst (v := 5) hx hb eX8_tells_34 (by decide) ?_
    refine lv_icmp_ge (tgt := 158) hx hb eX8_tells_35 (by decide) (fun c_13 => ?_) (fun c_13 => ?_)
    · have c_13 : 5 ≤ g_11 := (nI_leI (a := 5) (b := g_11) (Nat.le_of_ble_eq_true rfl) (Nat.lt_of_le_of_lt hg_11 (Nat.le_of_ble_eq_true rfl))).mp c_13
      refine lv_aload_n hx hb eX8_tells_158 rfl (lv_at hl 0 rfl) ?_
      refine va_get (D := (dC, dI)) (ci := 8) (v := .ref ti) (C := RX8) (T := TX8) (N := 16) hx hb hts hiX8 hown hK hP 0 rfl rfl 12 (by decide) v_3 (fun _ h9 => h9) rfl eX8_tells_159 ?_
      refine lv_aload_n hx hb eX8_tells_162 rfl (lv_at hl 0 rfl) ?_
      refine va_get (D := (dC, dI)) (ci := 8) (v := .ref au) (C := RX8) (T := TX8) (N := 16) hx hb hts hiX8 hown hK hP 0 rfl rfl 3 (by decide) v_1 (fun _ h9 => h9) rfl eX8_tells_163 ?_
      refine lv_iload hx hb eX8_tells_166 (lv_at hl 6 rfl) ?_
      have hPc : va_P (dC, dI) vwCl (tz__w ti r0 (nI g_8) r2 r3 r4 r5 (nI nr) r7 r8 tz k_j0 (bN 13 g_7) k_j2 j2 k_j3 (bN 120 q_j3) k_j4 (bN 120 q_j4) k_j5 j5 k_j7 (bN 120 q_j7) k_j8 j8 au (nI nc) (nI np) (nI ne) (nI st0) q4 q5 q6 q7 q8 q9 q10 q11 q12 q13 q14 q15 q16 k_f4 f4 k_f5 (bN 7 q_f5) k_f6 (bN 7 q_f6) k_f7 f7 k_f8 (bN 4 q_f8) k_f9 (bN 2 q_f9) k_f10 f10 k_f11 f11 k_f12 f12 k_f13 f13 k_f14 f14 k_f15 f15 k_f16 f16 tzc (nI tzn) k_ftz ftz) _ := hP.sub [15, 16, 17, 18, 19, 20, 21, 22, 1, 2, 3, 4, 5, 6, 7, 8, 9, 10, 11, 12, 13, 14, 23, 24] rfl
      have hDc := hD.sub (ws' := (tz__w ti r0 (nI g_8) r2 r3 r4 r5 (nI nr) r7 r8 tz k_j0 (bN 13 g_7) k_j2 j2 k_j3 (bN 120 q_j3) k_j4 (bN 120 q_j4) k_j5 j5 k_j7 (bN 120 q_j7) k_j8 j8 au (nI nc) (nI np) (nI ne) (nI st0) q4 q5 q6 q7 q8 q9 q10 q11 q12 q13 q14 q15 q16 k_f4 f4 k_f5 (bN 7 q_f5) k_f6 (bN 7 q_f6) k_f7 f7 k_f8 (bN 4 q_f8) k_f9 (bN 2 q_f9) k_f10 f10 k_f11 f11 k_f12 f12 k_f13 f13 k_f14 f14 k_f15 f15 k_f16 f16 tzc (nI tzn) k_ftz ftz)) [15, 16, 17, 18, 19, 20, 21, 22, 1, 2, 3, 4, 5, 6, 7, 8, 9, 10, 11, 12, 13, 14, 23, 24] (by decide) rfl
      have hKc : va_K (dC, dI) vwCl (tz__t k_j0 k_j2 k_j3 k_j4 k_j5 k_j7 k_j8 k_f4 k_f5 k_f6 k_f7 k_f8 k_f9 k_f10 k_f11 k_f12 k_f13 k_f14 k_f15 k_f16 k_ftz) s := hK.sub [13, 14, 15, 16, 17, 18, 19, 0, 1, 2, 3, 4, 5, 6, 7, 8, 9, 10, 11, 12, 20] rfl
      have hFc := pu_free hDc hS hA
      refine va_calli (va_runV (As := [.ref au, .int p5]) (rest := []) ⟨hx, hb, hml, hown, hts⟩ (c_C_6_spanOf l dC dI _ ti r0 g_8 r2 r3 r4 r5 nr r7 r8 tz k_j0 g_7 k_j2 j2 k_j3 q_j3 k_j4 q_j4 k_j5 j5 k_j7 q_j7 k_j8 j8 au nc np ne st0 q4 q5 q6 q7 q8 q9 q10 q11 q12 q13 q14 q15 q16 k_f4 f4 k_f5 q_f5 k_f6 q_f6 k_f7 f7 k_f8 q_f8 k_f9 q_f9 k_f10 f10 k_f11 f11 k_f12 f12 k_f13 f13 k_f14 f14 k_f15 f15 k_f16 f16 tzc tzn k_ftz ftz p5 hg_8 hnr hnc hnp hne hst0 htzn) (cwV 2 hts g_C_8_tells_C_6_spanOf rfl rfl rfl (by decide +kernel) ⟨Nat.le_of_ble_eq_true rfl, Nat.le_of_ble_eq_true rfl⟩) ⟨pu_bl, va_recv hK hP (ci := 6) (q0 := 15) rfl rfl, pu_in hPc hKc hDc⟩ rfl rfl hl.1 rfl (lv_room (Nat.le_of_ble_eq_true rfl)) eX8_tells_168 ⟨Nat.le_of_ble_eq_true rfl, Nat.le_of_ble_eq_true rfl⟩) hS (fun q _ h => hFc q h) hFc (fun r_14 u t H1 locs ht hvm hw hB hz1 hk1 hS => ?_)
      obtain ⟨z_ftz_15, z_tzn_16, ⟨hP1, -, hD1⟩, hz_tzn_16⟩ := hB
      rw [ht] at hP1
      obtain ⟨hP, hD⟩ := pj_a (X := (xtl__w xa xtape (nI tp) rd au xdr hy g (nI hs) tg sg (nI ss) rm ti py bu sm (nI nc) (nI np) (nI ne) (nI st0) q4 q5 q6 q7 q8 q9 q10 q11 q12 q13 q14 q15 q16 k_f4 f4 k_f5 (bN 7 q_f5) k_f6 (bN 7 q_f6) k_f7 f7 k_f8 (bN 4 q_f8) k_f9 (bN 2 q_f9) k_f10 f10 k_f11 f11 k_f12 f12 k_f13 f13 k_f14 f14 k_f15 f15 k_f16 f16 r0 (nI g_8) r2 r3 r4 r5 (nI nr) r7 r8 tz k_j0 (bN 13 g_7) k_j2 j2 k_j3 (bN 120 q_j3) k_j4 (bN 120 q_j4) k_j5 j5 k_j7 (bN 120 q_j7) k_j8 j8 tzc (nI tzn) k_ftz ftz)) (X' := (xtl__w xa xtape (nI tp) rd au xdr hy g (nI hs) tg sg (nI ss) rm ti py bu sm (nI nc) (nI np) (nI ne) (nI st0) q4 q5 q6 q7 q8 q9 q10 q11 q12 q13 q14 q15 q16 k_f4 f4 k_f5 (bN 7 q_f5) k_f6 (bN 7 q_f6) k_f7 f7 k_f8 (bN 4 q_f8) k_f9 (bN 2 q_f9) k_f10 f10 k_f11 f11 k_f12 f12 k_f13 f13 k_f14 f14 k_f15 f15 k_f16 f16 r0 (nI g_8) r2 r3 r4 r5 (nI nr) r7 r8 tz k_j0 (bN 13 g_7) k_j2 j2 k_j3 (bN 120 q_j3) k_j4 (bN 120 q_j4) k_j5 j5 k_j7 (bN 120 q_j7) k_j8 j8 tzc (nI z_tzn_16) k_ftz z_ftz_15)) (wc := (tz__w ti r0 (nI g_8) r2 r3 r4 r5 (nI nr) r7 r8 tz k_j0 (bN 13 g_7) k_j2 j2 k_j3 (bN 120 q_j3) k_j4 (bN 120 q_j4) k_j5 j5 k_j7 (bN 120 q_j7) k_j8 j8 au (nI nc) (nI np) (nI ne) (nI st0) q4 q5 q6 q7 q8 q9 q10 q11 q12 q13 q14 q15 q16 k_f4 f4 k_f5 (bN 7 q_f5) k_f6 (bN 7 q_f6) k_f7 f7 k_f8 (bN 4 q_f8) k_f9 (bN 2 q_f9) k_f10 f10 k_f11 f11 k_f12 f12 k_f13 f13 k_f14 f14 k_f15 f15 k_f16 f16 tzc (nI tzn) k_ftz ftz)) (w1 := (tz__w ti r0 (nI g_8) r2 r3 r4 r5 (nI nr) r7 r8 tz k_j0 (bN 13 g_7) k_j2 j2 k_j3 (bN 120 q_j3) k_j4 (bN 120 q_j4) k_j5 j5 k_j7 (bN 120 q_j7) k_j8 j8 au (nI nc) (nI np) (nI ne) (nI st0) q4 q5 q6 q7 q8 q9 q10 q11 q12 q13 q14 q15 q16 k_f4 f4 k_f5 (bN 7 q_f5) k_f6 (bN 7 q_f6) k_f7 f7 k_f8 (bN 4 q_f8) k_f9 (bN 2 q_f9) k_f10 f10 k_f11 f11 k_f12 f12 k_f13 f13 k_f14 f14 k_f15 f15 k_f16 f16 tzc (nI z_tzn_16) k_ftz z_ftz_15)) hP hD [15, 16, 17, 18, 19, 20, 21, 22, 1, 2, 3, 4, 5, 6, 7, 8, 9, 10, 11, 12, 13, 14, 23, 24] [24, 8, 9, 10, 11, 12, 13, 14, 15, 16, 17, 18, 19, 20, 21, 0, 1, 2, 3, 4, 5, 6, 7, 22, 23] 24 rfl hk1 hP1 rfl rfl rfl (by decide)
      clear hP1 hD1 hFc hPc hDc hKc
      clear hk1 hz1 ht hvm
      generalize H1 = H at hP hS ⊢
      exact W.iret (v := r_14) hx hb hr (fun t ht hW => ⟨⟨r_14, (), rfl, trivial, ⟨g_7, z_ftz_15, g_8, z_tzn_16, ⟨by rw [ht]; exact hP, va_K.moved hW.alike hK, hD⟩, hg_8, hz_tzn_16⟩⟩, hS.F ht⟩) hS.2.2 eX8_tells_171
    · have c_13 : ¬ 5 ≤ g_11 := fun z => c_13 ((nI_leI (a := 5) (b := g_11) (Nat.le_of_ble_eq_true rfl) (Nat.lt_of_le_of_lt hg_11 (Nat.le_of_ble_eq_true rfl))).mpr z)
      refine lv_iload hx hb eX8_tells_38 (lv_at hl 8 rfl) ?_
      refine pu_join (fun H locs ls st => ∃ (g_17 : Int32), st = [.int g_17] ∧ va_P (dC, dI) vwCl (xtl__w xa xtape (nI tp) rd au xdr hy g (nI hs) tg sg (nI ss) rm ti py bu sm (nI nc) (nI np) (nI ne) (nI st0) q4 q5 q6 q7 q8 q9 q10 q11 q12 q13 q14 q15 q16 k_f4 f4 k_f5 (bN 7 q_f5) k_f6 (bN 7 q_f6) k_f7 f7 k_f8 (bN 4 q_f8) k_f9 (bN 2 q_f9) k_f10 f10 k_f11 f11 k_f12 f12 k_f13 f13 k_f14 f14 k_f15 f15 k_f16 f16 r0 (nI g_8) r2 r3 r4 r5 (nI nr) r7 r8 tz k_j0 (bN 13 g_7) k_j2 j2 k_j3 (bN 120 q_j3) k_j4 (bN 120 q_j4) k_j5 j5 k_j7 (bN 120 q_j7) k_j8 j8 tzc (nI tzn) k_ftz ftz) H ∧ va_D A (xtl__w xa xtape (nI tp) rd au xdr hy g (nI hs) tg sg (nI ss) rm ti py bu sm (nI nc) (nI np) (nI ne) (nI st0) q4 q5 q6 q7 q8 q9 q10 q11 q12 q13 q14 q15 q16 k_f4 f4 k_f5 (bN 7 q_f5) k_f6 (bN 7 q_f6) k_f7 f7 k_f8 (bN 4 q_f8) k_f9 (bN 2 q_f9) k_f10 f10 k_f11 f11 k_f12 f12 k_f13 f13 k_f14 f14 k_f15 f15 k_f16 f16 r0 (nI g_8) r2 r3 r4 r5 (nI nr) r7 r8 tz k_j0 (bN 13 g_7) k_j2 j2 k_j3 (bN 120 q_j3) k_j4 (bN 120 q_j4) k_j5 j5 k_j7 (bN 120 q_j7) k_j8 j8 tzc (nI tzn) k_ftz ftz) ∧ va_S A s.heap H locs ∧ lv_has ls 10 [(0, .ref xa), (1, .int g_9), (2, .int p1), (3, .int p2), (4, .int p3), (5, .int p4), (6, .int p5), (7, .int (nI g_10)), (8, .int (nI g_11))]) 80 ?_ (fun j_18 => ?_)
      · rintro H locs ls st ⟨g_17, rfl, hP, hD, hS, hl⟩
        refine lv_istore (lv' := [(9, .int g_17), (0, .ref xa), (1, .int g_9), (2, .int p1), (3, .int p2), (4, .int p3), (5, .int p4), (6, .int p5), (7, .int (nI g_10)), (8, .int (nI g_11))]) hx hb eX8_tells_80 hl (by decide) rfl (fun ls hl => ?_)
        refine lv_iload hx hb eX8_tells_82 (lv_at hl 0 rfl) ?_
        refine lv_iconst (v := (-1)) hx hb eX8_tells_84 (by decide) ?_
        refine lv_icmp_ne (tgt := 91) hx hb eX8_tells_85 (by decide) (fun c_19 => ?_) (fun c_19 => ?_)
        · refine lv_aload_n hx hb eX8_tells_91 rfl (lv_at hl 1 rfl) ?_
          refine lv_iload hx hb eX8_tells_92 (lv_at hl 0 rfl) ?_
          have hPc : va_P (dC, dI) vwCl (xo__w xa xtape (nI tp) rd au xdr hy g (nI hs) tg sg (nI ss) rm ti py bu sm (nI nc) (nI np) (nI ne) (nI st0) q4 q5 q6 q7 q8 q9 q10 q11 q12 q13 q14 q15 q16) _ := hP.sub [0, 1] rfl
          have hDc := hD.sub (ws' := (xo__w xa xtape (nI tp) rd au xdr hy g (nI hs) tg sg (nI ss) rm ti py bu sm (nI nc) (nI np) (nI ne) (nI st0) q4 q5 q6 q7 q8 q9 q10 q11 q12 q13 q14 q15 q16)) [0, 1] (by decide) rfl
          have hKc : va_K (dC, dI) vwCl (xo__t ) s := hK.sub [] rfl
          refine va_calli (va_runV (As := [.int g_17]) (rest := []) ⟨hx, hb, hml, hown, hts⟩ (c_C_8_isEdge l dC dI _ xa xtape tp rd au xdr hy g hs tg sg ss rm ti py bu sm nc np ne (nI st0) q4 q5 q6 q7 q8 q9 q10 q11 q12 q13 q14 q15 q16 g_17 htp hhs hss hnc hnp hne (Or.inr ⟨st0, hst0, rfl⟩)) (cwV 1 hts g_C_8_tells_C_8_isEdge rfl rfl rfl (by decide +kernel) ⟨Nat.le_of_ble_eq_true rfl, Nat.le_of_ble_eq_true rfl⟩) ⟨pu_bl, va_recv hK hP (ci := 8) (q0 := 0) rfl rfl, pu_in hPc hKc hDc⟩ rfl rfl hl.1 rfl (lv_room (Nat.le_of_ble_eq_true rfl)) eX8_tells_94 ⟨Nat.le_of_ble_eq_true rfl, Nat.le_of_ble_eq_true rfl⟩) hS (fun q _ h => pu_fr hS hA q h) (pu_fr hS hA) (fun r_20 u t H1 locs ht hvm hw hB hz1 hk1 hS => ?_)
          have hP := pu_keep hP hk1
          clear hk1 hz1 ht hvm
          generalize H1 = H at hP hS ⊢
          rcases hw with ⟨rfl, hw⟩ | rfl
          · obtain ⟨n_21, hn_21, rfl⟩ := hw
            refine lv_if_eq (tgt := 115) hx hb eX8_tells_97 (by decide) (fun z => absurd z (by decide)) (fun _ => ?_)
            refine lv_aload_n hx hb eX8_tells_100 rfl (lv_at hl 1 rfl) ?_
            refine va_get (D := (dC, dI)) (ci := 8) (v := .ref au) (C := RX8) (T := TX8) (N := 16) hx hb hts hiX8 hown hK hP 0 rfl rfl 3 (by decide) v_1 (fun _ h9 => h9) rfl eX8_tells_101 ?_
            refine va_get (D := (dC, dI)) (ci := 0) (v := .ref q5) (C := RX0) (T := TX0) (N := 17) hx hb hts hiX0 hown hK hP 1 rfl rfl 5 (by decide) v_11 (fun _ h9 => h9) rfl eX8_tells_104 ?_
            refine lv_iload hx hb eX8_tells_107 (lv_at hl 0 rfl) ?_
            refine va_iald hx hb hK hP 3 1 rfl rfl (vp_in_nI (n := n_21) (by omega) (Nat.le_of_ble_eq_true rfl)) eX8_tells_109 ?_
            refine lv_topi (fun y_22 ey_22 => ?_)
            obtain ⟨u_23, hu_23, qu_23⟩ := bN_get 7 q_f5 (((nI n_21) : Int32).toNatClampNeg)
            obtain rfl : y_22 = nI u_23 := ey_22.trans qu_23
            refine lv_iload hx hb eX8_tells_110 (lv_at hl 8 rfl) ?_
            refine lv_icmp_eq (tgt := 117) hx hb eX8_tells_112 (by decide) (fun c_24 => ?_) (fun c_24 => ?_)
            · have c_24 : u_23 = g_10 := (nI_eq (a := u_23) (b := g_10) (Nat.lt_of_le_of_lt hu_23 (Nat.le_of_ble_eq_true rfl)) (Nat.lt_of_le_of_lt hg_10 (Nat.le_of_ble_eq_true rfl))).mp c_24
              refine lv_aload_n hx hb eX8_tells_117 rfl (lv_at hl 1 rfl) ?_
              refine va_get (D := (dC, dI)) (ci := 8) (v := .ref ti) (C := RX8) (T := TX8) (N := 16) hx hb hts hiX8 hown hK hP 0 rfl rfl 12 (by decide) v_3 (fun _ h9 => h9) rfl eX8_tells_118 ?_
              refine va_get (D := (dC, dI)) (ci := 6) (v := .ref r0) (C := RX6) (T := TX6) (N := 10) hx hb hts hiX6 hown hK hP 15 rfl rfl 0 (by decide) v_12 (fun _ h9 => h9) rfl eX8_tells_121 ?_
              refine lv_iload hx hb eX8_tells_124 (lv_at hl 9 rfl) ?_
              refine lv_iload hx hb eX8_tells_126 (lv_at hl 0 rfl) ?_
              refine va_iast hx hb hK hP hD hS 16 13 rfl rfl (vp_in_nI (n := g_11) (Nat.lt_of_le_of_lt hg_11 (Nat.le_of_ble_eq_true rfl)) (Nat.le_of_ble_eq_true rfl)) eX8_tells_128 (fun H locs hP hD hS => ?_)
              obtain ⟨q_25, eq_25, kq_25⟩ := bN_up 13 g_7 (((nI g_11) : Int32).toNatClampNeg) (v := n_21) (by omega)
              have hP : va_P (dC, dI) vwCl (xtl__w xa xtape (nI tp) rd au xdr hy g (nI hs) tg sg (nI ss) rm ti py bu sm (nI nc) (nI np) (nI ne) (nI st0) q4 q5 q6 q7 q8 q9 q10 q11 q12 q13 q14 q15 q16 k_f4 f4 k_f5 (bN 7 q_f5) k_f6 (bN 7 q_f6) k_f7 f7 k_f8 (bN 4 q_f8) k_f9 (bN 2 q_f9) k_f10 f10 k_f11 f11 k_f12 f12 k_f13 f13 k_f14 f14 k_f15 f15 k_f16 f16 r0 (nI g_8) r2 r3 r4 r5 (nI nr) r7 r8 tz k_j0 (bN 13 q_25) k_j2 j2 k_j3 (bN 120 q_j3) k_j4 (bN 120 q_j4) k_j5 j5 k_j7 (bN 120 q_j7) k_j8 j8 tzc (nI tzn) k_ftz ftz) H := by rw [← eq_25]; exact hP
              have hD : va_D A (xtl__w xa xtape (nI tp) rd au xdr hy g (nI hs) tg sg (nI ss) rm ti py bu sm (nI nc) (nI np) (nI ne) (nI st0) q4 q5 q6 q7 q8 q9 q10 q11 q12 q13 q14 q15 q16 k_f4 f4 k_f5 (bN 7 q_f5) k_f6 (bN 7 q_f6) k_f7 f7 k_f8 (bN 4 q_f8) k_f9 (bN 2 q_f9) k_f10 f10 k_f11 f11 k_f12 f12 k_f13 f13 k_f14 f14 k_f15 f15 k_f16 f16 r0 (nI g_8) r2 r3 r4 r5 (nI nr) r7 r8 tz k_j0 (bN 13 q_25) k_j2 j2 k_j3 (bN 120 q_j3) k_j4 (bN 120 q_j4) k_j5 j5 k_j7 (bN 120 q_j7) k_j8 j8 tzc (nI tzn) k_ftz ftz) := by rw [← eq_25]; exact hD
              refine lv_aload_n hx hb eX8_tells_129 rfl (lv_at hl 1 rfl) ?_
              refine va_get (D := (dC, dI)) (ci := 8) (v := .ref ti) (C := RX8) (T := TX8) (N := 16) hx hb hts hiX8 hown hK hP 0 rfl rfl 12 (by decide) v_3 (fun _ h9 => h9) rfl eX8_tells_130 ?_
              refine lv_iload hx hb eX8_tells_133 (lv_at hl 9 rfl) ?_
              refine lv_iconst (v := 1) hx hb eX8_tells_135 (by decide) ?_
              refine lv_iadd hx hb eX8_tells_136 ?_
              refine lv_topi (fun y_26 ey_26 => ?_)
              obtain rfl : y_26 = (nI (g_11 + 1)) := ey_26.trans (nI_add g_11 1)
              refine va_put (D := (dC, dI)) (ci := 6) (v := .int (nI (g_11 + 1))) (ty := .int) (C := RX6) (T := TX6) (N := 10) hx hb hts hiX6 tyX6 tyX6_ok nmX6 hown hK hP hD hS 15 rfl rfl 1 (by decide) v_4 (fun _ h9 => h9) rfl (by decide +kernel) rfl rfl (Nat.le_of_ble_eq_true rfl) eX8_tells_137 (fun H locs hP hD hS => ?_)
              have hP : va_P (dC, dI) vwCl (xtl__w xa xtape (nI tp) rd au xdr hy g (nI hs) tg sg (nI ss) rm ti py bu sm (nI nc) (nI np) (nI ne) (nI st0) q4 q5 q6 q7 q8 q9 q10 q11 q12 q13 q14 q15 q16 k_f4 f4 k_f5 (bN 7 q_f5) k_f6 (bN 7 q_f6) k_f7 f7 k_f8 (bN 4 q_f8) k_f9 (bN 2 q_f9) k_f10 f10 k_f11 f11 k_f12 f12 k_f13 f13 k_f14 f14 k_f15 f15 k_f16 f16 r0 (nI (g_11 + 1)) r2 r3 r4 r5 (nI nr) r7 r8 tz k_j0 (bN 13 q_25) k_j2 j2 k_j3 (bN 120 q_j3) k_j4 (bN 120 q_j4) k_j5 j5 k_j7 (bN 120 q_j7) k_j8 j8 tzc (nI tzn) k_ftz ftz) H := hP
              have hD : va_D A (xtl__w xa xtape (nI tp) rd au xdr hy g (nI hs) tg sg (nI ss) rm ti py bu sm (nI nc) (nI np) (nI ne) (nI st0) q4 q5 q6 q7 q8 q9 q10 q11 q12 q13 q14 q15 q16 k_f4 f4 k_f5 (bN 7 q_f5) k_f6 (bN 7 q_f6) k_f7 f7 k_f8 (bN 4 q_f8) k_f9 (bN 2 q_f9) k_f10 f10 k_f11 f11 k_f12 f12 k_f13 f13 k_f14 f14 k_f15 f15 k_f16 f16 r0 (nI (g_11 + 1)) r2 r3 r4 r5 (nI nr) r7 r8 tz k_j0 (bN 13 q_25) k_j2 j2 k_j3 (bN 120 q_j3) k_j4 (bN 120 q_j4) k_j5 j5 k_j7 (bN 120 q_j7) k_j8 j8 tzc (nI tzn) k_ftz ftz) := hD
              refine lv_aload_n hx hb eX8_tells_140 rfl (lv_at hl 1 rfl) ?_
              refine va_get (D := (dC, dI)) (ci := 8) (v := .ref au) (C := RX8) (T := TX8) (N := 16) hx hb hts hiX8 hown hK hP 0 rfl rfl 3 (by decide) v_1 (fun _ h9 => h9) rfl eX8_tells_141 ?_
              refine va_get (D := (dC, dI)) (ci := 0) (v := .ref q6) (C := RX0) (T := TX0) (N := 17) hx hb hts hiX0 hown hK hP 1 rfl rfl 6 (by decide) v_13 (fun _ h9 => h9) rfl eX8_tells_144 ?_
              refine lv_iload hx hb eX8_tells_147 (lv_at hl 0 rfl) ?_
              refine va_iald hx hb hK hP 4 2 rfl rfl (vp_in_nI (n := n_21) (by omega) (Nat.le_of_ble_eq_true rfl)) eX8_tells_149 ?_
              refine lv_topi (fun y_27 ey_27 => ?_)
              obtain ⟨u_28, hu_28, qu_28⟩ := bN_get 7 q_f6 (((nI n_21) : Int32).toNatClampNeg)
              obtain rfl : y_27 = nI u_28 := ey_27.trans qu_28
              refine lv_istore (lv' := [(7, .int (nI u_28)), (9, .int (nI n_21)), (0, .ref xa), (1, .int g_9), (2, .int p1), (3, .int p2), (4, .int p3), (5, .int p4), (6, .int p5), (8, .int (nI g_11))]) hx hb eX8_tells_150 hl (by decide) rfl (fun ls hl => ?_)
              refine lv_iinc (v := (nI (g_11 + 1))) (lv' := [(8, .int (nI (g_11 + 1))), (7, .int (nI u_28)), (9, .int (nI n_21)), (0, .ref xa), (1, .int g_9), (2, .int p1), (3, .int p2), (4, .int p3), (5, .int p4), (6, .int p5)]) hx hb eX8_tells_152 hl (k := 9) rfl (nI_1 _) (by decide) rfl (fun ls hl => ?_)
              refine lv_goto (tgt := 32) hx hb eX8_tells_155 (by decide) ?_
              exact ih_12 (5 - (g_11 + 1)) (by omega) _ _ _ ⟨q_25, (g_11 + 1), g_9, u_28, (g_11 + 1), rfl, (by omega), hu_28, (by omega), hP, hD, hS, lv_sub hl [3, 4, 5, 6, 7, 8, 9, 1, 0] rfl⟩
            · have c_24 : ¬ u_23 = g_10 := fun z => c_24 ((nI_eq (a := u_23) (b := g_10) (Nat.lt_of_le_of_lt hu_23 (Nat.le_of_ble_eq_true rfl)) (Nat.lt_of_le_of_lt hg_10 (Nat.le_of_ble_eq_true rfl))).mpr z)
              refine lv_iconst (v := (-1)) hx hb eX8_tells_115 (by decide) ?_
              exact W.iret (v := (-1)) hx hb hr (fun t ht hW => ⟨⟨(-1), (), rfl, trivial, ⟨g_7, ftz, g_8, tzn, ⟨by rw [ht]; exact hP, va_K.moved hW.alike hK, hD⟩, hg_8, htzn⟩⟩, hS.F ht⟩) hS.2.2 eX8_tells_116
          · refine lv_if_eq (tgt := 115) hx hb eX8_tells_97 (by decide) (fun _ => ?_) (fun z => absurd z (by decide))
            refine lv_iconst (v := (-1)) hx hb eX8_tells_115 (by decide) ?_
            exact W.iret (v := (-1)) hx hb hr (fun t ht hW => ⟨⟨(-1), (), rfl, trivial, ⟨g_7, ftz, g_8, tzn, ⟨by rw [ht]; exact hP, va_K.moved hW.alike hK, hD⟩, hg_8, htzn⟩⟩, hS.F ht⟩) hS.2.2 eX8_tells_116
        · refine lv_goto (tgt := 158) hx hb eX8_tells_88 (by decide) ?_
          refine lv_aload_n hx hb eX8_tells_158 rfl (lv_at hl 1 rfl) ?_
          refine va_get (D := (dC, dI)) (ci := 8) (v := .ref ti) (C := RX8) (T := TX8) (N := 16) hx hb hts hiX8 hown hK hP 0 rfl rfl 12 (by decide) v_3 (fun _ h9 => h9) rfl eX8_tells_159 ?_
          refine lv_aload_n hx hb eX8_tells_162 rfl (lv_at hl 1 rfl) ?_
          refine va_get (D := (dC, dI)) (ci := 8) (v := .ref au) (C := RX8) (T := TX8) (N := 16) hx hb hts hiX8 hown hK hP 0 rfl rfl 3 (by decide) v_1 (fun _ h9 => h9) rfl eX8_tells_163 ?_
          refine lv_iload hx hb eX8_tells_166 (lv_at hl 7 rfl) ?_
          have hPc : va_P (dC, dI) vwCl (tz__w ti r0 (nI g_8) r2 r3 r4 r5 (nI nr) r7 r8 tz k_j0 (bN 13 g_7) k_j2 j2 k_j3 (bN 120 q_j3) k_j4 (bN 120 q_j4) k_j5 j5 k_j7 (bN 120 q_j7) k_j8 j8 au (nI nc) (nI np) (nI ne) (nI st0) q4 q5 q6 q7 q8 q9 q10 q11 q12 q13 q14 q15 q16 k_f4 f4 k_f5 (bN 7 q_f5) k_f6 (bN 7 q_f6) k_f7 f7 k_f8 (bN 4 q_f8) k_f9 (bN 2 q_f9) k_f10 f10 k_f11 f11 k_f12 f12 k_f13 f13 k_f14 f14 k_f15 f15 k_f16 f16 tzc (nI tzn) k_ftz ftz) _ := hP.sub [15, 16, 17, 18, 19, 20, 21, 22, 1, 2, 3, 4, 5, 6, 7, 8, 9, 10, 11, 12, 13, 14, 23, 24] rfl
          have hDc := hD.sub (ws' := (tz__w ti r0 (nI g_8) r2 r3 r4 r5 (nI nr) r7 r8 tz k_j0 (bN 13 g_7) k_j2 j2 k_j3 (bN 120 q_j3) k_j4 (bN 120 q_j4) k_j5 j5 k_j7 (bN 120 q_j7) k_j8 j8 au (nI nc) (nI np) (nI ne) (nI st0) q4 q5 q6 q7 q8 q9 q10 q11 q12 q13 q14 q15 q16 k_f4 f4 k_f5 (bN 7 q_f5) k_f6 (bN 7 q_f6) k_f7 f7 k_f8 (bN 4 q_f8) k_f9 (bN 2 q_f9) k_f10 f10 k_f11 f11 k_f12 f12 k_f13 f13 k_f14 f14 k_f15 f15 k_f16 f16 tzc (nI tzn) k_ftz ftz)) [15, 16, 17, 18, 19, 20, 21, 22, 1, 2, 3, 4, 5, 6, 7, 8, 9, 10, 11, 12, 13, 14, 23, 24] (by decide) rfl
          have hKc : va_K (dC, dI) vwCl (tz__t k_j0 k_j2 k_j3 k_j4 k_j5 k_j7 k_j8 k_f4 k_f5 k_f6 k_f7 k_f8 k_f9 k_f10 k_f11 k_f12 k_f13 k_f14 k_f15 k_f16 k_ftz) s := hK.sub [13, 14, 15, 16, 17, 18, 19, 0, 1, 2, 3, 4, 5, 6, 7, 8, 9, 10, 11, 12, 20] rfl
          have hFc := pu_free hDc hS hA
          refine va_calli (va_runV (As := [.ref au, .int p5]) (rest := []) ⟨hx, hb, hml, hown, hts⟩ (c_C_6_spanOf l dC dI _ ti r0 g_8 r2 r3 r4 r5 nr r7 r8 tz k_j0 g_7 k_j2 j2 k_j3 q_j3 k_j4 q_j4 k_j5 j5 k_j7 q_j7 k_j8 j8 au nc np ne st0 q4 q5 q6 q7 q8 q9 q10 q11 q12 q13 q14 q15 q16 k_f4 f4 k_f5 q_f5 k_f6 q_f6 k_f7 f7 k_f8 q_f8 k_f9 q_f9 k_f10 f10 k_f11 f11 k_f12 f12 k_f13 f13 k_f14 f14 k_f15 f15 k_f16 f16 tzc tzn k_ftz ftz p5 hg_8 hnr hnc hnp hne hst0 htzn) (cwV 2 hts g_C_8_tells_C_6_spanOf rfl rfl rfl (by decide +kernel) ⟨Nat.le_of_ble_eq_true rfl, Nat.le_of_ble_eq_true rfl⟩) ⟨pu_bl, va_recv hK hP (ci := 6) (q0 := 15) rfl rfl, pu_in hPc hKc hDc⟩ rfl rfl hl.1 rfl (lv_room (Nat.le_of_ble_eq_true rfl)) eX8_tells_168 ⟨Nat.le_of_ble_eq_true rfl, Nat.le_of_ble_eq_true rfl⟩) hS (fun q _ h => hFc q h) hFc (fun r_29 u t H1 locs ht hvm hw hB hz1 hk1 hS => ?_)
          obtain ⟨z_ftz_30, z_tzn_31, ⟨hP1, -, hD1⟩, hz_tzn_31⟩ := hB
          rw [ht] at hP1
          obtain ⟨hP, hD⟩ := pj_a (X := (xtl__w xa xtape (nI tp) rd au xdr hy g (nI hs) tg sg (nI ss) rm ti py bu sm (nI nc) (nI np) (nI ne) (nI st0) q4 q5 q6 q7 q8 q9 q10 q11 q12 q13 q14 q15 q16 k_f4 f4 k_f5 (bN 7 q_f5) k_f6 (bN 7 q_f6) k_f7 f7 k_f8 (bN 4 q_f8) k_f9 (bN 2 q_f9) k_f10 f10 k_f11 f11 k_f12 f12 k_f13 f13 k_f14 f14 k_f15 f15 k_f16 f16 r0 (nI g_8) r2 r3 r4 r5 (nI nr) r7 r8 tz k_j0 (bN 13 g_7) k_j2 j2 k_j3 (bN 120 q_j3) k_j4 (bN 120 q_j4) k_j5 j5 k_j7 (bN 120 q_j7) k_j8 j8 tzc (nI tzn) k_ftz ftz)) (X' := (xtl__w xa xtape (nI tp) rd au xdr hy g (nI hs) tg sg (nI ss) rm ti py bu sm (nI nc) (nI np) (nI ne) (nI st0) q4 q5 q6 q7 q8 q9 q10 q11 q12 q13 q14 q15 q16 k_f4 f4 k_f5 (bN 7 q_f5) k_f6 (bN 7 q_f6) k_f7 f7 k_f8 (bN 4 q_f8) k_f9 (bN 2 q_f9) k_f10 f10 k_f11 f11 k_f12 f12 k_f13 f13 k_f14 f14 k_f15 f15 k_f16 f16 r0 (nI g_8) r2 r3 r4 r5 (nI nr) r7 r8 tz k_j0 (bN 13 g_7) k_j2 j2 k_j3 (bN 120 q_j3) k_j4 (bN 120 q_j4) k_j5 j5 k_j7 (bN 120 q_j7) k_j8 j8 tzc (nI z_tzn_31) k_ftz z_ftz_30)) (wc := (tz__w ti r0 (nI g_8) r2 r3 r4 r5 (nI nr) r7 r8 tz k_j0 (bN 13 g_7) k_j2 j2 k_j3 (bN 120 q_j3) k_j4 (bN 120 q_j4) k_j5 j5 k_j7 (bN 120 q_j7) k_j8 j8 au (nI nc) (nI np) (nI ne) (nI st0) q4 q5 q6 q7 q8 q9 q10 q11 q12 q13 q14 q15 q16 k_f4 f4 k_f5 (bN 7 q_f5) k_f6 (bN 7 q_f6) k_f7 f7 k_f8 (bN 4 q_f8) k_f9 (bN 2 q_f9) k_f10 f10 k_f11 f11 k_f12 f12 k_f13 f13 k_f14 f14 k_f15 f15 k_f16 f16 tzc (nI tzn) k_ftz ftz)) (w1 := (tz__w ti r0 (nI g_8) r2 r3 r4 r5 (nI nr) r7 r8 tz k_j0 (bN 13 g_7) k_j2 j2 k_j3 (bN 120 q_j3) k_j4 (bN 120 q_j4) k_j5 j5 k_j7 (bN 120 q_j7) k_j8 j8 au (nI nc) (nI np) (nI ne) (nI st0) q4 q5 q6 q7 q8 q9 q10 q11 q12 q13 q14 q15 q16 k_f4 f4 k_f5 (bN 7 q_f5) k_f6 (bN 7 q_f6) k_f7 f7 k_f8 (bN 4 q_f8) k_f9 (bN 2 q_f9) k_f10 f10 k_f11 f11 k_f12 f12 k_f13 f13 k_f14 f14 k_f15 f15 k_f16 f16 tzc (nI z_tzn_31) k_ftz z_ftz_30)) hP hD [15, 16, 17, 18, 19, 20, 21, 22, 1, 2, 3, 4, 5, 6, 7, 8, 9, 10, 11, 12, 13, 14, 23, 24] [24, 8, 9, 10, 11, 12, 13, 14, 15, 16, 17, 18, 19, 20, 21, 0, 1, 2, 3, 4, 5, 6, 7, 22, 23] 24 rfl hk1 hP1 rfl rfl rfl (by decide)
          clear hP1 hD1 hFc hPc hDc hKc
          clear hk1 hz1 ht hvm
          generalize H1 = H at hP hS ⊢
          exact W.iret (v := r_29) hx hb hr (fun t ht hW => ⟨⟨r_29, (), rfl, trivial, ⟨g_7, z_ftz_30, g_8, z_tzn_31, ⟨by rw [ht]; exact hP, va_K.moved hW.alike hK, hD⟩, hg_8, hz_tzn_31⟩⟩, hS.F ht⟩) hS.2.2 eX8_tells_171
      refine lv_if_ne (tgt := 47) hx hb eX8_tells_40 (by decide) (fun c_32 => ?_) (fun c_32 => ?_)
      · have c_32 : ¬ g_11 = 0 := fun z => c_32 ((nI_eq (a := g_11) (b := 0) (Nat.lt_of_le_of_lt hg_11 (Nat.le_of_ble_eq_true rfl)) (Nat.le_of_ble_eq_true rfl)).mpr z)
        refine lv_iload hx hb eX8_tells_47 (lv_at hl 8 rfl) ?_
        refine lv_iconst (v := 1) hx hb eX8_tells_49 (by decide) ?_
        refine lv_icmp_ne (tgt := 57) hx hb eX8_tells_50 (by decide) (fun c_33 => ?_) (fun c_33 => ?_)
        · have c_33 : ¬ g_11 = 1 := fun z => c_33 ((nI_eq (a := g_11) (b := 1) (Nat.lt_of_le_of_lt hg_11 (Nat.le_of_ble_eq_true rfl)) (Nat.le_of_ble_eq_true rfl)).mpr z)
          refine lv_iload hx hb eX8_tells_57 (lv_at hl 8 rfl) ?_
          refine lv_iconst (v := 2) hx hb eX8_tells_59 (by decide) ?_
          refine lv_icmp_ne (tgt := 67) hx hb eX8_tells_60 (by decide) (fun c_34 => ?_) (fun c_34 => ?_)
          · have c_34 : ¬ g_11 = 2 := fun z => c_34 ((nI_eq (a := g_11) (b := 2) (Nat.lt_of_le_of_lt hg_11 (Nat.le_of_ble_eq_true rfl)) (Nat.le_of_ble_eq_true rfl)).mpr z)
            refine lv_iload hx hb eX8_tells_67 (lv_at hl 8 rfl) ?_
            refine lv_iconst (v := 3) hx hb eX8_tells_69 (by decide) ?_
            refine lv_icmp_ne (tgt := 78) hx hb eX8_tells_70 (by decide) (fun c_35 => ?_) (fun c_35 => ?_)
            · have c_35 : ¬ g_11 = 3 := fun z => c_35 ((nI_eq (a := g_11) (b := 3) (Nat.lt_of_le_of_lt hg_11 (Nat.le_of_ble_eq_true rfl)) (Nat.le_of_ble_eq_true rfl)).mpr z)
              refine lv_iload hx hb eX8_tells_78 (lv_at hl 5 rfl) ?_
              exact j_18 _ _ _ _ ⟨p4, rfl, hP, hD, hS, lv_sub hl [0, 1, 2, 3, 4, 5, 6, 7, 8] rfl⟩
            · have c_35 : g_11 = 3 := (nI_eq (a := g_11) (b := 3) (Nat.lt_of_le_of_lt hg_11 (Nat.le_of_ble_eq_true rfl)) (Nat.le_of_ble_eq_true rfl)).mp c_35
              refine lv_iload hx hb eX8_tells_73 (lv_at hl 4 rfl) ?_
              refine lv_goto (tgt := 80) hx hb eX8_tells_75 (by decide) ?_
              exact j_18 _ _ _ _ ⟨p3, rfl, hP, hD, hS, lv_sub hl [0, 1, 2, 3, 4, 5, 6, 7, 8] rfl⟩
          · have c_34 : g_11 = 2 := (nI_eq (a := g_11) (b := 2) (Nat.lt_of_le_of_lt hg_11 (Nat.le_of_ble_eq_true rfl)) (Nat.le_of_ble_eq_true rfl)).mp c_34
            refine lv_iload_n hx hb eX8_tells_63 rfl (lv_at hl 3 rfl) ?_
            refine lv_goto (tgt := 80) hx hb eX8_tells_64 (by decide) ?_
            exact j_18 _ _ _ _ ⟨p2, rfl, hP, hD, hS, lv_sub hl [0, 1, 2, 3, 4, 5, 6, 7, 8] rfl⟩
        · have c_33 : g_11 = 1 := (nI_eq (a := g_11) (b := 1) (Nat.lt_of_le_of_lt hg_11 (Nat.le_of_ble_eq_true rfl)) (Nat.le_of_ble_eq_true rfl)).mp c_33
          refine lv_iload_n hx hb eX8_tells_53 rfl (lv_at hl 2 rfl) ?_
          refine lv_goto (tgt := 80) hx hb eX8_tells_54 (by decide) ?_
          exact j_18 _ _ _ _ ⟨p1, rfl, hP, hD, hS, lv_sub hl [0, 1, 2, 3, 4, 5, 6, 7, 8] rfl⟩
      · have c_32 : g_11 = 0 := (nI_eq (a := g_11) (b := 0) (Nat.lt_of_le_of_lt hg_11 (Nat.le_of_ble_eq_true rfl)) (Nat.le_of_ble_eq_true rfl)).mp c_32
        refine lv_iload_n hx hb eX8_tells_43 rfl (lv_at hl 1 rfl) ?_
        refine lv_goto (tgt := 80) hx hb eX8_tells_44 (by decide) ?_
        exact j_18 _ _ _ _ ⟨g_9, rfl, hP, hD, hS, lv_sub hl [0, 1, 2, 3, 4, 5, 6, 7, 8] rfl⟩
  · have c_1 : np = 0 := (nI_eq (a := np) (b := 0) (Nat.lt_of_le_of_lt hnp (Nat.le_of_ble_eq_true rfl)) (Nat.le_of_ble_eq_true rfl)).mp c_1
    refine lv_iconst (v := (-1)) hx hb eX8_tells_10 (by decide) ?_
    exact W.iret (v := (-1)) hx hb hr (fun t ht hW => ⟨⟨(-1), (), rfl, trivial, ⟨q_j0, ftz, ln, tzn, ⟨by rw [ht]; exact hP, va_K.moved hW.alike hK, hD⟩, hln, htzn⟩⟩, hS.F ht⟩) hS.2.2 eX8_tells_11
theorem eX8_replays_0 : decode cX8_replays 0 = .ok (.aload_n 0, 1) := by decide +kernel
theorem eX8_replays_1 : decode cX8_replays 1 = .ok (.getfield 69, 3) := by decide +kernel
theorem eX8_replays_4 : decode cX8_replays 4 = .ok (.iconst 0, 1) := by decide +kernel
theorem eX8_replays_5 : decode cX8_replays 5 = .ok (.putfield 107, 3) := by decide +kernel
theorem eX8_replays_8 : decode cX8_replays 8 = .ok (.aload_n 0, 1) := by decide +kernel
theorem eX8_replays_9 : decode cX8_replays 9 = .ok (.iload_n 1, 1) := by decide +kernel
theorem eX8_replays_10 : decode cX8_replays 10 = .ok (.invokevirtual 228, 3) := by decide +kernel
theorem eX8_replays_13 : decode cX8_replays 13 = .ok (.ifCond .eq 25, 3) := by decide +kernel
theorem eX8_replays_38 : decode cX8_replays 38 = .ok (.iconst 0, 1) := by decide +kernel
theorem eX8_replays_39 : decode cX8_replays 39 = .ok (.ireturn, 1) := by decide +kernel
abbrev vs_C_8_replays_0 : List Cond := .code yX8_replays cX8_replays 3 (some .boolean) :: CM
theorem g_C_8_replays_0_C_8_isState_0 : GoodIn vs_C_8_replays_0 (wsV RX8 228 RX8 yX8_isState vs_C_8_isState_0) := cm_gV cm_537 cm_538 cm_539 cm_427 cm_530
set_option maxHeartbeats 4000000 in
set_option maxRecDepth 100000 in
theorem c_C_8_replays_0 (l : Launch) (dC : Nat → ClassId) (dI : Nat → Nat → Nat) (sz : Nat) (xa : Nat) (xtape : Nat) (tp : Nat) (rd : Nat) (au : Nat) (xdr : Nat) (hy : Nat) (g : Nat) (tg : Nat) (sg : Nat) (rm : Nat) (ti : Nat) (py : Nat) (bu : Nat) (sm : Nat) (nc : Nat) (ne : Nat) (st0 : Int32) (q4 : Nat) (q5 : Nat) (q6 : Nat) (q7 : Nat) (q8 : Nat) (q9 : Nat) (q10 : Nat) (q11 : Nat) (q12 : Nat) (q13 : Nat) (q14 : Nat) (q15 : Nat) (q16 : Nat) (k_f4 : ClassId) (f4 : Nat → Int32) (k_f5 : ClassId) (q_f5 : Nat → Nat) (k_f6 : ClassId) (q_f6 : Nat → Nat) (k_f7 : ClassId) (f7 : Nat → Int32) (k_f8 : ClassId) (q_f8 : Nat → Nat) (k_f9 : ClassId) (q_f9 : Nat → Nat) (k_f10 : ClassId) (f10 : Nat → Int32) (k_f11 : ClassId) (f11 : Nat → Int32) (k_f12 : ClassId) (f12 : Nat → Int32) (k_f13 : ClassId) (f13 : Nat → Int32) (k_f14 : ClassId) (f14 : Nat → Int32) (k_f15 : ClassId) (f15 : Nat → Int32) (k_f16 : ClassId) (f16 : Nat → Int32) (gz : Nat) (g1 : Nat) (g2 : Nat) (g3 : Nat) (g4 : Nat) (g5 : Nat) (gc : Nat) (gfull : Nat) (gx : Int32) (gway : Int32) (gav : Int32) (ggoal : Int32) (gfound : Nat) (gl : Nat) (gsz : Nat) (g16 : Nat) (g17 : Nat) (k_fs2 : ClassId) (fs2 : Nat → Int32) (k_fs3 : ClassId) (fs3 : Nat → Int32) (k_fs4 : ClassId) (fs4 : Nat → Int32) (r0 : Nat) (ln : Nat) (r2 : Nat) (r3 : Nat) (r4 : Nat) (r5 : Nat) (nr : Nat) (r7 : Nat) (r8 : Nat) (tz : Nat) (k_j0 : ClassId) (q_j0 : Nat → Nat) (k_j2 : ClassId) (j2 : Nat → Int32) (k_j3 : ClassId) (q_j3 : Nat → Nat) (k_j4 : ClassId) (q_j4 : Nat → Nat) (k_j5 : ClassId) (j5 : Nat → Int32) (k_j7 : ClassId) (q_j7 : Nat → Nat) (k_j8 : ClassId) (j8 : Nat → Int32) (on : Nat) (si : Nat) (ti0 : Int32) (tm : Nat) (bh : Nat) (k_ftm : ClassId) (ftm : Nat → Int32) (k_fbh : ClassId) (fbh : Nat → Int32) (p0 : Int32) (htp : tp ≤ 900) (hnc : nc ≤ 3) (hne : ne ≤ 14) (hst0 : pm1 7 st0) (hgc : gc ≤ 120) (hgfull : gfull ≤ 1) (hgfound : gfound ≤ 1) (hgl : gl ≤ 1) (hgsz : gsz ≤ 4) (hln : ln ≤ 119) (hnr : nr ≤ 1920) (hon : on ≤ 1) (hsi : si ≤ 7) : Met l yX8_replays vs_C_8_replays_0 ({ frames := 1, cells := 0, slots := 0, locals := 21 }) (va_Pc [.ref xa, .int p0] (pu_B (dC, dI) (xrp__w xa xtape (nI tp) rd au xdr hy g 0 tg sg 0 rm ti py bu sm (nI nc) 0 (nI ne) st0 q4 q5 q6 q7 q8 q9 q10 q11 q12 q13 q14 q15 q16 k_f4 f4 k_f5 (bN 7 q_f5) k_f6 (bN 7 q_f6) k_f7 f7 k_f8 (bN 4 q_f8) k_f9 (bN 2 q_f9) k_f10 f10 k_f11 f11 k_f12 f12 k_f13 f13 k_f14 f14 k_f15 f15 k_f16 f16 gz g1 g2 g3 g4 g5 (nI gc) (nI gfull) gx gway gav ggoal (nI gfound) 120 (nI gl) (nI gsz) g16 g17 k_fs2 fs2 k_fs3 fs3 k_fs4 fs4 r0 (nI ln) r2 r3 r4 r5 (nI nr) r7 r8 tz k_j0 (bN 13 q_j0) k_j2 j2 k_j3 (bN 120 q_j3) k_j4 (bN 120 q_j4) k_j5 j5 k_j7 (bN 120 q_j7) k_j8 j8 (nI on) (nI si) ti0 tm bh k_ftm ftm k_fbh fbh) (xrp__t k_f4 k_f5 k_f6 k_f7 k_f8 k_f9 k_f10 k_f11 k_f12 k_f13 k_f14 k_f15 k_f16 k_fs2 k_fs3 k_fs4 k_j0 k_j2 k_j3 k_j4 k_j5 k_j7 k_j8 k_ftm k_fbh) sz)) (va_Qi (fun (r : Int32) (_ : Unit) => ∃ v : Nat, v ≤ 1 ∧ r = nI v) (fun _ t => ∃ (z_on : Nat), pu_E (dC, dI) (xrp__w xa xtape (nI tp) rd au xdr hy g 0 tg sg 0 rm ti py bu sm (nI nc) 0 (nI ne) st0 q4 q5 q6 q7 q8 q9 q10 q11 q12 q13 q14 q15 q16 k_f4 f4 k_f5 (bN 7 q_f5) k_f6 (bN 7 q_f6) k_f7 f7 k_f8 (bN 4 q_f8) k_f9 (bN 2 q_f9) k_f10 f10 k_f11 f11 k_f12 f12 k_f13 f13 k_f14 f14 k_f15 f15 k_f16 f16 gz g1 g2 g3 g4 g5 (nI gc) (nI gfull) gx gway gav ggoal (nI gfound) 120 (nI gl) (nI gsz) g16 g17 k_fs2 fs2 k_fs3 fs3 k_fs4 fs4 r0 (nI ln) r2 r3 r4 r5 (nI nr) r7 r8 tz k_j0 (bN 13 q_j0) k_j2 j2 k_j3 (bN 120 q_j3) k_j4 (bN 120 q_j4) k_j5 j5 k_j7 (bN 120 q_j7) k_j8 j8 (nI z_on) (nI si) ti0 tm bh k_ftm ftm k_fbh fbh) (xrp__t k_f4 k_f5 k_f6 k_f7 k_f8 k_f9 k_f10 k_f11 k_f12 k_f13 k_f14 k_f15 k_f16 k_fs2 k_fs3 k_fs4 k_j0 k_j2 k_j3 k_j4 k_j5 k_j7 k_j8 k_ftm k_fbh) (va_A ((xrp__w xa xtape (nI tp) rd au xdr hy g 0 tg sg 0 rm ti py bu sm (nI nc) 0 (nI ne) st0 q4 q5 q6 q7 q8 q9 q10 q11 q12 q13 q14 q15 q16 k_f4 f4 k_f5 (bN 7 q_f5) k_f6 (bN 7 q_f6) k_f7 f7 k_f8 (bN 4 q_f8) k_f9 (bN 2 q_f9) k_f10 f10 k_f11 f11 k_f12 f12 k_f13 f13 k_f14 f14 k_f15 f15 k_f16 f16 gz g1 g2 g3 g4 g5 (nI gc) (nI gfull) gx gway gav ggoal (nI gfound) 120 (nI gl) (nI gsz) g16 g17 k_fs2 fs2 k_fs3 fs3 k_fs4 fs4 r0 (nI ln) r2 r3 r4 r5 (nI nr) r7 r8 tz k_j0 (bN 13 q_j0) k_j2 j2 k_j3 (bN 120 q_j3) k_j4 (bN 120 q_j4) k_j5 j5 k_j7 (bN 120 q_j7) k_j8 j8 (nI on) (nI si) ti0 tm bh k_ftm ftm k_fbh fbh)) sz) t ∧ (z_on ≤ 1)) (va_A ((xrp__w xa xtape (nI tp) rd au xdr hy g 0 tg sg 0 rm ti py bu sm (nI nc) 0 (nI ne) st0 q4 q5 q6 q7 q8 q9 q10 q11 q12 q13 q14 q15 q16 k_f4 f4 k_f5 (bN 7 q_f5) k_f6 (bN 7 q_f6) k_f7 f7 k_f8 (bN 4 q_f8) k_f9 (bN 2 q_f9) k_f10 f10 k_f11 f11 k_f12 f12 k_f13 f13 k_f14 f14 k_f15 f15 k_f16 f16 gz g1 g2 g3 g4 g5 (nI gc) (nI gfull) gx gway gav ggoal (nI gfound) 120 (nI gl) (nI gsz) g16 g17 k_fs2 fs2 k_fs3 fs3 k_fs4 fs4 r0 (nI ln) r2 r3 r4 r5 (nI nr) r7 r8 tz k_j0 (bN 13 q_j0) k_j2 j2 k_j3 (bN 120 q_j3) k_j4 (bN 120 q_j4) k_j5 j5 k_j7 (bN 120 q_j7) k_j8 j8 (nI on) (nI si) ti0 tm bh k_ftm ftm k_fbh fbh)) sz)) 0 0 (va_A ((xrp__w xa xtape (nI tp) rd au xdr hy g 0 tg sg 0 rm ti py bu sm (nI nc) 0 (nI ne) st0 q4 q5 q6 q7 q8 q9 q10 q11 q12 q13 q14 q15 q16 k_f4 f4 k_f5 (bN 7 q_f5) k_f6 (bN 7 q_f6) k_f7 f7 k_f8 (bN 4 q_f8) k_f9 (bN 2 q_f9) k_f10 f10 k_f11 f11 k_f12 f12 k_f13 f13 k_f14 f14 k_f15 f15 k_f16 f16 gz g1 g2 g3 g4 g5 (nI gc) (nI gfull) gx gway gav ggoal (nI gfound) 120 (nI gl) (nI gsz) g16 g17 k_fs2 fs2 k_fs3 fs3 k_fs4 fs4 r0 (nI ln) r2 r3 r4 r5 (nI nr) r7 r8 tz k_j0 (bN 13 q_j0) k_j2 j2 k_j3 (bN 120 q_j3) k_j4 (bN 120 q_j4) k_j5 j5 k_j7 (bN 120 q_j7) k_j8 j8 (nI on) (nI si) ti0 tm bh k_ftm ftm k_fbh fbh)) sz) := by
  refine Met.ofW (cc := cX8_replays) (maxL := 3) (ret := (some .boolean)) (by decide) rfl ?_
  intro p e s m args below meth c s₁ B hml hv
  obtain ⟨rfl, rfl, hP, hK, hD0⟩ := hv
  have hx := B.exec
  have hb := B.bytes
  have hr := B.returns
  have hts := atoms_spec (ws := vs_C_8_replays_0) B.pre
  have v_1 := hts (.fieldLink RX8 69 "ClockReach" "play" "LClockReach$Play;") (List.mem_cons_of_mem _ cm_447)
  have v_2 := hts (.fieldLink RX8 107 "ClockReach$Play" "on" "Z") (List.mem_cons_of_mem _ cm_448)
  have hown : s.vm.findClass RX8 = some m.cls := findClass_of_methodNamed B.named
  have hlocks := B.notSynchronized
  have hiX3 : ∀ w ∈ wsX30, w ∈ vs_C_8_replays_0 := fun _ h => List.mem_cons_of_mem _ (cm_X3 h)
  have hiX8 : ∀ w ∈ wsX80, w ∈ vs_C_8_replays_0 := fun _ h => List.mem_cons_of_mem _ (cm_X8 h)
  have hD := hD0.self (sz := s.heap.size)
  generalize hAe : va_A ((xrp__w xa xtape (nI tp) rd au xdr hy g 0 tg sg 0 rm ti py bu sm (nI nc) 0 (nI ne) st0 q4 q5 q6 q7 q8 q9 q10 q11 q12 q13 q14 q15 q16 k_f4 f4 k_f5 (bN 7 q_f5) k_f6 (bN 7 q_f6) k_f7 f7 k_f8 (bN 4 q_f8) k_f9 (bN 2 q_f9) k_f10 f10 k_f11 f11 k_f12 f12 k_f13 f13 k_f14 f14 k_f15 f15 k_f16 f16 gz g1 g2 g3 g4 g5 (nI gc) (nI gfull) gx gway gav ggoal (nI gfound) 120 (nI gl) (nI gsz) g16 g17 k_fs2 fs2 k_fs3 fs3 k_fs4 fs4 r0 (nI ln) r2 r3 r4 r5 (nI nr) r7 r8 tz k_j0 (bN 13 q_j0) k_j2 j2 k_j3 (bN 120 q_j3) k_j4 (bN 120 q_j4) k_j5 j5 k_j7 (bN 120 q_j7) k_j8 j8 (nI on) (nI si) ti0 tm bh k_ftm ftm k_fbh fbh)) s.heap.size = A at hD ⊢
  have hA : ∀ q : Nat, s.heap.size ≤ q → A q := fun q h => by rw [← hAe]; exact Or.inr h
  have hS : va_S A s.heap s.heap [] := va_S.rf
  have hl := lv_entry ([.ref xa, .int p0]) (n := 3) (Nat.le_of_ble_eq_true rfl)
  rw [lg_entry_eq]
  generalize (lg_sl ([.ref xa, .int p0]) ++ List.replicate (3 - (lg_sl ([.ref xa, .int p0])).length) Slot.unset).toArray = ls at hl ⊢
  have hl : lv_has ls 3 [(0, .ref xa), (1, .int p0)] := hl
  refine lv_aload_n hx hb eX8_replays_0 rfl (lv_at hl 0 rfl) ?_
  refine va_get (D := (dC, dI)) (ci := 8) (v := .ref py) (C := RX8) (T := TX8) (N := 16) hx hb hts hiX8 hown hK hP 0 rfl rfl 13 (by decide) v_1 (fun _ h9 => h9) rfl eX8_replays_1 ?_
  refine lv_iconst (v := 0) hx hb eX8_replays_4 (by decide) ?_
  refine va_put (D := (dC, dI)) (ci := 3) (v := .int 0) (ty := .boolean) (C := RX3) (T := TX3) (N := 5) hx hb hts hiX3 tyX3 tyX3_ok nmX3 hown hK hP hD hS 27 rfl rfl 0 (by decide) v_2 (fun _ h9 => h9) rfl (by decide +kernel) rfl rfl (Nat.le_of_ble_eq_true rfl) eX8_replays_5 (fun H locs hP hD hS => ?_)
  have hP : va_P (dC, dI) vwCl (xrp__w xa xtape (nI tp) rd au xdr hy g 0 tg sg 0 rm ti py bu sm (nI nc) 0 (nI ne) st0 q4 q5 q6 q7 q8 q9 q10 q11 q12 q13 q14 q15 q16 k_f4 f4 k_f5 (bN 7 q_f5) k_f6 (bN 7 q_f6) k_f7 f7 k_f8 (bN 4 q_f8) k_f9 (bN 2 q_f9) k_f10 f10 k_f11 f11 k_f12 f12 k_f13 f13 k_f14 f14 k_f15 f15 k_f16 f16 gz g1 g2 g3 g4 g5 (nI gc) (nI gfull) gx gway gav ggoal (nI gfound) 120 (nI gl) (nI gsz) g16 g17 k_fs2 fs2 k_fs3 fs3 k_fs4 fs4 r0 (nI ln) r2 r3 r4 r5 (nI nr) r7 r8 tz k_j0 (bN 13 q_j0) k_j2 j2 k_j3 (bN 120 q_j3) k_j4 (bN 120 q_j4) k_j5 j5 k_j7 (bN 120 q_j7) k_j8 j8 0 (nI si) ti0 tm bh k_ftm ftm k_fbh fbh) H := hP
  have hD : va_D A (xrp__w xa xtape (nI tp) rd au xdr hy g 0 tg sg 0 rm ti py bu sm (nI nc) 0 (nI ne) st0 q4 q5 q6 q7 q8 q9 q10 q11 q12 q13 q14 q15 q16 k_f4 f4 k_f5 (bN 7 q_f5) k_f6 (bN 7 q_f6) k_f7 f7 k_f8 (bN 4 q_f8) k_f9 (bN 2 q_f9) k_f10 f10 k_f11 f11 k_f12 f12 k_f13 f13 k_f14 f14 k_f15 f15 k_f16 f16 gz g1 g2 g3 g4 g5 (nI gc) (nI gfull) gx gway gav ggoal (nI gfound) 120 (nI gl) (nI gsz) g16 g17 k_fs2 fs2 k_fs3 fs3 k_fs4 fs4 r0 (nI ln) r2 r3 r4 r5 (nI nr) r7 r8 tz k_j0 (bN 13 q_j0) k_j2 j2 k_j3 (bN 120 q_j3) k_j4 (bN 120 q_j4) k_j5 j5 k_j7 (bN 120 q_j7) k_j8 j8 0 (nI si) ti0 tm bh k_ftm ftm k_fbh fbh) := hD
  refine lv_aload_n hx hb eX8_replays_8 rfl (lv_at hl 0 rfl) ?_
  refine lv_iload_n hx hb eX8_replays_9 rfl (lv_at hl 1 rfl) ?_
  have hPc : va_P (dC, dI) vwCl (xg0__w xa xtape (nI tp) rd au xdr hy g 0 tg sg 0 rm ti py bu sm gz g1 g2 g3 g4 g5 (nI gc) (nI gfull) gx gway gav ggoal (nI gfound) 120 (nI gl) (nI gsz) g16 g17) _ := hP.sub [0, 15] rfl
  have hDc := hD.sub (ws' := (xg0__w xa xtape (nI tp) rd au xdr hy g 0 tg sg 0 rm ti py bu sm gz g1 g2 g3 g4 g5 (nI gc) (nI gfull) gx gway gav ggoal (nI gfound) 120 (nI gl) (nI gsz) g16 g17)) [0, 15] (by decide) rfl
  have hKc : va_K (dC, dI) vwCl (xg0__t ) s := hK.sub [] rfl
  refine va_calli (va_runV (As := [.int p0]) (rest := []) ⟨hx, hb, hml, hown, hts⟩ (c_C_8_isState_0 l dC dI _ xa xtape tp rd au xdr hy g tg sg 0 rm ti py bu sm gz g1 g2 g3 g4 g5 gc gfull gx gway gav ggoal gfound gl gsz g16 g17 p0 htp (Nat.le_of_ble_eq_true rfl) hgc hgfull hgfound hgl hgsz) (cwV 1 hts g_C_8_replays_0_C_8_isState_0 rfl rfl rfl (by decide +kernel) ⟨Nat.le_of_ble_eq_true rfl, Nat.le_of_ble_eq_true rfl⟩) ⟨pu_bl, va_recv hK hP (ci := 8) (q0 := 0) rfl rfl, pu_in hPc hKc hDc⟩ rfl rfl hl.1 rfl (lv_room (Nat.le_of_ble_eq_true rfl)) eX8_replays_10 ⟨Nat.le_of_ble_eq_true rfl, Nat.le_of_ble_eq_true rfl⟩) hS (fun q _ h => pu_fr hS hA q h) (pu_fr hS hA) (fun r_1 u t H1 locs ht hvm hw hB hz1 hk1 hS => ?_)
  have hP := pu_keep hP hk1
  clear hk1 hz1 ht hvm
  generalize H1 = H at hP hS ⊢
  obtain rfl : r_1 = 0 := hw
  refine lv_if_eq (tgt := 38) hx hb eX8_replays_13 (by decide) (fun _ => ?_) (fun z => absurd z (by decide))
  refine lv_iconst (v := 0) hx hb eX8_replays_38 (by decide) ?_
  exact W.zret (v := 0) (ty := .boolean) hx hb hr (rfl) (fun t ht hW => ⟨⟨0, (), rfl, ⟨0, (Nat.le_of_ble_eq_true rfl), rfl⟩, ⟨0, ⟨by rw [ht]; exact hP, va_K.moved hW.alike hK, hD⟩, (Nat.le_of_ble_eq_true rfl)⟩⟩, hS.F ht⟩) hS.2.2 eX8_replays_39
theorem eX8_replays_16 : decode cX8_replays 16 = .ok (.aload_n 0, 1) := by decide +kernel
theorem eX8_replays_17 : decode cX8_replays 17 = .ok (.iload_n 1, 1) := by decide +kernel
theorem eX8_replays_18 : decode cX8_replays 18 = .ok (.invokevirtual 337, 3) := by decide +kernel
theorem eX8_replays_21 : decode cX8_replays 21 = .ok (.ifCond .eq 17, 3) := by decide +kernel
theorem eX8_replays_24 : decode cX8_replays 24 = .ok (.aload_n 0, 1) := by decide +kernel
theorem eX8_replays_25 : decode cX8_replays 25 = .ok (.getfield 69, 3) := by decide +kernel
theorem eX8_replays_28 : decode cX8_replays 28 = .ok (.aload_n 0, 1) := by decide +kernel
theorem eX8_replays_29 : decode cX8_replays 29 = .ok (.getfield 23, 3) := by decide +kernel
theorem eX8_replays_32 : decode cX8_replays 32 = .ok (.invokevirtual 361, 3) := by decide +kernel
theorem eX8_replays_35 : decode cX8_replays 35 = .ok (.ifCond .ne 5, 3) := by decide +kernel
theorem eX8_replays_40 : decode cX8_replays 40 = .ok (.iconst 0, 1) := by decide +kernel
theorem eX8_replays_41 : decode cX8_replays 41 = .ok (.istore_n 2, 1) := by decide +kernel
theorem eX8_replays_42 : decode cX8_replays 42 = .ok (.iload_n 2, 1) := by decide +kernel
theorem eX8_replays_43 : decode cX8_replays 43 = .ok (.aload_n 0, 1) := by decide +kernel
theorem eX8_replays_44 : decode cX8_replays 44 = .ok (.getfield 62, 3) := by decide +kernel
theorem eX8_replays_47 : decode cX8_replays 47 = .ok (.getfield 351, 3) := by decide +kernel
theorem eX8_replays_50 : decode cX8_replays 50 = .ok (.if_icmp .ge 67, 3) := by decide +kernel
theorem eX8_replays_53 : decode cX8_replays 53 = .ok (.aload_n 0, 1) := by decide +kernel
theorem eX8_replays_54 : decode cX8_replays 54 = .ok (.getfield 69, 3) := by decide +kernel
theorem eX8_replays_57 : decode cX8_replays 57 = .ok (.getfield 107, 3) := by decide +kernel
theorem eX8_replays_60 : decode cX8_replays 60 = .ok (.ifCond .eq 57, 3) := by decide +kernel
theorem eX8_replays_63 : decode cX8_replays 63 = .ok (.aload_n 0, 1) := by decide +kernel
theorem eX8_replays_64 : decode cX8_replays 64 = .ok (.getfield 69, 3) := by decide +kernel
theorem eX8_replays_67 : decode cX8_replays 67 = .ok (.aload_n 0, 1) := by decide +kernel
theorem eX8_replays_68 : decode cX8_replays 68 = .ok (.getfield 69, 3) := by decide +kernel
theorem eX8_replays_71 : decode cX8_replays 71 = .ok (.aload_n 0, 1) := by decide +kernel
theorem eX8_replays_72 : decode cX8_replays 72 = .ok (.getfield 23, 3) := by decide +kernel
theorem eX8_replays_75 : decode cX8_replays 75 = .ok (.aload_n 0, 1) := by decide +kernel
theorem eX8_replays_76 : decode cX8_replays 76 = .ok (.getfield 62, 3) := by decide +kernel
theorem eX8_replays_79 : decode cX8_replays 79 = .ok (.getfield 340, 3) := by decide +kernel
theorem eX8_replays_82 : decode cX8_replays 82 = .ok (.iload_n 2, 1) := by decide +kernel
theorem eX8_replays_83 : decode cX8_replays 83 = .ok (.iconst 1, 1) := by decide +kernel
theorem eX8_replays_84 : decode cX8_replays 84 = .ok (.iadd, 1) := by decide +kernel
theorem eX8_replays_85 : decode cX8_replays 85 = .ok (.iaload, 1) := by decide +kernel
theorem eX8_replays_86 : decode cX8_replays 86 = .ok (.aload_n 0, 1) := by decide +kernel
theorem eX8_replays_87 : decode cX8_replays 87 = .ok (.getfield 62, 3) := by decide +kernel
theorem eX8_replays_90 : decode cX8_replays 90 = .ok (.getfield 340, 3) := by decide +kernel
theorem eX8_replays_93 : decode cX8_replays 93 = .ok (.iload_n 2, 1) := by decide +kernel
theorem eX8_replays_94 : decode cX8_replays 94 = .ok (.iaload, 1) := by decide +kernel
theorem eX8_replays_95 : decode cX8_replays 95 = .ok (.isub, 1) := by decide +kernel
theorem eX8_replays_96 : decode cX8_replays 96 = .ok (.aload_n 0, 1) := by decide +kernel
theorem eX8_replays_97 : decode cX8_replays 97 = .ok (.getfield 62, 3) := by decide +kernel
theorem eX8_replays_100 : decode cX8_replays 100 = .ok (.getfield 327, 3) := by decide +kernel
theorem eX8_replays_103 : decode cX8_replays 103 = .ok (.iload_n 2, 1) := by decide +kernel
theorem eX8_replays_104 : decode cX8_replays 104 = .ok (.iaload, 1) := by decide +kernel
theorem eX8_replays_105 : decode cX8_replays 105 = .ok (.invokevirtual 394, 3) := by decide +kernel
theorem eX8_replays_108 : decode cX8_replays 108 = .ok (.putfield 107, 3) := by decide +kernel
theorem eX8_replays_111 : decode cX8_replays 111 = .ok (.iinc 2 1, 3) := by decide +kernel
theorem eX8_replays_114 : decode cX8_replays 114 = .ok (.goto (-72), 3) := by decide +kernel
theorem eX8_replays_117 : decode cX8_replays 117 = .ok (.aload_n 0, 1) := by decide +kernel
theorem eX8_replays_118 : decode cX8_replays 118 = .ok (.getfield 69, 3) := by decide +kernel
theorem eX8_replays_121 : decode cX8_replays 121 = .ok (.getfield 107, 3) := by decide +kernel
theorem eX8_replays_124 : decode cX8_replays 124 = .ok (.ireturn, 1) := by decide +kernel
abbrev vs_C_8_replays : List Cond := .code yX8_replays cX8_replays 3 (some .boolean) :: CM
theorem g_C_8_replays_C_8_isState : GoodIn vs_C_8_replays (wsV RX8 228 RX8 yX8_isState vs_C_8_isState) := cm_gV cm_537 cm_538 cm_539 cm_427 cm_530
theorem g_C_8_replays_C_8_timesRun : GoodIn vs_C_8_replays (wsV RX8 337 RX8 yX8_timesRun vs_C_8_timesRun) := cm_gV cm_618 cm_619 cm_620 cm_427 cm_609
theorem g_C_8_replays_C_3_startsIn : GoodIn vs_C_8_replays (wsV RX8 361 RX3 yX3_startsIn vs_C_3_startsIn) := cm_gV cm_643 cm_644 cm_645 cm_204 cm_170
theorem g_C_8_replays_C_3_goesBy : GoodIn vs_C_8_replays (wsV RX8 394 RX3 yX3_goesBy vs_C_3_goesBy) := cm_gV cm_658 cm_659 cm_660 cm_204 cm_205
set_option maxHeartbeats 4000000 in
set_option maxRecDepth 100000 in
theorem c_C_8_replays (l : Launch) (dC : Nat → ClassId) (dI : Nat → Nat → Nat) (sz : Nat) (xa : Nat) (xtape : Nat) (tp : Nat) (rd : Nat) (au : Nat) (xdr : Nat) (hy : Nat) (g : Nat) (hs : Nat) (tg : Nat) (sg : Nat) (ss : Nat) (rm : Nat) (ti : Nat) (py : Nat) (bu : Nat) (sm : Nat) (nc : Nat) (np : Nat) (ne : Nat) (st0 : Nat) (q4 : Nat) (q5 : Nat) (q6 : Nat) (q7 : Nat) (q8 : Nat) (q9 : Nat) (q10 : Nat) (q11 : Nat) (q12 : Nat) (q13 : Nat) (q14 : Nat) (q15 : Nat) (q16 : Nat) (k_f4 : ClassId) (f4 : Nat → Int32) (k_f5 : ClassId) (q_f5 : Nat → Nat) (k_f6 : ClassId) (q_f6 : Nat → Nat) (k_f7 : ClassId) (f7 : Nat → Int32) (k_f8 : ClassId) (q_f8 : Nat → Nat) (k_f9 : ClassId) (q_f9 : Nat → Nat) (k_f10 : ClassId) (f10 : Nat → Int32) (k_f11 : ClassId) (f11 : Nat → Int32) (k_f12 : ClassId) (f12 : Nat → Int32) (k_f13 : ClassId) (f13 : Nat → Int32) (k_f14 : ClassId) (f14 : Nat → Int32) (k_f15 : ClassId) (f15 : Nat → Int32) (k_f16 : ClassId) (f16 : Nat → Int32) (gz : Nat) (g1 : Nat) (g2 : Nat) (g3 : Nat) (g4 : Nat) (g5 : Nat) (gc : Nat) (gfull : Nat) (gx : Int32) (gway : Int32) (gav : Int32) (ggoal : Int32) (gfound : Nat) (gl : Nat) (gsz : Nat) (g16 : Nat) (g17 : Nat) (k_fs2 : ClassId) (fs2 : Nat → Int32) (k_fs3 : ClassId) (fs3 : Nat → Int32) (k_fs4 : ClassId) (fs4 : Nat → Int32) (r0 : Nat) (ln : Nat) (r2 : Nat) (r3 : Nat) (r4 : Nat) (r5 : Nat) (nr : Nat) (r7 : Nat) (r8 : Nat) (tz : Nat) (k_j0 : ClassId) (q_j0 : Nat → Nat) (k_j2 : ClassId) (j2 : Nat → Int32) (k_j3 : ClassId) (q_j3 : Nat → Nat) (k_j4 : ClassId) (q_j4 : Nat → Nat) (k_j5 : ClassId) (j5 : Nat → Int32) (k_j7 : ClassId) (q_j7 : Nat → Nat) (k_j8 : ClassId) (j8 : Nat → Int32) (on : Nat) (si : Nat) (ti0 : Int32) (tm : Nat) (bh : Nat) (k_ftm : ClassId) (ftm : Nat → Int32) (k_fbh : ClassId) (fbh : Nat → Int32) (p0 : Int32) (htp : tp ≤ 900) (hhs : hs ≤ 1) (hss : ss ≤ 1) (hnc : nc ≤ 3) (hnp : np ≤ 8) (hne : ne ≤ 14) (hst0 : st0 ≤ 7) (hgc : gc ≤ 120) (hgfull : gfull ≤ 1) (hgfound : gfound ≤ 1) (hgl : gl ≤ 1) (hgsz : gsz ≤ 4) (hln : ln ≤ 119) (hnr : nr ≤ 1920) (hon : on ≤ 1) (hsi : si ≤ 7) (hq0 : gz_ok gc fs2 fs3 fs4) : Met l yX8_replays vs_C_8_replays ({ frames := 4, cells := 0, slots := 0, locals := 95 }) (va_Pc [.ref xa, .int p0] (pu_B (dC, dI) (xrp__w xa xtape (nI tp) rd au xdr hy g (nI hs) tg sg (nI ss) rm ti py bu sm (nI nc) (nI np) (nI ne) (nI st0) q4 q5 q6 q7 q8 q9 q10 q11 q12 q13 q14 q15 q16 k_f4 f4 k_f5 (bN 7 q_f5) k_f6 (bN 7 q_f6) k_f7 f7 k_f8 (bN 4 q_f8) k_f9 (bN 2 q_f9) k_f10 f10 k_f11 f11 k_f12 f12 k_f13 f13 k_f14 f14 k_f15 f15 k_f16 f16 gz g1 g2 g3 g4 g5 (nI gc) (nI gfull) gx gway gav ggoal (nI gfound) 120 (nI gl) (nI gsz) g16 g17 k_fs2 fs2 k_fs3 fs3 k_fs4 fs4 r0 (nI ln) r2 r3 r4 r5 (nI nr) r7 r8 tz k_j0 (bN 13 q_j0) k_j2 j2 k_j3 (bN 120 q_j3) k_j4 (bN 120 q_j4) k_j5 j5 k_j7 (bN 120 q_j7) k_j8 j8 (nI on) (nI si) ti0 tm bh k_ftm ftm k_fbh fbh) (xrp__t k_f4 k_f5 k_f6 k_f7 k_f8 k_f9 k_f10 k_f11 k_f12 k_f13 k_f14 k_f15 k_f16 k_fs2 k_fs3 k_fs4 k_j0 k_j2 k_j3 k_j4 k_j5 k_j7 k_j8 k_ftm k_fbh) sz)) (va_Qi (fun (r : Int32) (_ : Unit) => ∃ v : Nat, v ≤ 1 ∧ r = nI v) (fun _ t => ∃ (z_j0 : Nat → Nat) (z_j2 : Nat → Int32) (z_j3 : Nat → Nat) (z_j4 : Nat → Nat) (z_j5 : Nat → Int32) (z_j7 : Nat → Nat) (z_ftm : Nat → Int32) (z_fbh : Nat → Int32) (z_ln : Nat) (z_nr : Nat) (z_on : Nat) (z_si : Nat) (z_ti0 : Int32), pu_E (dC, dI) (xrp__w xa xtape (nI tp) rd au xdr hy g (nI hs) tg sg (nI ss) rm ti py bu sm (nI nc) (nI np) (nI ne) (nI st0) q4 q5 q6 q7 q8 q9 q10 q11 q12 q13 q14 q15 q16 k_f4 f4 k_f5 (bN 7 q_f5) k_f6 (bN 7 q_f6) k_f7 f7 k_f8 (bN 4 q_f8) k_f9 (bN 2 q_f9) k_f10 f10 k_f11 f11 k_f12 f12 k_f13 f13 k_f14 f14 k_f15 f15 k_f16 f16 gz g1 g2 g3 g4 g5 (nI gc) (nI gfull) gx gway gav ggoal (nI gfound) 120 (nI gl) (nI gsz) g16 g17 k_fs2 fs2 k_fs3 fs3 k_fs4 fs4 r0 (nI z_ln) r2 r3 r4 r5 (nI z_nr) r7 r8 tz k_j0 (bN 13 z_j0) k_j2 z_j2 k_j3 (bN 120 z_j3) k_j4 (bN 120 z_j4) k_j5 z_j5 k_j7 (bN 120 z_j7) k_j8 j8 (nI z_on) (nI z_si) z_ti0 tm bh k_ftm z_ftm k_fbh z_fbh) (xrp__t k_f4 k_f5 k_f6 k_f7 k_f8 k_f9 k_f10 k_f11 k_f12 k_f13 k_f14 k_f15 k_f16 k_fs2 k_fs3 k_fs4 k_j0 k_j2 k_j3 k_j4 k_j5 k_j7 k_j8 k_ftm k_fbh) (va_A ((xrp__w xa xtape (nI tp) rd au xdr hy g (nI hs) tg sg (nI ss) rm ti py bu sm (nI nc) (nI np) (nI ne) (nI st0) q4 q5 q6 q7 q8 q9 q10 q11 q12 q13 q14 q15 q16 k_f4 f4 k_f5 (bN 7 q_f5) k_f6 (bN 7 q_f6) k_f7 f7 k_f8 (bN 4 q_f8) k_f9 (bN 2 q_f9) k_f10 f10 k_f11 f11 k_f12 f12 k_f13 f13 k_f14 f14 k_f15 f15 k_f16 f16 gz g1 g2 g3 g4 g5 (nI gc) (nI gfull) gx gway gav ggoal (nI gfound) 120 (nI gl) (nI gsz) g16 g17 k_fs2 fs2 k_fs3 fs3 k_fs4 fs4 r0 (nI ln) r2 r3 r4 r5 (nI nr) r7 r8 tz k_j0 (bN 13 q_j0) k_j2 j2 k_j3 (bN 120 q_j3) k_j4 (bN 120 q_j4) k_j5 j5 k_j7 (bN 120 q_j7) k_j8 j8 (nI on) (nI si) ti0 tm bh k_ftm ftm k_fbh fbh)) sz) t ∧ (z_ln ≤ 119) ∧ (z_nr ≤ 1920) ∧ (z_on ≤ 1) ∧ (z_si ≤ 7)) (va_A ((xrp__w xa xtape (nI tp) rd au xdr hy g (nI hs) tg sg (nI ss) rm ti py bu sm (nI nc) (nI np) (nI ne) (nI st0) q4 q5 q6 q7 q8 q9 q10 q11 q12 q13 q14 q15 q16 k_f4 f4 k_f5 (bN 7 q_f5) k_f6 (bN 7 q_f6) k_f7 f7 k_f8 (bN 4 q_f8) k_f9 (bN 2 q_f9) k_f10 f10 k_f11 f11 k_f12 f12 k_f13 f13 k_f14 f14 k_f15 f15 k_f16 f16 gz g1 g2 g3 g4 g5 (nI gc) (nI gfull) gx gway gav ggoal (nI gfound) 120 (nI gl) (nI gsz) g16 g17 k_fs2 fs2 k_fs3 fs3 k_fs4 fs4 r0 (nI ln) r2 r3 r4 r5 (nI nr) r7 r8 tz k_j0 (bN 13 q_j0) k_j2 j2 k_j3 (bN 120 q_j3) k_j4 (bN 120 q_j4) k_j5 j5 k_j7 (bN 120 q_j7) k_j8 j8 (nI on) (nI si) ti0 tm bh k_ftm ftm k_fbh fbh)) sz)) 0 0 (va_A ((xrp__w xa xtape (nI tp) rd au xdr hy g (nI hs) tg sg (nI ss) rm ti py bu sm (nI nc) (nI np) (nI ne) (nI st0) q4 q5 q6 q7 q8 q9 q10 q11 q12 q13 q14 q15 q16 k_f4 f4 k_f5 (bN 7 q_f5) k_f6 (bN 7 q_f6) k_f7 f7 k_f8 (bN 4 q_f8) k_f9 (bN 2 q_f9) k_f10 f10 k_f11 f11 k_f12 f12 k_f13 f13 k_f14 f14 k_f15 f15 k_f16 f16 gz g1 g2 g3 g4 g5 (nI gc) (nI gfull) gx gway gav ggoal (nI gfound) 120 (nI gl) (nI gsz) g16 g17 k_fs2 fs2 k_fs3 fs3 k_fs4 fs4 r0 (nI ln) r2 r3 r4 r5 (nI nr) r7 r8 tz k_j0 (bN 13 q_j0) k_j2 j2 k_j3 (bN 120 q_j3) k_j4 (bN 120 q_j4) k_j5 j5 k_j7 (bN 120 q_j7) k_j8 j8 (nI on) (nI si) ti0 tm bh k_ftm ftm k_fbh fbh)) sz) := by
  refine Met.ofW (cc := cX8_replays) (maxL := 3) (ret := (some .boolean)) (by decide) rfl ?_
  intro p e s m args below meth c s₁ B hml hv
  obtain ⟨rfl, rfl, hP, hK, hD0⟩ := hv
  have hx := B.exec
  have hb := B.bytes
  have hr := B.returns
  have hts := atoms_spec (ws := vs_C_8_replays) B.pre
  have v_1 := hts (.fieldLink RX8 69 "ClockReach" "play" "LClockReach$Play;") (List.mem_cons_of_mem _ cm_447)
  have v_2 := hts (.fieldLink RX8 107 "ClockReach$Play" "on" "Z") (List.mem_cons_of_mem _ cm_448)
  have v_12 := hts (.fieldLink RX8 23 "ClockReach" "model" "LClockReach$Automaton;") (List.mem_cons_of_mem _ cm_434)
  have v_18 := hts (.fieldLink RX8 62 "ClockReach" "timing" "LClockReach$Timing;") (List.mem_cons_of_mem _ cm_601)
  have v_19 := hts (.fieldLink RX8 351 "ClockReach$Timing" "length" "I") (List.mem_cons_of_mem _ cm_630)
  have v_20 := hts (.fieldLink RX8 340 "ClockReach$Timing" "at" "[I") (List.mem_cons_of_mem _ cm_617)
  have v_21 := hts (.fieldLink RX8 327 "ClockReach$Timing" "path" "[I") (List.mem_cons_of_mem _ cm_602)
  have hown : s.vm.findClass RX8 = some m.cls := findClass_of_methodNamed B.named
  have hlocks := B.notSynchronized
  have hiX3 : ∀ w ∈ wsX30, w ∈ vs_C_8_replays := fun _ h => List.mem_cons_of_mem _ (cm_X3 h)
  have hiX6 : ∀ w ∈ wsX60, w ∈ vs_C_8_replays := fun _ h => List.mem_cons_of_mem _ (cm_X6 h)
  have hiX8 : ∀ w ∈ wsX80, w ∈ vs_C_8_replays := fun _ h => List.mem_cons_of_mem _ (cm_X8 h)
  have hD := hD0.self (sz := s.heap.size)
  generalize hAe : va_A ((xrp__w xa xtape (nI tp) rd au xdr hy g (nI hs) tg sg (nI ss) rm ti py bu sm (nI nc) (nI np) (nI ne) (nI st0) q4 q5 q6 q7 q8 q9 q10 q11 q12 q13 q14 q15 q16 k_f4 f4 k_f5 (bN 7 q_f5) k_f6 (bN 7 q_f6) k_f7 f7 k_f8 (bN 4 q_f8) k_f9 (bN 2 q_f9) k_f10 f10 k_f11 f11 k_f12 f12 k_f13 f13 k_f14 f14 k_f15 f15 k_f16 f16 gz g1 g2 g3 g4 g5 (nI gc) (nI gfull) gx gway gav ggoal (nI gfound) 120 (nI gl) (nI gsz) g16 g17 k_fs2 fs2 k_fs3 fs3 k_fs4 fs4 r0 (nI ln) r2 r3 r4 r5 (nI nr) r7 r8 tz k_j0 (bN 13 q_j0) k_j2 j2 k_j3 (bN 120 q_j3) k_j4 (bN 120 q_j4) k_j5 j5 k_j7 (bN 120 q_j7) k_j8 j8 (nI on) (nI si) ti0 tm bh k_ftm ftm k_fbh fbh)) s.heap.size = A at hD ⊢
  have hA : ∀ q : Nat, s.heap.size ≤ q → A q := fun q h => by rw [← hAe]; exact Or.inr h
  have hS : va_S A s.heap s.heap [] := va_S.rf
  have hl := lv_entry ([.ref xa, .int p0]) (n := 3) (Nat.le_of_ble_eq_true rfl)
  rw [lg_entry_eq]
  generalize (lg_sl ([.ref xa, .int p0]) ++ List.replicate (3 - (lg_sl ([.ref xa, .int p0])).length) Slot.unset).toArray = ls at hl ⊢
  have hl : lv_has ls 3 [(0, .ref xa), (1, .int p0)] := hl
  refine lv_aload_n hx hb eX8_replays_0 rfl (lv_at hl 0 rfl) ?_
  refine va_get (D := (dC, dI)) (ci := 8) (v := .ref py) (C := RX8) (T := TX8) (N := 16) hx hb hts hiX8 hown hK hP 0 rfl rfl 13 (by decide) v_1 (fun _ h9 => h9) rfl eX8_replays_1 ?_
  refine lv_iconst (v := 0) hx hb eX8_replays_4 (by decide) ?_
  refine va_put (D := (dC, dI)) (ci := 3) (v := .int 0) (ty := .boolean) (C := RX3) (T := TX3) (N := 5) hx hb hts hiX3 tyX3 tyX3_ok nmX3 hown hK hP hD hS 27 rfl rfl 0 (by decide) v_2 (fun _ h9 => h9) rfl (by decide +kernel) rfl rfl (Nat.le_of_ble_eq_true rfl) eX8_replays_5 (fun H locs hP hD hS => ?_)
  have hP : va_P (dC, dI) vwCl (xrp__w xa xtape (nI tp) rd au xdr hy g (nI hs) tg sg (nI ss) rm ti py bu sm (nI nc) (nI np) (nI ne) (nI st0) q4 q5 q6 q7 q8 q9 q10 q11 q12 q13 q14 q15 q16 k_f4 f4 k_f5 (bN 7 q_f5) k_f6 (bN 7 q_f6) k_f7 f7 k_f8 (bN 4 q_f8) k_f9 (bN 2 q_f9) k_f10 f10 k_f11 f11 k_f12 f12 k_f13 f13 k_f14 f14 k_f15 f15 k_f16 f16 gz g1 g2 g3 g4 g5 (nI gc) (nI gfull) gx gway gav ggoal (nI gfound) 120 (nI gl) (nI gsz) g16 g17 k_fs2 fs2 k_fs3 fs3 k_fs4 fs4 r0 (nI ln) r2 r3 r4 r5 (nI nr) r7 r8 tz k_j0 (bN 13 q_j0) k_j2 j2 k_j3 (bN 120 q_j3) k_j4 (bN 120 q_j4) k_j5 j5 k_j7 (bN 120 q_j7) k_j8 j8 0 (nI si) ti0 tm bh k_ftm ftm k_fbh fbh) H := hP
  have hD : va_D A (xrp__w xa xtape (nI tp) rd au xdr hy g (nI hs) tg sg (nI ss) rm ti py bu sm (nI nc) (nI np) (nI ne) (nI st0) q4 q5 q6 q7 q8 q9 q10 q11 q12 q13 q14 q15 q16 k_f4 f4 k_f5 (bN 7 q_f5) k_f6 (bN 7 q_f6) k_f7 f7 k_f8 (bN 4 q_f8) k_f9 (bN 2 q_f9) k_f10 f10 k_f11 f11 k_f12 f12 k_f13 f13 k_f14 f14 k_f15 f15 k_f16 f16 gz g1 g2 g3 g4 g5 (nI gc) (nI gfull) gx gway gav ggoal (nI gfound) 120 (nI gl) (nI gsz) g16 g17 k_fs2 fs2 k_fs3 fs3 k_fs4 fs4 r0 (nI ln) r2 r3 r4 r5 (nI nr) r7 r8 tz k_j0 (bN 13 q_j0) k_j2 j2 k_j3 (bN 120 q_j3) k_j4 (bN 120 q_j4) k_j5 j5 k_j7 (bN 120 q_j7) k_j8 j8 0 (nI si) ti0 tm bh k_ftm ftm k_fbh fbh) := hD
  refine lv_aload_n hx hb eX8_replays_8 rfl (lv_at hl 0 rfl) ?_
  refine lv_iload_n hx hb eX8_replays_9 rfl (lv_at hl 1 rfl) ?_
  have hPc : va_P (dC, dI) vwCl (xg0__w xa xtape (nI tp) rd au xdr hy g (nI hs) tg sg (nI ss) rm ti py bu sm gz g1 g2 g3 g4 g5 (nI gc) (nI gfull) gx gway gav ggoal (nI gfound) 120 (nI gl) (nI gsz) g16 g17) _ := hP.sub [0, 15] rfl
  have hDc := hD.sub (ws' := (xg0__w xa xtape (nI tp) rd au xdr hy g (nI hs) tg sg (nI ss) rm ti py bu sm gz g1 g2 g3 g4 g5 (nI gc) (nI gfull) gx gway gav ggoal (nI gfound) 120 (nI gl) (nI gsz) g16 g17)) [0, 15] (by decide) rfl
  have hKc : va_K (dC, dI) vwCl (xg0__t ) s := hK.sub [] rfl
  refine va_calli (va_runV (As := [.int p0]) (rest := []) ⟨hx, hb, hml, hown, hts⟩ (c_C_8_isState l dC dI _ xa xtape tp rd au xdr hy g hs tg sg ss rm ti py bu sm gz g1 g2 g3 g4 g5 gc gfull gx gway gav ggoal gfound gl gsz g16 g17 p0 htp hhs hss hgc hgfull hgfound hgl hgsz) (cwV 1 hts g_C_8_replays_C_8_isState rfl rfl rfl (by decide +kernel) ⟨Nat.le_of_ble_eq_true rfl, Nat.le_of_ble_eq_true rfl⟩) ⟨pu_bl, va_recv hK hP (ci := 8) (q0 := 0) rfl rfl, pu_in hPc hKc hDc⟩ rfl rfl hl.1 rfl (lv_room (Nat.le_of_ble_eq_true rfl)) eX8_replays_10 ⟨Nat.le_of_ble_eq_true rfl, Nat.le_of_ble_eq_true rfl⟩) hS (fun q _ h => pu_fr hS hA q h) (pu_fr hS hA) (fun r_1 u t H1 locs ht hvm hw hB hz1 hk1 hS => ?_)
  have hP := pu_keep hP hk1
  clear hk1 hz1 ht hvm
  generalize H1 = H at hP hS ⊢
  rcases hw with ⟨rfl, hw⟩ | rfl
  · obtain ⟨n_2, hn_2, rfl⟩ := hw
    refine lv_if_eq (tgt := 38) hx hb eX8_replays_13 (by decide) (fun z => absurd z (by decide)) (fun _ => ?_)
    refine lv_aload_n hx hb eX8_replays_16 rfl (lv_at hl 0 rfl) ?_
    refine lv_iload_n hx hb eX8_replays_17 rfl (lv_at hl 1 rfl) ?_
    have hPc : va_P (dC, dI) vwCl (xti__w xa xtape (nI tp) rd au xdr hy g (nI hs) tg sg (nI ss) rm ti py bu sm (nI nc) (nI np) (nI ne) (nI st0) q4 q5 q6 q7 q8 q9 q10 q11 q12 q13 q14 q15 q16 k_f4 f4 k_f5 (bN 7 q_f5) k_f6 (bN 7 q_f6) k_f7 f7 k_f8 (bN 4 q_f8) k_f9 (bN 2 q_f9) k_f10 f10 k_f11 f11 k_f12 f12 k_f13 f13 k_f14 f14 k_f15 f15 k_f16 f16 gz g1 g2 g3 g4 g5 (nI gc) (nI gfull) gx gway gav ggoal (nI gfound) 120 (nI gl) (nI gsz) g16 g17 k_fs2 fs2 k_fs3 fs3 k_fs4 fs4 r0 (nI ln) r2 r3 r4 r5 (nI nr) r7 r8 tz k_j0 (bN 13 q_j0) k_j2 j2 k_j3 (bN 120 q_j3) k_j4 (bN 120 q_j4) k_j5 j5 k_j7 (bN 120 q_j7) k_j8 j8) _ := hP.sub [0, 1, 2, 3, 4, 5, 6, 7, 8, 9, 10, 11, 12, 13, 14, 15, 16, 17, 18, 19, 20, 21, 22, 23, 24, 25, 26] rfl
    have hDc := hD.sub (ws' := (xti__w xa xtape (nI tp) rd au xdr hy g (nI hs) tg sg (nI ss) rm ti py bu sm (nI nc) (nI np) (nI ne) (nI st0) q4 q5 q6 q7 q8 q9 q10 q11 q12 q13 q14 q15 q16 k_f4 f4 k_f5 (bN 7 q_f5) k_f6 (bN 7 q_f6) k_f7 f7 k_f8 (bN 4 q_f8) k_f9 (bN 2 q_f9) k_f10 f10 k_f11 f11 k_f12 f12 k_f13 f13 k_f14 f14 k_f15 f15 k_f16 f16 gz g1 g2 g3 g4 g5 (nI gc) (nI gfull) gx gway gav ggoal (nI gfound) 120 (nI gl) (nI gsz) g16 g17 k_fs2 fs2 k_fs3 fs3 k_fs4 fs4 r0 (nI ln) r2 r3 r4 r5 (nI nr) r7 r8 tz k_j0 (bN 13 q_j0) k_j2 j2 k_j3 (bN 120 q_j3) k_j4 (bN 120 q_j4) k_j5 j5 k_j7 (bN 120 q_j7) k_j8 j8)) [0, 1, 2, 3, 4, 5, 6, 7, 8, 9, 10, 11, 12, 13, 14, 15, 16, 17, 18, 19, 20, 21, 22, 23, 24, 25, 26] (by decide) rfl
    have hKc : va_K (dC, dI) vwCl (xti__t k_f4 k_f5 k_f6 k_f7 k_f8 k_f9 k_f10 k_f11 k_f12 k_f13 k_f14 k_f15 k_f16 k_fs2 k_fs3 k_fs4 k_j0 k_j2 k_j3 k_j4 k_j5 k_j7 k_j8) s := hK.sub [0, 1, 2, 3, 4, 5, 6, 7, 8, 9, 10, 11, 12, 13, 14, 15, 16, 17, 18, 19, 20, 21, 22] rfl
    have hFc := pu_free hDc hS hA
    refine va_calli (va_runV (As := [.int (nI n_2)]) (rest := []) ⟨hx, hb, hml, hown, hts⟩ (c_C_8_timesRun l dC dI _ xa xtape tp rd au xdr hy g hs tg sg ss rm ti py bu sm nc np ne st0 q4 q5 q6 q7 q8 q9 q10 q11 q12 q13 q14 q15 q16 k_f4 f4 k_f5 q_f5 k_f6 q_f6 k_f7 f7 k_f8 q_f8 k_f9 q_f9 k_f10 f10 k_f11 f11 k_f12 f12 k_f13 f13 k_f14 f14 k_f15 f15 k_f16 f16 gz g1 g2 g3 g4 g5 gc gfull gx gway gav ggoal gfound gl gsz g16 g17 k_fs2 fs2 k_fs3 fs3 k_fs4 fs4 r0 ln r2 r3 r4 r5 nr r7 r8 tz k_j0 q_j0 k_j2 j2 k_j3 q_j3 k_j4 q_j4 k_j5 j5 k_j7 q_j7 k_j8 j8 n_2 htp hhs hss hnc hnp hne hst0 hgc hgfull hgfound hgl hgsz hln hnr (by omega) (by assumption) (by omega)) (cwV 1 hts g_C_8_replays_C_8_timesRun rfl rfl rfl (by decide +kernel) ⟨Nat.le_of_ble_eq_true rfl, Nat.le_of_ble_eq_true rfl⟩) ⟨pu_bl, va_recv hK hP (ci := 8) (q0 := 0) rfl rfl, pu_in hPc hKc hDc⟩ rfl rfl hl.1 rfl (lv_room (Nat.le_of_ble_eq_true rfl)) eX8_replays_18 ⟨Nat.le_of_ble_eq_true rfl, Nat.le_of_ble_eq_true rfl⟩) hS (fun q _ h => hFc q h) hFc (fun r_3 u t H1 locs ht hvm hw hB hz1 hk1 hS => ?_)
    obtain ⟨z_j0_4, z_j2_5, z_j3_6, z_j4_7, z_j5_8, z_j7_9, z_ln_10, z_nr_11, ⟨hP1, -, hD1⟩, hz_ln_10, hz_nr_11⟩ := hB
    rw [ht] at hP1
    obtain ⟨hP, hD⟩ := pj_a (X := (xrp__w xa xtape (nI tp) rd au xdr hy g (nI hs) tg sg (nI ss) rm ti py bu sm (nI nc) (nI np) (nI ne) (nI st0) q4 q5 q6 q7 q8 q9 q10 q11 q12 q13 q14 q15 q16 k_f4 f4 k_f5 (bN 7 q_f5) k_f6 (bN 7 q_f6) k_f7 f7 k_f8 (bN 4 q_f8) k_f9 (bN 2 q_f9) k_f10 f10 k_f11 f11 k_f12 f12 k_f13 f13 k_f14 f14 k_f15 f15 k_f16 f16 gz g1 g2 g3 g4 g5 (nI gc) (nI gfull) gx gway gav ggoal (nI gfound) 120 (nI gl) (nI gsz) g16 g17 k_fs2 fs2 k_fs3 fs3 k_fs4 fs4 r0 (nI ln) r2 r3 r4 r5 (nI nr) r7 r8 tz k_j0 (bN 13 q_j0) k_j2 j2 k_j3 (bN 120 q_j3) k_j4 (bN 120 q_j4) k_j5 j5 k_j7 (bN 120 q_j7) k_j8 j8 0 (nI si) ti0 tm bh k_ftm ftm k_fbh fbh)) (X' := (xrp__w xa xtape (nI tp) rd au xdr hy g (nI hs) tg sg (nI ss) rm ti py bu sm (nI nc) (nI np) (nI ne) (nI st0) q4 q5 q6 q7 q8 q9 q10 q11 q12 q13 q14 q15 q16 k_f4 f4 k_f5 (bN 7 q_f5) k_f6 (bN 7 q_f6) k_f7 f7 k_f8 (bN 4 q_f8) k_f9 (bN 2 q_f9) k_f10 f10 k_f11 f11 k_f12 f12 k_f13 f13 k_f14 f14 k_f15 f15 k_f16 f16 gz g1 g2 g3 g4 g5 (nI gc) (nI gfull) gx gway gav ggoal (nI gfound) 120 (nI gl) (nI gsz) g16 g17 k_fs2 fs2 k_fs3 fs3 k_fs4 fs4 r0 (nI z_ln_10) r2 r3 r4 r5 (nI z_nr_11) r7 r8 tz k_j0 (bN 13 z_j0_4) k_j2 z_j2_5 k_j3 (bN 120 z_j3_6) k_j4 (bN 120 z_j4_7) k_j5 z_j5_8 k_j7 (bN 120 z_j7_9) k_j8 j8 0 (nI si) ti0 tm bh k_ftm ftm k_fbh fbh)) (wc := (xti__w xa xtape (nI tp) rd au xdr hy g (nI hs) tg sg (nI ss) rm ti py bu sm (nI nc) (nI np) (nI ne) (nI st0) q4 q5 q6 q7 q8 q9 q10 q11 q12 q13 q14 q15 q16 k_f4 f4 k_f5 (bN 7 q_f5) k_f6 (bN 7 q_f6) k_f7 f7 k_f8 (bN 4 q_f8) k_f9 (bN 2 q_f9) k_f10 f10 k_f11 f11 k_f12 f12 k_f13 f13 k_f14 f14 k_f15 f15 k_f16 f16 gz g1 g2 g3 g4 g5 (nI gc) (nI gfull) gx gway gav ggoal (nI gfound) 120 (nI gl) (nI gsz) g16 g17 k_fs2 fs2 k_fs3 fs3 k_fs4 fs4 r0 (nI ln) r2 r3 r4 r5 (nI nr) r7 r8 tz k_j0 (bN 13 q_j0) k_j2 j2 k_j3 (bN 120 q_j3) k_j4 (bN 120 q_j4) k_j5 j5 k_j7 (bN 120 q_j7) k_j8 j8)) (w1 := (xti__w xa xtape (nI tp) rd au xdr hy g (nI hs) tg sg (nI ss) rm ti py bu sm (nI nc) (nI np) (nI ne) (nI st0) q4 q5 q6 q7 q8 q9 q10 q11 q12 q13 q14 q15 q16 k_f4 f4 k_f5 (bN 7 q_f5) k_f6 (bN 7 q_f6) k_f7 f7 k_f8 (bN 4 q_f8) k_f9 (bN 2 q_f9) k_f10 f10 k_f11 f11 k_f12 f12 k_f13 f13 k_f14 f14 k_f15 f15 k_f16 f16 gz g1 g2 g3 g4 g5 (nI gc) (nI gfull) gx gway gav ggoal (nI gfound) 120 (nI gl) (nI gsz) g16 g17 k_fs2 fs2 k_fs3 fs3 k_fs4 fs4 r0 (nI z_ln_10) r2 r3 r4 r5 (nI z_nr_11) r7 r8 tz k_j0 (bN 13 z_j0_4) k_j2 z_j2_5 k_j3 (bN 120 z_j3_6) k_j4 (bN 120 z_j4_7) k_j5 z_j5_8 k_j7 (bN 120 z_j7_9) k_j8 j8)) hP hD [0, 1, 2, 3, 4, 5, 6, 7, 8, 9, 10, 11, 12, 13, 14, 15, 16, 17, 18, 19, 20, 21, 22, 23, 24, 25, 26] [0, 1, 2, 3, 4, 5, 6, 7, 8, 9, 10, 11, 12, 13, 14, 15, 16, 17, 18, 19, 20, 21, 22, 23, 24, 25, 26, 54, 55, 56] 27 rfl hk1 hP1 rfl rfl rfl (by decide)
    clear hP1 hD1 hFc hPc hDc hKc
    clear hk1 hz1 ht hvm
    generalize H1 = H at hP hS ⊢
    obtain ⟨u_12, hu_12, rfl⟩ := hw
    refine lv_if_eq (tgt := 38) hx hb eX8_replays_21 (by decide) (fun c_13 => ?_) (fun c_13 => ?_)
    · have c_13 : u_12 = 0 := (nI_eq (a := u_12) (b := 0) (Nat.lt_of_le_of_lt hu_12 (Nat.le_of_ble_eq_true rfl)) (Nat.le_of_ble_eq_true rfl)).mp c_13
      refine lv_iconst (v := 0) hx hb eX8_replays_38 (by decide) ?_
      exact W.zret (v := 0) (ty := .boolean) hx hb hr (rfl) (fun t ht hW => ⟨⟨0, (), rfl, ⟨0, (Nat.le_of_ble_eq_true rfl), rfl⟩, ⟨z_j0_4, z_j2_5, z_j3_6, z_j4_7, z_j5_8, z_j7_9, ftm, fbh, z_ln_10, z_nr_11, 0, si, ti0, ⟨by rw [ht]; exact hP, va_K.moved hW.alike hK, hD⟩, hz_ln_10, hz_nr_11, (Nat.le_of_ble_eq_true rfl), hsi⟩⟩, hS.F ht⟩) hS.2.2 eX8_replays_39
    · have c_13 : ¬ u_12 = 0 := fun z => c_13 ((nI_eq (a := u_12) (b := 0) (Nat.lt_of_le_of_lt hu_12 (Nat.le_of_ble_eq_true rfl)) (Nat.le_of_ble_eq_true rfl)).mpr z)
      refine lv_aload_n hx hb eX8_replays_24 rfl (lv_at hl 0 rfl) ?_
      refine va_get (D := (dC, dI)) (ci := 8) (v := .ref py) (C := RX8) (T := TX8) (N := 16) hx hb hts hiX8 hown hK hP 0 rfl rfl 13 (by decide) v_1 (fun _ h9 => h9) rfl eX8_replays_25 ?_
      refine lv_aload_n hx hb eX8_replays_28 rfl (lv_at hl 0 rfl) ?_
      refine va_get (D := (dC, dI)) (ci := 8) (v := .ref au) (C := RX8) (T := TX8) (N := 16) hx hb hts hiX8 hown hK hP 0 rfl rfl 3 (by decide) v_12 (fun _ h9 => h9) rfl eX8_replays_29 ?_
      have hPc : va_P (dC, dI) vwCl (pa__w py 0 (nI si) ti0 tm bh k_ftm ftm k_fbh fbh au (nI nc) (nI np) (nI ne) (nI st0) q4 q5 q6 q7 q8 q9 q10 q11 q12 q13 q14 q15 q16 k_f4 f4 k_f5 (bN 7 q_f5) k_f6 (bN 7 q_f6) k_f7 f7 k_f8 (bN 4 q_f8) k_f9 (bN 2 q_f9) k_f10 f10 k_f11 f11 k_f12 f12 k_f13 f13 k_f14 f14 k_f15 f15 k_f16 f16) _ := hP.sub [27, 28, 29, 1, 2, 3, 4, 5, 6, 7, 8, 9, 10, 11, 12, 13, 14] rfl
      have hDc := hD.sub (ws' := (pa__w py 0 (nI si) ti0 tm bh k_ftm ftm k_fbh fbh au (nI nc) (nI np) (nI ne) (nI st0) q4 q5 q6 q7 q8 q9 q10 q11 q12 q13 q14 q15 q16 k_f4 f4 k_f5 (bN 7 q_f5) k_f6 (bN 7 q_f6) k_f7 f7 k_f8 (bN 4 q_f8) k_f9 (bN 2 q_f9) k_f10 f10 k_f11 f11 k_f12 f12 k_f13 f13 k_f14 f14 k_f15 f15 k_f16 f16)) [27, 28, 29, 1, 2, 3, 4, 5, 6, 7, 8, 9, 10, 11, 12, 13, 14] (by decide) rfl
      have hKc : va_K (dC, dI) vwCl (pa__t k_ftm k_fbh k_f4 k_f5 k_f6 k_f7 k_f8 k_f9 k_f10 k_f11 k_f12 k_f13 k_f14 k_f15 k_f16) s := hK.sub [23, 24, 0, 1, 2, 3, 4, 5, 6, 7, 8, 9, 10, 11, 12] rfl
      have hFc := pu_free hDc hS hA
      refine va_calli (va_runV (As := [.ref au]) (rest := []) ⟨hx, hb, hml, hown, hts⟩ (c_C_3_startsIn l dC dI _ py 0 si ti0 tm bh k_ftm ftm k_fbh fbh au nc np ne st0 q4 q5 q6 q7 q8 q9 q10 q11 q12 q13 q14 q15 q16 k_f4 f4 k_f5 q_f5 k_f6 q_f6 k_f7 f7 k_f8 q_f8 k_f9 q_f9 k_f10 f10 k_f11 f11 k_f12 f12 k_f13 f13 k_f14 f14 k_f15 f15 k_f16 f16 (Nat.le_of_ble_eq_true rfl) hsi hnc hnp hne hst0) (cwV 1 hts g_C_8_replays_C_3_startsIn rfl rfl rfl (by decide +kernel) ⟨Nat.le_of_ble_eq_true rfl, Nat.le_of_ble_eq_true rfl⟩) ⟨pu_bl, va_recv hK hP (ci := 3) (q0 := 27) rfl rfl, pu_in hPc hKc hDc⟩ rfl rfl hl.1 rfl (lv_room (Nat.le_of_ble_eq_true rfl)) eX8_replays_32 ⟨Nat.le_of_ble_eq_true rfl, Nat.le_of_ble_eq_true rfl⟩) hS (fun q _ h => hFc q h) hFc (fun r_14 u t H1 locs ht hvm hw hB hz1 hk1 hS => ?_)
      obtain ⟨z_ftm_15, z_on_16, z_si_17, z_ti_18, ⟨hP1, -, hD1⟩, hz_on_16, hz_si_17⟩ := hB
      rw [ht] at hP1
      obtain ⟨hP, hD⟩ := pj_a (X := (xrp__w xa xtape (nI tp) rd au xdr hy g (nI hs) tg sg (nI ss) rm ti py bu sm (nI nc) (nI np) (nI ne) (nI st0) q4 q5 q6 q7 q8 q9 q10 q11 q12 q13 q14 q15 q16 k_f4 f4 k_f5 (bN 7 q_f5) k_f6 (bN 7 q_f6) k_f7 f7 k_f8 (bN 4 q_f8) k_f9 (bN 2 q_f9) k_f10 f10 k_f11 f11 k_f12 f12 k_f13 f13 k_f14 f14 k_f15 f15 k_f16 f16 gz g1 g2 g3 g4 g5 (nI gc) (nI gfull) gx gway gav ggoal (nI gfound) 120 (nI gl) (nI gsz) g16 g17 k_fs2 fs2 k_fs3 fs3 k_fs4 fs4 r0 (nI z_ln_10) r2 r3 r4 r5 (nI z_nr_11) r7 r8 tz k_j0 (bN 13 z_j0_4) k_j2 z_j2_5 k_j3 (bN 120 z_j3_6) k_j4 (bN 120 z_j4_7) k_j5 z_j5_8 k_j7 (bN 120 z_j7_9) k_j8 j8 0 (nI si) ti0 tm bh k_ftm ftm k_fbh fbh)) (X' := (xrp__w xa xtape (nI tp) rd au xdr hy g (nI hs) tg sg (nI ss) rm ti py bu sm (nI nc) (nI np) (nI ne) (nI st0) q4 q5 q6 q7 q8 q9 q10 q11 q12 q13 q14 q15 q16 k_f4 f4 k_f5 (bN 7 q_f5) k_f6 (bN 7 q_f6) k_f7 f7 k_f8 (bN 4 q_f8) k_f9 (bN 2 q_f9) k_f10 f10 k_f11 f11 k_f12 f12 k_f13 f13 k_f14 f14 k_f15 f15 k_f16 f16 gz g1 g2 g3 g4 g5 (nI gc) (nI gfull) gx gway gav ggoal (nI gfound) 120 (nI gl) (nI gsz) g16 g17 k_fs2 fs2 k_fs3 fs3 k_fs4 fs4 r0 (nI z_ln_10) r2 r3 r4 r5 (nI z_nr_11) r7 r8 tz k_j0 (bN 13 z_j0_4) k_j2 z_j2_5 k_j3 (bN 120 z_j3_6) k_j4 (bN 120 z_j4_7) k_j5 z_j5_8 k_j7 (bN 120 z_j7_9) k_j8 j8 (nI z_on_16) (nI z_si_17) z_ti_18 tm bh k_ftm z_ftm_15 k_fbh fbh)) (wc := (pa__w py 0 (nI si) ti0 tm bh k_ftm ftm k_fbh fbh au (nI nc) (nI np) (nI ne) (nI st0) q4 q5 q6 q7 q8 q9 q10 q11 q12 q13 q14 q15 q16 k_f4 f4 k_f5 (bN 7 q_f5) k_f6 (bN 7 q_f6) k_f7 f7 k_f8 (bN 4 q_f8) k_f9 (bN 2 q_f9) k_f10 f10 k_f11 f11 k_f12 f12 k_f13 f13 k_f14 f14 k_f15 f15 k_f16 f16)) (w1 := (pa__w py (nI z_on_16) (nI z_si_17) z_ti_18 tm bh k_ftm z_ftm_15 k_fbh fbh au (nI nc) (nI np) (nI ne) (nI st0) q4 q5 q6 q7 q8 q9 q10 q11 q12 q13 q14 q15 q16 k_f4 f4 k_f5 (bN 7 q_f5) k_f6 (bN 7 q_f6) k_f7 f7 k_f8 (bN 4 q_f8) k_f9 (bN 2 q_f9) k_f10 f10 k_f11 f11 k_f12 f12 k_f13 f13 k_f14 f14 k_f15 f15 k_f16 f16)) hP hD [27, 28, 29, 1, 2, 3, 4, 5, 6, 7, 8, 9, 10, 11, 12, 13, 14] [17, 3, 4, 5, 6, 7, 8, 9, 10, 11, 12, 13, 14, 15, 16, 32, 33, 34, 35, 36, 37, 38, 39, 40, 41, 42, 43, 0, 1, 2] 17 rfl hk1 hP1 rfl rfl rfl (by decide)
      clear hP1 hD1 hFc hPc hDc hKc
      clear hk1 hz1 ht hvm
      generalize H1 = H at hP hS ⊢
      obtain ⟨u_19, hu_19, rfl⟩ := hw
      refine lv_if_ne (tgt := 40) hx hb eX8_replays_35 (by decide) (fun c_20 => ?_) (fun c_20 => ?_)
      · have c_20 : ¬ u_19 = 0 := fun z => c_20 ((nI_eq (a := u_19) (b := 0) (Nat.lt_of_le_of_lt hu_19 (Nat.le_of_ble_eq_true rfl)) (Nat.le_of_ble_eq_true rfl)).mpr z)
        refine lv_iconst (v := 0) hx hb eX8_replays_40 (by decide) ?_
        refine lv_istore_n (lv' := [(2, .int 0), (0, .ref xa), (1, .int (nI n_2))]) hx hb eX8_replays_41 rfl hl (by decide) rfl (fun ls hl => ?_)
        refine pu_while (fun nn H locs ls => ∃ (g_27 : Nat → Int32) (g_28 : Nat → Int32) (g_29 : Nat) (g_30 : Nat) (g_31 : Int32) (g_32 : Nat), nn = 119 - g_32 ∧ g_29 ≤ 1 ∧ g_30 ≤ 7 ∧ g_32 ≤ 119 ∧ va_P (dC, dI) vwCl (xrp__w xa xtape (nI tp) rd au xdr hy g (nI hs) tg sg (nI ss) rm ti py bu sm (nI nc) (nI np) (nI ne) (nI st0) q4 q5 q6 q7 q8 q9 q10 q11 q12 q13 q14 q15 q16 k_f4 f4 k_f5 (bN 7 q_f5) k_f6 (bN 7 q_f6) k_f7 f7 k_f8 (bN 4 q_f8) k_f9 (bN 2 q_f9) k_f10 f10 k_f11 f11 k_f12 f12 k_f13 f13 k_f14 f14 k_f15 f15 k_f16 f16 gz g1 g2 g3 g4 g5 (nI gc) (nI gfull) gx gway gav ggoal (nI gfound) 120 (nI gl) (nI gsz) g16 g17 k_fs2 fs2 k_fs3 fs3 k_fs4 fs4 r0 (nI z_ln_10) r2 r3 r4 r5 (nI z_nr_11) r7 r8 tz k_j0 (bN 13 z_j0_4) k_j2 z_j2_5 k_j3 (bN 120 z_j3_6) k_j4 (bN 120 z_j4_7) k_j5 z_j5_8 k_j7 (bN 120 z_j7_9) k_j8 j8 (nI g_29) (nI g_30) g_31 tm bh k_ftm g_27 k_fbh g_28) H ∧ va_D A (xrp__w xa xtape (nI tp) rd au xdr hy g (nI hs) tg sg (nI ss) rm ti py bu sm (nI nc) (nI np) (nI ne) (nI st0) q4 q5 q6 q7 q8 q9 q10 q11 q12 q13 q14 q15 q16 k_f4 f4 k_f5 (bN 7 q_f5) k_f6 (bN 7 q_f6) k_f7 f7 k_f8 (bN 4 q_f8) k_f9 (bN 2 q_f9) k_f10 f10 k_f11 f11 k_f12 f12 k_f13 f13 k_f14 f14 k_f15 f15 k_f16 f16 gz g1 g2 g3 g4 g5 (nI gc) (nI gfull) gx gway gav ggoal (nI gfound) 120 (nI gl) (nI gsz) g16 g17 k_fs2 fs2 k_fs3 fs3 k_fs4 fs4 r0 (nI z_ln_10) r2 r3 r4 r5 (nI z_nr_11) r7 r8 tz k_j0 (bN 13 z_j0_4) k_j2 z_j2_5 k_j3 (bN 120 z_j3_6) k_j4 (bN 120 z_j4_7) k_j5 z_j5_8 k_j7 (bN 120 z_j7_9) k_j8 j8 (nI g_29) (nI g_30) g_31 tm bh k_ftm g_27 k_fbh g_28) ∧ va_S A s.heap H locs ∧ lv_has ls 3 [(0, .ref xa), (1, .int (nI n_2)), (2, .int (nI g_32))]) 42 ?_ _ _ _ _ ⟨z_ftm_15, fbh, z_on_16, z_si_17, z_ti_18, 0, rfl, hz_on_16, hz_si_17, (Nat.le_of_ble_eq_true rfl), hP, hD, hS, lv_sub hl [1, 2, 0] rfl⟩
        rintro nn ih_33 H locs ls ⟨g_27, g_28, g_29, g_30, g_31, g_32, rfl, hg_29, hg_30, hg_32, hP, hD, hS, hl⟩
        refine lv_iload_n hx hb eX8_replays_42 rfl (lv_at hl 2 rfl) ?_
        refine lv_aload_n hx hb eX8_replays_43 rfl (lv_at hl 0 rfl) ?_
        refine va_get (D := (dC, dI)) (ci := 8) (v := .ref ti) (C := RX8) (T := TX8) (N := 16) hx hb hts hiX8 hown hK hP 0 rfl rfl 12 (by decide) v_18 (fun _ h9 => h9) rfl eX8_replays_44 ?_
        refine va_get (D := (dC, dI)) (ci := 6) (v := .int (nI z_ln_10)) (C := RX6) (T := TX6) (N := 10) hx hb hts hiX6 hown hK hP 19 rfl rfl 1 (by decide) v_19 (fun _ h9 => h9) rfl eX8_replays_47 ?_
        refine lv_icmp_ge (tgt := 117) hx hb eX8_replays_50 (by decide) (fun c_34 => ?_) (fun c_34 => ?_)
        · have c_34 : z_ln_10 ≤ g_32 := (nI_leI (a := z_ln_10) (b := g_32) (Nat.lt_of_le_of_lt hz_ln_10 (Nat.le_of_ble_eq_true rfl)) (Nat.lt_of_le_of_lt hg_32 (Nat.le_of_ble_eq_true rfl))).mp c_34
          refine lv_aload_n hx hb eX8_replays_117 rfl (lv_at hl 0 rfl) ?_
          refine va_get (D := (dC, dI)) (ci := 8) (v := .ref py) (C := RX8) (T := TX8) (N := 16) hx hb hts hiX8 hown hK hP 0 rfl rfl 13 (by decide) v_1 (fun _ h9 => h9) rfl eX8_replays_118 ?_
          refine va_get (D := (dC, dI)) (ci := 3) (v := .int (nI g_29)) (C := RX3) (T := TX3) (N := 5) hx hb hts hiX3 hown hK hP 27 rfl rfl 0 (by decide) v_2 (fun _ h9 => h9) rfl eX8_replays_121 ?_
          exact W.zret (v := (nI g_29)) (ty := .boolean) hx hb hr (pu_nz (pu_b1 (n := g_29) (by omega))) (fun t ht hW => ⟨⟨(nI g_29), (), rfl, ⟨g_29, hg_29, rfl⟩, ⟨z_j0_4, z_j2_5, z_j3_6, z_j4_7, z_j5_8, z_j7_9, g_27, g_28, z_ln_10, z_nr_11, g_29, g_30, g_31, ⟨by rw [ht]; exact hP, va_K.moved hW.alike hK, hD⟩, hz_ln_10, hz_nr_11, hg_29, hg_30⟩⟩, hS.F ht⟩) hS.2.2 eX8_replays_124
        · have c_34 : ¬ z_ln_10 ≤ g_32 := fun z => c_34 ((nI_leI (a := z_ln_10) (b := g_32) (Nat.lt_of_le_of_lt hz_ln_10 (Nat.le_of_ble_eq_true rfl)) (Nat.lt_of_le_of_lt hg_32 (Nat.le_of_ble_eq_true rfl))).mpr z)
          refine lv_aload_n hx hb eX8_replays_53 rfl (lv_at hl 0 rfl) ?_
          refine va_get (D := (dC, dI)) (ci := 8) (v := .ref py) (C := RX8) (T := TX8) (N := 16) hx hb hts hiX8 hown hK hP 0 rfl rfl 13 (by decide) v_1 (fun _ h9 => h9) rfl eX8_replays_54 ?_
          refine va_get (D := (dC, dI)) (ci := 3) (v := .int (nI g_29)) (C := RX3) (T := TX3) (N := 5) hx hb hts hiX3 hown hK hP 27 rfl rfl 0 (by decide) v_2 (fun _ h9 => h9) rfl eX8_replays_57 ?_
          refine lv_if_eq (tgt := 117) hx hb eX8_replays_60 (by decide) (fun c_35 => ?_) (fun c_35 => ?_)
          · have c_35 : g_29 = 0 := (nI_eq (a := g_29) (b := 0) (Nat.lt_of_le_of_lt hg_29 (Nat.le_of_ble_eq_true rfl)) (Nat.le_of_ble_eq_true rfl)).mp c_35
            refine lv_aload_n hx hb eX8_replays_117 rfl (lv_at hl 0 rfl) ?_
            refine va_get (D := (dC, dI)) (ci := 8) (v := .ref py) (C := RX8) (T := TX8) (N := 16) hx hb hts hiX8 hown hK hP 0 rfl rfl 13 (by decide) v_1 (fun _ h9 => h9) rfl eX8_replays_118 ?_
            refine va_get (D := (dC, dI)) (ci := 3) (v := .int (nI g_29)) (C := RX3) (T := TX3) (N := 5) hx hb hts hiX3 hown hK hP 27 rfl rfl 0 (by decide) v_2 (fun _ h9 => h9) rfl eX8_replays_121 ?_
            exact W.zret (v := (nI g_29)) (ty := .boolean) hx hb hr (pu_nz (pu_b1 (n := g_29) (by omega))) (fun t ht hW => ⟨⟨(nI g_29), (), rfl, ⟨g_29, hg_29, rfl⟩, ⟨z_j0_4, z_j2_5, z_j3_6, z_j4_7, z_j5_8, z_j7_9, g_27, g_28, z_ln_10, z_nr_11, g_29, g_30, g_31, ⟨by rw [ht]; exact hP, va_K.moved hW.alike hK, hD⟩, hz_ln_10, hz_nr_11, hg_29, hg_30⟩⟩, hS.F ht⟩) hS.2.2 eX8_replays_124
          · have c_35 : ¬ g_29 = 0 := fun z => c_35 ((nI_eq (a := g_29) (b := 0) (Nat.lt_of_le_of_lt hg_29 (Nat.le_of_ble_eq_true rfl)) (Nat.le_of_ble_eq_true rfl)).mpr z)
            refine lv_aload_n hx hb eX8_replays_63 rfl (lv_at hl 0 rfl) ?_
            refine va_get (D := (dC, dI)) (ci := 8) (v := .ref py) (C := RX8) (T := TX8) (N := 16) hx hb hts hiX8 hown hK hP 0 rfl rfl 13 (by decide) v_1 (fun _ h9 => h9) rfl eX8_replays_64 ?_
            refine lv_aload_n hx hb eX8_replays_67 rfl (lv_at hl 0 rfl) ?_
            refine va_get (D := (dC, dI)) (ci := 8) (v := .ref py) (C := RX8) (T := TX8) (N := 16) hx hb hts hiX8 hown hK hP 0 rfl rfl 13 (by decide) v_1 (fun _ h9 => h9) rfl eX8_replays_68 ?_
            refine lv_aload_n hx hb eX8_replays_71 rfl (lv_at hl 0 rfl) ?_
            refine va_get (D := (dC, dI)) (ci := 8) (v := .ref au) (C := RX8) (T := TX8) (N := 16) hx hb hts hiX8 hown hK hP 0 rfl rfl 3 (by decide) v_12 (fun _ h9 => h9) rfl eX8_replays_72 ?_
            refine lv_aload_n hx hb eX8_replays_75 rfl (lv_at hl 0 rfl) ?_
            refine va_get (D := (dC, dI)) (ci := 8) (v := .ref ti) (C := RX8) (T := TX8) (N := 16) hx hb hts hiX8 hown hK hP 0 rfl rfl 12 (by decide) v_18 (fun _ h9 => h9) rfl eX8_replays_76 ?_
            refine va_get (D := (dC, dI)) (ci := 6) (v := .ref r2) (C := RX6) (T := TX6) (N := 10) hx hb hts hiX6 hown hK hP 19 rfl rfl 2 (by decide) v_20 (fun _ h9 => h9) rfl eX8_replays_79 ?_
            refine lv_iload_n hx hb eX8_replays_82 rfl (lv_at hl 2 rfl) ?_
            refine lv_iconst (v := 1) hx hb eX8_replays_83 (by decide) ?_
            refine lv_iadd hx hb eX8_replays_84 ?_
            refine lv_topi (fun y_36 ey_36 => ?_)
            obtain rfl : y_36 = (nI (g_32 + 1)) := ey_36.trans (nI_add g_32 1)
            refine va_iald hx hb hK hP 21 17 rfl rfl (vp_in_nI (n := (g_32 + 1)) (by omega) (Nat.le_of_ble_eq_true rfl)) eX8_replays_85 ?_
            refine lv_topi (fun y_37 ey_37 => ?_)
            refine lv_aload_n hx hb eX8_replays_86 rfl (lv_at hl 0 rfl) ?_
            refine va_get (D := (dC, dI)) (ci := 8) (v := .ref ti) (C := RX8) (T := TX8) (N := 16) hx hb hts hiX8 hown hK hP 0 rfl rfl 12 (by decide) v_18 (fun _ h9 => h9) rfl eX8_replays_87 ?_
            refine va_get (D := (dC, dI)) (ci := 6) (v := .ref r2) (C := RX6) (T := TX6) (N := 10) hx hb hts hiX6 hown hK hP 19 rfl rfl 2 (by decide) v_20 (fun _ h9 => h9) rfl eX8_replays_90 ?_
            refine lv_iload_n hx hb eX8_replays_93 rfl (lv_at hl 2 rfl) ?_
            refine va_iald hx hb hK hP 21 17 rfl rfl (vp_in_nI (n := g_32) (Nat.lt_of_le_of_lt hg_32 (Nat.le_of_ble_eq_true rfl)) (Nat.le_of_ble_eq_true rfl)) eX8_replays_94 ?_
            refine lv_topi (fun y_38 ey_38 => ?_)
            refine lv_isub hx hb eX8_replays_95 ?_
            refine lv_topi (fun y_39 ey_39 => ?_)
            refine lv_aload_n hx hb eX8_replays_96 rfl (lv_at hl 0 rfl) ?_
            refine va_get (D := (dC, dI)) (ci := 8) (v := .ref ti) (C := RX8) (T := TX8) (N := 16) hx hb hts hiX8 hown hK hP 0 rfl rfl 12 (by decide) v_18 (fun _ h9 => h9) rfl eX8_replays_97 ?_
            refine va_get (D := (dC, dI)) (ci := 6) (v := .ref r0) (C := RX6) (T := TX6) (N := 10) hx hb hts hiX6 hown hK hP 19 rfl rfl 0 (by decide) v_21 (fun _ h9 => h9) rfl eX8_replays_100 ?_
            refine lv_iload_n hx hb eX8_replays_103 rfl (lv_at hl 2 rfl) ?_
            refine va_iald hx hb hK hP 20 16 rfl rfl (vp_in_nI (n := g_32) (Nat.lt_of_le_of_lt hg_32 (Nat.le_of_ble_eq_true rfl)) (Nat.le_of_ble_eq_true rfl)) eX8_replays_104 ?_
            refine lv_topi (fun y_40 ey_40 => ?_)
            obtain ⟨u_41, hu_41, qu_41⟩ := bN_get 13 z_j0_4 (((nI g_32) : Int32).toNatClampNeg)
            obtain rfl : y_40 = nI u_41 := ey_40.trans qu_41
            have hPc : va_P (dC, dI) vwCl (pa__w py (nI g_29) (nI g_30) g_31 tm bh k_ftm g_27 k_fbh g_28 au (nI nc) (nI np) (nI ne) (nI st0) q4 q5 q6 q7 q8 q9 q10 q11 q12 q13 q14 q15 q16 k_f4 f4 k_f5 (bN 7 q_f5) k_f6 (bN 7 q_f6) k_f7 f7 k_f8 (bN 4 q_f8) k_f9 (bN 2 q_f9) k_f10 f10 k_f11 f11 k_f12 f12 k_f13 f13 k_f14 f14 k_f15 f15 k_f16 f16) _ := hP.sub [27, 28, 29, 1, 2, 3, 4, 5, 6, 7, 8, 9, 10, 11, 12, 13, 14] rfl
            have hDc := hD.sub (ws' := (pa__w py (nI g_29) (nI g_30) g_31 tm bh k_ftm g_27 k_fbh g_28 au (nI nc) (nI np) (nI ne) (nI st0) q4 q5 q6 q7 q8 q9 q10 q11 q12 q13 q14 q15 q16 k_f4 f4 k_f5 (bN 7 q_f5) k_f6 (bN 7 q_f6) k_f7 f7 k_f8 (bN 4 q_f8) k_f9 (bN 2 q_f9) k_f10 f10 k_f11 f11 k_f12 f12 k_f13 f13 k_f14 f14 k_f15 f15 k_f16 f16)) [27, 28, 29, 1, 2, 3, 4, 5, 6, 7, 8, 9, 10, 11, 12, 13, 14] (by decide) rfl
            have hKc : va_K (dC, dI) vwCl (pa__t k_ftm k_fbh k_f4 k_f5 k_f6 k_f7 k_f8 k_f9 k_f10 k_f11 k_f12 k_f13 k_f14 k_f15 k_f16) s := hK.sub [23, 24, 0, 1, 2, 3, 4, 5, 6, 7, 8, 9, 10, 11, 12] rfl
            have hFc := pu_free hDc hS hA
            refine va_calli (va_runV (As := [.ref au, .int y_39, .int (nI u_41)]) (rest := [.ref py]) ⟨hx, hb, hml, hown, hts⟩ (c_C_3_goesBy l dC dI _ py g_29 g_30 g_31 tm bh k_ftm g_27 k_fbh g_28 au nc np ne (nI st0) q4 q5 q6 q7 q8 q9 q10 q11 q12 q13 q14 q15 q16 k_f4 f4 k_f5 q_f5 k_f6 q_f6 k_f7 f7 k_f8 q_f8 k_f9 q_f9 k_f10 f10 k_f11 f11 k_f12 f12 k_f13 f13 k_f14 f14 k_f15 f15 k_f16 f16 y_39 u_41 hg_29 hg_30 hnc hnp hne (Or.inr ⟨st0, hst0, rfl⟩) hu_41) (cwV 3 hts g_C_8_replays_C_3_goesBy rfl rfl rfl (by decide +kernel) ⟨Nat.le_of_ble_eq_true rfl, Nat.le_of_ble_eq_true rfl⟩) ⟨pu_bl, va_recv hK hP (ci := 3) (q0 := 27) rfl rfl, pu_in hPc hKc hDc⟩ rfl rfl hl.1 rfl (lv_room (Nat.le_of_ble_eq_true rfl)) eX8_replays_105 ⟨Nat.le_of_ble_eq_true rfl, Nat.le_of_ble_eq_true rfl⟩) hS (fun q _ h => hFc q h) hFc (fun r_42 u t H1 locs ht hvm hw hB hz1 hk1 hS => ?_)
            obtain ⟨z_ftm_43, z_fbh_44, z_si_45, z_ti_46, ⟨hP1, -, hD1⟩, hz_si_45⟩ := hB
            rw [ht] at hP1
            obtain ⟨hP, hD⟩ := pj_a (X := (xrp__w xa xtape (nI tp) rd au xdr hy g (nI hs) tg sg (nI ss) rm ti py bu sm (nI nc) (nI np) (nI ne) (nI st0) q4 q5 q6 q7 q8 q9 q10 q11 q12 q13 q14 q15 q16 k_f4 f4 k_f5 (bN 7 q_f5) k_f6 (bN 7 q_f6) k_f7 f7 k_f8 (bN 4 q_f8) k_f9 (bN 2 q_f9) k_f10 f10 k_f11 f11 k_f12 f12 k_f13 f13 k_f14 f14 k_f15 f15 k_f16 f16 gz g1 g2 g3 g4 g5 (nI gc) (nI gfull) gx gway gav ggoal (nI gfound) 120 (nI gl) (nI gsz) g16 g17 k_fs2 fs2 k_fs3 fs3 k_fs4 fs4 r0 (nI z_ln_10) r2 r3 r4 r5 (nI z_nr_11) r7 r8 tz k_j0 (bN 13 z_j0_4) k_j2 z_j2_5 k_j3 (bN 120 z_j3_6) k_j4 (bN 120 z_j4_7) k_j5 z_j5_8 k_j7 (bN 120 z_j7_9) k_j8 j8 (nI g_29) (nI g_30) g_31 tm bh k_ftm g_27 k_fbh g_28)) (X' := (xrp__w xa xtape (nI tp) rd au xdr hy g (nI hs) tg sg (nI ss) rm ti py bu sm (nI nc) (nI np) (nI ne) (nI st0) q4 q5 q6 q7 q8 q9 q10 q11 q12 q13 q14 q15 q16 k_f4 f4 k_f5 (bN 7 q_f5) k_f6 (bN 7 q_f6) k_f7 f7 k_f8 (bN 4 q_f8) k_f9 (bN 2 q_f9) k_f10 f10 k_f11 f11 k_f12 f12 k_f13 f13 k_f14 f14 k_f15 f15 k_f16 f16 gz g1 g2 g3 g4 g5 (nI gc) (nI gfull) gx gway gav ggoal (nI gfound) 120 (nI gl) (nI gsz) g16 g17 k_fs2 fs2 k_fs3 fs3 k_fs4 fs4 r0 (nI z_ln_10) r2 r3 r4 r5 (nI z_nr_11) r7 r8 tz k_j0 (bN 13 z_j0_4) k_j2 z_j2_5 k_j3 (bN 120 z_j3_6) k_j4 (bN 120 z_j4_7) k_j5 z_j5_8 k_j7 (bN 120 z_j7_9) k_j8 j8 (nI g_29) (nI z_si_45) z_ti_46 tm bh k_ftm z_ftm_43 k_fbh z_fbh_44)) (wc := (pa__w py (nI g_29) (nI g_30) g_31 tm bh k_ftm g_27 k_fbh g_28 au (nI nc) (nI np) (nI ne) (nI st0) q4 q5 q6 q7 q8 q9 q10 q11 q12 q13 q14 q15 q16 k_f4 f4 k_f5 (bN 7 q_f5) k_f6 (bN 7 q_f6) k_f7 f7 k_f8 (bN 4 q_f8) k_f9 (bN 2 q_f9) k_f10 f10 k_f11 f11 k_f12 f12 k_f13 f13 k_f14 f14 k_f15 f15 k_f16 f16)) (w1 := (pa__w py (nI g_29) (nI z_si_45) z_ti_46 tm bh k_ftm z_ftm_43 k_fbh z_fbh_44 au (nI nc) (nI np) (nI ne) (nI st0) q4 q5 q6 q7 q8 q9 q10 q11 q12 q13 q14 q15 q16 k_f4 f4 k_f5 (bN 7 q_f5) k_f6 (bN 7 q_f6) k_f7 f7 k_f8 (bN 4 q_f8) k_f9 (bN 2 q_f9) k_f10 f10 k_f11 f11 k_f12 f12 k_f13 f13 k_f14 f14 k_f15 f15 k_f16 f16)) hP hD [27, 28, 29, 1, 2, 3, 4, 5, 6, 7, 8, 9, 10, 11, 12, 13, 14] [17, 3, 4, 5, 6, 7, 8, 9, 10, 11, 12, 13, 14, 15, 16, 32, 33, 34, 35, 36, 37, 38, 39, 40, 41, 42, 43, 0, 1, 2] 17 rfl hk1 hP1 rfl rfl rfl (by decide)
            clear hP1 hD1 hFc hPc hDc hKc
            clear hk1 hz1 ht hvm
            generalize H1 = H at hP hS ⊢
            obtain ⟨u_47, hu_47, rfl⟩ := hw
            refine va_put (D := (dC, dI)) (ci := 3) (v := .int (nI u_47)) (ty := .boolean) (C := RX3) (T := TX3) (N := 5) hx hb hts hiX3 tyX3 tyX3_ok nmX3 hown hK hP hD hS 27 rfl rfl 0 (by decide) v_2 (fun _ h9 => h9) rfl (by decide +kernel) (pu_nz (pu_b1 (n := u_47) (by omega))) (pu_fz (pu_b1 (n := u_47) (by omega))) (Nat.le_of_ble_eq_true rfl) eX8_replays_108 (fun H locs hP hD hS => ?_)
            have hP : va_P (dC, dI) vwCl (xrp__w xa xtape (nI tp) rd au xdr hy g (nI hs) tg sg (nI ss) rm ti py bu sm (nI nc) (nI np) (nI ne) (nI st0) q4 q5 q6 q7 q8 q9 q10 q11 q12 q13 q14 q15 q16 k_f4 f4 k_f5 (bN 7 q_f5) k_f6 (bN 7 q_f6) k_f7 f7 k_f8 (bN 4 q_f8) k_f9 (bN 2 q_f9) k_f10 f10 k_f11 f11 k_f12 f12 k_f13 f13 k_f14 f14 k_f15 f15 k_f16 f16 gz g1 g2 g3 g4 g5 (nI gc) (nI gfull) gx gway gav ggoal (nI gfound) 120 (nI gl) (nI gsz) g16 g17 k_fs2 fs2 k_fs3 fs3 k_fs4 fs4 r0 (nI z_ln_10) r2 r3 r4 r5 (nI z_nr_11) r7 r8 tz k_j0 (bN 13 z_j0_4) k_j2 z_j2_5 k_j3 (bN 120 z_j3_6) k_j4 (bN 120 z_j4_7) k_j5 z_j5_8 k_j7 (bN 120 z_j7_9) k_j8 j8 (nI u_47) (nI z_si_45) z_ti_46 tm bh k_ftm z_ftm_43 k_fbh z_fbh_44) H := hP
            have hD : va_D A (xrp__w xa xtape (nI tp) rd au xdr hy g (nI hs) tg sg (nI ss) rm ti py bu sm (nI nc) (nI np) (nI ne) (nI st0) q4 q5 q6 q7 q8 q9 q10 q11 q12 q13 q14 q15 q16 k_f4 f4 k_f5 (bN 7 q_f5) k_f6 (bN 7 q_f6) k_f7 f7 k_f8 (bN 4 q_f8) k_f9 (bN 2 q_f9) k_f10 f10 k_f11 f11 k_f12 f12 k_f13 f13 k_f14 f14 k_f15 f15 k_f16 f16 gz g1 g2 g3 g4 g5 (nI gc) (nI gfull) gx gway gav ggoal (nI gfound) 120 (nI gl) (nI gsz) g16 g17 k_fs2 fs2 k_fs3 fs3 k_fs4 fs4 r0 (nI z_ln_10) r2 r3 r4 r5 (nI z_nr_11) r7 r8 tz k_j0 (bN 13 z_j0_4) k_j2 z_j2_5 k_j3 (bN 120 z_j3_6) k_j4 (bN 120 z_j4_7) k_j5 z_j5_8 k_j7 (bN 120 z_j7_9) k_j8 j8 (nI u_47) (nI z_si_45) z_ti_46 tm bh k_ftm z_ftm_43 k_fbh z_fbh_44) := hD
            refine lv_iinc (v := (nI (g_32 + 1))) (lv' := [(2, .int (nI (g_32 + 1))), (0, .ref xa), (1, .int (nI n_2))]) hx hb eX8_replays_111 hl (k := 2) rfl (nI_1 _) (by decide) rfl (fun ls hl => ?_)
            refine lv_goto (tgt := 42) hx hb eX8_replays_114 (by decide) ?_
            exact ih_33 (119 - (g_32 + 1)) (by omega) _ _ _ ⟨z_ftm_43, z_fbh_44, u_47, z_si_45, z_ti_46, (g_32 + 1), rfl, hu_47, hz_si_45, (by omega), hP, hD, hS, lv_sub hl [1, 2, 0] rfl⟩
      · have c_20 : u_19 = 0 := (nI_eq (a := u_19) (b := 0) (Nat.lt_of_le_of_lt hu_19 (Nat.le_of_ble_eq_true rfl)) (Nat.le_of_ble_eq_true rfl)).mp c_20
        refine lv_iconst (v := 0) hx hb eX8_replays_38 (by decide) ?_
        exact W.zret (v := 0) (ty := .boolean) hx hb hr (rfl) (fun t ht hW => ⟨⟨0, (), rfl, ⟨0, (Nat.le_of_ble_eq_true rfl), rfl⟩, ⟨z_j0_4, z_j2_5, z_j3_6, z_j4_7, z_j5_8, z_j7_9, z_ftm_15, fbh, z_ln_10, z_nr_11, z_on_16, z_si_17, z_ti_18, ⟨by rw [ht]; exact hP, va_K.moved hW.alike hK, hD⟩, hz_ln_10, hz_nr_11, hz_on_16, hz_si_17⟩⟩, hS.F ht⟩) hS.2.2 eX8_replays_39
  · refine lv_if_eq (tgt := 38) hx hb eX8_replays_13 (by decide) (fun _ => ?_) (fun z => absurd z (by decide))
    refine lv_iconst (v := 0) hx hb eX8_replays_38 (by decide) ?_
    exact W.zret (v := 0) (ty := .boolean) hx hb hr (rfl) (fun t ht hW => ⟨⟨0, (), rfl, ⟨0, (Nat.le_of_ble_eq_true rfl), rfl⟩, ⟨q_j0, j2, q_j3, q_j4, j5, q_j7, ftm, fbh, ln, nr, 0, si, ti0, ⟨by rw [ht]; exact hP, va_K.moved hW.alike hK, hD⟩, hln, hnr, (Nat.le_of_ble_eq_true rfl), hsi⟩⟩, hS.F ht⟩) hS.2.2 eX8_replays_39
theorem eX8_about_0 : decode cX8_about 0 = .ok (.iload_n 1, 1) := by decide +kernel
theorem eX8_about_1 : decode cX8_about 1 = .ok (.tableswitch 168 0 9 #[55, 63, 71, 79, 87, 95, 114, 136, 155, 163], 55) := by decide +kernel
theorem eX8_about_56 : decode cX8_about 56 = .ok (.aload_n 0, 1) := by decide +kernel
theorem eX8_about_57 : decode cX8_about 57 = .ok (.getfield 23, 3) := by decide +kernel
theorem eX8_about_60 : decode cX8_about 60 = .ok (.getfield 116, 3) := by decide +kernel
theorem eX8_about_63 : decode cX8_about 63 = .ok (.ireturn, 1) := by decide +kernel
theorem eX8_about_64 : decode cX8_about 64 = .ok (.aload_n 0, 1) := by decide +kernel
theorem eX8_about_65 : decode cX8_about 65 = .ok (.getfield 23, 3) := by decide +kernel
theorem eX8_about_68 : decode cX8_about 68 = .ok (.getfield 97, 3) := by decide +kernel
theorem eX8_about_71 : decode cX8_about 71 = .ok (.ireturn, 1) := by decide +kernel
theorem eX8_about_72 : decode cX8_about 72 = .ok (.aload_n 0, 1) := by decide +kernel
theorem eX8_about_73 : decode cX8_about 73 = .ok (.getfield 23, 3) := by decide +kernel
theorem eX8_about_76 : decode cX8_about 76 = .ok (.getfield 119, 3) := by decide +kernel
theorem eX8_about_79 : decode cX8_about 79 = .ok (.ireturn, 1) := by decide +kernel
theorem eX8_about_80 : decode cX8_about 80 = .ok (.aload_n 0, 1) := by decide +kernel
theorem eX8_about_81 : decode cX8_about 81 = .ok (.getfield 23, 3) := by decide +kernel
theorem eX8_about_84 : decode cX8_about 84 = .ok (.getfield 122, 3) := by decide +kernel
theorem eX8_about_87 : decode cX8_about 87 = .ok (.ireturn, 1) := by decide +kernel
theorem eX8_about_88 : decode cX8_about 88 = .ok (.aload_n 0, 1) := by decide +kernel
theorem eX8_about_89 : decode cX8_about 89 = .ok (.getfield 23, 3) := by decide +kernel
theorem eX8_about_92 : decode cX8_about 92 = .ok (.invokevirtual 125, 3) := by decide +kernel
theorem eX8_about_95 : decode cX8_about 95 = .ok (.ireturn, 1) := by decide +kernel
theorem eX8_about_96 : decode cX8_about 96 = .ok (.aload_n 0, 1) := by decide +kernel
theorem eX8_about_97 : decode cX8_about 97 = .ok (.getfield 100, 3) := by decide +kernel
theorem eX8_about_100 : decode cX8_about 100 = .ok (.ifCond .eq 13, 3) := by decide +kernel
theorem eX8_about_103 : decode cX8_about 103 = .ok (.aload_n 0, 1) := by decide +kernel
theorem eX8_about_104 : decode cX8_about 104 = .ok (.getfield 42, 3) := by decide +kernel
theorem eX8_about_107 : decode cX8_about 107 = .ok (.getfield 129, 3) := by decide +kernel
theorem eX8_about_110 : decode cX8_about 110 = .ok (.goto 4, 3) := by decide +kernel
theorem eX8_about_113 : decode cX8_about 113 = .ok (.iconst (-1), 1) := by decide +kernel
theorem eX8_about_114 : decode cX8_about 114 = .ok (.ireturn, 1) := by decide +kernel
theorem eX8_about_115 : decode cX8_about 115 = .ok (.aload_n 0, 1) := by decide +kernel
theorem eX8_about_116 : decode cX8_about 116 = .ok (.getfield 100, 3) := by decide +kernel
theorem eX8_about_119 : decode cX8_about 119 = .ok (.ifCond .eq 16, 3) := by decide +kernel
theorem eX8_about_122 : decode cX8_about 122 = .ok (.aload_n 0, 1) := by decide +kernel
theorem eX8_about_123 : decode cX8_about 123 = .ok (.getfield 42, 3) := by decide +kernel
theorem eX8_about_126 : decode cX8_about 126 = .ok (.getfield 130, 3) := by decide +kernel
theorem eX8_about_129 : decode cX8_about 129 = .ok (.invokestatic 133, 3) := by decide +kernel
theorem eX8_about_132 : decode cX8_about 132 = .ok (.goto 4, 3) := by decide +kernel
theorem eX8_about_135 : decode cX8_about 135 = .ok (.iconst (-1), 1) := by decide +kernel
theorem eX8_about_136 : decode cX8_about 136 = .ok (.ireturn, 1) := by decide +kernel
theorem eX8_about_137 : decode cX8_about 137 = .ok (.aload_n 0, 1) := by decide +kernel
theorem eX8_about_138 : decode cX8_about 138 = .ok (.getfield 100, 3) := by decide +kernel
theorem eX8_about_141 : decode cX8_about 141 = .ok (.ifCond .eq 13, 3) := by decide +kernel
theorem eX8_about_144 : decode cX8_about 144 = .ok (.aload_n 0, 1) := by decide +kernel
theorem eX8_about_145 : decode cX8_about 145 = .ok (.getfield 42, 3) := by decide +kernel
theorem eX8_about_148 : decode cX8_about 148 = .ok (.getfield 137, 3) := by decide +kernel
theorem eX8_about_151 : decode cX8_about 151 = .ok (.goto 4, 3) := by decide +kernel
theorem eX8_about_154 : decode cX8_about 154 = .ok (.iconst (-1), 1) := by decide +kernel
theorem eX8_about_155 : decode cX8_about 155 = .ok (.ireturn, 1) := by decide +kernel
theorem eX8_about_156 : decode cX8_about 156 = .ok (.aload_n 0, 1) := by decide +kernel
theorem eX8_about_157 : decode cX8_about 157 = .ok (.getfield 33, 3) := by decide +kernel
theorem eX8_about_160 : decode cX8_about 160 = .ok (.getfield 91, 3) := by decide +kernel
theorem eX8_about_163 : decode cX8_about 163 = .ok (.ireturn, 1) := by decide +kernel
theorem eX8_about_164 : decode cX8_about 164 = .ok (.aload_n 0, 1) := by decide +kernel
theorem eX8_about_165 : decode cX8_about 165 = .ok (.getfield 79, 3) := by decide +kernel
theorem eX8_about_168 : decode cX8_about 168 = .ok (.ireturn, 1) := by decide +kernel
theorem eX8_about_169 : decode cX8_about 169 = .ok (.iconst (-1), 1) := by decide +kernel
theorem eX8_about_170 : decode cX8_about 170 = .ok (.ireturn, 1) := by decide +kernel
abbrev vs_C_8_about : List Cond := .code yX8_about cX8_about 2 (some .int) :: CM
theorem g_C_8_about_C_0_allConditions : GoodIn vs_C_8_about (wsV RX8 125 RX0 yX0_allConditions vs_C_0_allConditions) := cm_gV cm_460 cm_461 cm_462 cm_19 cm_39
theorem g_C_8_about_C_8_bit : GoodIn vs_C_8_about (va_wsS RX8 133 yX8_bit vs_C_8_bit) := cm_gS cm_463 cm_464 cm_427 cm_465
set_option maxHeartbeats 4000000 in
set_option maxRecDepth 100000 in
theorem c_C_8_about (l : Launch) (dC : Nat → ClassId) (dI : Nat → Nat → Nat) (sz : Nat) (xa : Nat) (xtape : Nat) (tp : Nat) (rd : Nat) (au : Nat) (xdr : Nat) (hy : Nat) (g : Nat) (hs : Nat) (tg : Nat) (sg : Nat) (ss : Nat) (rm : Nat) (ti : Nat) (py : Nat) (bu : Nat) (sm : Nat) (nc : Nat) (np : Nat) (ne : Nat) (st0 : Int32) (q4 : Nat) (q5 : Nat) (q6 : Nat) (q7 : Nat) (q8 : Nat) (q9 : Nat) (q10 : Nat) (q11 : Nat) (q12 : Nat) (q13 : Nat) (q14 : Nat) (q15 : Nat) (q16 : Nat) (k_f4 : ClassId) (f4 : Nat → Int32) (k_f5 : ClassId) (q_f5 : Nat → Nat) (k_f6 : ClassId) (q_f6 : Nat → Nat) (k_f7 : ClassId) (f7 : Nat → Int32) (k_f8 : ClassId) (q_f8 : Nat → Nat) (k_f9 : ClassId) (q_f9 : Nat → Nat) (k_f10 : ClassId) (f10 : Nat → Int32) (k_f11 : ClassId) (f11 : Nat → Int32) (k_f12 : ClassId) (f12 : Nat → Int32) (k_f13 : ClassId) (f13 : Nat → Int32) (k_f14 : ClassId) (f14 : Nat → Int32) (k_f15 : ClassId) (f15 : Nat → Int32) (k_f16 : ClassId) (f16 : Nat → Int32) (gz : Nat) (g1 : Nat) (g2 : Nat) (g3 : Nat) (g4 : Nat) (g5 : Nat) (gc : Nat) (gfull : Nat) (gx : Int32) (gway : Int32) (gav : Int32) (ggoal : Int32) (gfound : Nat) (gl : Nat) (gsz : Nat) (g16 : Nat) (g17 : Nat) (hk : Nat) (co : Nat) (ol : Nat) (p0 : Int32) (htp : tp ≤ 900) (hhs : hs ≤ 1) (hss : ss ≤ 1) (hnc : nc ≤ 3) (hnp : np ≤ 8) (hne : ne ≤ 14) (hst0 : pm1 7 st0) (hgc : gc ≤ 120) (hgfull : gfull ≤ 1) (hgfound : gfound ≤ 1) (hgl : gl ≤ 1) (hgsz : gsz ≤ 4) (hhk : hk ≤ 20) : Met l yX8_about vs_C_8_about ({ frames := 1, cells := 0, slots := 0, locals := 22 }) (va_Pc [.ref xa, .int p0] (pu_B (dC, dI) (xab__w xa xtape (nI tp) rd au xdr hy g (nI hs) tg sg (nI ss) rm ti py bu sm (nI nc) (nI np) (nI ne) st0 q4 q5 q6 q7 q8 q9 q10 q11 q12 q13 q14 q15 q16 k_f4 f4 k_f5 (bN 7 q_f5) k_f6 (bN 7 q_f6) k_f7 f7 k_f8 (bN 4 q_f8) k_f9 (bN 2 q_f9) k_f10 f10 k_f11 f11 k_f12 f12 k_f13 f13 k_f14 f14 k_f15 f15 k_f16 f16 gz g1 g2 g3 g4 g5 (nI gc) (nI gfull) gx gway gav ggoal (nI gfound) 120 (nI gl) (nI gsz) g16 g17 (nI hk) co ol) (xab__t k_f4 k_f5 k_f6 k_f7 k_f8 k_f9 k_f10 k_f11 k_f12 k_f13 k_f14 k_f15 k_f16) sz)) (va_Qi (fun (r : Int32) (_ : Unit) => True) (fun _ _ => True) (va_A [] sz)) 0 0 (va_A [] sz) := by
  refine Met.ofW (cc := cX8_about) (maxL := 2) (ret := (some .int)) (by decide) rfl ?_
  intro p e s m args below meth c s₁ B hml hv
  obtain ⟨rfl, rfl, hP, hK, hD0⟩ := hv
  have hx := B.exec
  have hb := B.bytes
  have hr := B.returns
  have hts := atoms_spec (ws := vs_C_8_about) B.pre
  have v_1 := hts (.fieldLink RX8 23 "ClockReach" "model" "LClockReach$Automaton;") (List.mem_cons_of_mem _ cm_434)
  have v_2 := hts (.fieldLink RX8 116 "ClockReach$Automaton" "clocks" "I") (List.mem_cons_of_mem _ cm_453)
  have v_3 := hts (.fieldLink RX8 97 "ClockReach$Automaton" "places" "I") (List.mem_cons_of_mem _ cm_437)
  have v_4 := hts (.fieldLink RX8 119 "ClockReach$Automaton" "edges" "I") (List.mem_cons_of_mem _ cm_454)
  have v_5 := hts (.fieldLink RX8 122 "ClockReach$Automaton" "start" "I") (List.mem_cons_of_mem _ cm_455)
  have v_11 := hts (.fieldLink RX8 100 "ClockReach" "hasShown" "Z") (List.mem_cons_of_mem _ cm_445)
  have v_12 := hts (.fieldLink RX8 42 "ClockReach" "shown" "LClockReach$Graph;") (List.mem_cons_of_mem _ cm_456)
  have v_13 := hts (.fieldLink RX8 129 "ClockReach$Graph" "count" "I") (List.mem_cons_of_mem _ cm_457)
  have v_14 := hts (.fieldLink RX8 130 "ClockReach$Graph" "full" "Z") (List.mem_cons_of_mem _ cm_458)
  have v_19 := hts (.fieldLink RX8 137 "ClockReach$Graph" "way" "I") (List.mem_cons_of_mem _ cm_459)
  have v_20 := hts (.fieldLink RX8 33 "ClockReach" "history" "LClockReach$History;") (List.mem_cons_of_mem _ cm_435)
  have v_21 := hts (.fieldLink RX8 91 "ClockReach$History" "count" "I") (List.mem_cons_of_mem _ cm_436)
  have v_22 := hts (.fieldLink RX8 79 "ClockReach" "taped" "I") (List.mem_cons_of_mem _ cm_423)
  have hown : s.vm.findClass RX8 = some m.cls := findClass_of_methodNamed B.named
  have hlocks := B.notSynchronized
  have hiX0 : ∀ w ∈ wsX00, w ∈ vs_C_8_about := fun _ h => List.mem_cons_of_mem _ (cm_X0 h)
  have hiX1 : ∀ w ∈ wsX10, w ∈ vs_C_8_about := fun _ h => List.mem_cons_of_mem _ (cm_X1 h)
  have hiX2 : ∀ w ∈ wsX20, w ∈ vs_C_8_about := fun _ h => List.mem_cons_of_mem _ (cm_X2 h)
  have hiX8 : ∀ w ∈ wsX80, w ∈ vs_C_8_about := fun _ h => List.mem_cons_of_mem _ (cm_X8 h)
  have hD := hD0
  have hA : ∀ q : Nat, s.heap.size ≤ q → va_A [] s.heap.size q := fun _ h => Or.inr h
  have hS : va_S (va_A [] s.heap.size) s.heap s.heap [] := va_S.rf
  have hl := lv_entry ([.ref xa, .int p0]) (n := 2) (Nat.le_of_ble_eq_true rfl)
  rw [lg_entry_eq]
  generalize (lg_sl ([.ref xa, .int p0]) ++ List.replicate (2 - (lg_sl ([.ref xa, .int p0])).length) Slot.unset).toArray = ls at hl ⊢
  have hl : lv_has ls 2 [(0, .ref xa), (1, .int p0)] := hl
  refine lv_iload_n hx hb eX8_about_0 rfl (lv_at hl 1 rfl) ?_
  by_cases w_1 : p0 = 0
  · subst w_1
    refine lv_tableIn (tgt := 56) (off := 55) hx hb eX8_about_1 (by decide) (by decide) rfl (by decide) ?_
    refine lv_aload_n hx hb eX8_about_56 rfl (lv_at hl 0 rfl) ?_
    refine va_get (D := (dC, dI)) (ci := 8) (v := .ref au) (C := RX8) (T := TX8) (N := 16) hx hb hts hiX8 hown hK hP 0 rfl rfl 3 (by decide) v_1 (fun _ h9 => h9) rfl eX8_about_57 ?_
    refine va_get (D := (dC, dI)) (ci := 0) (v := .int (nI nc)) (C := RX0) (T := TX0) (N := 17) hx hb hts hiX0 hown hK hP 1 rfl rfl 0 (by decide) v_2 (fun _ h9 => h9) rfl eX8_about_60 ?_
    exact W.iret (v := (nI nc)) hx hb hr (fun t ht hW => ⟨⟨(nI nc), (), rfl, trivial, trivial⟩, hS.F ht⟩) hS.2.2 eX8_about_63
  by_cases w_2 : p0 = 1
  · subst w_2
    refine lv_tableIn (tgt := 64) (off := 63) hx hb eX8_about_1 (by decide) (by decide) rfl (by decide) ?_
    refine lv_aload_n hx hb eX8_about_64 rfl (lv_at hl 0 rfl) ?_
    refine va_get (D := (dC, dI)) (ci := 8) (v := .ref au) (C := RX8) (T := TX8) (N := 16) hx hb hts hiX8 hown hK hP 0 rfl rfl 3 (by decide) v_1 (fun _ h9 => h9) rfl eX8_about_65 ?_
    refine va_get (D := (dC, dI)) (ci := 0) (v := .int (nI np)) (C := RX0) (T := TX0) (N := 17) hx hb hts hiX0 hown hK hP 1 rfl rfl 1 (by decide) v_3 (fun _ h9 => h9) rfl eX8_about_68 ?_
    exact W.iret (v := (nI np)) hx hb hr (fun t ht hW => ⟨⟨(nI np), (), rfl, trivial, trivial⟩, hS.F ht⟩) hS.2.2 eX8_about_71
  by_cases w_3 : p0 = 2
  · subst w_3
    refine lv_tableIn (tgt := 72) (off := 71) hx hb eX8_about_1 (by decide) (by decide) rfl (by decide) ?_
    refine lv_aload_n hx hb eX8_about_72 rfl (lv_at hl 0 rfl) ?_
    refine va_get (D := (dC, dI)) (ci := 8) (v := .ref au) (C := RX8) (T := TX8) (N := 16) hx hb hts hiX8 hown hK hP 0 rfl rfl 3 (by decide) v_1 (fun _ h9 => h9) rfl eX8_about_73 ?_
    refine va_get (D := (dC, dI)) (ci := 0) (v := .int (nI ne)) (C := RX0) (T := TX0) (N := 17) hx hb hts hiX0 hown hK hP 1 rfl rfl 2 (by decide) v_4 (fun _ h9 => h9) rfl eX8_about_76 ?_
    exact W.iret (v := (nI ne)) hx hb hr (fun t ht hW => ⟨⟨(nI ne), (), rfl, trivial, trivial⟩, hS.F ht⟩) hS.2.2 eX8_about_79
  by_cases w_4 : p0 = 3
  · subst w_4
    refine lv_tableIn (tgt := 80) (off := 79) hx hb eX8_about_1 (by decide) (by decide) rfl (by decide) ?_
    refine lv_aload_n hx hb eX8_about_80 rfl (lv_at hl 0 rfl) ?_
    refine va_get (D := (dC, dI)) (ci := 8) (v := .ref au) (C := RX8) (T := TX8) (N := 16) hx hb hts hiX8 hown hK hP 0 rfl rfl 3 (by decide) v_1 (fun _ h9 => h9) rfl eX8_about_81 ?_
    refine va_get (D := (dC, dI)) (ci := 0) (v := .int st0) (C := RX0) (T := TX0) (N := 17) hx hb hts hiX0 hown hK hP 1 rfl rfl 3 (by decide) v_5 (fun _ h9 => h9) rfl eX8_about_84 ?_
    refine lv_topi (fun y_5 ey_5 => ?_)
    have mn_6 := hst0
    rcases mn_6 with en_6 | ⟨n_6, hn_6, en_6⟩
    · obtain rfl : y_5 = (-1) := ey_5.trans en_6
      exact W.iret (v := (-1)) hx hb hr (fun t ht hW => ⟨⟨(-1), (), rfl, trivial, trivial⟩, hS.F ht⟩) hS.2.2 eX8_about_87
    · obtain rfl : y_5 = (nI n_6) := ey_5.trans en_6
      exact W.iret (v := (nI n_6)) hx hb hr (fun t ht hW => ⟨⟨(nI n_6), (), rfl, trivial, trivial⟩, hS.F ht⟩) hS.2.2 eX8_about_87
  by_cases w_7 : p0 = 4
  · subst w_7
    refine lv_tableIn (tgt := 88) (off := 87) hx hb eX8_about_1 (by decide) (by decide) rfl (by decide) ?_
    refine lv_aload_n hx hb eX8_about_88 rfl (lv_at hl 0 rfl) ?_
    refine va_get (D := (dC, dI)) (ci := 8) (v := .ref au) (C := RX8) (T := TX8) (N := 16) hx hb hts hiX8 hown hK hP 0 rfl rfl 3 (by decide) v_1 (fun _ h9 => h9) rfl eX8_about_89 ?_
    have hPc : va_P (dC, dI) vwCl (au__w au (nI nc) (nI np) (nI ne) st0 q4 q5 q6 q7 q8 q9 q10 q11 q12 q13 q14 q15 q16 k_f4 f4 k_f5 (bN 7 q_f5) k_f6 (bN 7 q_f6) k_f7 f7 k_f8 (bN 4 q_f8) k_f9 (bN 2 q_f9) k_f10 f10 k_f11 f11 k_f12 f12 k_f13 f13 k_f14 f14 k_f15 f15 k_f16 f16) _ := hP.sub [1, 2, 3, 4, 5, 6, 7, 8, 9, 10, 11, 12, 13, 14] rfl
    have hDc := hD.sub (ws' := (au__w au (nI nc) (nI np) (nI ne) st0 q4 q5 q6 q7 q8 q9 q10 q11 q12 q13 q14 q15 q16 k_f4 f4 k_f5 (bN 7 q_f5) k_f6 (bN 7 q_f6) k_f7 f7 k_f8 (bN 4 q_f8) k_f9 (bN 2 q_f9) k_f10 f10 k_f11 f11 k_f12 f12 k_f13 f13 k_f14 f14 k_f15 f15 k_f16 f16)) [1, 2, 3, 4, 5, 6, 7, 8, 9, 10, 11, 12, 13, 14] (by decide) rfl
    have hKc : va_K (dC, dI) vwCl (au__t k_f4 k_f5 k_f6 k_f7 k_f8 k_f9 k_f10 k_f11 k_f12 k_f13 k_f14 k_f15 k_f16) s := hK.sub [0, 1, 2, 3, 4, 5, 6, 7, 8, 9, 10, 11, 12] rfl
    refine va_calli (va_runV (As := []) (rest := []) ⟨hx, hb, hml, hown, hts⟩ (c_C_0_allConditions l dC dI _ au nc np ne st0 q4 q5 q6 q7 q8 q9 q10 q11 q12 q13 q14 q15 q16 k_f4 f4 k_f5 q_f5 k_f6 q_f6 k_f7 f7 k_f8 q_f8 k_f9 q_f9 k_f10 f10 k_f11 f11 k_f12 f12 k_f13 f13 k_f14 f14 k_f15 f15 k_f16 f16 hnc hnp hne (hst0)) (cwV 0 hts g_C_8_about_C_0_allConditions rfl rfl rfl (by decide +kernel) ⟨Nat.le_of_ble_eq_true rfl, Nat.le_of_ble_eq_true rfl⟩) ⟨pu_bl, va_recv hK hP (ci := 0) (q0 := 1) rfl rfl, pu_in hPc hKc hDc⟩ rfl rfl hl.1 rfl (lv_room (Nat.le_of_ble_eq_true rfl)) eX8_about_92 ⟨Nat.le_of_ble_eq_true rfl, Nat.le_of_ble_eq_true rfl⟩) hS (fun q _ h => pu_fr hS hA q h) (pu_fr hS hA) (fun r_8 u t H1 locs ht hvm hw hB hz1 hk1 hS => ?_)
    have hP := pu_keep hP hk1
    clear hk1 hz1 ht hvm
    generalize H1 = H at hP hS ⊢
    exact W.iret (v := r_8) hx hb hr (fun t ht hW => ⟨⟨r_8, (), rfl, trivial, trivial⟩, hS.F ht⟩) hS.2.2 eX8_about_95
  by_cases w_9 : p0 = 5
  · subst w_9
    refine lv_tableIn (tgt := 96) (off := 95) hx hb eX8_about_1 (by decide) (by decide) rfl (by decide) ?_
    refine lv_aload_n hx hb eX8_about_96 rfl (lv_at hl 0 rfl) ?_
    refine va_get (D := (dC, dI)) (ci := 8) (v := .int (nI hs)) (C := RX8) (T := TX8) (N := 16) hx hb hts hiX8 hown hK hP 0 rfl rfl 7 (by decide) v_11 (fun _ h9 => h9) rfl eX8_about_97 ?_
    refine lv_if_eq (tgt := 113) hx hb eX8_about_100 (by decide) (fun c_10 => ?_) (fun c_10 => ?_)
    · have c_10 : hs = 0 := (nI_eq (a := hs) (b := 0) (Nat.lt_of_le_of_lt hhs (Nat.le_of_ble_eq_true rfl)) (Nat.le_of_ble_eq_true rfl)).mp c_10
      refine lv_iconst (v := (-1)) hx hb eX8_about_113 (by decide) ?_
      exact W.iret (v := (-1)) hx hb hr (fun t ht hW => ⟨⟨(-1), (), rfl, trivial, trivial⟩, hS.F ht⟩) hS.2.2 eX8_about_114
    · have c_10 : ¬ hs = 0 := fun z => c_10 ((nI_eq (a := hs) (b := 0) (Nat.lt_of_le_of_lt hhs (Nat.le_of_ble_eq_true rfl)) (Nat.le_of_ble_eq_true rfl)).mpr z)
      refine lv_aload_n hx hb eX8_about_103 rfl (lv_at hl 0 rfl) ?_
      refine va_get (D := (dC, dI)) (ci := 8) (v := .ref g) (C := RX8) (T := TX8) (N := 16) hx hb hts hiX8 hown hK hP 0 rfl rfl 6 (by decide) v_12 (fun _ h9 => h9) rfl eX8_about_104 ?_
      refine va_get (D := (dC, dI)) (ci := 1) (v := .int (nI gc)) (C := RX1) (T := TX1) (N := 18) hx hb hts hiX1 hown hK hP 15 rfl rfl 6 (by decide) v_13 (fun _ h9 => h9) rfl eX8_about_107 ?_
      refine lv_goto (tgt := 114) hx hb eX8_about_110 (by decide) ?_
      exact W.iret (v := (nI gc)) hx hb hr (fun t ht hW => ⟨⟨(nI gc), (), rfl, trivial, trivial⟩, hS.F ht⟩) hS.2.2 eX8_about_114
  by_cases w_11 : p0 = 6
  · subst w_11
    refine lv_tableIn (tgt := 115) (off := 114) hx hb eX8_about_1 (by decide) (by decide) rfl (by decide) ?_
    refine lv_aload_n hx hb eX8_about_115 rfl (lv_at hl 0 rfl) ?_
    refine va_get (D := (dC, dI)) (ci := 8) (v := .int (nI hs)) (C := RX8) (T := TX8) (N := 16) hx hb hts hiX8 hown hK hP 0 rfl rfl 7 (by decide) v_11 (fun _ h9 => h9) rfl eX8_about_116 ?_
    refine lv_if_eq (tgt := 135) hx hb eX8_about_119 (by decide) (fun c_12 => ?_) (fun c_12 => ?_)
    · have c_12 : hs = 0 := (nI_eq (a := hs) (b := 0) (Nat.lt_of_le_of_lt hhs (Nat.le_of_ble_eq_true rfl)) (Nat.le_of_ble_eq_true rfl)).mp c_12
      refine lv_iconst (v := (-1)) hx hb eX8_about_135 (by decide) ?_
      exact W.iret (v := (-1)) hx hb hr (fun t ht hW => ⟨⟨(-1), (), rfl, trivial, trivial⟩, hS.F ht⟩) hS.2.2 eX8_about_136
    · have c_12 : ¬ hs = 0 := fun z => c_12 ((nI_eq (a := hs) (b := 0) (Nat.lt_of_le_of_lt hhs (Nat.le_of_ble_eq_true rfl)) (Nat.le_of_ble_eq_true rfl)).mpr z)
      refine lv_aload_n hx hb eX8_about_122 rfl (lv_at hl 0 rfl) ?_
      refine va_get (D := (dC, dI)) (ci := 8) (v := .ref g) (C := RX8) (T := TX8) (N := 16) hx hb hts hiX8 hown hK hP 0 rfl rfl 6 (by decide) v_12 (fun _ h9 => h9) rfl eX8_about_123 ?_
      refine va_get (D := (dC, dI)) (ci := 1) (v := .int (nI gfull)) (C := RX1) (T := TX1) (N := 18) hx hb hts hiX1 hown hK hP 15 rfl rfl 7 (by decide) v_14 (fun _ h9 => h9) rfl eX8_about_126 ?_
      refine va_calli (va_runS (As := [.int (nI gfull)]) (rest := []) ⟨hx, hb, hml, hown, hts⟩ (c_C_8_bit l dC dI _ (nI gfull)) (va_cwS 1 hts g_C_8_about_C_8_bit rfl rfl rfl (by decide +kernel) ⟨Nat.le_of_ble_eq_true rfl, Nat.le_of_ble_eq_true rfl⟩) ⟨pu_bl, pu_in (hP.sub [] rfl) (hK.sub [] rfl) (hD.sub [] (by decide) rfl)⟩ rfl rfl hl.1 rfl (lv_room (Nat.le_of_ble_eq_true rfl)) eX8_about_129 ⟨Nat.le_of_ble_eq_true rfl, Nat.le_of_ble_eq_true rfl⟩) hS (fun q _ h => pu_fr hS hA q h) (pu_fr hS hA) (fun r_13 u t H1 locs ht hvm hw hB hz1 hk1 hS => ?_)
      have hP := pu_keep hP hk1
      clear hk1 hz1 ht hvm
      generalize H1 = H at hP hS ⊢
      obtain ⟨u_14, hu_14, rfl⟩ := hw
      refine lv_goto (tgt := 136) hx hb eX8_about_132 (by decide) ?_
      exact W.iret (v := (nI u_14)) hx hb hr (fun t ht hW => ⟨⟨(nI u_14), (), rfl, trivial, trivial⟩, hS.F ht⟩) hS.2.2 eX8_about_136
  by_cases w_15 : p0 = 7
  · subst w_15
    refine lv_tableIn (tgt := 137) (off := 136) hx hb eX8_about_1 (by decide) (by decide) rfl (by decide) ?_
    refine lv_aload_n hx hb eX8_about_137 rfl (lv_at hl 0 rfl) ?_
    refine va_get (D := (dC, dI)) (ci := 8) (v := .int (nI hs)) (C := RX8) (T := TX8) (N := 16) hx hb hts hiX8 hown hK hP 0 rfl rfl 7 (by decide) v_11 (fun _ h9 => h9) rfl eX8_about_138 ?_
    refine lv_if_eq (tgt := 154) hx hb eX8_about_141 (by decide) (fun c_16 => ?_) (fun c_16 => ?_)
    · have c_16 : hs = 0 := (nI_eq (a := hs) (b := 0) (Nat.lt_of_le_of_lt hhs (Nat.le_of_ble_eq_true rfl)) (Nat.le_of_ble_eq_true rfl)).mp c_16
      refine lv_iconst (v := (-1)) hx hb eX8_about_154 (by decide) ?_
      exact W.iret (v := (-1)) hx hb hr (fun t ht hW => ⟨⟨(-1), (), rfl, trivial, trivial⟩, hS.F ht⟩) hS.2.2 eX8_about_155
    · have c_16 : ¬ hs = 0 := fun z => c_16 ((nI_eq (a := hs) (b := 0) (Nat.lt_of_le_of_lt hhs (Nat.le_of_ble_eq_true rfl)) (Nat.le_of_ble_eq_true rfl)).mpr z)
      refine lv_aload_n hx hb eX8_about_144 rfl (lv_at hl 0 rfl) ?_
      refine va_get (D := (dC, dI)) (ci := 8) (v := .ref g) (C := RX8) (T := TX8) (N := 16) hx hb hts hiX8 hown hK hP 0 rfl rfl 6 (by decide) v_12 (fun _ h9 => h9) rfl eX8_about_145 ?_
      refine va_get (D := (dC, dI)) (ci := 1) (v := .int gway) (C := RX1) (T := TX1) (N := 18) hx hb hts hiX1 hown hK hP 15 rfl rfl 9 (by decide) v_19 (fun _ h9 => h9) rfl eX8_about_148 ?_
      refine lv_goto (tgt := 155) hx hb eX8_about_151 (by decide) ?_
      exact W.iret (v := gway) hx hb hr (fun t ht hW => ⟨⟨gway, (), rfl, trivial, trivial⟩, hS.F ht⟩) hS.2.2 eX8_about_155
  by_cases w_17 : p0 = 8
  · subst w_17
    refine lv_tableIn (tgt := 156) (off := 155) hx hb eX8_about_1 (by decide) (by decide) rfl (by decide) ?_
    refine lv_aload_n hx hb eX8_about_156 rfl (lv_at hl 0 rfl) ?_
    refine va_get (D := (dC, dI)) (ci := 8) (v := .ref hy) (C := RX8) (T := TX8) (N := 16) hx hb hts hiX8 hown hK hP 0 rfl rfl 5 (by decide) v_20 (fun _ h9 => h9) rfl eX8_about_157 ?_
    refine va_get (D := (dC, dI)) (ci := 2) (v := .int (nI hk)) (C := RX2) (T := TX2) (N := 3) hx hb hts hiX2 hown hK hP 16 rfl rfl 0 (by decide) v_21 (fun _ h9 => h9) rfl eX8_about_160 ?_
    exact W.iret (v := (nI hk)) hx hb hr (fun t ht hW => ⟨⟨(nI hk), (), rfl, trivial, trivial⟩, hS.F ht⟩) hS.2.2 eX8_about_163
  by_cases w_18 : p0 = 9
  · subst w_18
    refine lv_tableIn (tgt := 164) (off := 163) hx hb eX8_about_1 (by decide) (by decide) rfl (by decide) ?_
    refine lv_aload_n hx hb eX8_about_164 rfl (lv_at hl 0 rfl) ?_
    refine va_get (D := (dC, dI)) (ci := 8) (v := .int (nI tp)) (C := RX8) (T := TX8) (N := 16) hx hb hts hiX8 hown hK hP 0 rfl rfl 1 (by decide) v_22 (fun _ h9 => h9) rfl eX8_about_165 ?_
    exact W.iret (v := (nI tp)) hx hb hr (fun t ht hW => ⟨⟨(nI tp), (), rfl, trivial, trivial⟩, hS.F ht⟩) hS.2.2 eX8_about_168
  refine lv_tableOut (tgt := 169) hx hb eX8_about_1 (by
      have zw_1 : Int32.toInt p0 ≠ 0 := fun g => w_1 ((fa_eq _ _).mpr g)
      have zw_2 : Int32.toInt p0 ≠ 1 := fun g => w_2 ((fa_eq _ _).mpr g)
      have zw_3 : Int32.toInt p0 ≠ 2 := fun g => w_3 ((fa_eq _ _).mpr g)
      have zw_4 : Int32.toInt p0 ≠ 3 := fun g => w_4 ((fa_eq _ _).mpr g)
      have zw_7 : Int32.toInt p0 ≠ 4 := fun g => w_7 ((fa_eq _ _).mpr g)
      have zw_9 : Int32.toInt p0 ≠ 5 := fun g => w_9 ((fa_eq _ _).mpr g)
      have zw_11 : Int32.toInt p0 ≠ 6 := fun g => w_11 ((fa_eq _ _).mpr g)
      have zw_15 : Int32.toInt p0 ≠ 7 := fun g => w_15 ((fa_eq _ _).mpr g)
      have zw_17 : Int32.toInt p0 ≠ 8 := fun g => w_17 ((fa_eq _ _).mpr g)
      have zw_18 : Int32.toInt p0 ≠ 9 := fun g => w_18 ((fa_eq _ _).mpr g)
      omega) (by decide) ?_
  refine lv_iconst (v := (-1)) hx hb eX8_about_169 (by decide) ?_
  exact W.iret (v := (-1)) hx hb hr (fun t ht hW => ⟨⟨(-1), (), rfl, trivial, trivial⟩, hS.F ht⟩) hS.2.2 eX8_about_170
