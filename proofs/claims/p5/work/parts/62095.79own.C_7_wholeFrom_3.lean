theorem eX7_wholeFrom_10 : decode cX7_wholeFrom 10 = .ok (.iload_n 1, 1) := by decide +kernel
theorem eX7_wholeFrom_11 : decode cX7_wholeFrom 11 = .ok (.aload_n 2, 1) := by decide +kernel
theorem eX7_wholeFrom_12 : decode cX7_wholeFrom 12 = .ok (.arraylength, 1) := by decide +kernel
theorem eX7_wholeFrom_13 : decode cX7_wholeFrom 13 = .ok (.if_icmp .lt 5, 3) := by decide +kernel
theorem eX7_wholeFrom_18 : decode cX7_wholeFrom 18 = .ok (.iconst 0, 1) := by decide +kernel
theorem eX7_wholeFrom_19 : decode cX7_wholeFrom 19 = .ok (.istore 4, 2) := by decide +kernel
theorem eX7_wholeFrom_21 : decode cX7_wholeFrom 21 = .ok (.bipush 21, 2) := by decide +kernel
theorem eX7_wholeFrom_23 : decode cX7_wholeFrom 23 = .ok (.istore 5, 2) := by decide +kernel
theorem eX7_wholeFrom_25 : decode cX7_wholeFrom 25 = .ok (.iconst 0, 1) := by decide +kernel
theorem eX7_wholeFrom_26 : decode cX7_wholeFrom 26 = .ok (.istore 6, 2) := by decide +kernel
theorem eX7_wholeFrom_28 : decode cX7_wholeFrom 28 = .ok (.iload 6, 2) := by decide +kernel
theorem eX7_wholeFrom_30 : decode cX7_wholeFrom 30 = .ok (.iload_n 1, 1) := by decide +kernel
theorem eX7_wholeFrom_31 : decode cX7_wholeFrom 31 = .ok (.if_icmp .ge 83, 3) := by decide +kernel
theorem eX7_wholeFrom_34 : decode cX7_wholeFrom 34 = .ok (.aload_n 0, 1) := by decide +kernel
theorem eX7_wholeFrom_35 : decode cX7_wholeFrom 35 = .ok (.getfield 11, 3) := by decide +kernel
theorem eX7_wholeFrom_38 : decode cX7_wholeFrom 38 = .ok (.iload_n 1, 1) := by decide +kernel
theorem eX7_wholeFrom_39 : decode cX7_wholeFrom 39 = .ok (.iload_n 3, 1) := by decide +kernel
theorem eX7_wholeFrom_40 : decode cX7_wholeFrom 40 = .ok (.imul, 1) := by decide +kernel
theorem eX7_wholeFrom_41 : decode cX7_wholeFrom 41 = .ok (.iload 6, 2) := by decide +kernel
theorem eX7_wholeFrom_43 : decode cX7_wholeFrom 43 = .ok (.iadd, 1) := by decide +kernel
theorem eX7_wholeFrom_44 : decode cX7_wholeFrom 44 = .ok (.iaload, 1) := by decide +kernel
theorem eX7_wholeFrom_45 : decode cX7_wholeFrom 45 = .ok (.istore 7, 2) := by decide +kernel
theorem eX7_wholeFrom_47 : decode cX7_wholeFrom 47 = .ok (.aload_n 0, 1) := by decide +kernel
theorem eX7_wholeFrom_48 : decode cX7_wholeFrom 48 = .ok (.getfield 11, 3) := by decide +kernel
theorem eX7_wholeFrom_51 : decode cX7_wholeFrom 51 = .ok (.iload 6, 2) := by decide +kernel
theorem eX7_wholeFrom_53 : decode cX7_wholeFrom 53 = .ok (.iload_n 3, 1) := by decide +kernel
theorem eX7_wholeFrom_54 : decode cX7_wholeFrom 54 = .ok (.imul, 1) := by decide +kernel
theorem eX7_wholeFrom_55 : decode cX7_wholeFrom 55 = .ok (.iload_n 1, 1) := by decide +kernel
theorem eX7_wholeFrom_56 : decode cX7_wholeFrom 56 = .ok (.iadd, 1) := by decide +kernel
theorem eX7_wholeFrom_57 : decode cX7_wholeFrom 57 = .ok (.iaload, 1) := by decide +kernel
theorem eX7_wholeFrom_58 : decode cX7_wholeFrom 58 = .ok (.istore 8, 2) := by decide +kernel
theorem eX7_wholeFrom_60 : decode cX7_wholeFrom 60 = .ok (.iload 7, 2) := by decide +kernel
theorem eX7_wholeFrom_62 : decode cX7_wholeFrom 62 = .ok (.ldc 17, 2) := by decide +kernel
theorem eX7_wholeFrom_64 : decode cX7_wholeFrom 64 = .ok (.if_icmp .eq 20, 3) := by decide +kernel
theorem eX7_wholeFrom_67 : decode cX7_wholeFrom 67 = .ok (.iload 5, 2) := by decide +kernel
theorem eX7_wholeFrom_69 : decode cX7_wholeFrom 69 = .ok (.aload_n 2, 1) := by decide +kernel
theorem eX7_wholeFrom_70 : decode cX7_wholeFrom 70 = .ok (.iload 6, 2) := by decide +kernel
theorem eX7_wholeFrom_72 : decode cX7_wholeFrom 72 = .ok (.iaload, 1) := by decide +kernel
theorem eX7_wholeFrom_73 : decode cX7_wholeFrom 73 = .ok (.iload 7, 2) := by decide +kernel
theorem eX7_wholeFrom_75 : decode cX7_wholeFrom 75 = .ok (.invokestatic 39, 3) := by decide +kernel
theorem eX7_wholeFrom_78 : decode cX7_wholeFrom 78 = .ok (.iadd, 1) := by decide +kernel
theorem eX7_wholeFrom_79 : decode cX7_wholeFrom 79 = .ok (.invokestatic 22, 3) := by decide +kernel
theorem eX7_wholeFrom_82 : decode cX7_wholeFrom 82 = .ok (.istore 5, 2) := by decide +kernel
theorem eX7_wholeFrom_84 : decode cX7_wholeFrom 84 = .ok (.iload 8, 2) := by decide +kernel
theorem eX7_wholeFrom_86 : decode cX7_wholeFrom 86 = .ok (.ldc 17, 2) := by decide +kernel
theorem eX7_wholeFrom_88 : decode cX7_wholeFrom 88 = .ok (.if_icmp .eq 20, 3) := by decide +kernel
theorem eX7_wholeFrom_91 : decode cX7_wholeFrom 91 = .ok (.iload 4, 2) := by decide +kernel
theorem eX7_wholeFrom_93 : decode cX7_wholeFrom 93 = .ok (.aload_n 2, 1) := by decide +kernel
theorem eX7_wholeFrom_94 : decode cX7_wholeFrom 94 = .ok (.iload 6, 2) := by decide +kernel
theorem eX7_wholeFrom_96 : decode cX7_wholeFrom 96 = .ok (.iaload, 1) := by decide +kernel
theorem eX7_wholeFrom_97 : decode cX7_wholeFrom 97 = .ok (.iload 8, 2) := by decide +kernel
theorem eX7_wholeFrom_99 : decode cX7_wholeFrom 99 = .ok (.invokestatic 39, 3) := by decide +kernel
theorem eX7_wholeFrom_102 : decode cX7_wholeFrom 102 = .ok (.isub, 1) := by decide +kernel
theorem eX7_wholeFrom_103 : decode cX7_wholeFrom 103 = .ok (.invokestatic 42, 3) := by decide +kernel
theorem eX7_wholeFrom_106 : decode cX7_wholeFrom 106 = .ok (.istore 4, 2) := by decide +kernel
theorem eX7_wholeFrom_108 : decode cX7_wholeFrom 108 = .ok (.iinc 6 1, 3) := by decide +kernel
theorem eX7_wholeFrom_111 : decode cX7_wholeFrom 111 = .ok (.goto (-83), 3) := by decide +kernel
theorem eX7_wholeFrom_114 : decode cX7_wholeFrom 114 = .ok (.iload_n 1, 1) := by decide +kernel
theorem eX7_wholeFrom_115 : decode cX7_wholeFrom 115 = .ok (.iload_n 3, 1) := by decide +kernel
theorem eX7_wholeFrom_116 : decode cX7_wholeFrom 116 = .ok (.iconst 1, 1) := by decide +kernel
theorem eX7_wholeFrom_117 : decode cX7_wholeFrom 117 = .ok (.isub, 1) := by decide +kernel
theorem eX7_wholeFrom_118 : decode cX7_wholeFrom 118 = .ok (.if_icmp .ne 15, 3) := by decide +kernel
theorem eX7_wholeFrom_121 : decode cX7_wholeFrom 121 = .ok (.iconst 0, 1) := by decide +kernel
theorem eX7_wholeFrom_122 : decode cX7_wholeFrom 122 = .ok (.iload 5, 2) := by decide +kernel
theorem eX7_wholeFrom_124 : decode cX7_wholeFrom 124 = .ok (.iload 4, 2) := by decide +kernel
theorem eX7_wholeFrom_126 : decode cX7_wholeFrom 126 = .ok (.isub, 1) := by decide +kernel
theorem eX7_wholeFrom_127 : decode cX7_wholeFrom 127 = .ok (.iconst 1, 1) := by decide +kernel
theorem eX7_wholeFrom_128 : decode cX7_wholeFrom 128 = .ok (.iadd, 1) := by decide +kernel
theorem eX7_wholeFrom_129 : decode cX7_wholeFrom 129 = .ok (.invokestatic 42, 3) := by decide +kernel
theorem eX7_wholeFrom_132 : decode cX7_wholeFrom 132 = .ok (.ireturn, 1) := by decide +kernel
abbrev vs_C_7_wholeFrom_3 : List Cond := .code yX7_wholeFrom cX7_wholeFrom 9 (some .int) :: CM
theorem g_C_7_wholeFrom_3_C_7_wholePart : GoodIn vs_C_7_wholeFrom_3 (va_wsS RX7 39 yX7_wholePart vs_C_7_wholePart) := cm_gS cm_420 cm_421 cm_45 cm_412
set_option maxHeartbeats 4000000 in
set_option maxRecDepth 100000 in
theorem c_C_7_wholeFrom_3 (l : Launch) (dC : Nat → ClassId) (dI : Nat → Nat → Nat) (sz : Nat) (vz : Nat) (k_fv : ClassId) (fv : Nat → Int32) (z : Nat) (zc : Nat) (zn : Nat) (k_fz : ClassId) (fz : Nat → Int32) (hzn : zn ≤ 4) : Met l yX7_wholeFrom vs_C_7_wholeFrom_3 ({ frames := 1, cells := 0, slots := 0, locals := 20 }) (va_Pc [.ref z, .int 3, .ref vz] (pu_B (dC, dI) (zs16__w vz k_fv fv z zc (nI zn) k_fz fz) (zs16__t k_fv k_fz) sz)) (va_Qi (fun (r : Int32) (_ : Unit) => True) (fun _ _ => True) (va_A [] sz)) 0 0 (va_A [] sz) := by
  refine Met.ofW (cc := cX7_wholeFrom) (maxL := 9) (ret := (some .int)) (by decide) rfl ?_
  intro p e s m args below meth c s₁ B hml hv
  obtain ⟨rfl, rfl, hP, hK, hD0⟩ := hv
  have hx := B.exec
  have hb := B.bytes
  have hr := B.returns
  have hts := atoms_spec (ws := vs_C_7_wholeFrom_3) B.pre
  have v_1 := hts (.fieldLink RX7 18 "ClockReach$Zone" "size" "I") (List.mem_cons_of_mem _ cm_48)
  have v_2 := hts (.fieldLink RX7 11 "ClockReach$Zone" "cells" "[I") (List.mem_cons_of_mem _ cm_47)
  have v_3 := hts (.constant RX7 17 (2147483647)) (List.mem_cons_of_mem _ cm_49)
  have v_8 := hts (.methodLink RX7 22 Lib.Math.min.name) (List.mem_cons_of_mem _ cm_340)
  have v_9 := hts (.static Lib.Math.min.name) (List.mem_cons_of_mem _ cm_188)
  have v_10 := hts (.initialized "java/lang/Math") (List.mem_cons_of_mem _ cm_37)
  have v_11 := hts (.code Lib.Math.min.name Lib.Math.min.code 2 (some .int)) (List.mem_cons_of_mem _ cm_189)
  have v_12 := hts (.methodLink RX7 42 Lib.Math.max.name) (List.mem_cons_of_mem _ cm_419)
  have v_13 := hts (.static Lib.Math.max.name) (List.mem_cons_of_mem _ cm_36)
  have v_14 := hts (.code Lib.Math.max.name Lib.Math.max.code 2 (some .int)) (List.mem_cons_of_mem _ cm_38)
  have hown : s.vm.findClass RX7 = some m.cls := findClass_of_methodNamed B.named
  have hlocks := B.notSynchronized
  have hiX7 : ∀ w ∈ wsX70, w ∈ vs_C_7_wholeFrom_3 := fun _ h => List.mem_cons_of_mem _ (cm_X7 h)
  have hD := hD0
  have hA : ∀ q : Nat, s.heap.size ≤ q → va_A [] s.heap.size q := fun _ h => Or.inr h
  have hS : va_S (va_A [] s.heap.size) s.heap s.heap [] := va_S.rf
  have hl := lv_entry ([.ref z, .int 3, .ref vz]) (n := 9) (Nat.le_of_ble_eq_true rfl)
  rw [lg_entry_eq]
  generalize (lg_sl ([.ref z, .int 3, .ref vz]) ++ List.replicate (9 - (lg_sl ([.ref z, .int 3, .ref vz])).length) Slot.unset).toArray = ls at hl ⊢
  have hl : lv_has ls 9 [(0, .ref z), (1, .int 3), (2, .ref vz)] := hl
  have hzz := zz4 hzn
  refine lv_aload_n hx hb eX7_wholeFrom_0 rfl (lv_at hl 0 rfl) ?_
  refine va_get (D := (dC, dI)) (ci := 7) (v := .int (nI zn)) (C := RX7) (T := TX7) (N := 2) hx hb hts hiX7 hown hK hP 1 rfl rfl 1 (by decide) v_1 (fun _ h9 => h9) rfl eX7_wholeFrom_1 ?_
  refine lv_istore_n (lv' := [(3, .int (nI zn)), (0, .ref z), (1, .int 3), (2, .ref vz)]) hx hb eX7_wholeFrom_4 rfl hl (by decide) rfl (fun ls hl => ?_)
  refine lv_iload_n hx hb eX7_wholeFrom_5 rfl (lv_at hl 2 rfl) ?_
  refine lv_iload_n hx hb eX7_wholeFrom_6 rfl (lv_at hl 0 rfl) ?_
  refine lv_icmp_ge (tgt := 16) hx hb eX7_wholeFrom_7 (by decide) (fun c_1 => ?_) (fun c_1 => ?_)
  · have c_1 : zn ≤ 3 := (nI_leI (a := zn) (b := 3) (Nat.lt_of_le_of_lt hzn (Nat.le_of_ble_eq_true rfl)) (Nat.le_of_ble_eq_true rfl)).mp c_1
    refine lv_iconst (v := 1) hx hb eX7_wholeFrom_16 (by decide) ?_
    exact W.iret (v := 1) hx hb hr (fun t ht hW => ⟨⟨1, (), rfl, trivial, trivial⟩, hS.F ht⟩) hS.2.2 eX7_wholeFrom_17
  · have c_1 : ¬ zn ≤ 3 := fun z => c_1 ((nI_leI (a := zn) (b := 3) (Nat.lt_of_le_of_lt hzn (Nat.le_of_ble_eq_true rfl)) (Nat.le_of_ble_eq_true rfl)).mpr z)
    refine lv_iload_n hx hb eX7_wholeFrom_10 rfl (lv_at hl 2 rfl) ?_
    refine lv_aload_n hx hb eX7_wholeFrom_11 rfl (lv_at hl 3 rfl) ?_
    refine va_alen (v := 4) hx hb hK hP 0 0 rfl rfl rfl eX7_wholeFrom_12 ?_
    refine lv_icmp_lt (tgt := 18) hx hb eX7_wholeFrom_13 (by decide) (fun _ => ?_) (fun z => absurd z (by decide))
    refine lv_iconst (v := 0) hx hb eX7_wholeFrom_18 (by decide) ?_
    refine lv_istore (lv' := [(4, .int 0), (3, .int (nI zn)), (0, .ref z), (1, .int 3), (2, .ref vz)]) hx hb eX7_wholeFrom_19 hl (by decide) rfl (fun ls hl => ?_)
    refine lv_bipush (v := 21) hx hb eX7_wholeFrom_21 (by decide) ?_
    refine lv_istore (lv' := [(5, .int 21), (4, .int 0), (3, .int (nI zn)), (0, .ref z), (1, .int 3), (2, .ref vz)]) hx hb eX7_wholeFrom_23 hl (by decide) rfl (fun ls hl => ?_)
    refine lv_iconst (v := 0) hx hb eX7_wholeFrom_25 (by decide) ?_
    refine lv_istore (lv' := [(6, .int 0), (5, .int 21), (4, .int 0), (3, .int (nI zn)), (0, .ref z), (1, .int 3), (2, .ref vz)]) hx hb eX7_wholeFrom_26 hl (by decide) rfl (fun ls hl => ?_)
    refine pu_while (fun nn H locs ls => ∃ (g_7 : Int32) (g_8 : Int32) (g_9 : Nat), nn = 3 - g_9 ∧ g_9 ≤ 3 ∧ (0 : Int32) ≤ g_7 ∧ g_8 ≤ 21 ∧ va_P (dC, dI) vwCl (zs16__w vz k_fv fv z zc (nI zn) k_fz fz) H ∧ va_D (fun _ => True) (zs16__w vz k_fv fv z zc (nI zn) k_fz fz) ∧ va_S (va_A [] s.heap.size) s.heap H locs ∧ lv_has ls 9 [(0, .ref z), (1, .int 3), (2, .ref vz), (3, .int (nI zn)), (4, .int g_7), (5, .int g_8), (6, .int (nI g_9))]) 28 ?_ _ _ _ _ ⟨0, 21, 0, rfl, (Nat.le_of_ble_eq_true rfl), by first | decide | assumption, by first | decide | assumption, hP, hD, hS, lv_sub hl [4, 5, 6, 3, 2, 1, 0] rfl⟩
    rintro nn ih_12 H locs ls ⟨g_7, g_8, g_9, rfl, hg_9, he_10, he_11, hP, hD, hS, hl⟩
    refine lv_iload hx hb eX7_wholeFrom_28 (lv_at hl 6 rfl) ?_
    refine lv_iload_n hx hb eX7_wholeFrom_30 rfl (lv_at hl 1 rfl) ?_
    refine lv_icmp_ge (tgt := 114) hx hb eX7_wholeFrom_31 (by decide) (fun c_13 => ?_) (fun c_13 => ?_)
    · have c_13 : 3 ≤ g_9 := (nI_leI (a := 3) (b := g_9) (Nat.le_of_ble_eq_true rfl) (Nat.lt_of_le_of_lt hg_9 (Nat.le_of_ble_eq_true rfl))).mp c_13
      refine lv_iload_n hx hb eX7_wholeFrom_114 rfl (lv_at hl 1 rfl) ?_
      refine lv_iload_n hx hb eX7_wholeFrom_115 rfl (lv_at hl 3 rfl) ?_
      refine lv_iconst (v := 1) hx hb eX7_wholeFrom_116 (by decide) ?_
      refine lv_isub hx hb eX7_wholeFrom_117 ?_
      refine lv_topi (fun y_14 ey_14 => ?_)
      obtain rfl : y_14 = (nI (zn - 1)) := ey_14.trans (pk_sub (a := zn) (b := 1) (by omega))
      refine lv_icmp_ne (tgt := 133) hx hb eX7_wholeFrom_118 (by decide) (fun c_15 => ?_) (fun c_15 => ?_)
      · have c_15 : ¬ 3 = (zn - 1) := fun z => c_15 ((nI_eq (a := 3) (b := (zn - 1)) (Nat.le_of_ble_eq_true rfl) (by omega)).mpr z)
        exfalso
        omega
      · have c_15 : 3 = (zn - 1) := (nI_eq (a := 3) (b := (zn - 1)) (Nat.le_of_ble_eq_true rfl) (by omega)).mp c_15
        refine lv_iconst (v := 0) hx hb eX7_wholeFrom_121 (by decide) ?_
        refine lv_iload hx hb eX7_wholeFrom_122 (lv_at hl 5 rfl) ?_
        refine lv_iload hx hb eX7_wholeFrom_124 (lv_at hl 4 rfl) ?_
        refine lv_isub hx hb eX7_wholeFrom_126 ?_
        refine lv_topi (fun y_16 ey_16 => ?_)
        refine lv_iconst (v := 1) hx hb eX7_wholeFrom_127 (by decide) ?_
        refine lv_iadd hx hb eX7_wholeFrom_128 ?_
        refine lv_topi (fun y_17 ey_17 => ?_)
        refine va_mmax hx hb (hml.trans hl.1.symm) hown v_12 v_13 v_10 v_14 (Nat.le_of_ble_eq_true rfl) (Nat.le_of_ble_eq_true rfl) (Nat.le_of_ble_eq_true rfl) (Nat.le_of_ble_eq_true rfl) eX7_wholeFrom_129 ?_
        refine lv_topi (fun y_18 ey_18 => ?_)
        exact W.iret (v := y_18) hx hb hr (fun t ht hW => ⟨⟨y_18, (), rfl, trivial, trivial⟩, hS.F ht⟩) hS.2.2 eX7_wholeFrom_132
    · have c_13 : ¬ 3 ≤ g_9 := fun z => c_13 ((nI_leI (a := 3) (b := g_9) (Nat.le_of_ble_eq_true rfl) (Nat.lt_of_le_of_lt hg_9 (Nat.le_of_ble_eq_true rfl))).mpr z)
      refine lv_aload_n hx hb eX7_wholeFrom_34 rfl (lv_at hl 0 rfl) ?_
      refine va_get (D := (dC, dI)) (ci := 7) (v := .ref zc) (C := RX7) (T := TX7) (N := 2) hx hb hts hiX7 hown hK hP 1 rfl rfl 0 (by decide) v_2 (fun _ h9 => h9) rfl eX7_wholeFrom_35 ?_
      refine lv_iload_n hx hb eX7_wholeFrom_38 rfl (lv_at hl 1 rfl) ?_
      refine lv_iload_n hx hb eX7_wholeFrom_39 rfl (lv_at hl 3 rfl) ?_
      refine lv_imul hx hb eX7_wholeFrom_40 ?_
      refine lv_topi (fun y_19 ey_19 => ?_)
      obtain rfl : y_19 = (nI (3 * zn)) := ey_19.trans (pk_mul 3 zn)
      refine lv_iload hx hb eX7_wholeFrom_41 (lv_at hl 6 rfl) ?_
      refine lv_iadd hx hb eX7_wholeFrom_43 ?_
      refine lv_topi (fun y_20 ey_20 => ?_)
      obtain rfl : y_20 = (nI ((3 * zn) + g_9)) := ey_20.trans (nI_add (3 * zn) g_9)
      refine va_iald hx hb hK hP 2 1 rfl rfl (vp_in_nI (n := ((3 * zn) + g_9)) (by omega) (Nat.le_of_ble_eq_true rfl)) eX7_wholeFrom_44 ?_
      refine lv_topi (fun y_21 ey_21 => ?_)
      refine lv_istore (lv' := [(7, .int y_21), (0, .ref z), (1, .int 3), (2, .ref vz), (3, .int (nI zn)), (4, .int g_7), (5, .int g_8), (6, .int (nI g_9))]) hx hb eX7_wholeFrom_45 hl (by decide) rfl (fun ls hl => ?_)
      refine lv_aload_n hx hb eX7_wholeFrom_47 rfl (lv_at hl 1 rfl) ?_
      refine va_get (D := (dC, dI)) (ci := 7) (v := .ref zc) (C := RX7) (T := TX7) (N := 2) hx hb hts hiX7 hown hK hP 1 rfl rfl 0 (by decide) v_2 (fun _ h9 => h9) rfl eX7_wholeFrom_48 ?_
      refine lv_iload hx hb eX7_wholeFrom_51 (lv_at hl 7 rfl) ?_
      refine lv_iload_n hx hb eX7_wholeFrom_53 rfl (lv_at hl 4 rfl) ?_
      refine lv_imul hx hb eX7_wholeFrom_54 ?_
      refine lv_topi (fun y_22 ey_22 => ?_)
      obtain rfl : y_22 = (nI (g_9 * zn)) := ey_22.trans (pk_mul g_9 zn)
      refine lv_iload_n hx hb eX7_wholeFrom_55 rfl (lv_at hl 2 rfl) ?_
      refine lv_iadd hx hb eX7_wholeFrom_56 ?_
      refine lv_topi (fun y_23 ey_23 => ?_)
      obtain rfl : y_23 = (nI ((g_9 * zn) + 3)) := ey_23.trans (nI_add (g_9 * zn) 3)
      refine va_iald hx hb hK hP 2 1 rfl rfl (vp_in_nI (n := ((g_9 * zn) + 3)) (by first | exact zx16 (by omega) (by omega) (by omega) | exact zy16 (by omega) (by omega) | omega) (Nat.le_of_ble_eq_true rfl)) eX7_wholeFrom_57 ?_
      refine lv_topi (fun y_24 ey_24 => ?_)
      refine lv_istore (lv' := [(8, .int y_24), (7, .int y_21), (0, .ref z), (1, .int 3), (2, .ref vz), (3, .int (nI zn)), (4, .int g_7), (5, .int g_8), (6, .int (nI g_9))]) hx hb eX7_wholeFrom_58 hl (by decide) rfl (fun ls hl => ?_)
      refine lv_iload hx hb eX7_wholeFrom_60 (lv_at hl 1 rfl) ?_
      refine lv_ldc hx hb hown v_3 eX7_wholeFrom_62 ?_
      refine pu_join (fun H locs ls st => ∃ (g_25 : Int32), st = [] ∧ (0 : Int32) ≤ g_7 ∧ g_25 ≤ 21 ∧ va_P (dC, dI) vwCl (zs16__w vz k_fv fv z zc (nI zn) k_fz fz) H ∧ va_D (fun _ => True) (zs16__w vz k_fv fv z zc (nI zn) k_fz fz) ∧ va_S (va_A [] s.heap.size) s.heap H locs ∧ lv_has ls 9 [(0, .ref z), (1, .int 3), (2, .ref vz), (3, .int (nI zn)), (4, .int g_7), (5, .int g_25), (6, .int (nI g_9)), (7, .int y_21), (8, .int y_24)]) 84 ?_ (fun j_28 => ?_)
      · rintro H locs ls st ⟨g_25, rfl, he_26, he_27, hP, hD, hS, hl⟩
        refine lv_iload hx hb eX7_wholeFrom_84 (lv_at hl 8 rfl) ?_
        refine lv_ldc hx hb hown v_3 eX7_wholeFrom_86 ?_
        refine pu_join (fun H locs ls st => ∃ (g_29 : Int32), st = [] ∧ (0 : Int32) ≤ g_29 ∧ g_25 ≤ 21 ∧ va_P (dC, dI) vwCl (zs16__w vz k_fv fv z zc (nI zn) k_fz fz) H ∧ va_D (fun _ => True) (zs16__w vz k_fv fv z zc (nI zn) k_fz fz) ∧ va_S (va_A [] s.heap.size) s.heap H locs ∧ lv_has ls 9 [(0, .ref z), (1, .int 3), (2, .ref vz), (3, .int (nI zn)), (4, .int g_29), (5, .int g_25), (6, .int (nI g_9)), (7, .int y_21), (8, .int y_24)]) 108 ?_ (fun j_32 => ?_)
        · rintro H locs ls st ⟨g_29, rfl, he_30, he_31, hP, hD, hS, hl⟩
          refine lv_iinc (v := (nI (g_9 + 1))) (lv' := [(6, .int (nI (g_9 + 1))), (0, .ref z), (1, .int 3), (2, .ref vz), (3, .int (nI zn)), (4, .int g_29), (5, .int g_25), (7, .int y_21), (8, .int y_24)]) hx hb eX7_wholeFrom_108 hl (k := 6) rfl (nI_1 _) (by decide) rfl (fun ls hl => ?_)
          refine lv_goto (tgt := 28) hx hb eX7_wholeFrom_111 (by decide) ?_
          exact ih_12 (3 - (g_9 + 1)) (by omega) _ _ _ ⟨g_29, g_25, (g_9 + 1), rfl, (by omega), by first | decide | assumption, by first | decide | assumption, hP, hD, hS, lv_sub hl [1, 2, 3, 4, 5, 6, 0] rfl⟩
        refine lv_icmp_eq (tgt := 108) hx hb eX7_wholeFrom_88 (by decide) (fun c_33 => ?_) (fun c_33 => ?_)
        · exact j_32 _ _ _ _ ⟨g_7, rfl, by first | decide | assumption, by first | decide | assumption, hP, hD, hS, lv_sub hl [0, 1, 2, 3, 4, 5, 6, 7, 8] rfl⟩
        · refine lv_iload hx hb eX7_wholeFrom_91 (lv_at hl 4 rfl) ?_
          refine lv_aload_n hx hb eX7_wholeFrom_93 rfl (lv_at hl 2 rfl) ?_
          refine lv_iload hx hb eX7_wholeFrom_94 (lv_at hl 6 rfl) ?_
          refine va_iald hx hb hK hP 0 0 rfl rfl (vp_in_nI (n := g_9) (Nat.lt_of_le_of_lt hg_9 (Nat.le_of_ble_eq_true rfl)) (Nat.le_of_ble_eq_true rfl)) eX7_wholeFrom_96 ?_
          refine lv_topi (fun y_34 ey_34 => ?_)
          refine lv_iload hx hb eX7_wholeFrom_97 (lv_at hl 8 rfl) ?_
          refine va_calli (va_runS (As := [.int y_24]) (rest := [.int y_34, .int g_7]) ⟨hx, hb, hml, hown, hts⟩ (c_C_7_wholePart l dC dI _ y_24) (va_cwS 1 hts g_C_7_wholeFrom_3_C_7_wholePart rfl rfl rfl (by decide +kernel) ⟨Nat.le_of_ble_eq_true rfl, Nat.le_of_ble_eq_true rfl⟩) ⟨pu_bl, pu_in (hP.sub [] rfl) (hK.sub [] rfl) (hD.sub [] (by decide) rfl)⟩ rfl rfl hl.1 rfl (lv_room (Nat.le_of_ble_eq_true rfl)) eX7_wholeFrom_99 ⟨Nat.le_of_ble_eq_true rfl, Nat.le_of_ble_eq_true rfl⟩) hS (fun q _ h => pu_fr hS hA q h) (pu_fr hS hA) (fun r_35 u t H1 locs ht hvm hw hB hz1 hk1 hS => ?_)
          have hP := pu_keep hP hk1
          clear hk1 hz1 ht hvm
          generalize H1 = H at hP hS ⊢
          refine lv_isub hx hb eX7_wholeFrom_102 ?_
          refine lv_topi (fun y_36 ey_36 => ?_)
          refine va_mmax hx hb (hml.trans hl.1.symm) hown v_12 v_13 v_10 v_14 (Nat.le_of_ble_eq_true rfl) (Nat.le_of_ble_eq_true rfl) (Nat.le_of_ble_eq_true rfl) (Nat.le_of_ble_eq_true rfl) eX7_wholeFrom_103 ?_
          refine lv_topi (fun y_37 ey_37 => ?_)
          refine lv_istore (lv' := [(4, .int y_37), (0, .ref z), (1, .int 3), (2, .ref vz), (3, .int (nI zn)), (5, .int g_25), (6, .int (nI g_9)), (7, .int y_21), (8, .int y_24)]) hx hb eX7_wholeFrom_106 hl (by decide) rfl (fun ls hl => ?_)
          exact j_32 _ _ _ _ ⟨y_37, rfl, by first | decide | assumption | (rw [ey_37]; first | exact mn_21 (by assumption) | exact mx_0 (by assumption)), by first | decide | assumption, hP, hD, hS, lv_sub hl [1, 2, 3, 4, 0, 5, 6, 7, 8] rfl⟩
      refine lv_icmp_eq (tgt := 84) hx hb eX7_wholeFrom_64 (by decide) (fun c_38 => ?_) (fun c_38 => ?_)
      · exact j_28 _ _ _ _ ⟨g_8, rfl, by first | decide | assumption, by first | decide | assumption, hP, hD, hS, lv_sub hl [2, 3, 4, 5, 6, 7, 8, 1, 0] rfl⟩
      · refine lv_iload hx hb eX7_wholeFrom_67 (lv_at hl 7 rfl) ?_
        refine lv_aload_n hx hb eX7_wholeFrom_69 rfl (lv_at hl 4 rfl) ?_
        refine lv_iload hx hb eX7_wholeFrom_70 (lv_at hl 8 rfl) ?_
        refine va_iald hx hb hK hP 0 0 rfl rfl (vp_in_nI (n := g_9) (Nat.lt_of_le_of_lt hg_9 (Nat.le_of_ble_eq_true rfl)) (Nat.le_of_ble_eq_true rfl)) eX7_wholeFrom_72 ?_
        refine lv_topi (fun y_39 ey_39 => ?_)
        refine lv_iload hx hb eX7_wholeFrom_73 (lv_at hl 1 rfl) ?_
        refine va_calli (va_runS (As := [.int y_21]) (rest := [.int y_39, .int g_8]) ⟨hx, hb, hml, hown, hts⟩ (c_C_7_wholePart l dC dI _ y_21) (va_cwS 1 hts g_C_7_wholeFrom_3_C_7_wholePart rfl rfl rfl (by decide +kernel) ⟨Nat.le_of_ble_eq_true rfl, Nat.le_of_ble_eq_true rfl⟩) ⟨pu_bl, pu_in (hP.sub [] rfl) (hK.sub [] rfl) (hD.sub [] (by decide) rfl)⟩ rfl rfl hl.1 rfl (lv_room (Nat.le_of_ble_eq_true rfl)) eX7_wholeFrom_75 ⟨Nat.le_of_ble_eq_true rfl, Nat.le_of_ble_eq_true rfl⟩) hS (fun q _ h => pu_fr hS hA q h) (pu_fr hS hA) (fun r_40 u t H1 locs ht hvm hw hB hz1 hk1 hS => ?_)
        have hP := pu_keep hP hk1
        clear hk1 hz1 ht hvm
        generalize H1 = H at hP hS ⊢
        refine lv_iadd hx hb eX7_wholeFrom_78 ?_
        refine lv_topi (fun y_41 ey_41 => ?_)
        refine va_mmin hx hb (hml.trans hl.1.symm) hown v_8 v_9 v_10 v_11 (Nat.le_of_ble_eq_true rfl) (Nat.le_of_ble_eq_true rfl) (Nat.le_of_ble_eq_true rfl) (Nat.le_of_ble_eq_true rfl) eX7_wholeFrom_79 ?_
        refine lv_topi (fun y_42 ey_42 => ?_)
        refine lv_istore (lv' := [(5, .int y_42), (8, .int y_24), (7, .int y_21), (0, .ref z), (1, .int 3), (2, .ref vz), (3, .int (nI zn)), (4, .int g_7), (6, .int (nI g_9))]) hx hb eX7_wholeFrom_82 hl (by decide) rfl (fun ls hl => ?_)
        exact j_28 _ _ _ _ ⟨y_42, rfl, by first | decide | assumption, by first | decide | assumption | (rw [ey_42]; first | exact mn_21 (by assumption) | exact mx_0 (by assumption)), hP, hD, hS, lv_sub hl [3, 4, 5, 6, 7, 0, 8, 2, 1] rfl⟩
