theorem eX7_wholeFrom_133 : decode cX7_wholeFrom 133 = .ok (.iconst 0, 1) := by decide +kernel
theorem eX7_wholeFrom_134 : decode cX7_wholeFrom 134 = .ok (.istore 6, 2) := by decide +kernel
theorem eX7_wholeFrom_136 : decode cX7_wholeFrom 136 = .ok (.iload 4, 2) := by decide +kernel
theorem eX7_wholeFrom_138 : decode cX7_wholeFrom 138 = .ok (.istore 7, 2) := by decide +kernel
theorem eX7_wholeFrom_140 : decode cX7_wholeFrom 140 = .ok (.iload 7, 2) := by decide +kernel
theorem eX7_wholeFrom_142 : decode cX7_wholeFrom 142 = .ok (.iload 5, 2) := by decide +kernel
theorem eX7_wholeFrom_144 : decode cX7_wholeFrom 144 = .ok (.if_icmp .gt 27, 3) := by decide +kernel
theorem eX7_wholeFrom_147 : decode cX7_wholeFrom 147 = .ok (.aload_n 2, 1) := by decide +kernel
theorem eX7_wholeFrom_148 : decode cX7_wholeFrom 148 = .ok (.iload_n 1, 1) := by decide +kernel
theorem eX7_wholeFrom_149 : decode cX7_wholeFrom 149 = .ok (.iload 7, 2) := by decide +kernel
theorem eX7_wholeFrom_151 : decode cX7_wholeFrom 151 = .ok (.iastore, 1) := by decide +kernel
theorem eX7_wholeFrom_152 : decode cX7_wholeFrom 152 = .ok (.iload 6, 2) := by decide +kernel
theorem eX7_wholeFrom_154 : decode cX7_wholeFrom 154 = .ok (.aload_n 0, 1) := by decide +kernel
theorem eX7_wholeFrom_155 : decode cX7_wholeFrom 155 = .ok (.iload_n 1, 1) := by decide +kernel
theorem eX7_wholeFrom_156 : decode cX7_wholeFrom 156 = .ok (.iconst 1, 1) := by decide +kernel
theorem eX7_wholeFrom_157 : decode cX7_wholeFrom 157 = .ok (.iadd, 1) := by decide +kernel
theorem eX7_wholeFrom_158 : decode cX7_wholeFrom 158 = .ok (.aload_n 2, 1) := by decide +kernel
theorem eX7_wholeFrom_159 : decode cX7_wholeFrom 159 = .ok (.invokestatic 35, 3) := by decide +kernel
theorem eX7_wholeFrom_162 : decode cX7_wholeFrom 162 = .ok (.iadd, 1) := by decide +kernel
theorem eX7_wholeFrom_163 : decode cX7_wholeFrom 163 = .ok (.istore 6, 2) := by decide +kernel
theorem eX7_wholeFrom_165 : decode cX7_wholeFrom 165 = .ok (.iinc 7 1, 3) := by decide +kernel
theorem eX7_wholeFrom_168 : decode cX7_wholeFrom 168 = .ok (.goto (-28), 3) := by decide +kernel
theorem eX7_wholeFrom_171 : decode cX7_wholeFrom 171 = .ok (.iload 6, 2) := by decide +kernel
theorem eX7_wholeFrom_173 : decode cX7_wholeFrom 173 = .ok (.ireturn, 1) := by decide +kernel
abbrev vs_C_7_wholeFrom_2 : List Cond := .code yX7_wholeFrom cX7_wholeFrom 9 (some .int) :: CM
theorem g_C_7_wholeFrom_2_C_7_wholeFrom_3 : GoodIn vs_C_7_wholeFrom_2 (va_wsS RX7 35 yX7_wholeFrom vs_C_7_wholeFrom_3) := cm_gS cm_416 cm_417 cm_45 cm_418
theorem g_C_7_wholeFrom_2_C_7_wholePart : GoodIn vs_C_7_wholeFrom_2 (va_wsS RX7 39 yX7_wholePart vs_C_7_wholePart) := cm_gS cm_420 cm_421 cm_45 cm_412
set_option maxHeartbeats 4000000 in
set_option maxRecDepth 100000 in
theorem c_C_7_wholeFrom_2 (l : Launch) (dC : Nat → ClassId) (dI : Nat → Nat → Nat) (sz : Nat) (vz : Nat) (k_fv : ClassId) (fv : Nat → Int32) (z : Nat) (zc : Nat) (zn : Nat) (k_fz : ClassId) (fz : Nat → Int32) (hzn : zn ≤ 4) : Met l yX7_wholeFrom vs_C_7_wholeFrom_2 ({ frames := 2, cells := 0, slots := 0, locals := 48 }) (va_Pc [.ref z, .int 2, .ref vz] (pu_B (dC, dI) (zs16__w vz k_fv fv z zc (nI zn) k_fz fz) (zs16__t k_fv k_fz) sz)) (va_Qi (fun (r : Int32) (_ : Unit) => True) (fun _ t => ∃ (z_fv : Nat → Int32), pu_E (dC, dI) (zs16__w vz k_fv z_fv z zc (nI zn) k_fz fz) (zs16__t k_fv k_fz) (va_A ((zs16__w vz k_fv fv z zc (nI zn) k_fz fz)) sz) t) (va_A ((zs16__w vz k_fv fv z zc (nI zn) k_fz fz)) sz)) 0 0 (va_A ((zs16__w vz k_fv fv z zc (nI zn) k_fz fz)) sz) := by
  refine Met.ofW (cc := cX7_wholeFrom) (maxL := 9) (ret := (some .int)) (by decide) rfl ?_
  intro p e s m args below meth c s₁ B hml hv
  obtain ⟨rfl, rfl, hP, hK, hD0⟩ := hv
  have hx := B.exec
  have hb := B.bytes
  have hr := B.returns
  have hts := atoms_spec (ws := vs_C_7_wholeFrom_2) B.pre
  have v_1 := hts (.fieldLink RX7 18 "ClockReach$Zone" "size" "I") (List.mem_cons_of_mem _ cm_48)
  have v_2 := hts (.fieldLink RX7 11 "ClockReach$Zone" "cells" "[I") (List.mem_cons_of_mem _ cm_47)
  have v_3 := hts (.constant RX7 17 (2147483647)) (List.mem_cons_of_mem _ cm_49)
  have v_8 := hts (.methodLink RX7 22 Lib.Math.min.name) (List.mem_cons_of_mem _ cm_340)
  have v_9 := hts (.static Lib.Math.min.name) (List.mem_cons_of_mem _ cm_188)
  have v_10 := hts (.initialized "java/lang/Math") (List.mem_cons_of_mem _ cm_37)
  have v_11 := hts (.code Lib.Math.min.name Lib.Math.min.code 2 (some .int)) (List.mem_cons_of_mem _ cm_189)
  have v_12 := hts (.methodLink RX7 42 Lib.Math.max.name) (List.mem_cons_of_mem _ cm_419)
  have v_13 := hts (.static Lib.Math.max.name) (List.mem_cons_of_mem _ cm_36)
  have v_14 := hts (.code Lib.Math.max.name Lib.Math.max.code 2 (some .int)) (List.mem_cons_of_mem _ cm_38)
  have hown : s.vm.findClass RX7 = some m.cls := findClass_of_methodNamed B.named
  have hlocks := B.notSynchronized
  have hiX7 : ∀ w ∈ wsX70, w ∈ vs_C_7_wholeFrom_2 := fun _ h => List.mem_cons_of_mem _ (cm_X7 h)
  have hD := hD0.self (sz := s.heap.size)
  generalize hAe : va_A ((zs16__w vz k_fv fv z zc (nI zn) k_fz fz)) s.heap.size = A at hD ⊢
  have hA : ∀ q : Nat, s.heap.size ≤ q → A q := fun q h => by rw [← hAe]; exact Or.inr h
  have hS : va_S A s.heap s.heap [] := va_S.rf
  have hl := lv_entry ([.ref z, .int 2, .ref vz]) (n := 9) (Nat.le_of_ble_eq_true rfl)
  rw [lg_entry_eq]
  generalize (lg_sl ([.ref z, .int 2, .ref vz]) ++ List.replicate (9 - (lg_sl ([.ref z, .int 2, .ref vz])).length) Slot.unset).toArray = ls at hl ⊢
  have hl : lv_has ls 9 [(0, .ref z), (1, .int 2), (2, .ref vz)] := hl
  have hzz := zz4 hzn
  refine lv_aload_n hx hb eX7_wholeFrom_0 rfl (lv_at hl 0 rfl) ?_
  refine va_get (D := (dC, dI)) (ci := 7) (v := .int (nI zn)) (C := RX7) (T := TX7) (N := 2) hx hb hts hiX7 hown hK hP 1 rfl rfl 1 (by decide) v_1 (fun _ h9 => h9) rfl eX7_wholeFrom_1 ?_
  refine lv_istore_n (lv' := [(3, .int (nI zn)), (0, .ref z), (1, .int 2), (2, .ref vz)]) hx hb eX7_wholeFrom_4 rfl hl (by decide) rfl (fun ls hl => ?_)
  refine lv_iload_n hx hb eX7_wholeFrom_5 rfl (lv_at hl 2 rfl) ?_
  refine lv_iload_n hx hb eX7_wholeFrom_6 rfl (lv_at hl 0 rfl) ?_
  refine lv_icmp_ge (tgt := 16) hx hb eX7_wholeFrom_7 (by decide) (fun c_1 => ?_) (fun c_1 => ?_)
  · have c_1 : zn ≤ 2 := (nI_leI (a := zn) (b := 2) (Nat.lt_of_le_of_lt hzn (Nat.le_of_ble_eq_true rfl)) (Nat.le_of_ble_eq_true rfl)).mp c_1
    refine lv_iconst (v := 1) hx hb eX7_wholeFrom_16 (by decide) ?_
    exact W.iret (v := 1) hx hb hr (fun t ht hW => ⟨⟨1, (), rfl, trivial, ⟨fv, ⟨by rw [ht]; exact hP, va_K.moved hW.alike hK, hD⟩⟩⟩, hS.F ht⟩) hS.2.2 eX7_wholeFrom_17
  · have c_1 : ¬ zn ≤ 2 := fun z => c_1 ((nI_leI (a := zn) (b := 2) (Nat.lt_of_le_of_lt hzn (Nat.le_of_ble_eq_true rfl)) (Nat.le_of_ble_eq_true rfl)).mpr z)
    refine lv_iload_n hx hb eX7_wholeFrom_10 rfl (lv_at hl 2 rfl) ?_
    refine lv_aload_n hx hb eX7_wholeFrom_11 rfl (lv_at hl 3 rfl) ?_
    refine va_alen (v := 4) hx hb hK hP 0 0 rfl rfl rfl eX7_wholeFrom_12 ?_
    refine lv_icmp_lt (tgt := 18) hx hb eX7_wholeFrom_13 (by decide) (fun _ => ?_) (fun z => absurd z (by decide))
    refine lv_iconst (v := 0) hx hb eX7_wholeFrom_18 (by decide) ?_
    refine lv_istore (lv' := [(4, .int 0), (3, .int (nI zn)), (0, .ref z), (1, .int 2), (2, .ref vz)]) hx hb eX7_wholeFrom_19 hl (by decide) rfl (fun ls hl => ?_)
    refine lv_bipush (v := 21) hx hb eX7_wholeFrom_21 (by decide) ?_
    refine lv_istore (lv' := [(5, .int 21), (4, .int 0), (3, .int (nI zn)), (0, .ref z), (1, .int 2), (2, .ref vz)]) hx hb eX7_wholeFrom_23 hl (by decide) rfl (fun ls hl => ?_)
    refine lv_iconst (v := 0) hx hb eX7_wholeFrom_25 (by decide) ?_
    refine lv_istore (lv' := [(6, .int 0), (5, .int 21), (4, .int 0), (3, .int (nI zn)), (0, .ref z), (1, .int 2), (2, .ref vz)]) hx hb eX7_wholeFrom_26 hl (by decide) rfl (fun ls hl => ?_)
    refine pu_while (fun nn H locs ls => ∃ (g_7 : Int32) (g_8 : Int32) (g_9 : Nat), nn = 2 - g_9 ∧ g_9 ≤ 2 ∧ (0 : Int32) ≤ g_7 ∧ g_8 ≤ 21 ∧ va_P (dC, dI) vwCl (zs16__w vz k_fv fv z zc (nI zn) k_fz fz) H ∧ va_D A (zs16__w vz k_fv fv z zc (nI zn) k_fz fz) ∧ va_S A s.heap H locs ∧ lv_has ls 9 [(0, .ref z), (1, .int 2), (2, .ref vz), (3, .int (nI zn)), (4, .int g_7), (5, .int g_8), (6, .int (nI g_9))]) 28 ?_ _ _ _ _ ⟨0, 21, 0, rfl, (Nat.le_of_ble_eq_true rfl), by first | decide | assumption, by first | decide | assumption, hP, hD, hS, lv_sub hl [4, 5, 6, 3, 2, 1, 0] rfl⟩
    rintro nn ih_12 H locs ls ⟨g_7, g_8, g_9, rfl, hg_9, he_10, he_11, hP, hD, hS, hl⟩
    refine lv_iload hx hb eX7_wholeFrom_28 (lv_at hl 6 rfl) ?_
    refine lv_iload_n hx hb eX7_wholeFrom_30 rfl (lv_at hl 1 rfl) ?_
    refine lv_icmp_ge (tgt := 114) hx hb eX7_wholeFrom_31 (by decide) (fun c_13 => ?_) (fun c_13 => ?_)
    · have c_13 : 2 ≤ g_9 := (nI_leI (a := 2) (b := g_9) (Nat.le_of_ble_eq_true rfl) (Nat.lt_of_le_of_lt hg_9 (Nat.le_of_ble_eq_true rfl))).mp c_13
      refine lv_iload_n hx hb eX7_wholeFrom_114 rfl (lv_at hl 1 rfl) ?_
      refine lv_iload_n hx hb eX7_wholeFrom_115 rfl (lv_at hl 3 rfl) ?_
      refine lv_iconst (v := 1) hx hb eX7_wholeFrom_116 (by decide) ?_
      refine lv_isub hx hb eX7_wholeFrom_117 ?_
      refine lv_topi (fun y_14 ey_14 => ?_)
      obtain rfl : y_14 = (nI (zn - 1)) := ey_14.trans (pk_sub (a := zn) (b := 1) (by omega))
      refine lv_icmp_ne (tgt := 133) hx hb eX7_wholeFrom_118 (by decide) (fun c_15 => ?_) (fun c_15 => ?_)
      · have c_15 : ¬ 2 = (zn - 1) := fun z => c_15 ((nI_eq (a := 2) (b := (zn - 1)) (Nat.le_of_ble_eq_true rfl) (by omega)).mpr z)
        refine lv_iconst (v := 0) hx hb eX7_wholeFrom_133 (by decide) ?_
        refine lv_istore (lv' := [(6, .int 0), (0, .ref z), (1, .int 2), (2, .ref vz), (3, .int (nI zn)), (4, .int g_7), (5, .int g_8)]) hx hb eX7_wholeFrom_134 hl (by decide) rfl (fun ls hl => ?_)
        obtain ⟨lw_16, hlw_16, rfl⟩ := nI_of (le_0 (x := g_7) (by assumption))
        by_cases hklw_16 : lw_16 ≤ 21
        · refine lv_iload hx hb eX7_wholeFrom_136 (lv_at hl 5 rfl) ?_
          refine lv_istore (lv' := [(7, .int (nI lw_16)), (6, .int 0), (0, .ref z), (1, .int 2), (2, .ref vz), (3, .int (nI zn)), (4, .int (nI lw_16)), (5, .int g_8)]) hx hb eX7_wholeFrom_138 hl (by decide) rfl (fun ls hl => ?_)
          refine pu_while (fun nn H locs ls => ∃ (g_21 : Nat → Int32) (g_22 : Int32) (g_23 : Nat), nn = 1073741823 - g_23 ∧ g_23 ≤ 22 ∧ g_8 ≤ 21 ∧ va_P (dC, dI) vwCl (zs16__w vz k_fv g_21 z zc (nI zn) k_fz fz) H ∧ va_D A (zs16__w vz k_fv g_21 z zc (nI zn) k_fz fz) ∧ va_S A s.heap H locs ∧ lv_has ls 9 [(0, .ref z), (1, .int 2), (2, .ref vz), (3, .int (nI zn)), (4, .int (nI lw_16)), (5, .int g_8), (6, .int g_22), (7, .int (nI g_23))]) 140 ?_ _ _ _ _ ⟨fv, 0, lw_16, rfl, (by omega), by first | decide | assumption, hP, hD, hS, lv_sub hl [2, 3, 4, 5, 6, 7, 1, 0] rfl⟩
          rintro nn ih_25 H locs ls ⟨g_21, g_22, g_23, rfl, hg_23, he_24, hP, hD, hS, hl⟩
          refine lv_iload hx hb eX7_wholeFrom_140 (lv_at hl 7 rfl) ?_
          refine lv_iload hx hb eX7_wholeFrom_142 (lv_at hl 5 rfl) ?_
          refine lv_icmp_gt (tgt := 171) hx hb eX7_wholeFrom_144 (by decide) (fun c_26 => ?_) (fun c_26 => ?_)
          · refine lv_iload hx hb eX7_wholeFrom_171 (lv_at hl 6 rfl) ?_
            exact W.iret (v := g_22) hx hb hr (fun t ht hW => ⟨⟨g_22, (), rfl, trivial, ⟨g_21, ⟨by rw [ht]; exact hP, va_K.moved hW.alike hK, hD⟩⟩⟩, hS.F ht⟩) hS.2.2 eX7_wholeFrom_173
          · have hvc_26 : g_23 ≤ 21 := by
              refine Nat.not_lt.mp (fun z => absurd (mx_lt (by assumption) (k := g_23) (by omega) (by omega)) c_26)
            refine lv_aload_n hx hb eX7_wholeFrom_147 rfl (lv_at hl 2 rfl) ?_
            refine lv_iload_n hx hb eX7_wholeFrom_148 rfl (lv_at hl 1 rfl) ?_
            refine lv_iload hx hb eX7_wholeFrom_149 (lv_at hl 7 rfl) ?_
            refine va_iast hx hb hK hP hD hS 0 0 rfl rfl (vp_in_nI (n := 2) (Nat.le_of_ble_eq_true rfl) (Nat.le_of_ble_eq_true rfl)) eX7_wholeFrom_151 (fun H locs hP hD hS => ?_)
            have hP : va_P (dC, dI) vwCl (zs16__w vz k_fv (upd g_21 (2 : Int32).toNatClampNeg (nI g_23)) z zc (nI zn) k_fz fz) H := hP
            have hD : va_D A (zs16__w vz k_fv (upd g_21 (2 : Int32).toNatClampNeg (nI g_23)) z zc (nI zn) k_fz fz) := hD
            refine lv_iload hx hb eX7_wholeFrom_152 (lv_at hl 6 rfl) ?_
            refine lv_aload_n hx hb eX7_wholeFrom_154 rfl (lv_at hl 0 rfl) ?_
            refine lv_iload_n hx hb eX7_wholeFrom_155 rfl (lv_at hl 1 rfl) ?_
            refine lv_iconst (v := 1) hx hb eX7_wholeFrom_156 (by decide) ?_
            refine lv_iadd hx hb eX7_wholeFrom_157 ?_
            refine lv_topi (fun y_27 ey_27 => ?_)
            obtain rfl : y_27 = 3 := ey_27.trans (by decide)
            refine lv_aload_n hx hb eX7_wholeFrom_158 rfl (lv_at hl 2 rfl) ?_
            refine va_calli (va_runS (As := [.ref z, .int 3, .ref vz]) (rest := [.int g_22]) ⟨hx, hb, hml, hown, hts⟩ (c_C_7_wholeFrom_3 l dC dI _ vz k_fv (upd g_21 (2 : Int32).toNatClampNeg (nI g_23)) z zc zn k_fz fz hzn) (va_cwS 3 hts g_C_7_wholeFrom_2_C_7_wholeFrom_3 rfl rfl rfl (by decide +kernel) ⟨Nat.le_of_ble_eq_true rfl, Nat.le_of_ble_eq_true rfl⟩) ⟨pu_bl, pu_in hP hK hD⟩ rfl rfl hl.1 rfl (lv_room (Nat.le_of_ble_eq_true rfl)) eX7_wholeFrom_159 ⟨Nat.le_of_ble_eq_true rfl, Nat.le_of_ble_eq_true rfl⟩) hS (fun q _ h => pu_fr hS hA q h) (pu_fr hS hA) (fun r_28 u t H1 locs ht hvm hw hB hz1 hk1 hS => ?_)
            have hP := pu_keep hP hk1
            clear hk1 hz1 ht hvm
            generalize H1 = H at hP hS ⊢
            refine lv_iadd hx hb eX7_wholeFrom_162 ?_
            refine lv_topi (fun y_29 ey_29 => ?_)
            refine lv_istore (lv' := [(6, .int y_29), (0, .ref z), (1, .int 2), (2, .ref vz), (3, .int (nI zn)), (4, .int (nI lw_16)), (5, .int g_8), (7, .int (nI g_23))]) hx hb eX7_wholeFrom_163 hl (by decide) rfl (fun ls hl => ?_)
            refine lv_iinc (v := (nI (g_23 + 1))) (lv' := [(7, .int (nI (g_23 + 1))), (6, .int y_29), (0, .ref z), (1, .int 2), (2, .ref vz), (3, .int (nI zn)), (4, .int (nI lw_16)), (5, .int g_8)]) hx hb eX7_wholeFrom_165 hl (k := 7) rfl (nI_1 _) (by decide) rfl (fun ls hl => ?_)
            refine lv_goto (tgt := 140) hx hb eX7_wholeFrom_168 (by decide) ?_
            exact ih_25 (1073741823 - (g_23 + 1)) (by omega) _ _ _ ⟨(upd g_21 (2 : Int32).toNatClampNeg (nI g_23)), y_29, (g_23 + 1), rfl, (by omega), by first | decide | assumption, hP, hD, hS, lv_sub hl [2, 3, 4, 5, 6, 7, 1, 0] rfl⟩
        · refine lv_iload hx hb eX7_wholeFrom_136 (lv_at hl 5 rfl) ?_
          refine lv_istore (lv' := [(7, .int (nI lw_16)), (6, .int 0), (0, .ref z), (1, .int 2), (2, .ref vz), (3, .int (nI zn)), (4, .int (nI lw_16)), (5, .int g_8)]) hx hb eX7_wholeFrom_138 hl (by decide) rfl (fun ls hl => ?_)
          refine lv_iload hx hb eX7_wholeFrom_140 (lv_at hl 0 rfl) ?_
          refine lv_iload hx hb eX7_wholeFrom_142 (lv_at hl 7 rfl) ?_
          refine lv_icmp_gt (tgt := 171) hx hb eX7_wholeFrom_144 (by decide) (fun c_30 => ?_) (fun c_30 => ?_)
          · refine lv_iload hx hb eX7_wholeFrom_171 (lv_at hl 1 rfl) ?_
            exact W.iret (v := 0) hx hb hr (fun t ht hW => ⟨⟨0, (), rfl, trivial, ⟨fv, ⟨by rw [ht]; exact hP, va_K.moved hW.alike hK, hD⟩⟩⟩, hS.F ht⟩) hS.2.2 eX7_wholeFrom_173
          · exact absurd (mx_lt (by assumption) (k := lw_16) (by omega) (by omega)) c_30
      · have c_15 : 2 = (zn - 1) := (nI_eq (a := 2) (b := (zn - 1)) (Nat.le_of_ble_eq_true rfl) (by omega)).mp c_15
        refine lv_iconst (v := 0) hx hb eX7_wholeFrom_121 (by decide) ?_
        refine lv_iload hx hb eX7_wholeFrom_122 (lv_at hl 5 rfl) ?_
        refine lv_iload hx hb eX7_wholeFrom_124 (lv_at hl 4 rfl) ?_
        refine lv_isub hx hb eX7_wholeFrom_126 ?_
        refine lv_topi (fun y_31 ey_31 => ?_)
        refine lv_iconst (v := 1) hx hb eX7_wholeFrom_127 (by decide) ?_
        refine lv_iadd hx hb eX7_wholeFrom_128 ?_
        refine lv_topi (fun y_32 ey_32 => ?_)
        refine va_mmax hx hb (hml.trans hl.1.symm) hown v_12 v_13 v_10 v_14 (Nat.le_of_ble_eq_true rfl) (Nat.le_of_ble_eq_true rfl) (Nat.le_of_ble_eq_true rfl) (Nat.le_of_ble_eq_true rfl) eX7_wholeFrom_129 ?_
        refine lv_topi (fun y_33 ey_33 => ?_)
        exact W.iret (v := y_33) hx hb hr (fun t ht hW => ⟨⟨y_33, (), rfl, trivial, ⟨fv, ⟨by rw [ht]; exact hP, va_K.moved hW.alike hK, hD⟩⟩⟩, hS.F ht⟩) hS.2.2 eX7_wholeFrom_132
    · have c_13 : ¬ 2 ≤ g_9 := fun z => c_13 ((nI_leI (a := 2) (b := g_9) (Nat.le_of_ble_eq_true rfl) (Nat.lt_of_le_of_lt hg_9 (Nat.le_of_ble_eq_true rfl))).mpr z)
      refine lv_aload_n hx hb eX7_wholeFrom_34 rfl (lv_at hl 0 rfl) ?_
      refine va_get (D := (dC, dI)) (ci := 7) (v := .ref zc) (C := RX7) (T := TX7) (N := 2) hx hb hts hiX7 hown hK hP 1 rfl rfl 0 (by decide) v_2 (fun _ h9 => h9) rfl eX7_wholeFrom_35 ?_
      refine lv_iload_n hx hb eX7_wholeFrom_38 rfl (lv_at hl 1 rfl) ?_
      refine lv_iload_n hx hb eX7_wholeFrom_39 rfl (lv_at hl 3 rfl) ?_
      refine lv_imul hx hb eX7_wholeFrom_40 ?_
      refine lv_topi (fun y_34 ey_34 => ?_)
      obtain rfl : y_34 = (nI (2 * zn)) := ey_34.trans (pk_mul 2 zn)
      refine lv_iload hx hb eX7_wholeFrom_41 (lv_at hl 6 rfl) ?_
      refine lv_iadd hx hb eX7_wholeFrom_43 ?_
      refine lv_topi (fun y_35 ey_35 => ?_)
      obtain rfl : y_35 = (nI ((2 * zn) + g_9)) := ey_35.trans (nI_add (2 * zn) g_9)
      refine va_iald hx hb hK hP 2 1 rfl rfl (vp_in_nI (n := ((2 * zn) + g_9)) (by omega) (Nat.le_of_ble_eq_true rfl)) eX7_wholeFrom_44 ?_
      refine lv_topi (fun y_36 ey_36 => ?_)
      refine lv_istore (lv' := [(7, .int y_36), (0, .ref z), (1, .int 2), (2, .ref vz), (3, .int (nI zn)), (4, .int g_7), (5, .int g_8), (6, .int (nI g_9))]) hx hb eX7_wholeFrom_45 hl (by decide) rfl (fun ls hl => ?_)
      refine lv_aload_n hx hb eX7_wholeFrom_47 rfl (lv_at hl 1 rfl) ?_
      refine va_get (D := (dC, dI)) (ci := 7) (v := .ref zc) (C := RX7) (T := TX7) (N := 2) hx hb hts hiX7 hown hK hP 1 rfl rfl 0 (by decide) v_2 (fun _ h9 => h9) rfl eX7_wholeFrom_48 ?_
      refine lv_iload hx hb eX7_wholeFrom_51 (lv_at hl 7 rfl) ?_
      refine lv_iload_n hx hb eX7_wholeFrom_53 rfl (lv_at hl 4 rfl) ?_
      refine lv_imul hx hb eX7_wholeFrom_54 ?_
      refine lv_topi (fun y_37 ey_37 => ?_)
      obtain rfl : y_37 = (nI (g_9 * zn)) := ey_37.trans (pk_mul g_9 zn)
      refine lv_iload_n hx hb eX7_wholeFrom_55 rfl (lv_at hl 2 rfl) ?_
      refine lv_iadd hx hb eX7_wholeFrom_56 ?_
      refine lv_topi (fun y_38 ey_38 => ?_)
      obtain rfl : y_38 = (nI ((g_9 * zn) + 2)) := ey_38.trans (nI_add (g_9 * zn) 2)
      refine va_iald hx hb hK hP 2 1 rfl rfl (vp_in_nI (n := ((g_9 * zn) + 2)) (by first | exact zx16 (by omega) (by omega) (by omega) | exact zy16 (by omega) (by omega) | omega) (Nat.le_of_ble_eq_true rfl)) eX7_wholeFrom_57 ?_
      refine lv_topi (fun y_39 ey_39 => ?_)
      refine lv_istore (lv' := [(8, .int y_39), (7, .int y_36), (0, .ref z), (1, .int 2), (2, .ref vz), (3, .int (nI zn)), (4, .int g_7), (5, .int g_8), (6, .int (nI g_9))]) hx hb eX7_wholeFrom_58 hl (by decide) rfl (fun ls hl => ?_)
      refine lv_iload hx hb eX7_wholeFrom_60 (lv_at hl 1 rfl) ?_
      refine lv_ldc hx hb hown v_3 eX7_wholeFrom_62 ?_
      refine pu_join (fun H locs ls st => ∃ (g_40 : Int32), st = [] ∧ (0 : Int32) ≤ g_7 ∧ g_40 ≤ 21 ∧ va_P (dC, dI) vwCl (zs16__w vz k_fv fv z zc (nI zn) k_fz fz) H ∧ va_D A (zs16__w vz k_fv fv z zc (nI zn) k_fz fz) ∧ va_S A s.heap H locs ∧ lv_has ls 9 [(0, .ref z), (1, .int 2), (2, .ref vz), (3, .int (nI zn)), (4, .int g_7), (5, .int g_40), (6, .int (nI g_9)), (7, .int y_36), (8, .int y_39)]) 84 ?_ (fun j_43 => ?_)
      · rintro H locs ls st ⟨g_40, rfl, he_41, he_42, hP, hD, hS, hl⟩
        refine lv_iload hx hb eX7_wholeFrom_84 (lv_at hl 8 rfl) ?_
        refine lv_ldc hx hb hown v_3 eX7_wholeFrom_86 ?_
        refine pu_join (fun H locs ls st => ∃ (g_44 : Int32), st = [] ∧ (0 : Int32) ≤ g_44 ∧ g_40 ≤ 21 ∧ va_P (dC, dI) vwCl (zs16__w vz k_fv fv z zc (nI zn) k_fz fz) H ∧ va_D A (zs16__w vz k_fv fv z zc (nI zn) k_fz fz) ∧ va_S A s.heap H locs ∧ lv_has ls 9 [(0, .ref z), (1, .int 2), (2, .ref vz), (3, .int (nI zn)), (4, .int g_44), (5, .int g_40), (6, .int (nI g_9)), (7, .int y_36), (8, .int y_39)]) 108 ?_ (fun j_47 => ?_)
        · rintro H locs ls st ⟨g_44, rfl, he_45, he_46, hP, hD, hS, hl⟩
          refine lv_iinc (v := (nI (g_9 + 1))) (lv' := [(6, .int (nI (g_9 + 1))), (0, .ref z), (1, .int 2), (2, .ref vz), (3, .int (nI zn)), (4, .int g_44), (5, .int g_40), (7, .int y_36), (8, .int y_39)]) hx hb eX7_wholeFrom_108 hl (k := 6) rfl (nI_1 _) (by decide) rfl (fun ls hl => ?_)
          refine lv_goto (tgt := 28) hx hb eX7_wholeFrom_111 (by decide) ?_
          exact ih_12 (2 - (g_9 + 1)) (by omega) _ _ _ ⟨g_44, g_40, (g_9 + 1), rfl, (by omega), by first | decide | assumption, by first | decide | assumption, hP, hD, hS, lv_sub hl [1, 2, 3, 4, 5, 6, 0] rfl⟩
        refine lv_icmp_eq (tgt := 108) hx hb eX7_wholeFrom_88 (by decide) (fun c_48 => ?_) (fun c_48 => ?_)
        · exact j_47 _ _ _ _ ⟨g_7, rfl, by first | decide | assumption, by first | decide | assumption, hP, hD, hS, lv_sub hl [0, 1, 2, 3, 4, 5, 6, 7, 8] rfl⟩
        · refine lv_iload hx hb eX7_wholeFrom_91 (lv_at hl 4 rfl) ?_
          refine lv_aload_n hx hb eX7_wholeFrom_93 rfl (lv_at hl 2 rfl) ?_
          refine lv_iload hx hb eX7_wholeFrom_94 (lv_at hl 6 rfl) ?_
          refine va_iald hx hb hK hP 0 0 rfl rfl (vp_in_nI (n := g_9) (Nat.lt_of_le_of_lt hg_9 (Nat.le_of_ble_eq_true rfl)) (Nat.le_of_ble_eq_true rfl)) eX7_wholeFrom_96 ?_
          refine lv_topi (fun y_49 ey_49 => ?_)
          refine lv_iload hx hb eX7_wholeFrom_97 (lv_at hl 8 rfl) ?_
          refine va_calli (va_runS (As := [.int y_39]) (rest := [.int y_49, .int g_7]) ⟨hx, hb, hml, hown, hts⟩ (c_C_7_wholePart l dC dI _ y_39) (va_cwS 1 hts g_C_7_wholeFrom_2_C_7_wholePart rfl rfl rfl (by decide +kernel) ⟨Nat.le_of_ble_eq_true rfl, Nat.le_of_ble_eq_true rfl⟩) ⟨pu_bl, pu_in (hP.sub [] rfl) (hK.sub [] rfl) (hD.sub [] (by decide) rfl)⟩ rfl rfl hl.1 rfl (lv_room (Nat.le_of_ble_eq_true rfl)) eX7_wholeFrom_99 ⟨Nat.le_of_ble_eq_true rfl, Nat.le_of_ble_eq_true rfl⟩) hS (fun q _ h => pu_fr hS hA q h) (pu_fr hS hA) (fun r_50 u t H1 locs ht hvm hw hB hz1 hk1 hS => ?_)
          have hP := pu_keep hP hk1
          clear hk1 hz1 ht hvm
          generalize H1 = H at hP hS ⊢
          refine lv_isub hx hb eX7_wholeFrom_102 ?_
          refine lv_topi (fun y_51 ey_51 => ?_)
          refine va_mmax hx hb (hml.trans hl.1.symm) hown v_12 v_13 v_10 v_14 (Nat.le_of_ble_eq_true rfl) (Nat.le_of_ble_eq_true rfl) (Nat.le_of_ble_eq_true rfl) (Nat.le_of_ble_eq_true rfl) eX7_wholeFrom_103 ?_
          refine lv_topi (fun y_52 ey_52 => ?_)
          refine lv_istore (lv' := [(4, .int y_52), (0, .ref z), (1, .int 2), (2, .ref vz), (3, .int (nI zn)), (5, .int g_40), (6, .int (nI g_9)), (7, .int y_36), (8, .int y_39)]) hx hb eX7_wholeFrom_106 hl (by decide) rfl (fun ls hl => ?_)
          exact j_47 _ _ _ _ ⟨y_52, rfl, by first | decide | assumption | (rw [ey_52]; first | exact mn_21 (by assumption) | exact mx_0 (by assumption)), by first | decide | assumption, hP, hD, hS, lv_sub hl [1, 2, 3, 4, 0, 5, 6, 7, 8] rfl⟩
      refine lv_icmp_eq (tgt := 84) hx hb eX7_wholeFrom_64 (by decide) (fun c_53 => ?_) (fun c_53 => ?_)
      · exact j_43 _ _ _ _ ⟨g_8, rfl, by first | decide | assumption, by first | decide | assumption, hP, hD, hS, lv_sub hl [2, 3, 4, 5, 6, 7, 8, 1, 0] rfl⟩
      · refine lv_iload hx hb eX7_wholeFrom_67 (lv_at hl 7 rfl) ?_
        refine lv_aload_n hx hb eX7_wholeFrom_69 rfl (lv_at hl 4 rfl) ?_
        refine lv_iload hx hb eX7_wholeFrom_70 (lv_at hl 8 rfl) ?_
        refine va_iald hx hb hK hP 0 0 rfl rfl (vp_in_nI (n := g_9) (Nat.lt_of_le_of_lt hg_9 (Nat.le_of_ble_eq_true rfl)) (Nat.le_of_ble_eq_true rfl)) eX7_wholeFrom_72 ?_
        refine lv_topi (fun y_54 ey_54 => ?_)
        refine lv_iload hx hb eX7_wholeFrom_73 (lv_at hl 1 rfl) ?_
        refine va_calli (va_runS (As := [.int y_36]) (rest := [.int y_54, .int g_8]) ⟨hx, hb, hml, hown, hts⟩ (c_C_7_wholePart l dC dI _ y_36) (va_cwS 1 hts g_C_7_wholeFrom_2_C_7_wholePart rfl rfl rfl (by decide +kernel) ⟨Nat.le_of_ble_eq_true rfl, Nat.le_of_ble_eq_true rfl⟩) ⟨pu_bl, pu_in (hP.sub [] rfl) (hK.sub [] rfl) (hD.sub [] (by decide) rfl)⟩ rfl rfl hl.1 rfl (lv_room (Nat.le_of_ble_eq_true rfl)) eX7_wholeFrom_75 ⟨Nat.le_of_ble_eq_true rfl, Nat.le_of_ble_eq_true rfl⟩) hS (fun q _ h => pu_fr hS hA q h) (pu_fr hS hA) (fun r_55 u t H1 locs ht hvm hw hB hz1 hk1 hS => ?_)
        have hP := pu_keep hP hk1
        clear hk1 hz1 ht hvm
        generalize H1 = H at hP hS ⊢
        refine lv_iadd hx hb eX7_wholeFrom_78 ?_
        refine lv_topi (fun y_56 ey_56 => ?_)
        refine va_mmin hx hb (hml.trans hl.1.symm) hown v_8 v_9 v_10 v_11 (Nat.le_of_ble_eq_true rfl) (Nat.le_of_ble_eq_true rfl) (Nat.le_of_ble_eq_true rfl) (Nat.le_of_ble_eq_true rfl) eX7_wholeFrom_79 ?_
        refine lv_topi (fun y_57 ey_57 => ?_)
        refine lv_istore (lv' := [(5, .int y_57), (8, .int y_39), (7, .int y_36), (0, .ref z), (1, .int 2), (2, .ref vz), (3, .int (nI zn)), (4, .int g_7), (6, .int (nI g_9))]) hx hb eX7_wholeFrom_82 hl (by decide) rfl (fun ls hl => ?_)
        exact j_43 _ _ _ _ ⟨y_57, rfl, by first | decide | assumption, by first | decide | assumption | (rw [ey_57]; first | exact mn_21 (by assumption) | exact mx_0 (by assumption)), hP, hD, hS, lv_sub hl [3, 4, 5, 6, 7, 0, 8, 2, 1] rfl⟩
