theorem eX5_splits_0 : decode cX5_splits 0 = .ok (.aload_n 0, 1) := by decide +kernel
theorem eX5_splits_1 : decode cX5_splits 1 = .ok (.getfield 23, 3) := by decide +kernel
theorem eX5_splits_4 : decode cX5_splits 4 = .ok (.iload_n 1, 1) := by decide +kernel
theorem eX5_splits_5 : decode cX5_splits 5 = .ok (.aaload, 1) := by decide +kernel
theorem eX5_splits_6 : decode cX5_splits 6 = .ok (.astore_n 2, 1) := by decide +kernel
theorem eX5_splits_7 : decode cX5_splits 7 = .ok (.aload_n 0, 1) := by decide +kernel
theorem eX5_splits_8 : decode cX5_splits 8 = .ok (.getfield 11, 3) := by decide +kernel
theorem eX5_splits_11 : decode cX5_splits 11 = .ok (.aload_n 0, 1) := by decide +kernel
theorem eX5_splits_12 : decode cX5_splits 12 = .ok (.getfield 26, 3) := by decide +kernel
theorem eX5_splits_15 : decode cX5_splits 15 = .ok (.iload_n 1, 1) := by decide +kernel
theorem eX5_splits_16 : decode cX5_splits 16 = .ok (.iaload, 1) := by decide +kernel
theorem eX5_splits_17 : decode cX5_splits 17 = .ok (.aaload, 1) := by decide +kernel
theorem eX5_splits_18 : decode cX5_splits 18 = .ok (.astore_n 3, 1) := by decide +kernel
theorem eX5_splits_19 : decode cX5_splits 19 = .ok (.aload_n 2, 1) := by decide +kernel
theorem eX5_splits_20 : decode cX5_splits 20 = .ok (.getfield 78, 3) := by decide +kernel
theorem eX5_splits_23 : decode cX5_splits 23 = .ok (.istore 4, 2) := by decide +kernel
theorem eX5_splits_25 : decode cX5_splits 25 = .ok (.aload_n 0, 1) := by decide +kernel
theorem eX5_splits_26 : decode cX5_splits 26 = .ok (.getfield 30, 3) := by decide +kernel
theorem eX5_splits_29 : decode cX5_splits 29 = .ok (.iload_n 1, 1) := by decide +kernel
theorem eX5_splits_30 : decode cX5_splits 30 = .ok (.iaload, 1) := by decide +kernel
theorem eX5_splits_31 : decode cX5_splits 31 = .ok (.istore 5, 2) := by decide +kernel
theorem eX5_splits_33 : decode cX5_splits 33 = .ok (.iload 5, 2) := by decide +kernel
theorem eX5_splits_35 : decode cX5_splits 35 = .ok (.iload 4, 2) := by decide +kernel
theorem eX5_splits_37 : decode cX5_splits 37 = .ok (.iload 4, 2) := by decide +kernel
theorem eX5_splits_39 : decode cX5_splits 39 = .ok (.imul, 1) := by decide +kernel
theorem eX5_splits_40 : decode cX5_splits 40 = .ok (.if_icmp .ge 128, 3) := by decide +kernel
theorem eX5_splits_43 : decode cX5_splits 43 = .ok (.aload_n 3, 1) := by decide +kernel
theorem eX5_splits_44 : decode cX5_splits 44 = .ok (.getfield 106, 3) := by decide +kernel
theorem eX5_splits_47 : decode cX5_splits 47 = .ok (.iload 5, 2) := by decide +kernel
theorem eX5_splits_49 : decode cX5_splits 49 = .ok (.iaload, 1) := by decide +kernel
theorem eX5_splits_50 : decode cX5_splits 50 = .ok (.istore 6, 2) := by decide +kernel
theorem eX5_splits_52 : decode cX5_splits 52 = .ok (.iload 6, 2) := by decide +kernel
theorem eX5_splits_54 : decode cX5_splits 54 = .ok (.aload_n 2, 1) := by decide +kernel
theorem eX5_splits_55 : decode cX5_splits 55 = .ok (.getfield 106, 3) := by decide +kernel
theorem eX5_splits_58 : decode cX5_splits 58 = .ok (.iload 5, 2) := by decide +kernel
theorem eX5_splits_60 : decode cX5_splits 60 = .ok (.iaload, 1) := by decide +kernel
theorem eX5_splits_61 : decode cX5_splits 61 = .ok (.if_icmp .ge 101, 3) := by decide +kernel
theorem eX5_splits_64 : decode cX5_splits 64 = .ok (.iload 5, 2) := by decide +kernel
theorem eX5_splits_66 : decode cX5_splits 66 = .ok (.iload 4, 2) := by decide +kernel
theorem eX5_splits_68 : decode cX5_splits 68 = .ok (.idiv, 1) := by decide +kernel
theorem eX5_splits_69 : decode cX5_splits 69 = .ok (.istore 7, 2) := by decide +kernel
theorem eX5_splits_71 : decode cX5_splits 71 = .ok (.iload 5, 2) := by decide +kernel
theorem eX5_splits_73 : decode cX5_splits 73 = .ok (.iload 4, 2) := by decide +kernel
theorem eX5_splits_75 : decode cX5_splits 75 = .ok (.irem, 1) := by decide +kernel
theorem eX5_splits_76 : decode cX5_splits 76 = .ok (.istore 8, 2) := by decide +kernel
theorem eX5_splits_78 : decode cX5_splits 78 = .ok (.aload_n 0, 1) := by decide +kernel
theorem eX5_splits_79 : decode cX5_splits 79 = .ok (.getfield 23, 3) := by decide +kernel
theorem eX5_splits_82 : decode cX5_splits 82 = .ok (.iload_n 1, 1) := by decide +kernel
theorem eX5_splits_83 : decode cX5_splits 83 = .ok (.iconst 1, 1) := by decide +kernel
theorem eX5_splits_84 : decode cX5_splits 84 = .ok (.iadd, 1) := by decide +kernel
theorem eX5_splits_85 : decode cX5_splits 85 = .ok (.aaload, 1) := by decide +kernel
theorem eX5_splits_86 : decode cX5_splits 86 = .ok (.astore 9, 2) := by decide +kernel
theorem eX5_splits_88 : decode cX5_splits 88 = .ok (.aload 9, 2) := by decide +kernel
theorem eX5_splits_90 : decode cX5_splits 90 = .ok (.aload_n 2, 1) := by decide +kernel
theorem eX5_splits_91 : decode cX5_splits 91 = .ok (.invokevirtual 60, 3) := by decide +kernel
theorem eX5_splits_94 : decode cX5_splits 94 = .ok (.aload 9, 2) := by decide +kernel
theorem eX5_splits_96 : decode cX5_splits 96 = .ok (.iload 8, 2) := by decide +kernel
theorem eX5_splits_98 : decode cX5_splits 98 = .ok (.iload 7, 2) := by decide +kernel
theorem eX5_splits_100 : decode cX5_splits 100 = .ok (.iconst 1, 1) := by decide +kernel
theorem eX5_splits_101 : decode cX5_splits 101 = .ok (.iload 6, 2) := by decide +kernel
theorem eX5_splits_103 : decode cX5_splits 103 = .ok (.isub, 1) := by decide +kernel
theorem eX5_splits_104 : decode cX5_splits 104 = .ok (.invokevirtual 85, 3) := by decide +kernel
theorem eX5_splits_107 : decode cX5_splits 107 = .ok (.pop, 1) := by decide +kernel
theorem eX5_splits_108 : decode cX5_splits 108 = .ok (.aload_n 2, 1) := by decide +kernel
theorem eX5_splits_109 : decode cX5_splits 109 = .ok (.iload 7, 2) := by decide +kernel
theorem eX5_splits_111 : decode cX5_splits 111 = .ok (.iload 8, 2) := by decide +kernel
theorem eX5_splits_113 : decode cX5_splits 113 = .ok (.iload 6, 2) := by decide +kernel
theorem eX5_splits_115 : decode cX5_splits 115 = .ok (.invokevirtual 85, 3) := by decide +kernel
theorem eX5_splits_118 : decode cX5_splits 118 = .ok (.pop, 1) := by decide +kernel
theorem eX5_splits_119 : decode cX5_splits 119 = .ok (.aload_n 0, 1) := by decide +kernel
theorem eX5_splits_120 : decode cX5_splits 120 = .ok (.getfield 30, 3) := by decide +kernel
theorem eX5_splits_123 : decode cX5_splits 123 = .ok (.iload_n 1, 1) := by decide +kernel
theorem eX5_splits_124 : decode cX5_splits 124 = .ok (.iload 5, 2) := by decide +kernel
theorem eX5_splits_126 : decode cX5_splits 126 = .ok (.iconst 1, 1) := by decide +kernel
theorem eX5_splits_127 : decode cX5_splits 127 = .ok (.iadd, 1) := by decide +kernel
theorem eX5_splits_128 : decode cX5_splits 128 = .ok (.iastore, 1) := by decide +kernel
theorem eX5_splits_129 : decode cX5_splits 129 = .ok (.aload_n 0, 1) := by decide +kernel
theorem eX5_splits_130 : decode cX5_splits 130 = .ok (.getfield 30, 3) := by decide +kernel
theorem eX5_splits_133 : decode cX5_splits 133 = .ok (.iload_n 1, 1) := by decide +kernel
theorem eX5_splits_134 : decode cX5_splits 134 = .ok (.iconst 1, 1) := by decide +kernel
theorem eX5_splits_135 : decode cX5_splits 135 = .ok (.iadd, 1) := by decide +kernel
theorem eX5_splits_136 : decode cX5_splits 136 = .ok (.iconst 0, 1) := by decide +kernel
theorem eX5_splits_137 : decode cX5_splits 137 = .ok (.iastore, 1) := by decide +kernel
theorem eX5_splits_138 : decode cX5_splits 138 = .ok (.aload_n 0, 1) := by decide +kernel
theorem eX5_splits_139 : decode cX5_splits 139 = .ok (.getfield 26, 3) := by decide +kernel
theorem eX5_splits_142 : decode cX5_splits 142 = .ok (.iload_n 1, 1) := by decide +kernel
theorem eX5_splits_143 : decode cX5_splits 143 = .ok (.iconst 1, 1) := by decide +kernel
theorem eX5_splits_144 : decode cX5_splits 144 = .ok (.iadd, 1) := by decide +kernel
theorem eX5_splits_145 : decode cX5_splits 145 = .ok (.aload_n 0, 1) := by decide +kernel
theorem eX5_splits_146 : decode cX5_splits 146 = .ok (.aload 9, 2) := by decide +kernel
theorem eX5_splits_148 : decode cX5_splits 148 = .ok (.aload_n 0, 1) := by decide +kernel
theorem eX5_splits_149 : decode cX5_splits 149 = .ok (.getfield 26, 3) := by decide +kernel
theorem eX5_splits_152 : decode cX5_splits 152 = .ok (.iload_n 1, 1) := by decide +kernel
theorem eX5_splits_153 : decode cX5_splits 153 = .ok (.iaload, 1) := by decide +kernel
theorem eX5_splits_154 : decode cX5_splits 154 = .ok (.iconst 1, 1) := by decide +kernel
theorem eX5_splits_155 : decode cX5_splits 155 = .ok (.iadd, 1) := by decide +kernel
theorem eX5_splits_156 : decode cX5_splits 156 = .ok (.invokevirtual 89, 3) := by decide +kernel
theorem eX5_splits_159 : decode cX5_splits 159 = .ok (.iastore, 1) := by decide +kernel
theorem eX5_splits_160 : decode cX5_splits 160 = .ok (.iconst 1, 1) := by decide +kernel
theorem eX5_splits_161 : decode cX5_splits 161 = .ok (.ireturn, 1) := by decide +kernel
theorem eX5_splits_162 : decode cX5_splits 162 = .ok (.iinc 5 1, 3) := by decide +kernel
theorem eX5_splits_165 : decode cX5_splits 165 = .ok (.goto (-132), 3) := by decide +kernel
theorem eX5_splits_168 : decode cX5_splits 168 = .ok (.iconst 0, 1) := by decide +kernel
theorem eX5_splits_169 : decode cX5_splits 169 = .ok (.ireturn, 1) := by decide +kernel
abbrev vs_C_5_splits : List Cond := .code yX5_splits cX5_splits 10 (some .boolean) :: CM
theorem g_C_5_splits_E_7_copyOf_16 : GoodIn vs_C_5_splits (wsV RX5 60 RX7 yX7_copyOf vs_E_7_copyOf_16) := cm_gV cm_333 cm_130 cm_131 cm_45 cm_132
theorem g_C_5_splits_E_7_narrow_16 : GoodIn vs_C_5_splits (wsV RX5 85 RX7 yX7_narrow vs_E_7_narrow_16) := cm_gV cm_345 cm_43 cm_44 cm_45 cm_46
theorem g_C_5_splits_C_5_nextCover : GoodIn vs_C_5_splits (wsV RX5 89 RX5 yX5_nextCover vs_C_5_nextCover) := cm_gV cm_351 cm_352 cm_353 cm_332 cm_354
set_option maxHeartbeats 4000000 in
set_option maxRecDepth 100000 in
theorem c_C_5_splits (l : Launch) (dC : Nat → ClassId) (dI : Nat → Nat → Nat) (sz : Nat) (rm : Nat) (rcv : Nat) (rk : Nat) (rmd : Nat) (ru : Nat) (rpc : Nat) (rct : Nat) (rce : Nat) (k_fcv : ClassId) (fcv : Nat → Option Nat) (k_fmd : ClassId) (k_fpc : ClassId) (k_fct : ClassId) (fct : Nat → Int32) (k_fce : ClassId) (q_fce : Nat → Nat) (N : Nat) (az ac : Nat → Nat) (kz : Nat → ClassId) (qs : Nat → Nat) (fz : Nat → Nat → Int32) (a0 : Nat) (c0 : Nat) (hrk : rk ≤ 120) (hru : ru ≤ 28) (hN : 393 ≤ N) (ha0 : a0 ≤ 119) (hq0 : ctk (a0 + 1) rk fct) (hq1 : cv_ok rk fcv az) (hq2 : fct (nI a0).toNatClampNeg = nI c0) (hq3 : c0 < rk) (hq4 : a0 ≤ c0) : Met l yX5_splits vs_C_5_splits ({ frames := 3, cells := 0, slots := 0, locals := 76 }) (va_Pc [.ref rm, .int (nI a0)] (pu_B (dC, dI) ((rm__w rm rcv (nI rk) rmd (nI ru) rpc rct rce (az 392) k_fcv fcv k_fmd (zs 242 28 az) k_fpc (zs 270 122 az) k_fct fct k_fce (bN 16 q_fce)) ++ zp 4 16 N az ac kz qs fz) ((rm__t k_fcv k_fmd k_fpc k_fct k_fce) ++ zt N kz) sz)) (va_Qi (fun (r : Int32) (u : Int32) => r = u ∧ (∃ v : Nat, v ≤ 1 ∧ r = nI v)) (fun u t => ∃ (z_fct : Nat → Int32) (z_fce : Nat → Nat) (z_fz : Nat → Nat → Int32) (z_qs : Nat → Nat), pu_E (dC, dI) ((rm__w rm rcv (nI rk) rmd (nI ru) rpc rct rce (az 392) k_fcv fcv k_fmd (zs 242 28 az) k_fpc (zs 270 122 az) k_fct z_fct k_fce (bN 16 z_fce)) ++ zp 4 16 N az ac kz z_qs z_fz) ((rm__t k_fcv k_fmd k_fpc k_fct k_fce) ++ zt N kz) (va_A (((rm__w rm rcv (nI rk) rmd (nI ru) rpc rct rce (az 392) k_fcv fcv k_fmd (zs 242 28 az) k_fpc (zs 270 122 az) k_fct fct k_fce (bN 16 q_fce)) ++ zp 4 16 N az ac kz qs fz)) sz) t ∧ (ctk (a0 + 1) rk z_fct) ∧ (u = 0 ∨ z_fct (nI (a0 + 1)).toNatClampNeg = -1 ∨ ctk (a0 + 1 + 1) rk z_fct)) (va_A (((rm__w rm rcv (nI rk) rmd (nI ru) rpc rct rce (az 392) k_fcv fcv k_fmd (zs 242 28 az) k_fpc (zs 270 122 az) k_fct fct k_fce (bN 16 q_fce)) ++ zp 4 16 N az ac kz qs fz)) sz)) 0 0 (va_A (((rm__w rm rcv (nI rk) rmd (nI ru) rpc rct rce (az 392) k_fcv fcv k_fmd (zs 242 28 az) k_fpc (zs 270 122 az) k_fct fct k_fce (bN 16 q_fce)) ++ zp 4 16 N az ac kz qs fz)) sz) := by
  refine Met.ofW (cc := cX5_splits) (maxL := 10) (ret := (some .boolean)) (by decide) rfl ?_
  intro p e s m args below meth c s₁ B hml hv
  obtain ⟨rfl, rfl, hP, hK, hD0⟩ := hv
  have hx := B.exec
  have hb := B.bytes
  have hr := B.returns
  have hts := atoms_spec (ws := vs_C_5_splits) B.pre
  have v_1 := hts (.fieldLink RX5 23 "ClockReach$Remainder" "pieces" "[LClockReach$Zone;") (List.mem_cons_of_mem _ cm_347)
  have v_2 := hts (.fieldLink RX5 11 "ClockReach$Remainder" "covers" "[LClockReach$Zone;") (List.mem_cons_of_mem _ cm_319)
  have v_3 := hts (.fieldLink RX5 26 "ClockReach$Remainder" "cutting" "[I") (List.mem_cons_of_mem _ cm_348)
  have v_4 := hts (.fieldLink RX5 78 "ClockReach$Zone" "size" "I") (List.mem_cons_of_mem _ cm_343)
  have v_5 := hts (.fieldLink RX5 30 "ClockReach$Remainder" "cells" "[I") (List.mem_cons_of_mem _ cm_349)
  have v_6 := hts (.fieldLink RX5 106 "ClockReach$Zone" "cells" "[I") (List.mem_cons_of_mem _ cm_363)
  have hown : s.vm.findClass RX5 = some m.cls := findClass_of_methodNamed B.named
  have hlocks := B.notSynchronized
  have hiX5 : ∀ w ∈ wsX50, w ∈ vs_C_5_splits := fun _ h => List.mem_cons_of_mem _ (cm_X5 h)
  have hiX7 : ∀ w ∈ wsX70, w ∈ vs_C_5_splits := fun _ h => List.mem_cons_of_mem _ (cm_X7 h)
  have hD := hD0.self (sz := s.heap.size)
  generalize hAe : va_A (((rm__w rm rcv (nI rk) rmd (nI ru) rpc rct rce (az 392) k_fcv fcv k_fmd (zs 242 28 az) k_fpc (zs 270 122 az) k_fct fct k_fce (bN 16 q_fce)) ++ zp 4 16 N az ac kz qs fz)) s.heap.size = A at hD ⊢
  have hA : ∀ q : Nat, s.heap.size ≤ q → A q := fun q h => by rw [← hAe]; exact Or.inr h
  have hS : va_S A s.heap s.heap [] := va_S.rf
  have hl := lv_entry ([.ref rm, .int (nI a0)]) (n := 10) (Nat.le_of_ble_eq_true rfl)
  rw [lg_entry_eq]
  generalize (lg_sl ([.ref rm, .int (nI a0)]) ++ List.replicate (10 - (lg_sl ([.ref rm, .int (nI a0)])).length) Slot.unset).toArray = ls at hl ⊢
  have hl : lv_has ls 10 [(0, .ref rm), (1, .int (nI a0))] := hl
  refine lv_aload_n hx hb eX5_splits_0 rfl (lv_at hl 0 rfl) ?_
  refine va_get (D := (dC, dI)) (ci := 5) (v := .ref rpc) (C := RX5) (T := TX5) (N := 8) hx hb hts hiX5 hown hK hP 0 rfl rfl 4 (by decide) v_1 (fun _ h9 => h9) rfl eX5_splits_1 ?_
  refine lv_iload_n hx hb eX5_splits_4 rfl (lv_at hl 1 rfl) ?_
  refine va_aldq hx hb hK hP 3 2 rfl rfl (vp_in_nI (n := a0) (Nat.lt_of_le_of_lt ha0 (Nat.le_of_ble_eq_true rfl)) (Nat.le_of_ble_eq_true rfl)) eX5_splits_5 ?_
  refine W.eq (g2 := F0 m 6 ls [.ref (az (270 + a0))]) (by rw [zs_get (Nat.lt_of_le_of_lt ha0 (Nat.le_of_ble_eq_true rfl)) (by omega)]) ?_
  refine lv_astore_n (lv' := [(2, .ref (az (270 + a0))), (0, .ref rm), (1, .int (nI a0))]) hx hb eX5_splits_6 rfl hl (by decide) rfl (fun ls hl => ?_)
  refine lv_aload_n hx hb eX5_splits_7 rfl (lv_at hl 1 rfl) ?_
  refine va_get (D := (dC, dI)) (ci := 5) (v := .ref rcv) (C := RX5) (T := TX5) (N := 8) hx hb hts hiX5 hown hK hP 0 rfl rfl 0 (by decide) v_2 (fun _ h9 => h9) rfl eX5_splits_8 ?_
  refine lv_aload_n hx hb eX5_splits_11 rfl (lv_at hl 1 rfl) ?_
  refine va_get (D := (dC, dI)) (ci := 5) (v := .ref rct) (C := RX5) (T := TX5) (N := 8) hx hb hts hiX5 hown hK hP 0 rfl rfl 5 (by decide) v_3 (fun _ h9 => h9) rfl eX5_splits_12 ?_
  refine lv_iload_n hx hb eX5_splits_15 rfl (lv_at hl 2 rfl) ?_
  refine va_iald hx hb hK hP 4 3 rfl rfl (vp_in_nI (n := a0) (Nat.lt_of_le_of_lt ha0 (Nat.le_of_ble_eq_true rfl)) (Nat.le_of_ble_eq_true rfl)) eX5_splits_16 ?_
  refine lv_topi (fun y_1 ey_1 => ?_)
  obtain rfl : y_1 = nI c0 := ey_1.trans hq2
  obtain ⟨kc_2, hkc_2, ekc_2⟩ := cv_get (i := c0) (f := fcv) (by assumption) (by omega) (by omega)
  refine va_aldq hx hb hK hP 1 0 rfl rfl (vp_in_nI (n := c0) (by omega) (Nat.le_of_ble_eq_true rfl)) eX5_splits_17 ?_
  refine W.eq (g2 := F0 m 18 ls [.ref (az kc_2)]) (by rw [ekc_2]) ?_
  refine lv_astore_n (lv' := [(3, .ref (az kc_2)), (2, .ref (az (270 + a0))), (0, .ref rm), (1, .int (nI a0))]) hx hb eX5_splits_18 rfl hl (by decide) rfl (fun ls hl => ?_)
  refine lv_aload_n hx hb eX5_splits_19 rfl (lv_at hl 1 rfl) ?_
  have hPz := zp_cut (k := (270 + a0)) hP (by omega)
  refine va_get (D := (dC, dI)) (ci := 7) (v := .int (nI (min (qs (270 + a0)) 4))) (C := RX7) (T := TX7) (N := 2) hx hb hts hiX7 hown hK hPz 0 rfl rfl 1 (by decide) v_4 (fun _ h9 => h9) rfl eX5_splits_20 ?_
  clear hPz
  obtain ⟨zn_4, hzn_4, ezn_4⟩ : ∃ q : Nat, q ≤ 4 ∧ nI (min (qs (270 + a0)) 4) = nI q := ⟨_, Nat.min_le_right _ _, rfl⟩
  have hqzn_4 := zz4 hzn_4
  refine lv_topi (fun y_3 ey_3 => ?_)
  obtain rfl : y_3 = nI zn_4 := ey_3.trans ezn_4
  refine lv_istore (lv' := [(4, .int (nI zn_4)), (3, .ref (az kc_2)), (2, .ref (az (270 + a0))), (0, .ref rm), (1, .int (nI a0))]) hx hb eX5_splits_23 hl (by decide) rfl (fun ls hl => ?_)
  refine lv_aload_n hx hb eX5_splits_25 rfl (lv_at hl 3 rfl) ?_
  refine va_get (D := (dC, dI)) (ci := 5) (v := .ref rce) (C := RX5) (T := TX5) (N := 8) hx hb hts hiX5 hown hK hP 0 rfl rfl 6 (by decide) v_5 (fun _ h9 => h9) rfl eX5_splits_26 ?_
  refine lv_iload_n hx hb eX5_splits_29 rfl (lv_at hl 4 rfl) ?_
  refine va_iald hx hb hK hP 5 4 rfl rfl (vp_in_nI (n := a0) (Nat.lt_of_le_of_lt ha0 (Nat.le_of_ble_eq_true rfl)) (Nat.le_of_ble_eq_true rfl)) eX5_splits_30 ?_
  refine lv_topi (fun y_5 ey_5 => ?_)
  obtain ⟨u_6, hu_6, qu_6⟩ := bN_get 16 q_fce (((nI a0) : Int32).toNatClampNeg)
  obtain rfl : y_5 = nI u_6 := ey_5.trans qu_6
  refine lv_istore (lv' := [(5, .int (nI u_6)), (4, .int (nI zn_4)), (3, .ref (az kc_2)), (2, .ref (az (270 + a0))), (0, .ref rm), (1, .int (nI a0))]) hx hb eX5_splits_31 hl (by decide) rfl (fun ls hl => ?_)
  refine pu_while (fun nn H locs ls => ∃ (g_8 : Nat), nn = 16 - g_8 ∧ g_8 ≤ 16 ∧ va_P (dC, dI) vwCl ((rm__w rm rcv (nI rk) rmd (nI ru) rpc rct rce (az 392) k_fcv fcv k_fmd (zs 242 28 az) k_fpc (zs 270 122 az) k_fct fct k_fce (bN 16 q_fce)) ++ zp 4 16 N az ac kz qs fz) H ∧ va_D A ((rm__w rm rcv (nI rk) rmd (nI ru) rpc rct rce (az 392) k_fcv fcv k_fmd (zs 242 28 az) k_fpc (zs 270 122 az) k_fct fct k_fce (bN 16 q_fce)) ++ zp 4 16 N az ac kz qs fz) ∧ va_S A s.heap H locs ∧ lv_has ls 10 [(0, .ref rm), (1, .int (nI a0)), (2, .ref (az (270 + a0))), (3, .ref (az kc_2)), (4, .int (nI zn_4)), (5, .int (nI g_8))]) 33 ?_ _ _ _ _ ⟨u_6, rfl, hu_6, hP, hD, hS, lv_sub hl [4, 5, 3, 2, 1, 0] rfl⟩
  rintro nn ih_9 H locs ls ⟨g_8, rfl, hg_8, hP, hD, hS, hl⟩
  refine lv_iload hx hb eX5_splits_33 (lv_at hl 5 rfl) ?_
  refine lv_iload hx hb eX5_splits_35 (lv_at hl 4 rfl) ?_
  refine lv_iload hx hb eX5_splits_37 (lv_at hl 4 rfl) ?_
  refine lv_imul hx hb eX5_splits_39 ?_
  refine lv_topi (fun y_10 ey_10 => ?_)
  obtain rfl : y_10 = (nI (zn_4 * zn_4)) := ey_10.trans (pk_mul zn_4 zn_4)
  refine lv_icmp_ge (tgt := 168) hx hb eX5_splits_40 (by decide) (fun c_11 => ?_) (fun c_11 => ?_)
  · have c_11 : (zn_4 * zn_4) ≤ g_8 := (nI_leI (a := (zn_4 * zn_4)) (b := g_8) (by first | omega | exact Nat.lt_trans (zx16 (by omega) (by omega) (by omega)) (Nat.le_of_ble_eq_true rfl) | exact Nat.lt_trans (zy16 (by omega) (by omega)) (Nat.le_of_ble_eq_true rfl) | exact Nat.lt_trans (zx25 (by omega) (by omega) (by omega)) (Nat.le_of_ble_eq_true rfl) | exact Nat.lt_trans (zy25 (by omega) (by omega)) (Nat.le_of_ble_eq_true rfl)) (Nat.lt_of_le_of_lt hg_8 (Nat.le_of_ble_eq_true rfl))).mp c_11
    refine lv_iconst (v := 0) hx hb eX5_splits_168 (by decide) ?_
    exact W.zret (v := 0) (ty := .boolean) hx hb hr (rfl) (fun t ht hW => ⟨⟨0, 0, rfl, ⟨rfl, ⟨0, (Nat.le_of_ble_eq_true rfl), rfl⟩⟩, ⟨fct, q_fce, fz, qs, ⟨by rw [ht]; exact hP, va_K.moved hW.alike hK, hD⟩, hq0, Or.inl rfl⟩⟩, hS.F ht⟩) hS.2.2 eX5_splits_169
  · have c_11 : ¬ (zn_4 * zn_4) ≤ g_8 := fun z => c_11 ((nI_leI (a := (zn_4 * zn_4)) (b := g_8) (by first | omega | exact Nat.lt_trans (zx16 (by omega) (by omega) (by omega)) (Nat.le_of_ble_eq_true rfl) | exact Nat.lt_trans (zy16 (by omega) (by omega)) (Nat.le_of_ble_eq_true rfl) | exact Nat.lt_trans (zx25 (by omega) (by omega) (by omega)) (Nat.le_of_ble_eq_true rfl) | exact Nat.lt_trans (zy25 (by omega) (by omega)) (Nat.le_of_ble_eq_true rfl)) (Nat.lt_of_le_of_lt hg_8 (Nat.le_of_ble_eq_true rfl))).mpr z)
    refine lv_aload_n hx hb eX5_splits_43 rfl (lv_at hl 3 rfl) ?_
    have hPz := zp_cut (k := kc_2) hP (by omega)
    refine va_get (D := (dC, dI)) (ci := 7) (v := .ref (ac kc_2)) (C := RX7) (T := TX7) (N := 2) hx hb hts hiX7 hown hK hPz 0 rfl rfl 0 (by decide) v_6 (fun _ h9 => h9) rfl eX5_splits_44 ?_
    clear hPz
    refine lv_iload hx hb eX5_splits_47 (lv_at hl 5 rfl) ?_
    have hPz := zp_cut (k := kc_2) hP (by omega)
    have hKz : va_K (dC, dI) vwCl ([] ++ [(kz kc_2, .int)]) s := zp_K (T' := []) hK (by omega) [] rfl
    refine va_iald hx hb hKz hPz 1 0 rfl rfl (vp_in_nI (n := g_8) (by omega) (Nat.le_of_ble_eq_true rfl)) eX5_splits_49 ?_
    clear hPz hKz
    refine lv_topi (fun y_12 ey_12 => ?_)
    refine lv_istore (lv' := [(6, .int y_12), (0, .ref rm), (1, .int (nI a0)), (2, .ref (az (270 + a0))), (3, .ref (az kc_2)), (4, .int (nI zn_4)), (5, .int (nI g_8))]) hx hb eX5_splits_50 hl (by decide) rfl (fun ls hl => ?_)
    refine lv_iload hx hb eX5_splits_52 (lv_at hl 0 rfl) ?_
    refine lv_aload_n hx hb eX5_splits_54 rfl (lv_at hl 3 rfl) ?_
    have hPz := zp_cut (k := (270 + a0)) hP (by omega)
    refine va_get (D := (dC, dI)) (ci := 7) (v := .ref (ac (270 + a0))) (C := RX7) (T := TX7) (N := 2) hx hb hts hiX7 hown hK hPz 0 rfl rfl 0 (by decide) v_6 (fun _ h9 => h9) rfl eX5_splits_55 ?_
    clear hPz
    refine lv_iload hx hb eX5_splits_58 (lv_at hl 6 rfl) ?_
    have hPz := zp_cut (k := (270 + a0)) hP (by omega)
    have hKz : va_K (dC, dI) vwCl ([] ++ [(kz (270 + a0), .int)]) s := zp_K (T' := []) hK (by omega) [] rfl
    refine va_iald hx hb hKz hPz 1 0 rfl rfl (vp_in_nI (n := g_8) (by omega) (Nat.le_of_ble_eq_true rfl)) eX5_splits_60 ?_
    clear hPz hKz
    refine lv_topi (fun y_13 ey_13 => ?_)
    refine lv_icmp_ge (tgt := 162) hx hb eX5_splits_61 (by decide) (fun c_14 => ?_) (fun c_14 => ?_)
    · refine lv_iinc (v := (nI (g_8 + 1))) (lv' := [(5, .int (nI (g_8 + 1))), (6, .int y_12), (0, .ref rm), (1, .int (nI a0)), (2, .ref (az (270 + a0))), (3, .ref (az kc_2)), (4, .int (nI zn_4))]) hx hb eX5_splits_162 hl (k := 6) rfl (nI_1 _) (by decide) rfl (fun ls hl => ?_)
      refine lv_goto (tgt := 33) hx hb eX5_splits_165 (by decide) ?_
      exact ih_9 (16 - (g_8 + 1)) (by omega) _ _ _ ⟨(g_8 + 1), rfl, (by omega), hP, hD, hS, lv_sub hl [2, 3, 4, 5, 6, 0] rfl⟩
    · refine lv_iload hx hb eX5_splits_64 (lv_at hl 6 rfl) ?_
      refine lv_iload hx hb eX5_splits_66 (lv_at hl 5 rfl) ?_
      refine lv_idiv hx hb eX5_splits_68 (dv_0 (a := g_8) (n := zn_4) (by omega) (by omega)) ?_
      refine lv_topi (fun y_15 ey_15 => ?_)
      obtain ⟨u_16, hu_16, qu_16⟩ := dv_q (a := g_8) (n := zn_4) (by omega) (by omega)
      obtain rfl : y_15 = nI u_16 := ey_15.trans qu_16
      refine lv_istore (lv' := [(7, .int (nI u_16)), (6, .int y_12), (0, .ref rm), (1, .int (nI a0)), (2, .ref (az (270 + a0))), (3, .ref (az kc_2)), (4, .int (nI zn_4)), (5, .int (nI g_8))]) hx hb eX5_splits_69 hl (by decide) rfl (fun ls hl => ?_)
      refine lv_iload hx hb eX5_splits_71 (lv_at hl 7 rfl) ?_
      refine lv_iload hx hb eX5_splits_73 (lv_at hl 6 rfl) ?_
      refine lv_irem hx hb eX5_splits_75 (dv_0 (a := g_8) (n := zn_4) (by omega) (by omega)) ?_
      refine lv_topi (fun y_17 ey_17 => ?_)
      obtain ⟨u_18, hu_18, qu_18⟩ := dv_r (a := g_8) (n := zn_4) (by omega) (by omega)
      obtain rfl : y_17 = nI u_18 := ey_17.trans qu_18
      refine lv_istore (lv' := [(8, .int (nI u_18)), (7, .int (nI u_16)), (6, .int y_12), (0, .ref rm), (1, .int (nI a0)), (2, .ref (az (270 + a0))), (3, .ref (az kc_2)), (4, .int (nI zn_4)), (5, .int (nI g_8))]) hx hb eX5_splits_76 hl (by decide) rfl (fun ls hl => ?_)
      refine lv_aload_n hx hb eX5_splits_78 rfl (lv_at hl 3 rfl) ?_
      refine va_get (D := (dC, dI)) (ci := 5) (v := .ref rpc) (C := RX5) (T := TX5) (N := 8) hx hb hts hiX5 hown hK hP 0 rfl rfl 4 (by decide) v_1 (fun _ h9 => h9) rfl eX5_splits_79 ?_
      refine lv_iload_n hx hb eX5_splits_82 rfl (lv_at hl 4 rfl) ?_
      refine lv_iconst (v := 1) hx hb eX5_splits_83 (by decide) ?_
      refine lv_iadd hx hb eX5_splits_84 ?_
      refine lv_topi (fun y_19 ey_19 => ?_)
      obtain rfl : y_19 = (nI (a0 + 1)) := ey_19.trans (nI_add a0 1)
      refine va_aldq hx hb hK hP 3 2 rfl rfl (vp_in_nI (n := (a0 + 1)) (by omega) (Nat.le_of_ble_eq_true rfl)) eX5_splits_85 ?_
      refine W.eq (g2 := F0 m 86 ls [.ref (az (270 + (a0 + 1)))]) (by rw [zs_get (by omega) (by omega)]) ?_
      refine lv_astore (lv' := [(9, .ref (az (270 + (a0 + 1)))), (8, .int (nI u_18)), (7, .int (nI u_16)), (6, .int y_12), (0, .ref rm), (1, .int (nI a0)), (2, .ref (az (270 + a0))), (3, .ref (az kc_2)), (4, .int (nI zn_4)), (5, .int (nI g_8))]) hx hb eX5_splits_86 hl (by decide) rfl (fun ls hl => ?_)
      refine lv_aload hx hb eX5_splits_88 (lv_at hl 0 rfl) ?_
      refine lv_aload_n hx hb eX5_splits_90 rfl (lv_at hl 6 rfl) ?_
      have hPz := zp_cut (k := (270 + (a0 + 1))) hP (by omega)
      have hPy := zp_cut (k := (270 + a0)) hP (by omega)
      have hPc : va_P (dC, dI) vwCl ([(az (270 + a0), .inr (7, [.ref (ac (270 + a0)), .int (nI (min (qs (270 + a0)) 4))])), (ac (270 + a0), .inl (kz (270 + a0), 16, .inl (fz (270 + a0))))] ++ [(az (270 + (a0 + 1)), .inr (7, [.ref (ac (270 + (a0 + 1))), .int (nI (min (qs (270 + (a0 + 1))) 4))])), (ac (270 + (a0 + 1)), .inl (kz (270 + (a0 + 1)), 16, .inl (fz (270 + (a0 + 1)))))]) _ := va_P.app hPy hPz
      have hDc : va_D A ([(az (270 + a0), .inr (7, [.ref (ac (270 + a0)), .int (nI (min (qs (270 + a0)) 4))])), (ac (270 + a0), .inl (kz (270 + a0), 16, .inl (fz (270 + a0))))] ++ [(az (270 + (a0 + 1)), .inr (7, [.ref (ac (270 + (a0 + 1))), .int (nI (min (qs (270 + (a0 + 1))) 4))])), (ac (270 + (a0 + 1)), .inl (kz (270 + (a0 + 1)), 16, .inl (fz (270 + (a0 + 1)))))]) := zp_cutD2 hD (by omega) (by omega) (by omega)
      have hKc : va_K (dC, dI) vwCl [(kz (270 + a0), .int), (kz (270 + (a0 + 1)), .int)] s := zp_K2 hK (by omega) (by omega)
      have hFc := pu_free hDc hS hA
      refine va_callv (va_runV (As := [.ref (az (270 + a0))]) (rest := []) ⟨hx, hb, hml, hown, hts⟩ (c_E_7_copyOf_16 l dC dI _ (az (270 + a0)) (ac (270 + a0)) (min (qs (270 + a0)) 4) (kz (270 + a0)) (fz (270 + a0)) (az (270 + (a0 + 1))) (ac (270 + (a0 + 1))) (min (qs (270 + (a0 + 1))) 4) (kz (270 + (a0 + 1))) (fz (270 + (a0 + 1))) (Nat.min_le_right _ _) (Nat.min_le_right _ _)) (cwV 1 hts g_C_5_splits_E_7_copyOf_16 rfl rfl rfl (by decide +kernel) ⟨Nat.le_of_ble_eq_true rfl, Nat.le_of_ble_eq_true rfl⟩) ⟨pu_bl, va_recv hK hPz (ci := 7) (q0 := 0) rfl rfl, pu_in hPc hKc hDc⟩ rfl rfl hl.1 rfl (lv_room (Nat.le_of_ble_eq_true rfl)) eX5_splits_91 ⟨Nat.le_of_ble_eq_true rfl, Nat.le_of_ble_eq_true rfl⟩) hS (fun q _ h => hFc q h) hFc (fun u t H1 locs ht hvm hw hB hz1 hk1 hS => ?_)
      obtain ⟨z_fz_21, ⟨hP1, -, hD1⟩, xr_20_0⟩ := hB
      rw [ht] at hP1
      obtain ⟨qs_22, fz_23, hP, hD⟩ := zp_put (wr := [(az (270 + a0), .inr (7, [.ref (ac (270 + a0)), .int (nI (min (qs (270 + a0)) 4))])), (ac (270 + a0), .inl (kz (270 + a0), 16, .inl (fz (270 + a0))))]) (k := (270 + (a0 + 1))) hP hD (by omega) (zp_two (by omega)) hk1 (Nat.min_le_right _ _) hP1
      clear hP1 hD1 hFc
      clear hPc hDc hKc
      clear hk1 hz1 ht hvm
      generalize H1 = H at hP hS ⊢
      refine lv_aload hx hb eX5_splits_94 (lv_at hl 0 rfl) ?_
      refine lv_iload hx hb eX5_splits_96 (lv_at hl 1 rfl) ?_
      refine lv_iload hx hb eX5_splits_98 (lv_at hl 2 rfl) ?_
      refine lv_iconst (v := 1) hx hb eX5_splits_100 (by decide) ?_
      refine lv_iload hx hb eX5_splits_101 (lv_at hl 3 rfl) ?_
      refine lv_isub hx hb eX5_splits_103 ?_
      refine lv_topi (fun y_24 ey_24 => ?_)
      have hPz := zp_cut (k := (270 + (a0 + 1))) hP (by omega)
      have hPc : va_P (dC, dI) vwCl ([] ++ [(az (270 + (a0 + 1)), .inr (7, [.ref (ac (270 + (a0 + 1))), .int (nI (min (qs_22 (270 + (a0 + 1))) 4))])), (ac (270 + (a0 + 1)), .inl (kz (270 + (a0 + 1)), 16, .inl (fz_23 (270 + (a0 + 1)))))]) _ := va_P.app (hP.sub [] rfl) hPz
      have hDc : va_D A ([] ++ [(az (270 + (a0 + 1)), .inr (7, [.ref (ac (270 + (a0 + 1))), .int (nI (min (qs_22 (270 + (a0 + 1))) 4))])), (ac (270 + (a0 + 1)), .inl (kz (270 + (a0 + 1)), 16, .inl (fz_23 (270 + (a0 + 1)))))]) := zp_cutD hD (by omega) [] (by decide) rfl
      have hKc : va_K (dC, dI) vwCl ([] ++ [(kz (270 + (a0 + 1)), .int)]) s := zp_K hK (by omega) [] rfl
      have hFc := pu_free hDc hS hA
      refine va_calli (va_runV (As := [.int (nI u_18), .int (nI u_16), .int y_24]) (rest := []) ⟨hx, hb, hml, hown, hts⟩ (c_E_7_narrow_16 l dC dI _ (az (270 + (a0 + 1))) (ac (270 + (a0 + 1))) (min (qs_22 (270 + (a0 + 1))) 4) (kz (270 + (a0 + 1))) (fz_23 (270 + (a0 + 1))) u_18 u_16 y_24 (Nat.min_le_right _ _) hu_18 hu_16) (cwV 3 hts g_C_5_splits_E_7_narrow_16 rfl rfl rfl (by decide +kernel) ⟨Nat.le_of_ble_eq_true rfl, Nat.le_of_ble_eq_true rfl⟩) ⟨pu_bl, va_recv hK hPz (ci := 7) (q0 := 0) rfl rfl, pu_in hPc hKc hDc⟩ rfl rfl hl.1 rfl (lv_room (Nat.le_of_ble_eq_true rfl)) eX5_splits_104 ⟨Nat.le_of_ble_eq_true rfl, Nat.le_of_ble_eq_true rfl⟩) hS (fun q _ h => hFc q h) hFc (fun r_25 u t H1 locs ht hvm hw hB hz1 hk1 hS => ?_)
      obtain ⟨z_fz_26, ⟨hP1, -, hD1⟩, xr_25_0⟩ := hB
      rw [ht] at hP1
      obtain ⟨qs_27, fz_28, hP, hD⟩ := zp_put (wr := []) (k := (270 + (a0 + 1))) hP hD (by omega) (fun q h => List.mem_append_left _ (pu_subm [] rfl q h)) hk1 (Nat.min_le_right _ _) hP1
      clear hP1 hD1 hFc
      clear hPc hDc hKc
      clear hk1 hz1 ht hvm
      generalize H1 = H at hP hS ⊢
      obtain ⟨u_29, hu_29, rfl, iu_29⟩ := hw
      have iu_29 : (u_29, z_fz_26) = (sp_E_7_narrow_16 (min (qs_22 (270 + (a0 + 1))) 4) (fz_23 (270 + (a0 + 1))) u_18 u_16 y_24) := Prod.ext iu_29 xr_25_0
      refine lv_pop hx hb eX5_splits_107 rfl ?_
      refine lv_aload_n hx hb eX5_splits_108 rfl (lv_at hl 6 rfl) ?_
      refine lv_iload hx hb eX5_splits_109 (lv_at hl 2 rfl) ?_
      refine lv_iload hx hb eX5_splits_111 (lv_at hl 1 rfl) ?_
      refine lv_iload hx hb eX5_splits_113 (lv_at hl 3 rfl) ?_
      have hPz := zp_cut (k := (270 + a0)) hP (by omega)
      have hPc : va_P (dC, dI) vwCl ([] ++ [(az (270 + a0), .inr (7, [.ref (ac (270 + a0)), .int (nI (min (qs_27 (270 + a0)) 4))])), (ac (270 + a0), .inl (kz (270 + a0), 16, .inl (fz_28 (270 + a0))))]) _ := va_P.app (hP.sub [] rfl) hPz
      have hDc : va_D A ([] ++ [(az (270 + a0), .inr (7, [.ref (ac (270 + a0)), .int (nI (min (qs_27 (270 + a0)) 4))])), (ac (270 + a0), .inl (kz (270 + a0), 16, .inl (fz_28 (270 + a0))))]) := zp_cutD hD (by omega) [] (by decide) rfl
      have hKc : va_K (dC, dI) vwCl ([] ++ [(kz (270 + a0), .int)]) s := zp_K hK (by omega) [] rfl
      have hFc := pu_free hDc hS hA
      refine va_calli (va_runV (As := [.int (nI u_16), .int (nI u_18), .int y_12]) (rest := []) ⟨hx, hb, hml, hown, hts⟩ (c_E_7_narrow_16 l dC dI _ (az (270 + a0)) (ac (270 + a0)) (min (qs_27 (270 + a0)) 4) (kz (270 + a0)) (fz_28 (270 + a0)) u_16 u_18 y_12 (Nat.min_le_right _ _) hu_16 hu_18) (cwV 3 hts g_C_5_splits_E_7_narrow_16 rfl rfl rfl (by decide +kernel) ⟨Nat.le_of_ble_eq_true rfl, Nat.le_of_ble_eq_true rfl⟩) ⟨pu_bl, va_recv hK hPz (ci := 7) (q0 := 0) rfl rfl, pu_in hPc hKc hDc⟩ rfl rfl hl.1 rfl (lv_room (Nat.le_of_ble_eq_true rfl)) eX5_splits_115 ⟨Nat.le_of_ble_eq_true rfl, Nat.le_of_ble_eq_true rfl⟩) hS (fun q _ h => hFc q h) hFc (fun r_30 u t H1 locs ht hvm hw hB hz1 hk1 hS => ?_)
      obtain ⟨z_fz_31, ⟨hP1, -, hD1⟩, xr_30_0⟩ := hB
      rw [ht] at hP1
      obtain ⟨qs_32, fz_33, hP, hD⟩ := zp_put (wr := []) (k := (270 + a0)) hP hD (by omega) (fun q h => List.mem_append_left _ (pu_subm [] rfl q h)) hk1 (Nat.min_le_right _ _) hP1
      clear hP1 hD1 hFc
      clear hPc hDc hKc
      clear hk1 hz1 ht hvm
      generalize H1 = H at hP hS ⊢
      obtain ⟨u_34, hu_34, rfl, iu_34⟩ := hw
      have iu_34 : (u_34, z_fz_31) = (sp_E_7_narrow_16 (min (qs_27 (270 + a0)) 4) (fz_28 (270 + a0)) u_16 u_18 y_12) := Prod.ext iu_34 xr_30_0
      refine lv_pop hx hb eX5_splits_118 rfl ?_
      refine lv_aload_n hx hb eX5_splits_119 rfl (lv_at hl 4 rfl) ?_
      refine va_get (D := (dC, dI)) (ci := 5) (v := .ref rce) (C := RX5) (T := TX5) (N := 8) hx hb hts hiX5 hown hK hP 0 rfl rfl 6 (by decide) v_5 (fun _ h9 => h9) rfl eX5_splits_120 ?_
      refine lv_iload_n hx hb eX5_splits_123 rfl (lv_at hl 5 rfl) ?_
      refine lv_iload hx hb eX5_splits_124 (lv_at hl 9 rfl) ?_
      refine lv_iconst (v := 1) hx hb eX5_splits_126 (by decide) ?_
      refine lv_iadd hx hb eX5_splits_127 ?_
      refine lv_topi (fun y_35 ey_35 => ?_)
      obtain rfl : y_35 = (nI (g_8 + 1)) := ey_35.trans (nI_add g_8 1)
      refine va_iast hx hb hK hP hD hS 5 4 rfl rfl (vp_in_nI (n := a0) (Nat.lt_of_le_of_lt ha0 (Nat.le_of_ble_eq_true rfl)) (Nat.le_of_ble_eq_true rfl)) eX5_splits_128 (fun H locs hP hD hS => ?_)
      obtain ⟨q_36, eq_36, kq_36⟩ := bN_up 16 q_fce (((nI a0) : Int32).toNatClampNeg) (v := (g_8 + 1)) (by omega)
      have hP : va_P (dC, dI) vwCl ((rm__w rm rcv (nI rk) rmd (nI ru) rpc rct rce (az 392) k_fcv fcv k_fmd (zs 242 28 az) k_fpc (zs 270 122 az) k_fct fct k_fce (bN 16 q_36)) ++ zp 4 16 N az ac kz qs_32 fz_33) H := by rw [← eq_36]; exact hP
      have hD : va_D A ((rm__w rm rcv (nI rk) rmd (nI ru) rpc rct rce (az 392) k_fcv fcv k_fmd (zs 242 28 az) k_fpc (zs 270 122 az) k_fct fct k_fce (bN 16 q_36)) ++ zp 4 16 N az ac kz qs_32 fz_33) := by rw [← eq_36]; exact hD
      refine lv_aload_n hx hb eX5_splits_129 rfl (lv_at hl 4 rfl) ?_
      refine va_get (D := (dC, dI)) (ci := 5) (v := .ref rce) (C := RX5) (T := TX5) (N := 8) hx hb hts hiX5 hown hK hP 0 rfl rfl 6 (by decide) v_5 (fun _ h9 => h9) rfl eX5_splits_130 ?_
      refine lv_iload_n hx hb eX5_splits_133 rfl (lv_at hl 5 rfl) ?_
      refine lv_iconst (v := 1) hx hb eX5_splits_134 (by decide) ?_
      refine lv_iadd hx hb eX5_splits_135 ?_
      refine lv_topi (fun y_37 ey_37 => ?_)
      obtain rfl : y_37 = (nI (a0 + 1)) := ey_37.trans (nI_add a0 1)
      refine lv_iconst (v := 0) hx hb eX5_splits_136 (by decide) ?_
      refine va_iast hx hb hK hP hD hS 5 4 rfl rfl (vp_in_nI (n := (a0 + 1)) (by omega) (Nat.le_of_ble_eq_true rfl)) eX5_splits_137 (fun H locs hP hD hS => ?_)
      obtain ⟨q_38, eq_38, kq_38⟩ := bN_up 16 q_36 (((nI (a0 + 1)) : Int32).toNatClampNeg) (v := 0) (Nat.le_of_ble_eq_true rfl)
      have hP : va_P (dC, dI) vwCl ((rm__w rm rcv (nI rk) rmd (nI ru) rpc rct rce (az 392) k_fcv fcv k_fmd (zs 242 28 az) k_fpc (zs 270 122 az) k_fct fct k_fce (bN 16 q_38)) ++ zp 4 16 N az ac kz qs_32 fz_33) H := by rw [← eq_38]; exact hP
      have hD : va_D A ((rm__w rm rcv (nI rk) rmd (nI ru) rpc rct rce (az 392) k_fcv fcv k_fmd (zs 242 28 az) k_fpc (zs 270 122 az) k_fct fct k_fce (bN 16 q_38)) ++ zp 4 16 N az ac kz qs_32 fz_33) := by rw [← eq_38]; exact hD
      refine lv_aload_n hx hb eX5_splits_138 rfl (lv_at hl 4 rfl) ?_
      refine va_get (D := (dC, dI)) (ci := 5) (v := .ref rct) (C := RX5) (T := TX5) (N := 8) hx hb hts hiX5 hown hK hP 0 rfl rfl 5 (by decide) v_3 (fun _ h9 => h9) rfl eX5_splits_139 ?_
      refine lv_iload_n hx hb eX5_splits_142 rfl (lv_at hl 5 rfl) ?_
      refine lv_iconst (v := 1) hx hb eX5_splits_143 (by decide) ?_
      refine lv_iadd hx hb eX5_splits_144 ?_
      refine lv_topi (fun y_39 ey_39 => ?_)
      obtain rfl : y_39 = (nI (a0 + 1)) := ey_39.trans (nI_add a0 1)
      refine lv_aload_n hx hb eX5_splits_145 rfl (lv_at hl 4 rfl) ?_
      refine lv_aload hx hb eX5_splits_146 (lv_at hl 0 rfl) ?_
      refine lv_aload_n hx hb eX5_splits_148 rfl (lv_at hl 4 rfl) ?_
      refine va_get (D := (dC, dI)) (ci := 5) (v := .ref rct) (C := RX5) (T := TX5) (N := 8) hx hb hts hiX5 hown hK hP 0 rfl rfl 5 (by decide) v_3 (fun _ h9 => h9) rfl eX5_splits_149 ?_
      refine lv_iload_n hx hb eX5_splits_152 rfl (lv_at hl 5 rfl) ?_
      refine va_iald hx hb hK hP 4 3 rfl rfl (vp_in_nI (n := a0) (Nat.lt_of_le_of_lt ha0 (Nat.le_of_ble_eq_true rfl)) (Nat.le_of_ble_eq_true rfl)) eX5_splits_153 ?_
      refine lv_topi (fun y_40 ey_40 => ?_)
      obtain rfl : y_40 = nI c0 := ey_40.trans hq2
      refine lv_iconst (v := 1) hx hb eX5_splits_154 (by decide) ?_
      refine lv_iadd hx hb eX5_splits_155 ?_
      refine lv_topi (fun y_41 ey_41 => ?_)
      obtain rfl : y_41 = (nI (c0 + 1)) := ey_41.trans (nI_add c0 1)
      have hFc := pu_free hD hS hA
      refine va_calli (va_runV (As := [.ref (az (270 + (a0 + 1))), .int (nI (c0 + 1))]) (rest := [.int (nI (a0 + 1)), .ref rct]) ⟨hx, hb, hml, hown, hts⟩ (c_C_5_nextCover l dC dI _ rm rcv rk rmd ru rpc rct rce k_fcv fcv k_fmd k_fpc k_fct fct k_fce q_38 N az ac kz qs_32 fz_33 (270 + (a0 + 1)) (c0 + 1) hrk hru (by omega) (by omega) (by omega) (by assumption) (by omega) (by omega)) (cwV 2 hts g_C_5_splits_C_5_nextCover rfl rfl rfl (by decide +kernel) ⟨Nat.le_of_ble_eq_true rfl, Nat.le_of_ble_eq_true rfl⟩) ⟨pu_bl, va_recv hK hP (ci := 5) (q0 := 0) rfl rfl, pu_in hP hK hD⟩ rfl rfl hl.1 rfl (lv_room (Nat.le_of_ble_eq_true rfl)) eX5_splits_156 ⟨Nat.le_of_ble_eq_true rfl, Nat.le_of_ble_eq_true rfl⟩) hS (fun q _ h => hFc q h) hFc (fun r_42 u t H1 locs ht hvm hw hB hz1 hk1 hS => ?_)
      obtain ⟨z_fz_43, z_qs_44, ⟨hP1, -, hD1⟩⟩ := hB
      rw [ht] at hP1
      have hP := hP1
      have hD := pu_all hFc hD1
      clear hP1 hD1 hFc
      clear hk1 hz1 ht hvm
      generalize H1 = H at hP hS ⊢
      rcases hw with rfl | ⟨u_45, iu_45, ju_45, rfl⟩
      · refine va_iast hx hb hK hP hD hS 4 3 rfl rfl (vp_in_nI (n := (a0 + 1)) (by omega) (Nat.le_of_ble_eq_true rfl)) eX5_splits_159 (fun H locs hP hD hS => ?_)
        have hP : va_P (dC, dI) vwCl ((rm__w rm rcv (nI rk) rmd (nI ru) rpc rct rce (az 392) k_fcv fcv k_fmd (zs 242 28 az) k_fpc (zs 270 122 az) k_fct (upd fct ((nI (a0 + 1)) : Int32).toNatClampNeg (-1)) k_fce (bN 16 q_38)) ++ zp 4 16 N az ac kz z_qs_44 z_fz_43) H := hP
        have hD : va_D A ((rm__w rm rcv (nI rk) rmd (nI ru) rpc rct rce (az 392) k_fcv fcv k_fmd (zs 242 28 az) k_fpc (zs 270 122 az) k_fct (upd fct ((nI (a0 + 1)) : Int32).toNatClampNeg (-1)) k_fce (bN 16 q_38)) ++ zp 4 16 N az ac kz z_qs_44 z_fz_43) := hD
        refine lv_iconst (v := 1) hx hb eX5_splits_160 (by decide) ?_
        exact W.zret (v := 1) (ty := .boolean) hx hb hr (rfl) (fun t ht hW => ⟨⟨1, 1, rfl, ⟨rfl, ⟨1, (Nat.le_of_ble_eq_true rfl), rfl⟩⟩, ⟨(upd fct ((nI (a0 + 1)) : Int32).toNatClampNeg (-1)), q_38, z_fz_43, z_qs_44, ⟨by rw [ht]; exact hP, va_K.moved hW.alike hK, hD⟩, ct_up hq0 (by omega), by first | exact Or.inr (Or.inl pk_us) | exact Or.inr (Or.inr (ct_new hq0 (by omega) (by omega) (by omega)))⟩⟩, hS.F ht⟩) hS.2.2 eX5_splits_161
      · refine va_iast hx hb hK hP hD hS 4 3 rfl rfl (vp_in_nI (n := (a0 + 1)) (by omega) (Nat.le_of_ble_eq_true rfl)) eX5_splits_159 (fun H locs hP hD hS => ?_)
        have hP : va_P (dC, dI) vwCl ((rm__w rm rcv (nI rk) rmd (nI ru) rpc rct rce (az 392) k_fcv fcv k_fmd (zs 242 28 az) k_fpc (zs 270 122 az) k_fct (upd fct ((nI (a0 + 1)) : Int32).toNatClampNeg (nI u_45)) k_fce (bN 16 q_38)) ++ zp 4 16 N az ac kz z_qs_44 z_fz_43) H := hP
        have hD : va_D A ((rm__w rm rcv (nI rk) rmd (nI ru) rpc rct rce (az 392) k_fcv fcv k_fmd (zs 242 28 az) k_fpc (zs 270 122 az) k_fct (upd fct ((nI (a0 + 1)) : Int32).toNatClampNeg (nI u_45)) k_fce (bN 16 q_38)) ++ zp 4 16 N az ac kz z_qs_44 z_fz_43) := hD
        refine lv_iconst (v := 1) hx hb eX5_splits_160 (by decide) ?_
        exact W.zret (v := 1) (ty := .boolean) hx hb hr (rfl) (fun t ht hW => ⟨⟨1, 1, rfl, ⟨rfl, ⟨1, (Nat.le_of_ble_eq_true rfl), rfl⟩⟩, ⟨(upd fct ((nI (a0 + 1)) : Int32).toNatClampNeg (nI u_45)), q_38, z_fz_43, z_qs_44, ⟨by rw [ht]; exact hP, va_K.moved hW.alike hK, hD⟩, ct_up hq0 (by omega), by first | exact Or.inr (Or.inl pk_us) | exact Or.inr (Or.inr (ct_new hq0 (by omega) (by omega) (by omega)))⟩⟩, hS.F ht⟩) hS.2.2 eX5_splits_161
