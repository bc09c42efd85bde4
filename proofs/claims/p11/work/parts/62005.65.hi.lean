theorem eX2_codeOfPlace_0 : decode cX2_codeOfPlace 0 = .ok (.iconst (-1), 1) := by decide +kernel
theorem eX2_codeOfPlace_1 : decode cX2_codeOfPlace 1 = .ok (.iload_n 0, 1) := by decide +kernel
theorem eX2_codeOfPlace_2 : decode cX2_codeOfPlace 2 = .ok (.isub, 1) := by decide +kernel
theorem eX2_codeOfPlace_3 : decode cX2_codeOfPlace 3 = .ok (.ireturn, 1) := by decide +kernel
abbrev vs_E_2_codeOfPlace : List Cond := .code yX2_codeOfPlace cX2_codeOfPlace 1 (some .int) :: CM
noncomputable def sp_E_2_codeOfPlace (a0 : Nat) : Unit := (slet (((-1) : Int32) - (nI a0)) (fun y_1 => ()))
set_option maxHeartbeats 4000000 in
set_option maxRecDepth 100000 in
theorem c_E_2_codeOfPlace (l : Launch) (dC : Nat → ClassId) (dI : Nat → Nat → Nat) (sz : Nat) (a0 : Nat) (ha0 : a0 ≤ 7) : Met l yX2_codeOfPlace vs_E_2_codeOfPlace ({ frames := 0, cells := 0, slots := 0, locals := 0 }) (va_Pc [.int (nI a0)] (pu_B (dC, dI) [] [] sz)) (va_Qi (fun (r : Int32) (_ : Unit) => r = -1 - nI a0) (fun _ _ => True) (va_A [] sz)) 0 0 (va_A [] sz) := by
  refine Met.ofW (cc := cX2_codeOfPlace) (maxL := 1) (ret := (some .int)) (by decide) rfl ?_
  intro p e s m args below meth c s₁ B hml hv
  obtain ⟨rfl, rfl, hP, hK, hD0⟩ := hv
  have hx := B.exec
  have hb := B.bytes
  have hr := B.returns
  have hts := atoms_spec (ws := vs_E_2_codeOfPlace) B.pre
  have hown : s.vm.findClass RX2 = some m.cls := findClass_of_methodNamed B.named
  have hlocks := B.notSynchronized
  have hD := hD0
  have hA : ∀ q : Nat, s.heap.size ≤ q → va_A [] s.heap.size q := fun _ h => Or.inr h
  have hS : va_S (va_A [] s.heap.size) s.heap s.heap [] := va_S.rf
  have hl := lv_entry ([.int (nI a0)]) (n := 1) (Nat.le_of_ble_eq_true rfl)
  rw [lg_entry_eq]
  generalize (lg_sl ([.int (nI a0)]) ++ List.replicate (1 - (lg_sl ([.int (nI a0)])).length) Slot.unset).toArray = ls at hl ⊢
  have hl : lv_has ls 1 [(0, .int (nI a0))] := hl
  obtain ⟨RR, hRR⟩ : ∃ x, x = (sp_E_2_codeOfPlace a0) := ⟨_, rfl⟩
  have hsp := hRR
  refine lv_iconst (v := (-1)) hx hb eX2_codeOfPlace_0 (by decide) ?_
  refine lv_iload_n hx hb eX2_codeOfPlace_1 rfl (lv_at hl 0 rfl) ?_
  refine lv_isub hx hb eX2_codeOfPlace_2 ?_
  refine lv_topi (fun y_1 ey_1 => ?_)
  have hsp := hsp.trans (slet_eq ey_1)
  exact W.iret (v := y_1) hx hb hr (fun t ht hW => ⟨⟨y_1, (), rfl, ey_1, trivial⟩, hS.F ht⟩) hS.2.2 eX2_codeOfPlace_3
theorem eX2_keep_0 : decode cX2_keep 0 = .ok (.aload_n 0, 1) := by decide +kernel
theorem eX2_keep_1 : decode cX2_keep 1 = .ok (.getfield 18, 3) := by decide +kernel
theorem eX2_keep_4 : decode cX2_keep 4 = .ok (.bipush 20, 2) := by decide +kernel
theorem eX2_keep_6 : decode cX2_keep 6 = .ok (.if_icmp .ne 55, 3) := by decide +kernel
theorem eX2_keep_9 : decode cX2_keep 9 = .ok (.iconst 1, 1) := by decide +kernel
theorem eX2_keep_10 : decode cX2_keep 10 = .ok (.istore_n 3, 1) := by decide +kernel
theorem eX2_keep_11 : decode cX2_keep 11 = .ok (.iload_n 3, 1) := by decide +kernel
theorem eX2_keep_12 : decode cX2_keep 12 = .ok (.bipush 20, 2) := by decide +kernel
theorem eX2_keep_14 : decode cX2_keep 14 = .ok (.if_icmp .ge 37, 3) := by decide +kernel
theorem eX2_keep_17 : decode cX2_keep 17 = .ok (.aload_n 0, 1) := by decide +kernel
theorem eX2_keep_18 : decode cX2_keep 18 = .ok (.getfield 9, 3) := by decide +kernel
theorem eX2_keep_21 : decode cX2_keep 21 = .ok (.iload_n 3, 1) := by decide +kernel
theorem eX2_keep_22 : decode cX2_keep 22 = .ok (.iconst 1, 1) := by decide +kernel
theorem eX2_keep_23 : decode cX2_keep 23 = .ok (.isub, 1) := by decide +kernel
theorem eX2_keep_24 : decode cX2_keep 24 = .ok (.aload_n 0, 1) := by decide +kernel
theorem eX2_keep_25 : decode cX2_keep 25 = .ok (.getfield 9, 3) := by decide +kernel
theorem eX2_keep_28 : decode cX2_keep 28 = .ok (.iload_n 3, 1) := by decide +kernel
theorem eX2_keep_29 : decode cX2_keep 29 = .ok (.iaload, 1) := by decide +kernel
theorem eX2_keep_30 : decode cX2_keep 30 = .ok (.iastore, 1) := by decide +kernel
theorem eX2_keep_31 : decode cX2_keep 31 = .ok (.aload_n 0, 1) := by decide +kernel
theorem eX2_keep_32 : decode cX2_keep 32 = .ok (.getfield 15, 3) := by decide +kernel
theorem eX2_keep_35 : decode cX2_keep 35 = .ok (.iload_n 3, 1) := by decide +kernel
theorem eX2_keep_36 : decode cX2_keep 36 = .ok (.iconst 1, 1) := by decide +kernel
theorem eX2_keep_37 : decode cX2_keep 37 = .ok (.isub, 1) := by decide +kernel
theorem eX2_keep_38 : decode cX2_keep 38 = .ok (.aload_n 0, 1) := by decide +kernel
theorem eX2_keep_39 : decode cX2_keep 39 = .ok (.getfield 15, 3) := by decide +kernel
theorem eX2_keep_42 : decode cX2_keep 42 = .ok (.iload_n 3, 1) := by decide +kernel
theorem eX2_keep_43 : decode cX2_keep 43 = .ok (.iaload, 1) := by decide +kernel
theorem eX2_keep_44 : decode cX2_keep 44 = .ok (.iastore, 1) := by decide +kernel
theorem eX2_keep_45 : decode cX2_keep 45 = .ok (.iinc 3 1, 3) := by decide +kernel
theorem eX2_keep_48 : decode cX2_keep 48 = .ok (.goto (-37), 3) := by decide +kernel
theorem eX2_keep_51 : decode cX2_keep 51 = .ok (.aload_n 0, 1) := by decide +kernel
theorem eX2_keep_52 : decode cX2_keep 52 = .ok (.dup, 1) := by decide +kernel
theorem eX2_keep_53 : decode cX2_keep 53 = .ok (.getfield 18, 3) := by decide +kernel
theorem eX2_keep_56 : decode cX2_keep 56 = .ok (.iconst 1, 1) := by decide +kernel
theorem eX2_keep_57 : decode cX2_keep 57 = .ok (.isub, 1) := by decide +kernel
theorem eX2_keep_58 : decode cX2_keep 58 = .ok (.putfield 18, 3) := by decide +kernel
theorem eX2_keep_61 : decode cX2_keep 61 = .ok (.aload_n 0, 1) := by decide +kernel
theorem eX2_keep_62 : decode cX2_keep 62 = .ok (.getfield 9, 3) := by decide +kernel
theorem eX2_keep_65 : decode cX2_keep 65 = .ok (.aload_n 0, 1) := by decide +kernel
theorem eX2_keep_66 : decode cX2_keep 66 = .ok (.getfield 18, 3) := by decide +kernel
theorem eX2_keep_69 : decode cX2_keep 69 = .ok (.iload_n 1, 1) := by decide +kernel
theorem eX2_keep_70 : decode cX2_keep 70 = .ok (.iastore, 1) := by decide +kernel
theorem eX2_keep_71 : decode cX2_keep 71 = .ok (.aload_n 0, 1) := by decide +kernel
theorem eX2_keep_72 : decode cX2_keep 72 = .ok (.getfield 15, 3) := by decide +kernel
theorem eX2_keep_75 : decode cX2_keep 75 = .ok (.aload_n 0, 1) := by decide +kernel
theorem eX2_keep_76 : decode cX2_keep 76 = .ok (.getfield 18, 3) := by decide +kernel
theorem eX2_keep_79 : decode cX2_keep 79 = .ok (.iload_n 2, 1) := by decide +kernel
theorem eX2_keep_80 : decode cX2_keep 80 = .ok (.iastore, 1) := by decide +kernel
theorem eX2_keep_81 : decode cX2_keep 81 = .ok (.aload_n 0, 1) := by decide +kernel
theorem eX2_keep_82 : decode cX2_keep 82 = .ok (.dup, 1) := by decide +kernel
theorem eX2_keep_83 : decode cX2_keep 83 = .ok (.getfield 18, 3) := by decide +kernel
theorem eX2_keep_86 : decode cX2_keep 86 = .ok (.iconst 1, 1) := by decide +kernel
theorem eX2_keep_87 : decode cX2_keep 87 = .ok (.iadd, 1) := by decide +kernel
theorem eX2_keep_88 : decode cX2_keep 88 = .ok (.putfield 18, 3) := by decide +kernel
theorem eX2_keep_91 : decode cX2_keep 91 = .ok (.return_, 1) := by decide +kernel
abbrev vs_E_2_keep : List Cond := .code yX2_keep cX2_keep 4 none :: CM
noncomputable def sp_E_2_keep_L1 (hk : Nat) (p0 : Int32) (p1 : Int32) : ((Nat → Int32) × (Nat → Int32) × Nat) → ((Nat → Int32) × (Nat → Int32) × Nat) ⊕ ((Nat → Int32) × (Nat → Int32) × Nat) := fun (g_9, g_10, g_11) => (if 20 ≤ g_11 then (Sum.inr (slet (upd g_9 (hk - 1) p0) (fun f_21 => (slet (upd g_10 (hk - 1) p1) (fun f_22 => (f_21, f_22, ((hk - 1) + 1))))))) else (slet (g_9 g_11) (fun y_25 => (slet (upd g_9 (g_11 - 1) y_25) (fun f_26 => (slet (g_10 g_11) (fun y_28 => (slet (upd g_10 (g_11 - 1) y_28) (fun f_29 => (Sum.inl (f_26, f_29, (g_11 + 1))))))))))))
noncomputable def sp_E_2_keep (hk : Nat) (fo : Nat → Int32) (fl : Nat → Int32) (p0 : Int32) (p1 : Int32) : (Nat → Int32) × (Nat → Int32) × Nat := (if hk = 20 then (itrv (α := (Nat → Int32) × (Nat → Int32) × Nat) (β := ((Nat → Int32) × (Nat → Int32) × Nat)) default (sp_E_2_keep_L1 hk p0 p1) (fo, fl, 1)) else (slet (upd fo hk p0) (fun f_2 => (slet (upd fl hk p1) (fun f_3 => (f_2, f_3, (hk + 1)))))))
set_option maxHeartbeats 4000000 in
set_option maxRecDepth 100000 in
theorem c_E_2_keep (l : Launch) (dC : Nat → ClassId) (dI : Nat → Nat → Nat) (sz : Nat) (hy : Nat) (hk : Nat) (co : Nat) (ol : Nat) (k_fo : ClassId) (fo : Nat → Int32) (k_fl : ClassId) (fl : Nat → Int32) (p0 : Int32) (p1 : Int32) (hhk : hk ≤ 20) (hq0 : hi_ok hk fo) (hq1 : hi_1 p0) : Met l yX2_keep vs_E_2_keep ({ frames := 0, cells := 0, slots := 0, locals := 0 }) (va_Pc [.ref hy, .int p0, .int p1] (pu_B (dC, dI) (hz__w hy (nI hk) co ol k_fo fo k_fl fl) (hz__t k_fo k_fl) sz)) (va_Qv (fun (_ : Unit) => True) (fun _ t => ∃ (z_fo : Nat → Int32) (z_fl : Nat → Int32) (z_hk : Nat), pu_E (dC, dI) (hz__w hy (nI z_hk) co ol k_fo z_fo k_fl z_fl) (hz__t k_fo k_fl) (va_A ((hz__w hy (nI hk) co ol k_fo fo k_fl fl)) sz) t ∧ (z_hk ≤ 20) ∧ (hi_ok z_hk z_fo) ∧ ((z_fo, z_fl, z_hk) = (sp_E_2_keep hk fo fl p0 p1))) (va_A ((hz__w hy (nI hk) co ol k_fo fo k_fl fl)) sz)) 0 0 (va_A ((hz__w hy (nI hk) co ol k_fo fo k_fl fl)) sz) := by
  refine Met.ofW (cc := cX2_keep) (maxL := 4) (ret := none) (by decide) rfl ?_
  intro p e s m args below meth c s₁ B hml hv
  obtain ⟨rfl, rfl, hP, hK, hD0⟩ := hv
  have hx := B.exec
  have hb := B.bytes
  have hr := B.returns
  have hts := atoms_spec (ws := vs_E_2_keep) B.pre
  have v_1 := hts (.fieldLink RX2 18 "ClockReach$History" "count" "I") (List.mem_cons_of_mem _ cm_162)
  have v_2 := hts (.fieldLink RX2 9 "ClockReach$History" "codes" "[I") (List.mem_cons_of_mem _ cm_163)
  have v_3 := hts (.fieldLink RX2 15 "ClockReach$History" "olds" "[I") (List.mem_cons_of_mem _ cm_164)
  have hown : s.vm.findClass RX2 = some m.cls := findClass_of_methodNamed B.named
  have hlocks := B.notSynchronized
  have hiX2 : ∀ w ∈ wsX20, w ∈ vs_E_2_keep := fun _ h => List.mem_cons_of_mem _ (cm_X2 h)
  have hD := hD0.self (sz := s.heap.size)
  generalize hAe : va_A ((hz__w hy (nI hk) co ol k_fo fo k_fl fl)) s.heap.size = A at hD ⊢
  have hA : ∀ q : Nat, s.heap.size ≤ q → A q := fun q h => by rw [← hAe]; exact Or.inr h
  have hS : va_S A s.heap s.heap [] := va_S.rf
  have hl := lv_entry ([.ref hy, .int p0, .int p1]) (n := 4) (Nat.le_of_ble_eq_true rfl)
  rw [lg_entry_eq]
  generalize (lg_sl ([.ref hy, .int p0, .int p1]) ++ List.replicate (4 - (lg_sl ([.ref hy, .int p0, .int p1])).length) Slot.unset).toArray = ls at hl ⊢
  have hl : lv_has ls 4 [(0, .ref hy), (1, .int p0), (2, .int p1)] := hl
  obtain ⟨RR, hRR⟩ : ∃ x, x = (sp_E_2_keep hk fo fl p0 p1) := ⟨_, rfl⟩
  have hsp := hRR
  refine lv_aload_n hx hb eX2_keep_0 rfl (lv_at hl 0 rfl) ?_
  refine va_get (D := (dC, dI)) (ci := 2) (v := .int (nI hk)) (C := RX2) (T := TX2) (N := 3) hx hb hts hiX2 hown hK hP 0 rfl rfl 0 (by decide) v_1 (fun _ h9 => h9) rfl eX2_keep_1 ?_
  refine lv_bipush (v := 20) hx hb eX2_keep_4 (by decide) ?_
  refine lv_icmp_ne (tgt := 61) hx hb eX2_keep_6 (by decide) (fun c_1 => ?_) (fun c_1 => ?_)
  · have c_1 : ¬ hk = 20 := fun z => c_1 ((nI_eq (a := hk) (b := 20) (Nat.lt_of_le_of_lt hhk (Nat.le_of_ble_eq_true rfl)) (Nat.le_of_ble_eq_true rfl)).mpr z)
    have hsp := hsp.trans (if_neg c_1)
    refine lv_aload_n hx hb eX2_keep_61 rfl (lv_at hl 0 rfl) ?_
    refine va_get (D := (dC, dI)) (ci := 2) (v := .ref co) (C := RX2) (T := TX2) (N := 3) hx hb hts hiX2 hown hK hP 0 rfl rfl 1 (by decide) v_2 (fun _ h9 => h9) rfl eX2_keep_62 ?_
    refine lv_aload_n hx hb eX2_keep_65 rfl (lv_at hl 0 rfl) ?_
    refine va_get (D := (dC, dI)) (ci := 2) (v := .int (nI hk)) (C := RX2) (T := TX2) (N := 3) hx hb hts hiX2 hown hK hP 0 rfl rfl 0 (by decide) v_1 (fun _ h9 => h9) rfl eX2_keep_66 ?_
    refine lv_iload_n hx hb eX2_keep_69 rfl (lv_at hl 1 rfl) ?_
    refine va_iast hx hb hK hP hD hS 1 0 rfl rfl (vp_in_nI (n := hk) (by omega) (Nat.le_of_ble_eq_true rfl)) eX2_keep_70 (fun H locs hP hD hS => ?_)
    obtain ⟨f_2, ef_2, xf_2⟩ := up_x fo (n := hk) p0 (Nat.lt_of_le_of_lt hhk (Nat.le_of_ble_eq_true rfl))
    have hP : va_P (dC, dI) vwCl (hz__w hy (nI hk) co ol k_fo f_2 k_fl fl) H := by rw [← ef_2]; exact hP
    have hD : va_D A (hz__w hy (nI hk) co ol k_fo f_2 k_fl fl) := by rw [← ef_2]; exact hD
    have hsp := hsp.trans (slet_eq xf_2)
    refine lv_aload_n hx hb eX2_keep_71 rfl (lv_at hl 0 rfl) ?_
    refine va_get (D := (dC, dI)) (ci := 2) (v := .ref ol) (C := RX2) (T := TX2) (N := 3) hx hb hts hiX2 hown hK hP 0 rfl rfl 2 (by decide) v_3 (fun _ h9 => h9) rfl eX2_keep_72 ?_
    refine lv_aload_n hx hb eX2_keep_75 rfl (lv_at hl 0 rfl) ?_
    refine va_get (D := (dC, dI)) (ci := 2) (v := .int (nI hk)) (C := RX2) (T := TX2) (N := 3) hx hb hts hiX2 hown hK hP 0 rfl rfl 0 (by decide) v_1 (fun _ h9 => h9) rfl eX2_keep_76 ?_
    refine lv_iload_n hx hb eX2_keep_79 rfl (lv_at hl 2 rfl) ?_
    refine va_iast hx hb hK hP hD hS 2 1 rfl rfl (vp_in_nI (n := hk) (by omega) (Nat.le_of_ble_eq_true rfl)) eX2_keep_80 (fun H locs hP hD hS => ?_)
    obtain ⟨f_3, ef_3, xf_3⟩ := up_x fl (n := hk) p1 (Nat.lt_of_le_of_lt hhk (Nat.le_of_ble_eq_true rfl))
    have hP : va_P (dC, dI) vwCl (hz__w hy (nI hk) co ol k_fo f_2 k_fl f_3) H := by rw [← ef_3]; exact hP
    have hD : va_D A (hz__w hy (nI hk) co ol k_fo f_2 k_fl f_3) := by rw [← ef_3]; exact hD
    have hsp := hsp.trans (slet_eq xf_3)
    refine lv_aload_n hx hb eX2_keep_81 rfl (lv_at hl 0 rfl) ?_
    refine lv_dup hx hb eX2_keep_82 rfl ?_
    refine va_get (D := (dC, dI)) (ci := 2) (v := .int (nI hk)) (C := RX2) (T := TX2) (N := 3) hx hb hts hiX2 hown hK hP 0 rfl rfl 0 (by decide) v_1 (fun _ h9 => h9) rfl eX2_keep_83 ?_
    refine lv_iconst (v := 1) hx hb eX2_keep_86 (by decide) ?_
    refine lv_iadd hx hb eX2_keep_87 ?_
    refine lv_topi (fun y_4 ey_4 => ?_)
    obtain rfl : y_4 = (nI (hk + 1)) := ey_4.trans (nI_add hk 1)
    refine va_put (D := (dC, dI)) (ci := 2) (v := .int (nI (hk + 1))) (ty := .int) (C := RX2) (T := TX2) (N := 3) hx hb hts hiX2 tyX2 tyX2_ok nmX2 hown hK hP hD hS 0 rfl rfl 0 (by decide) v_1 (fun _ h9 => h9) rfl (by decide +kernel) rfl rfl (Nat.le_of_ble_eq_true rfl) eX2_keep_88 (fun H locs hP hD hS => ?_)
    have hP : va_P (dC, dI) vwCl (hz__w hy (nI (hk + 1)) co ol k_fo f_2 k_fl f_3) H := hP
    have hD : va_D A (hz__w hy (nI (hk + 1)) co ol k_fo f_2 k_fl f_3) := hD
    exact W.vret hx hb hr (fun t ht hW => ⟨⟨(), rfl, trivial, ⟨f_2, f_3, (hk + 1), ⟨by rw [ht]; exact hP, va_K.moved hW.alike hK, hD⟩, (by omega), by first | exact hi_new hq0 hq1 (by omega) | exact hi_eq (hi_up (by assumption) hq1) (by omega) | exact hi_newe (by assumption) hq0 hq1 (by omega) | exact hi_eq (hi_upe (by assumption) (by assumption) hq1) (by omega), (hsp.symm.trans hRR)⟩⟩, hS.F ht⟩) hS.2.2 eX2_keep_91
  · have c_1 : hk = 20 := (nI_eq (a := hk) (b := 20) (Nat.lt_of_le_of_lt hhk (Nat.le_of_ble_eq_true rfl)) (Nat.le_of_ble_eq_true rfl)).mp c_1
    have hsp := hsp.trans (if_pos c_1)
    refine lv_iconst (v := 1) hx hb eX2_keep_9 (by decide) ?_
    refine lv_istore_n (lv' := [(3, .int 1), (0, .ref hy), (1, .int p0), (2, .int p1)]) hx hb eX2_keep_10 rfl hl (by decide) rfl (fun ls hl => ?_)
    obtain ⟨lf_14, dlf_14, hlf_14, hsp⟩ := itr_ex hsp
    delta sp_E_2_keep_L1 at hlf_14
    refine pu_while (fun nn H locs ls => ∃ (g_9 : Nat → Int32) (g_10 : Nat → Int32) (g_11 : Nat), nn = 20 - g_11 ∧ (1 ≤ g_11 ∧ g_11 ≤ 20) ∧ hi_ok 20 g_9 ∧ RR = itrv dlf_14 lf_14 (g_9, g_10, g_11) ∧ va_P (dC, dI) vwCl (hz__w hy (nI hk) co ol k_fo g_9 k_fl g_10) H ∧ va_D A (hz__w hy (nI hk) co ol k_fo g_9 k_fl g_10) ∧ va_S A s.heap H locs ∧ lv_has ls 4 [(0, .ref hy), (1, .int p0), (2, .int p1), (3, .int (nI g_11))]) 11 ?_ _ _ _ _ ⟨fo, fl, 1, rfl, ⟨by omega, by omega⟩, by first | assumption | exact hi_eq (by assumption) (by omega) | exact hi_mvx (by assumption) (by assumption) (by assumption) (by omega) (by omega), hsp, hP, hD, hS, lv_sub hl [1, 2, 3, 0] rfl⟩
    rintro nn ih_13 H locs ls ⟨g_9, g_10, g_11, rfl, hg_11, he_12, he_16, hP, hD, hS, hl⟩
    obtain ⟨S_15, hsp, hin_17, hout_18⟩ := itr_step hlf_14 he_16
    refine lv_iload_n hx hb eX2_keep_11 rfl (lv_at hl 3 rfl) ?_
    refine lv_bipush (v := 20) hx hb eX2_keep_12 (by decide) ?_
    refine lv_icmp_ge (tgt := 51) hx hb eX2_keep_14 (by decide) (fun c_19 => ?_) (fun c_19 => ?_)
    · have c_19 : 20 ≤ g_11 := (nI_leI (a := 20) (b := g_11) (Nat.le_of_ble_eq_true rfl) (Nat.lt_of_le_of_lt hg_11.2 (Nat.le_of_ble_eq_true rfl))).mp c_19
      have hsp := hsp.trans (if_pos c_19)
      have hsp := hout_18 _ hsp
      refine lv_aload_n hx hb eX2_keep_51 rfl (lv_at hl 0 rfl) ?_
      refine lv_dup hx hb eX2_keep_52 rfl ?_
      refine va_get (D := (dC, dI)) (ci := 2) (v := .int (nI hk)) (C := RX2) (T := TX2) (N := 3) hx hb hts hiX2 hown hK hP 0 rfl rfl 0 (by decide) v_1 (fun _ h9 => h9) rfl eX2_keep_53 ?_
      refine lv_iconst (v := 1) hx hb eX2_keep_56 (by decide) ?_
      refine lv_isub hx hb eX2_keep_57 ?_
      refine lv_topi (fun y_20 ey_20 => ?_)
      obtain rfl : y_20 = (nI (hk - 1)) := ey_20.trans (pk_sub (a := hk) (b := 1) (by omega))
      refine va_put (D := (dC, dI)) (ci := 2) (v := .int (nI (hk - 1))) (ty := .int) (C := RX2) (T := TX2) (N := 3) hx hb hts hiX2 tyX2 tyX2_ok nmX2 hown hK hP hD hS 0 rfl rfl 0 (by decide) v_1 (fun _ h9 => h9) rfl (by decide +kernel) rfl rfl (Nat.le_of_ble_eq_true rfl) eX2_keep_58 (fun H locs hP hD hS => ?_)
      have hP : va_P (dC, dI) vwCl (hz__w hy (nI (hk - 1)) co ol k_fo g_9 k_fl g_10) H := hP
      have hD : va_D A (hz__w hy (nI (hk - 1)) co ol k_fo g_9 k_fl g_10) := hD
      refine lv_aload_n hx hb eX2_keep_61 rfl (lv_at hl 0 rfl) ?_
      refine va_get (D := (dC, dI)) (ci := 2) (v := .ref co) (C := RX2) (T := TX2) (N := 3) hx hb hts hiX2 hown hK hP 0 rfl rfl 1 (by decide) v_2 (fun _ h9 => h9) rfl eX2_keep_62 ?_
      refine lv_aload_n hx hb eX2_keep_65 rfl (lv_at hl 0 rfl) ?_
      refine va_get (D := (dC, dI)) (ci := 2) (v := .int (nI (hk - 1))) (C := RX2) (T := TX2) (N := 3) hx hb hts hiX2 hown hK hP 0 rfl rfl 0 (by decide) v_1 (fun _ h9 => h9) rfl eX2_keep_66 ?_
      refine lv_iload_n hx hb eX2_keep_69 rfl (lv_at hl 1 rfl) ?_
      refine va_iast hx hb hK hP hD hS 1 0 rfl rfl (vp_in_nI (n := (hk - 1)) (by omega) (Nat.le_of_ble_eq_true rfl)) eX2_keep_70 (fun H locs hP hD hS => ?_)
      obtain ⟨f_21, ef_21, xf_21⟩ := up_x g_9 (n := (hk - 1)) p0 (by omega)
      have hP : va_P (dC, dI) vwCl (hz__w hy (nI (hk - 1)) co ol k_fo f_21 k_fl g_10) H := by rw [← ef_21]; exact hP
      have hD : va_D A (hz__w hy (nI (hk - 1)) co ol k_fo f_21 k_fl g_10) := by rw [← ef_21]; exact hD
      have hsp := hsp.trans (slet_eq xf_21)
      refine lv_aload_n hx hb eX2_keep_71 rfl (lv_at hl 0 rfl) ?_
      refine va_get (D := (dC, dI)) (ci := 2) (v := .ref ol) (C := RX2) (T := TX2) (N := 3) hx hb hts hiX2 hown hK hP 0 rfl rfl 2 (by decide) v_3 (fun _ h9 => h9) rfl eX2_keep_72 ?_
      refine lv_aload_n hx hb eX2_keep_75 rfl (lv_at hl 0 rfl) ?_
      refine va_get (D := (dC, dI)) (ci := 2) (v := .int (nI (hk - 1))) (C := RX2) (T := TX2) (N := 3) hx hb hts hiX2 hown hK hP 0 rfl rfl 0 (by decide) v_1 (fun _ h9 => h9) rfl eX2_keep_76 ?_
      refine lv_iload_n hx hb eX2_keep_79 rfl (lv_at hl 2 rfl) ?_
      refine va_iast hx hb hK hP hD hS 2 1 rfl rfl (vp_in_nI (n := (hk - 1)) (by omega) (Nat.le_of_ble_eq_true rfl)) eX2_keep_80 (fun H locs hP hD hS => ?_)
      obtain ⟨f_22, ef_22, xf_22⟩ := up_x g_10 (n := (hk - 1)) p1 (by omega)
      have hP : va_P (dC, dI) vwCl (hz__w hy (nI (hk - 1)) co ol k_fo f_21 k_fl f_22) H := by rw [← ef_22]; exact hP
      have hD : va_D A (hz__w hy (nI (hk - 1)) co ol k_fo f_21 k_fl f_22) := by rw [← ef_22]; exact hD
      have hsp := hsp.trans (slet_eq xf_22)
      refine lv_aload_n hx hb eX2_keep_81 rfl (lv_at hl 0 rfl) ?_
      refine lv_dup hx hb eX2_keep_82 rfl ?_
      refine va_get (D := (dC, dI)) (ci := 2) (v := .int (nI (hk - 1))) (C := RX2) (T := TX2) (N := 3) hx hb hts hiX2 hown hK hP 0 rfl rfl 0 (by decide) v_1 (fun _ h9 => h9) rfl eX2_keep_83 ?_
      refine lv_iconst (v := 1) hx hb eX2_keep_86 (by decide) ?_
      refine lv_iadd hx hb eX2_keep_87 ?_
      refine lv_topi (fun y_23 ey_23 => ?_)
      obtain rfl : y_23 = (nI ((hk - 1) + 1)) := ey_23.trans (nI_add (hk - 1) 1)
      refine va_put (D := (dC, dI)) (ci := 2) (v := .int (nI ((hk - 1) + 1))) (ty := .int) (C := RX2) (T := TX2) (N := 3) hx hb hts hiX2 tyX2 tyX2_ok nmX2 hown hK hP hD hS 0 rfl rfl 0 (by decide) v_1 (fun _ h9 => h9) rfl (by decide +kernel) rfl rfl (Nat.le_of_ble_eq_true rfl) eX2_keep_88 (fun H locs hP hD hS => ?_)
      have hP : va_P (dC, dI) vwCl (hz__w hy (nI ((hk - 1) + 1)) co ol k_fo f_21 k_fl f_22) H := hP
      have hD : va_D A (hz__w hy (nI ((hk - 1) + 1)) co ol k_fo f_21 k_fl f_22) := hD
      exact W.vret hx hb hr (fun t ht hW => ⟨⟨(), rfl, trivial, ⟨f_21, f_22, ((hk - 1) + 1), ⟨by rw [ht]; exact hP, va_K.moved hW.alike hK, hD⟩, (by omega), by first | exact hi_new hq0 hq1 (by omega) | exact hi_eq (hi_up (by assumption) hq1) (by omega) | exact hi_newe (by assumption) hq0 hq1 (by omega) | exact hi_eq (hi_upe (by assumption) (by assumption) hq1) (by omega), (hsp.symm.trans hRR)⟩⟩, hS.F ht⟩) hS.2.2 eX2_keep_91
    · have c_19 : ¬ 20 ≤ g_11 := fun z => c_19 ((nI_leI (a := 20) (b := g_11) (Nat.le_of_ble_eq_true rfl) (Nat.lt_of_le_of_lt hg_11.2 (Nat.le_of_ble_eq_true rfl))).mpr z)
      have hsp := hsp.trans (if_neg c_19)
      refine lv_aload_n hx hb eX2_keep_17 rfl (lv_at hl 0 rfl) ?_
      refine va_get (D := (dC, dI)) (ci := 2) (v := .ref co) (C := RX2) (T := TX2) (N := 3) hx hb hts hiX2 hown hK hP 0 rfl rfl 1 (by decide) v_2 (fun _ h9 => h9) rfl eX2_keep_18 ?_
      refine lv_iload_n hx hb eX2_keep_21 rfl (lv_at hl 3 rfl) ?_
      refine lv_iconst (v := 1) hx hb eX2_keep_22 (by decide) ?_
      refine lv_isub hx hb eX2_keep_23 ?_
      refine lv_topi (fun y_24 ey_24 => ?_)
      obtain rfl : y_24 = (nI (g_11 - 1)) := ey_24.trans (pk_sub (a := g_11) (b := 1) (by omega))
      refine lv_aload_n hx hb eX2_keep_24 rfl (lv_at hl 0 rfl) ?_
      refine va_get (D := (dC, dI)) (ci := 2) (v := .ref co) (C := RX2) (T := TX2) (N := 3) hx hb hts hiX2 hown hK hP 0 rfl rfl 1 (by decide) v_2 (fun _ h9 => h9) rfl eX2_keep_25 ?_
      refine lv_iload_n hx hb eX2_keep_28 rfl (lv_at hl 3 rfl) ?_
      refine va_iald hx hb hK hP 1 0 rfl rfl (vp_in_nI (n := g_11) (by omega) (Nat.le_of_ble_eq_true rfl)) eX2_keep_29 ?_
      refine lv_topi (fun y_25 ey_25 => ?_)
      have ey_25 : y_25 = g_9 g_11 := ey_25.trans (congrArg g_9 (nI_clamp (n := g_11) (Nat.lt_of_le_of_lt hg_11.2 (Nat.le_of_ble_eq_true rfl))))
      have hsp := hsp.trans (slet_eq ey_25)
      refine va_iast hx hb hK hP hD hS 1 0 rfl rfl (vp_in_nI (n := (g_11 - 1)) (by omega) (Nat.le_of_ble_eq_true rfl)) eX2_keep_30 (fun H locs hP hD hS => ?_)
      obtain ⟨f_26, ef_26, xf_26⟩ := up_x g_9 (n := (g_11 - 1)) y_25 (by omega)
      have hP : va_P (dC, dI) vwCl (hz__w hy (nI hk) co ol k_fo f_26 k_fl g_10) H := by rw [← ef_26]; exact hP
      have hD : va_D A (hz__w hy (nI hk) co ol k_fo f_26 k_fl g_10) := by rw [← ef_26]; exact hD
      have hsp := hsp.trans (slet_eq xf_26)
      refine lv_aload_n hx hb eX2_keep_31 rfl (lv_at hl 0 rfl) ?_
      refine va_get (D := (dC, dI)) (ci := 2) (v := .ref ol) (C := RX2) (T := TX2) (N := 3) hx hb hts hiX2 hown hK hP 0 rfl rfl 2 (by decide) v_3 (fun _ h9 => h9) rfl eX2_keep_32 ?_
      refine lv_iload_n hx hb eX2_keep_35 rfl (lv_at hl 3 rfl) ?_
      refine lv_iconst (v := 1) hx hb eX2_keep_36 (by decide) ?_
      refine lv_isub hx hb eX2_keep_37 ?_
      refine lv_topi (fun y_27 ey_27 => ?_)
      obtain rfl : y_27 = (nI (g_11 - 1)) := ey_27.trans (pk_sub (a := g_11) (b := 1) (by omega))
      refine lv_aload_n hx hb eX2_keep_38 rfl (lv_at hl 0 rfl) ?_
      refine va_get (D := (dC, dI)) (ci := 2) (v := .ref ol) (C := RX2) (T := TX2) (N := 3) hx hb hts hiX2 hown hK hP 0 rfl rfl 2 (by decide) v_3 (fun _ h9 => h9) rfl eX2_keep_39 ?_
      refine lv_iload_n hx hb eX2_keep_42 rfl (lv_at hl 3 rfl) ?_
      refine va_iald hx hb hK hP 2 1 rfl rfl (vp_in_nI (n := g_11) (by omega) (Nat.le_of_ble_eq_true rfl)) eX2_keep_43 ?_
      refine lv_topi (fun y_28 ey_28 => ?_)
      have ey_28 : y_28 = g_10 g_11 := ey_28.trans (congrArg g_10 (nI_clamp (n := g_11) (Nat.lt_of_le_of_lt hg_11.2 (Nat.le_of_ble_eq_true rfl))))
      have hsp := hsp.trans (slet_eq ey_28)
      refine va_iast hx hb hK hP hD hS 2 1 rfl rfl (vp_in_nI (n := (g_11 - 1)) (by omega) (Nat.le_of_ble_eq_true rfl)) eX2_keep_44 (fun H locs hP hD hS => ?_)
      obtain ⟨f_29, ef_29, xf_29⟩ := up_x g_10 (n := (g_11 - 1)) y_28 (by omega)
      have hP : va_P (dC, dI) vwCl (hz__w hy (nI hk) co ol k_fo f_26 k_fl f_29) H := by rw [← ef_29]; exact hP
      have hD : va_D A (hz__w hy (nI hk) co ol k_fo f_26 k_fl f_29) := by rw [← ef_29]; exact hD
      have hsp := hsp.trans (slet_eq xf_29)
      refine lv_iinc (v := (nI (g_11 + 1))) (lv' := [(3, .int (nI (g_11 + 1))), (0, .ref hy), (1, .int p0), (2, .int p1)]) hx hb eX2_keep_45 hl (k := 3) rfl (nI_1 _) (by decide) rfl (fun ls hl => ?_)
      refine lv_goto (tgt := 11) hx hb eX2_keep_48 (by decide) ?_
      exact ih_13 (20 - (g_11 + 1)) (by omega) _ _ _ ⟨f_26, f_29, (g_11 + 1), rfl, ⟨by omega, by omega⟩, by first | assumption | exact hi_eq (by assumption) (by omega) | exact hi_mvx (by assumption) (by assumption) (by assumption) (by omega) (by omega), hin_17 _ hsp, hP, hD, hS, lv_sub hl [1, 2, 3, 0] rfl⟩
theorem eX2_takesBack_0 : decode cX2_takesBack 0 = .ok (.aload_n 0, 1) := by decide +kernel
theorem eX2_takesBack_1 : decode cX2_takesBack 1 = .ok (.getfield 18, 3) := by decide +kernel
theorem eX2_takesBack_4 : decode cX2_takesBack 4 = .ok (.ifCond .ne 5, 3) := by decide +kernel
theorem eX2_takesBack_7 : decode cX2_takesBack 7 = .ok (.iconst 0, 1) := by decide +kernel
theorem eX2_takesBack_8 : decode cX2_takesBack 8 = .ok (.ireturn, 1) := by decide +kernel
theorem eX2_takesBack_9 : decode cX2_takesBack 9 = .ok (.aload_n 0, 1) := by decide +kernel
theorem eX2_takesBack_10 : decode cX2_takesBack 10 = .ok (.dup, 1) := by decide +kernel
theorem eX2_takesBack_11 : decode cX2_takesBack 11 = .ok (.getfield 18, 3) := by decide +kernel
theorem eX2_takesBack_14 : decode cX2_takesBack 14 = .ok (.iconst 1, 1) := by decide +kernel
theorem eX2_takesBack_15 : decode cX2_takesBack 15 = .ok (.isub, 1) := by decide +kernel
theorem eX2_takesBack_16 : decode cX2_takesBack 16 = .ok (.putfield 18, 3) := by decide +kernel
theorem eX2_takesBack_19 : decode cX2_takesBack 19 = .ok (.aload_n 0, 1) := by decide +kernel
theorem eX2_takesBack_20 : decode cX2_takesBack 20 = .ok (.getfield 9, 3) := by decide +kernel
theorem eX2_takesBack_23 : decode cX2_takesBack 23 = .ok (.aload_n 0, 1) := by decide +kernel
theorem eX2_takesBack_24 : decode cX2_takesBack 24 = .ok (.getfield 18, 3) := by decide +kernel
theorem eX2_takesBack_27 : decode cX2_takesBack 27 = .ok (.iaload, 1) := by decide +kernel
theorem eX2_takesBack_28 : decode cX2_takesBack 28 = .ok (.istore_n 2, 1) := by decide +kernel
theorem eX2_takesBack_29 : decode cX2_takesBack 29 = .ok (.iload_n 2, 1) := by decide +kernel
theorem eX2_takesBack_30 : decode cX2_takesBack 30 = .ok (.ifCond .ge 32, 3) := by decide +kernel
theorem eX2_takesBack_33 : decode cX2_takesBack 33 = .ok (.aload_n 1, 1) := by decide +kernel
theorem eX2_takesBack_34 : decode cX2_takesBack 34 = .ok (.getfield 22, 3) := by decide +kernel
theorem eX2_takesBack_37 : decode cX2_takesBack 37 = .ok (.iconst (-1), 1) := by decide +kernel
theorem eX2_takesBack_38 : decode cX2_takesBack 38 = .ok (.iload_n 2, 1) := by decide +kernel
theorem eX2_takesBack_39 : decode cX2_takesBack 39 = .ok (.isub, 1) := by decide +kernel
theorem eX2_takesBack_40 : decode cX2_takesBack 40 = .ok (.aload_n 0, 1) := by decide +kernel
theorem eX2_takesBack_41 : decode cX2_takesBack 41 = .ok (.getfield 15, 3) := by decide +kernel
theorem eX2_takesBack_44 : decode cX2_takesBack 44 = .ok (.aload_n 0, 1) := by decide +kernel
theorem eX2_takesBack_45 : decode cX2_takesBack 45 = .ok (.getfield 18, 3) := by decide +kernel
theorem eX2_takesBack_48 : decode cX2_takesBack 48 = .ok (.iaload, 1) := by decide +kernel
theorem eX2_takesBack_49 : decode cX2_takesBack 49 = .ok (.iconst 1, 1) := by decide +kernel
theorem eX2_takesBack_50 : decode cX2_takesBack 50 = .ok (.if_icmp .ne 7, 3) := by decide +kernel
theorem eX2_takesBack_53 : decode cX2_takesBack 53 = .ok (.iconst 1, 1) := by decide +kernel
theorem eX2_takesBack_54 : decode cX2_takesBack 54 = .ok (.goto 4, 3) := by decide +kernel
theorem eX2_takesBack_57 : decode cX2_takesBack 57 = .ok (.iconst 0, 1) := by decide +kernel
theorem eX2_takesBack_58 : decode cX2_takesBack 58 = .ok (.bastore, 1) := by decide +kernel
theorem eX2_takesBack_59 : decode cX2_takesBack 59 = .ok (.goto 17, 3) := by decide +kernel
theorem eX2_takesBack_62 : decode cX2_takesBack 62 = .ok (.aload_n 1, 1) := by decide +kernel
theorem eX2_takesBack_63 : decode cX2_takesBack 63 = .ok (.iload_n 2, 1) := by decide +kernel
theorem eX2_takesBack_64 : decode cX2_takesBack 64 = .ok (.aload_n 0, 1) := by decide +kernel
theorem eX2_takesBack_65 : decode cX2_takesBack 65 = .ok (.getfield 15, 3) := by decide +kernel
theorem eX2_takesBack_68 : decode cX2_takesBack 68 = .ok (.aload_n 0, 1) := by decide +kernel
theorem eX2_takesBack_69 : decode cX2_takesBack 69 = .ok (.getfield 18, 3) := by decide +kernel
theorem eX2_takesBack_72 : decode cX2_takesBack 72 = .ok (.iaload, 1) := by decide +kernel
theorem eX2_takesBack_73 : decode cX2_takesBack 73 = .ok (.invokevirtual 28, 3) := by decide +kernel
theorem eX2_takesBack_76 : decode cX2_takesBack 76 = .ok (.iconst 1, 1) := by decide +kernel
theorem eX2_takesBack_77 : decode cX2_takesBack 77 = .ok (.ireturn, 1) := by decide +kernel
abbrev vs_E_2_takesBack : List Cond := .code yX2_takesBack cX2_takesBack 3 (some .boolean) :: CM
theorem g_E_2_takesBack_E_0_setNumber : GoodIn vs_E_2_takesBack (wsV RX2 28 RX0 yX0_setNumber vs_E_0_setNumber) := cm_gV cm_167 cm_168 cm_169 cm_19 cm_27
noncomputable def sp_E_2_takesBack (hk : Nat) (fo : Nat → Int32) (fl : Nat → Int32) (f4 : Nat → Int32) (q_f8 : Nat → Nat) (q_f9 : Nat → Nat) (f10 : Nat → Int32) (f11 : Nat → Int32) (f12 : Nat → Int32) (f13 : Nat → Int32) (f14 : Nat → Int32) (f15 : Nat → Int32) (f16 : Nat → Int32) : Nat × (Nat → Int32) × (Nat → Int32) × (Nat → Int32) × (Nat → Int32) × (Nat → Int32) × (Nat → Int32) × (Nat → Int32) × Nat := (if hk = 0 then (0, f11, f12, f13, f14, f15, f16, f4, hk) else (slet (fo (hk - 1)) (fun y_3 => (if (y_3 : Int32) < 0 then (slet (((-1 : Int32) - (y_3 : Int32)).toNatClampNeg) (fun n_4 => (slet (fl (hk - 1)) (fun y_15 => (if (y_15 : Int32) = 1 then (slet (upd f4 n_4 (vp_nar .boolean 1)) (fun f_18 => (1, f11, f12, f13, f14, f15, f16, f_18, (hk - 1)))) else (slet (upd f4 n_4 (vp_nar .boolean 0)) (fun f_17 => (1, f11, f12, f13, f14, f15, f16, f_17, (hk - 1))))))))) else (slet ((y_3 : Int32).toNatClampNeg) (fun n_4 => (slet (fl (hk - 1)) (fun y_6 => (slet (sp_E_0_setNumber q_f8 q_f9 f10 f11 f12 f13 f14 f15 f16 n_4 y_6) (fun (z_f13_8, z_f14_9, z_f15_10, z_f16_11, z_f11_12, z_f12_13) => (1, z_f11_12, z_f12_13, z_f13_8, z_f14_9, z_f15_10, z_f16_11, f4, (hk - 1))))))))))))
set_option maxHeartbeats 4000000 in
set_option maxRecDepth 100000 in
theorem c_E_2_takesBack (l : Launch) (dC : Nat → ClassId) (dI : Nat → Nat → Nat) (sz : Nat) (hy : Nat) (hk : Nat) (co : Nat) (ol : Nat) (k_fo : ClassId) (fo : Nat → Int32) (k_fl : ClassId) (fl : Nat → Int32) (au : Nat) (nc : Nat) (np : Nat) (ne : Nat) (st0 : Int32) (q4 : Nat) (q5 : Nat) (q6 : Nat) (q7 : Nat) (q8 : Nat) (q9 : Nat) (q10 : Nat) (q11 : Nat) (q12 : Nat) (q13 : Nat) (q14 : Nat) (q15 : Nat) (q16 : Nat) (k_f4 : ClassId) (f4 : Nat → Int32) (k_f5 : ClassId) (q_f5 : Nat → Nat) (k_f6 : ClassId) (q_f6 : Nat → Nat) (k_f7 : ClassId) (f7 : Nat → Int32) (k_f8 : ClassId) (q_f8 : Nat → Nat) (k_f9 : ClassId) (q_f9 : Nat → Nat) (k_f10 : ClassId) (f10 : Nat → Int32) (k_f11 : ClassId) (f11 : Nat → Int32) (k_f12 : ClassId) (f12 : Nat → Int32) (k_f13 : ClassId) (f13 : Nat → Int32) (k_f14 : ClassId) (f14 : Nat → Int32) (k_f15 : ClassId) (f15 : Nat → Int32) (k_f16 : ClassId) (f16 : Nat → Int32) (hhk : hk ≤ 20) (hnc : nc ≤ 3) (hnp : np ≤ 8) (hne : ne ≤ 14) (hst0 : pm1 7 st0) (hq0 : hi_ok hk fo) : Met l yX2_takesBack vs_E_2_takesBack ({ frames := 3, cells := 0, slots := 0, locals := 67 }) (va_Pc [.ref hy, .ref au] (pu_B (dC, dI) (hi__w hy (nI hk) co ol k_fo fo k_fl fl au (nI nc) (nI np) (nI ne) st0 q4 q5 q6 q7 q8 q9 q10 q11 q12 q13 q14 q15 q16 k_f4 f4 k_f5 (bN 7 q_f5) k_f6 (bN 7 q_f6) k_f7 f7 k_f8 (bN 4 q_f8) k_f9 (bN 2 q_f9) k_f10 f10 k_f11 f11 k_f12 f12 k_f13 f13 k_f14 f14 k_f15 f15 k_f16 f16) (hi__t k_fo k_fl k_f4 k_f5 k_f6 k_f7 k_f8 k_f9 k_f10 k_f11 k_f12 k_f13 k_f14 k_f15 k_f16) sz)) (va_Qi (fun (r : Int32) (_ : Unit) => ∃ v : Nat, v ≤ 1 ∧ r = nI v ∧ v = (sp_E_2_takesBack hk fo fl f4 q_f8 q_f9 f10 f11 f12 f13 f14 f15 f16).1) (fun _ t => ∃ (z_f11 : Nat → Int32) (z_f12 : Nat → Int32) (z_f13 : Nat → Int32) (z_f14 : Nat → Int32) (z_f15 : Nat → Int32) (z_f16 : Nat → Int32) (z_f4 : Nat → Int32) (z_hk : Nat), pu_E (dC, dI) (hi__w hy (nI z_hk) co ol k_fo fo k_fl fl au (nI nc) (nI np) (nI ne) st0 q4 q5 q6 q7 q8 q9 q10 q11 q12 q13 q14 q15 q16 k_f4 z_f4 k_f5 (bN 7 q_f5) k_f6 (bN 7 q_f6) k_f7 f7 k_f8 (bN 4 q_f8) k_f9 (bN 2 q_f9) k_f10 f10 k_f11 z_f11 k_f12 z_f12 k_f13 z_f13 k_f14 z_f14 k_f15 z_f15 k_f16 z_f16) (hi__t k_fo k_fl k_f4 k_f5 k_f6 k_f7 k_f8 k_f9 k_f10 k_f11 k_f12 k_f13 k_f14 k_f15 k_f16) (va_A ((hi__w hy (nI hk) co ol k_fo fo k_fl fl au (nI nc) (nI np) (nI ne) st0 q4 q5 q6 q7 q8 q9 q10 q11 q12 q13 q14 q15 q16 k_f4 f4 k_f5 (bN 7 q_f5) k_f6 (bN 7 q_f6) k_f7 f7 k_f8 (bN 4 q_f8) k_f9 (bN 2 q_f9) k_f10 f10 k_f11 f11 k_f12 f12 k_f13 f13 k_f14 f14 k_f15 f15 k_f16 f16)) sz) t ∧ (z_hk ≤ 20) ∧ (z_hk ≤ hk) ∧ ((z_f11, z_f12, z_f13, z_f14, z_f15, z_f16, z_f4, z_hk) = (sp_E_2_takesBack hk fo fl f4 q_f8 q_f9 f10 f11 f12 f13 f14 f15 f16).2)) (va_A ((hi__w hy (nI hk) co ol k_fo fo k_fl fl au (nI nc) (nI np) (nI ne) st0 q4 q5 q6 q7 q8 q9 q10 q11 q12 q13 q14 q15 q16 k_f4 f4 k_f5 (bN 7 q_f5) k_f6 (bN 7 q_f6) k_f7 f7 k_f8 (bN 4 q_f8) k_f9 (bN 2 q_f9) k_f10 f10 k_f11 f11 k_f12 f12 k_f13 f13 k_f14 f14 k_f15 f15 k_f16 f16)) sz)) 0 0 (va_A ((hi__w hy (nI hk) co ol k_fo fo k_fl fl au (nI nc) (nI np) (nI ne) st0 q4 q5 q6 q7 q8 q9 q10 q11 q12 q13 q14 q15 q16 k_f4 f4 k_f5 (bN 7 q_f5) k_f6 (bN 7 q_f6) k_f7 f7 k_f8 (bN 4 q_f8) k_f9 (bN 2 q_f9) k_f10 f10 k_f11 f11 k_f12 f12 k_f13 f13 k_f14 f14 k_f15 f15 k_f16 f16)) sz) := by
  refine Met.ofW (cc := cX2_takesBack) (maxL := 3) (ret := (some .boolean)) (by decide) rfl ?_
  intro p e s m args below meth c s₁ B hml hv
  obtain ⟨rfl, rfl, hP, hK, hD0⟩ := hv
  have hx := B.exec
  have hb := B.bytes
  have hr := B.returns
  have hts := atoms_spec (ws := vs_E_2_takesBack) B.pre
  have v_1 := hts (.fieldLink RX2 18 "ClockReach$History" "count" "I") (List.mem_cons_of_mem _ cm_162)
  have v_2 := hts (.fieldLink RX2 9 "ClockReach$History" "codes" "[I") (List.mem_cons_of_mem _ cm_163)
  have v_3 := hts (.fieldLink RX2 15 "ClockReach$History" "olds" "[I") (List.mem_cons_of_mem _ cm_164)
  have v_9 := hts (.fieldLink RX2 22 "ClockReach$Automaton" "hurried" "[Z") (List.mem_cons_of_mem _ cm_166)
  have hown : s.vm.findClass RX2 = some m.cls := findClass_of_methodNamed B.named
  have hlocks := B.notSynchronized
  have hiX0 : ∀ w ∈ wsX00, w ∈ vs_E_2_takesBack := fun _ h => List.mem_cons_of_mem _ (cm_X0 h)
  have hiX2 : ∀ w ∈ wsX20, w ∈ vs_E_2_takesBack := fun _ h => List.mem_cons_of_mem _ (cm_X2 h)
  have hD := hD0.self (sz := s.heap.size)
  generalize hAe : va_A ((hi__w hy (nI hk) co ol k_fo fo k_fl fl au (nI nc) (nI np) (nI ne) st0 q4 q5 q6 q7 q8 q9 q10 q11 q12 q13 q14 q15 q16 k_f4 f4 k_f5 (bN 7 q_f5) k_f6 (bN 7 q_f6) k_f7 f7 k_f8 (bN 4 q_f8) k_f9 (bN 2 q_f9) k_f10 f10 k_f11 f11 k_f12 f12 k_f13 f13 k_f14 f14 k_f15 f15 k_f16 f16)) s.heap.size = A at hD ⊢
  have hA : ∀ q : Nat, s.heap.size ≤ q → A q := fun q h => by rw [← hAe]; exact Or.inr h
  have hS : va_S A s.heap s.heap [] := va_S.rf
  have hl := lv_entry ([.ref hy, .ref au]) (n := 3) (Nat.le_of_ble_eq_true rfl)
  rw [lg_entry_eq]
  generalize (lg_sl ([.ref hy, .ref au]) ++ List.replicate (3 - (lg_sl ([.ref hy, .ref au])).length) Slot.unset).toArray = ls at hl ⊢
  have hl : lv_has ls 3 [(0, .ref hy), (1, .ref au)] := hl
  obtain ⟨RR, hRR⟩ : ∃ x, x = (sp_E_2_takesBack hk fo fl f4 q_f8 q_f9 f10 f11 f12 f13 f14 f15 f16) := ⟨_, rfl⟩
  have hsp := hRR
  refine lv_aload_n hx hb eX2_takesBack_0 rfl (lv_at hl 0 rfl) ?_
  refine va_get (D := (dC, dI)) (ci := 2) (v := .int (nI hk)) (C := RX2) (T := TX2) (N := 3) hx hb hts hiX2 hown hK hP 0 rfl rfl 0 (by decide) v_1 (fun _ h9 => h9) rfl eX2_takesBack_1 ?_
  refine lv_if_ne (tgt := 9) hx hb eX2_takesBack_4 (by decide) (fun c_1 => ?_) (fun c_1 => ?_)
  · have c_1 : ¬ hk = 0 := fun z => c_1 ((nI_eq (a := hk) (b := 0) (Nat.lt_of_le_of_lt hhk (Nat.le_of_ble_eq_true rfl)) (Nat.le_of_ble_eq_true rfl)).mpr z)
    have hsp := hsp.trans (if_neg c_1)
    refine lv_aload_n hx hb eX2_takesBack_9 rfl (lv_at hl 0 rfl) ?_
    refine lv_dup hx hb eX2_takesBack_10 rfl ?_
    refine va_get (D := (dC, dI)) (ci := 2) (v := .int (nI hk)) (C := RX2) (T := TX2) (N := 3) hx hb hts hiX2 hown hK hP 0 rfl rfl 0 (by decide) v_1 (fun _ h9 => h9) rfl eX2_takesBack_11 ?_
    refine lv_iconst (v := 1) hx hb eX2_takesBack_14 (by decide) ?_
    refine lv_isub hx hb eX2_takesBack_15 ?_
    refine lv_topi (fun y_2 ey_2 => ?_)
    obtain rfl : y_2 = (nI (hk - 1)) := ey_2.trans (pk_sub (a := hk) (b := 1) (by omega))
    refine va_put (D := (dC, dI)) (ci := 2) (v := .int (nI (hk - 1))) (ty := .int) (C := RX2) (T := TX2) (N := 3) hx hb hts hiX2 tyX2 tyX2_ok nmX2 hown hK hP hD hS 0 rfl rfl 0 (by decide) v_1 (fun _ h9 => h9) rfl (by decide +kernel) rfl rfl (Nat.le_of_ble_eq_true rfl) eX2_takesBack_16 (fun H locs hP hD hS => ?_)
    have hP : va_P (dC, dI) vwCl (hi__w hy (nI (hk - 1)) co ol k_fo fo k_fl fl au (nI nc) (nI np) (nI ne) st0 q4 q5 q6 q7 q8 q9 q10 q11 q12 q13 q14 q15 q16 k_f4 f4 k_f5 (bN 7 q_f5) k_f6 (bN 7 q_f6) k_f7 f7 k_f8 (bN 4 q_f8) k_f9 (bN 2 q_f9) k_f10 f10 k_f11 f11 k_f12 f12 k_f13 f13 k_f14 f14 k_f15 f15 k_f16 f16) H := hP
    have hD : va_D A (hi__w hy (nI (hk - 1)) co ol k_fo fo k_fl fl au (nI nc) (nI np) (nI ne) st0 q4 q5 q6 q7 q8 q9 q10 q11 q12 q13 q14 q15 q16 k_f4 f4 k_f5 (bN 7 q_f5) k_f6 (bN 7 q_f6) k_f7 f7 k_f8 (bN 4 q_f8) k_f9 (bN 2 q_f9) k_f10 f10 k_f11 f11 k_f12 f12 k_f13 f13 k_f14 f14 k_f15 f15 k_f16 f16) := hD
    refine lv_aload_n hx hb eX2_takesBack_19 rfl (lv_at hl 0 rfl) ?_
    refine va_get (D := (dC, dI)) (ci := 2) (v := .ref co) (C := RX2) (T := TX2) (N := 3) hx hb hts hiX2 hown hK hP 0 rfl rfl 1 (by decide) v_2 (fun _ h9 => h9) rfl eX2_takesBack_20 ?_
    refine lv_aload_n hx hb eX2_takesBack_23 rfl (lv_at hl 0 rfl) ?_
    refine va_get (D := (dC, dI)) (ci := 2) (v := .int (nI (hk - 1))) (C := RX2) (T := TX2) (N := 3) hx hb hts hiX2 hown hK hP 0 rfl rfl 0 (by decide) v_1 (fun _ h9 => h9) rfl eX2_takesBack_24 ?_
    refine va_iald hx hb hK hP 1 0 rfl rfl (vp_in_nI (n := (hk - 1)) (by omega) (Nat.le_of_ble_eq_true rfl)) eX2_takesBack_27 ?_
    refine lv_topi (fun y_3 ey_3 => ?_)
    have xy_3 : y_3 = fo (hk - 1) := ey_3.trans (congrArg fo (nI_clamp (n := (hk - 1)) (by omega)))
    have hsp := hsp.trans (slet_eq xy_3)
    rcases hi_get (i := (hk - 1)) hq0 (by omega) (by omega) with ⟨n_4, hn_4, kn_4⟩ | ⟨n_4, hn_4, kn_4⟩
    · obtain rfl : y_3 = (nI n_4) := ey_3.trans kn_4
      have hsp := hsp.trans (if_neg (Int32.not_lt.mpr (nI_pos' (n := n_4) (by omega))))
      have hsp := hsp.trans (slet_eq (nI_cl (n := n_4) (by omega)))
      refine lv_istore_n (lv' := [(2, .int (nI n_4)), (0, .ref hy), (1, .ref au)]) hx hb eX2_takesBack_28 rfl hl (by decide) rfl (fun ls hl => ?_)
      refine lv_iload_n hx hb eX2_takesBack_29 rfl (lv_at hl 0 rfl) ?_
      refine lv_if_ge (tgt := 62) hx hb eX2_takesBack_30 (by decide) (fun c_5 => ?_) (fun c_5 => ?_)
      · have c_5 : 0 ≤ n_4 := (nI_leI (a := 0) (b := n_4) (Nat.le_of_ble_eq_true rfl) (by omega)).mp c_5
        refine lv_aload_n hx hb eX2_takesBack_62 rfl (lv_at hl 2 rfl) ?_
        refine lv_iload_n hx hb eX2_takesBack_63 rfl (lv_at hl 0 rfl) ?_
        refine lv_aload_n hx hb eX2_takesBack_64 rfl (lv_at hl 1 rfl) ?_
        refine va_get (D := (dC, dI)) (ci := 2) (v := .ref ol) (C := RX2) (T := TX2) (N := 3) hx hb hts hiX2 hown hK hP 0 rfl rfl 2 (by decide) v_3 (fun _ h9 => h9) rfl eX2_takesBack_65 ?_
        refine lv_aload_n hx hb eX2_takesBack_68 rfl (lv_at hl 1 rfl) ?_
        refine va_get (D := (dC, dI)) (ci := 2) (v := .int (nI (hk - 1))) (C := RX2) (T := TX2) (N := 3) hx hb hts hiX2 hown hK hP 0 rfl rfl 0 (by decide) v_1 (fun _ h9 => h9) rfl eX2_takesBack_69 ?_
        refine va_iald hx hb hK hP 2 1 rfl rfl (vp_in_nI (n := (hk - 1)) (by omega) (Nat.le_of_ble_eq_true rfl)) eX2_takesBack_72 ?_
        refine lv_topi (fun y_6 ey_6 => ?_)
        have ey_6 : y_6 = fl (hk - 1) := ey_6.trans (congrArg fl (nI_clamp (n := (hk - 1)) (by omega)))
        have hsp := hsp.trans (slet_eq ey_6)
        have hPc : va_P (dC, dI) vwCl (au__w au (nI nc) (nI np) (nI ne) st0 q4 q5 q6 q7 q8 q9 q10 q11 q12 q13 q14 q15 q16 k_f4 f4 k_f5 (bN 7 q_f5) k_f6 (bN 7 q_f6) k_f7 f7 k_f8 (bN 4 q_f8) k_f9 (bN 2 q_f9) k_f10 f10 k_f11 f11 k_f12 f12 k_f13 f13 k_f14 f14 k_f15 f15 k_f16 f16) _ := hP.sub [3, 4, 5, 6, 7, 8, 9, 10, 11, 12, 13, 14, 15, 16] rfl
        have hDc := hD.sub (ws' := (au__w au (nI nc) (nI np) (nI ne) st0 q4 q5 q6 q7 q8 q9 q10 q11 q12 q13 q14 q15 q16 k_f4 f4 k_f5 (bN 7 q_f5) k_f6 (bN 7 q_f6) k_f7 f7 k_f8 (bN 4 q_f8) k_f9 (bN 2 q_f9) k_f10 f10 k_f11 f11 k_f12 f12 k_f13 f13 k_f14 f14 k_f15 f15 k_f16 f16)) [3, 4, 5, 6, 7, 8, 9, 10, 11, 12, 13, 14, 15, 16] (by decide) rfl
        have hKc : va_K (dC, dI) vwCl (au__t k_f4 k_f5 k_f6 k_f7 k_f8 k_f9 k_f10 k_f11 k_f12 k_f13 k_f14 k_f15 k_f16) s := hK.sub [2, 3, 4, 5, 6, 7, 8, 9, 10, 11, 12, 13, 14] rfl
        have hFc := pu_free hDc hS hA
        refine va_callv (va_runV (As := [.int (nI n_4), .int y_6]) (rest := []) ⟨hx, hb, hml, hown, hts⟩ (c_E_0_setNumber l dC dI _ au nc np ne st0 q4 q5 q6 q7 q8 q9 q10 q11 q12 q13 q14 q15 q16 k_f4 f4 k_f5 q_f5 k_f6 q_f6 k_f7 f7 k_f8 q_f8 k_f9 q_f9 k_f10 f10 k_f11 f11 k_f12 f12 k_f13 f13 k_f14 f14 k_f15 f15 k_f16 f16 n_4 y_6 hnc hnp hne (hst0) (by omega)) (cwV 2 hts g_E_2_takesBack_E_0_setNumber rfl rfl rfl (by decide +kernel) ⟨Nat.le_of_ble_eq_true rfl, Nat.le_of_ble_eq_true rfl⟩) ⟨pu_bl, va_recv hK hP (ci := 0) (q0 := 3) rfl rfl, pu_in hPc hKc hDc⟩ rfl rfl hl.1 rfl (lv_room (Nat.le_of_ble_eq_true rfl)) eX2_takesBack_73 ⟨Nat.le_of_ble_eq_true rfl, Nat.le_of_ble_eq_true rfl⟩) hS (fun q _ h => hFc q h) hFc (fun u t H1 locs ht hvm hw hB hz1 hk1 hS => ?_)
        obtain ⟨z_f13_8, z_f14_9, z_f15_10, z_f16_11, z_f11_12, z_f12_13, ⟨hP1, -, hD1⟩, xr_7_0⟩ := hB
        rw [ht] at hP1
        obtain ⟨hP, hD⟩ := pj_a (X := (hi__w hy (nI (hk - 1)) co ol k_fo fo k_fl fl au (nI nc) (nI np) (nI ne) st0 q4 q5 q6 q7 q8 q9 q10 q11 q12 q13 q14 q15 q16 k_f4 f4 k_f5 (bN 7 q_f5) k_f6 (bN 7 q_f6) k_f7 f7 k_f8 (bN 4 q_f8) k_f9 (bN 2 q_f9) k_f10 f10 k_f11 f11 k_f12 f12 k_f13 f13 k_f14 f14 k_f15 f15 k_f16 f16)) (X' := (hi__w hy (nI (hk - 1)) co ol k_fo fo k_fl fl au (nI nc) (nI np) (nI ne) st0 q4 q5 q6 q7 q8 q9 q10 q11 q12 q13 q14 q15 q16 k_f4 f4 k_f5 (bN 7 q_f5) k_f6 (bN 7 q_f6) k_f7 f7 k_f8 (bN 4 q_f8) k_f9 (bN 2 q_f9) k_f10 f10 k_f11 z_f11_12 k_f12 z_f12_13 k_f13 z_f13_8 k_f14 z_f14_9 k_f15 z_f15_10 k_f16 z_f16_11)) (wc := (au__w au (nI nc) (nI np) (nI ne) st0 q4 q5 q6 q7 q8 q9 q10 q11 q12 q13 q14 q15 q16 k_f4 f4 k_f5 (bN 7 q_f5) k_f6 (bN 7 q_f6) k_f7 f7 k_f8 (bN 4 q_f8) k_f9 (bN 2 q_f9) k_f10 f10 k_f11 f11 k_f12 f12 k_f13 f13 k_f14 f14 k_f15 f15 k_f16 f16)) (w1 := (au__w au (nI nc) (nI np) (nI ne) st0 q4 q5 q6 q7 q8 q9 q10 q11 q12 q13 q14 q15 q16 k_f4 f4 k_f5 (bN 7 q_f5) k_f6 (bN 7 q_f6) k_f7 f7 k_f8 (bN 4 q_f8) k_f9 (bN 2 q_f9) k_f10 f10 k_f11 z_f11_12 k_f12 z_f12_13 k_f13 z_f13_8 k_f14 z_f14_9 k_f15 z_f15_10 k_f16 z_f16_11)) hP hD [3, 4, 5, 6, 7, 8, 9, 10, 11, 12, 13, 14, 15, 16] [14, 15, 16, 0, 1, 2, 3, 4, 5, 6, 7, 8, 9, 10, 11, 12, 13] 14 rfl hk1 hP1 rfl rfl rfl (by decide)
        clear hP1 hD1 hFc hPc hDc hKc
        clear hk1 hz1 ht hvm
        generalize H1 = H at hP hS ⊢
        have hsp := hsp.trans (slet_eq xr_7_0)
        refine lv_iconst (v := 1) hx hb eX2_takesBack_76 (by decide) ?_
        exact W.zret (v := 1) (ty := .boolean) hx hb hr (rfl) (fun t ht hW => ⟨⟨1, (), rfl, ⟨1, (Nat.le_of_ble_eq_true rfl), rfl, (congrArg Prod.fst (hsp.symm.trans hRR))⟩, ⟨z_f11_12, z_f12_13, z_f13_8, z_f14_9, z_f15_10, z_f16_11, f4, (hk - 1), ⟨by rw [ht]; exact hP, va_K.moved hW.alike hK, hD⟩, (by omega), by omega, (congrArg Prod.snd (hsp.symm.trans hRR))⟩⟩, hS.F ht⟩) hS.2.2 eX2_takesBack_77
      · have c_5 : ¬ 0 ≤ n_4 := fun z => c_5 ((nI_leI (a := 0) (b := n_4) (Nat.le_of_ble_eq_true rfl) (by omega)).mpr z)
        exfalso
        omega
    · obtain rfl : y_3 = (-1 - nI n_4) := ey_3.trans kn_4
      have hsp := hsp.trans (if_pos (Int32.not_le.mp (hi_neg n_4 hn_4)))
      have hsp := hsp.trans (slet_eq (hi_subq hn_4))
      refine lv_istore_n (lv' := [(2, .int (-1 - nI n_4)), (0, .ref hy), (1, .ref au)]) hx hb eX2_takesBack_28 rfl hl (by decide) rfl (fun ls hl => ?_)
      refine lv_iload_n hx hb eX2_takesBack_29 rfl (lv_at hl 0 rfl) ?_
      refine lv_if_ge (tgt := 62) hx hb eX2_takesBack_30 (by decide) (fun z => absurd z (hi_neg n_4 hn_4)) (fun _ => ?_)
      refine lv_aload_n hx hb eX2_takesBack_33 rfl (lv_at hl 2 rfl) ?_
      refine va_get (D := (dC, dI)) (ci := 0) (v := .ref q4) (C := RX0) (T := TX0) (N := 17) hx hb hts hiX0 hown hK hP 3 rfl rfl 4 (by decide) v_9 (fun _ h9 => h9) rfl eX2_takesBack_34 ?_
      refine lv_iconst (v := (-1)) hx hb eX2_takesBack_37 (by decide) ?_
      refine lv_iload_n hx hb eX2_takesBack_38 rfl (lv_at hl 0 rfl) ?_
      refine lv_isub hx hb eX2_takesBack_39 ?_
      refine lv_topi (fun y_14 ey_14 => ?_)
      obtain rfl : y_14 = nI n_4 := ey_14.trans (hi_sub n_4 hn_4)
      refine lv_aload_n hx hb eX2_takesBack_40 rfl (lv_at hl 1 rfl) ?_
      refine va_get (D := (dC, dI)) (ci := 2) (v := .ref ol) (C := RX2) (T := TX2) (N := 3) hx hb hts hiX2 hown hK hP 0 rfl rfl 2 (by decide) v_3 (fun _ h9 => h9) rfl eX2_takesBack_41 ?_
      refine lv_aload_n hx hb eX2_takesBack_44 rfl (lv_at hl 1 rfl) ?_
      refine va_get (D := (dC, dI)) (ci := 2) (v := .int (nI (hk - 1))) (C := RX2) (T := TX2) (N := 3) hx hb hts hiX2 hown hK hP 0 rfl rfl 0 (by decide) v_1 (fun _ h9 => h9) rfl eX2_takesBack_45 ?_
      refine va_iald hx hb hK hP 2 1 rfl rfl (vp_in_nI (n := (hk - 1)) (by omega) (Nat.le_of_ble_eq_true rfl)) eX2_takesBack_48 ?_
      refine lv_topi (fun y_15 ey_15 => ?_)
      have ey_15 : y_15 = fl (hk - 1) := ey_15.trans (congrArg fl (nI_clamp (n := (hk - 1)) (by omega)))
      have hsp := hsp.trans (slet_eq ey_15)
      refine lv_iconst (v := 1) hx hb eX2_takesBack_49 (by decide) ?_
      refine lv_icmp_ne (tgt := 57) hx hb eX2_takesBack_50 (by decide) (fun c_16 => ?_) (fun c_16 => ?_)
      · have hcc_16 := c_16
        have hsp := hsp.trans (if_neg c_16)
        refine lv_iconst (v := 0) hx hb eX2_takesBack_57 (by decide) ?_
        refine va_zast hx hb hK hP hD hS 4 2 rfl rfl (vp_in_nI (n := n_4) (by omega) (Nat.le_of_ble_eq_true rfl)) eX2_takesBack_58 (fun H locs hP hD hS => ?_)
        obtain ⟨f_17, ef_17, xf_17⟩ := up_x f4 (n := n_4) (vp_nar .boolean 0) (by omega)
        have hP : va_P (dC, dI) vwCl (hi__w hy (nI (hk - 1)) co ol k_fo fo k_fl fl au (nI nc) (nI np) (nI ne) st0 q4 q5 q6 q7 q8 q9 q10 q11 q12 q13 q14 q15 q16 k_f4 f_17 k_f5 (bN 7 q_f5) k_f6 (bN 7 q_f6) k_f7 f7 k_f8 (bN 4 q_f8) k_f9 (bN 2 q_f9) k_f10 f10 k_f11 f11 k_f12 f12 k_f13 f13 k_f14 f14 k_f15 f15 k_f16 f16) H := by rw [← ef_17]; exact hP
        have hD : va_D A (hi__w hy (nI (hk - 1)) co ol k_fo fo k_fl fl au (nI nc) (nI np) (nI ne) st0 q4 q5 q6 q7 q8 q9 q10 q11 q12 q13 q14 q15 q16 k_f4 f_17 k_f5 (bN 7 q_f5) k_f6 (bN 7 q_f6) k_f7 f7 k_f8 (bN 4 q_f8) k_f9 (bN 2 q_f9) k_f10 f10 k_f11 f11 k_f12 f12 k_f13 f13 k_f14 f14 k_f15 f15 k_f16 f16) := by rw [← ef_17]; exact hD
        have hsp := hsp.trans (slet_eq xf_17)
        refine lv_goto (tgt := 76) hx hb eX2_takesBack_59 (by decide) ?_
        refine lv_iconst (v := 1) hx hb eX2_takesBack_76 (by decide) ?_
        exact W.zret (v := 1) (ty := .boolean) hx hb hr (rfl) (fun t ht hW => ⟨⟨1, (), rfl, ⟨1, (Nat.le_of_ble_eq_true rfl), rfl, (congrArg Prod.fst (hsp.symm.trans hRR))⟩, ⟨f11, f12, f13, f14, f15, f16, f_17, (hk - 1), ⟨by rw [ht]; exact hP, va_K.moved hW.alike hK, hD⟩, (by omega), by omega, (congrArg Prod.snd (hsp.symm.trans hRR))⟩⟩, hS.F ht⟩) hS.2.2 eX2_takesBack_77
      · have hcc_16 := c_16
        have hsp := hsp.trans (if_pos c_16)
        refine lv_iconst (v := 1) hx hb eX2_takesBack_53 (by decide) ?_
        refine lv_goto (tgt := 58) hx hb eX2_takesBack_54 (by decide) ?_
        refine va_zast hx hb hK hP hD hS 4 2 rfl rfl (vp_in_nI (n := n_4) (by omega) (Nat.le_of_ble_eq_true rfl)) eX2_takesBack_58 (fun H locs hP hD hS => ?_)
        obtain ⟨f_18, ef_18, xf_18⟩ := up_x f4 (n := n_4) (vp_nar .boolean 1) (by omega)
        have hP : va_P (dC, dI) vwCl (hi__w hy (nI (hk - 1)) co ol k_fo fo k_fl fl au (nI nc) (nI np) (nI ne) st0 q4 q5 q6 q7 q8 q9 q10 q11 q12 q13 q14 q15 q16 k_f4 f_18 k_f5 (bN 7 q_f5) k_f6 (bN 7 q_f6) k_f7 f7 k_f8 (bN 4 q_f8) k_f9 (bN 2 q_f9) k_f10 f10 k_f11 f11 k_f12 f12 k_f13 f13 k_f14 f14 k_f15 f15 k_f16 f16) H := by rw [← ef_18]; exact hP
        have hD : va_D A (hi__w hy (nI (hk - 1)) co ol k_fo fo k_fl fl au (nI nc) (nI np) (nI ne) st0 q4 q5 q6 q7 q8 q9 q10 q11 q12 q13 q14 q15 q16 k_f4 f_18 k_f5 (bN 7 q_f5) k_f6 (bN 7 q_f6) k_f7 f7 k_f8 (bN 4 q_f8) k_f9 (bN 2 q_f9) k_f10 f10 k_f11 f11 k_f12 f12 k_f13 f13 k_f14 f14 k_f15 f15 k_f16 f16) := by rw [← ef_18]; exact hD
        have hsp := hsp.trans (slet_eq xf_18)
        refine lv_goto (tgt := 76) hx hb eX2_takesBack_59 (by decide) ?_
        refine lv_iconst (v := 1) hx hb eX2_takesBack_76 (by decide) ?_
        exact W.zret (v := 1) (ty := .boolean) hx hb hr (rfl) (fun t ht hW => ⟨⟨1, (), rfl, ⟨1, (Nat.le_of_ble_eq_true rfl), rfl, (congrArg Prod.fst (hsp.symm.trans hRR))⟩, ⟨f11, f12, f13, f14, f15, f16, f_18, (hk - 1), ⟨by rw [ht]; exact hP, va_K.moved hW.alike hK, hD⟩, (by omega), by omega, (congrArg Prod.snd (hsp.symm.trans hRR))⟩⟩, hS.F ht⟩) hS.2.2 eX2_takesBack_77
  · have c_1 : hk = 0 := (nI_eq (a := hk) (b := 0) (Nat.lt_of_le_of_lt hhk (Nat.le_of_ble_eq_true rfl)) (Nat.le_of_ble_eq_true rfl)).mp c_1
    have hsp := hsp.trans (if_pos c_1)
    refine lv_iconst (v := 0) hx hb eX2_takesBack_7 (by decide) ?_
    exact W.zret (v := 0) (ty := .boolean) hx hb hr (rfl) (fun t ht hW => ⟨⟨0, (), rfl, ⟨0, (Nat.le_of_ble_eq_true rfl), rfl, (congrArg Prod.fst (hsp.symm.trans hRR))⟩, ⟨f11, f12, f13, f14, f15, f16, f4, hk, ⟨by rw [ht]; exact hP, va_K.moved hW.alike hK, hD⟩, hhk, by omega, (congrArg Prod.snd (hsp.symm.trans hRR))⟩⟩, hS.F ht⟩) hS.2.2 eX2_takesBack_8
