theorem eX5_add_0 : decode cX5_add 0 = .ok (.aload_n 0, 1) := by decide +kernel
theorem eX5_add_1 : decode cX5_add 1 = .ok (.getfield 37, 3) := by decide +kernel
theorem eX5_add_4 : decode cX5_add 4 = .ok (.aload_n 0, 1) := by decide +kernel
theorem eX5_add_5 : decode cX5_add 5 = .ok (.getfield 11, 3) := by decide +kernel
theorem eX5_add_8 : decode cX5_add 8 = .ok (.arraylength, 1) := by decide +kernel
theorem eX5_add_9 : decode cX5_add 9 = .ok (.if_icmp .ge 23, 3) := by decide +kernel
theorem eX5_add_12 : decode cX5_add 12 = .ok (.aload_n 0, 1) := by decide +kernel
theorem eX5_add_13 : decode cX5_add 13 = .ok (.getfield 11, 3) := by decide +kernel
theorem eX5_add_16 : decode cX5_add 16 = .ok (.aload_n 0, 1) := by decide +kernel
theorem eX5_add_17 : decode cX5_add 17 = .ok (.getfield 37, 3) := by decide +kernel
theorem eX5_add_20 : decode cX5_add 20 = .ok (.aload_n 1, 1) := by decide +kernel
theorem eX5_add_21 : decode cX5_add 21 = .ok (.aastore, 1) := by decide +kernel
theorem eX5_add_22 : decode cX5_add 22 = .ok (.aload_n 0, 1) := by decide +kernel
theorem eX5_add_23 : decode cX5_add 23 = .ok (.dup, 1) := by decide +kernel
theorem eX5_add_24 : decode cX5_add 24 = .ok (.getfield 37, 3) := by decide +kernel
theorem eX5_add_27 : decode cX5_add 27 = .ok (.iconst 1, 1) := by decide +kernel
theorem eX5_add_28 : decode cX5_add 28 = .ok (.iadd, 1) := by decide +kernel
theorem eX5_add_29 : decode cX5_add 29 = .ok (.putfield 37, 3) := by decide +kernel
theorem eX5_add_32 : decode cX5_add 32 = .ok (.return_, 1) := by decide +kernel
abbrev vs_C_5_add : List Cond := .code yX5_add cX5_add 2 none :: CM
set_option maxHeartbeats 4000000 in
set_option maxRecDepth 100000 in
theorem c_C_5_add (l : Launch) (dC : Nat → ClassId) (dI : Nat → Nat → Nat) (sz : Nat) (rm : Nat) (rcv : Nat) (rk : Nat) (rmd : Nat) (ru : Nat) (rpc : Nat) (rct : Nat) (rce : Nat) (k_fcv : ClassId) (fcv : Nat → Option Nat) (k_fmd : ClassId) (k_fpc : ClassId) (k_fct : ClassId) (fct : Nat → Int32) (k_fce : ClassId) (q_fce : Nat → Nat) (N : Nat) (az ac : Nat → Nat) (kz : Nat → ClassId) (qs : Nat → Nat) (fz : Nat → Nat → Int32) (kk : Nat) (hrk : rk ≤ 120) (hru : ru ≤ 28) (hN : 393 ≤ N) (hkk : kk < N) (hq0 : cv_ok rk fcv az) (hq1 : kk ≤ 269) : Met l yX5_add vs_C_5_add ({ frames := 0, cells := 0, slots := 0, locals := 0 }) (va_Pc [.ref rm, .ref (az kk)] (pu_B (dC, dI) ((rm__w rm rcv (nI rk) rmd (nI ru) rpc rct rce (az 392) k_fcv fcv k_fmd (zs 242 28 az) k_fpc (zs 270 122 az) k_fct fct k_fce (bN 16 q_fce)) ++ zp 4 16 N az ac kz qs fz) ((rm__t k_fcv k_fmd k_fpc k_fct k_fce) ++ zt N kz) sz)) (va_Qv (fun (_ : Unit) => True) (fun _ t => ∃ (z_fcv : Nat → Option Nat) (z_rk : Nat), pu_E (dC, dI) ((rm__w rm rcv (nI z_rk) rmd (nI ru) rpc rct rce (az 392) k_fcv z_fcv k_fmd (zs 242 28 az) k_fpc (zs 270 122 az) k_fct fct k_fce (bN 16 q_fce)) ++ zp 4 16 N az ac kz qs fz) ((rm__t k_fcv k_fmd k_fpc k_fct k_fce) ++ zt N kz) (va_A (((rm__w rm rcv (nI rk) rmd (nI ru) rpc rct rce (az 392) k_fcv fcv k_fmd (zs 242 28 az) k_fpc (zs 270 122 az) k_fct fct k_fce (bN 16 q_fce)) ++ zp 4 16 N az ac kz qs fz)) sz) t ∧ (z_rk ≤ 120) ∧ (cv_ok z_rk z_fcv az)) (va_A (((rm__w rm rcv (nI rk) rmd (nI ru) rpc rct rce (az 392) k_fcv fcv k_fmd (zs 242 28 az) k_fpc (zs 270 122 az) k_fct fct k_fce (bN 16 q_fce)) ++ zp 4 16 N az ac kz qs fz)) sz)) 0 0 (va_A (((rm__w rm rcv (nI rk) rmd (nI ru) rpc rct rce (az 392) k_fcv fcv k_fmd (zs 242 28 az) k_fpc (zs 270 122 az) k_fct fct k_fce (bN 16 q_fce)) ++ zp 4 16 N az ac kz qs fz)) sz) := by
  refine Met.ofW (cc := cX5_add) (maxL := 2) (ret := none) (by decide) rfl ?_
  intro p e s m args below meth c s₁ B hml hv
  obtain ⟨rfl, rfl, hP, hK, hD0⟩ := hv
  have hx := B.exec
  have hb := B.bytes
  have hr := B.returns
  have hts := atoms_spec (ws := vs_C_5_add) B.pre
  have v_1 := hts (.fieldLink RX5 37 "ClockReach$Remainder" "count" "I") (List.mem_cons_of_mem _ cm_316)
  have v_2 := hts (.fieldLink RX5 11 "ClockReach$Remainder" "covers" "[LClockReach$Zone;") (List.mem_cons_of_mem _ cm_319)
  have hown : s.vm.findClass RX5 = some m.cls := findClass_of_methodNamed B.named
  have hlocks := B.notSynchronized
  have hiX5 : ∀ w ∈ wsX50, w ∈ vs_C_5_add := fun _ h => List.mem_cons_of_mem _ (cm_X5 h)
  have hD := hD0.self (sz := s.heap.size)
  generalize hAe : va_A (((rm__w rm rcv (nI rk) rmd (nI ru) rpc rct rce (az 392) k_fcv fcv k_fmd (zs 242 28 az) k_fpc (zs 270 122 az) k_fct fct k_fce (bN 16 q_fce)) ++ zp 4 16 N az ac kz qs fz)) s.heap.size = A at hD ⊢
  have hA : ∀ q : Nat, s.heap.size ≤ q → A q := fun q h => by rw [← hAe]; exact Or.inr h
  have hS : va_S A s.heap s.heap [] := va_S.rf
  have hl := lv_entry ([.ref rm, .ref (az kk)]) (n := 2) (Nat.le_of_ble_eq_true rfl)
  rw [lg_entry_eq]
  generalize (lg_sl ([.ref rm, .ref (az kk)]) ++ List.replicate (2 - (lg_sl ([.ref rm, .ref (az kk)])).length) Slot.unset).toArray = ls at hl ⊢
  have hl : lv_has ls 2 [(0, .ref rm), (1, .ref (az kk))] := hl
  refine lv_aload_n hx hb eX5_add_0 rfl (lv_at hl 0 rfl) ?_
  refine va_get (D := (dC, dI)) (ci := 5) (v := .int (nI rk)) (C := RX5) (T := TX5) (N := 8) hx hb hts hiX5 hown hK hP 0 rfl rfl 1 (by decide) v_1 (fun _ h9 => h9) rfl eX5_add_1 ?_
  refine lv_aload_n hx hb eX5_add_4 rfl (lv_at hl 0 rfl) ?_
  refine va_get (D := (dC, dI)) (ci := 5) (v := .ref rcv) (C := RX5) (T := TX5) (N := 8) hx hb hts hiX5 hown hK hP 0 rfl rfl 0 (by decide) v_2 (fun _ h9 => h9) rfl eX5_add_5 ?_
  refine va_alen (v := 120) hx hb hK hP 1 0 rfl rfl rfl eX5_add_8 ?_
  refine lv_icmp_ge (tgt := 32) hx hb eX5_add_9 (by decide) (fun c_1 => ?_) (fun c_1 => ?_)
  · have c_1 : 120 ≤ rk := (nI_leI (a := 120) (b := rk) (Nat.le_of_ble_eq_true rfl) (Nat.lt_of_le_of_lt hrk (Nat.le_of_ble_eq_true rfl))).mp c_1
    exact W.vret hx hb hr (fun t ht hW => ⟨⟨(), rfl, trivial, ⟨fcv, rk, ⟨by rw [ht]; exact hP, va_K.moved hW.alike hK, hD⟩, hrk, by first | assumption | exact cv_new hq0 hq1 (by omega)⟩⟩, hS.F ht⟩) hS.2.2 eX5_add_32
  · have c_1 : ¬ 120 ≤ rk := fun z => c_1 ((nI_leI (a := 120) (b := rk) (Nat.le_of_ble_eq_true rfl) (Nat.lt_of_le_of_lt hrk (Nat.le_of_ble_eq_true rfl))).mpr z)
    refine lv_aload_n hx hb eX5_add_12 rfl (lv_at hl 0 rfl) ?_
    refine va_get (D := (dC, dI)) (ci := 5) (v := .ref rcv) (C := RX5) (T := TX5) (N := 8) hx hb hts hiX5 hown hK hP 0 rfl rfl 0 (by decide) v_2 (fun _ h9 => h9) rfl eX5_add_13 ?_
    refine lv_aload_n hx hb eX5_add_16 rfl (lv_at hl 0 rfl) ?_
    refine va_get (D := (dC, dI)) (ci := 5) (v := .int (nI rk)) (C := RX5) (T := TX5) (N := 8) hx hb hts hiX5 hown hK hP 0 rfl rfl 1 (by decide) v_1 (fun _ h9 => h9) rfl eX5_add_17 ?_
    refine lv_aload_n hx hb eX5_add_20 rfl (lv_at hl 1 rfl) ?_
    refine va_astq (r := (RX7, TX7, 2)) hx hb hK hP hD hS 1 0 _ 7 rfl rfl (zp_o (k := kk) (by omega)) rfl (vp_in_nI (n := rk) (by omega) (Nat.le_of_ble_eq_true rfl)) eX5_add_21 (fun H locs hP hD hS => ?_)
    have hP : va_P (dC, dI) vwCl ((rm__w rm rcv (nI rk) rmd (nI ru) rpc rct rce (az 392) k_fcv (va_up fcv ((nI rk) : Int32).toNatClampNeg (some (az kk))) k_fmd (zs 242 28 az) k_fpc (zs 270 122 az) k_fct fct k_fce (bN 16 q_fce)) ++ zp 4 16 N az ac kz qs fz) H := hP
    have hD : va_D A ((rm__w rm rcv (nI rk) rmd (nI ru) rpc rct rce (az 392) k_fcv (va_up fcv ((nI rk) : Int32).toNatClampNeg (some (az kk))) k_fmd (zs 242 28 az) k_fpc (zs 270 122 az) k_fct fct k_fce (bN 16 q_fce)) ++ zp 4 16 N az ac kz qs fz) := hD
    refine lv_aload_n hx hb eX5_add_22 rfl (lv_at hl 0 rfl) ?_
    refine lv_dup hx hb eX5_add_23 rfl ?_
    refine va_get (D := (dC, dI)) (ci := 5) (v := .int (nI rk)) (C := RX5) (T := TX5) (N := 8) hx hb hts hiX5 hown hK hP 0 rfl rfl 1 (by decide) v_1 (fun _ h9 => h9) rfl eX5_add_24 ?_
    refine lv_iconst (v := 1) hx hb eX5_add_27 (by decide) ?_
    refine lv_iadd hx hb eX5_add_28 ?_
    refine lv_topi (fun y_2 ey_2 => ?_)
    obtain rfl : y_2 = (nI (rk + 1)) := ey_2.trans (nI_add rk 1)
    refine va_put (D := (dC, dI)) (ci := 5) (v := .int (nI (rk + 1))) (ty := .int) (C := RX5) (T := TX5) (N := 8) hx hb hts hiX5 tyX5 tyX5_ok nmX5 hown hK hP hD hS 0 rfl rfl 1 (by decide) v_1 (fun _ h9 => h9) rfl (by decide +kernel) rfl rfl (Nat.le_of_ble_eq_true rfl) eX5_add_29 (fun H locs hP hD hS => ?_)
    have hP : va_P (dC, dI) vwCl ((rm__w rm rcv (nI (rk + 1)) rmd (nI ru) rpc rct rce (az 392) k_fcv (va_up fcv ((nI rk) : Int32).toNatClampNeg (some (az kk))) k_fmd (zs 242 28 az) k_fpc (zs 270 122 az) k_fct fct k_fce (bN 16 q_fce)) ++ zp 4 16 N az ac kz qs fz) H := hP
    have hD : va_D A ((rm__w rm rcv (nI (rk + 1)) rmd (nI ru) rpc rct rce (az 392) k_fcv (va_up fcv ((nI rk) : Int32).toNatClampNeg (some (az kk))) k_fmd (zs 242 28 az) k_fpc (zs 270 122 az) k_fct fct k_fce (bN 16 q_fce)) ++ zp 4 16 N az ac kz qs fz) := hD
    exact W.vret hx hb hr (fun t ht hW => ⟨⟨(), rfl, trivial, ⟨(va_up fcv ((nI rk) : Int32).toNatClampNeg (some (az kk))), (rk + 1), ⟨by rw [ht]; exact hP, va_K.moved hW.alike hK, hD⟩, (by omega), by first | assumption | exact cv_new hq0 hq1 (by omega)⟩⟩, hS.F ht⟩) hS.2.2 eX5_add_32
theorem eX5_addLeaving_0 : decode cX5_addLeaving 0 = .ok (.aload_n 0, 1) := by decide +kernel
theorem eX5_addLeaving_1 : decode cX5_addLeaving 1 = .ok (.getfield 41, 3) := by decide +kernel
theorem eX5_addLeaving_4 : decode cX5_addLeaving 4 = .ok (.iconst 2, 1) := by decide +kernel
theorem eX5_addLeaving_5 : decode cX5_addLeaving 5 = .ok (.iadd, 1) := by decide +kernel
theorem eX5_addLeaving_6 : decode cX5_addLeaving 6 = .ok (.aload_n 0, 1) := by decide +kernel
theorem eX5_addLeaving_7 : decode cX5_addLeaving 7 = .ok (.getfield 17, 3) := by decide +kernel
theorem eX5_addLeaving_10 : decode cX5_addLeaving 10 = .ok (.arraylength, 1) := by decide +kernel
theorem eX5_addLeaving_11 : decode cX5_addLeaving 11 = .ok (.if_icmp .le 4, 3) := by decide +kernel
theorem eX5_addLeaving_14 : decode cX5_addLeaving 14 = .ok (.return_, 1) := by decide +kernel
theorem eX5_addLeaving_15 : decode cX5_addLeaving 15 = .ok (.aload_n 0, 1) := by decide +kernel
theorem eX5_addLeaving_16 : decode cX5_addLeaving 16 = .ok (.getfield 17, 3) := by decide +kernel
theorem eX5_addLeaving_19 : decode cX5_addLeaving 19 = .ok (.aload_n 0, 1) := by decide +kernel
theorem eX5_addLeaving_20 : decode cX5_addLeaving 20 = .ok (.getfield 41, 3) := by decide +kernel
theorem eX5_addLeaving_23 : decode cX5_addLeaving 23 = .ok (.aaload, 1) := by decide +kernel
theorem eX5_addLeaving_24 : decode cX5_addLeaving 24 = .ok (.astore 4, 2) := by decide +kernel
theorem eX5_addLeaving_26 : decode cX5_addLeaving 26 = .ok (.aload 4, 2) := by decide +kernel
theorem eX5_addLeaving_28 : decode cX5_addLeaving 28 = .ok (.iload_n 3, 1) := by decide +kernel
theorem eX5_addLeaving_29 : decode cX5_addLeaving 29 = .ok (.invokevirtual 44, 3) := by decide +kernel
theorem eX5_addLeaving_32 : decode cX5_addLeaving 32 = .ok (.aload_n 1, 1) := by decide +kernel
theorem eX5_addLeaving_33 : decode cX5_addLeaving 33 = .ok (.aload 4, 2) := by decide +kernel
theorem eX5_addLeaving_35 : decode cX5_addLeaving 35 = .ok (.iload_n 2, 1) := by decide +kernel
theorem eX5_addLeaving_36 : decode cX5_addLeaving 36 = .ok (.invokevirtual 47, 3) := by decide +kernel
theorem eX5_addLeaving_39 : decode cX5_addLeaving 39 = .ok (.ifCond .ne 4, 3) := by decide +kernel
theorem eX5_addLeaving_42 : decode cX5_addLeaving 42 = .ok (.return_, 1) := by decide +kernel
theorem eX5_addLeaving_43 : decode cX5_addLeaving 43 = .ok (.aload_n 0, 1) := by decide +kernel
theorem eX5_addLeaving_44 : decode cX5_addLeaving 44 = .ok (.dup, 1) := by decide +kernel
theorem eX5_addLeaving_45 : decode cX5_addLeaving 45 = .ok (.getfield 41, 3) := by decide +kernel
theorem eX5_addLeaving_48 : decode cX5_addLeaving 48 = .ok (.iconst 1, 1) := by decide +kernel
theorem eX5_addLeaving_49 : decode cX5_addLeaving 49 = .ok (.iadd, 1) := by decide +kernel
theorem eX5_addLeaving_50 : decode cX5_addLeaving 50 = .ok (.putfield 41, 3) := by decide +kernel
theorem eX5_addLeaving_53 : decode cX5_addLeaving 53 = .ok (.aload_n 0, 1) := by decide +kernel
theorem eX5_addLeaving_54 : decode cX5_addLeaving 54 = .ok (.aload 4, 2) := by decide +kernel
theorem eX5_addLeaving_56 : decode cX5_addLeaving 56 = .ok (.invokevirtual 53, 3) := by decide +kernel
theorem eX5_addLeaving_59 : decode cX5_addLeaving 59 = .ok (.aload_n 1, 1) := by decide +kernel
theorem eX5_addLeaving_60 : decode cX5_addLeaving 60 = .ok (.getfield 57, 3) := by decide +kernel
theorem eX5_addLeaving_63 : decode cX5_addLeaving 63 = .ok (.iload_n 2, 1) := by decide +kernel
theorem eX5_addLeaving_64 : decode cX5_addLeaving 64 = .ok (.iaload, 1) := by decide +kernel
theorem eX5_addLeaving_65 : decode cX5_addLeaving 65 = .ok (.istore 5, 2) := by decide +kernel
theorem eX5_addLeaving_67 : decode cX5_addLeaving 67 = .ok (.aload_n 0, 1) := by decide +kernel
theorem eX5_addLeaving_68 : decode cX5_addLeaving 68 = .ok (.getfield 17, 3) := by decide +kernel
theorem eX5_addLeaving_71 : decode cX5_addLeaving 71 = .ok (.aload_n 0, 1) := by decide +kernel
theorem eX5_addLeaving_72 : decode cX5_addLeaving 72 = .ok (.getfield 41, 3) := by decide +kernel
theorem eX5_addLeaving_75 : decode cX5_addLeaving 75 = .ok (.aaload, 1) := by decide +kernel
theorem eX5_addLeaving_76 : decode cX5_addLeaving 76 = .ok (.astore 6, 2) := by decide +kernel
theorem eX5_addLeaving_78 : decode cX5_addLeaving 78 = .ok (.aload 6, 2) := by decide +kernel
theorem eX5_addLeaving_80 : decode cX5_addLeaving 80 = .ok (.aload 4, 2) := by decide +kernel
theorem eX5_addLeaving_82 : decode cX5_addLeaving 82 = .ok (.invokevirtual 60, 3) := by decide +kernel
theorem eX5_addLeaving_85 : decode cX5_addLeaving 85 = .ok (.aload_n 1, 1) := by decide +kernel
theorem eX5_addLeaving_86 : decode cX5_addLeaving 86 = .ok (.getfield 63, 3) := by decide +kernel
theorem eX5_addLeaving_89 : decode cX5_addLeaving 89 = .ok (.iload 5, 2) := by decide +kernel
theorem eX5_addLeaving_91 : decode cX5_addLeaving 91 = .ok (.baload, 1) := by decide +kernel
theorem eX5_addLeaving_92 : decode cX5_addLeaving 92 = .ok (.ifCond .ne 39, 3) := by decide +kernel
theorem eX5_addLeaving_95 : decode cX5_addLeaving 95 = .ok (.aload_n 1, 1) := by decide +kernel
theorem eX5_addLeaving_96 : decode cX5_addLeaving 96 = .ok (.aload 6, 2) := by decide +kernel
theorem eX5_addLeaving_98 : decode cX5_addLeaving 98 = .ok (.iload 5, 2) := by decide +kernel
theorem eX5_addLeaving_100 : decode cX5_addLeaving 100 = .ok (.invokestatic 67, 3) := by decide +kernel
theorem eX5_addLeaving_103 : decode cX5_addLeaving 103 = .ok (.iconst 0, 1) := by decide +kernel
theorem eX5_addLeaving_104 : decode cX5_addLeaving 104 = .ok (.invokevirtual 71, 3) := by decide +kernel
theorem eX5_addLeaving_107 : decode cX5_addLeaving 107 = .ok (.ifCond .eq 24, 3) := by decide +kernel
theorem eX5_addLeaving_110 : decode cX5_addLeaving 110 = .ok (.aload 6, 2) := by decide +kernel
theorem eX5_addLeaving_112 : decode cX5_addLeaving 112 = .ok (.invokevirtual 75, 3) := by decide +kernel
theorem eX5_addLeaving_115 : decode cX5_addLeaving 115 = .ok (.aload_n 0, 1) := by decide +kernel
theorem eX5_addLeaving_116 : decode cX5_addLeaving 116 = .ok (.dup, 1) := by decide +kernel
theorem eX5_addLeaving_117 : decode cX5_addLeaving 117 = .ok (.getfield 41, 3) := by decide +kernel
theorem eX5_addLeaving_120 : decode cX5_addLeaving 120 = .ok (.iconst 1, 1) := by decide +kernel
theorem eX5_addLeaving_121 : decode cX5_addLeaving 121 = .ok (.iadd, 1) := by decide +kernel
theorem eX5_addLeaving_122 : decode cX5_addLeaving 122 = .ok (.putfield 41, 3) := by decide +kernel
theorem eX5_addLeaving_125 : decode cX5_addLeaving 125 = .ok (.aload_n 0, 1) := by decide +kernel
theorem eX5_addLeaving_126 : decode cX5_addLeaving 126 = .ok (.aload 6, 2) := by decide +kernel
theorem eX5_addLeaving_128 : decode cX5_addLeaving 128 = .ok (.invokevirtual 53, 3) := by decide +kernel
theorem eX5_addLeaving_131 : decode cX5_addLeaving 131 = .ok (.return_, 1) := by decide +kernel
abbrev vs_C_5_addLeaving : List Cond := .code yX5_addLeaving cX5_addLeaving 7 none :: CM
theorem g_C_5_addLeaving_E_7_setAll_16 : GoodIn vs_C_5_addLeaving (wsV RX5 44 RX7 yX7_setAll vs_E_7_setAll_16) := cm_gV cm_324 cm_325 cm_326 cm_45 cm_327
theorem g_C_5_addLeaving_E_0_opensIn_16 : GoodIn vs_C_5_addLeaving (wsV RX5 47 RX0 yX0_opensIn vs_E_0_opensIn_16) := cm_gV cm_328 cm_134 cm_135 cm_19 cm_50
theorem g_C_5_addLeaving_C_5_add : GoodIn vs_C_5_addLeaving (wsV RX5 53 RX5 yX5_add vs_C_5_add) := cm_gV cm_329 cm_330 cm_331 cm_332 cm_318
theorem g_C_5_addLeaving_E_7_copyOf_16 : GoodIn vs_C_5_addLeaving (wsV RX5 60 RX7 yX7_copyOf vs_E_7_copyOf_16) := cm_gV cm_333 cm_130 cm_131 cm_45 cm_132
theorem g_C_5_addLeaving_E_0_hostOfPlace : GoodIn vs_C_5_addLeaving (va_wsS RX5 67 yX0_hostOfPlace vs_E_0_hostOfPlace) := cm_gS cm_334 cm_55 cm_19 cm_0
theorem g_C_5_addLeaving_E_0_narrowTo_16 : GoodIn vs_C_5_addLeaving (wsV RX5 71 RX0 yX0_narrowTo vs_E_0_narrowTo_16) := cm_gV cm_335 cm_52 cm_53 cm_19 cm_41
theorem g_C_5_addLeaving_E_7_setPast_16 : GoodIn vs_C_5_addLeaving (wsV RX5 75 RX7 yX7_setPast vs_E_7_setPast_16) := cm_gV cm_336 cm_337 cm_338 cm_45 cm_339
set_option maxHeartbeats 4000000 in
set_option maxRecDepth 100000 in
theorem c_C_5_addLeaving (l : Launch) (dC : Nat → ClassId) (dI : Nat → Nat → Nat) (sz : Nat) (rm : Nat) (rcv : Nat) (rk : Nat) (rmd : Nat) (ru : Nat) (rpc : Nat) (rct : Nat) (rce : Nat) (k_fcv : ClassId) (fcv : Nat → Option Nat) (k_fmd : ClassId) (k_fpc : ClassId) (k_fct : ClassId) (fct : Nat → Int32) (k_fce : ClassId) (q_fce : Nat → Nat) (au : Nat) (nc : Nat) (np : Nat) (ne : Nat) (st0 : Int32) (q4 : Nat) (q5 : Nat) (q6 : Nat) (q7 : Nat) (q8 : Nat) (q9 : Nat) (q10 : Nat) (q11 : Nat) (q12 : Nat) (q13 : Nat) (q14 : Nat) (q15 : Nat) (q16 : Nat) (k_f4 : ClassId) (f4 : Nat → Int32) (k_f5 : ClassId) (q_f5 : Nat → Nat) (k_f6 : ClassId) (q_f6 : Nat → Nat) (k_f7 : ClassId) (f7 : Nat → Int32) (k_f8 : ClassId) (q_f8 : Nat → Nat) (k_f9 : ClassId) (q_f9 : Nat → Nat) (k_f10 : ClassId) (f10 : Nat → Int32) (k_f11 : ClassId) (f11 : Nat → Int32) (k_f12 : ClassId) (f12 : Nat → Int32) (k_f13 : ClassId) (f13 : Nat → Int32) (k_f14 : ClassId) (f14 : Nat → Int32) (k_f15 : ClassId) (f15 : Nat → Int32) (k_f16 : ClassId) (f16 : Nat → Int32) (N : Nat) (az ac : Nat → Nat) (kz : Nat → ClassId) (qs : Nat → Nat) (fz : Nat → Nat → Int32) (a1 : Nat) (a2 : Nat) (hrk : rk ≤ 120) (hru : ru ≤ 28) (hnc : nc ≤ 3) (hnp : np ≤ 8) (hne : ne ≤ 14) (hst0 : pm1 7 st0) (hN : 393 ≤ N) (ha1 : a1 ≤ 13) (ha2 : a2 ≤ 4) (hq0 : cv_ok rk fcv az) : Met l yX5_addLeaving vs_C_5_addLeaving ({ frames := 3, cells := 0, slots := 0, locals := 77 }) (va_Pc [.ref rm, .ref au, .int (nI a1), .int (nI a2)] (pu_B (dC, dI) ((rma__w rm rcv (nI rk) rmd (nI ru) rpc rct rce (az 392) k_fcv fcv k_fmd (zs 242 28 az) k_fpc (zs 270 122 az) k_fct fct k_fce (bN 16 q_fce) au (nI nc) (nI np) (nI ne) st0 q4 q5 q6 q7 q8 q9 q10 q11 q12 q13 q14 q15 q16 k_f4 f4 k_f5 (bN 7 q_f5) k_f6 (bN 7 q_f6) k_f7 f7 k_f8 (bN 4 q_f8) k_f9 (bN 2 q_f9) k_f10 f10 k_f11 f11 k_f12 f12 k_f13 f13 k_f14 f14 k_f15 f15 k_f16 f16) ++ zp 4 16 N az ac kz qs fz) ((rma__t k_fcv k_fmd k_fpc k_fct k_fce k_f4 k_f5 k_f6 k_f7 k_f8 k_f9 k_f10 k_f11 k_f12 k_f13 k_f14 k_f15 k_f16) ++ zt N kz) sz)) (va_Qv (fun (_ : Unit) => True) (fun _ t => ∃ (z_fcv : Nat → Option Nat) (z_rk : Nat) (z_ru : Nat) (z_fz : Nat → Nat → Int32) (z_qs : Nat → Nat), pu_E (dC, dI) ((rma__w rm rcv (nI z_rk) rmd (nI z_ru) rpc rct rce (az 392) k_fcv z_fcv k_fmd (zs 242 28 az) k_fpc (zs 270 122 az) k_fct fct k_fce (bN 16 q_fce) au (nI nc) (nI np) (nI ne) st0 q4 q5 q6 q7 q8 q9 q10 q11 q12 q13 q14 q15 q16 k_f4 f4 k_f5 (bN 7 q_f5) k_f6 (bN 7 q_f6) k_f7 f7 k_f8 (bN 4 q_f8) k_f9 (bN 2 q_f9) k_f10 f10 k_f11 f11 k_f12 f12 k_f13 f13 k_f14 f14 k_f15 f15 k_f16 f16) ++ zp 4 16 N az ac kz z_qs z_fz) ((rma__t k_fcv k_fmd k_fpc k_fct k_fce k_f4 k_f5 k_f6 k_f7 k_f8 k_f9 k_f10 k_f11 k_f12 k_f13 k_f14 k_f15 k_f16) ++ zt N kz) (va_A (((rma__w rm rcv (nI rk) rmd (nI ru) rpc rct rce (az 392) k_fcv fcv k_fmd (zs 242 28 az) k_fpc (zs 270 122 az) k_fct fct k_fce (bN 16 q_fce) au (nI nc) (nI np) (nI ne) st0 q4 q5 q6 q7 q8 q9 q10 q11 q12 q13 q14 q15 q16 k_f4 f4 k_f5 (bN 7 q_f5) k_f6 (bN 7 q_f6) k_f7 f7 k_f8 (bN 4 q_f8) k_f9 (bN 2 q_f9) k_f10 f10 k_f11 f11 k_f12 f12 k_f13 f13 k_f14 f14 k_f15 f15 k_f16 f16) ++ zp 4 16 N az ac kz qs fz)) sz) t ∧ (z_rk ≤ 120) ∧ (z_ru ≤ 28) ∧ (cv_ok z_rk z_fcv az)) (va_A (((rma__w rm rcv (nI rk) rmd (nI ru) rpc rct rce (az 392) k_fcv fcv k_fmd (zs 242 28 az) k_fpc (zs 270 122 az) k_fct fct k_fce (bN 16 q_fce) au (nI nc) (nI np) (nI ne) st0 q4 q5 q6 q7 q8 q9 q10 q11 q12 q13 q14 q15 q16 k_f4 f4 k_f5 (bN 7 q_f5) k_f6 (bN 7 q_f6) k_f7 f7 k_f8 (bN 4 q_f8) k_f9 (bN 2 q_f9) k_f10 f10 k_f11 f11 k_f12 f12 k_f13 f13 k_f14 f14 k_f15 f15 k_f16 f16) ++ zp 4 16 N az ac kz qs fz)) sz)) 0 0 (va_A (((rma__w rm rcv (nI rk) rmd (nI ru) rpc rct rce (az 392) k_fcv fcv k_fmd (zs 242 28 az) k_fpc (zs 270 122 az) k_fct fct k_fce (bN 16 q_fce) au (nI nc) (nI np) (nI ne) st0 q4 q5 q6 q7 q8 q9 q10 q11 q12 q13 q14 q15 q16 k_f4 f4 k_f5 (bN 7 q_f5) k_f6 (bN 7 q_f6) k_f7 f7 k_f8 (bN 4 q_f8) k_f9 (bN 2 q_f9) k_f10 f10 k_f11 f11 k_f12 f12 k_f13 f13 k_f14 f14 k_f15 f15 k_f16 f16) ++ zp 4 16 N az ac kz qs fz)) sz) := by
  refine Met.ofW (cc := cX5_addLeaving) (maxL := 7) (ret := none) (by decide) rfl ?_
  intro p e s m args below meth c s₁ B hml hv
  obtain ⟨rfl, rfl, hP, hK, hD0⟩ := hv
  have hx := B.exec
  have hb := B.bytes
  have hr := B.returns
  have hts := atoms_spec (ws := vs_C_5_addLeaving) B.pre
  have v_1 := hts (.fieldLink RX5 41 "ClockReach$Remainder" "used" "I") (List.mem_cons_of_mem _ cm_317)
  have v_2 := hts (.fieldLink RX5 17 "ClockReach$Remainder" "made" "[LClockReach$Zone;") (List.mem_cons_of_mem _ cm_321)
  have v_18 := hts (.fieldLink RX5 57 "ClockReach$Automaton" "sources" "[I") (List.mem_cons_of_mem _ cm_322)
  have v_23 := hts (.fieldLink RX5 63 "ClockReach$Automaton" "hurried" "[Z") (List.mem_cons_of_mem _ cm_323)
  have hown : s.vm.findClass RX5 = some m.cls := findClass_of_methodNamed B.named
  have hlocks := B.notSynchronized
  have hiX0 : ∀ w ∈ wsX00, w ∈ vs_C_5_addLeaving := fun _ h => List.mem_cons_of_mem _ (cm_X0 h)
  have hiX5 : ∀ w ∈ wsX50, w ∈ vs_C_5_addLeaving := fun _ h => List.mem_cons_of_mem _ (cm_X5 h)
  have hD := hD0.self (sz := s.heap.size)
  generalize hAe : va_A (((rma__w rm rcv (nI rk) rmd (nI ru) rpc rct rce (az 392) k_fcv fcv k_fmd (zs 242 28 az) k_fpc (zs 270 122 az) k_fct fct k_fce (bN 16 q_fce) au (nI nc) (nI np) (nI ne) st0 q4 q5 q6 q7 q8 q9 q10 q11 q12 q13 q14 q15 q16 k_f4 f4 k_f5 (bN 7 q_f5) k_f6 (bN 7 q_f6) k_f7 f7 k_f8 (bN 4 q_f8) k_f9 (bN 2 q_f9) k_f10 f10 k_f11 f11 k_f12 f12 k_f13 f13 k_f14 f14 k_f15 f15 k_f16 f16) ++ zp 4 16 N az ac kz qs fz)) s.heap.size = A at hD ⊢
  have hA : ∀ q : Nat, s.heap.size ≤ q → A q := fun q h => by rw [← hAe]; exact Or.inr h
  have hS : va_S A s.heap s.heap [] := va_S.rf
  have hl := lv_entry ([.ref rm, .ref au, .int (nI a1), .int (nI a2)]) (n := 7) (Nat.le_of_ble_eq_true rfl)
  rw [lg_entry_eq]
  generalize (lg_sl ([.ref rm, .ref au, .int (nI a1), .int (nI a2)]) ++ List.replicate (7 - (lg_sl ([.ref rm, .ref au, .int (nI a1), .int (nI a2)])).length) Slot.unset).toArray = ls at hl ⊢
  have hl : lv_has ls 7 [(0, .ref rm), (1, .ref au), (2, .int (nI a1)), (3, .int (nI a2))] := hl
  refine lv_aload_n hx hb eX5_addLeaving_0 rfl (lv_at hl 0 rfl) ?_
  refine va_get (D := (dC, dI)) (ci := 5) (v := .int (nI ru)) (C := RX5) (T := TX5) (N := 8) hx hb hts hiX5 hown hK hP 0 rfl rfl 3 (by decide) v_1 (fun _ h9 => h9) rfl eX5_addLeaving_1 ?_
  refine lv_iconst (v := 2) hx hb eX5_addLeaving_4 (by decide) ?_
  refine lv_iadd hx hb eX5_addLeaving_5 ?_
  refine lv_topi (fun y_1 ey_1 => ?_)
  obtain rfl : y_1 = (nI (ru + 2)) := ey_1.trans (nI_add ru 2)
  refine lv_aload_n hx hb eX5_addLeaving_6 rfl (lv_at hl 0 rfl) ?_
  refine va_get (D := (dC, dI)) (ci := 5) (v := .ref rmd) (C := RX5) (T := TX5) (N := 8) hx hb hts hiX5 hown hK hP 0 rfl rfl 2 (by decide) v_2 (fun _ h9 => h9) rfl eX5_addLeaving_7 ?_
  refine va_alen (v := 28) hx hb hK hP 2 1 rfl rfl rfl eX5_addLeaving_10 ?_
  refine lv_icmp_le (tgt := 15) hx hb eX5_addLeaving_11 (by decide) (fun c_2 => ?_) (fun c_2 => ?_)
  · have c_2 : (ru + 2) ≤ 28 := (nI_leI (a := (ru + 2)) (b := 28) (by omega) (Nat.le_of_ble_eq_true rfl)).mp c_2
    refine lv_aload_n hx hb eX5_addLeaving_15 rfl (lv_at hl 0 rfl) ?_
    refine va_get (D := (dC, dI)) (ci := 5) (v := .ref rmd) (C := RX5) (T := TX5) (N := 8) hx hb hts hiX5 hown hK hP 0 rfl rfl 2 (by decide) v_2 (fun _ h9 => h9) rfl eX5_addLeaving_16 ?_
    refine lv_aload_n hx hb eX5_addLeaving_19 rfl (lv_at hl 0 rfl) ?_
    refine va_get (D := (dC, dI)) (ci := 5) (v := .int (nI ru)) (C := RX5) (T := TX5) (N := 8) hx hb hts hiX5 hown hK hP 0 rfl rfl 3 (by decide) v_1 (fun _ h9 => h9) rfl eX5_addLeaving_20 ?_
    refine va_aldq hx hb hK hP 2 1 rfl rfl (vp_in_nI (n := ru) (by omega) (Nat.le_of_ble_eq_true rfl)) eX5_addLeaving_23 ?_
    refine W.eq (g2 := F0 m 24 ls [.ref (az (242 + ru))]) (by rw [zs_get (by omega) (by omega)]) ?_
    refine lv_astore (lv' := [(4, .ref (az (242 + ru))), (0, .ref rm), (1, .ref au), (2, .int (nI a1)), (3, .int (nI a2))]) hx hb eX5_addLeaving_24 hl (by decide) rfl (fun ls hl => ?_)
    refine lv_aload hx hb eX5_addLeaving_26 (lv_at hl 0 rfl) ?_
    refine lv_iload_n hx hb eX5_addLeaving_28 rfl (lv_at hl 4 rfl) ?_
    have hPz := zp_cut (k := (242 + ru)) hP (by omega)
    have hPc : va_P (dC, dI) vwCl ([] ++ [(az (242 + ru), .inr (7, [.ref (ac (242 + ru)), .int (nI (min (qs (242 + ru)) 4))])), (ac (242 + ru), .inl (kz (242 + ru), 16, .inl (fz (242 + ru))))]) _ := va_P.app (hP.sub [] rfl) hPz
    have hDc : va_D A ([] ++ [(az (242 + ru), .inr (7, [.ref (ac (242 + ru)), .int (nI (min (qs (242 + ru)) 4))])), (ac (242 + ru), .inl (kz (242 + ru), 16, .inl (fz (242 + ru))))]) := zp_cutD hD (by omega) [] (by decide) rfl
    have hKc : va_K (dC, dI) vwCl ([] ++ [(kz (242 + ru), .int)]) s := zp_K hK (by omega) [] rfl
    have hFc := pu_free hDc hS hA
    refine va_callv (va_runV (As := [.int (nI a2)]) (rest := []) ⟨hx, hb, hml, hown, hts⟩ (c_E_7_setAll_16 l dC dI _ (az (242 + ru)) (ac (242 + ru)) (min (qs (242 + ru)) 4) (kz (242 + ru)) (fz (242 + ru)) a2 (Nat.min_le_right _ _) ha2) (cwV 1 hts g_C_5_addLeaving_E_7_setAll_16 rfl rfl rfl (by decide +kernel) ⟨Nat.le_of_ble_eq_true rfl, Nat.le_of_ble_eq_true rfl⟩) ⟨pu_bl, va_recv hK hPz (ci := 7) (q0 := 0) rfl rfl, pu_in hPc hKc hDc⟩ rfl rfl hl.1 rfl (lv_room (Nat.le_of_ble_eq_true rfl)) eX5_addLeaving_29 ⟨Nat.le_of_ble_eq_true rfl, Nat.le_of_ble_eq_true rfl⟩) hS (fun q _ h => hFc q h) hFc (fun u t H1 locs ht hvm hw hB hz1 hk1 hS => ?_)
    obtain ⟨z_fz_4, ⟨hP1, -, hD1⟩, xr_3_0⟩ := hB
    rw [ht] at hP1
    obtain ⟨qs_5, fz_6, hP, hD⟩ := zp_put (wr := []) (k := (242 + ru)) hP hD (by omega) (fun q h => List.mem_append_left _ (pu_subm [] rfl q h)) hk1 ha2 hP1
    clear hP1 hD1 hFc
    clear hPc hDc hKc
    clear hk1 hz1 ht hvm
    generalize H1 = H at hP hS ⊢
    refine lv_aload_n hx hb eX5_addLeaving_32 rfl (lv_at hl 2 rfl) ?_
    refine lv_aload hx hb eX5_addLeaving_33 (lv_at hl 0 rfl) ?_
    refine lv_iload_n hx hb eX5_addLeaving_35 rfl (lv_at hl 3 rfl) ?_
    have hPz := zp_cut (k := (242 + ru)) hP (by omega)
    have hPc : va_P (dC, dI) vwCl ([(au, .inr (0, [.int (nI nc), .int (nI np), .int (nI ne), .int st0, .ref q4, .ref q5, .ref q6, .ref q7, .ref q8, .ref q9, .ref q10, .ref q11, .ref q12, .ref q13, .ref q14, .ref q15, .ref q16])), (q4, .inl (k_f4, 8, .inl f4)), (q5, .inl (k_f5, 14, .inl (bN 7 q_f5))), (q6, .inl (k_f6, 14, .inl (bN 7 q_f6))), (q7, .inl (k_f7, 14, .inl f7)), (q8, .inl (k_f8, 22, .inl (bN 4 q_f8))), (q9, .inl (k_f9, 88, .inl (bN 2 q_f9))), (q10, .inl (k_f10, 88, .inl f10)), (q11, .inl (k_f11, 88, .inl f11)), (q12, .inl (k_f12, 88, .inl f12)), (q13, .inl (k_f13, 88, .inl f13)), (q14, .inl (k_f14, 4, .inl f14)), (q15, .inl (k_f15, 4, .inl f15)), (q16, .inl (k_f16, 4, .inl f16))] ++ [(az (242 + ru), .inr (7, [.ref (ac (242 + ru)), .int (nI (min (qs_5 (242 + ru)) 4))])), (ac (242 + ru), .inl (kz (242 + ru), 16, .inl (fz_6 (242 + ru))))]) _ := va_P.app (hP.sub [6, 7, 8, 9, 10, 11, 12, 13, 14, 15, 16, 17, 18, 19] rfl) hPz
    have hDc : va_D A ([(au, .inr (0, [.int (nI nc), .int (nI np), .int (nI ne), .int st0, .ref q4, .ref q5, .ref q6, .ref q7, .ref q8, .ref q9, .ref q10, .ref q11, .ref q12, .ref q13, .ref q14, .ref q15, .ref q16])), (q4, .inl (k_f4, 8, .inl f4)), (q5, .inl (k_f5, 14, .inl (bN 7 q_f5))), (q6, .inl (k_f6, 14, .inl (bN 7 q_f6))), (q7, .inl (k_f7, 14, .inl f7)), (q8, .inl (k_f8, 22, .inl (bN 4 q_f8))), (q9, .inl (k_f9, 88, .inl (bN 2 q_f9))), (q10, .inl (k_f10, 88, .inl f10)), (q11, .inl (k_f11, 88, .inl f11)), (q12, .inl (k_f12, 88, .inl f12)), (q13, .inl (k_f13, 88, .inl f13)), (q14, .inl (k_f14, 4, .inl f14)), (q15, .inl (k_f15, 4, .inl f15)), (q16, .inl (k_f16, 4, .inl f16))] ++ [(az (242 + ru), .inr (7, [.ref (ac (242 + ru)), .int (nI (min (qs_5 (242 + ru)) 4))])), (ac (242 + ru), .inl (kz (242 + ru), 16, .inl (fz_6 (242 + ru))))]) := zp_cutD hD (by omega) [6, 7, 8, 9, 10, 11, 12, 13, 14, 15, 16, 17, 18, 19] (by decide) rfl
    have hKc : va_K (dC, dI) vwCl ([(k_f4, .boolean), (k_f5, .int), (k_f6, .int), (k_f7, .int), (k_f8, .int), (k_f9, .int), (k_f10, .int), (k_f11, .int), (k_f12, .int), (k_f13, .int), (k_f14, .int), (k_f15, .int), (k_f16, .int)] ++ [(kz (242 + ru), .int)]) s := zp_K hK (by omega) [5, 6, 7, 8, 9, 10, 11, 12, 13, 14, 15, 16, 17] rfl
    have hFc := pu_free hDc hS hA
    refine va_calli (va_runV (As := [.ref (az (242 + ru)), .int (nI a1)]) (rest := []) ⟨hx, hb, hml, hown, hts⟩ (c_E_0_opensIn_16 l dC dI _ au nc np ne st0 q4 q5 q6 q7 q8 q9 q10 q11 q12 q13 q14 q15 q16 k_f4 f4 k_f5 q_f5 k_f6 q_f6 k_f7 f7 k_f8 q_f8 k_f9 q_f9 k_f10 f10 k_f11 f11 k_f12 f12 k_f13 f13 k_f14 f14 k_f15 f15 k_f16 f16 (az (242 + ru)) (ac (242 + ru)) (min (qs_5 (242 + ru)) 4) (kz (242 + ru)) (fz_6 (242 + ru)) a1 hnc hnp hne (hst0) (Nat.min_le_right _ _) ha1) (cwV 2 hts g_C_5_addLeaving_E_0_opensIn_16 rfl rfl rfl (by decide +kernel) ⟨Nat.le_of_ble_eq_true rfl, Nat.le_of_ble_eq_true rfl⟩) ⟨pu_bl, va_recv hK hP (ci := 0) (q0 := 6) rfl rfl, pu_in hPc hKc hDc⟩ rfl rfl hl.1 rfl (lv_room (Nat.le_of_ble_eq_true rfl)) eX5_addLeaving_36 ⟨Nat.le_of_ble_eq_true rfl, Nat.le_of_ble_eq_true rfl⟩) hS (fun q _ h => hFc q h) hFc (fun r_7 u t H1 locs ht hvm hw hB hz1 hk1 hS => ?_)
    obtain ⟨z_fz_8, ⟨hP1, -, hD1⟩, xr_7_0⟩ := hB
    rw [ht] at hP1
    obtain ⟨qs_9, fz_10, hP, hD⟩ := zp_put (wr := [(au, .inr (0, [.int (nI nc), .int (nI np), .int (nI ne), .int st0, .ref q4, .ref q5, .ref q6, .ref q7, .ref q8, .ref q9, .ref q10, .ref q11, .ref q12, .ref q13, .ref q14, .ref q15, .ref q16])), (q4, .inl (k_f4, 8, .inl f4)), (q5, .inl (k_f5, 14, .inl (bN 7 q_f5))), (q6, .inl (k_f6, 14, .inl (bN 7 q_f6))), (q7, .inl (k_f7, 14, .inl f7)), (q8, .inl (k_f8, 22, .inl (bN 4 q_f8))), (q9, .inl (k_f9, 88, .inl (bN 2 q_f9))), (q10, .inl (k_f10, 88, .inl f10)), (q11, .inl (k_f11, 88, .inl f11)), (q12, .inl (k_f12, 88, .inl f12)), (q13, .inl (k_f13, 88, .inl f13)), (q14, .inl (k_f14, 4, .inl f14)), (q15, .inl (k_f15, 4, .inl f15)), (q16, .inl (k_f16, 4, .inl f16))]) (k := (242 + ru)) hP hD (by omega) (fun q h => List.mem_append_left _ (pu_subm [6, 7, 8, 9, 10, 11, 12, 13, 14, 15, 16, 17, 18, 19] rfl q h)) hk1 (Nat.min_le_right _ _) hP1
    clear hP1 hD1 hFc
    clear hPc hDc hKc
    clear hk1 hz1 ht hvm
    generalize H1 = H at hP hS ⊢
    obtain ⟨u_11, hu_11, rfl, iu_11⟩ := hw
    have iu_11 : (u_11, z_fz_8) = (sp_E_0_opensIn_16 q_f6 f7 q_f8 q_f9 f12 f13 (min (qs_5 (242 + ru)) 4) (fz_6 (242 + ru)) a1) := Prod.ext iu_11 xr_7_0
    refine lv_if_ne (tgt := 43) hx hb eX5_addLeaving_39 (by decide) (fun c_12 => ?_) (fun c_12 => ?_)
    · have c_12 : ¬ u_11 = 0 := fun z => c_12 ((nI_eq (a := u_11) (b := 0) (Nat.lt_of_le_of_lt hu_11 (Nat.le_of_ble_eq_true rfl)) (Nat.le_of_ble_eq_true rfl)).mpr z)
      refine lv_aload_n hx hb eX5_addLeaving_43 rfl (lv_at hl 1 rfl) ?_
      refine lv_dup hx hb eX5_addLeaving_44 rfl ?_
      refine va_get (D := (dC, dI)) (ci := 5) (v := .int (nI ru)) (C := RX5) (T := TX5) (N := 8) hx hb hts hiX5 hown hK hP 0 rfl rfl 3 (by decide) v_1 (fun _ h9 => h9) rfl eX5_addLeaving_45 ?_
      refine lv_iconst (v := 1) hx hb eX5_addLeaving_48 (by decide) ?_
      refine lv_iadd hx hb eX5_addLeaving_49 ?_
      refine lv_topi (fun y_13 ey_13 => ?_)
      obtain rfl : y_13 = (nI (ru + 1)) := ey_13.trans (nI_add ru 1)
      refine va_put (D := (dC, dI)) (ci := 5) (v := .int (nI (ru + 1))) (ty := .int) (C := RX5) (T := TX5) (N := 8) hx hb hts hiX5 tyX5 tyX5_ok nmX5 hown hK hP hD hS 0 rfl rfl 3 (by decide) v_1 (fun _ h9 => h9) rfl (by decide +kernel) rfl rfl (Nat.le_of_ble_eq_true rfl) eX5_addLeaving_50 (fun H locs hP hD hS => ?_)
      have hP : va_P (dC, dI) vwCl ((rma__w rm rcv (nI rk) rmd (nI (ru + 1)) rpc rct rce (az 392) k_fcv fcv k_fmd (zs 242 28 az) k_fpc (zs 270 122 az) k_fct fct k_fce (bN 16 q_fce) au (nI nc) (nI np) (nI ne) st0 q4 q5 q6 q7 q8 q9 q10 q11 q12 q13 q14 q15 q16 k_f4 f4 k_f5 (bN 7 q_f5) k_f6 (bN 7 q_f6) k_f7 f7 k_f8 (bN 4 q_f8) k_f9 (bN 2 q_f9) k_f10 f10 k_f11 f11 k_f12 f12 k_f13 f13 k_f14 f14 k_f15 f15 k_f16 f16) ++ zp 4 16 N az ac kz qs_9 fz_10) H := hP
      have hD : va_D A ((rma__w rm rcv (nI rk) rmd (nI (ru + 1)) rpc rct rce (az 392) k_fcv fcv k_fmd (zs 242 28 az) k_fpc (zs 270 122 az) k_fct fct k_fce (bN 16 q_fce) au (nI nc) (nI np) (nI ne) st0 q4 q5 q6 q7 q8 q9 q10 q11 q12 q13 q14 q15 q16 k_f4 f4 k_f5 (bN 7 q_f5) k_f6 (bN 7 q_f6) k_f7 f7 k_f8 (bN 4 q_f8) k_f9 (bN 2 q_f9) k_f10 f10 k_f11 f11 k_f12 f12 k_f13 f13 k_f14 f14 k_f15 f15 k_f16 f16) ++ zp 4 16 N az ac kz qs_9 fz_10) := hD
      refine lv_aload_n hx hb eX5_addLeaving_53 rfl (lv_at hl 1 rfl) ?_
      refine lv_aload hx hb eX5_addLeaving_54 (lv_at hl 0 rfl) ?_
      have hPc : va_P (dC, dI) vwCl ([(rm, .inr (5, [.ref rcv, .int (nI rk), .ref rmd, .int (nI (ru + 1)), .ref rpc, .ref rct, .ref rce, .ref (az 392)])), (rcv, .inl (k_fcv, 120, .inr (.inr (.inr (.inr fcv))))), (rmd, .inl (k_fmd, 28, .inr (.inr (.inr (.inr (zs 242 28 az)))))), (rpc, .inl (k_fpc, 122, .inr (.inr (.inr (.inr (zs 270 122 az)))))), (rct, .inl (k_fct, 122, .inl fct)), (rce, .inl (k_fce, 122, .inl (bN 16 q_fce)))] ++ zp 4 16 N az ac kz qs_9 fz_10) _ := hP.part [0, 1, 2, 3, 4, 5] rfl
      have hDc : va_D A ([(rm, .inr (5, [.ref rcv, .int (nI rk), .ref rmd, .int (nI (ru + 1)), .ref rpc, .ref rct, .ref rce, .ref (az 392)])), (rcv, .inl (k_fcv, 120, .inr (.inr (.inr (.inr fcv))))), (rmd, .inl (k_fmd, 28, .inr (.inr (.inr (.inr (zs 242 28 az)))))), (rpc, .inl (k_fpc, 122, .inr (.inr (.inr (.inr (zs 270 122 az)))))), (rct, .inl (k_fct, 122, .inl fct)), (rce, .inl (k_fce, 122, .inl (bN 16 q_fce)))] ++ zp 4 16 N az ac kz qs_9 fz_10) := hD.part [0, 1, 2, 3, 4, 5] (by decide) rfl
      have hKc : va_K (dC, dI) vwCl ([(k_fcv, .object RX7), (k_fmd, .object RX7), (k_fpc, .object RX7), (k_fct, .int), (k_fce, .int)] ++ zt N kz) s := zk_part hK [0, 1, 2, 3, 4] rfl
      have hFc := pu_free hDc hS hA
      refine va_callv (va_runV (As := [.ref (az (242 + ru))]) (rest := []) ⟨hx, hb, hml, hown, hts⟩ (c_C_5_add l dC dI _ rm rcv rk rmd (ru + 1) rpc rct rce k_fcv fcv k_fmd k_fpc k_fct fct k_fce q_fce N az ac kz qs_9 fz_10 (242 + ru) hrk (by omega) (by omega) (by omega) (by assumption) (by omega)) (cwV 1 hts g_C_5_addLeaving_C_5_add rfl rfl rfl (by decide +kernel) ⟨Nat.le_of_ble_eq_true rfl, Nat.le_of_ble_eq_true rfl⟩) ⟨pu_bl, va_recv hK hP (ci := 5) (q0 := 0) rfl rfl, pu_in hPc hKc hDc⟩ rfl rfl hl.1 rfl (lv_room (Nat.le_of_ble_eq_true rfl)) eX5_addLeaving_56 ⟨Nat.le_of_ble_eq_true rfl, Nat.le_of_ble_eq_true rfl⟩) hS (fun q _ h => hFc q h) hFc (fun u t H1 locs ht hvm hw hB hz1 hk1 hS => ?_)
      obtain ⟨z_fcv_15, z_rk_16, ⟨hP1, -, hD1⟩, hz_rk_16, xr_14_0⟩ := hB
      rw [ht] at hP1
      obtain ⟨hP, hD⟩ := pj_c (X := (rma__w rm rcv (nI rk) rmd (nI (ru + 1)) rpc rct rce (az 392) k_fcv fcv k_fmd (zs 242 28 az) k_fpc (zs 270 122 az) k_fct fct k_fce (bN 16 q_fce) au (nI nc) (nI np) (nI ne) st0 q4 q5 q6 q7 q8 q9 q10 q11 q12 q13 q14 q15 q16 k_f4 f4 k_f5 (bN 7 q_f5) k_f6 (bN 7 q_f6) k_f7 f7 k_f8 (bN 4 q_f8) k_f9 (bN 2 q_f9) k_f10 f10 k_f11 f11 k_f12 f12 k_f13 f13 k_f14 f14 k_f15 f15 k_f16 f16)) (X' := (rma__w rm rcv (nI z_rk_16) rmd (nI (ru + 1)) rpc rct rce (az 392) k_fcv z_fcv_15 k_fmd (zs 242 28 az) k_fpc (zs 270 122 az) k_fct fct k_fce (bN 16 q_fce) au (nI nc) (nI np) (nI ne) st0 q4 q5 q6 q7 q8 q9 q10 q11 q12 q13 q14 q15 q16 k_f4 f4 k_f5 (bN 7 q_f5) k_f6 (bN 7 q_f6) k_f7 f7 k_f8 (bN 4 q_f8) k_f9 (bN 2 q_f9) k_f10 f10 k_f11 f11 k_f12 f12 k_f13 f13 k_f14 f14 k_f15 f15 k_f16 f16)) (wc := (rm__w rm rcv (nI rk) rmd (nI (ru + 1)) rpc rct rce (az 392) k_fcv fcv k_fmd (zs 242 28 az) k_fpc (zs 270 122 az) k_fct fct k_fce (bN 16 q_fce))) (w1 := (rm__w rm rcv (nI z_rk_16) rmd (nI (ru + 1)) rpc rct rce (az 392) k_fcv z_fcv_15 k_fmd (zs 242 28 az) k_fpc (zs 270 122 az) k_fct fct k_fce (bN 16 q_fce))) hP hD [0, 1, 2, 3, 4, 5] [0, 1, 2, 3, 4, 5, 12, 13, 14, 15, 16, 17, 18, 19, 20, 21, 22, 23, 24, 25] 6 rfl hk1 hP1 rfl zp_f rfl rfl (by decide)
      clear hP1 hD1 hFc
      clear hPc hDc hKc
      clear hk1 hz1 ht hvm
      generalize H1 = H at hP hS ⊢
      refine lv_aload_n hx hb eX5_addLeaving_59 rfl (lv_at hl 2 rfl) ?_
      refine va_get (D := (dC, dI)) (ci := 0) (v := .ref q5) (C := RX0) (T := TX0) (N := 17) hx hb hts hiX0 hown hK hP 6 rfl rfl 5 (by decide) v_18 (fun _ h9 => h9) rfl eX5_addLeaving_60 ?_
      refine lv_iload_n hx hb eX5_addLeaving_63 rfl (lv_at hl 3 rfl) ?_
      refine va_iald hx hb hK hP 8 6 rfl rfl (vp_in_nI (n := a1) (Nat.lt_of_le_of_lt ha1 (Nat.le_of_ble_eq_true rfl)) (Nat.le_of_ble_eq_true rfl)) eX5_addLeaving_64 ?_
      refine lv_topi (fun y_17 ey_17 => ?_)
      obtain ⟨u_18, hu_18, qu_18⟩ := bN_get 7 q_f5 (((nI a1) : Int32).toNatClampNeg)
      obtain rfl : y_17 = nI u_18 := ey_17.trans qu_18
      refine lv_istore (lv' := [(5, .int (nI u_18)), (4, .ref (az (242 + ru))), (0, .ref rm), (1, .ref au), (2, .int (nI a1)), (3, .int (nI a2))]) hx hb eX5_addLeaving_65 hl (by decide) rfl (fun ls hl => ?_)
      refine lv_aload_n hx hb eX5_addLeaving_67 rfl (lv_at hl 2 rfl) ?_
      refine va_get (D := (dC, dI)) (ci := 5) (v := .ref rmd) (C := RX5) (T := TX5) (N := 8) hx hb hts hiX5 hown hK hP 0 rfl rfl 2 (by decide) v_2 (fun _ h9 => h9) rfl eX5_addLeaving_68 ?_
      refine lv_aload_n hx hb eX5_addLeaving_71 rfl (lv_at hl 2 rfl) ?_
      refine va_get (D := (dC, dI)) (ci := 5) (v := .int (nI (ru + 1))) (C := RX5) (T := TX5) (N := 8) hx hb hts hiX5 hown hK hP 0 rfl rfl 3 (by decide) v_1 (fun _ h9 => h9) rfl eX5_addLeaving_72 ?_
      refine va_aldq hx hb hK hP 2 1 rfl rfl (vp_in_nI (n := (ru + 1)) (by omega) (Nat.le_of_ble_eq_true rfl)) eX5_addLeaving_75 ?_
      refine W.eq (g2 := F0 m 76 ls [.ref (az (242 + (ru + 1)))]) (by rw [zs_get (by omega) (by omega)]) ?_
      refine lv_astore (lv' := [(6, .ref (az (242 + (ru + 1)))), (5, .int (nI u_18)), (4, .ref (az (242 + ru))), (0, .ref rm), (1, .ref au), (2, .int (nI a1)), (3, .int (nI a2))]) hx hb eX5_addLeaving_76 hl (by decide) rfl (fun ls hl => ?_)
      refine lv_aload hx hb eX5_addLeaving_78 (lv_at hl 0 rfl) ?_
      refine lv_aload hx hb eX5_addLeaving_80 (lv_at hl 2 rfl) ?_
      have hPz := zp_cut (k := (242 + (ru + 1))) hP (by omega)
      have hPy := zp_cut (k := (242 + ru)) hP (by omega)
      have hPc : va_P (dC, dI) vwCl ([(az (242 + ru), .inr (7, [.ref (ac (242 + ru)), .int (nI (min (qs_9 (242 + ru)) 4))])), (ac (242 + ru), .inl (kz (242 + ru), 16, .inl (fz_10 (242 + ru))))] ++ [(az (242 + (ru + 1)), .inr (7, [.ref (ac (242 + (ru + 1))), .int (nI (min (qs_9 (242 + (ru + 1))) 4))])), (ac (242 + (ru + 1)), .inl (kz (242 + (ru + 1)), 16, .inl (fz_10 (242 + (ru + 1)))))]) _ := va_P.app hPy hPz
      have hDc : va_D A ([(az (242 + ru), .inr (7, [.ref (ac (242 + ru)), .int (nI (min (qs_9 (242 + ru)) 4))])), (ac (242 + ru), .inl (kz (242 + ru), 16, .inl (fz_10 (242 + ru))))] ++ [(az (242 + (ru + 1)), .inr (7, [.ref (ac (242 + (ru + 1))), .int (nI (min (qs_9 (242 + (ru + 1))) 4))])), (ac (242 + (ru + 1)), .inl (kz (242 + (ru + 1)), 16, .inl (fz_10 (242 + (ru + 1)))))]) := zp_cutD2 hD (by omega) (by omega) (by omega)
      have hKc : va_K (dC, dI) vwCl [(kz (242 + ru), .int), (kz (242 + (ru + 1)), .int)] s := zp_K2 hK (by omega) (by omega)
      have hFc := pu_free hDc hS hA
      refine va_callv (va_runV (As := [.ref (az (242 + ru))]) (rest := []) ⟨hx, hb, hml, hown, hts⟩ (c_E_7_copyOf_16 l dC dI _ (az (242 + ru)) (ac (242 + ru)) (min (qs_9 (242 + ru)) 4) (kz (242 + ru)) (fz_10 (242 + ru)) (az (242 + (ru + 1))) (ac (242 + (ru + 1))) (min (qs_9 (242 + (ru + 1))) 4) (kz (242 + (ru + 1))) (fz_10 (242 + (ru + 1))) (Nat.min_le_right _ _) (Nat.min_le_right _ _)) (cwV 1 hts g_C_5_addLeaving_E_7_copyOf_16 rfl rfl rfl (by decide +kernel) ⟨Nat.le_of_ble_eq_true rfl, Nat.le_of_ble_eq_true rfl⟩) ⟨pu_bl, va_recv hK hPz (ci := 7) (q0 := 0) rfl rfl, pu_in hPc hKc hDc⟩ rfl rfl hl.1 rfl (lv_room (Nat.le_of_ble_eq_true rfl)) eX5_addLeaving_82 ⟨Nat.le_of_ble_eq_true rfl, Nat.le_of_ble_eq_true rfl⟩) hS (fun q _ h => hFc q h) hFc (fun u t H1 locs ht hvm hw hB hz1 hk1 hS => ?_)
      obtain ⟨z_fz_20, ⟨hP1, -, hD1⟩, xr_19_0⟩ := hB
      rw [ht] at hP1
      obtain ⟨qs_21, fz_22, hP, hD⟩ := zp_put (wr := [(az (242 + ru), .inr (7, [.ref (ac (242 + ru)), .int (nI (min (qs_9 (242 + ru)) 4))])), (ac (242 + ru), .inl (kz (242 + ru), 16, .inl (fz_10 (242 + ru))))]) (k := (242 + (ru + 1))) hP hD (by omega) (zp_two (by omega)) hk1 (Nat.min_le_right _ _) hP1
      clear hP1 hD1 hFc
      clear hPc hDc hKc
      clear hk1 hz1 ht hvm
      generalize H1 = H at hP hS ⊢
      refine lv_aload_n hx hb eX5_addLeaving_85 rfl (lv_at hl 4 rfl) ?_
      refine va_get (D := (dC, dI)) (ci := 0) (v := .ref q4) (C := RX0) (T := TX0) (N := 17) hx hb hts hiX0 hown hK hP 6 rfl rfl 4 (by decide) v_23 (fun _ h9 => h9) rfl eX5_addLeaving_86 ?_
      refine lv_iload hx hb eX5_addLeaving_89 (lv_at hl 1 rfl) ?_
      refine va_zald hx hb hK hP 7 5 rfl rfl (vp_in_nI (n := u_18) (Nat.lt_of_le_of_lt hu_18 (Nat.le_of_ble_eq_true rfl)) (Nat.le_of_ble_eq_true rfl)) eX5_addLeaving_91 ?_
      refine lv_topi (fun y_23 ey_23 => ?_)
      refine lv_if_ne (tgt := 131) hx hb eX5_addLeaving_92 (by decide) (fun c_24 => ?_) (fun c_24 => ?_)
      · exact W.vret hx hb hr (fun t ht hW => ⟨⟨(), rfl, trivial, ⟨z_fcv_15, z_rk_16, (ru + 1), fz_22, qs_21, ⟨by rw [ht]; exact hP, va_K.moved hW.alike hK, hD⟩, hz_rk_16, (by omega), by assumption⟩⟩, hS.F ht⟩) hS.2.2 eX5_addLeaving_131
      · refine lv_aload_n hx hb eX5_addLeaving_95 rfl (lv_at hl 4 rfl) ?_
        refine lv_aload hx hb eX5_addLeaving_96 (lv_at hl 0 rfl) ?_
        refine lv_iload hx hb eX5_addLeaving_98 (lv_at hl 1 rfl) ?_
        have hPc : va_P (dC, dI) vwCl [] _ := hP.sub [] rfl
        have hDc : va_D A [] := (zp_left hD).sub [] (by decide) rfl
        have hKc : va_K (dC, dI) vwCl [] s := hK.sub [] rfl
        refine va_calli (va_runS (As := [.int (nI u_18)]) (rest := [.ref (az (242 + (ru + 1))), .ref au]) ⟨hx, hb, hml, hown, hts⟩ (c_E_0_hostOfPlace l dC dI _ u_18 hu_18) (va_cwS 1 hts g_C_5_addLeaving_E_0_hostOfPlace rfl rfl rfl (by decide +kernel) ⟨Nat.le_of_ble_eq_true rfl, Nat.le_of_ble_eq_true rfl⟩) ⟨pu_bl, pu_in hPc hKc hDc⟩ rfl rfl hl.1 rfl (lv_room (Nat.le_of_ble_eq_true rfl)) eX5_addLeaving_100 ⟨Nat.le_of_ble_eq_true rfl, Nat.le_of_ble_eq_true rfl⟩) hS (fun q _ h => pu_fr hS hA q h) (pu_fr hS hA) (fun r_25 u t H1 locs ht hvm hw hB hz1 hk1 hS => ?_)
        have hP := pu_keep hP hk1
        clear hPc hDc hKc
        clear hk1 hz1 ht hvm
        generalize H1 = H at hP hS ⊢
        obtain rfl : r_25 = nI (14 + u_18) := hw
        refine lv_iconst (v := 0) hx hb eX5_addLeaving_103 (by decide) ?_
        have hPz := zp_cut (k := (242 + (ru + 1))) hP (by omega)
        have hPc : va_P (dC, dI) vwCl ([(au, .inr (0, [.int (nI nc), .int (nI np), .int (nI ne), .int st0, .ref q4, .ref q5, .ref q6, .ref q7, .ref q8, .ref q9, .ref q10, .ref q11, .ref q12, .ref q13, .ref q14, .ref q15, .ref q16])), (q4, .inl (k_f4, 8, .inl f4)), (q5, .inl (k_f5, 14, .inl (bN 7 q_f5))), (q6, .inl (k_f6, 14, .inl (bN 7 q_f6))), (q7, .inl (k_f7, 14, .inl f7)), (q8, .inl (k_f8, 22, .inl (bN 4 q_f8))), (q9, .inl (k_f9, 88, .inl (bN 2 q_f9))), (q10, .inl (k_f10, 88, .inl f10)), (q11, .inl (k_f11, 88, .inl f11)), (q12, .inl (k_f12, 88, .inl f12)), (q13, .inl (k_f13, 88, .inl f13)), (q14, .inl (k_f14, 4, .inl f14)), (q15, .inl (k_f15, 4, .inl f15)), (q16, .inl (k_f16, 4, .inl f16))] ++ [(az (242 + (ru + 1)), .inr (7, [.ref (ac (242 + (ru + 1))), .int (nI (min (qs_21 (242 + (ru + 1))) 4))])), (ac (242 + (ru + 1)), .inl (kz (242 + (ru + 1)), 16, .inl (fz_22 (242 + (ru + 1)))))]) _ := va_P.app (hP.sub [6, 7, 8, 9, 10, 11, 12, 13, 14, 15, 16, 17, 18, 19] rfl) hPz
        have hDc : va_D A ([(au, .inr (0, [.int (nI nc), .int (nI np), .int (nI ne), .int st0, .ref q4, .ref q5, .ref q6, .ref q7, .ref q8, .ref q9, .ref q10, .ref q11, .ref q12, .ref q13, .ref q14, .ref q15, .ref q16])), (q4, .inl (k_f4, 8, .inl f4)), (q5, .inl (k_f5, 14, .inl (bN 7 q_f5))), (q6, .inl (k_f6, 14, .inl (bN 7 q_f6))), (q7, .inl (k_f7, 14, .inl f7)), (q8, .inl (k_f8, 22, .inl (bN 4 q_f8))), (q9, .inl (k_f9, 88, .inl (bN 2 q_f9))), (q10, .inl (k_f10, 88, .inl f10)), (q11, .inl (k_f11, 88, .inl f11)), (q12, .inl (k_f12, 88, .inl f12)), (q13, .inl (k_f13, 88, .inl f13)), (q14, .inl (k_f14, 4, .inl f14)), (q15, .inl (k_f15, 4, .inl f15)), (q16, .inl (k_f16, 4, .inl f16))] ++ [(az (242 + (ru + 1)), .inr (7, [.ref (ac (242 + (ru + 1))), .int (nI (min (qs_21 (242 + (ru + 1))) 4))])), (ac (242 + (ru + 1)), .inl (kz (242 + (ru + 1)), 16, .inl (fz_22 (242 + (ru + 1)))))]) := zp_cutD hD (by omega) [6, 7, 8, 9, 10, 11, 12, 13, 14, 15, 16, 17, 18, 19] (by decide) rfl
        have hKc : va_K (dC, dI) vwCl ([(k_f4, .boolean), (k_f5, .int), (k_f6, .int), (k_f7, .int), (k_f8, .int), (k_f9, .int), (k_f10, .int), (k_f11, .int), (k_f12, .int), (k_f13, .int), (k_f14, .int), (k_f15, .int), (k_f16, .int)] ++ [(kz (242 + (ru + 1)), .int)]) s := zp_K hK (by omega) [5, 6, 7, 8, 9, 10, 11, 12, 13, 14, 15, 16, 17] rfl
        have hFc := pu_free hDc hS hA
        refine va_calli (va_runV (As := [.ref (az (242 + (ru + 1))), .int (nI (14 + u_18)), .int 0]) (rest := []) ⟨hx, hb, hml, hown, hts⟩ (c_E_0_narrowTo_16 l dC dI _ au nc np ne st0 q4 q5 q6 q7 q8 q9 q10 q11 q12 q13 q14 q15 q16 k_f4 f4 k_f5 q_f5 k_f6 q_f6 k_f7 f7 k_f8 q_f8 k_f9 q_f9 k_f10 f10 k_f11 f11 k_f12 f12 k_f13 f13 k_f14 f14 k_f15 f15 k_f16 f16 (az (242 + (ru + 1))) (ac (242 + (ru + 1))) (min (qs_21 (242 + (ru + 1))) 4) (kz (242 + (ru + 1))) (fz_22 (242 + (ru + 1))) (14 + u_18) 0 hnc hnp hne (hst0) (Nat.min_le_right _ _) (by omega)) (cwV 3 hts g_C_5_addLeaving_E_0_narrowTo_16 rfl rfl rfl (by decide +kernel) ⟨Nat.le_of_ble_eq_true rfl, Nat.le_of_ble_eq_true rfl⟩) ⟨pu_bl, va_recv hK hP (ci := 0) (q0 := 6) rfl rfl, pu_in hPc hKc hDc⟩ rfl rfl hl.1 rfl (lv_room (Nat.le_of_ble_eq_true rfl)) eX5_addLeaving_104 ⟨Nat.le_of_ble_eq_true rfl, Nat.le_of_ble_eq_true rfl⟩) hS (fun q _ h => hFc q h) hFc (fun r_26 u t H1 locs ht hvm hw hB hz1 hk1 hS => ?_)
        obtain ⟨z_fz_27, ⟨hP1, -, hD1⟩, xr_26_0⟩ := hB
        rw [ht] at hP1
        obtain ⟨qs_28, fz_29, hP, hD⟩ := zp_put (wr := [(au, .inr (0, [.int (nI nc), .int (nI np), .int (nI ne), .int st0, .ref q4, .ref q5, .ref q6, .ref q7, .ref q8, .ref q9, .ref q10, .ref q11, .ref q12, .ref q13, .ref q14, .ref q15, .ref q16])), (q4, .inl (k_f4, 8, .inl f4)), (q5, .inl (k_f5, 14, .inl (bN 7 q_f5))), (q6, .inl (k_f6, 14, .inl (bN 7 q_f6))), (q7, .inl (k_f7, 14, .inl f7)), (q8, .inl (k_f8, 22, .inl (bN 4 q_f8))), (q9, .inl (k_f9, 88, .inl (bN 2 q_f9))), (q10, .inl (k_f10, 88, .inl f10)), (q11, .inl (k_f11, 88, .inl f11)), (q12, .inl (k_f12, 88, .inl f12)), (q13, .inl (k_f13, 88, .inl f13)), (q14, .inl (k_f14, 4, .inl f14)), (q15, .inl (k_f15, 4, .inl f15)), (q16, .inl (k_f16, 4, .inl f16))]) (k := (242 + (ru + 1))) hP hD (by omega) (fun q h => List.mem_append_left _ (pu_subm [6, 7, 8, 9, 10, 11, 12, 13, 14, 15, 16, 17, 18, 19] rfl q h)) hk1 (Nat.min_le_right _ _) hP1
        clear hP1 hD1 hFc
        clear hPc hDc hKc
        clear hk1 hz1 ht hvm
        generalize H1 = H at hP hS ⊢
        obtain ⟨u_30, hu_30, rfl, iu_30⟩ := hw
        have iu_30 : (u_30, z_fz_27) = (sp_E_0_narrowTo_16 q_f8 q_f9 f12 f13 (min (qs_21 (242 + (ru + 1))) 4) (fz_22 (242 + (ru + 1))) (14 + u_18) 0) := Prod.ext iu_30 xr_26_0
        refine lv_if_eq (tgt := 131) hx hb eX5_addLeaving_107 (by decide) (fun c_31 => ?_) (fun c_31 => ?_)
        · have c_31 : u_30 = 0 := (nI_eq (a := u_30) (b := 0) (Nat.lt_of_le_of_lt hu_30 (Nat.le_of_ble_eq_true rfl)) (Nat.le_of_ble_eq_true rfl)).mp c_31
          exact W.vret hx hb hr (fun t ht hW => ⟨⟨(), rfl, trivial, ⟨z_fcv_15, z_rk_16, (ru + 1), fz_29, qs_28, ⟨by rw [ht]; exact hP, va_K.moved hW.alike hK, hD⟩, hz_rk_16, (by omega), by assumption⟩⟩, hS.F ht⟩) hS.2.2 eX5_addLeaving_131
        · have c_31 : ¬ u_30 = 0 := fun z => c_31 ((nI_eq (a := u_30) (b := 0) (Nat.lt_of_le_of_lt hu_30 (Nat.le_of_ble_eq_true rfl)) (Nat.le_of_ble_eq_true rfl)).mpr z)
          refine lv_aload hx hb eX5_addLeaving_110 (lv_at hl 0 rfl) ?_
          have hPz := zp_cut (k := (242 + (ru + 1))) hP (by omega)
          have hPc : va_P (dC, dI) vwCl ([] ++ [(az (242 + (ru + 1)), .inr (7, [.ref (ac (242 + (ru + 1))), .int (nI (min (qs_28 (242 + (ru + 1))) 4))])), (ac (242 + (ru + 1)), .inl (kz (242 + (ru + 1)), 16, .inl (fz_29 (242 + (ru + 1)))))]) _ := va_P.app (hP.sub [] rfl) hPz
          have hDc : va_D A ([] ++ [(az (242 + (ru + 1)), .inr (7, [.ref (ac (242 + (ru + 1))), .int (nI (min (qs_28 (242 + (ru + 1))) 4))])), (ac (242 + (ru + 1)), .inl (kz (242 + (ru + 1)), 16, .inl (fz_29 (242 + (ru + 1)))))]) := zp_cutD hD (by omega) [] (by decide) rfl
          have hKc : va_K (dC, dI) vwCl ([] ++ [(kz (242 + (ru + 1)), .int)]) s := zp_K hK (by omega) [] rfl
          have hFc := pu_free hDc hS hA
          refine va_callv (va_runV (As := []) (rest := []) ⟨hx, hb, hml, hown, hts⟩ (c_E_7_setPast_16 l dC dI _ (az (242 + (ru + 1))) (ac (242 + (ru + 1))) (min (qs_28 (242 + (ru + 1))) 4) (kz (242 + (ru + 1))) (fz_29 (242 + (ru + 1))) (Nat.min_le_right _ _)) (cwV 0 hts g_C_5_addLeaving_E_7_setPast_16 rfl rfl rfl (by decide +kernel) ⟨Nat.le_of_ble_eq_true rfl, Nat.le_of_ble_eq_true rfl⟩) ⟨pu_bl, va_recv hK hPz (ci := 7) (q0 := 0) rfl rfl, pu_in hPc hKc hDc⟩ rfl rfl hl.1 rfl (lv_room (Nat.le_of_ble_eq_true rfl)) eX5_addLeaving_112 ⟨Nat.le_of_ble_eq_true rfl, Nat.le_of_ble_eq_true rfl⟩) hS (fun q _ h => hFc q h) hFc (fun u t H1 locs ht hvm hw hB hz1 hk1 hS => ?_)
          obtain ⟨z_fz_33, ⟨hP1, -, hD1⟩, xr_32_0⟩ := hB
          rw [ht] at hP1
          obtain ⟨qs_34, fz_35, hP, hD⟩ := zp_put (wr := []) (k := (242 + (ru + 1))) hP hD (by omega) (fun q h => List.mem_append_left _ (pu_subm [] rfl q h)) hk1 (Nat.min_le_right _ _) hP1
          clear hP1 hD1 hFc
          clear hPc hDc hKc
          clear hk1 hz1 ht hvm
          generalize H1 = H at hP hS ⊢
          refine lv_aload_n hx hb eX5_addLeaving_115 rfl (lv_at hl 3 rfl) ?_
          refine lv_dup hx hb eX5_addLeaving_116 rfl ?_
          refine va_get (D := (dC, dI)) (ci := 5) (v := .int (nI (ru + 1))) (C := RX5) (T := TX5) (N := 8) hx hb hts hiX5 hown hK hP 0 rfl rfl 3 (by decide) v_1 (fun _ h9 => h9) rfl eX5_addLeaving_117 ?_
          refine lv_iconst (v := 1) hx hb eX5_addLeaving_120 (by decide) ?_
          refine lv_iadd hx hb eX5_addLeaving_121 ?_
          refine lv_topi (fun y_36 ey_36 => ?_)
          obtain rfl : y_36 = (nI ((ru + 1) + 1)) := ey_36.trans (nI_add (ru + 1) 1)
          refine va_put (D := (dC, dI)) (ci := 5) (v := .int (nI ((ru + 1) + 1))) (ty := .int) (C := RX5) (T := TX5) (N := 8) hx hb hts hiX5 tyX5 tyX5_ok nmX5 hown hK hP hD hS 0 rfl rfl 3 (by decide) v_1 (fun _ h9 => h9) rfl (by decide +kernel) rfl rfl (Nat.le_of_ble_eq_true rfl) eX5_addLeaving_122 (fun H locs hP hD hS => ?_)
          have hP : va_P (dC, dI) vwCl ((rma__w rm rcv (nI z_rk_16) rmd (nI ((ru + 1) + 1)) rpc rct rce (az 392) k_fcv z_fcv_15 k_fmd (zs 242 28 az) k_fpc (zs 270 122 az) k_fct fct k_fce (bN 16 q_fce) au (nI nc) (nI np) (nI ne) st0 q4 q5 q6 q7 q8 q9 q10 q11 q12 q13 q14 q15 q16 k_f4 f4 k_f5 (bN 7 q_f5) k_f6 (bN 7 q_f6) k_f7 f7 k_f8 (bN 4 q_f8) k_f9 (bN 2 q_f9) k_f10 f10 k_f11 f11 k_f12 f12 k_f13 f13 k_f14 f14 k_f15 f15 k_f16 f16) ++ zp 4 16 N az ac kz qs_34 fz_35) H := hP
          have hD : va_D A ((rma__w rm rcv (nI z_rk_16) rmd (nI ((ru + 1) + 1)) rpc rct rce (az 392) k_fcv z_fcv_15 k_fmd (zs 242 28 az) k_fpc (zs 270 122 az) k_fct fct k_fce (bN 16 q_fce) au (nI nc) (nI np) (nI ne) st0 q4 q5 q6 q7 q8 q9 q10 q11 q12 q13 q14 q15 q16 k_f4 f4 k_f5 (bN 7 q_f5) k_f6 (bN 7 q_f6) k_f7 f7 k_f8 (bN 4 q_f8) k_f9 (bN 2 q_f9) k_f10 f10 k_f11 f11 k_f12 f12 k_f13 f13 k_f14 f14 k_f15 f15 k_f16 f16) ++ zp 4 16 N az ac kz qs_34 fz_35) := hD
          refine lv_aload_n hx hb eX5_addLeaving_125 rfl (lv_at hl 3 rfl) ?_
          refine lv_aload hx hb eX5_addLeaving_126 (lv_at hl 0 rfl) ?_
          have hPc : va_P (dC, dI) vwCl ([(rm, .inr (5, [.ref rcv, .int (nI z_rk_16), .ref rmd, .int (nI ((ru + 1) + 1)), .ref rpc, .ref rct, .ref rce, .ref (az 392)])), (rcv, .inl (k_fcv, 120, .inr (.inr (.inr (.inr z_fcv_15))))), (rmd, .inl (k_fmd, 28, .inr (.inr (.inr (.inr (zs 242 28 az)))))), (rpc, .inl (k_fpc, 122, .inr (.inr (.inr (.inr (zs 270 122 az)))))), (rct, .inl (k_fct, 122, .inl fct)), (rce, .inl (k_fce, 122, .inl (bN 16 q_fce)))] ++ zp 4 16 N az ac kz qs_34 fz_35) _ := hP.part [0, 1, 2, 3, 4, 5] rfl
          have hDc : va_D A ([(rm, .inr (5, [.ref rcv, .int (nI z_rk_16), .ref rmd, .int (nI ((ru + 1) + 1)), .ref rpc, .ref rct, .ref rce, .ref (az 392)])), (rcv, .inl (k_fcv, 120, .inr (.inr (.inr (.inr z_fcv_15))))), (rmd, .inl (k_fmd, 28, .inr (.inr (.inr (.inr (zs 242 28 az)))))), (rpc, .inl (k_fpc, 122, .inr (.inr (.inr (.inr (zs 270 122 az)))))), (rct, .inl (k_fct, 122, .inl fct)), (rce, .inl (k_fce, 122, .inl (bN 16 q_fce)))] ++ zp 4 16 N az ac kz qs_34 fz_35) := hD.part [0, 1, 2, 3, 4, 5] (by decide) rfl
          have hKc : va_K (dC, dI) vwCl ([(k_fcv, .object RX7), (k_fmd, .object RX7), (k_fpc, .object RX7), (k_fct, .int), (k_fce, .int)] ++ zt N kz) s := zk_part hK [0, 1, 2, 3, 4] rfl
          have hFc := pu_free hDc hS hA
          refine va_callv (va_runV (As := [.ref (az (242 + (ru + 1)))]) (rest := []) ⟨hx, hb, hml, hown, hts⟩ (c_C_5_add l dC dI _ rm rcv z_rk_16 rmd ((ru + 1) + 1) rpc rct rce k_fcv z_fcv_15 k_fmd k_fpc k_fct fct k_fce q_fce N az ac kz qs_34 fz_35 (242 + (ru + 1)) hz_rk_16 (by omega) (by omega) (by omega) (by assumption) (by omega)) (cwV 1 hts g_C_5_addLeaving_C_5_add rfl rfl rfl (by decide +kernel) ⟨Nat.le_of_ble_eq_true rfl, Nat.le_of_ble_eq_true rfl⟩) ⟨pu_bl, va_recv hK hP (ci := 5) (q0 := 0) rfl rfl, pu_in hPc hKc hDc⟩ rfl rfl hl.1 rfl (lv_room (Nat.le_of_ble_eq_true rfl)) eX5_addLeaving_128 ⟨Nat.le_of_ble_eq_true rfl, Nat.le_of_ble_eq_true rfl⟩) hS (fun q _ h => hFc q h) hFc (fun u t H1 locs ht hvm hw hB hz1 hk1 hS => ?_)
          obtain ⟨z_fcv_38, z_rk_39, ⟨hP1, -, hD1⟩, hz_rk_39, xr_37_0⟩ := hB
          rw [ht] at hP1
          obtain ⟨hP, hD⟩ := pj_c (X := (rma__w rm rcv (nI z_rk_16) rmd (nI ((ru + 1) + 1)) rpc rct rce (az 392) k_fcv z_fcv_15 k_fmd (zs 242 28 az) k_fpc (zs 270 122 az) k_fct fct k_fce (bN 16 q_fce) au (nI nc) (nI np) (nI ne) st0 q4 q5 q6 q7 q8 q9 q10 q11 q12 q13 q14 q15 q16 k_f4 f4 k_f5 (bN 7 q_f5) k_f6 (bN 7 q_f6) k_f7 f7 k_f8 (bN 4 q_f8) k_f9 (bN 2 q_f9) k_f10 f10 k_f11 f11 k_f12 f12 k_f13 f13 k_f14 f14 k_f15 f15 k_f16 f16)) (X' := (rma__w rm rcv (nI z_rk_39) rmd (nI ((ru + 1) + 1)) rpc rct rce (az 392) k_fcv z_fcv_38 k_fmd (zs 242 28 az) k_fpc (zs 270 122 az) k_fct fct k_fce (bN 16 q_fce) au (nI nc) (nI np) (nI ne) st0 q4 q5 q6 q7 q8 q9 q10 q11 q12 q13 q14 q15 q16 k_f4 f4 k_f5 (bN 7 q_f5) k_f6 (bN 7 q_f6) k_f7 f7 k_f8 (bN 4 q_f8) k_f9 (bN 2 q_f9) k_f10 f10 k_f11 f11 k_f12 f12 k_f13 f13 k_f14 f14 k_f15 f15 k_f16 f16)) (wc := (rm__w rm rcv (nI z_rk_16) rmd (nI ((ru + 1) + 1)) rpc rct rce (az 392) k_fcv z_fcv_15 k_fmd (zs 242 28 az) k_fpc (zs 270 122 az) k_fct fct k_fce (bN 16 q_fce))) (w1 := (rm__w rm rcv (nI z_rk_39) rmd (nI ((ru + 1) + 1)) rpc rct rce (az 392) k_fcv z_fcv_38 k_fmd (zs 242 28 az) k_fpc (zs 270 122 az) k_fct fct k_fce (bN 16 q_fce))) hP hD [0, 1, 2, 3, 4, 5] [0, 1, 2, 3, 4, 5, 12, 13, 14, 15, 16, 17, 18, 19, 20, 21, 22, 23, 24, 25] 6 rfl hk1 hP1 rfl zp_f rfl rfl (by decide)
          clear hP1 hD1 hFc
          clear hPc hDc hKc
          clear hk1 hz1 ht hvm
          generalize H1 = H at hP hS ⊢
          exact W.vret hx hb hr (fun t ht hW => ⟨⟨(), rfl, trivial, ⟨z_fcv_38, z_rk_39, ((ru + 1) + 1), fz_35, qs_34, ⟨by rw [ht]; exact hP, va_K.moved hW.alike hK, hD⟩, hz_rk_39, (by omega), by assumption⟩⟩, hS.F ht⟩) hS.2.2 eX5_addLeaving_131
    · have c_12 : u_11 = 0 := (nI_eq (a := u_11) (b := 0) (Nat.lt_of_le_of_lt hu_11 (Nat.le_of_ble_eq_true rfl)) (Nat.le_of_ble_eq_true rfl)).mp c_12
      exact W.vret hx hb hr (fun t ht hW => ⟨⟨(), rfl, trivial, ⟨fcv, rk, ru, fz_10, qs_9, ⟨by rw [ht]; exact hP, va_K.moved hW.alike hK, hD⟩, hrk, hru, by assumption⟩⟩, hS.F ht⟩) hS.2.2 eX5_addLeaving_42
  · have c_2 : ¬ (ru + 2) ≤ 28 := fun z => c_2 ((nI_leI (a := (ru + 2)) (b := 28) (by omega) (Nat.le_of_ble_eq_true rfl)).mpr z)
    exact W.vret hx hb hr (fun t ht hW => ⟨⟨(), rfl, trivial, ⟨fcv, rk, ru, fz, qs, ⟨by rw [ht]; exact hP, va_K.moved hW.alike hK, hD⟩, hrk, hru, by assumption⟩⟩, hS.F ht⟩) hS.2.2 eX5_addLeaving_14
theorem eX5_meet_0 : decode cX5_meet 0 = .ok (.aload_n 0, 1) := by decide +kernel
theorem eX5_meet_1 : decode cX5_meet 1 = .ok (.getfield 33, 3) := by decide +kernel
theorem eX5_meet_4 : decode cX5_meet 4 = .ok (.aload_n 1, 1) := by decide +kernel
theorem eX5_meet_5 : decode cX5_meet 5 = .ok (.invokevirtual 60, 3) := by decide +kernel
theorem eX5_meet_8 : decode cX5_meet 8 = .ok (.iconst 0, 1) := by decide +kernel
theorem eX5_meet_9 : decode cX5_meet 9 = .ok (.istore_n 3, 1) := by decide +kernel
theorem eX5_meet_10 : decode cX5_meet 10 = .ok (.iload_n 3, 1) := by decide +kernel
theorem eX5_meet_11 : decode cX5_meet 11 = .ok (.aload_n 2, 1) := by decide +kernel
theorem eX5_meet_12 : decode cX5_meet 12 = .ok (.getfield 78, 3) := by decide +kernel
theorem eX5_meet_15 : decode cX5_meet 15 = .ok (.if_icmp .ge 49, 3) := by decide +kernel
theorem eX5_meet_18 : decode cX5_meet 18 = .ok (.iconst 0, 1) := by decide +kernel
theorem eX5_meet_19 : decode cX5_meet 19 = .ok (.istore 4, 2) := by decide +kernel
theorem eX5_meet_21 : decode cX5_meet 21 = .ok (.iload 4, 2) := by decide +kernel
theorem eX5_meet_23 : decode cX5_meet 23 = .ok (.aload_n 2, 1) := by decide +kernel
theorem eX5_meet_24 : decode cX5_meet 24 = .ok (.getfield 78, 3) := by decide +kernel
theorem eX5_meet_27 : decode cX5_meet 27 = .ok (.if_icmp .ge 31, 3) := by decide +kernel
theorem eX5_meet_30 : decode cX5_meet 30 = .ok (.aload_n 0, 1) := by decide +kernel
theorem eX5_meet_31 : decode cX5_meet 31 = .ok (.getfield 33, 3) := by decide +kernel
theorem eX5_meet_34 : decode cX5_meet 34 = .ok (.iload_n 3, 1) := by decide +kernel
theorem eX5_meet_35 : decode cX5_meet 35 = .ok (.iload 4, 2) := by decide +kernel
theorem eX5_meet_37 : decode cX5_meet 37 = .ok (.aload_n 2, 1) := by decide +kernel
theorem eX5_meet_38 : decode cX5_meet 38 = .ok (.iload_n 3, 1) := by decide +kernel
theorem eX5_meet_39 : decode cX5_meet 39 = .ok (.iload 4, 2) := by decide +kernel
theorem eX5_meet_41 : decode cX5_meet 41 = .ok (.invokevirtual 81, 3) := by decide +kernel
theorem eX5_meet_44 : decode cX5_meet 44 = .ok (.invokevirtual 85, 3) := by decide +kernel
theorem eX5_meet_47 : decode cX5_meet 47 = .ok (.ifCond .ne 5, 3) := by decide +kernel
theorem eX5_meet_50 : decode cX5_meet 50 = .ok (.iconst 0, 1) := by decide +kernel
theorem eX5_meet_51 : decode cX5_meet 51 = .ok (.ireturn, 1) := by decide +kernel
theorem eX5_meet_52 : decode cX5_meet 52 = .ok (.iinc 4 1, 3) := by decide +kernel
theorem eX5_meet_55 : decode cX5_meet 55 = .ok (.goto (-34), 3) := by decide +kernel
theorem eX5_meet_58 : decode cX5_meet 58 = .ok (.iinc 3 1, 3) := by decide +kernel
theorem eX5_meet_61 : decode cX5_meet 61 = .ok (.goto (-51), 3) := by decide +kernel
theorem eX5_meet_64 : decode cX5_meet 64 = .ok (.iconst 1, 1) := by decide +kernel
theorem eX5_meet_65 : decode cX5_meet 65 = .ok (.ireturn, 1) := by decide +kernel
abbrev vs_C_5_meet : List Cond := .code yX5_meet cX5_meet 5 (some .boolean) :: CM
theorem g_C_5_meet_E_7_copyOf_16 : GoodIn vs_C_5_meet (wsV RX5 60 RX7 yX7_copyOf vs_E_7_copyOf_16) := cm_gV cm_333 cm_130 cm_131 cm_45 cm_132
theorem g_C_5_meet_E_7_cellOf_16 : GoodIn vs_C_5_meet (wsV RX5 81 RX7 yX7_cellOf vs_E_7_cellOf_16) := cm_gV cm_344 cm_157 cm_158 cm_45 cm_159
theorem g_C_5_meet_E_7_narrow_16 : GoodIn vs_C_5_meet (wsV RX5 85 RX7 yX7_narrow vs_E_7_narrow_16) := cm_gV cm_345 cm_43 cm_44 cm_45 cm_46
set_option maxHeartbeats 4000000 in
set_option maxRecDepth 100000 in
theorem c_C_5_meet (l : Launch) (dC : Nat → ClassId) (dI : Nat → Nat → Nat) (sz : Nat) (rm : Nat) (rcv : Nat) (rk : Nat) (rmd : Nat) (ru : Nat) (rpc : Nat) (rct : Nat) (rce : Nat) (k_fcv : ClassId) (fcv : Nat → Option Nat) (k_fmd : ClassId) (k_fpc : ClassId) (k_fct : ClassId) (fct : Nat → Int32) (k_fce : ClassId) (q_fce : Nat → Nat) (N : Nat) (az ac : Nat → Nat) (kz : Nat → ClassId) (qs : Nat → Nat) (fz : Nat → Nat → Int32) (k1 : Nat) (k2 : Nat) (hrk : rk ≤ 120) (hru : ru ≤ 28) (hN : 393 ≤ N) (hk1 : k1 < N) (hk2 : k2 < N) (hq0 : k1 ≤ 391) (hq1 : k2 ≤ 391) : Met l yX5_meet vs_C_5_meet ({ frames := 1, cells := 0, slots := 0, locals := 29 }) (va_Pc [.ref rm, .ref (az k1), .ref (az k2)] (pu_B (dC, dI) ((rm__w rm rcv (nI rk) rmd (nI ru) rpc rct rce (az 392) k_fcv fcv k_fmd (zs 242 28 az) k_fpc (zs 270 122 az) k_fct fct k_fce (bN 16 q_fce)) ++ zp 4 16 N az ac kz qs fz) ((rm__t k_fcv k_fmd k_fpc k_fct k_fce) ++ zt N kz) sz)) (va_Qi (fun (r : Int32) (_ : Unit) => ∃ v : Nat, v ≤ 1 ∧ r = nI v) (fun _ t => ∃ (z_fz : Nat → Nat → Int32) (z_qs : Nat → Nat), pu_E (dC, dI) ((rm__w rm rcv (nI rk) rmd (nI ru) rpc rct rce (az 392) k_fcv fcv k_fmd (zs 242 28 az) k_fpc (zs 270 122 az) k_fct fct k_fce (bN 16 q_fce)) ++ zp 4 16 N az ac kz z_qs z_fz) ((rm__t k_fcv k_fmd k_fpc k_fct k_fce) ++ zt N kz) (va_A (((rm__w rm rcv (nI rk) rmd (nI ru) rpc rct rce (az 392) k_fcv fcv k_fmd (zs 242 28 az) k_fpc (zs 270 122 az) k_fct fct k_fce (bN 16 q_fce)) ++ zp 4 16 N az ac kz qs fz)) sz) t) (va_A (((rm__w rm rcv (nI rk) rmd (nI ru) rpc rct rce (az 392) k_fcv fcv k_fmd (zs 242 28 az) k_fpc (zs 270 122 az) k_fct fct k_fce (bN 16 q_fce)) ++ zp 4 16 N az ac kz qs fz)) sz)) 0 0 (va_A (((rm__w rm rcv (nI rk) rmd (nI ru) rpc rct rce (az 392) k_fcv fcv k_fmd (zs 242 28 az) k_fpc (zs 270 122 az) k_fct fct k_fce (bN 16 q_fce)) ++ zp 4 16 N az ac kz qs fz)) sz) := by
  refine Met.ofW (cc := cX5_meet) (maxL := 5) (ret := (some .boolean)) (by decide) rfl ?_
  intro p e s m args below meth c s₁ B hml hv
  obtain ⟨rfl, rfl, hP, hK, hD0⟩ := hv
  have hx := B.exec
  have hb := B.bytes
  have hr := B.returns
  have hts := atoms_spec (ws := vs_C_5_meet) B.pre
  have v_1 := hts (.fieldLink RX5 33 "ClockReach$Remainder" "scratch" "LClockReach$Zone;") (List.mem_cons_of_mem _ cm_342)
  have v_7 := hts (.fieldLink RX5 78 "ClockReach$Zone" "size" "I") (List.mem_cons_of_mem _ cm_343)
  have hown : s.vm.findClass RX5 = some m.cls := findClass_of_methodNamed B.named
  have hlocks := B.notSynchronized
  have hiX5 : ∀ w ∈ wsX50, w ∈ vs_C_5_meet := fun _ h => List.mem_cons_of_mem _ (cm_X5 h)
  have hiX7 : ∀ w ∈ wsX70, w ∈ vs_C_5_meet := fun _ h => List.mem_cons_of_mem _ (cm_X7 h)
  have hD := hD0.self (sz := s.heap.size)
  generalize hAe : va_A (((rm__w rm rcv (nI rk) rmd (nI ru) rpc rct rce (az 392) k_fcv fcv k_fmd (zs 242 28 az) k_fpc (zs 270 122 az) k_fct fct k_fce (bN 16 q_fce)) ++ zp 4 16 N az ac kz qs fz)) s.heap.size = A at hD ⊢
  have hA : ∀ q : Nat, s.heap.size ≤ q → A q := fun q h => by rw [← hAe]; exact Or.inr h
  have hS : va_S A s.heap s.heap [] := va_S.rf
  have hl := lv_entry ([.ref rm, .ref (az k1), .ref (az k2)]) (n := 5) (Nat.le_of_ble_eq_true rfl)
  rw [lg_entry_eq]
  generalize (lg_sl ([.ref rm, .ref (az k1), .ref (az k2)]) ++ List.replicate (5 - (lg_sl ([.ref rm, .ref (az k1), .ref (az k2)])).length) Slot.unset).toArray = ls at hl ⊢
  have hl : lv_has ls 5 [(0, .ref rm), (1, .ref (az k1)), (2, .ref (az k2))] := hl
  refine lv_aload_n hx hb eX5_meet_0 rfl (lv_at hl 0 rfl) ?_
  refine va_get (D := (dC, dI)) (ci := 5) (v := .ref (az 392)) (C := RX5) (T := TX5) (N := 8) hx hb hts hiX5 hown hK hP 0 rfl rfl 7 (by decide) v_1 (fun _ h9 => h9) rfl eX5_meet_1 ?_
  refine lv_aload_n hx hb eX5_meet_4 rfl (lv_at hl 1 rfl) ?_
  have hPz := zp_cut (k := 392) hP (by omega)
  have hPy := zp_cut (k := k1) hP (by omega)
  have hPc : va_P (dC, dI) vwCl ([(az k1, .inr (7, [.ref (ac k1), .int (nI (min (qs k1) 4))])), (ac k1, .inl (kz k1, 16, .inl (fz k1)))] ++ [(az 392, .inr (7, [.ref (ac 392), .int (nI (min (qs 392) 4))])), (ac 392, .inl (kz 392, 16, .inl (fz 392)))]) _ := va_P.app hPy hPz
  have hDc : va_D A ([(az k1, .inr (7, [.ref (ac k1), .int (nI (min (qs k1) 4))])), (ac k1, .inl (kz k1, 16, .inl (fz k1)))] ++ [(az 392, .inr (7, [.ref (ac 392), .int (nI (min (qs 392) 4))])), (ac 392, .inl (kz 392, 16, .inl (fz 392)))]) := zp_cutD2 hD (by omega) (by omega) (by omega)
  have hKc : va_K (dC, dI) vwCl [(kz k1, .int), (kz 392, .int)] s := zp_K2 hK (by omega) (by omega)
  have hFc := pu_free hDc hS hA
  refine va_callv (va_runV (As := [.ref (az k1)]) (rest := []) ⟨hx, hb, hml, hown, hts⟩ (c_E_7_copyOf_16 l dC dI _ (az k1) (ac k1) (min (qs k1) 4) (kz k1) (fz k1) (az 392) (ac 392) (min (qs 392) 4) (kz 392) (fz 392) (Nat.min_le_right _ _) (Nat.min_le_right _ _)) (cwV 1 hts g_C_5_meet_E_7_copyOf_16 rfl rfl rfl (by decide +kernel) ⟨Nat.le_of_ble_eq_true rfl, Nat.le_of_ble_eq_true rfl⟩) ⟨pu_bl, va_recv hK hPz (ci := 7) (q0 := 0) rfl rfl, pu_in hPc hKc hDc⟩ rfl rfl hl.1 rfl (lv_room (Nat.le_of_ble_eq_true rfl)) eX5_meet_5 ⟨Nat.le_of_ble_eq_true rfl, Nat.le_of_ble_eq_true rfl⟩) hS (fun q _ h => hFc q h) hFc (fun u t H1 locs ht hvm hw hB hz1 hk1 hS => ?_)
  obtain ⟨z_fz_2, ⟨hP1, -, hD1⟩, xr_1_0⟩ := hB
  rw [ht] at hP1
  obtain ⟨qs_3, fz_4, hP, hD⟩ := zp_put (wr := [(az k1, .inr (7, [.ref (ac k1), .int (nI (min (qs k1) 4))])), (ac k1, .inl (kz k1, 16, .inl (fz k1)))]) (k := 392) hP hD (by omega) (zp_two (by omega)) hk1 (Nat.min_le_right _ _) hP1
  clear hP1 hD1 hFc
  clear hPc hDc hKc
  clear hk1 hz1 ht hvm
  generalize H1 = H at hP hS ⊢
  refine lv_iconst (v := 0) hx hb eX5_meet_8 (by decide) ?_
  refine lv_istore_n (lv' := [(3, .int 0), (0, .ref rm), (1, .ref (az k1)), (2, .ref (az k2))]) hx hb eX5_meet_9 rfl hl (by decide) rfl (fun ls hl => ?_)
  refine pu_while (fun nn H locs ls => ∃ (g_8 : Nat) (g_9 : Nat → Nat → Int32) (g_10 : Nat → Nat), nn = 4 - g_8 ∧ g_8 ≤ 4 ∧ va_P (dC, dI) vwCl ((rm__w rm rcv (nI rk) rmd (nI ru) rpc rct rce (az 392) k_fcv fcv k_fmd (zs 242 28 az) k_fpc (zs 270 122 az) k_fct fct k_fce (bN 16 q_fce)) ++ zp 4 16 N az ac kz g_10 g_9) H ∧ va_D A ((rm__w rm rcv (nI rk) rmd (nI ru) rpc rct rce (az 392) k_fcv fcv k_fmd (zs 242 28 az) k_fpc (zs 270 122 az) k_fct fct k_fce (bN 16 q_fce)) ++ zp 4 16 N az ac kz g_10 g_9) ∧ va_S A s.heap H locs ∧ lv_has ls 5 [(0, .ref rm), (1, .ref (az k1)), (2, .ref (az k2)), (3, .int (nI g_8))]) 10 ?_ _ _ _ _ ⟨0, fz_4, qs_3, rfl, (Nat.le_of_ble_eq_true rfl), hP, hD, hS, lv_sub hl [1, 2, 3, 0] rfl⟩
  rintro nn ih_11 H locs ls ⟨g_8, g_9, g_10, rfl, hg_8, hP, hD, hS, hl⟩
  refine lv_iload_n hx hb eX5_meet_10 rfl (lv_at hl 3 rfl) ?_
  refine lv_aload_n hx hb eX5_meet_11 rfl (lv_at hl 2 rfl) ?_
  have hPz := zp_cut (k := k2) hP (by omega)
  refine va_get (D := (dC, dI)) (ci := 7) (v := .int (nI (min (g_10 k2) 4))) (C := RX7) (T := TX7) (N := 2) hx hb hts hiX7 hown hK hPz 0 rfl rfl 1 (by decide) v_7 (fun _ h9 => h9) rfl eX5_meet_12 ?_
  clear hPz
  obtain ⟨zn_13, hzn_13, ezn_13⟩ : ∃ q : Nat, q ≤ 4 ∧ nI (min (g_10 k2) 4) = nI q := ⟨_, Nat.min_le_right _ _, rfl⟩
  have hqzn_13 := zz4 hzn_13
  refine lv_topi (fun y_12 ey_12 => ?_)
  obtain rfl : y_12 = nI zn_13 := ey_12.trans ezn_13
  refine lv_icmp_ge (tgt := 64) hx hb eX5_meet_15 (by decide) (fun c_14 => ?_) (fun c_14 => ?_)
  · have c_14 : zn_13 ≤ g_8 := (nI_leI (a := zn_13) (b := g_8) (Nat.lt_of_le_of_lt hzn_13 (Nat.le_of_ble_eq_true rfl)) (Nat.lt_of_le_of_lt hg_8 (Nat.le_of_ble_eq_true rfl))).mp c_14
    refine lv_iconst (v := 1) hx hb eX5_meet_64 (by decide) ?_
    exact W.zret (v := 1) (ty := .boolean) hx hb hr (rfl) (fun t ht hW => ⟨⟨1, (), rfl, ⟨1, (Nat.le_of_ble_eq_true rfl), rfl⟩, ⟨g_9, g_10, ⟨by rw [ht]; exact hP, va_K.moved hW.alike hK, hD⟩⟩⟩, hS.F ht⟩) hS.2.2 eX5_meet_65
  · have c_14 : ¬ zn_13 ≤ g_8 := fun z => c_14 ((nI_leI (a := zn_13) (b := g_8) (Nat.lt_of_le_of_lt hzn_13 (Nat.le_of_ble_eq_true rfl)) (Nat.lt_of_le_of_lt hg_8 (Nat.le_of_ble_eq_true rfl))).mpr z)
    refine lv_iconst (v := 0) hx hb eX5_meet_18 (by decide) ?_
    refine lv_istore (lv' := [(4, .int 0), (0, .ref rm), (1, .ref (az k1)), (2, .ref (az k2)), (3, .int (nI g_8))]) hx hb eX5_meet_19 hl (by decide) rfl (fun ls hl => ?_)
    refine pu_while (fun nn H locs ls => ∃ (g_18 : Nat) (g_19 : Nat → Nat → Int32) (g_20 : Nat → Nat), nn = 4 - g_18 ∧ g_18 ≤ 4 ∧ va_P (dC, dI) vwCl ((rm__w rm rcv (nI rk) rmd (nI ru) rpc rct rce (az 392) k_fcv fcv k_fmd (zs 242 28 az) k_fpc (zs 270 122 az) k_fct fct k_fce (bN 16 q_fce)) ++ zp 4 16 N az ac kz g_20 g_19) H ∧ va_D A ((rm__w rm rcv (nI rk) rmd (nI ru) rpc rct rce (az 392) k_fcv fcv k_fmd (zs 242 28 az) k_fpc (zs 270 122 az) k_fct fct k_fce (bN 16 q_fce)) ++ zp 4 16 N az ac kz g_20 g_19) ∧ va_S A s.heap H locs ∧ lv_has ls 5 [(0, .ref rm), (1, .ref (az k1)), (2, .ref (az k2)), (3, .int (nI g_8)), (4, .int (nI g_18))]) 21 ?_ _ _ _ _ ⟨0, g_9, g_10, rfl, (Nat.le_of_ble_eq_true rfl), hP, hD, hS, lv_sub hl [1, 2, 3, 4, 0] rfl⟩
    rintro nn ih_21 H locs ls ⟨g_18, g_19, g_20, rfl, hg_18, hP, hD, hS, hl⟩
    refine lv_iload hx hb eX5_meet_21 (lv_at hl 4 rfl) ?_
    refine lv_aload_n hx hb eX5_meet_23 rfl (lv_at hl 2 rfl) ?_
    have hPz := zp_cut (k := k2) hP (by omega)
    refine va_get (D := (dC, dI)) (ci := 7) (v := .int (nI (min (g_20 k2) 4))) (C := RX7) (T := TX7) (N := 2) hx hb hts hiX7 hown hK hPz 0 rfl rfl 1 (by decide) v_7 (fun _ h9 => h9) rfl eX5_meet_24 ?_
    clear hPz
    obtain ⟨zn_23, hzn_23, ezn_23⟩ : ∃ q : Nat, q ≤ 4 ∧ nI (min (g_20 k2) 4) = nI q := ⟨_, Nat.min_le_right _ _, rfl⟩
    have hqzn_23 := zz4 hzn_23
    refine lv_topi (fun y_22 ey_22 => ?_)
    obtain rfl : y_22 = nI zn_23 := ey_22.trans ezn_23
    refine lv_icmp_ge (tgt := 58) hx hb eX5_meet_27 (by decide) (fun c_24 => ?_) (fun c_24 => ?_)
    · have c_24 : zn_23 ≤ g_18 := (nI_leI (a := zn_23) (b := g_18) (Nat.lt_of_le_of_lt hzn_23 (Nat.le_of_ble_eq_true rfl)) (Nat.lt_of_le_of_lt hg_18 (Nat.le_of_ble_eq_true rfl))).mp c_24
      refine lv_iinc (v := (nI (g_8 + 1))) (lv' := [(3, .int (nI (g_8 + 1))), (0, .ref rm), (1, .ref (az k1)), (2, .ref (az k2)), (4, .int (nI g_18))]) hx hb eX5_meet_58 hl (k := 3) rfl (nI_1 _) (by decide) rfl (fun ls hl => ?_)
      refine lv_goto (tgt := 10) hx hb eX5_meet_61 (by decide) ?_
      exact ih_11 (4 - (g_8 + 1)) (by omega) _ _ _ ⟨(g_8 + 1), g_19, g_20, rfl, (by omega), hP, hD, hS, lv_sub hl [1, 2, 3, 0] rfl⟩
    · have c_24 : ¬ zn_23 ≤ g_18 := fun z => c_24 ((nI_leI (a := zn_23) (b := g_18) (Nat.lt_of_le_of_lt hzn_23 (Nat.le_of_ble_eq_true rfl)) (Nat.lt_of_le_of_lt hg_18 (Nat.le_of_ble_eq_true rfl))).mpr z)
      refine lv_aload_n hx hb eX5_meet_30 rfl (lv_at hl 0 rfl) ?_
      refine va_get (D := (dC, dI)) (ci := 5) (v := .ref (az 392)) (C := RX5) (T := TX5) (N := 8) hx hb hts hiX5 hown hK hP 0 rfl rfl 7 (by decide) v_1 (fun _ h9 => h9) rfl eX5_meet_31 ?_
      refine lv_iload_n hx hb eX5_meet_34 rfl (lv_at hl 3 rfl) ?_
      refine lv_iload hx hb eX5_meet_35 (lv_at hl 4 rfl) ?_
      refine lv_aload_n hx hb eX5_meet_37 rfl (lv_at hl 2 rfl) ?_
      refine lv_iload_n hx hb eX5_meet_38 rfl (lv_at hl 3 rfl) ?_
      refine lv_iload hx hb eX5_meet_39 (lv_at hl 4 rfl) ?_
      have hPz := zp_cut (k := k2) hP (by omega)
      have hPc : va_P (dC, dI) vwCl ([] ++ [(az k2, .inr (7, [.ref (ac k2), .int (nI (min (g_20 k2) 4))])), (ac k2, .inl (kz k2, 16, .inl (g_19 k2)))]) _ := va_P.app (hP.sub [] rfl) hPz
      have hDc : va_D A ([] ++ [(az k2, .inr (7, [.ref (ac k2), .int (nI (min (g_20 k2) 4))])), (ac k2, .inl (kz k2, 16, .inl (g_19 k2)))]) := zp_cutD hD (by omega) [] (by decide) rfl
      have hKc : va_K (dC, dI) vwCl ([] ++ [(kz k2, .int)]) s := zp_K hK (by omega) [] rfl
      refine va_calli (va_runV (As := [.int (nI g_8), .int (nI g_18)]) (rest := [.int (nI g_18), .int (nI g_8), .ref (az 392)]) ⟨hx, hb, hml, hown, hts⟩ (c_E_7_cellOf_16 l dC dI _ (az k2) (ac k2) (min (g_20 k2) 4) (kz k2) (g_19 k2) g_8 g_18 (Nat.min_le_right _ _) (by omega) (by omega)) (cwV 2 hts g_C_5_meet_E_7_cellOf_16 rfl rfl rfl (by decide +kernel) ⟨Nat.le_of_ble_eq_true rfl, Nat.le_of_ble_eq_true rfl⟩) ⟨pu_bl, va_recv hK hPz (ci := 7) (q0 := 0) rfl rfl, pu_in hPc hKc hDc⟩ rfl rfl hl.1 rfl (lv_room (Nat.le_of_ble_eq_true rfl)) eX5_meet_41 ⟨Nat.le_of_ble_eq_true rfl, Nat.le_of_ble_eq_true rfl⟩) hS (fun q _ h => pu_fr hS hA q h) (pu_fr hS hA) (fun r_25 u t H1 locs ht hvm hw hB hz1 hk1 hS => ?_)
      have hP := pu_keep hP hk1
      clear hPc hDc hKc
      clear hk1 hz1 ht hvm
      generalize H1 = H at hP hS ⊢
      have ir_25 := hw
      have hPz := zp_cut (k := 392) hP (by omega)
      have hPc : va_P (dC, dI) vwCl ([] ++ [(az 392, .inr (7, [.ref (ac 392), .int (nI (min (g_20 392) 4))])), (ac 392, .inl (kz 392, 16, .inl (g_19 392)))]) _ := va_P.app (hP.sub [] rfl) hPz
      have hDc : va_D A ([] ++ [(az 392, .inr (7, [.ref (ac 392), .int (nI (min (g_20 392) 4))])), (ac 392, .inl (kz 392, 16, .inl (g_19 392)))]) := zp_cutD hD (by omega) [] (by decide) rfl
      have hKc : va_K (dC, dI) vwCl ([] ++ [(kz 392, .int)]) s := zp_K hK (by omega) [] rfl
      have hFc := pu_free hDc hS hA
      refine va_calli (va_runV (As := [.int (nI g_8), .int (nI g_18), .int r_25]) (rest := []) ⟨hx, hb, hml, hown, hts⟩ (c_E_7_narrow_16 l dC dI _ (az 392) (ac 392) (min (g_20 392) 4) (kz 392) (g_19 392) g_8 g_18 r_25 (Nat.min_le_right _ _) (by omega) (by omega)) (cwV 3 hts g_C_5_meet_E_7_narrow_16 rfl rfl rfl (by decide +kernel) ⟨Nat.le_of_ble_eq_true rfl, Nat.le_of_ble_eq_true rfl⟩) ⟨pu_bl, va_recv hK hPz (ci := 7) (q0 := 0) rfl rfl, pu_in hPc hKc hDc⟩ rfl rfl hl.1 rfl (lv_room (Nat.le_of_ble_eq_true rfl)) eX5_meet_44 ⟨Nat.le_of_ble_eq_true rfl, Nat.le_of_ble_eq_true rfl⟩) hS (fun q _ h => hFc q h) hFc (fun r_26 u t H1 locs ht hvm hw hB hz1 hk1 hS => ?_)
      obtain ⟨z_fz_27, ⟨hP1, -, hD1⟩, xr_26_0⟩ := hB
      rw [ht] at hP1
      obtain ⟨qs_28, fz_29, hP, hD⟩ := zp_put (wr := []) (k := 392) hP hD (by omega) (fun q h => List.mem_append_left _ (pu_subm [] rfl q h)) hk1 (Nat.min_le_right _ _) hP1
      clear hP1 hD1 hFc
      clear hPc hDc hKc
      clear hk1 hz1 ht hvm
      generalize H1 = H at hP hS ⊢
      obtain ⟨u_30, hu_30, rfl, iu_30⟩ := hw
      have iu_30 : (u_30, z_fz_27) = (sp_E_7_narrow_16 (min (g_20 392) 4) (g_19 392) g_8 g_18 r_25) := Prod.ext iu_30 xr_26_0
      refine lv_if_ne (tgt := 52) hx hb eX5_meet_47 (by decide) (fun c_31 => ?_) (fun c_31 => ?_)
      · have c_31 : ¬ u_30 = 0 := fun z => c_31 ((nI_eq (a := u_30) (b := 0) (Nat.lt_of_le_of_lt hu_30 (Nat.le_of_ble_eq_true rfl)) (Nat.le_of_ble_eq_true rfl)).mpr z)
        refine lv_iinc (v := (nI (g_18 + 1))) (lv' := [(4, .int (nI (g_18 + 1))), (0, .ref rm), (1, .ref (az k1)), (2, .ref (az k2)), (3, .int (nI g_8))]) hx hb eX5_meet_52 hl (k := 4) rfl (nI_1 _) (by decide) rfl (fun ls hl => ?_)
        refine lv_goto (tgt := 21) hx hb eX5_meet_55 (by decide) ?_
        exact ih_21 (4 - (g_18 + 1)) (by omega) _ _ _ ⟨(g_18 + 1), fz_29, qs_28, rfl, (by omega), hP, hD, hS, lv_sub hl [1, 2, 3, 4, 0] rfl⟩
      · have c_31 : u_30 = 0 := (nI_eq (a := u_30) (b := 0) (Nat.lt_of_le_of_lt hu_30 (Nat.le_of_ble_eq_true rfl)) (Nat.le_of_ble_eq_true rfl)).mp c_31
        refine lv_iconst (v := 0) hx hb eX5_meet_50 (by decide) ?_
        exact W.zret (v := 0) (ty := .boolean) hx hb hr (rfl) (fun t ht hW => ⟨⟨0, (), rfl, ⟨0, (Nat.le_of_ble_eq_true rfl), rfl⟩, ⟨fz_29, qs_28, ⟨by rw [ht]; exact hP, va_K.moved hW.alike hK, hD⟩⟩⟩, hS.F ht⟩) hS.2.2 eX5_meet_51
theorem eX5_nextCover_0 : decode cX5_nextCover 0 = .ok (.iload_n 2, 1) := by decide +kernel
theorem eX5_nextCover_1 : decode cX5_nextCover 1 = .ok (.istore_n 3, 1) := by decide +kernel
theorem eX5_nextCover_2 : decode cX5_nextCover 2 = .ok (.iload_n 3, 1) := by decide +kernel
theorem eX5_nextCover_3 : decode cX5_nextCover 3 = .ok (.aload_n 0, 1) := by decide +kernel
theorem eX5_nextCover_4 : decode cX5_nextCover 4 = .ok (.getfield 37, 3) := by decide +kernel
theorem eX5_nextCover_7 : decode cX5_nextCover 7 = .ok (.if_icmp .ge 24, 3) := by decide +kernel
theorem eX5_nextCover_10 : decode cX5_nextCover 10 = .ok (.aload_n 0, 1) := by decide +kernel
theorem eX5_nextCover_11 : decode cX5_nextCover 11 = .ok (.getfield 11, 3) := by decide +kernel
theorem eX5_nextCover_14 : decode cX5_nextCover 14 = .ok (.iload_n 3, 1) := by decide +kernel
theorem eX5_nextCover_15 : decode cX5_nextCover 15 = .ok (.aaload, 1) := by decide +kernel
theorem eX5_nextCover_16 : decode cX5_nextCover 16 = .ok (.aload_n 1, 1) := by decide +kernel
theorem eX5_nextCover_17 : decode cX5_nextCover 17 = .ok (.invokevirtual 98, 3) := by decide +kernel
theorem eX5_nextCover_20 : decode cX5_nextCover 20 = .ok (.ifCond .eq 5, 3) := by decide +kernel
theorem eX5_nextCover_23 : decode cX5_nextCover 23 = .ok (.iconst (-1), 1) := by decide +kernel
theorem eX5_nextCover_24 : decode cX5_nextCover 24 = .ok (.ireturn, 1) := by decide +kernel
theorem eX5_nextCover_25 : decode cX5_nextCover 25 = .ok (.iinc 3 1, 3) := by decide +kernel
theorem eX5_nextCover_28 : decode cX5_nextCover 28 = .ok (.goto (-26), 3) := by decide +kernel
theorem eX5_nextCover_31 : decode cX5_nextCover 31 = .ok (.iload_n 2, 1) := by decide +kernel
theorem eX5_nextCover_32 : decode cX5_nextCover 32 = .ok (.istore_n 3, 1) := by decide +kernel
theorem eX5_nextCover_33 : decode cX5_nextCover 33 = .ok (.iload_n 3, 1) := by decide +kernel
theorem eX5_nextCover_34 : decode cX5_nextCover 34 = .ok (.aload_n 0, 1) := by decide +kernel
theorem eX5_nextCover_35 : decode cX5_nextCover 35 = .ok (.getfield 37, 3) := by decide +kernel
theorem eX5_nextCover_38 : decode cX5_nextCover 38 = .ok (.if_icmp .ge 25, 3) := by decide +kernel
theorem eX5_nextCover_41 : decode cX5_nextCover 41 = .ok (.aload_n 0, 1) := by decide +kernel
theorem eX5_nextCover_42 : decode cX5_nextCover 42 = .ok (.aload_n 1, 1) := by decide +kernel
theorem eX5_nextCover_43 : decode cX5_nextCover 43 = .ok (.aload_n 0, 1) := by decide +kernel
theorem eX5_nextCover_44 : decode cX5_nextCover 44 = .ok (.getfield 11, 3) := by decide +kernel
theorem eX5_nextCover_47 : decode cX5_nextCover 47 = .ok (.iload_n 3, 1) := by decide +kernel
theorem eX5_nextCover_48 : decode cX5_nextCover 48 = .ok (.aaload, 1) := by decide +kernel
theorem eX5_nextCover_49 : decode cX5_nextCover 49 = .ok (.invokevirtual 102, 3) := by decide +kernel
theorem eX5_nextCover_52 : decode cX5_nextCover 52 = .ok (.ifCond .eq 5, 3) := by decide +kernel
theorem eX5_nextCover_55 : decode cX5_nextCover 55 = .ok (.iload_n 3, 1) := by decide +kernel
theorem eX5_nextCover_56 : decode cX5_nextCover 56 = .ok (.ireturn, 1) := by decide +kernel
theorem eX5_nextCover_57 : decode cX5_nextCover 57 = .ok (.iinc 3 1, 3) := by decide +kernel
theorem eX5_nextCover_60 : decode cX5_nextCover 60 = .ok (.goto (-27), 3) := by decide +kernel
theorem eX5_nextCover_63 : decode cX5_nextCover 63 = .ok (.aload_n 0, 1) := by decide +kernel
theorem eX5_nextCover_64 : decode cX5_nextCover 64 = .ok (.getfield 37, 3) := by decide +kernel
theorem eX5_nextCover_67 : decode cX5_nextCover 67 = .ok (.ireturn, 1) := by decide +kernel
abbrev vs_C_5_nextCover : List Cond := .code yX5_nextCover cX5_nextCover 4 (some .int) :: CM
theorem g_C_5_nextCover_C_5_meet : GoodIn vs_C_5_nextCover (wsV RX5 102 RX5 yX5_meet vs_C_5_meet) := cm_gV cm_356 cm_357 cm_358 cm_332 cm_341
theorem g_C_5_nextCover_E_7_holdsAll_s_16 : GoodIn vs_C_5_nextCover (wsV RX5 98 RX7 yX7_holdsAll vs_E_7_holdsAll_s_16) := cm_gV cm_355 cm_144 cm_145 cm_45 cm_146
theorem g_C_5_nextCover_E_7_holdsAll_16 : GoodIn vs_C_5_nextCover (wsV RX5 98 RX7 yX7_holdsAll vs_E_7_holdsAll_16) := cm_gV cm_355 cm_144 cm_145 cm_45 cm_146
set_option maxHeartbeats 4000000 in
set_option maxRecDepth 100000 in
theorem c_C_5_nextCover (l : Launch) (dC : Nat → ClassId) (dI : Nat → Nat → Nat) (sz : Nat) (rm : Nat) (rcv : Nat) (rk : Nat) (rmd : Nat) (ru : Nat) (rpc : Nat) (rct : Nat) (rce : Nat) (k_fcv : ClassId) (fcv : Nat → Option Nat) (k_fmd : ClassId) (k_fpc : ClassId) (k_fct : ClassId) (fct : Nat → Int32) (k_fce : ClassId) (q_fce : Nat → Nat) (N : Nat) (az ac : Nat → Nat) (kz : Nat → ClassId) (qs : Nat → Nat) (fz : Nat → Nat → Int32) (kk : Nat) (a1 : Nat) (hrk : rk ≤ 120) (hru : ru ≤ 28) (hN : 393 ≤ N) (hkk : kk < N) (ha1 : a1 ≤ 120) (hq0 : cv_ok rk fcv az) (hq1 : kk ≤ 391) (hq2 : a1 ≤ rk) : Met l yX5_nextCover vs_C_5_nextCover ({ frames := 2, cells := 0, slots := 0, locals := 53 }) (va_Pc [.ref rm, .ref (az kk), .int (nI a1)] (pu_B (dC, dI) ((rm__w rm rcv (nI rk) rmd (nI ru) rpc rct rce (az 392) k_fcv fcv k_fmd (zs 242 28 az) k_fpc (zs 270 122 az) k_fct fct k_fce (bN 16 q_fce)) ++ zp 4 16 N az ac kz qs fz) ((rm__t k_fcv k_fmd k_fpc k_fct k_fce) ++ zt N kz) sz)) (va_Qi (fun (r : Int32) (_ : Unit) => r = -1 ∨ ∃ v : Nat, a1 ≤ v ∧ v ≤ rk ∧ r = nI v) (fun _ t => ∃ (z_fz : Nat → Nat → Int32) (z_qs : Nat → Nat), pu_E (dC, dI) ((rm__w rm rcv (nI rk) rmd (nI ru) rpc rct rce (az 392) k_fcv fcv k_fmd (zs 242 28 az) k_fpc (zs 270 122 az) k_fct fct k_fce (bN 16 q_fce)) ++ zp 4 16 N az ac kz z_qs z_fz) ((rm__t k_fcv k_fmd k_fpc k_fct k_fce) ++ zt N kz) (va_A (((rm__w rm rcv (nI rk) rmd (nI ru) rpc rct rce (az 392) k_fcv fcv k_fmd (zs 242 28 az) k_fpc (zs 270 122 az) k_fct fct k_fce (bN 16 q_fce)) ++ zp 4 16 N az ac kz qs fz)) sz) t) (va_A (((rm__w rm rcv (nI rk) rmd (nI ru) rpc rct rce (az 392) k_fcv fcv k_fmd (zs 242 28 az) k_fpc (zs 270 122 az) k_fct fct k_fce (bN 16 q_fce)) ++ zp 4 16 N az ac kz qs fz)) sz)) 0 0 (va_A (((rm__w rm rcv (nI rk) rmd (nI ru) rpc rct rce (az 392) k_fcv fcv k_fmd (zs 242 28 az) k_fpc (zs 270 122 az) k_fct fct k_fce (bN 16 q_fce)) ++ zp 4 16 N az ac kz qs fz)) sz) := by
  refine Met.ofW (cc := cX5_nextCover) (maxL := 4) (ret := (some .int)) (by decide) rfl ?_
  intro p e s m args below meth c s₁ B hml hv
  obtain ⟨rfl, rfl, hP, hK, hD0⟩ := hv
  have hx := B.exec
  have hb := B.bytes
  have hr := B.returns
  have hts := atoms_spec (ws := vs_C_5_nextCover) B.pre
  have v_1 := hts (.fieldLink RX5 37 "ClockReach$Remainder" "count" "I") (List.mem_cons_of_mem _ cm_316)
  have v_2 := hts (.fieldLink RX5 11 "ClockReach$Remainder" "covers" "[LClockReach$Zone;") (List.mem_cons_of_mem _ cm_319)
  have hown : s.vm.findClass RX5 = some m.cls := findClass_of_methodNamed B.named
  have hlocks := B.notSynchronized
  have hiX5 : ∀ w ∈ wsX50, w ∈ vs_C_5_nextCover := fun _ h => List.mem_cons_of_mem _ (cm_X5 h)
  have hD := hD0.self (sz := s.heap.size)
  generalize hAe : va_A (((rm__w rm rcv (nI rk) rmd (nI ru) rpc rct rce (az 392) k_fcv fcv k_fmd (zs 242 28 az) k_fpc (zs 270 122 az) k_fct fct k_fce (bN 16 q_fce)) ++ zp 4 16 N az ac kz qs fz)) s.heap.size = A at hD ⊢
  have hA : ∀ q : Nat, s.heap.size ≤ q → A q := fun q h => by rw [← hAe]; exact Or.inr h
  have hS : va_S A s.heap s.heap [] := va_S.rf
  have hl := lv_entry ([.ref rm, .ref (az kk), .int (nI a1)]) (n := 4) (Nat.le_of_ble_eq_true rfl)
  rw [lg_entry_eq]
  generalize (lg_sl ([.ref rm, .ref (az kk), .int (nI a1)]) ++ List.replicate (4 - (lg_sl ([.ref rm, .ref (az kk), .int (nI a1)])).length) Slot.unset).toArray = ls at hl ⊢
  have hl : lv_has ls 4 [(0, .ref rm), (1, .ref (az kk)), (2, .int (nI a1))] := hl
  refine lv_iload_n hx hb eX5_nextCover_0 rfl (lv_at hl 2 rfl) ?_
  refine lv_istore_n (lv' := [(3, .int (nI a1)), (0, .ref rm), (1, .ref (az kk)), (2, .int (nI a1))]) hx hb eX5_nextCover_1 rfl hl (by decide) rfl (fun ls hl => ?_)
  refine pu_while (fun nn H locs ls => ∃ (g_3 : Nat), nn = 120 - g_3 ∧ g_3 ≤ 120 ∧ a1 ≤ g_3 ∧ va_P (dC, dI) vwCl ((rm__w rm rcv (nI rk) rmd (nI ru) rpc rct rce (az 392) k_fcv fcv k_fmd (zs 242 28 az) k_fpc (zs 270 122 az) k_fct fct k_fce (bN 16 q_fce)) ++ zp 4 16 N az ac kz qs fz) H ∧ va_D A ((rm__w rm rcv (nI rk) rmd (nI ru) rpc rct rce (az 392) k_fcv fcv k_fmd (zs 242 28 az) k_fpc (zs 270 122 az) k_fct fct k_fce (bN 16 q_fce)) ++ zp 4 16 N az ac kz qs fz) ∧ va_S A s.heap H locs ∧ lv_has ls 4 [(0, .ref rm), (1, .ref (az kk)), (2, .int (nI a1)), (3, .int (nI g_3))]) 2 ?_ _ _ _ _ ⟨a1, rfl, ha1, by omega, hP, hD, hS, lv_sub hl [1, 2, 3, 0] rfl⟩
  rintro nn ih_5 H locs ls ⟨g_3, rfl, hg_3, he_4, hP, hD, hS, hl⟩
  refine lv_iload_n hx hb eX5_nextCover_2 rfl (lv_at hl 3 rfl) ?_
  refine lv_aload_n hx hb eX5_nextCover_3 rfl (lv_at hl 0 rfl) ?_
  refine va_get (D := (dC, dI)) (ci := 5) (v := .int (nI rk)) (C := RX5) (T := TX5) (N := 8) hx hb hts hiX5 hown hK hP 0 rfl rfl 1 (by decide) v_1 (fun _ h9 => h9) rfl eX5_nextCover_4 ?_
  refine lv_icmp_ge (tgt := 31) hx hb eX5_nextCover_7 (by decide) (fun c_6 => ?_) (fun c_6 => ?_)
  · have c_6 : rk ≤ g_3 := (nI_leI (a := rk) (b := g_3) (Nat.lt_of_le_of_lt hrk (Nat.le_of_ble_eq_true rfl)) (Nat.lt_of_le_of_lt hg_3 (Nat.le_of_ble_eq_true rfl))).mp c_6
    refine lv_iload_n hx hb eX5_nextCover_31 rfl (lv_at hl 2 rfl) ?_
    refine lv_istore_n (lv' := [(3, .int (nI a1)), (0, .ref rm), (1, .ref (az kk)), (2, .int (nI a1))]) hx hb eX5_nextCover_32 rfl hl (by decide) rfl (fun ls hl => ?_)
    refine pu_while (fun nn H locs ls => ∃ (g_11 : Nat) (g_12 : Nat → Nat → Int32) (g_13 : Nat → Nat), nn = 120 - g_11 ∧ g_11 ≤ 120 ∧ a1 ≤ g_11 ∧ va_P (dC, dI) vwCl ((rm__w rm rcv (nI rk) rmd (nI ru) rpc rct rce (az 392) k_fcv fcv k_fmd (zs 242 28 az) k_fpc (zs 270 122 az) k_fct fct k_fce (bN 16 q_fce)) ++ zp 4 16 N az ac kz g_13 g_12) H ∧ va_D A ((rm__w rm rcv (nI rk) rmd (nI ru) rpc rct rce (az 392) k_fcv fcv k_fmd (zs 242 28 az) k_fpc (zs 270 122 az) k_fct fct k_fce (bN 16 q_fce)) ++ zp 4 16 N az ac kz g_13 g_12) ∧ va_S A s.heap H locs ∧ lv_has ls 4 [(0, .ref rm), (1, .ref (az kk)), (2, .int (nI a1)), (3, .int (nI g_11))]) 33 ?_ _ _ _ _ ⟨a1, fz, qs, rfl, ha1, by omega, hP, hD, hS, lv_sub hl [1, 2, 3, 0] rfl⟩
    rintro nn ih_15 H locs ls ⟨g_11, g_12, g_13, rfl, hg_11, he_14, hP, hD, hS, hl⟩
    refine lv_iload_n hx hb eX5_nextCover_33 rfl (lv_at hl 3 rfl) ?_
    refine lv_aload_n hx hb eX5_nextCover_34 rfl (lv_at hl 0 rfl) ?_
    refine va_get (D := (dC, dI)) (ci := 5) (v := .int (nI rk)) (C := RX5) (T := TX5) (N := 8) hx hb hts hiX5 hown hK hP 0 rfl rfl 1 (by decide) v_1 (fun _ h9 => h9) rfl eX5_nextCover_35 ?_
    refine lv_icmp_ge (tgt := 63) hx hb eX5_nextCover_38 (by decide) (fun c_16 => ?_) (fun c_16 => ?_)
    · have c_16 : rk ≤ g_11 := (nI_leI (a := rk) (b := g_11) (Nat.lt_of_le_of_lt hrk (Nat.le_of_ble_eq_true rfl)) (Nat.lt_of_le_of_lt hg_11 (Nat.le_of_ble_eq_true rfl))).mp c_16
      refine lv_aload_n hx hb eX5_nextCover_63 rfl (lv_at hl 0 rfl) ?_
      refine va_get (D := (dC, dI)) (ci := 5) (v := .int (nI rk)) (C := RX5) (T := TX5) (N := 8) hx hb hts hiX5 hown hK hP 0 rfl rfl 1 (by decide) v_1 (fun _ h9 => h9) rfl eX5_nextCover_64 ?_
      exact W.iret (v := (nI rk)) hx hb hr (fun t ht hW => ⟨⟨(nI rk), (), rfl, Or.inr ⟨rk, by omega, by omega, rfl⟩, ⟨g_12, g_13, ⟨by rw [ht]; exact hP, va_K.moved hW.alike hK, hD⟩⟩⟩, hS.F ht⟩) hS.2.2 eX5_nextCover_67
    · have c_16 : ¬ rk ≤ g_11 := fun z => c_16 ((nI_leI (a := rk) (b := g_11) (Nat.lt_of_le_of_lt hrk (Nat.le_of_ble_eq_true rfl)) (Nat.lt_of_le_of_lt hg_11 (Nat.le_of_ble_eq_true rfl))).mpr z)
      refine lv_aload_n hx hb eX5_nextCover_41 rfl (lv_at hl 0 rfl) ?_
      refine lv_aload_n hx hb eX5_nextCover_42 rfl (lv_at hl 1 rfl) ?_
      refine lv_aload_n hx hb eX5_nextCover_43 rfl (lv_at hl 0 rfl) ?_
      refine va_get (D := (dC, dI)) (ci := 5) (v := .ref rcv) (C := RX5) (T := TX5) (N := 8) hx hb hts hiX5 hown hK hP 0 rfl rfl 0 (by decide) v_2 (fun _ h9 => h9) rfl eX5_nextCover_44 ?_
      refine lv_iload_n hx hb eX5_nextCover_47 rfl (lv_at hl 3 rfl) ?_
      obtain ⟨kc_17, hkc_17, ekc_17⟩ := cv_get (i := g_11) (f := fcv) (by assumption) (by omega) (by omega)
      refine va_aldq hx hb hK hP 1 0 rfl rfl (vp_in_nI (n := g_11) (by omega) (Nat.le_of_ble_eq_true rfl)) eX5_nextCover_48 ?_
      refine W.eq (g2 := F0 m 49 ls [.ref (az kc_17), .ref (az kk), .ref rm]) (by rw [ekc_17]) ?_
      have hFc := pu_free hD hS hA
      refine va_calli (va_runV (As := [.ref (az kk), .ref (az kc_17)]) (rest := []) ⟨hx, hb, hml, hown, hts⟩ (c_C_5_meet l dC dI _ rm rcv rk rmd ru rpc rct rce k_fcv fcv k_fmd k_fpc k_fct fct k_fce q_fce N az ac kz g_13 g_12 kk kc_17 hrk hru (by omega) (by omega) (by omega) (by omega) (by omega)) (cwV 2 hts g_C_5_nextCover_C_5_meet rfl rfl rfl (by decide +kernel) ⟨Nat.le_of_ble_eq_true rfl, Nat.le_of_ble_eq_true rfl⟩) ⟨pu_bl, va_recv hK hP (ci := 5) (q0 := 0) rfl rfl, pu_in hP hK hD⟩ rfl rfl hl.1 rfl (lv_room (Nat.le_of_ble_eq_true rfl)) eX5_nextCover_49 ⟨Nat.le_of_ble_eq_true rfl, Nat.le_of_ble_eq_true rfl⟩) hS (fun q _ h => hFc q h) hFc (fun r_18 u t H1 locs ht hvm hw hB hz1 hk1 hS => ?_)
      obtain ⟨z_fz_19, z_qs_20, ⟨hP1, -, hD1⟩⟩ := hB
      rw [ht] at hP1
      have hP := hP1
      have hD := pu_all hFc hD1
      clear hP1 hD1 hFc
      clear hk1 hz1 ht hvm
      generalize H1 = H at hP hS ⊢
      obtain ⟨u_21, hu_21, rfl⟩ := hw
      refine lv_if_eq (tgt := 57) hx hb eX5_nextCover_52 (by decide) (fun c_22 => ?_) (fun c_22 => ?_)
      · have c_22 : u_21 = 0 := (nI_eq (a := u_21) (b := 0) (Nat.lt_of_le_of_lt hu_21 (Nat.le_of_ble_eq_true rfl)) (Nat.le_of_ble_eq_true rfl)).mp c_22
        refine lv_iinc (v := (nI (g_11 + 1))) (lv' := [(3, .int (nI (g_11 + 1))), (0, .ref rm), (1, .ref (az kk)), (2, .int (nI a1))]) hx hb eX5_nextCover_57 hl (k := 3) rfl (nI_1 _) (by decide) rfl (fun ls hl => ?_)
        refine lv_goto (tgt := 33) hx hb eX5_nextCover_60 (by decide) ?_
        exact ih_15 (120 - (g_11 + 1)) (by omega) _ _ _ ⟨(g_11 + 1), z_fz_19, z_qs_20, rfl, (by omega), by omega, hP, hD, hS, lv_sub hl [1, 2, 3, 0] rfl⟩
      · have c_22 : ¬ u_21 = 0 := fun z => c_22 ((nI_eq (a := u_21) (b := 0) (Nat.lt_of_le_of_lt hu_21 (Nat.le_of_ble_eq_true rfl)) (Nat.le_of_ble_eq_true rfl)).mpr z)
        refine lv_iload_n hx hb eX5_nextCover_55 rfl (lv_at hl 3 rfl) ?_
        exact W.iret (v := (nI g_11)) hx hb hr (fun t ht hW => ⟨⟨(nI g_11), (), rfl, Or.inr ⟨g_11, by omega, by omega, rfl⟩, ⟨z_fz_19, z_qs_20, ⟨by rw [ht]; exact hP, va_K.moved hW.alike hK, hD⟩⟩⟩, hS.F ht⟩) hS.2.2 eX5_nextCover_56
  · have c_6 : ¬ rk ≤ g_3 := fun z => c_6 ((nI_leI (a := rk) (b := g_3) (Nat.lt_of_le_of_lt hrk (Nat.le_of_ble_eq_true rfl)) (Nat.lt_of_le_of_lt hg_3 (Nat.le_of_ble_eq_true rfl))).mpr z)
    refine lv_aload_n hx hb eX5_nextCover_10 rfl (lv_at hl 0 rfl) ?_
    refine va_get (D := (dC, dI)) (ci := 5) (v := .ref rcv) (C := RX5) (T := TX5) (N := 8) hx hb hts hiX5 hown hK hP 0 rfl rfl 0 (by decide) v_2 (fun _ h9 => h9) rfl eX5_nextCover_11 ?_
    refine lv_iload_n hx hb eX5_nextCover_14 rfl (lv_at hl 3 rfl) ?_
    obtain ⟨kc_23, hkc_23, ekc_23⟩ := cv_get (i := g_3) (f := fcv) (by assumption) (by omega) (by omega)
    refine va_aldq hx hb hK hP 1 0 rfl rfl (vp_in_nI (n := g_3) (by omega) (Nat.le_of_ble_eq_true rfl)) eX5_nextCover_15 ?_
    refine W.eq (g2 := F0 m 16 ls [.ref (az kc_23)]) (by rw [ekc_23]) ?_
    refine lv_aload_n hx hb eX5_nextCover_16 rfl (lv_at hl 1 rfl) ?_
    by_cases hjk : kk = kc_23
    · subst hjk
      have hPz := zp_cut (k := kk) hP (by omega)
      have hPc : va_P (dC, dI) vwCl ([] ++ [(az kk, .inr (7, [.ref (ac kk), .int (nI (min (qs kk) 4))])), (ac kk, .inl (kz kk, 16, .inl (fz kk)))]) _ := va_P.app (hP.sub [] rfl) hPz
      have hDc : va_D A ([] ++ [(az kk, .inr (7, [.ref (ac kk), .int (nI (min (qs kk) 4))])), (ac kk, .inl (kz kk, 16, .inl (fz kk)))]) := zp_cutD hD (by omega) [] (by decide) rfl
      have hKc : va_K (dC, dI) vwCl ([] ++ [(kz kk, .int)]) s := zp_K hK (by omega) [] rfl
      refine va_calli (va_runV (As := [.ref (az kk)]) (rest := []) ⟨hx, hb, hml, hown, hts⟩ (c_E_7_holdsAll_s_16 l dC dI _ (az kk) (ac kk) (min (qs kk) 4) (kz kk) (fz kk) (Nat.min_le_right _ _)) (cwV 1 hts g_C_5_nextCover_E_7_holdsAll_s_16 rfl rfl rfl (by decide +kernel) ⟨Nat.le_of_ble_eq_true rfl, Nat.le_of_ble_eq_true rfl⟩) ⟨pu_bl, va_recv hK hPz (ci := 7) (q0 := 0) rfl rfl, pu_in hPc hKc hDc⟩ rfl rfl hl.1 rfl (lv_room (Nat.le_of_ble_eq_true rfl)) eX5_nextCover_17 ⟨Nat.le_of_ble_eq_true rfl, Nat.le_of_ble_eq_true rfl⟩) hS (fun q _ h => pu_fr hS hA q h) (pu_fr hS hA) (fun r_24 u t H1 locs ht hvm hw hB hz1 hk1 hS => ?_)
      have hP := pu_keep hP hk1
      clear hPc hDc hKc
      clear hk1 hz1 ht hvm
      generalize H1 = H at hP hS ⊢
      obtain ⟨u_25, hu_25, rfl, iu_25⟩ := hw
      refine lv_if_eq (tgt := 25) hx hb eX5_nextCover_20 (by decide) (fun c_26 => ?_) (fun c_26 => ?_)
      · have c_26 : u_25 = 0 := (nI_eq (a := u_25) (b := 0) (Nat.lt_of_le_of_lt hu_25 (Nat.le_of_ble_eq_true rfl)) (Nat.le_of_ble_eq_true rfl)).mp c_26
        refine lv_iinc (v := (nI (g_3 + 1))) (lv' := [(3, .int (nI (g_3 + 1))), (0, .ref rm), (1, .ref (az kk)), (2, .int (nI a1))]) hx hb eX5_nextCover_25 hl (k := 3) rfl (nI_1 _) (by decide) rfl (fun ls hl => ?_)
        refine lv_goto (tgt := 2) hx hb eX5_nextCover_28 (by decide) ?_
        exact ih_5 (120 - (g_3 + 1)) (by omega) _ _ _ ⟨(g_3 + 1), rfl, (by omega), by omega, hP, hD, hS, lv_sub hl [1, 2, 3, 0] rfl⟩
      · have c_26 : ¬ u_25 = 0 := fun z => c_26 ((nI_eq (a := u_25) (b := 0) (Nat.lt_of_le_of_lt hu_25 (Nat.le_of_ble_eq_true rfl)) (Nat.le_of_ble_eq_true rfl)).mpr z)
        refine lv_iconst (v := (-1)) hx hb eX5_nextCover_23 (by decide) ?_
        exact W.iret (v := (-1)) hx hb hr (fun t ht hW => ⟨⟨(-1), (), rfl, Or.inl rfl, ⟨fz, qs, ⟨by rw [ht]; exact hP, va_K.moved hW.alike hK, hD⟩⟩⟩, hS.F ht⟩) hS.2.2 eX5_nextCover_24
    · have hPz := zp_cut (k := kc_23) hP (by omega)
      have hPy := zp_cut (k := kk) hP (by omega)
      have hPc : va_P (dC, dI) vwCl ([(az kk, .inr (7, [.ref (ac kk), .int (nI (min (qs kk) 4))])), (ac kk, .inl (kz kk, 16, .inl (fz kk)))] ++ [(az kc_23, .inr (7, [.ref (ac kc_23), .int (nI (min (qs kc_23) 4))])), (ac kc_23, .inl (kz kc_23, 16, .inl (fz kc_23)))]) _ := va_P.app hPy hPz
      have hDc : va_D A ([(az kk, .inr (7, [.ref (ac kk), .int (nI (min (qs kk) 4))])), (ac kk, .inl (kz kk, 16, .inl (fz kk)))] ++ [(az kc_23, .inr (7, [.ref (ac kc_23), .int (nI (min (qs kc_23) 4))])), (ac kc_23, .inl (kz kc_23, 16, .inl (fz kc_23)))]) := zp_cutD2 hD (by omega) (by omega) (by omega)
      have hKc : va_K (dC, dI) vwCl [(kz kk, .int), (kz kc_23, .int)] s := zp_K2 hK (by omega) (by omega)
      refine va_calli (va_runV (As := [.ref (az kk)]) (rest := []) ⟨hx, hb, hml, hown, hts⟩ (c_E_7_holdsAll_16 l dC dI _ (az kk) (ac kk) (min (qs kk) 4) (kz kk) (fz kk) (az kc_23) (ac kc_23) (min (qs kc_23) 4) (kz kc_23) (fz kc_23) (Nat.min_le_right _ _) (Nat.min_le_right _ _)) (cwV 1 hts g_C_5_nextCover_E_7_holdsAll_16 rfl rfl rfl (by decide +kernel) ⟨Nat.le_of_ble_eq_true rfl, Nat.le_of_ble_eq_true rfl⟩) ⟨pu_bl, va_recv hK hPz (ci := 7) (q0 := 0) rfl rfl, pu_in hPc hKc hDc⟩ rfl rfl hl.1 rfl (lv_room (Nat.le_of_ble_eq_true rfl)) eX5_nextCover_17 ⟨Nat.le_of_ble_eq_true rfl, Nat.le_of_ble_eq_true rfl⟩) hS (fun q _ h => pu_fr hS hA q h) (pu_fr hS hA) (fun r_27 u t H1 locs ht hvm hw hB hz1 hk1 hS => ?_)
      have hP := pu_keep hP hk1
      clear hPc hDc hKc
      clear hk1 hz1 ht hvm
      generalize H1 = H at hP hS ⊢
      obtain ⟨u_28, hu_28, rfl, iu_28⟩ := hw
      refine lv_if_eq (tgt := 25) hx hb eX5_nextCover_20 (by decide) (fun c_29 => ?_) (fun c_29 => ?_)
      · have c_29 : u_28 = 0 := (nI_eq (a := u_28) (b := 0) (Nat.lt_of_le_of_lt hu_28 (Nat.le_of_ble_eq_true rfl)) (Nat.le_of_ble_eq_true rfl)).mp c_29
        refine lv_iinc (v := (nI (g_3 + 1))) (lv' := [(3, .int (nI (g_3 + 1))), (0, .ref rm), (1, .ref (az kk)), (2, .int (nI a1))]) hx hb eX5_nextCover_25 hl (k := 3) rfl (nI_1 _) (by decide) rfl (fun ls hl => ?_)
        refine lv_goto (tgt := 2) hx hb eX5_nextCover_28 (by decide) ?_
        exact ih_5 (120 - (g_3 + 1)) (by omega) _ _ _ ⟨(g_3 + 1), rfl, (by omega), by omega, hP, hD, hS, lv_sub hl [1, 2, 3, 0] rfl⟩
      · have c_29 : ¬ u_28 = 0 := fun z => c_29 ((nI_eq (a := u_28) (b := 0) (Nat.lt_of_le_of_lt hu_28 (Nat.le_of_ble_eq_true rfl)) (Nat.le_of_ble_eq_true rfl)).mpr z)
        refine lv_iconst (v := (-1)) hx hb eX5_nextCover_23 (by decide) ?_
        exact W.iret (v := (-1)) hx hb hr (fun t ht hW => ⟨⟨(-1), (), rfl, Or.inl rfl, ⟨fz, qs, ⟨by rw [ht]; exact hP, va_K.moved hW.alike hK, hD⟩⟩⟩, hS.F ht⟩) hS.2.2 eX5_nextCover_24
theorem eX5_splits_0 : decode cX5_splits 0 = .ok (.aload_n 0, 1) := by decide +kernel
theorem eX5_splits_1 : decode cX5_splits 1 = .ok (.getfield 23, 3) := by decide +kernel
theorem eX5_splits_4 : decode cX5_splits 4 = .ok (.iload_n 1, 1) := by decide +kernel
theorem eX5_splits_5 : decode cX5_splits 5 = .ok (.aaload, 1) := by decide +kernel
theorem eX5_splits_6 : decode cX5_splits 6 = .ok (.astore_n 2, 1) := by decide +kernel
theorem eX5_splits_7 : decode cX5_splits 7 = .ok (.aload_n 0, 1) := by decide +kernel
theorem eX5_splits_8 : decode cX5_splits 8 = .ok (.getfield 11, 3) := by decide +kernel
theorem eX5_splits_11 : decode cX5_splits 11 = .ok (.aload_n 0, 1) := by decide +kernel
theorem eX5_splits_12 : decode cX5_splits 12 = .ok (.getfield 26, 3) := by decide +kernel
theorem eX5_splits_15 : decode cX5_splits 15 = .ok (.iload_n 1, 1) := by decide +kernel
theorem eX5_splits_16 : decode cX5_splits 16 = .ok (.iaload, 1) := by decide +kernel
theorem eX5_splits_17 : decode cX5_splits 17 = .ok (.aaload, 1) := by decide +kernel
theorem eX5_splits_18 : decode cX5_splits 18 = .ok (.astore_n 3, 1) := by decide +kernel
theorem eX5_splits_19 : decode cX5_splits 19 = .ok (.aload_n 2, 1) := by decide +kernel
theorem eX5_splits_20 : decode cX5_splits 20 = .ok (.getfield 78, 3) := by decide +kernel
theorem eX5_splits_23 : decode cX5_splits 23 = .ok (.istore 4, 2) := by decide +kernel
theorem eX5_splits_25 : decode cX5_splits 25 = .ok (.aload_n 0, 1) := by decide +kernel
theorem eX5_splits_26 : decode cX5_splits 26 = .ok (.getfield 30, 3) := by decide +kernel
theorem eX5_splits_29 : decode cX5_splits 29 = .ok (.iload_n 1, 1) := by decide +kernel
theorem eX5_splits_30 : decode cX5_splits 30 = .ok (.iaload, 1) := by decide +kernel
theorem eX5_splits_31 : decode cX5_splits 31 = .ok (.istore 5, 2) := by decide +kernel
theorem eX5_splits_33 : decode cX5_splits 33 = .ok (.iload 5, 2) := by decide +kernel
theorem eX5_splits_35 : decode cX5_splits 35 = .ok (.iload 4, 2) := by decide +kernel
theorem eX5_splits_37 : decode cX5_splits 37 = .ok (.iload 4, 2) := by decide +kernel
theorem eX5_splits_39 : decode cX5_splits 39 = .ok (.imul, 1) := by decide +kernel
theorem eX5_splits_40 : decode cX5_splits 40 = .ok (.if_icmp .ge 128, 3) := by decide +kernel
theorem eX5_splits_43 : decode cX5_splits 43 = .ok (.aload_n 3, 1) := by decide +kernel
theorem eX5_splits_44 : decode cX5_splits 44 = .ok (.getfield 106, 3) := by decide +kernel
theorem eX5_splits_47 : decode cX5_splits 47 = .ok (.iload 5, 2) := by decide +kernel
theorem eX5_splits_49 : decode cX5_splits 49 = .ok (.iaload, 1) := by decide +kernel
theorem eX5_splits_50 : decode cX5_splits 50 = .ok (.istore 6, 2) := by decide +kernel
theorem eX5_splits_52 : decode cX5_splits 52 = .ok (.iload 6, 2) := by decide +kernel
theorem eX5_splits_54 : decode cX5_splits 54 = .ok (.aload_n 2, 1) := by decide +kernel
theorem eX5_splits_55 : decode cX5_splits 55 = .ok (.getfield 106, 3) := by decide +kernel
theorem eX5_splits_58 : decode cX5_splits 58 = .ok (.iload 5, 2) := by decide +kernel
theorem eX5_splits_60 : decode cX5_splits 60 = .ok (.iaload, 1) := by decide +kernel
theorem eX5_splits_61 : decode cX5_splits 61 = .ok (.if_icmp .ge 101, 3) := by decide +kernel
theorem eX5_splits_64 : decode cX5_splits 64 = .ok (.iload 5, 2) := by decide +kernel
theorem eX5_splits_66 : decode cX5_splits 66 = .ok (.iload 4, 2) := by decide +kernel
theorem eX5_splits_68 : decode cX5_splits 68 = .ok (.idiv, 1) := by decide +kernel
theorem eX5_splits_69 : decode cX5_splits 69 = .ok (.istore 7, 2) := by decide +kernel
theorem eX5_splits_71 : decode cX5_splits 71 = .ok (.iload 5, 2) := by decide +kernel
theorem eX5_splits_73 : decode cX5_splits 73 = .ok (.iload 4, 2) := by decide +kernel
theorem eX5_splits_75 : decode cX5_splits 75 = .ok (.irem, 1) := by decide +kernel
theorem eX5_splits_76 : decode cX5_splits 76 = .ok (.istore 8, 2) := by decide +kernel
theorem eX5_splits_78 : decode cX5_splits 78 = .ok (.aload_n 0, 1) := by decide +kernel
theorem eX5_splits_79 : decode cX5_splits 79 = .ok (.getfield 23, 3) := by decide +kernel
theorem eX5_splits_82 : decode cX5_splits 82 = .ok (.iload_n 1, 1) := by decide +kernel
theorem eX5_splits_83 : decode cX5_splits 83 = .ok (.iconst 1, 1) := by decide +kernel
theorem eX5_splits_84 : decode cX5_splits 84 = .ok (.iadd, 1) := by decide +kernel
theorem eX5_splits_85 : decode cX5_splits 85 = .ok (.aaload, 1) := by decide +kernel
theorem eX5_splits_86 : decode cX5_splits 86 = .ok (.astore 9, 2) := by decide +kernel
theorem eX5_splits_88 : decode cX5_splits 88 = .ok (.aload 9, 2) := by decide +kernel
theorem eX5_splits_90 : decode cX5_splits 90 = .ok (.aload_n 2, 1) := by decide +kernel
theorem eX5_splits_91 : decode cX5_splits 91 = .ok (.invokevirtual 60, 3) := by decide +kernel
theorem eX5_splits_94 : decode cX5_splits 94 = .ok (.aload 9, 2) := by decide +kernel
theorem eX5_splits_96 : decode cX5_splits 96 = .ok (.iload 8, 2) := by decide +kernel
theorem eX5_splits_98 : decode cX5_splits 98 = .ok (.iload 7, 2) := by decide +kernel
theorem eX5_splits_100 : decode cX5_splits 100 = .ok (.iconst 1, 1) := by decide +kernel
theorem eX5_splits_101 : decode cX5_splits 101 = .ok (.iload 6, 2) := by decide +kernel
theorem eX5_splits_103 : decode cX5_splits 103 = .ok (.isub, 1) := by decide +kernel
theorem eX5_splits_104 : decode cX5_splits 104 = .ok (.invokevirtual 85, 3) := by decide +kernel
theorem eX5_splits_107 : decode cX5_splits 107 = .ok (.pop, 1) := by decide +kernel
theorem eX5_splits_108 : decode cX5_splits 108 = .ok (.aload_n 2, 1) := by decide +kernel
theorem eX5_splits_109 : decode cX5_splits 109 = .ok (.iload 7, 2) := by decide +kernel
theorem eX5_splits_111 : decode cX5_splits 111 = .ok (.iload 8, 2) := by decide +kernel
theorem eX5_splits_113 : decode cX5_splits 113 = .ok (.iload 6, 2) := by decide +kernel
theorem eX5_splits_115 : decode cX5_splits 115 = .ok (.invokevirtual 85, 3) := by decide +kernel
theorem eX5_splits_118 : decode cX5_splits 118 = .ok (.pop, 1) := by decide +kernel
theorem eX5_splits_119 : decode cX5_splits 119 = .ok (.aload_n 0, 1) := by decide +kernel
theorem eX5_splits_120 : decode cX5_splits 120 = .ok (.getfield 30, 3) := by decide +kernel
theorem eX5_splits_123 : decode cX5_splits 123 = .ok (.iload_n 1, 1) := by decide +kernel
theorem eX5_splits_124 : decode cX5_splits 124 = .ok (.iload 5, 2) := by decide +kernel
theorem eX5_splits_126 : decode cX5_splits 126 = .ok (.iconst 1, 1) := by decide +kernel
theorem eX5_splits_127 : decode cX5_splits 127 = .ok (.iadd, 1) := by decide +kernel
theorem eX5_splits_128 : decode cX5_splits 128 = .ok (.iastore, 1) := by decide +kernel
theorem eX5_splits_129 : decode cX5_splits 129 = .ok (.aload_n 0, 1) := by decide +kernel
theorem eX5_splits_130 : decode cX5_splits 130 = .ok (.getfield 30, 3) := by decide +kernel
theorem eX5_splits_133 : decode cX5_splits 133 = .ok (.iload_n 1, 1) := by decide +kernel
theorem eX5_splits_134 : decode cX5_splits 134 = .ok (.iconst 1, 1) := by decide +kernel
theorem eX5_splits_135 : decode cX5_splits 135 = .ok (.iadd, 1) := by decide +kernel
theorem eX5_splits_136 : decode cX5_splits 136 = .ok (.iconst 0, 1) := by decide +kernel
theorem eX5_splits_137 : decode cX5_splits 137 = .ok (.iastore, 1) := by decide +kernel
theorem eX5_splits_138 : decode cX5_splits 138 = .ok (.aload_n 0, 1) := by decide +kernel
theorem eX5_splits_139 : decode cX5_splits 139 = .ok (.getfield 26, 3) := by decide +kernel
theorem eX5_splits_142 : decode cX5_splits 142 = .ok (.iload_n 1, 1) := by decide +kernel
theorem eX5_splits_143 : decode cX5_splits 143 = .ok (.iconst 1, 1) := by decide +kernel
theorem eX5_splits_144 : decode cX5_splits 144 = .ok (.iadd, 1) := by decide +kernel
theorem eX5_splits_145 : decode cX5_splits 145 = .ok (.aload_n 0, 1) := by decide +kernel
theorem eX5_splits_146 : decode cX5_splits 146 = .ok (.aload 9, 2) := by decide +kernel
theorem eX5_splits_148 : decode cX5_splits 148 = .ok (.aload_n 0, 1) := by decide +kernel
theorem eX5_splits_149 : decode cX5_splits 149 = .ok (.getfield 26, 3) := by decide +kernel
theorem eX5_splits_152 : decode cX5_splits 152 = .ok (.iload_n 1, 1) := by decide +kernel
theorem eX5_splits_153 : decode cX5_splits 153 = .ok (.iaload, 1) := by decide +kernel
theorem eX5_splits_154 : decode cX5_splits 154 = .ok (.iconst 1, 1) := by decide +kernel
theorem eX5_splits_155 : decode cX5_splits 155 = .ok (.iadd, 1) := by decide +kernel
theorem eX5_splits_156 : decode cX5_splits 156 = .ok (.invokevirtual 89, 3) := by decide +kernel
theorem eX5_splits_159 : decode cX5_splits 159 = .ok (.iastore, 1) := by decide +kernel
theorem eX5_splits_160 : decode cX5_splits 160 = .ok (.iconst 1, 1) := by decide +kernel
theorem eX5_splits_161 : decode cX5_splits 161 = .ok (.ireturn, 1) := by decide +kernel
theorem eX5_splits_162 : decode cX5_splits 162 = .ok (.iinc 5 1, 3) := by decide +kernel
theorem eX5_splits_165 : decode cX5_splits 165 = .ok (.goto (-132), 3) := by decide +kernel
theorem eX5_splits_168 : decode cX5_splits 168 = .ok (.iconst 0, 1) := by decide +kernel
theorem eX5_splits_169 : decode cX5_splits 169 = .ok (.ireturn, 1) := by decide +kernel
abbrev vs_C_5_splits : List Cond := .code yX5_splits cX5_splits 10 (some .boolean) :: CM
theorem g_C_5_splits_E_7_copyOf_16 : GoodIn vs_C_5_splits (wsV RX5 60 RX7 yX7_copyOf vs_E_7_copyOf_16) := cm_gV cm_333 cm_130 cm_131 cm_45 cm_132
theorem g_C_5_splits_E_7_narrow_16 : GoodIn vs_C_5_splits (wsV RX5 85 RX7 yX7_narrow vs_E_7_narrow_16) := cm_gV cm_345 cm_43 cm_44 cm_45 cm_46
theorem g_C_5_splits_C_5_nextCover : GoodIn vs_C_5_splits (wsV RX5 89 RX5 yX5_nextCover vs_C_5_nextCover) := cm_gV cm_351 cm_352 cm_353 cm_332 cm_354
set_option maxHeartbeats 4000000 in
set_option maxRecDepth 100000 in
theorem c_C_5_splits (l : Launch) (dC : Nat → ClassId) (dI : Nat → Nat → Nat) (sz : Nat) (rm : Nat) (rcv : Nat) (rk : Nat) (rmd : Nat) (ru : Nat) (rpc : Nat) (rct : Nat) (rce : Nat) (k_fcv : ClassId) (fcv : Nat → Option Nat) (k_fmd : ClassId) (k_fpc : ClassId) (k_fct : ClassId) (fct : Nat → Int32) (k_fce : ClassId) (q_fce : Nat → Nat) (N : Nat) (az ac : Nat → Nat) (kz : Nat → ClassId) (qs : Nat → Nat) (fz : Nat → Nat → Int32) (a0 : Nat) (c0 : Nat) (hrk : rk ≤ 120) (hru : ru ≤ 28) (hN : 393 ≤ N) (ha0 : a0 ≤ 119) (hq0 : ctk (a0 + 1) rk fct) (hq1 : cv_ok rk fcv az) (hq2 : fct (nI a0).toNatClampNeg = nI c0) (hq3 : c0 < rk) (hq4 : a0 ≤ c0) : Met l yX5_splits vs_C_5_splits ({ frames := 3, cells := 0, slots := 0, locals := 76 }) (va_Pc [.ref rm, .int (nI a0)] (pu_B (dC, dI) ((rm__w rm rcv (nI rk) rmd (nI ru) rpc rct rce (az 392) k_fcv fcv k_fmd (zs 242 28 az) k_fpc (zs 270 122 az) k_fct fct k_fce (bN 16 q_fce)) ++ zp 4 16 N az ac kz qs fz) ((rm__t k_fcv k_fmd k_fpc k_fct k_fce) ++ zt N kz) sz)) (va_Qi (fun (r : Int32) (u : Int32) => r = u ∧ (∃ v : Nat, v ≤ 1 ∧ r = nI v)) (fun u t => ∃ (z_fct : Nat → Int32) (z_fce : Nat → Nat) (z_fz : Nat → Nat → Int32) (z_qs : Nat → Nat), pu_E (dC, dI) ((rm__w rm rcv (nI rk) rmd (nI ru) rpc rct rce (az 392) k_fcv fcv k_fmd (zs 242 28 az) k_fpc (zs 270 122 az) k_fct z_fct k_fce (bN 16 z_fce)) ++ zp 4 16 N az ac kz z_qs z_fz) ((rm__t k_fcv k_fmd k_fpc k_fct k_fce) ++ zt N kz) (va_A (((rm__w rm rcv (nI rk) rmd (nI ru) rpc rct rce (az 392) k_fcv fcv k_fmd (zs 242 28 az) k_fpc (zs 270 122 az) k_fct fct k_fce (bN 16 q_fce)) ++ zp 4 16 N az ac kz qs fz)) sz) t ∧ (ctk (a0 + 1) rk z_fct) ∧ (u = 0 ∨ z_fct (nI (a0 + 1)).toNatClampNeg = -1 ∨ ctk (a0 + 1 + 1) rk z_fct)) (va_A (((rm__w rm rcv (nI rk) rmd (nI ru) rpc rct rce (az 392) k_fcv fcv k_fmd (zs 242 28 az) k_fpc (zs 270 122 az) k_fct fct k_fce (bN 16 q_fce)) ++ zp 4 16 N az ac kz qs fz)) sz)) 0 0 (va_A (((rm__w rm rcv (nI rk) rmd (nI ru) rpc rct rce (az 392) k_fcv fcv k_fmd (zs 242 28 az) k_fpc (zs 270 122 az) k_fct fct k_fce (bN 16 q_fce)) ++ zp 4 16 N az ac kz qs fz)) sz) := by
  refine Met.ofW (cc := cX5_splits) (maxL := 10) (ret := (some .boolean)) (by decide) rfl ?_
  intro p e s m args below meth c s₁ B hml hv
  obtain ⟨rfl, rfl, hP, hK, hD0⟩ := hv
  have hx := B.exec
  have hb := B.bytes
  have hr := B.returns
  have hts := atoms_spec (ws := vs_C_5_splits) B.pre
  have v_1 := hts (.fieldLink RX5 23 "ClockReach$Remainder" "pieces" "[LClockReach$Zone;") (List.mem_cons_of_mem _ cm_347)
  have v_2 := hts (.fieldLink RX5 11 "ClockReach$Remainder" "covers" "[LClockReach$Zone;") (List.mem_cons_of_mem _ cm_319)
  have v_3 := hts (.fieldLink RX5 26 "ClockReach$Remainder" "cutting" "[I") (List.mem_cons_of_mem _ cm_348)
  have v_4 := hts (.fieldLink RX5 78 "ClockReach$Zone" "size" "I") (List.mem_cons_of_mem _ cm_343)
  have v_5 := hts (.fieldLink RX5 30 "ClockReach$Remainder" "cells" "[I") (List.mem_cons_of_mem _ cm_349)
  have v_6 := hts (.fieldLink RX5 106 "ClockReach$Zone" "cells" "[I") (List.mem_cons_of_mem _ cm_363)
  have hown : s.vm.findClass RX5 = some m.cls := findClass_of_methodNamed B.named
  have hlocks := B.notSynchronized
  have hiX5 : ∀ w ∈ wsX50, w ∈ vs_C_5_splits := fun _ h => List.mem_cons_of_mem _ (cm_X5 h)
  have hiX7 : ∀ w ∈ wsX70, w ∈ vs_C_5_splits := fun _ h => List.mem_cons_of_mem _ (cm_X7 h)
  have hD := hD0.self (sz := s.heap.size)
  generalize hAe : va_A (((rm__w rm rcv (nI rk) rmd (nI ru) rpc rct rce (az 392) k_fcv fcv k_fmd (zs 242 28 az) k_fpc (zs 270 122 az) k_fct fct k_fce (bN 16 q_fce)) ++ zp 4 16 N az ac kz qs fz)) s.heap.size = A at hD ⊢
  have hA : ∀ q : Nat, s.heap.size ≤ q → A q := fun q h => by rw [← hAe]; exact Or.inr h
  have hS : va_S A s.heap s.heap [] := va_S.rf
  have hl := lv_entry ([.ref rm, .int (nI a0)]) (n := 10) (Nat.le_of_ble_eq_true rfl)
  rw [lg_entry_eq]
  generalize (lg_sl ([.ref rm, .int (nI a0)]) ++ List.replicate (10 - (lg_sl ([.ref rm, .int (nI a0)])).length) Slot.unset).toArray = ls at hl ⊢
  have hl : lv_has ls 10 [(0, .ref rm), (1, .int (nI a0))] := hl
  refine lv_aload_n hx hb eX5_splits_0 rfl (lv_at hl 0 rfl) ?_
  refine va_get (D := (dC, dI)) (ci := 5) (v := .ref rpc) (C := RX5) (T := TX5) (N := 8) hx hb hts hiX5 hown hK hP 0 rfl rfl 4 (by decide) v_1 (fun _ h9 => h9) rfl eX5_splits_1 ?_
  refine lv_iload_n hx hb eX5_splits_4 rfl (lv_at hl 1 rfl) ?_
  refine va_aldq hx hb hK hP 3 2 rfl rfl (vp_in_nI (n := a0) (Nat.lt_of_le_of_lt ha0 (Nat.le_of_ble_eq_true rfl)) (Nat.le_of_ble_eq_true rfl)) eX5_splits_5 ?_
  refine W.eq (g2 := F0 m 6 ls [.ref (az (270 + a0))]) (by rw [zs_get (Nat.lt_of_le_of_lt ha0 (Nat.le_of_ble_eq_true rfl)) (by omega)]) ?_
  refine lv_astore_n (lv' := [(2, .ref (az (270 + a0))), (0, .ref rm), (1, .int (nI a0))]) hx hb eX5_splits_6 rfl hl (by decide) rfl (fun ls hl => ?_)
  refine lv_aload_n hx hb eX5_splits_7 rfl (lv_at hl 1 rfl) ?_
  refine va_get (D := (dC, dI)) (ci := 5) (v := .ref rcv) (C := RX5) (T := TX5) (N := 8) hx hb hts hiX5 hown hK hP 0 rfl rfl 0 (by decide) v_2 (fun _ h9 => h9) rfl eX5_splits_8 ?_
  refine lv_aload_n hx hb eX5_splits_11 rfl (lv_at hl 1 rfl) ?_
  refine va_get (D := (dC, dI)) (ci := 5) (v := .ref rct) (C := RX5) (T := TX5) (N := 8) hx hb hts hiX5 hown hK hP 0 rfl rfl 5 (by decide) v_3 (fun _ h9 => h9) rfl eX5_splits_12 ?_
  refine lv_iload_n hx hb eX5_splits_15 rfl (lv_at hl 2 rfl) ?_
  refine va_iald hx hb hK hP 4 3 rfl rfl (vp_in_nI (n := a0) (Nat.lt_of_le_of_lt ha0 (Nat.le_of_ble_eq_true rfl)) (Nat.le_of_ble_eq_true rfl)) eX5_splits_16 ?_
  refine lv_topi (fun y_1 ey_1 => ?_)
  obtain rfl : y_1 = nI c0 := ey_1.trans hq2
  obtain ⟨kc_2, hkc_2, ekc_2⟩ := cv_get (i := c0) (f := fcv) (by assumption) (by omega) (by omega)
  refine va_aldq hx hb hK hP 1 0 rfl rfl (vp_in_nI (n := c0) (by omega) (Nat.le_of_ble_eq_true rfl)) eX5_splits_17 ?_
  refine W.eq (g2 := F0 m 18 ls [.ref (az kc_2)]) (by rw [ekc_2]) ?_
  refine lv_astore_n (lv' := [(3, .ref (az kc_2)), (2, .ref (az (270 + a0))), (0, .ref rm), (1, .int (nI a0))]) hx hb eX5_splits_18 rfl hl (by decide) rfl (fun ls hl => ?_)
  refine lv_aload_n hx hb eX5_splits_19 rfl (lv_at hl 1 rfl) ?_
  have hPz := zp_cut (k := (270 + a0)) hP (by omega)
  refine va_get (D := (dC, dI)) (ci := 7) (v := .int (nI (min (qs (270 + a0)) 4))) (C := RX7) (T := TX7) (N := 2) hx hb hts hiX7 hown hK hPz 0 rfl rfl 1 (by decide) v_4 (fun _ h9 => h9) rfl eX5_splits_20 ?_
  clear hPz
  obtain ⟨zn_4, hzn_4, ezn_4⟩ : ∃ q : Nat, q ≤ 4 ∧ nI (min (qs (270 + a0)) 4) = nI q := ⟨_, Nat.min_le_right _ _, rfl⟩
  have hqzn_4 := zz4 hzn_4
  refine lv_topi (fun y_3 ey_3 => ?_)
  obtain rfl : y_3 = nI zn_4 := ey_3.trans ezn_4
  refine lv_istore (lv' := [(4, .int (nI zn_4)), (3, .ref (az kc_2)), (2, .ref (az (270 + a0))), (0, .ref rm), (1, .int (nI a0))]) hx hb eX5_splits_23 hl (by decide) rfl (fun ls hl => ?_)
  refine lv_aload_n hx hb eX5_splits_25 rfl (lv_at hl 3 rfl) ?_
  refine va_get (D := (dC, dI)) (ci := 5) (v := .ref rce) (C := RX5) (T := TX5) (N := 8) hx hb hts hiX5 hown hK hP 0 rfl rfl 6 (by decide) v_5 (fun _ h9 => h9) rfl eX5_splits_26 ?_
  refine lv_iload_n hx hb eX5_splits_29 rfl (lv_at hl 4 rfl) ?_
  refine va_iald hx hb hK hP 5 4 rfl rfl (vp_in_nI (n := a0) (Nat.lt_of_le_of_lt ha0 (Nat.le_of_ble_eq_true rfl)) (Nat.le_of_ble_eq_true rfl)) eX5_splits_30 ?_
  refine lv_topi (fun y_5 ey_5 => ?_)
  obtain ⟨u_6, hu_6, qu_6⟩ := bN_get 16 q_fce (((nI a0) : Int32).toNatClampNeg)
  obtain rfl : y_5 = nI u_6 := ey_5.trans qu_6
  refine lv_istore (lv' := [(5, .int (nI u_6)), (4, .int (nI zn_4)), (3, .ref (az kc_2)), (2, .ref (az (270 + a0))), (0, .ref rm), (1, .int (nI a0))]) hx hb eX5_splits_31 hl (by decide) rfl (fun ls hl => ?_)
  refine pu_while (fun nn H locs ls => ∃ (g_8 : Nat), nn = 16 - g_8 ∧ g_8 ≤ 16 ∧ va_P (dC, dI) vwCl ((rm__w rm rcv (nI rk) rmd (nI ru) rpc rct rce (az 392) k_fcv fcv k_fmd (zs 242 28 az) k_fpc (zs 270 122 az) k_fct fct k_fce (bN 16 q_fce)) ++ zp 4 16 N az ac kz qs fz) H ∧ va_D A ((rm__w rm rcv (nI rk) rmd (nI ru) rpc rct rce (az 392) k_fcv fcv k_fmd (zs 242 28 az) k_fpc (zs 270 122 az) k_fct fct k_fce (bN 16 q_fce)) ++ zp 4 16 N az ac kz qs fz) ∧ va_S A s.heap H locs ∧ lv_has ls 10 [(0, .ref rm), (1, .int (nI a0)), (2, .ref (az (270 + a0))), (3, .ref (az kc_2)), (4, .int (nI zn_4)), (5, .int (nI g_8))]) 33 ?_ _ _ _ _ ⟨u_6, rfl, hu_6, hP, hD, hS, lv_sub hl [4, 5, 3, 2, 1, 0] rfl⟩
  rintro nn ih_9 H locs ls ⟨g_8, rfl, hg_8, hP, hD, hS, hl⟩
  refine lv_iload hx hb eX5_splits_33 (lv_at hl 5 rfl) ?_
  refine lv_iload hx hb eX5_splits_35 (lv_at hl 4 rfl) ?_
  refine lv_iload hx hb eX5_splits_37 (lv_at hl 4 rfl) ?_
  refine lv_imul hx hb eX5_splits_39 ?_
  refine lv_topi (fun y_10 ey_10 => ?_)
  obtain rfl : y_10 = (nI (zn_4 * zn_4)) := ey_10.trans (pk_mul zn_4 zn_4)
  refine lv_icmp_ge (tgt := 168) hx hb eX5_splits_40 (by decide) (fun c_11 => ?_) (fun c_11 => ?_)
  · have c_11 : (zn_4 * zn_4) ≤ g_8 := (nI_leI (a := (zn_4 * zn_4)) (b := g_8) (by first | omega | exact Nat.lt_trans (zx16 (by omega) (by omega) (by omega)) (Nat.le_of_ble_eq_true rfl) | exact Nat.lt_trans (zy16 (by omega) (by omega)) (Nat.le_of_ble_eq_true rfl) | exact Nat.lt_trans (zx25 (by omega) (by omega) (by omega)) (Nat.le_of_ble_eq_true rfl) | exact Nat.lt_trans (zy25 (by omega) (by omega)) (Nat.le_of_ble_eq_true rfl)) (Nat.lt_of_le_of_lt hg_8 (Nat.le_of_ble_eq_true rfl))).mp c_11
    refine lv_iconst (v := 0) hx hb eX5_splits_168 (by decide) ?_
    exact W.zret (v := 0) (ty := .boolean) hx hb hr (rfl) (fun t ht hW => ⟨⟨0, 0, rfl, ⟨rfl, ⟨0, (Nat.le_of_ble_eq_true rfl), rfl⟩⟩, ⟨fct, q_fce, fz, qs, ⟨by rw [ht]; exact hP, va_K.moved hW.alike hK, hD⟩, hq0, Or.inl rfl⟩⟩, hS.F ht⟩) hS.2.2 eX5_splits_169
  · have c_11 : ¬ (zn_4 * zn_4) ≤ g_8 := fun z => c_11 ((nI_leI (a := (zn_4 * zn_4)) (b := g_8) (by first | omega | exact Nat.lt_trans (zx16 (by omega) (by omega) (by omega)) (Nat.le_of_ble_eq_true rfl) | exact Nat.lt_trans (zy16 (by omega) (by omega)) (Nat.le_of_ble_eq_true rfl) | exact Nat.lt_trans (zx25 (by omega) (by omega) (by omega)) (Nat.le_of_ble_eq_true rfl) | exact Nat.lt_trans (zy25 (by omega) (by omega)) (Nat.le_of_ble_eq_true rfl)) (Nat.lt_of_le_of_lt hg_8 (Nat.le_of_ble_eq_true rfl))).mpr z)
    refine lv_aload_n hx hb eX5_splits_43 rfl (lv_at hl 3 rfl) ?_
    have hPz := zp_cut (k := kc_2) hP (by omega)
    refine va_get (D := (dC, dI)) (ci := 7) (v := .ref (ac kc_2)) (C := RX7) (T := TX7) (N := 2) hx hb hts hiX7 hown hK hPz 0 rfl rfl 0 (by decide) v_6 (fun _ h9 => h9) rfl eX5_splits_44 ?_
    clear hPz
    refine lv_iload hx hb eX5_splits_47 (lv_at hl 5 rfl) ?_
    have hPz := zp_cut (k := kc_2) hP (by omega)
    have hKz : va_K (dC, dI) vwCl ([] ++ [(kz kc_2, .int)]) s := zp_K (T' := []) hK (by omega) [] rfl
    refine va_iald hx hb hKz hPz 1 0 rfl rfl (vp_in_nI (n := g_8) (by omega) (Nat.le_of_ble_eq_true rfl)) eX5_splits_49 ?_
    clear hPz hKz
    refine lv_topi (fun y_12 ey_12 => ?_)
    refine lv_istore (lv' := [(6, .int y_12), (0, .ref rm), (1, .int (nI a0)), (2, .ref (az (270 + a0))), (3, .ref (az kc_2)), (4, .int (nI zn_4)), (5, .int (nI g_8))]) hx hb eX5_splits_50 hl (by decide) rfl (fun ls hl => ?_)
    refine lv_iload hx hb eX5_splits_52 (lv_at hl 0 rfl) ?_
    refine lv_aload_n hx hb eX5_splits_54 rfl (lv_at hl 3 rfl) ?_
    have hPz := zp_cut (k := (270 + a0)) hP (by omega)
    refine va_get (D := (dC, dI)) (ci := 7) (v := .ref (ac (270 + a0))) (C := RX7) (T := TX7) (N := 2) hx hb hts hiX7 hown hK hPz 0 rfl rfl 0 (by decide) v_6 (fun _ h9 => h9) rfl eX5_splits_55 ?_
    clear hPz
    refine lv_iload hx hb eX5_splits_58 (lv_at hl 6 rfl) ?_
    have hPz := zp_cut (k := (270 + a0)) hP (by omega)
    have hKz : va_K (dC, dI) vwCl ([] ++ [(kz (270 + a0), .int)]) s := zp_K (T' := []) hK (by omega) [] rfl
    refine va_iald hx hb hKz hPz 1 0 rfl rfl (vp_in_nI (n := g_8) (by omega) (Nat.le_of_ble_eq_true rfl)) eX5_splits_60 ?_
    clear hPz hKz
    refine lv_topi (fun y_13 ey_13 => ?_)
    refine lv_icmp_ge (tgt := 162) hx hb eX5_splits_61 (by decide) (fun c_14 => ?_) (fun c_14 => ?_)
    · refine lv_iinc (v := (nI (g_8 + 1))) (lv' := [(5, .int (nI (g_8 + 1))), (6, .int y_12), (0, .ref rm), (1, .int (nI a0)), (2, .ref (az (270 + a0))), (3, .ref (az kc_2)), (4, .int (nI zn_4))]) hx hb eX5_splits_162 hl (k := 6) rfl (nI_1 _) (by decide) rfl (fun ls hl => ?_)
      refine lv_goto (tgt := 33) hx hb eX5_splits_165 (by decide) ?_
      exact ih_9 (16 - (g_8 + 1)) (by omega) _ _ _ ⟨(g_8 + 1), rfl, (by omega), hP, hD, hS, lv_sub hl [2, 3, 4, 5, 6, 0] rfl⟩
    · refine lv_iload hx hb eX5_splits_64 (lv_at hl 6 rfl) ?_
      refine lv_iload hx hb eX5_splits_66 (lv_at hl 5 rfl) ?_
      refine lv_idiv hx hb eX5_splits_68 (dv_0 (a := g_8) (n := zn_4) (by omega) (by omega)) ?_
      refine lv_topi (fun y_15 ey_15 => ?_)
      obtain ⟨u_16, hu_16, qu_16⟩ := dv_q (a := g_8) (n := zn_4) (by omega) (by omega)
      obtain rfl : y_15 = nI u_16 := ey_15.trans qu_16
      refine lv_istore (lv' := [(7, .int (nI u_16)), (6, .int y_12), (0, .ref rm), (1, .int (nI a0)), (2, .ref (az (270 + a0))), (3, .ref (az kc_2)), (4, .int (nI zn_4)), (5, .int (nI g_8))]) hx hb eX5_splits_69 hl (by decide) rfl (fun ls hl => ?_)
      refine lv_iload hx hb eX5_splits_71 (lv_at hl 7 rfl) ?_
      refine lv_iload hx hb eX5_splits_73 (lv_at hl 6 rfl) ?_
      refine lv_irem hx hb eX5_splits_75 (dv_0 (a := g_8) (n := zn_4) (by omega) (by omega)) ?_
      refine lv_topi (fun y_17 ey_17 => ?_)
      obtain ⟨u_18, hu_18, qu_18⟩ := dv_r (a := g_8) (n := zn_4) (by omega) (by omega)
      obtain rfl : y_17 = nI u_18 := ey_17.trans qu_18
      refine lv_istore (lv' := [(8, .int (nI u_18)), (7, .int (nI u_16)), (6, .int y_12), (0, .ref rm), (1, .int (nI a0)), (2, .ref (az (270 + a0))), (3, .ref (az kc_2)), (4, .int (nI zn_4)), (5, .int (nI g_8))]) hx hb eX5_splits_76 hl (by decide) rfl (fun ls hl => ?_)
      refine lv_aload_n hx hb eX5_splits_78 rfl (lv_at hl 3 rfl) ?_
      refine va_get (D := (dC, dI)) (ci := 5) (v := .ref rpc) (C := RX5) (T := TX5) (N := 8) hx hb hts hiX5 hown hK hP 0 rfl rfl 4 (by decide) v_1 (fun _ h9 => h9) rfl eX5_splits_79 ?_
      refine lv_iload_n hx hb eX5_splits_82 rfl (lv_at hl 4 rfl) ?_
      refine lv_iconst (v := 1) hx hb eX5_splits_83 (by decide) ?_
      refine lv_iadd hx hb eX5_splits_84 ?_
      refine lv_topi (fun y_19 ey_19 => ?_)
      obtain rfl : y_19 = (nI (a0 + 1)) := ey_19.trans (nI_add a0 1)
      refine va_aldq hx hb hK hP 3 2 rfl rfl (vp_in_nI (n := (a0 + 1)) (by omega) (Nat.le_of_ble_eq_true rfl)) eX5_splits_85 ?_
      refine W.eq (g2 := F0 m 86 ls [.ref (az (270 + (a0 + 1)))]) (by rw [zs_get (by omega) (by omega)]) ?_
      refine lv_astore (lv' := [(9, .ref (az (270 + (a0 + 1)))), (8, .int (nI u_18)), (7, .int (nI u_16)), (6, .int y_12), (0, .ref rm), (1, .int (nI a0)), (2, .ref (az (270 + a0))), (3, .ref (az kc_2)), (4, .int (nI zn_4)), (5, .int (nI g_8))]) hx hb eX5_splits_86 hl (by decide) rfl (fun ls hl => ?_)
      refine lv_aload hx hb eX5_splits_88 (lv_at hl 0 rfl) ?_
      refine lv_aload_n hx hb eX5_splits_90 rfl (lv_at hl 6 rfl) ?_
      have hPz := zp_cut (k := (270 + (a0 + 1))) hP (by omega)
      have hPy := zp_cut (k := (270 + a0)) hP (by omega)
      have hPc : va_P (dC, dI) vwCl ([(az (270 + a0), .inr (7, [.ref (ac (270 + a0)), .int (nI (min (qs (270 + a0)) 4))])), (ac (270 + a0), .inl (kz (270 + a0), 16, .inl (fz (270 + a0))))] ++ [(az (270 + (a0 + 1)), .inr (7, [.ref (ac (270 + (a0 + 1))), .int (nI (min (qs (270 + (a0 + 1))) 4))])), (ac (270 + (a0 + 1)), .inl (kz (270 + (a0 + 1)), 16, .inl (fz (270 + (a0 + 1)))))]) _ := va_P.app hPy hPz
      have hDc : va_D A ([(az (270 + a0), .inr (7, [.ref (ac (270 + a0)), .int (nI (min (qs (270 + a0)) 4))])), (ac (270 + a0), .inl (kz (270 + a0), 16, .inl (fz (270 + a0))))] ++ [(az (270 + (a0 + 1)), .inr (7, [.ref (ac (270 + (a0 + 1))), .int (nI (min (qs (270 + (a0 + 1))) 4))])), (ac (270 + (a0 + 1)), .inl (kz (270 + (a0 + 1)), 16, .inl (fz (270 + (a0 + 1)))))]) := zp_cutD2 hD (by omega) (by omega) (by omega)
      have hKc : va_K (dC, dI) vwCl [(kz (270 + a0), .int), (kz (270 + (a0 + 1)), .int)] s := zp_K2 hK (by omega) (by omega)
      have hFc := pu_free hDc hS hA
      refine va_callv (va_runV (As := [.ref (az (270 + a0))]) (rest := []) ⟨hx, hb, hml, hown, hts⟩ (c_E_7_copyOf_16 l dC dI _ (az (270 + a0)) (ac (270 + a0)) (min (qs (270 + a0)) 4) (kz (270 + a0)) (fz (270 + a0)) (az (270 + (a0 + 1))) (ac (270 + (a0 + 1))) (min (qs (270 + (a0 + 1))) 4) (kz (270 + (a0 + 1))) (fz (270 + (a0 + 1))) (Nat.min_le_right _ _) (Nat.min_le_right _ _)) (cwV 1 hts g_C_5_splits_E_7_copyOf_16 rfl rfl rfl (by decide +kernel) ⟨Nat.le_of_ble_eq_true rfl, Nat.le_of_ble_eq_true rfl⟩) ⟨pu_bl, va_recv hK hPz (ci := 7) (q0 := 0) rfl rfl, pu_in hPc hKc hDc⟩ rfl rfl hl.1 rfl (lv_room (Nat.le_of_ble_eq_true rfl)) eX5_splits_91 ⟨Nat.le_of_ble_eq_true rfl, Nat.le_of_ble_eq_true rfl⟩) hS (fun q _ h => hFc q h) hFc (fun u t H1 locs ht hvm hw hB hz1 hk1 hS => ?_)
      obtain ⟨z_fz_21, ⟨hP1, -, hD1⟩, xr_20_0⟩ := hB
      rw [ht] at hP1
      obtain ⟨qs_22, fz_23, hP, hD⟩ := zp_put (wr := [(az (270 + a0), .inr (7, [.ref (ac (270 + a0)), .int (nI (min (qs (270 + a0)) 4))])), (ac (270 + a0), .inl (kz (270 + a0), 16, .inl (fz (270 + a0))))]) (k := (270 + (a0 + 1))) hP hD (by omega) (zp_two (by omega)) hk1 (Nat.min_le_right _ _) hP1
      clear hP1 hD1 hFc
      clear hPc hDc hKc
      clear hk1 hz1 ht hvm
      generalize H1 = H at hP hS ⊢
      refine lv_aload hx hb eX5_splits_94 (lv_at hl 0 rfl) ?_
      refine lv_iload hx hb eX5_splits_96 (lv_at hl 1 rfl) ?_
      refine lv_iload hx hb eX5_splits_98 (lv_at hl 2 rfl) ?_
      refine lv_iconst (v := 1) hx hb eX5_splits_100 (by decide) ?_
      refine lv_iload hx hb eX5_splits_101 (lv_at hl 3 rfl) ?_
      refine lv_isub hx hb eX5_splits_103 ?_
      refine lv_topi (fun y_24 ey_24 => ?_)
      have hPz := zp_cut (k := (270 + (a0 + 1))) hP (by omega)
      have hPc : va_P (dC, dI) vwCl ([] ++ [(az (270 + (a0 + 1)), .inr (7, [.ref (ac (270 + (a0 + 1))), .int (nI (min (qs_22 (270 + (a0 + 1))) 4))])), (ac (270 + (a0 + 1)), .inl (kz (270 + (a0 + 1)), 16, .inl (fz_23 (270 + (a0 + 1)))))]) _ := va_P.app (hP.sub [] rfl) hPz
      have hDc : va_D A ([] ++ [(az (270 + (a0 + 1)), .inr (7, [.ref (ac (270 + (a0 + 1))), .int (nI (min (qs_22 (270 + (a0 + 1))) 4))])), (ac (270 + (a0 + 1)), .inl (kz (270 + (a0 + 1)), 16, .inl (fz_23 (270 + (a0 + 1)))))]) := zp_cutD hD (by omega) [] (by decide) rfl
      have hKc : va_K (dC, dI) vwCl ([] ++ [(kz (270 + (a0 + 1)), .int)]) s := zp_K hK (by omega) [] rfl
      have hFc := pu_free hDc hS hA
      refine va_calli (va_runV (As := [.int (nI u_18), .int (nI u_16), .int y_24]) (rest := []) ⟨hx, hb, hml, hown, hts⟩ (c_E_7_narrow_16 l dC dI _ (az (270 + (a0 + 1))) (ac (270 + (a0 + 1))) (min (qs_22 (270 + (a0 + 1))) 4) (kz (270 + (a0 + 1))) (fz_23 (270 + (a0 + 1))) u_18 u_16 y_24 (Nat.min_le_right _ _) hu_18 hu_16) (cwV 3 hts g_C_5_splits_E_7_narrow_16 rfl rfl rfl (by decide +kernel) ⟨Nat.le_of_ble_eq_true rfl, Nat.le_of_ble_eq_true rfl⟩) ⟨pu_bl, va_recv hK hPz (ci := 7) (q0 := 0) rfl rfl, pu_in hPc hKc hDc⟩ rfl rfl hl.1 rfl (lv_room (Nat.le_of_ble_eq_true rfl)) eX5_splits_104 ⟨Nat.le_of_ble_eq_true rfl, Nat.le_of_ble_eq_true rfl⟩) hS (fun q _ h => hFc q h) hFc (fun r_25 u t H1 locs ht hvm hw hB hz1 hk1 hS => ?_)
      obtain ⟨z_fz_26, ⟨hP1, -, hD1⟩, xr_25_0⟩ := hB
      rw [ht] at hP1
      obtain ⟨qs_27, fz_28, hP, hD⟩ := zp_put (wr := []) (k := (270 + (a0 + 1))) hP hD (by omega) (fun q h => List.mem_append_left _ (pu_subm [] rfl q h)) hk1 (Nat.min_le_right _ _) hP1
      clear hP1 hD1 hFc
      clear hPc hDc hKc
      clear hk1 hz1 ht hvm
      generalize H1 = H at hP hS ⊢
      obtain ⟨u_29, hu_29, rfl, iu_29⟩ := hw
      have iu_29 : (u_29, z_fz_26) = (sp_E_7_narrow_16 (min (qs_22 (270 + (a0 + 1))) 4) (fz_23 (270 + (a0 + 1))) u_18 u_16 y_24) := Prod.ext iu_29 xr_25_0
      refine lv_pop hx hb eX5_splits_107 rfl ?_
      refine lv_aload_n hx hb eX5_splits_108 rfl (lv_at hl 6 rfl) ?_
      refine lv_iload hx hb eX5_splits_109 (lv_at hl 2 rfl) ?_
      refine lv_iload hx hb eX5_splits_111 (lv_at hl 1 rfl) ?_
      refine lv_iload hx hb eX5_splits_113 (lv_at hl 3 rfl) ?_
      have hPz := zp_cut (k := (270 + a0)) hP (by omega)
      have hPc : va_P (dC, dI) vwCl ([] ++ [(az (270 + a0), .inr (7, [.ref (ac (270 + a0)), .int (nI (min (qs_27 (270 + a0)) 4))])), (ac (270 + a0), .inl (kz (270 + a0), 16, .inl (fz_28 (270 + a0))))]) _ := va_P.app (hP.sub [] rfl) hPz
      have hDc : va_D A ([] ++ [(az (270 + a0), .inr (7, [.ref (ac (270 + a0)), .int (nI (min (qs_27 (270 + a0)) 4))])), (ac (270 + a0), .inl (kz (270 + a0), 16, .inl (fz_28 (270 + a0))))]) := zp_cutD hD (by omega) [] (by decide) rfl
      have hKc : va_K (dC, dI) vwCl ([] ++ [(kz (270 + a0), .int)]) s := zp_K hK (by omega) [] rfl
      have hFc := pu_free hDc hS hA
      refine va_calli (va_runV (As := [.int (nI u_16), .int (nI u_18), .int y_12]) (rest := []) ⟨hx, hb, hml, hown, hts⟩ (c_E_7_narrow_16 l dC dI _ (az (270 + a0)) (ac (270 + a0)) (min (qs_27 (270 + a0)) 4) (kz (270 + a0)) (fz_28 (270 + a0)) u_16 u_18 y_12 (Nat.min_le_right _ _) hu_16 hu_18) (cwV 3 hts g_C_5_splits_E_7_narrow_16 rfl rfl rfl (by decide +kernel) ⟨Nat.le_of_ble_eq_true rfl, Nat.le_of_ble_eq_true rfl⟩) ⟨pu_bl, va_recv hK hPz (ci := 7) (q0 := 0) rfl rfl, pu_in hPc hKc hDc⟩ rfl rfl hl.1 rfl (lv_room (Nat.le_of_ble_eq_true rfl)) eX5_splits_115 ⟨Nat.le_of_ble_eq_true rfl, Nat.le_of_ble_eq_true rfl⟩) hS (fun q _ h => hFc q h) hFc (fun r_30 u t H1 locs ht hvm hw hB hz1 hk1 hS => ?_)
      obtain ⟨z_fz_31, ⟨hP1, -, hD1⟩, xr_30_0⟩ := hB
      rw [ht] at hP1
      obtain ⟨qs_32, fz_33, hP, hD⟩ := zp_put (wr := []) (k := (270 + a0)) hP hD (by omega) (fun q h => List.mem_append_left _ (pu_subm [] rfl q h)) hk1 (Nat.min_le_right _ _) hP1
      clear hP1 hD1 hFc
      clear hPc hDc hKc
      clear hk1 hz1 ht hvm
      generalize H1 = H at hP hS ⊢
      obtain ⟨u_34, hu_34, rfl, iu_34⟩ := hw
      have iu_34 : (u_34, z_fz_31) = (sp_E_7_narrow_16 (min (qs_27 (270 + a0)) 4) (fz_28 (270 + a0)) u_16 u_18 y_12) := Prod.ext iu_34 xr_30_0
      refine lv_pop hx hb eX5_splits_118 rfl ?_
      refine lv_aload_n hx hb eX5_splits_119 rfl (lv_at hl 4 rfl) ?_
      refine va_get (D := (dC, dI)) (ci := 5) (v := .ref rce) (C := RX5) (T := TX5) (N := 8) hx hb hts hiX5 hown hK hP 0 rfl rfl 6 (by decide) v_5 (fun _ h9 => h9) rfl eX5_splits_120 ?_
      refine lv_iload_n hx hb eX5_splits_123 rfl (lv_at hl 5 rfl) ?_
      refine lv_iload hx hb eX5_splits_124 (lv_at hl 9 rfl) ?_
      refine lv_iconst (v := 1) hx hb eX5_splits_126 (by decide) ?_
      refine lv_iadd hx hb eX5_splits_127 ?_
      refine lv_topi (fun y_35 ey_35 => ?_)
      obtain rfl : y_35 = (nI (g_8 + 1)) := ey_35.trans (nI_add g_8 1)
      refine va_iast hx hb hK hP hD hS 5 4 rfl rfl (vp_in_nI (n := a0) (Nat.lt_of_le_of_lt ha0 (Nat.le_of_ble_eq_true rfl)) (Nat.le_of_ble_eq_true rfl)) eX5_splits_128 (fun H locs hP hD hS => ?_)
      obtain ⟨q_36, eq_36, kq_36⟩ := bN_up 16 q_fce (((nI a0) : Int32).toNatClampNeg) (v := (g_8 + 1)) (by omega)
      have hP : va_P (dC, dI) vwCl ((rm__w rm rcv (nI rk) rmd (nI ru) rpc rct rce (az 392) k_fcv fcv k_fmd (zs 242 28 az) k_fpc (zs 270 122 az) k_fct fct k_fce (bN 16 q_36)) ++ zp 4 16 N az ac kz qs_32 fz_33) H := by rw [← eq_36]; exact hP
      have hD : va_D A ((rm__w rm rcv (nI rk) rmd (nI ru) rpc rct rce (az 392) k_fcv fcv k_fmd (zs 242 28 az) k_fpc (zs 270 122 az) k_fct fct k_fce (bN 16 q_36)) ++ zp 4 16 N az ac kz qs_32 fz_33) := by rw [← eq_36]; exact hD
      refine lv_aload_n hx hb eX5_splits_129 rfl (lv_at hl 4 rfl) ?_
      refine va_get (D := (dC, dI)) (ci := 5) (v := .ref rce) (C := RX5) (T := TX5) (N := 8) hx hb hts hiX5 hown hK hP 0 rfl rfl 6 (by decide) v_5 (fun _ h9 => h9) rfl eX5_splits_130 ?_
      refine lv_iload_n hx hb eX5_splits_133 rfl (lv_at hl 5 rfl) ?_
      refine lv_iconst (v := 1) hx hb eX5_splits_134 (by decide) ?_
      refine lv_iadd hx hb eX5_splits_135 ?_
      refine lv_topi (fun y_37 ey_37 => ?_)
      obtain rfl : y_37 = (nI (a0 + 1)) := ey_37.trans (nI_add a0 1)
      refine lv_iconst (v := 0) hx hb eX5_splits_136 (by decide) ?_
      refine va_iast hx hb hK hP hD hS 5 4 rfl rfl (vp_in_nI (n := (a0 + 1)) (by omega) (Nat.le_of_ble_eq_true rfl)) eX5_splits_137 (fun H locs hP hD hS => ?_)
      obtain ⟨q_38, eq_38, kq_38⟩ := bN_up 16 q_36 (((nI (a0 + 1)) : Int32).toNatClampNeg) (v := 0) (Nat.le_of_ble_eq_true rfl)
      have hP : va_P (dC, dI) vwCl ((rm__w rm rcv (nI rk) rmd (nI ru) rpc rct rce (az 392) k_fcv fcv k_fmd (zs 242 28 az) k_fpc (zs 270 122 az) k_fct fct k_fce (bN 16 q_38)) ++ zp 4 16 N az ac kz qs_32 fz_33) H := by rw [← eq_38]; exact hP
      have hD : va_D A ((rm__w rm rcv (nI rk) rmd (nI ru) rpc rct rce (az 392) k_fcv fcv k_fmd (zs 242 28 az) k_fpc (zs 270 122 az) k_fct fct k_fce (bN 16 q_38)) ++ zp 4 16 N az ac kz qs_32 fz_33) := by rw [← eq_38]; exact hD
      refine lv_aload_n hx hb eX5_splits_138 rfl (lv_at hl 4 rfl) ?_
      refine va_get (D := (dC, dI)) (ci := 5) (v := .ref rct) (C := RX5) (T := TX5) (N := 8) hx hb hts hiX5 hown hK hP 0 rfl rfl 5 (by decide) v_3 (fun _ h9 => h9) rfl eX5_splits_139 ?_
      refine lv_iload_n hx hb eX5_splits_142 rfl (lv_at hl 5 rfl) ?_
      refine lv_iconst (v := 1) hx hb eX5_splits_143 (by decide) ?_
      refine lv_iadd hx hb eX5_splits_144 ?_
      refine lv_topi (fun y_39 ey_39 => ?_)
      obtain rfl : y_39 = (nI (a0 + 1)) := ey_39.trans (nI_add a0 1)
      refine lv_aload_n hx hb eX5_splits_145 rfl (lv_at hl 4 rfl) ?_
      refine lv_aload hx hb eX5_splits_146 (lv_at hl 0 rfl) ?_
      refine lv_aload_n hx hb eX5_splits_148 rfl (lv_at hl 4 rfl) ?_
      refine va_get (D := (dC, dI)) (ci := 5) (v := .ref rct) (C := RX5) (T := TX5) (N := 8) hx hb hts hiX5 hown hK hP 0 rfl rfl 5 (by decide) v_3 (fun _ h9 => h9) rfl eX5_splits_149 ?_
      refine lv_iload_n hx hb eX5_splits_152 rfl (lv_at hl 5 rfl) ?_
      refine va_iald hx hb hK hP 4 3 rfl rfl (vp_in_nI (n := a0) (Nat.lt_of_le_of_lt ha0 (Nat.le_of_ble_eq_true rfl)) (Nat.le_of_ble_eq_true rfl)) eX5_splits_153 ?_
      refine lv_topi (fun y_40 ey_40 => ?_)
      obtain rfl : y_40 = nI c0 := ey_40.trans hq2
      refine lv_iconst (v := 1) hx hb eX5_splits_154 (by decide) ?_
      refine lv_iadd hx hb eX5_splits_155 ?_
      refine lv_topi (fun y_41 ey_41 => ?_)
      obtain rfl : y_41 = (nI (c0 + 1)) := ey_41.trans (nI_add c0 1)
      have hFc := pu_free hD hS hA
      refine va_calli (va_runV (As := [.ref (az (270 + (a0 + 1))), .int (nI (c0 + 1))]) (rest := [.int (nI (a0 + 1)), .ref rct]) ⟨hx, hb, hml, hown, hts⟩ (c_C_5_nextCover l dC dI _ rm rcv rk rmd ru rpc rct rce k_fcv fcv k_fmd k_fpc k_fct fct k_fce q_38 N az ac kz qs_32 fz_33 (270 + (a0 + 1)) (c0 + 1) hrk hru (by omega) (by omega) (by omega) (by assumption) (by omega) (by omega)) (cwV 2 hts g_C_5_splits_C_5_nextCover rfl rfl rfl (by decide +kernel) ⟨Nat.le_of_ble_eq_true rfl, Nat.le_of_ble_eq_true rfl⟩) ⟨pu_bl, va_recv hK hP (ci := 5) (q0 := 0) rfl rfl, pu_in hP hK hD⟩ rfl rfl hl.1 rfl (lv_room (Nat.le_of_ble_eq_true rfl)) eX5_splits_156 ⟨Nat.le_of_ble_eq_true rfl, Nat.le_of_ble_eq_true rfl⟩) hS (fun q _ h => hFc q h) hFc (fun r_42 u t H1 locs ht hvm hw hB hz1 hk1 hS => ?_)
      obtain ⟨z_fz_43, z_qs_44, ⟨hP1, -, hD1⟩⟩ := hB
      rw [ht] at hP1
      have hP := hP1
      have hD := pu_all hFc hD1
      clear hP1 hD1 hFc
      clear hk1 hz1 ht hvm
      generalize H1 = H at hP hS ⊢
      rcases hw with rfl | ⟨u_45, iu_45, ju_45, rfl⟩
      · refine va_iast hx hb hK hP hD hS 4 3 rfl rfl (vp_in_nI (n := (a0 + 1)) (by omega) (Nat.le_of_ble_eq_true rfl)) eX5_splits_159 (fun H locs hP hD hS => ?_)
        have hP : va_P (dC, dI) vwCl ((rm__w rm rcv (nI rk) rmd (nI ru) rpc rct rce (az 392) k_fcv fcv k_fmd (zs 242 28 az) k_fpc (zs 270 122 az) k_fct (upd fct ((nI (a0 + 1)) : Int32).toNatClampNeg (-1)) k_fce (bN 16 q_38)) ++ zp 4 16 N az ac kz z_qs_44 z_fz_43) H := hP
        have hD : va_D A ((rm__w rm rcv (nI rk) rmd (nI ru) rpc rct rce (az 392) k_fcv fcv k_fmd (zs 242 28 az) k_fpc (zs 270 122 az) k_fct (upd fct ((nI (a0 + 1)) : Int32).toNatClampNeg (-1)) k_fce (bN 16 q_38)) ++ zp 4 16 N az ac kz z_qs_44 z_fz_43) := hD
        refine lv_iconst (v := 1) hx hb eX5_splits_160 (by decide) ?_
        exact W.zret (v := 1) (ty := .boolean) hx hb hr (rfl) (fun t ht hW => ⟨⟨1, 1, rfl, ⟨rfl, ⟨1, (Nat.le_of_ble_eq_true rfl), rfl⟩⟩, ⟨(upd fct ((nI (a0 + 1)) : Int32).toNatClampNeg (-1)), q_38, z_fz_43, z_qs_44, ⟨by rw [ht]; exact hP, va_K.moved hW.alike hK, hD⟩, ct_up hq0 (by omega), by first | exact Or.inr (Or.inl pk_us) | exact Or.inr (Or.inr (ct_new hq0 (by omega) (by omega) (by omega)))⟩⟩, hS.F ht⟩) hS.2.2 eX5_splits_161
      · refine va_iast hx hb hK hP hD hS 4 3 rfl rfl (vp_in_nI (n := (a0 + 1)) (by omega) (Nat.le_of_ble_eq_true rfl)) eX5_splits_159 (fun H locs hP hD hS => ?_)
        have hP : va_P (dC, dI) vwCl ((rm__w rm rcv (nI rk) rmd (nI ru) rpc rct rce (az 392) k_fcv fcv k_fmd (zs 242 28 az) k_fpc (zs 270 122 az) k_fct (upd fct ((nI (a0 + 1)) : Int32).toNatClampNeg (nI u_45)) k_fce (bN 16 q_38)) ++ zp 4 16 N az ac kz z_qs_44 z_fz_43) H := hP
        have hD : va_D A ((rm__w rm rcv (nI rk) rmd (nI ru) rpc rct rce (az 392) k_fcv fcv k_fmd (zs 242 28 az) k_fpc (zs 270 122 az) k_fct (upd fct ((nI (a0 + 1)) : Int32).toNatClampNeg (nI u_45)) k_fce (bN 16 q_38)) ++ zp 4 16 N az ac kz z_qs_44 z_fz_43) := hD
        refine lv_iconst (v := 1) hx hb eX5_splits_160 (by decide) ?_
        exact W.zret (v := 1) (ty := .boolean) hx hb hr (rfl) (fun t ht hW => ⟨⟨1, 1, rfl, ⟨rfl, ⟨1, (Nat.le_of_ble_eq_true rfl), rfl⟩⟩, ⟨(upd fct ((nI (a0 + 1)) : Int32).toNatClampNeg (nI u_45)), q_38, z_fz_43, z_qs_44, ⟨by rw [ht]; exact hP, va_K.moved hW.alike hK, hD⟩, ct_up hq0 (by omega), by first | exact Or.inr (Or.inl pk_us) | exact Or.inr (Or.inr (ct_new hq0 (by omega) (by omega) (by omega)))⟩⟩, hS.F ht⟩) hS.2.2 eX5_splits_161
