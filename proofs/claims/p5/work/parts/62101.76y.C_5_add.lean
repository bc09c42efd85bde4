theorem eX5_add_0 : decode cX5_add 0 = .ok (.aload_n 0, 1) := by decide +kernel
theorem eX5_add_1 : decode cX5_add 1 = .ok (.getfield 37, 3) := by decide +kernel
theorem eX5_add_4 : decode cX5_add 4 = .ok (.aload_n 0, 1) := by decide +kernel
theorem eX5_add_5 : decode cX5_add 5 = .ok (.getfield 11, 3) := by decide +kernel
theorem eX5_add_8 : decode cX5_add 8 = .ok (.arraylength, 1) := by decide +kernel
theorem eX5_add_9 : decode cX5_add 9 = .ok (.if_icmp .ge 23, 3) := by decide +kernel
theorem eX5_add_12 : decode cX5_add 12 = .ok (.aload_n 0, 1) := by decide +kernel
theorem eX5_add_13 : decode cX5_add 13 = .ok (.getfield 11, 3) := by decide +kernel
theorem eX5_add_16 : decode cX5_add 16 = .ok (.aload_n 0, 1) := by decide +kernel
theorem eX5_add_17 : decode cX5_add 17 = .ok (.getfield 37, 3) := by decide +kernel
theorem eX5_add_20 : decode cX5_add 20 = .ok (.aload_n 1, 1) := by decide +kernel
theorem eX5_add_21 : decode cX5_add 21 = .ok (.aastore, 1) := by decide +kernel
theorem eX5_add_22 : decode cX5_add 22 = .ok (.aload_n 0, 1) := by decide +kernel
theorem eX5_add_23 : decode cX5_add 23 = .ok (.dup, 1) := by decide +kernel
theorem eX5_add_24 : decode cX5_add 24 = .ok (.getfield 37, 3) := by decide +kernel
theorem eX5_add_27 : decode cX5_add 27 = .ok (.iconst 1, 1) := by decide +kernel
theorem eX5_add_28 : decode cX5_add 28 = .ok (.iadd, 1) := by decide +kernel
theorem eX5_add_29 : decode cX5_add 29 = .ok (.putfield 37, 3) := by decide +kernel
theorem eX5_add_32 : decode cX5_add 32 = .ok (.return_, 1) := by decide +kernel
abbrev vs_C_5_add : List Cond := .code yX5_add cX5_add 2 none :: CM
set_option maxHeartbeats 4000000 in
set_option maxRecDepth 100000 in
theorem c_C_5_add (l : Launch) (dC : Nat → ClassId) (dI : Nat → Nat → Nat) (sz : Nat) (rm : Nat) (rcv : Nat) (rk : Nat) (rmd : Nat) (ru : Nat) (rpc : Nat) (rct : Nat) (rce : Nat) (k_fcv : ClassId) (fcv : Nat → Option Nat) (k_fmd : ClassId) (k_fpc : ClassId) (k_fct : ClassId) (fct : Nat → Int32) (k_fce : ClassId) (q_fce : Nat → Nat) (N : Nat) (az ac : Nat → Nat) (kz : Nat → ClassId) (qs : Nat → Nat) (fz : Nat → Nat → Int32) (kk : Nat) (hrk : rk ≤ 120) (hru : ru ≤ 28) (hN : 393 ≤ N) (hkk : kk < N) (hq0 : cv_ok rk fcv az) (hq1 : kk ≤ 269) : Met l yX5_add vs_C_5_add ({ frames := 0, cells := 0, slots := 0, locals := 0 }) (va_Pc [.ref rm, .ref (az kk)] (pu_B (dC, dI) ((rm__w rm rcv (nI rk) rmd (nI ru) rpc rct rce (az 392) k_fcv fcv k_fmd (zs 242 28 az) k_fpc (zs 270 122 az) k_fct fct k_fce (bN 16 q_fce)) ++ zp 4 16 N az ac kz qs fz) ((rm__t k_fcv k_fmd k_fpc k_fct k_fce) ++ zt N kz) sz)) (va_Qv (fun (_ : Unit) => True) (fun _ t => ∃ (z_fcv : Nat → Option Nat) (z_rk : Nat), pu_E (dC, dI) ((rm__w rm rcv (nI z_rk) rmd (nI ru) rpc rct rce (az 392) k_fcv z_fcv k_fmd (zs 242 28 az) k_fpc (zs 270 122 az) k_fct fct k_fce (bN 16 q_fce)) ++ zp 4 16 N az ac kz qs fz) ((rm__t k_fcv k_fmd k_fpc k_fct k_fce) ++ zt N kz) (va_A (((rm__w rm rcv (nI rk) rmd (nI ru) rpc rct rce (az 392) k_fcv fcv k_fmd (zs 242 28 az) k_fpc (zs 270 122 az) k_fct fct k_fce (bN 16 q_fce)) ++ zp 4 16 N az ac kz qs fz)) sz) t ∧ (z_rk ≤ 120) ∧ (cv_ok z_rk z_fcv az)) (va_A (((rm__w rm rcv (nI rk) rmd (nI ru) rpc rct rce (az 392) k_fcv fcv k_fmd (zs 242 28 az) k_fpc (zs 270 122 az) k_fct fct k_fce (bN 16 q_fce)) ++ zp 4 16 N az ac kz qs fz)) sz)) 0 0 (va_A (((rm__w rm rcv (nI rk) rmd (nI ru) rpc rct rce (az 392) k_fcv fcv k_fmd (zs 242 28 az) k_fpc (zs 270 122 az) k_fct fct k_fce (bN 16 q_fce)) ++ zp 4 16 N az ac kz qs fz)) sz) := by
  refine Met.ofW (cc := cX5_add) (maxL := 2) (ret := none) (by decide) rfl ?_
  intro p e s m args below meth c s₁ B hml hv
  obtain ⟨rfl, rfl, hP, hK, hD0⟩ := hv
  have hx := B.exec
  have hb := B.bytes
  have hr := B.returns
  have hts := atoms_spec (ws := vs_C_5_add) B.pre
  have v_1 := hts (.fieldLink RX5 37 "ClockReach$Remainder" "count" "I") (List.mem_cons_of_mem _ cm_316)
  have v_2 := hts (.fieldLink RX5 11 "ClockReach$Remainder" "covers" "[LClockReach$Zone;") (List.mem_cons_of_mem _ cm_319)
  have hown : s.vm.findClass RX5 = some m.cls := findClass_of_methodNamed B.named
  have hlocks := B.notSynchronized
  have hiX5 : ∀ w ∈ wsX50, w ∈ vs_C_5_add := fun _ h => List.mem_cons_of_mem _ (cm_X5 h)
  have hD := hD0.self (sz := s.heap.size)
  generalize hAe : va_A (((rm__w rm rcv (nI rk) rmd (nI ru) rpc rct rce (az 392) k_fcv fcv k_fmd (zs 242 28 az) k_fpc (zs 270 122 az) k_fct fct k_fce (bN 16 q_fce)) ++ zp 4 16 N az ac kz qs fz)) s.heap.size = A at hD ⊢
  have hA : ∀ q : Nat, s.heap.size ≤ q → A q := fun q h => by rw [← hAe]; exact Or.inr h
  have hS : va_S A s.heap s.heap [] := va_S.rf
  have hl := lv_entry ([.ref rm, .ref (az kk)]) (n := 2) (Nat.le_of_ble_eq_true rfl)
  rw [lg_entry_eq]
  generalize (lg_sl ([.ref rm, .ref (az kk)]) ++ List.replicate (2 - (lg_sl ([.ref rm, .ref (az kk)])).length) Slot.unset).toArray = ls at hl ⊢
  have hl : lv_has ls 2 [(0, .ref rm), (1, .ref (az kk))] := hl
  refine lv_aload_n hx hb eX5_add_0 rfl (lv_at hl 0 rfl) ?_
  refine va_get (D := (dC, dI)) (ci := 5) (v := .int (nI rk)) (C := RX5) (T := TX5) (N := 8) hx hb hts hiX5 hown hK hP 0 rfl rfl 1 (by decide) v_1 (fun _ h9 => h9) rfl eX5_add_1 ?_
  refine lv_aload_n hx hb eX5_add_4 rfl (lv_at hl 0 rfl) ?_
  refine va_get (D := (dC, dI)) (ci := 5) (v := .ref rcv) (C := RX5) (T := TX5) (N := 8) hx hb hts hiX5 hown hK hP 0 rfl rfl 0 (by decide) v_2 (fun _ h9 => h9) rfl eX5_add_5 ?_
  refine va_alen (v := 120) hx hb hK hP 1 0 rfl rfl rfl eX5_add_8 ?_
  refine lv_icmp_ge (tgt := 32) hx hb eX5_add_9 (by decide) (fun c_1 => ?_) (fun c_1 => ?_)
  · have c_1 : 120 ≤ rk := (nI_leI (a := 120) (b := rk) (Nat.le_of_ble_eq_true rfl) (Nat.lt_of_le_of_lt hrk (Nat.le_of_ble_eq_true rfl))).mp c_1
    exact W.vret hx hb hr (fun t ht hW => ⟨⟨(), rfl, trivial, ⟨fcv, rk, ⟨by rw [ht]; exact hP, va_K.moved hW.alike hK, hD⟩, hrk, by first | assumption | exact cv_new hq0 hq1 (by omega)⟩⟩, hS.F ht⟩) hS.2.2 eX5_add_32
  · have c_1 : ¬ 120 ≤ rk := fun z => c_1 ((nI_leI (a := 120) (b := rk) (Nat.le_of_ble_eq_true rfl) (Nat.lt_of_le_of_lt hrk (Nat.le_of_ble_eq_true rfl))).mpr z)
    refine lv_aload_n hx hb eX5_add_12 rfl (lv_at hl 0 rfl) ?_
    refine va_get (D := (dC, dI)) (ci := 5) (v := .ref rcv) (C := RX5) (T := TX5) (N := 8) hx hb hts hiX5 hown hK hP 0 rfl rfl 0 (by decide) v_2 (fun _ h9 => h9) rfl eX5_add_13 ?_
    refine lv_aload_n hx hb eX5_add_16 rfl (lv_at hl 0 rfl) ?_
    refine va_get (D := (dC, dI)) (ci := 5) (v := .int (nI rk)) (C := RX5) (T := TX5) (N := 8) hx hb hts hiX5 hown hK hP 0 rfl rfl 1 (by decide) v_1 (fun _ h9 => h9) rfl eX5_add_17 ?_
    refine lv_aload_n hx hb eX5_add_20 rfl (lv_at hl 1 rfl) ?_
    refine va_astq (r := (RX7, TX7, 2)) hx hb hK hP hD hS 1 0 _ 7 rfl rfl (zp_o (k := kk) (by omega)) rfl (vp_in_nI (n := rk) (by omega) (Nat.le_of_ble_eq_true rfl)) eX5_add_21 (fun H locs hP hD hS => ?_)
    have hP : va_P (dC, dI) vwCl ((rm__w rm rcv (nI rk) rmd (nI ru) rpc rct rce (az 392) k_fcv (va_up fcv ((nI rk) : Int32).toNatClampNeg (some (az kk))) k_fmd (zs 242 28 az) k_fpc (zs 270 122 az) k_fct fct k_fce (bN 16 q_fce)) ++ zp 4 16 N az ac kz qs fz) H := hP
    have hD : va_D A ((rm__w rm rcv (nI rk) rmd (nI ru) rpc rct rce (az 392) k_fcv (va_up fcv ((nI rk) : Int32).toNatClampNeg (some (az kk))) k_fmd (zs 242 28 az) k_fpc (zs 270 122 az) k_fct fct k_fce (bN 16 q_fce)) ++ zp 4 16 N az ac kz qs fz) := hD
    refine lv_aload_n hx hb eX5_add_22 rfl (lv_at hl 0 rfl) ?_
    refine lv_dup hx hb eX5_add_23 rfl ?_
    refine va_get (D := (dC, dI)) (ci := 5) (v := .int (nI rk)) (C := RX5) (T := TX5) (N := 8) hx hb hts hiX5 hown hK hP 0 rfl rfl 1 (by decide) v_1 (fun _ h9 => h9) rfl eX5_add_24 ?_
    refine lv_iconst (v := 1) hx hb eX5_add_27 (by decide) ?_
    refine lv_iadd hx hb eX5_add_28 ?_
    refine lv_topi (fun y_2 ey_2 => ?_)
    obtain rfl : y_2 = (nI (rk + 1)) := ey_2.trans (nI_add rk 1)
    refine va_put (D := (dC, dI)) (ci := 5) (v := .int (nI (rk + 1))) (ty := .int) (C := RX5) (T := TX5) (N := 8) hx hb hts hiX5 tyX5 tyX5_ok nmX5 hown hK hP hD hS 0 rfl rfl 1 (by decide) v_1 (fun _ h9 => h9) rfl (by decide +kernel) rfl rfl (Nat.le_of_ble_eq_true rfl) eX5_add_29 (fun H locs hP hD hS => ?_)
    have hP : va_P (dC, dI) vwCl ((rm__w rm rcv (nI (rk + 1)) rmd (nI ru) rpc rct rce (az 392) k_fcv (va_up fcv ((nI rk) : Int32).toNatClampNeg (some (az kk))) k_fmd (zs 242 28 az) k_fpc (zs 270 122 az) k_fct fct k_fce (bN 16 q_fce)) ++ zp 4 16 N az ac kz qs fz) H := hP
    have hD : va_D A ((rm__w rm rcv (nI (rk + 1)) rmd (nI ru) rpc rct rce (az 392) k_fcv (va_up fcv ((nI rk) : Int32).toNatClampNeg (some (az kk))) k_fmd (zs 242 28 az) k_fpc (zs 270 122 az) k_fct fct k_fce (bN 16 q_fce)) ++ zp 4 16 N az ac kz qs fz) := hD
    exact W.vret hx hb hr (fun t ht hW => ⟨⟨(), rfl, trivial, ⟨(va_up fcv ((nI rk) : Int32).toNatClampNeg (some (az kk))), (rk + 1), ⟨by rw [ht]; exact hP, va_K.moved hW.alike hK, hD⟩, (by omega), by first | assumption | exact cv_new hq0 hq1 (by omega)⟩⟩, hS.F ht⟩) hS.2.2 eX5_add_32
