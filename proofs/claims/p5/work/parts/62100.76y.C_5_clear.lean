theorem eX5_clear_0 : decode cX5_clear 0 = .ok (.aload_n 0, 1) := by decide +kernel
theorem eX5_clear_1 : decode cX5_clear 1 = .ok (.iconst 0, 1) := by decide +kernel
theorem eX5_clear_2 : decode cX5_clear 2 = .ok (.putfield 37, 3) := by decide +kernel
theorem eX5_clear_5 : decode cX5_clear 5 = .ok (.aload_n 0, 1) := by decide +kernel
theorem eX5_clear_6 : decode cX5_clear 6 = .ok (.iconst 0, 1) := by decide +kernel
theorem eX5_clear_7 : decode cX5_clear 7 = .ok (.putfield 41, 3) := by decide +kernel
theorem eX5_clear_10 : decode cX5_clear 10 = .ok (.return_, 1) := by decide +kernel
abbrev vs_C_5_clear : List Cond := .code yX5_clear cX5_clear 1 none :: CM
set_option maxHeartbeats 4000000 in
set_option maxRecDepth 100000 in
theorem c_C_5_clear (l : Launch) (dC : Nat → ClassId) (dI : Nat → Nat → Nat) (sz : Nat) (rm : Nat) (rcv : Nat) (rk : Nat) (rmd : Nat) (ru : Nat) (rpc : Nat) (rct : Nat) (rce : Nat) (k_fcv : ClassId) (fcv : Nat → Option Nat) (k_fmd : ClassId) (k_fpc : ClassId) (k_fct : ClassId) (fct : Nat → Int32) (k_fce : ClassId) (q_fce : Nat → Nat) (N : Nat) (az ac : Nat → Nat) (kz : Nat → ClassId) (qs : Nat → Nat) (fz : Nat → Nat → Int32) (hrk : rk ≤ 120) (hru : ru ≤ 28) (hN : 393 ≤ N) : Met l yX5_clear vs_C_5_clear ({ frames := 0, cells := 0, slots := 0, locals := 0 }) (va_Pc [.ref rm] (pu_B (dC, dI) ((rm__w rm rcv (nI rk) rmd (nI ru) rpc rct rce (az 392) k_fcv fcv k_fmd (zs 242 28 az) k_fpc (zs 270 122 az) k_fct fct k_fce (bN 16 q_fce)) ++ zp 4 16 N az ac kz qs fz) ((rm__t k_fcv k_fmd k_fpc k_fct k_fce) ++ zt N kz) sz)) (va_Qv (fun (_ : Unit) => True) (fun _ t => pu_E (dC, dI) ((rm__w rm rcv 0 rmd 0 rpc rct rce (az 392) k_fcv fcv k_fmd (zs 242 28 az) k_fpc (zs 270 122 az) k_fct fct k_fce (bN 16 q_fce)) ++ zp 4 16 N az ac kz qs fz) ((rm__t k_fcv k_fmd k_fpc k_fct k_fce) ++ zt N kz) (va_A (((rm__w rm rcv (nI rk) rmd (nI ru) rpc rct rce (az 392) k_fcv fcv k_fmd (zs 242 28 az) k_fpc (zs 270 122 az) k_fct fct k_fce (bN 16 q_fce)) ++ zp 4 16 N az ac kz qs fz)) sz) t) (va_A (((rm__w rm rcv (nI rk) rmd (nI ru) rpc rct rce (az 392) k_fcv fcv k_fmd (zs 242 28 az) k_fpc (zs 270 122 az) k_fct fct k_fce (bN 16 q_fce)) ++ zp 4 16 N az ac kz qs fz)) sz)) 0 0 (va_A (((rm__w rm rcv (nI rk) rmd (nI ru) rpc rct rce (az 392) k_fcv fcv k_fmd (zs 242 28 az) k_fpc (zs 270 122 az) k_fct fct k_fce (bN 16 q_fce)) ++ zp 4 16 N az ac kz qs fz)) sz) := by
  refine Met.ofW (cc := cX5_clear) (maxL := 1) (ret := none) (by decide) rfl ?_
  intro p e s m args below meth c s₁ B hml hv
  obtain ⟨rfl, rfl, hP, hK, hD0⟩ := hv
  have hx := B.exec
  have hb := B.bytes
  have hr := B.returns
  have hts := atoms_spec (ws := vs_C_5_clear) B.pre
  have v_1 := hts (.fieldLink RX5 37 "ClockReach$Remainder" "count" "I") (List.mem_cons_of_mem _ cm_316)
  have v_2 := hts (.fieldLink RX5 41 "ClockReach$Remainder" "used" "I") (List.mem_cons_of_mem _ cm_317)
  have hown : s.vm.findClass RX5 = some m.cls := findClass_of_methodNamed B.named
  have hlocks := B.notSynchronized
  have hiX5 : ∀ w ∈ wsX50, w ∈ vs_C_5_clear := fun _ h => List.mem_cons_of_mem _ (cm_X5 h)
  have hD := hD0.self (sz := s.heap.size)
  generalize hAe : va_A (((rm__w rm rcv (nI rk) rmd (nI ru) rpc rct rce (az 392) k_fcv fcv k_fmd (zs 242 28 az) k_fpc (zs 270 122 az) k_fct fct k_fce (bN 16 q_fce)) ++ zp 4 16 N az ac kz qs fz)) s.heap.size = A at hD ⊢
  have hA : ∀ q : Nat, s.heap.size ≤ q → A q := fun q h => by rw [← hAe]; exact Or.inr h
  have hS : va_S A s.heap s.heap [] := va_S.rf
  have hl := lv_entry ([.ref rm]) (n := 1) (Nat.le_of_ble_eq_true rfl)
  rw [lg_entry_eq]
  generalize (lg_sl ([.ref rm]) ++ List.replicate (1 - (lg_sl ([.ref rm])).length) Slot.unset).toArray = ls at hl ⊢
  have hl : lv_has ls 1 [(0, .ref rm)] := hl
  refine lv_aload_n hx hb eX5_clear_0 rfl (lv_at hl 0 rfl) ?_
  refine lv_iconst (v := 0) hx hb eX5_clear_1 (by decide) ?_
  refine va_put (D := (dC, dI)) (ci := 5) (v := .int 0) (ty := .int) (C := RX5) (T := TX5) (N := 8) hx hb hts hiX5 tyX5 tyX5_ok nmX5 hown hK hP hD hS 0 rfl rfl 1 (by decide) v_1 (fun _ h9 => h9) rfl (by decide +kernel) rfl rfl (Nat.le_of_ble_eq_true rfl) eX5_clear_2 (fun H locs hP hD hS => ?_)
  have hP : va_P (dC, dI) vwCl ((rm__w rm rcv 0 rmd (nI ru) rpc rct rce (az 392) k_fcv fcv k_fmd (zs 242 28 az) k_fpc (zs 270 122 az) k_fct fct k_fce (bN 16 q_fce)) ++ zp 4 16 N az ac kz qs fz) H := hP
  have hD : va_D A ((rm__w rm rcv 0 rmd (nI ru) rpc rct rce (az 392) k_fcv fcv k_fmd (zs 242 28 az) k_fpc (zs 270 122 az) k_fct fct k_fce (bN 16 q_fce)) ++ zp 4 16 N az ac kz qs fz) := hD
  refine lv_aload_n hx hb eX5_clear_5 rfl (lv_at hl 0 rfl) ?_
  refine lv_iconst (v := 0) hx hb eX5_clear_6 (by decide) ?_
  refine va_put (D := (dC, dI)) (ci := 5) (v := .int 0) (ty := .int) (C := RX5) (T := TX5) (N := 8) hx hb hts hiX5 tyX5 tyX5_ok nmX5 hown hK hP hD hS 0 rfl rfl 3 (by decide) v_2 (fun _ h9 => h9) rfl (by decide +kernel) rfl rfl (Nat.le_of_ble_eq_true rfl) eX5_clear_7 (fun H locs hP hD hS => ?_)
  have hP : va_P (dC, dI) vwCl ((rm__w rm rcv 0 rmd 0 rpc rct rce (az 392) k_fcv fcv k_fmd (zs 242 28 az) k_fpc (zs 270 122 az) k_fct fct k_fce (bN 16 q_fce)) ++ zp 4 16 N az ac kz qs fz) H := hP
  have hD : va_D A ((rm__w rm rcv 0 rmd 0 rpc rct rce (az 392) k_fcv fcv k_fmd (zs 242 28 az) k_fpc (zs 270 122 az) k_fct fct k_fce (bN 16 q_fce)) ++ zp 4 16 N az ac kz qs fz) := hD
  exact W.vret hx hb hr (fun t ht hW => ⟨⟨(), rfl, trivial, ⟨by rw [ht]; exact hP, va_K.moved hW.alike hK, hD⟩⟩, hS.F ht⟩) hS.2.2 eX5_clear_10
