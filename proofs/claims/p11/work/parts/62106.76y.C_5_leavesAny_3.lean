theorem eX5_leavesAny_0 : decode cX5_leavesAny 0 = .ok (.aload_n 0, 1) := by decide +kernel
theorem eX5_leavesAny_1 : decode cX5_leavesAny 1 = .ok (.getfield 23, 3) := by decide +kernel
theorem eX5_leavesAny_4 : decode cX5_leavesAny 4 = .ok (.iconst 0, 1) := by decide +kernel
theorem eX5_leavesAny_5 : decode cX5_leavesAny 5 = .ok (.aaload, 1) := by decide +kernel
theorem eX5_leavesAny_6 : decode cX5_leavesAny 6 = .ok (.aload_n 1, 1) := by decide +kernel
theorem eX5_leavesAny_7 : decode cX5_leavesAny 7 = .ok (.invokevirtual 60, 3) := by decide +kernel
theorem eX5_leavesAny_10 : decode cX5_leavesAny 10 = .ok (.aload_n 0, 1) := by decide +kernel
theorem eX5_leavesAny_11 : decode cX5_leavesAny 11 = .ok (.getfield 26, 3) := by decide +kernel
theorem eX5_leavesAny_14 : decode cX5_leavesAny 14 = .ok (.iconst 0, 1) := by decide +kernel
theorem eX5_leavesAny_15 : decode cX5_leavesAny 15 = .ok (.aload_n 0, 1) := by decide +kernel
theorem eX5_leavesAny_16 : decode cX5_leavesAny 16 = .ok (.aload_n 1, 1) := by decide +kernel
theorem eX5_leavesAny_17 : decode cX5_leavesAny 17 = .ok (.iconst 0, 1) := by decide +kernel
theorem eX5_leavesAny_18 : decode cX5_leavesAny 18 = .ok (.invokevirtual 89, 3) := by decide +kernel
theorem eX5_leavesAny_21 : decode cX5_leavesAny 21 = .ok (.iastore, 1) := by decide +kernel
theorem eX5_leavesAny_22 : decode cX5_leavesAny 22 = .ok (.aload_n 0, 1) := by decide +kernel
theorem eX5_leavesAny_23 : decode cX5_leavesAny 23 = .ok (.getfield 30, 3) := by decide +kernel
theorem eX5_leavesAny_26 : decode cX5_leavesAny 26 = .ok (.iconst 0, 1) := by decide +kernel
theorem eX5_leavesAny_27 : decode cX5_leavesAny 27 = .ok (.iconst 0, 1) := by decide +kernel
theorem eX5_leavesAny_28 : decode cX5_leavesAny 28 = .ok (.iastore, 1) := by decide +kernel
theorem eX5_leavesAny_29 : decode cX5_leavesAny 29 = .ok (.aload_n 0, 1) := by decide +kernel
theorem eX5_leavesAny_30 : decode cX5_leavesAny 30 = .ok (.getfield 26, 3) := by decide +kernel
theorem eX5_leavesAny_33 : decode cX5_leavesAny 33 = .ok (.iconst 0, 1) := by decide +kernel
theorem eX5_leavesAny_34 : decode cX5_leavesAny 34 = .ok (.iaload, 1) := by decide +kernel
theorem eX5_leavesAny_35 : decode cX5_leavesAny 35 = .ok (.iconst (-1), 1) := by decide +kernel
theorem eX5_leavesAny_36 : decode cX5_leavesAny 36 = .ok (.if_icmp .ne 7, 3) := by decide +kernel
theorem eX5_leavesAny_39 : decode cX5_leavesAny 39 = .ok (.iconst (-1), 1) := by decide +kernel
theorem eX5_leavesAny_40 : decode cX5_leavesAny 40 = .ok (.goto 4, 3) := by decide +kernel
theorem eX5_leavesAny_43 : decode cX5_leavesAny 43 = .ok (.iconst 0, 1) := by decide +kernel
theorem eX5_leavesAny_44 : decode cX5_leavesAny 44 = .ok (.istore_n 2, 1) := by decide +kernel
theorem eX5_leavesAny_45 : decode cX5_leavesAny 45 = .ok (.iconst 0, 1) := by decide +kernel
theorem eX5_leavesAny_46 : decode cX5_leavesAny 46 = .ok (.istore_n 3, 1) := by decide +kernel
theorem eX5_leavesAny_47 : decode cX5_leavesAny 47 = .ok (.iload_n 3, 1) := by decide +kernel
theorem eX5_leavesAny_48 : decode cX5_leavesAny 48 = .ok (.ldc 93, 2) := by decide +kernel
theorem eX5_leavesAny_50 : decode cX5_leavesAny 50 = .ok (.if_icmp .ge 57, 3) := by decide +kernel
theorem eX5_leavesAny_53 : decode cX5_leavesAny 53 = .ok (.iload_n 2, 1) := by decide +kernel
theorem eX5_leavesAny_54 : decode cX5_leavesAny 54 = .ok (.ifCond .lt 53, 3) := by decide +kernel
theorem eX5_leavesAny_57 : decode cX5_leavesAny 57 = .ok (.aload_n 0, 1) := by decide +kernel
theorem eX5_leavesAny_58 : decode cX5_leavesAny 58 = .ok (.getfield 26, 3) := by decide +kernel
theorem eX5_leavesAny_61 : decode cX5_leavesAny 61 = .ok (.iload_n 2, 1) := by decide +kernel
theorem eX5_leavesAny_62 : decode cX5_leavesAny 62 = .ok (.iaload, 1) := by decide +kernel
theorem eX5_leavesAny_63 : decode cX5_leavesAny 63 = .ok (.aload_n 0, 1) := by decide +kernel
theorem eX5_leavesAny_64 : decode cX5_leavesAny 64 = .ok (.getfield 37, 3) := by decide +kernel
theorem eX5_leavesAny_67 : decode cX5_leavesAny 67 = .ok (.if_icmp .ne 5, 3) := by decide +kernel
theorem eX5_leavesAny_70 : decode cX5_leavesAny 70 = .ok (.iconst 1, 1) := by decide +kernel
theorem eX5_leavesAny_71 : decode cX5_leavesAny 71 = .ok (.ireturn, 1) := by decide +kernel
theorem eX5_leavesAny_72 : decode cX5_leavesAny 72 = .ok (.aload_n 0, 1) := by decide +kernel
theorem eX5_leavesAny_73 : decode cX5_leavesAny 73 = .ok (.iload_n 2, 1) := by decide +kernel
theorem eX5_leavesAny_74 : decode cX5_leavesAny 74 = .ok (.invokevirtual 94, 3) := by decide +kernel
theorem eX5_leavesAny_77 : decode cX5_leavesAny 77 = .ok (.ifCond .ne 9, 3) := by decide +kernel
theorem eX5_leavesAny_80 : decode cX5_leavesAny 80 = .ok (.iinc 2 (-1), 3) := by decide +kernel
theorem eX5_leavesAny_83 : decode cX5_leavesAny 83 = .ok (.goto 18, 3) := by decide +kernel
theorem eX5_leavesAny_86 : decode cX5_leavesAny 86 = .ok (.aload_n 0, 1) := by decide +kernel
theorem eX5_leavesAny_87 : decode cX5_leavesAny 87 = .ok (.getfield 26, 3) := by decide +kernel
theorem eX5_leavesAny_90 : decode cX5_leavesAny 90 = .ok (.iload_n 2, 1) := by decide +kernel
theorem eX5_leavesAny_91 : decode cX5_leavesAny 91 = .ok (.iconst 1, 1) := by decide +kernel
theorem eX5_leavesAny_92 : decode cX5_leavesAny 92 = .ok (.iadd, 1) := by decide +kernel
theorem eX5_leavesAny_93 : decode cX5_leavesAny 93 = .ok (.iaload, 1) := by decide +kernel
theorem eX5_leavesAny_94 : decode cX5_leavesAny 94 = .ok (.iconst (-1), 1) := by decide +kernel
theorem eX5_leavesAny_95 : decode cX5_leavesAny 95 = .ok (.if_icmp .eq 6, 3) := by decide +kernel
theorem eX5_leavesAny_98 : decode cX5_leavesAny 98 = .ok (.iinc 2 1, 3) := by decide +kernel
theorem eX5_leavesAny_101 : decode cX5_leavesAny 101 = .ok (.iinc 3 1, 3) := by decide +kernel
theorem eX5_leavesAny_104 : decode cX5_leavesAny 104 = .ok (.goto (-57), 3) := by decide +kernel
theorem eX5_leavesAny_107 : decode cX5_leavesAny 107 = .ok (.iload_n 2, 1) := by decide +kernel
theorem eX5_leavesAny_108 : decode cX5_leavesAny 108 = .ok (.ifCond .lt 7, 3) := by decide +kernel
theorem eX5_leavesAny_111 : decode cX5_leavesAny 111 = .ok (.iconst 1, 1) := by decide +kernel
theorem eX5_leavesAny_112 : decode cX5_leavesAny 112 = .ok (.goto 4, 3) := by decide +kernel
theorem eX5_leavesAny_115 : decode cX5_leavesAny 115 = .ok (.iconst 0, 1) := by decide +kernel
theorem eX5_leavesAny_116 : decode cX5_leavesAny 116 = .ok (.ireturn, 1) := by decide +kernel
abbrev vs_C_5_leavesAny : List Cond := .code yX5_leavesAny cX5_leavesAny 4 (some .boolean) :: CM
theorem g_C_5_leavesAny_E_7_copyOf_16 : GoodIn vs_C_5_leavesAny (wsV RX5 60 RX7 yX7_copyOf vs_E_7_copyOf_16) := cm_gV cm_333 cm_130 cm_131 cm_45 cm_132
theorem g_C_5_leavesAny_C_5_nextCover : GoodIn vs_C_5_leavesAny (wsV RX5 89 RX5 yX5_nextCover vs_C_5_nextCover) := cm_gV cm_351 cm_352 cm_353 cm_332 cm_354
theorem g_C_5_leavesAny_C_5_splits : GoodIn vs_C_5_leavesAny (wsV RX5 94 RX5 yX5_splits vs_C_5_splits) := cm_gV cm_359 cm_360 cm_361 cm_332 cm_362
set_option maxHeartbeats 4000000 in
set_option maxRecDepth 100000 in
theorem c_C_5_leavesAny (l : Launch) (dC : Nat → ClassId) (dI : Nat → Nat → Nat) (sz : Nat) (rm : Nat) (rcv : Nat) (rk : Nat) (rmd : Nat) (ru : Nat) (rpc : Nat) (rct : Nat) (rce : Nat) (k_fcv : ClassId) (fcv : Nat → Option Nat) (k_fmd : ClassId) (k_fpc : ClassId) (k_fct : ClassId) (fct : Nat → Int32) (k_fce : ClassId) (q_fce : Nat → Nat) (N : Nat) (az ac : Nat → Nat) (kz : Nat → ClassId) (qs : Nat → Nat) (fz : Nat → Nat → Int32) (kk : Nat) (hrk : rk ≤ 120) (hru : ru ≤ 28) (hN : 393 ≤ N) (hkk : kk < N) (hq0 : cv_ok rk fcv az) (hq1 : kk ≤ 269) : Met l yX5_leavesAny vs_C_5_leavesAny ({ frames := 4, cells := 0, slots := 0, locals := 105 }) (va_Pc [.ref rm, .ref (az kk)] (pu_B (dC, dI) ((rm__w rm rcv (nI rk) rmd (nI ru) rpc rct rce (az 392) k_fcv fcv k_fmd (zs 242 28 az) k_fpc (zs 270 122 az) k_fct fct k_fce (bN 16 q_fce)) ++ zp 4 16 N az ac kz qs fz) ((rm__t k_fcv k_fmd k_fpc k_fct k_fce) ++ zt N kz) sz)) (va_Qi (fun (r : Int32) (_ : Unit) => ∃ v : Nat, v ≤ 1 ∧ r = nI v) (fun _ t => ∃ (z_fct : Nat → Int32) (z_fce : Nat → Nat) (z_fz : Nat → Nat → Int32) (z_qs : Nat → Nat), pu_E (dC, dI) ((rm__w rm rcv (nI rk) rmd (nI ru) rpc rct rce (az 392) k_fcv fcv k_fmd (zs 242 28 az) k_fpc (zs 270 122 az) k_fct z_fct k_fce (bN 16 z_fce)) ++ zp 4 16 N az ac kz z_qs z_fz) ((rm__t k_fcv k_fmd k_fpc k_fct k_fce) ++ zt N kz) (va_A (((rm__w rm rcv (nI rk) rmd (nI ru) rpc rct rce (az 392) k_fcv fcv k_fmd (zs 242 28 az) k_fpc (zs 270 122 az) k_fct fct k_fce (bN 16 q_fce)) ++ zp 4 16 N az ac kz qs fz)) sz) t) (va_A (((rm__w rm rcv (nI rk) rmd (nI ru) rpc rct rce (az 392) k_fcv fcv k_fmd (zs 242 28 az) k_fpc (zs 270 122 az) k_fct fct k_fce (bN 16 q_fce)) ++ zp 4 16 N az ac kz qs fz)) sz)) 0 0 (va_A (((rm__w rm rcv (nI rk) rmd (nI ru) rpc rct rce (az 392) k_fcv fcv k_fmd (zs 242 28 az) k_fpc (zs 270 122 az) k_fct fct k_fce (bN 16 q_fce)) ++ zp 4 16 N az ac kz qs fz)) sz) := by
  refine Met.ofW (cc := cX5_leavesAny) (maxL := 4) (ret := (some .boolean)) (by decide) rfl ?_
  intro p e s m args below meth c s₁ B hml hv
  obtain ⟨rfl, rfl, hP, hK, hD0⟩ := hv
  have hx := B.exec
  have hb := B.bytes
  have hr := B.returns
  have hts := atoms_spec (ws := vs_C_5_leavesAny) B.pre
  have v_1 := hts (.fieldLink RX5 23 "ClockReach$Remainder" "pieces" "[LClockReach$Zone;") (List.mem_cons_of_mem _ cm_347)
  have v_7 := hts (.fieldLink RX5 26 "ClockReach$Remainder" "cutting" "[I") (List.mem_cons_of_mem _ cm_348)
  have v_13 := hts (.fieldLink RX5 30 "ClockReach$Remainder" "cells" "[I") (List.mem_cons_of_mem _ cm_349)
  have v_14 := hts (.constant RX5 93 (100000000)) (List.mem_cons_of_mem _ cm_350)
  have v_15 := hts (.fieldLink RX5 37 "ClockReach$Remainder" "count" "I") (List.mem_cons_of_mem _ cm_316)
  have hown : s.vm.findClass RX5 = some m.cls := findClass_of_methodNamed B.named
  have hlocks := B.notSynchronized
  have hiX5 : ∀ w ∈ wsX50, w ∈ vs_C_5_leavesAny := fun _ h => List.mem_cons_of_mem _ (cm_X5 h)
  have hD := hD0.self (sz := s.heap.size)
  generalize hAe : va_A (((rm__w rm rcv (nI rk) rmd (nI ru) rpc rct rce (az 392) k_fcv fcv k_fmd (zs 242 28 az) k_fpc (zs 270 122 az) k_fct fct k_fce (bN 16 q_fce)) ++ zp 4 16 N az ac kz qs fz)) s.heap.size = A at hD ⊢
  have hA : ∀ q : Nat, s.heap.size ≤ q → A q := fun q h => by rw [← hAe]; exact Or.inr h
  have hS : va_S A s.heap s.heap [] := va_S.rf
  have hl := lv_entry ([.ref rm, .ref (az kk)]) (n := 4) (Nat.le_of_ble_eq_true rfl)
  rw [lg_entry_eq]
  generalize (lg_sl ([.ref rm, .ref (az kk)]) ++ List.replicate (4 - (lg_sl ([.ref rm, .ref (az kk)])).length) Slot.unset).toArray = ls at hl ⊢
  have hl : lv_has ls 4 [(0, .ref rm), (1, .ref (az kk))] := hl
  refine lv_aload_n hx hb eX5_leavesAny_0 rfl (lv_at hl 0 rfl) ?_
  refine va_get (D := (dC, dI)) (ci := 5) (v := .ref rpc) (C := RX5) (T := TX5) (N := 8) hx hb hts hiX5 hown hK hP 0 rfl rfl 4 (by decide) v_1 (fun _ h9 => h9) rfl eX5_leavesAny_1 ?_
  refine lv_iconst (v := 0) hx hb eX5_leavesAny_4 (by decide) ?_
  refine va_aldq hx hb hK hP 3 2 rfl rfl (vp_in_nI (n := 0) (Nat.le_of_ble_eq_true rfl) (Nat.le_of_ble_eq_true rfl)) eX5_leavesAny_5 ?_
  refine W.eq (g2 := F0 m 6 ls [.ref (az (270 + 0))]) (by rw [← zs_get (o := 270) (n := 122) (k := 0) (az := az) (Nat.le_of_ble_eq_true rfl) (by omega)]; rfl) ?_
  refine lv_aload_n hx hb eX5_leavesAny_6 rfl (lv_at hl 1 rfl) ?_
  have hPz := zp_cut (k := (270 + 0)) hP (by omega)
  have hPy := zp_cut (k := kk) hP (by omega)
  have hPc : va_P (dC, dI) vwCl ([(az kk, .inr (7, [.ref (ac kk), .int (nI (min (qs kk) 4))])), (ac kk, .inl (kz kk, 16, .inl (fz kk)))] ++ [(az (270 + 0), .inr (7, [.ref (ac (270 + 0)), .int (nI (min (qs (270 + 0)) 4))])), (ac (270 + 0), .inl (kz (270 + 0), 16, .inl (fz (270 + 0))))]) _ := va_P.app hPy hPz
  have hDc : va_D A ([(az kk, .inr (7, [.ref (ac kk), .int (nI (min (qs kk) 4))])), (ac kk, .inl (kz kk, 16, .inl (fz kk)))] ++ [(az (270 + 0), .inr (7, [.ref (ac (270 + 0)), .int (nI (min (qs (270 + 0)) 4))])), (ac (270 + 0), .inl (kz (270 + 0), 16, .inl (fz (270 + 0))))]) := zp_cutD2 hD (by omega) (by omega) (by omega)
  have hKc : va_K (dC, dI) vwCl [(kz kk, .int), (kz (270 + 0), .int)] s := zp_K2 hK (by omega) (by omega)
  have hFc := pu_free hDc hS hA
  refine va_callv (va_runV (As := [.ref (az kk)]) (rest := []) ⟨hx, hb, hml, hown, hts⟩ (c_E_7_copyOf_16 l dC dI _ (az kk) (ac kk) (min (qs kk) 4) (kz kk) (fz kk) (az (270 + 0)) (ac (270 + 0)) (min (qs (270 + 0)) 4) (kz (270 + 0)) (fz (270 + 0)) (Nat.min_le_right _ _) (Nat.min_le_right _ _)) (cwV 1 hts g_C_5_leavesAny_E_7_copyOf_16 rfl rfl rfl (by decide +kernel) ⟨Nat.le_of_ble_eq_true rfl, Nat.le_of_ble_eq_true rfl⟩) ⟨pu_bl, va_recv hK hPz (ci := 7) (q0 := 0) rfl rfl, pu_in hPc hKc hDc⟩ rfl rfl hl.1 rfl (lv_room (Nat.le_of_ble_eq_true rfl)) eX5_leavesAny_7 ⟨Nat.le_of_ble_eq_true rfl, Nat.le_of_ble_eq_true rfl⟩) hS (fun q _ h => hFc q h) hFc (fun u t H1 locs ht hvm hw hB hz1 hk1 hS => ?_)
  obtain ⟨z_fz_2, ⟨hP1, -, hD1⟩, xr_1_0⟩ := hB
  rw [ht] at hP1
  obtain ⟨qs_3, fz_4, hP, hD⟩ := zp_put (wr := [(az kk, .inr (7, [.ref (ac kk), .int (nI (min (qs kk) 4))])), (ac kk, .inl (kz kk, 16, .inl (fz kk)))]) (k := (270 + 0)) hP hD (by omega) (zp_two (by omega)) hk1 (Nat.min_le_right _ _) hP1
  clear hP1 hD1 hFc
  clear hPc hDc hKc
  clear hk1 hz1 ht hvm
  generalize H1 = H at hP hS ⊢
  refine lv_aload_n hx hb eX5_leavesAny_10 rfl (lv_at hl 0 rfl) ?_
  refine va_get (D := (dC, dI)) (ci := 5) (v := .ref rct) (C := RX5) (T := TX5) (N := 8) hx hb hts hiX5 hown hK hP 0 rfl rfl 5 (by decide) v_7 (fun _ h9 => h9) rfl eX5_leavesAny_11 ?_
  refine lv_iconst (v := 0) hx hb eX5_leavesAny_14 (by decide) ?_
  refine lv_aload_n hx hb eX5_leavesAny_15 rfl (lv_at hl 0 rfl) ?_
  refine lv_aload_n hx hb eX5_leavesAny_16 rfl (lv_at hl 1 rfl) ?_
  refine lv_iconst (v := 0) hx hb eX5_leavesAny_17 (by decide) ?_
  have hFc := pu_free hD hS hA
  refine va_calli (va_runV (As := [.ref (az kk), .int 0]) (rest := [.int 0, .ref rct]) ⟨hx, hb, hml, hown, hts⟩ (c_C_5_nextCover l dC dI _ rm rcv rk rmd ru rpc rct rce k_fcv fcv k_fmd k_fpc k_fct fct k_fce q_fce N az ac kz qs_3 fz_4 kk 0 hrk hru (by omega) (by omega) (Nat.le_of_ble_eq_true rfl) (by assumption) (by omega) (by omega)) (cwV 2 hts g_C_5_leavesAny_C_5_nextCover rfl rfl rfl (by decide +kernel) ⟨Nat.le_of_ble_eq_true rfl, Nat.le_of_ble_eq_true rfl⟩) ⟨pu_bl, va_recv hK hP (ci := 5) (q0 := 0) rfl rfl, pu_in hP hK hD⟩ rfl rfl hl.1 rfl (lv_room (Nat.le_of_ble_eq_true rfl)) eX5_leavesAny_18 ⟨Nat.le_of_ble_eq_true rfl, Nat.le_of_ble_eq_true rfl⟩) hS (fun q _ h => hFc q h) hFc (fun r_5 u t H1 locs ht hvm hw hB hz1 hk1 hS => ?_)
  obtain ⟨z_fz_6, z_qs_7, ⟨hP1, -, hD1⟩⟩ := hB
  rw [ht] at hP1
  have hP := hP1
  have hD := pu_all hFc hD1
  clear hP1 hD1 hFc
  clear hk1 hz1 ht hvm
  generalize H1 = H at hP hS ⊢
  rcases hw with rfl | ⟨u_8, iu_8, ju_8, rfl⟩
  · refine va_iast hx hb hK hP hD hS 4 3 rfl rfl (vp_in_nI (n := 0) (Nat.le_of_ble_eq_true rfl) (Nat.le_of_ble_eq_true rfl)) eX5_leavesAny_21 (fun H locs hP hD hS => ?_)
    have hP : va_P (dC, dI) vwCl ((rm__w rm rcv (nI rk) rmd (nI ru) rpc rct rce (az 392) k_fcv fcv k_fmd (zs 242 28 az) k_fpc (zs 270 122 az) k_fct (upd fct (0 : Int32).toNatClampNeg (-1)) k_fce (bN 16 q_fce)) ++ zp 4 16 N az ac kz z_qs_7 z_fz_6) H := hP
    have hD : va_D A ((rm__w rm rcv (nI rk) rmd (nI ru) rpc rct rce (az 392) k_fcv fcv k_fmd (zs 242 28 az) k_fpc (zs 270 122 az) k_fct (upd fct (0 : Int32).toNatClampNeg (-1)) k_fce (bN 16 q_fce)) ++ zp 4 16 N az ac kz z_qs_7 z_fz_6) := hD
    refine lv_aload_n hx hb eX5_leavesAny_22 rfl (lv_at hl 0 rfl) ?_
    refine va_get (D := (dC, dI)) (ci := 5) (v := .ref rce) (C := RX5) (T := TX5) (N := 8) hx hb hts hiX5 hown hK hP 0 rfl rfl 6 (by decide) v_13 (fun _ h9 => h9) rfl eX5_leavesAny_23 ?_
    refine lv_iconst (v := 0) hx hb eX5_leavesAny_26 (by decide) ?_
    refine lv_iconst (v := 0) hx hb eX5_leavesAny_27 (by decide) ?_
    refine va_iast hx hb hK hP hD hS 5 4 rfl rfl (vp_in_nI (n := 0) (Nat.le_of_ble_eq_true rfl) (Nat.le_of_ble_eq_true rfl)) eX5_leavesAny_28 (fun H locs hP hD hS => ?_)
    obtain ⟨q_9, eq_9, kq_9⟩ := bN_up 16 q_fce ((0 : Int32).toNatClampNeg) (v := 0) (Nat.le_of_ble_eq_true rfl)
    have hP : va_P (dC, dI) vwCl ((rm__w rm rcv (nI rk) rmd (nI ru) rpc rct rce (az 392) k_fcv fcv k_fmd (zs 242 28 az) k_fpc (zs 270 122 az) k_fct (upd fct (0 : Int32).toNatClampNeg (-1)) k_fce (bN 16 q_9)) ++ zp 4 16 N az ac kz z_qs_7 z_fz_6) H := by rw [← eq_9]; exact hP
    have hD : va_D A ((rm__w rm rcv (nI rk) rmd (nI ru) rpc rct rce (az 392) k_fcv fcv k_fmd (zs 242 28 az) k_fpc (zs 270 122 az) k_fct (upd fct (0 : Int32).toNatClampNeg (-1)) k_fce (bN 16 q_9)) ++ zp 4 16 N az ac kz z_qs_7 z_fz_6) := by rw [← eq_9]; exact hD
    refine lv_aload_n hx hb eX5_leavesAny_29 rfl (lv_at hl 0 rfl) ?_
    refine va_get (D := (dC, dI)) (ci := 5) (v := .ref rct) (C := RX5) (T := TX5) (N := 8) hx hb hts hiX5 hown hK hP 0 rfl rfl 5 (by decide) v_7 (fun _ h9 => h9) rfl eX5_leavesAny_30 ?_
    refine lv_iconst (v := 0) hx hb eX5_leavesAny_33 (by decide) ?_
    refine va_iald hx hb hK hP 4 3 rfl rfl (vp_in_nI (n := 0) (Nat.le_of_ble_eq_true rfl) (Nat.le_of_ble_eq_true rfl)) eX5_leavesAny_34 ?_
    refine lv_topi (fun y_10 ey_10 => ?_)
    obtain rfl : y_10 = (-1) := ey_10.trans pk_us
    refine lv_iconst (v := (-1)) hx hb eX5_leavesAny_35 (by decide) ?_
    refine lv_icmp_ne (tgt := 43) hx hb eX5_leavesAny_36 (by decide) (fun z => absurd z (by decide)) (fun _ => ?_)
    refine lv_iconst (v := (-1)) hx hb eX5_leavesAny_39 (by decide) ?_
    refine lv_goto (tgt := 44) hx hb eX5_leavesAny_40 (by decide) ?_
    refine lv_istore_n (lv' := [(2, .int (-1)), (0, .ref rm), (1, .ref (az kk))]) hx hb eX5_leavesAny_44 rfl hl (by decide) rfl (fun ls hl => ?_)
    refine lv_iconst (v := 0) hx hb eX5_leavesAny_45 (by decide) ?_
    refine lv_istore_n (lv' := [(3, .int 0), (2, .int (-1)), (0, .ref rm), (1, .ref (az kk))]) hx hb eX5_leavesAny_46 rfl hl (by decide) rfl (fun ls hl => ?_)
    refine pu_while (fun nn H locs ls => ∃ (kk_11 tt_12 : Nat) (fct_13 : Nat → Int32) (qce_14 : Nat → Nat) (qs_15 : Nat → Nat) (fz_16 : Nat → Nat → Int32), nn = 100000000 - tt_12 ∧ tt_12 ≤ 100000000 ∧ ctk kk_11 rk fct_13 ∧ va_P (dC, dI) vwCl ((rm__w rm rcv (nI rk) rmd (nI ru) rpc rct rce (az 392) k_fcv fcv k_fmd (zs 242 28 az) k_fpc (zs 270 122 az) k_fct fct_13 k_fce (bN 16 qce_14)) ++ zp 4 16 N az ac kz qs_15 fz_16) H ∧ va_D A ((rm__w rm rcv (nI rk) rmd (nI ru) rpc rct rce (az 392) k_fcv fcv k_fmd (zs 242 28 az) k_fpc (zs 270 122 az) k_fct fct_13 k_fce (bN 16 qce_14)) ++ zp 4 16 N az ac kz qs_15 fz_16) ∧ va_S A s.heap H locs ∧ lv_has ls 4 [(0, .ref rm), (2, .int (nI kk_11 - 1)), (3, .int (nI tt_12))]) 47 ?_ _ _ _ _ ⟨0, 0, (upd fct (0 : Int32).toNatClampNeg (-1)), q_9, z_qs_7, z_fz_6, rfl, by omega, ct_0, hP, hD, hS, lv_sub hl [2, 1, 0] rfl⟩
    rintro nn ih_17 H locs ls ⟨kk_11, tt_12, fct_13, qce_14, qs_15, fz_16, hnn, htt_12, fkk_11, hP, hD, hS, hl⟩
    rcases kk_11 with _ | kk_11
    · rw [pu_k0] at hl
      refine lv_iload_n hx hb eX5_leavesAny_47 rfl (lv_at hl 2 rfl) ?_
      refine lv_ldc hx hb hown v_14 eX5_leavesAny_48 ?_
      refine lv_icmp_ge (tgt := 107) hx hb eX5_leavesAny_50 (by decide) (fun c_18 => ?_) (fun c_18 => ?_)
      · have c_18 : 100000000 ≤ tt_12 := (nI_leI (a := 100000000) (b := tt_12) (Nat.le_of_ble_eq_true rfl) (by omega)).mp c_18
        refine lv_iload_n hx hb eX5_leavesAny_107 rfl (lv_at hl 1 rfl) ?_
        refine lv_if_lt (tgt := 115) hx hb eX5_leavesAny_108 (by decide) (fun _ => ?_) (fun z => absurd z (by decide))
        refine lv_iconst (v := 0) hx hb eX5_leavesAny_115 (by decide) ?_
        exact W.zret (v := 0) (ty := .boolean) hx hb hr (rfl) (fun t ht hW => ⟨⟨0, (), rfl, ⟨0, (Nat.le_of_ble_eq_true rfl), rfl⟩, ⟨fct_13, qce_14, fz_16, qs_15, ⟨by rw [ht]; exact hP, va_K.moved hW.alike hK, hD⟩⟩⟩, hS.F ht⟩) hS.2.2 eX5_leavesAny_116
      · have c_18 : ¬ 100000000 ≤ tt_12 := fun z => c_18 ((nI_leI (a := 100000000) (b := tt_12) (Nat.le_of_ble_eq_true rfl) (by omega)).mpr z)
        refine lv_iload_n hx hb eX5_leavesAny_53 rfl (lv_at hl 1 rfl) ?_
        refine lv_if_lt (tgt := 107) hx hb eX5_leavesAny_54 (by decide) (fun _ => ?_) (fun z => absurd z (by decide))
        refine lv_iload_n hx hb eX5_leavesAny_107 rfl (lv_at hl 1 rfl) ?_
        refine lv_if_lt (tgt := 115) hx hb eX5_leavesAny_108 (by decide) (fun _ => ?_) (fun z => absurd z (by decide))
        refine lv_iconst (v := 0) hx hb eX5_leavesAny_115 (by decide) ?_
        exact W.zret (v := 0) (ty := .boolean) hx hb hr (rfl) (fun t ht hW => ⟨⟨0, (), rfl, ⟨0, (Nat.le_of_ble_eq_true rfl), rfl⟩, ⟨fct_13, qce_14, fz_16, qs_15, ⟨by rw [ht]; exact hP, va_K.moved hW.alike hK, hD⟩⟩⟩, hS.F ht⟩) hS.2.2 eX5_leavesAny_116
    · rw [nI_pred] at hl
      obtain ⟨vv_19, ivv_19, jvv_19, kvv_19⟩ := ct_get (i := kk_11) fkk_11 (by omega) (by omega)
      refine lv_iload_n hx hb eX5_leavesAny_47 rfl (lv_at hl 2 rfl) ?_
      refine lv_ldc hx hb hown v_14 eX5_leavesAny_48 ?_
      refine lv_icmp_ge (tgt := 107) hx hb eX5_leavesAny_50 (by decide) (fun c_20 => ?_) (fun c_20 => ?_)
      · have c_20 : 100000000 ≤ tt_12 := (nI_leI (a := 100000000) (b := tt_12) (Nat.le_of_ble_eq_true rfl) (by omega)).mp c_20
        refine lv_iload_n hx hb eX5_leavesAny_107 rfl (lv_at hl 1 rfl) ?_
        refine lv_if_lt (tgt := 115) hx hb eX5_leavesAny_108 (by decide) (fun c_21 => ?_) (fun c_21 => ?_)
        · have c_21 : kk_11 < 0 := (nI_ltI (a := kk_11) (b := 0) (by omega) (Nat.le_of_ble_eq_true rfl)).mp c_21
          exfalso
          omega
        · have c_21 : ¬ kk_11 < 0 := fun z => c_21 ((nI_ltI (a := kk_11) (b := 0) (by omega) (Nat.le_of_ble_eq_true rfl)).mpr z)
          refine lv_iconst (v := 1) hx hb eX5_leavesAny_111 (by decide) ?_
          refine lv_goto (tgt := 116) hx hb eX5_leavesAny_112 (by decide) ?_
          exact W.zret (v := 1) (ty := .boolean) hx hb hr (rfl) (fun t ht hW => ⟨⟨1, (), rfl, ⟨1, (Nat.le_of_ble_eq_true rfl), rfl⟩, ⟨fct_13, qce_14, fz_16, qs_15, ⟨by rw [ht]; exact hP, va_K.moved hW.alike hK, hD⟩⟩⟩, hS.F ht⟩) hS.2.2 eX5_leavesAny_116
      · have c_20 : ¬ 100000000 ≤ tt_12 := fun z => c_20 ((nI_leI (a := 100000000) (b := tt_12) (Nat.le_of_ble_eq_true rfl) (by omega)).mpr z)
        refine lv_iload_n hx hb eX5_leavesAny_53 rfl (lv_at hl 1 rfl) ?_
        refine lv_if_lt (tgt := 107) hx hb eX5_leavesAny_54 (by decide) (fun c_22 => ?_) (fun c_22 => ?_)
        · have c_22 : kk_11 < 0 := (nI_ltI (a := kk_11) (b := 0) (by omega) (Nat.le_of_ble_eq_true rfl)).mp c_22
          exfalso
          omega
        · have c_22 : ¬ kk_11 < 0 := fun z => c_22 ((nI_ltI (a := kk_11) (b := 0) (by omega) (Nat.le_of_ble_eq_true rfl)).mpr z)
          refine lv_aload_n hx hb eX5_leavesAny_57 rfl (lv_at hl 0 rfl) ?_
          refine va_get (D := (dC, dI)) (ci := 5) (v := .ref rct) (C := RX5) (T := TX5) (N := 8) hx hb hts hiX5 hown hK hP 0 rfl rfl 5 (by decide) v_7 (fun _ h9 => h9) rfl eX5_leavesAny_58 ?_
          refine lv_iload_n hx hb eX5_leavesAny_61 rfl (lv_at hl 1 rfl) ?_
          refine va_iald hx hb hK hP 4 3 rfl rfl (vp_in_nI (n := kk_11) (by omega) (Nat.le_of_ble_eq_true rfl)) eX5_leavesAny_62 ?_
          refine lv_topi (fun y_23 ey_23 => ?_)
          obtain rfl : y_23 = nI vv_19 := ey_23.trans kvv_19
          refine lv_aload_n hx hb eX5_leavesAny_63 rfl (lv_at hl 0 rfl) ?_
          refine va_get (D := (dC, dI)) (ci := 5) (v := .int (nI rk)) (C := RX5) (T := TX5) (N := 8) hx hb hts hiX5 hown hK hP 0 rfl rfl 1 (by decide) v_15 (fun _ h9 => h9) rfl eX5_leavesAny_64 ?_
          refine lv_icmp_ne (tgt := 72) hx hb eX5_leavesAny_67 (by decide) (fun c_24 => ?_) (fun c_24 => ?_)
          · have c_24 : ¬ vv_19 = rk := fun z => c_24 ((nI_eq (a := vv_19) (b := rk) (by omega) (Nat.lt_of_le_of_lt hrk (Nat.le_of_ble_eq_true rfl))).mpr z)
            refine lv_aload_n hx hb eX5_leavesAny_72 rfl (lv_at hl 0 rfl) ?_
            refine lv_iload_n hx hb eX5_leavesAny_73 rfl (lv_at hl 1 rfl) ?_
            have hFc := pu_free hD hS hA
            refine va_calli (va_runV (As := [.int (nI kk_11)]) (rest := []) ⟨hx, hb, hml, hown, hts⟩ (c_C_5_splits l dC dI _ rm rcv rk rmd ru rpc rct rce k_fcv fcv k_fmd k_fpc k_fct fct_13 k_fce qce_14 N az ac kz qs_15 fz_16 kk_11 vv_19 hrk hru (by omega) (by omega) (by assumption) (by assumption) (by assumption) (by omega) (by omega)) (cwV 1 hts g_C_5_leavesAny_C_5_splits rfl rfl rfl (by decide +kernel) ⟨Nat.le_of_ble_eq_true rfl, Nat.le_of_ble_eq_true rfl⟩) ⟨pu_bl, va_recv hK hP (ci := 5) (q0 := 0) rfl rfl, pu_in hP hK hD⟩ rfl rfl hl.1 rfl (lv_room (Nat.le_of_ble_eq_true rfl)) eX5_leavesAny_74 ⟨Nat.le_of_ble_eq_true rfl, Nat.le_of_ble_eq_true rfl⟩) hS (fun q _ h => hFc q h) hFc (fun r_25 u t H1 locs ht hvm hw hB hz1 hk1 hS => ?_)
            obtain ⟨rur_25, hw⟩ := hw
            subst rur_25
            obtain ⟨z_fct_26, z_fce_27, z_fz_28, z_qs_29, ⟨hP1, -, hD1⟩, xr_25_0, xr_25_1⟩ := hB
            rw [ht] at hP1
            have hP := hP1
            have hD := pu_all hFc hD1
            clear hP1 hD1 hFc
            clear hk1 hz1 ht hvm
            generalize H1 = H at hP hS ⊢
            obtain ⟨u_30, hu_30, rfl⟩ := hw
            refine lv_if_ne (tgt := 86) hx hb eX5_leavesAny_77 (by decide) (fun c_31 => ?_) (fun c_31 => ?_)
            · have c_31 : ¬ u_30 = 0 := fun z => c_31 ((nI_eq (a := u_30) (b := 0) (Nat.lt_of_le_of_lt hu_30 (Nat.le_of_ble_eq_true rfl)) (Nat.le_of_ble_eq_true rfl)).mpr z)
              refine lv_aload_n hx hb eX5_leavesAny_86 rfl (lv_at hl 0 rfl) ?_
              refine va_get (D := (dC, dI)) (ci := 5) (v := .ref rct) (C := RX5) (T := TX5) (N := 8) hx hb hts hiX5 hown hK hP 0 rfl rfl 5 (by decide) v_7 (fun _ h9 => h9) rfl eX5_leavesAny_87 ?_
              refine lv_iload_n hx hb eX5_leavesAny_90 rfl (lv_at hl 1 rfl) ?_
              refine lv_iconst (v := 1) hx hb eX5_leavesAny_91 (by decide) ?_
              refine lv_iadd hx hb eX5_leavesAny_92 ?_
              refine lv_topi (fun y_32 ey_32 => ?_)
              obtain rfl : y_32 = (nI (kk_11 + 1)) := ey_32.trans (nI_add kk_11 1)
              refine va_iald hx hb hK hP 4 3 rfl rfl (vp_in_nI (n := (kk_11 + 1)) (by omega) (Nat.le_of_ble_eq_true rfl)) eX5_leavesAny_93 ?_
              refine lv_topi (fun y_33 ey_33 => ?_)
              rcases xr_25_1 with h93 | h93 | h93
              · exact absurd h93 (fun z => by have := (nI_eq (b := 0) (by omega) (by omega)).mp z; omega)
              · obtain rfl : y_33 = -1 := ey_33.trans h93
                refine lv_iconst (v := (-1)) hx hb eX5_leavesAny_94 (by decide) ?_
                refine lv_icmp_eq (tgt := 101) hx hb eX5_leavesAny_95 (by decide) (fun _ => ?_) (fun z => absurd z (by decide))
                refine lv_iinc (v := (nI (tt_12 + 1))) (lv' := [(3, .int (nI (tt_12 + 1))), (0, .ref rm), (2, .int (nI kk_11))]) hx hb eX5_leavesAny_101 hl (k := 2) rfl (nI_1 _) (by decide) rfl (fun ls hl => ?_)
                refine lv_goto (tgt := 47) hx hb eX5_leavesAny_104 (by decide) ?_
                exact ih_17 (100000000 - (tt_12 + 1)) (by omega) _ _ _ ⟨(kk_11 + 1), (tt_12 + 1), z_fct_26, z_fce_27, z_qs_29, z_fz_28, rfl, by omega, by first | assumption | exact ct_le (by assumption) (by omega), hP, hD, hS, (by rw [nI_pred]; exact lv_sub hl [1, 2, 0] rfl)⟩
              · obtain ⟨vv_34, ivv_34, jvv_34, kvv_34⟩ := ct_get (i := (kk_11 + 1)) h93 (by omega) (by omega)
                obtain rfl : y_33 = nI vv_34 := ey_33.trans kvv_34
                refine lv_iconst (v := (-1)) hx hb eX5_leavesAny_94 (by decide) ?_
                refine lv_icmp_eq (tgt := 101) hx hb eX5_leavesAny_95 (by decide) (fun z => absurd z (pu_nneg (n := vv_34) (by omega) (by decide))) (fun _ => ?_)
                refine lv_iinc (v := (nI (kk_11 + 1))) (lv' := [(2, .int (nI (kk_11 + 1))), (0, .ref rm), (3, .int (nI tt_12))]) hx hb eX5_leavesAny_98 hl (k := 1) rfl (nI_1 _) (by decide) rfl (fun ls hl => ?_)
                refine lv_iinc (v := (nI (tt_12 + 1))) (lv' := [(3, .int (nI (tt_12 + 1))), (2, .int (nI (kk_11 + 1))), (0, .ref rm)]) hx hb eX5_leavesAny_101 hl (k := 2) rfl (nI_1 _) (by decide) rfl (fun ls hl => ?_)
                refine lv_goto (tgt := 47) hx hb eX5_leavesAny_104 (by decide) ?_
                exact ih_17 (100000000 - (tt_12 + 1)) (by omega) _ _ _ ⟨((kk_11 + 1) + 1), (tt_12 + 1), z_fct_26, z_fce_27, z_qs_29, z_fz_28, rfl, by omega, by first | assumption | exact ct_le (by assumption) (by omega), hP, hD, hS, (by rw [nI_pred]; exact lv_sub hl [2, 1, 0] rfl)⟩
            · have c_31 : u_30 = 0 := (nI_eq (a := u_30) (b := 0) (Nat.lt_of_le_of_lt hu_30 (Nat.le_of_ble_eq_true rfl)) (Nat.le_of_ble_eq_true rfl)).mp c_31
              refine lv_iinc (v := (nI kk_11 - 1)) (lv' := [(2, .int (nI kk_11 - 1)), (0, .ref rm), (3, .int (nI tt_12))]) hx hb eX5_leavesAny_80 hl (k := 1) rfl (pu_decm _) (by decide) rfl (fun ls hl => ?_)
              refine lv_goto (tgt := 101) hx hb eX5_leavesAny_83 (by decide) ?_
              refine lv_iinc (v := (nI (tt_12 + 1))) (lv' := [(3, .int (nI (tt_12 + 1))), (2, .int (nI kk_11 - 1)), (0, .ref rm)]) hx hb eX5_leavesAny_101 hl (k := 2) rfl (nI_1 _) (by decide) rfl (fun ls hl => ?_)
              refine lv_goto (tgt := 47) hx hb eX5_leavesAny_104 (by decide) ?_
              exact ih_17 (100000000 - (tt_12 + 1)) (by omega) _ _ _ ⟨kk_11, (tt_12 + 1), z_fct_26, z_fce_27, z_qs_29, z_fz_28, rfl, by omega, by first | assumption | exact ct_le (by assumption) (by omega), hP, hD, hS, lv_sub hl [2, 1, 0] rfl⟩
          · have c_24 : vv_19 = rk := (nI_eq (a := vv_19) (b := rk) (by omega) (Nat.lt_of_le_of_lt hrk (Nat.le_of_ble_eq_true rfl))).mp c_24
            refine lv_iconst (v := 1) hx hb eX5_leavesAny_70 (by decide) ?_
            exact W.zret (v := 1) (ty := .boolean) hx hb hr (rfl) (fun t ht hW => ⟨⟨1, (), rfl, ⟨1, (Nat.le_of_ble_eq_true rfl), rfl⟩, ⟨fct_13, qce_14, fz_16, qs_15, ⟨by rw [ht]; exact hP, va_K.moved hW.alike hK, hD⟩⟩⟩, hS.F ht⟩) hS.2.2 eX5_leavesAny_71
  · refine va_iast hx hb hK hP hD hS 4 3 rfl rfl (vp_in_nI (n := 0) (Nat.le_of_ble_eq_true rfl) (Nat.le_of_ble_eq_true rfl)) eX5_leavesAny_21 (fun H locs hP hD hS => ?_)
    have hP : va_P (dC, dI) vwCl ((rm__w rm rcv (nI rk) rmd (nI ru) rpc rct rce (az 392) k_fcv fcv k_fmd (zs 242 28 az) k_fpc (zs 270 122 az) k_fct (upd fct (0 : Int32).toNatClampNeg (nI u_8)) k_fce (bN 16 q_fce)) ++ zp 4 16 N az ac kz z_qs_7 z_fz_6) H := hP
    have hD : va_D A ((rm__w rm rcv (nI rk) rmd (nI ru) rpc rct rce (az 392) k_fcv fcv k_fmd (zs 242 28 az) k_fpc (zs 270 122 az) k_fct (upd fct (0 : Int32).toNatClampNeg (nI u_8)) k_fce (bN 16 q_fce)) ++ zp 4 16 N az ac kz z_qs_7 z_fz_6) := hD
    refine lv_aload_n hx hb eX5_leavesAny_22 rfl (lv_at hl 0 rfl) ?_
    refine va_get (D := (dC, dI)) (ci := 5) (v := .ref rce) (C := RX5) (T := TX5) (N := 8) hx hb hts hiX5 hown hK hP 0 rfl rfl 6 (by decide) v_13 (fun _ h9 => h9) rfl eX5_leavesAny_23 ?_
    refine lv_iconst (v := 0) hx hb eX5_leavesAny_26 (by decide) ?_
    refine lv_iconst (v := 0) hx hb eX5_leavesAny_27 (by decide) ?_
    refine va_iast hx hb hK hP hD hS 5 4 rfl rfl (vp_in_nI (n := 0) (Nat.le_of_ble_eq_true rfl) (Nat.le_of_ble_eq_true rfl)) eX5_leavesAny_28 (fun H locs hP hD hS => ?_)
    obtain ⟨q_35, eq_35, kq_35⟩ := bN_up 16 q_fce ((0 : Int32).toNatClampNeg) (v := 0) (Nat.le_of_ble_eq_true rfl)
    have hP : va_P (dC, dI) vwCl ((rm__w rm rcv (nI rk) rmd (nI ru) rpc rct rce (az 392) k_fcv fcv k_fmd (zs 242 28 az) k_fpc (zs 270 122 az) k_fct (upd fct (0 : Int32).toNatClampNeg (nI u_8)) k_fce (bN 16 q_35)) ++ zp 4 16 N az ac kz z_qs_7 z_fz_6) H := by rw [← eq_35]; exact hP
    have hD : va_D A ((rm__w rm rcv (nI rk) rmd (nI ru) rpc rct rce (az 392) k_fcv fcv k_fmd (zs 242 28 az) k_fpc (zs 270 122 az) k_fct (upd fct (0 : Int32).toNatClampNeg (nI u_8)) k_fce (bN 16 q_35)) ++ zp 4 16 N az ac kz z_qs_7 z_fz_6) := by rw [← eq_35]; exact hD
    refine lv_aload_n hx hb eX5_leavesAny_29 rfl (lv_at hl 0 rfl) ?_
    refine va_get (D := (dC, dI)) (ci := 5) (v := .ref rct) (C := RX5) (T := TX5) (N := 8) hx hb hts hiX5 hown hK hP 0 rfl rfl 5 (by decide) v_7 (fun _ h9 => h9) rfl eX5_leavesAny_30 ?_
    refine lv_iconst (v := 0) hx hb eX5_leavesAny_33 (by decide) ?_
    refine va_iald hx hb hK hP 4 3 rfl rfl (vp_in_nI (n := 0) (Nat.le_of_ble_eq_true rfl) (Nat.le_of_ble_eq_true rfl)) eX5_leavesAny_34 ?_
    refine lv_topi (fun y_36 ey_36 => ?_)
    obtain rfl : y_36 = (nI u_8) := ey_36.trans pk_us
    refine lv_iconst (v := (-1)) hx hb eX5_leavesAny_35 (by decide) ?_
    refine lv_icmp_ne (tgt := 43) hx hb eX5_leavesAny_36 (by decide) (fun _ => ?_) (fun z => absurd z (pu_nneg (n := u_8) (by omega) (by decide)))
    refine lv_iconst (v := 0) hx hb eX5_leavesAny_43 (by decide) ?_
    refine lv_istore_n (lv' := [(2, .int 0), (0, .ref rm), (1, .ref (az kk))]) hx hb eX5_leavesAny_44 rfl hl (by decide) rfl (fun ls hl => ?_)
    refine lv_iconst (v := 0) hx hb eX5_leavesAny_45 (by decide) ?_
    refine lv_istore_n (lv' := [(3, .int 0), (2, .int 0), (0, .ref rm), (1, .ref (az kk))]) hx hb eX5_leavesAny_46 rfl hl (by decide) rfl (fun ls hl => ?_)
    refine pu_while (fun nn H locs ls => ∃ (kk_37 tt_38 : Nat) (fct_39 : Nat → Int32) (qce_40 : Nat → Nat) (qs_41 : Nat → Nat) (fz_42 : Nat → Nat → Int32), nn = 100000000 - tt_38 ∧ tt_38 ≤ 100000000 ∧ ctk kk_37 rk fct_39 ∧ va_P (dC, dI) vwCl ((rm__w rm rcv (nI rk) rmd (nI ru) rpc rct rce (az 392) k_fcv fcv k_fmd (zs 242 28 az) k_fpc (zs 270 122 az) k_fct fct_39 k_fce (bN 16 qce_40)) ++ zp 4 16 N az ac kz qs_41 fz_42) H ∧ va_D A ((rm__w rm rcv (nI rk) rmd (nI ru) rpc rct rce (az 392) k_fcv fcv k_fmd (zs 242 28 az) k_fpc (zs 270 122 az) k_fct fct_39 k_fce (bN 16 qce_40)) ++ zp 4 16 N az ac kz qs_41 fz_42) ∧ va_S A s.heap H locs ∧ lv_has ls 4 [(0, .ref rm), (2, .int (nI kk_37 - 1)), (3, .int (nI tt_38))]) 47 ?_ _ _ _ _ ⟨1, 0, (upd fct (0 : Int32).toNatClampNeg (nI u_8)), q_35, z_qs_7, z_fz_6, rfl, by omega, ct_z (by omega), hP, hD, hS, lv_sub hl [2, 1, 0] rfl⟩
    rintro nn ih_43 H locs ls ⟨kk_37, tt_38, fct_39, qce_40, qs_41, fz_42, hnn, htt_38, fkk_37, hP, hD, hS, hl⟩
    rcases kk_37 with _ | kk_37
    · rw [pu_k0] at hl
      refine lv_iload_n hx hb eX5_leavesAny_47 rfl (lv_at hl 2 rfl) ?_
      refine lv_ldc hx hb hown v_14 eX5_leavesAny_48 ?_
      refine lv_icmp_ge (tgt := 107) hx hb eX5_leavesAny_50 (by decide) (fun c_44 => ?_) (fun c_44 => ?_)
      · have c_44 : 100000000 ≤ tt_38 := (nI_leI (a := 100000000) (b := tt_38) (Nat.le_of_ble_eq_true rfl) (by omega)).mp c_44
        refine lv_iload_n hx hb eX5_leavesAny_107 rfl (lv_at hl 1 rfl) ?_
        refine lv_if_lt (tgt := 115) hx hb eX5_leavesAny_108 (by decide) (fun _ => ?_) (fun z => absurd z (by decide))
        refine lv_iconst (v := 0) hx hb eX5_leavesAny_115 (by decide) ?_
        exact W.zret (v := 0) (ty := .boolean) hx hb hr (rfl) (fun t ht hW => ⟨⟨0, (), rfl, ⟨0, (Nat.le_of_ble_eq_true rfl), rfl⟩, ⟨fct_39, qce_40, fz_42, qs_41, ⟨by rw [ht]; exact hP, va_K.moved hW.alike hK, hD⟩⟩⟩, hS.F ht⟩) hS.2.2 eX5_leavesAny_116
      · have c_44 : ¬ 100000000 ≤ tt_38 := fun z => c_44 ((nI_leI (a := 100000000) (b := tt_38) (Nat.le_of_ble_eq_true rfl) (by omega)).mpr z)
        refine lv_iload_n hx hb eX5_leavesAny_53 rfl (lv_at hl 1 rfl) ?_
        refine lv_if_lt (tgt := 107) hx hb eX5_leavesAny_54 (by decide) (fun _ => ?_) (fun z => absurd z (by decide))
        refine lv_iload_n hx hb eX5_leavesAny_107 rfl (lv_at hl 1 rfl) ?_
        refine lv_if_lt (tgt := 115) hx hb eX5_leavesAny_108 (by decide) (fun _ => ?_) (fun z => absurd z (by decide))
        refine lv_iconst (v := 0) hx hb eX5_leavesAny_115 (by decide) ?_
        exact W.zret (v := 0) (ty := .boolean) hx hb hr (rfl) (fun t ht hW => ⟨⟨0, (), rfl, ⟨0, (Nat.le_of_ble_eq_true rfl), rfl⟩, ⟨fct_39, qce_40, fz_42, qs_41, ⟨by rw [ht]; exact hP, va_K.moved hW.alike hK, hD⟩⟩⟩, hS.F ht⟩) hS.2.2 eX5_leavesAny_116
    · rw [nI_pred] at hl
      obtain ⟨vv_45, ivv_45, jvv_45, kvv_45⟩ := ct_get (i := kk_37) fkk_37 (by omega) (by omega)
      refine lv_iload_n hx hb eX5_leavesAny_47 rfl (lv_at hl 2 rfl) ?_
      refine lv_ldc hx hb hown v_14 eX5_leavesAny_48 ?_
      refine lv_icmp_ge (tgt := 107) hx hb eX5_leavesAny_50 (by decide) (fun c_46 => ?_) (fun c_46 => ?_)
      · have c_46 : 100000000 ≤ tt_38 := (nI_leI (a := 100000000) (b := tt_38) (Nat.le_of_ble_eq_true rfl) (by omega)).mp c_46
        refine lv_iload_n hx hb eX5_leavesAny_107 rfl (lv_at hl 1 rfl) ?_
        refine lv_if_lt (tgt := 115) hx hb eX5_leavesAny_108 (by decide) (fun c_47 => ?_) (fun c_47 => ?_)
        · have c_47 : kk_37 < 0 := (nI_ltI (a := kk_37) (b := 0) (by omega) (Nat.le_of_ble_eq_true rfl)).mp c_47
          exfalso
          omega
        · have c_47 : ¬ kk_37 < 0 := fun z => c_47 ((nI_ltI (a := kk_37) (b := 0) (by omega) (Nat.le_of_ble_eq_true rfl)).mpr z)
          refine lv_iconst (v := 1) hx hb eX5_leavesAny_111 (by decide) ?_
          refine lv_goto (tgt := 116) hx hb eX5_leavesAny_112 (by decide) ?_
          exact W.zret (v := 1) (ty := .boolean) hx hb hr (rfl) (fun t ht hW => ⟨⟨1, (), rfl, ⟨1, (Nat.le_of_ble_eq_true rfl), rfl⟩, ⟨fct_39, qce_40, fz_42, qs_41, ⟨by rw [ht]; exact hP, va_K.moved hW.alike hK, hD⟩⟩⟩, hS.F ht⟩) hS.2.2 eX5_leavesAny_116
      · have c_46 : ¬ 100000000 ≤ tt_38 := fun z => c_46 ((nI_leI (a := 100000000) (b := tt_38) (Nat.le_of_ble_eq_true rfl) (by omega)).mpr z)
        refine lv_iload_n hx hb eX5_leavesAny_53 rfl (lv_at hl 1 rfl) ?_
        refine lv_if_lt (tgt := 107) hx hb eX5_leavesAny_54 (by decide) (fun c_48 => ?_) (fun c_48 => ?_)
        · have c_48 : kk_37 < 0 := (nI_ltI (a := kk_37) (b := 0) (by omega) (Nat.le_of_ble_eq_true rfl)).mp c_48
          exfalso
          omega
        · have c_48 : ¬ kk_37 < 0 := fun z => c_48 ((nI_ltI (a := kk_37) (b := 0) (by omega) (Nat.le_of_ble_eq_true rfl)).mpr z)
          refine lv_aload_n hx hb eX5_leavesAny_57 rfl (lv_at hl 0 rfl) ?_
          refine va_get (D := (dC, dI)) (ci := 5) (v := .ref rct) (C := RX5) (T := TX5) (N := 8) hx hb hts hiX5 hown hK hP 0 rfl rfl 5 (by decide) v_7 (fun _ h9 => h9) rfl eX5_leavesAny_58 ?_
          refine lv_iload_n hx hb eX5_leavesAny_61 rfl (lv_at hl 1 rfl) ?_
          refine va_iald hx hb hK hP 4 3 rfl rfl (vp_in_nI (n := kk_37) (by omega) (Nat.le_of_ble_eq_true rfl)) eX5_leavesAny_62 ?_
          refine lv_topi (fun y_49 ey_49 => ?_)
          obtain rfl : y_49 = nI vv_45 := ey_49.trans kvv_45
          refine lv_aload_n hx hb eX5_leavesAny_63 rfl (lv_at hl 0 rfl) ?_
          refine va_get (D := (dC, dI)) (ci := 5) (v := .int (nI rk)) (C := RX5) (T := TX5) (N := 8) hx hb hts hiX5 hown hK hP 0 rfl rfl 1 (by decide) v_15 (fun _ h9 => h9) rfl eX5_leavesAny_64 ?_
          refine lv_icmp_ne (tgt := 72) hx hb eX5_leavesAny_67 (by decide) (fun c_50 => ?_) (fun c_50 => ?_)
          · have c_50 : ¬ vv_45 = rk := fun z => c_50 ((nI_eq (a := vv_45) (b := rk) (by omega) (Nat.lt_of_le_of_lt hrk (Nat.le_of_ble_eq_true rfl))).mpr z)
            refine lv_aload_n hx hb eX5_leavesAny_72 rfl (lv_at hl 0 rfl) ?_
            refine lv_iload_n hx hb eX5_leavesAny_73 rfl (lv_at hl 1 rfl) ?_
            have hFc := pu_free hD hS hA
            refine va_calli (va_runV (As := [.int (nI kk_37)]) (rest := []) ⟨hx, hb, hml, hown, hts⟩ (c_C_5_splits l dC dI _ rm rcv rk rmd ru rpc rct rce k_fcv fcv k_fmd k_fpc k_fct fct_39 k_fce qce_40 N az ac kz qs_41 fz_42 kk_37 vv_45 hrk hru (by omega) (by omega) (by assumption) (by assumption) (by assumption) (by omega) (by omega)) (cwV 1 hts g_C_5_leavesAny_C_5_splits rfl rfl rfl (by decide +kernel) ⟨Nat.le_of_ble_eq_true rfl, Nat.le_of_ble_eq_true rfl⟩) ⟨pu_bl, va_recv hK hP (ci := 5) (q0 := 0) rfl rfl, pu_in hP hK hD⟩ rfl rfl hl.1 rfl (lv_room (Nat.le_of_ble_eq_true rfl)) eX5_leavesAny_74 ⟨Nat.le_of_ble_eq_true rfl, Nat.le_of_ble_eq_true rfl⟩) hS (fun q _ h => hFc q h) hFc (fun r_51 u t H1 locs ht hvm hw hB hz1 hk1 hS => ?_)
            obtain ⟨rur_51, hw⟩ := hw
            subst rur_51
            obtain ⟨z_fct_52, z_fce_53, z_fz_54, z_qs_55, ⟨hP1, -, hD1⟩, xr_51_0, xr_51_1⟩ := hB
            rw [ht] at hP1
            have hP := hP1
            have hD := pu_all hFc hD1
            clear hP1 hD1 hFc
            clear hk1 hz1 ht hvm
            generalize H1 = H at hP hS ⊢
            obtain ⟨u_56, hu_56, rfl⟩ := hw
            refine lv_if_ne (tgt := 86) hx hb eX5_leavesAny_77 (by decide) (fun c_57 => ?_) (fun c_57 => ?_)
            · have c_57 : ¬ u_56 = 0 := fun z => c_57 ((nI_eq (a := u_56) (b := 0) (Nat.lt_of_le_of_lt hu_56 (Nat.le_of_ble_eq_true rfl)) (Nat.le_of_ble_eq_true rfl)).mpr z)
              refine lv_aload_n hx hb eX5_leavesAny_86 rfl (lv_at hl 0 rfl) ?_
              refine va_get (D := (dC, dI)) (ci := 5) (v := .ref rct) (C := RX5) (T := TX5) (N := 8) hx hb hts hiX5 hown hK hP 0 rfl rfl 5 (by decide) v_7 (fun _ h9 => h9) rfl eX5_leavesAny_87 ?_
              refine lv_iload_n hx hb eX5_leavesAny_90 rfl (lv_at hl 1 rfl) ?_
              refine lv_iconst (v := 1) hx hb eX5_leavesAny_91 (by decide) ?_
              refine lv_iadd hx hb eX5_leavesAny_92 ?_
              refine lv_topi (fun y_58 ey_58 => ?_)
              obtain rfl : y_58 = (nI (kk_37 + 1)) := ey_58.trans (nI_add kk_37 1)
              refine va_iald hx hb hK hP 4 3 rfl rfl (vp_in_nI (n := (kk_37 + 1)) (by omega) (Nat.le_of_ble_eq_true rfl)) eX5_leavesAny_93 ?_
              refine lv_topi (fun y_59 ey_59 => ?_)
              rcases xr_51_1 with h93 | h93 | h93
              · exact absurd h93 (fun z => by have := (nI_eq (b := 0) (by omega) (by omega)).mp z; omega)
              · obtain rfl : y_59 = -1 := ey_59.trans h93
                refine lv_iconst (v := (-1)) hx hb eX5_leavesAny_94 (by decide) ?_
                refine lv_icmp_eq (tgt := 101) hx hb eX5_leavesAny_95 (by decide) (fun _ => ?_) (fun z => absurd z (by decide))
                refine lv_iinc (v := (nI (tt_38 + 1))) (lv' := [(3, .int (nI (tt_38 + 1))), (0, .ref rm), (2, .int (nI kk_37))]) hx hb eX5_leavesAny_101 hl (k := 2) rfl (nI_1 _) (by decide) rfl (fun ls hl => ?_)
                refine lv_goto (tgt := 47) hx hb eX5_leavesAny_104 (by decide) ?_
                exact ih_43 (100000000 - (tt_38 + 1)) (by omega) _ _ _ ⟨(kk_37 + 1), (tt_38 + 1), z_fct_52, z_fce_53, z_qs_55, z_fz_54, rfl, by omega, by first | assumption | exact ct_le (by assumption) (by omega), hP, hD, hS, (by rw [nI_pred]; exact lv_sub hl [1, 2, 0] rfl)⟩
              · obtain ⟨vv_60, ivv_60, jvv_60, kvv_60⟩ := ct_get (i := (kk_37 + 1)) h93 (by omega) (by omega)
                obtain rfl : y_59 = nI vv_60 := ey_59.trans kvv_60
                refine lv_iconst (v := (-1)) hx hb eX5_leavesAny_94 (by decide) ?_
                refine lv_icmp_eq (tgt := 101) hx hb eX5_leavesAny_95 (by decide) (fun z => absurd z (pu_nneg (n := vv_60) (by omega) (by decide))) (fun _ => ?_)
                refine lv_iinc (v := (nI (kk_37 + 1))) (lv' := [(2, .int (nI (kk_37 + 1))), (0, .ref rm), (3, .int (nI tt_38))]) hx hb eX5_leavesAny_98 hl (k := 1) rfl (nI_1 _) (by decide) rfl (fun ls hl => ?_)
                refine lv_iinc (v := (nI (tt_38 + 1))) (lv' := [(3, .int (nI (tt_38 + 1))), (2, .int (nI (kk_37 + 1))), (0, .ref rm)]) hx hb eX5_leavesAny_101 hl (k := 2) rfl (nI_1 _) (by decide) rfl (fun ls hl => ?_)
                refine lv_goto (tgt := 47) hx hb eX5_leavesAny_104 (by decide) ?_
                exact ih_43 (100000000 - (tt_38 + 1)) (by omega) _ _ _ ⟨((kk_37 + 1) + 1), (tt_38 + 1), z_fct_52, z_fce_53, z_qs_55, z_fz_54, rfl, by omega, by first | assumption | exact ct_le (by assumption) (by omega), hP, hD, hS, (by rw [nI_pred]; exact lv_sub hl [2, 1, 0] rfl)⟩
            · have c_57 : u_56 = 0 := (nI_eq (a := u_56) (b := 0) (Nat.lt_of_le_of_lt hu_56 (Nat.le_of_ble_eq_true rfl)) (Nat.le_of_ble_eq_true rfl)).mp c_57
              refine lv_iinc (v := (nI kk_37 - 1)) (lv' := [(2, .int (nI kk_37 - 1)), (0, .ref rm), (3, .int (nI tt_38))]) hx hb eX5_leavesAny_80 hl (k := 1) rfl (pu_decm _) (by decide) rfl (fun ls hl => ?_)
              refine lv_goto (tgt := 101) hx hb eX5_leavesAny_83 (by decide) ?_
              refine lv_iinc (v := (nI (tt_38 + 1))) (lv' := [(3, .int (nI (tt_38 + 1))), (2, .int (nI kk_37 - 1)), (0, .ref rm)]) hx hb eX5_leavesAny_101 hl (k := 2) rfl (nI_1 _) (by decide) rfl (fun ls hl => ?_)
              refine lv_goto (tgt := 47) hx hb eX5_leavesAny_104 (by decide) ?_
              exact ih_43 (100000000 - (tt_38 + 1)) (by omega) _ _ _ ⟨kk_37, (tt_38 + 1), z_fct_52, z_fce_53, z_qs_55, z_fz_54, rfl, by omega, by first | assumption | exact ct_le (by assumption) (by omega), hP, hD, hS, lv_sub hl [2, 1, 0] rfl⟩
          · have c_50 : vv_45 = rk := (nI_eq (a := vv_45) (b := rk) (by omega) (Nat.lt_of_le_of_lt hrk (Nat.le_of_ble_eq_true rfl))).mp c_50
            refine lv_iconst (v := 1) hx hb eX5_leavesAny_70 (by decide) ?_
            exact W.zret (v := 1) (ty := .boolean) hx hb hr (rfl) (fun t ht hW => ⟨⟨1, (), rfl, ⟨1, (Nat.le_of_ble_eq_true rfl), rfl⟩, ⟨fct_39, qce_40, fz_42, qs_41, ⟨by rw [ht]; exact hP, va_K.moved hW.alike hK, hD⟩⟩⟩, hS.F ht⟩) hS.2.2 eX5_leavesAny_71
theorem eX8_isStuck_0 : decode cX8_isStuck 0 = .ok (.aload_n 0, 1) := by decide +kernel
theorem eX8_isStuck_1 : decode cX8_isStuck 1 = .ok (.getfield 42, 3) := by decide +kernel
theorem eX8_isStuck_4 : decode cX8_isStuck 4 = .ok (.getfield 231, 3) := by decide +kernel
theorem eX8_isStuck_7 : decode cX8_isStuck 7 = .ok (.iload_n 1, 1) := by decide +kernel
theorem eX8_isStuck_8 : decode cX8_isStuck 8 = .ok (.iaload, 1) := by decide +kernel
theorem eX8_isStuck_9 : decode cX8_isStuck 9 = .ok (.istore_n 2, 1) := by decide +kernel
theorem eX8_isStuck_10 : decode cX8_isStuck 10 = .ok (.aload_n 0, 1) := by decide +kernel
theorem eX8_isStuck_11 : decode cX8_isStuck 11 = .ok (.getfield 42, 3) := by decide +kernel
theorem eX8_isStuck_14 : decode cX8_isStuck 14 = .ok (.getfield 249, 3) := by decide +kernel
theorem eX8_isStuck_17 : decode cX8_isStuck 17 = .ok (.iload_n 1, 1) := by decide +kernel
theorem eX8_isStuck_18 : decode cX8_isStuck 18 = .ok (.aaload, 1) := by decide +kernel
theorem eX8_isStuck_19 : decode cX8_isStuck 19 = .ok (.astore_n 3, 1) := by decide +kernel
theorem eX8_isStuck_20 : decode cX8_isStuck 20 = .ok (.aload_n 0, 1) := by decide +kernel
theorem eX8_isStuck_21 : decode cX8_isStuck 21 = .ok (.getfield 55, 3) := by decide +kernel
theorem eX8_isStuck_24 : decode cX8_isStuck 24 = .ok (.invokevirtual 253, 3) := by decide +kernel
theorem eX8_isStuck_27 : decode cX8_isStuck 27 = .ok (.iconst 0, 1) := by decide +kernel
theorem eX8_isStuck_28 : decode cX8_isStuck 28 = .ok (.istore 4, 2) := by decide +kernel
theorem eX8_isStuck_30 : decode cX8_isStuck 30 = .ok (.iload 4, 2) := by decide +kernel
theorem eX8_isStuck_32 : decode cX8_isStuck 32 = .ok (.aload_n 0, 1) := by decide +kernel
theorem eX8_isStuck_33 : decode cX8_isStuck 33 = .ok (.getfield 23, 3) := by decide +kernel
theorem eX8_isStuck_36 : decode cX8_isStuck 36 = .ok (.getfield 119, 3) := by decide +kernel
theorem eX8_isStuck_39 : decode cX8_isStuck 39 = .ok (.if_icmp .ge 40, 3) := by decide +kernel
theorem eX8_isStuck_42 : decode cX8_isStuck 42 = .ok (.aload_n 0, 1) := by decide +kernel
theorem eX8_isStuck_43 : decode cX8_isStuck 43 = .ok (.getfield 23, 3) := by decide +kernel
theorem eX8_isStuck_46 : decode cX8_isStuck 46 = .ok (.getfield 155, 3) := by decide +kernel
theorem eX8_isStuck_49 : decode cX8_isStuck 49 = .ok (.iload 4, 2) := by decide +kernel
theorem eX8_isStuck_51 : decode cX8_isStuck 51 = .ok (.iaload, 1) := by decide +kernel
theorem eX8_isStuck_52 : decode cX8_isStuck 52 = .ok (.iload_n 2, 1) := by decide +kernel
theorem eX8_isStuck_53 : decode cX8_isStuck 53 = .ok (.if_icmp .ne 20, 3) := by decide +kernel
theorem eX8_isStuck_56 : decode cX8_isStuck 56 = .ok (.aload_n 0, 1) := by decide +kernel
theorem eX8_isStuck_57 : decode cX8_isStuck 57 = .ok (.getfield 55, 3) := by decide +kernel
theorem eX8_isStuck_60 : decode cX8_isStuck 60 = .ok (.aload_n 0, 1) := by decide +kernel
theorem eX8_isStuck_61 : decode cX8_isStuck 61 = .ok (.getfield 23, 3) := by decide +kernel
theorem eX8_isStuck_64 : decode cX8_isStuck 64 = .ok (.iload 4, 2) := by decide +kernel
theorem eX8_isStuck_66 : decode cX8_isStuck 66 = .ok (.aload_n 3, 1) := by decide +kernel
theorem eX8_isStuck_67 : decode cX8_isStuck 67 = .ok (.getfield 256, 3) := by decide +kernel
theorem eX8_isStuck_70 : decode cX8_isStuck 70 = .ok (.invokevirtual 261, 3) := by decide +kernel
theorem eX8_isStuck_73 : decode cX8_isStuck 73 = .ok (.iinc 4 1, 3) := by decide +kernel
theorem eX8_isStuck_76 : decode cX8_isStuck 76 = .ok (.goto (-46), 3) := by decide +kernel
theorem eX8_isStuck_79 : decode cX8_isStuck 79 = .ok (.aload_n 0, 1) := by decide +kernel
theorem eX8_isStuck_80 : decode cX8_isStuck 80 = .ok (.getfield 55, 3) := by decide +kernel
theorem eX8_isStuck_83 : decode cX8_isStuck 83 = .ok (.aload_n 3, 1) := by decide +kernel
theorem eX8_isStuck_84 : decode cX8_isStuck 84 = .ok (.invokevirtual 265, 3) := by decide +kernel
theorem eX8_isStuck_87 : decode cX8_isStuck 87 = .ok (.ireturn, 1) := by decide +kernel
abbrev vs_C_8_isStuck : List Cond := .code yX8_isStuck cX8_isStuck 5 (some .boolean) :: CM
theorem g_C_8_isStuck_C_5_clear : GoodIn vs_C_8_isStuck (wsV RX8 253 RX5 yX5_clear vs_C_5_clear) := cm_gV cm_547 cm_548 cm_549 cm_332 cm_315
theorem g_C_8_isStuck_C_5_leavesAny : GoodIn vs_C_8_isStuck (wsV RX8 265 RX5 yX5_leavesAny vs_C_5_leavesAny) := cm_gV cm_553 cm_554 cm_555 cm_332 cm_346
theorem g_C_8_isStuck_C_5_addLeaving : GoodIn vs_C_8_isStuck (wsV RX8 261 RX5 yX5_addLeaving vs_C_5_addLeaving) := cm_gV cm_550 cm_551 cm_552 cm_332 cm_320
set_option maxHeartbeats 4000000 in
set_option maxRecDepth 100000 in
theorem c_C_8_isStuck (l : Launch) (dC : Nat → ClassId) (dI : Nat → Nat → Nat) (sz : Nat) (xa : Nat) (xtape : Nat) (tp : Nat) (rd : Nat) (au : Nat) (xdr : Nat) (hy : Nat) (g : Nat) (hs : Nat) (tg : Nat) (sg : Nat) (ss : Nat) (rm : Nat) (ti : Nat) (py : Nat) (bu : Nat) (sm : Nat) (nc : Nat) (np : Nat) (ne : Nat) (st0 : Int32) (q4 : Nat) (q5 : Nat) (q6 : Nat) (q7 : Nat) (q8 : Nat) (q9 : Nat) (q10 : Nat) (q11 : Nat) (q12 : Nat) (q13 : Nat) (q14 : Nat) (q15 : Nat) (q16 : Nat) (k_f4 : ClassId) (f4 : Nat → Int32) (k_f5 : ClassId) (q_f5 : Nat → Nat) (k_f6 : ClassId) (q_f6 : Nat → Nat) (k_f7 : ClassId) (f7 : Nat → Int32) (k_f8 : ClassId) (q_f8 : Nat → Nat) (k_f9 : ClassId) (q_f9 : Nat → Nat) (k_f10 : ClassId) (f10 : Nat → Int32) (k_f11 : ClassId) (f11 : Nat → Int32) (k_f12 : ClassId) (f12 : Nat → Int32) (k_f13 : ClassId) (f13 : Nat → Int32) (k_f14 : ClassId) (f14 : Nat → Int32) (k_f15 : ClassId) (f15 : Nat → Int32) (k_f16 : ClassId) (f16 : Nat → Int32) (rcv : Nat) (rk : Nat) (rmd : Nat) (ru : Nat) (rpc : Nat) (rct : Nat) (rce : Nat) (k_fcv : ClassId) (fcv : Nat → Option Nat) (k_fmd : ClassId) (k_fpc : ClassId) (k_fct : ClassId) (fct : Nat → Int32) (k_fce : ClassId) (q_fce : Nat → Nat) (gz : Nat) (g1 : Nat) (g2 : Nat) (g3 : Nat) (g4 : Nat) (g5 : Nat) (gc : Nat) (gfull : Nat) (gx : Int32) (gway : Int32) (gav : Int32) (ggoal : Int32) (gfound : Nat) (gl : Nat) (gsz : Nat) (g16 : Nat) (g17 : Nat) (k_fgz : ClassId) (k_s1g : ClassId) (q_s1g : Nat → Nat) (k_s2g : ClassId) (s2g : Nat → Int32) (k_s3g : ClassId) (s3g : Nat → Int32) (k_s4g : ClassId) (s4g : Nat → Int32) (k_s5g : ClassId) (s5g : Nat → Int32) (k_hig : ClassId) (hig : Nat → Int32) (k_log : ClassId) (log : Nat → Int32) (N : Nat) (az ac : Nat → Nat) (kz : Nat → ClassId) (qs : Nat → Nat) (fz : Nat → Nat → Int32) (a0 : Nat) (htp : tp ≤ 900) (hhs : hs ≤ 1) (hss : ss ≤ 1) (hnc : nc ≤ 3) (hnp : np ≤ 8) (hne : ne ≤ 14) (hst0 : pm1 7 st0) (hrk : rk ≤ 120) (hru : ru ≤ 28) (hgc : gc ≤ 120) (hgfull : gfull ≤ 1) (hgfound : gfound ≤ 1) (hgl : gl ≤ 1) (hgsz : gsz ≤ 4) (hN : 393 ≤ N) (ha0 : a0 ≤ 119) : Met l yX8_isStuck vs_C_8_isStuck ({ frames := 5, cells := 0, slots := 0, locals := 128 }) (va_Pc [.ref xa, .int (nI a0)] (pu_B (dC, dI) ((xrm__w xa xtape (nI tp) rd au xdr hy g (nI hs) tg sg (nI ss) rm ti py bu sm (nI nc) (nI np) (nI ne) st0 q4 q5 q6 q7 q8 q9 q10 q11 q12 q13 q14 q15 q16 k_f4 f4 k_f5 (bN 7 q_f5) k_f6 (bN 7 q_f6) k_f7 f7 k_f8 (bN 4 q_f8) k_f9 (bN 2 q_f9) k_f10 f10 k_f11 f11 k_f12 f12 k_f13 f13 k_f14 f14 k_f15 f15 k_f16 f16 rcv (nI rk) rmd (nI ru) rpc rct rce (az 392) k_fcv fcv k_fmd (zs 242 28 az) k_fpc (zs 270 122 az) k_fct fct k_fce (bN 16 q_fce) gz g1 g2 g3 g4 g5 (nI gc) (nI gfull) gx gway gav ggoal (nI gfound) 120 (nI gl) (nI gsz) g16 g17 k_fgz (zs 121 121 az) k_s1g (bN 7 q_s1g) k_s2g s2g k_s3g s3g k_s4g s4g k_s5g s5g k_hig hig k_log log) ++ zp 4 16 N az ac kz qs fz) ((xrm__t k_f4 k_f5 k_f6 k_f7 k_f8 k_f9 k_f10 k_f11 k_f12 k_f13 k_f14 k_f15 k_f16 k_fcv k_fmd k_fpc k_fct k_fce k_fgz k_s1g k_s2g k_s3g k_s4g k_s5g k_hig k_log) ++ zt N kz) sz)) (va_Qi (fun (r : Int32) (_ : Unit) => ∃ v : Nat, v ≤ 1 ∧ r = nI v) (fun _ t => ∃ (z_fcv : Nat → Option Nat) (z_fct : Nat → Int32) (z_fce : Nat → Nat) (z_rk : Nat) (z_ru : Nat) (z_fz : Nat → Nat → Int32) (z_qs : Nat → Nat), pu_E (dC, dI) ((xrm__w xa xtape (nI tp) rd au xdr hy g (nI hs) tg sg (nI ss) rm ti py bu sm (nI nc) (nI np) (nI ne) st0 q4 q5 q6 q7 q8 q9 q10 q11 q12 q13 q14 q15 q16 k_f4 f4 k_f5 (bN 7 q_f5) k_f6 (bN 7 q_f6) k_f7 f7 k_f8 (bN 4 q_f8) k_f9 (bN 2 q_f9) k_f10 f10 k_f11 f11 k_f12 f12 k_f13 f13 k_f14 f14 k_f15 f15 k_f16 f16 rcv (nI z_rk) rmd (nI z_ru) rpc rct rce (az 392) k_fcv z_fcv k_fmd (zs 242 28 az) k_fpc (zs 270 122 az) k_fct z_fct k_fce (bN 16 z_fce) gz g1 g2 g3 g4 g5 (nI gc) (nI gfull) gx gway gav ggoal (nI gfound) 120 (nI gl) (nI gsz) g16 g17 k_fgz (zs 121 121 az) k_s1g (bN 7 q_s1g) k_s2g s2g k_s3g s3g k_s4g s4g k_s5g s5g k_hig hig k_log log) ++ zp 4 16 N az ac kz z_qs z_fz) ((xrm__t k_f4 k_f5 k_f6 k_f7 k_f8 k_f9 k_f10 k_f11 k_f12 k_f13 k_f14 k_f15 k_f16 k_fcv k_fmd k_fpc k_fct k_fce k_fgz k_s1g k_s2g k_s3g k_s4g k_s5g k_hig k_log) ++ zt N kz) (va_A (((xrm__w xa xtape (nI tp) rd au xdr hy g (nI hs) tg sg (nI ss) rm ti py bu sm (nI nc) (nI np) (nI ne) st0 q4 q5 q6 q7 q8 q9 q10 q11 q12 q13 q14 q15 q16 k_f4 f4 k_f5 (bN 7 q_f5) k_f6 (bN 7 q_f6) k_f7 f7 k_f8 (bN 4 q_f8) k_f9 (bN 2 q_f9) k_f10 f10 k_f11 f11 k_f12 f12 k_f13 f13 k_f14 f14 k_f15 f15 k_f16 f16 rcv (nI rk) rmd (nI ru) rpc rct rce (az 392) k_fcv fcv k_fmd (zs 242 28 az) k_fpc (zs 270 122 az) k_fct fct k_fce (bN 16 q_fce) gz g1 g2 g3 g4 g5 (nI gc) (nI gfull) gx gway gav ggoal (nI gfound) 120 (nI gl) (nI gsz) g16 g17 k_fgz (zs 121 121 az) k_s1g (bN 7 q_s1g) k_s2g s2g k_s3g s3g k_s4g s4g k_s5g s5g k_hig hig k_log log) ++ zp 4 16 N az ac kz qs fz)) sz) t ∧ (z_rk ≤ 120) ∧ (z_ru ≤ 28) ∧ (cv_ok z_rk z_fcv az)) (va_A (((xrm__w xa xtape (nI tp) rd au xdr hy g (nI hs) tg sg (nI ss) rm ti py bu sm (nI nc) (nI np) (nI ne) st0 q4 q5 q6 q7 q8 q9 q10 q11 q12 q13 q14 q15 q16 k_f4 f4 k_f5 (bN 7 q_f5) k_f6 (bN 7 q_f6) k_f7 f7 k_f8 (bN 4 q_f8) k_f9 (bN 2 q_f9) k_f10 f10 k_f11 f11 k_f12 f12 k_f13 f13 k_f14 f14 k_f15 f15 k_f16 f16 rcv (nI rk) rmd (nI ru) rpc rct rce (az 392) k_fcv fcv k_fmd (zs 242 28 az) k_fpc (zs 270 122 az) k_fct fct k_fce (bN 16 q_fce) gz g1 g2 g3 g4 g5 (nI gc) (nI gfull) gx gway gav ggoal (nI gfound) 120 (nI gl) (nI gsz) g16 g17 k_fgz (zs 121 121 az) k_s1g (bN 7 q_s1g) k_s2g s2g k_s3g s3g k_s4g s4g k_s5g s5g k_hig hig k_log log) ++ zp 4 16 N az ac kz qs fz)) sz)) 0 0 (va_A (((xrm__w xa xtape (nI tp) rd au xdr hy g (nI hs) tg sg (nI ss) rm ti py bu sm (nI nc) (nI np) (nI ne) st0 q4 q5 q6 q7 q8 q9 q10 q11 q12 q13 q14 q15 q16 k_f4 f4 k_f5 (bN 7 q_f5) k_f6 (bN 7 q_f6) k_f7 f7 k_f8 (bN 4 q_f8) k_f9 (bN 2 q_f9) k_f10 f10 k_f11 f11 k_f12 f12 k_f13 f13 k_f14 f14 k_f15 f15 k_f16 f16 rcv (nI rk) rmd (nI ru) rpc rct rce (az 392) k_fcv fcv k_fmd (zs 242 28 az) k_fpc (zs 270 122 az) k_fct fct k_fce (bN 16 q_fce) gz g1 g2 g3 g4 g5 (nI gc) (nI gfull) gx gway gav ggoal (nI gfound) 120 (nI gl) (nI gsz) g16 g17 k_fgz (zs 121 121 az) k_s1g (bN 7 q_s1g) k_s2g s2g k_s3g s3g k_s4g s4g k_s5g s5g k_hig hig k_log log) ++ zp 4 16 N az ac kz qs fz)) sz) := by
  refine Met.ofW (cc := cX8_isStuck) (maxL := 5) (ret := (some .boolean)) (by decide) rfl ?_
  intro p e s m args below meth c s₁ B hml hv
  obtain ⟨rfl, rfl, hP, hK, hD0⟩ := hv
  have hx := B.exec
  have hb := B.bytes
  have hr := B.returns
  have hts := atoms_spec (ws := vs_C_8_isStuck) B.pre
  have v_1 := hts (.fieldLink RX8 42 "ClockReach" "shown" "LClockReach$Graph;") (List.mem_cons_of_mem _ cm_456)
  have v_2 := hts (.fieldLink RX8 231 "ClockReach$Graph" "sites" "[I") (List.mem_cons_of_mem _ cm_532)
  have v_3 := hts (.fieldLink RX8 249 "ClockReach$Graph" "zones" "[LClockReach$Zone;") (List.mem_cons_of_mem _ cm_544)
  have v_4 := hts (.fieldLink RX8 55 "ClockReach" "remainder" "LClockReach$Remainder;") (List.mem_cons_of_mem _ cm_545)
  have v_10 := hts (.fieldLink RX8 23 "ClockReach" "model" "LClockReach$Automaton;") (List.mem_cons_of_mem _ cm_434)
  have v_11 := hts (.fieldLink RX8 119 "ClockReach$Automaton" "edges" "I") (List.mem_cons_of_mem _ cm_454)
  have v_12 := hts (.fieldLink RX8 155 "ClockReach$Automaton" "sources" "[I") (List.mem_cons_of_mem _ cm_469)
  have v_13 := hts (.fieldLink RX8 256 "ClockReach$Zone" "size" "I") (List.mem_cons_of_mem _ cm_546)
  have hown : s.vm.findClass RX8 = some m.cls := findClass_of_methodNamed B.named
  have hlocks := B.notSynchronized
  have hiX0 : ∀ w ∈ wsX00, w ∈ vs_C_8_isStuck := fun _ h => List.mem_cons_of_mem _ (cm_X0 h)
  have hiX1 : ∀ w ∈ wsX10, w ∈ vs_C_8_isStuck := fun _ h => List.mem_cons_of_mem _ (cm_X1 h)
  have hiX7 : ∀ w ∈ wsX70, w ∈ vs_C_8_isStuck := fun _ h => List.mem_cons_of_mem _ (cm_X7 h)
  have hiX8 : ∀ w ∈ wsX80, w ∈ vs_C_8_isStuck := fun _ h => List.mem_cons_of_mem _ (cm_X8 h)
  have hD := hD0.self (sz := s.heap.size)
  generalize hAe : va_A (((xrm__w xa xtape (nI tp) rd au xdr hy g (nI hs) tg sg (nI ss) rm ti py bu sm (nI nc) (nI np) (nI ne) st0 q4 q5 q6 q7 q8 q9 q10 q11 q12 q13 q14 q15 q16 k_f4 f4 k_f5 (bN 7 q_f5) k_f6 (bN 7 q_f6) k_f7 f7 k_f8 (bN 4 q_f8) k_f9 (bN 2 q_f9) k_f10 f10 k_f11 f11 k_f12 f12 k_f13 f13 k_f14 f14 k_f15 f15 k_f16 f16 rcv (nI rk) rmd (nI ru) rpc rct rce (az 392) k_fcv fcv k_fmd (zs 242 28 az) k_fpc (zs 270 122 az) k_fct fct k_fce (bN 16 q_fce) gz g1 g2 g3 g4 g5 (nI gc) (nI gfull) gx gway gav ggoal (nI gfound) 120 (nI gl) (nI gsz) g16 g17 k_fgz (zs 121 121 az) k_s1g (bN 7 q_s1g) k_s2g s2g k_s3g s3g k_s4g s4g k_s5g s5g k_hig hig k_log log) ++ zp 4 16 N az ac kz qs fz)) s.heap.size = A at hD ⊢
  have hA : ∀ q : Nat, s.heap.size ≤ q → A q := fun q h => by rw [← hAe]; exact Or.inr h
  have hS : va_S A s.heap s.heap [] := va_S.rf
  have hl := lv_entry ([.ref xa, .int (nI a0)]) (n := 5) (Nat.le_of_ble_eq_true rfl)
  rw [lg_entry_eq]
  generalize (lg_sl ([.ref xa, .int (nI a0)]) ++ List.replicate (5 - (lg_sl ([.ref xa, .int (nI a0)])).length) Slot.unset).toArray = ls at hl ⊢
  have hl : lv_has ls 5 [(0, .ref xa), (1, .int (nI a0))] := hl
  refine lv_aload_n hx hb eX8_isStuck_0 rfl (lv_at hl 0 rfl) ?_
  refine va_get (D := (dC, dI)) (ci := 8) (v := .ref g) (C := RX8) (T := TX8) (N := 16) hx hb hts hiX8 hown hK hP 0 rfl rfl 6 (by decide) v_1 (fun _ h9 => h9) rfl eX8_isStuck_1 ?_
  refine va_get (D := (dC, dI)) (ci := 1) (v := .ref g1) (C := RX1) (T := TX1) (N := 18) hx hb hts hiX1 hown hK hP 21 rfl rfl 1 (by decide) v_2 (fun _ h9 => h9) rfl eX8_isStuck_4 ?_
  refine lv_iload_n hx hb eX8_isStuck_7 rfl (lv_at hl 1 rfl) ?_
  refine va_iald hx hb hK hP 23 19 rfl rfl (vp_in_nI (n := a0) (Nat.lt_of_le_of_lt ha0 (Nat.le_of_ble_eq_true rfl)) (Nat.le_of_ble_eq_true rfl)) eX8_isStuck_8 ?_
  refine lv_topi (fun y_1 ey_1 => ?_)
  obtain ⟨u_2, hu_2, qu_2⟩ := bN_get 7 q_s1g (((nI a0) : Int32).toNatClampNeg)
  obtain rfl : y_1 = nI u_2 := ey_1.trans qu_2
  refine lv_istore_n (lv' := [(2, .int (nI u_2)), (0, .ref xa), (1, .int (nI a0))]) hx hb eX8_isStuck_9 rfl hl (by decide) rfl (fun ls hl => ?_)
  refine lv_aload_n hx hb eX8_isStuck_10 rfl (lv_at hl 1 rfl) ?_
  refine va_get (D := (dC, dI)) (ci := 8) (v := .ref g) (C := RX8) (T := TX8) (N := 16) hx hb hts hiX8 hown hK hP 0 rfl rfl 6 (by decide) v_1 (fun _ h9 => h9) rfl eX8_isStuck_11 ?_
  refine va_get (D := (dC, dI)) (ci := 1) (v := .ref gz) (C := RX1) (T := TX1) (N := 18) hx hb hts hiX1 hown hK hP 21 rfl rfl 0 (by decide) v_3 (fun _ h9 => h9) rfl eX8_isStuck_14 ?_
  refine lv_iload_n hx hb eX8_isStuck_17 rfl (lv_at hl 2 rfl) ?_
  refine va_aldq hx hb hK hP 22 18 rfl rfl (vp_in_nI (n := a0) (Nat.lt_of_le_of_lt ha0 (Nat.le_of_ble_eq_true rfl)) (Nat.le_of_ble_eq_true rfl)) eX8_isStuck_18 ?_
  refine W.eq (g2 := F0 m 19 ls [.ref (az (121 + a0))]) (by rw [zs_get (Nat.lt_of_le_of_lt ha0 (Nat.le_of_ble_eq_true rfl)) (by omega)]) ?_
  refine lv_astore_n (lv' := [(3, .ref (az (121 + a0))), (2, .int (nI u_2)), (0, .ref xa), (1, .int (nI a0))]) hx hb eX8_isStuck_19 rfl hl (by decide) rfl (fun ls hl => ?_)
  refine lv_aload_n hx hb eX8_isStuck_20 rfl (lv_at hl 2 rfl) ?_
  refine va_get (D := (dC, dI)) (ci := 8) (v := .ref rm) (C := RX8) (T := TX8) (N := 16) hx hb hts hiX8 hown hK hP 0 rfl rfl 11 (by decide) v_4 (fun _ h9 => h9) rfl eX8_isStuck_21 ?_
  have hPc : va_P (dC, dI) vwCl ([(rm, .inr (5, [.ref rcv, .int (nI rk), .ref rmd, .int (nI ru), .ref rpc, .ref rct, .ref rce, .ref (az 392)])), (rcv, .inl (k_fcv, 120, .inr (.inr (.inr (.inr fcv))))), (rmd, .inl (k_fmd, 28, .inr (.inr (.inr (.inr (zs 242 28 az)))))), (rpc, .inl (k_fpc, 122, .inr (.inr (.inr (.inr (zs 270 122 az)))))), (rct, .inl (k_fct, 122, .inl fct)), (rce, .inl (k_fce, 122, .inl (bN 16 q_fce)))] ++ zp 4 16 N az ac kz qs fz) _ := hP.part [15, 16, 17, 18, 19, 20] rfl
  have hDc : va_D A ([(rm, .inr (5, [.ref rcv, .int (nI rk), .ref rmd, .int (nI ru), .ref rpc, .ref rct, .ref rce, .ref (az 392)])), (rcv, .inl (k_fcv, 120, .inr (.inr (.inr (.inr fcv))))), (rmd, .inl (k_fmd, 28, .inr (.inr (.inr (.inr (zs 242 28 az)))))), (rpc, .inl (k_fpc, 122, .inr (.inr (.inr (.inr (zs 270 122 az)))))), (rct, .inl (k_fct, 122, .inl fct)), (rce, .inl (k_fce, 122, .inl (bN 16 q_fce)))] ++ zp 4 16 N az ac kz qs fz) := hD.part [15, 16, 17, 18, 19, 20] (by decide) rfl
  have hKc : va_K (dC, dI) vwCl ([(k_fcv, .object RX7), (k_fmd, .object RX7), (k_fpc, .object RX7), (k_fct, .int), (k_fce, .int)] ++ zt N kz) s := zk_part hK [13, 14, 15, 16, 17] rfl
  have hFc := pu_free hDc hS hA
  refine va_callv (va_runV (As := []) (rest := []) ⟨hx, hb, hml, hown, hts⟩ (c_C_5_clear l dC dI _ rm rcv rk rmd ru rpc rct rce k_fcv fcv k_fmd k_fpc k_fct fct k_fce q_fce N az ac kz qs fz hrk hru (by omega)) (cwV 0 hts g_C_8_isStuck_C_5_clear rfl rfl rfl (by decide +kernel) ⟨Nat.le_of_ble_eq_true rfl, Nat.le_of_ble_eq_true rfl⟩) ⟨pu_bl, va_recv hK hP (ci := 5) (q0 := 15) rfl rfl, pu_in hPc hKc hDc⟩ rfl rfl hl.1 rfl (lv_room (Nat.le_of_ble_eq_true rfl)) eX8_isStuck_24 ⟨Nat.le_of_ble_eq_true rfl, Nat.le_of_ble_eq_true rfl⟩) hS (fun q _ h => hFc q h) hFc (fun u t H1 locs ht hvm hw hB hz1 hk1 hS => ?_)
  obtain ⟨hP1, -, hD1⟩ := hB
  rw [ht] at hP1
  obtain ⟨hP, hD⟩ := pj_c (X := (xrm__w xa xtape (nI tp) rd au xdr hy g (nI hs) tg sg (nI ss) rm ti py bu sm (nI nc) (nI np) (nI ne) st0 q4 q5 q6 q7 q8 q9 q10 q11 q12 q13 q14 q15 q16 k_f4 f4 k_f5 (bN 7 q_f5) k_f6 (bN 7 q_f6) k_f7 f7 k_f8 (bN 4 q_f8) k_f9 (bN 2 q_f9) k_f10 f10 k_f11 f11 k_f12 f12 k_f13 f13 k_f14 f14 k_f15 f15 k_f16 f16 rcv (nI rk) rmd (nI ru) rpc rct rce (az 392) k_fcv fcv k_fmd (zs 242 28 az) k_fpc (zs 270 122 az) k_fct fct k_fce (bN 16 q_fce) gz g1 g2 g3 g4 g5 (nI gc) (nI gfull) gx gway gav ggoal (nI gfound) 120 (nI gl) (nI gsz) g16 g17 k_fgz (zs 121 121 az) k_s1g (bN 7 q_s1g) k_s2g s2g k_s3g s3g k_s4g s4g k_s5g s5g k_hig hig k_log log)) (X' := (xrm__w xa xtape (nI tp) rd au xdr hy g (nI hs) tg sg (nI ss) rm ti py bu sm (nI nc) (nI np) (nI ne) st0 q4 q5 q6 q7 q8 q9 q10 q11 q12 q13 q14 q15 q16 k_f4 f4 k_f5 (bN 7 q_f5) k_f6 (bN 7 q_f6) k_f7 f7 k_f8 (bN 4 q_f8) k_f9 (bN 2 q_f9) k_f10 f10 k_f11 f11 k_f12 f12 k_f13 f13 k_f14 f14 k_f15 f15 k_f16 f16 rcv 0 rmd 0 rpc rct rce (az 392) k_fcv fcv k_fmd (zs 242 28 az) k_fpc (zs 270 122 az) k_fct fct k_fce (bN 16 q_fce) gz g1 g2 g3 g4 g5 (nI gc) (nI gfull) gx gway gav ggoal (nI gfound) 120 (nI gl) (nI gsz) g16 g17 k_fgz (zs 121 121 az) k_s1g (bN 7 q_s1g) k_s2g s2g k_s3g s3g k_s4g s4g k_s5g s5g k_hig hig k_log log)) (wc := (rm__w rm rcv (nI rk) rmd (nI ru) rpc rct rce (az 392) k_fcv fcv k_fmd (zs 242 28 az) k_fpc (zs 270 122 az) k_fct fct k_fce (bN 16 q_fce))) (w1 := (rm__w rm rcv 0 rmd 0 rpc rct rce (az 392) k_fcv fcv k_fmd (zs 242 28 az) k_fpc (zs 270 122 az) k_fct fct k_fce (bN 16 q_fce))) hP hD [15, 16, 17, 18, 19, 20] [6, 7, 8, 9, 10, 11, 12, 13, 14, 15, 16, 17, 18, 19, 20, 0, 1, 2, 3, 4, 5, 27, 28, 29, 30, 31, 32, 33, 34, 35] 6 rfl hk1 hP1 rfl zp_f rfl rfl (by decide)
  clear hP1 hD1 hFc
  clear hPc hDc hKc
  clear hk1 hz1 ht hvm
  generalize H1 = H at hP hS ⊢
  refine lv_iconst (v := 0) hx hb eX8_isStuck_27 (by decide) ?_
  refine lv_istore (lv' := [(4, .int 0), (3, .ref (az (121 + a0))), (2, .int (nI u_2)), (0, .ref xa), (1, .int (nI a0))]) hx hb eX8_isStuck_28 hl (by decide) rfl (fun ls hl => ?_)
  refine pu_while (fun nn H locs ls => ∃ (g_11 : Nat → Option Nat) (g_12 : Nat) (g_13 : Nat) (g_14 : Nat) (g_15 : Nat → Nat → Int32) (g_16 : Nat → Nat), nn = 14 - g_14 ∧ g_12 ≤ 120 ∧ g_13 ≤ 28 ∧ g_14 ≤ 14 ∧ cv_ok g_12 g_11 az ∧ va_P (dC, dI) vwCl ((xrm__w xa xtape (nI tp) rd au xdr hy g (nI hs) tg sg (nI ss) rm ti py bu sm (nI nc) (nI np) (nI ne) st0 q4 q5 q6 q7 q8 q9 q10 q11 q12 q13 q14 q15 q16 k_f4 f4 k_f5 (bN 7 q_f5) k_f6 (bN 7 q_f6) k_f7 f7 k_f8 (bN 4 q_f8) k_f9 (bN 2 q_f9) k_f10 f10 k_f11 f11 k_f12 f12 k_f13 f13 k_f14 f14 k_f15 f15 k_f16 f16 rcv (nI g_12) rmd (nI g_13) rpc rct rce (az 392) k_fcv g_11 k_fmd (zs 242 28 az) k_fpc (zs 270 122 az) k_fct fct k_fce (bN 16 q_fce) gz g1 g2 g3 g4 g5 (nI gc) (nI gfull) gx gway gav ggoal (nI gfound) 120 (nI gl) (nI gsz) g16 g17 k_fgz (zs 121 121 az) k_s1g (bN 7 q_s1g) k_s2g s2g k_s3g s3g k_s4g s4g k_s5g s5g k_hig hig k_log log) ++ zp 4 16 N az ac kz g_16 g_15) H ∧ va_D A ((xrm__w xa xtape (nI tp) rd au xdr hy g (nI hs) tg sg (nI ss) rm ti py bu sm (nI nc) (nI np) (nI ne) st0 q4 q5 q6 q7 q8 q9 q10 q11 q12 q13 q14 q15 q16 k_f4 f4 k_f5 (bN 7 q_f5) k_f6 (bN 7 q_f6) k_f7 f7 k_f8 (bN 4 q_f8) k_f9 (bN 2 q_f9) k_f10 f10 k_f11 f11 k_f12 f12 k_f13 f13 k_f14 f14 k_f15 f15 k_f16 f16 rcv (nI g_12) rmd (nI g_13) rpc rct rce (az 392) k_fcv g_11 k_fmd (zs 242 28 az) k_fpc (zs 270 122 az) k_fct fct k_fce (bN 16 q_fce) gz g1 g2 g3 g4 g5 (nI gc) (nI gfull) gx gway gav ggoal (nI gfound) 120 (nI gl) (nI gsz) g16 g17 k_fgz (zs 121 121 az) k_s1g (bN 7 q_s1g) k_s2g s2g k_s3g s3g k_s4g s4g k_s5g s5g k_hig hig k_log log) ++ zp 4 16 N az ac kz g_16 g_15) ∧ va_S A s.heap H locs ∧ lv_has ls 5 [(0, .ref xa), (1, .int (nI a0)), (2, .int (nI u_2)), (3, .ref (az (121 + a0))), (4, .int (nI g_14))]) 30 ?_ _ _ _ _ ⟨fcv, 0, 0, 0, fz, qs, rfl, (Nat.le_of_ble_eq_true rfl), (Nat.le_of_ble_eq_true rfl), (Nat.le_of_ble_eq_true rfl), by first | assumption | exact cv_0, hP, hD, hS, lv_sub hl [3, 4, 2, 1, 0] rfl⟩
  rintro nn ih_18 H locs ls ⟨g_11, g_12, g_13, g_14, g_15, g_16, rfl, hg_12, hg_13, hg_14, he_17, hP, hD, hS, hl⟩
  refine lv_iload hx hb eX8_isStuck_30 (lv_at hl 4 rfl) ?_
  refine lv_aload_n hx hb eX8_isStuck_32 rfl (lv_at hl 0 rfl) ?_
  refine va_get (D := (dC, dI)) (ci := 8) (v := .ref au) (C := RX8) (T := TX8) (N := 16) hx hb hts hiX8 hown hK hP 0 rfl rfl 3 (by decide) v_10 (fun _ h9 => h9) rfl eX8_isStuck_33 ?_
  refine va_get (D := (dC, dI)) (ci := 0) (v := .int (nI ne)) (C := RX0) (T := TX0) (N := 17) hx hb hts hiX0 hown hK hP 1 rfl rfl 2 (by decide) v_11 (fun _ h9 => h9) rfl eX8_isStuck_36 ?_
  refine lv_icmp_ge (tgt := 79) hx hb eX8_isStuck_39 (by decide) (fun c_19 => ?_) (fun c_19 => ?_)
  · have c_19 : ne ≤ g_14 := (nI_leI (a := ne) (b := g_14) (Nat.lt_of_le_of_lt hne (Nat.le_of_ble_eq_true rfl)) (Nat.lt_of_le_of_lt hg_14 (Nat.le_of_ble_eq_true rfl))).mp c_19
    refine lv_aload_n hx hb eX8_isStuck_79 rfl (lv_at hl 0 rfl) ?_
    refine va_get (D := (dC, dI)) (ci := 8) (v := .ref rm) (C := RX8) (T := TX8) (N := 16) hx hb hts hiX8 hown hK hP 0 rfl rfl 11 (by decide) v_4 (fun _ h9 => h9) rfl eX8_isStuck_80 ?_
    refine lv_aload_n hx hb eX8_isStuck_83 rfl (lv_at hl 3 rfl) ?_
    have hPc : va_P (dC, dI) vwCl ([(rm, .inr (5, [.ref rcv, .int (nI g_12), .ref rmd, .int (nI g_13), .ref rpc, .ref rct, .ref rce, .ref (az 392)])), (rcv, .inl (k_fcv, 120, .inr (.inr (.inr (.inr g_11))))), (rmd, .inl (k_fmd, 28, .inr (.inr (.inr (.inr (zs 242 28 az)))))), (rpc, .inl (k_fpc, 122, .inr (.inr (.inr (.inr (zs 270 122 az)))))), (rct, .inl (k_fct, 122, .inl fct)), (rce, .inl (k_fce, 122, .inl (bN 16 q_fce)))] ++ zp 4 16 N az ac kz g_16 g_15) _ := hP.part [15, 16, 17, 18, 19, 20] rfl
    have hDc : va_D A ([(rm, .inr (5, [.ref rcv, .int (nI g_12), .ref rmd, .int (nI g_13), .ref rpc, .ref rct, .ref rce, .ref (az 392)])), (rcv, .inl (k_fcv, 120, .inr (.inr (.inr (.inr g_11))))), (rmd, .inl (k_fmd, 28, .inr (.inr (.inr (.inr (zs 242 28 az)))))), (rpc, .inl (k_fpc, 122, .inr (.inr (.inr (.inr (zs 270 122 az)))))), (rct, .inl (k_fct, 122, .inl fct)), (rce, .inl (k_fce, 122, .inl (bN 16 q_fce)))] ++ zp 4 16 N az ac kz g_16 g_15) := hD.part [15, 16, 17, 18, 19, 20] (by decide) rfl
    have hKc : va_K (dC, dI) vwCl ([(k_fcv, .object RX7), (k_fmd, .object RX7), (k_fpc, .object RX7), (k_fct, .int), (k_fce, .int)] ++ zt N kz) s := zk_part hK [13, 14, 15, 16, 17] rfl
    have hFc := pu_free hDc hS hA
    refine va_calli (va_runV (As := [.ref (az (121 + a0))]) (rest := []) ⟨hx, hb, hml, hown, hts⟩ (c_C_5_leavesAny l dC dI _ rm rcv g_12 rmd g_13 rpc rct rce k_fcv g_11 k_fmd k_fpc k_fct fct k_fce q_fce N az ac kz g_16 g_15 (121 + a0) hg_12 hg_13 (by omega) (by omega) (by assumption) (by omega)) (cwV 1 hts g_C_8_isStuck_C_5_leavesAny rfl rfl rfl (by decide +kernel) ⟨Nat.le_of_ble_eq_true rfl, Nat.le_of_ble_eq_true rfl⟩) ⟨pu_bl, va_recv hK hP (ci := 5) (q0 := 15) rfl rfl, pu_in hPc hKc hDc⟩ rfl rfl hl.1 rfl (lv_room (Nat.le_of_ble_eq_true rfl)) eX8_isStuck_84 ⟨Nat.le_of_ble_eq_true rfl, Nat.le_of_ble_eq_true rfl⟩) hS (fun q _ h => hFc q h) hFc (fun r_20 u t H1 locs ht hvm hw hB hz1 hk1 hS => ?_)
    obtain ⟨z_fct_21, z_fce_22, z_fz_23, z_qs_24, ⟨hP1, -, hD1⟩⟩ := hB
    rw [ht] at hP1
    obtain ⟨hP, hD⟩ := pj_c (X := (xrm__w xa xtape (nI tp) rd au xdr hy g (nI hs) tg sg (nI ss) rm ti py bu sm (nI nc) (nI np) (nI ne) st0 q4 q5 q6 q7 q8 q9 q10 q11 q12 q13 q14 q15 q16 k_f4 f4 k_f5 (bN 7 q_f5) k_f6 (bN 7 q_f6) k_f7 f7 k_f8 (bN 4 q_f8) k_f9 (bN 2 q_f9) k_f10 f10 k_f11 f11 k_f12 f12 k_f13 f13 k_f14 f14 k_f15 f15 k_f16 f16 rcv (nI g_12) rmd (nI g_13) rpc rct rce (az 392) k_fcv g_11 k_fmd (zs 242 28 az) k_fpc (zs 270 122 az) k_fct fct k_fce (bN 16 q_fce) gz g1 g2 g3 g4 g5 (nI gc) (nI gfull) gx gway gav ggoal (nI gfound) 120 (nI gl) (nI gsz) g16 g17 k_fgz (zs 121 121 az) k_s1g (bN 7 q_s1g) k_s2g s2g k_s3g s3g k_s4g s4g k_s5g s5g k_hig hig k_log log)) (X' := (xrm__w xa xtape (nI tp) rd au xdr hy g (nI hs) tg sg (nI ss) rm ti py bu sm (nI nc) (nI np) (nI ne) st0 q4 q5 q6 q7 q8 q9 q10 q11 q12 q13 q14 q15 q16 k_f4 f4 k_f5 (bN 7 q_f5) k_f6 (bN 7 q_f6) k_f7 f7 k_f8 (bN 4 q_f8) k_f9 (bN 2 q_f9) k_f10 f10 k_f11 f11 k_f12 f12 k_f13 f13 k_f14 f14 k_f15 f15 k_f16 f16 rcv (nI g_12) rmd (nI g_13) rpc rct rce (az 392) k_fcv g_11 k_fmd (zs 242 28 az) k_fpc (zs 270 122 az) k_fct z_fct_21 k_fce (bN 16 z_fce_22) gz g1 g2 g3 g4 g5 (nI gc) (nI gfull) gx gway gav ggoal (nI gfound) 120 (nI gl) (nI gsz) g16 g17 k_fgz (zs 121 121 az) k_s1g (bN 7 q_s1g) k_s2g s2g k_s3g s3g k_s4g s4g k_s5g s5g k_hig hig k_log log)) (wc := (rm__w rm rcv (nI g_12) rmd (nI g_13) rpc rct rce (az 392) k_fcv g_11 k_fmd (zs 242 28 az) k_fpc (zs 270 122 az) k_fct fct k_fce (bN 16 q_fce))) (w1 := (rm__w rm rcv (nI g_12) rmd (nI g_13) rpc rct rce (az 392) k_fcv g_11 k_fmd (zs 242 28 az) k_fpc (zs 270 122 az) k_fct z_fct_21 k_fce (bN 16 z_fce_22))) hP hD [15, 16, 17, 18, 19, 20] [6, 7, 8, 9, 10, 11, 12, 13, 14, 15, 16, 17, 18, 19, 20, 0, 1, 2, 3, 4, 5, 27, 28, 29, 30, 31, 32, 33, 34, 35] 6 rfl hk1 hP1 rfl zp_f rfl rfl (by decide)
    clear hP1 hD1 hFc
    clear hPc hDc hKc
    clear hk1 hz1 ht hvm
    generalize H1 = H at hP hS ⊢
    obtain ⟨u_25, hu_25, rfl⟩ := hw
    exact W.zret (v := (nI u_25)) (ty := .boolean) hx hb hr (pu_nz (pu_b1 (n := u_25) (by omega))) (fun t ht hW => ⟨⟨(nI u_25), (), rfl, ⟨u_25, hu_25, rfl⟩, ⟨g_11, z_fct_21, z_fce_22, g_12, g_13, z_fz_23, z_qs_24, ⟨by rw [ht]; exact hP, va_K.moved hW.alike hK, hD⟩, hg_12, hg_13, by assumption⟩⟩, hS.F ht⟩) hS.2.2 eX8_isStuck_87
  · have c_19 : ¬ ne ≤ g_14 := fun z => c_19 ((nI_leI (a := ne) (b := g_14) (Nat.lt_of_le_of_lt hne (Nat.le_of_ble_eq_true rfl)) (Nat.lt_of_le_of_lt hg_14 (Nat.le_of_ble_eq_true rfl))).mpr z)
    refine lv_aload_n hx hb eX8_isStuck_42 rfl (lv_at hl 0 rfl) ?_
    refine va_get (D := (dC, dI)) (ci := 8) (v := .ref au) (C := RX8) (T := TX8) (N := 16) hx hb hts hiX8 hown hK hP 0 rfl rfl 3 (by decide) v_10 (fun _ h9 => h9) rfl eX8_isStuck_43 ?_
    refine va_get (D := (dC, dI)) (ci := 0) (v := .ref q5) (C := RX0) (T := TX0) (N := 17) hx hb hts hiX0 hown hK hP 1 rfl rfl 5 (by decide) v_12 (fun _ h9 => h9) rfl eX8_isStuck_46 ?_
    refine lv_iload hx hb eX8_isStuck_49 (lv_at hl 4 rfl) ?_
    refine va_iald hx hb hK hP 3 1 rfl rfl (vp_in_nI (n := g_14) (by omega) (Nat.le_of_ble_eq_true rfl)) eX8_isStuck_51 ?_
    refine lv_topi (fun y_26 ey_26 => ?_)
    obtain ⟨u_27, hu_27, qu_27⟩ := bN_get 7 q_f5 (((nI g_14) : Int32).toNatClampNeg)
    obtain rfl : y_26 = nI u_27 := ey_26.trans qu_27
    refine lv_iload_n hx hb eX8_isStuck_52 rfl (lv_at hl 2 rfl) ?_
    refine pu_join (fun H locs ls st => ∃ (g_28 : Nat) (g_29 : Nat) (g_30 : Nat → Option Nat) (g_31 : Nat → Nat) (g_32 : Nat → Nat → Int32), st = [] ∧ g_28 ≤ 120 ∧ g_29 ≤ 28 ∧ cv_ok g_28 g_30 az ∧ va_P (dC, dI) vwCl ((xrm__w xa xtape (nI tp) rd au xdr hy g (nI hs) tg sg (nI ss) rm ti py bu sm (nI nc) (nI np) (nI ne) st0 q4 q5 q6 q7 q8 q9 q10 q11 q12 q13 q14 q15 q16 k_f4 f4 k_f5 (bN 7 q_f5) k_f6 (bN 7 q_f6) k_f7 f7 k_f8 (bN 4 q_f8) k_f9 (bN 2 q_f9) k_f10 f10 k_f11 f11 k_f12 f12 k_f13 f13 k_f14 f14 k_f15 f15 k_f16 f16 rcv (nI g_28) rmd (nI g_29) rpc rct rce (az 392) k_fcv g_30 k_fmd (zs 242 28 az) k_fpc (zs 270 122 az) k_fct fct k_fce (bN 16 q_fce) gz g1 g2 g3 g4 g5 (nI gc) (nI gfull) gx gway gav ggoal (nI gfound) 120 (nI gl) (nI gsz) g16 g17 k_fgz (zs 121 121 az) k_s1g (bN 7 q_s1g) k_s2g s2g k_s3g s3g k_s4g s4g k_s5g s5g k_hig hig k_log log) ++ zp 4 16 N az ac kz g_31 g_32) H ∧ va_D A ((xrm__w xa xtape (nI tp) rd au xdr hy g (nI hs) tg sg (nI ss) rm ti py bu sm (nI nc) (nI np) (nI ne) st0 q4 q5 q6 q7 q8 q9 q10 q11 q12 q13 q14 q15 q16 k_f4 f4 k_f5 (bN 7 q_f5) k_f6 (bN 7 q_f6) k_f7 f7 k_f8 (bN 4 q_f8) k_f9 (bN 2 q_f9) k_f10 f10 k_f11 f11 k_f12 f12 k_f13 f13 k_f14 f14 k_f15 f15 k_f16 f16 rcv (nI g_28) rmd (nI g_29) rpc rct rce (az 392) k_fcv g_30 k_fmd (zs 242 28 az) k_fpc (zs 270 122 az) k_fct fct k_fce (bN 16 q_fce) gz g1 g2 g3 g4 g5 (nI gc) (nI gfull) gx gway gav ggoal (nI gfound) 120 (nI gl) (nI gsz) g16 g17 k_fgz (zs 121 121 az) k_s1g (bN 7 q_s1g) k_s2g s2g k_s3g s3g k_s4g s4g k_s5g s5g k_hig hig k_log log) ++ zp 4 16 N az ac kz g_31 g_32) ∧ va_S A s.heap H locs ∧ lv_has ls 5 [(0, .ref xa), (1, .int (nI a0)), (2, .int (nI u_2)), (3, .ref (az (121 + a0))), (4, .int (nI g_14))]) 73 ?_ (fun j_34 => ?_)
    · rintro H locs ls st ⟨g_28, g_29, g_30, g_31, g_32, rfl, hg_28, hg_29, he_33, hP, hD, hS, hl⟩
      refine lv_iinc (v := (nI (g_14 + 1))) (lv' := [(4, .int (nI (g_14 + 1))), (0, .ref xa), (1, .int (nI a0)), (2, .int (nI u_2)), (3, .ref (az (121 + a0)))]) hx hb eX8_isStuck_73 hl (k := 4) rfl (nI_1 _) (by decide) rfl (fun ls hl => ?_)
      refine lv_goto (tgt := 30) hx hb eX8_isStuck_76 (by decide) ?_
      exact ih_18 (14 - (g_14 + 1)) (by omega) _ _ _ ⟨g_30, g_28, g_29, (g_14 + 1), g_32, g_31, rfl, hg_28, hg_29, (by omega), by first | assumption | exact cv_0, hP, hD, hS, lv_sub hl [1, 2, 3, 4, 0] rfl⟩
    refine lv_icmp_ne (tgt := 73) hx hb eX8_isStuck_53 (by decide) (fun c_35 => ?_) (fun c_35 => ?_)
    · have c_35 : ¬ u_27 = u_2 := fun z => c_35 ((nI_eq (a := u_27) (b := u_2) (Nat.lt_of_le_of_lt hu_27 (Nat.le_of_ble_eq_true rfl)) (Nat.lt_of_le_of_lt hu_2 (Nat.le_of_ble_eq_true rfl))).mpr z)
      exact j_34 _ _ _ _ ⟨g_12, g_13, g_11, g_16, g_15, rfl, hg_12, hg_13, by first | assumption | exact cv_0, hP, hD, hS, lv_sub hl [0, 1, 2, 3, 4] rfl⟩
    · have c_35 : u_27 = u_2 := (nI_eq (a := u_27) (b := u_2) (Nat.lt_of_le_of_lt hu_27 (Nat.le_of_ble_eq_true rfl)) (Nat.lt_of_le_of_lt hu_2 (Nat.le_of_ble_eq_true rfl))).mp c_35
      refine lv_aload_n hx hb eX8_isStuck_56 rfl (lv_at hl 0 rfl) ?_
      refine va_get (D := (dC, dI)) (ci := 8) (v := .ref rm) (C := RX8) (T := TX8) (N := 16) hx hb hts hiX8 hown hK hP 0 rfl rfl 11 (by decide) v_4 (fun _ h9 => h9) rfl eX8_isStuck_57 ?_
      refine lv_aload_n hx hb eX8_isStuck_60 rfl (lv_at hl 0 rfl) ?_
      refine va_get (D := (dC, dI)) (ci := 8) (v := .ref au) (C := RX8) (T := TX8) (N := 16) hx hb hts hiX8 hown hK hP 0 rfl rfl 3 (by decide) v_10 (fun _ h9 => h9) rfl eX8_isStuck_61 ?_
      refine lv_iload hx hb eX8_isStuck_64 (lv_at hl 4 rfl) ?_
      refine lv_aload_n hx hb eX8_isStuck_66 rfl (lv_at hl 3 rfl) ?_
      have hPz := zp_cut (k := (121 + a0)) hP (by omega)
      refine va_get (D := (dC, dI)) (ci := 7) (v := .int (nI (min (g_16 (121 + a0)) 4))) (C := RX7) (T := TX7) (N := 2) hx hb hts hiX7 hown hK hPz 0 rfl rfl 1 (by decide) v_13 (fun _ h9 => h9) rfl eX8_isStuck_67 ?_
      clear hPz
      obtain ⟨zn_37, hzn_37, ezn_37⟩ : ∃ q : Nat, q ≤ 4 ∧ nI (min (g_16 (121 + a0)) 4) = nI q := ⟨_, Nat.min_le_right _ _, rfl⟩
      have hqzn_37 := zz4 hzn_37
      refine lv_topi (fun y_36 ey_36 => ?_)
      obtain rfl : y_36 = nI zn_37 := ey_36.trans ezn_37
      have hPc : va_P (dC, dI) vwCl ([(rm, .inr (5, [.ref rcv, .int (nI g_12), .ref rmd, .int (nI g_13), .ref rpc, .ref rct, .ref rce, .ref (az 392)])), (rcv, .inl (k_fcv, 120, .inr (.inr (.inr (.inr g_11))))), (rmd, .inl (k_fmd, 28, .inr (.inr (.inr (.inr (zs 242 28 az)))))), (rpc, .inl (k_fpc, 122, .inr (.inr (.inr (.inr (zs 270 122 az)))))), (rct, .inl (k_fct, 122, .inl fct)), (rce, .inl (k_fce, 122, .inl (bN 16 q_fce))), (au, .inr (0, [.int (nI nc), .int (nI np), .int (nI ne), .int st0, .ref q4, .ref q5, .ref q6, .ref q7, .ref q8, .ref q9, .ref q10, .ref q11, .ref q12, .ref q13, .ref q14, .ref q15, .ref q16])), (q4, .inl (k_f4, 8, .inl f4)), (q5, .inl (k_f5, 14, .inl (bN 7 q_f5))), (q6, .inl (k_f6, 14, .inl (bN 7 q_f6))), (q7, .inl (k_f7, 14, .inl f7)), (q8, .inl (k_f8, 22, .inl (bN 4 q_f8))), (q9, .inl (k_f9, 88, .inl (bN 2 q_f9))), (q10, .inl (k_f10, 88, .inl f10)), (q11, .inl (k_f11, 88, .inl f11)), (q12, .inl (k_f12, 88, .inl f12)), (q13, .inl (k_f13, 88, .inl f13)), (q14, .inl (k_f14, 4, .inl f14)), (q15, .inl (k_f15, 4, .inl f15)), (q16, .inl (k_f16, 4, .inl f16))] ++ zp 4 16 N az ac kz g_16 g_15) _ := hP.part [15, 16, 17, 18, 19, 20, 1, 2, 3, 4, 5, 6, 7, 8, 9, 10, 11, 12, 13, 14] rfl
      have hDc : va_D A ([(rm, .inr (5, [.ref rcv, .int (nI g_12), .ref rmd, .int (nI g_13), .ref rpc, .ref rct, .ref rce, .ref (az 392)])), (rcv, .inl (k_fcv, 120, .inr (.inr (.inr (.inr g_11))))), (rmd, .inl (k_fmd, 28, .inr (.inr (.inr (.inr (zs 242 28 az)))))), (rpc, .inl (k_fpc, 122, .inr (.inr (.inr (.inr (zs 270 122 az)))))), (rct, .inl (k_fct, 122, .inl fct)), (rce, .inl (k_fce, 122, .inl (bN 16 q_fce))), (au, .inr (0, [.int (nI nc), .int (nI np), .int (nI ne), .int st0, .ref q4, .ref q5, .ref q6, .ref q7, .ref q8, .ref q9, .ref q10, .ref q11, .ref q12, .ref q13, .ref q14, .ref q15, .ref q16])), (q4, .inl (k_f4, 8, .inl f4)), (q5, .inl (k_f5, 14, .inl (bN 7 q_f5))), (q6, .inl (k_f6, 14, .inl (bN 7 q_f6))), (q7, .inl (k_f7, 14, .inl f7)), (q8, .inl (k_f8, 22, .inl (bN 4 q_f8))), (q9, .inl (k_f9, 88, .inl (bN 2 q_f9))), (q10, .inl (k_f10, 88, .inl f10)), (q11, .inl (k_f11, 88, .inl f11)), (q12, .inl (k_f12, 88, .inl f12)), (q13, .inl (k_f13, 88, .inl f13)), (q14, .inl (k_f14, 4, .inl f14)), (q15, .inl (k_f15, 4, .inl f15)), (q16, .inl (k_f16, 4, .inl f16))] ++ zp 4 16 N az ac kz g_16 g_15) := hD.part [15, 16, 17, 18, 19, 20, 1, 2, 3, 4, 5, 6, 7, 8, 9, 10, 11, 12, 13, 14] (by decide) rfl
      have hKc : va_K (dC, dI) vwCl ([(k_fcv, .object RX7), (k_fmd, .object RX7), (k_fpc, .object RX7), (k_fct, .int), (k_fce, .int), (k_f4, .boolean), (k_f5, .int), (k_f6, .int), (k_f7, .int), (k_f8, .int), (k_f9, .int), (k_f10, .int), (k_f11, .int), (k_f12, .int), (k_f13, .int), (k_f14, .int), (k_f15, .int), (k_f16, .int)] ++ zt N kz) s := zk_part hK [13, 14, 15, 16, 17, 0, 1, 2, 3, 4, 5, 6, 7, 8, 9, 10, 11, 12] rfl
      have hFc := pu_free hDc hS hA
      refine va_callv (va_runV (As := [.ref au, .int (nI g_14), .int (nI zn_37)]) (rest := []) ⟨hx, hb, hml, hown, hts⟩ (c_C_5_addLeaving l dC dI _ rm rcv g_12 rmd g_13 rpc rct rce k_fcv g_11 k_fmd k_fpc k_fct fct k_fce q_fce au nc np ne st0 q4 q5 q6 q7 q8 q9 q10 q11 q12 q13 q14 q15 q16 k_f4 f4 k_f5 q_f5 k_f6 q_f6 k_f7 f7 k_f8 q_f8 k_f9 q_f9 k_f10 f10 k_f11 f11 k_f12 f12 k_f13 f13 k_f14 f14 k_f15 f15 k_f16 f16 N az ac kz g_16 g_15 g_14 zn_37 hg_12 hg_13 hnc hnp hne (hst0) (by omega) (by omega) hzn_37 (by assumption)) (cwV 3 hts g_C_8_isStuck_C_5_addLeaving rfl rfl rfl (by decide +kernel) ⟨Nat.le_of_ble_eq_true rfl, Nat.le_of_ble_eq_true rfl⟩) ⟨pu_bl, va_recv hK hP (ci := 5) (q0 := 15) rfl rfl, pu_in hPc hKc hDc⟩ rfl rfl hl.1 rfl (lv_room (Nat.le_of_ble_eq_true rfl)) eX8_isStuck_70 ⟨Nat.le_of_ble_eq_true rfl, Nat.le_of_ble_eq_true rfl⟩) hS (fun q _ h => hFc q h) hFc (fun u t H1 locs ht hvm hw hB hz1 hk1 hS => ?_)
      obtain ⟨z_fcv_39, z_rk_40, z_ru_41, z_fz_42, z_qs_43, ⟨hP1, -, hD1⟩, hz_rk_40, hz_ru_41, xr_38_0⟩ := hB
      rw [ht] at hP1
      obtain ⟨hP, hD⟩ := pj_c (X := (xrm__w xa xtape (nI tp) rd au xdr hy g (nI hs) tg sg (nI ss) rm ti py bu sm (nI nc) (nI np) (nI ne) st0 q4 q5 q6 q7 q8 q9 q10 q11 q12 q13 q14 q15 q16 k_f4 f4 k_f5 (bN 7 q_f5) k_f6 (bN 7 q_f6) k_f7 f7 k_f8 (bN 4 q_f8) k_f9 (bN 2 q_f9) k_f10 f10 k_f11 f11 k_f12 f12 k_f13 f13 k_f14 f14 k_f15 f15 k_f16 f16 rcv (nI g_12) rmd (nI g_13) rpc rct rce (az 392) k_fcv g_11 k_fmd (zs 242 28 az) k_fpc (zs 270 122 az) k_fct fct k_fce (bN 16 q_fce) gz g1 g2 g3 g4 g5 (nI gc) (nI gfull) gx gway gav ggoal (nI gfound) 120 (nI gl) (nI gsz) g16 g17 k_fgz (zs 121 121 az) k_s1g (bN 7 q_s1g) k_s2g s2g k_s3g s3g k_s4g s4g k_s5g s5g k_hig hig k_log log)) (X' := (xrm__w xa xtape (nI tp) rd au xdr hy g (nI hs) tg sg (nI ss) rm ti py bu sm (nI nc) (nI np) (nI ne) st0 q4 q5 q6 q7 q8 q9 q10 q11 q12 q13 q14 q15 q16 k_f4 f4 k_f5 (bN 7 q_f5) k_f6 (bN 7 q_f6) k_f7 f7 k_f8 (bN 4 q_f8) k_f9 (bN 2 q_f9) k_f10 f10 k_f11 f11 k_f12 f12 k_f13 f13 k_f14 f14 k_f15 f15 k_f16 f16 rcv (nI z_rk_40) rmd (nI z_ru_41) rpc rct rce (az 392) k_fcv z_fcv_39 k_fmd (zs 242 28 az) k_fpc (zs 270 122 az) k_fct fct k_fce (bN 16 q_fce) gz g1 g2 g3 g4 g5 (nI gc) (nI gfull) gx gway gav ggoal (nI gfound) 120 (nI gl) (nI gsz) g16 g17 k_fgz (zs 121 121 az) k_s1g (bN 7 q_s1g) k_s2g s2g k_s3g s3g k_s4g s4g k_s5g s5g k_hig hig k_log log)) (wc := (rma__w rm rcv (nI g_12) rmd (nI g_13) rpc rct rce (az 392) k_fcv g_11 k_fmd (zs 242 28 az) k_fpc (zs 270 122 az) k_fct fct k_fce (bN 16 q_fce) au (nI nc) (nI np) (nI ne) st0 q4 q5 q6 q7 q8 q9 q10 q11 q12 q13 q14 q15 q16 k_f4 f4 k_f5 (bN 7 q_f5) k_f6 (bN 7 q_f6) k_f7 f7 k_f8 (bN 4 q_f8) k_f9 (bN 2 q_f9) k_f10 f10 k_f11 f11 k_f12 f12 k_f13 f13 k_f14 f14 k_f15 f15 k_f16 f16)) (w1 := (rma__w rm rcv (nI z_rk_40) rmd (nI z_ru_41) rpc rct rce (az 392) k_fcv z_fcv_39 k_fmd (zs 242 28 az) k_fpc (zs 270 122 az) k_fct fct k_fce (bN 16 q_fce) au (nI nc) (nI np) (nI ne) st0 q4 q5 q6 q7 q8 q9 q10 q11 q12 q13 q14 q15 q16 k_f4 f4 k_f5 (bN 7 q_f5) k_f6 (bN 7 q_f6) k_f7 f7 k_f8 (bN 4 q_f8) k_f9 (bN 2 q_f9) k_f10 f10 k_f11 f11 k_f12 f12 k_f13 f13 k_f14 f14 k_f15 f15 k_f16 f16)) hP hD [15, 16, 17, 18, 19, 20, 1, 2, 3, 4, 5, 6, 7, 8, 9, 10, 11, 12, 13, 14] [20, 6, 7, 8, 9, 10, 11, 12, 13, 14, 15, 16, 17, 18, 19, 0, 1, 2, 3, 4, 5, 41, 42, 43, 44, 45, 46, 47, 48, 49] 20 rfl hk1 hP1 rfl zp_f rfl rfl (by decide)
      clear hP1 hD1 hFc
      clear hPc hDc hKc
      clear hk1 hz1 ht hvm
      generalize H1 = H at hP hS ⊢
      exact j_34 _ _ _ _ ⟨z_rk_40, z_ru_41, z_fcv_39, z_qs_43, z_fz_42, rfl, hz_rk_40, hz_ru_41, by first | assumption | exact cv_0, hP, hD, hS, lv_sub hl [0, 1, 2, 3, 4] rfl⟩
theorem eX8_state_0 : decode cX8_state 0 = .ok (.aload_n 0, 1) := by decide +kernel
theorem eX8_state_1 : decode cX8_state 1 = .ok (.iload_n 1, 1) := by decide +kernel
theorem eX8_state_2 : decode cX8_state 2 = .ok (.invokevirtual 228, 3) := by decide +kernel
theorem eX8_state_5 : decode cX8_state 5 = .ok (.ifCond .ne 5, 3) := by decide +kernel
theorem eX8_state_8 : decode cX8_state 8 = .ok (.iconst (-1), 1) := by decide +kernel
theorem eX8_state_9 : decode cX8_state 9 = .ok (.ireturn, 1) := by decide +kernel
theorem eX8_state_10 : decode cX8_state 10 = .ok (.iload_n 2, 1) := by decide +kernel
theorem eX8_state_11 : decode cX8_state 11 = .ok (.tableswitch 96 0 5 #[37, 47, 57, 67, 77, 87], 37) := by decide +kernel
theorem eX8_state_48 : decode cX8_state 48 = .ok (.aload_n 0, 1) := by decide +kernel
theorem eX8_state_49 : decode cX8_state 49 = .ok (.getfield 42, 3) := by decide +kernel
theorem eX8_state_52 : decode cX8_state 52 = .ok (.getfield 231, 3) := by decide +kernel
theorem eX8_state_55 : decode cX8_state 55 = .ok (.iload_n 1, 1) := by decide +kernel
theorem eX8_state_56 : decode cX8_state 56 = .ok (.iaload, 1) := by decide +kernel
theorem eX8_state_57 : decode cX8_state 57 = .ok (.ireturn, 1) := by decide +kernel
theorem eX8_state_58 : decode cX8_state 58 = .ok (.aload_n 0, 1) := by decide +kernel
theorem eX8_state_59 : decode cX8_state 59 = .ok (.getfield 42, 3) := by decide +kernel
theorem eX8_state_62 : decode cX8_state 62 = .ok (.getfield 234, 3) := by decide +kernel
theorem eX8_state_65 : decode cX8_state 65 = .ok (.iload_n 1, 1) := by decide +kernel
theorem eX8_state_66 : decode cX8_state 66 = .ok (.iaload, 1) := by decide +kernel
theorem eX8_state_67 : decode cX8_state 67 = .ok (.ireturn, 1) := by decide +kernel
theorem eX8_state_68 : decode cX8_state 68 = .ok (.aload_n 0, 1) := by decide +kernel
theorem eX8_state_69 : decode cX8_state 69 = .ok (.getfield 42, 3) := by decide +kernel
theorem eX8_state_72 : decode cX8_state 72 = .ok (.getfield 237, 3) := by decide +kernel
theorem eX8_state_75 : decode cX8_state 75 = .ok (.iload_n 1, 1) := by decide +kernel
theorem eX8_state_76 : decode cX8_state 76 = .ok (.iaload, 1) := by decide +kernel
theorem eX8_state_77 : decode cX8_state 77 = .ok (.ireturn, 1) := by decide +kernel
theorem eX8_state_78 : decode cX8_state 78 = .ok (.aload_n 0, 1) := by decide +kernel
theorem eX8_state_79 : decode cX8_state 79 = .ok (.getfield 42, 3) := by decide +kernel
theorem eX8_state_82 : decode cX8_state 82 = .ok (.getfield 240, 3) := by decide +kernel
theorem eX8_state_85 : decode cX8_state 85 = .ok (.iload_n 1, 1) := by decide +kernel
theorem eX8_state_86 : decode cX8_state 86 = .ok (.iaload, 1) := by decide +kernel
theorem eX8_state_87 : decode cX8_state 87 = .ok (.ireturn, 1) := by decide +kernel
theorem eX8_state_88 : decode cX8_state 88 = .ok (.aload_n 0, 1) := by decide +kernel
theorem eX8_state_89 : decode cX8_state 89 = .ok (.getfield 42, 3) := by decide +kernel
theorem eX8_state_92 : decode cX8_state 92 = .ok (.getfield 243, 3) := by decide +kernel
theorem eX8_state_95 : decode cX8_state 95 = .ok (.iload_n 1, 1) := by decide +kernel
theorem eX8_state_96 : decode cX8_state 96 = .ok (.iaload, 1) := by decide +kernel
theorem eX8_state_97 : decode cX8_state 97 = .ok (.ireturn, 1) := by decide +kernel
theorem eX8_state_98 : decode cX8_state 98 = .ok (.aload_n 0, 1) := by decide +kernel
theorem eX8_state_99 : decode cX8_state 99 = .ok (.iload_n 1, 1) := by decide +kernel
theorem eX8_state_100 : decode cX8_state 100 = .ok (.invokevirtual 246, 3) := by decide +kernel
theorem eX8_state_103 : decode cX8_state 103 = .ok (.invokestatic 133, 3) := by decide +kernel
theorem eX8_state_106 : decode cX8_state 106 = .ok (.ireturn, 1) := by decide +kernel
theorem eX8_state_107 : decode cX8_state 107 = .ok (.iconst (-1), 1) := by decide +kernel
theorem eX8_state_108 : decode cX8_state 108 = .ok (.ireturn, 1) := by decide +kernel
abbrev vs_C_8_state : List Cond := .code yX8_state cX8_state 3 (some .int) :: CM
theorem g_C_8_state_E_8_isState : GoodIn vs_C_8_state (wsV RX8 228 RX8 yX8_isState vs_E_8_isState) := cm_gV cm_537 cm_538 cm_539 cm_427 cm_530
theorem g_C_8_state_C_8_isStuck : GoodIn vs_C_8_state (wsV RX8 246 RX8 yX8_isStuck vs_C_8_isStuck) := cm_gV cm_540 cm_541 cm_542 cm_427 cm_543
theorem g_C_8_state_E_8_bit : GoodIn vs_C_8_state (va_wsS RX8 133 yX8_bit vs_E_8_bit) := cm_gS cm_463 cm_464 cm_427 cm_465
set_option maxHeartbeats 4000000 in
set_option maxRecDepth 100000 in
theorem c_C_8_state (l : Launch) (dC : Nat → ClassId) (dI : Nat → Nat → Nat) (sz : Nat) (xa : Nat) (xtape : Nat) (tp : Nat) (rd : Nat) (au : Nat) (xdr : Nat) (hy : Nat) (g : Nat) (hs : Nat) (tg : Nat) (sg : Nat) (ss : Nat) (rm : Nat) (ti : Nat) (py : Nat) (bu : Nat) (sm : Nat) (nc : Nat) (np : Nat) (ne : Nat) (st0 : Int32) (q4 : Nat) (q5 : Nat) (q6 : Nat) (q7 : Nat) (q8 : Nat) (q9 : Nat) (q10 : Nat) (q11 : Nat) (q12 : Nat) (q13 : Nat) (q14 : Nat) (q15 : Nat) (q16 : Nat) (k_f4 : ClassId) (f4 : Nat → Int32) (k_f5 : ClassId) (q_f5 : Nat → Nat) (k_f6 : ClassId) (q_f6 : Nat → Nat) (k_f7 : ClassId) (f7 : Nat → Int32) (k_f8 : ClassId) (q_f8 : Nat → Nat) (k_f9 : ClassId) (q_f9 : Nat → Nat) (k_f10 : ClassId) (f10 : Nat → Int32) (k_f11 : ClassId) (f11 : Nat → Int32) (k_f12 : ClassId) (f12 : Nat → Int32) (k_f13 : ClassId) (f13 : Nat → Int32) (k_f14 : ClassId) (f14 : Nat → Int32) (k_f15 : ClassId) (f15 : Nat → Int32) (k_f16 : ClassId) (f16 : Nat → Int32) (rcv : Nat) (rk : Nat) (rmd : Nat) (ru : Nat) (rpc : Nat) (rct : Nat) (rce : Nat) (k_fcv : ClassId) (fcv : Nat → Option Nat) (k_fmd : ClassId) (k_fpc : ClassId) (k_fct : ClassId) (fct : Nat → Int32) (k_fce : ClassId) (q_fce : Nat → Nat) (gz : Nat) (g1 : Nat) (g2 : Nat) (g3 : Nat) (g4 : Nat) (g5 : Nat) (gc : Nat) (gfull : Nat) (gx : Int32) (gway : Int32) (gav : Int32) (ggoal : Int32) (gfound : Nat) (gl : Nat) (gsz : Nat) (g16 : Nat) (g17 : Nat) (k_fgz : ClassId) (k_s1g : ClassId) (q_s1g : Nat → Nat) (k_s2g : ClassId) (s2g : Nat → Int32) (k_s3g : ClassId) (s3g : Nat → Int32) (k_s4g : ClassId) (s4g : Nat → Int32) (k_s5g : ClassId) (s5g : Nat → Int32) (k_hig : ClassId) (hig : Nat → Int32) (k_log : ClassId) (log : Nat → Int32) (N : Nat) (az ac : Nat → Nat) (kz : Nat → ClassId) (qs : Nat → Nat) (fz : Nat → Nat → Int32) (p0 : Int32) (p1 : Int32) (htp : tp ≤ 900) (hhs : hs ≤ 1) (hss : ss ≤ 1) (hnc : nc ≤ 3) (hnp : np ≤ 8) (hne : ne ≤ 14) (hst0 : pm1 7 st0) (hrk : rk ≤ 120) (hru : ru ≤ 28) (hgc : gc ≤ 120) (hgfull : gfull ≤ 1) (hgfound : gfound ≤ 1) (hgl : gl ≤ 1) (hgsz : gsz ≤ 4) (hN : 393 ≤ N) (hq0 : cv_ok rk fcv az) : Met l yX8_state vs_C_8_state ({ frames := 6, cells := 0, slots := 0, locals := 152 }) (va_Pc [.ref xa, .int p0, .int p1] (pu_B (dC, dI) ((xrm__w xa xtape (nI tp) rd au xdr hy g (nI hs) tg sg (nI ss) rm ti py bu sm (nI nc) (nI np) (nI ne) st0 q4 q5 q6 q7 q8 q9 q10 q11 q12 q13 q14 q15 q16 k_f4 f4 k_f5 (bN 7 q_f5) k_f6 (bN 7 q_f6) k_f7 f7 k_f8 (bN 4 q_f8) k_f9 (bN 2 q_f9) k_f10 f10 k_f11 f11 k_f12 f12 k_f13 f13 k_f14 f14 k_f15 f15 k_f16 f16 rcv (nI rk) rmd (nI ru) rpc rct rce (az 392) k_fcv fcv k_fmd (zs 242 28 az) k_fpc (zs 270 122 az) k_fct fct k_fce (bN 16 q_fce) gz g1 g2 g3 g4 g5 (nI gc) (nI gfull) gx gway gav ggoal (nI gfound) 120 (nI gl) (nI gsz) g16 g17 k_fgz (zs 121 121 az) k_s1g (bN 7 q_s1g) k_s2g s2g k_s3g s3g k_s4g s4g k_s5g s5g k_hig hig k_log log) ++ zp 4 16 N az ac kz qs fz) ((xrm__t k_f4 k_f5 k_f6 k_f7 k_f8 k_f9 k_f10 k_f11 k_f12 k_f13 k_f14 k_f15 k_f16 k_fcv k_fmd k_fpc k_fct k_fce k_fgz k_s1g k_s2g k_s3g k_s4g k_s5g k_hig k_log) ++ zt N kz) sz)) (va_Qi (fun (r : Int32) (_ : Unit) => True) (fun _ t => ∃ (z_fcv : Nat → Option Nat) (z_fct : Nat → Int32) (z_fce : Nat → Nat) (z_rk : Nat) (z_ru : Nat) (z_fz : Nat → Nat → Int32) (z_qs : Nat → Nat), pu_E (dC, dI) ((xrm__w xa xtape (nI tp) rd au xdr hy g (nI hs) tg sg (nI ss) rm ti py bu sm (nI nc) (nI np) (nI ne) st0 q4 q5 q6 q7 q8 q9 q10 q11 q12 q13 q14 q15 q16 k_f4 f4 k_f5 (bN 7 q_f5) k_f6 (bN 7 q_f6) k_f7 f7 k_f8 (bN 4 q_f8) k_f9 (bN 2 q_f9) k_f10 f10 k_f11 f11 k_f12 f12 k_f13 f13 k_f14 f14 k_f15 f15 k_f16 f16 rcv (nI z_rk) rmd (nI z_ru) rpc rct rce (az 392) k_fcv z_fcv k_fmd (zs 242 28 az) k_fpc (zs 270 122 az) k_fct z_fct k_fce (bN 16 z_fce) gz g1 g2 g3 g4 g5 (nI gc) (nI gfull) gx gway gav ggoal (nI gfound) 120 (nI gl) (nI gsz) g16 g17 k_fgz (zs 121 121 az) k_s1g (bN 7 q_s1g) k_s2g s2g k_s3g s3g k_s4g s4g k_s5g s5g k_hig hig k_log log) ++ zp 4 16 N az ac kz z_qs z_fz) ((xrm__t k_f4 k_f5 k_f6 k_f7 k_f8 k_f9 k_f10 k_f11 k_f12 k_f13 k_f14 k_f15 k_f16 k_fcv k_fmd k_fpc k_fct k_fce k_fgz k_s1g k_s2g k_s3g k_s4g k_s5g k_hig k_log) ++ zt N kz) (va_A (((xrm__w xa xtape (nI tp) rd au xdr hy g (nI hs) tg sg (nI ss) rm ti py bu sm (nI nc) (nI np) (nI ne) st0 q4 q5 q6 q7 q8 q9 q10 q11 q12 q13 q14 q15 q16 k_f4 f4 k_f5 (bN 7 q_f5) k_f6 (bN 7 q_f6) k_f7 f7 k_f8 (bN 4 q_f8) k_f9 (bN 2 q_f9) k_f10 f10 k_f11 f11 k_f12 f12 k_f13 f13 k_f14 f14 k_f15 f15 k_f16 f16 rcv (nI rk) rmd (nI ru) rpc rct rce (az 392) k_fcv fcv k_fmd (zs 242 28 az) k_fpc (zs 270 122 az) k_fct fct k_fce (bN 16 q_fce) gz g1 g2 g3 g4 g5 (nI gc) (nI gfull) gx gway gav ggoal (nI gfound) 120 (nI gl) (nI gsz) g16 g17 k_fgz (zs 121 121 az) k_s1g (bN 7 q_s1g) k_s2g s2g k_s3g s3g k_s4g s4g k_s5g s5g k_hig hig k_log log) ++ zp 4 16 N az ac kz qs fz)) sz) t ∧ (z_rk ≤ 120) ∧ (z_ru ≤ 28) ∧ (cv_ok z_rk z_fcv az)) (va_A (((xrm__w xa xtape (nI tp) rd au xdr hy g (nI hs) tg sg (nI ss) rm ti py bu sm (nI nc) (nI np) (nI ne) st0 q4 q5 q6 q7 q8 q9 q10 q11 q12 q13 q14 q15 q16 k_f4 f4 k_f5 (bN 7 q_f5) k_f6 (bN 7 q_f6) k_f7 f7 k_f8 (bN 4 q_f8) k_f9 (bN 2 q_f9) k_f10 f10 k_f11 f11 k_f12 f12 k_f13 f13 k_f14 f14 k_f15 f15 k_f16 f16 rcv (nI rk) rmd (nI ru) rpc rct rce (az 392) k_fcv fcv k_fmd (zs 242 28 az) k_fpc (zs 270 122 az) k_fct fct k_fce (bN 16 q_fce) gz g1 g2 g3 g4 g5 (nI gc) (nI gfull) gx gway gav ggoal (nI gfound) 120 (nI gl) (nI gsz) g16 g17 k_fgz (zs 121 121 az) k_s1g (bN 7 q_s1g) k_s2g s2g k_s3g s3g k_s4g s4g k_s5g s5g k_hig hig k_log log) ++ zp 4 16 N az ac kz qs fz)) sz)) 0 0 (va_A (((xrm__w xa xtape (nI tp) rd au xdr hy g (nI hs) tg sg (nI ss) rm ti py bu sm (nI nc) (nI np) (nI ne) st0 q4 q5 q6 q7 q8 q9 q10 q11 q12 q13 q14 q15 q16 k_f4 f4 k_f5 (bN 7 q_f5) k_f6 (bN 7 q_f6) k_f7 f7 k_f8 (bN 4 q_f8) k_f9 (bN 2 q_f9) k_f10 f10 k_f11 f11 k_f12 f12 k_f13 f13 k_f14 f14 k_f15 f15 k_f16 f16 rcv (nI rk) rmd (nI ru) rpc rct rce (az 392) k_fcv fcv k_fmd (zs 242 28 az) k_fpc (zs 270 122 az) k_fct fct k_fce (bN 16 q_fce) gz g1 g2 g3 g4 g5 (nI gc) (nI gfull) gx gway gav ggoal (nI gfound) 120 (nI gl) (nI gsz) g16 g17 k_fgz (zs 121 121 az) k_s1g (bN 7 q_s1g) k_s2g s2g k_s3g s3g k_s4g s4g k_s5g s5g k_hig hig k_log log) ++ zp 4 16 N az ac kz qs fz)) sz) := by
  refine Met.ofW (cc := cX8_state) (maxL := 3) (ret := (some .int)) (by decide) rfl ?_
  intro p e s m args below meth c s₁ B hml hv
  obtain ⟨rfl, rfl, hP, hK, hD0⟩ := hv
  have hx := B.exec
  have hb := B.bytes
  have hr := B.returns
  have hts := atoms_spec (ws := vs_C_8_state) B.pre
  have v_6 := hts (.fieldLink RX8 42 "ClockReach" "shown" "LClockReach$Graph;") (List.mem_cons_of_mem _ cm_456)
  have v_7 := hts (.fieldLink RX8 231 "ClockReach$Graph" "sites" "[I") (List.mem_cons_of_mem _ cm_532)
  have v_8 := hts (.fieldLink RX8 234 "ClockReach$Graph" "parents" "[I") (List.mem_cons_of_mem _ cm_533)
  have v_9 := hts (.fieldLink RX8 237 "ClockReach$Graph" "entries" "[I") (List.mem_cons_of_mem _ cm_534)
  have v_10 := hts (.fieldLink RX8 240 "ClockReach$Graph" "depths" "[I") (List.mem_cons_of_mem _ cm_535)
  have v_11 := hts (.fieldLink RX8 243 "ClockReach$Graph" "broods" "[I") (List.mem_cons_of_mem _ cm_536)
  have hown : s.vm.findClass RX8 = some m.cls := findClass_of_methodNamed B.named
  have hlocks := B.notSynchronized
  have hiX1 : ∀ w ∈ wsX10, w ∈ vs_C_8_state := fun _ h => List.mem_cons_of_mem _ (cm_X1 h)
  have hiX8 : ∀ w ∈ wsX80, w ∈ vs_C_8_state := fun _ h => List.mem_cons_of_mem _ (cm_X8 h)
  have hD := hD0.self (sz := s.heap.size)
  generalize hAe : va_A (((xrm__w xa xtape (nI tp) rd au xdr hy g (nI hs) tg sg (nI ss) rm ti py bu sm (nI nc) (nI np) (nI ne) st0 q4 q5 q6 q7 q8 q9 q10 q11 q12 q13 q14 q15 q16 k_f4 f4 k_f5 (bN 7 q_f5) k_f6 (bN 7 q_f6) k_f7 f7 k_f8 (bN 4 q_f8) k_f9 (bN 2 q_f9) k_f10 f10 k_f11 f11 k_f12 f12 k_f13 f13 k_f14 f14 k_f15 f15 k_f16 f16 rcv (nI rk) rmd (nI ru) rpc rct rce (az 392) k_fcv fcv k_fmd (zs 242 28 az) k_fpc (zs 270 122 az) k_fct fct k_fce (bN 16 q_fce) gz g1 g2 g3 g4 g5 (nI gc) (nI gfull) gx gway gav ggoal (nI gfound) 120 (nI gl) (nI gsz) g16 g17 k_fgz (zs 121 121 az) k_s1g (bN 7 q_s1g) k_s2g s2g k_s3g s3g k_s4g s4g k_s5g s5g k_hig hig k_log log) ++ zp 4 16 N az ac kz qs fz)) s.heap.size = A at hD ⊢
  have hA : ∀ q : Nat, s.heap.size ≤ q → A q := fun q h => by rw [← hAe]; exact Or.inr h
  have hS : va_S A s.heap s.heap [] := va_S.rf
  have hl := lv_entry ([.ref xa, .int p0, .int p1]) (n := 3) (Nat.le_of_ble_eq_true rfl)
  rw [lg_entry_eq]
  generalize (lg_sl ([.ref xa, .int p0, .int p1]) ++ List.replicate (3 - (lg_sl ([.ref xa, .int p0, .int p1])).length) Slot.unset).toArray = ls at hl ⊢
  have hl : lv_has ls 3 [(0, .ref xa), (1, .int p0), (2, .int p1)] := hl
  refine lv_aload_n hx hb eX8_state_0 rfl (lv_at hl 0 rfl) ?_
  refine lv_iload_n hx hb eX8_state_1 rfl (lv_at hl 1 rfl) ?_
  have hPc : va_P (dC, dI) vwCl [(xa, .inr (8, [.ref xtape, .int (nI tp), .ref rd, .ref au, .ref xdr, .ref hy, .ref g, .int (nI hs), .ref tg, .ref sg, .int (nI ss), .ref rm, .ref ti, .ref py, .ref bu, .ref sm])), (g, .inr (1, [.ref gz, .ref g1, .ref g2, .ref g3, .ref g4, .ref g5, .int (nI gc), .int (nI gfull), .int gx, .int gway, .int gav, .int ggoal, .int (nI gfound), .int 120, .int (nI gl), .int (nI gsz), .ref g16, .ref g17]))] _ := hP.sub [0, 21] rfl
  have hDc : va_D A [(xa, .inr (8, [.ref xtape, .int (nI tp), .ref rd, .ref au, .ref xdr, .ref hy, .ref g, .int (nI hs), .ref tg, .ref sg, .int (nI ss), .ref rm, .ref ti, .ref py, .ref bu, .ref sm])), (g, .inr (1, [.ref gz, .ref g1, .ref g2, .ref g3, .ref g4, .ref g5, .int (nI gc), .int (nI gfull), .int gx, .int gway, .int gav, .int ggoal, .int (nI gfound), .int 120, .int (nI gl), .int (nI gsz), .ref g16, .ref g17]))] := (zp_left hD).sub [0, 21] (by decide) rfl
  have hKc : va_K (dC, dI) vwCl [] s := hK.sub [] rfl
  refine va_calli (va_runV (As := [.int p0]) (rest := []) ⟨hx, hb, hml, hown, hts⟩ (c_E_8_isState l dC dI _ xa xtape tp rd au xdr hy g hs tg sg ss rm ti py bu sm gz g1 g2 g3 g4 g5 gc gfull gx gway gav ggoal gfound gl gsz g16 g17 p0 htp hhs hss hgc hgfull hgfound hgl hgsz) (cwV 1 hts g_C_8_state_E_8_isState rfl rfl rfl (by decide +kernel) ⟨Nat.le_of_ble_eq_true rfl, Nat.le_of_ble_eq_true rfl⟩) ⟨pu_bl, va_recv hK hP (ci := 8) (q0 := 0) rfl rfl, pu_in hPc hKc hDc⟩ rfl rfl hl.1 rfl (lv_room (Nat.le_of_ble_eq_true rfl)) eX8_state_2 ⟨Nat.le_of_ble_eq_true rfl, Nat.le_of_ble_eq_true rfl⟩) hS (fun q _ h => pu_fr hS hA q h) (pu_fr hS hA) (fun r_1 u t H1 locs ht hvm hw hB hz1 hk1 hS => ?_)
  have hP := pu_keep hP hk1
  clear hPc hDc hKc
  clear hk1 hz1 ht hvm
  generalize H1 = H at hP hS ⊢
  rcases hw with ⟨rfl, hw⟩ | ⟨rfl, hn⟩
  · obtain ⟨hs1, n_2, hn_2, rfl⟩ := hw
    refine lv_if_ne (tgt := 10) hx hb eX8_state_5 (by decide) (fun _ => ?_) (fun z => absurd z (by decide))
    refine lv_iload_n hx hb eX8_state_10 rfl (lv_at hl 2 rfl) ?_
    by_cases w_3 : p1 = 0
    · subst w_3
      refine lv_tableIn (tgt := 48) (off := 37) hx hb eX8_state_11 (by decide) (by decide) rfl (by decide) ?_
      refine lv_aload_n hx hb eX8_state_48 rfl (lv_at hl 0 rfl) ?_
      refine va_get (D := (dC, dI)) (ci := 8) (v := .ref g) (C := RX8) (T := TX8) (N := 16) hx hb hts hiX8 hown hK hP 0 rfl rfl 6 (by decide) v_6 (fun _ h9 => h9) rfl eX8_state_49 ?_
      refine va_get (D := (dC, dI)) (ci := 1) (v := .ref g1) (C := RX1) (T := TX1) (N := 18) hx hb hts hiX1 hown hK hP 21 rfl rfl 1 (by decide) v_7 (fun _ h9 => h9) rfl eX8_state_52 ?_
      refine lv_iload_n hx hb eX8_state_55 rfl (lv_at hl 1 rfl) ?_
      refine va_iald hx hb hK hP 23 19 rfl rfl (vp_in_nI (n := n_2) (by omega) (Nat.le_of_ble_eq_true rfl)) eX8_state_56 ?_
      refine lv_topi (fun y_4 ey_4 => ?_)
      obtain ⟨u_5, hu_5, qu_5⟩ := bN_get 7 q_s1g (((nI n_2) : Int32).toNatClampNeg)
      obtain rfl : y_4 = nI u_5 := ey_4.trans qu_5
      exact W.iret (v := (nI u_5)) hx hb hr (fun t ht hW => ⟨⟨(nI u_5), (), rfl, trivial, ⟨fcv, fct, q_fce, rk, ru, fz, qs, ⟨by rw [ht]; exact hP, va_K.moved hW.alike hK, hD⟩, hrk, hru, by assumption⟩⟩, hS.F ht⟩) hS.2.2 eX8_state_57
    by_cases w_6 : p1 = 1
    · subst w_6
      refine lv_tableIn (tgt := 58) (off := 47) hx hb eX8_state_11 (by decide) (by decide) rfl (by decide) ?_
      refine lv_aload_n hx hb eX8_state_58 rfl (lv_at hl 0 rfl) ?_
      refine va_get (D := (dC, dI)) (ci := 8) (v := .ref g) (C := RX8) (T := TX8) (N := 16) hx hb hts hiX8 hown hK hP 0 rfl rfl 6 (by decide) v_6 (fun _ h9 => h9) rfl eX8_state_59 ?_
      refine va_get (D := (dC, dI)) (ci := 1) (v := .ref g2) (C := RX1) (T := TX1) (N := 18) hx hb hts hiX1 hown hK hP 21 rfl rfl 2 (by decide) v_8 (fun _ h9 => h9) rfl eX8_state_62 ?_
      refine lv_iload_n hx hb eX8_state_65 rfl (lv_at hl 1 rfl) ?_
      refine va_iald hx hb hK hP 24 20 rfl rfl (vp_in_nI (n := n_2) (by omega) (Nat.le_of_ble_eq_true rfl)) eX8_state_66 ?_
      refine lv_topi (fun y_7 ey_7 => ?_)
      exact W.iret (v := y_7) hx hb hr (fun t ht hW => ⟨⟨y_7, (), rfl, trivial, ⟨fcv, fct, q_fce, rk, ru, fz, qs, ⟨by rw [ht]; exact hP, va_K.moved hW.alike hK, hD⟩, hrk, hru, by assumption⟩⟩, hS.F ht⟩) hS.2.2 eX8_state_67
    by_cases w_8 : p1 = 2
    · subst w_8
      refine lv_tableIn (tgt := 68) (off := 57) hx hb eX8_state_11 (by decide) (by decide) rfl (by decide) ?_
      refine lv_aload_n hx hb eX8_state_68 rfl (lv_at hl 0 rfl) ?_
      refine va_get (D := (dC, dI)) (ci := 8) (v := .ref g) (C := RX8) (T := TX8) (N := 16) hx hb hts hiX8 hown hK hP 0 rfl rfl 6 (by decide) v_6 (fun _ h9 => h9) rfl eX8_state_69 ?_
      refine va_get (D := (dC, dI)) (ci := 1) (v := .ref g3) (C := RX1) (T := TX1) (N := 18) hx hb hts hiX1 hown hK hP 21 rfl rfl 3 (by decide) v_9 (fun _ h9 => h9) rfl eX8_state_72 ?_
      refine lv_iload_n hx hb eX8_state_75 rfl (lv_at hl 1 rfl) ?_
      refine va_iald hx hb hK hP 25 21 rfl rfl (vp_in_nI (n := n_2) (by omega) (Nat.le_of_ble_eq_true rfl)) eX8_state_76 ?_
      refine lv_topi (fun y_9 ey_9 => ?_)
      exact W.iret (v := y_9) hx hb hr (fun t ht hW => ⟨⟨y_9, (), rfl, trivial, ⟨fcv, fct, q_fce, rk, ru, fz, qs, ⟨by rw [ht]; exact hP, va_K.moved hW.alike hK, hD⟩, hrk, hru, by assumption⟩⟩, hS.F ht⟩) hS.2.2 eX8_state_77
    by_cases w_10 : p1 = 3
    · subst w_10
      refine lv_tableIn (tgt := 78) (off := 67) hx hb eX8_state_11 (by decide) (by decide) rfl (by decide) ?_
      refine lv_aload_n hx hb eX8_state_78 rfl (lv_at hl 0 rfl) ?_
      refine va_get (D := (dC, dI)) (ci := 8) (v := .ref g) (C := RX8) (T := TX8) (N := 16) hx hb hts hiX8 hown hK hP 0 rfl rfl 6 (by decide) v_6 (fun _ h9 => h9) rfl eX8_state_79 ?_
      refine va_get (D := (dC, dI)) (ci := 1) (v := .ref g4) (C := RX1) (T := TX1) (N := 18) hx hb hts hiX1 hown hK hP 21 rfl rfl 4 (by decide) v_10 (fun _ h9 => h9) rfl eX8_state_82 ?_
      refine lv_iload_n hx hb eX8_state_85 rfl (lv_at hl 1 rfl) ?_
      refine va_iald hx hb hK hP 26 22 rfl rfl (vp_in_nI (n := n_2) (by omega) (Nat.le_of_ble_eq_true rfl)) eX8_state_86 ?_
      refine lv_topi (fun y_11 ey_11 => ?_)
      exact W.iret (v := y_11) hx hb hr (fun t ht hW => ⟨⟨y_11, (), rfl, trivial, ⟨fcv, fct, q_fce, rk, ru, fz, qs, ⟨by rw [ht]; exact hP, va_K.moved hW.alike hK, hD⟩, hrk, hru, by assumption⟩⟩, hS.F ht⟩) hS.2.2 eX8_state_87
    by_cases w_12 : p1 = 4
    · subst w_12
      refine lv_tableIn (tgt := 88) (off := 77) hx hb eX8_state_11 (by decide) (by decide) rfl (by decide) ?_
      refine lv_aload_n hx hb eX8_state_88 rfl (lv_at hl 0 rfl) ?_
      refine va_get (D := (dC, dI)) (ci := 8) (v := .ref g) (C := RX8) (T := TX8) (N := 16) hx hb hts hiX8 hown hK hP 0 rfl rfl 6 (by decide) v_6 (fun _ h9 => h9) rfl eX8_state_89 ?_
      refine va_get (D := (dC, dI)) (ci := 1) (v := .ref g5) (C := RX1) (T := TX1) (N := 18) hx hb hts hiX1 hown hK hP 21 rfl rfl 5 (by decide) v_11 (fun _ h9 => h9) rfl eX8_state_92 ?_
      refine lv_iload_n hx hb eX8_state_95 rfl (lv_at hl 1 rfl) ?_
      refine va_iald hx hb hK hP 27 23 rfl rfl (vp_in_nI (n := n_2) (by omega) (Nat.le_of_ble_eq_true rfl)) eX8_state_96 ?_
      refine lv_topi (fun y_13 ey_13 => ?_)
      exact W.iret (v := y_13) hx hb hr (fun t ht hW => ⟨⟨y_13, (), rfl, trivial, ⟨fcv, fct, q_fce, rk, ru, fz, qs, ⟨by rw [ht]; exact hP, va_K.moved hW.alike hK, hD⟩, hrk, hru, by assumption⟩⟩, hS.F ht⟩) hS.2.2 eX8_state_97
    by_cases w_14 : p1 = 5
    · subst w_14
      refine lv_tableIn (tgt := 98) (off := 87) hx hb eX8_state_11 (by decide) (by decide) rfl (by decide) ?_
      refine lv_aload_n hx hb eX8_state_98 rfl (lv_at hl 0 rfl) ?_
      refine lv_iload_n hx hb eX8_state_99 rfl (lv_at hl 1 rfl) ?_
      have hFc := pu_free hD hS hA
      refine va_calli (va_runV (As := [.int (nI n_2)]) (rest := []) ⟨hx, hb, hml, hown, hts⟩ (c_C_8_isStuck l dC dI _ xa xtape tp rd au xdr hy g hs tg sg ss rm ti py bu sm nc np ne st0 q4 q5 q6 q7 q8 q9 q10 q11 q12 q13 q14 q15 q16 k_f4 f4 k_f5 q_f5 k_f6 q_f6 k_f7 f7 k_f8 q_f8 k_f9 q_f9 k_f10 f10 k_f11 f11 k_f12 f12 k_f13 f13 k_f14 f14 k_f15 f15 k_f16 f16 rcv rk rmd ru rpc rct rce k_fcv fcv k_fmd k_fpc k_fct fct k_fce q_fce gz g1 g2 g3 g4 g5 gc gfull gx gway gav ggoal gfound gl gsz g16 g17 k_fgz k_s1g q_s1g k_s2g s2g k_s3g s3g k_s4g s4g k_s5g s5g k_hig hig k_log log N az ac kz qs fz n_2 htp hhs hss hnc hnp hne (hst0) hrk hru hgc hgfull hgfound hgl hgsz (by omega) (by omega)) (cwV 1 hts g_C_8_state_C_8_isStuck rfl rfl rfl (by decide +kernel) ⟨Nat.le_of_ble_eq_true rfl, Nat.le_of_ble_eq_true rfl⟩) ⟨pu_bl, va_recv hK hP (ci := 8) (q0 := 0) rfl rfl, pu_in hP hK hD⟩ rfl rfl hl.1 rfl (lv_room (Nat.le_of_ble_eq_true rfl)) eX8_state_100 ⟨Nat.le_of_ble_eq_true rfl, Nat.le_of_ble_eq_true rfl⟩) hS (fun q _ h => hFc q h) hFc (fun r_15 u t H1 locs ht hvm hw hB hz1 hk1 hS => ?_)
      obtain ⟨z_fcv_16, z_fct_17, z_fce_18, z_rk_19, z_ru_20, z_fz_21, z_qs_22, ⟨hP1, -, hD1⟩, hz_rk_19, hz_ru_20, xr_15_0⟩ := hB
      rw [ht] at hP1
      have hP := hP1
      have hD := pu_all hFc hD1
      clear hP1 hD1 hFc
      clear hk1 hz1 ht hvm
      generalize H1 = H at hP hS ⊢
      obtain ⟨u_23, hu_23, rfl⟩ := hw
      have hPc : va_P (dC, dI) vwCl [] _ := hP.sub [] rfl
      have hDc : va_D A [] := (zp_left hD).sub [] (by decide) rfl
      have hKc : va_K (dC, dI) vwCl [] s := hK.sub [] rfl
      refine va_calli (va_runS (As := [.int (nI u_23)]) (rest := []) ⟨hx, hb, hml, hown, hts⟩ (c_E_8_bit l dC dI _ (nI u_23)) (va_cwS 1 hts g_C_8_state_E_8_bit rfl rfl rfl (by decide +kernel) ⟨Nat.le_of_ble_eq_true rfl, Nat.le_of_ble_eq_true rfl⟩) ⟨pu_bl, pu_in hPc hKc hDc⟩ rfl rfl hl.1 rfl (lv_room (Nat.le_of_ble_eq_true rfl)) eX8_state_103 ⟨Nat.le_of_ble_eq_true rfl, Nat.le_of_ble_eq_true rfl⟩) hS (fun q _ h => pu_fr hS hA q h) (pu_fr hS hA) (fun r_24 u t H1 locs ht hvm hw hB hz1 hk1 hS => ?_)
      have hP := pu_keep hP hk1
      clear hPc hDc hKc
      clear hk1 hz1 ht hvm
      generalize H1 = H at hP hS ⊢
      obtain ⟨u_25, hu_25, rfl, iu_25⟩ := hw
      exact W.iret (v := (nI u_25)) hx hb hr (fun t ht hW => ⟨⟨(nI u_25), (), rfl, trivial, ⟨z_fcv_16, z_fct_17, z_fce_18, z_rk_19, z_ru_20, z_fz_21, z_qs_22, ⟨by rw [ht]; exact hP, va_K.moved hW.alike hK, hD⟩, hz_rk_19, hz_ru_20, by assumption⟩⟩, hS.F ht⟩) hS.2.2 eX8_state_106
    refine lv_tableOut (tgt := 107) hx hb eX8_state_11 (by
        have zw_3 : Int32.toInt p1 ≠ 0 := fun g => w_3 ((fa_eq _ _).mpr g)
        have zw_6 : Int32.toInt p1 ≠ 1 := fun g => w_6 ((fa_eq _ _).mpr g)
        have zw_8 : Int32.toInt p1 ≠ 2 := fun g => w_8 ((fa_eq _ _).mpr g)
        have zw_10 : Int32.toInt p1 ≠ 3 := fun g => w_10 ((fa_eq _ _).mpr g)
        have zw_12 : Int32.toInt p1 ≠ 4 := fun g => w_12 ((fa_eq _ _).mpr g)
        have zw_14 : Int32.toInt p1 ≠ 5 := fun g => w_14 ((fa_eq _ _).mpr g)
        omega) (by decide) ?_
    refine lv_iconst (v := (-1)) hx hb eX8_state_107 (by decide) ?_
    exact W.iret (v := (-1)) hx hb hr (fun t ht hW => ⟨⟨(-1), (), rfl, trivial, ⟨fcv, fct, q_fce, rk, ru, fz, qs, ⟨by rw [ht]; exact hP, va_K.moved hW.alike hK, hD⟩, hrk, hru, by assumption⟩⟩, hS.F ht⟩) hS.2.2 eX8_state_108
  · refine lv_if_ne (tgt := 10) hx hb eX8_state_5 (by decide) (fun z => absurd z (by decide)) (fun _ => ?_)
    refine lv_iconst (v := (-1)) hx hb eX8_state_8 (by decide) ?_
    exact W.iret (v := (-1)) hx hb hr (fun t ht hW => ⟨⟨(-1), (), rfl, trivial, ⟨fcv, fct, q_fce, rk, ru, fz, qs, ⟨by rw [ht]; exact hP, va_K.moved hW.alike hK, hD⟩, hrk, hru, by assumption⟩⟩, hS.F ht⟩) hS.2.2 eX8_state_9
