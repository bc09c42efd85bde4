theorem eX5_leavesAny_0 : decode cX5_leavesAny 0 = .ok (.aload_n 0, 1) := by decide +kernel
theorem eX5_leavesAny_1 : decode cX5_leavesAny 1 = .ok (.getfield 23, 3) := by decide +kernel
theorem eX5_leavesAny_4 : decode cX5_leavesAny 4 = .ok (.iconst 0, 1) := by decide +kernel
theorem eX5_leavesAny_5 : decode cX5_leavesAny 5 = .ok (.aaload, 1) := by decide +kernel
theorem eX5_leavesAny_6 : decode cX5_leavesAny 6 = .ok (.aload_n 1, 1) := by decide +kernel
theorem eX5_leavesAny_7 : decode cX5_leavesAny 7 = .ok (.invokevirtual 60, 3) := by decide +kernel
theorem eX5_leavesAny_10 : decode cX5_leavesAny 10 = .ok (.aload_n 0, 1) := by decide +kernel
theorem eX5_leavesAny_11 : decode cX5_leavesAny 11 = .ok (.getfield 26, 3) := by decide +kernel
theorem eX5_leavesAny_14 : decode cX5_leavesAny 14 = .ok (.iconst 0, 1) := by decide +kernel
theorem eX5_leavesAny_15 : decode cX5_leavesAny 15 = .ok (.aload_n 0, 1) := by decide +kernel
theorem eX5_leavesAny_16 : decode cX5_leavesAny 16 = .ok (.aload_n 1, 1) := by decide +kernel
theorem eX5_leavesAny_17 : decode cX5_leavesAny 17 = .ok (.iconst 0, 1) := by decide +kernel
theorem eX5_leavesAny_18 : decode cX5_leavesAny 18 = .ok (.invokevirtual 89, 3) := by decide +kernel
theorem eX5_leavesAny_21 : decode cX5_leavesAny 21 = .ok (.iastore, 1) := by decide +kernel
theorem eX5_leavesAny_22 : decode cX5_leavesAny 22 = .ok (.aload_n 0, 1) := by decide +kernel
theorem eX5_leavesAny_23 : decode cX5_leavesAny 23 = .ok (.getfield 30, 3) := by decide +kernel
theorem eX5_leavesAny_26 : decode cX5_leavesAny 26 = .ok (.iconst 0, 1) := by decide +kernel
theorem eX5_leavesAny_27 : decode cX5_leavesAny 27 = .ok (.iconst 0, 1) := by decide +kernel
theorem eX5_leavesAny_28 : decode cX5_leavesAny 28 = .ok (.iastore, 1) := by decide +kernel
theorem eX5_leavesAny_29 : decode cX5_leavesAny 29 = .ok (.aload_n 0, 1) := by decide +kernel
theorem eX5_leavesAny_30 : decode cX5_leavesAny 30 = .ok (.getfield 26, 3) := by decide +kernel
theorem eX5_leavesAny_33 : decode cX5_leavesAny 33 = .ok (.iconst 0, 1) := by decide +kernel
theorem eX5_leavesAny_34 : decode cX5_leavesAny 34 = .ok (.iaload, 1) := by decide +kernel
theorem eX5_leavesAny_35 : decode cX5_leavesAny 35 = .ok (.iconst (-1), 1) := by decide +kernel
theorem eX5_leavesAny_36 : decode cX5_leavesAny 36 = .ok (.if_icmp .ne 7, 3) := by decide +kernel
theorem eX5_leavesAny_39 : decode cX5_leavesAny 39 = .ok (.iconst (-1), 1) := by decide +kernel
theorem eX5_leavesAny_40 : decode cX5_leavesAny 40 = .ok (.goto 4, 3) := by decide +kernel
theorem eX5_leavesAny_43 : decode cX5_leavesAny 43 = .ok (.iconst 0, 1) := by decide +kernel
theorem eX5_leavesAny_44 : decode cX5_leavesAny 44 = .ok (.istore_n 2, 1) := by decide +kernel
theorem eX5_leavesAny_45 : decode cX5_leavesAny 45 = .ok (.iconst 0, 1) := by decide +kernel
theorem eX5_leavesAny_46 : decode cX5_leavesAny 46 = .ok (.istore_n 3, 1) := by decide +kernel
theorem eX5_leavesAny_47 : decode cX5_leavesAny 47 = .ok (.iload_n 3, 1) := by decide +kernel
theorem eX5_leavesAny_48 : decode cX5_leavesAny 48 = .ok (.ldc 93, 2) := by decide +kernel
theorem eX5_leavesAny_50 : decode cX5_leavesAny 50 = .ok (.if_icmp .ge 57, 3) := by decide +kernel
theorem eX5_leavesAny_53 : decode cX5_leavesAny 53 = .ok (.iload_n 2, 1) := by decide +kernel
theorem eX5_leavesAny_54 : decode cX5_leavesAny 54 = .ok (.ifCond .lt 53, 3) := by decide +kernel
theorem eX5_leavesAny_57 : decode cX5_leavesAny 57 = .ok (.aload_n 0, 1) := by decide +kernel
theorem eX5_leavesAny_58 : decode cX5_leavesAny 58 = .ok (.getfield 26, 3) := by decide +kernel
theorem eX5_leavesAny_61 : decode cX5_leavesAny 61 = .ok (.iload_n 2, 1) := by decide +kernel
theorem eX5_leavesAny_62 : decode cX5_leavesAny 62 = .ok (.iaload, 1) := by decide +kernel
theorem eX5_leavesAny_63 : decode cX5_leavesAny 63 = .ok (.aload_n 0, 1) := by decide +kernel
theorem eX5_leavesAny_64 : decode cX5_leavesAny 64 = .ok (.getfield 37, 3) := by decide +kernel
theorem eX5_leavesAny_67 : decode cX5_leavesAny 67 = .ok (.if_icmp .ne 5, 3) := by decide +kernel
theorem eX5_leavesAny_70 : decode cX5_leavesAny 70 = .ok (.iconst 1, 1) := by decide +kernel
theorem eX5_leavesAny_71 : decode cX5_leavesAny 71 = .ok (.ireturn, 1) := by decide +kernel
theorem eX5_leavesAny_72 : decode cX5_leavesAny 72 = .ok (.aload_n 0, 1) := by decide +kernel
theorem eX5_leavesAny_73 : decode cX5_leavesAny 73 = .ok (.iload_n 2, 1) := by decide +kernel
theorem eX5_leavesAny_74 : decode cX5_leavesAny 74 = .ok (.invokevirtual 94, 3) := by decide +kernel
theorem eX5_leavesAny_77 : decode cX5_leavesAny 77 = .ok (.ifCond .ne 9, 3) := by decide +kernel
theorem eX5_leavesAny_80 : decode cX5_leavesAny 80 = .ok (.iinc 2 (-1), 3) := by decide +kernel
theorem eX5_leavesAny_83 : decode cX5_leavesAny 83 = .ok (.goto 18, 3) := by decide +kernel
theorem eX5_leavesAny_86 : decode cX5_leavesAny 86 = .ok (.aload_n 0, 1) := by decide +kernel
theorem eX5_leavesAny_87 : decode cX5_leavesAny 87 = .ok (.getfield 26, 3) := by decide +kernel
theorem eX5_leavesAny_90 : decode cX5_leavesAny 90 = .ok (.iload_n 2, 1) := by decide +kernel
theorem eX5_leavesAny_91 : decode cX5_leavesAny 91 = .ok (.iconst 1, 1) := by decide +kernel
theorem eX5_leavesAny_92 : decode cX5_leavesAny 92 = .ok (.iadd, 1) := by decide +kernel
theorem eX5_leavesAny_93 : decode cX5_leavesAny 93 = .ok (.iaload, 1) := by decide +kernel
theorem eX5_leavesAny_94 : decode cX5_leavesAny 94 = .ok (.iconst (-1), 1) := by decide +kernel
theorem eX5_leavesAny_95 : decode cX5_leavesAny 95 = .ok (.if_icmp .eq 6, 3) := by decide +kernel
theorem eX5_leavesAny_98 : decode cX5_leavesAny 98 = .ok (.iinc 2 1, 3) := by decide +kernel
theorem eX5_leavesAny_101 : decode cX5_leavesAny 101 = .ok (.iinc 3 1, 3) := by decide +kernel
theorem eX5_leavesAny_104 : decode cX5_leavesAny 104 = .ok (.goto (-57), 3) := by decide +kernel
theorem eX5_leavesAny_107 : decode cX5_leavesAny 107 = .ok (.iload_n 2, 1) := by decide +kernel
theorem eX5_leavesAny_108 : decode cX5_leavesAny 108 = .ok (.ifCond .lt 7, 3) := by decide +kernel
theorem eX5_leavesAny_111 : decode cX5_leavesAny 111 = .ok (.iconst 1, 1) := by decide +kernel
theorem eX5_leavesAny_112 : decode cX5_leavesAny 112 = .ok (.goto 4, 3) := by decide +kernel
theorem eX5_leavesAny_115 : decode cX5_leavesAny 115 = .ok (.iconst 0, 1) := by decide +kernel
theorem eX5_leavesAny_116 : decode cX5_leavesAny 116 = .ok (.ireturn, 1) := by decide +kernel
abbrev vs_C_5_leavesAny : List Cond := .code yX5_leavesAny cX5_leavesAny 4 (some .boolean) :: CM
theorem g_C_5_leavesAny_E_7_copyOf_16 : GoodIn vs_C_5_leavesAny (wsV RX5 60 RX7 yX7_copyOf vs_E_7_copyOf_16) := cm_gV cm_333 cm_130 cm_131 cm_45 cm_132
theorem g_C_5_leavesAny_C_5_nextCover : GoodIn vs_C_5_leavesAny (wsV RX5 89 RX5 yX5_nextCover vs_C_5_nextCover) := cm_gV cm_351 cm_352 cm_353 cm_332 cm_354
theorem g_C_5_leavesAny_C_5_splits : GoodIn vs_C_5_leavesAny (wsV RX5 94 RX5 yX5_splits vs_C_5_splits) := cm_gV cm_359 cm_360 cm_361 cm_332 cm_362
set_option maxHeartbeats 4000000 in
set_option maxRecDepth 100000 in
theorem c_C_5_leavesAny (l : Launch) (dC : Nat → ClassId) (dI : Nat → Nat → Nat) (sz : Nat) (rm : Nat) (rcv : Nat) (rk : Nat) (rmd : Nat) (ru : Nat) (rpc : Nat) (rct : Nat) (rce : Nat) (k_fcv : ClassId) (fcv : Nat → Option Nat) (k_fmd : ClassId) (k_fpc : ClassId) (k_fct : ClassId) (fct : Nat → Int32) (k_fce : ClassId) (q_fce : Nat → Nat) (N : Nat) (az ac : Nat → Nat) (kz : Nat → ClassId) (qs : Nat → Nat) (fz : Nat → Nat → Int32) (kk : Nat) (hrk : rk ≤ 120) (hru : ru ≤ 28) (hN : 393 ≤ N) (hkk : kk < N) (hq0 : cv_ok rk fcv az) (hq1 : kk ≤ 269) : Met l yX5_leavesAny vs_C_5_leavesAny ({ frames := 4, cells := 0, slots := 0, locals := 105 }) (va_Pc [.ref rm, .ref (az kk)] (pu_B (dC, dI) ((rm__w rm rcv (nI rk) rmd (nI ru) rpc rct rce (az 392) k_fcv fcv k_fmd (zs 242 28 az) k_fpc (zs 270 122 az) k_fct fct k_fce (bN 16 q_fce)) ++ zp 4 16 N az ac kz qs fz) ((rm__t k_fcv k_fmd k_fpc k_fct k_fce) ++ zt N kz) sz)) (va_Qi (fun (r : Int32) (_ : Unit) => ∃ v : Nat, v ≤ 1 ∧ r = nI v) (fun _ t => ∃ (z_fct : Nat → Int32) (z_fce : Nat → Nat) (z_fz : Nat → Nat → Int32) (z_qs : Nat → Nat), pu_E (dC, dI) ((rm__w rm rcv (nI rk) rmd (nI ru) rpc rct rce (az 392) k_fcv fcv k_fmd (zs 242 28 az) k_fpc (zs 270 122 az) k_fct z_fct k_fce (bN 16 z_fce)) ++ zp 4 16 N az ac kz z_qs z_fz) ((rm__t k_fcv k_fmd k_fpc k_fct k_fce) ++ zt N kz) (va_A (((rm__w rm rcv (nI rk) rmd (nI ru) rpc rct rce (az 392) k_fcv fcv k_fmd (zs 242 28 az) k_fpc (zs 270 122 az) k_fct fct k_fce (bN 16 q_fce)) ++ zp 4 16 N az ac kz qs fz)) sz) t) (va_A (((rm__w rm rcv (nI rk) rmd (nI ru) rpc rct rce (az 392) k_fcv fcv k_fmd (zs 242 28 az) k_fpc (zs 270 122 az) k_fct fct k_fce (bN 16 q_fce)) ++ zp 4 16 N az ac kz qs fz)) sz)) 0 0 (va_A (((rm__w rm rcv (nI rk) rmd (nI ru) rpc rct rce (az 392) k_fcv fcv k_fmd (zs 242 28 az) k_fpc (zs 270 122 az) k_fct fct k_fce (bN 16 q_fce)) ++ zp 4 16 N az ac kz qs fz)) sz) := by
  refine Met.ofW (cc := cX5_leavesAny) (maxL := 4) (ret := (some .boolean)) (by decide) rfl ?_
  intro p e s m args below meth c s₁ B hml hv
  obtain ⟨rfl, rfl, hP, hK, hD0⟩ := hv
  have hx := B.exec
  have hb := B.bytes
  have hr := B.returns
  have hts := atoms_spec (ws := vs_C_5_leavesAny) B.pre
  have v_1 := hts (.fieldLink RX5 23 "ClockReach$Remainder" "pieces" "[LClockReach$Zone;") (List.mem_cons_of_mem _ cm_347)
  have v_7 := hts (.fieldLink RX5 26 "ClockReach$Remainder" "cutting" "[I") (List.mem_cons_of_mem _ cm_348)
  have v_13 := hts (.fieldLink RX5 30 "ClockReach$Remainder" "cells" "[I") (List.mem_cons_of_mem _ cm_349)
  have v_14 := hts (.constant RX5 93 (100000000)) (List.mem_cons_of_mem _ cm_350)
  have v_15 := hts (.fieldLink RX5 37 "ClockReach$Remainder" "count" "I") (List.mem_cons_of_mem _ cm_316)
  have hown : s.vm.findClass RX5 = some m.cls := findClass_of_methodNamed B.named
  have hlocks := B.notSynchronized
  have hiX5 : ∀ w ∈ wsX50, w ∈ vs_C_5_leavesAny := fun _ h => List.mem_cons_of_mem _ (cm_X5 h)
  have hD := hD0.self (sz := s.heap.size)
  generalize hAe : va_A (((rm__w rm rcv (nI rk) rmd (nI ru) rpc rct rce (az 392) k_fcv fcv k_fmd (zs 242 28 az) k_fpc (zs 270 122 az) k_fct fct k_fce (bN 16 q_fce)) ++ zp 4 16 N az ac kz qs fz)) s.heap.size = A at hD ⊢
  have hA : ∀ q : Nat, s.heap.size ≤ q → A q := fun q h => by rw [← hAe]; exact Or.inr h
  have hS : va_S A s.heap s.heap [] := va_S.rf
  have hl := lv_entry ([.ref rm, .ref (az kk)]) (n := 4) (Nat.le_of_ble_eq_true rfl)
  rw [lg_entry_eq]
  generalize (lg_sl ([.ref rm, .ref (az kk)]) ++ List.replicate (4 - (lg_sl ([.ref rm, .ref (az kk)])).length) Slot.unset).toArray = ls at hl ⊢
  have hl : lv_has ls 4 [(0, .ref rm), (1, .ref (az kk))] := hl
  refine lv_aload_n hx hb eX5_leavesAny_0 rfl (lv_at hl 0 rfl) ?_
  refine va_get (D := (dC, dI)) (ci := 5) (v := .ref rpc) (C := RX5) (T := TX5) (N := 8) hx hb hts hiX5 hown hK hP 0 rfl rfl 4 (by decide) v_1 (fun _ h9 => h9) rfl eX5_leavesAny_1 ?_
  refine lv_iconst (v := 0) hx hb eX5_leavesAny_4 (by decide) ?_
  refine va_aldq hx hb hK hP 3 2 rfl rfl (vp_in_nI (n := 0) (Nat.le_of_ble_eq_true rfl) (Nat.le_of_ble_eq_true rfl)) eX5_leavesAny_5 ?_
  refine W.eq (g2 := F0 m 6 ls [.ref (az (270 + 0))]) (by rw [← zs_get (o := 270) (n := 122) (k := 0) (az := az) (Nat.le_of_ble_eq_true rfl) (by omega)]; rfl) ?_
  refine lv_aload_n hx hb eX5_leavesAny_6 rfl (lv_at hl 1 rfl) ?_
  have hPz := zp_cut (k := (270 + 0)) hP (by omega)
  have hPy := zp_cut (k := kk) hP (by omega)
  have hPc : va_P (dC, dI) vwCl ([(az kk, .inr (7, [.ref (ac kk), .int (nI (min (qs kk) 4))])), (ac kk, .inl (kz kk, 16, .inl (fz kk)))] ++ [(az (270 + 0), .inr (7, [.ref (ac (270 + 0)), .int (nI (min (qs (270 + 0)) 4))])), (ac (270 + 0), .inl (kz (270 + 0), 16, .inl (fz (270 + 0))))]) _ := va_P.app hPy hPz
  have hDc : va_D A ([(az kk, .inr (7, [.ref (ac kk), .int (nI (min (qs kk) 4))])), (ac kk, .inl (kz kk, 16, .inl (fz kk)))] ++ [(az (270 + 0), .inr (7, [.ref (ac (270 + 0)), .int (nI (min (qs (270 + 0)) 4))])), (ac (270 + 0), .inl (kz (270 + 0), 16, .inl (fz (270 + 0))))]) := zp_cutD2 hD (by omega) (by omega) (by omega)
  have hKc : va_K (dC, dI) vwCl [(kz kk, .int), (kz (270 + 0), .int)] s := zp_K2 hK (by omega) (by omega)
  have hFc := pu_free hDc hS hA
  refine va_callv (va_runV (As := [.ref (az kk)]) (rest := []) ⟨hx, hb, hml, hown, hts⟩ (c_E_7_copyOf_16 l dC dI _ (az kk) (ac kk) (min (qs kk) 4) (kz kk) (fz kk) (az (270 + 0)) (ac (270 + 0)) (min (qs (270 + 0)) 4) (kz (270 + 0)) (fz (270 + 0)) (Nat.min_le_right _ _) (Nat.min_le_right _ _)) (cwV 1 hts g_C_5_leavesAny_E_7_copyOf_16 rfl rfl rfl (by decide +kernel) ⟨Nat.le_of_ble_eq_true rfl, Nat.le_of_ble_eq_true rfl⟩) ⟨pu_bl, va_recv hK hPz (ci := 7) (q0 := 0) rfl rfl, pu_in hPc hKc hDc⟩ rfl rfl hl.1 rfl (lv_room (Nat.le_of_ble_eq_true rfl)) eX5_leavesAny_7 ⟨Nat.le_of_ble_eq_true rfl, Nat.le_of_ble_eq_true rfl⟩) hS (fun q _ h => hFc q h) hFc (fun u t H1 locs ht hvm hw hB hz1 hk1 hS => ?_)
  obtain ⟨z_fz_2, ⟨hP1, -, hD1⟩, xr_1_0⟩ := hB
  rw [ht] at hP1
  obtain ⟨qs_3, fz_4, hP, hD⟩ := zp_put (wr := [(az kk, .inr (7, [.ref (ac kk), .int (nI (min (qs kk) 4))])), (ac kk, .inl (kz kk, 16, .inl (fz kk)))]) (k := (270 + 0)) hP hD (by omega) (zp_two (by omega)) hk1 (Nat.min_le_right _ _) hP1
  clear hP1 hD1 hFc
  clear hPc hDc hKc
  clear hk1 hz1 ht hvm
  generalize H1 = H at hP hS ⊢
  refine lv_aload_n hx hb eX5_leavesAny_10 rfl (lv_at hl 0 rfl) ?_
  refine va_get (D := (dC, dI)) (ci := 5) (v := .ref rct) (C := RX5) (T := TX5) (N := 8) hx hb hts hiX5 hown hK hP 0 rfl rfl 5 (by decide) v_7 (fun _ h9 => h9) rfl eX5_leavesAny_11 ?_
  refine lv_iconst (v := 0) hx hb eX5_leavesAny_14 (by decide) ?_
  refine lv_aload_n hx hb eX5_leavesAny_15 rfl (lv_at hl 0 rfl) ?_
  refine lv_aload_n hx hb eX5_leavesAny_16 rfl (lv_at hl 1 rfl) ?_
  refine lv_iconst (v := 0) hx hb eX5_leavesAny_17 (by decide) ?_
  have hFc := pu_free hD hS hA
  refine va_calli (va_runV (As := [.ref (az kk), .int 0]) (rest := [.int 0, .ref rct]) ⟨hx, hb, hml, hown, hts⟩ (c_C_5_nextCover l dC dI _ rm rcv rk rmd ru rpc rct rce k_fcv fcv k_fmd k_fpc k_fct fct k_fce q_fce N az ac kz qs_3 fz_4 kk 0 hrk hru (by omega) (by omega) (Nat.le_of_ble_eq_true rfl) (by assumption) (by omega) (by omega)) (cwV 2 hts g_C_5_leavesAny_C_5_nextCover rfl rfl rfl (by decide +kernel) ⟨Nat.le_of_ble_eq_true rfl, Nat.le_of_ble_eq_true rfl⟩) ⟨pu_bl, va_recv hK hP (ci := 5) (q0 := 0) rfl rfl, pu_in hP hK hD⟩ rfl rfl hl.1 rfl (lv_room (Nat.le_of_ble_eq_true rfl)) eX5_leavesAny_18 ⟨Nat.le_of_ble_eq_true rfl, Nat.le_of_ble_eq_true rfl⟩) hS (fun q _ h => hFc q h) hFc (fun r_5 u t H1 locs ht hvm hw hB hz1 hk1 hS => ?_)
  obtain ⟨z_fz_6, z_qs_7, ⟨hP1, -, hD1⟩⟩ := hB
  rw [ht] at hP1
  have hP := hP1
  have hD := pu_all hFc hD1
  clear hP1 hD1 hFc
  clear hk1 hz1 ht hvm
  generalize H1 = H at hP hS ⊢
  rcases hw with rfl | ⟨u_8, iu_8, ju_8, rfl⟩
  · refine va_iast hx hb hK hP hD hS 4 3 rfl rfl (vp_in_nI (n := 0) (Nat.le_of_ble_eq_true rfl) (Nat.le_of_ble_eq_true rfl)) eX5_leavesAny_21 (fun H locs hP hD hS => ?_)
    have hP : va_P (dC, dI) vwCl ((rm__w rm rcv (nI rk) rmd (nI ru) rpc rct rce (az 392) k_fcv fcv k_fmd (zs 242 28 az) k_fpc (zs 270 122 az) k_fct (upd fct (0 : Int32).toNatClampNeg (-1)) k_fce (bN 16 q_fce)) ++ zp 4 16 N az ac kz z_qs_7 z_fz_6) H := hP
    have hD : va_D A ((rm__w rm rcv (nI rk) rmd (nI ru) rpc rct rce (az 392) k_fcv fcv k_fmd (zs 242 28 az) k_fpc (zs 270 122 az) k_fct (upd fct (0 : Int32).toNatClampNeg (-1)) k_fce (bN 16 q_fce)) ++ zp 4 16 N az ac kz z_qs_7 z_fz_6) := hD
    refine lv_aload_n hx hb eX5_leavesAny_22 rfl (lv_at hl 0 rfl) ?_
    refine va_get (D := (dC, dI)) (ci := 5) (v := .ref rce) (C := RX5) (T := TX5) (N := 8) hx hb hts hiX5 hown hK hP 0 rfl rfl 6 (by decide) v_13 (fun _ h9 => h9) rfl eX5_leavesAny_23 ?_
    refine lv_iconst (v := 0) hx hb eX5_leavesAny_26 (by decide) ?_
    refine lv_iconst (v := 0) hx hb eX5_leavesAny_27 (by decide) ?_
    refine va_iast hx hb hK hP hD hS 5 4 rfl rfl (vp_in_nI (n := 0) (Nat.le_of_ble_eq_true rfl) (Nat.le_of_ble_eq_true rfl)) eX5_leavesAny_28 (fun H locs hP hD hS => ?_)
    obtain ⟨q_9, eq_9, kq_9⟩ := bN_up 16 q_fce ((0 : Int32).toNatClampNeg) (v := 0) (Nat.le_of_ble_eq_true rfl)
    have hP : va_P (dC, dI) vwCl ((rm__w rm rcv (nI rk) rmd (nI ru) rpc rct rce (az 392) k_fcv fcv k_fmd (zs 242 28 az) k_fpc (zs 270 122 az) k_fct (upd fct (0 : Int32).toNatClampNeg (-1)) k_fce (bN 16 q_9)) ++ zp 4 16 N az ac kz z_qs_7 z_fz_6) H := by rw [← eq_9]; exact hP
    have hD : va_D A ((rm__w rm rcv (nI rk) rmd (nI ru) rpc rct rce (az 392) k_fcv fcv k_fmd (zs 242 28 az) k_fpc (zs 270 122 az) k_fct (upd fct (0 : Int32).toNatClampNeg (-1)) k_fce (bN 16 q_9)) ++ zp 4 16 N az ac kz z_qs_7 z_fz_6) := by rw [← eq_9]; exact hD
    refine lv_aload_n hx hb eX5_leavesAny_29 rfl (lv_at hl 0 rfl) ?_
    refine va_get (D := (dC, dI)) (ci := 5) (v := .ref rct) (C := RX5) (T := TX5) (N := 8) hx hb hts hiX5 hown hK hP 0 rfl rfl 5 (by decide) v_7 (fun _ h9 => h9) rfl eX5_leavesAny_30 ?_
    refine lv_iconst (v := 0) hx hb eX5_leavesAny_33 (by decide) ?_
    refine va_iald hx hb hK hP 4 3 rfl rfl (vp_in_nI (n := 0) (Nat.le_of_ble_eq_true rfl) (Nat.le_of_ble_eq_true rfl)) eX5_leavesAny_34 ?_
    refine lv_topi (fun y_10 ey_10 => ?_)
    obtain rfl : y_10 = (-1) := ey_10.trans pk_us
    refine lv_iconst (v := (-1)) hx hb eX5_leavesAny_35 (by decide) ?_
    refine lv_icmp_ne (tgt := 43) hx hb eX5_leavesAny_36 (by decide) (fun z => absurd z (by decide)) (fun _ => ?_)
    refine lv_iconst (v := (-1)) hx hb eX5_leavesAny_39 (by decide) ?_
    refine lv_goto (tgt := 44) hx hb eX5_leavesAny_40 (by decide) ?_
    refine lv_istore_n (lv' := [(2, .int (-1)), (0, .ref rm), (1, .ref (az kk))]) hx hb eX5_leavesAny_44 rfl hl (by decide) rfl (fun ls hl => ?_)
    refine lv_iconst (v := 0) hx hb eX5_leavesAny_45 (by decide) ?_
    refine lv_istore_n (lv' := [(3, .int 0), (2, .int (-1)), (0, .ref rm), (1, .ref (az kk))]) hx hb eX5_leavesAny_46 rfl hl (by decide) rfl (fun ls hl => ?_)
    refine pu_while (fun nn H locs ls => ∃ (kk_11 tt_12 : Nat) (fct_13 : Nat → Int32) (qce_14 : Nat → Nat) (qs_15 : Nat → Nat) (fz_16 : Nat → Nat → Int32), nn = 100000000 - tt_12 ∧ tt_12 ≤ 100000000 ∧ ctk kk_11 rk fct_13 ∧ va_P (dC, dI) vwCl ((rm__w rm rcv (nI rk) rmd (nI ru) rpc rct rce (az 392) k_fcv fcv k_fmd (zs 242 28 az) k_fpc (zs 270 122 az) k_fct fct_13 k_fce (bN 16 qce_14)) ++ zp 4 16 N az ac kz qs_15 fz_16) H ∧ va_D A ((rm__w rm rcv (nI rk) rmd (nI ru) rpc rct rce (az 392) k_fcv fcv k_fmd (zs 242 28 az) k_fpc (zs 270 122 az) k_fct fct_13 k_fce (bN 16 qce_14)) ++ zp 4 16 N az ac kz qs_15 fz_16) ∧ va_S A s.heap H locs ∧ lv_has ls 4 [(0, .ref rm), (2, .int (nI kk_11 - 1)), (3, .int (nI tt_12))]) 47 ?_ _ _ _ _ ⟨0, 0, (upd fct (0 : Int32).toNatClampNeg (-1)), q_9, z_qs_7, z_fz_6, rfl, by omega, ct_0, hP, hD, hS, lv_sub hl [2, 1, 0] rfl⟩
    rintro nn ih_17 H locs ls ⟨kk_11, tt_12, fct_13, qce_14, qs_15, fz_16, hnn, htt_12, fkk_11, hP, hD, hS, hl⟩
    rcases kk_11 with _ | kk_11
    · rw [pu_k0] at hl
      refine lv_iload_n hx hb eX5_leavesAny_47 rfl (lv_at hl 2 rfl) ?_
      refine lv_ldc hx hb hown v_14 eX5_leavesAny_48 ?_
      refine lv_icmp_ge (tgt := 107) hx hb eX5_leavesAny_50 (by decide) (fun c_18 => ?_) (fun c_18 => ?_)
      · have c_18 : 100000000 ≤ tt_12 := (nI_leI (a := 100000000) (b := tt_12) (Nat.le_of_ble_eq_true rfl) (by omega)).mp c_18
        refine lv_iload_n hx hb eX5_leavesAny_107 rfl (lv_at hl 1 rfl) ?_
        refine lv_if_lt (tgt := 115) hx hb eX5_leavesAny_108 (by decide) (fun _ => ?_) (fun z => absurd z (by decide))
        refine lv_iconst (v := 0) hx hb eX5_leavesAny_115 (by decide) ?_
        exact W.zret (v := 0) (ty := .boolean) hx hb hr (rfl) (fun t ht hW => ⟨⟨0, (), rfl, ⟨0, (Nat.le_of_ble_eq_true rfl), rfl⟩, ⟨fct_13, qce_14, fz_16, qs_15, ⟨by rw [ht]; exact hP, va_K.moved hW.alike hK, hD⟩⟩⟩, hS.F ht⟩) hS.2.2 eX5_leavesAny_116
      · have c_18 : ¬ 100000000 ≤ tt_12 := fun z => c_18 ((nI_leI (a := 100000000) (b := tt_12) (Nat.le_of_ble_eq_true rfl) (by omega)).mpr z)
        refine lv_iload_n hx hb eX5_leavesAny_53 rfl (lv_at hl 1 rfl) ?_
        refine lv_if_lt (tgt := 107) hx hb eX5_leavesAny_54 (by decide) (fun _ => ?_) (fun z => absurd z (by decide))
        refine lv_iload_n hx hb eX5_leavesAny_107 rfl (lv_at hl 1 rfl) ?_
        refine lv_if_lt (tgt := 115) hx hb eX5_leavesAny_108 (by decide) (fun _ => ?_) (fun z => absurd z (by decide))
        refine lv_iconst (v := 0) hx hb eX5_leavesAny_115 (by decide) ?_
        exact W.zret (v := 0) (ty := .boolean) hx hb hr (rfl) (fun t ht hW => ⟨⟨0, (), rfl, ⟨0, (Nat.le_of_ble_eq_true rfl), rfl⟩, ⟨fct_13, qce_14, fz_16, qs_15, ⟨by rw [ht]; exact hP, va_K.moved hW.alike hK, hD⟩⟩⟩, hS.F ht⟩) hS.2.2 eX5_leavesAny_116
    · rw [nI_pred] at hl
      obtain ⟨vv_19, ivv_19, jvv_19, kvv_19⟩ := ct_get (i := kk_11) fkk_11 (by omega) (by omega)
      refine lv_iload_n hx hb eX5_leavesAny_47 rfl (lv_at hl 2 rfl) ?_
      refine lv_ldc hx hb hown v_14 eX5_leavesAny_48 ?_
      refine lv_icmp_ge (tgt := 107) hx hb eX5_leavesAny_50 (by decide) (fun c_20 => ?_) (fun c_20 => ?_)
      · have c_20 : 100000000 ≤ tt_12 := (nI_leI (a := 100000000) (b := tt_12) (Nat.le_of_ble_eq_true rfl) (by omega)).mp c_20
        refine lv_iload_n hx hb eX5_leavesAny_107 rfl (lv_at hl 1 rfl) ?_
        refine lv_if_lt (tgt := 115) hx hb eX5_leavesAny_108 (by decide) (fun c_21 => ?_) (fun c_21 => ?_)
        · have c_21 : kk_11 < 0 := (nI_ltI (a := kk_11) (b := 0) (by omega) (Nat.le_of_ble_eq_true rfl)).mp c_21
          exfalso
          omega
        · have c_21 : ¬ kk_11 < 0 := fun z => c_21 ((nI_ltI (a := kk_11) (b := 0) (by omega) (Nat.le_of_ble_eq_true rfl)).mpr z)
          refine lv_iconst (v := 1) hx hb eX5_leavesAny_111 (by decide) ?_
          refine lv_goto (tgt := 116) hx hb eX5_leavesAny_112 (by decide) ?_
          exact W.zret (v := 1) (ty := .boolean) hx hb hr (rfl) (fun t ht hW => ⟨⟨1, (), rfl, ⟨1, (Nat.le_of_ble_eq_true rfl), rfl⟩, ⟨fct_13, qce_14, fz_16, qs_15, ⟨by rw [ht]; exact hP, va_K.moved hW.alike hK, hD⟩⟩⟩, hS.F ht⟩) hS.2.2 eX5_leavesAny_116
      · have c_20 : ¬ 100000000 ≤ tt_12 := fun z => c_20 ((nI_leI (a := 100000000) (b := tt_12) (Nat.le_of_ble_eq_true rfl) (by omega)).mpr z)
        refine lv_iload_n hx hb eX5_leavesAny_53 rfl (lv_at hl 1 rfl) ?_
        refine lv_if_lt (tgt := 107) hx hb eX5_leavesAny_54 (by decide) (fun c_22 => ?_) (fun c_22 => ?_)
        · have c_22 : kk_11 < 0 := (nI_ltI (a := kk_11) (b := 0) (by omega) (Nat.le_of_ble_eq_true rfl)).mp c_22
          exfalso
          omega
        · have c_22 : ¬ kk_11 < 0 := fun z => c_22 ((nI_ltI (a := kk_11) (b := 0) (by omega) (Nat.le_of_ble_eq_true rfl)).mpr z)
          refine lv_aload_n hx hb eX5_leavesAny_57 rfl (lv_at hl 0 rfl) ?_
          refine va_get (D := (dC, dI)) (ci := 5) (v := .ref rct) (C := RX5) (T := TX5) (N := 8) hx hb hts hiX5 hown hK hP 0 rfl rfl 5 (by decide) v_7 (fun _ h9 => h9) rfl eX5_leavesAny_58 ?_
          refine lv_iload_n hx hb eX5_leavesAny_61 rfl (lv_at hl 1 rfl) ?_
          refine va_iald hx hb hK hP 4 3 rfl rfl (vp_in_nI (n := kk_11) (by omega) (Nat.le_of_ble_eq_true rfl)) eX5_leavesAny_62 ?_
          refine lv_topi (fun y_23 ey_23 => ?_)
          obtain rfl : y_23 = nI vv_19 := ey_23.trans kvv_19
          refine lv_aload_n hx hb eX5_leavesAny_63 rfl (lv_at hl 0 rfl) ?_
          refine va_get (D := (dC, dI)) (ci := 5) (v := .int (nI rk)) (C := RX5) (T := TX5) (N := 8) hx hb hts hiX5 hown hK hP 0 rfl rfl 1 (by decide) v_15 (fun _ h9 => h9) rfl eX5_leavesAny_64 ?_
          refine lv_icmp_ne (tgt := 72) hx hb eX5_leavesAny_67 (by decide) (fun c_24 => ?_) (fun c_24 => ?_)
          · have c_24 : ¬ vv_19 = rk := fun z => c_24 ((nI_eq (a := vv_19) (b := rk) (by omega) (Nat.lt_of_le_of_lt hrk (Nat.le_of_ble_eq_true rfl))).mpr z)
            refine lv_aload_n hx hb eX5_leavesAny_72 rfl (lv_at hl 0 rfl) ?_
            refine lv_iload_n hx hb eX5_leavesAny_73 rfl (lv_at hl 1 rfl) ?_
            have hFc := pu_free hD hS hA
            refine va_calli (va_runV (As := [.int (nI kk_11)]) (rest := []) ⟨hx, hb, hml, hown, hts⟩ (c_C_5_splits l dC dI _ rm rcv rk rmd ru rpc rct rce k_fcv fcv k_fmd k_fpc k_fct fct_13 k_fce qce_14 N az ac kz qs_15 fz_16 kk_11 vv_19 hrk hru (by omega) (by omega) (by assumption) (by assumption) (by assumption) (by omega) (by omega)) (cwV 1 hts g_C_5_leavesAny_C_5_splits rfl rfl rfl (by decide +kernel) ⟨Nat.le_of_ble_eq_true rfl, Nat.le_of_ble_eq_true rfl⟩) ⟨pu_bl, va_recv hK hP (ci := 5) (q0 := 0) rfl rfl, pu_in hP hK hD⟩ rfl rfl hl.1 rfl (lv_room (Nat.le_of_ble_eq_true rfl)) eX5_leavesAny_74 ⟨Nat.le_of_ble_eq_true rfl, Nat.le_of_ble_eq_true rfl⟩) hS (fun q _ h => hFc q h) hFc (fun r_25 u t H1 locs ht hvm hw hB hz1 hk1 hS => ?_)
            obtain ⟨rur_25, hw⟩ := hw
            subst rur_25
            obtain ⟨z_fct_26, z_fce_27, z_fz_28, z_qs_29, ⟨hP1, -, hD1⟩, xr_25_0, xr_25_1⟩ := hB
            rw [ht] at hP1
            have hP := hP1
            have hD := pu_all hFc hD1
            clear hP1 hD1 hFc
            clear hk1 hz1 ht hvm
            generalize H1 = H at hP hS ⊢
            obtain ⟨u_30, hu_30, rfl⟩ := hw
            refine lv_if_ne (tgt := 86) hx hb eX5_leavesAny_77 (by decide) (fun c_31 => ?_) (fun c_31 => ?_)
            · have c_31 : ¬ u_30 = 0 := fun z => c_31 ((nI_eq (a := u_30) (b := 0) (Nat.lt_of_le_of_lt hu_30 (Nat.le_of_ble_eq_true rfl)) (Nat.le_of_ble_eq_true rfl)).mpr z)
              refine lv_aload_n hx hb eX5_leavesAny_86 rfl (lv_at hl 0 rfl) ?_
              refine va_get (D := (dC, dI)) (ci := 5) (v := .ref rct) (C := RX5) (T := TX5) (N := 8) hx hb hts hiX5 hown hK hP 0 rfl rfl 5 (by decide) v_7 (fun _ h9 => h9) rfl eX5_leavesAny_87 ?_
              refine lv_iload_n hx hb eX5_leavesAny_90 rfl (lv_at hl 1 rfl) ?_
              refine lv_iconst (v := 1) hx hb eX5_leavesAny_91 (by decide) ?_
              refine lv_iadd hx hb eX5_leavesAny_92 ?_
              refine lv_topi (fun y_32 ey_32 => ?_)
              obtain rfl : y_32 = (nI (kk_11 + 1)) := ey_32.trans (nI_add kk_11 1)
              refine va_iald hx hb hK hP 4 3 rfl rfl (vp_in_nI (n := (kk_11 + 1)) (by omega) (Nat.le_of_ble_eq_true rfl)) eX5_leavesAny_93 ?_
              refine lv_topi (fun y_33 ey_33 => ?_)
              rcases xr_25_1 with h93 | h93 | h93
              · exact absurd h93 (fun z => by have := (nI_eq (b := 0) (by omega) (by omega)).mp z; omega)
              · obtain rfl : y_33 = -1 := ey_33.trans h93
                refine lv_iconst (v := (-1)) hx hb eX5_leavesAny_94 (by decide) ?_
                refine lv_icmp_eq (tgt := 101) hx hb eX5_leavesAny_95 (by decide) (fun _ => ?_) (fun z => absurd z (by decide))
                refine lv_iinc (v := (nI (tt_12 + 1))) (lv' := [(3, .int (nI (tt_12 + 1))), (0, .ref rm), (2, .int (nI kk_11))]) hx hb eX5_leavesAny_101 hl (k := 2) rfl (nI_1 _) (by decide) rfl (fun ls hl => ?_)
                refine lv_goto (tgt := 47) hx hb eX5_leavesAny_104 (by decide) ?_
                exact ih_17 (100000000 - (tt_12 + 1)) (by omega) _ _ _ ⟨(kk_11 + 1), (tt_12 + 1), z_fct_26, z_fce_27, z_qs_29, z_fz_28, rfl, by omega, by first | assumption | exact ct_le (by assumption) (by omega), hP, hD, hS, (by rw [nI_pred]; exact lv_sub hl [1, 2, 0] rfl)⟩
              · obtain ⟨vv_34, ivv_34, jvv_34, kvv_34⟩ := ct_get (i := (kk_11 + 1)) h93 (by omega) (by omega)
                obtain rfl : y_33 = nI vv_34 := ey_33.trans kvv_34
                refine lv_iconst (v := (-1)) hx hb eX5_leavesAny_94 (by decide) ?_
                refine lv_icmp_eq (tgt := 101) hx hb eX5_leavesAny_95 (by decide) (fun z => absurd z (pu_nneg (n := vv_34) (by omega) (by decide))) (fun _ => ?_)
                refine lv_iinc (v := (nI (kk_11 + 1))) (lv' := [(2, .int (nI (kk_11 + 1))), (0, .ref rm), (3, .int (nI tt_12))]) hx hb eX5_leavesAny_98 hl (k := 1) rfl (nI_1 _) (by decide) rfl (fun ls hl => ?_)
                refine lv_iinc (v := (nI (tt_12 + 1))) (lv' := [(3, .int (nI (tt_12 + 1))), (2, .int (nI (kk_11 + 1))), (0, .ref rm)]) hx hb eX5_leavesAny_101 hl (k := 2) rfl (nI_1 _) (by decide) rfl (fun ls hl => ?_)
                refine lv_goto (tgt := 47) hx hb eX5_leavesAny_104 (by decide) ?_
                exact ih_17 (100000000 - (tt_12 + 1)) (by omega) _ _ _ ⟨((kk_11 + 1) + 1), (tt_12 + 1), z_fct_26, z_fce_27, z_qs_29, z_fz_28, rfl, by omega, by first | assumption | exact ct_le (by assumption) (by omega), hP, hD, hS, (by rw [nI_pred]; exact lv_sub hl [2, 1, 0] rfl)⟩
            · have c_31 : u_30 = 0 := (nI_eq (a := u_30) (b := 0) (Nat.lt_of_le_of_lt hu_30 (Nat.le_of_ble_eq_true rfl)) (Nat.le_of_ble_eq_true rfl)).mp c_31
              refine lv_iinc (v := (nI kk_11 - 1)) (lv' := [(2, .int (nI kk_11 - 1)), (0, .ref rm), (3, .int (nI tt_12))]) hx hb eX5_leavesAny_80 hl (k := 1) rfl (pu_decm _) (by decide) rfl (fun ls hl => ?_)
              refine lv_goto (tgt := 101) hx hb eX5_leavesAny_83 (by decide) ?_
              refine lv_iinc (v := (nI (tt_12 + 1))) (lv' := [(3, .int (nI (tt_12 + 1))), (2, .int (nI kk_11 - 1)), (0, .ref rm)]) hx hb eX5_leavesAny_101 hl (k := 2) rfl (nI_1 _) (by decide) rfl (fun ls hl => ?_)
              refine lv_goto (tgt := 47) hx hb eX5_leavesAny_104 (by decide) ?_
              exact ih_17 (100000000 - (tt_12 + 1)) (by omega) _ _ _ ⟨kk_11, (tt_12 + 1), z_fct_26, z_fce_27, z_qs_29, z_fz_28, rfl, by omega, by first | assumption | exact ct_le (by assumption) (by omega), hP, hD, hS, lv_sub hl [2, 1, 0] rfl⟩
          · have c_24 : vv_19 = rk := (nI_eq (a := vv_19) (b := rk) (by omega) (Nat.lt_of_le_of_lt hrk (Nat.le_of_ble_eq_true rfl))).mp c_24
            refine lv_iconst (v := 1) hx hb eX5_leavesAny_70 (by decide) ?_
            exact W.zret (v := 1) (ty := .boolean) hx hb hr (rfl) (fun t ht hW => ⟨⟨1, (), rfl, ⟨1, (Nat.le_of_ble_eq_true rfl), rfl⟩, ⟨fct_13, qce_14, fz_16, qs_15, ⟨by rw [ht]; exact hP, va_K.moved hW.alike hK, hD⟩⟩⟩, hS.F ht⟩) hS.2.2 eX5_leavesAny_71
  · refine va_iast hx hb hK hP hD hS 4 3 rfl rfl (vp_in_nI (n := 0) (Nat.le_of_ble_eq_true rfl) (Nat.le_of_ble_eq_true rfl)) eX5_leavesAny_21 (fun H locs hP hD hS => ?_)
    have hP : va_P (dC, dI) vwCl ((rm__w rm rcv (nI rk) rmd (nI ru) rpc rct rce (az 392) k_fcv fcv k_fmd (zs 242 28 az) k_fpc (zs 270 122 az) k_fct (upd fct (0 : Int32).toNatClampNeg (nI u_8)) k_fce (bN 16 q_fce)) ++ zp 4 16 N az ac kz z_qs_7 z_fz_6) H := hP
    have hD : va_D A ((rm__w rm rcv (nI rk) rmd (nI ru) rpc rct rce (az 392) k_fcv fcv k_fmd (zs 242 28 az) k_fpc (zs 270 122 az) k_fct (upd fct (0 : Int32).toNatClampNeg (nI u_8)) k_fce (bN 16 q_fce)) ++ zp 4 16 N az ac kz z_qs_7 z_fz_6) := hD
    refine lv_aload_n hx hb eX5_leavesAny_22 rfl (lv_at hl 0 rfl) ?_
    refine va_get (D := (dC, dI)) (ci := 5) (v := .ref rce) (C := RX5) (T := TX5) (N := 8) hx hb hts hiX5 hown hK hP 0 rfl rfl 6 (by decide) v_13 (fun _ h9 => h9) rfl eX5_leavesAny_23 ?_
    refine lv_iconst (v := 0) hx hb eX5_leavesAny_26 (by decide) ?_
    refine lv_iconst (v := 0) hx hb eX5_leavesAny_27 (by decide) ?_
    refine va_iast hx hb hK hP hD hS 5 4 rfl rfl (vp_in_nI (n := 0) (Nat.le_of_ble_eq_true rfl) (Nat.le_of_ble_eq_true rfl)) eX5_leavesAny_28 (fun H locs hP hD hS => ?_)
    obtain ⟨q_35, eq_35, kq_35⟩ := bN_up 16 q_fce ((0 : Int32).toNatClampNeg) (v := 0) (Nat.le_of_ble_eq_true rfl)
    have hP : va_P (dC, dI) vwCl ((rm__w rm rcv (nI rk) rmd (nI ru) rpc rct rce (az 392) k_fcv fcv k_fmd (zs 242 28 az) k_fpc (zs 270 122 az) k_fct (upd fct (0 : Int32).toNatClampNeg (nI u_8)) k_fce (bN 16 q_35)) ++ zp 4 16 N az ac kz z_qs_7 z_fz_6) H := by rw [← eq_35]; exact hP
    have hD : va_D A ((rm__w rm rcv (nI rk) rmd (nI ru) rpc rct rce (az 392) k_fcv fcv k_fmd (zs 242 28 az) k_fpc (zs 270 122 az) k_fct (upd fct (0 : Int32).toNatClampNeg (nI u_8)) k_fce (bN 16 q_35)) ++ zp 4 16 N az ac kz z_qs_7 z_fz_6) := by rw [← eq_35]; exact hD
    refine lv_aload_n hx hb eX5_leavesAny_29 rfl (lv_at hl 0 rfl) ?_
    refine va_get (D := (dC, dI)) (ci := 5) (v := .ref rct) (C := RX5) (T := TX5) (N := 8) hx hb hts hiX5 hown hK hP 0 rfl rfl 5 (by decide) v_7 (fun _ h9 => h9) rfl eX5_leavesAny_30 ?_
    refine lv_iconst (v := 0) hx hb eX5_leavesAny_33 (by decide) ?_
    refine va_iald hx hb hK hP 4 3 rfl rfl (vp_in_nI (n := 0) (Nat.le_of_ble_eq_true rfl) (Nat.le_of_ble_eq_true rfl)) eX5_leavesAny_34 ?_
    refine lv_topi (fun y_36 ey_36 => ?_)
    obtain rfl : y_36 = (nI u_8) := ey_36.trans pk_us
    refine lv_iconst (v := (-1)) hx hb eX5_leavesAny_35 (by decide) ?_
    refine lv_icmp_ne (tgt := 43) hx hb eX5_leavesAny_36 (by decide) (fun _ => ?_) (fun z => absurd z (pu_nneg (n := u_8) (by omega) (by decide)))
    refine lv_iconst (v := 0) hx hb eX5_leavesAny_43 (by decide) ?_
    refine lv_istore_n (lv' := [(2, .int 0), (0, .ref rm), (1, .ref (az kk))]) hx hb eX5_leavesAny_44 rfl hl (by decide) rfl (fun ls hl => ?_)
    refine lv_iconst (v := 0) hx hb eX5_leavesAny_45 (by decide) ?_
    refine lv_istore_n (lv' := [(3, .int 0), (2, .int 0), (0, .ref rm), (1, .ref (az kk))]) hx hb eX5_leavesAny_46 rfl hl (by decide) rfl (fun ls hl => ?_)
    refine pu_while (fun nn H locs ls => ∃ (kk_37 tt_38 : Nat) (fct_39 : Nat → Int32) (qce_40 : Nat → Nat) (qs_41 : Nat → Nat) (fz_42 : Nat → Nat → Int32), nn = 100000000 - tt_38 ∧ tt_38 ≤ 100000000 ∧ ctk kk_37 rk fct_39 ∧ va_P (dC, dI) vwCl ((rm__w rm rcv (nI rk) rmd (nI ru) rpc rct rce (az 392) k_fcv fcv k_fmd (zs 242 28 az) k_fpc (zs 270 122 az) k_fct fct_39 k_fce (bN 16 qce_40)) ++ zp 4 16 N az ac kz qs_41 fz_42) H ∧ va_D A ((rm__w rm rcv (nI rk) rmd (nI ru) rpc rct rce (az 392) k_fcv fcv k_fmd (zs 242 28 az) k_fpc (zs 270 122 az) k_fct fct_39 k_fce (bN 16 qce_40)) ++ zp 4 16 N az ac kz qs_41 fz_42) ∧ va_S A s.heap H locs ∧ lv_has ls 4 [(0, .ref rm), (2, .int (nI kk_37 - 1)), (3, .int (nI tt_38))]) 47 ?_ _ _ _ _ ⟨1, 0, (upd fct (0 : Int32).toNatClampNeg (nI u_8)), q_35, z_qs_7, z_fz_6, rfl, by omega, ct_z (by omega), hP, hD, hS, lv_sub hl [2, 1, 0] rfl⟩
    rintro nn ih_43 H locs ls ⟨kk_37, tt_38, fct_39, qce_40, qs_41, fz_42, hnn, htt_38, fkk_37, hP, hD, hS, hl⟩
    rcases kk_37 with _ | kk_37
    · rw [pu_k0] at hl
      refine lv_iload_n hx hb eX5_leavesAny_47 rfl (lv_at hl 2 rfl) ?_
      refine lv_ldc hx hb hown v_14 eX5_leavesAny_48 ?_
      refine lv_icmp_ge (tgt := 107) hx hb eX5_leavesAny_50 (by decide) (fun c_44 => ?_) (fun c_44 => ?_)
      · have c_44 : 100000000 ≤ tt_38 := (nI_leI (a := 100000000) (b := tt_38) (Nat.le_of_ble_eq_true rfl) (by omega)).mp c_44
        refine lv_iload_n hx hb eX5_leavesAny_107 rfl (lv_at hl 1 rfl) ?_
        refine lv_if_lt (tgt := 115) hx hb eX5_leavesAny_108 (by decide) (fun _ => ?_) (fun z => absurd z (by decide))
        refine lv_iconst (v := 0) hx hb eX5_leavesAny_115 (by decide) ?_
        exact W.zret (v := 0) (ty := .boolean) hx hb hr (rfl) (fun t ht hW => ⟨⟨0, (), rfl, ⟨0, (Nat.le_of_ble_eq_true rfl), rfl⟩, ⟨fct_39, qce_40, fz_42, qs_41, ⟨by rw [ht]; exact hP, va_K.moved hW.alike hK, hD⟩⟩⟩, hS.F ht⟩) hS.2.2 eX5_leavesAny_116
      · have c_44 : ¬ 100000000 ≤ tt_38 := fun z => c_44 ((nI_leI (a := 100000000) (b := tt_38) (Nat.le_of_ble_eq_true rfl) (by omega)).mpr z)
        refine lv_iload_n hx hb eX5_leavesAny_53 rfl (lv_at hl 1 rfl) ?_
        refine lv_if_lt (tgt := 107) hx hb eX5_leavesAny_54 (by decide) (fun _ => ?_) (fun z => absurd z (by decide))
        refine lv_iload_n hx hb eX5_leavesAny_107 rfl (lv_at hl 1 rfl) ?_
        refine lv_if_lt (tgt := 115) hx hb eX5_leavesAny_108 (by decide) (fun _ => ?_) (fun z => absurd z (by decide))
        refine lv_iconst (v := 0) hx hb eX5_leavesAny_115 (by decide) ?_
        exact W.zret (v := 0) (ty := .boolean) hx hb hr (rfl) (fun t ht hW => ⟨⟨0, (), rfl, ⟨0, (Nat.le_of_ble_eq_true rfl), rfl⟩, ⟨fct_39, qce_40, fz_42, qs_41, ⟨by rw [ht]; exact hP, va_K.moved hW.alike hK, hD⟩⟩⟩, hS.F ht⟩) hS.2.2 eX5_leavesAny_116
    · rw [nI_pred] at hl
      obtain ⟨vv_45, ivv_45, jvv_45, kvv_45⟩ := ct_get (i := kk_37) fkk_37 (by omega) (by omega)
      refine lv_iload_n hx hb eX5_leavesAny_47 rfl (lv_at hl 2 rfl) ?_
      refine lv_ldc hx hb hown v_14 eX5_leavesAny_48 ?_
      refine lv_icmp_ge (tgt := 107) hx hb eX5_leavesAny_50 (by decide) (fun c_46 => ?_) (fun c_46 => ?_)
      · have c_46 : 100000000 ≤ tt_38 := (nI_leI (a := 100000000) (b := tt_38) (Nat.le_of_ble_eq_true rfl) (by omega)).mp c_46
        refine lv_iload_n hx hb eX5_leavesAny_107 rfl (lv_at hl 1 rfl) ?_
        refine lv_if_lt (tgt := 115) hx hb eX5_leavesAny_108 (by decide) (fun c_47 => ?_) (fun c_47 => ?_)
        · have c_47 : kk_37 < 0 := (nI_ltI (a := kk_37) (b := 0) (by omega) (Nat.le_of_ble_eq_true rfl)).mp c_47
          exfalso
          omega
        · have c_47 : ¬ kk_37 < 0 := fun z => c_47 ((nI_ltI (a := kk_37) (b := 0) (by omega) (Nat.le_of_ble_eq_true rfl)).mpr z)
          refine lv_iconst (v := 1) hx hb eX5_leavesAny_111 (by decide) ?_
          refine lv_goto (tgt := 116) hx hb eX5_leavesAny_112 (by decide) ?_
          exact W.zret (v := 1) (ty := .boolean) hx hb hr (rfl) (fun t ht hW => ⟨⟨1, (), rfl, ⟨1, (Nat.le_of_ble_eq_true rfl), rfl⟩, ⟨fct_39, qce_40, fz_42, qs_41, ⟨by rw [ht]; exact hP, va_K.moved hW.alike hK, hD⟩⟩⟩, hS.F ht⟩) hS.2.2 eX5_leavesAny_116
      · have c_46 : ¬ 100000000 ≤ tt_38 := fun z => c_46 ((nI_leI (a := 100000000) (b := tt_38) (Nat.le_of_ble_eq_true rfl) (by omega)).mpr z)
        refine lv_iload_n hx hb eX5_leavesAny_53 rfl (lv_at hl 1 rfl) ?_
        refine lv_if_lt (tgt := 107) hx hb eX5_leavesAny_54 (by decide) (fun c_48 => ?_) (fun c_48 => ?_)
        · have c_48 : kk_37 < 0 := (nI_ltI (a := kk_37) (b := 0) (by omega) (Nat.le_of_ble_eq_true rfl)).mp c_48
          exfalso
          omega
        · have c_48 : ¬ kk_37 < 0 := fun z => c_48 ((nI_ltI (a := kk_37) (b := 0) (by omega) (Nat.le_of_ble_eq_true rfl)).mpr z)
          refine lv_aload_n hx hb eX5_leavesAny_57 rfl (lv_at hl 0 rfl) ?_
          refine va_get (D := (dC, dI)) (ci := 5) (v := .ref rct) (C := RX5) (T := TX5) (N := 8) hx hb hts hiX5 hown hK hP 0 rfl rfl 5 (by decide) v_7 (fun _ h9 => h9) rfl eX5_leavesAny_58 ?_
          refine lv_iload_n hx hb eX5_leavesAny_61 rfl (lv_at hl 1 rfl) ?_
          refine va_iald hx hb hK hP 4 3 rfl rfl (vp_in_nI (n := kk_37) (by omega) (Nat.le_of_ble_eq_true rfl)) eX5_leavesAny_62 ?_
          refine lv_topi (fun y_49 ey_49 => ?_)
          obtain rfl : y_49 = nI vv_45 := ey_49.trans kvv_45
          refine lv_aload_n hx hb eX5_leavesAny_63 rfl (lv_at hl 0 rfl) ?_
          refine va_get (D := (dC, dI)) (ci := 5) (v := .int (nI rk)) (C := RX5) (T := TX5) (N := 8) hx hb hts hiX5 hown hK hP 0 rfl rfl 1 (by decide) v_15 (fun _ h9 => h9) rfl eX5_leavesAny_64 ?_
          refine lv_icmp_ne (tgt := 72) hx hb eX5_leavesAny_67 (by decide) (fun c_50 => ?_) (fun c_50 => ?_)
          · have c_50 : ¬ vv_45 = rk := fun z => c_50 ((nI_eq (a := vv_45) (b := rk) (by omega) (Nat.lt_of_le_of_lt hrk (Nat.le_of_ble_eq_true rfl))).mpr z)
            refine lv_aload_n hx hb eX5_leavesAny_72 rfl (lv_at hl 0 rfl) ?_
            refine lv_iload_n hx hb eX5_leavesAny_73 rfl (lv_at hl 1 rfl) ?_
            have hFc := pu_free hD hS hA
            refine va_calli (va_runV (As := [.int (nI kk_37)]) (rest := []) ⟨hx, hb, hml, hown, hts⟩ (c_C_5_splits l dC dI _ rm rcv rk rmd ru rpc rct rce k_fcv fcv k_fmd k_fpc k_fct fct_39 k_fce qce_40 N az ac kz qs_41 fz_42 kk_37 vv_45 hrk hru (by omega) (by omega) (by assumption) (by assumption) (by assumption) (by omega) (by omega)) (cwV 1 hts g_C_5_leavesAny_C_5_splits rfl rfl rfl (by decide +kernel) ⟨Nat.le_of_ble_eq_true rfl, Nat.le_of_ble_eq_true rfl⟩) ⟨pu_bl, va_recv hK hP (ci := 5) (q0 := 0) rfl rfl, pu_in hP hK hD⟩ rfl rfl hl.1 rfl (lv_room (Nat.le_of_ble_eq_true rfl)) eX5_leavesAny_74 ⟨Nat.le_of_ble_eq_true rfl, Nat.le_of_ble_eq_true rfl⟩) hS (fun q _ h => hFc q h) hFc (fun r_51 u t H1 locs ht hvm hw hB hz1 hk1 hS => ?_)
            obtain ⟨rur_51, hw⟩ := hw
            subst rur_51
            obtain ⟨z_fct_52, z_fce_53, z_fz_54, z_qs_55, ⟨hP1, -, hD1⟩, xr_51_0, xr_51_1⟩ := hB
            rw [ht] at hP1
            have hP := hP1
            have hD := pu_all hFc hD1
            clear hP1 hD1 hFc
            clear hk1 hz1 ht hvm
            generalize H1 = H at hP hS ⊢
            obtain ⟨u_56, hu_56, rfl⟩ := hw
            refine lv_if_ne (tgt := 86) hx hb eX5_leavesAny_77 (by decide) (fun c_57 => ?_) (fun c_57 => ?_)
            · have c_57 : ¬ u_56 = 0 := fun z => c_57 ((nI_eq (a := u_56) (b := 0) (Nat.lt_of_le_of_lt hu_56 (Nat.le_of_ble_eq_true rfl)) (Nat.le_of_ble_eq_true rfl)).mpr z)
              refine lv_aload_n hx hb eX5_leavesAny_86 rfl (lv_at hl 0 rfl) ?_
              refine va_get (D := (dC, dI)) (ci := 5) (v := .ref rct) (C := RX5) (T := TX5) (N := 8) hx hb hts hiX5 hown hK hP 0 rfl rfl 5 (by decide) v_7 (fun _ h9 => h9) rfl eX5_leavesAny_87 ?_
              refine lv_iload_n hx hb eX5_leavesAny_90 rfl (lv_at hl 1 rfl) ?_
              refine lv_iconst (v := 1) hx hb eX5_leavesAny_91 (by decide) ?_
              refine lv_iadd hx hb eX5_leavesAny_92 ?_
              refine lv_topi (fun y_58 ey_58 => ?_)
              obtain rfl : y_58 = (nI (kk_37 + 1)) := ey_58.trans (nI_add kk_37 1)
              refine va_iald hx hb hK hP 4 3 rfl rfl (vp_in_nI (n := (kk_37 + 1)) (by omega) (Nat.le_of_ble_eq_true rfl)) eX5_leavesAny_93 ?_
              refine lv_topi (fun y_59 ey_59 => ?_)
              rcases xr_51_1 with h93 | h93 | h93
              · exact absurd h93 (fun z => by have := (nI_eq (b := 0) (by omega) (by omega)).mp z; omega)
              · obtain rfl : y_59 = -1 := ey_59.trans h93
                refine lv_iconst (v := (-1)) hx hb eX5_leavesAny_94 (by decide) ?_
                refine lv_icmp_eq (tgt := 101) hx hb eX5_leavesAny_95 (by decide) (fun _ => ?_) (fun z => absurd z (by decide))
                refine lv_iinc (v := (nI (tt_38 + 1))) (lv' := [(3, .int (nI (tt_38 + 1))), (0, .ref rm), (2, .int (nI kk_37))]) hx hb eX5_leavesAny_101 hl (k := 2) rfl (nI_1 _) (by decide) rfl (fun ls hl => ?_)
                refine lv_goto (tgt := 47) hx hb eX5_leavesAny_104 (by decide) ?_
                exact ih_43 (100000000 - (tt_38 + 1)) (by omega) _ _ _ ⟨(kk_37 + 1), (tt_38 + 1), z_fct_52, z_fce_53, z_qs_55, z_fz_54, rfl, by omega, by first | assumption | exact ct_le (by assumption) (by omega), hP, hD, hS, (by rw [nI_pred]; exact lv_sub hl [1, 2, 0] rfl)⟩
              · obtain ⟨vv_60, ivv_60, jvv_60, kvv_60⟩ := ct_get (i := (kk_37 + 1)) h93 (by omega) (by omega)
                obtain rfl : y_59 = nI vv_60 := ey_59.trans kvv_60
                refine lv_iconst (v := (-1)) hx hb eX5_leavesAny_94 (by decide) ?_
                refine lv_icmp_eq (tgt := 101) hx hb eX5_leavesAny_95 (by decide) (fun z => absurd z (pu_nneg (n := vv_60) (by omega) (by decide))) (fun _ => ?_)
                refine lv_iinc (v := (nI (kk_37 + 1))) (lv' := [(2, .int (nI (kk_37 + 1))), (0, .ref rm), (3, .int (nI tt_38))]) hx hb eX5_leavesAny_98 hl (k := 1) rfl (nI_1 _) (by decide) rfl (fun ls hl => ?_)
                refine lv_iinc (v := (nI (tt_38 + 1))) (lv' := [(3, .int (nI (tt_38 + 1))), (2, .int (nI (kk_37 + 1))), (0, .ref rm)]) hx hb eX5_leavesAny_101 hl (k := 2) rfl (nI_1 _) (by decide) rfl (fun ls hl => ?_)
                refine lv_goto (tgt := 47) hx hb eX5_leavesAny_104 (by decide) ?_
                exact ih_43 (100000000 - (tt_38 + 1)) (by omega) _ _ _ ⟨((kk_37 + 1) + 1), (tt_38 + 1), z_fct_52, z_fce_53, z_qs_55, z_fz_54, rfl, by omega, by first | assumption | exact ct_le (by assumption) (by omega), hP, hD, hS, (by rw [nI_pred]; exact lv_sub hl [2, 1, 0] rfl)⟩
            · have c_57 : u_56 = 0 := (nI_eq (a := u_56) (b := 0) (Nat.lt_of_le_of_lt hu_56 (Nat.le_of_ble_eq_true rfl)) (Nat.le_of_ble_eq_true rfl)).mp c_57
              refine lv_iinc (v := (nI kk_37 - 1)) (lv' := [(2, .int (nI kk_37 - 1)), (0, .ref rm), (3, .int (nI tt_38))]) hx hb eX5_leavesAny_80 hl (k := 1) rfl (pu_decm _) (by decide) rfl (fun ls hl => ?_)
              refine lv_goto (tgt := 101) hx hb eX5_leavesAny_83 (by decide) ?_
              refine lv_iinc (v := (nI (tt_38 + 1))) (lv' := [(3, .int (nI (tt_38 + 1))), (2, .int (nI kk_37 - 1)), (0, .ref rm)]) hx hb eX5_leavesAny_101 hl (k := 2) rfl (nI_1 _) (by decide) rfl (fun ls hl => ?_)
              refine lv_goto (tgt := 47) hx hb eX5_leavesAny_104 (by decide) ?_
              exact ih_43 (100000000 - (tt_38 + 1)) (by omega) _ _ _ ⟨kk_37, (tt_38 + 1), z_fct_52, z_fce_53, z_qs_55, z_fz_54, rfl, by omega, by first | assumption | exact ct_le (by assumption) (by omega), hP, hD, hS, lv_sub hl [2, 1, 0] rfl⟩
          · have c_50 : vv_45 = rk := (nI_eq (a := vv_45) (b := rk) (by omega) (Nat.lt_of_le_of_lt hrk (Nat.le_of_ble_eq_true rfl))).mp c_50
            refine lv_iconst (v := 1) hx hb eX5_leavesAny_70 (by decide) ?_
            exact W.zret (v := 1) (ty := .boolean) hx hb hr (rfl) (fun t ht hW => ⟨⟨1, (), rfl, ⟨1, (Nat.le_of_ble_eq_true rfl), rfl⟩, ⟨fct_39, qce_40, fz_42, qs_41, ⟨by rw [ht]; exact hP, va_K.moved hW.alike hK, hD⟩⟩⟩, hS.F ht⟩) hS.2.2 eX5_leavesAny_71
