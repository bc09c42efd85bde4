theorem eX5_meet_0 : decode cX5_meet 0 = .ok (.aload_n 0, 1) := by decide +kernel
theorem eX5_meet_1 : decode cX5_meet 1 = .ok (.getfield 33, 3) := by decide +kernel
theorem eX5_meet_4 : decode cX5_meet 4 = .ok (.aload_n 1, 1) := by decide +kernel
theorem eX5_meet_5 : decode cX5_meet 5 = .ok (.invokevirtual 60, 3) := by decide +kernel
theorem eX5_meet_8 : decode cX5_meet 8 = .ok (.iconst 0, 1) := by decide +kernel
theorem eX5_meet_9 : decode cX5_meet 9 = .ok (.istore_n 3, 1) := by decide +kernel
theorem eX5_meet_10 : decode cX5_meet 10 = .ok (.iload_n 3, 1) := by decide +kernel
theorem eX5_meet_11 : decode cX5_meet 11 = .ok (.aload_n 2, 1) := by decide +kernel
theorem eX5_meet_12 : decode cX5_meet 12 = .ok (.getfield 78, 3) := by decide +kernel
theorem eX5_meet_15 : decode cX5_meet 15 = .ok (.if_icmp .ge 49, 3) := by decide +kernel
theorem eX5_meet_18 : decode cX5_meet 18 = .ok (.iconst 0, 1) := by decide +kernel
theorem eX5_meet_19 : decode cX5_meet 19 = .ok (.istore 4, 2) := by decide +kernel
theorem eX5_meet_21 : decode cX5_meet 21 = .ok (.iload 4, 2) := by decide +kernel
theorem eX5_meet_23 : decode cX5_meet 23 = .ok (.aload_n 2, 1) := by decide +kernel
theorem eX5_meet_24 : decode cX5_meet 24 = .ok (.getfield 78, 3) := by decide +kernel
theorem eX5_meet_27 : decode cX5_meet 27 = .ok (.if_icmp .ge 31, 3) := by decide +kernel
theorem eX5_meet_30 : decode cX5_meet 30 = .ok (.aload_n 0, 1) := by decide +kernel
theorem eX5_meet_31 : decode cX5_meet 31 = .ok (.getfield 33, 3) := by decide +kernel
theorem eX5_meet_34 : decode cX5_meet 34 = .ok (.iload_n 3, 1) := by decide +kernel
theorem eX5_meet_35 : decode cX5_meet 35 = .ok (.iload 4, 2) := by decide +kernel
theorem eX5_meet_37 : decode cX5_meet 37 = .ok (.aload_n 2, 1) := by decide +kernel
theorem eX5_meet_38 : decode cX5_meet 38 = .ok (.iload_n 3, 1) := by decide +kernel
theorem eX5_meet_39 : decode cX5_meet 39 = .ok (.iload 4, 2) := by decide +kernel
theorem eX5_meet_41 : decode cX5_meet 41 = .ok (.invokevirtual 81, 3) := by decide +kernel
theorem eX5_meet_44 : decode cX5_meet 44 = .ok (.invokevirtual 85, 3) := by decide +kernel
theorem eX5_meet_47 : decode cX5_meet 47 = .ok (.ifCond .ne 5, 3) := by decide +kernel
theorem eX5_meet_50 : decode cX5_meet 50 = .ok (.iconst 0, 1) := by decide +kernel
theorem eX5_meet_51 : decode cX5_meet 51 = .ok (.ireturn, 1) := by decide +kernel
theorem eX5_meet_52 : decode cX5_meet 52 = .ok (.iinc 4 1, 3) := by decide +kernel
theorem eX5_meet_55 : decode cX5_meet 55 = .ok (.goto (-34), 3) := by decide +kernel
theorem eX5_meet_58 : decode cX5_meet 58 = .ok (.iinc 3 1, 3) := by decide +kernel
theorem eX5_meet_61 : decode cX5_meet 61 = .ok (.goto (-51), 3) := by decide +kernel
theorem eX5_meet_64 : decode cX5_meet 64 = .ok (.iconst 1, 1) := by decide +kernel
theorem eX5_meet_65 : decode cX5_meet 65 = .ok (.ireturn, 1) := by decide +kernel
abbrev vs_C_5_meet : List Cond := .code yX5_meet cX5_meet 5 (some .boolean) :: CM
theorem g_C_5_meet_E_7_copyOf_16 : GoodIn vs_C_5_meet (wsV RX5 60 RX7 yX7_copyOf vs_E_7_copyOf_16) := cm_gV cm_333 cm_130 cm_131 cm_45 cm_132
theorem g_C_5_meet_E_7_cellOf_16 : GoodIn vs_C_5_meet (wsV RX5 81 RX7 yX7_cellOf vs_E_7_cellOf_16) := cm_gV cm_344 cm_157 cm_158 cm_45 cm_159
theorem g_C_5_meet_E_7_narrow_16 : GoodIn vs_C_5_meet (wsV RX5 85 RX7 yX7_narrow vs_E_7_narrow_16) := cm_gV cm_345 cm_43 cm_44 cm_45 cm_46
set_option maxHeartbeats 4000000 in
set_option maxRecDepth 100000 in
theorem c_C_5_meet (l : Launch) (dC : Nat → ClassId) (dI : Nat → Nat → Nat) (sz : Nat) (rm : Nat) (rcv : Nat) (rk : Nat) (rmd : Nat) (ru : Nat) (rpc : Nat) (rct : Nat) (rce : Nat) (k_fcv : ClassId) (fcv : Nat → Option Nat) (k_fmd : ClassId) (k_fpc : ClassId) (k_fct : ClassId) (fct : Nat → Int32) (k_fce : ClassId) (q_fce : Nat → Nat) (N : Nat) (az ac : Nat → Nat) (kz : Nat → ClassId) (qs : Nat → Nat) (fz : Nat → Nat → Int32) (k1 : Nat) (k2 : Nat) (hrk : rk ≤ 120) (hru : ru ≤ 28) (hN : 393 ≤ N) (hk1 : k1 < N) (hk2 : k2 < N) (hq0 : k1 ≤ 391) (hq1 : k2 ≤ 391) : Met l yX5_meet vs_C_5_meet ({ frames := 1, cells := 0, slots := 0, locals := 29 }) (va_Pc [.ref rm, .ref (az k1), .ref (az k2)] (pu_B (dC, dI) ((rm__w rm rcv (nI rk) rmd (nI ru) rpc rct rce (az 392) k_fcv fcv k_fmd (zs 242 28 az) k_fpc (zs 270 122 az) k_fct fct k_fce (bN 16 q_fce)) ++ zp 4 16 N az ac kz qs fz) ((rm__t k_fcv k_fmd k_fpc k_fct k_fce) ++ zt N kz) sz)) (va_Qi (fun (r : Int32) (_ : Unit) => ∃ v : Nat, v ≤ 1 ∧ r = nI v) (fun _ t => ∃ (z_fz : Nat → Nat → Int32) (z_qs : Nat → Nat), pu_E (dC, dI) ((rm__w rm rcv (nI rk) rmd (nI ru) rpc rct rce (az 392) k_fcv fcv k_fmd (zs 242 28 az) k_fpc (zs 270 122 az) k_fct fct k_fce (bN 16 q_fce)) ++ zp 4 16 N az ac kz z_qs z_fz) ((rm__t k_fcv k_fmd k_fpc k_fct k_fce) ++ zt N kz) (va_A (((rm__w rm rcv (nI rk) rmd (nI ru) rpc rct rce (az 392) k_fcv fcv k_fmd (zs 242 28 az) k_fpc (zs 270 122 az) k_fct fct k_fce (bN 16 q_fce)) ++ zp 4 16 N az ac kz qs fz)) sz) t) (va_A (((rm__w rm rcv (nI rk) rmd (nI ru) rpc rct rce (az 392) k_fcv fcv k_fmd (zs 242 28 az) k_fpc (zs 270 122 az) k_fct fct k_fce (bN 16 q_fce)) ++ zp 4 16 N az ac kz qs fz)) sz)) 0 0 (va_A (((rm__w rm rcv (nI rk) rmd (nI ru) rpc rct rce (az 392) k_fcv fcv k_fmd (zs 242 28 az) k_fpc (zs 270 122 az) k_fct fct k_fce (bN 16 q_fce)) ++ zp 4 16 N az ac kz qs fz)) sz) := by
  refine Met.ofW (cc := cX5_meet) (maxL := 5) (ret := (some .boolean)) (by decide) rfl ?_
  intro p e s m args below meth c s₁ B hml hv
  obtain ⟨rfl, rfl, hP, hK, hD0⟩ := hv
  have hx := B.exec
  have hb := B.bytes
  have hr := B.returns
  have hts := atoms_spec (ws := vs_C_5_meet) B.pre
  have v_1 := hts (.fieldLink RX5 33 "ClockReach$Remainder" "scratch" "LClockReach$Zone;") (List.mem_cons_of_mem _ cm_342)
  have v_7 := hts (.fieldLink RX5 78 "ClockReach$Zone" "size" "I") (List.mem_cons_of_mem _ cm_343)
  have hown : s.vm.findClass RX5 = some m.cls := findClass_of_methodNamed B.named
  have hlocks := B.notSynchronized
  have hiX5 : ∀ w ∈ wsX50, w ∈ vs_C_5_meet := fun _ h => List.mem_cons_of_mem _ (cm_X5 h)
  have hiX7 : ∀ w ∈ wsX70, w ∈ vs_C_5_meet := fun _ h => List.mem_cons_of_mem _ (cm_X7 h)
  have hD := hD0.self (sz := s.heap.size)
  generalize hAe : va_A (((rm__w rm rcv (nI rk) rmd (nI ru) rpc rct rce (az 392) k_fcv fcv k_fmd (zs 242 28 az) k_fpc (zs 270 122 az) k_fct fct k_fce (bN 16 q_fce)) ++ zp 4 16 N az ac kz qs fz)) s.heap.size = A at hD ⊢
  have hA : ∀ q : Nat, s.heap.size ≤ q → A q := fun q h => by rw [← hAe]; exact Or.inr h
  have hS : va_S A s.heap s.heap [] := va_S.rf
  have hl := lv_entry ([.ref rm, .ref (az k1), .ref (az k2)]) (n := 5) (Nat.le_of_ble_eq_true rfl)
  rw [lg_entry_eq]
  generalize (lg_sl ([.ref rm, .ref (az k1), .ref (az k2)]) ++ List.replicate (5 - (lg_sl ([.ref rm, .ref (az k1), .ref (az k2)])).length) Slot.unset).toArray = ls at hl ⊢
  have hl : lv_has ls 5 [(0, .ref rm), (1, .ref (az k1)), (2, .ref (az k2))] := hl
  refine lv_aload_n hx hb eX5_meet_0 rfl (lv_at hl 0 rfl) ?_
  refine va_get (D := (dC, dI)) (ci := 5) (v := .ref (az 392)) (C := RX5) (T := TX5) (N := 8) hx hb hts hiX5 hown hK hP 0 rfl rfl 7 (by decide) v_1 (fun _ h9 => h9) rfl eX5_meet_1 ?_
  refine lv_aload_n hx hb eX5_meet_4 rfl (lv_at hl 1 rfl) ?_
  have hPz := zp_cut (k := 392) hP (by omega)
  have hPy := zp_cut (k := k1) hP (by omega)
  have hPc : va_P (dC, dI) vwCl ([(az k1, .inr (7, [.ref (ac k1), .int (nI (min (qs k1) 4))])), (ac k1, .inl (kz k1, 16, .inl (fz k1)))] ++ [(az 392, .inr (7, [.ref (ac 392), .int (nI (min (qs 392) 4))])), (ac 392, .inl (kz 392, 16, .inl (fz 392)))]) _ := va_P.app hPy hPz
  have hDc : va_D A ([(az k1, .inr (7, [.ref (ac k1), .int (nI (min (qs k1) 4))])), (ac k1, .inl (kz k1, 16, .inl (fz k1)))] ++ [(az 392, .inr (7, [.ref (ac 392), .int (nI (min (qs 392) 4))])), (ac 392, .inl (kz 392, 16, .inl (fz 392)))]) := zp_cutD2 hD (by omega) (by omega) (by omega)
  have hKc : va_K (dC, dI) vwCl [(kz k1, .int), (kz 392, .int)] s := zp_K2 hK (by omega) (by omega)
  have hFc := pu_free hDc hS hA
  refine va_callv (va_runV (As := [.ref (az k1)]) (rest := []) ⟨hx, hb, hml, hown, hts⟩ (c_E_7_copyOf_16 l dC dI _ (az k1) (ac k1) (min (qs k1) 4) (kz k1) (fz k1) (az 392) (ac 392) (min (qs 392) 4) (kz 392) (fz 392) (Nat.min_le_right _ _) (Nat.min_le_right _ _)) (cwV 1 hts g_C_5_meet_E_7_copyOf_16 rfl rfl rfl (by decide +kernel) ⟨Nat.le_of_ble_eq_true rfl, Nat.le_of_ble_eq_true rfl⟩) ⟨pu_bl, va_recv hK hPz (ci := 7) (q0 := 0) rfl rfl, pu_in hPc hKc hDc⟩ rfl rfl hl.1 rfl (lv_room (Nat.le_of_ble_eq_true rfl)) eX5_meet_5 ⟨Nat.le_of_ble_eq_true rfl, Nat.le_of_ble_eq_true rfl⟩) hS (fun q _ h => hFc q h) hFc (fun u t H1 locs ht hvm hw hB hz1 hk1 hS => ?_)
  obtain ⟨z_fz_2, ⟨hP1, -, hD1⟩, xr_1_0⟩ := hB
  rw [ht] at hP1
  obtain ⟨qs_3, fz_4, hP, hD⟩ := zp_put (wr := [(az k1, .inr (7, [.ref (ac k1), .int (nI (min (qs k1) 4))])), (ac k1, .inl (kz k1, 16, .inl (fz k1)))]) (k := 392) hP hD (by omega) (zp_two (by omega)) hk1 (Nat.min_le_right _ _) hP1
  clear hP1 hD1 hFc
  clear hPc hDc hKc
  clear hk1 hz1 ht hvm
  generalize H1 = H at hP hS ⊢
  refine lv_iconst (v := 0) hx hb eX5_meet_8 (by decide) ?_
  refine lv_istore_n (lv' := [(3, .int 0), (0, .ref rm), (1, .ref (az k1)), (2, .ref (az k2))]) hx hb eX5_meet_9 rfl hl (by decide) rfl (fun ls hl => ?_)
  refine pu_while (fun nn H locs ls => ∃ (g_8 : Nat) (g_9 : Nat → Nat → Int32) (g_10 : Nat → Nat), nn = 4 - g_8 ∧ g_8 ≤ 4 ∧ va_P (dC, dI) vwCl ((rm__w rm rcv (nI rk) rmd (nI ru) rpc rct rce (az 392) k_fcv fcv k_fmd (zs 242 28 az) k_fpc (zs 270 122 az) k_fct fct k_fce (bN 16 q_fce)) ++ zp 4 16 N az ac kz g_10 g_9) H ∧ va_D A ((rm__w rm rcv (nI rk) rmd (nI ru) rpc rct rce (az 392) k_fcv fcv k_fmd (zs 242 28 az) k_fpc (zs 270 122 az) k_fct fct k_fce (bN 16 q_fce)) ++ zp 4 16 N az ac kz g_10 g_9) ∧ va_S A s.heap H locs ∧ lv_has ls 5 [(0, .ref rm), (1, .ref (az k1)), (2, .ref (az k2)), (3, .int (nI g_8))]) 10 ?_ _ _ _ _ ⟨0, fz_4, qs_3, rfl, (Nat.le_of_ble_eq_true rfl), hP, hD, hS, lv_sub hl [1, 2, 3, 0] rfl⟩
  rintro nn ih_11 H locs ls ⟨g_8, g_9, g_10, rfl, hg_8, hP, hD, hS, hl⟩
  refine lv_iload_n hx hb eX5_meet_10 rfl (lv_at hl 3 rfl) ?_
  refine lv_aload_n hx hb eX5_meet_11 rfl (lv_at hl 2 rfl) ?_
  have hPz := zp_cut (k := k2) hP (by omega)
  refine va_get (D := (dC, dI)) (ci := 7) (v := .int (nI (min (g_10 k2) 4))) (C := RX7) (T := TX7) (N := 2) hx hb hts hiX7 hown hK hPz 0 rfl rfl 1 (by decide) v_7 (fun _ h9 => h9) rfl eX5_meet_12 ?_
  clear hPz
  obtain ⟨zn_13, hzn_13, ezn_13⟩ : ∃ q : Nat, q ≤ 4 ∧ nI (min (g_10 k2) 4) = nI q := ⟨_, Nat.min_le_right _ _, rfl⟩
  have hqzn_13 := zz4 hzn_13
  refine lv_topi (fun y_12 ey_12 => ?_)
  obtain rfl : y_12 = nI zn_13 := ey_12.trans ezn_13
  refine lv_icmp_ge (tgt := 64) hx hb eX5_meet_15 (by decide) (fun c_14 => ?_) (fun c_14 => ?_)
  · have c_14 : zn_13 ≤ g_8 := (nI_leI (a := zn_13) (b := g_8) (Nat.lt_of_le_of_lt hzn_13 (Nat.le_of_ble_eq_true rfl)) (Nat.lt_of_le_of_lt hg_8 (Nat.le_of_ble_eq_true rfl))).mp c_14
    refine lv_iconst (v := 1) hx hb eX5_meet_64 (by decide) ?_
    exact W.zret (v := 1) (ty := .boolean) hx hb hr (rfl) (fun t ht hW => ⟨⟨1, (), rfl, ⟨1, (Nat.le_of_ble_eq_true rfl), rfl⟩, ⟨g_9, g_10, ⟨by rw [ht]; exact hP, va_K.moved hW.alike hK, hD⟩⟩⟩, hS.F ht⟩) hS.2.2 eX5_meet_65
  · have c_14 : ¬ zn_13 ≤ g_8 := fun z => c_14 ((nI_leI (a := zn_13) (b := g_8) (Nat.lt_of_le_of_lt hzn_13 (Nat.le_of_ble_eq_true rfl)) (Nat.lt_of_le_of_lt hg_8 (Nat.le_of_ble_eq_true rfl))).mpr z)
    refine lv_iconst (v := 0) hx hb eX5_meet_18 (by decide) ?_
    refine lv_istore (lv' := [(4, .int 0), (0, .ref rm), (1, .ref (az k1)), (2, .ref (az k2)), (3, .int (nI g_8))]) hx hb eX5_meet_19 hl (by decide) rfl (fun ls hl => ?_)
    refine pu_while (fun nn H locs ls => ∃ (g_18 : Nat) (g_19 : Nat → Nat → Int32) (g_20 : Nat → Nat), nn = 4 - g_18 ∧ g_18 ≤ 4 ∧ va_P (dC, dI) vwCl ((rm__w rm rcv (nI rk) rmd (nI ru) rpc rct rce (az 392) k_fcv fcv k_fmd (zs 242 28 az) k_fpc (zs 270 122 az) k_fct fct k_fce (bN 16 q_fce)) ++ zp 4 16 N az ac kz g_20 g_19) H ∧ va_D A ((rm__w rm rcv (nI rk) rmd (nI ru) rpc rct rce (az 392) k_fcv fcv k_fmd (zs 242 28 az) k_fpc (zs 270 122 az) k_fct fct k_fce (bN 16 q_fce)) ++ zp 4 16 N az ac kz g_20 g_19) ∧ va_S A s.heap H locs ∧ lv_has ls 5 [(0, .ref rm), (1, .ref (az k1)), (2, .ref (az k2)), (3, .int (nI g_8)), (4, .int (nI g_18))]) 21 ?_ _ _ _ _ ⟨0, g_9, g_10, rfl, (Nat.le_of_ble_eq_true rfl), hP, hD, hS, lv_sub hl [1, 2, 3, 4, 0] rfl⟩
    rintro nn ih_21 H locs ls ⟨g_18, g_19, g_20, rfl, hg_18, hP, hD, hS, hl⟩
    refine lv_iload hx hb eX5_meet_21 (lv_at hl 4 rfl) ?_
    refine lv_aload_n hx hb eX5_meet_23 rfl (lv_at hl 2 rfl) ?_
    have hPz := zp_cut (k := k2) hP (by omega)
    refine va_get (D := (dC, dI)) (ci := 7) (v := .int (nI (min (g_20 k2) 4))) (C := RX7) (T := TX7) (N := 2) hx hb hts hiX7 hown hK hPz 0 rfl rfl 1 (by decide) v_7 (fun _ h9 => h9) rfl eX5_meet_24 ?_
    clear hPz
    obtain ⟨zn_23, hzn_23, ezn_23⟩ : ∃ q : Nat, q ≤ 4 ∧ nI (min (g_20 k2) 4) = nI q := ⟨_, Nat.min_le_right _ _, rfl⟩
    have hqzn_23 := zz4 hzn_23
    refine lv_topi (fun y_22 ey_22 => ?_)
    obtain rfl : y_22 = nI zn_23 := ey_22.trans ezn_23
    refine lv_icmp_ge (tgt := 58) hx hb eX5_meet_27 (by decide) (fun c_24 => ?_) (fun c_24 => ?_)
    · have c_24 : zn_23 ≤ g_18 := (nI_leI (a := zn_23) (b := g_18) (Nat.lt_of_le_of_lt hzn_23 (Nat.le_of_ble_eq_true rfl)) (Nat.lt_of_le_of_lt hg_18 (Nat.le_of_ble_eq_true rfl))).mp c_24
      refine lv_iinc (v := (nI (g_8 + 1))) (lv' := [(3, .int (nI (g_8 + 1))), (0, .ref rm), (1, .ref (az k1)), (2, .ref (az k2)), (4, .int (nI g_18))]) hx hb eX5_meet_58 hl (k := 3) rfl (nI_1 _) (by decide) rfl (fun ls hl => ?_)
      refine lv_goto (tgt := 10) hx hb eX5_meet_61 (by decide) ?_
      exact ih_11 (4 - (g_8 + 1)) (by omega) _ _ _ ⟨(g_8 + 1), g_19, g_20, rfl, (by omega), hP, hD, hS, lv_sub hl [1, 2, 3, 0] rfl⟩
    · have c_24 : ¬ zn_23 ≤ g_18 := fun z => c_24 ((nI_leI (a := zn_23) (b := g_18) (Nat.lt_of_le_of_lt hzn_23 (Nat.le_of_ble_eq_true rfl)) (Nat.lt_of_le_of_lt hg_18 (Nat.le_of_ble_eq_true rfl))).mpr z)
      refine lv_aload_n hx hb eX5_meet_30 rfl (lv_at hl 0 rfl) ?_
      refine va_get (D := (dC, dI)) (ci := 5) (v := .ref (az 392)) (C := RX5) (T := TX5) (N := 8) hx hb hts hiX5 hown hK hP 0 rfl rfl 7 (by decide) v_1 (fun _ h9 => h9) rfl eX5_meet_31 ?_
      refine lv_iload_n hx hb eX5_meet_34 rfl (lv_at hl 3 rfl) ?_
      refine lv_iload hx hb eX5_meet_35 (lv_at hl 4 rfl) ?_
      refine lv_aload_n hx hb eX5_meet_37 rfl (lv_at hl 2 rfl) ?_
      refine lv_iload_n hx hb eX5_meet_38 rfl (lv_at hl 3 rfl) ?_
      refine lv_iload hx hb eX5_meet_39 (lv_at hl 4 rfl) ?_
      have hPz := zp_cut (k := k2) hP (by omega)
      have hPc : va_P (dC, dI) vwCl ([] ++ [(az k2, .inr (7, [.ref (ac k2), .int (nI (min (g_20 k2) 4))])), (ac k2, .inl (kz k2, 16, .inl (g_19 k2)))]) _ := va_P.app (hP.sub [] rfl) hPz
      have hDc : va_D A ([] ++ [(az k2, .inr (7, [.ref (ac k2), .int (nI (min (g_20 k2) 4))])), (ac k2, .inl (kz k2, 16, .inl (g_19 k2)))]) := zp_cutD hD (by omega) [] (by decide) rfl
      have hKc : va_K (dC, dI) vwCl ([] ++ [(kz k2, .int)]) s := zp_K hK (by omega) [] rfl
      refine va_calli (va_runV (As := [.int (nI g_8), .int (nI g_18)]) (rest := [.int (nI g_18), .int (nI g_8), .ref (az 392)]) ⟨hx, hb, hml, hown, hts⟩ (c_E_7_cellOf_16 l dC dI _ (az k2) (ac k2) (min (g_20 k2) 4) (kz k2) (g_19 k2) g_8 g_18 (Nat.min_le_right _ _) (by omega) (by omega)) (cwV 2 hts g_C_5_meet_E_7_cellOf_16 rfl rfl rfl (by decide +kernel) ⟨Nat.le_of_ble_eq_true rfl, Nat.le_of_ble_eq_true rfl⟩) ⟨pu_bl, va_recv hK hPz (ci := 7) (q0 := 0) rfl rfl, pu_in hPc hKc hDc⟩ rfl rfl hl.1 rfl (lv_room (Nat.le_of_ble_eq_true rfl)) eX5_meet_41 ⟨Nat.le_of_ble_eq_true rfl, Nat.le_of_ble_eq_true rfl⟩) hS (fun q _ h => pu_fr hS hA q h) (pu_fr hS hA) (fun r_25 u t H1 locs ht hvm hw hB hz1 hk1 hS => ?_)
      have hP := pu_keep hP hk1
      clear hPc hDc hKc
      clear hk1 hz1 ht hvm
      generalize H1 = H at hP hS ⊢
      have ir_25 := hw
      have hPz := zp_cut (k := 392) hP (by omega)
      have hPc : va_P (dC, dI) vwCl ([] ++ [(az 392, .inr (7, [.ref (ac 392), .int (nI (min (g_20 392) 4))])), (ac 392, .inl (kz 392, 16, .inl (g_19 392)))]) _ := va_P.app (hP.sub [] rfl) hPz
      have hDc : va_D A ([] ++ [(az 392, .inr (7, [.ref (ac 392), .int (nI (min (g_20 392) 4))])), (ac 392, .inl (kz 392, 16, .inl (g_19 392)))]) := zp_cutD hD (by omega) [] (by decide) rfl
      have hKc : va_K (dC, dI) vwCl ([] ++ [(kz 392, .int)]) s := zp_K hK (by omega) [] rfl
      have hFc := pu_free hDc hS hA
      refine va_calli (va_runV (As := [.int (nI g_8), .int (nI g_18), .int r_25]) (rest := []) ⟨hx, hb, hml, hown, hts⟩ (c_E_7_narrow_16 l dC dI _ (az 392) (ac 392) (min (g_20 392) 4) (kz 392) (g_19 392) g_8 g_18 r_25 (Nat.min_le_right _ _) (by omega) (by omega)) (cwV 3 hts g_C_5_meet_E_7_narrow_16 rfl rfl rfl (by decide +kernel) ⟨Nat.le_of_ble_eq_true rfl, Nat.le_of_ble_eq_true rfl⟩) ⟨pu_bl, va_recv hK hPz (ci := 7) (q0 := 0) rfl rfl, pu_in hPc hKc hDc⟩ rfl rfl hl.1 rfl (lv_room (Nat.le_of_ble_eq_true rfl)) eX5_meet_44 ⟨Nat.le_of_ble_eq_true rfl, Nat.le_of_ble_eq_true rfl⟩) hS (fun q _ h => hFc q h) hFc (fun r_26 u t H1 locs ht hvm hw hB hz1 hk1 hS => ?_)
      obtain ⟨z_fz_27, ⟨hP1, -, hD1⟩, xr_26_0⟩ := hB
      rw [ht] at hP1
      obtain ⟨qs_28, fz_29, hP, hD⟩ := zp_put (wr := []) (k := 392) hP hD (by omega) (fun q h => List.mem_append_left _ (pu_subm [] rfl q h)) hk1 (Nat.min_le_right _ _) hP1
      clear hP1 hD1 hFc
      clear hPc hDc hKc
      clear hk1 hz1 ht hvm
      generalize H1 = H at hP hS ⊢
      obtain ⟨u_30, hu_30, rfl, iu_30⟩ := hw
      have iu_30 : (u_30, z_fz_27) = (sp_E_7_narrow_16 (min (g_20 392) 4) (g_19 392) g_8 g_18 r_25) := Prod.ext iu_30 xr_26_0
      refine lv_if_ne (tgt := 52) hx hb eX5_meet_47 (by decide) (fun c_31 => ?_) (fun c_31 => ?_)
      · have c_31 : ¬ u_30 = 0 := fun z => c_31 ((nI_eq (a := u_30) (b := 0) (Nat.lt_of_le_of_lt hu_30 (Nat.le_of_ble_eq_true rfl)) (Nat.le_of_ble_eq_true rfl)).mpr z)
        refine lv_iinc (v := (nI (g_18 + 1))) (lv' := [(4, .int (nI (g_18 + 1))), (0, .ref rm), (1, .ref (az k1)), (2, .ref (az k2)), (3, .int (nI g_8))]) hx hb eX5_meet_52 hl (k := 4) rfl (nI_1 _) (by decide) rfl (fun ls hl => ?_)
        refine lv_goto (tgt := 21) hx hb eX5_meet_55 (by decide) ?_
        exact ih_21 (4 - (g_18 + 1)) (by omega) _ _ _ ⟨(g_18 + 1), fz_29, qs_28, rfl, (by omega), hP, hD, hS, lv_sub hl [1, 2, 3, 4, 0] rfl⟩
      · have c_31 : u_30 = 0 := (nI_eq (a := u_30) (b := 0) (Nat.lt_of_le_of_lt hu_30 (Nat.le_of_ble_eq_true rfl)) (Nat.le_of_ble_eq_true rfl)).mp c_31
        refine lv_iconst (v := 0) hx hb eX5_meet_50 (by decide) ?_
        exact W.zret (v := 0) (ty := .boolean) hx hb hr (rfl) (fun t ht hW => ⟨⟨0, (), rfl, ⟨0, (Nat.le_of_ble_eq_true rfl), rfl⟩, ⟨fz_29, qs_28, ⟨by rw [ht]; exact hP, va_K.moved hW.alike hK, hD⟩⟩⟩, hS.F ht⟩) hS.2.2 eX5_meet_51
