theorem eX5_nextCover_0 : decode cX5_nextCover 0 = .ok (.iload_n 2, 1) := by decide +kernel
theorem eX5_nextCover_1 : decode cX5_nextCover 1 = .ok (.istore_n 3, 1) := by decide +kernel
theorem eX5_nextCover_2 : decode cX5_nextCover 2 = .ok (.iload_n 3, 1) := by decide +kernel
theorem eX5_nextCover_3 : decode cX5_nextCover 3 = .ok (.aload_n 0, 1) := by decide +kernel
theorem eX5_nextCover_4 : decode cX5_nextCover 4 = .ok (.getfield 37, 3) := by decide +kernel
theorem eX5_nextCover_7 : decode cX5_nextCover 7 = .ok (.if_icmp .ge 24, 3) := by decide +kernel
theorem eX5_nextCover_10 : decode cX5_nextCover 10 = .ok (.aload_n 0, 1) := by decide +kernel
theorem eX5_nextCover_11 : decode cX5_nextCover 11 = .ok (.getfield 11, 3) := by decide +kernel
theorem eX5_nextCover_14 : decode cX5_nextCover 14 = .ok (.iload_n 3, 1) := by decide +kernel
theorem eX5_nextCover_15 : decode cX5_nextCover 15 = .ok (.aaload, 1) := by decide +kernel
theorem eX5_nextCover_16 : decode cX5_nextCover 16 = .ok (.aload_n 1, 1) := by decide +kernel
theorem eX5_nextCover_17 : decode cX5_nextCover 17 = .ok (.invokevirtual 98, 3) := by decide +kernel
theorem eX5_nextCover_20 : decode cX5_nextCover 20 = .ok (.ifCond .eq 5, 3) := by decide +kernel
theorem eX5_nextCover_23 : decode cX5_nextCover 23 = .ok (.iconst (-1), 1) := by decide +kernel
theorem eX5_nextCover_24 : decode cX5_nextCover 24 = .ok (.ireturn, 1) := by decide +kernel
theorem eX5_nextCover_25 : decode cX5_nextCover 25 = .ok (.iinc 3 1, 3) := by decide +kernel
theorem eX5_nextCover_28 : decode cX5_nextCover 28 = .ok (.goto (-26), 3) := by decide +kernel
theorem eX5_nextCover_31 : decode cX5_nextCover 31 = .ok (.iload_n 2, 1) := by decide +kernel
theorem eX5_nextCover_32 : decode cX5_nextCover 32 = .ok (.istore_n 3, 1) := by decide +kernel
theorem eX5_nextCover_33 : decode cX5_nextCover 33 = .ok (.iload_n 3, 1) := by decide +kernel
theorem eX5_nextCover_34 : decode cX5_nextCover 34 = .ok (.aload_n 0, 1) := by decide +kernel
theorem eX5_nextCover_35 : decode cX5_nextCover 35 = .ok (.getfield 37, 3) := by decide +kernel
theorem eX5_nextCover_38 : decode cX5_nextCover 38 = .ok (.if_icmp .ge 25, 3) := by decide +kernel
theorem eX5_nextCover_41 : decode cX5_nextCover 41 = .ok (.aload_n 0, 1) := by decide +kernel
theorem eX5_nextCover_42 : decode cX5_nextCover 42 = .ok (.aload_n 1, 1) := by decide +kernel
theorem eX5_nextCover_43 : decode cX5_nextCover 43 = .ok (.aload_n 0, 1) := by decide +kernel
theorem eX5_nextCover_44 : decode cX5_nextCover 44 = .ok (.getfield 11, 3) := by decide +kernel
theorem eX5_nextCover_47 : decode cX5_nextCover 47 = .ok (.iload_n 3, 1) := by decide +kernel
theorem eX5_nextCover_48 : decode cX5_nextCover 48 = .ok (.aaload, 1) := by decide +kernel
theorem eX5_nextCover_49 : decode cX5_nextCover 49 = .ok (.invokevirtual 102, 3) := by decide +kernel
theorem eX5_nextCover_52 : decode cX5_nextCover 52 = .ok (.ifCond .eq 5, 3) := by decide +kernel
theorem eX5_nextCover_55 : decode cX5_nextCover 55 = .ok (.iload_n 3, 1) := by decide +kernel
theorem eX5_nextCover_56 : decode cX5_nextCover 56 = .ok (.ireturn, 1) := by decide +kernel
theorem eX5_nextCover_57 : decode cX5_nextCover 57 = .ok (.iinc 3 1, 3) := by decide +kernel
theorem eX5_nextCover_60 : decode cX5_nextCover 60 = .ok (.goto (-27), 3) := by decide +kernel
theorem eX5_nextCover_63 : decode cX5_nextCover 63 = .ok (.aload_n 0, 1) := by decide +kernel
theorem eX5_nextCover_64 : decode cX5_nextCover 64 = .ok (.getfield 37, 3) := by decide +kernel
theorem eX5_nextCover_67 : decode cX5_nextCover 67 = .ok (.ireturn, 1) := by decide +kernel
abbrev vs_C_5_nextCover : List Cond := .code yX5_nextCover cX5_nextCover 4 (some .int) :: CM
theorem g_C_5_nextCover_C_5_meet : GoodIn vs_C_5_nextCover (wsV RX5 102 RX5 yX5_meet vs_C_5_meet) := cm_gV cm_356 cm_357 cm_358 cm_332 cm_341
theorem g_C_5_nextCover_E_7_holdsAll_s_16 : GoodIn vs_C_5_nextCover (wsV RX5 98 RX7 yX7_holdsAll vs_E_7_holdsAll_s_16) := cm_gV cm_355 cm_144 cm_145 cm_45 cm_146
theorem g_C_5_nextCover_E_7_holdsAll_16 : GoodIn vs_C_5_nextCover (wsV RX5 98 RX7 yX7_holdsAll vs_E_7_holdsAll_16) := cm_gV cm_355 cm_144 cm_145 cm_45 cm_146
set_option maxHeartbeats 4000000 in
set_option maxRecDepth 100000 in
theorem c_C_5_nextCover (l : Launch) (dC : Nat → ClassId) (dI : Nat → Nat → Nat) (sz : Nat) (rm : Nat) (rcv : Nat) (rk : Nat) (rmd : Nat) (ru : Nat) (rpc : Nat) (rct : Nat) (rce : Nat) (k_fcv : ClassId) (fcv : Nat → Option Nat) (k_fmd : ClassId) (k_fpc : ClassId) (k_fct : ClassId) (fct : Nat → Int32) (k_fce : ClassId) (q_fce : Nat → Nat) (N : Nat) (az ac : Nat → Nat) (kz : Nat → ClassId) (qs : Nat → Nat) (fz : Nat → Nat → Int32) (kk : Nat) (a1 : Nat) (hrk : rk ≤ 120) (hru : ru ≤ 28) (hN : 393 ≤ N) (hkk : kk < N) (ha1 : a1 ≤ 120) (hq0 : cv_ok rk fcv az) (hq1 : kk ≤ 391) (hq2 : a1 ≤ rk) : Met l yX5_nextCover vs_C_5_nextCover ({ frames := 2, cells := 0, slots := 0, locals := 53 }) (va_Pc [.ref rm, .ref (az kk), .int (nI a1)] (pu_B (dC, dI) ((rm__w rm rcv (nI rk) rmd (nI ru) rpc rct rce (az 392) k_fcv fcv k_fmd (zs 242 28 az) k_fpc (zs 270 122 az) k_fct fct k_fce (bN 16 q_fce)) ++ zp 4 16 N az ac kz qs fz) ((rm__t k_fcv k_fmd k_fpc k_fct k_fce) ++ zt N kz) sz)) (va_Qi (fun (r : Int32) (_ : Unit) => r = -1 ∨ ∃ v : Nat, a1 ≤ v ∧ v ≤ rk ∧ r = nI v) (fun _ t => ∃ (z_fz : Nat → Nat → Int32) (z_qs : Nat → Nat), pu_E (dC, dI) ((rm__w rm rcv (nI rk) rmd (nI ru) rpc rct rce (az 392) k_fcv fcv k_fmd (zs 242 28 az) k_fpc (zs 270 122 az) k_fct fct k_fce (bN 16 q_fce)) ++ zp 4 16 N az ac kz z_qs z_fz) ((rm__t k_fcv k_fmd k_fpc k_fct k_fce) ++ zt N kz) (va_A (((rm__w rm rcv (nI rk) rmd (nI ru) rpc rct rce (az 392) k_fcv fcv k_fmd (zs 242 28 az) k_fpc (zs 270 122 az) k_fct fct k_fce (bN 16 q_fce)) ++ zp 4 16 N az ac kz qs fz)) sz) t) (va_A (((rm__w rm rcv (nI rk) rmd (nI ru) rpc rct rce (az 392) k_fcv fcv k_fmd (zs 242 28 az) k_fpc (zs 270 122 az) k_fct fct k_fce (bN 16 q_fce)) ++ zp 4 16 N az ac kz qs fz)) sz)) 0 0 (va_A (((rm__w rm rcv (nI rk) rmd (nI ru) rpc rct rce (az 392) k_fcv fcv k_fmd (zs 242 28 az) k_fpc (zs 270 122 az) k_fct fct k_fce (bN 16 q_fce)) ++ zp 4 16 N az ac kz qs fz)) sz) := by
  refine Met.ofW (cc := cX5_nextCover) (maxL := 4) (ret := (some .int)) (by decide) rfl ?_
  intro p e s m args below meth c s₁ B hml hv
  obtain ⟨rfl, rfl, hP, hK, hD0⟩ := hv
  have hx := B.exec
  have hb := B.bytes
  have hr := B.returns
  have hts := atoms_spec (ws := vs_C_5_nextCover) B.pre
  have v_1 := hts (.fieldLink RX5 37 "ClockReach$Remainder" "count" "I") (List.mem_cons_of_mem _ cm_316)
  have v_2 := hts (.fieldLink RX5 11 "ClockReach$Remainder" "covers" "[LClockReach$Zone;") (List.mem_cons_of_mem _ cm_319)
  have hown : s.vm.findClass RX5 = some m.cls := findClass_of_methodNamed B.named
  have hlocks := B.notSynchronized
  have hiX5 : ∀ w ∈ wsX50, w ∈ vs_C_5_nextCover := fun _ h => List.mem_cons_of_mem _ (cm_X5 h)
  have hD := hD0.self (sz := s.heap.size)
  generalize hAe : va_A (((rm__w rm rcv (nI rk) rmd (nI ru) rpc rct rce (az 392) k_fcv fcv k_fmd (zs 242 28 az) k_fpc (zs 270 122 az) k_fct fct k_fce (bN 16 q_fce)) ++ zp 4 16 N az ac kz qs fz)) s.heap.size = A at hD ⊢
  have hA : ∀ q : Nat, s.heap.size ≤ q → A q := fun q h => by rw [← hAe]; exact Or.inr h
  have hS : va_S A s.heap s.heap [] := va_S.rf
  have hl := lv_entry ([.ref rm, .ref (az kk), .int (nI a1)]) (n := 4) (Nat.le_of_ble_eq_true rfl)
  rw [lg_entry_eq]
  generalize (lg_sl ([.ref rm, .ref (az kk), .int (nI a1)]) ++ List.replicate (4 - (lg_sl ([.ref rm, .ref (az kk), .int (nI a1)])).length) Slot.unset).toArray = ls at hl ⊢
  have hl : lv_has ls 4 [(0, .ref rm), (1, .ref (az kk)), (2, .int (nI a1))] := hl
  refine lv_iload_n hx hb eX5_nextCover_0 rfl (lv_at hl 2 rfl) ?_
  refine lv_istore_n (lv' := [(3, .int (nI a1)), (0, .ref rm), (1, .ref (az kk)), (2, .int (nI a1))]) hx hb eX5_nextCover_1 rfl hl (by decide) rfl (fun ls hl => ?_)
  refine pu_while (fun nn H locs ls => ∃ (g_3 : Nat), nn = 120 - g_3 ∧ g_3 ≤ 120 ∧ a1 ≤ g_3 ∧ va_P (dC, dI) vwCl ((rm__w rm rcv (nI rk) rmd (nI ru) rpc rct rce (az 392) k_fcv fcv k_fmd (zs 242 28 az) k_fpc (zs 270 122 az) k_fct fct k_fce (bN 16 q_fce)) ++ zp 4 16 N az ac kz qs fz) H ∧ va_D A ((rm__w rm rcv (nI rk) rmd (nI ru) rpc rct rce (az 392) k_fcv fcv k_fmd (zs 242 28 az) k_fpc (zs 270 122 az) k_fct fct k_fce (bN 16 q_fce)) ++ zp 4 16 N az ac kz qs fz) ∧ va_S A s.heap H locs ∧ lv_has ls 4 [(0, .ref rm), (1, .ref (az kk)), (2, .int (nI a1)), (3, .int (nI g_3))]) 2 ?_ _ _ _ _ ⟨a1, rfl, ha1, by omega, hP, hD, hS, lv_sub hl [1, 2, 3, 0] rfl⟩
  rintro nn ih_5 H locs ls ⟨g_3, rfl, hg_3, he_4, hP, hD, hS, hl⟩
  refine lv_iload_n hx hb eX5_nextCover_2 rfl (lv_at hl 3 rfl) ?_
  refine lv_aload_n hx hb eX5_nextCover_3 rfl (lv_at hl 0 rfl) ?_
  refine va_get (D := (dC, dI)) (ci := 5) (v := .int (nI rk)) (C := RX5) (T := TX5) (N := 8) hx hb hts hiX5 hown hK hP 0 rfl rfl 1 (by decide) v_1 (fun _ h9 => h9) rfl eX5_nextCover_4 ?_
  refine lv_icmp_ge (tgt := 31) hx hb eX5_nextCover_7 (by decide) (fun c_6 => ?_) (fun c_6 => ?_)
  · have c_6 : rk ≤ g_3 := (nI_leI (a := rk) (b := g_3) (Nat.lt_of_le_of_lt hrk (Nat.le_of_ble_eq_true rfl)) (Nat.lt_of_le_of_lt hg_3 (Nat.le_of_ble_eq_true rfl))).mp c_6
    refine lv_iload_n hx hb eX5_nextCover_31 rfl (lv_at hl 2 rfl) ?_
    refine lv_istore_n (lv' := [(3, .int (nI a1)), (0, .ref rm), (1, .ref (az kk)), (2, .int (nI a1))]) hx hb eX5_nextCover_32 rfl hl (by decide) rfl (fun ls hl => ?_)
    refine pu_while (fun nn H locs ls => ∃ (g_11 : Nat) (g_12 : Nat → Nat → Int32) (g_13 : Nat → Nat), nn = 120 - g_11 ∧ g_11 ≤ 120 ∧ a1 ≤ g_11 ∧ va_P (dC, dI) vwCl ((rm__w rm rcv (nI rk) rmd (nI ru) rpc rct rce (az 392) k_fcv fcv k_fmd (zs 242 28 az) k_fpc (zs 270 122 az) k_fct fct k_fce (bN 16 q_fce)) ++ zp 4 16 N az ac kz g_13 g_12) H ∧ va_D A ((rm__w rm rcv (nI rk) rmd (nI ru) rpc rct rce (az 392) k_fcv fcv k_fmd (zs 242 28 az) k_fpc (zs 270 122 az) k_fct fct k_fce (bN 16 q_fce)) ++ zp 4 16 N az ac kz g_13 g_12) ∧ va_S A s.heap H locs ∧ lv_has ls 4 [(0, .ref rm), (1, .ref (az kk)), (2, .int (nI a1)), (3, .int (nI g_11))]) 33 ?_ _ _ _ _ ⟨a1, fz, qs, rfl, ha1, by omega, hP, hD, hS, lv_sub hl [1, 2, 3, 0] rfl⟩
    rintro nn ih_15 H locs ls ⟨g_11, g_12, g_13, rfl, hg_11, he_14, hP, hD, hS, hl⟩
    refine lv_iload_n hx hb eX5_nextCover_33 rfl (lv_at hl 3 rfl) ?_
    refine lv_aload_n hx hb eX5_nextCover_34 rfl (lv_at hl 0 rfl) ?_
    refine va_get (D := (dC, dI)) (ci := 5) (v := .int (nI rk)) (C := RX5) (T := TX5) (N := 8) hx hb hts hiX5 hown hK hP 0 rfl rfl 1 (by decide) v_1 (fun _ h9 => h9) rfl eX5_nextCover_35 ?_
    refine lv_icmp_ge (tgt := 63) hx hb eX5_nextCover_38 (by decide) (fun c_16 => ?_) (fun c_16 => ?_)
    · have c_16 : rk ≤ g_11 := (nI_leI (a := rk) (b := g_11) (Nat.lt_of_le_of_lt hrk (Nat.le_of_ble_eq_true rfl)) (Nat.lt_of_le_of_lt hg_11 (Nat.le_of_ble_eq_true rfl))).mp c_16
      refine lv_aload_n hx hb eX5_nextCover_63 rfl (lv_at hl 0 rfl) ?_
      refine va_get (D := (dC, dI)) (ci := 5) (v := .int (nI rk)) (C := RX5) (T := TX5) (N := 8) hx hb hts hiX5 hown hK hP 0 rfl rfl 1 (by decide) v_1 (fun _ h9 => h9) rfl eX5_nextCover_64 ?_
      exact W.iret (v := (nI rk)) hx hb hr (fun t ht hW => ⟨⟨(nI rk), (), rfl, Or.inr ⟨rk, by omega, by omega, rfl⟩, ⟨g_12, g_13, ⟨by rw [ht]; exact hP, va_K.moved hW.alike hK, hD⟩⟩⟩, hS.F ht⟩) hS.2.2 eX5_nextCover_67
    · have c_16 : ¬ rk ≤ g_11 := fun z => c_16 ((nI_leI (a := rk) (b := g_11) (Nat.lt_of_le_of_lt hrk (Nat.le_of_ble_eq_true rfl)) (Nat.lt_of_le_of_lt hg_11 (Nat.le_of_ble_eq_true rfl))).mpr z)
      refine lv_aload_n hx hb eX5_nextCover_41 rfl (lv_at hl 0 rfl) ?_
      refine lv_aload_n hx hb eX5_nextCover_42 rfl (lv_at hl 1 rfl) ?_
      refine lv_aload_n hx hb eX5_nextCover_43 rfl (lv_at hl 0 rfl) ?_
      refine va_get (D := (dC, dI)) (ci := 5) (v := .ref rcv) (C := RX5) (T := TX5) (N := 8) hx hb hts hiX5 hown hK hP 0 rfl rfl 0 (by decide) v_2 (fun _ h9 => h9) rfl eX5_nextCover_44 ?_
      refine lv_iload_n hx hb eX5_nextCover_47 rfl (lv_at hl 3 rfl) ?_
      obtain ⟨kc_17, hkc_17, ekc_17⟩ := cv_get (i := g_11) (f := fcv) (by assumption) (by omega) (by omega)
      refine va_aldq hx hb hK hP 1 0 rfl rfl (vp_in_nI (n := g_11) (by omega) (Nat.le_of_ble_eq_true rfl)) eX5_nextCover_48 ?_
      refine W.eq (g2 := F0 m 49 ls [.ref (az kc_17), .ref (az kk), .ref rm]) (by rw [ekc_17]) ?_
      have hFc := pu_free hD hS hA
      refine va_calli (va_runV (As := [.ref (az kk), .ref (az kc_17)]) (rest := []) ⟨hx, hb, hml, hown, hts⟩ (c_C_5_meet l dC dI _ rm rcv rk rmd ru rpc rct rce k_fcv fcv k_fmd k_fpc k_fct fct k_fce q_fce N az ac kz g_13 g_12 kk kc_17 hrk hru (by omega) (by omega) (by omega) (by omega) (by omega)) (cwV 2 hts g_C_5_nextCover_C_5_meet rfl rfl rfl (by decide +kernel) ⟨Nat.le_of_ble_eq_true rfl, Nat.le_of_ble_eq_true rfl⟩) ⟨pu_bl, va_recv hK hP (ci := 5) (q0 := 0) rfl rfl, pu_in hP hK hD⟩ rfl rfl hl.1 rfl (lv_room (Nat.le_of_ble_eq_true rfl)) eX5_nextCover_49 ⟨Nat.le_of_ble_eq_true rfl, Nat.le_of_ble_eq_true rfl⟩) hS (fun q _ h => hFc q h) hFc (fun r_18 u t H1 locs ht hvm hw hB hz1 hk1 hS => ?_)
      obtain ⟨z_fz_19, z_qs_20, ⟨hP1, -, hD1⟩⟩ := hB
      rw [ht] at hP1
      have hP := hP1
      have hD := pu_all hFc hD1
      clear hP1 hD1 hFc
      clear hk1 hz1 ht hvm
      generalize H1 = H at hP hS ⊢
      obtain ⟨u_21, hu_21, rfl⟩ := hw
      refine lv_if_eq (tgt := 57) hx hb eX5_nextCover_52 (by decide) (fun c_22 => ?_) (fun c_22 => ?_)
      · have c_22 : u_21 = 0 := (nI_eq (a := u_21) (b := 0) (Nat.lt_of_le_of_lt hu_21 (Nat.le_of_ble_eq_true rfl)) (Nat.le_of_ble_eq_true rfl)).mp c_22
        refine lv_iinc (v := (nI (g_11 + 1))) (lv' := [(3, .int (nI (g_11 + 1))), (0, .ref rm), (1, .ref (az kk)), (2, .int (nI a1))]) hx hb eX5_nextCover_57 hl (k := 3) rfl (nI_1 _) (by decide) rfl (fun ls hl => ?_)
        refine lv_goto (tgt := 33) hx hb eX5_nextCover_60 (by decide) ?_
        exact ih_15 (120 - (g_11 + 1)) (by omega) _ _ _ ⟨(g_11 + 1), z_fz_19, z_qs_20, rfl, (by omega), by omega, hP, hD, hS, lv_sub hl [1, 2, 3, 0] rfl⟩
      · have c_22 : ¬ u_21 = 0 := fun z => c_22 ((nI_eq (a := u_21) (b := 0) (Nat.lt_of_le_of_lt hu_21 (Nat.le_of_ble_eq_true rfl)) (Nat.le_of_ble_eq_true rfl)).mpr z)
        refine lv_iload_n hx hb eX5_nextCover_55 rfl (lv_at hl 3 rfl) ?_
        exact W.iret (v := (nI g_11)) hx hb hr (fun t ht hW => ⟨⟨(nI g_11), (), rfl, Or.inr ⟨g_11, by omega, by omega, rfl⟩, ⟨z_fz_19, z_qs_20, ⟨by rw [ht]; exact hP, va_K.moved hW.alike hK, hD⟩⟩⟩, hS.F ht⟩) hS.2.2 eX5_nextCover_56
  · have c_6 : ¬ rk ≤ g_3 := fun z => c_6 ((nI_leI (a := rk) (b := g_3) (Nat.lt_of_le_of_lt hrk (Nat.le_of_ble_eq_true rfl)) (Nat.lt_of_le_of_lt hg_3 (Nat.le_of_ble_eq_true rfl))).mpr z)
    refine lv_aload_n hx hb eX5_nextCover_10 rfl (lv_at hl 0 rfl) ?_
    refine va_get (D := (dC, dI)) (ci := 5) (v := .ref rcv) (C := RX5) (T := TX5) (N := 8) hx hb hts hiX5 hown hK hP 0 rfl rfl 0 (by decide) v_2 (fun _ h9 => h9) rfl eX5_nextCover_11 ?_
    refine lv_iload_n hx hb eX5_nextCover_14 rfl (lv_at hl 3 rfl) ?_
    obtain ⟨kc_23, hkc_23, ekc_23⟩ := cv_get (i := g_3) (f := fcv) (by assumption) (by omega) (by omega)
    refine va_aldq hx hb hK hP 1 0 rfl rfl (vp_in_nI (n := g_3) (by omega) (Nat.le_of_ble_eq_true rfl)) eX5_nextCover_15 ?_
    refine W.eq (g2 := F0 m 16 ls [.ref (az kc_23)]) (by rw [ekc_23]) ?_
    refine lv_aload_n hx hb eX5_nextCover_16 rfl (lv_at hl 1 rfl) ?_
    by_cases hjk : kk = kc_23
    · subst hjk
      have hPz := zp_cut (k := kk) hP (by omega)
      have hPc : va_P (dC, dI) vwCl ([] ++ [(az kk, .inr (7, [.ref (ac kk), .int (nI (min (qs kk) 4))])), (ac kk, .inl (kz kk, 16, .inl (fz kk)))]) _ := va_P.app (hP.sub [] rfl) hPz
      have hDc : va_D A ([] ++ [(az kk, .inr (7, [.ref (ac kk), .int (nI (min (qs kk) 4))])), (ac kk, .inl (kz kk, 16, .inl (fz kk)))]) := zp_cutD hD (by omega) [] (by decide) rfl
      have hKc : va_K (dC, dI) vwCl ([] ++ [(kz kk, .int)]) s := zp_K hK (by omega) [] rfl
      refine va_calli (va_runV (As := [.ref (az kk)]) (rest := []) ⟨hx, hb, hml, hown, hts⟩ (c_E_7_holdsAll_s_16 l dC dI _ (az kk) (ac kk) (min (qs kk) 4) (kz kk) (fz kk) (Nat.min_le_right _ _)) (cwV 1 hts g_C_5_nextCover_E_7_holdsAll_s_16 rfl rfl rfl (by decide +kernel) ⟨Nat.le_of_ble_eq_true rfl, Nat.le_of_ble_eq_true rfl⟩) ⟨pu_bl, va_recv hK hPz (ci := 7) (q0 := 0) rfl rfl, pu_in hPc hKc hDc⟩ rfl rfl hl.1 rfl (lv_room (Nat.le_of_ble_eq_true rfl)) eX5_nextCover_17 ⟨Nat.le_of_ble_eq_true rfl, Nat.le_of_ble_eq_true rfl⟩) hS (fun q _ h => pu_fr hS hA q h) (pu_fr hS hA) (fun r_24 u t H1 locs ht hvm hw hB hz1 hk1 hS => ?_)
      have hP := pu_keep hP hk1
      clear hPc hDc hKc
      clear hk1 hz1 ht hvm
      generalize H1 = H at hP hS ⊢
      obtain ⟨u_25, hu_25, rfl, iu_25⟩ := hw
      refine lv_if_eq (tgt := 25) hx hb eX5_nextCover_20 (by decide) (fun c_26 => ?_) (fun c_26 => ?_)
      · have c_26 : u_25 = 0 := (nI_eq (a := u_25) (b := 0) (Nat.lt_of_le_of_lt hu_25 (Nat.le_of_ble_eq_true rfl)) (Nat.le_of_ble_eq_true rfl)).mp c_26
        refine lv_iinc (v := (nI (g_3 + 1))) (lv' := [(3, .int (nI (g_3 + 1))), (0, .ref rm), (1, .ref (az kk)), (2, .int (nI a1))]) hx hb eX5_nextCover_25 hl (k := 3) rfl (nI_1 _) (by decide) rfl (fun ls hl => ?_)
        refine lv_goto (tgt := 2) hx hb eX5_nextCover_28 (by decide) ?_
        exact ih_5 (120 - (g_3 + 1)) (by omega) _ _ _ ⟨(g_3 + 1), rfl, (by omega), by omega, hP, hD, hS, lv_sub hl [1, 2, 3, 0] rfl⟩
      · have c_26 : ¬ u_25 = 0 := fun z => c_26 ((nI_eq (a := u_25) (b := 0) (Nat.lt_of_le_of_lt hu_25 (Nat.le_of_ble_eq_true rfl)) (Nat.le_of_ble_eq_true rfl)).mpr z)
        refine lv_iconst (v := (-1)) hx hb eX5_nextCover_23 (by decide) ?_
        exact W.iret (v := (-1)) hx hb hr (fun t ht hW => ⟨⟨(-1), (), rfl, Or.inl rfl, ⟨fz, qs, ⟨by rw [ht]; exact hP, va_K.moved hW.alike hK, hD⟩⟩⟩, hS.F ht⟩) hS.2.2 eX5_nextCover_24
    · have hPz := zp_cut (k := kc_23) hP (by omega)
      have hPy := zp_cut (k := kk) hP (by omega)
      have hPc : va_P (dC, dI) vwCl ([(az kk, .inr (7, [.ref (ac kk), .int (nI (min (qs kk) 4))])), (ac kk, .inl (kz kk, 16, .inl (fz kk)))] ++ [(az kc_23, .inr (7, [.ref (ac kc_23), .int (nI (min (qs kc_23) 4))])), (ac kc_23, .inl (kz kc_23, 16, .inl (fz kc_23)))]) _ := va_P.app hPy hPz
      have hDc : va_D A ([(az kk, .inr (7, [.ref (ac kk), .int (nI (min (qs kk) 4))])), (ac kk, .inl (kz kk, 16, .inl (fz kk)))] ++ [(az kc_23, .inr (7, [.ref (ac kc_23), .int (nI (min (qs kc_23) 4))])), (ac kc_23, .inl (kz kc_23, 16, .inl (fz kc_23)))]) := zp_cutD2 hD (by omega) (by omega) (by omega)
      have hKc : va_K (dC, dI) vwCl [(kz kk, .int), (kz kc_23, .int)] s := zp_K2 hK (by omega) (by omega)
      refine va_calli (va_runV (As := [.ref (az kk)]) (rest := []) ⟨hx, hb, hml, hown, hts⟩ (c_E_7_holdsAll_16 l dC dI _ (az kk) (ac kk) (min (qs kk) 4) (kz kk) (fz kk) (az kc_23) (ac kc_23) (min (qs kc_23) 4) (kz kc_23) (fz kc_23) (Nat.min_le_right _ _) (Nat.min_le_right _ _)) (cwV 1 hts g_C_5_nextCover_E_7_holdsAll_16 rfl rfl rfl (by decide +kernel) ⟨Nat.le_of_ble_eq_true rfl, Nat.le_of_ble_eq_true rfl⟩) ⟨pu_bl, va_recv hK hPz (ci := 7) (q0 := 0) rfl rfl, pu_in hPc hKc hDc⟩ rfl rfl hl.1 rfl (lv_room (Nat.le_of_ble_eq_true rfl)) eX5_nextCover_17 ⟨Nat.le_of_ble_eq_true rfl, Nat.le_of_ble_eq_true rfl⟩) hS (fun q _ h => pu_fr hS hA q h) (pu_fr hS hA) (fun r_27 u t H1 locs ht hvm hw hB hz1 hk1 hS => ?_)
      have hP := pu_keep hP hk1
      clear hPc hDc hKc
      clear hk1 hz1 ht hvm
      generalize H1 = H at hP hS ⊢
      obtain ⟨u_28, hu_28, rfl, iu_28⟩ := hw
      refine lv_if_eq (tgt := 25) hx hb eX5_nextCover_20 (by decide) (fun c_29 => ?_) (fun c_29 => ?_)
      · have c_29 : u_28 = 0 := (nI_eq (a := u_28) (b := 0) (Nat.lt_of_le_of_lt hu_28 (Nat.le_of_ble_eq_true rfl)) (Nat.le_of_ble_eq_true rfl)).mp c_29
        refine lv_iinc (v := (nI (g_3 + 1))) (lv' := [(3, .int (nI (g_3 + 1))), (0, .ref rm), (1, .ref (az kk)), (2, .int (nI a1))]) hx hb eX5_nextCover_25 hl (k := 3) rfl (nI_1 _) (by decide) rfl (fun ls hl => ?_)
        refine lv_goto (tgt := 2) hx hb eX5_nextCover_28 (by decide) ?_
        exact ih_5 (120 - (g_3 + 1)) (by omega) _ _ _ ⟨(g_3 + 1), rfl, (by omega), by omega, hP, hD, hS, lv_sub hl [1, 2, 3, 0] rfl⟩
      · have c_29 : ¬ u_28 = 0 := fun z => c_29 ((nI_eq (a := u_28) (b := 0) (Nat.lt_of_le_of_lt hu_28 (Nat.le_of_ble_eq_true rfl)) (Nat.le_of_ble_eq_true rfl)).mpr z)
        refine lv_iconst (v := (-1)) hx hb eX5_nextCover_23 (by decide) ?_
        exact W.iret (v := (-1)) hx hb hr (fun t ht hW => ⟨⟨(-1), (), rfl, Or.inl rfl, ⟨fz, qs, ⟨by rw [ht]; exact hP, va_K.moved hW.alike hK, hD⟩⟩⟩, hS.F ht⟩) hS.2.2 eX5_nextCover_24
