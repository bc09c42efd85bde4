theorem eX8_condition_0 : decode cX8_condition 0 = .ok (.aload_n 0, 1) := by decide +kernel
theorem eX8_condition_1 : decode cX8_condition 1 = .ok (.iload_n 1, 1) := by decide +kernel
theorem eX8_condition_2 : decode cX8_condition 2 = .ok (.iload_n 2, 1) := by decide +kernel
theorem eX8_condition_3 : decode cX8_condition 3 = .ok (.invokevirtual 171, 3) := by decide +kernel
theorem eX8_condition_6 : decode cX8_condition 6 = .ok (.istore 4, 2) := by decide +kernel
theorem eX8_condition_8 : decode cX8_condition 8 = .ok (.iload 4, 2) := by decide +kernel
theorem eX8_condition_10 : decode cX8_condition 10 = .ok (.iconst (-1), 1) := by decide +kernel
theorem eX8_condition_11 : decode cX8_condition 11 = .ok (.if_icmp .ne 5, 3) := by decide +kernel
theorem eX8_condition_14 : decode cX8_condition 14 = .ok (.iconst (-1), 1) := by decide +kernel
theorem eX8_condition_15 : decode cX8_condition 15 = .ok (.ireturn, 1) := by decide +kernel
theorem eX8_condition_16 : decode cX8_condition 16 = .ok (.iload_n 3, 1) := by decide +kernel
theorem eX8_condition_17 : decode cX8_condition 17 = .ok (.tableswitch 60 0 2 #[27, 38, 49], 27) := by decide +kernel
theorem eX8_condition_44 : decode cX8_condition 44 = .ok (.aload_n 0, 1) := by decide +kernel
theorem eX8_condition_45 : decode cX8_condition 45 = .ok (.getfield 23, 3) := by decide +kernel
theorem eX8_condition_48 : decode cX8_condition 48 = .ok (.getfield 175, 3) := by decide +kernel
theorem eX8_condition_51 : decode cX8_condition 51 = .ok (.iload 4, 2) := by decide +kernel
theorem eX8_condition_53 : decode cX8_condition 53 = .ok (.iaload, 1) := by decide +kernel
theorem eX8_condition_54 : decode cX8_condition 54 = .ok (.ireturn, 1) := by decide +kernel
theorem eX8_condition_55 : decode cX8_condition 55 = .ok (.aload_n 0, 1) := by decide +kernel
theorem eX8_condition_56 : decode cX8_condition 56 = .ok (.getfield 23, 3) := by decide +kernel
theorem eX8_condition_59 : decode cX8_condition 59 = .ok (.getfield 178, 3) := by decide +kernel
theorem eX8_condition_62 : decode cX8_condition 62 = .ok (.iload 4, 2) := by decide +kernel
theorem eX8_condition_64 : decode cX8_condition 64 = .ok (.iaload, 1) := by decide +kernel
theorem eX8_condition_65 : decode cX8_condition 65 = .ok (.ireturn, 1) := by decide +kernel
theorem eX8_condition_66 : decode cX8_condition 66 = .ok (.aload_n 0, 1) := by decide +kernel
theorem eX8_condition_67 : decode cX8_condition 67 = .ok (.getfield 23, 3) := by decide +kernel
theorem eX8_condition_70 : decode cX8_condition 70 = .ok (.getfield 181, 3) := by decide +kernel
theorem eX8_condition_73 : decode cX8_condition 73 = .ok (.iload 4, 2) := by decide +kernel
theorem eX8_condition_75 : decode cX8_condition 75 = .ok (.iaload, 1) := by decide +kernel
theorem eX8_condition_76 : decode cX8_condition 76 = .ok (.ireturn, 1) := by decide +kernel
theorem eX8_condition_77 : decode cX8_condition 77 = .ok (.iconst (-1), 1) := by decide +kernel
theorem eX8_condition_78 : decode cX8_condition 78 = .ok (.ireturn, 1) := by decide +kernel
abbrev vs_E_8_condition : List Cond := .code yX8_condition cX8_condition 5 (some .int) :: CM
theorem g_E_8_condition_E_8_slotOf : GoodIn vs_E_8_condition (wsV RX8 171 RX8 yX8_slotOf vs_E_8_slotOf) := cm_gV cm_490 cm_491 cm_492 cm_427 cm_493
noncomputable def sp_E_8_condition (np : Nat) (ne : Nat) (q_f8 : Nat → Nat) (q_f9 : Nat → Nat) (f10 : Nat → Int32) (f11 : Nat → Int32) (p0 : Int32) (p1 : Int32) (p2 : Int32) : Int32 := (slet (sp_E_8_slotOf np ne q_f8 p0 p1) (fun u_2 => (if u_2 = 0 then (-1) else (slet (u_2 - 1) (fun n_3 => (if (p2 : Int32) = 0 then (slet (min (q_f9 n_3) 2) (fun u_6 => (nI u_6))) else (if (p2 : Int32) = 1 then (slet (f10 n_3) (fun y_8 => y_8)) else (if (p2 : Int32) = 2 then (slet (f11 n_3) (fun y_10 => y_10)) else (-1)))))))))
set_option maxHeartbeats 4000000 in
set_option maxRecDepth 100000 in
theorem c_E_8_condition (l : Launch) (dC : Nat → ClassId) (dI : Nat → Nat → Nat) (sz : Nat) (xa : Nat) (xtape : Nat) (tp : Nat) (rd : Nat) (au : Nat) (xdr : Nat) (hy : Nat) (g : Nat) (hs : Nat) (tg : Nat) (sg : Nat) (ss : Nat) (rm : Nat) (ti : Nat) (py : Nat) (bu : Nat) (sm : Nat) (nc : Nat) (np : Nat) (ne : Nat) (st0 : Int32) (q4 : Nat) (q5 : Nat) (q6 : Nat) (q7 : Nat) (q8 : Nat) (q9 : Nat) (q10 : Nat) (q11 : Nat) (q12 : Nat) (q13 : Nat) (q14 : Nat) (q15 : Nat) (q16 : Nat) (k_f4 : ClassId) (f4 : Nat → Int32) (k_f5 : ClassId) (q_f5 : Nat → Nat) (k_f6 : ClassId) (q_f6 : Nat → Nat) (k_f7 : ClassId) (f7 : Nat → Int32) (k_f8 : ClassId) (q_f8 : Nat → Nat) (k_f9 : ClassId) (q_f9 : Nat → Nat) (k_f10 : ClassId) (f10 : Nat → Int32) (k_f11 : ClassId) (f11 : Nat → Int32) (k_f12 : ClassId) (f12 : Nat → Int32) (k_f13 : ClassId) (f13 : Nat → Int32) (k_f14 : ClassId) (f14 : Nat → Int32) (k_f15 : ClassId) (f15 : Nat → Int32) (k_f16 : ClassId) (f16 : Nat → Int32) (p0 : Int32) (p1 : Int32) (p2 : Int32) (htp : tp ≤ 900) (hhs : hs ≤ 1) (hss : ss ≤ 1) (hnc : nc ≤ 3) (hnp : np ≤ 8) (hne : ne ≤ 14) (hst0 : pm1 7 st0) : Met l yX8_condition vs_E_8_condition ({ frames := 2, cells := 0, slots := 0, locals := 44 }) (va_Pc [.ref xa, .int p0, .int p1, .int p2] (pu_B (dC, dI) (xa__w xa xtape (nI tp) rd au xdr hy g (nI hs) tg sg (nI ss) rm ti py bu sm (nI nc) (nI np) (nI ne) st0 q4 q5 q6 q7 q8 q9 q10 q11 q12 q13 q14 q15 q16 k_f4 f4 k_f5 (bN 7 q_f5) k_f6 (bN 7 q_f6) k_f7 f7 k_f8 (bN 4 q_f8) k_f9 (bN 2 q_f9) k_f10 f10 k_f11 f11 k_f12 f12 k_f13 f13 k_f14 f14 k_f15 f15 k_f16 f16) (xa__t k_f4 k_f5 k_f6 k_f7 k_f8 k_f9 k_f10 k_f11 k_f12 k_f13 k_f14 k_f15 k_f16) sz)) (va_Qi (fun (r : Int32) (_ : Unit) => r = (sp_E_8_condition np ne q_f8 q_f9 f10 f11 p0 p1 p2)) (fun _ _ => True) (va_A [] sz)) 0 0 (va_A [] sz) := by
  refine Met.ofW (cc := cX8_condition) (maxL := 5) (ret := (some .int)) (by decide) rfl ?_
  intro p e s m args below meth c s₁ B hml hv
  obtain ⟨rfl, rfl, hP, hK, hD0⟩ := hv
  have hx := B.exec
  have hb := B.bytes
  have hr := B.returns
  have hts := atoms_spec (ws := vs_E_8_condition) B.pre
  have v_6 := hts (.fieldLink RX8 23 "ClockReach" "model" "LClockReach$Automaton;") (List.mem_cons_of_mem _ cm_434)
  have v_7 := hts (.fieldLink RX8 175 "ClockReach$Automaton" "conditionClocks" "[I") (List.mem_cons_of_mem _ cm_487)
  have v_8 := hts (.fieldLink RX8 178 "ClockReach$Automaton" "hows" "[I") (List.mem_cons_of_mem _ cm_488)
  have v_9 := hts (.fieldLink RX8 181 "ClockReach$Automaton" "numbers" "[I") (List.mem_cons_of_mem _ cm_489)
  have hown : s.vm.findClass RX8 = some m.cls := findClass_of_methodNamed B.named
  have hlocks := B.notSynchronized
  have hiX0 : ∀ w ∈ wsX00, w ∈ vs_E_8_condition := fun _ h => List.mem_cons_of_mem _ (cm_X0 h)
  have hiX8 : ∀ w ∈ wsX80, w ∈ vs_E_8_condition := fun _ h => List.mem_cons_of_mem _ (cm_X8 h)
  have hD := hD0
  have hA : ∀ q : Nat, s.heap.size ≤ q → va_A [] s.heap.size q := fun _ h => Or.inr h
  have hS : va_S (va_A [] s.heap.size) s.heap s.heap [] := va_S.rf
  have hl := lv_entry ([.ref xa, .int p0, .int p1, .int p2]) (n := 5) (Nat.le_of_ble_eq_true rfl)
  rw [lg_entry_eq]
  generalize (lg_sl ([.ref xa, .int p0, .int p1, .int p2]) ++ List.replicate (5 - (lg_sl ([.ref xa, .int p0, .int p1, .int p2])).length) Slot.unset).toArray = ls at hl ⊢
  have hl : lv_has ls 5 [(0, .ref xa), (1, .int p0), (2, .int p1), (3, .int p2)] := hl
  obtain ⟨RR, hRR⟩ : ∃ x, x = (sp_E_8_condition np ne q_f8 q_f9 f10 f11 p0 p1 p2) := ⟨_, rfl⟩
  have hsp := hRR
  refine lv_aload_n hx hb eX8_condition_0 rfl (lv_at hl 0 rfl) ?_
  refine lv_iload_n hx hb eX8_condition_1 rfl (lv_at hl 1 rfl) ?_
  refine lv_iload_n hx hb eX8_condition_2 rfl (lv_at hl 2 rfl) ?_
  refine va_calli (va_runV (As := [.int p0, .int p1]) (rest := []) ⟨hx, hb, hml, hown, hts⟩ (c_E_8_slotOf l dC dI _ xa xtape tp rd au xdr hy g hs tg sg ss rm ti py bu sm nc np ne st0 q4 q5 q6 q7 q8 q9 q10 q11 q12 q13 q14 q15 q16 k_f4 f4 k_f5 q_f5 k_f6 q_f6 k_f7 f7 k_f8 q_f8 k_f9 q_f9 k_f10 f10 k_f11 f11 k_f12 f12 k_f13 f13 k_f14 f14 k_f15 f15 k_f16 f16 p0 p1 htp hhs hss hnc hnp hne (hst0)) (cwV 2 hts g_E_8_condition_E_8_slotOf rfl rfl rfl (by decide +kernel) ⟨Nat.le_of_ble_eq_true rfl, Nat.le_of_ble_eq_true rfl⟩) ⟨pu_bl, va_recv hK hP (ci := 8) (q0 := 0) rfl rfl, pu_in hP hK hD⟩ rfl rfl hl.1 rfl (lv_room (Nat.le_of_ble_eq_true rfl)) eX8_condition_3 ⟨Nat.le_of_ble_eq_true rfl, Nat.le_of_ble_eq_true rfl⟩) hS (fun q _ h => pu_fr hS hA q h) (pu_fr hS hA) (fun r_1 u t H1 locs ht hvm hw hB hz1 hk1 hS => ?_)
  have hP := pu_keep hP hk1
  clear hk1 hz1 ht hvm
  generalize H1 = H at hP hS ⊢
  obtain ⟨u_2, hu_2, mu_2, iu_2⟩ := hw
  have hsp := hsp.trans (slet_eq iu_2)
  rcases mI_get u_2 with ⟨zn_3, wn_3⟩ | ⟨n_3, zn_3, wn_3⟩
  · obtain rfl : r_1 = -1 := mu_2.trans wn_3
    have hsp := hsp.trans (if_pos zn_3)
    refine lv_istore (lv' := [(4, .int (-1)), (0, .ref xa), (1, .int p0), (2, .int p1), (3, .int p2)]) hx hb eX8_condition_6 hl (by decide) rfl (fun ls hl => ?_)
    refine lv_iload hx hb eX8_condition_8 (lv_at hl 0 rfl) ?_
    refine lv_iconst (v := (-1)) hx hb eX8_condition_10 (by decide) ?_
    refine lv_icmp_ne (tgt := 16) hx hb eX8_condition_11 (by decide) (fun z => absurd z (by decide)) (fun _ => ?_)
    refine lv_iconst (v := (-1)) hx hb eX8_condition_14 (by decide) ?_
    exact W.iret (v := (-1)) hx hb hr (fun t ht hW => ⟨⟨(-1), (), rfl, (hsp.symm.trans hRR), trivial⟩, hS.F ht⟩) hS.2.2 eX8_condition_15
  · obtain rfl : r_1 = nI n_3 := mu_2.trans wn_3
    have hn_3 : n_3 ≤ 87 := by omega
    have hsp := hsp.trans (if_neg (by omega))
    have hsp := hsp.trans (slet_eq (by omega : n_3 = u_2 - 1))
    refine lv_istore (lv' := [(4, .int (nI n_3)), (0, .ref xa), (1, .int p0), (2, .int p1), (3, .int p2)]) hx hb eX8_condition_6 hl (by decide) rfl (fun ls hl => ?_)
    refine lv_iload hx hb eX8_condition_8 (lv_at hl 0 rfl) ?_
    refine lv_iconst (v := (-1)) hx hb eX8_condition_10 (by decide) ?_
    refine lv_icmp_ne (tgt := 16) hx hb eX8_condition_11 (by decide) (fun _ => ?_) (fun z => absurd z (pu_nneg (n := n_3) (by omega) (by decide)))
    refine lv_iload_n hx hb eX8_condition_16 rfl (lv_at hl 4 rfl) ?_
    by_cases w_4 : p2 = 0
    · subst w_4
      have hsp := hsp.trans (if_pos rfl)
      refine lv_tableIn (tgt := 44) (off := 27) hx hb eX8_condition_17 (by decide) (by decide) rfl (by decide) ?_
      refine lv_aload_n hx hb eX8_condition_44 rfl (lv_at hl 1 rfl) ?_
      refine va_get (D := (dC, dI)) (ci := 8) (v := .ref au) (C := RX8) (T := TX8) (N := 16) hx hb hts hiX8 hown hK hP 0 rfl rfl 3 (by decide) v_6 (fun _ h9 => h9) rfl eX8_condition_45 ?_
      refine va_get (D := (dC, dI)) (ci := 0) (v := .ref q9) (C := RX0) (T := TX0) (N := 17) hx hb hts hiX0 hown hK hP 1 rfl rfl 9 (by decide) v_7 (fun _ h9 => h9) rfl eX8_condition_48 ?_
      refine lv_iload hx hb eX8_condition_51 (lv_at hl 0 rfl) ?_
      refine va_iald hx hb hK hP 7 5 rfl rfl (vp_in_nI (n := n_3) (Nat.lt_of_le_of_lt hn_3 (Nat.le_of_ble_eq_true rfl)) (Nat.le_of_ble_eq_true rfl)) eX8_condition_53 ?_
      refine lv_topi (fun y_5 ey_5 => ?_)
      obtain ⟨u_6, hu_6, qu_6, xu_6⟩ := bN_getx 2 q_f9 (n := n_3) (Nat.lt_of_le_of_lt hn_3 (Nat.le_of_ble_eq_true rfl))
      obtain rfl : y_5 = nI u_6 := ey_5.trans qu_6
      have hsp := hsp.trans (slet_eq xu_6)
      exact W.iret (v := (nI u_6)) hx hb hr (fun t ht hW => ⟨⟨(nI u_6), (), rfl, (hsp.symm.trans hRR), trivial⟩, hS.F ht⟩) hS.2.2 eX8_condition_54
    have hsp := hsp.trans (if_neg w_4)
    by_cases w_7 : p2 = 1
    · subst w_7
      have hsp := hsp.trans (if_pos rfl)
      refine lv_tableIn (tgt := 55) (off := 38) hx hb eX8_condition_17 (by decide) (by decide) rfl (by decide) ?_
      refine lv_aload_n hx hb eX8_condition_55 rfl (lv_at hl 1 rfl) ?_
      refine va_get (D := (dC, dI)) (ci := 8) (v := .ref au) (C := RX8) (T := TX8) (N := 16) hx hb hts hiX8 hown hK hP 0 rfl rfl 3 (by decide) v_6 (fun _ h9 => h9) rfl eX8_condition_56 ?_
      refine va_get (D := (dC, dI)) (ci := 0) (v := .ref q10) (C := RX0) (T := TX0) (N := 17) hx hb hts hiX0 hown hK hP 1 rfl rfl 10 (by decide) v_8 (fun _ h9 => h9) rfl eX8_condition_59 ?_
      refine lv_iload hx hb eX8_condition_62 (lv_at hl 0 rfl) ?_
      refine va_iald hx hb hK hP 8 6 rfl rfl (vp_in_nI (n := n_3) (Nat.lt_of_le_of_lt hn_3 (Nat.le_of_ble_eq_true rfl)) (Nat.le_of_ble_eq_true rfl)) eX8_condition_64 ?_
      refine lv_topi (fun y_8 ey_8 => ?_)
      have ey_8 : y_8 = f10 n_3 := ey_8.trans (congrArg f10 (nI_clamp (n := n_3) (Nat.lt_of_le_of_lt hn_3 (Nat.le_of_ble_eq_true rfl))))
      have hsp := hsp.trans (slet_eq ey_8)
      exact W.iret (v := y_8) hx hb hr (fun t ht hW => ⟨⟨y_8, (), rfl, (hsp.symm.trans hRR), trivial⟩, hS.F ht⟩) hS.2.2 eX8_condition_65
    have hsp := hsp.trans (if_neg w_7)
    by_cases w_9 : p2 = 2
    · subst w_9
      have hsp := hsp.trans (if_pos rfl)
      refine lv_tableIn (tgt := 66) (off := 49) hx hb eX8_condition_17 (by decide) (by decide) rfl (by decide) ?_
      refine lv_aload_n hx hb eX8_condition_66 rfl (lv_at hl 1 rfl) ?_
      refine va_get (D := (dC, dI)) (ci := 8) (v := .ref au) (C := RX8) (T := TX8) (N := 16) hx hb hts hiX8 hown hK hP 0 rfl rfl 3 (by decide) v_6 (fun _ h9 => h9) rfl eX8_condition_67 ?_
      refine va_get (D := (dC, dI)) (ci := 0) (v := .ref q11) (C := RX0) (T := TX0) (N := 17) hx hb hts hiX0 hown hK hP 1 rfl rfl 11 (by decide) v_9 (fun _ h9 => h9) rfl eX8_condition_70 ?_
      refine lv_iload hx hb eX8_condition_73 (lv_at hl 0 rfl) ?_
      refine va_iald hx hb hK hP 9 7 rfl rfl (vp_in_nI (n := n_3) (Nat.lt_of_le_of_lt hn_3 (Nat.le_of_ble_eq_true rfl)) (Nat.le_of_ble_eq_true rfl)) eX8_condition_75 ?_
      refine lv_topi (fun y_10 ey_10 => ?_)
      have ey_10 : y_10 = f11 n_3 := ey_10.trans (congrArg f11 (nI_clamp (n := n_3) (Nat.lt_of_le_of_lt hn_3 (Nat.le_of_ble_eq_true rfl))))
      have hsp := hsp.trans (slet_eq ey_10)
      exact W.iret (v := y_10) hx hb hr (fun t ht hW => ⟨⟨y_10, (), rfl, (hsp.symm.trans hRR), trivial⟩, hS.F ht⟩) hS.2.2 eX8_condition_76
    have hsp := hsp.trans (if_neg w_9)
    refine lv_tableOut (tgt := 77) hx hb eX8_condition_17 (by
        have zw_4 : Int32.toInt p2 ≠ 0 := fun g => w_4 ((fa_eq _ _).mpr g)
        have zw_7 : Int32.toInt p2 ≠ 1 := fun g => w_7 ((fa_eq _ _).mpr g)
        have zw_9 : Int32.toInt p2 ≠ 2 := fun g => w_9 ((fa_eq _ _).mpr g)
        omega) (by decide) ?_
    refine lv_iconst (v := (-1)) hx hb eX8_condition_77 (by decide) ?_
    exact W.iret (v := (-1)) hx hb hr (fun t ht hW => ⟨⟨(-1), (), rfl, (hsp.symm.trans hRR), trivial⟩, hS.F ht⟩) hS.2.2 eX8_condition_78
