theorem eX8_slotOf_0 : decode cX8_slotOf 0 = .ok (.iconst (-1), 1) := by decide +kernel
theorem eX8_slotOf_1 : decode cX8_slotOf 1 = .ok (.istore_n 3, 1) := by decide +kernel
theorem eX8_slotOf_2 : decode cX8_slotOf 2 = .ok (.aload_n 0, 1) := by decide +kernel
theorem eX8_slotOf_3 : decode cX8_slotOf 3 = .ok (.iload_n 1, 1) := by decide +kernel
theorem eX8_slotOf_4 : decode cX8_slotOf 4 = .ok (.invokevirtual 165, 3) := by decide +kernel
theorem eX8_slotOf_7 : decode cX8_slotOf 7 = .ok (.ifCond .eq 8, 3) := by decide +kernel
theorem eX8_slotOf_10 : decode cX8_slotOf 10 = .ok (.iload_n 1, 1) := by decide +kernel
theorem eX8_slotOf_11 : decode cX8_slotOf 11 = .ok (.istore_n 3, 1) := by decide +kernel
theorem eX8_slotOf_12 : decode cX8_slotOf 12 = .ok (.goto 28, 3) := by decide +kernel
theorem eX8_slotOf_15 : decode cX8_slotOf 15 = .ok (.iload_n 1, 1) := by decide +kernel
theorem eX8_slotOf_16 : decode cX8_slotOf 16 = .ok (.bipush 100, 2) := by decide +kernel
theorem eX8_slotOf_18 : decode cX8_slotOf 18 = .ok (.if_icmp .lt 22, 3) := by decide +kernel
theorem eX8_slotOf_21 : decode cX8_slotOf 21 = .ok (.aload_n 0, 1) := by decide +kernel
theorem eX8_slotOf_22 : decode cX8_slotOf 22 = .ok (.iload_n 1, 1) := by decide +kernel
theorem eX8_slotOf_23 : decode cX8_slotOf 23 = .ok (.bipush 100, 2) := by decide +kernel
theorem eX8_slotOf_25 : decode cX8_slotOf 25 = .ok (.isub, 1) := by decide +kernel
theorem eX8_slotOf_26 : decode cX8_slotOf 26 = .ok (.invokevirtual 140, 3) := by decide +kernel
theorem eX8_slotOf_29 : decode cX8_slotOf 29 = .ok (.ifCond .eq 11, 3) := by decide +kernel
theorem eX8_slotOf_32 : decode cX8_slotOf 32 = .ok (.iload_n 1, 1) := by decide +kernel
theorem eX8_slotOf_33 : decode cX8_slotOf 33 = .ok (.bipush 100, 2) := by decide +kernel
theorem eX8_slotOf_35 : decode cX8_slotOf 35 = .ok (.isub, 1) := by decide +kernel
theorem eX8_slotOf_36 : decode cX8_slotOf 36 = .ok (.invokestatic 151, 3) := by decide +kernel
theorem eX8_slotOf_39 : decode cX8_slotOf 39 = .ok (.istore_n 3, 1) := by decide +kernel
theorem eX8_slotOf_40 : decode cX8_slotOf 40 = .ok (.iload_n 3, 1) := by decide +kernel
theorem eX8_slotOf_41 : decode cX8_slotOf 41 = .ok (.iconst (-1), 1) := by decide +kernel
theorem eX8_slotOf_42 : decode cX8_slotOf 42 = .ok (.if_icmp .eq 20, 3) := by decide +kernel
theorem eX8_slotOf_45 : decode cX8_slotOf 45 = .ok (.iload_n 2, 1) := by decide +kernel
theorem eX8_slotOf_46 : decode cX8_slotOf 46 = .ok (.ifCond .lt 16, 3) := by decide +kernel
theorem eX8_slotOf_49 : decode cX8_slotOf 49 = .ok (.iload_n 2, 1) := by decide +kernel
theorem eX8_slotOf_50 : decode cX8_slotOf 50 = .ok (.aload_n 0, 1) := by decide +kernel
theorem eX8_slotOf_51 : decode cX8_slotOf 51 = .ok (.getfield 23, 3) := by decide +kernel
theorem eX8_slotOf_54 : decode cX8_slotOf 54 = .ok (.getfield 148, 3) := by decide +kernel
theorem eX8_slotOf_57 : decode cX8_slotOf 57 = .ok (.iload_n 3, 1) := by decide +kernel
theorem eX8_slotOf_58 : decode cX8_slotOf 58 = .ok (.iaload, 1) := by decide +kernel
theorem eX8_slotOf_59 : decode cX8_slotOf 59 = .ok (.if_icmp .lt 5, 3) := by decide +kernel
theorem eX8_slotOf_62 : decode cX8_slotOf 62 = .ok (.iconst (-1), 1) := by decide +kernel
theorem eX8_slotOf_63 : decode cX8_slotOf 63 = .ok (.ireturn, 1) := by decide +kernel
theorem eX8_slotOf_64 : decode cX8_slotOf 64 = .ok (.iload_n 3, 1) := by decide +kernel
theorem eX8_slotOf_65 : decode cX8_slotOf 65 = .ok (.iload_n 2, 1) := by decide +kernel
theorem eX8_slotOf_66 : decode cX8_slotOf 66 = .ok (.invokestatic 184, 3) := by decide +kernel
theorem eX8_slotOf_69 : decode cX8_slotOf 69 = .ok (.ireturn, 1) := by decide +kernel
abbrev vs_E_8_slotOf : List Cond := .code yX8_slotOf cX8_slotOf 4 (some .int) :: CM
theorem g_E_8_slotOf_E_8_isEdge : GoodIn vs_E_8_slotOf (wsV RX8 165 RX8 yX8_isEdge vs_E_8_isEdge) := cm_gV cm_483 cm_484 cm_485 cm_427 cm_479
theorem g_E_8_slotOf_E_0_slot : GoodIn vs_E_8_slotOf (va_wsS RX8 184 yX0_slot vs_E_0_slot) := cm_gS cm_494 cm_18 cm_19 cm_1
theorem g_E_8_slotOf_E_8_isPlace_k : GoodIn vs_E_8_slotOf (wsV RX8 140 RX8 yX8_isPlace vs_E_8_isPlace_k) := cm_gV cm_471 cm_472 cm_473 cm_427 cm_474
theorem g_E_8_slotOf_E_0_hostOfPlace : GoodIn vs_E_8_slotOf (va_wsS RX8 151 yX0_hostOfPlace vs_E_0_hostOfPlace) := cm_gS cm_475 cm_55 cm_19 cm_0
theorem g_E_8_slotOf_E_8_isPlace : GoodIn vs_E_8_slotOf (wsV RX8 140 RX8 yX8_isPlace vs_E_8_isPlace) := cm_gV cm_471 cm_472 cm_473 cm_427 cm_474
noncomputable def sp_E_8_slotOf (np : Nat) (ne : Nat) (q_f8 : Nat → Nat) (p0 : Int32) (p1 : Int32) : Nat := (if (0 : Int32) ≤ p0 ∧ p0 < nI ne then (slet ((p0 : Int32).toNatClampNeg) (fun n_2 => (if (p1 : Int32) < 0 then 0 else (slet (min (q_f8 n_2) 4) (fun u_5 => (if (p1 : Int32) < (nI u_5) then (slet ((p1 : Int32).toNatClampNeg) (fun n_7 => ((n_2 * 4 + n_7) + 1))) else 0)))))) else (if (100 : Int32) ≤ p0 ∧ p0 ≤ 107 then (slet (((p0 : Int32) - 100).toNatClampNeg) (fun n_9 => (slet (sp_E_8_isPlace_k np ((100 + n_9) - 100)) (fun u_13 => (if u_13 = 0 then 0 else (if (p1 : Int32) < 0 then 0 else (slet (min (q_f8 (14 + ((100 + n_9) - 100))) 4) (fun u_19 => (if (p1 : Int32) < (nI u_19) then (slet ((p1 : Int32).toNatClampNeg) (fun n_21 => (((14 + ((100 + n_9) - 100)) * 4 + n_21) + 1))) else 0))))))))) else (if (p0 : Int32) < 100 then 0 else (slet ((p0 : Int32) - 100) (fun y_24 => (if (0 : Int32) ≤ y_24 ∧ y_24 < nI np then (slet ((y_24 : Int32).toNatClampNeg) (fun n_26 => default)) else 0))))))
set_option maxHeartbeats 4000000 in
set_option maxRecDepth 100000 in
theorem c_E_8_slotOf (l : Launch) (dC : Nat → ClassId) (dI : Nat → Nat → Nat) (sz : Nat) (xa : Nat) (xtape : Nat) (tp : Nat) (rd : Nat) (au : Nat) (xdr : Nat) (hy : Nat) (g : Nat) (hs : Nat) (tg : Nat) (sg : Nat) (ss : Nat) (rm : Nat) (ti : Nat) (py : Nat) (bu : Nat) (sm : Nat) (nc : Nat) (np : Nat) (ne : Nat) (st0 : Int32) (q4 : Nat) (q5 : Nat) (q6 : Nat) (q7 : Nat) (q8 : Nat) (q9 : Nat) (q10 : Nat) (q11 : Nat) (q12 : Nat) (q13 : Nat) (q14 : Nat) (q15 : Nat) (q16 : Nat) (k_f4 : ClassId) (f4 : Nat → Int32) (k_f5 : ClassId) (q_f5 : Nat → Nat) (k_f6 : ClassId) (q_f6 : Nat → Nat) (k_f7 : ClassId) (f7 : Nat → Int32) (k_f8 : ClassId) (q_f8 : Nat → Nat) (k_f9 : ClassId) (q_f9 : Nat → Nat) (k_f10 : ClassId) (f10 : Nat → Int32) (k_f11 : ClassId) (f11 : Nat → Int32) (k_f12 : ClassId) (f12 : Nat → Int32) (k_f13 : ClassId) (f13 : Nat → Int32) (k_f14 : ClassId) (f14 : Nat → Int32) (k_f15 : ClassId) (f15 : Nat → Int32) (k_f16 : ClassId) (f16 : Nat → Int32) (p0 : Int32) (p1 : Int32) (htp : tp ≤ 900) (hhs : hs ≤ 1) (hss : ss ≤ 1) (hnc : nc ≤ 3) (hnp : np ≤ 8) (hne : ne ≤ 14) (hst0 : pm1 7 st0) : Met l yX8_slotOf vs_E_8_slotOf ({ frames := 1, cells := 0, slots := 0, locals := 21 }) (va_Pc [.ref xa, .int p0, .int p1] (pu_B (dC, dI) (xa__w xa xtape (nI tp) rd au xdr hy g (nI hs) tg sg (nI ss) rm ti py bu sm (nI nc) (nI np) (nI ne) st0 q4 q5 q6 q7 q8 q9 q10 q11 q12 q13 q14 q15 q16 k_f4 f4 k_f5 (bN 7 q_f5) k_f6 (bN 7 q_f6) k_f7 f7 k_f8 (bN 4 q_f8) k_f9 (bN 2 q_f9) k_f10 f10 k_f11 f11 k_f12 f12 k_f13 f13 k_f14 f14 k_f15 f15 k_f16 f16) (xa__t k_f4 k_f5 k_f6 k_f7 k_f8 k_f9 k_f10 k_f11 k_f12 k_f13 k_f14 k_f15 k_f16) sz)) (va_Qi (fun (r : Int32) (_ : Unit) => ∃ v : Nat, v ≤ 88 ∧ r = mI v ∧ v = (sp_E_8_slotOf np ne q_f8 p0 p1)) (fun _ _ => True) (va_A [] sz)) 0 0 (va_A [] sz) := by
  refine Met.ofW (cc := cX8_slotOf) (maxL := 4) (ret := (some .int)) (by decide) rfl ?_
  intro p e s m args below meth c s₁ B hml hv
  obtain ⟨rfl, rfl, hP, hK, hD0⟩ := hv
  have hx := B.exec
  have hb := B.bytes
  have hr := B.returns
  have hts := atoms_spec (ws := vs_E_8_slotOf) B.pre
  have v_6 := hts (.fieldLink RX8 23 "ClockReach" "model" "LClockReach$Automaton;") (List.mem_cons_of_mem _ cm_434)
  have v_7 := hts (.fieldLink RX8 148 "ClockReach$Automaton" "counts" "[I") (List.mem_cons_of_mem _ cm_468)
  have hown : s.vm.findClass RX8 = some m.cls := findClass_of_methodNamed B.named
  have hlocks := B.notSynchronized
  have hiX0 : ∀ w ∈ wsX00, w ∈ vs_E_8_slotOf := fun _ h => List.mem_cons_of_mem _ (cm_X0 h)
  have hiX8 : ∀ w ∈ wsX80, w ∈ vs_E_8_slotOf := fun _ h => List.mem_cons_of_mem _ (cm_X8 h)
  have hD := hD0
  have hA : ∀ q : Nat, s.heap.size ≤ q → va_A [] s.heap.size q := fun _ h => Or.inr h
  have hS : va_S (va_A [] s.heap.size) s.heap s.heap [] := va_S.rf
  have hl := lv_entry ([.ref xa, .int p0, .int p1]) (n := 4) (Nat.le_of_ble_eq_true rfl)
  rw [lg_entry_eq]
  generalize (lg_sl ([.ref xa, .int p0, .int p1]) ++ List.replicate (4 - (lg_sl ([.ref xa, .int p0, .int p1])).length) Slot.unset).toArray = ls at hl ⊢
  have hl : lv_has ls 4 [(0, .ref xa), (1, .int p0), (2, .int p1)] := hl
  obtain ⟨RR, hRR⟩ : ∃ x, x = (sp_E_8_slotOf np ne q_f8 p0 p1) := ⟨_, rfl⟩
  have hsp := hRR
  refine lv_iconst (v := (-1)) hx hb eX8_slotOf_0 (by decide) ?_
  refine lv_istore_n (lv' := [(3, .int (-1)), (0, .ref xa), (1, .int p0), (2, .int p1)]) hx hb eX8_slotOf_1 rfl hl (by decide) rfl (fun ls hl => ?_)
  refine lv_aload_n hx hb eX8_slotOf_2 rfl (lv_at hl 1 rfl) ?_
  refine lv_iload_n hx hb eX8_slotOf_3 rfl (lv_at hl 2 rfl) ?_
  have hPc : va_P (dC, dI) vwCl (xo__w xa xtape (nI tp) rd au xdr hy g (nI hs) tg sg (nI ss) rm ti py bu sm (nI nc) (nI np) (nI ne) st0 q4 q5 q6 q7 q8 q9 q10 q11 q12 q13 q14 q15 q16) _ := hP.sub [0, 1] rfl
  have hDc := hD.sub (ws' := (xo__w xa xtape (nI tp) rd au xdr hy g (nI hs) tg sg (nI ss) rm ti py bu sm (nI nc) (nI np) (nI ne) st0 q4 q5 q6 q7 q8 q9 q10 q11 q12 q13 q14 q15 q16)) [0, 1] (by decide) rfl
  have hKc : va_K (dC, dI) vwCl (xo__t ) s := hK.sub [] rfl
  refine va_calli (va_runV (As := [.int p0]) (rest := []) ⟨hx, hb, hml, hown, hts⟩ (c_E_8_isEdge l dC dI _ xa xtape tp rd au xdr hy g hs tg sg ss rm ti py bu sm nc np ne st0 q4 q5 q6 q7 q8 q9 q10 q11 q12 q13 q14 q15 q16 p0 htp hhs hss hnc hnp hne (hst0)) (cwV 1 hts g_E_8_slotOf_E_8_isEdge rfl rfl rfl (by decide +kernel) ⟨Nat.le_of_ble_eq_true rfl, Nat.le_of_ble_eq_true rfl⟩) ⟨pu_bl, va_recv hK hP (ci := 8) (q0 := 0) rfl rfl, pu_in hPc hKc hDc⟩ rfl rfl hl.1 rfl (lv_room (Nat.le_of_ble_eq_true rfl)) eX8_slotOf_4 ⟨Nat.le_of_ble_eq_true rfl, Nat.le_of_ble_eq_true rfl⟩) hS (fun q _ h => pu_fr hS hA q h) (pu_fr hS hA) (fun r_1 u t H1 locs ht hvm hw hB hz1 hk1 hS => ?_)
  have hP := pu_keep hP hk1
  clear hk1 hz1 ht hvm
  generalize H1 = H at hP hS ⊢
  rcases hw with ⟨rfl, hw⟩ | ⟨rfl, hn⟩
  · obtain ⟨n_2, hn_2, rfl⟩ := hw
    have hsp := hsp.trans (if_pos (in_q hn_2 (by omega)))
    have hsp := hsp.trans (slet_eq (nI_cl (n := n_2) (by omega)))
    refine lv_if_eq (tgt := 15) hx hb eX8_slotOf_7 (by decide) (fun z => absurd z (by decide)) (fun _ => ?_)
    refine lv_iload_n hx hb eX8_slotOf_10 rfl (lv_at hl 2 rfl) ?_
    refine lv_istore_n (lv' := [(3, .int (nI n_2)), (0, .ref xa), (1, .int (nI n_2)), (2, .int p1)]) hx hb eX8_slotOf_11 rfl hl (by decide) rfl (fun ls hl => ?_)
    refine lv_goto (tgt := 40) hx hb eX8_slotOf_12 (by decide) ?_
    refine lv_iload_n hx hb eX8_slotOf_40 rfl (lv_at hl 0 rfl) ?_
    refine lv_iconst (v := (-1)) hx hb eX8_slotOf_41 (by decide) ?_
    refine lv_icmp_eq (tgt := 62) hx hb eX8_slotOf_42 (by decide) (fun z => absurd z (pu_nneg (n := n_2) (by omega) (by decide))) (fun _ => ?_)
    refine lv_iload_n hx hb eX8_slotOf_45 rfl (lv_at hl 3 rfl) ?_
    refine lv_if_lt (tgt := 62) hx hb eX8_slotOf_46 (by decide) (fun c_3 => ?_) (fun c_3 => ?_)
    · have hcc_3 := c_3
      have hsp := hsp.trans (if_pos c_3)
      refine lv_iconst (v := (-1)) hx hb eX8_slotOf_62 (by decide) ?_
      exact W.iret (v := (-1)) hx hb hr (fun t ht hW => ⟨⟨(-1), (), rfl, ⟨0, by omega, rfl, (hsp.symm.trans hRR)⟩, trivial⟩, hS.F ht⟩) hS.2.2 eX8_slotOf_63
    · have hcc_3 := c_3
      have hsp := hsp.trans (if_neg c_3)
      have lp1 : ¬ p1 < 0 := c_3
      refine lv_iload_n hx hb eX8_slotOf_49 rfl (lv_at hl 3 rfl) ?_
      refine lv_aload_n hx hb eX8_slotOf_50 rfl (lv_at hl 1 rfl) ?_
      refine va_get (D := (dC, dI)) (ci := 8) (v := .ref au) (C := RX8) (T := TX8) (N := 16) hx hb hts hiX8 hown hK hP 0 rfl rfl 3 (by decide) v_6 (fun _ h9 => h9) rfl eX8_slotOf_51 ?_
      refine va_get (D := (dC, dI)) (ci := 0) (v := .ref q8) (C := RX0) (T := TX0) (N := 17) hx hb hts hiX0 hown hK hP 1 rfl rfl 8 (by decide) v_7 (fun _ h9 => h9) rfl eX8_slotOf_54 ?_
      refine lv_iload_n hx hb eX8_slotOf_57 rfl (lv_at hl 0 rfl) ?_
      refine va_iald hx hb hK hP 6 4 rfl rfl (vp_in_nI (n := n_2) (by omega) (Nat.le_of_ble_eq_true rfl)) eX8_slotOf_58 ?_
      refine lv_topi (fun y_4 ey_4 => ?_)
      obtain ⟨u_5, hu_5, qu_5, xu_5⟩ := bN_getx 4 q_f8 (n := n_2) (by omega)
      obtain rfl : y_4 = nI u_5 := ey_4.trans qu_5
      have hsp := hsp.trans (slet_eq xu_5)
      refine lv_icmp_lt (tgt := 64) hx hb eX8_slotOf_59 (by decide) (fun c_6 => ?_) (fun c_6 => ?_)
      · have hcc_6 := c_6
        have hsp := hsp.trans (if_pos c_6)
        obtain ⟨n_7, hn_7, rfl⟩ := pu_ult (b := u_5) (by omega) lp1 (c_6)
        have hsp := hsp.trans (slet_eq (nI_cl (n := n_7) (by omega)))
        refine lv_iload_n hx hb eX8_slotOf_64 rfl (lv_at hl 0 rfl) ?_
        refine lv_iload_n hx hb eX8_slotOf_65 rfl (lv_at hl 3 rfl) ?_
        refine va_calli (va_runS (As := [.int (nI n_2), .int (nI n_7)]) (rest := []) ⟨hx, hb, hml, hown, hts⟩ (c_E_0_slot l dC dI _ n_2 n_7 (by omega) (by omega)) (va_cwS 2 hts g_E_8_slotOf_E_0_slot rfl rfl rfl (by decide +kernel) ⟨Nat.le_of_ble_eq_true rfl, Nat.le_of_ble_eq_true rfl⟩) ⟨pu_bl, pu_in (hP.sub [] rfl) (hK.sub [] rfl) (hD.sub [] (by decide) rfl)⟩ rfl rfl hl.1 rfl (lv_room (Nat.le_of_ble_eq_true rfl)) eX8_slotOf_66 ⟨Nat.le_of_ble_eq_true rfl, Nat.le_of_ble_eq_true rfl⟩) hS (fun q _ h => pu_fr hS hA q h) (pu_fr hS hA) (fun r_8 u t H1 locs ht hvm hw hB hz1 hk1 hS => ?_)
        have hP := pu_keep hP hk1
        clear hk1 hz1 ht hvm
        generalize H1 = H at hP hS ⊢
        obtain rfl : r_8 = nI (n_2 * 4 + n_7) := hw
        exact W.iret (v := (nI (n_2 * 4 + n_7))) hx hb hr (fun t ht hW => ⟨⟨(nI (n_2 * 4 + n_7)), (), rfl, ⟨(n_2 * 4 + n_7) + 1, by omega, rfl, (hsp.symm.trans hRR)⟩, trivial⟩, hS.F ht⟩) hS.2.2 eX8_slotOf_69
      · have hcc_6 := c_6
        have hsp := hsp.trans (if_neg c_6)
        refine lv_iconst (v := (-1)) hx hb eX8_slotOf_62 (by decide) ?_
        exact W.iret (v := (-1)) hx hb hr (fun t ht hW => ⟨⟨(-1), (), rfl, ⟨0, by omega, rfl, (hsp.symm.trans hRR)⟩, trivial⟩, hS.F ht⟩) hS.2.2 eX8_slotOf_63
  · have hsp := hsp.trans (if_neg hn)
    refine lv_if_eq (tgt := 15) hx hb eX8_slotOf_7 (by decide) (fun _ => ?_) (fun z => absurd z (by decide))
    by_cases hn1 : (100 : Int32) ≤ p0 ∧ p0 ≤ 107
    · have hsp := hsp.trans (if_pos hn1)
      obtain ⟨n_9, hn_9, rfl⟩ := of_107 hn1
      have hsp := hsp.trans (slet_eq (cl_100 (n := n_9) (by omega)))
      refine lv_iload_n hx hb eX8_slotOf_15 rfl (lv_at hl 2 rfl) ?_
      refine lv_bipush (v := 100) hx hb eX8_slotOf_16 (by decide) ?_
      refine lv_icmp_lt (tgt := 40) hx hb eX8_slotOf_18 (by decide) (fun c_10 => ?_) (fun c_10 => ?_)
      · have c_10 : (100 + n_9) < 100 := (nI_ltI (a := (100 + n_9)) (b := 100) (by omega) (Nat.le_of_ble_eq_true rfl)).mp c_10
        exfalso
        omega
      · have c_10 : ¬ (100 + n_9) < 100 := fun z => c_10 ((nI_ltI (a := (100 + n_9)) (b := 100) (by omega) (Nat.le_of_ble_eq_true rfl)).mpr z)
        refine lv_aload_n hx hb eX8_slotOf_21 rfl (lv_at hl 1 rfl) ?_
        refine lv_iload_n hx hb eX8_slotOf_22 rfl (lv_at hl 2 rfl) ?_
        refine lv_bipush (v := 100) hx hb eX8_slotOf_23 (by decide) ?_
        refine lv_isub hx hb eX8_slotOf_25 ?_
        refine lv_topi (fun y_11 ey_11 => ?_)
        obtain rfl : y_11 = (nI ((100 + n_9) - 100)) := ey_11.trans (pk_sub (a := (100 + n_9)) (b := 100) (by omega))
        have hPc : va_P (dC, dI) vwCl (xo__w xa xtape (nI tp) rd au xdr hy g (nI hs) tg sg (nI ss) rm ti py bu sm (nI nc) (nI np) (nI ne) st0 q4 q5 q6 q7 q8 q9 q10 q11 q12 q13 q14 q15 q16) _ := hP.sub [0, 1] rfl
        have hDc := hD.sub (ws' := (xo__w xa xtape (nI tp) rd au xdr hy g (nI hs) tg sg (nI ss) rm ti py bu sm (nI nc) (nI np) (nI ne) st0 q4 q5 q6 q7 q8 q9 q10 q11 q12 q13 q14 q15 q16)) [0, 1] (by decide) rfl
        have hKc : va_K (dC, dI) vwCl (xo__t ) s := hK.sub [] rfl
        refine va_calli (va_runV (As := [.int (nI ((100 + n_9) - 100))]) (rest := []) ⟨hx, hb, hml, hown, hts⟩ (c_E_8_isPlace_k l dC dI _ xa xtape tp rd au xdr hy g hs tg sg ss rm ti py bu sm nc np ne st0 q4 q5 q6 q7 q8 q9 q10 q11 q12 q13 q14 q15 q16 ((100 + n_9) - 100) htp hhs hss hnc hnp hne (hst0) (by omega)) (cwV 1 hts g_E_8_slotOf_E_8_isPlace_k rfl rfl rfl (by decide +kernel) ⟨Nat.le_of_ble_eq_true rfl, Nat.le_of_ble_eq_true rfl⟩) ⟨pu_bl, va_recv hK hP (ci := 8) (q0 := 0) rfl rfl, pu_in hPc hKc hDc⟩ rfl rfl hl.1 rfl (lv_room (Nat.le_of_ble_eq_true rfl)) eX8_slotOf_26 ⟨Nat.le_of_ble_eq_true rfl, Nat.le_of_ble_eq_true rfl⟩) hS (fun q _ h => pu_fr hS hA q h) (pu_fr hS hA) (fun r_12 u t H1 locs ht hvm hw hB hz1 hk1 hS => ?_)
        have hP := pu_keep hP hk1
        clear hk1 hz1 ht hvm
        generalize H1 = H at hP hS ⊢
        obtain ⟨u_13, hu_13, rfl, iu_13⟩ := hw
        have hsp := hsp.trans (slet_eq iu_13)
        refine lv_if_eq (tgt := 40) hx hb eX8_slotOf_29 (by decide) (fun c_14 => ?_) (fun c_14 => ?_)
        · have c_14 : u_13 = 0 := (nI_eq (a := u_13) (b := 0) (Nat.lt_of_le_of_lt hu_13 (Nat.le_of_ble_eq_true rfl)) (Nat.le_of_ble_eq_true rfl)).mp c_14
          have hsp := hsp.trans (if_pos c_14)
          refine lv_iload_n hx hb eX8_slotOf_40 rfl (lv_at hl 0 rfl) ?_
          refine lv_iconst (v := (-1)) hx hb eX8_slotOf_41 (by decide) ?_
          refine lv_icmp_eq (tgt := 62) hx hb eX8_slotOf_42 (by decide) (fun _ => ?_) (fun z => absurd z (by decide))
          refine lv_iconst (v := (-1)) hx hb eX8_slotOf_62 (by decide) ?_
          exact W.iret (v := (-1)) hx hb hr (fun t ht hW => ⟨⟨(-1), (), rfl, ⟨0, by omega, rfl, (hsp.symm.trans hRR)⟩, trivial⟩, hS.F ht⟩) hS.2.2 eX8_slotOf_63
        · have c_14 : ¬ u_13 = 0 := fun z => c_14 ((nI_eq (a := u_13) (b := 0) (Nat.lt_of_le_of_lt hu_13 (Nat.le_of_ble_eq_true rfl)) (Nat.le_of_ble_eq_true rfl)).mpr z)
          have hsp := hsp.trans (if_neg c_14)
          refine lv_iload_n hx hb eX8_slotOf_32 rfl (lv_at hl 2 rfl) ?_
          refine lv_bipush (v := 100) hx hb eX8_slotOf_33 (by decide) ?_
          refine lv_isub hx hb eX8_slotOf_35 ?_
          refine lv_topi (fun y_15 ey_15 => ?_)
          obtain rfl : y_15 = (nI ((100 + n_9) - 100)) := ey_15.trans (pk_sub (a := (100 + n_9)) (b := 100) (by omega))
          refine va_calli (va_runS (As := [.int (nI ((100 + n_9) - 100))]) (rest := []) ⟨hx, hb, hml, hown, hts⟩ (c_E_0_hostOfPlace l dC dI _ ((100 + n_9) - 100) (by omega)) (va_cwS 1 hts g_E_8_slotOf_E_0_hostOfPlace rfl rfl rfl (by decide +kernel) ⟨Nat.le_of_ble_eq_true rfl, Nat.le_of_ble_eq_true rfl⟩) ⟨pu_bl, pu_in (hP.sub [] rfl) (hK.sub [] rfl) (hD.sub [] (by decide) rfl)⟩ rfl rfl hl.1 rfl (lv_room (Nat.le_of_ble_eq_true rfl)) eX8_slotOf_36 ⟨Nat.le_of_ble_eq_true rfl, Nat.le_of_ble_eq_true rfl⟩) hS (fun q _ h => pu_fr hS hA q h) (pu_fr hS hA) (fun r_16 u t H1 locs ht hvm hw hB hz1 hk1 hS => ?_)
          have hP := pu_keep hP hk1
          clear hk1 hz1 ht hvm
          generalize H1 = H at hP hS ⊢
          obtain rfl : r_16 = nI (14 + ((100 + n_9) - 100)) := hw
          refine lv_istore_n (lv' := [(3, .int (nI (14 + ((100 + n_9) - 100)))), (0, .ref xa), (1, .int (nI (100 + n_9))), (2, .int p1)]) hx hb eX8_slotOf_39 rfl hl (by decide) rfl (fun ls hl => ?_)
          refine lv_iload_n hx hb eX8_slotOf_40 rfl (lv_at hl 0 rfl) ?_
          refine lv_iconst (v := (-1)) hx hb eX8_slotOf_41 (by decide) ?_
          refine lv_icmp_eq (tgt := 62) hx hb eX8_slotOf_42 (by decide) (fun z => absurd z (pu_nneg (n := (14 + ((100 + n_9) - 100))) (by omega) (by decide))) (fun _ => ?_)
          refine lv_iload_n hx hb eX8_slotOf_45 rfl (lv_at hl 3 rfl) ?_
          refine lv_if_lt (tgt := 62) hx hb eX8_slotOf_46 (by decide) (fun c_17 => ?_) (fun c_17 => ?_)
          · have hcc_17 := c_17
            have hsp := hsp.trans (if_pos c_17)
            refine lv_iconst (v := (-1)) hx hb eX8_slotOf_62 (by decide) ?_
            exact W.iret (v := (-1)) hx hb hr (fun t ht hW => ⟨⟨(-1), (), rfl, ⟨0, by omega, rfl, (hsp.symm.trans hRR)⟩, trivial⟩, hS.F ht⟩) hS.2.2 eX8_slotOf_63
          · have hcc_17 := c_17
            have hsp := hsp.trans (if_neg c_17)
            have lp1 : ¬ p1 < 0 := c_17
            refine lv_iload_n hx hb eX8_slotOf_49 rfl (lv_at hl 3 rfl) ?_
            refine lv_aload_n hx hb eX8_slotOf_50 rfl (lv_at hl 1 rfl) ?_
            refine va_get (D := (dC, dI)) (ci := 8) (v := .ref au) (C := RX8) (T := TX8) (N := 16) hx hb hts hiX8 hown hK hP 0 rfl rfl 3 (by decide) v_6 (fun _ h9 => h9) rfl eX8_slotOf_51 ?_
            refine va_get (D := (dC, dI)) (ci := 0) (v := .ref q8) (C := RX0) (T := TX0) (N := 17) hx hb hts hiX0 hown hK hP 1 rfl rfl 8 (by decide) v_7 (fun _ h9 => h9) rfl eX8_slotOf_54 ?_
            refine lv_iload_n hx hb eX8_slotOf_57 rfl (lv_at hl 0 rfl) ?_
            refine va_iald hx hb hK hP 6 4 rfl rfl (vp_in_nI (n := (14 + ((100 + n_9) - 100))) (by omega) (Nat.le_of_ble_eq_true rfl)) eX8_slotOf_58 ?_
            refine lv_topi (fun y_18 ey_18 => ?_)
            obtain ⟨u_19, hu_19, qu_19, xu_19⟩ := bN_getx 4 q_f8 (n := (14 + ((100 + n_9) - 100))) (by omega)
            obtain rfl : y_18 = nI u_19 := ey_18.trans qu_19
            have hsp := hsp.trans (slet_eq xu_19)
            refine lv_icmp_lt (tgt := 64) hx hb eX8_slotOf_59 (by decide) (fun c_20 => ?_) (fun c_20 => ?_)
            · have hcc_20 := c_20
              have hsp := hsp.trans (if_pos c_20)
              obtain ⟨n_21, hn_21, rfl⟩ := pu_ult (b := u_19) (by omega) lp1 (c_20)
              have hsp := hsp.trans (slet_eq (nI_cl (n := n_21) (by omega)))
              refine lv_iload_n hx hb eX8_slotOf_64 rfl (lv_at hl 0 rfl) ?_
              refine lv_iload_n hx hb eX8_slotOf_65 rfl (lv_at hl 3 rfl) ?_
              refine va_calli (va_runS (As := [.int (nI (14 + ((100 + n_9) - 100))), .int (nI n_21)]) (rest := []) ⟨hx, hb, hml, hown, hts⟩ (c_E_0_slot l dC dI _ (14 + ((100 + n_9) - 100)) n_21 (by omega) (by omega)) (va_cwS 2 hts g_E_8_slotOf_E_0_slot rfl rfl rfl (by decide +kernel) ⟨Nat.le_of_ble_eq_true rfl, Nat.le_of_ble_eq_true rfl⟩) ⟨pu_bl, pu_in (hP.sub [] rfl) (hK.sub [] rfl) (hD.sub [] (by decide) rfl)⟩ rfl rfl hl.1 rfl (lv_room (Nat.le_of_ble_eq_true rfl)) eX8_slotOf_66 ⟨Nat.le_of_ble_eq_true rfl, Nat.le_of_ble_eq_true rfl⟩) hS (fun q _ h => pu_fr hS hA q h) (pu_fr hS hA) (fun r_22 u t H1 locs ht hvm hw hB hz1 hk1 hS => ?_)
              have hP := pu_keep hP hk1
              clear hk1 hz1 ht hvm
              generalize H1 = H at hP hS ⊢
              obtain rfl : r_22 = nI ((14 + ((100 + n_9) - 100)) * 4 + n_21) := hw
              exact W.iret (v := (nI ((14 + ((100 + n_9) - 100)) * 4 + n_21))) hx hb hr (fun t ht hW => ⟨⟨(nI ((14 + ((100 + n_9) - 100)) * 4 + n_21)), (), rfl, ⟨((14 + ((100 + n_9) - 100)) * 4 + n_21) + 1, by omega, rfl, (hsp.symm.trans hRR)⟩, trivial⟩, hS.F ht⟩) hS.2.2 eX8_slotOf_69
            · have hcc_20 := c_20
              have hsp := hsp.trans (if_neg c_20)
              refine lv_iconst (v := (-1)) hx hb eX8_slotOf_62 (by decide) ?_
              exact W.iret (v := (-1)) hx hb hr (fun t ht hW => ⟨⟨(-1), (), rfl, ⟨0, by omega, rfl, (hsp.symm.trans hRR)⟩, trivial⟩, hS.F ht⟩) hS.2.2 eX8_slotOf_63
    · have hsp := hsp.trans (if_neg hn1)
      refine lv_iload_n hx hb eX8_slotOf_15 rfl (lv_at hl 2 rfl) ?_
      refine lv_bipush (v := 100) hx hb eX8_slotOf_16 (by decide) ?_
      refine lv_icmp_lt (tgt := 40) hx hb eX8_slotOf_18 (by decide) (fun c_23 => ?_) (fun c_23 => ?_)
      · have hcc_23 := c_23
        have hsp := hsp.trans (if_pos c_23)
        refine lv_iload_n hx hb eX8_slotOf_40 rfl (lv_at hl 0 rfl) ?_
        refine lv_iconst (v := (-1)) hx hb eX8_slotOf_41 (by decide) ?_
        refine lv_icmp_eq (tgt := 62) hx hb eX8_slotOf_42 (by decide) (fun _ => ?_) (fun z => absurd z (by decide))
        refine lv_iconst (v := (-1)) hx hb eX8_slotOf_62 (by decide) ?_
        exact W.iret (v := (-1)) hx hb hr (fun t ht hW => ⟨⟨(-1), (), rfl, ⟨0, by omega, rfl, (hsp.symm.trans hRR)⟩, trivial⟩, hS.F ht⟩) hS.2.2 eX8_slotOf_63
      · have hcc_23 := c_23
        have hsp := hsp.trans (if_neg c_23)
        refine lv_aload_n hx hb eX8_slotOf_21 rfl (lv_at hl 1 rfl) ?_
        refine lv_iload_n hx hb eX8_slotOf_22 rfl (lv_at hl 2 rfl) ?_
        refine lv_bipush (v := 100) hx hb eX8_slotOf_23 (by decide) ?_
        refine lv_isub hx hb eX8_slotOf_25 ?_
        refine lv_topi (fun y_24 ey_24 => ?_)
        have hsp := hsp.trans (slet_eq ey_24)
        have hPc : va_P (dC, dI) vwCl (xo__w xa xtape (nI tp) rd au xdr hy g (nI hs) tg sg (nI ss) rm ti py bu sm (nI nc) (nI np) (nI ne) st0 q4 q5 q6 q7 q8 q9 q10 q11 q12 q13 q14 q15 q16) _ := hP.sub [0, 1] rfl
        have hDc := hD.sub (ws' := (xo__w xa xtape (nI tp) rd au xdr hy g (nI hs) tg sg (nI ss) rm ti py bu sm (nI nc) (nI np) (nI ne) st0 q4 q5 q6 q7 q8 q9 q10 q11 q12 q13 q14 q15 q16)) [0, 1] (by decide) rfl
        have hKc : va_K (dC, dI) vwCl (xo__t ) s := hK.sub [] rfl
        refine va_calli (va_runV (As := [.int y_24]) (rest := []) ⟨hx, hb, hml, hown, hts⟩ (c_E_8_isPlace l dC dI _ xa xtape tp rd au xdr hy g hs tg sg ss rm ti py bu sm nc np ne st0 q4 q5 q6 q7 q8 q9 q10 q11 q12 q13 q14 q15 q16 y_24 htp hhs hss hnc hnp hne (hst0)) (cwV 1 hts g_E_8_slotOf_E_8_isPlace rfl rfl rfl (by decide +kernel) ⟨Nat.le_of_ble_eq_true rfl, Nat.le_of_ble_eq_true rfl⟩) ⟨pu_bl, va_recv hK hP (ci := 8) (q0 := 0) rfl rfl, pu_in hPc hKc hDc⟩ rfl rfl hl.1 rfl (lv_room (Nat.le_of_ble_eq_true rfl)) eX8_slotOf_26 ⟨Nat.le_of_ble_eq_true rfl, Nat.le_of_ble_eq_true rfl⟩) hS (fun q _ h => pu_fr hS hA q h) (pu_fr hS hA) (fun r_25 u t H1 locs ht hvm hw hB hz1 hk1 hS => ?_)
        have hP := pu_keep hP hk1
        clear hk1 hz1 ht hvm
        generalize H1 = H at hP hS ⊢
        rcases hw with ⟨rfl, hw⟩ | ⟨rfl, hn⟩
        · obtain ⟨n_26, hn_26, rfl⟩ := hw
          have hsp := hsp.trans (if_pos (in_q hn_26 (by omega)))
          have hsp := hsp.trans (slet_eq (nI_cl (n := n_26) (by omega)))
          exact absurd (to_107 (by omega) (pu_p100 ey_24)) hn1
        · have hsp := hsp.trans (if_neg hn)
          refine lv_if_eq (tgt := 40) hx hb eX8_slotOf_29 (by decide) (fun _ => ?_) (fun z => absurd z (by decide))
          refine lv_iload_n hx hb eX8_slotOf_40 rfl (lv_at hl 0 rfl) ?_
          refine lv_iconst (v := (-1)) hx hb eX8_slotOf_41 (by decide) ?_
          refine lv_icmp_eq (tgt := 62) hx hb eX8_slotOf_42 (by decide) (fun _ => ?_) (fun z => absurd z (by decide))
          refine lv_iconst (v := (-1)) hx hb eX8_slotOf_62 (by decide) ?_
          exact W.iret (v := (-1)) hx hb hr (fun t ht hW => ⟨⟨(-1), (), rfl, ⟨0, by omega, rfl, (hsp.symm.trans hRR)⟩, trivial⟩, hS.F ht⟩) hS.2.2 eX8_slotOf_63
theorem eX8_condition_0 : decode cX8_condition 0 = .ok (.aload_n 0, 1) := by decide +kernel
theorem eX8_condition_1 : decode cX8_condition 1 = .ok (.iload_n 1, 1) := by decide +kernel
theorem eX8_condition_2 : decode cX8_condition 2 = .ok (.iload_n 2, 1) := by decide +kernel
theorem eX8_condition_3 : decode cX8_condition 3 = .ok (.invokevirtual 171, 3) := by decide +kernel
theorem eX8_condition_6 : decode cX8_condition 6 = .ok (.istore 4, 2) := by decide +kernel
theorem eX8_condition_8 : decode cX8_condition 8 = .ok (.iload 4, 2) := by decide +kernel
theorem eX8_condition_10 : decode cX8_condition 10 = .ok (.iconst (-1), 1) := by decide +kernel
theorem eX8_condition_11 : decode cX8_condition 11 = .ok (.if_icmp .ne 5, 3) := by decide +kernel
theorem eX8_condition_14 : decode cX8_condition 14 = .ok (.iconst (-1), 1) := by decide +kernel
theorem eX8_condition_15 : decode cX8_condition 15 = .ok (.ireturn, 1) := by decide +kernel
theorem eX8_condition_16 : decode cX8_condition 16 = .ok (.iload_n 3, 1) := by decide +kernel
theorem eX8_condition_17 : decode cX8_condition 17 = .ok (.tableswitch 60 0 2 #[27, 38, 49], 27) := by decide +kernel
theorem eX8_condition_44 : decode cX8_condition 44 = .ok (.aload_n 0, 1) := by decide +kernel
theorem eX8_condition_45 : decode cX8_condition 45 = .ok (.getfield 23, 3) := by decide +kernel
theorem eX8_condition_48 : decode cX8_condition 48 = .ok (.getfield 175, 3) := by decide +kernel
theorem eX8_condition_51 : decode cX8_condition 51 = .ok (.iload 4, 2) := by decide +kernel
theorem eX8_condition_53 : decode cX8_condition 53 = .ok (.iaload, 1) := by decide +kernel
theorem eX8_condition_54 : decode cX8_condition 54 = .ok (.ireturn, 1) := by decide +kernel
theorem eX8_condition_55 : decode cX8_condition 55 = .ok (.aload_n 0, 1) := by decide +kernel
theorem eX8_condition_56 : decode cX8_condition 56 = .ok (.getfield 23, 3) := by decide +kernel
theorem eX8_condition_59 : decode cX8_condition 59 = .ok (.getfield 178, 3) := by decide +kernel
theorem eX8_condition_62 : decode cX8_condition 62 = .ok (.iload 4, 2) := by decide +kernel
theorem eX8_condition_64 : decode cX8_condition 64 = .ok (.iaload, 1) := by decide +kernel
theorem eX8_condition_65 : decode cX8_condition 65 = .ok (.ireturn, 1) := by decide +kernel
theorem eX8_condition_66 : decode cX8_condition 66 = .ok (.aload_n 0, 1) := by decide +kernel
theorem eX8_condition_67 : decode cX8_condition 67 = .ok (.getfield 23, 3) := by decide +kernel
theorem eX8_condition_70 : decode cX8_condition 70 = .ok (.getfield 181, 3) := by decide +kernel
theorem eX8_condition_73 : decode cX8_condition 73 = .ok (.iload 4, 2) := by decide +kernel
theorem eX8_condition_75 : decode cX8_condition 75 = .ok (.iaload, 1) := by decide +kernel
theorem eX8_condition_76 : decode cX8_condition 76 = .ok (.ireturn, 1) := by decide +kernel
theorem eX8_condition_77 : decode cX8_condition 77 = .ok (.iconst (-1), 1) := by decide +kernel
theorem eX8_condition_78 : decode cX8_condition 78 = .ok (.ireturn, 1) := by decide +kernel
abbrev vs_E_8_condition : List Cond := .code yX8_condition cX8_condition 5 (some .int) :: CM
theorem g_E_8_condition_E_8_slotOf : GoodIn vs_E_8_condition (wsV RX8 171 RX8 yX8_slotOf vs_E_8_slotOf) := cm_gV cm_490 cm_491 cm_492 cm_427 cm_493
noncomputable def sp_E_8_condition (np : Nat) (ne : Nat) (q_f8 : Nat → Nat) (q_f9 : Nat → Nat) (f10 : Nat → Int32) (f11 : Nat → Int32) (p0 : Int32) (p1 : Int32) (p2 : Int32) : Int32 := (slet (sp_E_8_slotOf np ne q_f8 p0 p1) (fun u_2 => (if u_2 = 0 then (-1) else (slet (u_2 - 1) (fun n_3 => (if (p2 : Int32) = 0 then (slet (min (q_f9 n_3) 2) (fun u_6 => (nI u_6))) else (if (p2 : Int32) = 1 then (slet (f10 n_3) (fun y_8 => y_8)) else (if (p2 : Int32) = 2 then (slet (f11 n_3) (fun y_10 => y_10)) else (-1)))))))))
set_option maxHeartbeats 4000000 in
set_option maxRecDepth 100000 in
theorem c_E_8_condition (l : Launch) (dC : Nat → ClassId) (dI : Nat → Nat → Nat) (sz : Nat) (xa : Nat) (xtape : Nat) (tp : Nat) (rd : Nat) (au : Nat) (xdr : Nat) (hy : Nat) (g : Nat) (hs : Nat) (tg : Nat) (sg : Nat) (ss : Nat) (rm : Nat) (ti : Nat) (py : Nat) (bu : Nat) (sm : Nat) (nc : Nat) (np : Nat) (ne : Nat) (st0 : Int32) (q4 : Nat) (q5 : Nat) (q6 : Nat) (q7 : Nat) (q8 : Nat) (q9 : Nat) (q10 : Nat) (q11 : Nat) (q12 : Nat) (q13 : Nat) (q14 : Nat) (q15 : Nat) (q16 : Nat) (k_f4 : ClassId) (f4 : Nat → Int32) (k_f5 : ClassId) (q_f5 : Nat → Nat) (k_f6 : ClassId) (q_f6 : Nat → Nat) (k_f7 : ClassId) (f7 : Nat → Int32) (k_f8 : ClassId) (q_f8 : Nat → Nat) (k_f9 : ClassId) (q_f9 : Nat → Nat) (k_f10 : ClassId) (f10 : Nat → Int32) (k_f11 : ClassId) (f11 : Nat → Int32) (k_f12 : ClassId) (f12 : Nat → Int32) (k_f13 : ClassId) (f13 : Nat → Int32) (k_f14 : ClassId) (f14 : Nat → Int32) (k_f15 : ClassId) (f15 : Nat → Int32) (k_f16 : ClassId) (f16 : Nat → Int32) (p0 : Int32) (p1 : Int32) (p2 : Int32) (htp : tp ≤ 900) (hhs : hs ≤ 1) (hss : ss ≤ 1) (hnc : nc ≤ 3) (hnp : np ≤ 8) (hne : ne ≤ 14) (hst0 : pm1 7 st0) : Met l yX8_condition vs_E_8_condition ({ frames := 2, cells := 0, slots := 0, locals := 44 }) (va_Pc [.ref xa, .int p0, .int p1, .int p2] (pu_B (dC, dI) (xa__w xa xtape (nI tp) rd au xdr hy g (nI hs) tg sg (nI ss) rm ti py bu sm (nI nc) (nI np) (nI ne) st0 q4 q5 q6 q7 q8 q9 q10 q11 q12 q13 q14 q15 q16 k_f4 f4 k_f5 (bN 7 q_f5) k_f6 (bN 7 q_f6) k_f7 f7 k_f8 (bN 4 q_f8) k_f9 (bN 2 q_f9) k_f10 f10 k_f11 f11 k_f12 f12 k_f13 f13 k_f14 f14 k_f15 f15 k_f16 f16) (xa__t k_f4 k_f5 k_f6 k_f7 k_f8 k_f9 k_f10 k_f11 k_f12 k_f13 k_f14 k_f15 k_f16) sz)) (va_Qi (fun (r : Int32) (_ : Unit) => r = (sp_E_8_condition np ne q_f8 q_f9 f10 f11 p0 p1 p2)) (fun _ _ => True) (va_A [] sz)) 0 0 (va_A [] sz) := by
  refine Met.ofW (cc := cX8_condition) (maxL := 5) (ret := (some .int)) (by decide) rfl ?_
  intro p e s m args below meth c s₁ B hml hv
  obtain ⟨rfl, rfl, hP, hK, hD0⟩ := hv
  have hx := B.exec
  have hb := B.bytes
  have hr := B.returns
  have hts := atoms_spec (ws := vs_E_8_condition) B.pre
  have v_6 := hts (.fieldLink RX8 23 "ClockReach" "model" "LClockReach$Automaton;") (List.mem_cons_of_mem _ cm_434)
  have v_7 := hts (.fieldLink RX8 175 "ClockReach$Automaton" "conditionClocks" "[I") (List.mem_cons_of_mem _ cm_487)
  have v_8 := hts (.fieldLink RX8 178 "ClockReach$Automaton" "hows" "[I") (List.mem_cons_of_mem _ cm_488)
  have v_9 := hts (.fieldLink RX8 181 "ClockReach$Automaton" "numbers" "[I") (List.mem_cons_of_mem _ cm_489)
  have hown : s.vm.findClass RX8 = some m.cls := findClass_of_methodNamed B.named
  have hlocks := B.notSynchronized
  have hiX0 : ∀ w ∈ wsX00, w ∈ vs_E_8_condition := fun _ h => List.mem_cons_of_mem _ (cm_X0 h)
  have hiX8 : ∀ w ∈ wsX80, w ∈ vs_E_8_condition := fun _ h => List.mem_cons_of_mem _ (cm_X8 h)
  have hD := hD0
  have hA : ∀ q : Nat, s.heap.size ≤ q → va_A [] s.heap.size q := fun _ h => Or.inr h
  have hS : va_S (va_A [] s.heap.size) s.heap s.heap [] := va_S.rf
  have hl := lv_entry ([.ref xa, .int p0, .int p1, .int p2]) (n := 5) (Nat.le_of_ble_eq_true rfl)
  rw [lg_entry_eq]
  generalize (lg_sl ([.ref xa, .int p0, .int p1, .int p2]) ++ List.replicate (5 - (lg_sl ([.ref xa, .int p0, .int p1, .int p2])).length) Slot.unset).toArray = ls at hl ⊢
  have hl : lv_has ls 5 [(0, .ref xa), (1, .int p0), (2, .int p1), (3, .int p2)] := hl
  obtain ⟨RR, hRR⟩ : ∃ x, x = (sp_E_8_condition np ne q_f8 q_f9 f10 f11 p0 p1 p2) := ⟨_, rfl⟩
  have hsp := hRR
  refine lv_aload_n hx hb eX8_condition_0 rfl (lv_at hl 0 rfl) ?_
  refine lv_iload_n hx hb eX8_condition_1 rfl (lv_at hl 1 rfl) ?_
  refine lv_iload_n hx hb eX8_condition_2 rfl (lv_at hl 2 rfl) ?_
  refine va_calli (va_runV (As := [.int p0, .int p1]) (rest := []) ⟨hx, hb, hml, hown, hts⟩ (c_E_8_slotOf l dC dI _ xa xtape tp rd au xdr hy g hs tg sg ss rm ti py bu sm nc np ne st0 q4 q5 q6 q7 q8 q9 q10 q11 q12 q13 q14 q15 q16 k_f4 f4 k_f5 q_f5 k_f6 q_f6 k_f7 f7 k_f8 q_f8 k_f9 q_f9 k_f10 f10 k_f11 f11 k_f12 f12 k_f13 f13 k_f14 f14 k_f15 f15 k_f16 f16 p0 p1 htp hhs hss hnc hnp hne (hst0)) (cwV 2 hts g_E_8_condition_E_8_slotOf rfl rfl rfl (by decide +kernel) ⟨Nat.le_of_ble_eq_true rfl, Nat.le_of_ble_eq_true rfl⟩) ⟨pu_bl, va_recv hK hP (ci := 8) (q0 := 0) rfl rfl, pu_in hP hK hD⟩ rfl rfl hl.1 rfl (lv_room (Nat.le_of_ble_eq_true rfl)) eX8_condition_3 ⟨Nat.le_of_ble_eq_true rfl, Nat.le_of_ble_eq_true rfl⟩) hS (fun q _ h => pu_fr hS hA q h) (pu_fr hS hA) (fun r_1 u t H1 locs ht hvm hw hB hz1 hk1 hS => ?_)
  have hP := pu_keep hP hk1
  clear hk1 hz1 ht hvm
  generalize H1 = H at hP hS ⊢
  obtain ⟨u_2, hu_2, mu_2, iu_2⟩ := hw
  have hsp := hsp.trans (slet_eq iu_2)
  rcases mI_get u_2 with ⟨zn_3, wn_3⟩ | ⟨n_3, zn_3, wn_3⟩
  · obtain rfl : r_1 = -1 := mu_2.trans wn_3
    have hsp := hsp.trans (if_pos zn_3)
    refine lv_istore (lv' := [(4, .int (-1)), (0, .ref xa), (1, .int p0), (2, .int p1), (3, .int p2)]) hx hb eX8_condition_6 hl (by decide) rfl (fun ls hl => ?_)
    refine lv_iload hx hb eX8_condition_8 (lv_at hl 0 rfl) ?_
    refine lv_iconst (v := (-1)) hx hb eX8_condition_10 (by decide) ?_
    refine lv_icmp_ne (tgt := 16) hx hb eX8_condition_11 (by decide) (fun z => absurd z (by decide)) (fun _ => ?_)
    refine lv_iconst (v := (-1)) hx hb eX8_condition_14 (by decide) ?_
    exact W.iret (v := (-1)) hx hb hr (fun t ht hW => ⟨⟨(-1), (), rfl, (hsp.symm.trans hRR), trivial⟩, hS.F ht⟩) hS.2.2 eX8_condition_15
  · obtain rfl : r_1 = nI n_3 := mu_2.trans wn_3
    have hn_3 : n_3 ≤ 87 := by omega
    have hsp := hsp.trans (if_neg (by omega))
    have hsp := hsp.trans (slet_eq (by omega : n_3 = u_2 - 1))
    refine lv_istore (lv' := [(4, .int (nI n_3)), (0, .ref xa), (1, .int p0), (2, .int p1), (3, .int p2)]) hx hb eX8_condition_6 hl (by decide) rfl (fun ls hl => ?_)
    refine lv_iload hx hb eX8_condition_8 (lv_at hl 0 rfl) ?_
    refine lv_iconst (v := (-1)) hx hb eX8_condition_10 (by decide) ?_
    refine lv_icmp_ne (tgt := 16) hx hb eX8_condition_11 (by decide) (fun _ => ?_) (fun z => absurd z (pu_nneg (n := n_3) (by omega) (by decide)))
    refine lv_iload_n hx hb eX8_condition_16 rfl (lv_at hl 4 rfl) ?_
    by_cases w_4 : p2 = 0
    · subst w_4
      have hsp := hsp.trans (if_pos rfl)
      refine lv_tableIn (tgt := 44) (off := 27) hx hb eX8_condition_17 (by decide) (by decide) rfl (by decide) ?_
      refine lv_aload_n hx hb eX8_condition_44 rfl (lv_at hl 1 rfl) ?_
      refine va_get (D := (dC, dI)) (ci := 8) (v := .ref au) (C := RX8) (T := TX8) (N := 16) hx hb hts hiX8 hown hK hP 0 rfl rfl 3 (by decide) v_6 (fun _ h9 => h9) rfl eX8_condition_45 ?_
      refine va_get (D := (dC, dI)) (ci := 0) (v := .ref q9) (C := RX0) (T := TX0) (N := 17) hx hb hts hiX0 hown hK hP 1 rfl rfl 9 (by decide) v_7 (fun _ h9 => h9) rfl eX8_condition_48 ?_
      refine lv_iload hx hb eX8_condition_51 (lv_at hl 0 rfl) ?_
      refine va_iald hx hb hK hP 7 5 rfl rfl (vp_in_nI (n := n_3) (Nat.lt_of_le_of_lt hn_3 (Nat.le_of_ble_eq_true rfl)) (Nat.le_of_ble_eq_true rfl)) eX8_condition_53 ?_
      refine lv_topi (fun y_5 ey_5 => ?_)
      obtain ⟨u_6, hu_6, qu_6, xu_6⟩ := bN_getx 2 q_f9 (n := n_3) (Nat.lt_of_le_of_lt hn_3 (Nat.le_of_ble_eq_true rfl))
      obtain rfl : y_5 = nI u_6 := ey_5.trans qu_6
      have hsp := hsp.trans (slet_eq xu_6)
      exact W.iret (v := (nI u_6)) hx hb hr (fun t ht hW => ⟨⟨(nI u_6), (), rfl, (hsp.symm.trans hRR), trivial⟩, hS.F ht⟩) hS.2.2 eX8_condition_54
    have hsp := hsp.trans (if_neg w_4)
    by_cases w_7 : p2 = 1
    · subst w_7
      have hsp := hsp.trans (if_pos rfl)
      refine lv_tableIn (tgt := 55) (off := 38) hx hb eX8_condition_17 (by decide) (by decide) rfl (by decide) ?_
      refine lv_aload_n hx hb eX8_condition_55 rfl (lv_at hl 1 rfl) ?_
      refine va_get (D := (dC, dI)) (ci := 8) (v := .ref au) (C := RX8) (T := TX8) (N := 16) hx hb hts hiX8 hown hK hP 0 rfl rfl 3 (by decide) v_6 (fun _ h9 => h9) rfl eX8_condition_56 ?_
      refine va_get (D := (dC, dI)) (ci := 0) (v := .ref q10) (C := RX0) (T := TX0) (N := 17) hx hb hts hiX0 hown hK hP 1 rfl rfl 10 (by decide) v_8 (fun _ h9 => h9) rfl eX8_condition_59 ?_
      refine lv_iload hx hb eX8_condition_62 (lv_at hl 0 rfl) ?_
      refine va_iald hx hb hK hP 8 6 rfl rfl (vp_in_nI (n := n_3) (Nat.lt_of_le_of_lt hn_3 (Nat.le_of_ble_eq_true rfl)) (Nat.le_of_ble_eq_true rfl)) eX8_condition_64 ?_
      refine lv_topi (fun y_8 ey_8 => ?_)
      have ey_8 : y_8 = f10 n_3 := ey_8.trans (congrArg f10 (nI_clamp (n := n_3) (Nat.lt_of_le_of_lt hn_3 (Nat.le_of_ble_eq_true rfl))))
      have hsp := hsp.trans (slet_eq ey_8)
      exact W.iret (v := y_8) hx hb hr (fun t ht hW => ⟨⟨y_8, (), rfl, (hsp.symm.trans hRR), trivial⟩, hS.F ht⟩) hS.2.2 eX8_condition_65
    have hsp := hsp.trans (if_neg w_7)
    by_cases w_9 : p2 = 2
    · subst w_9
      have hsp := hsp.trans (if_pos rfl)
      refine lv_tableIn (tgt := 66) (off := 49) hx hb eX8_condition_17 (by decide) (by decide) rfl (by decide) ?_
      refine lv_aload_n hx hb eX8_condition_66 rfl (lv_at hl 1 rfl) ?_
      refine va_get (D := (dC, dI)) (ci := 8) (v := .ref au) (C := RX8) (T := TX8) (N := 16) hx hb hts hiX8 hown hK hP 0 rfl rfl 3 (by decide) v_6 (fun _ h9 => h9) rfl eX8_condition_67 ?_
      refine va_get (D := (dC, dI)) (ci := 0) (v := .ref q11) (C := RX0) (T := TX0) (N := 17) hx hb hts hiX0 hown hK hP 1 rfl rfl 11 (by decide) v_9 (fun _ h9 => h9) rfl eX8_condition_70 ?_
      refine lv_iload hx hb eX8_condition_73 (lv_at hl 0 rfl) ?_
      refine va_iald hx hb hK hP 9 7 rfl rfl (vp_in_nI (n := n_3) (Nat.lt_of_le_of_lt hn_3 (Nat.le_of_ble_eq_true rfl)) (Nat.le_of_ble_eq_true rfl)) eX8_condition_75 ?_
      refine lv_topi (fun y_10 ey_10 => ?_)
      have ey_10 : y_10 = f11 n_3 := ey_10.trans (congrArg f11 (nI_clamp (n := n_3) (Nat.lt_of_le_of_lt hn_3 (Nat.le_of_ble_eq_true rfl))))
      have hsp := hsp.trans (slet_eq ey_10)
      exact W.iret (v := y_10) hx hb hr (fun t ht hW => ⟨⟨y_10, (), rfl, (hsp.symm.trans hRR), trivial⟩, hS.F ht⟩) hS.2.2 eX8_condition_76
    have hsp := hsp.trans (if_neg w_9)
    refine lv_tableOut (tgt := 77) hx hb eX8_condition_17 (by
        have zw_4 : Int32.toInt p2 ≠ 0 := fun g => w_4 ((fa_eq _ _).mpr g)
        have zw_7 : Int32.toInt p2 ≠ 1 := fun g => w_7 ((fa_eq _ _).mpr g)
        have zw_9 : Int32.toInt p2 ≠ 2 := fun g => w_9 ((fa_eq _ _).mpr g)
        omega) (by decide) ?_
    refine lv_iconst (v := (-1)) hx hb eX8_condition_77 (by decide) ?_
    exact W.iret (v := (-1)) hx hb hr (fun t ht hW => ⟨⟨(-1), (), rfl, (hsp.symm.trans hRR), trivial⟩, hS.F ht⟩) hS.2.2 eX8_condition_78
theorem eX8_number_0 : decode cX8_number 0 = .ok (.aload_n 0, 1) := by decide +kernel
theorem eX8_number_1 : decode cX8_number 1 = .ok (.iload_n 1, 1) := by decide +kernel
theorem eX8_number_2 : decode cX8_number 2 = .ok (.iload_n 2, 1) := by decide +kernel
theorem eX8_number_3 : decode cX8_number 3 = .ok (.invokevirtual 171, 3) := by decide +kernel
theorem eX8_number_6 : decode cX8_number 6 = .ok (.istore 4, 2) := by decide +kernel
theorem eX8_number_8 : decode cX8_number 8 = .ok (.iload 4, 2) := by decide +kernel
theorem eX8_number_10 : decode cX8_number 10 = .ok (.iconst (-1), 1) := by decide +kernel
theorem eX8_number_11 : decode cX8_number 11 = .ok (.if_icmp .eq 13, 3) := by decide +kernel
theorem eX8_number_14 : decode cX8_number 14 = .ok (.iload_n 3, 1) := by decide +kernel
theorem eX8_number_15 : decode cX8_number 15 = .ok (.ifCond .lt 9, 3) := by decide +kernel
theorem eX8_number_18 : decode cX8_number 18 = .ok (.iload_n 3, 1) := by decide +kernel
theorem eX8_number_19 : decode cX8_number 19 = .ok (.bipush 20, 2) := by decide +kernel
theorem eX8_number_21 : decode cX8_number 21 = .ok (.if_icmp .le 5, 3) := by decide +kernel
theorem eX8_number_24 : decode cX8_number 24 = .ok (.iconst (-1), 1) := by decide +kernel
theorem eX8_number_25 : decode cX8_number 25 = .ok (.ireturn, 1) := by decide +kernel
theorem eX8_number_26 : decode cX8_number 26 = .ok (.aload_n 0, 1) := by decide +kernel
theorem eX8_number_27 : decode cX8_number 27 = .ok (.getfield 23, 3) := by decide +kernel
theorem eX8_number_30 : decode cX8_number 30 = .ok (.getfield 181, 3) := by decide +kernel
theorem eX8_number_33 : decode cX8_number 33 = .ok (.iload 4, 2) := by decide +kernel
theorem eX8_number_35 : decode cX8_number 35 = .ok (.iaload, 1) := by decide +kernel
theorem eX8_number_36 : decode cX8_number 36 = .ok (.istore 5, 2) := by decide +kernel
theorem eX8_number_38 : decode cX8_number 38 = .ok (.iload 5, 2) := by decide +kernel
theorem eX8_number_40 : decode cX8_number 40 = .ok (.iload_n 3, 1) := by decide +kernel
theorem eX8_number_41 : decode cX8_number 41 = .ok (.if_icmp .ne 5, 3) := by decide +kernel
theorem eX8_number_44 : decode cX8_number 44 = .ok (.iconst (-1), 1) := by decide +kernel
theorem eX8_number_45 : decode cX8_number 45 = .ok (.ireturn, 1) := by decide +kernel
theorem eX8_number_46 : decode cX8_number 46 = .ok (.aload_n 0, 1) := by decide +kernel
theorem eX8_number_47 : decode cX8_number 47 = .ok (.getfield 33, 3) := by decide +kernel
theorem eX8_number_50 : decode cX8_number 50 = .ok (.iload 4, 2) := by decide +kernel
theorem eX8_number_52 : decode cX8_number 52 = .ok (.iload 5, 2) := by decide +kernel
theorem eX8_number_54 : decode cX8_number 54 = .ok (.invokevirtual 199, 3) := by decide +kernel
theorem eX8_number_57 : decode cX8_number 57 = .ok (.aload_n 0, 1) := by decide +kernel
theorem eX8_number_58 : decode cX8_number 58 = .ok (.getfield 23, 3) := by decide +kernel
theorem eX8_number_61 : decode cX8_number 61 = .ok (.iload 4, 2) := by decide +kernel
theorem eX8_number_63 : decode cX8_number 63 = .ok (.iload_n 3, 1) := by decide +kernel
theorem eX8_number_64 : decode cX8_number 64 = .ok (.invokevirtual 202, 3) := by decide +kernel
theorem eX8_number_67 : decode cX8_number 67 = .ok (.aload_n 0, 1) := by decide +kernel
theorem eX8_number_68 : decode cX8_number 68 = .ok (.invokevirtual 94, 3) := by decide +kernel
theorem eX8_number_71 : decode cX8_number 71 = .ok (.iload 5, 2) := by decide +kernel
theorem eX8_number_73 : decode cX8_number 73 = .ok (.ireturn, 1) := by decide +kernel
abbrev vs_E_8_number : List Cond := .code yX8_number cX8_number 6 (some .int) :: CM
theorem g_E_8_number_E_8_slotOf : GoodIn vs_E_8_number (wsV RX8 171 RX8 yX8_slotOf vs_E_8_slotOf) := cm_gV cm_490 cm_491 cm_492 cm_427 cm_493
theorem g_E_8_number_E_2_keep : GoodIn vs_E_8_number (wsV RX8 199 RX2 yX2_keep vs_E_2_keep) := cm_gV cm_503 cm_504 cm_505 cm_506 cm_161
theorem g_E_8_number_E_0_setNumber : GoodIn vs_E_8_number (wsV RX8 202 RX0 yX0_setNumber vs_E_0_setNumber) := cm_gV cm_507 cm_168 cm_169 cm_19 cm_27
theorem g_E_8_number_E_8_dropViews : GoodIn vs_E_8_number (wsV RX8 94 RX8 yX8_dropViews vs_E_8_dropViews) := cm_gV cm_441 cm_442 cm_443 cm_427 cm_444
noncomputable def sp_E_8_number (hs : Nat) (ss : Nat) (np : Nat) (ne : Nat) (q_f8 : Nat → Nat) (q_f9 : Nat → Nat) (f10 : Nat → Int32) (f11 : Nat → Int32) (f12 : Nat → Int32) (f13 : Nat → Int32) (f14 : Nat → Int32) (f15 : Nat → Int32) (f16 : Nat → Int32) (hk : Nat) (fo : Nat → Int32) (fl : Nat → Int32) (on : Nat) (p0 : Int32) (p1 : Int32) (p2 : Int32) : Int32 × (Nat → Int32) × (Nat → Int32) × (Nat → Int32) × (Nat → Int32) × (Nat → Int32) × (Nat → Int32) × (Nat → Int32) × (Nat → Int32) × Nat × Nat × Nat × Nat := (slet (sp_E_8_slotOf np ne q_f8 p0 p1) (fun u_2 => (if u_2 = 0 then ((-1), f12, f13, f14, f15, f16, fo, fl, f11, ss, hs, hk, on) else (slet (u_2 - 1) (fun n_3 => (if (p2 : Int32) < 0 then ((-1), f12, f13, f14, f15, f16, fo, fl, f11, ss, hs, hk, on) else (if (p2 : Int32) ≤ 20 then (slet ((p2 : Int32).toNatClampNeg) (fun n_6 => (slet (f11 n_3) (fun y_7 => (if (y_7 : Int32) = (nI n_6) then ((-1), f12, f13, f14, f15, f16, fo, fl, f11, ss, hs, hk, on) else (slet (sp_E_2_keep hk fo fl (nI n_3) y_7) (fun (z_fo_10, z_fl_11, z_hk_12) => (slet (sp_E_0_setNumber q_f8 q_f9 f10 f11 f12 f13 f14 f15 f16 n_3 (nI n_6)) (fun (z_f13_14, z_f14_15, z_f15_16, z_f16_17, z_f11_18, z_f12_19) => (y_7, z_f12_19, z_f13_14, z_f14_15, z_f15_16, z_f16_17, z_fo_10, z_fl_11, z_f11_18, 0, 0, z_hk_12, 0)))))))))) else ((-1), f12, f13, f14, f15, f16, fo, fl, f11, ss, hs, hk, on))))))))
set_option maxHeartbeats 4000000 in
set_option maxRecDepth 100000 in
theorem c_E_8_number (l : Launch) (dC : Nat → ClassId) (dI : Nat → Nat → Nat) (sz : Nat) (xa : Nat) (xtape : Nat) (tp : Nat) (rd : Nat) (au : Nat) (xdr : Nat) (hy : Nat) (g : Nat) (hs : Nat) (tg : Nat) (sg : Nat) (ss : Nat) (rm : Nat) (ti : Nat) (py : Nat) (bu : Nat) (sm : Nat) (nc : Nat) (np : Nat) (ne : Nat) (st0 : Int32) (q4 : Nat) (q5 : Nat) (q6 : Nat) (q7 : Nat) (q8 : Nat) (q9 : Nat) (q10 : Nat) (q11 : Nat) (q12 : Nat) (q13 : Nat) (q14 : Nat) (q15 : Nat) (q16 : Nat) (k_f4 : ClassId) (f4 : Nat → Int32) (k_f5 : ClassId) (q_f5 : Nat → Nat) (k_f6 : ClassId) (q_f6 : Nat → Nat) (k_f7 : ClassId) (f7 : Nat → Int32) (k_f8 : ClassId) (q_f8 : Nat → Nat) (k_f9 : ClassId) (q_f9 : Nat → Nat) (k_f10 : ClassId) (f10 : Nat → Int32) (k_f11 : ClassId) (f11 : Nat → Int32) (k_f12 : ClassId) (f12 : Nat → Int32) (k_f13 : ClassId) (f13 : Nat → Int32) (k_f14 : ClassId) (f14 : Nat → Int32) (k_f15 : ClassId) (f15 : Nat → Int32) (k_f16 : ClassId) (f16 : Nat → Int32) (hk : Nat) (co : Nat) (ol : Nat) (k_fo : ClassId) (fo : Nat → Int32) (k_fl : ClassId) (fl : Nat → Int32) (on : Nat) (si : Nat) (ti0 : Int32) (tm : Nat) (bh : Nat) (p0 : Int32) (p1 : Int32) (p2 : Int32) (htp : tp ≤ 900) (hhs : hs ≤ 1) (hss : ss ≤ 1) (hnc : nc ≤ 3) (hnp : np ≤ 8) (hne : ne ≤ 14) (hst0 : pm1 7 st0) (hhk : hk ≤ 20) (hon : on ≤ 1) (hsi : si ≤ 7) (hq0 : hi_ok hk fo) : Met l yX8_number vs_E_8_number ({ frames := 3, cells := 0, slots := 0, locals := 67 }) (va_Pc [.ref xa, .int p0, .int p1, .int p2] (pu_B (dC, dI) (xh__w xa xtape (nI tp) rd au xdr hy g (nI hs) tg sg (nI ss) rm ti py bu sm (nI nc) (nI np) (nI ne) st0 q4 q5 q6 q7 q8 q9 q10 q11 q12 q13 q14 q15 q16 k_f4 f4 k_f5 (bN 7 q_f5) k_f6 (bN 7 q_f6) k_f7 f7 k_f8 (bN 4 q_f8) k_f9 (bN 2 q_f9) k_f10 f10 k_f11 f11 k_f12 f12 k_f13 f13 k_f14 f14 k_f15 f15 k_f16 f16 (nI hk) co ol k_fo fo k_fl fl (nI on) (nI si) ti0 tm bh) (xh__t k_f4 k_f5 k_f6 k_f7 k_f8 k_f9 k_f10 k_f11 k_f12 k_f13 k_f14 k_f15 k_f16 k_fo k_fl) sz)) (va_Qi (fun (r : Int32) (_ : Unit) => r = (sp_E_8_number hs ss np ne q_f8 q_f9 f10 f11 f12 f13 f14 f15 f16 hk fo fl on p0 p1 p2).1) (fun _ t => ∃ (z_f12 : Nat → Int32) (z_f13 : Nat → Int32) (z_f14 : Nat → Int32) (z_f15 : Nat → Int32) (z_f16 : Nat → Int32) (z_fo : Nat → Int32) (z_fl : Nat → Int32) (z_f11 : Nat → Int32) (z_ss : Nat) (z_hs : Nat) (z_hk : Nat) (z_on : Nat), pu_E (dC, dI) (xh__w xa xtape (nI tp) rd au xdr hy g (nI z_hs) tg sg (nI z_ss) rm ti py bu sm (nI nc) (nI np) (nI ne) st0 q4 q5 q6 q7 q8 q9 q10 q11 q12 q13 q14 q15 q16 k_f4 f4 k_f5 (bN 7 q_f5) k_f6 (bN 7 q_f6) k_f7 f7 k_f8 (bN 4 q_f8) k_f9 (bN 2 q_f9) k_f10 f10 k_f11 z_f11 k_f12 z_f12 k_f13 z_f13 k_f14 z_f14 k_f15 z_f15 k_f16 z_f16 (nI z_hk) co ol k_fo z_fo k_fl z_fl (nI z_on) (nI si) ti0 tm bh) (xh__t k_f4 k_f5 k_f6 k_f7 k_f8 k_f9 k_f10 k_f11 k_f12 k_f13 k_f14 k_f15 k_f16 k_fo k_fl) (va_A ((xh__w xa xtape (nI tp) rd au xdr hy g (nI hs) tg sg (nI ss) rm ti py bu sm (nI nc) (nI np) (nI ne) st0 q4 q5 q6 q7 q8 q9 q10 q11 q12 q13 q14 q15 q16 k_f4 f4 k_f5 (bN 7 q_f5) k_f6 (bN 7 q_f6) k_f7 f7 k_f8 (bN 4 q_f8) k_f9 (bN 2 q_f9) k_f10 f10 k_f11 f11 k_f12 f12 k_f13 f13 k_f14 f14 k_f15 f15 k_f16 f16 (nI hk) co ol k_fo fo k_fl fl (nI on) (nI si) ti0 tm bh)) sz) t ∧ (z_ss ≤ 1) ∧ (z_hs ≤ 1) ∧ (z_hk ≤ 20) ∧ (z_on ≤ 1) ∧ (hi_ok z_hk z_fo) ∧ ((z_f12, z_f13, z_f14, z_f15, z_f16, z_fo, z_fl, z_f11, z_ss, z_hs, z_hk, z_on) = (sp_E_8_number hs ss np ne q_f8 q_f9 f10 f11 f12 f13 f14 f15 f16 hk fo fl on p0 p1 p2).2)) (va_A ((xh__w xa xtape (nI tp) rd au xdr hy g (nI hs) tg sg (nI ss) rm ti py bu sm (nI nc) (nI np) (nI ne) st0 q4 q5 q6 q7 q8 q9 q10 q11 q12 q13 q14 q15 q16 k_f4 f4 k_f5 (bN 7 q_f5) k_f6 (bN 7 q_f6) k_f7 f7 k_f8 (bN 4 q_f8) k_f9 (bN 2 q_f9) k_f10 f10 k_f11 f11 k_f12 f12 k_f13 f13 k_f14 f14 k_f15 f15 k_f16 f16 (nI hk) co ol k_fo fo k_fl fl (nI on) (nI si) ti0 tm bh)) sz)) 0 0 (va_A ((xh__w xa xtape (nI tp) rd au xdr hy g (nI hs) tg sg (nI ss) rm ti py bu sm (nI nc) (nI np) (nI ne) st0 q4 q5 q6 q7 q8 q9 q10 q11 q12 q13 q14 q15 q16 k_f4 f4 k_f5 (bN 7 q_f5) k_f6 (bN 7 q_f6) k_f7 f7 k_f8 (bN 4 q_f8) k_f9 (bN 2 q_f9) k_f10 f10 k_f11 f11 k_f12 f12 k_f13 f13 k_f14 f14 k_f15 f15 k_f16 f16 (nI hk) co ol k_fo fo k_fl fl (nI on) (nI si) ti0 tm bh)) sz) := by
  refine Met.ofW (cc := cX8_number) (maxL := 6) (ret := (some .int)) (by decide) rfl ?_
  intro p e s m args below meth c s₁ B hml hv
  obtain ⟨rfl, rfl, hP, hK, hD0⟩ := hv
  have hx := B.exec
  have hb := B.bytes
  have hr := B.returns
  have hts := atoms_spec (ws := vs_E_8_number) B.pre
  have v_6 := hts (.fieldLink RX8 23 "ClockReach" "model" "LClockReach$Automaton;") (List.mem_cons_of_mem _ cm_434)
  have v_7 := hts (.fieldLink RX8 181 "ClockReach$Automaton" "numbers" "[I") (List.mem_cons_of_mem _ cm_489)
  have v_8 := hts (.fieldLink RX8 33 "ClockReach" "history" "LClockReach$History;") (List.mem_cons_of_mem _ cm_435)
  have hown : s.vm.findClass RX8 = some m.cls := findClass_of_methodNamed B.named
  have hlocks := B.notSynchronized
  have hiX0 : ∀ w ∈ wsX00, w ∈ vs_E_8_number := fun _ h => List.mem_cons_of_mem _ (cm_X0 h)
  have hiX8 : ∀ w ∈ wsX80, w ∈ vs_E_8_number := fun _ h => List.mem_cons_of_mem _ (cm_X8 h)
  have hD := hD0.self (sz := s.heap.size)
  generalize hAe : va_A ((xh__w xa xtape (nI tp) rd au xdr hy g (nI hs) tg sg (nI ss) rm ti py bu sm (nI nc) (nI np) (nI ne) st0 q4 q5 q6 q7 q8 q9 q10 q11 q12 q13 q14 q15 q16 k_f4 f4 k_f5 (bN 7 q_f5) k_f6 (bN 7 q_f6) k_f7 f7 k_f8 (bN 4 q_f8) k_f9 (bN 2 q_f9) k_f10 f10 k_f11 f11 k_f12 f12 k_f13 f13 k_f14 f14 k_f15 f15 k_f16 f16 (nI hk) co ol k_fo fo k_fl fl (nI on) (nI si) ti0 tm bh)) s.heap.size = A at hD ⊢
  have hA : ∀ q : Nat, s.heap.size ≤ q → A q := fun q h => by rw [← hAe]; exact Or.inr h
  have hS : va_S A s.heap s.heap [] := va_S.rf
  have hl := lv_entry ([.ref xa, .int p0, .int p1, .int p2]) (n := 6) (Nat.le_of_ble_eq_true rfl)
  rw [lg_entry_eq]
  generalize (lg_sl ([.ref xa, .int p0, .int p1, .int p2]) ++ List.replicate (6 - (lg_sl ([.ref xa, .int p0, .int p1, .int p2])).length) Slot.unset).toArray = ls at hl ⊢
  have hl : lv_has ls 6 [(0, .ref xa), (1, .int p0), (2, .int p1), (3, .int p2)] := hl
  obtain ⟨RR, hRR⟩ : ∃ x, x = (sp_E_8_number hs ss np ne q_f8 q_f9 f10 f11 f12 f13 f14 f15 f16 hk fo fl on p0 p1 p2) := ⟨_, rfl⟩
  have hsp := hRR
  refine lv_aload_n hx hb eX8_number_0 rfl (lv_at hl 0 rfl) ?_
  refine lv_iload_n hx hb eX8_number_1 rfl (lv_at hl 1 rfl) ?_
  refine lv_iload_n hx hb eX8_number_2 rfl (lv_at hl 2 rfl) ?_
  have hPc : va_P (dC, dI) vwCl (xa__w xa xtape (nI tp) rd au xdr hy g (nI hs) tg sg (nI ss) rm ti py bu sm (nI nc) (nI np) (nI ne) st0 q4 q5 q6 q7 q8 q9 q10 q11 q12 q13 q14 q15 q16 k_f4 f4 k_f5 (bN 7 q_f5) k_f6 (bN 7 q_f6) k_f7 f7 k_f8 (bN 4 q_f8) k_f9 (bN 2 q_f9) k_f10 f10 k_f11 f11 k_f12 f12 k_f13 f13 k_f14 f14 k_f15 f15 k_f16 f16) _ := hP.sub [0, 1, 2, 3, 4, 5, 6, 7, 8, 9, 10, 11, 12, 13, 14] rfl
  have hDc := hD.sub (ws' := (xa__w xa xtape (nI tp) rd au xdr hy g (nI hs) tg sg (nI ss) rm ti py bu sm (nI nc) (nI np) (nI ne) st0 q4 q5 q6 q7 q8 q9 q10 q11 q12 q13 q14 q15 q16 k_f4 f4 k_f5 (bN 7 q_f5) k_f6 (bN 7 q_f6) k_f7 f7 k_f8 (bN 4 q_f8) k_f9 (bN 2 q_f9) k_f10 f10 k_f11 f11 k_f12 f12 k_f13 f13 k_f14 f14 k_f15 f15 k_f16 f16)) [0, 1, 2, 3, 4, 5, 6, 7, 8, 9, 10, 11, 12, 13, 14] (by decide) rfl
  have hKc : va_K (dC, dI) vwCl (xa__t k_f4 k_f5 k_f6 k_f7 k_f8 k_f9 k_f10 k_f11 k_f12 k_f13 k_f14 k_f15 k_f16) s := hK.sub [0, 1, 2, 3, 4, 5, 6, 7, 8, 9, 10, 11, 12] rfl
  refine va_calli (va_runV (As := [.int p0, .int p1]) (rest := []) ⟨hx, hb, hml, hown, hts⟩ (c_E_8_slotOf l dC dI _ xa xtape tp rd au xdr hy g hs tg sg ss rm ti py bu sm nc np ne st0 q4 q5 q6 q7 q8 q9 q10 q11 q12 q13 q14 q15 q16 k_f4 f4 k_f5 q_f5 k_f6 q_f6 k_f7 f7 k_f8 q_f8 k_f9 q_f9 k_f10 f10 k_f11 f11 k_f12 f12 k_f13 f13 k_f14 f14 k_f15 f15 k_f16 f16 p0 p1 htp hhs hss hnc hnp hne (hst0)) (cwV 2 hts g_E_8_number_E_8_slotOf rfl rfl rfl (by decide +kernel) ⟨Nat.le_of_ble_eq_true rfl, Nat.le_of_ble_eq_true rfl⟩) ⟨pu_bl, va_recv hK hP (ci := 8) (q0 := 0) rfl rfl, pu_in hPc hKc hDc⟩ rfl rfl hl.1 rfl (lv_room (Nat.le_of_ble_eq_true rfl)) eX8_number_3 ⟨Nat.le_of_ble_eq_true rfl, Nat.le_of_ble_eq_true rfl⟩) hS (fun q _ h => pu_fr hS hA q h) (pu_fr hS hA) (fun r_1 u t H1 locs ht hvm hw hB hz1 hk1 hS => ?_)
  have hP := pu_keep hP hk1
  clear hk1 hz1 ht hvm
  generalize H1 = H at hP hS ⊢
  obtain ⟨u_2, hu_2, mu_2, iu_2⟩ := hw
  have hsp := hsp.trans (slet_eq iu_2)
  rcases mI_get u_2 with ⟨zn_3, wn_3⟩ | ⟨n_3, zn_3, wn_3⟩
  · obtain rfl : r_1 = -1 := mu_2.trans wn_3
    have hsp := hsp.trans (if_pos zn_3)
    refine lv_istore (lv' := [(4, .int (-1)), (0, .ref xa), (1, .int p0), (2, .int p1), (3, .int p2)]) hx hb eX8_number_6 hl (by decide) rfl (fun ls hl => ?_)
    refine lv_iload hx hb eX8_number_8 (lv_at hl 0 rfl) ?_
    refine lv_iconst (v := (-1)) hx hb eX8_number_10 (by decide) ?_
    refine lv_icmp_eq (tgt := 24) hx hb eX8_number_11 (by decide) (fun _ => ?_) (fun z => absurd z (by decide))
    refine lv_iconst (v := (-1)) hx hb eX8_number_24 (by decide) ?_
    exact W.iret (v := (-1)) hx hb hr (fun t ht hW => ⟨⟨(-1), (), rfl, (congrArg Prod.fst (hsp.symm.trans hRR)), ⟨f12, f13, f14, f15, f16, fo, fl, f11, ss, hs, hk, on, ⟨by rw [ht]; exact hP, va_K.moved hW.alike hK, hD⟩, hss, hhs, hhk, hon, by assumption, (congrArg Prod.snd (hsp.symm.trans hRR))⟩⟩, hS.F ht⟩) hS.2.2 eX8_number_25
  · obtain rfl : r_1 = nI n_3 := mu_2.trans wn_3
    have hn_3 : n_3 ≤ 87 := by omega
    have hsp := hsp.trans (if_neg (by omega))
    have hsp := hsp.trans (slet_eq (by omega : n_3 = u_2 - 1))
    refine lv_istore (lv' := [(4, .int (nI n_3)), (0, .ref xa), (1, .int p0), (2, .int p1), (3, .int p2)]) hx hb eX8_number_6 hl (by decide) rfl (fun ls hl => ?_)
    refine lv_iload hx hb eX8_number_8 (lv_at hl 0 rfl) ?_
    refine lv_iconst (v := (-1)) hx hb eX8_number_10 (by decide) ?_
    refine lv_icmp_eq (tgt := 24) hx hb eX8_number_11 (by decide) (fun z => absurd z (pu_nneg (n := n_3) (by omega) (by decide))) (fun _ => ?_)
    refine lv_iload_n hx hb eX8_number_14 rfl (lv_at hl 4 rfl) ?_
    refine lv_if_lt (tgt := 24) hx hb eX8_number_15 (by decide) (fun c_4 => ?_) (fun c_4 => ?_)
    · have hcc_4 := c_4
      have hsp := hsp.trans (if_pos c_4)
      refine lv_iconst (v := (-1)) hx hb eX8_number_24 (by decide) ?_
      exact W.iret (v := (-1)) hx hb hr (fun t ht hW => ⟨⟨(-1), (), rfl, (congrArg Prod.fst (hsp.symm.trans hRR)), ⟨f12, f13, f14, f15, f16, fo, fl, f11, ss, hs, hk, on, ⟨by rw [ht]; exact hP, va_K.moved hW.alike hK, hD⟩, hss, hhs, hhk, hon, by assumption, (congrArg Prod.snd (hsp.symm.trans hRR))⟩⟩, hS.F ht⟩) hS.2.2 eX8_number_25
    · have hcc_4 := c_4
      have hsp := hsp.trans (if_neg c_4)
      have lp2 : ¬ p2 < 0 := c_4
      refine lv_iload_n hx hb eX8_number_18 rfl (lv_at hl 4 rfl) ?_
      refine lv_bipush (v := 20) hx hb eX8_number_19 (by decide) ?_
      refine lv_icmp_le (tgt := 26) hx hb eX8_number_21 (by decide) (fun c_5 => ?_) (fun c_5 => ?_)
      · have hcc_5 := c_5
        have hsp := hsp.trans (if_pos c_5)
        obtain ⟨n_6, hn_6, rfl⟩ := pu_ule (b := 20) (by omega) lp2 (c_5)
        have hsp := hsp.trans (slet_eq (nI_cl (n := n_6) (by omega)))
        refine lv_aload_n hx hb eX8_number_26 rfl (lv_at hl 1 rfl) ?_
        refine va_get (D := (dC, dI)) (ci := 8) (v := .ref au) (C := RX8) (T := TX8) (N := 16) hx hb hts hiX8 hown hK hP 0 rfl rfl 3 (by decide) v_6 (fun _ h9 => h9) rfl eX8_number_27 ?_
        refine va_get (D := (dC, dI)) (ci := 0) (v := .ref q11) (C := RX0) (T := TX0) (N := 17) hx hb hts hiX0 hown hK hP 1 rfl rfl 11 (by decide) v_7 (fun _ h9 => h9) rfl eX8_number_30 ?_
        refine lv_iload hx hb eX8_number_33 (lv_at hl 0 rfl) ?_
        refine va_iald hx hb hK hP 9 7 rfl rfl (vp_in_nI (n := n_3) (Nat.lt_of_le_of_lt hn_3 (Nat.le_of_ble_eq_true rfl)) (Nat.le_of_ble_eq_true rfl)) eX8_number_35 ?_
        refine lv_topi (fun y_7 ey_7 => ?_)
        have ey_7 : y_7 = f11 n_3 := ey_7.trans (congrArg f11 (nI_clamp (n := n_3) (Nat.lt_of_le_of_lt hn_3 (Nat.le_of_ble_eq_true rfl))))
        have hsp := hsp.trans (slet_eq ey_7)
        refine lv_istore (lv' := [(5, .int y_7), (4, .int (nI n_3)), (0, .ref xa), (1, .int p0), (2, .int p1), (3, .int (nI n_6))]) hx hb eX8_number_36 hl (by decide) rfl (fun ls hl => ?_)
        refine lv_iload hx hb eX8_number_38 (lv_at hl 0 rfl) ?_
        refine lv_iload_n hx hb eX8_number_40 rfl (lv_at hl 5 rfl) ?_
        refine lv_icmp_ne (tgt := 46) hx hb eX8_number_41 (by decide) (fun c_8 => ?_) (fun c_8 => ?_)
        · have hcc_8 := c_8
          have hsp := hsp.trans (if_neg c_8)
          refine lv_aload_n hx hb eX8_number_46 rfl (lv_at hl 2 rfl) ?_
          refine va_get (D := (dC, dI)) (ci := 8) (v := .ref hy) (C := RX8) (T := TX8) (N := 16) hx hb hts hiX8 hown hK hP 0 rfl rfl 5 (by decide) v_8 (fun _ h9 => h9) rfl eX8_number_47 ?_
          refine lv_iload hx hb eX8_number_50 (lv_at hl 1 rfl) ?_
          refine lv_iload hx hb eX8_number_52 (lv_at hl 0 rfl) ?_
          have hPc : va_P (dC, dI) vwCl (hz__w hy (nI hk) co ol k_fo fo k_fl fl) _ := hP.sub [15, 16, 17] rfl
          have hDc := hD.sub (ws' := (hz__w hy (nI hk) co ol k_fo fo k_fl fl)) [15, 16, 17] (by decide) rfl
          have hKc : va_K (dC, dI) vwCl (hz__t k_fo k_fl) s := hK.sub [13, 14] rfl
          have hFc := pu_free hDc hS hA
          refine va_callv (va_runV (As := [.int (nI n_3), .int y_7]) (rest := []) ⟨hx, hb, hml, hown, hts⟩ (c_E_2_keep l dC dI _ hy hk co ol k_fo fo k_fl fl (nI n_3) y_7 hhk (by assumption) (Or.inl ⟨n_3, by omega, rfl⟩)) (cwV 2 hts g_E_8_number_E_2_keep rfl rfl rfl (by decide +kernel) ⟨Nat.le_of_ble_eq_true rfl, Nat.le_of_ble_eq_true rfl⟩) ⟨pu_bl, va_recv hK hP (ci := 2) (q0 := 15) rfl rfl, pu_in hPc hKc hDc⟩ rfl rfl hl.1 rfl (lv_room (Nat.le_of_ble_eq_true rfl)) eX8_number_54 ⟨Nat.le_of_ble_eq_true rfl, Nat.le_of_ble_eq_true rfl⟩) hS (fun q _ h => hFc q h) hFc (fun u t H1 locs ht hvm hw hB hz1 hk1 hS => ?_)
          obtain ⟨z_fo_10, z_fl_11, z_hk_12, ⟨hP1, -, hD1⟩, hz_hk_12, xr_9_0, xr_9_1⟩ := hB
          rw [ht] at hP1
          obtain ⟨hP, hD⟩ := pj_a (X := (xh__w xa xtape (nI tp) rd au xdr hy g (nI hs) tg sg (nI ss) rm ti py bu sm (nI nc) (nI np) (nI ne) st0 q4 q5 q6 q7 q8 q9 q10 q11 q12 q13 q14 q15 q16 k_f4 f4 k_f5 (bN 7 q_f5) k_f6 (bN 7 q_f6) k_f7 f7 k_f8 (bN 4 q_f8) k_f9 (bN 2 q_f9) k_f10 f10 k_f11 f11 k_f12 f12 k_f13 f13 k_f14 f14 k_f15 f15 k_f16 f16 (nI hk) co ol k_fo fo k_fl fl (nI on) (nI si) ti0 tm bh)) (X' := (xh__w xa xtape (nI tp) rd au xdr hy g (nI hs) tg sg (nI ss) rm ti py bu sm (nI nc) (nI np) (nI ne) st0 q4 q5 q6 q7 q8 q9 q10 q11 q12 q13 q14 q15 q16 k_f4 f4 k_f5 (bN 7 q_f5) k_f6 (bN 7 q_f6) k_f7 f7 k_f8 (bN 4 q_f8) k_f9 (bN 2 q_f9) k_f10 f10 k_f11 f11 k_f12 f12 k_f13 f13 k_f14 f14 k_f15 f15 k_f16 f16 (nI z_hk_12) co ol k_fo z_fo_10 k_fl z_fl_11 (nI on) (nI si) ti0 tm bh)) (wc := (hz__w hy (nI hk) co ol k_fo fo k_fl fl)) (w1 := (hz__w hy (nI z_hk_12) co ol k_fo z_fo_10 k_fl z_fl_11)) hP hD [15, 16, 17] [3, 4, 5, 6, 7, 8, 9, 10, 11, 12, 13, 14, 15, 16, 17, 0, 1, 2, 21] 3 rfl hk1 hP1 rfl rfl rfl (by decide)
          clear hP1 hD1 hFc hPc hDc hKc
          clear hk1 hz1 ht hvm
          generalize H1 = H at hP hS ⊢
          have hsp := hsp.trans (slet_eq xr_9_1)
          refine lv_aload_n hx hb eX8_number_57 rfl (lv_at hl 2 rfl) ?_
          refine va_get (D := (dC, dI)) (ci := 8) (v := .ref au) (C := RX8) (T := TX8) (N := 16) hx hb hts hiX8 hown hK hP 0 rfl rfl 3 (by decide) v_6 (fun _ h9 => h9) rfl eX8_number_58 ?_
          refine lv_iload hx hb eX8_number_61 (lv_at hl 1 rfl) ?_
          refine lv_iload_n hx hb eX8_number_63 rfl (lv_at hl 5 rfl) ?_
          have hPc : va_P (dC, dI) vwCl (au__w au (nI nc) (nI np) (nI ne) st0 q4 q5 q6 q7 q8 q9 q10 q11 q12 q13 q14 q15 q16 k_f4 f4 k_f5 (bN 7 q_f5) k_f6 (bN 7 q_f6) k_f7 f7 k_f8 (bN 4 q_f8) k_f9 (bN 2 q_f9) k_f10 f10 k_f11 f11 k_f12 f12 k_f13 f13 k_f14 f14 k_f15 f15 k_f16 f16) _ := hP.sub [1, 2, 3, 4, 5, 6, 7, 8, 9, 10, 11, 12, 13, 14] rfl
          have hDc := hD.sub (ws' := (au__w au (nI nc) (nI np) (nI ne) st0 q4 q5 q6 q7 q8 q9 q10 q11 q12 q13 q14 q15 q16 k_f4 f4 k_f5 (bN 7 q_f5) k_f6 (bN 7 q_f6) k_f7 f7 k_f8 (bN 4 q_f8) k_f9 (bN 2 q_f9) k_f10 f10 k_f11 f11 k_f12 f12 k_f13 f13 k_f14 f14 k_f15 f15 k_f16 f16)) [1, 2, 3, 4, 5, 6, 7, 8, 9, 10, 11, 12, 13, 14] (by decide) rfl
          have hKc : va_K (dC, dI) vwCl (au__t k_f4 k_f5 k_f6 k_f7 k_f8 k_f9 k_f10 k_f11 k_f12 k_f13 k_f14 k_f15 k_f16) s := hK.sub [0, 1, 2, 3, 4, 5, 6, 7, 8, 9, 10, 11, 12] rfl
          have hFc := pu_free hDc hS hA
          refine va_callv (va_runV (As := [.int (nI n_3), .int (nI n_6)]) (rest := []) ⟨hx, hb, hml, hown, hts⟩ (c_E_0_setNumber l dC dI _ au nc np ne st0 q4 q5 q6 q7 q8 q9 q10 q11 q12 q13 q14 q15 q16 k_f4 f4 k_f5 q_f5 k_f6 q_f6 k_f7 f7 k_f8 q_f8 k_f9 q_f9 k_f10 f10 k_f11 f11 k_f12 f12 k_f13 f13 k_f14 f14 k_f15 f15 k_f16 f16 n_3 (nI n_6) hnc hnp hne (hst0) hn_3) (cwV 2 hts g_E_8_number_E_0_setNumber rfl rfl rfl (by decide +kernel) ⟨Nat.le_of_ble_eq_true rfl, Nat.le_of_ble_eq_true rfl⟩) ⟨pu_bl, va_recv hK hP (ci := 0) (q0 := 1) rfl rfl, pu_in hPc hKc hDc⟩ rfl rfl hl.1 rfl (lv_room (Nat.le_of_ble_eq_true rfl)) eX8_number_64 ⟨Nat.le_of_ble_eq_true rfl, Nat.le_of_ble_eq_true rfl⟩) hS (fun q _ h => hFc q h) hFc (fun u t H1 locs ht hvm hw hB hz1 hk1 hS => ?_)
          obtain ⟨z_f13_14, z_f14_15, z_f15_16, z_f16_17, z_f11_18, z_f12_19, ⟨hP1, -, hD1⟩, xr_13_0⟩ := hB
          rw [ht] at hP1
          obtain ⟨hP, hD⟩ := pj_a (X := (xh__w xa xtape (nI tp) rd au xdr hy g (nI hs) tg sg (nI ss) rm ti py bu sm (nI nc) (nI np) (nI ne) st0 q4 q5 q6 q7 q8 q9 q10 q11 q12 q13 q14 q15 q16 k_f4 f4 k_f5 (bN 7 q_f5) k_f6 (bN 7 q_f6) k_f7 f7 k_f8 (bN 4 q_f8) k_f9 (bN 2 q_f9) k_f10 f10 k_f11 f11 k_f12 f12 k_f13 f13 k_f14 f14 k_f15 f15 k_f16 f16 (nI z_hk_12) co ol k_fo z_fo_10 k_fl z_fl_11 (nI on) (nI si) ti0 tm bh)) (X' := (xh__w xa xtape (nI tp) rd au xdr hy g (nI hs) tg sg (nI ss) rm ti py bu sm (nI nc) (nI np) (nI ne) st0 q4 q5 q6 q7 q8 q9 q10 q11 q12 q13 q14 q15 q16 k_f4 f4 k_f5 (bN 7 q_f5) k_f6 (bN 7 q_f6) k_f7 f7 k_f8 (bN 4 q_f8) k_f9 (bN 2 q_f9) k_f10 f10 k_f11 z_f11_18 k_f12 z_f12_19 k_f13 z_f13_14 k_f14 z_f14_15 k_f15 z_f15_16 k_f16 z_f16_17 (nI z_hk_12) co ol k_fo z_fo_10 k_fl z_fl_11 (nI on) (nI si) ti0 tm bh)) (wc := (au__w au (nI nc) (nI np) (nI ne) st0 q4 q5 q6 q7 q8 q9 q10 q11 q12 q13 q14 q15 q16 k_f4 f4 k_f5 (bN 7 q_f5) k_f6 (bN 7 q_f6) k_f7 f7 k_f8 (bN 4 q_f8) k_f9 (bN 2 q_f9) k_f10 f10 k_f11 f11 k_f12 f12 k_f13 f13 k_f14 f14 k_f15 f15 k_f16 f16)) (w1 := (au__w au (nI nc) (nI np) (nI ne) st0 q4 q5 q6 q7 q8 q9 q10 q11 q12 q13 q14 q15 q16 k_f4 f4 k_f5 (bN 7 q_f5) k_f6 (bN 7 q_f6) k_f7 f7 k_f8 (bN 4 q_f8) k_f9 (bN 2 q_f9) k_f10 f10 k_f11 z_f11_18 k_f12 z_f12_19 k_f13 z_f13_14 k_f14 z_f14_15 k_f15 z_f15_16 k_f16 z_f16_17)) hP hD [1, 2, 3, 4, 5, 6, 7, 8, 9, 10, 11, 12, 13, 14] [14, 0, 1, 2, 3, 4, 5, 6, 7, 8, 9, 10, 11, 12, 13, 29, 30, 31, 32] 14 rfl hk1 hP1 rfl rfl rfl (by decide)
          clear hP1 hD1 hFc hPc hDc hKc
          clear hk1 hz1 ht hvm
          generalize H1 = H at hP hS ⊢
          have hsp := hsp.trans (slet_eq xr_13_0)
          refine lv_aload_n hx hb eX8_number_67 rfl (lv_at hl 2 rfl) ?_
          have hPc : va_P (dC, dI) vwCl (xp__w xa xtape (nI tp) rd au xdr hy g (nI hs) tg sg (nI ss) rm ti py bu sm (nI on) (nI si) ti0 tm bh) _ := hP.sub [0, 18] rfl
          have hDc := hD.sub (ws' := (xp__w xa xtape (nI tp) rd au xdr hy g (nI hs) tg sg (nI ss) rm ti py bu sm (nI on) (nI si) ti0 tm bh)) [0, 18] (by decide) rfl
          have hKc : va_K (dC, dI) vwCl (xp__t ) s := hK.sub [] rfl
          have hFc := pu_free hDc hS hA
          refine va_callv (va_runV (As := []) (rest := []) ⟨hx, hb, hml, hown, hts⟩ (c_E_8_dropViews l dC dI _ xa xtape tp rd au xdr hy g hs tg sg ss rm ti py bu sm on si ti0 tm bh htp hhs hss hon hsi) (cwV 0 hts g_E_8_number_E_8_dropViews rfl rfl rfl (by decide +kernel) ⟨Nat.le_of_ble_eq_true rfl, Nat.le_of_ble_eq_true rfl⟩) ⟨pu_bl, va_recv hK hP (ci := 8) (q0 := 0) rfl rfl, pu_in hPc hKc hDc⟩ rfl rfl hl.1 rfl (lv_room (Nat.le_of_ble_eq_true rfl)) eX8_number_68 ⟨Nat.le_of_ble_eq_true rfl, Nat.le_of_ble_eq_true rfl⟩) hS (fun q _ h => hFc q h) hFc (fun u t H1 locs ht hvm hw hB hz1 hk1 hS => ?_)
          obtain ⟨hP1, -, hD1⟩ := hB
          rw [ht] at hP1
          obtain ⟨hP, hD⟩ := pj_a (X := (xh__w xa xtape (nI tp) rd au xdr hy g (nI hs) tg sg (nI ss) rm ti py bu sm (nI nc) (nI np) (nI ne) st0 q4 q5 q6 q7 q8 q9 q10 q11 q12 q13 q14 q15 q16 k_f4 f4 k_f5 (bN 7 q_f5) k_f6 (bN 7 q_f6) k_f7 f7 k_f8 (bN 4 q_f8) k_f9 (bN 2 q_f9) k_f10 f10 k_f11 z_f11_18 k_f12 z_f12_19 k_f13 z_f13_14 k_f14 z_f14_15 k_f15 z_f15_16 k_f16 z_f16_17 (nI z_hk_12) co ol k_fo z_fo_10 k_fl z_fl_11 (nI on) (nI si) ti0 tm bh)) (X' := (xh__w xa xtape (nI tp) rd au xdr hy g 0 tg sg 0 rm ti py bu sm (nI nc) (nI np) (nI ne) st0 q4 q5 q6 q7 q8 q9 q10 q11 q12 q13 q14 q15 q16 k_f4 f4 k_f5 (bN 7 q_f5) k_f6 (bN 7 q_f6) k_f7 f7 k_f8 (bN 4 q_f8) k_f9 (bN 2 q_f9) k_f10 f10 k_f11 z_f11_18 k_f12 z_f12_19 k_f13 z_f13_14 k_f14 z_f14_15 k_f15 z_f15_16 k_f16 z_f16_17 (nI z_hk_12) co ol k_fo z_fo_10 k_fl z_fl_11 0 (nI si) ti0 tm bh)) (wc := (xp__w xa xtape (nI tp) rd au xdr hy g (nI hs) tg sg (nI ss) rm ti py bu sm (nI on) (nI si) ti0 tm bh)) (w1 := (xp__w xa xtape (nI tp) rd au xdr hy g 0 tg sg 0 rm ti py bu sm 0 (nI si) ti0 tm bh)) hP hD [0, 18] [0, 3, 4, 5, 6, 7, 8, 9, 10, 11, 12, 13, 14, 15, 16, 17, 18, 19, 1] 2 rfl hk1 hP1 rfl rfl rfl (by decide)
          clear hP1 hD1 hFc hPc hDc hKc
          clear hk1 hz1 ht hvm
          generalize H1 = H at hP hS ⊢
          refine lv_iload hx hb eX8_number_71 (lv_at hl 0 rfl) ?_
          exact W.iret (v := y_7) hx hb hr (fun t ht hW => ⟨⟨y_7, (), rfl, (congrArg Prod.fst (hsp.symm.trans hRR)), ⟨z_f12_19, z_f13_14, z_f14_15, z_f15_16, z_f16_17, z_fo_10, z_fl_11, z_f11_18, 0, 0, z_hk_12, 0, ⟨by rw [ht]; exact hP, va_K.moved hW.alike hK, hD⟩, (Nat.le_of_ble_eq_true rfl), (Nat.le_of_ble_eq_true rfl), hz_hk_12, (Nat.le_of_ble_eq_true rfl), by assumption, (congrArg Prod.snd (hsp.symm.trans hRR))⟩⟩, hS.F ht⟩) hS.2.2 eX8_number_73
        · have hcc_8 := c_8
          have hsp := hsp.trans (if_pos c_8)
          refine lv_iconst (v := (-1)) hx hb eX8_number_44 (by decide) ?_
          exact W.iret (v := (-1)) hx hb hr (fun t ht hW => ⟨⟨(-1), (), rfl, (congrArg Prod.fst (hsp.symm.trans hRR)), ⟨f12, f13, f14, f15, f16, fo, fl, f11, ss, hs, hk, on, ⟨by rw [ht]; exact hP, va_K.moved hW.alike hK, hD⟩, hss, hhs, hhk, hon, by assumption, (congrArg Prod.snd (hsp.symm.trans hRR))⟩⟩, hS.F ht⟩) hS.2.2 eX8_number_45
      · have hcc_5 := c_5
        have hsp := hsp.trans (if_neg c_5)
        refine lv_iconst (v := (-1)) hx hb eX8_number_24 (by decide) ?_
        exact W.iret (v := (-1)) hx hb hr (fun t ht hW => ⟨⟨(-1), (), rfl, (congrArg Prod.fst (hsp.symm.trans hRR)), ⟨f12, f13, f14, f15, f16, fo, fl, f11, ss, hs, hk, on, ⟨by rw [ht]; exact hP, va_K.moved hW.alike hK, hD⟩, hss, hhs, hhk, hon, by assumption, (congrArg Prod.snd (hsp.symm.trans hRR))⟩⟩, hS.F ht⟩) hS.2.2 eX8_number_25
theorem eX8_urgent_0 : decode cX8_urgent 0 = .ok (.aload_n 0, 1) := by decide +kernel
theorem eX8_urgent_1 : decode cX8_urgent 1 = .ok (.iload_n 1, 1) := by decide +kernel
theorem eX8_urgent_2 : decode cX8_urgent 2 = .ok (.invokevirtual 140, 3) := by decide +kernel
theorem eX8_urgent_5 : decode cX8_urgent 5 = .ok (.ifCond .eq 16, 3) := by decide +kernel
theorem eX8_urgent_8 : decode cX8_urgent 8 = .ok (.aload_n 0, 1) := by decide +kernel
theorem eX8_urgent_9 : decode cX8_urgent 9 = .ok (.getfield 23, 3) := by decide +kernel
theorem eX8_urgent_12 : decode cX8_urgent 12 = .ok (.getfield 144, 3) := by decide +kernel
theorem eX8_urgent_15 : decode cX8_urgent 15 = .ok (.iload_n 1, 1) := by decide +kernel
theorem eX8_urgent_16 : decode cX8_urgent 16 = .ok (.baload, 1) := by decide +kernel
theorem eX8_urgent_17 : decode cX8_urgent 17 = .ok (.iload_n 2, 1) := by decide +kernel
theorem eX8_urgent_18 : decode cX8_urgent 18 = .ok (.if_icmp .ne 5, 3) := by decide +kernel
theorem eX8_urgent_21 : decode cX8_urgent 21 = .ok (.iconst 0, 1) := by decide +kernel
theorem eX8_urgent_22 : decode cX8_urgent 22 = .ok (.ireturn, 1) := by decide +kernel
theorem eX8_urgent_23 : decode cX8_urgent 23 = .ok (.aload_n 0, 1) := by decide +kernel
theorem eX8_urgent_24 : decode cX8_urgent 24 = .ok (.getfield 33, 3) := by decide +kernel
theorem eX8_urgent_27 : decode cX8_urgent 27 = .ok (.iload_n 1, 1) := by decide +kernel
theorem eX8_urgent_28 : decode cX8_urgent 28 = .ok (.invokestatic 205, 3) := by decide +kernel
theorem eX8_urgent_31 : decode cX8_urgent 31 = .ok (.iload_n 2, 1) := by decide +kernel
theorem eX8_urgent_32 : decode cX8_urgent 32 = .ok (.ifCond .ne 7, 3) := by decide +kernel
theorem eX8_urgent_35 : decode cX8_urgent 35 = .ok (.iconst 1, 1) := by decide +kernel
theorem eX8_urgent_36 : decode cX8_urgent 36 = .ok (.goto 4, 3) := by decide +kernel
theorem eX8_urgent_39 : decode cX8_urgent 39 = .ok (.iconst 0, 1) := by decide +kernel
theorem eX8_urgent_40 : decode cX8_urgent 40 = .ok (.invokestatic 133, 3) := by decide +kernel
theorem eX8_urgent_43 : decode cX8_urgent 43 = .ok (.invokevirtual 199, 3) := by decide +kernel
theorem eX8_urgent_46 : decode cX8_urgent 46 = .ok (.aload_n 0, 1) := by decide +kernel
theorem eX8_urgent_47 : decode cX8_urgent 47 = .ok (.getfield 23, 3) := by decide +kernel
theorem eX8_urgent_50 : decode cX8_urgent 50 = .ok (.getfield 144, 3) := by decide +kernel
theorem eX8_urgent_53 : decode cX8_urgent 53 = .ok (.iload_n 1, 1) := by decide +kernel
theorem eX8_urgent_54 : decode cX8_urgent 54 = .ok (.iload_n 2, 1) := by decide +kernel
theorem eX8_urgent_55 : decode cX8_urgent 55 = .ok (.bastore, 1) := by decide +kernel
theorem eX8_urgent_56 : decode cX8_urgent 56 = .ok (.aload_n 0, 1) := by decide +kernel
theorem eX8_urgent_57 : decode cX8_urgent 57 = .ok (.invokevirtual 94, 3) := by decide +kernel
theorem eX8_urgent_60 : decode cX8_urgent 60 = .ok (.iconst 1, 1) := by decide +kernel
theorem eX8_urgent_61 : decode cX8_urgent 61 = .ok (.ireturn, 1) := by decide +kernel
abbrev vs_E_8_urgent : List Cond := .code yX8_urgent cX8_urgent 3 (some .boolean) :: CM
theorem g_E_8_urgent_E_8_isPlace : GoodIn vs_E_8_urgent (wsV RX8 140 RX8 yX8_isPlace vs_E_8_isPlace) := cm_gV cm_471 cm_472 cm_473 cm_427 cm_474
theorem g_E_8_urgent_E_2_codeOfPlace : GoodIn vs_E_8_urgent (va_wsS RX8 205 yX2_codeOfPlace vs_E_2_codeOfPlace) := cm_gS cm_509 cm_510 cm_506 cm_160
theorem g_E_8_urgent_E_8_bit : GoodIn vs_E_8_urgent (va_wsS RX8 133 yX8_bit vs_E_8_bit) := cm_gS cm_463 cm_464 cm_427 cm_465
theorem g_E_8_urgent_E_2_keep : GoodIn vs_E_8_urgent (wsV RX8 199 RX2 yX2_keep vs_E_2_keep) := cm_gV cm_503 cm_504 cm_505 cm_506 cm_161
theorem g_E_8_urgent_E_8_dropViews : GoodIn vs_E_8_urgent (wsV RX8 94 RX8 yX8_dropViews vs_E_8_dropViews) := cm_gV cm_441 cm_442 cm_443 cm_427 cm_444
noncomputable def sp_E_8_urgent (hs : Nat) (ss : Nat) (np : Nat) (f4 : Nat → Int32) (hk : Nat) (fo : Nat → Int32) (fl : Nat → Int32) (on : Nat) (p0 : Int32) (a1 : Nat) : Nat × (Nat → Int32) × (Nat → Int32) × (Nat → Int32) × Nat × Nat × Nat × Nat := (if (0 : Int32) ≤ p0 ∧ p0 < nI np then (slet ((p0 : Int32).toNatClampNeg) (fun n_2 => (slet (f4 n_2) (fun y_3 => (if (y_3 : Int32) = (nI a1) then (0, fo, fl, f4, ss, hs, hk, on) else (if a1 = 0 then (slet (sp_E_8_bit 1) (fun u_16 => (slet (sp_E_2_keep hk fo fl (-1 - nI n_2) (nI u_16)) (fun (z_fo_18, z_fl_19, z_hk_20) => (slet (upd f4 n_2 (vp_nar .boolean (nI a1))) (fun f_21 => (1, z_fo_18, z_fl_19, f_21, 0, 0, z_hk_20, 0))))))) else (slet (sp_E_8_bit 0) (fun u_8 => (slet (sp_E_2_keep hk fo fl (-1 - nI n_2) (nI u_8)) (fun (z_fo_10, z_fl_11, z_hk_12) => (slet (upd f4 n_2 (vp_nar .boolean (nI a1))) (fun f_13 => (1, z_fo_10, z_fl_11, f_13, 0, 0, z_hk_12, 0))))))))))))) else (0, fo, fl, f4, ss, hs, hk, on))
set_option maxHeartbeats 4000000 in
set_option maxRecDepth 100000 in
theorem c_E_8_urgent (l : Launch) (dC : Nat → ClassId) (dI : Nat → Nat → Nat) (sz : Nat) (xa : Nat) (xtape : Nat) (tp : Nat) (rd : Nat) (au : Nat) (xdr : Nat) (hy : Nat) (g : Nat) (hs : Nat) (tg : Nat) (sg : Nat) (ss : Nat) (rm : Nat) (ti : Nat) (py : Nat) (bu : Nat) (sm : Nat) (nc : Nat) (np : Nat) (ne : Nat) (st0 : Int32) (q4 : Nat) (q5 : Nat) (q6 : Nat) (q7 : Nat) (q8 : Nat) (q9 : Nat) (q10 : Nat) (q11 : Nat) (q12 : Nat) (q13 : Nat) (q14 : Nat) (q15 : Nat) (q16 : Nat) (k_f4 : ClassId) (f4 : Nat → Int32) (k_f5 : ClassId) (q_f5 : Nat → Nat) (k_f6 : ClassId) (q_f6 : Nat → Nat) (k_f7 : ClassId) (f7 : Nat → Int32) (k_f8 : ClassId) (q_f8 : Nat → Nat) (k_f9 : ClassId) (q_f9 : Nat → Nat) (k_f10 : ClassId) (f10 : Nat → Int32) (k_f11 : ClassId) (f11 : Nat → Int32) (k_f12 : ClassId) (f12 : Nat → Int32) (k_f13 : ClassId) (f13 : Nat → Int32) (k_f14 : ClassId) (f14 : Nat → Int32) (k_f15 : ClassId) (f15 : Nat → Int32) (k_f16 : ClassId) (f16 : Nat → Int32) (hk : Nat) (co : Nat) (ol : Nat) (k_fo : ClassId) (fo : Nat → Int32) (k_fl : ClassId) (fl : Nat → Int32) (on : Nat) (si : Nat) (ti0 : Int32) (tm : Nat) (bh : Nat) (p0 : Int32) (a1 : Nat) (htp : tp ≤ 900) (hhs : hs ≤ 1) (hss : ss ≤ 1) (hnc : nc ≤ 3) (hnp : np ≤ 8) (hne : ne ≤ 14) (hst0 : pm1 7 st0) (hhk : hk ≤ 20) (hon : on ≤ 1) (hsi : si ≤ 7) (ha1 : a1 ≤ 1) (hq0 : hi_ok hk fo) : Met l yX8_urgent vs_E_8_urgent ({ frames := 1, cells := 0, slots := 0, locals := 23 }) (va_Pc [.ref xa, .int p0, .int (nI a1)] (pu_B (dC, dI) (xh__w xa xtape (nI tp) rd au xdr hy g (nI hs) tg sg (nI ss) rm ti py bu sm (nI nc) (nI np) (nI ne) st0 q4 q5 q6 q7 q8 q9 q10 q11 q12 q13 q14 q15 q16 k_f4 f4 k_f5 (bN 7 q_f5) k_f6 (bN 7 q_f6) k_f7 f7 k_f8 (bN 4 q_f8) k_f9 (bN 2 q_f9) k_f10 f10 k_f11 f11 k_f12 f12 k_f13 f13 k_f14 f14 k_f15 f15 k_f16 f16 (nI hk) co ol k_fo fo k_fl fl (nI on) (nI si) ti0 tm bh) (xh__t k_f4 k_f5 k_f6 k_f7 k_f8 k_f9 k_f10 k_f11 k_f12 k_f13 k_f14 k_f15 k_f16 k_fo k_fl) sz)) (va_Qi (fun (r : Int32) (_ : Unit) => ∃ v : Nat, v ≤ 1 ∧ r = nI v ∧ v = (sp_E_8_urgent hs ss np f4 hk fo fl on p0 a1).1) (fun _ t => ∃ (z_fo : Nat → Int32) (z_fl : Nat → Int32) (z_f4 : Nat → Int32) (z_ss : Nat) (z_hs : Nat) (z_hk : Nat) (z_on : Nat), pu_E (dC, dI) (xh__w xa xtape (nI tp) rd au xdr hy g (nI z_hs) tg sg (nI z_ss) rm ti py bu sm (nI nc) (nI np) (nI ne) st0 q4 q5 q6 q7 q8 q9 q10 q11 q12 q13 q14 q15 q16 k_f4 z_f4 k_f5 (bN 7 q_f5) k_f6 (bN 7 q_f6) k_f7 f7 k_f8 (bN 4 q_f8) k_f9 (bN 2 q_f9) k_f10 f10 k_f11 f11 k_f12 f12 k_f13 f13 k_f14 f14 k_f15 f15 k_f16 f16 (nI z_hk) co ol k_fo z_fo k_fl z_fl (nI z_on) (nI si) ti0 tm bh) (xh__t k_f4 k_f5 k_f6 k_f7 k_f8 k_f9 k_f10 k_f11 k_f12 k_f13 k_f14 k_f15 k_f16 k_fo k_fl) (va_A ((xh__w xa xtape (nI tp) rd au xdr hy g (nI hs) tg sg (nI ss) rm ti py bu sm (nI nc) (nI np) (nI ne) st0 q4 q5 q6 q7 q8 q9 q10 q11 q12 q13 q14 q15 q16 k_f4 f4 k_f5 (bN 7 q_f5) k_f6 (bN 7 q_f6) k_f7 f7 k_f8 (bN 4 q_f8) k_f9 (bN 2 q_f9) k_f10 f10 k_f11 f11 k_f12 f12 k_f13 f13 k_f14 f14 k_f15 f15 k_f16 f16 (nI hk) co ol k_fo fo k_fl fl (nI on) (nI si) ti0 tm bh)) sz) t ∧ (z_ss ≤ 1) ∧ (z_hs ≤ 1) ∧ (z_hk ≤ 20) ∧ (z_on ≤ 1) ∧ (hi_ok z_hk z_fo) ∧ ((z_fo, z_fl, z_f4, z_ss, z_hs, z_hk, z_on) = (sp_E_8_urgent hs ss np f4 hk fo fl on p0 a1).2)) (va_A ((xh__w xa xtape (nI tp) rd au xdr hy g (nI hs) tg sg (nI ss) rm ti py bu sm (nI nc) (nI np) (nI ne) st0 q4 q5 q6 q7 q8 q9 q10 q11 q12 q13 q14 q15 q16 k_f4 f4 k_f5 (bN 7 q_f5) k_f6 (bN 7 q_f6) k_f7 f7 k_f8 (bN 4 q_f8) k_f9 (bN 2 q_f9) k_f10 f10 k_f11 f11 k_f12 f12 k_f13 f13 k_f14 f14 k_f15 f15 k_f16 f16 (nI hk) co ol k_fo fo k_fl fl (nI on) (nI si) ti0 tm bh)) sz)) 0 0 (va_A ((xh__w xa xtape (nI tp) rd au xdr hy g (nI hs) tg sg (nI ss) rm ti py bu sm (nI nc) (nI np) (nI ne) st0 q4 q5 q6 q7 q8 q9 q10 q11 q12 q13 q14 q15 q16 k_f4 f4 k_f5 (bN 7 q_f5) k_f6 (bN 7 q_f6) k_f7 f7 k_f8 (bN 4 q_f8) k_f9 (bN 2 q_f9) k_f10 f10 k_f11 f11 k_f12 f12 k_f13 f13 k_f14 f14 k_f15 f15 k_f16 f16 (nI hk) co ol k_fo fo k_fl fl (nI on) (nI si) ti0 tm bh)) sz) := by
  refine Met.ofW (cc := cX8_urgent) (maxL := 3) (ret := (some .boolean)) (by decide) rfl ?_
  intro p e s m args below meth c s₁ B hml hv
  obtain ⟨rfl, rfl, hP, hK, hD0⟩ := hv
  have hx := B.exec
  have hb := B.bytes
  have hr := B.returns
  have hts := atoms_spec (ws := vs_E_8_urgent) B.pre
  have v_6 := hts (.fieldLink RX8 23 "ClockReach" "model" "LClockReach$Automaton;") (List.mem_cons_of_mem _ cm_434)
  have v_7 := hts (.fieldLink RX8 144 "ClockReach$Automaton" "hurried" "[Z") (List.mem_cons_of_mem _ cm_467)
  have v_8 := hts (.fieldLink RX8 33 "ClockReach" "history" "LClockReach$History;") (List.mem_cons_of_mem _ cm_435)
  have hown : s.vm.findClass RX8 = some m.cls := findClass_of_methodNamed B.named
  have hlocks := B.notSynchronized
  have hiX0 : ∀ w ∈ wsX00, w ∈ vs_E_8_urgent := fun _ h => List.mem_cons_of_mem _ (cm_X0 h)
  have hiX8 : ∀ w ∈ wsX80, w ∈ vs_E_8_urgent := fun _ h => List.mem_cons_of_mem _ (cm_X8 h)
  have hD := hD0.self (sz := s.heap.size)
  generalize hAe : va_A ((xh__w xa xtape (nI tp) rd au xdr hy g (nI hs) tg sg (nI ss) rm ti py bu sm (nI nc) (nI np) (nI ne) st0 q4 q5 q6 q7 q8 q9 q10 q11 q12 q13 q14 q15 q16 k_f4 f4 k_f5 (bN 7 q_f5) k_f6 (bN 7 q_f6) k_f7 f7 k_f8 (bN 4 q_f8) k_f9 (bN 2 q_f9) k_f10 f10 k_f11 f11 k_f12 f12 k_f13 f13 k_f14 f14 k_f15 f15 k_f16 f16 (nI hk) co ol k_fo fo k_fl fl (nI on) (nI si) ti0 tm bh)) s.heap.size = A at hD ⊢
  have hA : ∀ q : Nat, s.heap.size ≤ q → A q := fun q h => by rw [← hAe]; exact Or.inr h
  have hS : va_S A s.heap s.heap [] := va_S.rf
  have hl := lv_entry ([.ref xa, .int p0, .int (nI a1)]) (n := 3) (Nat.le_of_ble_eq_true rfl)
  rw [lg_entry_eq]
  generalize (lg_sl ([.ref xa, .int p0, .int (nI a1)]) ++ List.replicate (3 - (lg_sl ([.ref xa, .int p0, .int (nI a1)])).length) Slot.unset).toArray = ls at hl ⊢
  have hl : lv_has ls 3 [(0, .ref xa), (1, .int p0), (2, .int (nI a1))] := hl
  obtain ⟨RR, hRR⟩ : ∃ x, x = (sp_E_8_urgent hs ss np f4 hk fo fl on p0 a1) := ⟨_, rfl⟩
  have hsp := hRR
  refine lv_aload_n hx hb eX8_urgent_0 rfl (lv_at hl 0 rfl) ?_
  refine lv_iload_n hx hb eX8_urgent_1 rfl (lv_at hl 1 rfl) ?_
  have hPc : va_P (dC, dI) vwCl (xo__w xa xtape (nI tp) rd au xdr hy g (nI hs) tg sg (nI ss) rm ti py bu sm (nI nc) (nI np) (nI ne) st0 q4 q5 q6 q7 q8 q9 q10 q11 q12 q13 q14 q15 q16) _ := hP.sub [0, 1] rfl
  have hDc := hD.sub (ws' := (xo__w xa xtape (nI tp) rd au xdr hy g (nI hs) tg sg (nI ss) rm ti py bu sm (nI nc) (nI np) (nI ne) st0 q4 q5 q6 q7 q8 q9 q10 q11 q12 q13 q14 q15 q16)) [0, 1] (by decide) rfl
  have hKc : va_K (dC, dI) vwCl (xo__t ) s := hK.sub [] rfl
  refine va_calli (va_runV (As := [.int p0]) (rest := []) ⟨hx, hb, hml, hown, hts⟩ (c_E_8_isPlace l dC dI _ xa xtape tp rd au xdr hy g hs tg sg ss rm ti py bu sm nc np ne st0 q4 q5 q6 q7 q8 q9 q10 q11 q12 q13 q14 q15 q16 p0 htp hhs hss hnc hnp hne (hst0)) (cwV 1 hts g_E_8_urgent_E_8_isPlace rfl rfl rfl (by decide +kernel) ⟨Nat.le_of_ble_eq_true rfl, Nat.le_of_ble_eq_true rfl⟩) ⟨pu_bl, va_recv hK hP (ci := 8) (q0 := 0) rfl rfl, pu_in hPc hKc hDc⟩ rfl rfl hl.1 rfl (lv_room (Nat.le_of_ble_eq_true rfl)) eX8_urgent_2 ⟨Nat.le_of_ble_eq_true rfl, Nat.le_of_ble_eq_true rfl⟩) hS (fun q _ h => pu_fr hS hA q h) (pu_fr hS hA) (fun r_1 u t H1 locs ht hvm hw hB hz1 hk1 hS => ?_)
  have hP := pu_keep hP hk1
  clear hk1 hz1 ht hvm
  generalize H1 = H at hP hS ⊢
  rcases hw with ⟨rfl, hw⟩ | ⟨rfl, hn⟩
  · obtain ⟨n_2, hn_2, rfl⟩ := hw
    have hsp := hsp.trans (if_pos (in_q hn_2 (by omega)))
    have hsp := hsp.trans (slet_eq (nI_cl (n := n_2) (by omega)))
    refine lv_if_eq (tgt := 21) hx hb eX8_urgent_5 (by decide) (fun z => absurd z (by decide)) (fun _ => ?_)
    refine lv_aload_n hx hb eX8_urgent_8 rfl (lv_at hl 0 rfl) ?_
    refine va_get (D := (dC, dI)) (ci := 8) (v := .ref au) (C := RX8) (T := TX8) (N := 16) hx hb hts hiX8 hown hK hP 0 rfl rfl 3 (by decide) v_6 (fun _ h9 => h9) rfl eX8_urgent_9 ?_
    refine va_get (D := (dC, dI)) (ci := 0) (v := .ref q4) (C := RX0) (T := TX0) (N := 17) hx hb hts hiX0 hown hK hP 1 rfl rfl 4 (by decide) v_7 (fun _ h9 => h9) rfl eX8_urgent_12 ?_
    refine lv_iload_n hx hb eX8_urgent_15 rfl (lv_at hl 1 rfl) ?_
    refine va_zald hx hb hK hP 2 0 rfl rfl (vp_in_nI (n := n_2) (by omega) (Nat.le_of_ble_eq_true rfl)) eX8_urgent_16 ?_
    refine lv_topi (fun y_3 ey_3 => ?_)
    have ey_3 : y_3 = f4 n_2 := ey_3.trans (congrArg f4 (nI_clamp (n := n_2) (by omega)))
    have hsp := hsp.trans (slet_eq ey_3)
    refine lv_iload_n hx hb eX8_urgent_17 rfl (lv_at hl 2 rfl) ?_
    refine lv_icmp_ne (tgt := 23) hx hb eX8_urgent_18 (by decide) (fun c_4 => ?_) (fun c_4 => ?_)
    · have hcc_4 := c_4
      have hsp := hsp.trans (if_neg c_4)
      refine lv_aload_n hx hb eX8_urgent_23 rfl (lv_at hl 0 rfl) ?_
      refine va_get (D := (dC, dI)) (ci := 8) (v := .ref hy) (C := RX8) (T := TX8) (N := 16) hx hb hts hiX8 hown hK hP 0 rfl rfl 5 (by decide) v_8 (fun _ h9 => h9) rfl eX8_urgent_24 ?_
      refine lv_iload_n hx hb eX8_urgent_27 rfl (lv_at hl 1 rfl) ?_
      refine va_calli (va_runS (As := [.int (nI n_2)]) (rest := [.ref hy]) ⟨hx, hb, hml, hown, hts⟩ (c_E_2_codeOfPlace l dC dI _ n_2 (by omega)) (va_cwS 1 hts g_E_8_urgent_E_2_codeOfPlace rfl rfl rfl (by decide +kernel) ⟨Nat.le_of_ble_eq_true rfl, Nat.le_of_ble_eq_true rfl⟩) ⟨pu_bl, pu_in (hP.sub [] rfl) (hK.sub [] rfl) (hD.sub [] (by decide) rfl)⟩ rfl rfl hl.1 rfl (lv_room (Nat.le_of_ble_eq_true rfl)) eX8_urgent_28 ⟨Nat.le_of_ble_eq_true rfl, Nat.le_of_ble_eq_true rfl⟩) hS (fun q _ h => pu_fr hS hA q h) (pu_fr hS hA) (fun r_5 u t H1 locs ht hvm hw hB hz1 hk1 hS => ?_)
      have hP := pu_keep hP hk1
      clear hk1 hz1 ht hvm
      generalize H1 = H at hP hS ⊢
      obtain rfl : r_5 = -1 - nI n_2 := hw
      refine lv_iload_n hx hb eX8_urgent_31 rfl (lv_at hl 2 rfl) ?_
      refine lv_if_ne (tgt := 39) hx hb eX8_urgent_32 (by decide) (fun c_6 => ?_) (fun c_6 => ?_)
      · have c_6 : ¬ a1 = 0 := fun z => c_6 ((nI_eq (a := a1) (b := 0) (Nat.lt_of_le_of_lt ha1 (Nat.le_of_ble_eq_true rfl)) (Nat.le_of_ble_eq_true rfl)).mpr z)
        have hsp := hsp.trans (if_neg c_6)
        refine lv_iconst (v := 0) hx hb eX8_urgent_39 (by decide) ?_
        refine va_calli (va_runS (As := [.int 0]) (rest := [.int (-1 - nI n_2), .ref hy]) ⟨hx, hb, hml, hown, hts⟩ (c_E_8_bit l dC dI _ 0) (va_cwS 1 hts g_E_8_urgent_E_8_bit rfl rfl rfl (by decide +kernel) ⟨Nat.le_of_ble_eq_true rfl, Nat.le_of_ble_eq_true rfl⟩) ⟨pu_bl, pu_in (hP.sub [] rfl) (hK.sub [] rfl) (hD.sub [] (by decide) rfl)⟩ rfl rfl hl.1 rfl (lv_room (Nat.le_of_ble_eq_true rfl)) eX8_urgent_40 ⟨Nat.le_of_ble_eq_true rfl, Nat.le_of_ble_eq_true rfl⟩) hS (fun q _ h => pu_fr hS hA q h) (pu_fr hS hA) (fun r_7 u t H1 locs ht hvm hw hB hz1 hk1 hS => ?_)
        have hP := pu_keep hP hk1
        clear hk1 hz1 ht hvm
        generalize H1 = H at hP hS ⊢
        obtain ⟨u_8, hu_8, rfl, iu_8⟩ := hw
        have hsp := hsp.trans (slet_eq iu_8)
        have hPc : va_P (dC, dI) vwCl (hz__w hy (nI hk) co ol k_fo fo k_fl fl) _ := hP.sub [15, 16, 17] rfl
        have hDc := hD.sub (ws' := (hz__w hy (nI hk) co ol k_fo fo k_fl fl)) [15, 16, 17] (by decide) rfl
        have hKc : va_K (dC, dI) vwCl (hz__t k_fo k_fl) s := hK.sub [13, 14] rfl
        have hFc := pu_free hDc hS hA
        refine va_callv (va_runV (As := [.int (-1 - nI n_2), .int (nI u_8)]) (rest := []) ⟨hx, hb, hml, hown, hts⟩ (c_E_2_keep l dC dI _ hy hk co ol k_fo fo k_fl fl (-1 - nI n_2) (nI u_8) hhk (by assumption) (Or.inr ⟨n_2, by omega, rfl⟩)) (cwV 2 hts g_E_8_urgent_E_2_keep rfl rfl rfl (by decide +kernel) ⟨Nat.le_of_ble_eq_true rfl, Nat.le_of_ble_eq_true rfl⟩) ⟨pu_bl, va_recv hK hP (ci := 2) (q0 := 15) rfl rfl, pu_in hPc hKc hDc⟩ rfl rfl hl.1 rfl (lv_room (Nat.le_of_ble_eq_true rfl)) eX8_urgent_43 ⟨Nat.le_of_ble_eq_true rfl, Nat.le_of_ble_eq_true rfl⟩) hS (fun q _ h => hFc q h) hFc (fun u t H1 locs ht hvm hw hB hz1 hk1 hS => ?_)
        obtain ⟨z_fo_10, z_fl_11, z_hk_12, ⟨hP1, -, hD1⟩, hz_hk_12, xr_9_0, xr_9_1⟩ := hB
        rw [ht] at hP1
        obtain ⟨hP, hD⟩ := pj_a (X := (xh__w xa xtape (nI tp) rd au xdr hy g (nI hs) tg sg (nI ss) rm ti py bu sm (nI nc) (nI np) (nI ne) st0 q4 q5 q6 q7 q8 q9 q10 q11 q12 q13 q14 q15 q16 k_f4 f4 k_f5 (bN 7 q_f5) k_f6 (bN 7 q_f6) k_f7 f7 k_f8 (bN 4 q_f8) k_f9 (bN 2 q_f9) k_f10 f10 k_f11 f11 k_f12 f12 k_f13 f13 k_f14 f14 k_f15 f15 k_f16 f16 (nI hk) co ol k_fo fo k_fl fl (nI on) (nI si) ti0 tm bh)) (X' := (xh__w xa xtape (nI tp) rd au xdr hy g (nI hs) tg sg (nI ss) rm ti py bu sm (nI nc) (nI np) (nI ne) st0 q4 q5 q6 q7 q8 q9 q10 q11 q12 q13 q14 q15 q16 k_f4 f4 k_f5 (bN 7 q_f5) k_f6 (bN 7 q_f6) k_f7 f7 k_f8 (bN 4 q_f8) k_f9 (bN 2 q_f9) k_f10 f10 k_f11 f11 k_f12 f12 k_f13 f13 k_f14 f14 k_f15 f15 k_f16 f16 (nI z_hk_12) co ol k_fo z_fo_10 k_fl z_fl_11 (nI on) (nI si) ti0 tm bh)) (wc := (hz__w hy (nI hk) co ol k_fo fo k_fl fl)) (w1 := (hz__w hy (nI z_hk_12) co ol k_fo z_fo_10 k_fl z_fl_11)) hP hD [15, 16, 17] [3, 4, 5, 6, 7, 8, 9, 10, 11, 12, 13, 14, 15, 16, 17, 0, 1, 2, 21] 3 rfl hk1 hP1 rfl rfl rfl (by decide)
        clear hP1 hD1 hFc hPc hDc hKc
        clear hk1 hz1 ht hvm
        generalize H1 = H at hP hS ⊢
        have hsp := hsp.trans (slet_eq xr_9_1)
        refine lv_aload_n hx hb eX8_urgent_46 rfl (lv_at hl 0 rfl) ?_
        refine va_get (D := (dC, dI)) (ci := 8) (v := .ref au) (C := RX8) (T := TX8) (N := 16) hx hb hts hiX8 hown hK hP 0 rfl rfl 3 (by decide) v_6 (fun _ h9 => h9) rfl eX8_urgent_47 ?_
        refine va_get (D := (dC, dI)) (ci := 0) (v := .ref q4) (C := RX0) (T := TX0) (N := 17) hx hb hts hiX0 hown hK hP 1 rfl rfl 4 (by decide) v_7 (fun _ h9 => h9) rfl eX8_urgent_50 ?_
        refine lv_iload_n hx hb eX8_urgent_53 rfl (lv_at hl 1 rfl) ?_
        refine lv_iload_n hx hb eX8_urgent_54 rfl (lv_at hl 2 rfl) ?_
        refine va_zast hx hb hK hP hD hS 2 0 rfl rfl (vp_in_nI (n := n_2) (by omega) (Nat.le_of_ble_eq_true rfl)) eX8_urgent_55 (fun H locs hP hD hS => ?_)
        obtain ⟨f_13, ef_13, xf_13⟩ := up_x f4 (n := n_2) (vp_nar .boolean (nI a1)) (by omega)
        have hP : va_P (dC, dI) vwCl (xh__w xa xtape (nI tp) rd au xdr hy g (nI hs) tg sg (nI ss) rm ti py bu sm (nI nc) (nI np) (nI ne) st0 q4 q5 q6 q7 q8 q9 q10 q11 q12 q13 q14 q15 q16 k_f4 f_13 k_f5 (bN 7 q_f5) k_f6 (bN 7 q_f6) k_f7 f7 k_f8 (bN 4 q_f8) k_f9 (bN 2 q_f9) k_f10 f10 k_f11 f11 k_f12 f12 k_f13 f13 k_f14 f14 k_f15 f15 k_f16 f16 (nI z_hk_12) co ol k_fo z_fo_10 k_fl z_fl_11 (nI on) (nI si) ti0 tm bh) H := by rw [← ef_13]; exact hP
        have hD : va_D A (xh__w xa xtape (nI tp) rd au xdr hy g (nI hs) tg sg (nI ss) rm ti py bu sm (nI nc) (nI np) (nI ne) st0 q4 q5 q6 q7 q8 q9 q10 q11 q12 q13 q14 q15 q16 k_f4 f_13 k_f5 (bN 7 q_f5) k_f6 (bN 7 q_f6) k_f7 f7 k_f8 (bN 4 q_f8) k_f9 (bN 2 q_f9) k_f10 f10 k_f11 f11 k_f12 f12 k_f13 f13 k_f14 f14 k_f15 f15 k_f16 f16 (nI z_hk_12) co ol k_fo z_fo_10 k_fl z_fl_11 (nI on) (nI si) ti0 tm bh) := by rw [← ef_13]; exact hD
        have hsp := hsp.trans (slet_eq xf_13)
        refine lv_aload_n hx hb eX8_urgent_56 rfl (lv_at hl 0 rfl) ?_
        have hPc : va_P (dC, dI) vwCl (xp__w xa xtape (nI tp) rd au xdr hy g (nI hs) tg sg (nI ss) rm ti py bu sm (nI on) (nI si) ti0 tm bh) _ := hP.sub [0, 18] rfl
        have hDc := hD.sub (ws' := (xp__w xa xtape (nI tp) rd au xdr hy g (nI hs) tg sg (nI ss) rm ti py bu sm (nI on) (nI si) ti0 tm bh)) [0, 18] (by decide) rfl
        have hKc : va_K (dC, dI) vwCl (xp__t ) s := hK.sub [] rfl
        have hFc := pu_free hDc hS hA
        refine va_callv (va_runV (As := []) (rest := []) ⟨hx, hb, hml, hown, hts⟩ (c_E_8_dropViews l dC dI _ xa xtape tp rd au xdr hy g hs tg sg ss rm ti py bu sm on si ti0 tm bh htp hhs hss hon hsi) (cwV 0 hts g_E_8_urgent_E_8_dropViews rfl rfl rfl (by decide +kernel) ⟨Nat.le_of_ble_eq_true rfl, Nat.le_of_ble_eq_true rfl⟩) ⟨pu_bl, va_recv hK hP (ci := 8) (q0 := 0) rfl rfl, pu_in hPc hKc hDc⟩ rfl rfl hl.1 rfl (lv_room (Nat.le_of_ble_eq_true rfl)) eX8_urgent_57 ⟨Nat.le_of_ble_eq_true rfl, Nat.le_of_ble_eq_true rfl⟩) hS (fun q _ h => hFc q h) hFc (fun u t H1 locs ht hvm hw hB hz1 hk1 hS => ?_)
        obtain ⟨hP1, -, hD1⟩ := hB
        rw [ht] at hP1
        obtain ⟨hP, hD⟩ := pj_a (X := (xh__w xa xtape (nI tp) rd au xdr hy g (nI hs) tg sg (nI ss) rm ti py bu sm (nI nc) (nI np) (nI ne) st0 q4 q5 q6 q7 q8 q9 q10 q11 q12 q13 q14 q15 q16 k_f4 f_13 k_f5 (bN 7 q_f5) k_f6 (bN 7 q_f6) k_f7 f7 k_f8 (bN 4 q_f8) k_f9 (bN 2 q_f9) k_f10 f10 k_f11 f11 k_f12 f12 k_f13 f13 k_f14 f14 k_f15 f15 k_f16 f16 (nI z_hk_12) co ol k_fo z_fo_10 k_fl z_fl_11 (nI on) (nI si) ti0 tm bh)) (X' := (xh__w xa xtape (nI tp) rd au xdr hy g 0 tg sg 0 rm ti py bu sm (nI nc) (nI np) (nI ne) st0 q4 q5 q6 q7 q8 q9 q10 q11 q12 q13 q14 q15 q16 k_f4 f_13 k_f5 (bN 7 q_f5) k_f6 (bN 7 q_f6) k_f7 f7 k_f8 (bN 4 q_f8) k_f9 (bN 2 q_f9) k_f10 f10 k_f11 f11 k_f12 f12 k_f13 f13 k_f14 f14 k_f15 f15 k_f16 f16 (nI z_hk_12) co ol k_fo z_fo_10 k_fl z_fl_11 0 (nI si) ti0 tm bh)) (wc := (xp__w xa xtape (nI tp) rd au xdr hy g (nI hs) tg sg (nI ss) rm ti py bu sm (nI on) (nI si) ti0 tm bh)) (w1 := (xp__w xa xtape (nI tp) rd au xdr hy g 0 tg sg 0 rm ti py bu sm 0 (nI si) ti0 tm bh)) hP hD [0, 18] [0, 3, 4, 5, 6, 7, 8, 9, 10, 11, 12, 13, 14, 15, 16, 17, 18, 19, 1] 2 rfl hk1 hP1 rfl rfl rfl (by decide)
        clear hP1 hD1 hFc hPc hDc hKc
        clear hk1 hz1 ht hvm
        generalize H1 = H at hP hS ⊢
        refine lv_iconst (v := 1) hx hb eX8_urgent_60 (by decide) ?_
        exact W.zret (v := 1) (ty := .boolean) hx hb hr (rfl) (fun t ht hW => ⟨⟨1, (), rfl, ⟨1, (Nat.le_of_ble_eq_true rfl), rfl, (congrArg Prod.fst (hsp.symm.trans hRR))⟩, ⟨z_fo_10, z_fl_11, f_13, 0, 0, z_hk_12, 0, ⟨by rw [ht]; exact hP, va_K.moved hW.alike hK, hD⟩, (Nat.le_of_ble_eq_true rfl), (Nat.le_of_ble_eq_true rfl), hz_hk_12, (Nat.le_of_ble_eq_true rfl), by assumption, (congrArg Prod.snd (hsp.symm.trans hRR))⟩⟩, hS.F ht⟩) hS.2.2 eX8_urgent_61
      · have c_6 : a1 = 0 := (nI_eq (a := a1) (b := 0) (Nat.lt_of_le_of_lt ha1 (Nat.le_of_ble_eq_true rfl)) (Nat.le_of_ble_eq_true rfl)).mp c_6
        have hsp := hsp.trans (if_pos c_6)
        refine lv_iconst (v := 1) hx hb eX8_urgent_35 (by decide) ?_
        refine lv_goto (tgt := 40) hx hb eX8_urgent_36 (by decide) ?_
        refine va_calli (va_runS (As := [.int 1]) (rest := [.int (-1 - nI n_2), .ref hy]) ⟨hx, hb, hml, hown, hts⟩ (c_E_8_bit l dC dI _ 1) (va_cwS 1 hts g_E_8_urgent_E_8_bit rfl rfl rfl (by decide +kernel) ⟨Nat.le_of_ble_eq_true rfl, Nat.le_of_ble_eq_true rfl⟩) ⟨pu_bl, pu_in (hP.sub [] rfl) (hK.sub [] rfl) (hD.sub [] (by decide) rfl)⟩ rfl rfl hl.1 rfl (lv_room (Nat.le_of_ble_eq_true rfl)) eX8_urgent_40 ⟨Nat.le_of_ble_eq_true rfl, Nat.le_of_ble_eq_true rfl⟩) hS (fun q _ h => pu_fr hS hA q h) (pu_fr hS hA) (fun r_15 u t H1 locs ht hvm hw hB hz1 hk1 hS => ?_)
        have hP := pu_keep hP hk1
        clear hk1 hz1 ht hvm
        generalize H1 = H at hP hS ⊢
        obtain ⟨u_16, hu_16, rfl, iu_16⟩ := hw
        have hsp := hsp.trans (slet_eq iu_16)
        have hPc : va_P (dC, dI) vwCl (hz__w hy (nI hk) co ol k_fo fo k_fl fl) _ := hP.sub [15, 16, 17] rfl
        have hDc := hD.sub (ws' := (hz__w hy (nI hk) co ol k_fo fo k_fl fl)) [15, 16, 17] (by decide) rfl
        have hKc : va_K (dC, dI) vwCl (hz__t k_fo k_fl) s := hK.sub [13, 14] rfl
        have hFc := pu_free hDc hS hA
        refine va_callv (va_runV (As := [.int (-1 - nI n_2), .int (nI u_16)]) (rest := []) ⟨hx, hb, hml, hown, hts⟩ (c_E_2_keep l dC dI _ hy hk co ol k_fo fo k_fl fl (-1 - nI n_2) (nI u_16) hhk (by assumption) (Or.inr ⟨n_2, by omega, rfl⟩)) (cwV 2 hts g_E_8_urgent_E_2_keep rfl rfl rfl (by decide +kernel) ⟨Nat.le_of_ble_eq_true rfl, Nat.le_of_ble_eq_true rfl⟩) ⟨pu_bl, va_recv hK hP (ci := 2) (q0 := 15) rfl rfl, pu_in hPc hKc hDc⟩ rfl rfl hl.1 rfl (lv_room (Nat.le_of_ble_eq_true rfl)) eX8_urgent_43 ⟨Nat.le_of_ble_eq_true rfl, Nat.le_of_ble_eq_true rfl⟩) hS (fun q _ h => hFc q h) hFc (fun u t H1 locs ht hvm hw hB hz1 hk1 hS => ?_)
        obtain ⟨z_fo_18, z_fl_19, z_hk_20, ⟨hP1, -, hD1⟩, hz_hk_20, xr_17_0, xr_17_1⟩ := hB
        rw [ht] at hP1
        obtain ⟨hP, hD⟩ := pj_a (X := (xh__w xa xtape (nI tp) rd au xdr hy g (nI hs) tg sg (nI ss) rm ti py bu sm (nI nc) (nI np) (nI ne) st0 q4 q5 q6 q7 q8 q9 q10 q11 q12 q13 q14 q15 q16 k_f4 f4 k_f5 (bN 7 q_f5) k_f6 (bN 7 q_f6) k_f7 f7 k_f8 (bN 4 q_f8) k_f9 (bN 2 q_f9) k_f10 f10 k_f11 f11 k_f12 f12 k_f13 f13 k_f14 f14 k_f15 f15 k_f16 f16 (nI hk) co ol k_fo fo k_fl fl (nI on) (nI si) ti0 tm bh)) (X' := (xh__w xa xtape (nI tp) rd au xdr hy g (nI hs) tg sg (nI ss) rm ti py bu sm (nI nc) (nI np) (nI ne) st0 q4 q5 q6 q7 q8 q9 q10 q11 q12 q13 q14 q15 q16 k_f4 f4 k_f5 (bN 7 q_f5) k_f6 (bN 7 q_f6) k_f7 f7 k_f8 (bN 4 q_f8) k_f9 (bN 2 q_f9) k_f10 f10 k_f11 f11 k_f12 f12 k_f13 f13 k_f14 f14 k_f15 f15 k_f16 f16 (nI z_hk_20) co ol k_fo z_fo_18 k_fl z_fl_19 (nI on) (nI si) ti0 tm bh)) (wc := (hz__w hy (nI hk) co ol k_fo fo k_fl fl)) (w1 := (hz__w hy (nI z_hk_20) co ol k_fo z_fo_18 k_fl z_fl_19)) hP hD [15, 16, 17] [3, 4, 5, 6, 7, 8, 9, 10, 11, 12, 13, 14, 15, 16, 17, 0, 1, 2, 21] 3 rfl hk1 hP1 rfl rfl rfl (by decide)
        clear hP1 hD1 hFc hPc hDc hKc
        clear hk1 hz1 ht hvm
        generalize H1 = H at hP hS ⊢
        have hsp := hsp.trans (slet_eq xr_17_1)
        refine lv_aload_n hx hb eX8_urgent_46 rfl (lv_at hl 0 rfl) ?_
        refine va_get (D := (dC, dI)) (ci := 8) (v := .ref au) (C := RX8) (T := TX8) (N := 16) hx hb hts hiX8 hown hK hP 0 rfl rfl 3 (by decide) v_6 (fun _ h9 => h9) rfl eX8_urgent_47 ?_
        refine va_get (D := (dC, dI)) (ci := 0) (v := .ref q4) (C := RX0) (T := TX0) (N := 17) hx hb hts hiX0 hown hK hP 1 rfl rfl 4 (by decide) v_7 (fun _ h9 => h9) rfl eX8_urgent_50 ?_
        refine lv_iload_n hx hb eX8_urgent_53 rfl (lv_at hl 1 rfl) ?_
        refine lv_iload_n hx hb eX8_urgent_54 rfl (lv_at hl 2 rfl) ?_
        refine va_zast hx hb hK hP hD hS 2 0 rfl rfl (vp_in_nI (n := n_2) (by omega) (Nat.le_of_ble_eq_true rfl)) eX8_urgent_55 (fun H locs hP hD hS => ?_)
        obtain ⟨f_21, ef_21, xf_21⟩ := up_x f4 (n := n_2) (vp_nar .boolean (nI a1)) (by omega)
        have hP : va_P (dC, dI) vwCl (xh__w xa xtape (nI tp) rd au xdr hy g (nI hs) tg sg (nI ss) rm ti py bu sm (nI nc) (nI np) (nI ne) st0 q4 q5 q6 q7 q8 q9 q10 q11 q12 q13 q14 q15 q16 k_f4 f_21 k_f5 (bN 7 q_f5) k_f6 (bN 7 q_f6) k_f7 f7 k_f8 (bN 4 q_f8) k_f9 (bN 2 q_f9) k_f10 f10 k_f11 f11 k_f12 f12 k_f13 f13 k_f14 f14 k_f15 f15 k_f16 f16 (nI z_hk_20) co ol k_fo z_fo_18 k_fl z_fl_19 (nI on) (nI si) ti0 tm bh) H := by rw [← ef_21]; exact hP
        have hD : va_D A (xh__w xa xtape (nI tp) rd au xdr hy g (nI hs) tg sg (nI ss) rm ti py bu sm (nI nc) (nI np) (nI ne) st0 q4 q5 q6 q7 q8 q9 q10 q11 q12 q13 q14 q15 q16 k_f4 f_21 k_f5 (bN 7 q_f5) k_f6 (bN 7 q_f6) k_f7 f7 k_f8 (bN 4 q_f8) k_f9 (bN 2 q_f9) k_f10 f10 k_f11 f11 k_f12 f12 k_f13 f13 k_f14 f14 k_f15 f15 k_f16 f16 (nI z_hk_20) co ol k_fo z_fo_18 k_fl z_fl_19 (nI on) (nI si) ti0 tm bh) := by rw [← ef_21]; exact hD
        have hsp := hsp.trans (slet_eq xf_21)
        refine lv_aload_n hx hb eX8_urgent_56 rfl (lv_at hl 0 rfl) ?_
        have hPc : va_P (dC, dI) vwCl (xp__w xa xtape (nI tp) rd au xdr hy g (nI hs) tg sg (nI ss) rm ti py bu sm (nI on) (nI si) ti0 tm bh) _ := hP.sub [0, 18] rfl
        have hDc := hD.sub (ws' := (xp__w xa xtape (nI tp) rd au xdr hy g (nI hs) tg sg (nI ss) rm ti py bu sm (nI on) (nI si) ti0 tm bh)) [0, 18] (by decide) rfl
        have hKc : va_K (dC, dI) vwCl (xp__t ) s := hK.sub [] rfl
        have hFc := pu_free hDc hS hA
        refine va_callv (va_runV (As := []) (rest := []) ⟨hx, hb, hml, hown, hts⟩ (c_E_8_dropViews l dC dI _ xa xtape tp rd au xdr hy g hs tg sg ss rm ti py bu sm on si ti0 tm bh htp hhs hss hon hsi) (cwV 0 hts g_E_8_urgent_E_8_dropViews rfl rfl rfl (by decide +kernel) ⟨Nat.le_of_ble_eq_true rfl, Nat.le_of_ble_eq_true rfl⟩) ⟨pu_bl, va_recv hK hP (ci := 8) (q0 := 0) rfl rfl, pu_in hPc hKc hDc⟩ rfl rfl hl.1 rfl (lv_room (Nat.le_of_ble_eq_true rfl)) eX8_urgent_57 ⟨Nat.le_of_ble_eq_true rfl, Nat.le_of_ble_eq_true rfl⟩) hS (fun q _ h => hFc q h) hFc (fun u t H1 locs ht hvm hw hB hz1 hk1 hS => ?_)
        obtain ⟨hP1, -, hD1⟩ := hB
        rw [ht] at hP1
        obtain ⟨hP, hD⟩ := pj_a (X := (xh__w xa xtape (nI tp) rd au xdr hy g (nI hs) tg sg (nI ss) rm ti py bu sm (nI nc) (nI np) (nI ne) st0 q4 q5 q6 q7 q8 q9 q10 q11 q12 q13 q14 q15 q16 k_f4 f_21 k_f5 (bN 7 q_f5) k_f6 (bN 7 q_f6) k_f7 f7 k_f8 (bN 4 q_f8) k_f9 (bN 2 q_f9) k_f10 f10 k_f11 f11 k_f12 f12 k_f13 f13 k_f14 f14 k_f15 f15 k_f16 f16 (nI z_hk_20) co ol k_fo z_fo_18 k_fl z_fl_19 (nI on) (nI si) ti0 tm bh)) (X' := (xh__w xa xtape (nI tp) rd au xdr hy g 0 tg sg 0 rm ti py bu sm (nI nc) (nI np) (nI ne) st0 q4 q5 q6 q7 q8 q9 q10 q11 q12 q13 q14 q15 q16 k_f4 f_21 k_f5 (bN 7 q_f5) k_f6 (bN 7 q_f6) k_f7 f7 k_f8 (bN 4 q_f8) k_f9 (bN 2 q_f9) k_f10 f10 k_f11 f11 k_f12 f12 k_f13 f13 k_f14 f14 k_f15 f15 k_f16 f16 (nI z_hk_20) co ol k_fo z_fo_18 k_fl z_fl_19 0 (nI si) ti0 tm bh)) (wc := (xp__w xa xtape (nI tp) rd au xdr hy g (nI hs) tg sg (nI ss) rm ti py bu sm (nI on) (nI si) ti0 tm bh)) (w1 := (xp__w xa xtape (nI tp) rd au xdr hy g 0 tg sg 0 rm ti py bu sm 0 (nI si) ti0 tm bh)) hP hD [0, 18] [0, 3, 4, 5, 6, 7, 8, 9, 10, 11, 12, 13, 14, 15, 16, 17, 18, 19, 1] 2 rfl hk1 hP1 rfl rfl rfl (by decide)
        clear hP1 hD1 hFc hPc hDc hKc
        clear hk1 hz1 ht hvm
        generalize H1 = H at hP hS ⊢
        refine lv_iconst (v := 1) hx hb eX8_urgent_60 (by decide) ?_
        exact W.zret (v := 1) (ty := .boolean) hx hb hr (rfl) (fun t ht hW => ⟨⟨1, (), rfl, ⟨1, (Nat.le_of_ble_eq_true rfl), rfl, (congrArg Prod.fst (hsp.symm.trans hRR))⟩, ⟨z_fo_18, z_fl_19, f_21, 0, 0, z_hk_20, 0, ⟨by rw [ht]; exact hP, va_K.moved hW.alike hK, hD⟩, (Nat.le_of_ble_eq_true rfl), (Nat.le_of_ble_eq_true rfl), hz_hk_20, (Nat.le_of_ble_eq_true rfl), by assumption, (congrArg Prod.snd (hsp.symm.trans hRR))⟩⟩, hS.F ht⟩) hS.2.2 eX8_urgent_61
    · have hcc_4 := c_4
      have hsp := hsp.trans (if_pos c_4)
      refine lv_iconst (v := 0) hx hb eX8_urgent_21 (by decide) ?_
      exact W.zret (v := 0) (ty := .boolean) hx hb hr (rfl) (fun t ht hW => ⟨⟨0, (), rfl, ⟨0, (Nat.le_of_ble_eq_true rfl), rfl, (congrArg Prod.fst (hsp.symm.trans hRR))⟩, ⟨fo, fl, f4, ss, hs, hk, on, ⟨by rw [ht]; exact hP, va_K.moved hW.alike hK, hD⟩, hss, hhs, hhk, hon, by assumption, (congrArg Prod.snd (hsp.symm.trans hRR))⟩⟩, hS.F ht⟩) hS.2.2 eX8_urgent_22
  · have hsp := hsp.trans (if_neg hn)
    refine lv_if_eq (tgt := 21) hx hb eX8_urgent_5 (by decide) (fun _ => ?_) (fun z => absurd z (by decide))
    refine lv_iconst (v := 0) hx hb eX8_urgent_21 (by decide) ?_
    exact W.zret (v := 0) (ty := .boolean) hx hb hr (rfl) (fun t ht hW => ⟨⟨0, (), rfl, ⟨0, (Nat.le_of_ble_eq_true rfl), rfl, (congrArg Prod.fst (hsp.symm.trans hRR))⟩, ⟨fo, fl, f4, ss, hs, hk, on, ⟨by rw [ht]; exact hP, va_K.moved hW.alike hK, hD⟩, hss, hhs, hhk, hon, by assumption, (congrArg Prod.snd (hsp.symm.trans hRR))⟩⟩, hS.F ht⟩) hS.2.2 eX8_urgent_22
theorem eX8_undo_0 : decode cX8_undo 0 = .ok (.aload_n 0, 1) := by decide +kernel
theorem eX8_undo_1 : decode cX8_undo 1 = .ok (.getfield 33, 3) := by decide +kernel
theorem eX8_undo_4 : decode cX8_undo 4 = .ok (.aload_n 0, 1) := by decide +kernel
theorem eX8_undo_5 : decode cX8_undo 5 = .ok (.getfield 23, 3) := by decide +kernel
theorem eX8_undo_8 : decode cX8_undo 8 = .ok (.invokevirtual 208, 3) := by decide +kernel
theorem eX8_undo_11 : decode cX8_undo 11 = .ok (.ifCond .ne 5, 3) := by decide +kernel
theorem eX8_undo_14 : decode cX8_undo 14 = .ok (.iconst 0, 1) := by decide +kernel
theorem eX8_undo_15 : decode cX8_undo 15 = .ok (.ireturn, 1) := by decide +kernel
theorem eX8_undo_16 : decode cX8_undo 16 = .ok (.aload_n 0, 1) := by decide +kernel
theorem eX8_undo_17 : decode cX8_undo 17 = .ok (.invokevirtual 94, 3) := by decide +kernel
theorem eX8_undo_20 : decode cX8_undo 20 = .ok (.iconst 1, 1) := by decide +kernel
theorem eX8_undo_21 : decode cX8_undo 21 = .ok (.ireturn, 1) := by decide +kernel
abbrev vs_E_8_undo : List Cond := .code yX8_undo cX8_undo 1 (some .boolean) :: CM
theorem g_E_8_undo_E_2_takesBack : GoodIn vs_E_8_undo (wsV RX8 208 RX2 yX2_takesBack vs_E_2_takesBack) := cm_gV cm_512 cm_513 cm_514 cm_506 cm_165
theorem g_E_8_undo_E_8_dropViews : GoodIn vs_E_8_undo (wsV RX8 94 RX8 yX8_dropViews vs_E_8_dropViews) := cm_gV cm_441 cm_442 cm_443 cm_427 cm_444
noncomputable def sp_E_8_undo (hs : Nat) (ss : Nat) (f4 : Nat → Int32) (q_f8 : Nat → Nat) (q_f9 : Nat → Nat) (f10 : Nat → Int32) (f11 : Nat → Int32) (f12 : Nat → Int32) (f13 : Nat → Int32) (f14 : Nat → Int32) (f15 : Nat → Int32) (f16 : Nat → Int32) (hk : Nat) (fo : Nat → Int32) (fl : Nat → Int32) (on : Nat) : Nat × (Nat → Int32) × (Nat → Int32) × (Nat → Int32) × (Nat → Int32) × (Nat → Int32) × (Nat → Int32) × (Nat → Int32) × Nat × Nat × Nat × Nat := (slet (sp_E_2_takesBack hk fo fl f4 q_f8 q_f9 f10 f11 f12 f13 f14 f15 f16) (fun (u_10, z_f11_2, z_f12_3, z_f13_4, z_f14_5, z_f15_6, z_f16_7, z_f4_8, z_hk_9) => (if u_10 = 0 then (0, z_f12_3, z_f13_4, z_f14_5, z_f15_6, z_f16_7, z_f4_8, z_f11_2, ss, hs, z_hk_9, on) else (1, z_f12_3, z_f13_4, z_f14_5, z_f15_6, z_f16_7, z_f4_8, z_f11_2, 0, 0, z_hk_9, 0))))
set_option maxHeartbeats 4000000 in
set_option maxRecDepth 100000 in
theorem c_E_8_undo (l : Launch) (dC : Nat → ClassId) (dI : Nat → Nat → Nat) (sz : Nat) (xa : Nat) (xtape : Nat) (tp : Nat) (rd : Nat) (au : Nat) (xdr : Nat) (hy : Nat) (g : Nat) (hs : Nat) (tg : Nat) (sg : Nat) (ss : Nat) (rm : Nat) (ti : Nat) (py : Nat) (bu : Nat) (sm : Nat) (nc : Nat) (np : Nat) (ne : Nat) (st0 : Int32) (q4 : Nat) (q5 : Nat) (q6 : Nat) (q7 : Nat) (q8 : Nat) (q9 : Nat) (q10 : Nat) (q11 : Nat) (q12 : Nat) (q13 : Nat) (q14 : Nat) (q15 : Nat) (q16 : Nat) (k_f4 : ClassId) (f4 : Nat → Int32) (k_f5 : ClassId) (q_f5 : Nat → Nat) (k_f6 : ClassId) (q_f6 : Nat → Nat) (k_f7 : ClassId) (f7 : Nat → Int32) (k_f8 : ClassId) (q_f8 : Nat → Nat) (k_f9 : ClassId) (q_f9 : Nat → Nat) (k_f10 : ClassId) (f10 : Nat → Int32) (k_f11 : ClassId) (f11 : Nat → Int32) (k_f12 : ClassId) (f12 : Nat → Int32) (k_f13 : ClassId) (f13 : Nat → Int32) (k_f14 : ClassId) (f14 : Nat → Int32) (k_f15 : ClassId) (f15 : Nat → Int32) (k_f16 : ClassId) (f16 : Nat → Int32) (hk : Nat) (co : Nat) (ol : Nat) (k_fo : ClassId) (fo : Nat → Int32) (k_fl : ClassId) (fl : Nat → Int32) (on : Nat) (si : Nat) (ti0 : Int32) (tm : Nat) (bh : Nat) (htp : tp ≤ 900) (hhs : hs ≤ 1) (hss : ss ≤ 1) (hnc : nc ≤ 3) (hnp : np ≤ 8) (hne : ne ≤ 14) (hst0 : pm1 7 st0) (hhk : hk ≤ 20) (hon : on ≤ 1) (hsi : si ≤ 7) (hq0 : hi_ok hk fo) : Met l yX8_undo vs_E_8_undo ({ frames := 4, cells := 0, slots := 0, locals := 89 }) (va_Pc [.ref xa] (pu_B (dC, dI) (xh__w xa xtape (nI tp) rd au xdr hy g (nI hs) tg sg (nI ss) rm ti py bu sm (nI nc) (nI np) (nI ne) st0 q4 q5 q6 q7 q8 q9 q10 q11 q12 q13 q14 q15 q16 k_f4 f4 k_f5 (bN 7 q_f5) k_f6 (bN 7 q_f6) k_f7 f7 k_f8 (bN 4 q_f8) k_f9 (bN 2 q_f9) k_f10 f10 k_f11 f11 k_f12 f12 k_f13 f13 k_f14 f14 k_f15 f15 k_f16 f16 (nI hk) co ol k_fo fo k_fl fl (nI on) (nI si) ti0 tm bh) (xh__t k_f4 k_f5 k_f6 k_f7 k_f8 k_f9 k_f10 k_f11 k_f12 k_f13 k_f14 k_f15 k_f16 k_fo k_fl) sz)) (va_Qi (fun (r : Int32) (_ : Unit) => ∃ v : Nat, v ≤ 1 ∧ r = nI v ∧ v = (sp_E_8_undo hs ss f4 q_f8 q_f9 f10 f11 f12 f13 f14 f15 f16 hk fo fl on).1) (fun _ t => ∃ (z_f12 : Nat → Int32) (z_f13 : Nat → Int32) (z_f14 : Nat → Int32) (z_f15 : Nat → Int32) (z_f16 : Nat → Int32) (z_f4 : Nat → Int32) (z_f11 : Nat → Int32) (z_ss : Nat) (z_hs : Nat) (z_hk : Nat) (z_on : Nat), pu_E (dC, dI) (xh__w xa xtape (nI tp) rd au xdr hy g (nI z_hs) tg sg (nI z_ss) rm ti py bu sm (nI nc) (nI np) (nI ne) st0 q4 q5 q6 q7 q8 q9 q10 q11 q12 q13 q14 q15 q16 k_f4 z_f4 k_f5 (bN 7 q_f5) k_f6 (bN 7 q_f6) k_f7 f7 k_f8 (bN 4 q_f8) k_f9 (bN 2 q_f9) k_f10 f10 k_f11 z_f11 k_f12 z_f12 k_f13 z_f13 k_f14 z_f14 k_f15 z_f15 k_f16 z_f16 (nI z_hk) co ol k_fo fo k_fl fl (nI z_on) (nI si) ti0 tm bh) (xh__t k_f4 k_f5 k_f6 k_f7 k_f8 k_f9 k_f10 k_f11 k_f12 k_f13 k_f14 k_f15 k_f16 k_fo k_fl) (va_A ((xh__w xa xtape (nI tp) rd au xdr hy g (nI hs) tg sg (nI ss) rm ti py bu sm (nI nc) (nI np) (nI ne) st0 q4 q5 q6 q7 q8 q9 q10 q11 q12 q13 q14 q15 q16 k_f4 f4 k_f5 (bN 7 q_f5) k_f6 (bN 7 q_f6) k_f7 f7 k_f8 (bN 4 q_f8) k_f9 (bN 2 q_f9) k_f10 f10 k_f11 f11 k_f12 f12 k_f13 f13 k_f14 f14 k_f15 f15 k_f16 f16 (nI hk) co ol k_fo fo k_fl fl (nI on) (nI si) ti0 tm bh)) sz) t ∧ (z_ss ≤ 1) ∧ (z_hs ≤ 1) ∧ (z_hk ≤ 20) ∧ (z_on ≤ 1) ∧ (hi_ok z_hk fo) ∧ ((z_f12, z_f13, z_f14, z_f15, z_f16, z_f4, z_f11, z_ss, z_hs, z_hk, z_on) = (sp_E_8_undo hs ss f4 q_f8 q_f9 f10 f11 f12 f13 f14 f15 f16 hk fo fl on).2)) (va_A ((xh__w xa xtape (nI tp) rd au xdr hy g (nI hs) tg sg (nI ss) rm ti py bu sm (nI nc) (nI np) (nI ne) st0 q4 q5 q6 q7 q8 q9 q10 q11 q12 q13 q14 q15 q16 k_f4 f4 k_f5 (bN 7 q_f5) k_f6 (bN 7 q_f6) k_f7 f7 k_f8 (bN 4 q_f8) k_f9 (bN 2 q_f9) k_f10 f10 k_f11 f11 k_f12 f12 k_f13 f13 k_f14 f14 k_f15 f15 k_f16 f16 (nI hk) co ol k_fo fo k_fl fl (nI on) (nI si) ti0 tm bh)) sz)) 0 0 (va_A ((xh__w xa xtape (nI tp) rd au xdr hy g (nI hs) tg sg (nI ss) rm ti py bu sm (nI nc) (nI np) (nI ne) st0 q4 q5 q6 q7 q8 q9 q10 q11 q12 q13 q14 q15 q16 k_f4 f4 k_f5 (bN 7 q_f5) k_f6 (bN 7 q_f6) k_f7 f7 k_f8 (bN 4 q_f8) k_f9 (bN 2 q_f9) k_f10 f10 k_f11 f11 k_f12 f12 k_f13 f13 k_f14 f14 k_f15 f15 k_f16 f16 (nI hk) co ol k_fo fo k_fl fl (nI on) (nI si) ti0 tm bh)) sz) := by
  refine Met.ofW (cc := cX8_undo) (maxL := 1) (ret := (some .boolean)) (by decide) rfl ?_
  intro p e s m args below meth c s₁ B hml hv
  obtain ⟨rfl, rfl, hP, hK, hD0⟩ := hv
  have hx := B.exec
  have hb := B.bytes
  have hr := B.returns
  have hts := atoms_spec (ws := vs_E_8_undo) B.pre
  have v_1 := hts (.fieldLink RX8 33 "ClockReach" "history" "LClockReach$History;") (List.mem_cons_of_mem _ cm_435)
  have v_2 := hts (.fieldLink RX8 23 "ClockReach" "model" "LClockReach$Automaton;") (List.mem_cons_of_mem _ cm_434)
  have hown : s.vm.findClass RX8 = some m.cls := findClass_of_methodNamed B.named
  have hlocks := B.notSynchronized
  have hiX8 : ∀ w ∈ wsX80, w ∈ vs_E_8_undo := fun _ h => List.mem_cons_of_mem _ (cm_X8 h)
  have hD := hD0.self (sz := s.heap.size)
  generalize hAe : va_A ((xh__w xa xtape (nI tp) rd au xdr hy g (nI hs) tg sg (nI ss) rm ti py bu sm (nI nc) (nI np) (nI ne) st0 q4 q5 q6 q7 q8 q9 q10 q11 q12 q13 q14 q15 q16 k_f4 f4 k_f5 (bN 7 q_f5) k_f6 (bN 7 q_f6) k_f7 f7 k_f8 (bN 4 q_f8) k_f9 (bN 2 q_f9) k_f10 f10 k_f11 f11 k_f12 f12 k_f13 f13 k_f14 f14 k_f15 f15 k_f16 f16 (nI hk) co ol k_fo fo k_fl fl (nI on) (nI si) ti0 tm bh)) s.heap.size = A at hD ⊢
  have hA : ∀ q : Nat, s.heap.size ≤ q → A q := fun q h => by rw [← hAe]; exact Or.inr h
  have hS : va_S A s.heap s.heap [] := va_S.rf
  have hl := lv_entry ([.ref xa]) (n := 1) (Nat.le_of_ble_eq_true rfl)
  rw [lg_entry_eq]
  generalize (lg_sl ([.ref xa]) ++ List.replicate (1 - (lg_sl ([.ref xa])).length) Slot.unset).toArray = ls at hl ⊢
  have hl : lv_has ls 1 [(0, .ref xa)] := hl
  obtain ⟨RR, hRR⟩ : ∃ x, x = (sp_E_8_undo hs ss f4 q_f8 q_f9 f10 f11 f12 f13 f14 f15 f16 hk fo fl on) := ⟨_, rfl⟩
  have hsp := hRR
  refine lv_aload_n hx hb eX8_undo_0 rfl (lv_at hl 0 rfl) ?_
  refine va_get (D := (dC, dI)) (ci := 8) (v := .ref hy) (C := RX8) (T := TX8) (N := 16) hx hb hts hiX8 hown hK hP 0 rfl rfl 5 (by decide) v_1 (fun _ h9 => h9) rfl eX8_undo_1 ?_
  refine lv_aload_n hx hb eX8_undo_4 rfl (lv_at hl 0 rfl) ?_
  refine va_get (D := (dC, dI)) (ci := 8) (v := .ref au) (C := RX8) (T := TX8) (N := 16) hx hb hts hiX8 hown hK hP 0 rfl rfl 3 (by decide) v_2 (fun _ h9 => h9) rfl eX8_undo_5 ?_
  have hPc : va_P (dC, dI) vwCl (hi__w hy (nI hk) co ol k_fo fo k_fl fl au (nI nc) (nI np) (nI ne) st0 q4 q5 q6 q7 q8 q9 q10 q11 q12 q13 q14 q15 q16 k_f4 f4 k_f5 (bN 7 q_f5) k_f6 (bN 7 q_f6) k_f7 f7 k_f8 (bN 4 q_f8) k_f9 (bN 2 q_f9) k_f10 f10 k_f11 f11 k_f12 f12 k_f13 f13 k_f14 f14 k_f15 f15 k_f16 f16) _ := hP.sub [15, 16, 17, 1, 2, 3, 4, 5, 6, 7, 8, 9, 10, 11, 12, 13, 14] rfl
  have hDc := hD.sub (ws' := (hi__w hy (nI hk) co ol k_fo fo k_fl fl au (nI nc) (nI np) (nI ne) st0 q4 q5 q6 q7 q8 q9 q10 q11 q12 q13 q14 q15 q16 k_f4 f4 k_f5 (bN 7 q_f5) k_f6 (bN 7 q_f6) k_f7 f7 k_f8 (bN 4 q_f8) k_f9 (bN 2 q_f9) k_f10 f10 k_f11 f11 k_f12 f12 k_f13 f13 k_f14 f14 k_f15 f15 k_f16 f16)) [15, 16, 17, 1, 2, 3, 4, 5, 6, 7, 8, 9, 10, 11, 12, 13, 14] (by decide) rfl
  have hKc : va_K (dC, dI) vwCl (hi__t k_fo k_fl k_f4 k_f5 k_f6 k_f7 k_f8 k_f9 k_f10 k_f11 k_f12 k_f13 k_f14 k_f15 k_f16) s := hK.sub [13, 14, 0, 1, 2, 3, 4, 5, 6, 7, 8, 9, 10, 11, 12] rfl
  have hFc := pu_free hDc hS hA
  refine va_calli (va_runV (As := [.ref au]) (rest := []) ⟨hx, hb, hml, hown, hts⟩ (c_E_2_takesBack l dC dI _ hy hk co ol k_fo fo k_fl fl au nc np ne st0 q4 q5 q6 q7 q8 q9 q10 q11 q12 q13 q14 q15 q16 k_f4 f4 k_f5 q_f5 k_f6 q_f6 k_f7 f7 k_f8 q_f8 k_f9 q_f9 k_f10 f10 k_f11 f11 k_f12 f12 k_f13 f13 k_f14 f14 k_f15 f15 k_f16 f16 hhk hnc hnp hne (hst0) (by assumption)) (cwV 1 hts g_E_8_undo_E_2_takesBack rfl rfl rfl (by decide +kernel) ⟨Nat.le_of_ble_eq_true rfl, Nat.le_of_ble_eq_true rfl⟩) ⟨pu_bl, va_recv hK hP (ci := 2) (q0 := 15) rfl rfl, pu_in hPc hKc hDc⟩ rfl rfl hl.1 rfl (lv_room (Nat.le_of_ble_eq_true rfl)) eX8_undo_8 ⟨Nat.le_of_ble_eq_true rfl, Nat.le_of_ble_eq_true rfl⟩) hS (fun q _ h => hFc q h) hFc (fun r_1 u t H1 locs ht hvm hw hB hz1 hk1 hS => ?_)
  obtain ⟨z_f11_2, z_f12_3, z_f13_4, z_f14_5, z_f15_6, z_f16_7, z_f4_8, z_hk_9, ⟨hP1, -, hD1⟩, hz_hk_9, xr_1_0, xr_1_1⟩ := hB
  rw [ht] at hP1
  obtain ⟨hP, hD⟩ := pj_a (X := (xh__w xa xtape (nI tp) rd au xdr hy g (nI hs) tg sg (nI ss) rm ti py bu sm (nI nc) (nI np) (nI ne) st0 q4 q5 q6 q7 q8 q9 q10 q11 q12 q13 q14 q15 q16 k_f4 f4 k_f5 (bN 7 q_f5) k_f6 (bN 7 q_f6) k_f7 f7 k_f8 (bN 4 q_f8) k_f9 (bN 2 q_f9) k_f10 f10 k_f11 f11 k_f12 f12 k_f13 f13 k_f14 f14 k_f15 f15 k_f16 f16 (nI hk) co ol k_fo fo k_fl fl (nI on) (nI si) ti0 tm bh)) (X' := (xh__w xa xtape (nI tp) rd au xdr hy g (nI hs) tg sg (nI ss) rm ti py bu sm (nI nc) (nI np) (nI ne) st0 q4 q5 q6 q7 q8 q9 q10 q11 q12 q13 q14 q15 q16 k_f4 z_f4_8 k_f5 (bN 7 q_f5) k_f6 (bN 7 q_f6) k_f7 f7 k_f8 (bN 4 q_f8) k_f9 (bN 2 q_f9) k_f10 f10 k_f11 z_f11_2 k_f12 z_f12_3 k_f13 z_f13_4 k_f14 z_f14_5 k_f15 z_f15_6 k_f16 z_f16_7 (nI z_hk_9) co ol k_fo fo k_fl fl (nI on) (nI si) ti0 tm bh)) (wc := (hi__w hy (nI hk) co ol k_fo fo k_fl fl au (nI nc) (nI np) (nI ne) st0 q4 q5 q6 q7 q8 q9 q10 q11 q12 q13 q14 q15 q16 k_f4 f4 k_f5 (bN 7 q_f5) k_f6 (bN 7 q_f6) k_f7 f7 k_f8 (bN 4 q_f8) k_f9 (bN 2 q_f9) k_f10 f10 k_f11 f11 k_f12 f12 k_f13 f13 k_f14 f14 k_f15 f15 k_f16 f16)) (w1 := (hi__w hy (nI z_hk_9) co ol k_fo fo k_fl fl au (nI nc) (nI np) (nI ne) st0 q4 q5 q6 q7 q8 q9 q10 q11 q12 q13 q14 q15 q16 k_f4 z_f4_8 k_f5 (bN 7 q_f5) k_f6 (bN 7 q_f6) k_f7 f7 k_f8 (bN 4 q_f8) k_f9 (bN 2 q_f9) k_f10 f10 k_f11 z_f11_2 k_f12 z_f12_3 k_f13 z_f13_4 k_f14 z_f14_5 k_f15 z_f15_6 k_f16 z_f16_7)) hP hD [15, 16, 17, 1, 2, 3, 4, 5, 6, 7, 8, 9, 10, 11, 12, 13, 14] [17, 3, 4, 5, 6, 7, 8, 9, 10, 11, 12, 13, 14, 15, 16, 0, 1, 2, 35] 17 rfl hk1 hP1 rfl rfl rfl (by decide)
  clear hP1 hD1 hFc hPc hDc hKc
  clear hk1 hz1 ht hvm
  generalize H1 = H at hP hS ⊢
  obtain ⟨u_10, hu_10, rfl, iu_10⟩ := hw
  have iu_10 : (u_10, z_f11_2, z_f12_3, z_f13_4, z_f14_5, z_f15_6, z_f16_7, z_f4_8, z_hk_9) = (sp_E_2_takesBack hk fo fl f4 q_f8 q_f9 f10 f11 f12 f13 f14 f15 f16) := Prod.ext iu_10 xr_1_1
  have hsp := hsp.trans (slet_eq iu_10)
  refine lv_if_ne (tgt := 16) hx hb eX8_undo_11 (by decide) (fun c_11 => ?_) (fun c_11 => ?_)
  · have c_11 : ¬ u_10 = 0 := fun z => c_11 ((nI_eq (a := u_10) (b := 0) (Nat.lt_of_le_of_lt hu_10 (Nat.le_of_ble_eq_true rfl)) (Nat.le_of_ble_eq_true rfl)).mpr z)
    have hsp := hsp.trans (if_neg c_11)
    refine lv_aload_n hx hb eX8_undo_16 rfl (lv_at hl 0 rfl) ?_
    have hPc : va_P (dC, dI) vwCl (xp__w xa xtape (nI tp) rd au xdr hy g (nI hs) tg sg (nI ss) rm ti py bu sm (nI on) (nI si) ti0 tm bh) _ := hP.sub [0, 18] rfl
    have hDc := hD.sub (ws' := (xp__w xa xtape (nI tp) rd au xdr hy g (nI hs) tg sg (nI ss) rm ti py bu sm (nI on) (nI si) ti0 tm bh)) [0, 18] (by decide) rfl
    have hKc : va_K (dC, dI) vwCl (xp__t ) s := hK.sub [] rfl
    have hFc := pu_free hDc hS hA
    refine va_callv (va_runV (As := []) (rest := []) ⟨hx, hb, hml, hown, hts⟩ (c_E_8_dropViews l dC dI _ xa xtape tp rd au xdr hy g hs tg sg ss rm ti py bu sm on si ti0 tm bh htp hhs hss hon hsi) (cwV 0 hts g_E_8_undo_E_8_dropViews rfl rfl rfl (by decide +kernel) ⟨Nat.le_of_ble_eq_true rfl, Nat.le_of_ble_eq_true rfl⟩) ⟨pu_bl, va_recv hK hP (ci := 8) (q0 := 0) rfl rfl, pu_in hPc hKc hDc⟩ rfl rfl hl.1 rfl (lv_room (Nat.le_of_ble_eq_true rfl)) eX8_undo_17 ⟨Nat.le_of_ble_eq_true rfl, Nat.le_of_ble_eq_true rfl⟩) hS (fun q _ h => hFc q h) hFc (fun u t H1 locs ht hvm hw hB hz1 hk1 hS => ?_)
    obtain ⟨hP1, -, hD1⟩ := hB
    rw [ht] at hP1
    obtain ⟨hP, hD⟩ := pj_a (X := (xh__w xa xtape (nI tp) rd au xdr hy g (nI hs) tg sg (nI ss) rm ti py bu sm (nI nc) (nI np) (nI ne) st0 q4 q5 q6 q7 q8 q9 q10 q11 q12 q13 q14 q15 q16 k_f4 z_f4_8 k_f5 (bN 7 q_f5) k_f6 (bN 7 q_f6) k_f7 f7 k_f8 (bN 4 q_f8) k_f9 (bN 2 q_f9) k_f10 f10 k_f11 z_f11_2 k_f12 z_f12_3 k_f13 z_f13_4 k_f14 z_f14_5 k_f15 z_f15_6 k_f16 z_f16_7 (nI z_hk_9) co ol k_fo fo k_fl fl (nI on) (nI si) ti0 tm bh)) (X' := (xh__w xa xtape (nI tp) rd au xdr hy g 0 tg sg 0 rm ti py bu sm (nI nc) (nI np) (nI ne) st0 q4 q5 q6 q7 q8 q9 q10 q11 q12 q13 q14 q15 q16 k_f4 z_f4_8 k_f5 (bN 7 q_f5) k_f6 (bN 7 q_f6) k_f7 f7 k_f8 (bN 4 q_f8) k_f9 (bN 2 q_f9) k_f10 f10 k_f11 z_f11_2 k_f12 z_f12_3 k_f13 z_f13_4 k_f14 z_f14_5 k_f15 z_f15_6 k_f16 z_f16_7 (nI z_hk_9) co ol k_fo fo k_fl fl 0 (nI si) ti0 tm bh)) (wc := (xp__w xa xtape (nI tp) rd au xdr hy g (nI hs) tg sg (nI ss) rm ti py bu sm (nI on) (nI si) ti0 tm bh)) (w1 := (xp__w xa xtape (nI tp) rd au xdr hy g 0 tg sg 0 rm ti py bu sm 0 (nI si) ti0 tm bh)) hP hD [0, 18] [0, 3, 4, 5, 6, 7, 8, 9, 10, 11, 12, 13, 14, 15, 16, 17, 18, 19, 1] 2 rfl hk1 hP1 rfl rfl rfl (by decide)
    clear hP1 hD1 hFc hPc hDc hKc
    clear hk1 hz1 ht hvm
    generalize H1 = H at hP hS ⊢
    refine lv_iconst (v := 1) hx hb eX8_undo_20 (by decide) ?_
    exact W.zret (v := 1) (ty := .boolean) hx hb hr (rfl) (fun t ht hW => ⟨⟨1, (), rfl, ⟨1, (Nat.le_of_ble_eq_true rfl), rfl, (congrArg Prod.fst (hsp.symm.trans hRR))⟩, ⟨z_f12_3, z_f13_4, z_f14_5, z_f15_6, z_f16_7, z_f4_8, z_f11_2, 0, 0, z_hk_9, 0, ⟨by rw [ht]; exact hP, va_K.moved hW.alike hK, hD⟩, (Nat.le_of_ble_eq_true rfl), (Nat.le_of_ble_eq_true rfl), hz_hk_9, (Nat.le_of_ble_eq_true rfl), by first | assumption | exact hi_le hq0 (by omega), (congrArg Prod.snd (hsp.symm.trans hRR))⟩⟩, hS.F ht⟩) hS.2.2 eX8_undo_21
  · have c_11 : u_10 = 0 := (nI_eq (a := u_10) (b := 0) (Nat.lt_of_le_of_lt hu_10 (Nat.le_of_ble_eq_true rfl)) (Nat.le_of_ble_eq_true rfl)).mp c_11
    have hsp := hsp.trans (if_pos c_11)
    refine lv_iconst (v := 0) hx hb eX8_undo_14 (by decide) ?_
    exact W.zret (v := 0) (ty := .boolean) hx hb hr (rfl) (fun t ht hW => ⟨⟨0, (), rfl, ⟨0, (Nat.le_of_ble_eq_true rfl), rfl, (congrArg Prod.fst (hsp.symm.trans hRR))⟩, ⟨z_f12_3, z_f13_4, z_f14_5, z_f15_6, z_f16_7, z_f4_8, z_f11_2, ss, hs, z_hk_9, on, ⟨by rw [ht]; exact hP, va_K.moved hW.alike hK, hD⟩, hss, hhs, hz_hk_9, hon, by first | assumption | exact hi_le hq0 (by omega), (congrArg Prod.snd (hsp.symm.trans hRR))⟩⟩, hS.F ht⟩) hS.2.2 eX8_undo_15
theorem eX8_begin_0 : decode cX8_begin 0 = .ok (.aload_n 0, 1) := by decide +kernel
theorem eX8_begin_1 : decode cX8_begin 1 = .ok (.getfield 69, 3) := by decide +kernel
theorem eX8_begin_4 : decode cX8_begin 4 = .ok (.aload_n 0, 1) := by decide +kernel
theorem eX8_begin_5 : decode cX8_begin 5 = .ok (.getfield 23, 3) := by decide +kernel
theorem eX8_begin_8 : decode cX8_begin 8 = .ok (.invokevirtual 361, 3) := by decide +kernel
theorem eX8_begin_11 : decode cX8_begin 11 = .ok (.ifCond .eq 13, 3) := by decide +kernel
theorem eX8_begin_24 : decode cX8_begin 24 = .ok (.iconst (-1), 1) := by decide +kernel
theorem eX8_begin_25 : decode cX8_begin 25 = .ok (.ireturn, 1) := by decide +kernel
abbrev vs_E_8_begin_0 : List Cond := .code yX8_begin cX8_begin 1 (some .int) :: CM
theorem g_E_8_begin_0_E_3_startsIn_0 : GoodIn vs_E_8_begin_0 (wsV RX8 361 RX3 yX3_startsIn vs_E_3_startsIn_0) := cm_gV cm_643 cm_644 cm_645 cm_204 cm_170
noncomputable def sp_E_8_begin_0 : Int32 × Nat := (slet sp_E_3_startsIn_0 (fun z_on_2 => ((-1), z_on_2)))
set_option maxHeartbeats 4000000 in
set_option maxRecDepth 100000 in
theorem c_E_8_begin_0 (l : Launch) (dC : Nat → ClassId) (dI : Nat → Nat → Nat) (sz : Nat) (xa : Nat) (xtape : Nat) (tp : Nat) (rd : Nat) (au : Nat) (xdr : Nat) (hy : Nat) (g : Nat) (hs : Nat) (tg : Nat) (sg : Nat) (ss : Nat) (rm : Nat) (ti : Nat) (py : Nat) (bu : Nat) (sm : Nat) (nc : Nat) (ne : Nat) (st0 : Int32) (q4 : Nat) (q5 : Nat) (q6 : Nat) (q7 : Nat) (q8 : Nat) (q9 : Nat) (q10 : Nat) (q11 : Nat) (q12 : Nat) (q13 : Nat) (q14 : Nat) (q15 : Nat) (q16 : Nat) (k_f4 : ClassId) (f4 : Nat → Int32) (k_f5 : ClassId) (q_f5 : Nat → Nat) (k_f6 : ClassId) (q_f6 : Nat → Nat) (k_f7 : ClassId) (f7 : Nat → Int32) (k_f8 : ClassId) (q_f8 : Nat → Nat) (k_f9 : ClassId) (q_f9 : Nat → Nat) (k_f10 : ClassId) (f10 : Nat → Int32) (k_f11 : ClassId) (f11 : Nat → Int32) (k_f12 : ClassId) (f12 : Nat → Int32) (k_f13 : ClassId) (f13 : Nat → Int32) (k_f14 : ClassId) (f14 : Nat → Int32) (k_f15 : ClassId) (f15 : Nat → Int32) (k_f16 : ClassId) (f16 : Nat → Int32) (on : Nat) (si : Nat) (ti0 : Int32) (tm : Nat) (bh : Nat) (k_ftm : ClassId) (ftm : Nat → Int32) (k_fbh : ClassId) (fbh : Nat → Int32) (htp : tp ≤ 900) (hhs : hs ≤ 1) (hss : ss ≤ 1) (hnc : nc ≤ 3) (hne : ne ≤ 14) (hst0 : pm1 7 st0) (hon : on ≤ 1) (hsi : si ≤ 7) : Met l yX8_begin vs_E_8_begin_0 ({ frames := 1, cells := 0, slots := 0, locals := 22 }) (va_Pc [.ref xa] (pu_B (dC, dI) (xy__w xa xtape (nI tp) rd au xdr hy g (nI hs) tg sg (nI ss) rm ti py bu sm (nI nc) 0 (nI ne) st0 q4 q5 q6 q7 q8 q9 q10 q11 q12 q13 q14 q15 q16 k_f4 f4 k_f5 (bN 7 q_f5) k_f6 (bN 7 q_f6) k_f7 f7 k_f8 (bN 4 q_f8) k_f9 (bN 2 q_f9) k_f10 f10 k_f11 f11 k_f12 f12 k_f13 f13 k_f14 f14 k_f15 f15 k_f16 f16 (nI on) (nI si) ti0 tm bh k_ftm ftm k_fbh fbh) (xy__t k_f4 k_f5 k_f6 k_f7 k_f8 k_f9 k_f10 k_f11 k_f12 k_f13 k_f14 k_f15 k_f16 k_ftm k_fbh) sz)) (va_Qi (fun (r : Int32) (_ : Unit) => r = sp_E_8_begin_0.1) (fun _ t => ∃ (z_on : Nat), pu_E (dC, dI) (xy__w xa xtape (nI tp) rd au xdr hy g (nI hs) tg sg (nI ss) rm ti py bu sm (nI nc) 0 (nI ne) st0 q4 q5 q6 q7 q8 q9 q10 q11 q12 q13 q14 q15 q16 k_f4 f4 k_f5 (bN 7 q_f5) k_f6 (bN 7 q_f6) k_f7 f7 k_f8 (bN 4 q_f8) k_f9 (bN 2 q_f9) k_f10 f10 k_f11 f11 k_f12 f12 k_f13 f13 k_f14 f14 k_f15 f15 k_f16 f16 (nI z_on) (nI si) ti0 tm bh k_ftm ftm k_fbh fbh) (xy__t k_f4 k_f5 k_f6 k_f7 k_f8 k_f9 k_f10 k_f11 k_f12 k_f13 k_f14 k_f15 k_f16 k_ftm k_fbh) (va_A ((xy__w xa xtape (nI tp) rd au xdr hy g (nI hs) tg sg (nI ss) rm ti py bu sm (nI nc) 0 (nI ne) st0 q4 q5 q6 q7 q8 q9 q10 q11 q12 q13 q14 q15 q16 k_f4 f4 k_f5 (bN 7 q_f5) k_f6 (bN 7 q_f6) k_f7 f7 k_f8 (bN 4 q_f8) k_f9 (bN 2 q_f9) k_f10 f10 k_f11 f11 k_f12 f12 k_f13 f13 k_f14 f14 k_f15 f15 k_f16 f16 (nI on) (nI si) ti0 tm bh k_ftm ftm k_fbh fbh)) sz) t ∧ (z_on ≤ 1) ∧ (z_on = sp_E_8_begin_0.2)) (va_A ((xy__w xa xtape (nI tp) rd au xdr hy g (nI hs) tg sg (nI ss) rm ti py bu sm (nI nc) 0 (nI ne) st0 q4 q5 q6 q7 q8 q9 q10 q11 q12 q13 q14 q15 q16 k_f4 f4 k_f5 (bN 7 q_f5) k_f6 (bN 7 q_f6) k_f7 f7 k_f8 (bN 4 q_f8) k_f9 (bN 2 q_f9) k_f10 f10 k_f11 f11 k_f12 f12 k_f13 f13 k_f14 f14 k_f15 f15 k_f16 f16 (nI on) (nI si) ti0 tm bh k_ftm ftm k_fbh fbh)) sz)) 0 0 (va_A ((xy__w xa xtape (nI tp) rd au xdr hy g (nI hs) tg sg (nI ss) rm ti py bu sm (nI nc) 0 (nI ne) st0 q4 q5 q6 q7 q8 q9 q10 q11 q12 q13 q14 q15 q16 k_f4 f4 k_f5 (bN 7 q_f5) k_f6 (bN 7 q_f6) k_f7 f7 k_f8 (bN 4 q_f8) k_f9 (bN 2 q_f9) k_f10 f10 k_f11 f11 k_f12 f12 k_f13 f13 k_f14 f14 k_f15 f15 k_f16 f16 (nI on) (nI si) ti0 tm bh k_ftm ftm k_fbh fbh)) sz) := by
  refine Met.ofW (cc := cX8_begin) (maxL := 1) (ret := (some .int)) (by decide) rfl ?_
  intro p e s m args below meth c s₁ B hml hv
  obtain ⟨rfl, rfl, hP, hK, hD0⟩ := hv
  have hx := B.exec
  have hb := B.bytes
  have hr := B.returns
  have hts := atoms_spec (ws := vs_E_8_begin_0) B.pre
  have v_1 := hts (.fieldLink RX8 69 "ClockReach" "play" "LClockReach$Play;") (List.mem_cons_of_mem _ cm_447)
  have v_2 := hts (.fieldLink RX8 23 "ClockReach" "model" "LClockReach$Automaton;") (List.mem_cons_of_mem _ cm_434)
  have hown : s.vm.findClass RX8 = some m.cls := findClass_of_methodNamed B.named
  have hlocks := B.notSynchronized
  have hiX8 : ∀ w ∈ wsX80, w ∈ vs_E_8_begin_0 := fun _ h => List.mem_cons_of_mem _ (cm_X8 h)
  have hD := hD0.self (sz := s.heap.size)
  generalize hAe : va_A ((xy__w xa xtape (nI tp) rd au xdr hy g (nI hs) tg sg (nI ss) rm ti py bu sm (nI nc) 0 (nI ne) st0 q4 q5 q6 q7 q8 q9 q10 q11 q12 q13 q14 q15 q16 k_f4 f4 k_f5 (bN 7 q_f5) k_f6 (bN 7 q_f6) k_f7 f7 k_f8 (bN 4 q_f8) k_f9 (bN 2 q_f9) k_f10 f10 k_f11 f11 k_f12 f12 k_f13 f13 k_f14 f14 k_f15 f15 k_f16 f16 (nI on) (nI si) ti0 tm bh k_ftm ftm k_fbh fbh)) s.heap.size = A at hD ⊢
  have hA : ∀ q : Nat, s.heap.size ≤ q → A q := fun q h => by rw [← hAe]; exact Or.inr h
  have hS : va_S A s.heap s.heap [] := va_S.rf
  have hl := lv_entry ([.ref xa]) (n := 1) (Nat.le_of_ble_eq_true rfl)
  rw [lg_entry_eq]
  generalize (lg_sl ([.ref xa]) ++ List.replicate (1 - (lg_sl ([.ref xa])).length) Slot.unset).toArray = ls at hl ⊢
  have hl : lv_has ls 1 [(0, .ref xa)] := hl
  obtain ⟨RR, hRR⟩ : ∃ x, x = sp_E_8_begin_0 := ⟨_, rfl⟩
  have hsp := hRR
  refine lv_aload_n hx hb eX8_begin_0 rfl (lv_at hl 0 rfl) ?_
  refine va_get (D := (dC, dI)) (ci := 8) (v := .ref py) (C := RX8) (T := TX8) (N := 16) hx hb hts hiX8 hown hK hP 0 rfl rfl 13 (by decide) v_1 (fun _ h9 => h9) rfl eX8_begin_1 ?_
  refine lv_aload_n hx hb eX8_begin_4 rfl (lv_at hl 0 rfl) ?_
  refine va_get (D := (dC, dI)) (ci := 8) (v := .ref au) (C := RX8) (T := TX8) (N := 16) hx hb hts hiX8 hown hK hP 0 rfl rfl 3 (by decide) v_2 (fun _ h9 => h9) rfl eX8_begin_5 ?_
  have hPc : va_P (dC, dI) vwCl (pa__w py (nI on) (nI si) ti0 tm bh k_ftm ftm k_fbh fbh au (nI nc) 0 (nI ne) st0 q4 q5 q6 q7 q8 q9 q10 q11 q12 q13 q14 q15 q16 k_f4 f4 k_f5 (bN 7 q_f5) k_f6 (bN 7 q_f6) k_f7 f7 k_f8 (bN 4 q_f8) k_f9 (bN 2 q_f9) k_f10 f10 k_f11 f11 k_f12 f12 k_f13 f13 k_f14 f14 k_f15 f15 k_f16 f16) _ := hP.sub [15, 16, 17, 1, 2, 3, 4, 5, 6, 7, 8, 9, 10, 11, 12, 13, 14] rfl
  have hDc := hD.sub (ws' := (pa__w py (nI on) (nI si) ti0 tm bh k_ftm ftm k_fbh fbh au (nI nc) 0 (nI ne) st0 q4 q5 q6 q7 q8 q9 q10 q11 q12 q13 q14 q15 q16 k_f4 f4 k_f5 (bN 7 q_f5) k_f6 (bN 7 q_f6) k_f7 f7 k_f8 (bN 4 q_f8) k_f9 (bN 2 q_f9) k_f10 f10 k_f11 f11 k_f12 f12 k_f13 f13 k_f14 f14 k_f15 f15 k_f16 f16)) [15, 16, 17, 1, 2, 3, 4, 5, 6, 7, 8, 9, 10, 11, 12, 13, 14] (by decide) rfl
  have hKc : va_K (dC, dI) vwCl (pa__t k_ftm k_fbh k_f4 k_f5 k_f6 k_f7 k_f8 k_f9 k_f10 k_f11 k_f12 k_f13 k_f14 k_f15 k_f16) s := hK.sub [13, 14, 0, 1, 2, 3, 4, 5, 6, 7, 8, 9, 10, 11, 12] rfl
  have hFc := pu_free hDc hS hA
  refine va_calli (va_runV (As := [.ref au]) (rest := []) ⟨hx, hb, hml, hown, hts⟩ (c_E_3_startsIn_0 l dC dI _ py on si ti0 tm bh k_ftm ftm k_fbh fbh au nc ne st0 q4 q5 q6 q7 q8 q9 q10 q11 q12 q13 q14 q15 q16 k_f4 f4 k_f5 q_f5 k_f6 q_f6 k_f7 f7 k_f8 q_f8 k_f9 q_f9 k_f10 f10 k_f11 f11 k_f12 f12 k_f13 f13 k_f14 f14 k_f15 f15 k_f16 f16 hon hsi hnc hne (hst0)) (cwV 1 hts g_E_8_begin_0_E_3_startsIn_0 rfl rfl rfl (by decide +kernel) ⟨Nat.le_of_ble_eq_true rfl, Nat.le_of_ble_eq_true rfl⟩) ⟨pu_bl, va_recv hK hP (ci := 3) (q0 := 15) rfl rfl, pu_in hPc hKc hDc⟩ rfl rfl hl.1 rfl (lv_room (Nat.le_of_ble_eq_true rfl)) eX8_begin_8 ⟨Nat.le_of_ble_eq_true rfl, Nat.le_of_ble_eq_true rfl⟩) hS (fun q _ h => hFc q h) hFc (fun r_1 u t H1 locs ht hvm hw hB hz1 hk1 hS => ?_)
  obtain ⟨z_on_2, ⟨hP1, -, hD1⟩, hz_on_2, xr_1_0⟩ := hB
  rw [ht] at hP1
  obtain ⟨hP, hD⟩ := pj_a (X := (xy__w xa xtape (nI tp) rd au xdr hy g (nI hs) tg sg (nI ss) rm ti py bu sm (nI nc) 0 (nI ne) st0 q4 q5 q6 q7 q8 q9 q10 q11 q12 q13 q14 q15 q16 k_f4 f4 k_f5 (bN 7 q_f5) k_f6 (bN 7 q_f6) k_f7 f7 k_f8 (bN 4 q_f8) k_f9 (bN 2 q_f9) k_f10 f10 k_f11 f11 k_f12 f12 k_f13 f13 k_f14 f14 k_f15 f15 k_f16 f16 (nI on) (nI si) ti0 tm bh k_ftm ftm k_fbh fbh)) (X' := (xy__w xa xtape (nI tp) rd au xdr hy g (nI hs) tg sg (nI ss) rm ti py bu sm (nI nc) 0 (nI ne) st0 q4 q5 q6 q7 q8 q9 q10 q11 q12 q13 q14 q15 q16 k_f4 f4 k_f5 (bN 7 q_f5) k_f6 (bN 7 q_f6) k_f7 f7 k_f8 (bN 4 q_f8) k_f9 (bN 2 q_f9) k_f10 f10 k_f11 f11 k_f12 f12 k_f13 f13 k_f14 f14 k_f15 f15 k_f16 f16 (nI z_on_2) (nI si) ti0 tm bh k_ftm ftm k_fbh fbh)) (wc := (pa__w py (nI on) (nI si) ti0 tm bh k_ftm ftm k_fbh fbh au (nI nc) 0 (nI ne) st0 q4 q5 q6 q7 q8 q9 q10 q11 q12 q13 q14 q15 q16 k_f4 f4 k_f5 (bN 7 q_f5) k_f6 (bN 7 q_f6) k_f7 f7 k_f8 (bN 4 q_f8) k_f9 (bN 2 q_f9) k_f10 f10 k_f11 f11 k_f12 f12 k_f13 f13 k_f14 f14 k_f15 f15 k_f16 f16)) (w1 := (pa__w py (nI z_on_2) (nI si) ti0 tm bh k_ftm ftm k_fbh fbh au (nI nc) 0 (nI ne) st0 q4 q5 q6 q7 q8 q9 q10 q11 q12 q13 q14 q15 q16 k_f4 f4 k_f5 (bN 7 q_f5) k_f6 (bN 7 q_f6) k_f7 f7 k_f8 (bN 4 q_f8) k_f9 (bN 2 q_f9) k_f10 f10 k_f11 f11 k_f12 f12 k_f13 f13 k_f14 f14 k_f15 f15 k_f16 f16)) hP hD [15, 16, 17, 1, 2, 3, 4, 5, 6, 7, 8, 9, 10, 11, 12, 13, 14] [17, 3, 4, 5, 6, 7, 8, 9, 10, 11, 12, 13, 14, 15, 16, 0, 1, 2] 17 rfl hk1 hP1 rfl rfl rfl (by decide)
  clear hP1 hD1 hFc hPc hDc hKc
  clear hk1 hz1 ht hvm
  generalize H1 = H at hP hS ⊢
  have hsp := hsp.trans (slet_eq xr_1_0)
  obtain rfl : r_1 = 0 := hw
  refine lv_if_eq (tgt := 24) hx hb eX8_begin_11 (by decide) (fun _ => ?_) (fun z => absurd z (by decide))
  refine lv_iconst (v := (-1)) hx hb eX8_begin_24 (by decide) ?_
  exact W.iret (v := (-1)) hx hb hr (fun t ht hW => ⟨⟨(-1), (), rfl, (congrArg Prod.fst (hsp.symm.trans hRR)), ⟨z_on_2, ⟨by rw [ht]; exact hP, va_K.moved hW.alike hK, hD⟩, hz_on_2, (congrArg Prod.snd (hsp.symm.trans hRR))⟩⟩, hS.F ht⟩) hS.2.2 eX8_begin_25
theorem eX8_begin_14 : decode cX8_begin 14 = .ok (.aload_n 0, 1) := by decide +kernel
theorem eX8_begin_15 : decode cX8_begin 15 = .ok (.getfield 69, 3) := by decide +kernel
theorem eX8_begin_18 : decode cX8_begin 18 = .ok (.getfield 364, 3) := by decide +kernel
theorem eX8_begin_21 : decode cX8_begin 21 = .ok (.goto 4, 3) := by decide +kernel
abbrev vs_E_8_begin : List Cond := .code yX8_begin cX8_begin 1 (some .int) :: CM
theorem g_E_8_begin_E_3_startsIn : GoodIn vs_E_8_begin (wsV RX8 361 RX3 yX3_startsIn vs_E_3_startsIn) := cm_gV cm_643 cm_644 cm_645 cm_204 cm_170
noncomputable def sp_E_8_begin (np : Nat) (st0 : Nat) (q_f8 : Nat → Nat) (q_f9 : Nat → Nat) (f12 : Nat → Int32) (f13 : Nat → Int32) (si : Nat) (ti0 : Int32) (ftm : Nat → Int32) : Int32 × (Nat → Int32) × Nat × Nat × Int32 := (slet (sp_E_3_startsIn si ti0 ftm np st0 q_f8 q_f9 f12 f13) (fun (u_6, z_ftm_2, z_on_3, z_si_4, z_ti_5) => (if u_6 = 0 then ((-1), z_ftm_2, z_on_3, z_si_4, z_ti_5) else ((nI z_si_4), z_ftm_2, z_on_3, z_si_4, z_ti_5))))
set_option maxHeartbeats 4000000 in
set_option maxRecDepth 100000 in
theorem c_E_8_begin (l : Launch) (dC : Nat → ClassId) (dI : Nat → Nat → Nat) (sz : Nat) (xa : Nat) (xtape : Nat) (tp : Nat) (rd : Nat) (au : Nat) (xdr : Nat) (hy : Nat) (g : Nat) (hs : Nat) (tg : Nat) (sg : Nat) (ss : Nat) (rm : Nat) (ti : Nat) (py : Nat) (bu : Nat) (sm : Nat) (nc : Nat) (np : Nat) (ne : Nat) (st0 : Nat) (q4 : Nat) (q5 : Nat) (q6 : Nat) (q7 : Nat) (q8 : Nat) (q9 : Nat) (q10 : Nat) (q11 : Nat) (q12 : Nat) (q13 : Nat) (q14 : Nat) (q15 : Nat) (q16 : Nat) (k_f4 : ClassId) (f4 : Nat → Int32) (k_f5 : ClassId) (q_f5 : Nat → Nat) (k_f6 : ClassId) (q_f6 : Nat → Nat) (k_f7 : ClassId) (f7 : Nat → Int32) (k_f8 : ClassId) (q_f8 : Nat → Nat) (k_f9 : ClassId) (q_f9 : Nat → Nat) (k_f10 : ClassId) (f10 : Nat → Int32) (k_f11 : ClassId) (f11 : Nat → Int32) (k_f12 : ClassId) (f12 : Nat → Int32) (k_f13 : ClassId) (f13 : Nat → Int32) (k_f14 : ClassId) (f14 : Nat → Int32) (k_f15 : ClassId) (f15 : Nat → Int32) (k_f16 : ClassId) (f16 : Nat → Int32) (on : Nat) (si : Nat) (ti0 : Int32) (tm : Nat) (bh : Nat) (k_ftm : ClassId) (ftm : Nat → Int32) (k_fbh : ClassId) (fbh : Nat → Int32) (htp : tp ≤ 900) (hhs : hs ≤ 1) (hss : ss ≤ 1) (hnc : nc ≤ 3) (hnp : np ≤ 8) (hne : ne ≤ 14) (hst0 : st0 ≤ 7) (hon : on ≤ 1) (hsi : si ≤ 7) : Met l yX8_begin vs_E_8_begin ({ frames := 3, cells := 0, slots := 0, locals := 68 }) (va_Pc [.ref xa] (pu_B (dC, dI) (xy__w xa xtape (nI tp) rd au xdr hy g (nI hs) tg sg (nI ss) rm ti py bu sm (nI nc) (nI np) (nI ne) (nI st0) q4 q5 q6 q7 q8 q9 q10 q11 q12 q13 q14 q15 q16 k_f4 f4 k_f5 (bN 7 q_f5) k_f6 (bN 7 q_f6) k_f7 f7 k_f8 (bN 4 q_f8) k_f9 (bN 2 q_f9) k_f10 f10 k_f11 f11 k_f12 f12 k_f13 f13 k_f14 f14 k_f15 f15 k_f16 f16 (nI on) (nI si) ti0 tm bh k_ftm ftm k_fbh fbh) (xy__t k_f4 k_f5 k_f6 k_f7 k_f8 k_f9 k_f10 k_f11 k_f12 k_f13 k_f14 k_f15 k_f16 k_ftm k_fbh) sz)) (va_Qi (fun (r : Int32) (_ : Unit) => r = (sp_E_8_begin np st0 q_f8 q_f9 f12 f13 si ti0 ftm).1) (fun _ t => ∃ (z_ftm : Nat → Int32) (z_on : Nat) (z_si : Nat) (z_ti0 : Int32), pu_E (dC, dI) (xy__w xa xtape (nI tp) rd au xdr hy g (nI hs) tg sg (nI ss) rm ti py bu sm (nI nc) (nI np) (nI ne) (nI st0) q4 q5 q6 q7 q8 q9 q10 q11 q12 q13 q14 q15 q16 k_f4 f4 k_f5 (bN 7 q_f5) k_f6 (bN 7 q_f6) k_f7 f7 k_f8 (bN 4 q_f8) k_f9 (bN 2 q_f9) k_f10 f10 k_f11 f11 k_f12 f12 k_f13 f13 k_f14 f14 k_f15 f15 k_f16 f16 (nI z_on) (nI z_si) z_ti0 tm bh k_ftm z_ftm k_fbh fbh) (xy__t k_f4 k_f5 k_f6 k_f7 k_f8 k_f9 k_f10 k_f11 k_f12 k_f13 k_f14 k_f15 k_f16 k_ftm k_fbh) (va_A ((xy__w xa xtape (nI tp) rd au xdr hy g (nI hs) tg sg (nI ss) rm ti py bu sm (nI nc) (nI np) (nI ne) (nI st0) q4 q5 q6 q7 q8 q9 q10 q11 q12 q13 q14 q15 q16 k_f4 f4 k_f5 (bN 7 q_f5) k_f6 (bN 7 q_f6) k_f7 f7 k_f8 (bN 4 q_f8) k_f9 (bN 2 q_f9) k_f10 f10 k_f11 f11 k_f12 f12 k_f13 f13 k_f14 f14 k_f15 f15 k_f16 f16 (nI on) (nI si) ti0 tm bh k_ftm ftm k_fbh fbh)) sz) t ∧ (z_on ≤ 1) ∧ (z_si ≤ 7) ∧ ((z_ftm, z_on, z_si, z_ti0) = (sp_E_8_begin np st0 q_f8 q_f9 f12 f13 si ti0 ftm).2)) (va_A ((xy__w xa xtape (nI tp) rd au xdr hy g (nI hs) tg sg (nI ss) rm ti py bu sm (nI nc) (nI np) (nI ne) (nI st0) q4 q5 q6 q7 q8 q9 q10 q11 q12 q13 q14 q15 q16 k_f4 f4 k_f5 (bN 7 q_f5) k_f6 (bN 7 q_f6) k_f7 f7 k_f8 (bN 4 q_f8) k_f9 (bN 2 q_f9) k_f10 f10 k_f11 f11 k_f12 f12 k_f13 f13 k_f14 f14 k_f15 f15 k_f16 f16 (nI on) (nI si) ti0 tm bh k_ftm ftm k_fbh fbh)) sz)) 0 0 (va_A ((xy__w xa xtape (nI tp) rd au xdr hy g (nI hs) tg sg (nI ss) rm ti py bu sm (nI nc) (nI np) (nI ne) (nI st0) q4 q5 q6 q7 q8 q9 q10 q11 q12 q13 q14 q15 q16 k_f4 f4 k_f5 (bN 7 q_f5) k_f6 (bN 7 q_f6) k_f7 f7 k_f8 (bN 4 q_f8) k_f9 (bN 2 q_f9) k_f10 f10 k_f11 f11 k_f12 f12 k_f13 f13 k_f14 f14 k_f15 f15 k_f16 f16 (nI on) (nI si) ti0 tm bh k_ftm ftm k_fbh fbh)) sz) := by
  refine Met.ofW (cc := cX8_begin) (maxL := 1) (ret := (some .int)) (by decide) rfl ?_
  intro p e s m args below meth c s₁ B hml hv
  obtain ⟨rfl, rfl, hP, hK, hD0⟩ := hv
  have hx := B.exec
  have hb := B.bytes
  have hr := B.returns
  have hts := atoms_spec (ws := vs_E_8_begin) B.pre
  have v_1 := hts (.fieldLink RX8 69 "ClockReach" "play" "LClockReach$Play;") (List.mem_cons_of_mem _ cm_447)
  have v_2 := hts (.fieldLink RX8 23 "ClockReach" "model" "LClockReach$Automaton;") (List.mem_cons_of_mem _ cm_434)
  have v_8 := hts (.fieldLink RX8 364 "ClockReach$Play" "site" "I") (List.mem_cons_of_mem _ cm_642)
  have hown : s.vm.findClass RX8 = some m.cls := findClass_of_methodNamed B.named
  have hlocks := B.notSynchronized
  have hiX3 : ∀ w ∈ wsX30, w ∈ vs_E_8_begin := fun _ h => List.mem_cons_of_mem _ (cm_X3 h)
  have hiX8 : ∀ w ∈ wsX80, w ∈ vs_E_8_begin := fun _ h => List.mem_cons_of_mem _ (cm_X8 h)
  have hD := hD0.self (sz := s.heap.size)
  generalize hAe : va_A ((xy__w xa xtape (nI tp) rd au xdr hy g (nI hs) tg sg (nI ss) rm ti py bu sm (nI nc) (nI np) (nI ne) (nI st0) q4 q5 q6 q7 q8 q9 q10 q11 q12 q13 q14 q15 q16 k_f4 f4 k_f5 (bN 7 q_f5) k_f6 (bN 7 q_f6) k_f7 f7 k_f8 (bN 4 q_f8) k_f9 (bN 2 q_f9) k_f10 f10 k_f11 f11 k_f12 f12 k_f13 f13 k_f14 f14 k_f15 f15 k_f16 f16 (nI on) (nI si) ti0 tm bh k_ftm ftm k_fbh fbh)) s.heap.size = A at hD ⊢
  have hA : ∀ q : Nat, s.heap.size ≤ q → A q := fun q h => by rw [← hAe]; exact Or.inr h
  have hS : va_S A s.heap s.heap [] := va_S.rf
  have hl := lv_entry ([.ref xa]) (n := 1) (Nat.le_of_ble_eq_true rfl)
  rw [lg_entry_eq]
  generalize (lg_sl ([.ref xa]) ++ List.replicate (1 - (lg_sl ([.ref xa])).length) Slot.unset).toArray = ls at hl ⊢
  have hl : lv_has ls 1 [(0, .ref xa)] := hl
  obtain ⟨RR, hRR⟩ : ∃ x, x = (sp_E_8_begin np st0 q_f8 q_f9 f12 f13 si ti0 ftm) := ⟨_, rfl⟩
  have hsp := hRR
  refine lv_aload_n hx hb eX8_begin_0 rfl (lv_at hl 0 rfl) ?_
  refine va_get (D := (dC, dI)) (ci := 8) (v := .ref py) (C := RX8) (T := TX8) (N := 16) hx hb hts hiX8 hown hK hP 0 rfl rfl 13 (by decide) v_1 (fun _ h9 => h9) rfl eX8_begin_1 ?_
  refine lv_aload_n hx hb eX8_begin_4 rfl (lv_at hl 0 rfl) ?_
  refine va_get (D := (dC, dI)) (ci := 8) (v := .ref au) (C := RX8) (T := TX8) (N := 16) hx hb hts hiX8 hown hK hP 0 rfl rfl 3 (by decide) v_2 (fun _ h9 => h9) rfl eX8_begin_5 ?_
  have hPc : va_P (dC, dI) vwCl (pa__w py (nI on) (nI si) ti0 tm bh k_ftm ftm k_fbh fbh au (nI nc) (nI np) (nI ne) (nI st0) q4 q5 q6 q7 q8 q9 q10 q11 q12 q13 q14 q15 q16 k_f4 f4 k_f5 (bN 7 q_f5) k_f6 (bN 7 q_f6) k_f7 f7 k_f8 (bN 4 q_f8) k_f9 (bN 2 q_f9) k_f10 f10 k_f11 f11 k_f12 f12 k_f13 f13 k_f14 f14 k_f15 f15 k_f16 f16) _ := hP.sub [15, 16, 17, 1, 2, 3, 4, 5, 6, 7, 8, 9, 10, 11, 12, 13, 14] rfl
  have hDc := hD.sub (ws' := (pa__w py (nI on) (nI si) ti0 tm bh k_ftm ftm k_fbh fbh au (nI nc) (nI np) (nI ne) (nI st0) q4 q5 q6 q7 q8 q9 q10 q11 q12 q13 q14 q15 q16 k_f4 f4 k_f5 (bN 7 q_f5) k_f6 (bN 7 q_f6) k_f7 f7 k_f8 (bN 4 q_f8) k_f9 (bN 2 q_f9) k_f10 f10 k_f11 f11 k_f12 f12 k_f13 f13 k_f14 f14 k_f15 f15 k_f16 f16)) [15, 16, 17, 1, 2, 3, 4, 5, 6, 7, 8, 9, 10, 11, 12, 13, 14] (by decide) rfl
  have hKc : va_K (dC, dI) vwCl (pa__t k_ftm k_fbh k_f4 k_f5 k_f6 k_f7 k_f8 k_f9 k_f10 k_f11 k_f12 k_f13 k_f14 k_f15 k_f16) s := hK.sub [13, 14, 0, 1, 2, 3, 4, 5, 6, 7, 8, 9, 10, 11, 12] rfl
  have hFc := pu_free hDc hS hA
  refine va_calli (va_runV (As := [.ref au]) (rest := []) ⟨hx, hb, hml, hown, hts⟩ (c_E_3_startsIn l dC dI _ py on si ti0 tm bh k_ftm ftm k_fbh fbh au nc np ne st0 q4 q5 q6 q7 q8 q9 q10 q11 q12 q13 q14 q15 q16 k_f4 f4 k_f5 q_f5 k_f6 q_f6 k_f7 f7 k_f8 q_f8 k_f9 q_f9 k_f10 f10 k_f11 f11 k_f12 f12 k_f13 f13 k_f14 f14 k_f15 f15 k_f16 f16 hon hsi hnc hnp hne hst0) (cwV 1 hts g_E_8_begin_E_3_startsIn rfl rfl rfl (by decide +kernel) ⟨Nat.le_of_ble_eq_true rfl, Nat.le_of_ble_eq_true rfl⟩) ⟨pu_bl, va_recv hK hP (ci := 3) (q0 := 15) rfl rfl, pu_in hPc hKc hDc⟩ rfl rfl hl.1 rfl (lv_room (Nat.le_of_ble_eq_true rfl)) eX8_begin_8 ⟨Nat.le_of_ble_eq_true rfl, Nat.le_of_ble_eq_true rfl⟩) hS (fun q _ h => hFc q h) hFc (fun r_1 u t H1 locs ht hvm hw hB hz1 hk1 hS => ?_)
  obtain ⟨z_ftm_2, z_on_3, z_si_4, z_ti_5, ⟨hP1, -, hD1⟩, hz_on_3, hz_si_4, xr_1_0⟩ := hB
  rw [ht] at hP1
  obtain ⟨hP, hD⟩ := pj_a (X := (xy__w xa xtape (nI tp) rd au xdr hy g (nI hs) tg sg (nI ss) rm ti py bu sm (nI nc) (nI np) (nI ne) (nI st0) q4 q5 q6 q7 q8 q9 q10 q11 q12 q13 q14 q15 q16 k_f4 f4 k_f5 (bN 7 q_f5) k_f6 (bN 7 q_f6) k_f7 f7 k_f8 (bN 4 q_f8) k_f9 (bN 2 q_f9) k_f10 f10 k_f11 f11 k_f12 f12 k_f13 f13 k_f14 f14 k_f15 f15 k_f16 f16 (nI on) (nI si) ti0 tm bh k_ftm ftm k_fbh fbh)) (X' := (xy__w xa xtape (nI tp) rd au xdr hy g (nI hs) tg sg (nI ss) rm ti py bu sm (nI nc) (nI np) (nI ne) (nI st0) q4 q5 q6 q7 q8 q9 q10 q11 q12 q13 q14 q15 q16 k_f4 f4 k_f5 (bN 7 q_f5) k_f6 (bN 7 q_f6) k_f7 f7 k_f8 (bN 4 q_f8) k_f9 (bN 2 q_f9) k_f10 f10 k_f11 f11 k_f12 f12 k_f13 f13 k_f14 f14 k_f15 f15 k_f16 f16 (nI z_on_3) (nI z_si_4) z_ti_5 tm bh k_ftm z_ftm_2 k_fbh fbh)) (wc := (pa__w py (nI on) (nI si) ti0 tm bh k_ftm ftm k_fbh fbh au (nI nc) (nI np) (nI ne) (nI st0) q4 q5 q6 q7 q8 q9 q10 q11 q12 q13 q14 q15 q16 k_f4 f4 k_f5 (bN 7 q_f5) k_f6 (bN 7 q_f6) k_f7 f7 k_f8 (bN 4 q_f8) k_f9 (bN 2 q_f9) k_f10 f10 k_f11 f11 k_f12 f12 k_f13 f13 k_f14 f14 k_f15 f15 k_f16 f16)) (w1 := (pa__w py (nI z_on_3) (nI z_si_4) z_ti_5 tm bh k_ftm z_ftm_2 k_fbh fbh au (nI nc) (nI np) (nI ne) (nI st0) q4 q5 q6 q7 q8 q9 q10 q11 q12 q13 q14 q15 q16 k_f4 f4 k_f5 (bN 7 q_f5) k_f6 (bN 7 q_f6) k_f7 f7 k_f8 (bN 4 q_f8) k_f9 (bN 2 q_f9) k_f10 f10 k_f11 f11 k_f12 f12 k_f13 f13 k_f14 f14 k_f15 f15 k_f16 f16)) hP hD [15, 16, 17, 1, 2, 3, 4, 5, 6, 7, 8, 9, 10, 11, 12, 13, 14] [17, 3, 4, 5, 6, 7, 8, 9, 10, 11, 12, 13, 14, 15, 16, 0, 1, 2] 17 rfl hk1 hP1 rfl rfl rfl (by decide)
  clear hP1 hD1 hFc hPc hDc hKc
  clear hk1 hz1 ht hvm
  generalize H1 = H at hP hS ⊢
  obtain ⟨u_6, hu_6, rfl, iu_6⟩ := hw
  have iu_6 : (u_6, z_ftm_2, z_on_3, z_si_4, z_ti_5) = (sp_E_3_startsIn si ti0 ftm np st0 q_f8 q_f9 f12 f13) := Prod.ext iu_6 xr_1_0
  have hsp := hsp.trans (slet_eq iu_6)
  refine lv_if_eq (tgt := 24) hx hb eX8_begin_11 (by decide) (fun c_7 => ?_) (fun c_7 => ?_)
  · have c_7 : u_6 = 0 := (nI_eq (a := u_6) (b := 0) (Nat.lt_of_le_of_lt hu_6 (Nat.le_of_ble_eq_true rfl)) (Nat.le_of_ble_eq_true rfl)).mp c_7
    have hsp := hsp.trans (if_pos c_7)
    refine lv_iconst (v := (-1)) hx hb eX8_begin_24 (by decide) ?_
    exact W.iret (v := (-1)) hx hb hr (fun t ht hW => ⟨⟨(-1), (), rfl, (congrArg Prod.fst (hsp.symm.trans hRR)), ⟨z_ftm_2, z_on_3, z_si_4, z_ti_5, ⟨by rw [ht]; exact hP, va_K.moved hW.alike hK, hD⟩, hz_on_3, hz_si_4, (congrArg Prod.snd (hsp.symm.trans hRR))⟩⟩, hS.F ht⟩) hS.2.2 eX8_begin_25
  · have c_7 : ¬ u_6 = 0 := fun z => c_7 ((nI_eq (a := u_6) (b := 0) (Nat.lt_of_le_of_lt hu_6 (Nat.le_of_ble_eq_true rfl)) (Nat.le_of_ble_eq_true rfl)).mpr z)
    have hsp := hsp.trans (if_neg c_7)
    refine lv_aload_n hx hb eX8_begin_14 rfl (lv_at hl 0 rfl) ?_
    refine va_get (D := (dC, dI)) (ci := 8) (v := .ref py) (C := RX8) (T := TX8) (N := 16) hx hb hts hiX8 hown hK hP 0 rfl rfl 13 (by decide) v_1 (fun _ h9 => h9) rfl eX8_begin_15 ?_
    refine va_get (D := (dC, dI)) (ci := 3) (v := .int (nI z_si_4)) (C := RX3) (T := TX3) (N := 5) hx hb hts hiX3 hown hK hP 15 rfl rfl 1 (by decide) v_8 (fun _ h9 => h9) rfl eX8_begin_18 ?_
    refine lv_goto (tgt := 25) hx hb eX8_begin_21 (by decide) ?_
    exact W.iret (v := (nI z_si_4)) hx hb hr (fun t ht hW => ⟨⟨(nI z_si_4), (), rfl, (congrArg Prod.fst (hsp.symm.trans hRR)), ⟨z_ftm_2, z_on_3, z_si_4, z_ti_5, ⟨by rw [ht]; exact hP, va_K.moved hW.alike hK, hD⟩, hz_on_3, hz_si_4, (congrArg Prod.snd (hsp.symm.trans hRR))⟩⟩, hS.F ht⟩) hS.2.2 eX8_begin_25
