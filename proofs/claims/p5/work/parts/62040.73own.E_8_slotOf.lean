theorem eX8_slotOf_0 : decode cX8_slotOf 0 = .ok (.iconst (-1), 1) := by decide +kernel
theorem eX8_slotOf_1 : decode cX8_slotOf 1 = .ok (.istore_n 3, 1) := by decide +kernel
theorem eX8_slotOf_2 : decode cX8_slotOf 2 = .ok (.aload_n 0, 1) := by decide +kernel
theorem eX8_slotOf_3 : decode cX8_slotOf 3 = .ok (.iload_n 1, 1) := by decide +kernel
theorem eX8_slotOf_4 : decode cX8_slotOf 4 = .ok (.invokevirtual 165, 3) := by decide +kernel
theorem eX8_slotOf_7 : decode cX8_slotOf 7 = .ok (.ifCond .eq 8, 3) := by decide +kernel
theorem eX8_slotOf_10 : decode cX8_slotOf 10 = .ok (.iload_n 1, 1) := by decide +kernel
theorem eX8_slotOf_11 : decode cX8_slotOf 11 = .ok (.istore_n 3, 1) := by decide +kernel
theorem eX8_slotOf_12 : decode cX8_slotOf 12 = .ok (.goto 28, 3) := by decide +kernel
theorem eX8_slotOf_15 : decode cX8_slotOf 15 = .ok (.iload_n 1, 1) := by decide +kernel
theorem eX8_slotOf_16 : decode cX8_slotOf 16 = .ok (.bipush 100, 2) := by decide +kernel
theorem eX8_slotOf_18 : decode cX8_slotOf 18 = .ok (.if_icmp .lt 22, 3) := by decide +kernel
theorem eX8_slotOf_21 : decode cX8_slotOf 21 = .ok (.aload_n 0, 1) := by decide +kernel
theorem eX8_slotOf_22 : decode cX8_slotOf 22 = .ok (.iload_n 1, 1) := by decide +kernel
theorem eX8_slotOf_23 : decode cX8_slotOf 23 = .ok (.bipush 100, 2) := by decide +kernel
theorem eX8_slotOf_25 : decode cX8_slotOf 25 = .ok (.isub, 1) := by decide +kernel
theorem eX8_slotOf_26 : decode cX8_slotOf 26 = .ok (.invokevirtual 140, 3) := by decide +kernel
theorem eX8_slotOf_29 : decode cX8_slotOf 29 = .ok (.ifCond .eq 11, 3) := by decide +kernel
theorem eX8_slotOf_32 : decode cX8_slotOf 32 = .ok (.iload_n 1, 1) := by decide +kernel
theorem eX8_slotOf_33 : decode cX8_slotOf 33 = .ok (.bipush 100, 2) := by decide +kernel
theorem eX8_slotOf_35 : decode cX8_slotOf 35 = .ok (.isub, 1) := by decide +kernel
theorem eX8_slotOf_36 : decode cX8_slotOf 36 = .ok (.invokestatic 151, 3) := by decide +kernel
theorem eX8_slotOf_39 : decode cX8_slotOf 39 = .ok (.istore_n 3, 1) := by decide +kernel
theorem eX8_slotOf_40 : decode cX8_slotOf 40 = .ok (.iload_n 3, 1) := by decide +kernel
theorem eX8_slotOf_41 : decode cX8_slotOf 41 = .ok (.iconst (-1), 1) := by decide +kernel
theorem eX8_slotOf_42 : decode cX8_slotOf 42 = .ok (.if_icmp .eq 20, 3) := by decide +kernel
theorem eX8_slotOf_45 : decode cX8_slotOf 45 = .ok (.iload_n 2, 1) := by decide +kernel
theorem eX8_slotOf_46 : decode cX8_slotOf 46 = .ok (.ifCond .lt 16, 3) := by decide +kernel
theorem eX8_slotOf_49 : decode cX8_slotOf 49 = .ok (.iload_n 2, 1) := by decide +kernel
theorem eX8_slotOf_50 : decode cX8_slotOf 50 = .ok (.aload_n 0, 1) := by decide +kernel
theorem eX8_slotOf_51 : decode cX8_slotOf 51 = .ok (.getfield 23, 3) := by decide +kernel
theorem eX8_slotOf_54 : decode cX8_slotOf 54 = .ok (.getfield 148, 3) := by decide +kernel
theorem eX8_slotOf_57 : decode cX8_slotOf 57 = .ok (.iload_n 3, 1) := by decide +kernel
theorem eX8_slotOf_58 : decode cX8_slotOf 58 = .ok (.iaload, 1) := by decide +kernel
theorem eX8_slotOf_59 : decode cX8_slotOf 59 = .ok (.if_icmp .lt 5, 3) := by decide +kernel
theorem eX8_slotOf_62 : decode cX8_slotOf 62 = .ok (.iconst (-1), 1) := by decide +kernel
theorem eX8_slotOf_63 : decode cX8_slotOf 63 = .ok (.ireturn, 1) := by decide +kernel
theorem eX8_slotOf_64 : decode cX8_slotOf 64 = .ok (.iload_n 3, 1) := by decide +kernel
theorem eX8_slotOf_65 : decode cX8_slotOf 65 = .ok (.iload_n 2, 1) := by decide +kernel
theorem eX8_slotOf_66 : decode cX8_slotOf 66 = .ok (.invokestatic 184, 3) := by decide +kernel
theorem eX8_slotOf_69 : decode cX8_slotOf 69 = .ok (.ireturn, 1) := by decide +kernel
abbrev vs_E_8_slotOf : List Cond := .code yX8_slotOf cX8_slotOf 4 (some .int) :: CM
theorem g_E_8_slotOf_E_8_isEdge : GoodIn vs_E_8_slotOf (wsV RX8 165 RX8 yX8_isEdge vs_E_8_isEdge) := cm_gV cm_483 cm_484 cm_485 cm_427 cm_479
theorem g_E_8_slotOf_E_0_slot : GoodIn vs_E_8_slotOf (va_wsS RX8 184 yX0_slot vs_E_0_slot) := cm_gS cm_494 cm_18 cm_19 cm_1
theorem g_E_8_slotOf_E_8_isPlace_k : GoodIn vs_E_8_slotOf (wsV RX8 140 RX8 yX8_isPlace vs_E_8_isPlace_k) := cm_gV cm_471 cm_472 cm_473 cm_427 cm_474
theorem g_E_8_slotOf_E_0_hostOfPlace : GoodIn vs_E_8_slotOf (va_wsS RX8 151 yX0_hostOfPlace vs_E_0_hostOfPlace) := cm_gS cm_475 cm_55 cm_19 cm_0
theorem g_E_8_slotOf_E_8_isPlace : GoodIn vs_E_8_slotOf (wsV RX8 140 RX8 yX8_isPlace vs_E_8_isPlace) := cm_gV cm_471 cm_472 cm_473 cm_427 cm_474
noncomputable def sp_E_8_slotOf (np : Nat) (ne : Nat) (q_f8 : Nat → Nat) (p0 : Int32) (p1 : Int32) : Nat := (if (0 : Int32) ≤ p0 ∧ p0 < nI ne then (slet ((p0 : Int32).toNatClampNeg) (fun n_2 => (if (p1 : Int32) < 0 then 0 else (slet (min (q_f8 n_2) 4) (fun u_5 => (if (p1 : Int32) < (nI u_5) then (slet ((p1 : Int32).toNatClampNeg) (fun n_7 => ((n_2 * 4 + n_7) + 1))) else 0)))))) else (if (100 : Int32) ≤ p0 ∧ p0 ≤ 107 then (slet (((p0 : Int32) - 100).toNatClampNeg) (fun n_9 => (slet (sp_E_8_isPlace_k np ((100 + n_9) - 100)) (fun u_13 => (if u_13 = 0 then 0 else (if (p1 : Int32) < 0 then 0 else (slet (min (q_f8 (14 + ((100 + n_9) - 100))) 4) (fun u_19 => (if (p1 : Int32) < (nI u_19) then (slet ((p1 : Int32).toNatClampNeg) (fun n_21 => (((14 + ((100 + n_9) - 100)) * 4 + n_21) + 1))) else 0))))))))) else (if (p0 : Int32) < 100 then 0 else (slet ((p0 : Int32) - 100) (fun y_24 => (if (0 : Int32) ≤ y_24 ∧ y_24 < nI np then (slet ((y_24 : Int32).toNatClampNeg) (fun n_26 => default)) else 0))))))
set_option maxHeartbeats 4000000 in
set_option maxRecDepth 100000 in
theorem c_E_8_slotOf (l : Launch) (dC : Nat → ClassId) (dI : Nat → Nat → Nat) (sz : Nat) (xa : Nat) (xtape : Nat) (tp : Nat) (rd : Nat) (au : Nat) (xdr : Nat) (hy : Nat) (g : Nat) (hs : Nat) (tg : Nat) (sg : Nat) (ss : Nat) (rm : Nat) (ti : Nat) (py : Nat) (bu : Nat) (sm : Nat) (nc : Nat) (np : Nat) (ne : Nat) (st0 : Int32) (q4 : Nat) (q5 : Nat) (q6 : Nat) (q7 : Nat) (q8 : Nat) (q9 : Nat) (q10 : Nat) (q11 : Nat) (q12 : Nat) (q13 : Nat) (q14 : Nat) (q15 : Nat) (q16 : Nat) (k_f4 : ClassId) (f4 : Nat → Int32) (k_f5 : ClassId) (q_f5 : Nat → Nat) (k_f6 : ClassId) (q_f6 : Nat → Nat) (k_f7 : ClassId) (f7 : Nat → Int32) (k_f8 : ClassId) (q_f8 : Nat → Nat) (k_f9 : ClassId) (q_f9 : Nat → Nat) (k_f10 : ClassId) (f10 : Nat → Int32) (k_f11 : ClassId) (f11 : Nat → Int32) (k_f12 : ClassId) (f12 : Nat → Int32) (k_f13 : ClassId) (f13 : Nat → Int32) (k_f14 : ClassId) (f14 : Nat → Int32) (k_f15 : ClassId) (f15 : Nat → Int32) (k_f16 : ClassId) (f16 : Nat → Int32) (p0 : Int32) (p1 : Int32) (htp : tp ≤ 900) (hhs : hs ≤ 1) (hss : ss ≤ 1) (hnc : nc ≤ 3) (hnp : np ≤ 8) (hne : ne ≤ 14) (hst0 : pm1 7 st0) : Met l yX8_slotOf vs_E_8_slotOf ({ frames := 1, cells := 0, slots := 0, locals := 21 }) (va_Pc [.ref xa, .int p0, .int p1] (pu_B (dC, dI) (xa__w xa xtape (nI tp) rd au xdr hy g (nI hs) tg sg (nI ss) rm ti py bu sm (nI nc) (nI np) (nI ne) st0 q4 q5 q6 q7 q8 q9 q10 q11 q12 q13 q14 q15 q16 k_f4 f4 k_f5 (bN 7 q_f5) k_f6 (bN 7 q_f6) k_f7 f7 k_f8 (bN 4 q_f8) k_f9 (bN 2 q_f9) k_f10 f10 k_f11 f11 k_f12 f12 k_f13 f13 k_f14 f14 k_f15 f15 k_f16 f16) (xa__t k_f4 k_f5 k_f6 k_f7 k_f8 k_f9 k_f10 k_f11 k_f12 k_f13 k_f14 k_f15 k_f16) sz)) (va_Qi (fun (r : Int32) (_ : Unit) => ∃ v : Nat, v ≤ 88 ∧ r = mI v ∧ v = (sp_E_8_slotOf np ne q_f8 p0 p1)) (fun _ _ => True) (va_A [] sz)) 0 0 (va_A [] sz) := by
  refine Met.ofW (cc := cX8_slotOf) (maxL := 4) (ret := (some .int)) (by decide) rfl ?_
  intro p e s m args below meth c s₁ B hml hv
  obtain ⟨rfl, rfl, hP, hK, hD0⟩ := hv
  have hx := B.exec
  have hb := B.bytes
  have hr := B.returns
  have hts := atoms_spec (ws := vs_E_8_slotOf) B.pre
  have v_6 := hts (.fieldLink RX8 23 "ClockReach" "model" "LClockReach$Automaton;") (List.mem_cons_of_mem _ cm_434)
  have v_7 := hts (.fieldLink RX8 148 "ClockReach$Automaton" "counts" "[I") (List.mem_cons_of_mem _ cm_468)
  have hown : s.vm.findClass RX8 = some m.cls := findClass_of_methodNamed B.named
  have hlocks := B.notSynchronized
  have hiX0 : ∀ w ∈ wsX00, w ∈ vs_E_8_slotOf := fun _ h => List.mem_cons_of_mem _ (cm_X0 h)
  have hiX8 : ∀ w ∈ wsX80, w ∈ vs_E_8_slotOf := fun _ h => List.mem_cons_of_mem _ (cm_X8 h)
  have hD := hD0
  have hA : ∀ q : Nat, s.heap.size ≤ q → va_A [] s.heap.size q := fun _ h => Or.inr h
  have hS : va_S (va_A [] s.heap.size) s.heap s.heap [] := va_S.rf
  have hl := lv_entry ([.ref xa, .int p0, .int p1]) (n := 4) (Nat.le_of_ble_eq_true rfl)
  rw [lg_entry_eq]
  generalize (lg_sl ([.ref xa, .int p0, .int p1]) ++ List.replicate (4 - (lg_sl ([.ref xa, .int p0, .int p1])).length) Slot.unset).toArray = ls at hl ⊢
  have hl : lv_has ls 4 [(0, .ref xa), (1, .int p0), (2, .int p1)] := hl
  obtain ⟨RR, hRR⟩ : ∃ x, x = (sp_E_8_slotOf np ne q_f8 p0 p1) := ⟨_, rfl⟩
  have hsp := hRR
  refine lv_iconst (v := (-1)) hx hb eX8_slotOf_0 (by decide) ?_
  refine lv_istore_n (lv' := [(3, .int (-1)), (0, .ref xa), (1, .int p0), (2, .int p1)]) hx hb eX8_slotOf_1 rfl hl (by decide) rfl (fun ls hl => ?_)
  refine lv_aload_n hx hb eX8_slotOf_2 rfl (lv_at hl 1 rfl) ?_
  refine lv_iload_n hx hb eX8_slotOf_3 rfl (lv_at hl 2 rfl) ?_
  have hPc : va_P (dC, dI) vwCl (xo__w xa xtape (nI tp) rd au xdr hy g (nI hs) tg sg (nI ss) rm ti py bu sm (nI nc) (nI np) (nI ne) st0 q4 q5 q6 q7 q8 q9 q10 q11 q12 q13 q14 q15 q16) _ := hP.sub [0, 1] rfl
  have hDc := hD.sub (ws' := (xo__w xa xtape (nI tp) rd au xdr hy g (nI hs) tg sg (nI ss) rm ti py bu sm (nI nc) (nI np) (nI ne) st0 q4 q5 q6 q7 q8 q9 q10 q11 q12 q13 q14 q15 q16)) [0, 1] (by decide) rfl
  have hKc : va_K (dC, dI) vwCl (xo__t ) s := hK.sub [] rfl
  refine va_calli (va_runV (As := [.int p0]) (rest := []) ⟨hx, hb, hml, hown, hts⟩ (c_E_8_isEdge l dC dI _ xa xtape tp rd au xdr hy g hs tg sg ss rm ti py bu sm nc np ne st0 q4 q5 q6 q7 q8 q9 q10 q11 q12 q13 q14 q15 q16 p0 htp hhs hss hnc hnp hne (hst0)) (cwV 1 hts g_E_8_slotOf_E_8_isEdge rfl rfl rfl (by decide +kernel) ⟨Nat.le_of_ble_eq_true rfl, Nat.le_of_ble_eq_true rfl⟩) ⟨pu_bl, va_recv hK hP (ci := 8) (q0 := 0) rfl rfl, pu_in hPc hKc hDc⟩ rfl rfl hl.1 rfl (lv_room (Nat.le_of_ble_eq_true rfl)) eX8_slotOf_4 ⟨Nat.le_of_ble_eq_true rfl, Nat.le_of_ble_eq_true rfl⟩) hS (fun q _ h => pu_fr hS hA q h) (pu_fr hS hA) (fun r_1 u t H1 locs ht hvm hw hB hz1 hk1 hS => ?_)
  have hP := pu_keep hP hk1
  clear hk1 hz1 ht hvm
  generalize H1 = H at hP hS ⊢
  rcases hw with ⟨rfl, hw⟩ | ⟨rfl, hn⟩
  · obtain ⟨n_2, hn_2, rfl⟩ := hw
    have hsp := hsp.trans (if_pos (in_q hn_2 (by omega)))
    have hsp := hsp.trans (slet_eq (nI_cl (n := n_2) (by omega)))
    refine lv_if_eq (tgt := 15) hx hb eX8_slotOf_7 (by decide) (fun z => absurd z (by decide)) (fun _ => ?_)
    refine lv_iload_n hx hb eX8_slotOf_10 rfl (lv_at hl 2 rfl) ?_
    refine lv_istore_n (lv' := [(3, .int (nI n_2)), (0, .ref xa), (1, .int (nI n_2)), (2, .int p1)]) hx hb eX8_slotOf_11 rfl hl (by decide) rfl (fun ls hl => ?_)
    refine lv_goto (tgt := 40) hx hb eX8_slotOf_12 (by decide) ?_
    refine lv_iload_n hx hb eX8_slotOf_40 rfl (lv_at hl 0 rfl) ?_
    refine lv_iconst (v := (-1)) hx hb eX8_slotOf_41 (by decide) ?_
    refine lv_icmp_eq (tgt := 62) hx hb eX8_slotOf_42 (by decide) (fun z => absurd z (pu_nneg (n := n_2) (by omega) (by decide))) (fun _ => ?_)
    refine lv_iload_n hx hb eX8_slotOf_45 rfl (lv_at hl 3 rfl) ?_
    refine lv_if_lt (tgt := 62) hx hb eX8_slotOf_46 (by decide) (fun c_3 => ?_) (fun c_3 => ?_)
    · have hcc_3 := c_3
      have hsp := hsp.trans (if_pos c_3)
      refine lv_iconst (v := (-1)) hx hb eX8_slotOf_62 (by decide) ?_
      exact W.iret (v := (-1)) hx hb hr (fun t ht hW => ⟨⟨(-1), (), rfl, ⟨0, by omega, rfl, (hsp.symm.trans hRR)⟩, trivial⟩, hS.F ht⟩) hS.2.2 eX8_slotOf_63
    · have hcc_3 := c_3
      have hsp := hsp.trans (if_neg c_3)
      have lp1 : ¬ p1 < 0 := c_3
      refine lv_iload_n hx hb eX8_slotOf_49 rfl (lv_at hl 3 rfl) ?_
      refine lv_aload_n hx hb eX8_slotOf_50 rfl (lv_at hl 1 rfl) ?_
      refine va_get (D := (dC, dI)) (ci := 8) (v := .ref au) (C := RX8) (T := TX8) (N := 16) hx hb hts hiX8 hown hK hP 0 rfl rfl 3 (by decide) v_6 (fun _ h9 => h9) rfl eX8_slotOf_51 ?_
      refine va_get (D := (dC, dI)) (ci := 0) (v := .ref q8) (C := RX0) (T := TX0) (N := 17) hx hb hts hiX0 hown hK hP 1 rfl rfl 8 (by decide) v_7 (fun _ h9 => h9) rfl eX8_slotOf_54 ?_
      refine lv_iload_n hx hb eX8_slotOf_57 rfl (lv_at hl 0 rfl) ?_
      refine va_iald hx hb hK hP 6 4 rfl rfl (vp_in_nI (n := n_2) (by omega) (Nat.le_of_ble_eq_true rfl)) eX8_slotOf_58 ?_
      refine lv_topi (fun y_4 ey_4 => ?_)
      obtain ⟨u_5, hu_5, qu_5, xu_5⟩ := bN_getx 4 q_f8 (n := n_2) (by omega)
      obtain rfl : y_4 = nI u_5 := ey_4.trans qu_5
      have hsp := hsp.trans (slet_eq xu_5)
      refine lv_icmp_lt (tgt := 64) hx hb eX8_slotOf_59 (by decide) (fun c_6 => ?_) (fun c_6 => ?_)
      · have hcc_6 := c_6
        have hsp := hsp.trans (if_pos c_6)
        obtain ⟨n_7, hn_7, rfl⟩ := pu_ult (b := u_5) (by omega) lp1 (c_6)
        have hsp := hsp.trans (slet_eq (nI_cl (n := n_7) (by omega)))
        refine lv_iload_n hx hb eX8_slotOf_64 rfl (lv_at hl 0 rfl) ?_
        refine lv_iload_n hx hb eX8_slotOf_65 rfl (lv_at hl 3 rfl) ?_
        refine va_calli (va_runS (As := [.int (nI n_2), .int (nI n_7)]) (rest := []) ⟨hx, hb, hml, hown, hts⟩ (c_E_0_slot l dC dI _ n_2 n_7 (by omega) (by omega)) (va_cwS 2 hts g_E_8_slotOf_E_0_slot rfl rfl rfl (by decide +kernel) ⟨Nat.le_of_ble_eq_true rfl, Nat.le_of_ble_eq_true rfl⟩) ⟨pu_bl, pu_in (hP.sub [] rfl) (hK.sub [] rfl) (hD.sub [] (by decide) rfl)⟩ rfl rfl hl.1 rfl (lv_room (Nat.le_of_ble_eq_true rfl)) eX8_slotOf_66 ⟨Nat.le_of_ble_eq_true rfl, Nat.le_of_ble_eq_true rfl⟩) hS (fun q _ h => pu_fr hS hA q h) (pu_fr hS hA) (fun r_8 u t H1 locs ht hvm hw hB hz1 hk1 hS => ?_)
        have hP := pu_keep hP hk1
        clear hk1 hz1 ht hvm
        generalize H1 = H at hP hS ⊢
        obtain rfl : r_8 = nI (n_2 * 4 + n_7) := hw
        exact W.iret (v := (nI (n_2 * 4 + n_7))) hx hb hr (fun t ht hW => ⟨⟨(nI (n_2 * 4 + n_7)), (), rfl, ⟨(n_2 * 4 + n_7) + 1, by omega, rfl, (hsp.symm.trans hRR)⟩, trivial⟩, hS.F ht⟩) hS.2.2 eX8_slotOf_69
      · have hcc_6 := c_6
        have hsp := hsp.trans (if_neg c_6)
        refine lv_iconst (v := (-1)) hx hb eX8_slotOf_62 (by decide) ?_
        exact W.iret (v := (-1)) hx hb hr (fun t ht hW => ⟨⟨(-1), (), rfl, ⟨0, by omega, rfl, (hsp.symm.trans hRR)⟩, trivial⟩, hS.F ht⟩) hS.2.2 eX8_slotOf_63
  · have hsp := hsp.trans (if_neg hn)
    refine lv_if_eq (tgt := 15) hx hb eX8_slotOf_7 (by decide) (fun _ => ?_) (fun z => absurd z (by decide))
    by_cases hn1 : (100 : Int32) ≤ p0 ∧ p0 ≤ 107
    · have hsp := hsp.trans (if_pos hn1)
      obtain ⟨n_9, hn_9, rfl⟩ := of_107 hn1
      have hsp := hsp.trans (slet_eq (cl_100 (n := n_9) (by omega)))
      refine lv_iload_n hx hb eX8_slotOf_15 rfl (lv_at hl 2 rfl) ?_
      refine lv_bipush (v := 100) hx hb eX8_slotOf_16 (by decide) ?_
      refine lv_icmp_lt (tgt := 40) hx hb eX8_slotOf_18 (by decide) (fun c_10 => ?_) (fun c_10 => ?_)
      · have c_10 : (100 + n_9) < 100 := (nI_ltI (a := (100 + n_9)) (b := 100) (by omega) (Nat.le_of_ble_eq_true rfl)).mp c_10
        exfalso
        omega
      · have c_10 : ¬ (100 + n_9) < 100 := fun z => c_10 ((nI_ltI (a := (100 + n_9)) (b := 100) (by omega) (Nat.le_of_ble_eq_true rfl)).mpr z)
        refine lv_aload_n hx hb eX8_slotOf_21 rfl (lv_at hl 1 rfl) ?_
        refine lv_iload_n hx hb eX8_slotOf_22 rfl (lv_at hl 2 rfl) ?_
        refine lv_bipush (v := 100) hx hb eX8_slotOf_23 (by decide) ?_
        refine lv_isub hx hb eX8_slotOf_25 ?_
        refine lv_topi (fun y_11 ey_11 => ?_)
        obtain rfl : y_11 = (nI ((100 + n_9) - 100)) := ey_11.trans (pk_sub (a := (100 + n_9)) (b := 100) (by omega))
        have hPc : va_P (dC, dI) vwCl (xo__w xa xtape (nI tp) rd au xdr hy g (nI hs) tg sg (nI ss) rm ti py bu sm (nI nc) (nI np) (nI ne) st0 q4 q5 q6 q7 q8 q9 q10 q11 q12 q13 q14 q15 q16) _ := hP.sub [0, 1] rfl
        have hDc := hD.sub (ws' := (xo__w xa xtape (nI tp) rd au xdr hy g (nI hs) tg sg (nI ss) rm ti py bu sm (nI nc) (nI np) (nI ne) st0 q4 q5 q6 q7 q8 q9 q10 q11 q12 q13 q14 q15 q16)) [0, 1] (by decide) rfl
        have hKc : va_K (dC, dI) vwCl (xo__t ) s := hK.sub [] rfl
        refine va_calli (va_runV (As := [.int (nI ((100 + n_9) - 100))]) (rest := []) ⟨hx, hb, hml, hown, hts⟩ (c_E_8_isPlace_k l dC dI _ xa xtape tp rd au xdr hy g hs tg sg ss rm ti py bu sm nc np ne st0 q4 q5 q6 q7 q8 q9 q10 q11 q12 q13 q14 q15 q16 ((100 + n_9) - 100) htp hhs hss hnc hnp hne (hst0) (by omega)) (cwV 1 hts g_E_8_slotOf_E_8_isPlace_k rfl rfl rfl (by decide +kernel) ⟨Nat.le_of_ble_eq_true rfl, Nat.le_of_ble_eq_true rfl⟩) ⟨pu_bl, va_recv hK hP (ci := 8) (q0 := 0) rfl rfl, pu_in hPc hKc hDc⟩ rfl rfl hl.1 rfl (lv_room (Nat.le_of_ble_eq_true rfl)) eX8_slotOf_26 ⟨Nat.le_of_ble_eq_true rfl, Nat.le_of_ble_eq_true rfl⟩) hS (fun q _ h => pu_fr hS hA q h) (pu_fr hS hA) (fun r_12 u t H1 locs ht hvm hw hB hz1 hk1 hS => ?_)
        have hP := pu_keep hP hk1
        clear hk1 hz1 ht hvm
        generalize H1 = H at hP hS ⊢
        obtain ⟨u_13, hu_13, rfl, iu_13⟩ := hw
        have hsp := hsp.trans (slet_eq iu_13)
        refine lv_if_eq (tgt := 40) hx hb eX8_slotOf_29 (by decide) (fun c_14 => ?_) (fun c_14 => ?_)
        · have c_14 : u_13 = 0 := (nI_eq (a := u_13) (b := 0) (Nat.lt_of_le_of_lt hu_13 (Nat.le_of_ble_eq_true rfl)) (Nat.le_of_ble_eq_true rfl)).mp c_14
          have hsp := hsp.trans (if_pos c_14)
          refine lv_iload_n hx hb eX8_slotOf_40 rfl (lv_at hl 0 rfl) ?_
          refine lv_iconst (v := (-1)) hx hb eX8_slotOf_41 (by decide) ?_
          refine lv_icmp_eq (tgt := 62) hx hb eX8_slotOf_42 (by decide) (fun _ => ?_) (fun z => absurd z (by decide))
          refine lv_iconst (v := (-1)) hx hb eX8_slotOf_62 (by decide) ?_
          exact W.iret (v := (-1)) hx hb hr (fun t ht hW => ⟨⟨(-1), (), rfl, ⟨0, by omega, rfl, (hsp.symm.trans hRR)⟩, trivial⟩, hS.F ht⟩) hS.2.2 eX8_slotOf_63
        · have c_14 : ¬ u_13 = 0 := fun z => c_14 ((nI_eq (a := u_13) (b := 0) (Nat.lt_of_le_of_lt hu_13 (Nat.le_of_ble_eq_true rfl)) (Nat.le_of_ble_eq_true rfl)).mpr z)
          have hsp := hsp.trans (if_neg c_14)
          refine lv_iload_n hx hb eX8_slotOf_32 rfl (lv_at hl 2 rfl) ?_
          refine lv_bipush (v := 100) hx hb eX8_slotOf_33 (by decide) ?_
          refine lv_isub hx hb eX8_slotOf_35 ?_
          refine lv_topi (fun y_15 ey_15 => ?_)
          obtain rfl : y_15 = (nI ((100 + n_9) - 100)) := ey_15.trans (pk_sub (a := (100 + n_9)) (b := 100) (by omega))
          refine va_calli (va_runS (As := [.int (nI ((100 + n_9) - 100))]) (rest := []) ⟨hx, hb, hml, hown, hts⟩ (c_E_0_hostOfPlace l dC dI _ ((100 + n_9) - 100) (by omega)) (va_cwS 1 hts g_E_8_slotOf_E_0_hostOfPlace rfl rfl rfl (by decide +kernel) ⟨Nat.le_of_ble_eq_true rfl, Nat.le_of_ble_eq_true rfl⟩) ⟨pu_bl, pu_in (hP.sub [] rfl) (hK.sub [] rfl) (hD.sub [] (by decide) rfl)⟩ rfl rfl hl.1 rfl (lv_room (Nat.le_of_ble_eq_true rfl)) eX8_slotOf_36 ⟨Nat.le_of_ble_eq_true rfl, Nat.le_of_ble_eq_true rfl⟩) hS (fun q _ h => pu_fr hS hA q h) (pu_fr hS hA) (fun r_16 u t H1 locs ht hvm hw hB hz1 hk1 hS => ?_)
          have hP := pu_keep hP hk1
          clear hk1 hz1 ht hvm
          generalize H1 = H at hP hS ⊢
          obtain rfl : r_16 = nI (14 + ((100 + n_9) - 100)) := hw
          refine lv_istore_n (lv' := [(3, .int (nI (14 + ((100 + n_9) - 100)))), (0, .ref xa), (1, .int (nI (100 + n_9))), (2, .int p1)]) hx hb eX8_slotOf_39 rfl hl (by decide) rfl (fun ls hl => ?_)
          refine lv_iload_n hx hb eX8_slotOf_40 rfl (lv_at hl 0 rfl) ?_
          refine lv_iconst (v := (-1)) hx hb eX8_slotOf_41 (by decide) ?_
          refine lv_icmp_eq (tgt := 62) hx hb eX8_slotOf_42 (by decide) (fun z => absurd z (pu_nneg (n := (14 + ((100 + n_9) - 100))) (by omega) (by decide))) (fun _ => ?_)
          refine lv_iload_n hx hb eX8_slotOf_45 rfl (lv_at hl 3 rfl) ?_
          refine lv_if_lt (tgt := 62) hx hb eX8_slotOf_46 (by decide) (fun c_17 => ?_) (fun c_17 => ?_)
          · have hcc_17 := c_17
            have hsp := hsp.trans (if_pos c_17)
            refine lv_iconst (v := (-1)) hx hb eX8_slotOf_62 (by decide) ?_
            exact W.iret (v := (-1)) hx hb hr (fun t ht hW => ⟨⟨(-1), (), rfl, ⟨0, by omega, rfl, (hsp.symm.trans hRR)⟩, trivial⟩, hS.F ht⟩) hS.2.2 eX8_slotOf_63
          · have hcc_17 := c_17
            have hsp := hsp.trans (if_neg c_17)
            have lp1 : ¬ p1 < 0 := c_17
            refine lv_iload_n hx hb eX8_slotOf_49 rfl (lv_at hl 3 rfl) ?_
            refine lv_aload_n hx hb eX8_slotOf_50 rfl (lv_at hl 1 rfl) ?_
            refine va_get (D := (dC, dI)) (ci := 8) (v := .ref au) (C := RX8) (T := TX8) (N := 16) hx hb hts hiX8 hown hK hP 0 rfl rfl 3 (by decide) v_6 (fun _ h9 => h9) rfl eX8_slotOf_51 ?_
            refine va_get (D := (dC, dI)) (ci := 0) (v := .ref q8) (C := RX0) (T := TX0) (N := 17) hx hb hts hiX0 hown hK hP 1 rfl rfl 8 (by decide) v_7 (fun _ h9 => h9) rfl eX8_slotOf_54 ?_
            refine lv_iload_n hx hb eX8_slotOf_57 rfl (lv_at hl 0 rfl) ?_
            refine va_iald hx hb hK hP 6 4 rfl rfl (vp_in_nI (n := (14 + ((100 + n_9) - 100))) (by omega) (Nat.le_of_ble_eq_true rfl)) eX8_slotOf_58 ?_
            refine lv_topi (fun y_18 ey_18 => ?_)
            obtain ⟨u_19, hu_19, qu_19, xu_19⟩ := bN_getx 4 q_f8 (n := (14 + ((100 + n_9) - 100))) (by omega)
            obtain rfl : y_18 = nI u_19 := ey_18.trans qu_19
            have hsp := hsp.trans (slet_eq xu_19)
            refine lv_icmp_lt (tgt := 64) hx hb eX8_slotOf_59 (by decide) (fun c_20 => ?_) (fun c_20 => ?_)
            · have hcc_20 := c_20
              have hsp := hsp.trans (if_pos c_20)
              obtain ⟨n_21, hn_21, rfl⟩ := pu_ult (b := u_19) (by omega) lp1 (c_20)
              have hsp := hsp.trans (slet_eq (nI_cl (n := n_21) (by omega)))
              refine lv_iload_n hx hb eX8_slotOf_64 rfl (lv_at hl 0 rfl) ?_
              refine lv_iload_n hx hb eX8_slotOf_65 rfl (lv_at hl 3 rfl) ?_
              refine va_calli (va_runS (As := [.int (nI (14 + ((100 + n_9) - 100))), .int (nI n_21)]) (rest := []) ⟨hx, hb, hml, hown, hts⟩ (c_E_0_slot l dC dI _ (14 + ((100 + n_9) - 100)) n_21 (by omega) (by omega)) (va_cwS 2 hts g_E_8_slotOf_E_0_slot rfl rfl rfl (by decide +kernel) ⟨Nat.le_of_ble_eq_true rfl, Nat.le_of_ble_eq_true rfl⟩) ⟨pu_bl, pu_in (hP.sub [] rfl) (hK.sub [] rfl) (hD.sub [] (by decide) rfl)⟩ rfl rfl hl.1 rfl (lv_room (Nat.le_of_ble_eq_true rfl)) eX8_slotOf_66 ⟨Nat.le_of_ble_eq_true rfl, Nat.le_of_ble_eq_true rfl⟩) hS (fun q _ h => pu_fr hS hA q h) (pu_fr hS hA) (fun r_22 u t H1 locs ht hvm hw hB hz1 hk1 hS => ?_)
              have hP := pu_keep hP hk1
              clear hk1 hz1 ht hvm
              generalize H1 = H at hP hS ⊢
              obtain rfl : r_22 = nI ((14 + ((100 + n_9) - 100)) * 4 + n_21) := hw
              exact W.iret (v := (nI ((14 + ((100 + n_9) - 100)) * 4 + n_21))) hx hb hr (fun t ht hW => ⟨⟨(nI ((14 + ((100 + n_9) - 100)) * 4 + n_21)), (), rfl, ⟨((14 + ((100 + n_9) - 100)) * 4 + n_21) + 1, by omega, rfl, (hsp.symm.trans hRR)⟩, trivial⟩, hS.F ht⟩) hS.2.2 eX8_slotOf_69
            · have hcc_20 := c_20
              have hsp := hsp.trans (if_neg c_20)
              refine lv_iconst (v := (-1)) hx hb eX8_slotOf_62 (by decide) ?_
              exact W.iret (v := (-1)) hx hb hr (fun t ht hW => ⟨⟨(-1), (), rfl, ⟨0, by omega, rfl, (hsp.symm.trans hRR)⟩, trivial⟩, hS.F ht⟩) hS.2.2 eX8_slotOf_63
    · have hsp := hsp.trans (if_neg hn1)
      refine lv_iload_n hx hb eX8_slotOf_15 rfl (lv_at hl 2 rfl) ?_
      refine lv_bipush (v := 100) hx hb eX8_slotOf_16 (by decide) ?_
      refine lv_icmp_lt (tgt := 40) hx hb eX8_slotOf_18 (by decide) (fun c_23 => ?_) (fun c_23 => ?_)
      · have hcc_23 := c_23
        have hsp := hsp.trans (if_pos c_23)
        refine lv_iload_n hx hb eX8_slotOf_40 rfl (lv_at hl 0 rfl) ?_
        refine lv_iconst (v := (-1)) hx hb eX8_slotOf_41 (by decide) ?_
        refine lv_icmp_eq (tgt := 62) hx hb eX8_slotOf_42 (by decide) (fun _ => ?_) (fun z => absurd z (by decide))
        refine lv_iconst (v := (-1)) hx hb eX8_slotOf_62 (by decide) ?_
        exact W.iret (v := (-1)) hx hb hr (fun t ht hW => ⟨⟨(-1), (), rfl, ⟨0, by omega, rfl, (hsp.symm.trans hRR)⟩, trivial⟩, hS.F ht⟩) hS.2.2 eX8_slotOf_63
      · have hcc_23 := c_23
        have hsp := hsp.trans (if_neg c_23)
        refine lv_aload_n hx hb eX8_slotOf_21 rfl (lv_at hl 1 rfl) ?_
        refine lv_iload_n hx hb eX8_slotOf_22 rfl (lv_at hl 2 rfl) ?_
        refine lv_bipush (v := 100) hx hb eX8_slotOf_23 (by decide) ?_
        refine lv_isub hx hb eX8_slotOf_25 ?_
        refine lv_topi (fun y_24 ey_24 => ?_)
        have hsp := hsp.trans (slet_eq ey_24)
        have hPc : va_P (dC, dI) vwCl (xo__w xa xtape (nI tp) rd au xdr hy g (nI hs) tg sg (nI ss) rm ti py bu sm (nI nc) (nI np) (nI ne) st0 q4 q5 q6 q7 q8 q9 q10 q11 q12 q13 q14 q15 q16) _ := hP.sub [0, 1] rfl
        have hDc := hD.sub (ws' := (xo__w xa xtape (nI tp) rd au xdr hy g (nI hs) tg sg (nI ss) rm ti py bu sm (nI nc) (nI np) (nI ne) st0 q4 q5 q6 q7 q8 q9 q10 q11 q12 q13 q14 q15 q16)) [0, 1] (by decide) rfl
        have hKc : va_K (dC, dI) vwCl (xo__t ) s := hK.sub [] rfl
        refine va_calli (va_runV (As := [.int y_24]) (rest := []) ⟨hx, hb, hml, hown, hts⟩ (c_E_8_isPlace l dC dI _ xa xtape tp rd au xdr hy g hs tg sg ss rm ti py bu sm nc np ne st0 q4 q5 q6 q7 q8 q9 q10 q11 q12 q13 q14 q15 q16 y_24 htp hhs hss hnc hnp hne (hst0)) (cwV 1 hts g_E_8_slotOf_E_8_isPlace rfl rfl rfl (by decide +kernel) ⟨Nat.le_of_ble_eq_true rfl, Nat.le_of_ble_eq_true rfl⟩) ⟨pu_bl, va_recv hK hP (ci := 8) (q0 := 0) rfl rfl, pu_in hPc hKc hDc⟩ rfl rfl hl.1 rfl (lv_room (Nat.le_of_ble_eq_true rfl)) eX8_slotOf_26 ⟨Nat.le_of_ble_eq_true rfl, Nat.le_of_ble_eq_true rfl⟩) hS (fun q _ h => pu_fr hS hA q h) (pu_fr hS hA) (fun r_25 u t H1 locs ht hvm hw hB hz1 hk1 hS => ?_)
        have hP := pu_keep hP hk1
        clear hk1 hz1 ht hvm
        generalize H1 = H at hP hS ⊢
        rcases hw with ⟨rfl, hw⟩ | ⟨rfl, hn⟩
        · obtain ⟨n_26, hn_26, rfl⟩ := hw
          have hsp := hsp.trans (if_pos (in_q hn_26 (by omega)))
          have hsp := hsp.trans (slet_eq (nI_cl (n := n_26) (by omega)))
          exact absurd (to_107 (by omega) (pu_p100 ey_24)) hn1
        · have hsp := hsp.trans (if_neg hn)
          refine lv_if_eq (tgt := 40) hx hb eX8_slotOf_29 (by decide) (fun _ => ?_) (fun z => absurd z (by decide))
          refine lv_iload_n hx hb eX8_slotOf_40 rfl (lv_at hl 0 rfl) ?_
          refine lv_iconst (v := (-1)) hx hb eX8_slotOf_41 (by decide) ?_
          refine lv_icmp_eq (tgt := 62) hx hb eX8_slotOf_42 (by decide) (fun _ => ?_) (fun z => absurd z (by decide))
          refine lv_iconst (v := (-1)) hx hb eX8_slotOf_62 (by decide) ?_
          exact W.iret (v := (-1)) hx hb hr (fun t ht hW => ⟨⟨(-1), (), rfl, ⟨0, by omega, rfl, (hsp.symm.trans hRR)⟩, trivial⟩, hS.F ht⟩) hS.2.2 eX8_slotOf_63
