theorem eX8_waits_0 : decode cX8_waits 0 = .ok (.aload_n 0, 1) := by decide +kernel
theorem eX8_waits_1 : decode cX8_waits 1 = .ok (.getfield 69, 3) := by decide +kernel
theorem eX8_waits_4 : decode cX8_waits 4 = .ok (.getfield 107, 3) := by decide +kernel
theorem eX8_waits_7 : decode cX8_waits 7 = .ok (.ifCond .eq 29, 3) := by decide +kernel
theorem eX8_waits_10 : decode cX8_waits 10 = .ok (.iload_n 1, 1) := by decide +kernel
theorem eX8_waits_11 : decode cX8_waits 11 = .ok (.ifCond .lt 25, 3) := by decide +kernel
theorem eX8_waits_14 : decode cX8_waits 14 = .ok (.iload_n 1, 1) := by decide +kernel
theorem eX8_waits_15 : decode cX8_waits 15 = .ok (.sipush 25600, 3) := by decide +kernel
theorem eX8_waits_18 : decode cX8_waits 18 = .ok (.if_icmp .gt 18, 3) := by decide +kernel
theorem eX8_waits_21 : decode cX8_waits 21 = .ok (.iload_n 1, 1) := by decide +kernel
theorem eX8_waits_22 : decode cX8_waits 22 = .ok (.aload_n 0, 1) := by decide +kernel
theorem eX8_waits_23 : decode cX8_waits 23 = .ok (.getfield 69, 3) := by decide +kernel
theorem eX8_waits_26 : decode cX8_waits 26 = .ok (.aload_n 0, 1) := by decide +kernel
theorem eX8_waits_27 : decode cX8_waits 27 = .ok (.getfield 23, 3) := by decide +kernel
theorem eX8_waits_30 : decode cX8_waits 30 = .ok (.invokevirtual 367, 3) := by decide +kernel
theorem eX8_waits_33 : decode cX8_waits 33 = .ok (.if_icmp .le 5, 3) := by decide +kernel
theorem eX8_waits_36 : decode cX8_waits 36 = .ok (.iconst 0, 1) := by decide +kernel
theorem eX8_waits_37 : decode cX8_waits 37 = .ok (.ireturn, 1) := by decide +kernel
theorem eX8_waits_38 : decode cX8_waits 38 = .ok (.aload_n 0, 1) := by decide +kernel
theorem eX8_waits_39 : decode cX8_waits 39 = .ok (.getfield 69, 3) := by decide +kernel
theorem eX8_waits_42 : decode cX8_waits 42 = .ok (.iload_n 1, 1) := by decide +kernel
theorem eX8_waits_43 : decode cX8_waits 43 = .ok (.invokevirtual 371, 3) := by decide +kernel
theorem eX8_waits_46 : decode cX8_waits 46 = .ok (.iconst 1, 1) := by decide +kernel
theorem eX8_waits_47 : decode cX8_waits 47 = .ok (.ireturn, 1) := by decide +kernel
abbrev vs_E_8_waits : List Cond := .code yX8_waits cX8_waits 2 (some .boolean) :: CM
theorem g_E_8_waits_E_3_longestWait : GoodIn vs_E_8_waits (wsV RX8 367 RX3 yX3_longestWait vs_E_3_longestWait) := cm_gV cm_647 cm_207 cm_208 cm_204 cm_181
theorem g_E_8_waits_E_3_pass : GoodIn vs_E_8_waits (wsV RX8 371 RX3 yX3_pass vs_E_3_pass) := cm_gV cm_648 cm_210 cm_211 cm_204 cm_192
noncomputable def sp_E_8_waits (f4 : Nat → Int32) (q_f8 : Nat → Nat) (q_f9 : Nat → Nat) (f12 : Nat → Int32) (on : Nat) (si : Nat) (ti0 : Int32) (ftm : Nat → Int32) (p0 : Int32) : Nat × (Nat → Int32) × Int32 := (if on = 0 then (0, ftm, ti0) else (if (p0 : Int32) < 0 then (0, ftm, ti0) else (if (25600 : Int32) < p0 then (0, ftm, ti0) else (slet ((p0 : Int32).toNatClampNeg) (fun n_4 => (slet (sp_E_3_longestWait si ftm f4 q_f8 q_f9 f12) (fun r_5 => (if ((nI n_4) : Int32) ≤ r_5 then (slet (sp_E_3_pass ti0 ftm (nI n_4)) (fun (z_ftm_8, z_ti_9) => (1, z_ftm_8, z_ti_9))) else (0, ftm, ti0)))))))))
set_option maxHeartbeats 4000000 in
set_option maxRecDepth 100000 in
theorem c_E_8_waits (l : Launch) (dC : Nat → ClassId) (dI : Nat → Nat → Nat) (sz : Nat) (xa : Nat) (xtape : Nat) (tp : Nat) (rd : Nat) (au : Nat) (xdr : Nat) (hy : Nat) (g : Nat) (hs : Nat) (tg : Nat) (sg : Nat) (ss : Nat) (rm : Nat) (ti : Nat) (py : Nat) (bu : Nat) (sm : Nat) (nc : Nat) (np : Nat) (ne : Nat) (st0 : Int32) (q4 : Nat) (q5 : Nat) (q6 : Nat) (q7 : Nat) (q8 : Nat) (q9 : Nat) (q10 : Nat) (q11 : Nat) (q12 : Nat) (q13 : Nat) (q14 : Nat) (q15 : Nat) (q16 : Nat) (k_f4 : ClassId) (f4 : Nat → Int32) (k_f5 : ClassId) (q_f5 : Nat → Nat) (k_f6 : ClassId) (q_f6 : Nat → Nat) (k_f7 : ClassId) (f7 : Nat → Int32) (k_f8 : ClassId) (q_f8 : Nat → Nat) (k_f9 : ClassId) (q_f9 : Nat → Nat) (k_f10 : ClassId) (f10 : Nat → Int32) (k_f11 : ClassId) (f11 : Nat → Int32) (k_f12 : ClassId) (f12 : Nat → Int32) (k_f13 : ClassId) (f13 : Nat → Int32) (k_f14 : ClassId) (f14 : Nat → Int32) (k_f15 : ClassId) (f15 : Nat → Int32) (k_f16 : ClassId) (f16 : Nat → Int32) (on : Nat) (si : Nat) (ti0 : Int32) (tm : Nat) (bh : Nat) (k_ftm : ClassId) (ftm : Nat → Int32) (k_fbh : ClassId) (fbh : Nat → Int32) (p0 : Int32) (htp : tp ≤ 900) (hhs : hs ≤ 1) (hss : ss ≤ 1) (hnc : nc ≤ 3) (hnp : np ≤ 8) (hne : ne ≤ 14) (hst0 : pm1 7 st0) (hon : on ≤ 1) (hsi : si ≤ 7) : Met l yX8_waits vs_E_8_waits ({ frames := 2, cells := 0, slots := 0, locals := 46 }) (va_Pc [.ref xa, .int p0] (pu_B (dC, dI) (xy__w xa xtape (nI tp) rd au xdr hy g (nI hs) tg sg (nI ss) rm ti py bu sm (nI nc) (nI np) (nI ne) st0 q4 q5 q6 q7 q8 q9 q10 q11 q12 q13 q14 q15 q16 k_f4 f4 k_f5 (bN 7 q_f5) k_f6 (bN 7 q_f6) k_f7 f7 k_f8 (bN 4 q_f8) k_f9 (bN 2 q_f9) k_f10 f10 k_f11 f11 k_f12 f12 k_f13 f13 k_f14 f14 k_f15 f15 k_f16 f16 (nI on) (nI si) ti0 tm bh k_ftm ftm k_fbh fbh) (xy__t k_f4 k_f5 k_f6 k_f7 k_f8 k_f9 k_f10 k_f11 k_f12 k_f13 k_f14 k_f15 k_f16 k_ftm k_fbh) sz)) (va_Qi (fun (r : Int32) (_ : Unit) => ∃ v : Nat, v ≤ 1 ∧ r = nI v ∧ v = (sp_E_8_waits f4 q_f8 q_f9 f12 on si ti0 ftm p0).1) (fun _ t => ∃ (z_ftm : Nat → Int32) (z_ti0 : Int32), pu_E (dC, dI) (xy__w xa xtape (nI tp) rd au xdr hy g (nI hs) tg sg (nI ss) rm ti py bu sm (nI nc) (nI np) (nI ne) st0 q4 q5 q6 q7 q8 q9 q10 q11 q12 q13 q14 q15 q16 k_f4 f4 k_f5 (bN 7 q_f5) k_f6 (bN 7 q_f6) k_f7 f7 k_f8 (bN 4 q_f8) k_f9 (bN 2 q_f9) k_f10 f10 k_f11 f11 k_f12 f12 k_f13 f13 k_f14 f14 k_f15 f15 k_f16 f16 (nI on) (nI si) z_ti0 tm bh k_ftm z_ftm k_fbh fbh) (xy__t k_f4 k_f5 k_f6 k_f7 k_f8 k_f9 k_f10 k_f11 k_f12 k_f13 k_f14 k_f15 k_f16 k_ftm k_fbh) (va_A ((xy__w xa xtape (nI tp) rd au xdr hy g (nI hs) tg sg (nI ss) rm ti py bu sm (nI nc) (nI np) (nI ne) st0 q4 q5 q6 q7 q8 q9 q10 q11 q12 q13 q14 q15 q16 k_f4 f4 k_f5 (bN 7 q_f5) k_f6 (bN 7 q_f6) k_f7 f7 k_f8 (bN 4 q_f8) k_f9 (bN 2 q_f9) k_f10 f10 k_f11 f11 k_f12 f12 k_f13 f13 k_f14 f14 k_f15 f15 k_f16 f16 (nI on) (nI si) ti0 tm bh k_ftm ftm k_fbh fbh)) sz) t ∧ ((z_ftm, z_ti0) = (sp_E_8_waits f4 q_f8 q_f9 f12 on si ti0 ftm p0).2)) (va_A ((xy__w xa xtape (nI tp) rd au xdr hy g (nI hs) tg sg (nI ss) rm ti py bu sm (nI nc) (nI np) (nI ne) st0 q4 q5 q6 q7 q8 q9 q10 q11 q12 q13 q14 q15 q16 k_f4 f4 k_f5 (bN 7 q_f5) k_f6 (bN 7 q_f6) k_f7 f7 k_f8 (bN 4 q_f8) k_f9 (bN 2 q_f9) k_f10 f10 k_f11 f11 k_f12 f12 k_f13 f13 k_f14 f14 k_f15 f15 k_f16 f16 (nI on) (nI si) ti0 tm bh k_ftm ftm k_fbh fbh)) sz)) 0 0 (va_A ((xy__w xa xtape (nI tp) rd au xdr hy g (nI hs) tg sg (nI ss) rm ti py bu sm (nI nc) (nI np) (nI ne) st0 q4 q5 q6 q7 q8 q9 q10 q11 q12 q13 q14 q15 q16 k_f4 f4 k_f5 (bN 7 q_f5) k_f6 (bN 7 q_f6) k_f7 f7 k_f8 (bN 4 q_f8) k_f9 (bN 2 q_f9) k_f10 f10 k_f11 f11 k_f12 f12 k_f13 f13 k_f14 f14 k_f15 f15 k_f16 f16 (nI on) (nI si) ti0 tm bh k_ftm ftm k_fbh fbh)) sz) := by
  refine Met.ofW (cc := cX8_waits) (maxL := 2) (ret := (some .boolean)) (by decide) rfl ?_
  intro p e s m args below meth c s₁ B hml hv
  obtain ⟨rfl, rfl, hP, hK, hD0⟩ := hv
  have hx := B.exec
  have hb := B.bytes
  have hr := B.returns
  have hts := atoms_spec (ws := vs_E_8_waits) B.pre
  have v_1 := hts (.fieldLink RX8 69 "ClockReach" "play" "LClockReach$Play;") (List.mem_cons_of_mem _ cm_447)
  have v_2 := hts (.fieldLink RX8 107 "ClockReach$Play" "on" "Z") (List.mem_cons_of_mem _ cm_448)
  have v_3 := hts (.fieldLink RX8 23 "ClockReach" "model" "LClockReach$Automaton;") (List.mem_cons_of_mem _ cm_434)
  have hown : s.vm.findClass RX8 = some m.cls := findClass_of_methodNamed B.named
  have hlocks := B.notSynchronized
  have hiX3 : ∀ w ∈ wsX30, w ∈ vs_E_8_waits := fun _ h => List.mem_cons_of_mem _ (cm_X3 h)
  have hiX8 : ∀ w ∈ wsX80, w ∈ vs_E_8_waits := fun _ h => List.mem_cons_of_mem _ (cm_X8 h)
  have hD := hD0.self (sz := s.heap.size)
  generalize hAe : va_A ((xy__w xa xtape (nI tp) rd au xdr hy g (nI hs) tg sg (nI ss) rm ti py bu sm (nI nc) (nI np) (nI ne) st0 q4 q5 q6 q7 q8 q9 q10 q11 q12 q13 q14 q15 q16 k_f4 f4 k_f5 (bN 7 q_f5) k_f6 (bN 7 q_f6) k_f7 f7 k_f8 (bN 4 q_f8) k_f9 (bN 2 q_f9) k_f10 f10 k_f11 f11 k_f12 f12 k_f13 f13 k_f14 f14 k_f15 f15 k_f16 f16 (nI on) (nI si) ti0 tm bh k_ftm ftm k_fbh fbh)) s.heap.size = A at hD ⊢
  have hA : ∀ q : Nat, s.heap.size ≤ q → A q := fun q h => by rw [← hAe]; exact Or.inr h
  have hS : va_S A s.heap s.heap [] := va_S.rf
  have hl := lv_entry ([.ref xa, .int p0]) (n := 2) (Nat.le_of_ble_eq_true rfl)
  rw [lg_entry_eq]
  generalize (lg_sl ([.ref xa, .int p0]) ++ List.replicate (2 - (lg_sl ([.ref xa, .int p0])).length) Slot.unset).toArray = ls at hl ⊢
  have hl : lv_has ls 2 [(0, .ref xa), (1, .int p0)] := hl
  obtain ⟨RR, hRR⟩ : ∃ x, x = (sp_E_8_waits f4 q_f8 q_f9 f12 on si ti0 ftm p0) := ⟨_, rfl⟩
  have hsp := hRR
  refine lv_aload_n hx hb eX8_waits_0 rfl (lv_at hl 0 rfl) ?_
  refine va_get (D := (dC, dI)) (ci := 8) (v := .ref py) (C := RX8) (T := TX8) (N := 16) hx hb hts hiX8 hown hK hP 0 rfl rfl 13 (by decide) v_1 (fun _ h9 => h9) rfl eX8_waits_1 ?_
  refine va_get (D := (dC, dI)) (ci := 3) (v := .int (nI on)) (C := RX3) (T := TX3) (N := 5) hx hb hts hiX3 hown hK hP 15 rfl rfl 0 (by decide) v_2 (fun _ h9 => h9) rfl eX8_waits_4 ?_
  refine lv_if_eq (tgt := 36) hx hb eX8_waits_7 (by decide) (fun c_1 => ?_) (fun c_1 => ?_)
  · have c_1 : on = 0 := (nI_eq (a := on) (b := 0) (Nat.lt_of_le_of_lt hon (Nat.le_of_ble_eq_true rfl)) (Nat.le_of_ble_eq_true rfl)).mp c_1
    have hsp := hsp.trans (if_pos c_1)
    refine lv_iconst (v := 0) hx hb eX8_waits_36 (by decide) ?_
    exact W.zret (v := 0) (ty := .boolean) hx hb hr (rfl) (fun t ht hW => ⟨⟨0, (), rfl, ⟨0, (Nat.le_of_ble_eq_true rfl), rfl, (congrArg Prod.fst (hsp.symm.trans hRR))⟩, ⟨ftm, ti0, ⟨by rw [ht]; exact hP, va_K.moved hW.alike hK, hD⟩, (congrArg Prod.snd (hsp.symm.trans hRR))⟩⟩, hS.F ht⟩) hS.2.2 eX8_waits_37
  · have c_1 : ¬ on = 0 := fun z => c_1 ((nI_eq (a := on) (b := 0) (Nat.lt_of_le_of_lt hon (Nat.le_of_ble_eq_true rfl)) (Nat.le_of_ble_eq_true rfl)).mpr z)
    have hsp := hsp.trans (if_neg c_1)
    refine lv_iload_n hx hb eX8_waits_10 rfl (lv_at hl 1 rfl) ?_
    refine lv_if_lt (tgt := 36) hx hb eX8_waits_11 (by decide) (fun c_2 => ?_) (fun c_2 => ?_)
    · have hcc_2 := c_2
      have hsp := hsp.trans (if_pos c_2)
      refine lv_iconst (v := 0) hx hb eX8_waits_36 (by decide) ?_
      exact W.zret (v := 0) (ty := .boolean) hx hb hr (rfl) (fun t ht hW => ⟨⟨0, (), rfl, ⟨0, (Nat.le_of_ble_eq_true rfl), rfl, (congrArg Prod.fst (hsp.symm.trans hRR))⟩, ⟨ftm, ti0, ⟨by rw [ht]; exact hP, va_K.moved hW.alike hK, hD⟩, (congrArg Prod.snd (hsp.symm.trans hRR))⟩⟩, hS.F ht⟩) hS.2.2 eX8_waits_37
    · have hcc_2 := c_2
      have hsp := hsp.trans (if_neg c_2)
      have lp0 : ¬ p0 < 0 := c_2
      refine lv_iload_n hx hb eX8_waits_14 rfl (lv_at hl 1 rfl) ?_
      refine lv_sipush (v := 25600) hx hb eX8_waits_15 (by decide) ?_
      refine lv_icmp_gt (tgt := 36) hx hb eX8_waits_18 (by decide) (fun c_3 => ?_) (fun c_3 => ?_)
      · have hcc_3 := c_3
        have hsp := hsp.trans (if_pos c_3)
        refine lv_iconst (v := 0) hx hb eX8_waits_36 (by decide) ?_
        exact W.zret (v := 0) (ty := .boolean) hx hb hr (rfl) (fun t ht hW => ⟨⟨0, (), rfl, ⟨0, (Nat.le_of_ble_eq_true rfl), rfl, (congrArg Prod.fst (hsp.symm.trans hRR))⟩, ⟨ftm, ti0, ⟨by rw [ht]; exact hP, va_K.moved hW.alike hK, hD⟩, (congrArg Prod.snd (hsp.symm.trans hRR))⟩⟩, hS.F ht⟩) hS.2.2 eX8_waits_37
      · have hcc_3 := c_3
        have hsp := hsp.trans (if_neg c_3)
        obtain ⟨n_4, hn_4, rfl⟩ := pu_ule (b := 25600) (by omega) lp0 (Int32.not_lt.mp c_3)
        have hsp := hsp.trans (slet_eq (nI_cl (n := n_4) (by omega)))
        refine lv_iload_n hx hb eX8_waits_21 rfl (lv_at hl 1 rfl) ?_
        refine lv_aload_n hx hb eX8_waits_22 rfl (lv_at hl 0 rfl) ?_
        refine va_get (D := (dC, dI)) (ci := 8) (v := .ref py) (C := RX8) (T := TX8) (N := 16) hx hb hts hiX8 hown hK hP 0 rfl rfl 13 (by decide) v_1 (fun _ h9 => h9) rfl eX8_waits_23 ?_
        refine lv_aload_n hx hb eX8_waits_26 rfl (lv_at hl 0 rfl) ?_
        refine va_get (D := (dC, dI)) (ci := 8) (v := .ref au) (C := RX8) (T := TX8) (N := 16) hx hb hts hiX8 hown hK hP 0 rfl rfl 3 (by decide) v_3 (fun _ h9 => h9) rfl eX8_waits_27 ?_
        have hPc : va_P (dC, dI) vwCl (pa__w py (nI on) (nI si) ti0 tm bh k_ftm ftm k_fbh fbh au (nI nc) (nI np) (nI ne) st0 q4 q5 q6 q7 q8 q9 q10 q11 q12 q13 q14 q15 q16 k_f4 f4 k_f5 (bN 7 q_f5) k_f6 (bN 7 q_f6) k_f7 f7 k_f8 (bN 4 q_f8) k_f9 (bN 2 q_f9) k_f10 f10 k_f11 f11 k_f12 f12 k_f13 f13 k_f14 f14 k_f15 f15 k_f16 f16) _ := hP.sub [15, 16, 17, 1, 2, 3, 4, 5, 6, 7, 8, 9, 10, 11, 12, 13, 14] rfl
        have hDc := hD.sub (ws' := (pa__w py (nI on) (nI si) ti0 tm bh k_ftm ftm k_fbh fbh au (nI nc) (nI np) (nI ne) st0 q4 q5 q6 q7 q8 q9 q10 q11 q12 q13 q14 q15 q16 k_f4 f4 k_f5 (bN 7 q_f5) k_f6 (bN 7 q_f6) k_f7 f7 k_f8 (bN 4 q_f8) k_f9 (bN 2 q_f9) k_f10 f10 k_f11 f11 k_f12 f12 k_f13 f13 k_f14 f14 k_f15 f15 k_f16 f16)) [15, 16, 17, 1, 2, 3, 4, 5, 6, 7, 8, 9, 10, 11, 12, 13, 14] (by decide) rfl
        have hKc : va_K (dC, dI) vwCl (pa__t k_ftm k_fbh k_f4 k_f5 k_f6 k_f7 k_f8 k_f9 k_f10 k_f11 k_f12 k_f13 k_f14 k_f15 k_f16) s := hK.sub [13, 14, 0, 1, 2, 3, 4, 5, 6, 7, 8, 9, 10, 11, 12] rfl
        refine va_calli (va_runV (As := [.ref au]) (rest := [.int (nI n_4)]) ⟨hx, hb, hml, hown, hts⟩ (c_E_3_longestWait l dC dI _ py on si ti0 tm bh k_ftm ftm k_fbh fbh au nc np ne st0 q4 q5 q6 q7 q8 q9 q10 q11 q12 q13 q14 q15 q16 k_f4 f4 k_f5 q_f5 k_f6 q_f6 k_f7 f7 k_f8 q_f8 k_f9 q_f9 k_f10 f10 k_f11 f11 k_f12 f12 k_f13 f13 k_f14 f14 k_f15 f15 k_f16 f16 hon hsi hnc hnp hne (hst0)) (cwV 1 hts g_E_8_waits_E_3_longestWait rfl rfl rfl (by decide +kernel) ⟨Nat.le_of_ble_eq_true rfl, Nat.le_of_ble_eq_true rfl⟩) ⟨pu_bl, va_recv hK hP (ci := 3) (q0 := 15) rfl rfl, pu_in hPc hKc hDc⟩ rfl rfl hl.1 rfl (lv_room (Nat.le_of_ble_eq_true rfl)) eX8_waits_30 ⟨Nat.le_of_ble_eq_true rfl, Nat.le_of_ble_eq_true rfl⟩) hS (fun q _ h => pu_fr hS hA q h) (pu_fr hS hA) (fun r_5 u t H1 locs ht hvm hw hB hz1 hk1 hS => ?_)
        have hP := pu_keep hP hk1
        clear hk1 hz1 ht hvm
        generalize H1 = H at hP hS ⊢
        have ir_5 := hw
        have hsp := hsp.trans (slet_eq ir_5)
        refine lv_icmp_le (tgt := 38) hx hb eX8_waits_33 (by decide) (fun c_6 => ?_) (fun c_6 => ?_)
        · have hcc_6 := c_6
          have hsp := hsp.trans (if_pos c_6)
          refine lv_aload_n hx hb eX8_waits_38 rfl (lv_at hl 0 rfl) ?_
          refine va_get (D := (dC, dI)) (ci := 8) (v := .ref py) (C := RX8) (T := TX8) (N := 16) hx hb hts hiX8 hown hK hP 0 rfl rfl 13 (by decide) v_1 (fun _ h9 => h9) rfl eX8_waits_39 ?_
          refine lv_iload_n hx hb eX8_waits_42 rfl (lv_at hl 1 rfl) ?_
          have hPc : va_P (dC, dI) vwCl (py__w py (nI on) (nI si) ti0 tm bh k_ftm ftm k_fbh fbh) _ := hP.sub [15, 16, 17] rfl
          have hDc := hD.sub (ws' := (py__w py (nI on) (nI si) ti0 tm bh k_ftm ftm k_fbh fbh)) [15, 16, 17] (by decide) rfl
          have hKc : va_K (dC, dI) vwCl (py__t k_ftm k_fbh) s := hK.sub [13, 14] rfl
          have hFc := pu_free hDc hS hA
          refine va_callv (va_runV (As := [.int (nI n_4)]) (rest := []) ⟨hx, hb, hml, hown, hts⟩ (c_E_3_pass l dC dI _ py on si ti0 tm bh k_ftm ftm k_fbh fbh (nI n_4) hon hsi) (cwV 1 hts g_E_8_waits_E_3_pass rfl rfl rfl (by decide +kernel) ⟨Nat.le_of_ble_eq_true rfl, Nat.le_of_ble_eq_true rfl⟩) ⟨pu_bl, va_recv hK hP (ci := 3) (q0 := 15) rfl rfl, pu_in hPc hKc hDc⟩ rfl rfl hl.1 rfl (lv_room (Nat.le_of_ble_eq_true rfl)) eX8_waits_43 ⟨Nat.le_of_ble_eq_true rfl, Nat.le_of_ble_eq_true rfl⟩) hS (fun q _ h => hFc q h) hFc (fun u t H1 locs ht hvm hw hB hz1 hk1 hS => ?_)
          obtain ⟨z_ftm_8, z_ti_9, ⟨hP1, -, hD1⟩, xr_7_0⟩ := hB
          rw [ht] at hP1
          obtain ⟨hP, hD⟩ := pj_a (X := (xy__w xa xtape (nI tp) rd au xdr hy g (nI hs) tg sg (nI ss) rm ti py bu sm (nI nc) (nI np) (nI ne) st0 q4 q5 q6 q7 q8 q9 q10 q11 q12 q13 q14 q15 q16 k_f4 f4 k_f5 (bN 7 q_f5) k_f6 (bN 7 q_f6) k_f7 f7 k_f8 (bN 4 q_f8) k_f9 (bN 2 q_f9) k_f10 f10 k_f11 f11 k_f12 f12 k_f13 f13 k_f14 f14 k_f15 f15 k_f16 f16 (nI on) (nI si) ti0 tm bh k_ftm ftm k_fbh fbh)) (X' := (xy__w xa xtape (nI tp) rd au xdr hy g (nI hs) tg sg (nI ss) rm ti py bu sm (nI nc) (nI np) (nI ne) st0 q4 q5 q6 q7 q8 q9 q10 q11 q12 q13 q14 q15 q16 k_f4 f4 k_f5 (bN 7 q_f5) k_f6 (bN 7 q_f6) k_f7 f7 k_f8 (bN 4 q_f8) k_f9 (bN 2 q_f9) k_f10 f10 k_f11 f11 k_f12 f12 k_f13 f13 k_f14 f14 k_f15 f15 k_f16 f16 (nI on) (nI si) z_ti_9 tm bh k_ftm z_ftm_8 k_fbh fbh)) (wc := (py__w py (nI on) (nI si) ti0 tm bh k_ftm ftm k_fbh fbh)) (w1 := (py__w py (nI on) (nI si) z_ti_9 tm bh k_ftm z_ftm_8 k_fbh fbh)) hP hD [15, 16, 17] [3, 4, 5, 6, 7, 8, 9, 10, 11, 12, 13, 14, 15, 16, 17, 0, 1, 2] 3 rfl hk1 hP1 rfl rfl rfl (by decide)
          clear hP1 hD1 hFc hPc hDc hKc
          clear hk1 hz1 ht hvm
          generalize H1 = H at hP hS ⊢
          have hsp := hsp.trans (slet_eq xr_7_0)
          refine lv_iconst (v := 1) hx hb eX8_waits_46 (by decide) ?_
          exact W.zret (v := 1) (ty := .boolean) hx hb hr (rfl) (fun t ht hW => ⟨⟨1, (), rfl, ⟨1, (Nat.le_of_ble_eq_true rfl), rfl, (congrArg Prod.fst (hsp.symm.trans hRR))⟩, ⟨z_ftm_8, z_ti_9, ⟨by rw [ht]; exact hP, va_K.moved hW.alike hK, hD⟩, (congrArg Prod.snd (hsp.symm.trans hRR))⟩⟩, hS.F ht⟩) hS.2.2 eX8_waits_47
        · have hcc_6 := c_6
          have hsp := hsp.trans (if_neg c_6)
          refine lv_iconst (v := 0) hx hb eX8_waits_36 (by decide) ?_
          exact W.zret (v := 0) (ty := .boolean) hx hb hr (rfl) (fun t ht hW => ⟨⟨0, (), rfl, ⟨0, (Nat.le_of_ble_eq_true rfl), rfl, (congrArg Prod.fst (hsp.symm.trans hRR))⟩, ⟨ftm, ti0, ⟨by rw [ht]; exact hP, va_K.moved hW.alike hK, hD⟩, (congrArg Prod.snd (hsp.symm.trans hRR))⟩⟩, hS.F ht⟩) hS.2.2 eX8_waits_37
theorem eX8_takes_0 : decode cX8_takes 0 = .ok (.aload_n 0, 1) := by decide +kernel
theorem eX8_takes_1 : decode cX8_takes 1 = .ok (.getfield 69, 3) := by decide +kernel
theorem eX8_takes_4 : decode cX8_takes 4 = .ok (.getfield 107, 3) := by decide +kernel
theorem eX8_takes_7 : decode cX8_takes 7 = .ok (.ifCond .eq 26, 3) := by decide +kernel
theorem eX8_takes_10 : decode cX8_takes 10 = .ok (.aload_n 0, 1) := by decide +kernel
theorem eX8_takes_11 : decode cX8_takes 11 = .ok (.iload_n 1, 1) := by decide +kernel
theorem eX8_takes_12 : decode cX8_takes 12 = .ok (.invokevirtual 165, 3) := by decide +kernel
theorem eX8_takes_15 : decode cX8_takes 15 = .ok (.ifCond .eq 18, 3) := by decide +kernel
theorem eX8_takes_18 : decode cX8_takes 18 = .ok (.aload_n 0, 1) := by decide +kernel
theorem eX8_takes_19 : decode cX8_takes 19 = .ok (.getfield 69, 3) := by decide +kernel
theorem eX8_takes_22 : decode cX8_takes 22 = .ok (.aload_n 0, 1) := by decide +kernel
theorem eX8_takes_23 : decode cX8_takes 23 = .ok (.getfield 23, 3) := by decide +kernel
theorem eX8_takes_26 : decode cX8_takes 26 = .ok (.iload_n 1, 1) := by decide +kernel
theorem eX8_takes_27 : decode cX8_takes 27 = .ok (.invokevirtual 374, 3) := by decide +kernel
theorem eX8_takes_30 : decode cX8_takes 30 = .ok (.ifCond .ne 5, 3) := by decide +kernel
theorem eX8_takes_33 : decode cX8_takes 33 = .ok (.iconst (-1), 1) := by decide +kernel
theorem eX8_takes_34 : decode cX8_takes 34 = .ok (.ireturn, 1) := by decide +kernel
theorem eX8_takes_35 : decode cX8_takes 35 = .ok (.aload_n 0, 1) := by decide +kernel
theorem eX8_takes_36 : decode cX8_takes 36 = .ok (.getfield 69, 3) := by decide +kernel
theorem eX8_takes_39 : decode cX8_takes 39 = .ok (.aload_n 0, 1) := by decide +kernel
theorem eX8_takes_40 : decode cX8_takes 40 = .ok (.getfield 23, 3) := by decide +kernel
theorem eX8_takes_43 : decode cX8_takes 43 = .ok (.iload_n 1, 1) := by decide +kernel
theorem eX8_takes_44 : decode cX8_takes 44 = .ok (.invokevirtual 378, 3) := by decide +kernel
theorem eX8_takes_47 : decode cX8_takes 47 = .ok (.aload_n 0, 1) := by decide +kernel
theorem eX8_takes_48 : decode cX8_takes 48 = .ok (.getfield 69, 3) := by decide +kernel
theorem eX8_takes_51 : decode cX8_takes 51 = .ok (.getfield 364, 3) := by decide +kernel
theorem eX8_takes_54 : decode cX8_takes 54 = .ok (.ireturn, 1) := by decide +kernel
abbrev vs_E_8_takes : List Cond := .code yX8_takes cX8_takes 2 (some .int) :: CM
theorem g_E_8_takes_E_8_isEdge : GoodIn vs_E_8_takes (wsV RX8 165 RX8 yX8_isEdge vs_E_8_isEdge) := cm_gV cm_483 cm_484 cm_485 cm_427 cm_479
theorem g_E_8_takes_E_3_opens : GoodIn vs_E_8_takes (wsV RX8 374 RX3 yX3_opens vs_E_3_opens) := cm_gV cm_650 cm_202 cm_203 cm_204 cm_193
theorem g_E_8_takes_E_3_cross : GoodIn vs_E_8_takes (wsV RX8 378 RX3 yX3_cross vs_E_3_cross) := cm_gV cm_651 cm_213 cm_214 cm_204 cm_198
noncomputable def sp_E_8_takes (ne : Nat) (q_f5 : Nat → Nat) (q_f6 : Nat → Nat) (f7 : Nat → Int32) (q_f8 : Nat → Nat) (q_f9 : Nat → Nat) (f12 : Nat → Int32) (f13 : Nat → Int32) (on : Nat) (si : Nat) (ftm : Nat → Int32) (fbh : Nat → Int32) (p0 : Int32) : Int32 × (Nat → Int32) × (Nat → Int32) × Nat := (if on = 0 then ((-1), ftm, fbh, si) else (if (0 : Int32) ≤ p0 ∧ p0 < nI ne then (slet ((p0 : Int32).toNatClampNeg) (fun n_3 => (slet (sp_E_3_opens si ftm fbh q_f5 q_f6 f7 q_f8 q_f9 f12 f13 n_3) (fun (u_6, z_fbh_5) => (if u_6 = 0 then ((-1), ftm, z_fbh_5, si) else (slet (sp_E_3_cross ftm q_f6 f7 n_3) (fun (z_ftm_9, z_si_10) => ((nI z_si_10), z_ftm_9, z_fbh_5, z_si_10)))))))) else ((-1), ftm, fbh, si)))
set_option maxHeartbeats 4000000 in
set_option maxRecDepth 100000 in
theorem c_E_8_takes (l : Launch) (dC : Nat → ClassId) (dI : Nat → Nat → Nat) (sz : Nat) (xa : Nat) (xtape : Nat) (tp : Nat) (rd : Nat) (au : Nat) (xdr : Nat) (hy : Nat) (g : Nat) (hs : Nat) (tg : Nat) (sg : Nat) (ss : Nat) (rm : Nat) (ti : Nat) (py : Nat) (bu : Nat) (sm : Nat) (nc : Nat) (np : Nat) (ne : Nat) (st0 : Int32) (q4 : Nat) (q5 : Nat) (q6 : Nat) (q7 : Nat) (q8 : Nat) (q9 : Nat) (q10 : Nat) (q11 : Nat) (q12 : Nat) (q13 : Nat) (q14 : Nat) (q15 : Nat) (q16 : Nat) (k_f4 : ClassId) (f4 : Nat → Int32) (k_f5 : ClassId) (q_f5 : Nat → Nat) (k_f6 : ClassId) (q_f6 : Nat → Nat) (k_f7 : ClassId) (f7 : Nat → Int32) (k_f8 : ClassId) (q_f8 : Nat → Nat) (k_f9 : ClassId) (q_f9 : Nat → Nat) (k_f10 : ClassId) (f10 : Nat → Int32) (k_f11 : ClassId) (f11 : Nat → Int32) (k_f12 : ClassId) (f12 : Nat → Int32) (k_f13 : ClassId) (f13 : Nat → Int32) (k_f14 : ClassId) (f14 : Nat → Int32) (k_f15 : ClassId) (f15 : Nat → Int32) (k_f16 : ClassId) (f16 : Nat → Int32) (on : Nat) (si : Nat) (ti0 : Int32) (tm : Nat) (bh : Nat) (k_ftm : ClassId) (ftm : Nat → Int32) (k_fbh : ClassId) (fbh : Nat → Int32) (p0 : Int32) (htp : tp ≤ 900) (hhs : hs ≤ 1) (hss : ss ≤ 1) (hnc : nc ≤ 3) (hnp : np ≤ 8) (hne : ne ≤ 14) (hst0 : pm1 7 st0) (hon : on ≤ 1) (hsi : si ≤ 7) : Met l yX8_takes vs_E_8_takes ({ frames := 3, cells := 0, slots := 0, locals := 69 }) (va_Pc [.ref xa, .int p0] (pu_B (dC, dI) (xy__w xa xtape (nI tp) rd au xdr hy g (nI hs) tg sg (nI ss) rm ti py bu sm (nI nc) (nI np) (nI ne) st0 q4 q5 q6 q7 q8 q9 q10 q11 q12 q13 q14 q15 q16 k_f4 f4 k_f5 (bN 7 q_f5) k_f6 (bN 7 q_f6) k_f7 f7 k_f8 (bN 4 q_f8) k_f9 (bN 2 q_f9) k_f10 f10 k_f11 f11 k_f12 f12 k_f13 f13 k_f14 f14 k_f15 f15 k_f16 f16 (nI on) (nI si) ti0 tm bh k_ftm ftm k_fbh fbh) (xy__t k_f4 k_f5 k_f6 k_f7 k_f8 k_f9 k_f10 k_f11 k_f12 k_f13 k_f14 k_f15 k_f16 k_ftm k_fbh) sz)) (va_Qi (fun (r : Int32) (_ : Unit) => r = (sp_E_8_takes ne q_f5 q_f6 f7 q_f8 q_f9 f12 f13 on si ftm fbh p0).1) (fun _ t => ∃ (z_ftm : Nat → Int32) (z_fbh : Nat → Int32) (z_si : Nat), pu_E (dC, dI) (xy__w xa xtape (nI tp) rd au xdr hy g (nI hs) tg sg (nI ss) rm ti py bu sm (nI nc) (nI np) (nI ne) st0 q4 q5 q6 q7 q8 q9 q10 q11 q12 q13 q14 q15 q16 k_f4 f4 k_f5 (bN 7 q_f5) k_f6 (bN 7 q_f6) k_f7 f7 k_f8 (bN 4 q_f8) k_f9 (bN 2 q_f9) k_f10 f10 k_f11 f11 k_f12 f12 k_f13 f13 k_f14 f14 k_f15 f15 k_f16 f16 (nI on) (nI z_si) ti0 tm bh k_ftm z_ftm k_fbh z_fbh) (xy__t k_f4 k_f5 k_f6 k_f7 k_f8 k_f9 k_f10 k_f11 k_f12 k_f13 k_f14 k_f15 k_f16 k_ftm k_fbh) (va_A ((xy__w xa xtape (nI tp) rd au xdr hy g (nI hs) tg sg (nI ss) rm ti py bu sm (nI nc) (nI np) (nI ne) st0 q4 q5 q6 q7 q8 q9 q10 q11 q12 q13 q14 q15 q16 k_f4 f4 k_f5 (bN 7 q_f5) k_f6 (bN 7 q_f6) k_f7 f7 k_f8 (bN 4 q_f8) k_f9 (bN 2 q_f9) k_f10 f10 k_f11 f11 k_f12 f12 k_f13 f13 k_f14 f14 k_f15 f15 k_f16 f16 (nI on) (nI si) ti0 tm bh k_ftm ftm k_fbh fbh)) sz) t ∧ (z_si ≤ 7) ∧ ((z_ftm, z_fbh, z_si) = (sp_E_8_takes ne q_f5 q_f6 f7 q_f8 q_f9 f12 f13 on si ftm fbh p0).2)) (va_A ((xy__w xa xtape (nI tp) rd au xdr hy g (nI hs) tg sg (nI ss) rm ti py bu sm (nI nc) (nI np) (nI ne) st0 q4 q5 q6 q7 q8 q9 q10 q11 q12 q13 q14 q15 q16 k_f4 f4 k_f5 (bN 7 q_f5) k_f6 (bN 7 q_f6) k_f7 f7 k_f8 (bN 4 q_f8) k_f9 (bN 2 q_f9) k_f10 f10 k_f11 f11 k_f12 f12 k_f13 f13 k_f14 f14 k_f15 f15 k_f16 f16 (nI on) (nI si) ti0 tm bh k_ftm ftm k_fbh fbh)) sz)) 0 0 (va_A ((xy__w xa xtape (nI tp) rd au xdr hy g (nI hs) tg sg (nI ss) rm ti py bu sm (nI nc) (nI np) (nI ne) st0 q4 q5 q6 q7 q8 q9 q10 q11 q12 q13 q14 q15 q16 k_f4 f4 k_f5 (bN 7 q_f5) k_f6 (bN 7 q_f6) k_f7 f7 k_f8 (bN 4 q_f8) k_f9 (bN 2 q_f9) k_f10 f10 k_f11 f11 k_f12 f12 k_f13 f13 k_f14 f14 k_f15 f15 k_f16 f16 (nI on) (nI si) ti0 tm bh k_ftm ftm k_fbh fbh)) sz) := by
  refine Met.ofW (cc := cX8_takes) (maxL := 2) (ret := (some .int)) (by decide) rfl ?_
  intro p e s m args below meth c s₁ B hml hv
  obtain ⟨rfl, rfl, hP, hK, hD0⟩ := hv
  have hx := B.exec
  have hb := B.bytes
  have hr := B.returns
  have hts := atoms_spec (ws := vs_E_8_takes) B.pre
  have v_1 := hts (.fieldLink RX8 69 "ClockReach" "play" "LClockReach$Play;") (List.mem_cons_of_mem _ cm_447)
  have v_2 := hts (.fieldLink RX8 107 "ClockReach$Play" "on" "Z") (List.mem_cons_of_mem _ cm_448)
  have v_8 := hts (.fieldLink RX8 23 "ClockReach" "model" "LClockReach$Automaton;") (List.mem_cons_of_mem _ cm_434)
  have v_18 := hts (.fieldLink RX8 364 "ClockReach$Play" "site" "I") (List.mem_cons_of_mem _ cm_642)
  have hown : s.vm.findClass RX8 = some m.cls := findClass_of_methodNamed B.named
  have hlocks := B.notSynchronized
  have hiX3 : ∀ w ∈ wsX30, w ∈ vs_E_8_takes := fun _ h => List.mem_cons_of_mem _ (cm_X3 h)
  have hiX8 : ∀ w ∈ wsX80, w ∈ vs_E_8_takes := fun _ h => List.mem_cons_of_mem _ (cm_X8 h)
  have hD := hD0.self (sz := s.heap.size)
  generalize hAe : va_A ((xy__w xa xtape (nI tp) rd au xdr hy g (nI hs) tg sg (nI ss) rm ti py bu sm (nI nc) (nI np) (nI ne) st0 q4 q5 q6 q7 q8 q9 q10 q11 q12 q13 q14 q15 q16 k_f4 f4 k_f5 (bN 7 q_f5) k_f6 (bN 7 q_f6) k_f7 f7 k_f8 (bN 4 q_f8) k_f9 (bN 2 q_f9) k_f10 f10 k_f11 f11 k_f12 f12 k_f13 f13 k_f14 f14 k_f15 f15 k_f16 f16 (nI on) (nI si) ti0 tm bh k_ftm ftm k_fbh fbh)) s.heap.size = A at hD ⊢
  have hA : ∀ q : Nat, s.heap.size ≤ q → A q := fun q h => by rw [← hAe]; exact Or.inr h
  have hS : va_S A s.heap s.heap [] := va_S.rf
  have hl := lv_entry ([.ref xa, .int p0]) (n := 2) (Nat.le_of_ble_eq_true rfl)
  rw [lg_entry_eq]
  generalize (lg_sl ([.ref xa, .int p0]) ++ List.replicate (2 - (lg_sl ([.ref xa, .int p0])).length) Slot.unset).toArray = ls at hl ⊢
  have hl : lv_has ls 2 [(0, .ref xa), (1, .int p0)] := hl
  obtain ⟨RR, hRR⟩ : ∃ x, x = (sp_E_8_takes ne q_f5 q_f6 f7 q_f8 q_f9 f12 f13 on si ftm fbh p0) := ⟨_, rfl⟩
  have hsp := hRR
  refine lv_aload_n hx hb eX8_takes_0 rfl (lv_at hl 0 rfl) ?_
  refine va_get (D := (dC, dI)) (ci := 8) (v := .ref py) (C := RX8) (T := TX8) (N := 16) hx hb hts hiX8 hown hK hP 0 rfl rfl 13 (by decide) v_1 (fun _ h9 => h9) rfl eX8_takes_1 ?_
  refine va_get (D := (dC, dI)) (ci := 3) (v := .int (nI on)) (C := RX3) (T := TX3) (N := 5) hx hb hts hiX3 hown hK hP 15 rfl rfl 0 (by decide) v_2 (fun _ h9 => h9) rfl eX8_takes_4 ?_
  refine lv_if_eq (tgt := 33) hx hb eX8_takes_7 (by decide) (fun c_1 => ?_) (fun c_1 => ?_)
  · have c_1 : on = 0 := (nI_eq (a := on) (b := 0) (Nat.lt_of_le_of_lt hon (Nat.le_of_ble_eq_true rfl)) (Nat.le_of_ble_eq_true rfl)).mp c_1
    have hsp := hsp.trans (if_pos c_1)
    refine lv_iconst (v := (-1)) hx hb eX8_takes_33 (by decide) ?_
    exact W.iret (v := (-1)) hx hb hr (fun t ht hW => ⟨⟨(-1), (), rfl, (congrArg Prod.fst (hsp.symm.trans hRR)), ⟨ftm, fbh, si, ⟨by rw [ht]; exact hP, va_K.moved hW.alike hK, hD⟩, hsi, (congrArg Prod.snd (hsp.symm.trans hRR))⟩⟩, hS.F ht⟩) hS.2.2 eX8_takes_34
  · have c_1 : ¬ on = 0 := fun z => c_1 ((nI_eq (a := on) (b := 0) (Nat.lt_of_le_of_lt hon (Nat.le_of_ble_eq_true rfl)) (Nat.le_of_ble_eq_true rfl)).mpr z)
    have hsp := hsp.trans (if_neg c_1)
    refine lv_aload_n hx hb eX8_takes_10 rfl (lv_at hl 0 rfl) ?_
    refine lv_iload_n hx hb eX8_takes_11 rfl (lv_at hl 1 rfl) ?_
    have hPc : va_P (dC, dI) vwCl (xo__w xa xtape (nI tp) rd au xdr hy g (nI hs) tg sg (nI ss) rm ti py bu sm (nI nc) (nI np) (nI ne) st0 q4 q5 q6 q7 q8 q9 q10 q11 q12 q13 q14 q15 q16) _ := hP.sub [0, 1] rfl
    have hDc := hD.sub (ws' := (xo__w xa xtape (nI tp) rd au xdr hy g (nI hs) tg sg (nI ss) rm ti py bu sm (nI nc) (nI np) (nI ne) st0 q4 q5 q6 q7 q8 q9 q10 q11 q12 q13 q14 q15 q16)) [0, 1] (by decide) rfl
    have hKc : va_K (dC, dI) vwCl (xo__t ) s := hK.sub [] rfl
    refine va_calli (va_runV (As := [.int p0]) (rest := []) ⟨hx, hb, hml, hown, hts⟩ (c_E_8_isEdge l dC dI _ xa xtape tp rd au xdr hy g hs tg sg ss rm ti py bu sm nc np ne st0 q4 q5 q6 q7 q8 q9 q10 q11 q12 q13 q14 q15 q16 p0 htp hhs hss hnc hnp hne (hst0)) (cwV 1 hts g_E_8_takes_E_8_isEdge rfl rfl rfl (by decide +kernel) ⟨Nat.le_of_ble_eq_true rfl, Nat.le_of_ble_eq_true rfl⟩) ⟨pu_bl, va_recv hK hP (ci := 8) (q0 := 0) rfl rfl, pu_in hPc hKc hDc⟩ rfl rfl hl.1 rfl (lv_room (Nat.le_of_ble_eq_true rfl)) eX8_takes_12 ⟨Nat.le_of_ble_eq_true rfl, Nat.le_of_ble_eq_true rfl⟩) hS (fun q _ h => pu_fr hS hA q h) (pu_fr hS hA) (fun r_2 u t H1 locs ht hvm hw hB hz1 hk1 hS => ?_)
    have hP := pu_keep hP hk1
    clear hk1 hz1 ht hvm
    generalize H1 = H at hP hS ⊢
    rcases hw with ⟨rfl, hw⟩ | ⟨rfl, hn⟩
    · obtain ⟨n_3, hn_3, rfl⟩ := hw
      have hsp := hsp.trans (if_pos (in_q hn_3 (by omega)))
      have hsp := hsp.trans (slet_eq (nI_cl (n := n_3) (by omega)))
      refine lv_if_eq (tgt := 33) hx hb eX8_takes_15 (by decide) (fun z => absurd z (by decide)) (fun _ => ?_)
      refine lv_aload_n hx hb eX8_takes_18 rfl (lv_at hl 0 rfl) ?_
      refine va_get (D := (dC, dI)) (ci := 8) (v := .ref py) (C := RX8) (T := TX8) (N := 16) hx hb hts hiX8 hown hK hP 0 rfl rfl 13 (by decide) v_1 (fun _ h9 => h9) rfl eX8_takes_19 ?_
      refine lv_aload_n hx hb eX8_takes_22 rfl (lv_at hl 0 rfl) ?_
      refine va_get (D := (dC, dI)) (ci := 8) (v := .ref au) (C := RX8) (T := TX8) (N := 16) hx hb hts hiX8 hown hK hP 0 rfl rfl 3 (by decide) v_8 (fun _ h9 => h9) rfl eX8_takes_23 ?_
      refine lv_iload_n hx hb eX8_takes_26 rfl (lv_at hl 1 rfl) ?_
      have hPc : va_P (dC, dI) vwCl (pa__w py (nI on) (nI si) ti0 tm bh k_ftm ftm k_fbh fbh au (nI nc) (nI np) (nI ne) st0 q4 q5 q6 q7 q8 q9 q10 q11 q12 q13 q14 q15 q16 k_f4 f4 k_f5 (bN 7 q_f5) k_f6 (bN 7 q_f6) k_f7 f7 k_f8 (bN 4 q_f8) k_f9 (bN 2 q_f9) k_f10 f10 k_f11 f11 k_f12 f12 k_f13 f13 k_f14 f14 k_f15 f15 k_f16 f16) _ := hP.sub [15, 16, 17, 1, 2, 3, 4, 5, 6, 7, 8, 9, 10, 11, 12, 13, 14] rfl
      have hDc := hD.sub (ws' := (pa__w py (nI on) (nI si) ti0 tm bh k_ftm ftm k_fbh fbh au (nI nc) (nI np) (nI ne) st0 q4 q5 q6 q7 q8 q9 q10 q11 q12 q13 q14 q15 q16 k_f4 f4 k_f5 (bN 7 q_f5) k_f6 (bN 7 q_f6) k_f7 f7 k_f8 (bN 4 q_f8) k_f9 (bN 2 q_f9) k_f10 f10 k_f11 f11 k_f12 f12 k_f13 f13 k_f14 f14 k_f15 f15 k_f16 f16)) [15, 16, 17, 1, 2, 3, 4, 5, 6, 7, 8, 9, 10, 11, 12, 13, 14] (by decide) rfl
      have hKc : va_K (dC, dI) vwCl (pa__t k_ftm k_fbh k_f4 k_f5 k_f6 k_f7 k_f8 k_f9 k_f10 k_f11 k_f12 k_f13 k_f14 k_f15 k_f16) s := hK.sub [13, 14, 0, 1, 2, 3, 4, 5, 6, 7, 8, 9, 10, 11, 12] rfl
      have hFc := pu_free hDc hS hA
      refine va_calli (va_runV (As := [.ref au, .int (nI n_3)]) (rest := []) ⟨hx, hb, hml, hown, hts⟩ (c_E_3_opens l dC dI _ py on si ti0 tm bh k_ftm ftm k_fbh fbh au nc np ne st0 q4 q5 q6 q7 q8 q9 q10 q11 q12 q13 q14 q15 q16 k_f4 f4 k_f5 q_f5 k_f6 q_f6 k_f7 f7 k_f8 q_f8 k_f9 q_f9 k_f10 f10 k_f11 f11 k_f12 f12 k_f13 f13 k_f14 f14 k_f15 f15 k_f16 f16 n_3 hon hsi hnc hnp hne (hst0) (by omega)) (cwV 2 hts g_E_8_takes_E_3_opens rfl rfl rfl (by decide +kernel) ⟨Nat.le_of_ble_eq_true rfl, Nat.le_of_ble_eq_true rfl⟩) ⟨pu_bl, va_recv hK hP (ci := 3) (q0 := 15) rfl rfl, pu_in hPc hKc hDc⟩ rfl rfl hl.1 rfl (lv_room (Nat.le_of_ble_eq_true rfl)) eX8_takes_27 ⟨Nat.le_of_ble_eq_true rfl, Nat.le_of_ble_eq_true rfl⟩) hS (fun q _ h => hFc q h) hFc (fun r_4 u t H1 locs ht hvm hw hB hz1 hk1 hS => ?_)
      obtain ⟨z_fbh_5, ⟨hP1, -, hD1⟩, xr_4_0⟩ := hB
      rw [ht] at hP1
      obtain ⟨hP, hD⟩ := pj_a (X := (xy__w xa xtape (nI tp) rd au xdr hy g (nI hs) tg sg (nI ss) rm ti py bu sm (nI nc) (nI np) (nI ne) st0 q4 q5 q6 q7 q8 q9 q10 q11 q12 q13 q14 q15 q16 k_f4 f4 k_f5 (bN 7 q_f5) k_f6 (bN 7 q_f6) k_f7 f7 k_f8 (bN 4 q_f8) k_f9 (bN 2 q_f9) k_f10 f10 k_f11 f11 k_f12 f12 k_f13 f13 k_f14 f14 k_f15 f15 k_f16 f16 (nI on) (nI si) ti0 tm bh k_ftm ftm k_fbh fbh)) (X' := (xy__w xa xtape (nI tp) rd au xdr hy g (nI hs) tg sg (nI ss) rm ti py bu sm (nI nc) (nI np) (nI ne) st0 q4 q5 q6 q7 q8 q9 q10 q11 q12 q13 q14 q15 q16 k_f4 f4 k_f5 (bN 7 q_f5) k_f6 (bN 7 q_f6) k_f7 f7 k_f8 (bN 4 q_f8) k_f9 (bN 2 q_f9) k_f10 f10 k_f11 f11 k_f12 f12 k_f13 f13 k_f14 f14 k_f15 f15 k_f16 f16 (nI on) (nI si) ti0 tm bh k_ftm ftm k_fbh z_fbh_5)) (wc := (pa__w py (nI on) (nI si) ti0 tm bh k_ftm ftm k_fbh fbh au (nI nc) (nI np) (nI ne) st0 q4 q5 q6 q7 q8 q9 q10 q11 q12 q13 q14 q15 q16 k_f4 f4 k_f5 (bN 7 q_f5) k_f6 (bN 7 q_f6) k_f7 f7 k_f8 (bN 4 q_f8) k_f9 (bN 2 q_f9) k_f10 f10 k_f11 f11 k_f12 f12 k_f13 f13 k_f14 f14 k_f15 f15 k_f16 f16)) (w1 := (pa__w py (nI on) (nI si) ti0 tm bh k_ftm ftm k_fbh z_fbh_5 au (nI nc) (nI np) (nI ne) st0 q4 q5 q6 q7 q8 q9 q10 q11 q12 q13 q14 q15 q16 k_f4 f4 k_f5 (bN 7 q_f5) k_f6 (bN 7 q_f6) k_f7 f7 k_f8 (bN 4 q_f8) k_f9 (bN 2 q_f9) k_f10 f10 k_f11 f11 k_f12 f12 k_f13 f13 k_f14 f14 k_f15 f15 k_f16 f16)) hP hD [15, 16, 17, 1, 2, 3, 4, 5, 6, 7, 8, 9, 10, 11, 12, 13, 14] [17, 3, 4, 5, 6, 7, 8, 9, 10, 11, 12, 13, 14, 15, 16, 0, 1, 2] 17 rfl hk1 hP1 rfl rfl rfl (by decide)
      clear hP1 hD1 hFc hPc hDc hKc
      clear hk1 hz1 ht hvm
      generalize H1 = H at hP hS ⊢
      obtain ⟨u_6, hu_6, rfl, iu_6⟩ := hw
      have iu_6 : (u_6, z_fbh_5) = (sp_E_3_opens si ftm fbh q_f5 q_f6 f7 q_f8 q_f9 f12 f13 n_3) := Prod.ext iu_6 xr_4_0
      have hsp := hsp.trans (slet_eq iu_6)
      refine lv_if_ne (tgt := 35) hx hb eX8_takes_30 (by decide) (fun c_7 => ?_) (fun c_7 => ?_)
      · have c_7 : ¬ u_6 = 0 := fun z => c_7 ((nI_eq (a := u_6) (b := 0) (Nat.lt_of_le_of_lt hu_6 (Nat.le_of_ble_eq_true rfl)) (Nat.le_of_ble_eq_true rfl)).mpr z)
        have hsp := hsp.trans (if_neg c_7)
        refine lv_aload_n hx hb eX8_takes_35 rfl (lv_at hl 0 rfl) ?_
        refine va_get (D := (dC, dI)) (ci := 8) (v := .ref py) (C := RX8) (T := TX8) (N := 16) hx hb hts hiX8 hown hK hP 0 rfl rfl 13 (by decide) v_1 (fun _ h9 => h9) rfl eX8_takes_36 ?_
        refine lv_aload_n hx hb eX8_takes_39 rfl (lv_at hl 0 rfl) ?_
        refine va_get (D := (dC, dI)) (ci := 8) (v := .ref au) (C := RX8) (T := TX8) (N := 16) hx hb hts hiX8 hown hK hP 0 rfl rfl 3 (by decide) v_8 (fun _ h9 => h9) rfl eX8_takes_40 ?_
        refine lv_iload_n hx hb eX8_takes_43 rfl (lv_at hl 1 rfl) ?_
        have hPc : va_P (dC, dI) vwCl (pa__w py (nI on) (nI si) ti0 tm bh k_ftm ftm k_fbh z_fbh_5 au (nI nc) (nI np) (nI ne) st0 q4 q5 q6 q7 q8 q9 q10 q11 q12 q13 q14 q15 q16 k_f4 f4 k_f5 (bN 7 q_f5) k_f6 (bN 7 q_f6) k_f7 f7 k_f8 (bN 4 q_f8) k_f9 (bN 2 q_f9) k_f10 f10 k_f11 f11 k_f12 f12 k_f13 f13 k_f14 f14 k_f15 f15 k_f16 f16) _ := hP.sub [15, 16, 17, 1, 2, 3, 4, 5, 6, 7, 8, 9, 10, 11, 12, 13, 14] rfl
        have hDc := hD.sub (ws' := (pa__w py (nI on) (nI si) ti0 tm bh k_ftm ftm k_fbh z_fbh_5 au (nI nc) (nI np) (nI ne) st0 q4 q5 q6 q7 q8 q9 q10 q11 q12 q13 q14 q15 q16 k_f4 f4 k_f5 (bN 7 q_f5) k_f6 (bN 7 q_f6) k_f7 f7 k_f8 (bN 4 q_f8) k_f9 (bN 2 q_f9) k_f10 f10 k_f11 f11 k_f12 f12 k_f13 f13 k_f14 f14 k_f15 f15 k_f16 f16)) [15, 16, 17, 1, 2, 3, 4, 5, 6, 7, 8, 9, 10, 11, 12, 13, 14] (by decide) rfl
        have hKc : va_K (dC, dI) vwCl (pa__t k_ftm k_fbh k_f4 k_f5 k_f6 k_f7 k_f8 k_f9 k_f10 k_f11 k_f12 k_f13 k_f14 k_f15 k_f16) s := hK.sub [13, 14, 0, 1, 2, 3, 4, 5, 6, 7, 8, 9, 10, 11, 12] rfl
        have hFc := pu_free hDc hS hA
        refine va_callv (va_runV (As := [.ref au, .int (nI n_3)]) (rest := []) ⟨hx, hb, hml, hown, hts⟩ (c_E_3_cross l dC dI _ py on si ti0 tm bh k_ftm ftm k_fbh z_fbh_5 au nc np ne st0 q4 q5 q6 q7 q8 q9 q10 q11 q12 q13 q14 q15 q16 k_f4 f4 k_f5 q_f5 k_f6 q_f6 k_f7 f7 k_f8 q_f8 k_f9 q_f9 k_f10 f10 k_f11 f11 k_f12 f12 k_f13 f13 k_f14 f14 k_f15 f15 k_f16 f16 n_3 hon hsi hnc hnp hne (hst0) (by omega)) (cwV 2 hts g_E_8_takes_E_3_cross rfl rfl rfl (by decide +kernel) ⟨Nat.le_of_ble_eq_true rfl, Nat.le_of_ble_eq_true rfl⟩) ⟨pu_bl, va_recv hK hP (ci := 3) (q0 := 15) rfl rfl, pu_in hPc hKc hDc⟩ rfl rfl hl.1 rfl (lv_room (Nat.le_of_ble_eq_true rfl)) eX8_takes_44 ⟨Nat.le_of_ble_eq_true rfl, Nat.le_of_ble_eq_true rfl⟩) hS (fun q _ h => hFc q h) hFc (fun u t H1 locs ht hvm hw hB hz1 hk1 hS => ?_)
        obtain ⟨z_ftm_9, z_si_10, ⟨hP1, -, hD1⟩, hz_si_10, xr_8_0⟩ := hB
        rw [ht] at hP1
        obtain ⟨hP, hD⟩ := pj_a (X := (xy__w xa xtape (nI tp) rd au xdr hy g (nI hs) tg sg (nI ss) rm ti py bu sm (nI nc) (nI np) (nI ne) st0 q4 q5 q6 q7 q8 q9 q10 q11 q12 q13 q14 q15 q16 k_f4 f4 k_f5 (bN 7 q_f5) k_f6 (bN 7 q_f6) k_f7 f7 k_f8 (bN 4 q_f8) k_f9 (bN 2 q_f9) k_f10 f10 k_f11 f11 k_f12 f12 k_f13 f13 k_f14 f14 k_f15 f15 k_f16 f16 (nI on) (nI si) ti0 tm bh k_ftm ftm k_fbh z_fbh_5)) (X' := (xy__w xa xtape (nI tp) rd au xdr hy g (nI hs) tg sg (nI ss) rm ti py bu sm (nI nc) (nI np) (nI ne) st0 q4 q5 q6 q7 q8 q9 q10 q11 q12 q13 q14 q15 q16 k_f4 f4 k_f5 (bN 7 q_f5) k_f6 (bN 7 q_f6) k_f7 f7 k_f8 (bN 4 q_f8) k_f9 (bN 2 q_f9) k_f10 f10 k_f11 f11 k_f12 f12 k_f13 f13 k_f14 f14 k_f15 f15 k_f16 f16 (nI on) (nI z_si_10) ti0 tm bh k_ftm z_ftm_9 k_fbh z_fbh_5)) (wc := (pa__w py (nI on) (nI si) ti0 tm bh k_ftm ftm k_fbh z_fbh_5 au (nI nc) (nI np) (nI ne) st0 q4 q5 q6 q7 q8 q9 q10 q11 q12 q13 q14 q15 q16 k_f4 f4 k_f5 (bN 7 q_f5) k_f6 (bN 7 q_f6) k_f7 f7 k_f8 (bN 4 q_f8) k_f9 (bN 2 q_f9) k_f10 f10 k_f11 f11 k_f12 f12 k_f13 f13 k_f14 f14 k_f15 f15 k_f16 f16)) (w1 := (pa__w py (nI on) (nI z_si_10) ti0 tm bh k_ftm z_ftm_9 k_fbh z_fbh_5 au (nI nc) (nI np) (nI ne) st0 q4 q5 q6 q7 q8 q9 q10 q11 q12 q13 q14 q15 q16 k_f4 f4 k_f5 (bN 7 q_f5) k_f6 (bN 7 q_f6) k_f7 f7 k_f8 (bN 4 q_f8) k_f9 (bN 2 q_f9) k_f10 f10 k_f11 f11 k_f12 f12 k_f13 f13 k_f14 f14 k_f15 f15 k_f16 f16)) hP hD [15, 16, 17, 1, 2, 3, 4, 5, 6, 7, 8, 9, 10, 11, 12, 13, 14] [17, 3, 4, 5, 6, 7, 8, 9, 10, 11, 12, 13, 14, 15, 16, 0, 1, 2] 17 rfl hk1 hP1 rfl rfl rfl (by decide)
        clear hP1 hD1 hFc hPc hDc hKc
        clear hk1 hz1 ht hvm
        generalize H1 = H at hP hS ⊢
        have hsp := hsp.trans (slet_eq xr_8_0)
        refine lv_aload_n hx hb eX8_takes_47 rfl (lv_at hl 0 rfl) ?_
        refine va_get (D := (dC, dI)) (ci := 8) (v := .ref py) (C := RX8) (T := TX8) (N := 16) hx hb hts hiX8 hown hK hP 0 rfl rfl 13 (by decide) v_1 (fun _ h9 => h9) rfl eX8_takes_48 ?_
        refine va_get (D := (dC, dI)) (ci := 3) (v := .int (nI z_si_10)) (C := RX3) (T := TX3) (N := 5) hx hb hts hiX3 hown hK hP 15 rfl rfl 1 (by decide) v_18 (fun _ h9 => h9) rfl eX8_takes_51 ?_
        exact W.iret (v := (nI z_si_10)) hx hb hr (fun t ht hW => ⟨⟨(nI z_si_10), (), rfl, (congrArg Prod.fst (hsp.symm.trans hRR)), ⟨z_ftm_9, z_fbh_5, z_si_10, ⟨by rw [ht]; exact hP, va_K.moved hW.alike hK, hD⟩, hz_si_10, (congrArg Prod.snd (hsp.symm.trans hRR))⟩⟩, hS.F ht⟩) hS.2.2 eX8_takes_54
      · have c_7 : u_6 = 0 := (nI_eq (a := u_6) (b := 0) (Nat.lt_of_le_of_lt hu_6 (Nat.le_of_ble_eq_true rfl)) (Nat.le_of_ble_eq_true rfl)).mp c_7
        have hsp := hsp.trans (if_pos c_7)
        refine lv_iconst (v := (-1)) hx hb eX8_takes_33 (by decide) ?_
        exact W.iret (v := (-1)) hx hb hr (fun t ht hW => ⟨⟨(-1), (), rfl, (congrArg Prod.fst (hsp.symm.trans hRR)), ⟨ftm, z_fbh_5, si, ⟨by rw [ht]; exact hP, va_K.moved hW.alike hK, hD⟩, hsi, (congrArg Prod.snd (hsp.symm.trans hRR))⟩⟩, hS.F ht⟩) hS.2.2 eX8_takes_34
    · have hsp := hsp.trans (if_neg hn)
      refine lv_if_eq (tgt := 33) hx hb eX8_takes_15 (by decide) (fun _ => ?_) (fun z => absurd z (by decide))
      refine lv_iconst (v := (-1)) hx hb eX8_takes_33 (by decide) ?_
      exact W.iret (v := (-1)) hx hb hr (fun t ht hW => ⟨⟨(-1), (), rfl, (congrArg Prod.fst (hsp.symm.trans hRR)), ⟨ftm, fbh, si, ⟨by rw [ht]; exact hP, va_K.moved hW.alike hK, hD⟩, hsi, (congrArg Prod.snd (hsp.symm.trans hRR))⟩⟩, hS.F ht⟩) hS.2.2 eX8_takes_34
theorem eX8_now_0 : decode cX8_now 0 = .ok (.aload_n 0, 1) := by decide +kernel
theorem eX8_now_1 : decode cX8_now 1 = .ok (.getfield 69, 3) := by decide +kernel
theorem eX8_now_4 : decode cX8_now 4 = .ok (.getfield 107, 3) := by decide +kernel
theorem eX8_now_7 : decode cX8_now 7 = .ok (.ifCond .ne 5, 3) := by decide +kernel
theorem eX8_now_10 : decode cX8_now 10 = .ok (.iconst (-1), 1) := by decide +kernel
theorem eX8_now_11 : decode cX8_now 11 = .ok (.ireturn, 1) := by decide +kernel
theorem eX8_now_12 : decode cX8_now 12 = .ok (.iload_n 1, 1) := by decide +kernel
theorem eX8_now_13 : decode cX8_now 13 = .ok (.tableswitch 71 0 3 #[31, 39, 47, 59], 31) := by decide +kernel
theorem eX8_now_44 : decode cX8_now 44 = .ok (.aload_n 0, 1) := by decide +kernel
theorem eX8_now_45 : decode cX8_now 45 = .ok (.getfield 69, 3) := by decide +kernel
theorem eX8_now_48 : decode cX8_now 48 = .ok (.getfield 364, 3) := by decide +kernel
theorem eX8_now_51 : decode cX8_now 51 = .ok (.ireturn, 1) := by decide +kernel
theorem eX8_now_52 : decode cX8_now 52 = .ok (.aload_n 0, 1) := by decide +kernel
theorem eX8_now_53 : decode cX8_now 53 = .ok (.getfield 69, 3) := by decide +kernel
theorem eX8_now_56 : decode cX8_now 56 = .ok (.getfield 382, 3) := by decide +kernel
theorem eX8_now_59 : decode cX8_now 59 = .ok (.ireturn, 1) := by decide +kernel
theorem eX8_now_60 : decode cX8_now 60 = .ok (.aload_n 0, 1) := by decide +kernel
theorem eX8_now_61 : decode cX8_now 61 = .ok (.getfield 69, 3) := by decide +kernel
theorem eX8_now_64 : decode cX8_now 64 = .ok (.aload_n 0, 1) := by decide +kernel
theorem eX8_now_65 : decode cX8_now 65 = .ok (.getfield 23, 3) := by decide +kernel
theorem eX8_now_68 : decode cX8_now 68 = .ok (.invokevirtual 385, 3) := by decide +kernel
theorem eX8_now_71 : decode cX8_now 71 = .ok (.ireturn, 1) := by decide +kernel
theorem eX8_now_72 : decode cX8_now 72 = .ok (.aload_n 0, 1) := by decide +kernel
theorem eX8_now_73 : decode cX8_now 73 = .ok (.getfield 69, 3) := by decide +kernel
theorem eX8_now_76 : decode cX8_now 76 = .ok (.aload_n 0, 1) := by decide +kernel
theorem eX8_now_77 : decode cX8_now 77 = .ok (.getfield 23, 3) := by decide +kernel
theorem eX8_now_80 : decode cX8_now 80 = .ok (.invokevirtual 367, 3) := by decide +kernel
theorem eX8_now_83 : decode cX8_now 83 = .ok (.ireturn, 1) := by decide +kernel
theorem eX8_now_84 : decode cX8_now 84 = .ok (.iconst (-1), 1) := by decide +kernel
theorem eX8_now_85 : decode cX8_now 85 = .ok (.ireturn, 1) := by decide +kernel
abbrev vs_E_8_now : List Cond := .code yX8_now cX8_now 2 (some .int) :: CM
theorem g_E_8_now_E_3_openEdges : GoodIn vs_E_8_now (wsV RX8 385 RX3 yX3_openEdges vs_E_3_openEdges) := cm_gV cm_654 cm_655 cm_656 cm_204 cm_199
theorem g_E_8_now_E_3_longestWait : GoodIn vs_E_8_now (wsV RX8 367 RX3 yX3_longestWait vs_E_3_longestWait) := cm_gV cm_647 cm_207 cm_208 cm_204 cm_181
noncomputable def sp_E_8_now (ne : Nat) (f4 : Nat → Int32) (q_f5 : Nat → Nat) (q_f6 : Nat → Nat) (f7 : Nat → Int32) (q_f8 : Nat → Nat) (q_f9 : Nat → Nat) (f12 : Nat → Int32) (f13 : Nat → Int32) (on : Nat) (si : Nat) (ti0 : Int32) (ftm : Nat → Int32) (fbh : Nat → Int32) (p0 : Int32) : Int32 × (Nat → Int32) := (if on = 0 then ((-1), fbh) else (if (p0 : Int32) = 0 then ((nI si), fbh) else (if (p0 : Int32) = 1 then (ti0, fbh) else (if (p0 : Int32) = 2 then (slet (sp_E_3_openEdges si ftm fbh ne q_f5 q_f6 f7 q_f8 q_f9 f12 f13) (fun (r_5, z_fbh_6) => (r_5, z_fbh_6))) else (if (p0 : Int32) = 3 then (slet (sp_E_3_longestWait si ftm f4 q_f8 q_f9 f12) (fun r_8 => (r_8, fbh))) else ((-1), fbh))))))
set_option maxHeartbeats 4000000 in
set_option maxRecDepth 100000 in
theorem c_E_8_now (l : Launch) (dC : Nat → ClassId) (dI : Nat → Nat → Nat) (sz : Nat) (xa : Nat) (xtape : Nat) (tp : Nat) (rd : Nat) (au : Nat) (xdr : Nat) (hy : Nat) (g : Nat) (hs : Nat) (tg : Nat) (sg : Nat) (ss : Nat) (rm : Nat) (ti : Nat) (py : Nat) (bu : Nat) (sm : Nat) (nc : Nat) (np : Nat) (ne : Nat) (st0 : Int32) (q4 : Nat) (q5 : Nat) (q6 : Nat) (q7 : Nat) (q8 : Nat) (q9 : Nat) (q10 : Nat) (q11 : Nat) (q12 : Nat) (q13 : Nat) (q14 : Nat) (q15 : Nat) (q16 : Nat) (k_f4 : ClassId) (f4 : Nat → Int32) (k_f5 : ClassId) (q_f5 : Nat → Nat) (k_f6 : ClassId) (q_f6 : Nat → Nat) (k_f7 : ClassId) (f7 : Nat → Int32) (k_f8 : ClassId) (q_f8 : Nat → Nat) (k_f9 : ClassId) (q_f9 : Nat → Nat) (k_f10 : ClassId) (f10 : Nat → Int32) (k_f11 : ClassId) (f11 : Nat → Int32) (k_f12 : ClassId) (f12 : Nat → Int32) (k_f13 : ClassId) (f13 : Nat → Int32) (k_f14 : ClassId) (f14 : Nat → Int32) (k_f15 : ClassId) (f15 : Nat → Int32) (k_f16 : ClassId) (f16 : Nat → Int32) (on : Nat) (si : Nat) (ti0 : Int32) (tm : Nat) (bh : Nat) (k_ftm : ClassId) (ftm : Nat → Int32) (k_fbh : ClassId) (fbh : Nat → Int32) (p0 : Int32) (htp : tp ≤ 900) (hhs : hs ≤ 1) (hss : ss ≤ 1) (hnc : nc ≤ 3) (hnp : np ≤ 8) (hne : ne ≤ 14) (hst0 : pm1 7 st0) (hon : on ≤ 1) (hsi : si ≤ 7) : Met l yX8_now vs_E_8_now ({ frames := 4, cells := 0, slots := 0, locals := 92 }) (va_Pc [.ref xa, .int p0] (pu_B (dC, dI) (xy__w xa xtape (nI tp) rd au xdr hy g (nI hs) tg sg (nI ss) rm ti py bu sm (nI nc) (nI np) (nI ne) st0 q4 q5 q6 q7 q8 q9 q10 q11 q12 q13 q14 q15 q16 k_f4 f4 k_f5 (bN 7 q_f5) k_f6 (bN 7 q_f6) k_f7 f7 k_f8 (bN 4 q_f8) k_f9 (bN 2 q_f9) k_f10 f10 k_f11 f11 k_f12 f12 k_f13 f13 k_f14 f14 k_f15 f15 k_f16 f16 (nI on) (nI si) ti0 tm bh k_ftm ftm k_fbh fbh) (xy__t k_f4 k_f5 k_f6 k_f7 k_f8 k_f9 k_f10 k_f11 k_f12 k_f13 k_f14 k_f15 k_f16 k_ftm k_fbh) sz)) (va_Qi (fun (r : Int32) (_ : Unit) => r = (sp_E_8_now ne f4 q_f5 q_f6 f7 q_f8 q_f9 f12 f13 on si ti0 ftm fbh p0).1) (fun _ t => ∃ (z_fbh : Nat → Int32), pu_E (dC, dI) (xy__w xa xtape (nI tp) rd au xdr hy g (nI hs) tg sg (nI ss) rm ti py bu sm (nI nc) (nI np) (nI ne) st0 q4 q5 q6 q7 q8 q9 q10 q11 q12 q13 q14 q15 q16 k_f4 f4 k_f5 (bN 7 q_f5) k_f6 (bN 7 q_f6) k_f7 f7 k_f8 (bN 4 q_f8) k_f9 (bN 2 q_f9) k_f10 f10 k_f11 f11 k_f12 f12 k_f13 f13 k_f14 f14 k_f15 f15 k_f16 f16 (nI on) (nI si) ti0 tm bh k_ftm ftm k_fbh z_fbh) (xy__t k_f4 k_f5 k_f6 k_f7 k_f8 k_f9 k_f10 k_f11 k_f12 k_f13 k_f14 k_f15 k_f16 k_ftm k_fbh) (va_A ((xy__w xa xtape (nI tp) rd au xdr hy g (nI hs) tg sg (nI ss) rm ti py bu sm (nI nc) (nI np) (nI ne) st0 q4 q5 q6 q7 q8 q9 q10 q11 q12 q13 q14 q15 q16 k_f4 f4 k_f5 (bN 7 q_f5) k_f6 (bN 7 q_f6) k_f7 f7 k_f8 (bN 4 q_f8) k_f9 (bN 2 q_f9) k_f10 f10 k_f11 f11 k_f12 f12 k_f13 f13 k_f14 f14 k_f15 f15 k_f16 f16 (nI on) (nI si) ti0 tm bh k_ftm ftm k_fbh fbh)) sz) t ∧ (z_fbh = (sp_E_8_now ne f4 q_f5 q_f6 f7 q_f8 q_f9 f12 f13 on si ti0 ftm fbh p0).2)) (va_A ((xy__w xa xtape (nI tp) rd au xdr hy g (nI hs) tg sg (nI ss) rm ti py bu sm (nI nc) (nI np) (nI ne) st0 q4 q5 q6 q7 q8 q9 q10 q11 q12 q13 q14 q15 q16 k_f4 f4 k_f5 (bN 7 q_f5) k_f6 (bN 7 q_f6) k_f7 f7 k_f8 (bN 4 q_f8) k_f9 (bN 2 q_f9) k_f10 f10 k_f11 f11 k_f12 f12 k_f13 f13 k_f14 f14 k_f15 f15 k_f16 f16 (nI on) (nI si) ti0 tm bh k_ftm ftm k_fbh fbh)) sz)) 0 0 (va_A ((xy__w xa xtape (nI tp) rd au xdr hy g (nI hs) tg sg (nI ss) rm ti py bu sm (nI nc) (nI np) (nI ne) st0 q4 q5 q6 q7 q8 q9 q10 q11 q12 q13 q14 q15 q16 k_f4 f4 k_f5 (bN 7 q_f5) k_f6 (bN 7 q_f6) k_f7 f7 k_f8 (bN 4 q_f8) k_f9 (bN 2 q_f9) k_f10 f10 k_f11 f11 k_f12 f12 k_f13 f13 k_f14 f14 k_f15 f15 k_f16 f16 (nI on) (nI si) ti0 tm bh k_ftm ftm k_fbh fbh)) sz) := by
  refine Met.ofW (cc := cX8_now) (maxL := 2) (ret := (some .int)) (by decide) rfl ?_
  intro p e s m args below meth c s₁ B hml hv
  obtain ⟨rfl, rfl, hP, hK, hD0⟩ := hv
  have hx := B.exec
  have hb := B.bytes
  have hr := B.returns
  have hts := atoms_spec (ws := vs_E_8_now) B.pre
  have v_1 := hts (.fieldLink RX8 69 "ClockReach" "play" "LClockReach$Play;") (List.mem_cons_of_mem _ cm_447)
  have v_2 := hts (.fieldLink RX8 107 "ClockReach$Play" "on" "Z") (List.mem_cons_of_mem _ cm_448)
  have v_3 := hts (.fieldLink RX8 364 "ClockReach$Play" "site" "I") (List.mem_cons_of_mem _ cm_642)
  have v_4 := hts (.fieldLink RX8 382 "ClockReach$Play" "time" "I") (List.mem_cons_of_mem _ cm_653)
  have v_5 := hts (.fieldLink RX8 23 "ClockReach" "model" "LClockReach$Automaton;") (List.mem_cons_of_mem _ cm_434)
  have hown : s.vm.findClass RX8 = some m.cls := findClass_of_methodNamed B.named
  have hlocks := B.notSynchronized
  have hiX3 : ∀ w ∈ wsX30, w ∈ vs_E_8_now := fun _ h => List.mem_cons_of_mem _ (cm_X3 h)
  have hiX8 : ∀ w ∈ wsX80, w ∈ vs_E_8_now := fun _ h => List.mem_cons_of_mem _ (cm_X8 h)
  have hD := hD0.self (sz := s.heap.size)
  generalize hAe : va_A ((xy__w xa xtape (nI tp) rd au xdr hy g (nI hs) tg sg (nI ss) rm ti py bu sm (nI nc) (nI np) (nI ne) st0 q4 q5 q6 q7 q8 q9 q10 q11 q12 q13 q14 q15 q16 k_f4 f4 k_f5 (bN 7 q_f5) k_f6 (bN 7 q_f6) k_f7 f7 k_f8 (bN 4 q_f8) k_f9 (bN 2 q_f9) k_f10 f10 k_f11 f11 k_f12 f12 k_f13 f13 k_f14 f14 k_f15 f15 k_f16 f16 (nI on) (nI si) ti0 tm bh k_ftm ftm k_fbh fbh)) s.heap.size = A at hD ⊢
  have hA : ∀ q : Nat, s.heap.size ≤ q → A q := fun q h => by rw [← hAe]; exact Or.inr h
  have hS : va_S A s.heap s.heap [] := va_S.rf
  have hl := lv_entry ([.ref xa, .int p0]) (n := 2) (Nat.le_of_ble_eq_true rfl)
  rw [lg_entry_eq]
  generalize (lg_sl ([.ref xa, .int p0]) ++ List.replicate (2 - (lg_sl ([.ref xa, .int p0])).length) Slot.unset).toArray = ls at hl ⊢
  have hl : lv_has ls 2 [(0, .ref xa), (1, .int p0)] := hl
  obtain ⟨RR, hRR⟩ : ∃ x, x = (sp_E_8_now ne f4 q_f5 q_f6 f7 q_f8 q_f9 f12 f13 on si ti0 ftm fbh p0) := ⟨_, rfl⟩
  have hsp := hRR
  refine lv_aload_n hx hb eX8_now_0 rfl (lv_at hl 0 rfl) ?_
  refine va_get (D := (dC, dI)) (ci := 8) (v := .ref py) (C := RX8) (T := TX8) (N := 16) hx hb hts hiX8 hown hK hP 0 rfl rfl 13 (by decide) v_1 (fun _ h9 => h9) rfl eX8_now_1 ?_
  refine va_get (D := (dC, dI)) (ci := 3) (v := .int (nI on)) (C := RX3) (T := TX3) (N := 5) hx hb hts hiX3 hown hK hP 15 rfl rfl 0 (by decide) v_2 (fun _ h9 => h9) rfl eX8_now_4 ?_
  refine lv_if_ne (tgt := 12) hx hb eX8_now_7 (by decide) (fun c_1 => ?_) (fun c_1 => ?_)
  · have c_1 : ¬ on = 0 := fun z => c_1 ((nI_eq (a := on) (b := 0) (Nat.lt_of_le_of_lt hon (Nat.le_of_ble_eq_true rfl)) (Nat.le_of_ble_eq_true rfl)).mpr z)
    have hsp := hsp.trans (if_neg c_1)
    refine lv_iload_n hx hb eX8_now_12 rfl (lv_at hl 1 rfl) ?_
    by_cases w_2 : p0 = 0
    · subst w_2
      have hsp := hsp.trans (if_pos rfl)
      refine lv_tableIn (tgt := 44) (off := 31) hx hb eX8_now_13 (by decide) (by decide) rfl (by decide) ?_
      refine lv_aload_n hx hb eX8_now_44 rfl (lv_at hl 0 rfl) ?_
      refine va_get (D := (dC, dI)) (ci := 8) (v := .ref py) (C := RX8) (T := TX8) (N := 16) hx hb hts hiX8 hown hK hP 0 rfl rfl 13 (by decide) v_1 (fun _ h9 => h9) rfl eX8_now_45 ?_
      refine va_get (D := (dC, dI)) (ci := 3) (v := .int (nI si)) (C := RX3) (T := TX3) (N := 5) hx hb hts hiX3 hown hK hP 15 rfl rfl 1 (by decide) v_3 (fun _ h9 => h9) rfl eX8_now_48 ?_
      exact W.iret (v := (nI si)) hx hb hr (fun t ht hW => ⟨⟨(nI si), (), rfl, (congrArg Prod.fst (hsp.symm.trans hRR)), ⟨fbh, ⟨by rw [ht]; exact hP, va_K.moved hW.alike hK, hD⟩, (congrArg Prod.snd (hsp.symm.trans hRR))⟩⟩, hS.F ht⟩) hS.2.2 eX8_now_51
    have hsp := hsp.trans (if_neg w_2)
    by_cases w_3 : p0 = 1
    · subst w_3
      have hsp := hsp.trans (if_pos rfl)
      refine lv_tableIn (tgt := 52) (off := 39) hx hb eX8_now_13 (by decide) (by decide) rfl (by decide) ?_
      refine lv_aload_n hx hb eX8_now_52 rfl (lv_at hl 0 rfl) ?_
      refine va_get (D := (dC, dI)) (ci := 8) (v := .ref py) (C := RX8) (T := TX8) (N := 16) hx hb hts hiX8 hown hK hP 0 rfl rfl 13 (by decide) v_1 (fun _ h9 => h9) rfl eX8_now_53 ?_
      refine va_get (D := (dC, dI)) (ci := 3) (v := .int ti0) (C := RX3) (T := TX3) (N := 5) hx hb hts hiX3 hown hK hP 15 rfl rfl 2 (by decide) v_4 (fun _ h9 => h9) rfl eX8_now_56 ?_
      exact W.iret (v := ti0) hx hb hr (fun t ht hW => ⟨⟨ti0, (), rfl, (congrArg Prod.fst (hsp.symm.trans hRR)), ⟨fbh, ⟨by rw [ht]; exact hP, va_K.moved hW.alike hK, hD⟩, (congrArg Prod.snd (hsp.symm.trans hRR))⟩⟩, hS.F ht⟩) hS.2.2 eX8_now_59
    have hsp := hsp.trans (if_neg w_3)
    by_cases w_4 : p0 = 2
    · subst w_4
      have hsp := hsp.trans (if_pos rfl)
      refine lv_tableIn (tgt := 60) (off := 47) hx hb eX8_now_13 (by decide) (by decide) rfl (by decide) ?_
      refine lv_aload_n hx hb eX8_now_60 rfl (lv_at hl 0 rfl) ?_
      refine va_get (D := (dC, dI)) (ci := 8) (v := .ref py) (C := RX8) (T := TX8) (N := 16) hx hb hts hiX8 hown hK hP 0 rfl rfl 13 (by decide) v_1 (fun _ h9 => h9) rfl eX8_now_61 ?_
      refine lv_aload_n hx hb eX8_now_64 rfl (lv_at hl 0 rfl) ?_
      refine va_get (D := (dC, dI)) (ci := 8) (v := .ref au) (C := RX8) (T := TX8) (N := 16) hx hb hts hiX8 hown hK hP 0 rfl rfl 3 (by decide) v_5 (fun _ h9 => h9) rfl eX8_now_65 ?_
      have hPc : va_P (dC, dI) vwCl (pa__w py (nI on) (nI si) ti0 tm bh k_ftm ftm k_fbh fbh au (nI nc) (nI np) (nI ne) st0 q4 q5 q6 q7 q8 q9 q10 q11 q12 q13 q14 q15 q16 k_f4 f4 k_f5 (bN 7 q_f5) k_f6 (bN 7 q_f6) k_f7 f7 k_f8 (bN 4 q_f8) k_f9 (bN 2 q_f9) k_f10 f10 k_f11 f11 k_f12 f12 k_f13 f13 k_f14 f14 k_f15 f15 k_f16 f16) _ := hP.sub [15, 16, 17, 1, 2, 3, 4, 5, 6, 7, 8, 9, 10, 11, 12, 13, 14] rfl
      have hDc := hD.sub (ws' := (pa__w py (nI on) (nI si) ti0 tm bh k_ftm ftm k_fbh fbh au (nI nc) (nI np) (nI ne) st0 q4 q5 q6 q7 q8 q9 q10 q11 q12 q13 q14 q15 q16 k_f4 f4 k_f5 (bN 7 q_f5) k_f6 (bN 7 q_f6) k_f7 f7 k_f8 (bN 4 q_f8) k_f9 (bN 2 q_f9) k_f10 f10 k_f11 f11 k_f12 f12 k_f13 f13 k_f14 f14 k_f15 f15 k_f16 f16)) [15, 16, 17, 1, 2, 3, 4, 5, 6, 7, 8, 9, 10, 11, 12, 13, 14] (by decide) rfl
      have hKc : va_K (dC, dI) vwCl (pa__t k_ftm k_fbh k_f4 k_f5 k_f6 k_f7 k_f8 k_f9 k_f10 k_f11 k_f12 k_f13 k_f14 k_f15 k_f16) s := hK.sub [13, 14, 0, 1, 2, 3, 4, 5, 6, 7, 8, 9, 10, 11, 12] rfl
      have hFc := pu_free hDc hS hA
      refine va_calli (va_runV (As := [.ref au]) (rest := []) ⟨hx, hb, hml, hown, hts⟩ (c_E_3_openEdges l dC dI _ py on si ti0 tm bh k_ftm ftm k_fbh fbh au nc np ne st0 q4 q5 q6 q7 q8 q9 q10 q11 q12 q13 q14 q15 q16 k_f4 f4 k_f5 q_f5 k_f6 q_f6 k_f7 f7 k_f8 q_f8 k_f9 q_f9 k_f10 f10 k_f11 f11 k_f12 f12 k_f13 f13 k_f14 f14 k_f15 f15 k_f16 f16 hon hsi hnc hnp hne (hst0)) (cwV 1 hts g_E_8_now_E_3_openEdges rfl rfl rfl (by decide +kernel) ⟨Nat.le_of_ble_eq_true rfl, Nat.le_of_ble_eq_true rfl⟩) ⟨pu_bl, va_recv hK hP (ci := 3) (q0 := 15) rfl rfl, pu_in hPc hKc hDc⟩ rfl rfl hl.1 rfl (lv_room (Nat.le_of_ble_eq_true rfl)) eX8_now_68 ⟨Nat.le_of_ble_eq_true rfl, Nat.le_of_ble_eq_true rfl⟩) hS (fun q _ h => hFc q h) hFc (fun r_5 u t H1 locs ht hvm hw hB hz1 hk1 hS => ?_)
      obtain ⟨z_fbh_6, ⟨hP1, -, hD1⟩, xr_5_0⟩ := hB
      rw [ht] at hP1
      obtain ⟨hP, hD⟩ := pj_a (X := (xy__w xa xtape (nI tp) rd au xdr hy g (nI hs) tg sg (nI ss) rm ti py bu sm (nI nc) (nI np) (nI ne) st0 q4 q5 q6 q7 q8 q9 q10 q11 q12 q13 q14 q15 q16 k_f4 f4 k_f5 (bN 7 q_f5) k_f6 (bN 7 q_f6) k_f7 f7 k_f8 (bN 4 q_f8) k_f9 (bN 2 q_f9) k_f10 f10 k_f11 f11 k_f12 f12 k_f13 f13 k_f14 f14 k_f15 f15 k_f16 f16 (nI on) (nI si) ti0 tm bh k_ftm ftm k_fbh fbh)) (X' := (xy__w xa xtape (nI tp) rd au xdr hy g (nI hs) tg sg (nI ss) rm ti py bu sm (nI nc) (nI np) (nI ne) st0 q4 q5 q6 q7 q8 q9 q10 q11 q12 q13 q14 q15 q16 k_f4 f4 k_f5 (bN 7 q_f5) k_f6 (bN 7 q_f6) k_f7 f7 k_f8 (bN 4 q_f8) k_f9 (bN 2 q_f9) k_f10 f10 k_f11 f11 k_f12 f12 k_f13 f13 k_f14 f14 k_f15 f15 k_f16 f16 (nI on) (nI si) ti0 tm bh k_ftm ftm k_fbh z_fbh_6)) (wc := (pa__w py (nI on) (nI si) ti0 tm bh k_ftm ftm k_fbh fbh au (nI nc) (nI np) (nI ne) st0 q4 q5 q6 q7 q8 q9 q10 q11 q12 q13 q14 q15 q16 k_f4 f4 k_f5 (bN 7 q_f5) k_f6 (bN 7 q_f6) k_f7 f7 k_f8 (bN 4 q_f8) k_f9 (bN 2 q_f9) k_f10 f10 k_f11 f11 k_f12 f12 k_f13 f13 k_f14 f14 k_f15 f15 k_f16 f16)) (w1 := (pa__w py (nI on) (nI si) ti0 tm bh k_ftm ftm k_fbh z_fbh_6 au (nI nc) (nI np) (nI ne) st0 q4 q5 q6 q7 q8 q9 q10 q11 q12 q13 q14 q15 q16 k_f4 f4 k_f5 (bN 7 q_f5) k_f6 (bN 7 q_f6) k_f7 f7 k_f8 (bN 4 q_f8) k_f9 (bN 2 q_f9) k_f10 f10 k_f11 f11 k_f12 f12 k_f13 f13 k_f14 f14 k_f15 f15 k_f16 f16)) hP hD [15, 16, 17, 1, 2, 3, 4, 5, 6, 7, 8, 9, 10, 11, 12, 13, 14] [17, 3, 4, 5, 6, 7, 8, 9, 10, 11, 12, 13, 14, 15, 16, 0, 1, 2] 17 rfl hk1 hP1 rfl rfl rfl (by decide)
      clear hP1 hD1 hFc hPc hDc hKc
      clear hk1 hz1 ht hvm
      generalize H1 = H at hP hS ⊢
      have ir_5 := hw
      have ir_5 : (r_5, z_fbh_6) = (sp_E_3_openEdges si ftm fbh ne q_f5 q_f6 f7 q_f8 q_f9 f12 f13) := Prod.ext ir_5 xr_5_0
      have hsp := hsp.trans (slet_eq ir_5)
      exact W.iret (v := r_5) hx hb hr (fun t ht hW => ⟨⟨r_5, (), rfl, (congrArg Prod.fst (hsp.symm.trans hRR)), ⟨z_fbh_6, ⟨by rw [ht]; exact hP, va_K.moved hW.alike hK, hD⟩, (congrArg Prod.snd (hsp.symm.trans hRR))⟩⟩, hS.F ht⟩) hS.2.2 eX8_now_71
    have hsp := hsp.trans (if_neg w_4)
    by_cases w_7 : p0 = 3
    · subst w_7
      have hsp := hsp.trans (if_pos rfl)
      refine lv_tableIn (tgt := 72) (off := 59) hx hb eX8_now_13 (by decide) (by decide) rfl (by decide) ?_
      refine lv_aload_n hx hb eX8_now_72 rfl (lv_at hl 0 rfl) ?_
      refine va_get (D := (dC, dI)) (ci := 8) (v := .ref py) (C := RX8) (T := TX8) (N := 16) hx hb hts hiX8 hown hK hP 0 rfl rfl 13 (by decide) v_1 (fun _ h9 => h9) rfl eX8_now_73 ?_
      refine lv_aload_n hx hb eX8_now_76 rfl (lv_at hl 0 rfl) ?_
      refine va_get (D := (dC, dI)) (ci := 8) (v := .ref au) (C := RX8) (T := TX8) (N := 16) hx hb hts hiX8 hown hK hP 0 rfl rfl 3 (by decide) v_5 (fun _ h9 => h9) rfl eX8_now_77 ?_
      have hPc : va_P (dC, dI) vwCl (pa__w py (nI on) (nI si) ti0 tm bh k_ftm ftm k_fbh fbh au (nI nc) (nI np) (nI ne) st0 q4 q5 q6 q7 q8 q9 q10 q11 q12 q13 q14 q15 q16 k_f4 f4 k_f5 (bN 7 q_f5) k_f6 (bN 7 q_f6) k_f7 f7 k_f8 (bN 4 q_f8) k_f9 (bN 2 q_f9) k_f10 f10 k_f11 f11 k_f12 f12 k_f13 f13 k_f14 f14 k_f15 f15 k_f16 f16) _ := hP.sub [15, 16, 17, 1, 2, 3, 4, 5, 6, 7, 8, 9, 10, 11, 12, 13, 14] rfl
      have hDc := hD.sub (ws' := (pa__w py (nI on) (nI si) ti0 tm bh k_ftm ftm k_fbh fbh au (nI nc) (nI np) (nI ne) st0 q4 q5 q6 q7 q8 q9 q10 q11 q12 q13 q14 q15 q16 k_f4 f4 k_f5 (bN 7 q_f5) k_f6 (bN 7 q_f6) k_f7 f7 k_f8 (bN 4 q_f8) k_f9 (bN 2 q_f9) k_f10 f10 k_f11 f11 k_f12 f12 k_f13 f13 k_f14 f14 k_f15 f15 k_f16 f16)) [15, 16, 17, 1, 2, 3, 4, 5, 6, 7, 8, 9, 10, 11, 12, 13, 14] (by decide) rfl
      have hKc : va_K (dC, dI) vwCl (pa__t k_ftm k_fbh k_f4 k_f5 k_f6 k_f7 k_f8 k_f9 k_f10 k_f11 k_f12 k_f13 k_f14 k_f15 k_f16) s := hK.sub [13, 14, 0, 1, 2, 3, 4, 5, 6, 7, 8, 9, 10, 11, 12] rfl
      refine va_calli (va_runV (As := [.ref au]) (rest := []) ⟨hx, hb, hml, hown, hts⟩ (c_E_3_longestWait l dC dI _ py on si ti0 tm bh k_ftm ftm k_fbh fbh au nc np ne st0 q4 q5 q6 q7 q8 q9 q10 q11 q12 q13 q14 q15 q16 k_f4 f4 k_f5 q_f5 k_f6 q_f6 k_f7 f7 k_f8 q_f8 k_f9 q_f9 k_f10 f10 k_f11 f11 k_f12 f12 k_f13 f13 k_f14 f14 k_f15 f15 k_f16 f16 hon hsi hnc hnp hne (hst0)) (cwV 1 hts g_E_8_now_E_3_longestWait rfl rfl rfl (by decide +kernel) ⟨Nat.le_of_ble_eq_true rfl, Nat.le_of_ble_eq_true rfl⟩) ⟨pu_bl, va_recv hK hP (ci := 3) (q0 := 15) rfl rfl, pu_in hPc hKc hDc⟩ rfl rfl hl.1 rfl (lv_room (Nat.le_of_ble_eq_true rfl)) eX8_now_80 ⟨Nat.le_of_ble_eq_true rfl, Nat.le_of_ble_eq_true rfl⟩) hS (fun q _ h => pu_fr hS hA q h) (pu_fr hS hA) (fun r_8 u t H1 locs ht hvm hw hB hz1 hk1 hS => ?_)
      have hP := pu_keep hP hk1
      clear hk1 hz1 ht hvm
      generalize H1 = H at hP hS ⊢
      have ir_8 := hw
      have hsp := hsp.trans (slet_eq ir_8)
      exact W.iret (v := r_8) hx hb hr (fun t ht hW => ⟨⟨r_8, (), rfl, (congrArg Prod.fst (hsp.symm.trans hRR)), ⟨fbh, ⟨by rw [ht]; exact hP, va_K.moved hW.alike hK, hD⟩, (congrArg Prod.snd (hsp.symm.trans hRR))⟩⟩, hS.F ht⟩) hS.2.2 eX8_now_83
    have hsp := hsp.trans (if_neg w_7)
    refine lv_tableOut (tgt := 84) hx hb eX8_now_13 (by
        have zw_2 : Int32.toInt p0 ≠ 0 := fun g => w_2 ((fa_eq _ _).mpr g)
        have zw_3 : Int32.toInt p0 ≠ 1 := fun g => w_3 ((fa_eq _ _).mpr g)
        have zw_4 : Int32.toInt p0 ≠ 2 := fun g => w_4 ((fa_eq _ _).mpr g)
        have zw_7 : Int32.toInt p0 ≠ 3 := fun g => w_7 ((fa_eq _ _).mpr g)
        omega) (by decide) ?_
    refine lv_iconst (v := (-1)) hx hb eX8_now_84 (by decide) ?_
    exact W.iret (v := (-1)) hx hb hr (fun t ht hW => ⟨⟨(-1), (), rfl, (congrArg Prod.fst (hsp.symm.trans hRR)), ⟨fbh, ⟨by rw [ht]; exact hP, va_K.moved hW.alike hK, hD⟩, (congrArg Prod.snd (hsp.symm.trans hRR))⟩⟩, hS.F ht⟩) hS.2.2 eX8_now_85
  · have c_1 : on = 0 := (nI_eq (a := on) (b := 0) (Nat.lt_of_le_of_lt hon (Nat.le_of_ble_eq_true rfl)) (Nat.le_of_ble_eq_true rfl)).mp c_1
    have hsp := hsp.trans (if_pos c_1)
    refine lv_iconst (v := (-1)) hx hb eX8_now_10 (by decide) ?_
    exact W.iret (v := (-1)) hx hb hr (fun t ht hW => ⟨⟨(-1), (), rfl, (congrArg Prod.fst (hsp.symm.trans hRR)), ⟨fbh, ⟨by rw [ht]; exact hP, va_K.moved hW.alike hK, hD⟩, (congrArg Prod.snd (hsp.symm.trans hRR))⟩⟩, hS.F ht⟩) hS.2.2 eX8_now_11
theorem eX8_isState_0 : decode cX8_isState 0 = .ok (.aload_n 0, 1) := by decide +kernel
theorem eX8_isState_1 : decode cX8_isState 1 = .ok (.getfield 100, 3) := by decide +kernel
theorem eX8_isState_4 : decode cX8_isState 4 = .ok (.ifCond .eq 22, 3) := by decide +kernel
theorem eX8_isState_7 : decode cX8_isState 7 = .ok (.iload_n 1, 1) := by decide +kernel
theorem eX8_isState_8 : decode cX8_isState 8 = .ok (.ifCond .lt 18, 3) := by decide +kernel
theorem eX8_isState_11 : decode cX8_isState 11 = .ok (.iload_n 1, 1) := by decide +kernel
theorem eX8_isState_12 : decode cX8_isState 12 = .ok (.aload_n 0, 1) := by decide +kernel
theorem eX8_isState_13 : decode cX8_isState 13 = .ok (.getfield 42, 3) := by decide +kernel
theorem eX8_isState_16 : decode cX8_isState 16 = .ok (.getfield 129, 3) := by decide +kernel
theorem eX8_isState_19 : decode cX8_isState 19 = .ok (.if_icmp .ge 7, 3) := by decide +kernel
theorem eX8_isState_22 : decode cX8_isState 22 = .ok (.iconst 1, 1) := by decide +kernel
theorem eX8_isState_23 : decode cX8_isState 23 = .ok (.goto 4, 3) := by decide +kernel
theorem eX8_isState_26 : decode cX8_isState 26 = .ok (.iconst 0, 1) := by decide +kernel
theorem eX8_isState_27 : decode cX8_isState 27 = .ok (.ireturn, 1) := by decide +kernel
abbrev vs_E_8_isState_k : List Cond := .code yX8_isState cX8_isState 2 (some .boolean) :: CM
noncomputable def sp_E_8_isState_k (hs : Nat) (gc : Nat) (a0 : Nat) : Nat := (if hs = 0 then 0 else (if gc ≤ a0 then 0 else 1))
set_option maxHeartbeats 4000000 in
set_option maxRecDepth 100000 in
theorem c_E_8_isState_k (l : Launch) (dC : Nat → ClassId) (dI : Nat → Nat → Nat) (sz : Nat) (xa : Nat) (xtape : Nat) (tp : Nat) (rd : Nat) (au : Nat) (xdr : Nat) (hy : Nat) (g : Nat) (hs : Nat) (tg : Nat) (sg : Nat) (ss : Nat) (rm : Nat) (ti : Nat) (py : Nat) (bu : Nat) (sm : Nat) (gz : Nat) (g1 : Nat) (g2 : Nat) (g3 : Nat) (g4 : Nat) (g5 : Nat) (gc : Nat) (gfull : Nat) (gx : Int32) (gway : Int32) (gav : Int32) (ggoal : Int32) (gfound : Nat) (gl : Nat) (gsz : Nat) (g16 : Nat) (g17 : Nat) (a0 : Nat) (htp : tp ≤ 900) (hhs : hs ≤ 1) (hss : ss ≤ 1) (hgc : gc ≤ 120) (hgfull : gfull ≤ 1) (hgfound : gfound ≤ 1) (hgl : gl ≤ 1) (hgsz : gsz ≤ 4) (ha0 : a0 ≤ 119) : Met l yX8_isState vs_E_8_isState_k ({ frames := 0, cells := 0, slots := 0, locals := 0 }) (va_Pc [.ref xa, .int (nI a0)] (pu_B (dC, dI) (xg0__w xa xtape (nI tp) rd au xdr hy g (nI hs) tg sg (nI ss) rm ti py bu sm gz g1 g2 g3 g4 g5 (nI gc) (nI gfull) gx gway gav ggoal (nI gfound) 120 (nI gl) (nI gsz) g16 g17) (xg0__t ) sz)) (va_Qi (fun (r : Int32) (_ : Unit) => ∃ v : Nat, v ≤ 1 ∧ r = nI v ∧ v = (sp_E_8_isState_k hs gc a0)) (fun _ _ => True) (va_A [] sz)) 0 0 (va_A [] sz) := by
  refine Met.ofW (cc := cX8_isState) (maxL := 2) (ret := (some .boolean)) (by decide) rfl ?_
  intro p e s m args below meth c s₁ B hml hv
  obtain ⟨rfl, rfl, hP, hK, hD0⟩ := hv
  have hx := B.exec
  have hb := B.bytes
  have hr := B.returns
  have hts := atoms_spec (ws := vs_E_8_isState_k) B.pre
  have v_1 := hts (.fieldLink RX8 100 "ClockReach" "hasShown" "Z") (List.mem_cons_of_mem _ cm_445)
  have v_2 := hts (.fieldLink RX8 42 "ClockReach" "shown" "LClockReach$Graph;") (List.mem_cons_of_mem _ cm_456)
  have v_3 := hts (.fieldLink RX8 129 "ClockReach$Graph" "count" "I") (List.mem_cons_of_mem _ cm_457)
  have hown : s.vm.findClass RX8 = some m.cls := findClass_of_methodNamed B.named
  have hlocks := B.notSynchronized
  have hiX1 : ∀ w ∈ wsX10, w ∈ vs_E_8_isState_k := fun _ h => List.mem_cons_of_mem _ (cm_X1 h)
  have hiX8 : ∀ w ∈ wsX80, w ∈ vs_E_8_isState_k := fun _ h => List.mem_cons_of_mem _ (cm_X8 h)
  have hD := hD0
  have hA : ∀ q : Nat, s.heap.size ≤ q → va_A [] s.heap.size q := fun _ h => Or.inr h
  have hS : va_S (va_A [] s.heap.size) s.heap s.heap [] := va_S.rf
  have hl := lv_entry ([.ref xa, .int (nI a0)]) (n := 2) (Nat.le_of_ble_eq_true rfl)
  rw [lg_entry_eq]
  generalize (lg_sl ([.ref xa, .int (nI a0)]) ++ List.replicate (2 - (lg_sl ([.ref xa, .int (nI a0)])).length) Slot.unset).toArray = ls at hl ⊢
  have hl : lv_has ls 2 [(0, .ref xa), (1, .int (nI a0))] := hl
  obtain ⟨RR, hRR⟩ : ∃ x, x = (sp_E_8_isState_k hs gc a0) := ⟨_, rfl⟩
  have hsp := hRR
  refine lv_aload_n hx hb eX8_isState_0 rfl (lv_at hl 0 rfl) ?_
  refine va_get (D := (dC, dI)) (ci := 8) (v := .int (nI hs)) (C := RX8) (T := TX8) (N := 16) hx hb hts hiX8 hown hK hP 0 rfl rfl 7 (by decide) v_1 (fun _ h9 => h9) rfl eX8_isState_1 ?_
  refine lv_if_eq (tgt := 26) hx hb eX8_isState_4 (by decide) (fun c_1 => ?_) (fun c_1 => ?_)
  · have c_1 : hs = 0 := (nI_eq (a := hs) (b := 0) (Nat.lt_of_le_of_lt hhs (Nat.le_of_ble_eq_true rfl)) (Nat.le_of_ble_eq_true rfl)).mp c_1
    have hsp := hsp.trans (if_pos c_1)
    refine lv_iconst (v := 0) hx hb eX8_isState_26 (by decide) ?_
    exact W.zret (v := 0) (ty := .boolean) hx hb hr (rfl) (fun t ht hW => ⟨⟨0, (), rfl, ⟨0, (Nat.le_of_ble_eq_true rfl), rfl, (hsp.symm.trans hRR)⟩, trivial⟩, hS.F ht⟩) hS.2.2 eX8_isState_27
  · have c_1 : ¬ hs = 0 := fun z => c_1 ((nI_eq (a := hs) (b := 0) (Nat.lt_of_le_of_lt hhs (Nat.le_of_ble_eq_true rfl)) (Nat.le_of_ble_eq_true rfl)).mpr z)
    have hsp := hsp.trans (if_neg c_1)
    refine lv_iload_n hx hb eX8_isState_7 rfl (lv_at hl 1 rfl) ?_
    refine lv_if_lt (tgt := 26) hx hb eX8_isState_8 (by decide) (fun c_2 => ?_) (fun c_2 => ?_)
    · have c_2 : a0 < 0 := (nI_ltI (a := a0) (b := 0) (Nat.lt_of_le_of_lt ha0 (Nat.le_of_ble_eq_true rfl)) (Nat.le_of_ble_eq_true rfl)).mp c_2
      exfalso
      omega
    · have c_2 : ¬ a0 < 0 := fun z => c_2 ((nI_ltI (a := a0) (b := 0) (Nat.lt_of_le_of_lt ha0 (Nat.le_of_ble_eq_true rfl)) (Nat.le_of_ble_eq_true rfl)).mpr z)
      refine lv_iload_n hx hb eX8_isState_11 rfl (lv_at hl 1 rfl) ?_
      refine lv_aload_n hx hb eX8_isState_12 rfl (lv_at hl 0 rfl) ?_
      refine va_get (D := (dC, dI)) (ci := 8) (v := .ref g) (C := RX8) (T := TX8) (N := 16) hx hb hts hiX8 hown hK hP 0 rfl rfl 6 (by decide) v_2 (fun _ h9 => h9) rfl eX8_isState_13 ?_
      refine va_get (D := (dC, dI)) (ci := 1) (v := .int (nI gc)) (C := RX1) (T := TX1) (N := 18) hx hb hts hiX1 hown hK hP 1 rfl rfl 6 (by decide) v_3 (fun _ h9 => h9) rfl eX8_isState_16 ?_
      refine lv_icmp_ge (tgt := 26) hx hb eX8_isState_19 (by decide) (fun c_3 => ?_) (fun c_3 => ?_)
      · have c_3 : gc ≤ a0 := (nI_leI (a := gc) (b := a0) (Nat.lt_of_le_of_lt hgc (Nat.le_of_ble_eq_true rfl)) (Nat.lt_of_le_of_lt ha0 (Nat.le_of_ble_eq_true rfl))).mp c_3
        have hsp := hsp.trans (if_pos c_3)
        refine lv_iconst (v := 0) hx hb eX8_isState_26 (by decide) ?_
        exact W.zret (v := 0) (ty := .boolean) hx hb hr (rfl) (fun t ht hW => ⟨⟨0, (), rfl, ⟨0, (Nat.le_of_ble_eq_true rfl), rfl, (hsp.symm.trans hRR)⟩, trivial⟩, hS.F ht⟩) hS.2.2 eX8_isState_27
      · have c_3 : ¬ gc ≤ a0 := fun z => c_3 ((nI_leI (a := gc) (b := a0) (Nat.lt_of_le_of_lt hgc (Nat.le_of_ble_eq_true rfl)) (Nat.lt_of_le_of_lt ha0 (Nat.le_of_ble_eq_true rfl))).mpr z)
        have hsp := hsp.trans (if_neg c_3)
        refine lv_iconst (v := 1) hx hb eX8_isState_22 (by decide) ?_
        refine lv_goto (tgt := 27) hx hb eX8_isState_23 (by decide) ?_
        exact W.zret (v := 1) (ty := .boolean) hx hb hr (rfl) (fun t ht hW => ⟨⟨1, (), rfl, ⟨1, (Nat.le_of_ble_eq_true rfl), rfl, (hsp.symm.trans hRR)⟩, trivial⟩, hS.F ht⟩) hS.2.2 eX8_isState_27
abbrev vs_E_8_isState : List Cond := .code yX8_isState cX8_isState 2 (some .boolean) :: CM
noncomputable def sp_E_8_isState (hs : Nat) (gc : Nat) (p0 : Int32) : Unit := (if hs = 0 then () else (if (p0 : Int32) < 0 then () else (if ((nI gc) : Int32) ≤ p0 then () else (slet ((p0 : Int32).toNatClampNeg) (fun n_4 => ())))))
set_option maxHeartbeats 4000000 in
set_option maxRecDepth 100000 in
theorem c_E_8_isState (l : Launch) (dC : Nat → ClassId) (dI : Nat → Nat → Nat) (sz : Nat) (xa : Nat) (xtape : Nat) (tp : Nat) (rd : Nat) (au : Nat) (xdr : Nat) (hy : Nat) (g : Nat) (hs : Nat) (tg : Nat) (sg : Nat) (ss : Nat) (rm : Nat) (ti : Nat) (py : Nat) (bu : Nat) (sm : Nat) (gz : Nat) (g1 : Nat) (g2 : Nat) (g3 : Nat) (g4 : Nat) (g5 : Nat) (gc : Nat) (gfull : Nat) (gx : Int32) (gway : Int32) (gav : Int32) (ggoal : Int32) (gfound : Nat) (gl : Nat) (gsz : Nat) (g16 : Nat) (g17 : Nat) (p0 : Int32) (htp : tp ≤ 900) (hhs : hs ≤ 1) (hss : ss ≤ 1) (hgc : gc ≤ 120) (hgfull : gfull ≤ 1) (hgfound : gfound ≤ 1) (hgl : gl ≤ 1) (hgsz : gsz ≤ 4) : Met l yX8_isState vs_E_8_isState ({ frames := 0, cells := 0, slots := 0, locals := 0 }) (va_Pc [.ref xa, .int p0] (pu_B (dC, dI) (xg0__w xa xtape (nI tp) rd au xdr hy g (nI hs) tg sg (nI ss) rm ti py bu sm gz g1 g2 g3 g4 g5 (nI gc) (nI gfull) gx gway gav ggoal (nI gfound) 120 (nI gl) (nI gsz) g16 g17) (xg0__t ) sz)) (va_Qi (fun (r : Int32) (_ : Unit) => (r = 1 ∧ hs = 1 ∧ ∃ q : Nat, q < gc ∧ p0 = nI q) ∨ (r = 0 ∧ ¬ (hs = 1 ∧ (0 : Int32) ≤ p0 ∧ p0 < nI gc))) (fun _ _ => True) (va_A [] sz)) 0 0 (va_A [] sz) := by
  refine Met.ofW (cc := cX8_isState) (maxL := 2) (ret := (some .boolean)) (by decide) rfl ?_
  intro p e s m args below meth c s₁ B hml hv
  obtain ⟨rfl, rfl, hP, hK, hD0⟩ := hv
  have hx := B.exec
  have hb := B.bytes
  have hr := B.returns
  have hts := atoms_spec (ws := vs_E_8_isState) B.pre
  have v_1 := hts (.fieldLink RX8 100 "ClockReach" "hasShown" "Z") (List.mem_cons_of_mem _ cm_445)
  have v_2 := hts (.fieldLink RX8 42 "ClockReach" "shown" "LClockReach$Graph;") (List.mem_cons_of_mem _ cm_456)
  have v_3 := hts (.fieldLink RX8 129 "ClockReach$Graph" "count" "I") (List.mem_cons_of_mem _ cm_457)
  have hown : s.vm.findClass RX8 = some m.cls := findClass_of_methodNamed B.named
  have hlocks := B.notSynchronized
  have hiX1 : ∀ w ∈ wsX10, w ∈ vs_E_8_isState := fun _ h => List.mem_cons_of_mem _ (cm_X1 h)
  have hiX8 : ∀ w ∈ wsX80, w ∈ vs_E_8_isState := fun _ h => List.mem_cons_of_mem _ (cm_X8 h)
  have hD := hD0
  have hA : ∀ q : Nat, s.heap.size ≤ q → va_A [] s.heap.size q := fun _ h => Or.inr h
  have hS : va_S (va_A [] s.heap.size) s.heap s.heap [] := va_S.rf
  have hl := lv_entry ([.ref xa, .int p0]) (n := 2) (Nat.le_of_ble_eq_true rfl)
  rw [lg_entry_eq]
  generalize (lg_sl ([.ref xa, .int p0]) ++ List.replicate (2 - (lg_sl ([.ref xa, .int p0])).length) Slot.unset).toArray = ls at hl ⊢
  have hl : lv_has ls 2 [(0, .ref xa), (1, .int p0)] := hl
  obtain ⟨RR, hRR⟩ : ∃ x, x = (sp_E_8_isState hs gc p0) := ⟨_, rfl⟩
  have hsp := hRR
  refine lv_aload_n hx hb eX8_isState_0 rfl (lv_at hl 0 rfl) ?_
  refine va_get (D := (dC, dI)) (ci := 8) (v := .int (nI hs)) (C := RX8) (T := TX8) (N := 16) hx hb hts hiX8 hown hK hP 0 rfl rfl 7 (by decide) v_1 (fun _ h9 => h9) rfl eX8_isState_1 ?_
  refine lv_if_eq (tgt := 26) hx hb eX8_isState_4 (by decide) (fun c_1 => ?_) (fun c_1 => ?_)
  · have c_1 : hs = 0 := (nI_eq (a := hs) (b := 0) (Nat.lt_of_le_of_lt hhs (Nat.le_of_ble_eq_true rfl)) (Nat.le_of_ble_eq_true rfl)).mp c_1
    have hsp := hsp.trans (if_pos c_1)
    refine lv_iconst (v := 0) hx hb eX8_isState_26 (by decide) ?_
    exact W.zret (v := 0) (ty := .boolean) hx hb hr (rfl) (fun t ht hW => ⟨⟨0, (), rfl, Or.inr ⟨rfl, by first | exact fun z => absurd z.1 (by omega) | exact fun z => absurd z.2.1 (Int32.not_le.mpr (by assumption)) | exact fun z => absurd z.2.2 (Int32.not_lt.mpr (by assumption))⟩, trivial⟩, hS.F ht⟩) hS.2.2 eX8_isState_27
  · have c_1 : ¬ hs = 0 := fun z => c_1 ((nI_eq (a := hs) (b := 0) (Nat.lt_of_le_of_lt hhs (Nat.le_of_ble_eq_true rfl)) (Nat.le_of_ble_eq_true rfl)).mpr z)
    have hsp := hsp.trans (if_neg c_1)
    refine lv_iload_n hx hb eX8_isState_7 rfl (lv_at hl 1 rfl) ?_
    refine lv_if_lt (tgt := 26) hx hb eX8_isState_8 (by decide) (fun c_2 => ?_) (fun c_2 => ?_)
    · have hcc_2 := c_2
      have hsp := hsp.trans (if_pos c_2)
      refine lv_iconst (v := 0) hx hb eX8_isState_26 (by decide) ?_
      exact W.zret (v := 0) (ty := .boolean) hx hb hr (rfl) (fun t ht hW => ⟨⟨0, (), rfl, Or.inr ⟨rfl, by first | exact fun z => absurd z.1 (by omega) | exact fun z => absurd z.2.1 (Int32.not_le.mpr (by assumption)) | exact fun z => absurd z.2.2 (Int32.not_lt.mpr (by assumption))⟩, trivial⟩, hS.F ht⟩) hS.2.2 eX8_isState_27
    · have hcc_2 := c_2
      have hsp := hsp.trans (if_neg c_2)
      have lp0 : ¬ p0 < 0 := c_2
      refine lv_iload_n hx hb eX8_isState_11 rfl (lv_at hl 1 rfl) ?_
      refine lv_aload_n hx hb eX8_isState_12 rfl (lv_at hl 0 rfl) ?_
      refine va_get (D := (dC, dI)) (ci := 8) (v := .ref g) (C := RX8) (T := TX8) (N := 16) hx hb hts hiX8 hown hK hP 0 rfl rfl 6 (by decide) v_2 (fun _ h9 => h9) rfl eX8_isState_13 ?_
      refine va_get (D := (dC, dI)) (ci := 1) (v := .int (nI gc)) (C := RX1) (T := TX1) (N := 18) hx hb hts hiX1 hown hK hP 1 rfl rfl 6 (by decide) v_3 (fun _ h9 => h9) rfl eX8_isState_16 ?_
      refine lv_icmp_ge (tgt := 26) hx hb eX8_isState_19 (by decide) (fun c_3 => ?_) (fun c_3 => ?_)
      · have hcc_3 := c_3
        have hsp := hsp.trans (if_pos c_3)
        refine lv_iconst (v := 0) hx hb eX8_isState_26 (by decide) ?_
        exact W.zret (v := 0) (ty := .boolean) hx hb hr (rfl) (fun t ht hW => ⟨⟨0, (), rfl, Or.inr ⟨rfl, by first | exact fun z => absurd z.1 (by omega) | exact fun z => absurd z.2.1 (Int32.not_le.mpr (by assumption)) | exact fun z => absurd z.2.2 (Int32.not_lt.mpr (by assumption))⟩, trivial⟩, hS.F ht⟩) hS.2.2 eX8_isState_27
      · have hcc_3 := c_3
        have hsp := hsp.trans (if_neg c_3)
        obtain ⟨n_4, hn_4, rfl⟩ := pu_ult (b := gc) (by omega) lp0 (Int32.not_le.mp c_3)
        have hsp := hsp.trans (slet_eq (nI_cl (n := n_4) (by omega)))
        refine lv_iconst (v := 1) hx hb eX8_isState_22 (by decide) ?_
        refine lv_goto (tgt := 27) hx hb eX8_isState_23 (by decide) ?_
        exact W.zret (v := 1) (ty := .boolean) hx hb hr (rfl) (fun t ht hW => ⟨⟨1, (), rfl, Or.inl ⟨rfl, by omega, n_4, by omega, rfl⟩, trivial⟩, hS.F ht⟩) hS.2.2 eX8_isState_27
theorem eX8_beginAtZero_0 : decode cX8_beginAtZero 0 = .ok (.iconst 0, 1) := by decide +kernel
theorem eX8_beginAtZero_1 : decode cX8_beginAtZero 1 = .ok (.istore_n 2, 1) := by decide +kernel
theorem eX8_beginAtZero_2 : decode cX8_beginAtZero 2 = .ok (.iload_n 2, 1) := by decide +kernel
theorem eX8_beginAtZero_3 : decode cX8_beginAtZero 3 = .ok (.aload_n 0, 1) := by decide +kernel
theorem eX8_beginAtZero_4 : decode cX8_beginAtZero 4 = .ok (.getfield 73, 3) := by decide +kernel
theorem eX8_beginAtZero_7 : decode cX8_beginAtZero 7 = .ok (.arraylength, 1) := by decide +kernel
theorem eX8_beginAtZero_8 : decode cX8_beginAtZero 8 = .ok (.if_icmp .ge 16, 3) := by decide +kernel
theorem eX8_beginAtZero_11 : decode cX8_beginAtZero 11 = .ok (.aload_n 0, 1) := by decide +kernel
theorem eX8_beginAtZero_12 : decode cX8_beginAtZero 12 = .ok (.getfield 73, 3) := by decide +kernel
theorem eX8_beginAtZero_15 : decode cX8_beginAtZero 15 = .ok (.iload_n 2, 1) := by decide +kernel
theorem eX8_beginAtZero_16 : decode cX8_beginAtZero 16 = .ok (.iconst 0, 1) := by decide +kernel
theorem eX8_beginAtZero_17 : decode cX8_beginAtZero 17 = .ok (.iastore, 1) := by decide +kernel
theorem eX8_beginAtZero_18 : decode cX8_beginAtZero 18 = .ok (.iinc 2 1, 3) := by decide +kernel
theorem eX8_beginAtZero_21 : decode cX8_beginAtZero 21 = .ok (.goto (-19), 3) := by decide +kernel
theorem eX8_beginAtZero_24 : decode cX8_beginAtZero 24 = .ok (.aload_n 1, 1) := by decide +kernel
theorem eX8_beginAtZero_25 : decode cX8_beginAtZero 25 = .ok (.aload_n 0, 1) := by decide +kernel
theorem eX8_beginAtZero_26 : decode cX8_beginAtZero 26 = .ok (.getfield 23, 3) := by decide +kernel
theorem eX8_beginAtZero_29 : decode cX8_beginAtZero 29 = .ok (.aload_n 0, 1) := by decide +kernel
theorem eX8_beginAtZero_30 : decode cX8_beginAtZero 30 = .ok (.getfield 23, 3) := by decide +kernel
theorem eX8_beginAtZero_33 : decode cX8_beginAtZero 33 = .ok (.getfield 122, 3) := by decide +kernel
theorem eX8_beginAtZero_36 : decode cX8_beginAtZero 36 = .ok (.aload_n 0, 1) := by decide +kernel
theorem eX8_beginAtZero_37 : decode cX8_beginAtZero 37 = .ok (.getfield 73, 3) := by decide +kernel
theorem eX8_beginAtZero_40 : decode cX8_beginAtZero 40 = .ok (.invokevirtual 224, 3) := by decide +kernel
theorem eX8_beginAtZero_43 : decode cX8_beginAtZero 43 = .ok (.return_, 1) := by decide +kernel
abbrev vs_E_8_beginAtZero_16 : List Cond := .code yX8_beginAtZero cX8_beginAtZero 3 none :: CM
theorem g_E_8_beginAtZero_16_E_1_open_16 : GoodIn vs_E_8_beginAtZero_16 (wsV RX8 224 RX1 yX1_open vs_E_1_open_16) := cm_gV cm_524 cm_525 cm_526 cm_113 cm_88
noncomputable def sp_E_8_beginAtZero_16_L1 (st0 : Nat) (f4 : Nat → Int32) (q_f8 : Nat → Nat) (q_f9 : Nat → Nat) (f12 : Nat → Int32) (f13 : Nat → Int32) (gxway : Int32) (gxav : Int32) (gxgoal : Int32) (gxfound : Nat) (gxsz : Nat) (q_s1gx : Nat → Nat) (s2gx : Nat → Int32) (s3gx : Nat → Int32) (s4gx : Nat → Int32) (s5gx : Nat → Int32) (higx : Nat → Int32) (logx : Nat → Int32) (o : Nat) (qs : Nat → Nat) (fz : Nat → Nat → Int32) : ((Nat → Int32) × Nat) → ((Nat → Int32) × Nat) ⊕ ((Nat → Nat) × (Nat → Int32) × (Nat → Int32) × (Nat → Int32) × (Nat → Int32) × (Nat → Int32) × Nat × Nat × Nat × Int32 × (Nat → Nat → Int32) × (Nat → Nat)) := fun (g_3, g_4) => (if 5 ≤ g_4 then (Sum.inr (slet (sp_E_1_open_16 gxway gxav gxgoal gxfound gxsz q_s1gx s2gx s3gx s4gx s5gx higx logx f4 q_f8 q_f9 f12 f13 g_3 o qs fz st0) (fun (z_fs1_13, z_fs2_14, z_fs3_15, z_fs4_16, z_fs5_17, z_gfound_18, z_gc_19, z_gfull_20, z_gx_21, z_fz_22, z_qs_23) => (z_fs1_13, z_fs2_14, z_fs3_15, z_fs4_16, z_fs5_17, g_3, z_gfound_18, z_gc_19, z_gfull_20, z_gx_21, z_fz_22, z_qs_23)))) else (slet (upd g_3 g_4 0) (fun f_24 => (Sum.inl (f_24, (g_4 + 1))))))
noncomputable def sp_E_8_beginAtZero_16 (st0 : Nat) (f4 : Nat → Int32) (q_f8 : Nat → Nat) (q_f9 : Nat → Nat) (f12 : Nat → Int32) (f13 : Nat → Int32) (gxway : Int32) (gxav : Int32) (gxgoal : Int32) (gxfound : Nat) (gxsz : Nat) (q_s1gx : Nat → Nat) (s2gx : Nat → Int32) (s3gx : Nat → Int32) (s4gx : Nat → Int32) (s5gx : Nat → Int32) (higx : Nat → Int32) (logx : Nat → Int32) (fbu : Nat → Int32) (o : Nat) (qs : Nat → Nat) (fz : Nat → Nat → Int32) : (Nat → Nat) × (Nat → Int32) × (Nat → Int32) × (Nat → Int32) × (Nat → Int32) × (Nat → Int32) × Nat × Nat × Nat × Int32 × (Nat → Nat → Int32) × (Nat → Nat) := (itrv (α := (Nat → Int32) × Nat) (β := ((Nat → Nat) × (Nat → Int32) × (Nat → Int32) × (Nat → Int32) × (Nat → Int32) × (Nat → Int32) × Nat × Nat × Nat × Int32 × (Nat → Nat → Int32) × (Nat → Nat))) default (sp_E_8_beginAtZero_16_L1 st0 f4 q_f8 q_f9 f12 f13 gxway gxav gxgoal gxfound gxsz q_s1gx s2gx s3gx s4gx s5gx higx logx o qs fz) (fbu, 0))
set_option maxHeartbeats 4000000 in
set_option maxRecDepth 100000 in
theorem c_E_8_beginAtZero_16 (l : Launch) (dC : Nat → ClassId) (dI : Nat → Nat → Nat) (sz : Nat) (xa : Nat) (xtape : Nat) (tp : Nat) (rd : Nat) (au : Nat) (xdr : Nat) (hy : Nat) (g : Nat) (hs : Nat) (tg : Nat) (sg : Nat) (ss : Nat) (rm : Nat) (ti : Nat) (py : Nat) (bu : Nat) (sm : Nat) (nc : Nat) (np : Nat) (ne : Nat) (st0 : Nat) (q4 : Nat) (q5 : Nat) (q6 : Nat) (q7 : Nat) (q8 : Nat) (q9 : Nat) (q10 : Nat) (q11 : Nat) (q12 : Nat) (q13 : Nat) (q14 : Nat) (q15 : Nat) (q16 : Nat) (k_f4 : ClassId) (f4 : Nat → Int32) (k_f5 : ClassId) (q_f5 : Nat → Nat) (k_f6 : ClassId) (q_f6 : Nat → Nat) (k_f7 : ClassId) (f7 : Nat → Int32) (k_f8 : ClassId) (q_f8 : Nat → Nat) (k_f9 : ClassId) (q_f9 : Nat → Nat) (k_f10 : ClassId) (f10 : Nat → Int32) (k_f11 : ClassId) (f11 : Nat → Int32) (k_f12 : ClassId) (f12 : Nat → Int32) (k_f13 : ClassId) (f13 : Nat → Int32) (k_f14 : ClassId) (f14 : Nat → Int32) (k_f15 : ClassId) (f15 : Nat → Int32) (k_f16 : ClassId) (f16 : Nat → Int32) (gx : Nat) (gxz : Nat) (gx1 : Nat) (gx2 : Nat) (gx3 : Nat) (gx4 : Nat) (gx5 : Nat) (gxc : Nat) (gxfull : Nat) (gxx : Int32) (gxway : Int32) (gxav : Int32) (gxgoal : Int32) (gxfound : Nat) (gxl : Nat) (gxsz : Nat) (gx16 : Nat) (gx17 : Nat) (k_fgxz : ClassId) (k_s1gx : ClassId) (q_s1gx : Nat → Nat) (k_s2gx : ClassId) (s2gx : Nat → Int32) (k_s3gx : ClassId) (s3gx : Nat → Int32) (k_s4gx : ClassId) (s4gx : Nat → Int32) (k_s5gx : ClassId) (s5gx : Nat → Int32) (k_higx : ClassId) (higx : Nat → Int32) (k_logx : ClassId) (logx : Nat → Int32) (k_fbu : ClassId) (fbu : Nat → Int32) (N : Nat) (o : Nat) (az ac : Nat → Nat) (kz : Nat → ClassId) (qs : Nat → Nat) (fz : Nat → Nat → Int32) (htp : tp ≤ 900) (hhs : hs ≤ 1) (hss : ss ≤ 1) (hnc : nc ≤ 3) (hnp : np ≤ 8) (hne : ne ≤ 14) (hst0 : st0 ≤ 7) (hgxc : gxc ≤ 120) (hgxfull : gxfull ≤ 1) (hgxfound : gxfound ≤ 1) (hgxl : gxl ≤ 1) (hgxsz : gxsz ≤ 4) (hN : o + 121 ≤ N) : Met l yX8_beginAtZero vs_E_8_beginAtZero_16 ({ frames := 4, cells := 0, slots := 0, locals := 101 }) (va_Pc [.ref xa, .ref gx] (pu_B (dC, dI) ((xb16__w xa xtape (nI tp) rd au xdr hy g (nI hs) tg sg (nI ss) rm ti py bu sm (nI nc) (nI np) (nI ne) (nI st0) q4 q5 q6 q7 q8 q9 q10 q11 q12 q13 q14 q15 q16 k_f4 f4 k_f5 (bN 7 q_f5) k_f6 (bN 7 q_f6) k_f7 f7 k_f8 (bN 4 q_f8) k_f9 (bN 2 q_f9) k_f10 f10 k_f11 f11 k_f12 f12 k_f13 f13 k_f14 f14 k_f15 f15 k_f16 f16 gx gxz gx1 gx2 gx3 gx4 gx5 (nI gxc) (nI gxfull) gxx gxway gxav gxgoal (nI gxfound) 120 (nI gxl) (nI gxsz) gx16 gx17 k_fgxz (zs o 121 az) k_s1gx (bN 7 q_s1gx) k_s2gx s2gx k_s3gx s3gx k_s4gx s4gx k_s5gx s5gx k_higx higx k_logx logx k_fbu fbu) ++ zp 4 16 N az ac kz qs fz) ((xb16__t k_f4 k_f5 k_f6 k_f7 k_f8 k_f9 k_f10 k_f11 k_f12 k_f13 k_f14 k_f15 k_f16 k_fgxz k_s1gx k_s2gx k_s3gx k_s4gx k_s5gx k_higx k_logx k_fbu) ++ zt N kz) sz)) (va_Qv (fun (_ : Unit) => True) (fun _ t => ∃ (z_s1gx : Nat → Nat) (z_s2gx : Nat → Int32) (z_s3gx : Nat → Int32) (z_s4gx : Nat → Int32) (z_s5gx : Nat → Int32) (z_fbu : Nat → Int32) (z_gxfound : Nat) (z_gxc : Nat) (z_gxfull : Nat) (z_gxx : Int32) (z_fz : Nat → Nat → Int32) (z_qs : Nat → Nat), pu_E (dC, dI) ((xb16__w xa xtape (nI tp) rd au xdr hy g (nI hs) tg sg (nI ss) rm ti py bu sm (nI nc) (nI np) (nI ne) (nI st0) q4 q5 q6 q7 q8 q9 q10 q11 q12 q13 q14 q15 q16 k_f4 f4 k_f5 (bN 7 q_f5) k_f6 (bN 7 q_f6) k_f7 f7 k_f8 (bN 4 q_f8) k_f9 (bN 2 q_f9) k_f10 f10 k_f11 f11 k_f12 f12 k_f13 f13 k_f14 f14 k_f15 f15 k_f16 f16 gx gxz gx1 gx2 gx3 gx4 gx5 (nI z_gxc) (nI z_gxfull) z_gxx gxway gxav gxgoal (nI z_gxfound) 120 (nI gxl) (nI gxsz) gx16 gx17 k_fgxz (zs o 121 az) k_s1gx (bN 7 z_s1gx) k_s2gx z_s2gx k_s3gx z_s3gx k_s4gx z_s4gx k_s5gx z_s5gx k_higx higx k_logx logx k_fbu z_fbu) ++ zp 4 16 N az ac kz z_qs z_fz) ((xb16__t k_f4 k_f5 k_f6 k_f7 k_f8 k_f9 k_f10 k_f11 k_f12 k_f13 k_f14 k_f15 k_f16 k_fgxz k_s1gx k_s2gx k_s3gx k_s4gx k_s5gx k_higx k_logx k_fbu) ++ zt N kz) (va_A (((xb16__w xa xtape (nI tp) rd au xdr hy g (nI hs) tg sg (nI ss) rm ti py bu sm (nI nc) (nI np) (nI ne) (nI st0) q4 q5 q6 q7 q8 q9 q10 q11 q12 q13 q14 q15 q16 k_f4 f4 k_f5 (bN 7 q_f5) k_f6 (bN 7 q_f6) k_f7 f7 k_f8 (bN 4 q_f8) k_f9 (bN 2 q_f9) k_f10 f10 k_f11 f11 k_f12 f12 k_f13 f13 k_f14 f14 k_f15 f15 k_f16 f16 gx gxz gx1 gx2 gx3 gx4 gx5 (nI gxc) (nI gxfull) gxx gxway gxav gxgoal (nI gxfound) 120 (nI gxl) (nI gxsz) gx16 gx17 k_fgxz (zs o 121 az) k_s1gx (bN 7 q_s1gx) k_s2gx s2gx k_s3gx s3gx k_s4gx s4gx k_s5gx s5gx k_higx higx k_logx logx k_fbu fbu) ++ zp 4 16 N az ac kz qs fz)) sz) t ∧ (z_gxfound ≤ 1) ∧ (z_gxc ≤ 120) ∧ (z_gxfull ≤ 1) ∧ (gz_ok z_gxc z_s2gx z_s3gx z_s4gx) ∧ ((z_s1gx, z_s2gx, z_s3gx, z_s4gx, z_s5gx, z_fbu, z_gxfound, z_gxc, z_gxfull, z_gxx, z_fz, z_qs) = (sp_E_8_beginAtZero_16 st0 f4 q_f8 q_f9 f12 f13 gxway gxav gxgoal gxfound gxsz q_s1gx s2gx s3gx s4gx s5gx higx logx fbu o qs fz))) (va_A (((xb16__w xa xtape (nI tp) rd au xdr hy g (nI hs) tg sg (nI ss) rm ti py bu sm (nI nc) (nI np) (nI ne) (nI st0) q4 q5 q6 q7 q8 q9 q10 q11 q12 q13 q14 q15 q16 k_f4 f4 k_f5 (bN 7 q_f5) k_f6 (bN 7 q_f6) k_f7 f7 k_f8 (bN 4 q_f8) k_f9 (bN 2 q_f9) k_f10 f10 k_f11 f11 k_f12 f12 k_f13 f13 k_f14 f14 k_f15 f15 k_f16 f16 gx gxz gx1 gx2 gx3 gx4 gx5 (nI gxc) (nI gxfull) gxx gxway gxav gxgoal (nI gxfound) 120 (nI gxl) (nI gxsz) gx16 gx17 k_fgxz (zs o 121 az) k_s1gx (bN 7 q_s1gx) k_s2gx s2gx k_s3gx s3gx k_s4gx s4gx k_s5gx s5gx k_higx higx k_logx logx k_fbu fbu) ++ zp 4 16 N az ac kz qs fz)) sz)) 0 0 (va_A (((xb16__w xa xtape (nI tp) rd au xdr hy g (nI hs) tg sg (nI ss) rm ti py bu sm (nI nc) (nI np) (nI ne) (nI st0) q4 q5 q6 q7 q8 q9 q10 q11 q12 q13 q14 q15 q16 k_f4 f4 k_f5 (bN 7 q_f5) k_f6 (bN 7 q_f6) k_f7 f7 k_f8 (bN 4 q_f8) k_f9 (bN 2 q_f9) k_f10 f10 k_f11 f11 k_f12 f12 k_f13 f13 k_f14 f14 k_f15 f15 k_f16 f16 gx gxz gx1 gx2 gx3 gx4 gx5 (nI gxc) (nI gxfull) gxx gxway gxav gxgoal (nI gxfound) 120 (nI gxl) (nI gxsz) gx16 gx17 k_fgxz (zs o 121 az) k_s1gx (bN 7 q_s1gx) k_s2gx s2gx k_s3gx s3gx k_s4gx s4gx k_s5gx s5gx k_higx higx k_logx logx k_fbu fbu) ++ zp 4 16 N az ac kz qs fz)) sz) := by
  refine Met.ofW (cc := cX8_beginAtZero) (maxL := 3) (ret := none) (by decide) rfl ?_
  intro p e s m args below meth c s₁ B hml hv
  obtain ⟨rfl, rfl, hP, hK, hD0⟩ := hv
  have hx := B.exec
  have hb := B.bytes
  have hr := B.returns
  have hts := atoms_spec (ws := vs_E_8_beginAtZero_16) B.pre
  have v_1 := hts (.fieldLink RX8 73 "ClockReach" "beginUnits" "[I") (List.mem_cons_of_mem _ cm_523)
  have v_2 := hts (.fieldLink RX8 23 "ClockReach" "model" "LClockReach$Automaton;") (List.mem_cons_of_mem _ cm_434)
  have v_3 := hts (.fieldLink RX8 122 "ClockReach$Automaton" "start" "I") (List.mem_cons_of_mem _ cm_455)
  have hown : s.vm.findClass RX8 = some m.cls := findClass_of_methodNamed B.named
  have hlocks := B.notSynchronized
  have hiX0 : ∀ w ∈ wsX00, w ∈ vs_E_8_beginAtZero_16 := fun _ h => List.mem_cons_of_mem _ (cm_X0 h)
  have hiX8 : ∀ w ∈ wsX80, w ∈ vs_E_8_beginAtZero_16 := fun _ h => List.mem_cons_of_mem _ (cm_X8 h)
  have hD := hD0.self (sz := s.heap.size)
  generalize hAe : va_A (((xb16__w xa xtape (nI tp) rd au xdr hy g (nI hs) tg sg (nI ss) rm ti py bu sm (nI nc) (nI np) (nI ne) (nI st0) q4 q5 q6 q7 q8 q9 q10 q11 q12 q13 q14 q15 q16 k_f4 f4 k_f5 (bN 7 q_f5) k_f6 (bN 7 q_f6) k_f7 f7 k_f8 (bN 4 q_f8) k_f9 (bN 2 q_f9) k_f10 f10 k_f11 f11 k_f12 f12 k_f13 f13 k_f14 f14 k_f15 f15 k_f16 f16 gx gxz gx1 gx2 gx3 gx4 gx5 (nI gxc) (nI gxfull) gxx gxway gxav gxgoal (nI gxfound) 120 (nI gxl) (nI gxsz) gx16 gx17 k_fgxz (zs o 121 az) k_s1gx (bN 7 q_s1gx) k_s2gx s2gx k_s3gx s3gx k_s4gx s4gx k_s5gx s5gx k_higx higx k_logx logx k_fbu fbu) ++ zp 4 16 N az ac kz qs fz)) s.heap.size = A at hD ⊢
  have hA : ∀ q : Nat, s.heap.size ≤ q → A q := fun q h => by rw [← hAe]; exact Or.inr h
  have hS : va_S A s.heap s.heap [] := va_S.rf
  have hl := lv_entry ([.ref xa, .ref gx]) (n := 3) (Nat.le_of_ble_eq_true rfl)
  rw [lg_entry_eq]
  generalize (lg_sl ([.ref xa, .ref gx]) ++ List.replicate (3 - (lg_sl ([.ref xa, .ref gx])).length) Slot.unset).toArray = ls at hl ⊢
  have hl : lv_has ls 3 [(0, .ref xa), (1, .ref gx)] := hl
  obtain ⟨RR, hRR⟩ : ∃ x, x = (sp_E_8_beginAtZero_16 st0 f4 q_f8 q_f9 f12 f13 gxway gxav gxgoal gxfound gxsz q_s1gx s2gx s3gx s4gx s5gx higx logx fbu o qs fz) := ⟨_, rfl⟩
  have hsp := hRR
  refine lv_iconst (v := 0) hx hb eX8_beginAtZero_0 (by decide) ?_
  refine lv_istore_n (lv' := [(2, .int 0), (0, .ref xa), (1, .ref gx)]) hx hb eX8_beginAtZero_1 rfl hl (by decide) rfl (fun ls hl => ?_)
  obtain ⟨lf_6, dlf_6, hlf_6, hsp⟩ := itr_ex hsp
  delta sp_E_8_beginAtZero_16_L1 at hlf_6
  refine pu_while (fun nn H locs ls => ∃ (g_3 : Nat → Int32) (g_4 : Nat), nn = 5 - g_4 ∧ g_4 ≤ 5 ∧ RR = itrv dlf_6 lf_6 (g_3, g_4) ∧ va_P (dC, dI) vwCl ((xb16__w xa xtape (nI tp) rd au xdr hy g (nI hs) tg sg (nI ss) rm ti py bu sm (nI nc) (nI np) (nI ne) (nI st0) q4 q5 q6 q7 q8 q9 q10 q11 q12 q13 q14 q15 q16 k_f4 f4 k_f5 (bN 7 q_f5) k_f6 (bN 7 q_f6) k_f7 f7 k_f8 (bN 4 q_f8) k_f9 (bN 2 q_f9) k_f10 f10 k_f11 f11 k_f12 f12 k_f13 f13 k_f14 f14 k_f15 f15 k_f16 f16 gx gxz gx1 gx2 gx3 gx4 gx5 (nI gxc) (nI gxfull) gxx gxway gxav gxgoal (nI gxfound) 120 (nI gxl) (nI gxsz) gx16 gx17 k_fgxz (zs o 121 az) k_s1gx (bN 7 q_s1gx) k_s2gx s2gx k_s3gx s3gx k_s4gx s4gx k_s5gx s5gx k_higx higx k_logx logx k_fbu g_3) ++ zp 4 16 N az ac kz qs fz) H ∧ va_D A ((xb16__w xa xtape (nI tp) rd au xdr hy g (nI hs) tg sg (nI ss) rm ti py bu sm (nI nc) (nI np) (nI ne) (nI st0) q4 q5 q6 q7 q8 q9 q10 q11 q12 q13 q14 q15 q16 k_f4 f4 k_f5 (bN 7 q_f5) k_f6 (bN 7 q_f6) k_f7 f7 k_f8 (bN 4 q_f8) k_f9 (bN 2 q_f9) k_f10 f10 k_f11 f11 k_f12 f12 k_f13 f13 k_f14 f14 k_f15 f15 k_f16 f16 gx gxz gx1 gx2 gx3 gx4 gx5 (nI gxc) (nI gxfull) gxx gxway gxav gxgoal (nI gxfound) 120 (nI gxl) (nI gxsz) gx16 gx17 k_fgxz (zs o 121 az) k_s1gx (bN 7 q_s1gx) k_s2gx s2gx k_s3gx s3gx k_s4gx s4gx k_s5gx s5gx k_higx higx k_logx logx k_fbu g_3) ++ zp 4 16 N az ac kz qs fz) ∧ va_S A s.heap H locs ∧ lv_has ls 3 [(0, .ref xa), (1, .ref gx), (2, .int (nI g_4))]) 2 ?_ _ _ _ _ ⟨fbu, 0, rfl, (Nat.le_of_ble_eq_true rfl), hsp, hP, hD, hS, lv_sub hl [1, 2, 0] rfl⟩
  rintro nn ih_5 H locs ls ⟨g_3, g_4, rfl, hg_4, he_8, hP, hD, hS, hl⟩
  obtain ⟨S_7, hsp, hin_9, hout_10⟩ := itr_step hlf_6 he_8
  refine lv_iload_n hx hb eX8_beginAtZero_2 rfl (lv_at hl 2 rfl) ?_
  refine lv_aload_n hx hb eX8_beginAtZero_3 rfl (lv_at hl 0 rfl) ?_
  refine va_get (D := (dC, dI)) (ci := 8) (v := .ref bu) (C := RX8) (T := TX8) (N := 16) hx hb hts hiX8 hown hK hP 0 rfl rfl 14 (by decide) v_1 (fun _ h9 => h9) rfl eX8_beginAtZero_4 ?_
  refine va_alen (v := 5) hx hb hK hP 24 21 rfl rfl rfl eX8_beginAtZero_7 ?_
  refine lv_icmp_ge (tgt := 24) hx hb eX8_beginAtZero_8 (by decide) (fun c_11 => ?_) (fun c_11 => ?_)
  · have c_11 : 5 ≤ g_4 := (nI_leI (a := 5) (b := g_4) (Nat.le_of_ble_eq_true rfl) (Nat.lt_of_le_of_lt hg_4 (Nat.le_of_ble_eq_true rfl))).mp c_11
    have hsp := hsp.trans (if_pos c_11)
    have hsp := hout_10 _ hsp
    refine lv_aload_n hx hb eX8_beginAtZero_24 rfl (lv_at hl 1 rfl) ?_
    refine lv_aload_n hx hb eX8_beginAtZero_25 rfl (lv_at hl 0 rfl) ?_
    refine va_get (D := (dC, dI)) (ci := 8) (v := .ref au) (C := RX8) (T := TX8) (N := 16) hx hb hts hiX8 hown hK hP 0 rfl rfl 3 (by decide) v_2 (fun _ h9 => h9) rfl eX8_beginAtZero_26 ?_
    refine lv_aload_n hx hb eX8_beginAtZero_29 rfl (lv_at hl 0 rfl) ?_
    refine va_get (D := (dC, dI)) (ci := 8) (v := .ref au) (C := RX8) (T := TX8) (N := 16) hx hb hts hiX8 hown hK hP 0 rfl rfl 3 (by decide) v_2 (fun _ h9 => h9) rfl eX8_beginAtZero_30 ?_
    refine va_get (D := (dC, dI)) (ci := 0) (v := .int (nI st0)) (C := RX0) (T := TX0) (N := 17) hx hb hts hiX0 hown hK hP 1 rfl rfl 3 (by decide) v_3 (fun _ h9 => h9) rfl eX8_beginAtZero_33 ?_
    refine lv_aload_n hx hb eX8_beginAtZero_36 rfl (lv_at hl 0 rfl) ?_
    refine va_get (D := (dC, dI)) (ci := 8) (v := .ref bu) (C := RX8) (T := TX8) (N := 16) hx hb hts hiX8 hown hK hP 0 rfl rfl 14 (by decide) v_1 (fun _ h9 => h9) rfl eX8_beginAtZero_37 ?_
    have hPc : va_P (dC, dI) vwCl ([(gx, .inr (1, [.ref gxz, .ref gx1, .ref gx2, .ref gx3, .ref gx4, .ref gx5, .int (nI gxc), .int (nI gxfull), .int gxx, .int gxway, .int gxav, .int gxgoal, .int (nI gxfound), .int 120, .int (nI gxl), .int (nI gxsz), .ref gx16, .ref gx17])), (gxz, .inl (k_fgxz, 121, .inr (.inr (.inr (.inr (zs o 121 az)))))), (gx1, .inl (k_s1gx, 120, .inl (bN 7 q_s1gx))), (gx2, .inl (k_s2gx, 120, .inl s2gx)), (gx3, .inl (k_s3gx, 120, .inl s3gx)), (gx4, .inl (k_s4gx, 120, .inl s4gx)), (gx5, .inl (k_s5gx, 120, .inl s5gx)), (gx16, .inl (k_higx, 5, .inl higx)), (gx17, .inl (k_logx, 5, .inl logx)), (au, .inr (0, [.int (nI nc), .int (nI np), .int (nI ne), .int (nI st0), .ref q4, .ref q5, .ref q6, .ref q7, .ref q8, .ref q9, .ref q10, .ref q11, .ref q12, .ref q13, .ref q14, .ref q15, .ref q16])), (q4, .inl (k_f4, 8, .inl f4)), (q5, .inl (k_f5, 14, .inl (bN 7 q_f5))), (q6, .inl (k_f6, 14, .inl (bN 7 q_f6))), (q7, .inl (k_f7, 14, .inl f7)), (q8, .inl (k_f8, 22, .inl (bN 4 q_f8))), (q9, .inl (k_f9, 88, .inl (bN 2 q_f9))), (q10, .inl (k_f10, 88, .inl f10)), (q11, .inl (k_f11, 88, .inl f11)), (q12, .inl (k_f12, 88, .inl f12)), (q13, .inl (k_f13, 88, .inl f13)), (q14, .inl (k_f14, 4, .inl f14)), (q15, .inl (k_f15, 4, .inl f15)), (q16, .inl (k_f16, 4, .inl f16)), (bu, .inl (k_fbu, 5, .inl g_3))] ++ zp 4 16 N az ac kz qs fz) _ := hP.part [15, 16, 17, 18, 19, 20, 21, 22, 23, 1, 2, 3, 4, 5, 6, 7, 8, 9, 10, 11, 12, 13, 14, 24] rfl
    have hDc : va_D A ([(gx, .inr (1, [.ref gxz, .ref gx1, .ref gx2, .ref gx3, .ref gx4, .ref gx5, .int (nI gxc), .int (nI gxfull), .int gxx, .int gxway, .int gxav, .int gxgoal, .int (nI gxfound), .int 120, .int (nI gxl), .int (nI gxsz), .ref gx16, .ref gx17])), (gxz, .inl (k_fgxz, 121, .inr (.inr (.inr (.inr (zs o 121 az)))))), (gx1, .inl (k_s1gx, 120, .inl (bN 7 q_s1gx))), (gx2, .inl (k_s2gx, 120, .inl s2gx)), (gx3, .inl (k_s3gx, 120, .inl s3gx)), (gx4, .inl (k_s4gx, 120, .inl s4gx)), (gx5, .inl (k_s5gx, 120, .inl s5gx)), (gx16, .inl (k_higx, 5, .inl higx)), (gx17, .inl (k_logx, 5, .inl logx)), (au, .inr (0, [.int (nI nc), .int (nI np), .int (nI ne), .int (nI st0), .ref q4, .ref q5, .ref q6, .ref q7, .ref q8, .ref q9, .ref q10, .ref q11, .ref q12, .ref q13, .ref q14, .ref q15, .ref q16])), (q4, .inl (k_f4, 8, .inl f4)), (q5, .inl (k_f5, 14, .inl (bN 7 q_f5))), (q6, .inl (k_f6, 14, .inl (bN 7 q_f6))), (q7, .inl (k_f7, 14, .inl f7)), (q8, .inl (k_f8, 22, .inl (bN 4 q_f8))), (q9, .inl (k_f9, 88, .inl (bN 2 q_f9))), (q10, .inl (k_f10, 88, .inl f10)), (q11, .inl (k_f11, 88, .inl f11)), (q12, .inl (k_f12, 88, .inl f12)), (q13, .inl (k_f13, 88, .inl f13)), (q14, .inl (k_f14, 4, .inl f14)), (q15, .inl (k_f15, 4, .inl f15)), (q16, .inl (k_f16, 4, .inl f16)), (bu, .inl (k_fbu, 5, .inl g_3))] ++ zp 4 16 N az ac kz qs fz) := hD.part [15, 16, 17, 18, 19, 20, 21, 22, 23, 1, 2, 3, 4, 5, 6, 7, 8, 9, 10, 11, 12, 13, 14, 24] (by decide) rfl
    have hKc : va_K (dC, dI) vwCl ([(k_fgxz, .object RX7), (k_s1gx, .int), (k_s2gx, .int), (k_s3gx, .int), (k_s4gx, .int), (k_s5gx, .int), (k_higx, .int), (k_logx, .int), (k_f4, .boolean), (k_f5, .int), (k_f6, .int), (k_f7, .int), (k_f8, .int), (k_f9, .int), (k_f10, .int), (k_f11, .int), (k_f12, .int), (k_f13, .int), (k_f14, .int), (k_f15, .int), (k_f16, .int), (k_fbu, .int)] ++ zt N kz) s := zk_part hK [13, 14, 15, 16, 17, 18, 19, 20, 0, 1, 2, 3, 4, 5, 6, 7, 8, 9, 10, 11, 12, 21] rfl
    have hFc := pu_free hDc hS hA
    refine va_callv (va_runV (As := [.ref au, .int (nI st0), .ref bu]) (rest := []) ⟨hx, hb, hml, hown, hts⟩ (c_E_1_open_16 l dC dI _ gx gxz gx1 gx2 gx3 gx4 gx5 gxc gxfull gxx gxway gxav gxgoal gxfound gxl gxsz gx16 gx17 k_fgxz k_s1gx q_s1gx k_s2gx s2gx k_s3gx s3gx k_s4gx s4gx k_s5gx s5gx k_higx higx k_logx logx au nc np ne (nI st0) q4 q5 q6 q7 q8 q9 q10 q11 q12 q13 q14 q15 q16 k_f4 f4 k_f5 q_f5 k_f6 q_f6 k_f7 f7 k_f8 q_f8 k_f9 q_f9 k_f10 f10 k_f11 f11 k_f12 f12 k_f13 f13 k_f14 f14 k_f15 f15 k_f16 f16 bu k_fbu g_3 N o az ac kz qs fz st0 hgxc hgxfull hgxfound hgxl hgxsz hnc hnp hne (Or.inr ⟨st0, hst0, rfl⟩) (by omega) hst0) (cwV 3 hts g_E_8_beginAtZero_16_E_1_open_16 rfl rfl rfl (by decide +kernel) ⟨Nat.le_of_ble_eq_true rfl, Nat.le_of_ble_eq_true rfl⟩) ⟨pu_bl, va_recv hK hP (ci := 1) (q0 := 15) rfl rfl, pu_in hPc hKc hDc⟩ rfl rfl hl.1 rfl (lv_room (Nat.le_of_ble_eq_true rfl)) eX8_beginAtZero_40 ⟨Nat.le_of_ble_eq_true rfl, Nat.le_of_ble_eq_true rfl⟩) hS (fun q _ h => hFc q h) hFc (fun u t H1 locs ht hvm hw hB hz1 hk1 hS => ?_)
    obtain ⟨z_fs1_13, z_fs2_14, z_fs3_15, z_fs4_16, z_fs5_17, z_gfound_18, z_gc_19, z_gfull_20, z_gx_21, z_fz_22, z_qs_23, ⟨hP1, -, hD1⟩, hz_gfound_18, hz_gc_19, hz_gfull_20, xr_12_0, xr_12_1⟩ := hB
    rw [ht] at hP1
    obtain ⟨hP, hD⟩ := pj_c (X := (xb16__w xa xtape (nI tp) rd au xdr hy g (nI hs) tg sg (nI ss) rm ti py bu sm (nI nc) (nI np) (nI ne) (nI st0) q4 q5 q6 q7 q8 q9 q10 q11 q12 q13 q14 q15 q16 k_f4 f4 k_f5 (bN 7 q_f5) k_f6 (bN 7 q_f6) k_f7 f7 k_f8 (bN 4 q_f8) k_f9 (bN 2 q_f9) k_f10 f10 k_f11 f11 k_f12 f12 k_f13 f13 k_f14 f14 k_f15 f15 k_f16 f16 gx gxz gx1 gx2 gx3 gx4 gx5 (nI gxc) (nI gxfull) gxx gxway gxav gxgoal (nI gxfound) 120 (nI gxl) (nI gxsz) gx16 gx17 k_fgxz (zs o 121 az) k_s1gx (bN 7 q_s1gx) k_s2gx s2gx k_s3gx s3gx k_s4gx s4gx k_s5gx s5gx k_higx higx k_logx logx k_fbu g_3)) (X' := (xb16__w xa xtape (nI tp) rd au xdr hy g (nI hs) tg sg (nI ss) rm ti py bu sm (nI nc) (nI np) (nI ne) (nI st0) q4 q5 q6 q7 q8 q9 q10 q11 q12 q13 q14 q15 q16 k_f4 f4 k_f5 (bN 7 q_f5) k_f6 (bN 7 q_f6) k_f7 f7 k_f8 (bN 4 q_f8) k_f9 (bN 2 q_f9) k_f10 f10 k_f11 f11 k_f12 f12 k_f13 f13 k_f14 f14 k_f15 f15 k_f16 f16 gx gxz gx1 gx2 gx3 gx4 gx5 (nI z_gc_19) (nI z_gfull_20) z_gx_21 gxway gxav gxgoal (nI z_gfound_18) 120 (nI gxl) (nI gxsz) gx16 gx17 k_fgxz (zs o 121 az) k_s1gx (bN 7 z_fs1_13) k_s2gx z_fs2_14 k_s3gx z_fs3_15 k_s4gx z_fs4_16 k_s5gx z_fs5_17 k_higx higx k_logx logx k_fbu g_3)) (wc := (gs2__w gx gxz gx1 gx2 gx3 gx4 gx5 (nI gxc) (nI gxfull) gxx gxway gxav gxgoal (nI gxfound) 120 (nI gxl) (nI gxsz) gx16 gx17 k_fgxz (zs o 121 az) k_s1gx (bN 7 q_s1gx) k_s2gx s2gx k_s3gx s3gx k_s4gx s4gx k_s5gx s5gx k_higx higx k_logx logx au (nI nc) (nI np) (nI ne) (nI st0) q4 q5 q6 q7 q8 q9 q10 q11 q12 q13 q14 q15 q16 k_f4 f4 k_f5 (bN 7 q_f5) k_f6 (bN 7 q_f6) k_f7 f7 k_f8 (bN 4 q_f8) k_f9 (bN 2 q_f9) k_f10 f10 k_f11 f11 k_f12 f12 k_f13 f13 k_f14 f14 k_f15 f15 k_f16 f16 bu k_fbu g_3)) (w1 := (gs2__w gx gxz gx1 gx2 gx3 gx4 gx5 (nI z_gc_19) (nI z_gfull_20) z_gx_21 gxway gxav gxgoal (nI z_gfound_18) 120 (nI gxl) (nI gxsz) gx16 gx17 k_fgxz (zs o 121 az) k_s1gx (bN 7 z_fs1_13) k_s2gx z_fs2_14 k_s3gx z_fs3_15 k_s4gx z_fs4_16 k_s5gx z_fs5_17 k_higx higx k_logx logx au (nI nc) (nI np) (nI ne) (nI st0) q4 q5 q6 q7 q8 q9 q10 q11 q12 q13 q14 q15 q16 k_f4 f4 k_f5 (bN 7 q_f5) k_f6 (bN 7 q_f6) k_f7 f7 k_f8 (bN 4 q_f8) k_f9 (bN 2 q_f9) k_f10 f10 k_f11 f11 k_f12 f12 k_f13 f13 k_f14 f14 k_f15 f15 k_f16 f16 bu k_fbu g_3)) hP hD [15, 16, 17, 18, 19, 20, 21, 22, 23, 1, 2, 3, 4, 5, 6, 7, 8, 9, 10, 11, 12, 13, 14, 24] [24, 9, 10, 11, 12, 13, 14, 15, 16, 17, 18, 19, 20, 21, 22, 0, 1, 2, 3, 4, 5, 6, 7, 8, 23] 24 rfl hk1 hP1 rfl zp_f rfl rfl (by decide)
    clear hP1 hD1 hFc
    clear hPc hDc hKc
    clear hk1 hz1 ht hvm
    generalize H1 = H at hP hS ⊢
    have hsp := hsp.trans (slet_eq xr_12_1)
    exact W.vret hx hb hr (fun t ht hW => ⟨⟨(), rfl, trivial, ⟨z_fs1_13, z_fs2_14, z_fs3_15, z_fs4_16, z_fs5_17, g_3, z_gfound_18, z_gc_19, z_gfull_20, z_gx_21, z_fz_22, z_qs_23, ⟨by rw [ht]; exact hP, va_K.moved hW.alike hK, hD⟩, hz_gfound_18, hz_gc_19, hz_gfull_20, by first | assumption | exact gz_0, (hsp.symm.trans hRR)⟩⟩, hS.F ht⟩) hS.2.2 eX8_beginAtZero_43
  · have c_11 : ¬ 5 ≤ g_4 := fun z => c_11 ((nI_leI (a := 5) (b := g_4) (Nat.le_of_ble_eq_true rfl) (Nat.lt_of_le_of_lt hg_4 (Nat.le_of_ble_eq_true rfl))).mpr z)
    have hsp := hsp.trans (if_neg c_11)
    refine lv_aload_n hx hb eX8_beginAtZero_11 rfl (lv_at hl 0 rfl) ?_
    refine va_get (D := (dC, dI)) (ci := 8) (v := .ref bu) (C := RX8) (T := TX8) (N := 16) hx hb hts hiX8 hown hK hP 0 rfl rfl 14 (by decide) v_1 (fun _ h9 => h9) rfl eX8_beginAtZero_12 ?_
    refine lv_iload_n hx hb eX8_beginAtZero_15 rfl (lv_at hl 2 rfl) ?_
    refine lv_iconst (v := 0) hx hb eX8_beginAtZero_16 (by decide) ?_
    refine va_iast hx hb hK hP hD hS 24 21 rfl rfl (vp_in_nI (n := g_4) (by omega) (Nat.le_of_ble_eq_true rfl)) eX8_beginAtZero_17 (fun H locs hP hD hS => ?_)
    obtain ⟨f_24, ef_24, xf_24⟩ := up_x g_3 (n := g_4) 0 (Nat.lt_of_le_of_lt hg_4 (Nat.le_of_ble_eq_true rfl))
    have hP : va_P (dC, dI) vwCl ((xb16__w xa xtape (nI tp) rd au xdr hy g (nI hs) tg sg (nI ss) rm ti py bu sm (nI nc) (nI np) (nI ne) (nI st0) q4 q5 q6 q7 q8 q9 q10 q11 q12 q13 q14 q15 q16 k_f4 f4 k_f5 (bN 7 q_f5) k_f6 (bN 7 q_f6) k_f7 f7 k_f8 (bN 4 q_f8) k_f9 (bN 2 q_f9) k_f10 f10 k_f11 f11 k_f12 f12 k_f13 f13 k_f14 f14 k_f15 f15 k_f16 f16 gx gxz gx1 gx2 gx3 gx4 gx5 (nI gxc) (nI gxfull) gxx gxway gxav gxgoal (nI gxfound) 120 (nI gxl) (nI gxsz) gx16 gx17 k_fgxz (zs o 121 az) k_s1gx (bN 7 q_s1gx) k_s2gx s2gx k_s3gx s3gx k_s4gx s4gx k_s5gx s5gx k_higx higx k_logx logx k_fbu f_24) ++ zp 4 16 N az ac kz qs fz) H := by rw [← ef_24]; exact hP
    have hD : va_D A ((xb16__w xa xtape (nI tp) rd au xdr hy g (nI hs) tg sg (nI ss) rm ti py bu sm (nI nc) (nI np) (nI ne) (nI st0) q4 q5 q6 q7 q8 q9 q10 q11 q12 q13 q14 q15 q16 k_f4 f4 k_f5 (bN 7 q_f5) k_f6 (bN 7 q_f6) k_f7 f7 k_f8 (bN 4 q_f8) k_f9 (bN 2 q_f9) k_f10 f10 k_f11 f11 k_f12 f12 k_f13 f13 k_f14 f14 k_f15 f15 k_f16 f16 gx gxz gx1 gx2 gx3 gx4 gx5 (nI gxc) (nI gxfull) gxx gxway gxav gxgoal (nI gxfound) 120 (nI gxl) (nI gxsz) gx16 gx17 k_fgxz (zs o 121 az) k_s1gx (bN 7 q_s1gx) k_s2gx s2gx k_s3gx s3gx k_s4gx s4gx k_s5gx s5gx k_higx higx k_logx logx k_fbu f_24) ++ zp 4 16 N az ac kz qs fz) := by rw [← ef_24]; exact hD
    have hsp := hsp.trans (slet_eq xf_24)
    refine lv_iinc (v := (nI (g_4 + 1))) (lv' := [(2, .int (nI (g_4 + 1))), (0, .ref xa), (1, .ref gx)]) hx hb eX8_beginAtZero_18 hl (k := 2) rfl (nI_1 _) (by decide) rfl (fun ls hl => ?_)
    refine lv_goto (tgt := 2) hx hb eX8_beginAtZero_21 (by decide) ?_
    exact ih_5 (5 - (g_4 + 1)) (by omega) _ _ _ ⟨f_24, (g_4 + 1), rfl, (by omega), hin_9 _ hsp, hP, hD, hS, lv_sub hl [1, 2, 0] rfl⟩
abbrev vs_E_8_beginAtZero_25 : List Cond := .code yX8_beginAtZero cX8_beginAtZero 3 none :: CM
theorem g_E_8_beginAtZero_25_E_1_open_25 : GoodIn vs_E_8_beginAtZero_25 (wsV RX8 224 RX1 yX1_open vs_E_1_open_25) := cm_gV cm_524 cm_525 cm_526 cm_113 cm_88
noncomputable def sp_E_8_beginAtZero_25_L1 (st0 : Nat) (f4 : Nat → Int32) (q_f8 : Nat → Nat) (q_f9 : Nat → Nat) (f12 : Nat → Int32) (f13 : Nat → Int32) (gxway : Int32) (gxav : Int32) (gxgoal : Int32) (gxfound : Nat) (gxsz : Nat) (q_s1gx : Nat → Nat) (s2gx : Nat → Int32) (s3gx : Nat → Int32) (s4gx : Nat → Int32) (s5gx : Nat → Int32) (higx : Nat → Int32) (logx : Nat → Int32) (o : Nat) (qs : Nat → Nat) (fz : Nat → Nat → Int32) : ((Nat → Int32) × Nat) → ((Nat → Int32) × Nat) ⊕ ((Nat → Nat) × (Nat → Int32) × (Nat → Int32) × (Nat → Int32) × (Nat → Int32) × (Nat → Int32) × Nat × Nat × Nat × Int32 × (Nat → Nat → Int32) × (Nat → Nat)) := fun (g_3, g_4) => (if 5 ≤ g_4 then (Sum.inr (slet (sp_E_1_open_25 gxway gxav gxgoal gxfound gxsz q_s1gx s2gx s3gx s4gx s5gx higx logx f4 q_f8 q_f9 f12 f13 g_3 o qs fz st0) (fun (z_fs1_13, z_fs2_14, z_fs3_15, z_fs4_16, z_fs5_17, z_gfound_18, z_gc_19, z_gfull_20, z_gx_21, z_fz_22, z_qs_23) => (z_fs1_13, z_fs2_14, z_fs3_15, z_fs4_16, z_fs5_17, g_3, z_gfound_18, z_gc_19, z_gfull_20, z_gx_21, z_fz_22, z_qs_23)))) else (slet (upd g_3 g_4 0) (fun f_24 => (Sum.inl (f_24, (g_4 + 1))))))
noncomputable def sp_E_8_beginAtZero_25 (st0 : Nat) (f4 : Nat → Int32) (q_f8 : Nat → Nat) (q_f9 : Nat → Nat) (f12 : Nat → Int32) (f13 : Nat → Int32) (gxway : Int32) (gxav : Int32) (gxgoal : Int32) (gxfound : Nat) (gxsz : Nat) (q_s1gx : Nat → Nat) (s2gx : Nat → Int32) (s3gx : Nat → Int32) (s4gx : Nat → Int32) (s5gx : Nat → Int32) (higx : Nat → Int32) (logx : Nat → Int32) (fbu : Nat → Int32) (o : Nat) (qs : Nat → Nat) (fz : Nat → Nat → Int32) : (Nat → Nat) × (Nat → Int32) × (Nat → Int32) × (Nat → Int32) × (Nat → Int32) × (Nat → Int32) × Nat × Nat × Nat × Int32 × (Nat → Nat → Int32) × (Nat → Nat) := (itrv (α := (Nat → Int32) × Nat) (β := ((Nat → Nat) × (Nat → Int32) × (Nat → Int32) × (Nat → Int32) × (Nat → Int32) × (Nat → Int32) × Nat × Nat × Nat × Int32 × (Nat → Nat → Int32) × (Nat → Nat))) default (sp_E_8_beginAtZero_25_L1 st0 f4 q_f8 q_f9 f12 f13 gxway gxav gxgoal gxfound gxsz q_s1gx s2gx s3gx s4gx s5gx higx logx o qs fz) (fbu, 0))
set_option maxHeartbeats 4000000 in
set_option maxRecDepth 100000 in
theorem c_E_8_beginAtZero_25 (l : Launch) (dC : Nat → ClassId) (dI : Nat → Nat → Nat) (sz : Nat) (xa : Nat) (xtape : Nat) (tp : Nat) (rd : Nat) (au : Nat) (xdr : Nat) (hy : Nat) (g : Nat) (hs : Nat) (tg : Nat) (sg : Nat) (ss : Nat) (rm : Nat) (ti : Nat) (py : Nat) (bu : Nat) (sm : Nat) (nc : Nat) (np : Nat) (ne : Nat) (st0 : Nat) (q4 : Nat) (q5 : Nat) (q6 : Nat) (q7 : Nat) (q8 : Nat) (q9 : Nat) (q10 : Nat) (q11 : Nat) (q12 : Nat) (q13 : Nat) (q14 : Nat) (q15 : Nat) (q16 : Nat) (k_f4 : ClassId) (f4 : Nat → Int32) (k_f5 : ClassId) (q_f5 : Nat → Nat) (k_f6 : ClassId) (q_f6 : Nat → Nat) (k_f7 : ClassId) (f7 : Nat → Int32) (k_f8 : ClassId) (q_f8 : Nat → Nat) (k_f9 : ClassId) (q_f9 : Nat → Nat) (k_f10 : ClassId) (f10 : Nat → Int32) (k_f11 : ClassId) (f11 : Nat → Int32) (k_f12 : ClassId) (f12 : Nat → Int32) (k_f13 : ClassId) (f13 : Nat → Int32) (k_f14 : ClassId) (f14 : Nat → Int32) (k_f15 : ClassId) (f15 : Nat → Int32) (k_f16 : ClassId) (f16 : Nat → Int32) (gx : Nat) (gxz : Nat) (gx1 : Nat) (gx2 : Nat) (gx3 : Nat) (gx4 : Nat) (gx5 : Nat) (gxc : Nat) (gxfull : Nat) (gxx : Int32) (gxway : Int32) (gxav : Int32) (gxgoal : Int32) (gxfound : Nat) (gxl : Nat) (gxsz : Nat) (gx16 : Nat) (gx17 : Nat) (k_fgxz : ClassId) (k_s1gx : ClassId) (q_s1gx : Nat → Nat) (k_s2gx : ClassId) (s2gx : Nat → Int32) (k_s3gx : ClassId) (s3gx : Nat → Int32) (k_s4gx : ClassId) (s4gx : Nat → Int32) (k_s5gx : ClassId) (s5gx : Nat → Int32) (k_higx : ClassId) (higx : Nat → Int32) (k_logx : ClassId) (logx : Nat → Int32) (k_fbu : ClassId) (fbu : Nat → Int32) (N : Nat) (o : Nat) (az ac : Nat → Nat) (kz : Nat → ClassId) (qs : Nat → Nat) (fz : Nat → Nat → Int32) (htp : tp ≤ 900) (hhs : hs ≤ 1) (hss : ss ≤ 1) (hnc : nc ≤ 3) (hnp : np ≤ 8) (hne : ne ≤ 14) (hst0 : st0 ≤ 7) (hgxc : gxc ≤ 400) (hgxfull : gxfull ≤ 1) (hgxfound : gxfound ≤ 1) (hgxl : gxl ≤ 1) (hgxsz : gxsz ≤ 5) (hN : o + 401 ≤ N) : Met l yX8_beginAtZero vs_E_8_beginAtZero_25 ({ frames := 4, cells := 0, slots := 0, locals := 101 }) (va_Pc [.ref xa, .ref gx] (pu_B (dC, dI) ((xb25__w xa xtape (nI tp) rd au xdr hy g (nI hs) tg sg (nI ss) rm ti py bu sm (nI nc) (nI np) (nI ne) (nI st0) q4 q5 q6 q7 q8 q9 q10 q11 q12 q13 q14 q15 q16 k_f4 f4 k_f5 (bN 7 q_f5) k_f6 (bN 7 q_f6) k_f7 f7 k_f8 (bN 4 q_f8) k_f9 (bN 2 q_f9) k_f10 f10 k_f11 f11 k_f12 f12 k_f13 f13 k_f14 f14 k_f15 f15 k_f16 f16 gx gxz gx1 gx2 gx3 gx4 gx5 (nI gxc) (nI gxfull) gxx gxway gxav gxgoal (nI gxfound) 400 (nI gxl) (nI gxsz) gx16 gx17 k_fgxz (zs o 401 az) k_s1gx (bN 7 q_s1gx) k_s2gx s2gx k_s3gx s3gx k_s4gx s4gx k_s5gx s5gx k_higx higx k_logx logx k_fbu fbu) ++ zp 5 25 N az ac kz qs fz) ((xb25__t k_f4 k_f5 k_f6 k_f7 k_f8 k_f9 k_f10 k_f11 k_f12 k_f13 k_f14 k_f15 k_f16 k_fgxz k_s1gx k_s2gx k_s3gx k_s4gx k_s5gx k_higx k_logx k_fbu) ++ zt N kz) sz)) (va_Qv (fun (_ : Unit) => True) (fun _ t => ∃ (z_s1gx : Nat → Nat) (z_s2gx : Nat → Int32) (z_s3gx : Nat → Int32) (z_s4gx : Nat → Int32) (z_s5gx : Nat → Int32) (z_fbu : Nat → Int32) (z_gxfound : Nat) (z_gxc : Nat) (z_gxfull : Nat) (z_gxx : Int32) (z_fz : Nat → Nat → Int32) (z_qs : Nat → Nat), pu_E (dC, dI) ((xb25__w xa xtape (nI tp) rd au xdr hy g (nI hs) tg sg (nI ss) rm ti py bu sm (nI nc) (nI np) (nI ne) (nI st0) q4 q5 q6 q7 q8 q9 q10 q11 q12 q13 q14 q15 q16 k_f4 f4 k_f5 (bN 7 q_f5) k_f6 (bN 7 q_f6) k_f7 f7 k_f8 (bN 4 q_f8) k_f9 (bN 2 q_f9) k_f10 f10 k_f11 f11 k_f12 f12 k_f13 f13 k_f14 f14 k_f15 f15 k_f16 f16 gx gxz gx1 gx2 gx3 gx4 gx5 (nI z_gxc) (nI z_gxfull) z_gxx gxway gxav gxgoal (nI z_gxfound) 400 (nI gxl) (nI gxsz) gx16 gx17 k_fgxz (zs o 401 az) k_s1gx (bN 7 z_s1gx) k_s2gx z_s2gx k_s3gx z_s3gx k_s4gx z_s4gx k_s5gx z_s5gx k_higx higx k_logx logx k_fbu z_fbu) ++ zp 5 25 N az ac kz z_qs z_fz) ((xb25__t k_f4 k_f5 k_f6 k_f7 k_f8 k_f9 k_f10 k_f11 k_f12 k_f13 k_f14 k_f15 k_f16 k_fgxz k_s1gx k_s2gx k_s3gx k_s4gx k_s5gx k_higx k_logx k_fbu) ++ zt N kz) (va_A (((xb25__w xa xtape (nI tp) rd au xdr hy g (nI hs) tg sg (nI ss) rm ti py bu sm (nI nc) (nI np) (nI ne) (nI st0) q4 q5 q6 q7 q8 q9 q10 q11 q12 q13 q14 q15 q16 k_f4 f4 k_f5 (bN 7 q_f5) k_f6 (bN 7 q_f6) k_f7 f7 k_f8 (bN 4 q_f8) k_f9 (bN 2 q_f9) k_f10 f10 k_f11 f11 k_f12 f12 k_f13 f13 k_f14 f14 k_f15 f15 k_f16 f16 gx gxz gx1 gx2 gx3 gx4 gx5 (nI gxc) (nI gxfull) gxx gxway gxav gxgoal (nI gxfound) 400 (nI gxl) (nI gxsz) gx16 gx17 k_fgxz (zs o 401 az) k_s1gx (bN 7 q_s1gx) k_s2gx s2gx k_s3gx s3gx k_s4gx s4gx k_s5gx s5gx k_higx higx k_logx logx k_fbu fbu) ++ zp 5 25 N az ac kz qs fz)) sz) t ∧ (z_gxfound ≤ 1) ∧ (z_gxc ≤ 400) ∧ (z_gxfull ≤ 1) ∧ (gz_ok z_gxc z_s2gx z_s3gx z_s4gx) ∧ ((z_s1gx, z_s2gx, z_s3gx, z_s4gx, z_s5gx, z_fbu, z_gxfound, z_gxc, z_gxfull, z_gxx, z_fz, z_qs) = (sp_E_8_beginAtZero_25 st0 f4 q_f8 q_f9 f12 f13 gxway gxav gxgoal gxfound gxsz q_s1gx s2gx s3gx s4gx s5gx higx logx fbu o qs fz))) (va_A (((xb25__w xa xtape (nI tp) rd au xdr hy g (nI hs) tg sg (nI ss) rm ti py bu sm (nI nc) (nI np) (nI ne) (nI st0) q4 q5 q6 q7 q8 q9 q10 q11 q12 q13 q14 q15 q16 k_f4 f4 k_f5 (bN 7 q_f5) k_f6 (bN 7 q_f6) k_f7 f7 k_f8 (bN 4 q_f8) k_f9 (bN 2 q_f9) k_f10 f10 k_f11 f11 k_f12 f12 k_f13 f13 k_f14 f14 k_f15 f15 k_f16 f16 gx gxz gx1 gx2 gx3 gx4 gx5 (nI gxc) (nI gxfull) gxx gxway gxav gxgoal (nI gxfound) 400 (nI gxl) (nI gxsz) gx16 gx17 k_fgxz (zs o 401 az) k_s1gx (bN 7 q_s1gx) k_s2gx s2gx k_s3gx s3gx k_s4gx s4gx k_s5gx s5gx k_higx higx k_logx logx k_fbu fbu) ++ zp 5 25 N az ac kz qs fz)) sz)) 0 0 (va_A (((xb25__w xa xtape (nI tp) rd au xdr hy g (nI hs) tg sg (nI ss) rm ti py bu sm (nI nc) (nI np) (nI ne) (nI st0) q4 q5 q6 q7 q8 q9 q10 q11 q12 q13 q14 q15 q16 k_f4 f4 k_f5 (bN 7 q_f5) k_f6 (bN 7 q_f6) k_f7 f7 k_f8 (bN 4 q_f8) k_f9 (bN 2 q_f9) k_f10 f10 k_f11 f11 k_f12 f12 k_f13 f13 k_f14 f14 k_f15 f15 k_f16 f16 gx gxz gx1 gx2 gx3 gx4 gx5 (nI gxc) (nI gxfull) gxx gxway gxav gxgoal (nI gxfound) 400 (nI gxl) (nI gxsz) gx16 gx17 k_fgxz (zs o 401 az) k_s1gx (bN 7 q_s1gx) k_s2gx s2gx k_s3gx s3gx k_s4gx s4gx k_s5gx s5gx k_higx higx k_logx logx k_fbu fbu) ++ zp 5 25 N az ac kz qs fz)) sz) := by
  refine Met.ofW (cc := cX8_beginAtZero) (maxL := 3) (ret := none) (by decide) rfl ?_
  intro p e s m args below meth c s₁ B hml hv
  obtain ⟨rfl, rfl, hP, hK, hD0⟩ := hv
  have hx := B.exec
  have hb := B.bytes
  have hr := B.returns
  have hts := atoms_spec (ws := vs_E_8_beginAtZero_25) B.pre
  have v_1 := hts (.fieldLink RX8 73 "ClockReach" "beginUnits" "[I") (List.mem_cons_of_mem _ cm_523)
  have v_2 := hts (.fieldLink RX8 23 "ClockReach" "model" "LClockReach$Automaton;") (List.mem_cons_of_mem _ cm_434)
  have v_3 := hts (.fieldLink RX8 122 "ClockReach$Automaton" "start" "I") (List.mem_cons_of_mem _ cm_455)
  have hown : s.vm.findClass RX8 = some m.cls := findClass_of_methodNamed B.named
  have hlocks := B.notSynchronized
  have hiX0 : ∀ w ∈ wsX00, w ∈ vs_E_8_beginAtZero_25 := fun _ h => List.mem_cons_of_mem _ (cm_X0 h)
  have hiX8 : ∀ w ∈ wsX80, w ∈ vs_E_8_beginAtZero_25 := fun _ h => List.mem_cons_of_mem _ (cm_X8 h)
  have hD := hD0.self (sz := s.heap.size)
  generalize hAe : va_A (((xb25__w xa xtape (nI tp) rd au xdr hy g (nI hs) tg sg (nI ss) rm ti py bu sm (nI nc) (nI np) (nI ne) (nI st0) q4 q5 q6 q7 q8 q9 q10 q11 q12 q13 q14 q15 q16 k_f4 f4 k_f5 (bN 7 q_f5) k_f6 (bN 7 q_f6) k_f7 f7 k_f8 (bN 4 q_f8) k_f9 (bN 2 q_f9) k_f10 f10 k_f11 f11 k_f12 f12 k_f13 f13 k_f14 f14 k_f15 f15 k_f16 f16 gx gxz gx1 gx2 gx3 gx4 gx5 (nI gxc) (nI gxfull) gxx gxway gxav gxgoal (nI gxfound) 400 (nI gxl) (nI gxsz) gx16 gx17 k_fgxz (zs o 401 az) k_s1gx (bN 7 q_s1gx) k_s2gx s2gx k_s3gx s3gx k_s4gx s4gx k_s5gx s5gx k_higx higx k_logx logx k_fbu fbu) ++ zp 5 25 N az ac kz qs fz)) s.heap.size = A at hD ⊢
  have hA : ∀ q : Nat, s.heap.size ≤ q → A q := fun q h => by rw [← hAe]; exact Or.inr h
  have hS : va_S A s.heap s.heap [] := va_S.rf
  have hl := lv_entry ([.ref xa, .ref gx]) (n := 3) (Nat.le_of_ble_eq_true rfl)
  rw [lg_entry_eq]
  generalize (lg_sl ([.ref xa, .ref gx]) ++ List.replicate (3 - (lg_sl ([.ref xa, .ref gx])).length) Slot.unset).toArray = ls at hl ⊢
  have hl : lv_has ls 3 [(0, .ref xa), (1, .ref gx)] := hl
  obtain ⟨RR, hRR⟩ : ∃ x, x = (sp_E_8_beginAtZero_25 st0 f4 q_f8 q_f9 f12 f13 gxway gxav gxgoal gxfound gxsz q_s1gx s2gx s3gx s4gx s5gx higx logx fbu o qs fz) := ⟨_, rfl⟩
  have hsp := hRR
  refine lv_iconst (v := 0) hx hb eX8_beginAtZero_0 (by decide) ?_
  refine lv_istore_n (lv' := [(2, .int 0), (0, .ref xa), (1, .ref gx)]) hx hb eX8_beginAtZero_1 rfl hl (by decide) rfl (fun ls hl => ?_)
  obtain ⟨lf_6, dlf_6, hlf_6, hsp⟩ := itr_ex hsp
  delta sp_E_8_beginAtZero_25_L1 at hlf_6
  refine pu_while (fun nn H locs ls => ∃ (g_3 : Nat → Int32) (g_4 : Nat), nn = 5 - g_4 ∧ g_4 ≤ 5 ∧ RR = itrv dlf_6 lf_6 (g_3, g_4) ∧ va_P (dC, dI) vwCl ((xb25__w xa xtape (nI tp) rd au xdr hy g (nI hs) tg sg (nI ss) rm ti py bu sm (nI nc) (nI np) (nI ne) (nI st0) q4 q5 q6 q7 q8 q9 q10 q11 q12 q13 q14 q15 q16 k_f4 f4 k_f5 (bN 7 q_f5) k_f6 (bN 7 q_f6) k_f7 f7 k_f8 (bN 4 q_f8) k_f9 (bN 2 q_f9) k_f10 f10 k_f11 f11 k_f12 f12 k_f13 f13 k_f14 f14 k_f15 f15 k_f16 f16 gx gxz gx1 gx2 gx3 gx4 gx5 (nI gxc) (nI gxfull) gxx gxway gxav gxgoal (nI gxfound) 400 (nI gxl) (nI gxsz) gx16 gx17 k_fgxz (zs o 401 az) k_s1gx (bN 7 q_s1gx) k_s2gx s2gx k_s3gx s3gx k_s4gx s4gx k_s5gx s5gx k_higx higx k_logx logx k_fbu g_3) ++ zp 5 25 N az ac kz qs fz) H ∧ va_D A ((xb25__w xa xtape (nI tp) rd au xdr hy g (nI hs) tg sg (nI ss) rm ti py bu sm (nI nc) (nI np) (nI ne) (nI st0) q4 q5 q6 q7 q8 q9 q10 q11 q12 q13 q14 q15 q16 k_f4 f4 k_f5 (bN 7 q_f5) k_f6 (bN 7 q_f6) k_f7 f7 k_f8 (bN 4 q_f8) k_f9 (bN 2 q_f9) k_f10 f10 k_f11 f11 k_f12 f12 k_f13 f13 k_f14 f14 k_f15 f15 k_f16 f16 gx gxz gx1 gx2 gx3 gx4 gx5 (nI gxc) (nI gxfull) gxx gxway gxav gxgoal (nI gxfound) 400 (nI gxl) (nI gxsz) gx16 gx17 k_fgxz (zs o 401 az) k_s1gx (bN 7 q_s1gx) k_s2gx s2gx k_s3gx s3gx k_s4gx s4gx k_s5gx s5gx k_higx higx k_logx logx k_fbu g_3) ++ zp 5 25 N az ac kz qs fz) ∧ va_S A s.heap H locs ∧ lv_has ls 3 [(0, .ref xa), (1, .ref gx), (2, .int (nI g_4))]) 2 ?_ _ _ _ _ ⟨fbu, 0, rfl, (Nat.le_of_ble_eq_true rfl), hsp, hP, hD, hS, lv_sub hl [1, 2, 0] rfl⟩
  rintro nn ih_5 H locs ls ⟨g_3, g_4, rfl, hg_4, he_8, hP, hD, hS, hl⟩
  obtain ⟨S_7, hsp, hin_9, hout_10⟩ := itr_step hlf_6 he_8
  refine lv_iload_n hx hb eX8_beginAtZero_2 rfl (lv_at hl 2 rfl) ?_
  refine lv_aload_n hx hb eX8_beginAtZero_3 rfl (lv_at hl 0 rfl) ?_
  refine va_get (D := (dC, dI)) (ci := 8) (v := .ref bu) (C := RX8) (T := TX8) (N := 16) hx hb hts hiX8 hown hK hP 0 rfl rfl 14 (by decide) v_1 (fun _ h9 => h9) rfl eX8_beginAtZero_4 ?_
  refine va_alen (v := 5) hx hb hK hP 24 21 rfl rfl rfl eX8_beginAtZero_7 ?_
  refine lv_icmp_ge (tgt := 24) hx hb eX8_beginAtZero_8 (by decide) (fun c_11 => ?_) (fun c_11 => ?_)
  · have c_11 : 5 ≤ g_4 := (nI_leI (a := 5) (b := g_4) (Nat.le_of_ble_eq_true rfl) (Nat.lt_of_le_of_lt hg_4 (Nat.le_of_ble_eq_true rfl))).mp c_11
    have hsp := hsp.trans (if_pos c_11)
    have hsp := hout_10 _ hsp
    refine lv_aload_n hx hb eX8_beginAtZero_24 rfl (lv_at hl 1 rfl) ?_
    refine lv_aload_n hx hb eX8_beginAtZero_25 rfl (lv_at hl 0 rfl) ?_
    refine va_get (D := (dC, dI)) (ci := 8) (v := .ref au) (C := RX8) (T := TX8) (N := 16) hx hb hts hiX8 hown hK hP 0 rfl rfl 3 (by decide) v_2 (fun _ h9 => h9) rfl eX8_beginAtZero_26 ?_
    refine lv_aload_n hx hb eX8_beginAtZero_29 rfl (lv_at hl 0 rfl) ?_
    refine va_get (D := (dC, dI)) (ci := 8) (v := .ref au) (C := RX8) (T := TX8) (N := 16) hx hb hts hiX8 hown hK hP 0 rfl rfl 3 (by decide) v_2 (fun _ h9 => h9) rfl eX8_beginAtZero_30 ?_
    refine va_get (D := (dC, dI)) (ci := 0) (v := .int (nI st0)) (C := RX0) (T := TX0) (N := 17) hx hb hts hiX0 hown hK hP 1 rfl rfl 3 (by decide) v_3 (fun _ h9 => h9) rfl eX8_beginAtZero_33 ?_
    refine lv_aload_n hx hb eX8_beginAtZero_36 rfl (lv_at hl 0 rfl) ?_
    refine va_get (D := (dC, dI)) (ci := 8) (v := .ref bu) (C := RX8) (T := TX8) (N := 16) hx hb hts hiX8 hown hK hP 0 rfl rfl 14 (by decide) v_1 (fun _ h9 => h9) rfl eX8_beginAtZero_37 ?_
    have hPc : va_P (dC, dI) vwCl ([(gx, .inr (1, [.ref gxz, .ref gx1, .ref gx2, .ref gx3, .ref gx4, .ref gx5, .int (nI gxc), .int (nI gxfull), .int gxx, .int gxway, .int gxav, .int gxgoal, .int (nI gxfound), .int 400, .int (nI gxl), .int (nI gxsz), .ref gx16, .ref gx17])), (gxz, .inl (k_fgxz, 401, .inr (.inr (.inr (.inr (zs o 401 az)))))), (gx1, .inl (k_s1gx, 400, .inl (bN 7 q_s1gx))), (gx2, .inl (k_s2gx, 400, .inl s2gx)), (gx3, .inl (k_s3gx, 400, .inl s3gx)), (gx4, .inl (k_s4gx, 400, .inl s4gx)), (gx5, .inl (k_s5gx, 400, .inl s5gx)), (gx16, .inl (k_higx, 5, .inl higx)), (gx17, .inl (k_logx, 5, .inl logx)), (au, .inr (0, [.int (nI nc), .int (nI np), .int (nI ne), .int (nI st0), .ref q4, .ref q5, .ref q6, .ref q7, .ref q8, .ref q9, .ref q10, .ref q11, .ref q12, .ref q13, .ref q14, .ref q15, .ref q16])), (q4, .inl (k_f4, 8, .inl f4)), (q5, .inl (k_f5, 14, .inl (bN 7 q_f5))), (q6, .inl (k_f6, 14, .inl (bN 7 q_f6))), (q7, .inl (k_f7, 14, .inl f7)), (q8, .inl (k_f8, 22, .inl (bN 4 q_f8))), (q9, .inl (k_f9, 88, .inl (bN 2 q_f9))), (q10, .inl (k_f10, 88, .inl f10)), (q11, .inl (k_f11, 88, .inl f11)), (q12, .inl (k_f12, 88, .inl f12)), (q13, .inl (k_f13, 88, .inl f13)), (q14, .inl (k_f14, 4, .inl f14)), (q15, .inl (k_f15, 4, .inl f15)), (q16, .inl (k_f16, 4, .inl f16)), (bu, .inl (k_fbu, 5, .inl g_3))] ++ zp 5 25 N az ac kz qs fz) _ := hP.part [15, 16, 17, 18, 19, 20, 21, 22, 23, 1, 2, 3, 4, 5, 6, 7, 8, 9, 10, 11, 12, 13, 14, 24] rfl
    have hDc : va_D A ([(gx, .inr (1, [.ref gxz, .ref gx1, .ref gx2, .ref gx3, .ref gx4, .ref gx5, .int (nI gxc), .int (nI gxfull), .int gxx, .int gxway, .int gxav, .int gxgoal, .int (nI gxfound), .int 400, .int (nI gxl), .int (nI gxsz), .ref gx16, .ref gx17])), (gxz, .inl (k_fgxz, 401, .inr (.inr (.inr (.inr (zs o 401 az)))))), (gx1, .inl (k_s1gx, 400, .inl (bN 7 q_s1gx))), (gx2, .inl (k_s2gx, 400, .inl s2gx)), (gx3, .inl (k_s3gx, 400, .inl s3gx)), (gx4, .inl (k_s4gx, 400, .inl s4gx)), (gx5, .inl (k_s5gx, 400, .inl s5gx)), (gx16, .inl (k_higx, 5, .inl higx)), (gx17, .inl (k_logx, 5, .inl logx)), (au, .inr (0, [.int (nI nc), .int (nI np), .int (nI ne), .int (nI st0), .ref q4, .ref q5, .ref q6, .ref q7, .ref q8, .ref q9, .ref q10, .ref q11, .ref q12, .ref q13, .ref q14, .ref q15, .ref q16])), (q4, .inl (k_f4, 8, .inl f4)), (q5, .inl (k_f5, 14, .inl (bN 7 q_f5))), (q6, .inl (k_f6, 14, .inl (bN 7 q_f6))), (q7, .inl (k_f7, 14, .inl f7)), (q8, .inl (k_f8, 22, .inl (bN 4 q_f8))), (q9, .inl (k_f9, 88, .inl (bN 2 q_f9))), (q10, .inl (k_f10, 88, .inl f10)), (q11, .inl (k_f11, 88, .inl f11)), (q12, .inl (k_f12, 88, .inl f12)), (q13, .inl (k_f13, 88, .inl f13)), (q14, .inl (k_f14, 4, .inl f14)), (q15, .inl (k_f15, 4, .inl f15)), (q16, .inl (k_f16, 4, .inl f16)), (bu, .inl (k_fbu, 5, .inl g_3))] ++ zp 5 25 N az ac kz qs fz) := hD.part [15, 16, 17, 18, 19, 20, 21, 22, 23, 1, 2, 3, 4, 5, 6, 7, 8, 9, 10, 11, 12, 13, 14, 24] (by decide) rfl
    have hKc : va_K (dC, dI) vwCl ([(k_fgxz, .object RX7), (k_s1gx, .int), (k_s2gx, .int), (k_s3gx, .int), (k_s4gx, .int), (k_s5gx, .int), (k_higx, .int), (k_logx, .int), (k_f4, .boolean), (k_f5, .int), (k_f6, .int), (k_f7, .int), (k_f8, .int), (k_f9, .int), (k_f10, .int), (k_f11, .int), (k_f12, .int), (k_f13, .int), (k_f14, .int), (k_f15, .int), (k_f16, .int), (k_fbu, .int)] ++ zt N kz) s := zk_part hK [13, 14, 15, 16, 17, 18, 19, 20, 0, 1, 2, 3, 4, 5, 6, 7, 8, 9, 10, 11, 12, 21] rfl
    have hFc := pu_free hDc hS hA
    refine va_callv (va_runV (As := [.ref au, .int (nI st0), .ref bu]) (rest := []) ⟨hx, hb, hml, hown, hts⟩ (c_E_1_open_25 l dC dI _ gx gxz gx1 gx2 gx3 gx4 gx5 gxc gxfull gxx gxway gxav gxgoal gxfound gxl gxsz gx16 gx17 k_fgxz k_s1gx q_s1gx k_s2gx s2gx k_s3gx s3gx k_s4gx s4gx k_s5gx s5gx k_higx higx k_logx logx au nc np ne (nI st0) q4 q5 q6 q7 q8 q9 q10 q11 q12 q13 q14 q15 q16 k_f4 f4 k_f5 q_f5 k_f6 q_f6 k_f7 f7 k_f8 q_f8 k_f9 q_f9 k_f10 f10 k_f11 f11 k_f12 f12 k_f13 f13 k_f14 f14 k_f15 f15 k_f16 f16 bu k_fbu g_3 N o az ac kz qs fz st0 hgxc hgxfull hgxfound hgxl hgxsz hnc hnp hne (Or.inr ⟨st0, hst0, rfl⟩) (by omega) hst0) (cwV 3 hts g_E_8_beginAtZero_25_E_1_open_25 rfl rfl rfl (by decide +kernel) ⟨Nat.le_of_ble_eq_true rfl, Nat.le_of_ble_eq_true rfl⟩) ⟨pu_bl, va_recv hK hP (ci := 1) (q0 := 15) rfl rfl, pu_in hPc hKc hDc⟩ rfl rfl hl.1 rfl (lv_room (Nat.le_of_ble_eq_true rfl)) eX8_beginAtZero_40 ⟨Nat.le_of_ble_eq_true rfl, Nat.le_of_ble_eq_true rfl⟩) hS (fun q _ h => hFc q h) hFc (fun u t H1 locs ht hvm hw hB hz1 hk1 hS => ?_)
    obtain ⟨z_fs1_13, z_fs2_14, z_fs3_15, z_fs4_16, z_fs5_17, z_gfound_18, z_gc_19, z_gfull_20, z_gx_21, z_fz_22, z_qs_23, ⟨hP1, -, hD1⟩, hz_gfound_18, hz_gc_19, hz_gfull_20, xr_12_0, xr_12_1⟩ := hB
    rw [ht] at hP1
    obtain ⟨hP, hD⟩ := pj_c (X := (xb25__w xa xtape (nI tp) rd au xdr hy g (nI hs) tg sg (nI ss) rm ti py bu sm (nI nc) (nI np) (nI ne) (nI st0) q4 q5 q6 q7 q8 q9 q10 q11 q12 q13 q14 q15 q16 k_f4 f4 k_f5 (bN 7 q_f5) k_f6 (bN 7 q_f6) k_f7 f7 k_f8 (bN 4 q_f8) k_f9 (bN 2 q_f9) k_f10 f10 k_f11 f11 k_f12 f12 k_f13 f13 k_f14 f14 k_f15 f15 k_f16 f16 gx gxz gx1 gx2 gx3 gx4 gx5 (nI gxc) (nI gxfull) gxx gxway gxav gxgoal (nI gxfound) 400 (nI gxl) (nI gxsz) gx16 gx17 k_fgxz (zs o 401 az) k_s1gx (bN 7 q_s1gx) k_s2gx s2gx k_s3gx s3gx k_s4gx s4gx k_s5gx s5gx k_higx higx k_logx logx k_fbu g_3)) (X' := (xb25__w xa xtape (nI tp) rd au xdr hy g (nI hs) tg sg (nI ss) rm ti py bu sm (nI nc) (nI np) (nI ne) (nI st0) q4 q5 q6 q7 q8 q9 q10 q11 q12 q13 q14 q15 q16 k_f4 f4 k_f5 (bN 7 q_f5) k_f6 (bN 7 q_f6) k_f7 f7 k_f8 (bN 4 q_f8) k_f9 (bN 2 q_f9) k_f10 f10 k_f11 f11 k_f12 f12 k_f13 f13 k_f14 f14 k_f15 f15 k_f16 f16 gx gxz gx1 gx2 gx3 gx4 gx5 (nI z_gc_19) (nI z_gfull_20) z_gx_21 gxway gxav gxgoal (nI z_gfound_18) 400 (nI gxl) (nI gxsz) gx16 gx17 k_fgxz (zs o 401 az) k_s1gx (bN 7 z_fs1_13) k_s2gx z_fs2_14 k_s3gx z_fs3_15 k_s4gx z_fs4_16 k_s5gx z_fs5_17 k_higx higx k_logx logx k_fbu g_3)) (wc := (gt2__w gx gxz gx1 gx2 gx3 gx4 gx5 (nI gxc) (nI gxfull) gxx gxway gxav gxgoal (nI gxfound) 400 (nI gxl) (nI gxsz) gx16 gx17 k_fgxz (zs o 401 az) k_s1gx (bN 7 q_s1gx) k_s2gx s2gx k_s3gx s3gx k_s4gx s4gx k_s5gx s5gx k_higx higx k_logx logx au (nI nc) (nI np) (nI ne) (nI st0) q4 q5 q6 q7 q8 q9 q10 q11 q12 q13 q14 q15 q16 k_f4 f4 k_f5 (bN 7 q_f5) k_f6 (bN 7 q_f6) k_f7 f7 k_f8 (bN 4 q_f8) k_f9 (bN 2 q_f9) k_f10 f10 k_f11 f11 k_f12 f12 k_f13 f13 k_f14 f14 k_f15 f15 k_f16 f16 bu k_fbu g_3)) (w1 := (gt2__w gx gxz gx1 gx2 gx3 gx4 gx5 (nI z_gc_19) (nI z_gfull_20) z_gx_21 gxway gxav gxgoal (nI z_gfound_18) 400 (nI gxl) (nI gxsz) gx16 gx17 k_fgxz (zs o 401 az) k_s1gx (bN 7 z_fs1_13) k_s2gx z_fs2_14 k_s3gx z_fs3_15 k_s4gx z_fs4_16 k_s5gx z_fs5_17 k_higx higx k_logx logx au (nI nc) (nI np) (nI ne) (nI st0) q4 q5 q6 q7 q8 q9 q10 q11 q12 q13 q14 q15 q16 k_f4 f4 k_f5 (bN 7 q_f5) k_f6 (bN 7 q_f6) k_f7 f7 k_f8 (bN 4 q_f8) k_f9 (bN 2 q_f9) k_f10 f10 k_f11 f11 k_f12 f12 k_f13 f13 k_f14 f14 k_f15 f15 k_f16 f16 bu k_fbu g_3)) hP hD [15, 16, 17, 18, 19, 20, 21, 22, 23, 1, 2, 3, 4, 5, 6, 7, 8, 9, 10, 11, 12, 13, 14, 24] [24, 9, 10, 11, 12, 13, 14, 15, 16, 17, 18, 19, 20, 21, 22, 0, 1, 2, 3, 4, 5, 6, 7, 8, 23] 24 rfl hk1 hP1 rfl zp_f rfl rfl (by decide)
    clear hP1 hD1 hFc
    clear hPc hDc hKc
    clear hk1 hz1 ht hvm
    generalize H1 = H at hP hS ⊢
    have hsp := hsp.trans (slet_eq xr_12_1)
    exact W.vret hx hb hr (fun t ht hW => ⟨⟨(), rfl, trivial, ⟨z_fs1_13, z_fs2_14, z_fs3_15, z_fs4_16, z_fs5_17, g_3, z_gfound_18, z_gc_19, z_gfull_20, z_gx_21, z_fz_22, z_qs_23, ⟨by rw [ht]; exact hP, va_K.moved hW.alike hK, hD⟩, hz_gfound_18, hz_gc_19, hz_gfull_20, by first | assumption | exact gz_0, (hsp.symm.trans hRR)⟩⟩, hS.F ht⟩) hS.2.2 eX8_beginAtZero_43
  · have c_11 : ¬ 5 ≤ g_4 := fun z => c_11 ((nI_leI (a := 5) (b := g_4) (Nat.le_of_ble_eq_true rfl) (Nat.lt_of_le_of_lt hg_4 (Nat.le_of_ble_eq_true rfl))).mpr z)
    have hsp := hsp.trans (if_neg c_11)
    refine lv_aload_n hx hb eX8_beginAtZero_11 rfl (lv_at hl 0 rfl) ?_
    refine va_get (D := (dC, dI)) (ci := 8) (v := .ref bu) (C := RX8) (T := TX8) (N := 16) hx hb hts hiX8 hown hK hP 0 rfl rfl 14 (by decide) v_1 (fun _ h9 => h9) rfl eX8_beginAtZero_12 ?_
    refine lv_iload_n hx hb eX8_beginAtZero_15 rfl (lv_at hl 2 rfl) ?_
    refine lv_iconst (v := 0) hx hb eX8_beginAtZero_16 (by decide) ?_
    refine va_iast hx hb hK hP hD hS 24 21 rfl rfl (vp_in_nI (n := g_4) (by omega) (Nat.le_of_ble_eq_true rfl)) eX8_beginAtZero_17 (fun H locs hP hD hS => ?_)
    obtain ⟨f_24, ef_24, xf_24⟩ := up_x g_3 (n := g_4) 0 (Nat.lt_of_le_of_lt hg_4 (Nat.le_of_ble_eq_true rfl))
    have hP : va_P (dC, dI) vwCl ((xb25__w xa xtape (nI tp) rd au xdr hy g (nI hs) tg sg (nI ss) rm ti py bu sm (nI nc) (nI np) (nI ne) (nI st0) q4 q5 q6 q7 q8 q9 q10 q11 q12 q13 q14 q15 q16 k_f4 f4 k_f5 (bN 7 q_f5) k_f6 (bN 7 q_f6) k_f7 f7 k_f8 (bN 4 q_f8) k_f9 (bN 2 q_f9) k_f10 f10 k_f11 f11 k_f12 f12 k_f13 f13 k_f14 f14 k_f15 f15 k_f16 f16 gx gxz gx1 gx2 gx3 gx4 gx5 (nI gxc) (nI gxfull) gxx gxway gxav gxgoal (nI gxfound) 400 (nI gxl) (nI gxsz) gx16 gx17 k_fgxz (zs o 401 az) k_s1gx (bN 7 q_s1gx) k_s2gx s2gx k_s3gx s3gx k_s4gx s4gx k_s5gx s5gx k_higx higx k_logx logx k_fbu f_24) ++ zp 5 25 N az ac kz qs fz) H := by rw [← ef_24]; exact hP
    have hD : va_D A ((xb25__w xa xtape (nI tp) rd au xdr hy g (nI hs) tg sg (nI ss) rm ti py bu sm (nI nc) (nI np) (nI ne) (nI st0) q4 q5 q6 q7 q8 q9 q10 q11 q12 q13 q14 q15 q16 k_f4 f4 k_f5 (bN 7 q_f5) k_f6 (bN 7 q_f6) k_f7 f7 k_f8 (bN 4 q_f8) k_f9 (bN 2 q_f9) k_f10 f10 k_f11 f11 k_f12 f12 k_f13 f13 k_f14 f14 k_f15 f15 k_f16 f16 gx gxz gx1 gx2 gx3 gx4 gx5 (nI gxc) (nI gxfull) gxx gxway gxav gxgoal (nI gxfound) 400 (nI gxl) (nI gxsz) gx16 gx17 k_fgxz (zs o 401 az) k_s1gx (bN 7 q_s1gx) k_s2gx s2gx k_s3gx s3gx k_s4gx s4gx k_s5gx s5gx k_higx higx k_logx logx k_fbu f_24) ++ zp 5 25 N az ac kz qs fz) := by rw [← ef_24]; exact hD
    have hsp := hsp.trans (slet_eq xf_24)
    refine lv_iinc (v := (nI (g_4 + 1))) (lv' := [(2, .int (nI (g_4 + 1))), (0, .ref xa), (1, .ref gx)]) hx hb eX8_beginAtZero_18 hl (k := 2) rfl (nI_1 _) (by decide) rfl (fun ls hl => ?_)
    refine lv_goto (tgt := 2) hx hb eX8_beginAtZero_21 (by decide) ?_
    exact ih_5 (5 - (g_4 + 1)) (by omega) _ _ _ ⟨f_24, (g_4 + 1), rfl, (by omega), hin_9 _ hsp, hP, hD, hS, lv_sub hl [1, 2, 0] rfl⟩
theorem eX8_graph_0 : decode cX8_graph 0 = .ok (.iload_n 1, 1) := by decide +kernel
theorem eX8_graph_1 : decode cX8_graph 1 = .ok (.ifCond .lt 18, 3) := by decide +kernel
theorem eX8_graph_4 : decode cX8_graph 4 = .ok (.iload_n 1, 1) := by decide +kernel
theorem eX8_graph_5 : decode cX8_graph 5 = .ok (.iconst 2, 1) := by decide +kernel
theorem eX8_graph_6 : decode cX8_graph 6 = .ok (.if_icmp .gt 13, 3) := by decide +kernel
theorem eX8_graph_9 : decode cX8_graph 9 = .ok (.aload_n 0, 1) := by decide +kernel
theorem eX8_graph_10 : decode cX8_graph 10 = .ok (.getfield 23, 3) := by decide +kernel
theorem eX8_graph_13 : decode cX8_graph 13 = .ok (.getfield 97, 3) := by decide +kernel
theorem eX8_graph_16 : decode cX8_graph 16 = .ok (.ifCond .ne 5, 3) := by decide +kernel
theorem eX8_graph_19 : decode cX8_graph 19 = .ok (.iconst (-1), 1) := by decide +kernel
theorem eX8_graph_20 : decode cX8_graph 20 = .ok (.ireturn, 1) := by decide +kernel
abbrev vs_E_8_graph_0 : List Cond := .code yX8_graph cX8_graph 3 (some .int) :: CM
noncomputable def sp_E_8_graph_0 (p0 : Int32) : Int32 := (if (p0 : Int32) < 0 then (-1) else (if (2 : Int32) < p0 then (-1) else (slet ((p0 : Int32).toNatClampNeg) (fun n_3 => (-1)))))
set_option maxHeartbeats 4000000 in
set_option maxRecDepth 100000 in
theorem c_E_8_graph_0 (l : Launch) (dC : Nat → ClassId) (dI : Nat → Nat → Nat) (sz : Nat) (xa : Nat) (xtape : Nat) (tp : Nat) (rd : Nat) (au : Nat) (xdr : Nat) (hy : Nat) (g : Nat) (tg : Nat) (sg : Nat) (rm : Nat) (ti : Nat) (py : Nat) (bu : Nat) (sm : Nat) (nc : Nat) (ne : Nat) (st0 : Int32) (q4 : Nat) (q5 : Nat) (q6 : Nat) (q7 : Nat) (q8 : Nat) (q9 : Nat) (q10 : Nat) (q11 : Nat) (q12 : Nat) (q13 : Nat) (q14 : Nat) (q15 : Nat) (q16 : Nat) (k_f4 : ClassId) (f4 : Nat → Int32) (k_f5 : ClassId) (q_f5 : Nat → Nat) (k_f6 : ClassId) (q_f6 : Nat → Nat) (k_f7 : ClassId) (f7 : Nat → Int32) (k_f8 : ClassId) (q_f8 : Nat → Nat) (k_f9 : ClassId) (q_f9 : Nat → Nat) (k_f10 : ClassId) (f10 : Nat → Int32) (k_f11 : ClassId) (f11 : Nat → Int32) (k_f12 : ClassId) (f12 : Nat → Int32) (k_f13 : ClassId) (f13 : Nat → Int32) (k_f14 : ClassId) (f14 : Nat → Int32) (k_f15 : ClassId) (f15 : Nat → Int32) (k_f16 : ClassId) (f16 : Nat → Int32) (gz : Nat) (g1 : Nat) (g2 : Nat) (g3 : Nat) (g4 : Nat) (g5 : Nat) (gc : Nat) (gfull : Nat) (gx : Int32) (gway : Int32) (gav : Int32) (ggoal : Int32) (gfound : Nat) (gl : Nat) (gsz : Nat) (g16 : Nat) (g17 : Nat) (k_fgz : ClassId) (k_s1g : ClassId) (q_s1g : Nat → Nat) (k_s2g : ClassId) (s2g : Nat → Int32) (k_s3g : ClassId) (s3g : Nat → Int32) (k_s4g : ClassId) (s4g : Nat → Int32) (k_s5g : ClassId) (s5g : Nat → Int32) (k_hig : ClassId) (hig : Nat → Int32) (k_log : ClassId) (log : Nat → Int32) (k_fbu : ClassId) (fbu : Nat → Int32) (N : Nat) (o : Nat) (az ac : Nat → Nat) (kz : Nat → ClassId) (qs : Nat → Nat) (fz : Nat → Nat → Int32) (p0 : Int32) (a1 : Nat) (htp : tp ≤ 900) (hnc : nc ≤ 3) (hne : ne ≤ 14) (hst0 : pm1 7 st0) (hgc : gc ≤ 120) (hgfull : gfull ≤ 1) (hgfound : gfound ≤ 1) (hgl : gl ≤ 1) (hgsz : gsz ≤ 4) (hN : o + 121 ≤ N) (ha1 : a1 ≤ 1) : Met l yX8_graph vs_E_8_graph_0 ({ frames := 0, cells := 0, slots := 0, locals := 0 }) (va_Pc [.ref xa, .int p0, .int (nI a1)] (pu_B (dC, dI) ((xg__w xa xtape (nI tp) rd au xdr hy g 0 tg sg 0 rm ti py bu sm (nI nc) 0 (nI ne) st0 q4 q5 q6 q7 q8 q9 q10 q11 q12 q13 q14 q15 q16 k_f4 f4 k_f5 (bN 7 q_f5) k_f6 (bN 7 q_f6) k_f7 f7 k_f8 (bN 4 q_f8) k_f9 (bN 2 q_f9) k_f10 f10 k_f11 f11 k_f12 f12 k_f13 f13 k_f14 f14 k_f15 f15 k_f16 f16 gz g1 g2 g3 g4 g5 (nI gc) (nI gfull) gx gway gav ggoal (nI gfound) 120 (nI gl) (nI gsz) g16 g17 k_fgz (zs o 121 az) k_s1g (bN 7 q_s1g) k_s2g s2g k_s3g s3g k_s4g s4g k_s5g s5g k_hig hig k_log log k_fbu fbu) ++ zp 4 16 N az ac kz qs fz) ((xg__t k_f4 k_f5 k_f6 k_f7 k_f8 k_f9 k_f10 k_f11 k_f12 k_f13 k_f14 k_f15 k_f16 k_fgz k_s1g k_s2g k_s3g k_s4g k_s5g k_hig k_log k_fbu) ++ zt N kz) sz)) (va_Qi (fun (r : Int32) (_ : Unit) => r = (sp_E_8_graph_0 p0)) (fun _ _ => True) (va_A [] sz)) 0 0 (va_A [] sz) := by
  refine Met.ofW (cc := cX8_graph) (maxL := 3) (ret := (some .int)) (by decide) rfl ?_
  intro p e s m args below meth c s₁ B hml hv
  obtain ⟨rfl, rfl, hP, hK, hD0⟩ := hv
  have hx := B.exec
  have hb := B.bytes
  have hr := B.returns
  have hts := atoms_spec (ws := vs_E_8_graph_0) B.pre
  have v_1 := hts (.fieldLink RX8 23 "ClockReach" "model" "LClockReach$Automaton;") (List.mem_cons_of_mem _ cm_434)
  have v_2 := hts (.fieldLink RX8 97 "ClockReach$Automaton" "places" "I") (List.mem_cons_of_mem _ cm_437)
  have hown : s.vm.findClass RX8 = some m.cls := findClass_of_methodNamed B.named
  have hlocks := B.notSynchronized
  have hiX0 : ∀ w ∈ wsX00, w ∈ vs_E_8_graph_0 := fun _ h => List.mem_cons_of_mem _ (cm_X0 h)
  have hiX8 : ∀ w ∈ wsX80, w ∈ vs_E_8_graph_0 := fun _ h => List.mem_cons_of_mem _ (cm_X8 h)
  have hD := hD0
  have hA : ∀ q : Nat, s.heap.size ≤ q → va_A [] s.heap.size q := fun _ h => Or.inr h
  have hS : va_S (va_A [] s.heap.size) s.heap s.heap [] := va_S.rf
  have hl := lv_entry ([.ref xa, .int p0, .int (nI a1)]) (n := 3) (Nat.le_of_ble_eq_true rfl)
  rw [lg_entry_eq]
  generalize (lg_sl ([.ref xa, .int p0, .int (nI a1)]) ++ List.replicate (3 - (lg_sl ([.ref xa, .int p0, .int (nI a1)])).length) Slot.unset).toArray = ls at hl ⊢
  have hl : lv_has ls 3 [(0, .ref xa), (1, .int p0), (2, .int (nI a1))] := hl
  obtain ⟨RR, hRR⟩ : ∃ x, x = (sp_E_8_graph_0 p0) := ⟨_, rfl⟩
  have hsp := hRR
  refine lv_iload_n hx hb eX8_graph_0 rfl (lv_at hl 1 rfl) ?_
  refine lv_if_lt (tgt := 19) hx hb eX8_graph_1 (by decide) (fun c_1 => ?_) (fun c_1 => ?_)
  · have hcc_1 := c_1
    have hsp := hsp.trans (if_pos c_1)
    refine lv_iconst (v := (-1)) hx hb eX8_graph_19 (by decide) ?_
    exact W.iret (v := (-1)) hx hb hr (fun t ht hW => ⟨⟨(-1), (), rfl, (hsp.symm.trans hRR), trivial⟩, hS.F ht⟩) hS.2.2 eX8_graph_20
  · have hcc_1 := c_1
    have hsp := hsp.trans (if_neg c_1)
    have lp0 : ¬ p0 < 0 := c_1
    refine lv_iload_n hx hb eX8_graph_4 rfl (lv_at hl 1 rfl) ?_
    refine lv_iconst (v := 2) hx hb eX8_graph_5 (by decide) ?_
    refine lv_icmp_gt (tgt := 19) hx hb eX8_graph_6 (by decide) (fun c_2 => ?_) (fun c_2 => ?_)
    · have hcc_2 := c_2
      have hsp := hsp.trans (if_pos c_2)
      refine lv_iconst (v := (-1)) hx hb eX8_graph_19 (by decide) ?_
      exact W.iret (v := (-1)) hx hb hr (fun t ht hW => ⟨⟨(-1), (), rfl, (hsp.symm.trans hRR), trivial⟩, hS.F ht⟩) hS.2.2 eX8_graph_20
    · have hcc_2 := c_2
      have hsp := hsp.trans (if_neg c_2)
      obtain ⟨n_3, hn_3, rfl⟩ := pu_ule (b := 2) (by omega) lp0 (Int32.not_lt.mp c_2)
      have hsp := hsp.trans (slet_eq (nI_cl (n := n_3) (by omega)))
      refine lv_aload_n hx hb eX8_graph_9 rfl (lv_at hl 0 rfl) ?_
      refine va_get (D := (dC, dI)) (ci := 8) (v := .ref au) (C := RX8) (T := TX8) (N := 16) hx hb hts hiX8 hown hK hP 0 rfl rfl 3 (by decide) v_1 (fun _ h9 => h9) rfl eX8_graph_10 ?_
      refine va_get (D := (dC, dI)) (ci := 0) (v := .int 0) (C := RX0) (T := TX0) (N := 17) hx hb hts hiX0 hown hK hP 1 rfl rfl 1 (by decide) v_2 (fun _ h9 => h9) rfl eX8_graph_13 ?_
      refine lv_if_ne (tgt := 21) hx hb eX8_graph_16 (by decide) (fun z => absurd z (by decide)) (fun _ => ?_)
      refine lv_iconst (v := (-1)) hx hb eX8_graph_19 (by decide) ?_
      exact W.iret (v := (-1)) hx hb hr (fun t ht hW => ⟨⟨(-1), (), rfl, (hsp.symm.trans hRR), trivial⟩, hS.F ht⟩) hS.2.2 eX8_graph_20
