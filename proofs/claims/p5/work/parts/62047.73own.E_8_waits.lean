theorem eX8_waits_0 : decode cX8_waits 0 = .ok (.aload_n 0, 1) := by decide +kernel
theorem eX8_waits_1 : decode cX8_waits 1 = .ok (.getfield 69, 3) := by decide +kernel
theorem eX8_waits_4 : decode cX8_waits 4 = .ok (.getfield 107, 3) := by decide +kernel
theorem eX8_waits_7 : decode cX8_waits 7 = .ok (.ifCond .eq 29, 3) := by decide +kernel
theorem eX8_waits_10 : decode cX8_waits 10 = .ok (.iload_n 1, 1) := by decide +kernel
theorem eX8_waits_11 : decode cX8_waits 11 = .ok (.ifCond .lt 25, 3) := by decide +kernel
theorem eX8_waits_14 : decode cX8_waits 14 = .ok (.iload_n 1, 1) := by decide +kernel
theorem eX8_waits_15 : decode cX8_waits 15 = .ok (.sipush 25600, 3) := by decide +kernel
theorem eX8_waits_18 : decode cX8_waits 18 = .ok (.if_icmp .gt 18, 3) := by decide +kernel
theorem eX8_waits_21 : decode cX8_waits 21 = .ok (.iload_n 1, 1) := by decide +kernel
theorem eX8_waits_22 : decode cX8_waits 22 = .ok (.aload_n 0, 1) := by decide +kernel
theorem eX8_waits_23 : decode cX8_waits 23 = .ok (.getfield 69, 3) := by decide +kernel
theorem eX8_waits_26 : decode cX8_waits 26 = .ok (.aload_n 0, 1) := by decide +kernel
theorem eX8_waits_27 : decode cX8_waits 27 = .ok (.getfield 23, 3) := by decide +kernel
theorem eX8_waits_30 : decode cX8_waits 30 = .ok (.invokevirtual 367, 3) := by decide +kernel
theorem eX8_waits_33 : decode cX8_waits 33 = .ok (.if_icmp .le 5, 3) := by decide +kernel
theorem eX8_waits_36 : decode cX8_waits 36 = .ok (.iconst 0, 1) := by decide +kernel
theorem eX8_waits_37 : decode cX8_waits 37 = .ok (.ireturn, 1) := by decide +kernel
theorem eX8_waits_38 : decode cX8_waits 38 = .ok (.aload_n 0, 1) := by decide +kernel
theorem eX8_waits_39 : decode cX8_waits 39 = .ok (.getfield 69, 3) := by decide +kernel
theorem eX8_waits_42 : decode cX8_waits 42 = .ok (.iload_n 1, 1) := by decide +kernel
theorem eX8_waits_43 : decode cX8_waits 43 = .ok (.invokevirtual 371, 3) := by decide +kernel
theorem eX8_waits_46 : decode cX8_waits 46 = .ok (.iconst 1, 1) := by decide +kernel
theorem eX8_waits_47 : decode cX8_waits 47 = .ok (.ireturn, 1) := by decide +kernel
abbrev vs_E_8_waits : List Cond := .code yX8_waits cX8_waits 2 (some .boolean) :: CM
theorem g_E_8_waits_E_3_longestWait : GoodIn vs_E_8_waits (wsV RX8 367 RX3 yX3_longestWait vs_E_3_longestWait) := cm_gV cm_647 cm_207 cm_208 cm_204 cm_181
theorem g_E_8_waits_E_3_pass : GoodIn vs_E_8_waits (wsV RX8 371 RX3 yX3_pass vs_E_3_pass) := cm_gV cm_648 cm_210 cm_211 cm_204 cm_192
noncomputable def sp_E_8_waits (f4 : Nat → Int32) (q_f8 : Nat → Nat) (q_f9 : Nat → Nat) (f12 : Nat → Int32) (on : Nat) (si : Nat) (ti0 : Int32) (ftm : Nat → Int32) (p0 : Int32) : Nat × (Nat → Int32) × Int32 := (if on = 0 then (0, ftm, ti0) else (if (p0 : Int32) < 0 then (0, ftm, ti0) else (if (25600 : Int32) < p0 then (0, ftm, ti0) else (slet ((p0 : Int32).toNatClampNeg) (fun n_4 => (slet (sp_E_3_longestWait si ftm f4 q_f8 q_f9 f12) (fun r_5 => (if ((nI n_4) : Int32) ≤ r_5 then (slet (sp_E_3_pass ti0 ftm (nI n_4)) (fun (z_ftm_8, z_ti_9) => (1, z_ftm_8, z_ti_9))) else (0, ftm, ti0)))))))))
set_option maxHeartbeats 4000000 in
set_option maxRecDepth 100000 in
theorem c_E_8_waits (l : Launch) (dC : Nat → ClassId) (dI : Nat → Nat → Nat) (sz : Nat) (xa : Nat) (xtape : Nat) (tp : Nat) (rd : Nat) (au : Nat) (xdr : Nat) (hy : Nat) (g : Nat) (hs : Nat) (tg : Nat) (sg : Nat) (ss : Nat) (rm : Nat) (ti : Nat) (py : Nat) (bu : Nat) (sm : Nat) (nc : Nat) (np : Nat) (ne : Nat) (st0 : Int32) (q4 : Nat) (q5 : Nat) (q6 : Nat) (q7 : Nat) (q8 : Nat) (q9 : Nat) (q10 : Nat) (q11 : Nat) (q12 : Nat) (q13 : Nat) (q14 : Nat) (q15 : Nat) (q16 : Nat) (k_f4 : ClassId) (f4 : Nat → Int32) (k_f5 : ClassId) (q_f5 : Nat → Nat) (k_f6 : ClassId) (q_f6 : Nat → Nat) (k_f7 : ClassId) (f7 : Nat → Int32) (k_f8 : ClassId) (q_f8 : Nat → Nat) (k_f9 : ClassId) (q_f9 : Nat → Nat) (k_f10 : ClassId) (f10 : Nat → Int32) (k_f11 : ClassId) (f11 : Nat → Int32) (k_f12 : ClassId) (f12 : Nat → Int32) (k_f13 : ClassId) (f13 : Nat → Int32) (k_f14 : ClassId) (f14 : Nat → Int32) (k_f15 : ClassId) (f15 : Nat → Int32) (k_f16 : ClassId) (f16 : Nat → Int32) (on : Nat) (si : Nat) (ti0 : Int32) (tm : Nat) (bh : Nat) (k_ftm : ClassId) (ftm : Nat → Int32) (k_fbh : ClassId) (fbh : Nat → Int32) (p0 : Int32) (htp : tp ≤ 900) (hhs : hs ≤ 1) (hss : ss ≤ 1) (hnc : nc ≤ 3) (hnp : np ≤ 8) (hne : ne ≤ 14) (hst0 : pm1 7 st0) (hon : on ≤ 1) (hsi : si ≤ 7) : Met l yX8_waits vs_E_8_waits ({ frames := 2, cells := 0, slots := 0, locals := 46 }) (va_Pc [.ref xa, .int p0] (pu_B (dC, dI) (xy__w xa xtape (nI tp) rd au xdr hy g (nI hs) tg sg (nI ss) rm ti py bu sm (nI nc) (nI np) (nI ne) st0 q4 q5 q6 q7 q8 q9 q10 q11 q12 q13 q14 q15 q16 k_f4 f4 k_f5 (bN 7 q_f5) k_f6 (bN 7 q_f6) k_f7 f7 k_f8 (bN 4 q_f8) k_f9 (bN 2 q_f9) k_f10 f10 k_f11 f11 k_f12 f12 k_f13 f13 k_f14 f14 k_f15 f15 k_f16 f16 (nI on) (nI si) ti0 tm bh k_ftm ftm k_fbh fbh) (xy__t k_f4 k_f5 k_f6 k_f7 k_f8 k_f9 k_f10 k_f11 k_f12 k_f13 k_f14 k_f15 k_f16 k_ftm k_fbh) sz)) (va_Qi (fun (r : Int32) (_ : Unit) => ∃ v : Nat, v ≤ 1 ∧ r = nI v ∧ v = (sp_E_8_waits f4 q_f8 q_f9 f12 on si ti0 ftm p0).1) (fun _ t => ∃ (z_ftm : Nat → Int32) (z_ti0 : Int32), pu_E (dC, dI) (xy__w xa xtape (nI tp) rd au xdr hy g (nI hs) tg sg (nI ss) rm ti py bu sm (nI nc) (nI np) (nI ne) st0 q4 q5 q6 q7 q8 q9 q10 q11 q12 q13 q14 q15 q16 k_f4 f4 k_f5 (bN 7 q_f5) k_f6 (bN 7 q_f6) k_f7 f7 k_f8 (bN 4 q_f8) k_f9 (bN 2 q_f9) k_f10 f10 k_f11 f11 k_f12 f12 k_f13 f13 k_f14 f14 k_f15 f15 k_f16 f16 (nI on) (nI si) z_ti0 tm bh k_ftm z_ftm k_fbh fbh) (xy__t k_f4 k_f5 k_f6 k_f7 k_f8 k_f9 k_f10 k_f11 k_f12 k_f13 k_f14 k_f15 k_f16 k_ftm k_fbh) (va_A ((xy__w xa xtape (nI tp) rd au xdr hy g (nI hs) tg sg (nI ss) rm ti py bu sm (nI nc) (nI np) (nI ne) st0 q4 q5 q6 q7 q8 q9 q10 q11 q12 q13 q14 q15 q16 k_f4 f4 k_f5 (bN 7 q_f5) k_f6 (bN 7 q_f6) k_f7 f7 k_f8 (bN 4 q_f8) k_f9 (bN 2 q_f9) k_f10 f10 k_f11 f11 k_f12 f12 k_f13 f13 k_f14 f14 k_f15 f15 k_f16 f16 (nI on) (nI si) ti0 tm bh k_ftm ftm k_fbh fbh)) sz) t ∧ ((z_ftm, z_ti0) = (sp_E_8_waits f4 q_f8 q_f9 f12 on si ti0 ftm p0).2)) (va_A ((xy__w xa xtape (nI tp) rd au xdr hy g (nI hs) tg sg (nI ss) rm ti py bu sm (nI nc) (nI np) (nI ne) st0 q4 q5 q6 q7 q8 q9 q10 q11 q12 q13 q14 q15 q16 k_f4 f4 k_f5 (bN 7 q_f5) k_f6 (bN 7 q_f6) k_f7 f7 k_f8 (bN 4 q_f8) k_f9 (bN 2 q_f9) k_f10 f10 k_f11 f11 k_f12 f12 k_f13 f13 k_f14 f14 k_f15 f15 k_f16 f16 (nI on) (nI si) ti0 tm bh k_ftm ftm k_fbh fbh)) sz)) 0 0 (va_A ((xy__w xa xtape (nI tp) rd au xdr hy g (nI hs) tg sg (nI ss) rm ti py bu sm (nI nc) (nI np) (nI ne) st0 q4 q5 q6 q7 q8 q9 q10 q11 q12 q13 q14 q15 q16 k_f4 f4 k_f5 (bN 7 q_f5) k_f6 (bN 7 q_f6) k_f7 f7 k_f8 (bN 4 q_f8) k_f9 (bN 2 q_f9) k_f10 f10 k_f11 f11 k_f12 f12 k_f13 f13 k_f14 f14 k_f15 f15 k_f16 f16 (nI on) (nI si) ti0 tm bh k_ftm ftm k_fbh fbh)) sz) := by
  refine Met.ofW (cc := cX8_waits) (maxL := 2) (ret := (some .boolean)) (by decide) rfl ?_
  intro p e s m args below meth c s₁ B hml hv
  obtain ⟨rfl, rfl, hP, hK, hD0⟩ := hv
  have hx := B.exec
  have hb := B.bytes
  have hr := B.returns
  have hts := atoms_spec (ws := vs_E_8_waits) B.pre
  have v_1 := hts (.fieldLink RX8 69 "ClockReach" "play" "LClockReach$Play;") (List.mem_cons_of_mem _ cm_447)
  have v_2 := hts (.fieldLink RX8 107 "ClockReach$Play" "on" "Z") (List.mem_cons_of_mem _ cm_448)
  have v_3 := hts (.fieldLink RX8 23 "ClockReach" "model" "LClockReach$Automaton;") (List.mem_cons_of_mem _ cm_434)
  have hown : s.vm.findClass RX8 = some m.cls := findClass_of_methodNamed B.named
  have hlocks := B.notSynchronized
  have hiX3 : ∀ w ∈ wsX30, w ∈ vs_E_8_waits := fun _ h => List.mem_cons_of_mem _ (cm_X3 h)
  have hiX8 : ∀ w ∈ wsX80, w ∈ vs_E_8_waits := fun _ h => List.mem_cons_of_mem _ (cm_X8 h)
  have hD := hD0.self (sz := s.heap.size)
  generalize hAe : va_A ((xy__w xa xtape (nI tp) rd au xdr hy g (nI hs) tg sg (nI ss) rm ti py bu sm (nI nc) (nI np) (nI ne) st0 q4 q5 q6 q7 q8 q9 q10 q11 q12 q13 q14 q15 q16 k_f4 f4 k_f5 (bN 7 q_f5) k_f6 (bN 7 q_f6) k_f7 f7 k_f8 (bN 4 q_f8) k_f9 (bN 2 q_f9) k_f10 f10 k_f11 f11 k_f12 f12 k_f13 f13 k_f14 f14 k_f15 f15 k_f16 f16 (nI on) (nI si) ti0 tm bh k_ftm ftm k_fbh fbh)) s.heap.size = A at hD ⊢
  have hA : ∀ q : Nat, s.heap.size ≤ q → A q := fun q h => by rw [← hAe]; exact Or.inr h
  have hS : va_S A s.heap s.heap [] := va_S.rf
  have hl := lv_entry ([.ref xa, .int p0]) (n := 2) (Nat.le_of_ble_eq_true rfl)
  rw [lg_entry_eq]
  generalize (lg_sl ([.ref xa, .int p0]) ++ List.replicate (2 - (lg_sl ([.ref xa, .int p0])).length) Slot.unset).toArray = ls at hl ⊢
  have hl : lv_has ls 2 [(0, .ref xa), (1, .int p0)] := hl
  obtain ⟨RR, hRR⟩ : ∃ x, x = (sp_E_8_waits f4 q_f8 q_f9 f12 on si ti0 ftm p0) := ⟨_, rfl⟩
  have hsp := hRR
  refine lv_aload_n hx hb eX8_waits_0 rfl (lv_at hl 0 rfl) ?_
  refine va_get (D := (dC, dI)) (ci := 8) (v := .ref py) (C := RX8) (T := TX8) (N := 16) hx hb hts hiX8 hown hK hP 0 rfl rfl 13 (by decide) v_1 (fun _ h9 => h9) rfl eX8_waits_1 ?_
  refine va_get (D := (dC, dI)) (ci := 3) (v := .int (nI on)) (C := RX3) (T := TX3) (N := 5) hx hb hts hiX3 hown hK hP 15 rfl rfl 0 (by decide) v_2 (fun _ h9 => h9) rfl eX8_waits_4 ?_
  refine lv_if_eq (tgt := 36) hx hb eX8_waits_7 (by decide) (fun c_1 => ?_) (fun c_1 => ?_)
  · have c_1 : on = 0 := (nI_eq (a := on) (b := 0) (Nat.lt_of_le_of_lt hon (Nat.le_of_ble_eq_true rfl)) (Nat.le_of_ble_eq_true rfl)).mp c_1
    have hsp := hsp.trans (if_pos c_1)
    refine lv_iconst (v := 0) hx hb eX8_waits_36 (by decide) ?_
    exact W.zret (v := 0) (ty := .boolean) hx hb hr (rfl) (fun t ht hW => ⟨⟨0, (), rfl, ⟨0, (Nat.le_of_ble_eq_true rfl), rfl, (congrArg Prod.fst (hsp.symm.trans hRR))⟩, ⟨ftm, ti0, ⟨by rw [ht]; exact hP, va_K.moved hW.alike hK, hD⟩, (congrArg Prod.snd (hsp.symm.trans hRR))⟩⟩, hS.F ht⟩) hS.2.2 eX8_waits_37
  · have c_1 : ¬ on = 0 := fun z => c_1 ((nI_eq (a := on) (b := 0) (Nat.lt_of_le_of_lt hon (Nat.le_of_ble_eq_true rfl)) (Nat.le_of_ble_eq_true rfl)).mpr z)
    have hsp := hsp.trans (if_neg c_1)
    refine lv_iload_n hx hb eX8_waits_10 rfl (lv_at hl 1 rfl) ?_
    refine lv_if_lt (tgt := 36) hx hb eX8_waits_11 (by decide) (fun c_2 => ?_) (fun c_2 => ?_)
    · have hcc_2 := c_2
      have hsp := hsp.trans (if_pos c_2)
      refine lv_iconst (v := 0) hx hb eX8_waits_36 (by decide) ?_
      exact W.zret (v := 0) (ty := .boolean) hx hb hr (rfl) (fun t ht hW => ⟨⟨0, (), rfl, ⟨0, (Nat.le_of_ble_eq_true rfl), rfl, (congrArg Prod.fst (hsp.symm.trans hRR))⟩, ⟨ftm, ti0, ⟨by rw [ht]; exact hP, va_K.moved hW.alike hK, hD⟩, (congrArg Prod.snd (hsp.symm.trans hRR))⟩⟩, hS.F ht⟩) hS.2.2 eX8_waits_37
    · have hcc_2 := c_2
      have hsp := hsp.trans (if_neg c_2)
      have lp0 : ¬ p0 < 0 := c_2
      refine lv_iload_n hx hb eX8_waits_14 rfl (lv_at hl 1 rfl) ?_
      refine lv_sipush (v := 25600) hx hb eX8_waits_15 (by decide) ?_
      refine lv_icmp_gt (tgt := 36) hx hb eX8_waits_18 (by decide) (fun c_3 => ?_) (fun c_3 => ?_)
      · have hcc_3 := c_3
        have hsp := hsp.trans (if_pos c_3)
        refine lv_iconst (v := 0) hx hb eX8_waits_36 (by decide) ?_
        exact W.zret (v := 0) (ty := .boolean) hx hb hr (rfl) (fun t ht hW => ⟨⟨0, (), rfl, ⟨0, (Nat.le_of_ble_eq_true rfl), rfl, (congrArg Prod.fst (hsp.symm.trans hRR))⟩, ⟨ftm, ti0, ⟨by rw [ht]; exact hP, va_K.moved hW.alike hK, hD⟩, (congrArg Prod.snd (hsp.symm.trans hRR))⟩⟩, hS.F ht⟩) hS.2.2 eX8_waits_37
      · have hcc_3 := c_3
        have hsp := hsp.trans (if_neg c_3)
        obtain ⟨n_4, hn_4, rfl⟩ := pu_ule (b := 25600) (by omega) lp0 (Int32.not_lt.mp c_3)
        have hsp := hsp.trans (slet_eq (nI_cl (n := n_4) (by omega)))
        refine lv_iload_n hx hb eX8_waits_21 rfl (lv_at hl 1 rfl) ?_
        refine lv_aload_n hx hb eX8_waits_22 rfl (lv_at hl 0 rfl) ?_
        refine va_get (D := (dC, dI)) (ci := 8) (v := .ref py) (C := RX8) (T := TX8) (N := 16) hx hb hts hiX8 hown hK hP 0 rfl rfl 13 (by decide) v_1 (fun _ h9 => h9) rfl eX8_waits_23 ?_
        refine lv_aload_n hx hb eX8_waits_26 rfl (lv_at hl 0 rfl) ?_
        refine va_get (D := (dC, dI)) (ci := 8) (v := .ref au) (C := RX8) (T := TX8) (N := 16) hx hb hts hiX8 hown hK hP 0 rfl rfl 3 (by decide) v_3 (fun _ h9 => h9) rfl eX8_waits_27 ?_
        have hPc : va_P (dC, dI) vwCl (pa__w py (nI on) (nI si) ti0 tm bh k_ftm ftm k_fbh fbh au (nI nc) (nI np) (nI ne) st0 q4 q5 q6 q7 q8 q9 q10 q11 q12 q13 q14 q15 q16 k_f4 f4 k_f5 (bN 7 q_f5) k_f6 (bN 7 q_f6) k_f7 f7 k_f8 (bN 4 q_f8) k_f9 (bN 2 q_f9) k_f10 f10 k_f11 f11 k_f12 f12 k_f13 f13 k_f14 f14 k_f15 f15 k_f16 f16) _ := hP.sub [15, 16, 17, 1, 2, 3, 4, 5, 6, 7, 8, 9, 10, 11, 12, 13, 14] rfl
        have hDc := hD.sub (ws' := (pa__w py (nI on) (nI si) ti0 tm bh k_ftm ftm k_fbh fbh au (nI nc) (nI np) (nI ne) st0 q4 q5 q6 q7 q8 q9 q10 q11 q12 q13 q14 q15 q16 k_f4 f4 k_f5 (bN 7 q_f5) k_f6 (bN 7 q_f6) k_f7 f7 k_f8 (bN 4 q_f8) k_f9 (bN 2 q_f9) k_f10 f10 k_f11 f11 k_f12 f12 k_f13 f13 k_f14 f14 k_f15 f15 k_f16 f16)) [15, 16, 17, 1, 2, 3, 4, 5, 6, 7, 8, 9, 10, 11, 12, 13, 14] (by decide) rfl
        have hKc : va_K (dC, dI) vwCl (pa__t k_ftm k_fbh k_f4 k_f5 k_f6 k_f7 k_f8 k_f9 k_f10 k_f11 k_f12 k_f13 k_f14 k_f15 k_f16) s := hK.sub [13, 14, 0, 1, 2, 3, 4, 5, 6, 7, 8, 9, 10, 11, 12] rfl
        refine va_calli (va_runV (As := [.ref au]) (rest := [.int (nI n_4)]) ⟨hx, hb, hml, hown, hts⟩ (c_E_3_longestWait l dC dI _ py on si ti0 tm bh k_ftm ftm k_fbh fbh au nc np ne st0 q4 q5 q6 q7 q8 q9 q10 q11 q12 q13 q14 q15 q16 k_f4 f4 k_f5 q_f5 k_f6 q_f6 k_f7 f7 k_f8 q_f8 k_f9 q_f9 k_f10 f10 k_f11 f11 k_f12 f12 k_f13 f13 k_f14 f14 k_f15 f15 k_f16 f16 hon hsi hnc hnp hne (hst0)) (cwV 1 hts g_E_8_waits_E_3_longestWait rfl rfl rfl (by decide +kernel) ⟨Nat.le_of_ble_eq_true rfl, Nat.le_of_ble_eq_true rfl⟩) ⟨pu_bl, va_recv hK hP (ci := 3) (q0 := 15) rfl rfl, pu_in hPc hKc hDc⟩ rfl rfl hl.1 rfl (lv_room (Nat.le_of_ble_eq_true rfl)) eX8_waits_30 ⟨Nat.le_of_ble_eq_true rfl, Nat.le_of_ble_eq_true rfl⟩) hS (fun q _ h => pu_fr hS hA q h) (pu_fr hS hA) (fun r_5 u t H1 locs ht hvm hw hB hz1 hk1 hS => ?_)
        have hP := pu_keep hP hk1
        clear hk1 hz1 ht hvm
        generalize H1 = H at hP hS ⊢
        have ir_5 := hw
        have hsp := hsp.trans (slet_eq ir_5)
        refine lv_icmp_le (tgt := 38) hx hb eX8_waits_33 (by decide) (fun c_6 => ?_) (fun c_6 => ?_)
        · have hcc_6 := c_6
          have hsp := hsp.trans (if_pos c_6)
          refine lv_aload_n hx hb eX8_waits_38 rfl (lv_at hl 0 rfl) ?_
          refine va_get (D := (dC, dI)) (ci := 8) (v := .ref py) (C := RX8) (T := TX8) (N := 16) hx hb hts hiX8 hown hK hP 0 rfl rfl 13 (by decide) v_1 (fun _ h9 => h9) rfl eX8_waits_39 ?_
          refine lv_iload_n hx hb eX8_waits_42 rfl (lv_at hl 1 rfl) ?_
          have hPc : va_P (dC, dI) vwCl (py__w py (nI on) (nI si) ti0 tm bh k_ftm ftm k_fbh fbh) _ := hP.sub [15, 16, 17] rfl
          have hDc := hD.sub (ws' := (py__w py (nI on) (nI si) ti0 tm bh k_ftm ftm k_fbh fbh)) [15, 16, 17] (by decide) rfl
          have hKc : va_K (dC, dI) vwCl (py__t k_ftm k_fbh) s := hK.sub [13, 14] rfl
          have hFc := pu_free hDc hS hA
          refine va_callv (va_runV (As := [.int (nI n_4)]) (rest := []) ⟨hx, hb, hml, hown, hts⟩ (c_E_3_pass l dC dI _ py on si ti0 tm bh k_ftm ftm k_fbh fbh (nI n_4) hon hsi) (cwV 1 hts g_E_8_waits_E_3_pass rfl rfl rfl (by decide +kernel) ⟨Nat.le_of_ble_eq_true rfl, Nat.le_of_ble_eq_true rfl⟩) ⟨pu_bl, va_recv hK hP (ci := 3) (q0 := 15) rfl rfl, pu_in hPc hKc hDc⟩ rfl rfl hl.1 rfl (lv_room (Nat.le_of_ble_eq_true rfl)) eX8_waits_43 ⟨Nat.le_of_ble_eq_true rfl, Nat.le_of_ble_eq_true rfl⟩) hS (fun q _ h => hFc q h) hFc (fun u t H1 locs ht hvm hw hB hz1 hk1 hS => ?_)
          obtain ⟨z_ftm_8, z_ti_9, ⟨hP1, -, hD1⟩, xr_7_0⟩ := hB
          rw [ht] at hP1
          obtain ⟨hP, hD⟩ := pj_a (X := (xy__w xa xtape (nI tp) rd au xdr hy g (nI hs) tg sg (nI ss) rm ti py bu sm (nI nc) (nI np) (nI ne) st0 q4 q5 q6 q7 q8 q9 q10 q11 q12 q13 q14 q15 q16 k_f4 f4 k_f5 (bN 7 q_f5) k_f6 (bN 7 q_f6) k_f7 f7 k_f8 (bN 4 q_f8) k_f9 (bN 2 q_f9) k_f10 f10 k_f11 f11 k_f12 f12 k_f13 f13 k_f14 f14 k_f15 f15 k_f16 f16 (nI on) (nI si) ti0 tm bh k_ftm ftm k_fbh fbh)) (X' := (xy__w xa xtape (nI tp) rd au xdr hy g (nI hs) tg sg (nI ss) rm ti py bu sm (nI nc) (nI np) (nI ne) st0 q4 q5 q6 q7 q8 q9 q10 q11 q12 q13 q14 q15 q16 k_f4 f4 k_f5 (bN 7 q_f5) k_f6 (bN 7 q_f6) k_f7 f7 k_f8 (bN 4 q_f8) k_f9 (bN 2 q_f9) k_f10 f10 k_f11 f11 k_f12 f12 k_f13 f13 k_f14 f14 k_f15 f15 k_f16 f16 (nI on) (nI si) z_ti_9 tm bh k_ftm z_ftm_8 k_fbh fbh)) (wc := (py__w py (nI on) (nI si) ti0 tm bh k_ftm ftm k_fbh fbh)) (w1 := (py__w py (nI on) (nI si) z_ti_9 tm bh k_ftm z_ftm_8 k_fbh fbh)) hP hD [15, 16, 17] [3, 4, 5, 6, 7, 8, 9, 10, 11, 12, 13, 14, 15, 16, 17, 0, 1, 2] 3 rfl hk1 hP1 rfl rfl rfl (by decide)
          clear hP1 hD1 hFc hPc hDc hKc
          clear hk1 hz1 ht hvm
          generalize H1 = H at hP hS ⊢
          have hsp := hsp.trans (slet_eq xr_7_0)
          refine lv_iconst (v := 1) hx hb eX8_waits_46 (by decide) ?_
          exact W.zret (v := 1) (ty := .boolean) hx hb hr (rfl) (fun t ht hW => ⟨⟨1, (), rfl, ⟨1, (Nat.le_of_ble_eq_true rfl), rfl, (congrArg Prod.fst (hsp.symm.trans hRR))⟩, ⟨z_ftm_8, z_ti_9, ⟨by rw [ht]; exact hP, va_K.moved hW.alike hK, hD⟩, (congrArg Prod.snd (hsp.symm.trans hRR))⟩⟩, hS.F ht⟩) hS.2.2 eX8_waits_47
        · have hcc_6 := c_6
          have hsp := hsp.trans (if_neg c_6)
          refine lv_iconst (v := 0) hx hb eX8_waits_36 (by decide) ?_
          exact W.zret (v := 0) (ty := .boolean) hx hb hr (rfl) (fun t ht hW => ⟨⟨0, (), rfl, ⟨0, (Nat.le_of_ble_eq_true rfl), rfl, (congrArg Prod.fst (hsp.symm.trans hRR))⟩, ⟨ftm, ti0, ⟨by rw [ht]; exact hP, va_K.moved hW.alike hK, hD⟩, (congrArg Prod.snd (hsp.symm.trans hRR))⟩⟩, hS.F ht⟩) hS.2.2 eX8_waits_37
