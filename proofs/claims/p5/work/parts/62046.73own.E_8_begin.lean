theorem eX8_begin_14 : decode cX8_begin 14 = .ok (.aload_n 0, 1) := by decide +kernel
theorem eX8_begin_15 : decode cX8_begin 15 = .ok (.getfield 69, 3) := by decide +kernel
theorem eX8_begin_18 : decode cX8_begin 18 = .ok (.getfield 364, 3) := by decide +kernel
theorem eX8_begin_21 : decode cX8_begin 21 = .ok (.goto 4, 3) := by decide +kernel
abbrev vs_E_8_begin : List Cond := .code yX8_begin cX8_begin 1 (some .int) :: CM
theorem g_E_8_begin_E_3_startsIn : GoodIn vs_E_8_begin (wsV RX8 361 RX3 yX3_startsIn vs_E_3_startsIn) := cm_gV cm_643 cm_644 cm_645 cm_204 cm_170
noncomputable def sp_E_8_begin (np : Nat) (st0 : Nat) (q_f8 : Nat → Nat) (q_f9 : Nat → Nat) (f12 : Nat → Int32) (f13 : Nat → Int32) (si : Nat) (ti0 : Int32) (ftm : Nat → Int32) : Int32 × (Nat → Int32) × Nat × Nat × Int32 := (slet (sp_E_3_startsIn si ti0 ftm np st0 q_f8 q_f9 f12 f13) (fun (u_6, z_ftm_2, z_on_3, z_si_4, z_ti_5) => (if u_6 = 0 then ((-1), z_ftm_2, z_on_3, z_si_4, z_ti_5) else ((nI z_si_4), z_ftm_2, z_on_3, z_si_4, z_ti_5))))
set_option maxHeartbeats 4000000 in
set_option maxRecDepth 100000 in
theorem c_E_8_begin (l : Launch) (dC : Nat → ClassId) (dI : Nat → Nat → Nat) (sz : Nat) (xa : Nat) (xtape : Nat) (tp : Nat) (rd : Nat) (au : Nat) (xdr : Nat) (hy : Nat) (g : Nat) (hs : Nat) (tg : Nat) (sg : Nat) (ss : Nat) (rm : Nat) (ti : Nat) (py : Nat) (bu : Nat) (sm : Nat) (nc : Nat) (np : Nat) (ne : Nat) (st0 : Nat) (q4 : Nat) (q5 : Nat) (q6 : Nat) (q7 : Nat) (q8 : Nat) (q9 : Nat) (q10 : Nat) (q11 : Nat) (q12 : Nat) (q13 : Nat) (q14 : Nat) (q15 : Nat) (q16 : Nat) (k_f4 : ClassId) (f4 : Nat → Int32) (k_f5 : ClassId) (q_f5 : Nat → Nat) (k_f6 : ClassId) (q_f6 : Nat → Nat) (k_f7 : ClassId) (f7 : Nat → Int32) (k_f8 : ClassId) (q_f8 : Nat → Nat) (k_f9 : ClassId) (q_f9 : Nat → Nat) (k_f10 : ClassId) (f10 : Nat → Int32) (k_f11 : ClassId) (f11 : Nat → Int32) (k_f12 : ClassId) (f12 : Nat → Int32) (k_f13 : ClassId) (f13 : Nat → Int32) (k_f14 : ClassId) (f14 : Nat → Int32) (k_f15 : ClassId) (f15 : Nat → Int32) (k_f16 : ClassId) (f16 : Nat → Int32) (on : Nat) (si : Nat) (ti0 : Int32) (tm : Nat) (bh : Nat) (k_ftm : ClassId) (ftm : Nat → Int32) (k_fbh : ClassId) (fbh : Nat → Int32) (htp : tp ≤ 900) (hhs : hs ≤ 1) (hss : ss ≤ 1) (hnc : nc ≤ 3) (hnp : np ≤ 8) (hne : ne ≤ 14) (hst0 : st0 ≤ 7) (hon : on ≤ 1) (hsi : si ≤ 7) : Met l yX8_begin vs_E_8_begin ({ frames := 3, cells := 0, slots := 0, locals := 68 }) (va_Pc [.ref xa] (pu_B (dC, dI) (xy__w xa xtape (nI tp) rd au xdr hy g (nI hs) tg sg (nI ss) rm ti py bu sm (nI nc) (nI np) (nI ne) (nI st0) q4 q5 q6 q7 q8 q9 q10 q11 q12 q13 q14 q15 q16 k_f4 f4 k_f5 (bN 7 q_f5) k_f6 (bN 7 q_f6) k_f7 f7 k_f8 (bN 4 q_f8) k_f9 (bN 2 q_f9) k_f10 f10 k_f11 f11 k_f12 f12 k_f13 f13 k_f14 f14 k_f15 f15 k_f16 f16 (nI on) (nI si) ti0 tm bh k_ftm ftm k_fbh fbh) (xy__t k_f4 k_f5 k_f6 k_f7 k_f8 k_f9 k_f10 k_f11 k_f12 k_f13 k_f14 k_f15 k_f16 k_ftm k_fbh) sz)) (va_Qi (fun (r : Int32) (_ : Unit) => r = (sp_E_8_begin np st0 q_f8 q_f9 f12 f13 si ti0 ftm).1) (fun _ t => ∃ (z_ftm : Nat → Int32) (z_on : Nat) (z_si : Nat) (z_ti0 : Int32), pu_E (dC, dI) (xy__w xa xtape (nI tp) rd au xdr hy g (nI hs) tg sg (nI ss) rm ti py bu sm (nI nc) (nI np) (nI ne) (nI st0) q4 q5 q6 q7 q8 q9 q10 q11 q12 q13 q14 q15 q16 k_f4 f4 k_f5 (bN 7 q_f5) k_f6 (bN 7 q_f6) k_f7 f7 k_f8 (bN 4 q_f8) k_f9 (bN 2 q_f9) k_f10 f10 k_f11 f11 k_f12 f12 k_f13 f13 k_f14 f14 k_f15 f15 k_f16 f16 (nI z_on) (nI z_si) z_ti0 tm bh k_ftm z_ftm k_fbh fbh) (xy__t k_f4 k_f5 k_f6 k_f7 k_f8 k_f9 k_f10 k_f11 k_f12 k_f13 k_f14 k_f15 k_f16 k_ftm k_fbh) (va_A ((xy__w xa xtape (nI tp) rd au xdr hy g (nI hs) tg sg (nI ss) rm ti py bu sm (nI nc) (nI np) (nI ne) (nI st0) q4 q5 q6 q7 q8 q9 q10 q11 q12 q13 q14 q15 q16 k_f4 f4 k_f5 (bN 7 q_f5) k_f6 (bN 7 q_f6) k_f7 f7 k_f8 (bN 4 q_f8) k_f9 (bN 2 q_f9) k_f10 f10 k_f11 f11 k_f12 f12 k_f13 f13 k_f14 f14 k_f15 f15 k_f16 f16 (nI on) (nI si) ti0 tm bh k_ftm ftm k_fbh fbh)) sz) t ∧ (z_on ≤ 1) ∧ (z_si ≤ 7) ∧ ((z_ftm, z_on, z_si, z_ti0) = (sp_E_8_begin np st0 q_f8 q_f9 f12 f13 si ti0 ftm).2)) (va_A ((xy__w xa xtape (nI tp) rd au xdr hy g (nI hs) tg sg (nI ss) rm ti py bu sm (nI nc) (nI np) (nI ne) (nI st0) q4 q5 q6 q7 q8 q9 q10 q11 q12 q13 q14 q15 q16 k_f4 f4 k_f5 (bN 7 q_f5) k_f6 (bN 7 q_f6) k_f7 f7 k_f8 (bN 4 q_f8) k_f9 (bN 2 q_f9) k_f10 f10 k_f11 f11 k_f12 f12 k_f13 f13 k_f14 f14 k_f15 f15 k_f16 f16 (nI on) (nI si) ti0 tm bh k_ftm ftm k_fbh fbh)) sz)) 0 0 (va_A ((xy__w xa xtape (nI tp) rd au xdr hy g (nI hs) tg sg (nI ss) rm ti py bu sm (nI nc) (nI np) (nI ne) (nI st0) q4 q5 q6 q7 q8 q9 q10 q11 q12 q13 q14 q15 q16 k_f4 f4 k_f5 (bN 7 q_f5) k_f6 (bN 7 q_f6) k_f7 f7 k_f8 (bN 4 q_f8) k_f9 (bN 2 q_f9) k_f10 f10 k_f11 f11 k_f12 f12 k_f13 f13 k_f14 f14 k_f15 f15 k_f16 f16 (nI on) (nI si) ti0 tm bh k_ftm ftm k_fbh fbh)) sz) := by
  refine Met.ofW (cc := cX8_begin) (maxL := 1) (ret := (some .int)) (by decide) rfl ?_
  intro p e s m args below meth c s₁ B hml hv
  obtain ⟨rfl, rfl, hP, hK, hD0⟩ := hv
  have hx := B.exec
  have hb := B.bytes
  have hr := B.returns
  have hts := atoms_spec (ws := vs_E_8_begin) B.pre
  have v_1 := hts (.fieldLink RX8 69 "ClockReach" "play" "LClockReach$Play;") (List.mem_cons_of_mem _ cm_447)
  have v_2 := hts (.fieldLink RX8 23 "ClockReach" "model" "LClockReach$Automaton;") (List.mem_cons_of_mem _ cm_434)
  have v_8 := hts (.fieldLink RX8 364 "ClockReach$Play" "site" "I") (List.mem_cons_of_mem _ cm_642)
  have hown : s.vm.findClass RX8 = some m.cls := findClass_of_methodNamed B.named
  have hlocks := B.notSynchronized
  have hiX3 : ∀ w ∈ wsX30, w ∈ vs_E_8_begin := fun _ h => List.mem_cons_of_mem _ (cm_X3 h)
  have hiX8 : ∀ w ∈ wsX80, w ∈ vs_E_8_begin := fun _ h => List.mem_cons_of_mem _ (cm_X8 h)
  have hD := hD0.self (sz := s.heap.size)
  generalize hAe : va_A ((xy__w xa xtape (nI tp) rd au xdr hy g (nI hs) tg sg (nI ss) rm ti py bu sm (nI nc) (nI np) (nI ne) (nI st0) q4 q5 q6 q7 q8 q9 q10 q11 q12 q13 q14 q15 q16 k_f4 f4 k_f5 (bN 7 q_f5) k_f6 (bN 7 q_f6) k_f7 f7 k_f8 (bN 4 q_f8) k_f9 (bN 2 q_f9) k_f10 f10 k_f11 f11 k_f12 f12 k_f13 f13 k_f14 f14 k_f15 f15 k_f16 f16 (nI on) (nI si) ti0 tm bh k_ftm ftm k_fbh fbh)) s.heap.size = A at hD ⊢
  have hA : ∀ q : Nat, s.heap.size ≤ q → A q := fun q h => by rw [← hAe]; exact Or.inr h
  have hS : va_S A s.heap s.heap [] := va_S.rf
  have hl := lv_entry ([.ref xa]) (n := 1) (Nat.le_of_ble_eq_true rfl)
  rw [lg_entry_eq]
  generalize (lg_sl ([.ref xa]) ++ List.replicate (1 - (lg_sl ([.ref xa])).length) Slot.unset).toArray = ls at hl ⊢
  have hl : lv_has ls 1 [(0, .ref xa)] := hl
  obtain ⟨RR, hRR⟩ : ∃ x, x = (sp_E_8_begin np st0 q_f8 q_f9 f12 f13 si ti0 ftm) := ⟨_, rfl⟩
  have hsp := hRR
  refine lv_aload_n hx hb eX8_begin_0 rfl (lv_at hl 0 rfl) ?_
  refine va_get (D := (dC, dI)) (ci := 8) (v := .ref py) (C := RX8) (T := TX8) (N := 16) hx hb hts hiX8 hown hK hP 0 rfl rfl 13 (by decide) v_1 (fun _ h9 => h9) rfl eX8_begin_1 ?_
  refine lv_aload_n hx hb eX8_begin_4 rfl (lv_at hl 0 rfl) ?_
  refine va_get (D := (dC, dI)) (ci := 8) (v := .ref au) (C := RX8) (T := TX8) (N := 16) hx hb hts hiX8 hown hK hP 0 rfl rfl 3 (by decide) v_2 (fun _ h9 => h9) rfl eX8_begin_5 ?_
  have hPc : va_P (dC, dI) vwCl (pa__w py (nI on) (nI si) ti0 tm bh k_ftm ftm k_fbh fbh au (nI nc) (nI np) (nI ne) (nI st0) q4 q5 q6 q7 q8 q9 q10 q11 q12 q13 q14 q15 q16 k_f4 f4 k_f5 (bN 7 q_f5) k_f6 (bN 7 q_f6) k_f7 f7 k_f8 (bN 4 q_f8) k_f9 (bN 2 q_f9) k_f10 f10 k_f11 f11 k_f12 f12 k_f13 f13 k_f14 f14 k_f15 f15 k_f16 f16) _ := hP.sub [15, 16, 17, 1, 2, 3, 4, 5, 6, 7, 8, 9, 10, 11, 12, 13, 14] rfl
  have hDc := hD.sub (ws' := (pa__w py (nI on) (nI si) ti0 tm bh k_ftm ftm k_fbh fbh au (nI nc) (nI np) (nI ne) (nI st0) q4 q5 q6 q7 q8 q9 q10 q11 q12 q13 q14 q15 q16 k_f4 f4 k_f5 (bN 7 q_f5) k_f6 (bN 7 q_f6) k_f7 f7 k_f8 (bN 4 q_f8) k_f9 (bN 2 q_f9) k_f10 f10 k_f11 f11 k_f12 f12 k_f13 f13 k_f14 f14 k_f15 f15 k_f16 f16)) [15, 16, 17, 1, 2, 3, 4, 5, 6, 7, 8, 9, 10, 11, 12, 13, 14] (by decide) rfl
  have hKc : va_K (dC, dI) vwCl (pa__t k_ftm k_fbh k_f4 k_f5 k_f6 k_f7 k_f8 k_f9 k_f10 k_f11 k_f12 k_f13 k_f14 k_f15 k_f16) s := hK.sub [13, 14, 0, 1, 2, 3, 4, 5, 6, 7, 8, 9, 10, 11, 12] rfl
  have hFc := pu_free hDc hS hA
  refine va_calli (va_runV (As := [.ref au]) (rest := []) ⟨hx, hb, hml, hown, hts⟩ (c_E_3_startsIn l dC dI _ py on si ti0 tm bh k_ftm ftm k_fbh fbh au nc np ne st0 q4 q5 q6 q7 q8 q9 q10 q11 q12 q13 q14 q15 q16 k_f4 f4 k_f5 q_f5 k_f6 q_f6 k_f7 f7 k_f8 q_f8 k_f9 q_f9 k_f10 f10 k_f11 f11 k_f12 f12 k_f13 f13 k_f14 f14 k_f15 f15 k_f16 f16 hon hsi hnc hnp hne hst0) (cwV 1 hts g_E_8_begin_E_3_startsIn rfl rfl rfl (by decide +kernel) ⟨Nat.le_of_ble_eq_true rfl, Nat.le_of_ble_eq_true rfl⟩) ⟨pu_bl, va_recv hK hP (ci := 3) (q0 := 15) rfl rfl, pu_in hPc hKc hDc⟩ rfl rfl hl.1 rfl (lv_room (Nat.le_of_ble_eq_true rfl)) eX8_begin_8 ⟨Nat.le_of_ble_eq_true rfl, Nat.le_of_ble_eq_true rfl⟩) hS (fun q _ h => hFc q h) hFc (fun r_1 u t H1 locs ht hvm hw hB hz1 hk1 hS => ?_)
  obtain ⟨z_ftm_2, z_on_3, z_si_4, z_ti_5, ⟨hP1, -, hD1⟩, hz_on_3, hz_si_4, xr_1_0⟩ := hB
  rw [ht] at hP1
  obtain ⟨hP, hD⟩ := pj_a (X := (xy__w xa xtape (nI tp) rd au xdr hy g (nI hs) tg sg (nI ss) rm ti py bu sm (nI nc) (nI np) (nI ne) (nI st0) q4 q5 q6 q7 q8 q9 q10 q11 q12 q13 q14 q15 q16 k_f4 f4 k_f5 (bN 7 q_f5) k_f6 (bN 7 q_f6) k_f7 f7 k_f8 (bN 4 q_f8) k_f9 (bN 2 q_f9) k_f10 f10 k_f11 f11 k_f12 f12 k_f13 f13 k_f14 f14 k_f15 f15 k_f16 f16 (nI on) (nI si) ti0 tm bh k_ftm ftm k_fbh fbh)) (X' := (xy__w xa xtape (nI tp) rd au xdr hy g (nI hs) tg sg (nI ss) rm ti py bu sm (nI nc) (nI np) (nI ne) (nI st0) q4 q5 q6 q7 q8 q9 q10 q11 q12 q13 q14 q15 q16 k_f4 f4 k_f5 (bN 7 q_f5) k_f6 (bN 7 q_f6) k_f7 f7 k_f8 (bN 4 q_f8) k_f9 (bN 2 q_f9) k_f10 f10 k_f11 f11 k_f12 f12 k_f13 f13 k_f14 f14 k_f15 f15 k_f16 f16 (nI z_on_3) (nI z_si_4) z_ti_5 tm bh k_ftm z_ftm_2 k_fbh fbh)) (wc := (pa__w py (nI on) (nI si) ti0 tm bh k_ftm ftm k_fbh fbh au (nI nc) (nI np) (nI ne) (nI st0) q4 q5 q6 q7 q8 q9 q10 q11 q12 q13 q14 q15 q16 k_f4 f4 k_f5 (bN 7 q_f5) k_f6 (bN 7 q_f6) k_f7 f7 k_f8 (bN 4 q_f8) k_f9 (bN 2 q_f9) k_f10 f10 k_f11 f11 k_f12 f12 k_f13 f13 k_f14 f14 k_f15 f15 k_f16 f16)) (w1 := (pa__w py (nI z_on_3) (nI z_si_4) z_ti_5 tm bh k_ftm z_ftm_2 k_fbh fbh au (nI nc) (nI np) (nI ne) (nI st0) q4 q5 q6 q7 q8 q9 q10 q11 q12 q13 q14 q15 q16 k_f4 f4 k_f5 (bN 7 q_f5) k_f6 (bN 7 q_f6) k_f7 f7 k_f8 (bN 4 q_f8) k_f9 (bN 2 q_f9) k_f10 f10 k_f11 f11 k_f12 f12 k_f13 f13 k_f14 f14 k_f15 f15 k_f16 f16)) hP hD [15, 16, 17, 1, 2, 3, 4, 5, 6, 7, 8, 9, 10, 11, 12, 13, 14] [17, 3, 4, 5, 6, 7, 8, 9, 10, 11, 12, 13, 14, 15, 16, 0, 1, 2] 17 rfl hk1 hP1 rfl rfl rfl (by decide)
  clear hP1 hD1 hFc hPc hDc hKc
  clear hk1 hz1 ht hvm
  generalize H1 = H at hP hS ⊢
  obtain ⟨u_6, hu_6, rfl, iu_6⟩ := hw
  have iu_6 : (u_6, z_ftm_2, z_on_3, z_si_4, z_ti_5) = (sp_E_3_startsIn si ti0 ftm np st0 q_f8 q_f9 f12 f13) := Prod.ext iu_6 xr_1_0
  have hsp := hsp.trans (slet_eq iu_6)
  refine lv_if_eq (tgt := 24) hx hb eX8_begin_11 (by decide) (fun c_7 => ?_) (fun c_7 => ?_)
  · have c_7 : u_6 = 0 := (nI_eq (a := u_6) (b := 0) (Nat.lt_of_le_of_lt hu_6 (Nat.le_of_ble_eq_true rfl)) (Nat.le_of_ble_eq_true rfl)).mp c_7
    have hsp := hsp.trans (if_pos c_7)
    refine lv_iconst (v := (-1)) hx hb eX8_begin_24 (by decide) ?_
    exact W.iret (v := (-1)) hx hb hr (fun t ht hW => ⟨⟨(-1), (), rfl, (congrArg Prod.fst (hsp.symm.trans hRR)), ⟨z_ftm_2, z_on_3, z_si_4, z_ti_5, ⟨by rw [ht]; exact hP, va_K.moved hW.alike hK, hD⟩, hz_on_3, hz_si_4, (congrArg Prod.snd (hsp.symm.trans hRR))⟩⟩, hS.F ht⟩) hS.2.2 eX8_begin_25
  · have c_7 : ¬ u_6 = 0 := fun z => c_7 ((nI_eq (a := u_6) (b := 0) (Nat.lt_of_le_of_lt hu_6 (Nat.le_of_ble_eq_true rfl)) (Nat.le_of_ble_eq_true rfl)).mpr z)
    have hsp := hsp.trans (if_neg c_7)
    refine lv_aload_n hx hb eX8_begin_14 rfl (lv_at hl 0 rfl) ?_
    refine va_get (D := (dC, dI)) (ci := 8) (v := .ref py) (C := RX8) (T := TX8) (N := 16) hx hb hts hiX8 hown hK hP 0 rfl rfl 13 (by decide) v_1 (fun _ h9 => h9) rfl eX8_begin_15 ?_
    refine va_get (D := (dC, dI)) (ci := 3) (v := .int (nI z_si_4)) (C := RX3) (T := TX3) (N := 5) hx hb hts hiX3 hown hK hP 15 rfl rfl 1 (by decide) v_8 (fun _ h9 => h9) rfl eX8_begin_18 ?_
    refine lv_goto (tgt := 25) hx hb eX8_begin_21 (by decide) ?_
    exact W.iret (v := (nI z_si_4)) hx hb hr (fun t ht hW => ⟨⟨(nI z_si_4), (), rfl, (congrArg Prod.fst (hsp.symm.trans hRR)), ⟨z_ftm_2, z_on_3, z_si_4, z_ti_5, ⟨by rw [ht]; exact hP, va_K.moved hW.alike hK, hD⟩, hz_on_3, hz_si_4, (congrArg Prod.snd (hsp.symm.trans hRR))⟩⟩, hS.F ht⟩) hS.2.2 eX8_begin_25
