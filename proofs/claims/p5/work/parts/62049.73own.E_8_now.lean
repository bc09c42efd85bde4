theorem eX8_now_0 : decode cX8_now 0 = .ok (.aload_n 0, 1) := by decide +kernel
theorem eX8_now_1 : decode cX8_now 1 = .ok (.getfield 69, 3) := by decide +kernel
theorem eX8_now_4 : decode cX8_now 4 = .ok (.getfield 107, 3) := by decide +kernel
theorem eX8_now_7 : decode cX8_now 7 = .ok (.ifCond .ne 5, 3) := by decide +kernel
theorem eX8_now_10 : decode cX8_now 10 = .ok (.iconst (-1), 1) := by decide +kernel
theorem eX8_now_11 : decode cX8_now 11 = .ok (.ireturn, 1) := by decide +kernel
theorem eX8_now_12 : decode cX8_now 12 = .ok (.iload_n 1, 1) := by decide +kernel
theorem eX8_now_13 : decode cX8_now 13 = .ok (.tableswitch 71 0 3 #[31, 39, 47, 59], 31) := by decide +kernel
theorem eX8_now_44 : decode cX8_now 44 = .ok (.aload_n 0, 1) := by decide +kernel
theorem eX8_now_45 : decode cX8_now 45 = .ok (.getfield 69, 3) := by decide +kernel
theorem eX8_now_48 : decode cX8_now 48 = .ok (.getfield 364, 3) := by decide +kernel
theorem eX8_now_51 : decode cX8_now 51 = .ok (.ireturn, 1) := by decide +kernel
theorem eX8_now_52 : decode cX8_now 52 = .ok (.aload_n 0, 1) := by decide +kernel
theorem eX8_now_53 : decode cX8_now 53 = .ok (.getfield 69, 3) := by decide +kernel
theorem eX8_now_56 : decode cX8_now 56 = .ok (.getfield 382, 3) := by decide +kernel
theorem eX8_now_59 : decode cX8_now 59 = .ok (.ireturn, 1) := by decide +kernel
theorem eX8_now_60 : decode cX8_now 60 = .ok (.aload_n 0, 1) := by decide +kernel
theorem eX8_now_61 : decode cX8_now 61 = .ok (.getfield 69, 3) := by decide +kernel
theorem eX8_now_64 : decode cX8_now 64 = .ok (.aload_n 0, 1) := by decide +kernel
theorem eX8_now_65 : decode cX8_now 65 = .ok (.getfield 23, 3) := by decide +kernel
theorem eX8_now_68 : decode cX8_now 68 = .ok (.invokevirtual 385, 3) := by decide +kernel
theorem eX8_now_71 : decode cX8_now 71 = .ok (.ireturn, 1) := by decide +kernel
theorem eX8_now_72 : decode cX8_now 72 = .ok (.aload_n 0, 1) := by decide +kernel
theorem eX8_now_73 : decode cX8_now 73 = .ok (.getfield 69, 3) := by decide +kernel
theorem eX8_now_76 : decode cX8_now 76 = .ok (.aload_n 0, 1) := by decide +kernel
theorem eX8_now_77 : decode cX8_now 77 = .ok (.getfield 23, 3) := by decide +kernel
theorem eX8_now_80 : decode cX8_now 80 = .ok (.invokevirtual 367, 3) := by decide +kernel
theorem eX8_now_83 : decode cX8_now 83 = .ok (.ireturn, 1) := by decide +kernel
theorem eX8_now_84 : decode cX8_now 84 = .ok (.iconst (-1), 1) := by decide +kernel
theorem eX8_now_85 : decode cX8_now 85 = .ok (.ireturn, 1) := by decide +kernel
abbrev vs_E_8_now : List Cond := .code yX8_now cX8_now 2 (some .int) :: CM
theorem g_E_8_now_E_3_openEdges : GoodIn vs_E_8_now (wsV RX8 385 RX3 yX3_openEdges vs_E_3_openEdges) := cm_gV cm_654 cm_655 cm_656 cm_204 cm_199
theorem g_E_8_now_E_3_longestWait : GoodIn vs_E_8_now (wsV RX8 367 RX3 yX3_longestWait vs_E_3_longestWait) := cm_gV cm_647 cm_207 cm_208 cm_204 cm_181
noncomputable def sp_E_8_now (ne : Nat) (f4 : Nat → Int32) (q_f5 : Nat → Nat) (q_f6 : Nat → Nat) (f7 : Nat → Int32) (q_f8 : Nat → Nat) (q_f9 : Nat → Nat) (f12 : Nat → Int32) (f13 : Nat → Int32) (on : Nat) (si : Nat) (ti0 : Int32) (ftm : Nat → Int32) (fbh : Nat → Int32) (p0 : Int32) : Int32 × (Nat → Int32) := (if on = 0 then ((-1), fbh) else (if (p0 : Int32) = 0 then ((nI si), fbh) else (if (p0 : Int32) = 1 then (ti0, fbh) else (if (p0 : Int32) = 2 then (slet (sp_E_3_openEdges si ftm fbh ne q_f5 q_f6 f7 q_f8 q_f9 f12 f13) (fun (r_5, z_fbh_6) => (r_5, z_fbh_6))) else (if (p0 : Int32) = 3 then (slet (sp_E_3_longestWait si ftm f4 q_f8 q_f9 f12) (fun r_8 => (r_8, fbh))) else ((-1), fbh))))))
set_option maxHeartbeats 4000000 in
set_option maxRecDepth 100000 in
theorem c_E_8_now (l : Launch) (dC : Nat → ClassId) (dI : Nat → Nat → Nat) (sz : Nat) (xa : Nat) (xtape : Nat) (tp : Nat) (rd : Nat) (au : Nat) (xdr : Nat) (hy : Nat) (g : Nat) (hs : Nat) (tg : Nat) (sg : Nat) (ss : Nat) (rm : Nat) (ti : Nat) (py : Nat) (bu : Nat) (sm : Nat) (nc : Nat) (np : Nat) (ne : Nat) (st0 : Int32) (q4 : Nat) (q5 : Nat) (q6 : Nat) (q7 : Nat) (q8 : Nat) (q9 : Nat) (q10 : Nat) (q11 : Nat) (q12 : Nat) (q13 : Nat) (q14 : Nat) (q15 : Nat) (q16 : Nat) (k_f4 : ClassId) (f4 : Nat → Int32) (k_f5 : ClassId) (q_f5 : Nat → Nat) (k_f6 : ClassId) (q_f6 : Nat → Nat) (k_f7 : ClassId) (f7 : Nat → Int32) (k_f8 : ClassId) (q_f8 : Nat → Nat) (k_f9 : ClassId) (q_f9 : Nat → Nat) (k_f10 : ClassId) (f10 : Nat → Int32) (k_f11 : ClassId) (f11 : Nat → Int32) (k_f12 : ClassId) (f12 : Nat → Int32) (k_f13 : ClassId) (f13 : Nat → Int32) (k_f14 : ClassId) (f14 : Nat → Int32) (k_f15 : ClassId) (f15 : Nat → Int32) (k_f16 : ClassId) (f16 : Nat → Int32) (on : Nat) (si : Nat) (ti0 : Int32) (tm : Nat) (bh : Nat) (k_ftm : ClassId) (ftm : Nat → Int32) (k_fbh : ClassId) (fbh : Nat → Int32) (p0 : Int32) (htp : tp ≤ 900) (hhs : hs ≤ 1) (hss : ss ≤ 1) (hnc : nc ≤ 3) (hnp : np ≤ 8) (hne : ne ≤ 14) (hst0 : pm1 7 st0) (hon : on ≤ 1) (hsi : si ≤ 7) : Met l yX8_now vs_E_8_now ({ frames := 4, cells := 0, slots := 0, locals := 92 }) (va_Pc [.ref xa, .int p0] (pu_B (dC, dI) (xy__w xa xtape (nI tp) rd au xdr hy g (nI hs) tg sg (nI ss) rm ti py bu sm (nI nc) (nI np) (nI ne) st0 q4 q5 q6 q7 q8 q9 q10 q11 q12 q13 q14 q15 q16 k_f4 f4 k_f5 (bN 7 q_f5) k_f6 (bN 7 q_f6) k_f7 f7 k_f8 (bN 4 q_f8) k_f9 (bN 2 q_f9) k_f10 f10 k_f11 f11 k_f12 f12 k_f13 f13 k_f14 f14 k_f15 f15 k_f16 f16 (nI on) (nI si) ti0 tm bh k_ftm ftm k_fbh fbh) (xy__t k_f4 k_f5 k_f6 k_f7 k_f8 k_f9 k_f10 k_f11 k_f12 k_f13 k_f14 k_f15 k_f16 k_ftm k_fbh) sz)) (va_Qi (fun (r : Int32) (_ : Unit) => r = (sp_E_8_now ne f4 q_f5 q_f6 f7 q_f8 q_f9 f12 f13 on si ti0 ftm fbh p0).1) (fun _ t => ∃ (z_fbh : Nat → Int32), pu_E (dC, dI) (xy__w xa xtape (nI tp) rd au xdr hy g (nI hs) tg sg (nI ss) rm ti py bu sm (nI nc) (nI np) (nI ne) st0 q4 q5 q6 q7 q8 q9 q10 q11 q12 q13 q14 q15 q16 k_f4 f4 k_f5 (bN 7 q_f5) k_f6 (bN 7 q_f6) k_f7 f7 k_f8 (bN 4 q_f8) k_f9 (bN 2 q_f9) k_f10 f10 k_f11 f11 k_f12 f12 k_f13 f13 k_f14 f14 k_f15 f15 k_f16 f16 (nI on) (nI si) ti0 tm bh k_ftm ftm k_fbh z_fbh) (xy__t k_f4 k_f5 k_f6 k_f7 k_f8 k_f9 k_f10 k_f11 k_f12 k_f13 k_f14 k_f15 k_f16 k_ftm k_fbh) (va_A ((xy__w xa xtape (nI tp) rd au xdr hy g (nI hs) tg sg (nI ss) rm ti py bu sm (nI nc) (nI np) (nI ne) st0 q4 q5 q6 q7 q8 q9 q10 q11 q12 q13 q14 q15 q16 k_f4 f4 k_f5 (bN 7 q_f5) k_f6 (bN 7 q_f6) k_f7 f7 k_f8 (bN 4 q_f8) k_f9 (bN 2 q_f9) k_f10 f10 k_f11 f11 k_f12 f12 k_f13 f13 k_f14 f14 k_f15 f15 k_f16 f16 (nI on) (nI si) ti0 tm bh k_ftm ftm k_fbh fbh)) sz) t ∧ (z_fbh = (sp_E_8_now ne f4 q_f5 q_f6 f7 q_f8 q_f9 f12 f13 on si ti0 ftm fbh p0).2)) (va_A ((xy__w xa xtape (nI tp) rd au xdr hy g (nI hs) tg sg (nI ss) rm ti py bu sm (nI nc) (nI np) (nI ne) st0 q4 q5 q6 q7 q8 q9 q10 q11 q12 q13 q14 q15 q16 k_f4 f4 k_f5 (bN 7 q_f5) k_f6 (bN 7 q_f6) k_f7 f7 k_f8 (bN 4 q_f8) k_f9 (bN 2 q_f9) k_f10 f10 k_f11 f11 k_f12 f12 k_f13 f13 k_f14 f14 k_f15 f15 k_f16 f16 (nI on) (nI si) ti0 tm bh k_ftm ftm k_fbh fbh)) sz)) 0 0 (va_A ((xy__w xa xtape (nI tp) rd au xdr hy g (nI hs) tg sg (nI ss) rm ti py bu sm (nI nc) (nI np) (nI ne) st0 q4 q5 q6 q7 q8 q9 q10 q11 q12 q13 q14 q15 q16 k_f4 f4 k_f5 (bN 7 q_f5) k_f6 (bN 7 q_f6) k_f7 f7 k_f8 (bN 4 q_f8) k_f9 (bN 2 q_f9) k_f10 f10 k_f11 f11 k_f12 f12 k_f13 f13 k_f14 f14 k_f15 f15 k_f16 f16 (nI on) (nI si) ti0 tm bh k_ftm ftm k_fbh fbh)) sz) := by
  refine Met.ofW (cc := cX8_now) (maxL := 2) (ret := (some .int)) (by decide) rfl ?_
  intro p e s m args below meth c s₁ B hml hv
  obtain ⟨rfl, rfl, hP, hK, hD0⟩ := hv
  have hx := B.exec
  have hb := B.bytes
  have hr := B.returns
  have hts := atoms_spec (ws := vs_E_8_now) B.pre
  have v_1 := hts (.fieldLink RX8 69 "ClockReach" "play" "LClockReach$Play;") (List.mem_cons_of_mem _ cm_447)
  have v_2 := hts (.fieldLink RX8 107 "ClockReach$Play" "on" "Z") (List.mem_cons_of_mem _ cm_448)
  have v_3 := hts (.fieldLink RX8 364 "ClockReach$Play" "site" "I") (List.mem_cons_of_mem _ cm_642)
  have v_4 := hts (.fieldLink RX8 382 "ClockReach$Play" "time" "I") (List.mem_cons_of_mem _ cm_653)
  have v_5 := hts (.fieldLink RX8 23 "ClockReach" "model" "LClockReach$Automaton;") (List.mem_cons_of_mem _ cm_434)
  have hown : s.vm.findClass RX8 = some m.cls := findClass_of_methodNamed B.named
  have hlocks := B.notSynchronized
  have hiX3 : ∀ w ∈ wsX30, w ∈ vs_E_8_now := fun _ h => List.mem_cons_of_mem _ (cm_X3 h)
  have hiX8 : ∀ w ∈ wsX80, w ∈ vs_E_8_now := fun _ h => List.mem_cons_of_mem _ (cm_X8 h)
  have hD := hD0.self (sz := s.heap.size)
  generalize hAe : va_A ((xy__w xa xtape (nI tp) rd au xdr hy g (nI hs) tg sg (nI ss) rm ti py bu sm (nI nc) (nI np) (nI ne) st0 q4 q5 q6 q7 q8 q9 q10 q11 q12 q13 q14 q15 q16 k_f4 f4 k_f5 (bN 7 q_f5) k_f6 (bN 7 q_f6) k_f7 f7 k_f8 (bN 4 q_f8) k_f9 (bN 2 q_f9) k_f10 f10 k_f11 f11 k_f12 f12 k_f13 f13 k_f14 f14 k_f15 f15 k_f16 f16 (nI on) (nI si) ti0 tm bh k_ftm ftm k_fbh fbh)) s.heap.size = A at hD ⊢
  have hA : ∀ q : Nat, s.heap.size ≤ q → A q := fun q h => by rw [← hAe]; exact Or.inr h
  have hS : va_S A s.heap s.heap [] := va_S.rf
  have hl := lv_entry ([.ref xa, .int p0]) (n := 2) (Nat.le_of_ble_eq_true rfl)
  rw [lg_entry_eq]
  generalize (lg_sl ([.ref xa, .int p0]) ++ List.replicate (2 - (lg_sl ([.ref xa, .int p0])).length) Slot.unset).toArray = ls at hl ⊢
  have hl : lv_has ls 2 [(0, .ref xa), (1, .int p0)] := hl
  obtain ⟨RR, hRR⟩ : ∃ x, x = (sp_E_8_now ne f4 q_f5 q_f6 f7 q_f8 q_f9 f12 f13 on si ti0 ftm fbh p0) := ⟨_, rfl⟩
  have hsp := hRR
  refine lv_aload_n hx hb eX8_now_0 rfl (lv_at hl 0 rfl) ?_
  refine va_get (D := (dC, dI)) (ci := 8) (v := .ref py) (C := RX8) (T := TX8) (N := 16) hx hb hts hiX8 hown hK hP 0 rfl rfl 13 (by decide) v_1 (fun _ h9 => h9) rfl eX8_now_1 ?_
  refine va_get (D := (dC, dI)) (ci := 3) (v := .int (nI on)) (C := RX3) (T := TX3) (N := 5) hx hb hts hiX3 hown hK hP 15 rfl rfl 0 (by decide) v_2 (fun _ h9 => h9) rfl eX8_now_4 ?_
  refine lv_if_ne (tgt := 12) hx hb eX8_now_7 (by decide) (fun c_1 => ?_) (fun c_1 => ?_)
  · have c_1 : ¬ on = 0 := fun z => c_1 ((nI_eq (a := on) (b := 0) (Nat.lt_of_le_of_lt hon (Nat.le_of_ble_eq_true rfl)) (Nat.le_of_ble_eq_true rfl)).mpr z)
    have hsp := hsp.trans (if_neg c_1)
    refine lv_iload_n hx hb eX8_now_12 rfl (lv_at hl 1 rfl) ?_
    by_cases w_2 : p0 = 0
    · subst w_2
      have hsp := hsp.trans (if_pos rfl)
      refine lv_tableIn (tgt := 44) (off := 31) hx hb eX8_now_13 (by decide) (by decide) rfl (by decide) ?_
      refine lv_aload_n hx hb eX8_now_44 rfl (lv_at hl 0 rfl) ?_
      refine va_get (D := (dC, dI)) (ci := 8) (v := .ref py) (C := RX8) (T := TX8) (N := 16) hx hb hts hiX8 hown hK hP 0 rfl rfl 13 (by decide) v_1 (fun _ h9 => h9) rfl eX8_now_45 ?_
      refine va_get (D := (dC, dI)) (ci := 3) (v := .int (nI si)) (C := RX3) (T := TX3) (N := 5) hx hb hts hiX3 hown hK hP 15 rfl rfl 1 (by decide) v_3 (fun _ h9 => h9) rfl eX8_now_48 ?_
      exact W.iret (v := (nI si)) hx hb hr (fun t ht hW => ⟨⟨(nI si), (), rfl, (congrArg Prod.fst (hsp.symm.trans hRR)), ⟨fbh, ⟨by rw [ht]; exact hP, va_K.moved hW.alike hK, hD⟩, (congrArg Prod.snd (hsp.symm.trans hRR))⟩⟩, hS.F ht⟩) hS.2.2 eX8_now_51
    have hsp := hsp.trans (if_neg w_2)
    by_cases w_3 : p0 = 1
    · subst w_3
      have hsp := hsp.trans (if_pos rfl)
      refine lv_tableIn (tgt := 52) (off := 39) hx hb eX8_now_13 (by decide) (by decide) rfl (by decide) ?_
      refine lv_aload_n hx hb eX8_now_52 rfl (lv_at hl 0 rfl) ?_
      refine va_get (D := (dC, dI)) (ci := 8) (v := .ref py) (C := RX8) (T := TX8) (N := 16) hx hb hts hiX8 hown hK hP 0 rfl rfl 13 (by decide) v_1 (fun _ h9 => h9) rfl eX8_now_53 ?_
      refine va_get (D := (dC, dI)) (ci := 3) (v := .int ti0) (C := RX3) (T := TX3) (N := 5) hx hb hts hiX3 hown hK hP 15 rfl rfl 2 (by decide) v_4 (fun _ h9 => h9) rfl eX8_now_56 ?_
      exact W.iret (v := ti0) hx hb hr (fun t ht hW => ⟨⟨ti0, (), rfl, (congrArg Prod.fst (hsp.symm.trans hRR)), ⟨fbh, ⟨by rw [ht]; exact hP, va_K.moved hW.alike hK, hD⟩, (congrArg Prod.snd (hsp.symm.trans hRR))⟩⟩, hS.F ht⟩) hS.2.2 eX8_now_59
    have hsp := hsp.trans (if_neg w_3)
    by_cases w_4 : p0 = 2
    · subst w_4
      have hsp := hsp.trans (if_pos rfl)
      refine lv_tableIn (tgt := 60) (off := 47) hx hb eX8_now_13 (by decide) (by decide) rfl (by decide) ?_
      refine lv_aload_n hx hb eX8_now_60 rfl (lv_at hl 0 rfl) ?_
      refine va_get (D := (dC, dI)) (ci := 8) (v := .ref py) (C := RX8) (T := TX8) (N := 16) hx hb hts hiX8 hown hK hP 0 rfl rfl 13 (by decide) v_1 (fun _ h9 => h9) rfl eX8_now_61 ?_
      refine lv_aload_n hx hb eX8_now_64 rfl (lv_at hl 0 rfl) ?_
      refine va_get (D := (dC, dI)) (ci := 8) (v := .ref au) (C := RX8) (T := TX8) (N := 16) hx hb hts hiX8 hown hK hP 0 rfl rfl 3 (by decide) v_5 (fun _ h9 => h9) rfl eX8_now_65 ?_
      have hPc : va_P (dC, dI) vwCl (pa__w py (nI on) (nI si) ti0 tm bh k_ftm ftm k_fbh fbh au (nI nc) (nI np) (nI ne) st0 q4 q5 q6 q7 q8 q9 q10 q11 q12 q13 q14 q15 q16 k_f4 f4 k_f5 (bN 7 q_f5) k_f6 (bN 7 q_f6) k_f7 f7 k_f8 (bN 4 q_f8) k_f9 (bN 2 q_f9) k_f10 f10 k_f11 f11 k_f12 f12 k_f13 f13 k_f14 f14 k_f15 f15 k_f16 f16) _ := hP.sub [15, 16, 17, 1, 2, 3, 4, 5, 6, 7, 8, 9, 10, 11, 12, 13, 14] rfl
      have hDc := hD.sub (ws' := (pa__w py (nI on) (nI si) ti0 tm bh k_ftm ftm k_fbh fbh au (nI nc) (nI np) (nI ne) st0 q4 q5 q6 q7 q8 q9 q10 q11 q12 q13 q14 q15 q16 k_f4 f4 k_f5 (bN 7 q_f5) k_f6 (bN 7 q_f6) k_f7 f7 k_f8 (bN 4 q_f8) k_f9 (bN 2 q_f9) k_f10 f10 k_f11 f11 k_f12 f12 k_f13 f13 k_f14 f14 k_f15 f15 k_f16 f16)) [15, 16, 17, 1, 2, 3, 4, 5, 6, 7, 8, 9, 10, 11, 12, 13, 14] (by decide) rfl
      have hKc : va_K (dC, dI) vwCl (pa__t k_ftm k_fbh k_f4 k_f5 k_f6 k_f7 k_f8 k_f9 k_f10 k_f11 k_f12 k_f13 k_f14 k_f15 k_f16) s := hK.sub [13, 14, 0, 1, 2, 3, 4, 5, 6, 7, 8, 9, 10, 11, 12] rfl
      have hFc := pu_free hDc hS hA
      refine va_calli (va_runV (As := [.ref au]) (rest := []) ⟨hx, hb, hml, hown, hts⟩ (c_E_3_openEdges l dC dI _ py on si ti0 tm bh k_ftm ftm k_fbh fbh au nc np ne st0 q4 q5 q6 q7 q8 q9 q10 q11 q12 q13 q14 q15 q16 k_f4 f4 k_f5 q_f5 k_f6 q_f6 k_f7 f7 k_f8 q_f8 k_f9 q_f9 k_f10 f10 k_f11 f11 k_f12 f12 k_f13 f13 k_f14 f14 k_f15 f15 k_f16 f16 hon hsi hnc hnp hne (hst0)) (cwV 1 hts g_E_8_now_E_3_openEdges rfl rfl rfl (by decide +kernel) ⟨Nat.le_of_ble_eq_true rfl, Nat.le_of_ble_eq_true rfl⟩) ⟨pu_bl, va_recv hK hP (ci := 3) (q0 := 15) rfl rfl, pu_in hPc hKc hDc⟩ rfl rfl hl.1 rfl (lv_room (Nat.le_of_ble_eq_true rfl)) eX8_now_68 ⟨Nat.le_of_ble_eq_true rfl, Nat.le_of_ble_eq_true rfl⟩) hS (fun q _ h => hFc q h) hFc (fun r_5 u t H1 locs ht hvm hw hB hz1 hk1 hS => ?_)
      obtain ⟨z_fbh_6, ⟨hP1, -, hD1⟩, xr_5_0⟩ := hB
      rw [ht] at hP1
      obtain ⟨hP, hD⟩ := pj_a (X := (xy__w xa xtape (nI tp) rd au xdr hy g (nI hs) tg sg (nI ss) rm ti py bu sm (nI nc) (nI np) (nI ne) st0 q4 q5 q6 q7 q8 q9 q10 q11 q12 q13 q14 q15 q16 k_f4 f4 k_f5 (bN 7 q_f5) k_f6 (bN 7 q_f6) k_f7 f7 k_f8 (bN 4 q_f8) k_f9 (bN 2 q_f9) k_f10 f10 k_f11 f11 k_f12 f12 k_f13 f13 k_f14 f14 k_f15 f15 k_f16 f16 (nI on) (nI si) ti0 tm bh k_ftm ftm k_fbh fbh)) (X' := (xy__w xa xtape (nI tp) rd au xdr hy g (nI hs) tg sg (nI ss) rm ti py bu sm (nI nc) (nI np) (nI ne) st0 q4 q5 q6 q7 q8 q9 q10 q11 q12 q13 q14 q15 q16 k_f4 f4 k_f5 (bN 7 q_f5) k_f6 (bN 7 q_f6) k_f7 f7 k_f8 (bN 4 q_f8) k_f9 (bN 2 q_f9) k_f10 f10 k_f11 f11 k_f12 f12 k_f13 f13 k_f14 f14 k_f15 f15 k_f16 f16 (nI on) (nI si) ti0 tm bh k_ftm ftm k_fbh z_fbh_6)) (wc := (pa__w py (nI on) (nI si) ti0 tm bh k_ftm ftm k_fbh fbh au (nI nc) (nI np) (nI ne) st0 q4 q5 q6 q7 q8 q9 q10 q11 q12 q13 q14 q15 q16 k_f4 f4 k_f5 (bN 7 q_f5) k_f6 (bN 7 q_f6) k_f7 f7 k_f8 (bN 4 q_f8) k_f9 (bN 2 q_f9) k_f10 f10 k_f11 f11 k_f12 f12 k_f13 f13 k_f14 f14 k_f15 f15 k_f16 f16)) (w1 := (pa__w py (nI on) (nI si) ti0 tm bh k_ftm ftm k_fbh z_fbh_6 au (nI nc) (nI np) (nI ne) st0 q4 q5 q6 q7 q8 q9 q10 q11 q12 q13 q14 q15 q16 k_f4 f4 k_f5 (bN 7 q_f5) k_f6 (bN 7 q_f6) k_f7 f7 k_f8 (bN 4 q_f8) k_f9 (bN 2 q_f9) k_f10 f10 k_f11 f11 k_f12 f12 k_f13 f13 k_f14 f14 k_f15 f15 k_f16 f16)) hP hD [15, 16, 17, 1, 2, 3, 4, 5, 6, 7, 8, 9, 10, 11, 12, 13, 14] [17, 3, 4, 5, 6, 7, 8, 9, 10, 11, 12, 13, 14, 15, 16, 0, 1, 2] 17 rfl hk1 hP1 rfl rfl rfl (by decide)
      clear hP1 hD1 hFc hPc hDc hKc
      clear hk1 hz1 ht hvm
      generalize H1 = H at hP hS ⊢
      have ir_5 := hw
      have ir_5 : (r_5, z_fbh_6) = (sp_E_3_openEdges si ftm fbh ne q_f5 q_f6 f7 q_f8 q_f9 f12 f13) := Prod.ext ir_5 xr_5_0
      have hsp := hsp.trans (slet_eq ir_5)
      exact W.iret (v := r_5) hx hb hr (fun t ht hW => ⟨⟨r_5, (), rfl, (congrArg Prod.fst (hsp.symm.trans hRR)), ⟨z_fbh_6, ⟨by rw [ht]; exact hP, va_K.moved hW.alike hK, hD⟩, (congrArg Prod.snd (hsp.symm.trans hRR))⟩⟩, hS.F ht⟩) hS.2.2 eX8_now_71
    have hsp := hsp.trans (if_neg w_4)
    by_cases w_7 : p0 = 3
    · subst w_7
      have hsp := hsp.trans (if_pos rfl)
      refine lv_tableIn (tgt := 72) (off := 59) hx hb eX8_now_13 (by decide) (by decide) rfl (by decide) ?_
      refine lv_aload_n hx hb eX8_now_72 rfl (lv_at hl 0 rfl) ?_
      refine va_get (D := (dC, dI)) (ci := 8) (v := .ref py) (C := RX8) (T := TX8) (N := 16) hx hb hts hiX8 hown hK hP 0 rfl rfl 13 (by decide) v_1 (fun _ h9 => h9) rfl eX8_now_73 ?_
      refine lv_aload_n hx hb eX8_now_76 rfl (lv_at hl 0 rfl) ?_
      refine va_get (D := (dC, dI)) (ci := 8) (v := .ref au) (C := RX8) (T := TX8) (N := 16) hx hb hts hiX8 hown hK hP 0 rfl rfl 3 (by decide) v_5 (fun _ h9 => h9) rfl eX8_now_77 ?_
      have hPc : va_P (dC, dI) vwCl (pa__w py (nI on) (nI si) ti0 tm bh k_ftm ftm k_fbh fbh au (nI nc) (nI np) (nI ne) st0 q4 q5 q6 q7 q8 q9 q10 q11 q12 q13 q14 q15 q16 k_f4 f4 k_f5 (bN 7 q_f5) k_f6 (bN 7 q_f6) k_f7 f7 k_f8 (bN 4 q_f8) k_f9 (bN 2 q_f9) k_f10 f10 k_f11 f11 k_f12 f12 k_f13 f13 k_f14 f14 k_f15 f15 k_f16 f16) _ := hP.sub [15, 16, 17, 1, 2, 3, 4, 5, 6, 7, 8, 9, 10, 11, 12, 13, 14] rfl
      have hDc := hD.sub (ws' := (pa__w py (nI on) (nI si) ti0 tm bh k_ftm ftm k_fbh fbh au (nI nc) (nI np) (nI ne) st0 q4 q5 q6 q7 q8 q9 q10 q11 q12 q13 q14 q15 q16 k_f4 f4 k_f5 (bN 7 q_f5) k_f6 (bN 7 q_f6) k_f7 f7 k_f8 (bN 4 q_f8) k_f9 (bN 2 q_f9) k_f10 f10 k_f11 f11 k_f12 f12 k_f13 f13 k_f14 f14 k_f15 f15 k_f16 f16)) [15, 16, 17, 1, 2, 3, 4, 5, 6, 7, 8, 9, 10, 11, 12, 13, 14] (by decide) rfl
      have hKc : va_K (dC, dI) vwCl (pa__t k_ftm k_fbh k_f4 k_f5 k_f6 k_f7 k_f8 k_f9 k_f10 k_f11 k_f12 k_f13 k_f14 k_f15 k_f16) s := hK.sub [13, 14, 0, 1, 2, 3, 4, 5, 6, 7, 8, 9, 10, 11, 12] rfl
      refine va_calli (va_runV (As := [.ref au]) (rest := []) ⟨hx, hb, hml, hown, hts⟩ (c_E_3_longestWait l dC dI _ py on si ti0 tm bh k_ftm ftm k_fbh fbh au nc np ne st0 q4 q5 q6 q7 q8 q9 q10 q11 q12 q13 q14 q15 q16 k_f4 f4 k_f5 q_f5 k_f6 q_f6 k_f7 f7 k_f8 q_f8 k_f9 q_f9 k_f10 f10 k_f11 f11 k_f12 f12 k_f13 f13 k_f14 f14 k_f15 f15 k_f16 f16 hon hsi hnc hnp hne (hst0)) (cwV 1 hts g_E_8_now_E_3_longestWait rfl rfl rfl (by decide +kernel) ⟨Nat.le_of_ble_eq_true rfl, Nat.le_of_ble_eq_true rfl⟩) ⟨pu_bl, va_recv hK hP (ci := 3) (q0 := 15) rfl rfl, pu_in hPc hKc hDc⟩ rfl rfl hl.1 rfl (lv_room (Nat.le_of_ble_eq_true rfl)) eX8_now_80 ⟨Nat.le_of_ble_eq_true rfl, Nat.le_of_ble_eq_true rfl⟩) hS (fun q _ h => pu_fr hS hA q h) (pu_fr hS hA) (fun r_8 u t H1 locs ht hvm hw hB hz1 hk1 hS => ?_)
      have hP := pu_keep hP hk1
      clear hk1 hz1 ht hvm
      generalize H1 = H at hP hS ⊢
      have ir_8 := hw
      have hsp := hsp.trans (slet_eq ir_8)
      exact W.iret (v := r_8) hx hb hr (fun t ht hW => ⟨⟨r_8, (), rfl, (congrArg Prod.fst (hsp.symm.trans hRR)), ⟨fbh, ⟨by rw [ht]; exact hP, va_K.moved hW.alike hK, hD⟩, (congrArg Prod.snd (hsp.symm.trans hRR))⟩⟩, hS.F ht⟩) hS.2.2 eX8_now_83
    have hsp := hsp.trans (if_neg w_7)
    refine lv_tableOut (tgt := 84) hx hb eX8_now_13 (by
        have zw_2 : Int32.toInt p0 ≠ 0 := fun g => w_2 ((fa_eq _ _).mpr g)
        have zw_3 : Int32.toInt p0 ≠ 1 := fun g => w_3 ((fa_eq _ _).mpr g)
        have zw_4 : Int32.toInt p0 ≠ 2 := fun g => w_4 ((fa_eq _ _).mpr g)
        have zw_7 : Int32.toInt p0 ≠ 3 := fun g => w_7 ((fa_eq _ _).mpr g)
        omega) (by decide) ?_
    refine lv_iconst (v := (-1)) hx hb eX8_now_84 (by decide) ?_
    exact W.iret (v := (-1)) hx hb hr (fun t ht hW => ⟨⟨(-1), (), rfl, (congrArg Prod.fst (hsp.symm.trans hRR)), ⟨fbh, ⟨by rw [ht]; exact hP, va_K.moved hW.alike hK, hD⟩, (congrArg Prod.snd (hsp.symm.trans hRR))⟩⟩, hS.F ht⟩) hS.2.2 eX8_now_85
  · have c_1 : on = 0 := (nI_eq (a := on) (b := 0) (Nat.lt_of_le_of_lt hon (Nat.le_of_ble_eq_true rfl)) (Nat.le_of_ble_eq_true rfl)).mp c_1
    have hsp := hsp.trans (if_pos c_1)
    refine lv_iconst (v := (-1)) hx hb eX8_now_10 (by decide) ?_
    exact W.iret (v := (-1)) hx hb hr (fun t ht hW => ⟨⟨(-1), (), rfl, (congrArg Prod.fst (hsp.symm.trans hRR)), ⟨fbh, ⟨by rw [ht]; exact hP, va_K.moved hW.alike hK, hD⟩, (congrArg Prod.snd (hsp.symm.trans hRR))⟩⟩, hS.F ht⟩) hS.2.2 eX8_now_11
