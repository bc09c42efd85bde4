theorem eX8_urgent_0 : decode cX8_urgent 0 = .ok (.aload_n 0, 1) := by decide +kernel
theorem eX8_urgent_1 : decode cX8_urgent 1 = .ok (.iload_n 1, 1) := by decide +kernel
theorem eX8_urgent_2 : decode cX8_urgent 2 = .ok (.invokevirtual 140, 3) := by decide +kernel
theorem eX8_urgent_5 : decode cX8_urgent 5 = .ok (.ifCond .eq 16, 3) := by decide +kernel
theorem eX8_urgent_8 : decode cX8_urgent 8 = .ok (.aload_n 0, 1) := by decide +kernel
theorem eX8_urgent_9 : decode cX8_urgent 9 = .ok (.getfield 23, 3) := by decide +kernel
theorem eX8_urgent_12 : decode cX8_urgent 12 = .ok (.getfield 144, 3) := by decide +kernel
theorem eX8_urgent_15 : decode cX8_urgent 15 = .ok (.iload_n 1, 1) := by decide +kernel
theorem eX8_urgent_16 : decode cX8_urgent 16 = .ok (.baload, 1) := by decide +kernel
theorem eX8_urgent_17 : decode cX8_urgent 17 = .ok (.iload_n 2, 1) := by decide +kernel
theorem eX8_urgent_18 : decode cX8_urgent 18 = .ok (.if_icmp .ne 5, 3) := by decide +kernel
theorem eX8_urgent_21 : decode cX8_urgent 21 = .ok (.iconst 0, 1) := by decide +kernel
theorem eX8_urgent_22 : decode cX8_urgent 22 = .ok (.ireturn, 1) := by decide +kernel
theorem eX8_urgent_23 : decode cX8_urgent 23 = .ok (.aload_n 0, 1) := by decide +kernel
theorem eX8_urgent_24 : decode cX8_urgent 24 = .ok (.getfield 33, 3) := by decide +kernel
theorem eX8_urgent_27 : decode cX8_urgent 27 = .ok (.iload_n 1, 1) := by decide +kernel
theorem eX8_urgent_28 : decode cX8_urgent 28 = .ok (.invokestatic 205, 3) := by decide +kernel
theorem eX8_urgent_31 : decode cX8_urgent 31 = .ok (.iload_n 2, 1) := by decide +kernel
theorem eX8_urgent_32 : decode cX8_urgent 32 = .ok (.ifCond .ne 7, 3) := by decide +kernel
theorem eX8_urgent_35 : decode cX8_urgent 35 = .ok (.iconst 1, 1) := by decide +kernel
theorem eX8_urgent_36 : decode cX8_urgent 36 = .ok (.goto 4, 3) := by decide +kernel
theorem eX8_urgent_39 : decode cX8_urgent 39 = .ok (.iconst 0, 1) := by decide +kernel
theorem eX8_urgent_40 : decode cX8_urgent 40 = .ok (.invokestatic 133, 3) := by decide +kernel
theorem eX8_urgent_43 : decode cX8_urgent 43 = .ok (.invokevirtual 199, 3) := by decide +kernel
theorem eX8_urgent_46 : decode cX8_urgent 46 = .ok (.aload_n 0, 1) := by decide +kernel
theorem eX8_urgent_47 : decode cX8_urgent 47 = .ok (.getfield 23, 3) := by decide +kernel
theorem eX8_urgent_50 : decode cX8_urgent 50 = .ok (.getfield 144, 3) := by decide +kernel
theorem eX8_urgent_53 : decode cX8_urgent 53 = .ok (.iload_n 1, 1) := by decide +kernel
theorem eX8_urgent_54 : decode cX8_urgent 54 = .ok (.iload_n 2, 1) := by decide +kernel
theorem eX8_urgent_55 : decode cX8_urgent 55 = .ok (.bastore, 1) := by decide +kernel
theorem eX8_urgent_56 : decode cX8_urgent 56 = .ok (.aload_n 0, 1) := by decide +kernel
theorem eX8_urgent_57 : decode cX8_urgent 57 = .ok (.invokevirtual 94, 3) := by decide +kernel
theorem eX8_urgent_60 : decode cX8_urgent 60 = .ok (.iconst 1, 1) := by decide +kernel
theorem eX8_urgent_61 : decode cX8_urgent 61 = .ok (.ireturn, 1) := by decide +kernel
abbrev vs_E_8_urgent : List Cond := .code yX8_urgent cX8_urgent 3 (some .boolean) :: CM
theorem g_E_8_urgent_E_8_isPlace : GoodIn vs_E_8_urgent (wsV RX8 140 RX8 yX8_isPlace vs_E_8_isPlace) := cm_gV cm_471 cm_472 cm_473 cm_427 cm_474
theorem g_E_8_urgent_E_2_codeOfPlace : GoodIn vs_E_8_urgent (va_wsS RX8 205 yX2_codeOfPlace vs_E_2_codeOfPlace) := cm_gS cm_509 cm_510 cm_506 cm_160
theorem g_E_8_urgent_E_8_bit : GoodIn vs_E_8_urgent (va_wsS RX8 133 yX8_bit vs_E_8_bit) := cm_gS cm_463 cm_464 cm_427 cm_465
theorem g_E_8_urgent_E_2_keep : GoodIn vs_E_8_urgent (wsV RX8 199 RX2 yX2_keep vs_E_2_keep) := cm_gV cm_503 cm_504 cm_505 cm_506 cm_161
theorem g_E_8_urgent_E_8_dropViews : GoodIn vs_E_8_urgent (wsV RX8 94 RX8 yX8_dropViews vs_E_8_dropViews) := cm_gV cm_441 cm_442 cm_443 cm_427 cm_444
noncomputable def sp_E_8_urgent (hs : Nat) (ss : Nat) (np : Nat) (f4 : Nat → Int32) (hk : Nat) (fo : Nat → Int32) (fl : Nat → Int32) (on : Nat) (p0 : Int32) (a1 : Nat) : Nat × (Nat → Int32) × (Nat → Int32) × (Nat → Int32) × Nat × Nat × Nat × Nat := (if (0 : Int32) ≤ p0 ∧ p0 < nI np then (slet ((p0 : Int32).toNatClampNeg) (fun n_2 => (slet (f4 n_2) (fun y_3 => (if (y_3 : Int32) = (nI a1) then (0, fo, fl, f4, ss, hs, hk, on) else (if a1 = 0 then (slet (sp_E_8_bit 1) (fun u_16 => (slet (sp_E_2_keep hk fo fl (-1 - nI n_2) (nI u_16)) (fun (z_fo_18, z_fl_19, z_hk_20) => (slet (upd f4 n_2 (vp_nar .boolean (nI a1))) (fun f_21 => (1, z_fo_18, z_fl_19, f_21, 0, 0, z_hk_20, 0))))))) else (slet (sp_E_8_bit 0) (fun u_8 => (slet (sp_E_2_keep hk fo fl (-1 - nI n_2) (nI u_8)) (fun (z_fo_10, z_fl_11, z_hk_12) => (slet (upd f4 n_2 (vp_nar .boolean (nI a1))) (fun f_13 => (1, z_fo_10, z_fl_11, f_13, 0, 0, z_hk_12, 0))))))))))))) else (0, fo, fl, f4, ss, hs, hk, on))
set_option maxHeartbeats 4000000 in
set_option maxRecDepth 100000 in
theorem c_E_8_urgent (l : Launch) (dC : Nat → ClassId) (dI : Nat → Nat → Nat) (sz : Nat) (xa : Nat) (xtape : Nat) (tp : Nat) (rd : Nat) (au : Nat) (xdr : Nat) (hy : Nat) (g : Nat) (hs : Nat) (tg : Nat) (sg : Nat) (ss : Nat) (rm : Nat) (ti : Nat) (py : Nat) (bu : Nat) (sm : Nat) (nc : Nat) (np : Nat) (ne : Nat) (st0 : Int32) (q4 : Nat) (q5 : Nat) (q6 : Nat) (q7 : Nat) (q8 : Nat) (q9 : Nat) (q10 : Nat) (q11 : Nat) (q12 : Nat) (q13 : Nat) (q14 : Nat) (q15 : Nat) (q16 : Nat) (k_f4 : ClassId) (f4 : Nat → Int32) (k_f5 : ClassId) (q_f5 : Nat → Nat) (k_f6 : ClassId) (q_f6 : Nat → Nat) (k_f7 : ClassId) (f7 : Nat → Int32) (k_f8 : ClassId) (q_f8 : Nat → Nat) (k_f9 : ClassId) (q_f9 : Nat → Nat) (k_f10 : ClassId) (f10 : Nat → Int32) (k_f11 : ClassId) (f11 : Nat → Int32) (k_f12 : ClassId) (f12 : Nat → Int32) (k_f13 : ClassId) (f13 : Nat → Int32) (k_f14 : ClassId) (f14 : Nat → Int32) (k_f15 : ClassId) (f15 : Nat → Int32) (k_f16 : ClassId) (f16 : Nat → Int32) (hk : Nat) (co : Nat) (ol : Nat) (k_fo : ClassId) (fo : Nat → Int32) (k_fl : ClassId) (fl : Nat → Int32) (on : Nat) (si : Nat) (ti0 : Int32) (tm : Nat) (bh : Nat) (p0 : Int32) (a1 : Nat) (htp : tp ≤ 900) (hhs : hs ≤ 1) (hss : ss ≤ 1) (hnc : nc ≤ 3) (hnp : np ≤ 8) (hne : ne ≤ 14) (hst0 : pm1 7 st0) (hhk : hk ≤ 20) (hon : on ≤ 1) (hsi : si ≤ 7) (ha1 : a1 ≤ 1) (hq0 : hi_ok hk fo) : Met l yX8_urgent vs_E_8_urgent ({ frames := 1, cells := 0, slots := 0, locals := 23 }) (va_Pc [.ref xa, .int p0, .int (nI a1)] (pu_B (dC, dI) (xh__w xa xtape (nI tp) rd au xdr hy g (nI hs) tg sg (nI ss) rm ti py bu sm (nI nc) (nI np) (nI ne) st0 q4 q5 q6 q7 q8 q9 q10 q11 q12 q13 q14 q15 q16 k_f4 f4 k_f5 (bN 7 q_f5) k_f6 (bN 7 q_f6) k_f7 f7 k_f8 (bN 4 q_f8) k_f9 (bN 2 q_f9) k_f10 f10 k_f11 f11 k_f12 f12 k_f13 f13 k_f14 f14 k_f15 f15 k_f16 f16 (nI hk) co ol k_fo fo k_fl fl (nI on) (nI si) ti0 tm bh) (xh__t k_f4 k_f5 k_f6 k_f7 k_f8 k_f9 k_f10 k_f11 k_f12 k_f13 k_f14 k_f15 k_f16 k_fo k_fl) sz)) (va_Qi (fun (r : Int32) (_ : Unit) => ∃ v : Nat, v ≤ 1 ∧ r = nI v ∧ v = (sp_E_8_urgent hs ss np f4 hk fo fl on p0 a1).1) (fun _ t => ∃ (z_fo : Nat → Int32) (z_fl : Nat → Int32) (z_f4 : Nat → Int32) (z_ss : Nat) (z_hs : Nat) (z_hk : Nat) (z_on : Nat), pu_E (dC, dI) (xh__w xa xtape (nI tp) rd au xdr hy g (nI z_hs) tg sg (nI z_ss) rm ti py bu sm (nI nc) (nI np) (nI ne) st0 q4 q5 q6 q7 q8 q9 q10 q11 q12 q13 q14 q15 q16 k_f4 z_f4 k_f5 (bN 7 q_f5) k_f6 (bN 7 q_f6) k_f7 f7 k_f8 (bN 4 q_f8) k_f9 (bN 2 q_f9) k_f10 f10 k_f11 f11 k_f12 f12 k_f13 f13 k_f14 f14 k_f15 f15 k_f16 f16 (nI z_hk) co ol k_fo z_fo k_fl z_fl (nI z_on) (nI si) ti0 tm bh) (xh__t k_f4 k_f5 k_f6 k_f7 k_f8 k_f9 k_f10 k_f11 k_f12 k_f13 k_f14 k_f15 k_f16 k_fo k_fl) (va_A ((xh__w xa xtape (nI tp) rd au xdr hy g (nI hs) tg sg (nI ss) rm ti py bu sm (nI nc) (nI np) (nI ne) st0 q4 q5 q6 q7 q8 q9 q10 q11 q12 q13 q14 q15 q16 k_f4 f4 k_f5 (bN 7 q_f5) k_f6 (bN 7 q_f6) k_f7 f7 k_f8 (bN 4 q_f8) k_f9 (bN 2 q_f9) k_f10 f10 k_f11 f11 k_f12 f12 k_f13 f13 k_f14 f14 k_f15 f15 k_f16 f16 (nI hk) co ol k_fo fo k_fl fl (nI on) (nI si) ti0 tm bh)) sz) t ∧ (z_ss ≤ 1) ∧ (z_hs ≤ 1) ∧ (z_hk ≤ 20) ∧ (z_on ≤ 1) ∧ (hi_ok z_hk z_fo) ∧ ((z_fo, z_fl, z_f4, z_ss, z_hs, z_hk, z_on) = (sp_E_8_urgent hs ss np f4 hk fo fl on p0 a1).2)) (va_A ((xh__w xa xtape (nI tp) rd au xdr hy g (nI hs) tg sg (nI ss) rm ti py bu sm (nI nc) (nI np) (nI ne) st0 q4 q5 q6 q7 q8 q9 q10 q11 q12 q13 q14 q15 q16 k_f4 f4 k_f5 (bN 7 q_f5) k_f6 (bN 7 q_f6) k_f7 f7 k_f8 (bN 4 q_f8) k_f9 (bN 2 q_f9) k_f10 f10 k_f11 f11 k_f12 f12 k_f13 f13 k_f14 f14 k_f15 f15 k_f16 f16 (nI hk) co ol k_fo fo k_fl fl (nI on) (nI si) ti0 tm bh)) sz)) 0 0 (va_A ((xh__w xa xtape (nI tp) rd au xdr hy g (nI hs) tg sg (nI ss) rm ti py bu sm (nI nc) (nI np) (nI ne) st0 q4 q5 q6 q7 q8 q9 q10 q11 q12 q13 q14 q15 q16 k_f4 f4 k_f5 (bN 7 q_f5) k_f6 (bN 7 q_f6) k_f7 f7 k_f8 (bN 4 q_f8) k_f9 (bN 2 q_f9) k_f10 f10 k_f11 f11 k_f12 f12 k_f13 f13 k_f14 f14 k_f15 f15 k_f16 f16 (nI hk) co ol k_fo fo k_fl fl (nI on) (nI si) ti0 tm bh)) sz) := by
  refine Met.ofW (cc := cX8_urgent) (maxL := 3) (ret := (some .boolean)) (by decide) rfl ?_
  intro p e s m args below meth c s₁ B hml hv
  obtain ⟨rfl, rfl, hP, hK, hD0⟩ := hv
  have hx := B.exec
  have hb := B.bytes
  have hr := B.returns
  have hts := atoms_spec (ws := vs_E_8_urgent) B.pre
  have v_6 := hts (.fieldLink RX8 23 "ClockReach" "model" "LClockReach$Automaton;") (List.mem_cons_of_mem _ cm_434)
  have v_7 := hts (.fieldLink RX8 144 "ClockReach$Automaton" "hurried" "[Z") (List.mem_cons_of_mem _ cm_467)
  have v_8 := hts (.fieldLink RX8 33 "ClockReach" "history" "LClockReach$History;") (List.mem_cons_of_mem _ cm_435)
  have hown : s.vm.findClass RX8 = some m.cls := findClass_of_methodNamed B.named
  have hlocks := B.notSynchronized
  have hiX0 : ∀ w ∈ wsX00, w ∈ vs_E_8_urgent := fun _ h => List.mem_cons_of_mem _ (cm_X0 h)
  have hiX8 : ∀ w ∈ wsX80, w ∈ vs_E_8_urgent := fun _ h => List.mem_cons_of_mem _ (cm_X8 h)
  have hD := hD0.self (sz := s.heap.size)
  generalize hAe : va_A ((xh__w xa xtape (nI tp) rd au xdr hy g (nI hs) tg sg (nI ss) rm ti py bu sm (nI nc) (nI np) (nI ne) st0 q4 q5 q6 q7 q8 q9 q10 q11 q12 q13 q14 q15 q16 k_f4 f4 k_f5 (bN 7 q_f5) k_f6 (bN 7 q_f6) k_f7 f7 k_f8 (bN 4 q_f8) k_f9 (bN 2 q_f9) k_f10 f10 k_f11 f11 k_f12 f12 k_f13 f13 k_f14 f14 k_f15 f15 k_f16 f16 (nI hk) co ol k_fo fo k_fl fl (nI on) (nI si) ti0 tm bh)) s.heap.size = A at hD ⊢
  have hA : ∀ q : Nat, s.heap.size ≤ q → A q := fun q h => by rw [← hAe]; exact Or.inr h
  have hS : va_S A s.heap s.heap [] := va_S.rf
  have hl := lv_entry ([.ref xa, .int p0, .int (nI a1)]) (n := 3) (Nat.le_of_ble_eq_true rfl)
  rw [lg_entry_eq]
  generalize (lg_sl ([.ref xa, .int p0, .int (nI a1)]) ++ List.replicate (3 - (lg_sl ([.ref xa, .int p0, .int (nI a1)])).length) Slot.unset).toArray = ls at hl ⊢
  have hl : lv_has ls 3 [(0, .ref xa), (1, .int p0), (2, .int (nI a1))] := hl
  obtain ⟨RR, hRR⟩ : ∃ x, x = (sp_E_8_urgent hs ss np f4 hk fo fl on p0 a1) := ⟨_, rfl⟩
  have hsp := hRR
  refine lv_aload_n hx hb eX8_urgent_0 rfl (lv_at hl 0 rfl) ?_
  refine lv_iload_n hx hb eX8_urgent_1 rfl (lv_at hl 1 rfl) ?_
  have hPc : va_P (dC, dI) vwCl (xo__w xa xtape (nI tp) rd au xdr hy g (nI hs) tg sg (nI ss) rm ti py bu sm (nI nc) (nI np) (nI ne) st0 q4 q5 q6 q7 q8 q9 q10 q11 q12 q13 q14 q15 q16) _ := hP.sub [0, 1] rfl
  have hDc := hD.sub (ws' := (xo__w xa xtape (nI tp) rd au xdr hy g (nI hs) tg sg (nI ss) rm ti py bu sm (nI nc) (nI np) (nI ne) st0 q4 q5 q6 q7 q8 q9 q10 q11 q12 q13 q14 q15 q16)) [0, 1] (by decide) rfl
  have hKc : va_K (dC, dI) vwCl (xo__t ) s := hK.sub [] rfl
  refine va_calli (va_runV (As := [.int p0]) (rest := []) ⟨hx, hb, hml, hown, hts⟩ (c_E_8_isPlace l dC dI _ xa xtape tp rd au xdr hy g hs tg sg ss rm ti py bu sm nc np ne st0 q4 q5 q6 q7 q8 q9 q10 q11 q12 q13 q14 q15 q16 p0 htp hhs hss hnc hnp hne (hst0)) (cwV 1 hts g_E_8_urgent_E_8_isPlace rfl rfl rfl (by decide +kernel) ⟨Nat.le_of_ble_eq_true rfl, Nat.le_of_ble_eq_true rfl⟩) ⟨pu_bl, va_recv hK hP (ci := 8) (q0 := 0) rfl rfl, pu_in hPc hKc hDc⟩ rfl rfl hl.1 rfl (lv_room (Nat.le_of_ble_eq_true rfl)) eX8_urgent_2 ⟨Nat.le_of_ble_eq_true rfl, Nat.le_of_ble_eq_true rfl⟩) hS (fun q _ h => pu_fr hS hA q h) (pu_fr hS hA) (fun r_1 u t H1 locs ht hvm hw hB hz1 hk1 hS => ?_)
  have hP := pu_keep hP hk1
  clear hk1 hz1 ht hvm
  generalize H1 = H at hP hS ⊢
  rcases hw with ⟨rfl, hw⟩ | ⟨rfl, hn⟩
  · obtain ⟨n_2, hn_2, rfl⟩ := hw
    have hsp := hsp.trans (if_pos (in_q hn_2 (by omega)))
    have hsp := hsp.trans (slet_eq (nI_cl (n := n_2) (by omega)))
    refine lv_if_eq (tgt := 21) hx hb eX8_urgent_5 (by decide) (fun z => absurd z (by decide)) (fun _ => ?_)
    refine lv_aload_n hx hb eX8_urgent_8 rfl (lv_at hl 0 rfl) ?_
    refine va_get (D := (dC, dI)) (ci := 8) (v := .ref au) (C := RX8) (T := TX8) (N := 16) hx hb hts hiX8 hown hK hP 0 rfl rfl 3 (by decide) v_6 (fun _ h9 => h9) rfl eX8_urgent_9 ?_
    refine va_get (D := (dC, dI)) (ci := 0) (v := .ref q4) (C := RX0) (T := TX0) (N := 17) hx hb hts hiX0 hown hK hP 1 rfl rfl 4 (by decide) v_7 (fun _ h9 => h9) rfl eX8_urgent_12 ?_
    refine lv_iload_n hx hb eX8_urgent_15 rfl (lv_at hl 1 rfl) ?_
    refine va_zald hx hb hK hP 2 0 rfl rfl (vp_in_nI (n := n_2) (by omega) (Nat.le_of_ble_eq_true rfl)) eX8_urgent_16 ?_
    refine lv_topi (fun y_3 ey_3 => ?_)
    have ey_3 : y_3 = f4 n_2 := ey_3.trans (congrArg f4 (nI_clamp (n := n_2) (by omega)))
    have hsp := hsp.trans (slet_eq ey_3)
    refine lv_iload_n hx hb eX8_urgent_17 rfl (lv_at hl 2 rfl) ?_
    refine lv_icmp_ne (tgt := 23) hx hb eX8_urgent_18 (by decide) (fun c_4 => ?_) (fun c_4 => ?_)
    · have hcc_4 := c_4
      have hsp := hsp.trans (if_neg c_4)
      refine lv_aload_n hx hb eX8_urgent_23 rfl (lv_at hl 0 rfl) ?_
      refine va_get (D := (dC, dI)) (ci := 8) (v := .ref hy) (C := RX8) (T := TX8) (N := 16) hx hb hts hiX8 hown hK hP 0 rfl rfl 5 (by decide) v_8 (fun _ h9 => h9) rfl eX8_urgent_24 ?_
      refine lv_iload_n hx hb eX8_urgent_27 rfl (lv_at hl 1 rfl) ?_
      refine va_calli (va_runS (As := [.int (nI n_2)]) (rest := [.ref hy]) ⟨hx, hb, hml, hown, hts⟩ (c_E_2_codeOfPlace l dC dI _ n_2 (by omega)) (va_cwS 1 hts g_E_8_urgent_E_2_codeOfPlace rfl rfl rfl (by decide +kernel) ⟨Nat.le_of_ble_eq_true rfl, Nat.le_of_ble_eq_true rfl⟩) ⟨pu_bl, pu_in (hP.sub [] rfl) (hK.sub [] rfl) (hD.sub [] (by decide) rfl)⟩ rfl rfl hl.1 rfl (lv_room (Nat.le_of_ble_eq_true rfl)) eX8_urgent_28 ⟨Nat.le_of_ble_eq_true rfl, Nat.le_of_ble_eq_true rfl⟩) hS (fun q _ h => pu_fr hS hA q h) (pu_fr hS hA) (fun r_5 u t H1 locs ht hvm hw hB hz1 hk1 hS => ?_)
      have hP := pu_keep hP hk1
      clear hk1 hz1 ht hvm
      generalize H1 = H at hP hS ⊢
      obtain rfl : r_5 = -1 - nI n_2 := hw
      refine lv_iload_n hx hb eX8_urgent_31 rfl (lv_at hl 2 rfl) ?_
      refine lv_if_ne (tgt := 39) hx hb eX8_urgent_32 (by decide) (fun c_6 => ?_) (fun c_6 => ?_)
      · have c_6 : ¬ a1 = 0 := fun z => c_6 ((nI_eq (a := a1) (b := 0) (Nat.lt_of_le_of_lt ha1 (Nat.le_of_ble_eq_true rfl)) (Nat.le_of_ble_eq_true rfl)).mpr z)
        have hsp := hsp.trans (if_neg c_6)
        refine lv_iconst (v := 0) hx hb eX8_urgent_39 (by decide) ?_
        refine va_calli (va_runS (As := [.int 0]) (rest := [.int (-1 - nI n_2), .ref hy]) ⟨hx, hb, hml, hown, hts⟩ (c_E_8_bit l dC dI _ 0) (va_cwS 1 hts g_E_8_urgent_E_8_bit rfl rfl rfl (by decide +kernel) ⟨Nat.le_of_ble_eq_true rfl, Nat.le_of_ble_eq_true rfl⟩) ⟨pu_bl, pu_in (hP.sub [] rfl) (hK.sub [] rfl) (hD.sub [] (by decide) rfl)⟩ rfl rfl hl.1 rfl (lv_room (Nat.le_of_ble_eq_true rfl)) eX8_urgent_40 ⟨Nat.le_of_ble_eq_true rfl, Nat.le_of_ble_eq_true rfl⟩) hS (fun q _ h => pu_fr hS hA q h) (pu_fr hS hA) (fun r_7 u t H1 locs ht hvm hw hB hz1 hk1 hS => ?_)
        have hP := pu_keep hP hk1
        clear hk1 hz1 ht hvm
        generalize H1 = H at hP hS ⊢
        obtain ⟨u_8, hu_8, rfl, iu_8⟩ := hw
        have hsp := hsp.trans (slet_eq iu_8)
        have hPc : va_P (dC, dI) vwCl (hz__w hy (nI hk) co ol k_fo fo k_fl fl) _ := hP.sub [15, 16, 17] rfl
        have hDc := hD.sub (ws' := (hz__w hy (nI hk) co ol k_fo fo k_fl fl)) [15, 16, 17] (by decide) rfl
        have hKc : va_K (dC, dI) vwCl (hz__t k_fo k_fl) s := hK.sub [13, 14] rfl
        have hFc := pu_free hDc hS hA
        refine va_callv (va_runV (As := [.int (-1 - nI n_2), .int (nI u_8)]) (rest := []) ⟨hx, hb, hml, hown, hts⟩ (c_E_2_keep l dC dI _ hy hk co ol k_fo fo k_fl fl (-1 - nI n_2) (nI u_8) hhk (by assumption) (Or.inr ⟨n_2, by omega, rfl⟩)) (cwV 2 hts g_E_8_urgent_E_2_keep rfl rfl rfl (by decide +kernel) ⟨Nat.le_of_ble_eq_true rfl, Nat.le_of_ble_eq_true rfl⟩) ⟨pu_bl, va_recv hK hP (ci := 2) (q0 := 15) rfl rfl, pu_in hPc hKc hDc⟩ rfl rfl hl.1 rfl (lv_room (Nat.le_of_ble_eq_true rfl)) eX8_urgent_43 ⟨Nat.le_of_ble_eq_true rfl, Nat.le_of_ble_eq_true rfl⟩) hS (fun q _ h => hFc q h) hFc (fun u t H1 locs ht hvm hw hB hz1 hk1 hS => ?_)
        obtain ⟨z_fo_10, z_fl_11, z_hk_12, ⟨hP1, -, hD1⟩, hz_hk_12, xr_9_0, xr_9_1⟩ := hB
        rw [ht] at hP1
        obtain ⟨hP, hD⟩ := pj_a (X := (xh__w xa xtape (nI tp) rd au xdr hy g (nI hs) tg sg (nI ss) rm ti py bu sm (nI nc) (nI np) (nI ne) st0 q4 q5 q6 q7 q8 q9 q10 q11 q12 q13 q14 q15 q16 k_f4 f4 k_f5 (bN 7 q_f5) k_f6 (bN 7 q_f6) k_f7 f7 k_f8 (bN 4 q_f8) k_f9 (bN 2 q_f9) k_f10 f10 k_f11 f11 k_f12 f12 k_f13 f13 k_f14 f14 k_f15 f15 k_f16 f16 (nI hk) co ol k_fo fo k_fl fl (nI on) (nI si) ti0 tm bh)) (X' := (xh__w xa xtape (nI tp) rd au xdr hy g (nI hs) tg sg (nI ss) rm ti py bu sm (nI nc) (nI np) (nI ne) st0 q4 q5 q6 q7 q8 q9 q10 q11 q12 q13 q14 q15 q16 k_f4 f4 k_f5 (bN 7 q_f5) k_f6 (bN 7 q_f6) k_f7 f7 k_f8 (bN 4 q_f8) k_f9 (bN 2 q_f9) k_f10 f10 k_f11 f11 k_f12 f12 k_f13 f13 k_f14 f14 k_f15 f15 k_f16 f16 (nI z_hk_12) co ol k_fo z_fo_10 k_fl z_fl_11 (nI on) (nI si) ti0 tm bh)) (wc := (hz__w hy (nI hk) co ol k_fo fo k_fl fl)) (w1 := (hz__w hy (nI z_hk_12) co ol k_fo z_fo_10 k_fl z_fl_11)) hP hD [15, 16, 17] [3, 4, 5, 6, 7, 8, 9, 10, 11, 12, 13, 14, 15, 16, 17, 0, 1, 2, 21] 3 rfl hk1 hP1 rfl rfl rfl (by decide)
        clear hP1 hD1 hFc hPc hDc hKc
        clear hk1 hz1 ht hvm
        generalize H1 = H at hP hS ⊢
        have hsp := hsp.trans (slet_eq xr_9_1)
        refine lv_aload_n hx hb eX8_urgent_46 rfl (lv_at hl 0 rfl) ?_
        refine va_get (D := (dC, dI)) (ci := 8) (v := .ref au) (C := RX8) (T := TX8) (N := 16) hx hb hts hiX8 hown hK hP 0 rfl rfl 3 (by decide) v_6 (fun _ h9 => h9) rfl eX8_urgent_47 ?_
        refine va_get (D := (dC, dI)) (ci := 0) (v := .ref q4) (C := RX0) (T := TX0) (N := 17) hx hb hts hiX0 hown hK hP 1 rfl rfl 4 (by decide) v_7 (fun _ h9 => h9) rfl eX8_urgent_50 ?_
        refine lv_iload_n hx hb eX8_urgent_53 rfl (lv_at hl 1 rfl) ?_
        refine lv_iload_n hx hb eX8_urgent_54 rfl (lv_at hl 2 rfl) ?_
        refine va_zast hx hb hK hP hD hS 2 0 rfl rfl (vp_in_nI (n := n_2) (by omega) (Nat.le_of_ble_eq_true rfl)) eX8_urgent_55 (fun H locs hP hD hS => ?_)
        obtain ⟨f_13, ef_13, xf_13⟩ := up_x f4 (n := n_2) (vp_nar .boolean (nI a1)) (by omega)
        have hP : va_P (dC, dI) vwCl (xh__w xa xtape (nI tp) rd au xdr hy g (nI hs) tg sg (nI ss) rm ti py bu sm (nI nc) (nI np) (nI ne) st0 q4 q5 q6 q7 q8 q9 q10 q11 q12 q13 q14 q15 q16 k_f4 f_13 k_f5 (bN 7 q_f5) k_f6 (bN 7 q_f6) k_f7 f7 k_f8 (bN 4 q_f8) k_f9 (bN 2 q_f9) k_f10 f10 k_f11 f11 k_f12 f12 k_f13 f13 k_f14 f14 k_f15 f15 k_f16 f16 (nI z_hk_12) co ol k_fo z_fo_10 k_fl z_fl_11 (nI on) (nI si) ti0 tm bh) H := by rw [← ef_13]; exact hP
        have hD : va_D A (xh__w xa xtape (nI tp) rd au xdr hy g (nI hs) tg sg (nI ss) rm ti py bu sm (nI nc) (nI np) (nI ne) st0 q4 q5 q6 q7 q8 q9 q10 q11 q12 q13 q14 q15 q16 k_f4 f_13 k_f5 (bN 7 q_f5) k_f6 (bN 7 q_f6) k_f7 f7 k_f8 (bN 4 q_f8) k_f9 (bN 2 q_f9) k_f10 f10 k_f11 f11 k_f12 f12 k_f13 f13 k_f14 f14 k_f15 f15 k_f16 f16 (nI z_hk_12) co ol k_fo z_fo_10 k_fl z_fl_11 (nI on) (nI si) ti0 tm bh) := by rw [← ef_13]; exact hD
        have hsp := hsp.trans (slet_eq xf_13)
        refine lv_aload_n hx hb eX8_urgent_56 rfl (lv_at hl 0 rfl) ?_
        have hPc : va_P (dC, dI) vwCl (xp__w xa xtape (nI tp) rd au xdr hy g (nI hs) tg sg (nI ss) rm ti py bu sm (nI on) (nI si) ti0 tm bh) _ := hP.sub [0, 18] rfl
        have hDc := hD.sub (ws' := (xp__w xa xtape (nI tp) rd au xdr hy g (nI hs) tg sg (nI ss) rm ti py bu sm (nI on) (nI si) ti0 tm bh)) [0, 18] (by decide) rfl
        have hKc : va_K (dC, dI) vwCl (xp__t ) s := hK.sub [] rfl
        have hFc := pu_free hDc hS hA
        refine va_callv (va_runV (As := []) (rest := []) ⟨hx, hb, hml, hown, hts⟩ (c_E_8_dropViews l dC dI _ xa xtape tp rd au xdr hy g hs tg sg ss rm ti py bu sm on si ti0 tm bh htp hhs hss hon hsi) (cwV 0 hts g_E_8_urgent_E_8_dropViews rfl rfl rfl (by decide +kernel) ⟨Nat.le_of_ble_eq_true rfl, Nat.le_of_ble_eq_true rfl⟩) ⟨pu_bl, va_recv hK hP (ci := 8) (q0 := 0) rfl rfl, pu_in hPc hKc hDc⟩ rfl rfl hl.1 rfl (lv_room (Nat.le_of_ble_eq_true rfl)) eX8_urgent_57 ⟨Nat.le_of_ble_eq_true rfl, Nat.le_of_ble_eq_true rfl⟩) hS (fun q _ h => hFc q h) hFc (fun u t H1 locs ht hvm hw hB hz1 hk1 hS => ?_)
        obtain ⟨hP1, -, hD1⟩ := hB
        rw [ht] at hP1
        obtain ⟨hP, hD⟩ := pj_a (X := (xh__w xa xtape (nI tp) rd au xdr hy g (nI hs) tg sg (nI ss) rm ti py bu sm (nI nc) (nI np) (nI ne) st0 q4 q5 q6 q7 q8 q9 q10 q11 q12 q13 q14 q15 q16 k_f4 f_13 k_f5 (bN 7 q_f5) k_f6 (bN 7 q_f6) k_f7 f7 k_f8 (bN 4 q_f8) k_f9 (bN 2 q_f9) k_f10 f10 k_f11 f11 k_f12 f12 k_f13 f13 k_f14 f14 k_f15 f15 k_f16 f16 (nI z_hk_12) co ol k_fo z_fo_10 k_fl z_fl_11 (nI on) (nI si) ti0 tm bh)) (X' := (xh__w xa xtape (nI tp) rd au xdr hy g 0 tg sg 0 rm ti py bu sm (nI nc) (nI np) (nI ne) st0 q4 q5 q6 q7 q8 q9 q10 q11 q12 q13 q14 q15 q16 k_f4 f_13 k_f5 (bN 7 q_f5) k_f6 (bN 7 q_f6) k_f7 f7 k_f8 (bN 4 q_f8) k_f9 (bN 2 q_f9) k_f10 f10 k_f11 f11 k_f12 f12 k_f13 f13 k_f14 f14 k_f15 f15 k_f16 f16 (nI z_hk_12) co ol k_fo z_fo_10 k_fl z_fl_11 0 (nI si) ti0 tm bh)) (wc := (xp__w xa xtape (nI tp) rd au xdr hy g (nI hs) tg sg (nI ss) rm ti py bu sm (nI on) (nI si) ti0 tm bh)) (w1 := (xp__w xa xtape (nI tp) rd au xdr hy g 0 tg sg 0 rm ti py bu sm 0 (nI si) ti0 tm bh)) hP hD [0, 18] [0, 3, 4, 5, 6, 7, 8, 9, 10, 11, 12, 13, 14, 15, 16, 17, 18, 19, 1] 2 rfl hk1 hP1 rfl rfl rfl (by decide)
        clear hP1 hD1 hFc hPc hDc hKc
        clear hk1 hz1 ht hvm
        generalize H1 = H at hP hS ⊢
        refine lv_iconst (v := 1) hx hb eX8_urgent_60 (by decide) ?_
        exact W.zret (v := 1) (ty := .boolean) hx hb hr (rfl) (fun t ht hW => ⟨⟨1, (), rfl, ⟨1, (Nat.le_of_ble_eq_true rfl), rfl, (congrArg Prod.fst (hsp.symm.trans hRR))⟩, ⟨z_fo_10, z_fl_11, f_13, 0, 0, z_hk_12, 0, ⟨by rw [ht]; exact hP, va_K.moved hW.alike hK, hD⟩, (Nat.le_of_ble_eq_true rfl), (Nat.le_of_ble_eq_true rfl), hz_hk_12, (Nat.le_of_ble_eq_true rfl), by assumption, (congrArg Prod.snd (hsp.symm.trans hRR))⟩⟩, hS.F ht⟩) hS.2.2 eX8_urgent_61
      · have c_6 : a1 = 0 := (nI_eq (a := a1) (b := 0) (Nat.lt_of_le_of_lt ha1 (Nat.le_of_ble_eq_true rfl)) (Nat.le_of_ble_eq_true rfl)).mp c_6
        have hsp := hsp.trans (if_pos c_6)
        refine lv_iconst (v := 1) hx hb eX8_urgent_35 (by decide) ?_
        refine lv_goto (tgt := 40) hx hb eX8_urgent_36 (by decide) ?_
        refine va_calli (va_runS (As := [.int 1]) (rest := [.int (-1 - nI n_2), .ref hy]) ⟨hx, hb, hml, hown, hts⟩ (c_E_8_bit l dC dI _ 1) (va_cwS 1 hts g_E_8_urgent_E_8_bit rfl rfl rfl (by decide +kernel) ⟨Nat.le_of_ble_eq_true rfl, Nat.le_of_ble_eq_true rfl⟩) ⟨pu_bl, pu_in (hP.sub [] rfl) (hK.sub [] rfl) (hD.sub [] (by decide) rfl)⟩ rfl rfl hl.1 rfl (lv_room (Nat.le_of_ble_eq_true rfl)) eX8_urgent_40 ⟨Nat.le_of_ble_eq_true rfl, Nat.le_of_ble_eq_true rfl⟩) hS (fun q _ h => pu_fr hS hA q h) (pu_fr hS hA) (fun r_15 u t H1 locs ht hvm hw hB hz1 hk1 hS => ?_)
        have hP := pu_keep hP hk1
        clear hk1 hz1 ht hvm
        generalize H1 = H at hP hS ⊢
        obtain ⟨u_16, hu_16, rfl, iu_16⟩ := hw
        have hsp := hsp.trans (slet_eq iu_16)
        have hPc : va_P (dC, dI) vwCl (hz__w hy (nI hk) co ol k_fo fo k_fl fl) _ := hP.sub [15, 16, 17] rfl
        have hDc := hD.sub (ws' := (hz__w hy (nI hk) co ol k_fo fo k_fl fl)) [15, 16, 17] (by decide) rfl
        have hKc : va_K (dC, dI) vwCl (hz__t k_fo k_fl) s := hK.sub [13, 14] rfl
        have hFc := pu_free hDc hS hA
        refine va_callv (va_runV (As := [.int (-1 - nI n_2), .int (nI u_16)]) (rest := []) ⟨hx, hb, hml, hown, hts⟩ (c_E_2_keep l dC dI _ hy hk co ol k_fo fo k_fl fl (-1 - nI n_2) (nI u_16) hhk (by assumption) (Or.inr ⟨n_2, by omega, rfl⟩)) (cwV 2 hts g_E_8_urgent_E_2_keep rfl rfl rfl (by decide +kernel) ⟨Nat.le_of_ble_eq_true rfl, Nat.le_of_ble_eq_true rfl⟩) ⟨pu_bl, va_recv hK hP (ci := 2) (q0 := 15) rfl rfl, pu_in hPc hKc hDc⟩ rfl rfl hl.1 rfl (lv_room (Nat.le_of_ble_eq_true rfl)) eX8_urgent_43 ⟨Nat.le_of_ble_eq_true rfl, Nat.le_of_ble_eq_true rfl⟩) hS (fun q _ h => hFc q h) hFc (fun u t H1 locs ht hvm hw hB hz1 hk1 hS => ?_)
        obtain ⟨z_fo_18, z_fl_19, z_hk_20, ⟨hP1, -, hD1⟩, hz_hk_20, xr_17_0, xr_17_1⟩ := hB
        rw [ht] at hP1
        obtain ⟨hP, hD⟩ := pj_a (X := (xh__w xa xtape (nI tp) rd au xdr hy g (nI hs) tg sg (nI ss) rm ti py bu sm (nI nc) (nI np) (nI ne) st0 q4 q5 q6 q7 q8 q9 q10 q11 q12 q13 q14 q15 q16 k_f4 f4 k_f5 (bN 7 q_f5) k_f6 (bN 7 q_f6) k_f7 f7 k_f8 (bN 4 q_f8) k_f9 (bN 2 q_f9) k_f10 f10 k_f11 f11 k_f12 f12 k_f13 f13 k_f14 f14 k_f15 f15 k_f16 f16 (nI hk) co ol k_fo fo k_fl fl (nI on) (nI si) ti0 tm bh)) (X' := (xh__w xa xtape (nI tp) rd au xdr hy g (nI hs) tg sg (nI ss) rm ti py bu sm (nI nc) (nI np) (nI ne) st0 q4 q5 q6 q7 q8 q9 q10 q11 q12 q13 q14 q15 q16 k_f4 f4 k_f5 (bN 7 q_f5) k_f6 (bN 7 q_f6) k_f7 f7 k_f8 (bN 4 q_f8) k_f9 (bN 2 q_f9) k_f10 f10 k_f11 f11 k_f12 f12 k_f13 f13 k_f14 f14 k_f15 f15 k_f16 f16 (nI z_hk_20) co ol k_fo z_fo_18 k_fl z_fl_19 (nI on) (nI si) ti0 tm bh)) (wc := (hz__w hy (nI hk) co ol k_fo fo k_fl fl)) (w1 := (hz__w hy (nI z_hk_20) co ol k_fo z_fo_18 k_fl z_fl_19)) hP hD [15, 16, 17] [3, 4, 5, 6, 7, 8, 9, 10, 11, 12, 13, 14, 15, 16, 17, 0, 1, 2, 21] 3 rfl hk1 hP1 rfl rfl rfl (by decide)
        clear hP1 hD1 hFc hPc hDc hKc
        clear hk1 hz1 ht hvm
        generalize H1 = H at hP hS ⊢
        have hsp := hsp.trans (slet_eq xr_17_1)
        refine lv_aload_n hx hb eX8_urgent_46 rfl (lv_at hl 0 rfl) ?_
        refine va_get (D := (dC, dI)) (ci := 8) (v := .ref au) (C := RX8) (T := TX8) (N := 16) hx hb hts hiX8 hown hK hP 0 rfl rfl 3 (by decide) v_6 (fun _ h9 => h9) rfl eX8_urgent_47 ?_
        refine va_get (D := (dC, dI)) (ci := 0) (v := .ref q4) (C := RX0) (T := TX0) (N := 17) hx hb hts hiX0 hown hK hP 1 rfl rfl 4 (by decide) v_7 (fun _ h9 => h9) rfl eX8_urgent_50 ?_
        refine lv_iload_n hx hb eX8_urgent_53 rfl (lv_at hl 1 rfl) ?_
        refine lv_iload_n hx hb eX8_urgent_54 rfl (lv_at hl 2 rfl) ?_
        refine va_zast hx hb hK hP hD hS 2 0 rfl rfl (vp_in_nI (n := n_2) (by omega) (Nat.le_of_ble_eq_true rfl)) eX8_urgent_55 (fun H locs hP hD hS => ?_)
        obtain ⟨f_21, ef_21, xf_21⟩ := up_x f4 (n := n_2) (vp_nar .boolean (nI a1)) (by omega)
        have hP : va_P (dC, dI) vwCl (xh__w xa xtape (nI tp) rd au xdr hy g (nI hs) tg sg (nI ss) rm ti py bu sm (nI nc) (nI np) (nI ne) st0 q4 q5 q6 q7 q8 q9 q10 q11 q12 q13 q14 q15 q16 k_f4 f_21 k_f5 (bN 7 q_f5) k_f6 (bN 7 q_f6) k_f7 f7 k_f8 (bN 4 q_f8) k_f9 (bN 2 q_f9) k_f10 f10 k_f11 f11 k_f12 f12 k_f13 f13 k_f14 f14 k_f15 f15 k_f16 f16 (nI z_hk_20) co ol k_fo z_fo_18 k_fl z_fl_19 (nI on) (nI si) ti0 tm bh) H := by rw [← ef_21]; exact hP
        have hD : va_D A (xh__w xa xtape (nI tp) rd au xdr hy g (nI hs) tg sg (nI ss) rm ti py bu sm (nI nc) (nI np) (nI ne) st0 q4 q5 q6 q7 q8 q9 q10 q11 q12 q13 q14 q15 q16 k_f4 f_21 k_f5 (bN 7 q_f5) k_f6 (bN 7 q_f6) k_f7 f7 k_f8 (bN 4 q_f8) k_f9 (bN 2 q_f9) k_f10 f10 k_f11 f11 k_f12 f12 k_f13 f13 k_f14 f14 k_f15 f15 k_f16 f16 (nI z_hk_20) co ol k_fo z_fo_18 k_fl z_fl_19 (nI on) (nI si) ti0 tm bh) := by rw [← ef_21]; exact hD
        have hsp := hsp.trans (slet_eq xf_21)
        refine lv_aload_n hx hb eX8_urgent_56 rfl (lv_at hl 0 rfl) ?_
        have hPc : va_P (dC, dI) vwCl (xp__w xa xtape (nI tp) rd au xdr hy g (nI hs) tg sg (nI ss) rm ti py bu sm (nI on) (nI si) ti0 tm bh) _ := hP.sub [0, 18] rfl
        have hDc := hD.sub (ws' := (xp__w xa xtape (nI tp) rd au xdr hy g (nI hs) tg sg (nI ss) rm ti py bu sm (nI on) (nI si) ti0 tm bh)) [0, 18] (by decide) rfl
        have hKc : va_K (dC, dI) vwCl (xp__t ) s := hK.sub [] rfl
        have hFc := pu_free hDc hS hA
        refine va_callv (va_runV (As := []) (rest := []) ⟨hx, hb, hml, hown, hts⟩ (c_E_8_dropViews l dC dI _ xa xtape tp rd au xdr hy g hs tg sg ss rm ti py bu sm on si ti0 tm bh htp hhs hss hon hsi) (cwV 0 hts g_E_8_urgent_E_8_dropViews rfl rfl rfl (by decide +kernel) ⟨Nat.le_of_ble_eq_true rfl, Nat.le_of_ble_eq_true rfl⟩) ⟨pu_bl, va_recv hK hP (ci := 8) (q0 := 0) rfl rfl, pu_in hPc hKc hDc⟩ rfl rfl hl.1 rfl (lv_room (Nat.le_of_ble_eq_true rfl)) eX8_urgent_57 ⟨Nat.le_of_ble_eq_true rfl, Nat.le_of_ble_eq_true rfl⟩) hS (fun q _ h => hFc q h) hFc (fun u t H1 locs ht hvm hw hB hz1 hk1 hS => ?_)
        obtain ⟨hP1, -, hD1⟩ := hB
        rw [ht] at hP1
        obtain ⟨hP, hD⟩ := pj_a (X := (xh__w xa xtape (nI tp) rd au xdr hy g (nI hs) tg sg (nI ss) rm ti py bu sm (nI nc) (nI np) (nI ne) st0 q4 q5 q6 q7 q8 q9 q10 q11 q12 q13 q14 q15 q16 k_f4 f_21 k_f5 (bN 7 q_f5) k_f6 (bN 7 q_f6) k_f7 f7 k_f8 (bN 4 q_f8) k_f9 (bN 2 q_f9) k_f10 f10 k_f11 f11 k_f12 f12 k_f13 f13 k_f14 f14 k_f15 f15 k_f16 f16 (nI z_hk_20) co ol k_fo z_fo_18 k_fl z_fl_19 (nI on) (nI si) ti0 tm bh)) (X' := (xh__w xa xtape (nI tp) rd au xdr hy g 0 tg sg 0 rm ti py bu sm (nI nc) (nI np) (nI ne) st0 q4 q5 q6 q7 q8 q9 q10 q11 q12 q13 q14 q15 q16 k_f4 f_21 k_f5 (bN 7 q_f5) k_f6 (bN 7 q_f6) k_f7 f7 k_f8 (bN 4 q_f8) k_f9 (bN 2 q_f9) k_f10 f10 k_f11 f11 k_f12 f12 k_f13 f13 k_f14 f14 k_f15 f15 k_f16 f16 (nI z_hk_20) co ol k_fo z_fo_18 k_fl z_fl_19 0 (nI si) ti0 tm bh)) (wc := (xp__w xa xtape (nI tp) rd au xdr hy g (nI hs) tg sg (nI ss) rm ti py bu sm (nI on) (nI si) ti0 tm bh)) (w1 := (xp__w xa xtape (nI tp) rd au xdr hy g 0 tg sg 0 rm ti py bu sm 0 (nI si) ti0 tm bh)) hP hD [0, 18] [0, 3, 4, 5, 6, 7, 8, 9, 10, 11, 12, 13, 14, 15, 16, 17, 18, 19, 1] 2 rfl hk1 hP1 rfl rfl rfl (by decide)
        clear hP1 hD1 hFc hPc hDc hKc
        clear hk1 hz1 ht hvm
        generalize H1 = H at hP hS ⊢
        refine lv_iconst (v := 1) hx hb eX8_urgent_60 (by decide) ?_
        exact W.zret (v := 1) (ty := .boolean) hx hb hr (rfl) (fun t ht hW => ⟨⟨1, (), rfl, ⟨1, (Nat.le_of_ble_eq_true rfl), rfl, (congrArg Prod.fst (hsp.symm.trans hRR))⟩, ⟨z_fo_18, z_fl_19, f_21, 0, 0, z_hk_20, 0, ⟨by rw [ht]; exact hP, va_K.moved hW.alike hK, hD⟩, (Nat.le_of_ble_eq_true rfl), (Nat.le_of_ble_eq_true rfl), hz_hk_20, (Nat.le_of_ble_eq_true rfl), by assumption, (congrArg Prod.snd (hsp.symm.trans hRR))⟩⟩, hS.F ht⟩) hS.2.2 eX8_urgent_61
    · have hcc_4 := c_4
      have hsp := hsp.trans (if_pos c_4)
      refine lv_iconst (v := 0) hx hb eX8_urgent_21 (by decide) ?_
      exact W.zret (v := 0) (ty := .boolean) hx hb hr (rfl) (fun t ht hW => ⟨⟨0, (), rfl, ⟨0, (Nat.le_of_ble_eq_true rfl), rfl, (congrArg Prod.fst (hsp.symm.trans hRR))⟩, ⟨fo, fl, f4, ss, hs, hk, on, ⟨by rw [ht]; exact hP, va_K.moved hW.alike hK, hD⟩, hss, hhs, hhk, hon, by assumption, (congrArg Prod.snd (hsp.symm.trans hRR))⟩⟩, hS.F ht⟩) hS.2.2 eX8_urgent_22
  · have hsp := hsp.trans (if_neg hn)
    refine lv_if_eq (tgt := 21) hx hb eX8_urgent_5 (by decide) (fun _ => ?_) (fun z => absurd z (by decide))
    refine lv_iconst (v := 0) hx hb eX8_urgent_21 (by decide) ?_
    exact W.zret (v := 0) (ty := .boolean) hx hb hr (rfl) (fun t ht hW => ⟨⟨0, (), rfl, ⟨0, (Nat.le_of_ble_eq_true rfl), rfl, (congrArg Prod.fst (hsp.symm.trans hRR))⟩, ⟨fo, fl, f4, ss, hs, hk, on, ⟨by rw [ht]; exact hP, va_K.moved hW.alike hK, hD⟩, hss, hhs, hhk, hon, by assumption, (congrArg Prod.snd (hsp.symm.trans hRR))⟩⟩, hS.F ht⟩) hS.2.2 eX8_urgent_22
