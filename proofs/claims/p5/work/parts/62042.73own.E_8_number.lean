theorem eX8_number_0 : decode cX8_number 0 = .ok (.aload_n 0, 1) := by decide +kernel
theorem eX8_number_1 : decode cX8_number 1 = .ok (.iload_n 1, 1) := by decide +kernel
theorem eX8_number_2 : decode cX8_number 2 = .ok (.iload_n 2, 1) := by decide +kernel
theorem eX8_number_3 : decode cX8_number 3 = .ok (.invokevirtual 171, 3) := by decide +kernel
theorem eX8_number_6 : decode cX8_number 6 = .ok (.istore 4, 2) := by decide +kernel
theorem eX8_number_8 : decode cX8_number 8 = .ok (.iload 4, 2) := by decide +kernel
theorem eX8_number_10 : decode cX8_number 10 = .ok (.iconst (-1), 1) := by decide +kernel
theorem eX8_number_11 : decode cX8_number 11 = .ok (.if_icmp .eq 13, 3) := by decide +kernel
theorem eX8_number_14 : decode cX8_number 14 = .ok (.iload_n 3, 1) := by decide +kernel
theorem eX8_number_15 : decode cX8_number 15 = .ok (.ifCond .lt 9, 3) := by decide +kernel
theorem eX8_number_18 : decode cX8_number 18 = .ok (.iload_n 3, 1) := by decide +kernel
theorem eX8_number_19 : decode cX8_number 19 = .ok (.bipush 20, 2) := by decide +kernel
theorem eX8_number_21 : decode cX8_number 21 = .ok (.if_icmp .le 5, 3) := by decide +kernel
theorem eX8_number_24 : decode cX8_number 24 = .ok (.iconst (-1), 1) := by decide +kernel
theorem eX8_number_25 : decode cX8_number 25 = .ok (.ireturn, 1) := by decide +kernel
theorem eX8_number_26 : decode cX8_number 26 = .ok (.aload_n 0, 1) := by decide +kernel
theorem eX8_number_27 : decode cX8_number 27 = .ok (.getfield 23, 3) := by decide +kernel
theorem eX8_number_30 : decode cX8_number 30 = .ok (.getfield 181, 3) := by decide +kernel
theorem eX8_number_33 : decode cX8_number 33 = .ok (.iload 4, 2) := by decide +kernel
theorem eX8_number_35 : decode cX8_number 35 = .ok (.iaload, 1) := by decide +kernel
theorem eX8_number_36 : decode cX8_number 36 = .ok (.istore 5, 2) := by decide +kernel
theorem eX8_number_38 : decode cX8_number 38 = .ok (.iload 5, 2) := by decide +kernel
theorem eX8_number_40 : decode cX8_number 40 = .ok (.iload_n 3, 1) := by decide +kernel
theorem eX8_number_41 : decode cX8_number 41 = .ok (.if_icmp .ne 5, 3) := by decide +kernel
theorem eX8_number_44 : decode cX8_number 44 = .ok (.iconst (-1), 1) := by decide +kernel
theorem eX8_number_45 : decode cX8_number 45 = .ok (.ireturn, 1) := by decide +kernel
theorem eX8_number_46 : decode cX8_number 46 = .ok (.aload_n 0, 1) := by decide +kernel
theorem eX8_number_47 : decode cX8_number 47 = .ok (.getfield 33, 3) := by decide +kernel
theorem eX8_number_50 : decode cX8_number 50 = .ok (.iload 4, 2) := by decide +kernel
theorem eX8_number_52 : decode cX8_number 52 = .ok (.iload 5, 2) := by decide +kernel
theorem eX8_number_54 : decode cX8_number 54 = .ok (.invokevirtual 199, 3) := by decide +kernel
theorem eX8_number_57 : decode cX8_number 57 = .ok (.aload_n 0, 1) := by decide +kernel
theorem eX8_number_58 : decode cX8_number 58 = .ok (.getfield 23, 3) := by decide +kernel
theorem eX8_number_61 : decode cX8_number 61 = .ok (.iload 4, 2) := by decide +kernel
theorem eX8_number_63 : decode cX8_number 63 = .ok (.iload_n 3, 1) := by decide +kernel
theorem eX8_number_64 : decode cX8_number 64 = .ok (.invokevirtual 202, 3) := by decide +kernel
theorem eX8_number_67 : decode cX8_number 67 = .ok (.aload_n 0, 1) := by decide +kernel
theorem eX8_number_68 : decode cX8_number 68 = .ok (.invokevirtual 94, 3) := by decide +kernel
theorem eX8_number_71 : decode cX8_number 71 = .ok (.iload 5, 2) := by decide +kernel
theorem eX8_number_73 : decode cX8_number 73 = .ok (.ireturn, 1) := by decide +kernel
abbrev vs_E_8_number : List Cond := .code yX8_number cX8_number 6 (some .int) :: CM
theorem g_E_8_number_E_8_slotOf : GoodIn vs_E_8_number (wsV RX8 171 RX8 yX8_slotOf vs_E_8_slotOf) := cm_gV cm_490 cm_491 cm_492 cm_427 cm_493
theorem g_E_8_number_E_2_keep : GoodIn vs_E_8_number (wsV RX8 199 RX2 yX2_keep vs_E_2_keep) := cm_gV cm_503 cm_504 cm_505 cm_506 cm_161
theorem g_E_8_number_E_0_setNumber : GoodIn vs_E_8_number (wsV RX8 202 RX0 yX0_setNumber vs_E_0_setNumber) := cm_gV cm_507 cm_168 cm_169 cm_19 cm_27
theorem g_E_8_number_E_8_dropViews : GoodIn vs_E_8_number (wsV RX8 94 RX8 yX8_dropViews vs_E_8_dropViews) := cm_gV cm_441 cm_442 cm_443 cm_427 cm_444
noncomputable def sp_E_8_number (hs : Nat) (ss : Nat) (np : Nat) (ne : Nat) (q_f8 : Nat → Nat) (q_f9 : Nat → Nat) (f10 : Nat → Int32) (f11 : Nat → Int32) (f12 : Nat → Int32) (f13 : Nat → Int32) (f14 : Nat → Int32) (f15 : Nat → Int32) (f16 : Nat → Int32) (hk : Nat) (fo : Nat → Int32) (fl : Nat → Int32) (on : Nat) (p0 : Int32) (p1 : Int32) (p2 : Int32) : Int32 × (Nat → Int32) × (Nat → Int32) × (Nat → Int32) × (Nat → Int32) × (Nat → Int32) × (Nat → Int32) × (Nat → Int32) × (Nat → Int32) × Nat × Nat × Nat × Nat := (slet (sp_E_8_slotOf np ne q_f8 p0 p1) (fun u_2 => (if u_2 = 0 then ((-1), f12, f13, f14, f15, f16, fo, fl, f11, ss, hs, hk, on) else (slet (u_2 - 1) (fun n_3 => (if (p2 : Int32) < 0 then ((-1), f12, f13, f14, f15, f16, fo, fl, f11, ss, hs, hk, on) else (if (p2 : Int32) ≤ 20 then (slet ((p2 : Int32).toNatClampNeg) (fun n_6 => (slet (f11 n_3) (fun y_7 => (if (y_7 : Int32) = (nI n_6) then ((-1), f12, f13, f14, f15, f16, fo, fl, f11, ss, hs, hk, on) else (slet (sp_E_2_keep hk fo fl (nI n_3) y_7) (fun (z_fo_10, z_fl_11, z_hk_12) => (slet (sp_E_0_setNumber q_f8 q_f9 f10 f11 f12 f13 f14 f15 f16 n_3 (nI n_6)) (fun (z_f13_14, z_f14_15, z_f15_16, z_f16_17, z_f11_18, z_f12_19) => (y_7, z_f12_19, z_f13_14, z_f14_15, z_f15_16, z_f16_17, z_fo_10, z_fl_11, z_f11_18, 0, 0, z_hk_12, 0)))))))))) else ((-1), f12, f13, f14, f15, f16, fo, fl, f11, ss, hs, hk, on))))))))
set_option maxHeartbeats 4000000 in
set_option maxRecDepth 100000 in
theorem c_E_8_number (l : Launch) (dC : Nat → ClassId) (dI : Nat → Nat → Nat) (sz : Nat) (xa : Nat) (xtape : Nat) (tp : Nat) (rd : Nat) (au : Nat) (xdr : Nat) (hy : Nat) (g : Nat) (hs : Nat) (tg : Nat) (sg : Nat) (ss : Nat) (rm : Nat) (ti : Nat) (py : Nat) (bu : Nat) (sm : Nat) (nc : Nat) (np : Nat) (ne : Nat) (st0 : Int32) (q4 : Nat) (q5 : Nat) (q6 : Nat) (q7 : Nat) (q8 : Nat) (q9 : Nat) (q10 : Nat) (q11 : Nat) (q12 : Nat) (q13 : Nat) (q14 : Nat) (q15 : Nat) (q16 : Nat) (k_f4 : ClassId) (f4 : Nat → Int32) (k_f5 : ClassId) (q_f5 : Nat → Nat) (k_f6 : ClassId) (q_f6 : Nat → Nat) (k_f7 : ClassId) (f7 : Nat → Int32) (k_f8 : ClassId) (q_f8 : Nat → Nat) (k_f9 : ClassId) (q_f9 : Nat → Nat) (k_f10 : ClassId) (f10 : Nat → Int32) (k_f11 : ClassId) (f11 : Nat → Int32) (k_f12 : ClassId) (f12 : Nat → Int32) (k_f13 : ClassId) (f13 : Nat → Int32) (k_f14 : ClassId) (f14 : Nat → Int32) (k_f15 : ClassId) (f15 : Nat → Int32) (k_f16 : ClassId) (f16 : Nat → Int32) (hk : Nat) (co : Nat) (ol : Nat) (k_fo : ClassId) (fo : Nat → Int32) (k_fl : ClassId) (fl : Nat → Int32) (on : Nat) (si : Nat) (ti0 : Int32) (tm : Nat) (bh : Nat) (p0 : Int32) (p1 : Int32) (p2 : Int32) (htp : tp ≤ 900) (hhs : hs ≤ 1) (hss : ss ≤ 1) (hnc : nc ≤ 3) (hnp : np ≤ 8) (hne : ne ≤ 14) (hst0 : pm1 7 st0) (hhk : hk ≤ 20) (hon : on ≤ 1) (hsi : si ≤ 7) (hq0 : hi_ok hk fo) : Met l yX8_number vs_E_8_number ({ frames := 3, cells := 0, slots := 0, locals := 67 }) (va_Pc [.ref xa, .int p0, .int p1, .int p2] (pu_B (dC, dI) (xh__w xa xtape (nI tp) rd au xdr hy g (nI hs) tg sg (nI ss) rm ti py bu sm (nI nc) (nI np) (nI ne) st0 q4 q5 q6 q7 q8 q9 q10 q11 q12 q13 q14 q15 q16 k_f4 f4 k_f5 (bN 7 q_f5) k_f6 (bN 7 q_f6) k_f7 f7 k_f8 (bN 4 q_f8) k_f9 (bN 2 q_f9) k_f10 f10 k_f11 f11 k_f12 f12 k_f13 f13 k_f14 f14 k_f15 f15 k_f16 f16 (nI hk) co ol k_fo fo k_fl fl (nI on) (nI si) ti0 tm bh) (xh__t k_f4 k_f5 k_f6 k_f7 k_f8 k_f9 k_f10 k_f11 k_f12 k_f13 k_f14 k_f15 k_f16 k_fo k_fl) sz)) (va_Qi (fun (r : Int32) (_ : Unit) => r = (sp_E_8_number hs ss np ne q_f8 q_f9 f10 f11 f12 f13 f14 f15 f16 hk fo fl on p0 p1 p2).1) (fun _ t => ∃ (z_f12 : Nat → Int32) (z_f13 : Nat → Int32) (z_f14 : Nat → Int32) (z_f15 : Nat → Int32) (z_f16 : Nat → Int32) (z_fo : Nat → Int32) (z_fl : Nat → Int32) (z_f11 : Nat → Int32) (z_ss : Nat) (z_hs : Nat) (z_hk : Nat) (z_on : Nat), pu_E (dC, dI) (xh__w xa xtape (nI tp) rd au xdr hy g (nI z_hs) tg sg (nI z_ss) rm ti py bu sm (nI nc) (nI np) (nI ne) st0 q4 q5 q6 q7 q8 q9 q10 q11 q12 q13 q14 q15 q16 k_f4 f4 k_f5 (bN 7 q_f5) k_f6 (bN 7 q_f6) k_f7 f7 k_f8 (bN 4 q_f8) k_f9 (bN 2 q_f9) k_f10 f10 k_f11 z_f11 k_f12 z_f12 k_f13 z_f13 k_f14 z_f14 k_f15 z_f15 k_f16 z_f16 (nI z_hk) co ol k_fo z_fo k_fl z_fl (nI z_on) (nI si) ti0 tm bh) (xh__t k_f4 k_f5 k_f6 k_f7 k_f8 k_f9 k_f10 k_f11 k_f12 k_f13 k_f14 k_f15 k_f16 k_fo k_fl) (va_A ((xh__w xa xtape (nI tp) rd au xdr hy g (nI hs) tg sg (nI ss) rm ti py bu sm (nI nc) (nI np) (nI ne) st0 q4 q5 q6 q7 q8 q9 q10 q11 q12 q13 q14 q15 q16 k_f4 f4 k_f5 (bN 7 q_f5) k_f6 (bN 7 q_f6) k_f7 f7 k_f8 (bN 4 q_f8) k_f9 (bN 2 q_f9) k_f10 f10 k_f11 f11 k_f12 f12 k_f13 f13 k_f14 f14 k_f15 f15 k_f16 f16 (nI hk) co ol k_fo fo k_fl fl (nI on) (nI si) ti0 tm bh)) sz) t ∧ (z_ss ≤ 1) ∧ (z_hs ≤ 1) ∧ (z_hk ≤ 20) ∧ (z_on ≤ 1) ∧ (hi_ok z_hk z_fo) ∧ ((z_f12, z_f13, z_f14, z_f15, z_f16, z_fo, z_fl, z_f11, z_ss, z_hs, z_hk, z_on) = (sp_E_8_number hs ss np ne q_f8 q_f9 f10 f11 f12 f13 f14 f15 f16 hk fo fl on p0 p1 p2).2)) (va_A ((xh__w xa xtape (nI tp) rd au xdr hy g (nI hs) tg sg (nI ss) rm ti py bu sm (nI nc) (nI np) (nI ne) st0 q4 q5 q6 q7 q8 q9 q10 q11 q12 q13 q14 q15 q16 k_f4 f4 k_f5 (bN 7 q_f5) k_f6 (bN 7 q_f6) k_f7 f7 k_f8 (bN 4 q_f8) k_f9 (bN 2 q_f9) k_f10 f10 k_f11 f11 k_f12 f12 k_f13 f13 k_f14 f14 k_f15 f15 k_f16 f16 (nI hk) co ol k_fo fo k_fl fl (nI on) (nI si) ti0 tm bh)) sz)) 0 0 (va_A ((xh__w xa xtape (nI tp) rd au xdr hy g (nI hs) tg sg (nI ss) rm ti py bu sm (nI nc) (nI np) (nI ne) st0 q4 q5 q6 q7 q8 q9 q10 q11 q12 q13 q14 q15 q16 k_f4 f4 k_f5 (bN 7 q_f5) k_f6 (bN 7 q_f6) k_f7 f7 k_f8 (bN 4 q_f8) k_f9 (bN 2 q_f9) k_f10 f10 k_f11 f11 k_f12 f12 k_f13 f13 k_f14 f14 k_f15 f15 k_f16 f16 (nI hk) co ol k_fo fo k_fl fl (nI on) (nI si) ti0 tm bh)) sz) := by
  refine Met.ofW (cc := cX8_number) (maxL := 6) (ret := (some .int)) (by decide) rfl ?_
  intro p e s m args below meth c s₁ B hml hv
  obtain ⟨rfl, rfl, hP, hK, hD0⟩ := hv
  have hx := B.exec
  have hb := B.bytes
  have hr := B.returns
  have hts := atoms_spec (ws := vs_E_8_number) B.pre
  have v_6 := hts (.fieldLink RX8 23 "ClockReach" "model" "LClockReach$Automaton;") (List.mem_cons_of_mem _ cm_434)
  have v_7 := hts (.fieldLink RX8 181 "ClockReach$Automaton" "numbers" "[I") (List.mem_cons_of_mem _ cm_489)
  have v_8 := hts (.fieldLink RX8 33 "ClockReach" "history" "LClockReach$History;") (List.mem_cons_of_mem _ cm_435)
  have hown : s.vm.findClass RX8 = some m.cls := findClass_of_methodNamed B.named
  have hlocks := B.notSynchronized
  have hiX0 : ∀ w ∈ wsX00, w ∈ vs_E_8_number := fun _ h => List.mem_cons_of_mem _ (cm_X0 h)
  have hiX8 : ∀ w ∈ wsX80, w ∈ vs_E_8_number := fun _ h => List.mem_cons_of_mem _ (cm_X8 h)
  have hD := hD0.self (sz := s.heap.size)
  generalize hAe : va_A ((xh__w xa xtape (nI tp) rd au xdr hy g (nI hs) tg sg (nI ss) rm ti py bu sm (nI nc) (nI np) (nI ne) st0 q4 q5 q6 q7 q8 q9 q10 q11 q12 q13 q14 q15 q16 k_f4 f4 k_f5 (bN 7 q_f5) k_f6 (bN 7 q_f6) k_f7 f7 k_f8 (bN 4 q_f8) k_f9 (bN 2 q_f9) k_f10 f10 k_f11 f11 k_f12 f12 k_f13 f13 k_f14 f14 k_f15 f15 k_f16 f16 (nI hk) co ol k_fo fo k_fl fl (nI on) (nI si) ti0 tm bh)) s.heap.size = A at hD ⊢
  have hA : ∀ q : Nat, s.heap.size ≤ q → A q := fun q h => by rw [← hAe]; exact Or.inr h
  have hS : va_S A s.heap s.heap [] := va_S.rf
  have hl := lv_entry ([.ref xa, .int p0, .int p1, .int p2]) (n := 6) (Nat.le_of_ble_eq_true rfl)
  rw [lg_entry_eq]
  generalize (lg_sl ([.ref xa, .int p0, .int p1, .int p2]) ++ List.replicate (6 - (lg_sl ([.ref xa, .int p0, .int p1, .int p2])).length) Slot.unset).toArray = ls at hl ⊢
  have hl : lv_has ls 6 [(0, .ref xa), (1, .int p0), (2, .int p1), (3, .int p2)] := hl
  obtain ⟨RR, hRR⟩ : ∃ x, x = (sp_E_8_number hs ss np ne q_f8 q_f9 f10 f11 f12 f13 f14 f15 f16 hk fo fl on p0 p1 p2) := ⟨_, rfl⟩
  have hsp := hRR
  refine lv_aload_n hx hb eX8_number_0 rfl (lv_at hl 0 rfl) ?_
  refine lv_iload_n hx hb eX8_number_1 rfl (lv_at hl 1 rfl) ?_
  refine lv_iload_n hx hb eX8_number_2 rfl (lv_at hl 2 rfl) ?_
  have hPc : va_P (dC, dI) vwCl (xa__w xa xtape (nI tp) rd au xdr hy g (nI hs) tg sg (nI ss) rm ti py bu sm (nI nc) (nI np) (nI ne) st0 q4 q5 q6 q7 q8 q9 q10 q11 q12 q13 q14 q15 q16 k_f4 f4 k_f5 (bN 7 q_f5) k_f6 (bN 7 q_f6) k_f7 f7 k_f8 (bN 4 q_f8) k_f9 (bN 2 q_f9) k_f10 f10 k_f11 f11 k_f12 f12 k_f13 f13 k_f14 f14 k_f15 f15 k_f16 f16) _ := hP.sub [0, 1, 2, 3, 4, 5, 6, 7, 8, 9, 10, 11, 12, 13, 14] rfl
  have hDc := hD.sub (ws' := (xa__w xa xtape (nI tp) rd au xdr hy g (nI hs) tg sg (nI ss) rm ti py bu sm (nI nc) (nI np) (nI ne) st0 q4 q5 q6 q7 q8 q9 q10 q11 q12 q13 q14 q15 q16 k_f4 f4 k_f5 (bN 7 q_f5) k_f6 (bN 7 q_f6) k_f7 f7 k_f8 (bN 4 q_f8) k_f9 (bN 2 q_f9) k_f10 f10 k_f11 f11 k_f12 f12 k_f13 f13 k_f14 f14 k_f15 f15 k_f16 f16)) [0, 1, 2, 3, 4, 5, 6, 7, 8, 9, 10, 11, 12, 13, 14] (by decide) rfl
  have hKc : va_K (dC, dI) vwCl (xa__t k_f4 k_f5 k_f6 k_f7 k_f8 k_f9 k_f10 k_f11 k_f12 k_f13 k_f14 k_f15 k_f16) s := hK.sub [0, 1, 2, 3, 4, 5, 6, 7, 8, 9, 10, 11, 12] rfl
  refine va_calli (va_runV (As := [.int p0, .int p1]) (rest := []) ⟨hx, hb, hml, hown, hts⟩ (c_E_8_slotOf l dC dI _ xa xtape tp rd au xdr hy g hs tg sg ss rm ti py bu sm nc np ne st0 q4 q5 q6 q7 q8 q9 q10 q11 q12 q13 q14 q15 q16 k_f4 f4 k_f5 q_f5 k_f6 q_f6 k_f7 f7 k_f8 q_f8 k_f9 q_f9 k_f10 f10 k_f11 f11 k_f12 f12 k_f13 f13 k_f14 f14 k_f15 f15 k_f16 f16 p0 p1 htp hhs hss hnc hnp hne (hst0)) (cwV 2 hts g_E_8_number_E_8_slotOf rfl rfl rfl (by decide +kernel) ⟨Nat.le_of_ble_eq_true rfl, Nat.le_of_ble_eq_true rfl⟩) ⟨pu_bl, va_recv hK hP (ci := 8) (q0 := 0) rfl rfl, pu_in hPc hKc hDc⟩ rfl rfl hl.1 rfl (lv_room (Nat.le_of_ble_eq_true rfl)) eX8_number_3 ⟨Nat.le_of_ble_eq_true rfl, Nat.le_of_ble_eq_true rfl⟩) hS (fun q _ h => pu_fr hS hA q h) (pu_fr hS hA) (fun r_1 u t H1 locs ht hvm hw hB hz1 hk1 hS => ?_)
  have hP := pu_keep hP hk1
  clear hk1 hz1 ht hvm
  generalize H1 = H at hP hS ⊢
  obtain ⟨u_2, hu_2, mu_2, iu_2⟩ := hw
  have hsp := hsp.trans (slet_eq iu_2)
  rcases mI_get u_2 with ⟨zn_3, wn_3⟩ | ⟨n_3, zn_3, wn_3⟩
  · obtain rfl : r_1 = -1 := mu_2.trans wn_3
    have hsp := hsp.trans (if_pos zn_3)
    refine lv_istore (lv' := [(4, .int (-1)), (0, .ref xa), (1, .int p0), (2, .int p1), (3, .int p2)]) hx hb eX8_number_6 hl (by decide) rfl (fun ls hl => ?_)
    refine lv_iload hx hb eX8_number_8 (lv_at hl 0 rfl) ?_
    refine lv_iconst (v := (-1)) hx hb eX8_number_10 (by decide) ?_
    refine lv_icmp_eq (tgt := 24) hx hb eX8_number_11 (by decide) (fun _ => ?_) (fun z => absurd z (by decide))
    refine lv_iconst (v := (-1)) hx hb eX8_number_24 (by decide) ?_
    exact W.iret (v := (-1)) hx hb hr (fun t ht hW => ⟨⟨(-1), (), rfl, (congrArg Prod.fst (hsp.symm.trans hRR)), ⟨f12, f13, f14, f15, f16, fo, fl, f11, ss, hs, hk, on, ⟨by rw [ht]; exact hP, va_K.moved hW.alike hK, hD⟩, hss, hhs, hhk, hon, by assumption, (congrArg Prod.snd (hsp.symm.trans hRR))⟩⟩, hS.F ht⟩) hS.2.2 eX8_number_25
  · obtain rfl : r_1 = nI n_3 := mu_2.trans wn_3
    have hn_3 : n_3 ≤ 87 := by omega
    have hsp := hsp.trans (if_neg (by omega))
    have hsp := hsp.trans (slet_eq (by omega : n_3 = u_2 - 1))
    refine lv_istore (lv' := [(4, .int (nI n_3)), (0, .ref xa), (1, .int p0), (2, .int p1), (3, .int p2)]) hx hb eX8_number_6 hl (by decide) rfl (fun ls hl => ?_)
    refine lv_iload hx hb eX8_number_8 (lv_at hl 0 rfl) ?_
    refine lv_iconst (v := (-1)) hx hb eX8_number_10 (by decide) ?_
    refine lv_icmp_eq (tgt := 24) hx hb eX8_number_11 (by decide) (fun z => absurd z (pu_nneg (n := n_3) (by omega) (by decide))) (fun _ => ?_)
    refine lv_iload_n hx hb eX8_number_14 rfl (lv_at hl 4 rfl) ?_
    refine lv_if_lt (tgt := 24) hx hb eX8_number_15 (by decide) (fun c_4 => ?_) (fun c_4 => ?_)
    · have hcc_4 := c_4
      have hsp := hsp.trans (if_pos c_4)
      refine lv_iconst (v := (-1)) hx hb eX8_number_24 (by decide) ?_
      exact W.iret (v := (-1)) hx hb hr (fun t ht hW => ⟨⟨(-1), (), rfl, (congrArg Prod.fst (hsp.symm.trans hRR)), ⟨f12, f13, f14, f15, f16, fo, fl, f11, ss, hs, hk, on, ⟨by rw [ht]; exact hP, va_K.moved hW.alike hK, hD⟩, hss, hhs, hhk, hon, by assumption, (congrArg Prod.snd (hsp.symm.trans hRR))⟩⟩, hS.F ht⟩) hS.2.2 eX8_number_25
    · have hcc_4 := c_4
      have hsp := hsp.trans (if_neg c_4)
      have lp2 : ¬ p2 < 0 := c_4
      refine lv_iload_n hx hb eX8_number_18 rfl (lv_at hl 4 rfl) ?_
      refine lv_bipush (v := 20) hx hb eX8_number_19 (by decide) ?_
      refine lv_icmp_le (tgt := 26) hx hb eX8_number_21 (by decide) (fun c_5 => ?_) (fun c_5 => ?_)
      · have hcc_5 := c_5
        have hsp := hsp.trans (if_pos c_5)
        obtain ⟨n_6, hn_6, rfl⟩ := pu_ule (b := 20) (by omega) lp2 (c_5)
        have hsp := hsp.trans (slet_eq (nI_cl (n := n_6) (by omega)))
        refine lv_aload_n hx hb eX8_number_26 rfl (lv_at hl 1 rfl) ?_
        refine va_get (D := (dC, dI)) (ci := 8) (v := .ref au) (C := RX8) (T := TX8) (N := 16) hx hb hts hiX8 hown hK hP 0 rfl rfl 3 (by decide) v_6 (fun _ h9 => h9) rfl eX8_number_27 ?_
        refine va_get (D := (dC, dI)) (ci := 0) (v := .ref q11) (C := RX0) (T := TX0) (N := 17) hx hb hts hiX0 hown hK hP 1 rfl rfl 11 (by decide) v_7 (fun _ h9 => h9) rfl eX8_number_30 ?_
        refine lv_iload hx hb eX8_number_33 (lv_at hl 0 rfl) ?_
        refine va_iald hx hb hK hP 9 7 rfl rfl (vp_in_nI (n := n_3) (Nat.lt_of_le_of_lt hn_3 (Nat.le_of_ble_eq_true rfl)) (Nat.le_of_ble_eq_true rfl)) eX8_number_35 ?_
        refine lv_topi (fun y_7 ey_7 => ?_)
        have ey_7 : y_7 = f11 n_3 := ey_7.trans (congrArg f11 (nI_clamp (n := n_3) (Nat.lt_of_le_of_lt hn_3 (Nat.le_of_ble_eq_true rfl))))
        have hsp := hsp.trans (slet_eq ey_7)
        refine lv_istore (lv' := [(5, .int y_7), (4, .int (nI n_3)), (0, .ref xa), (1, .int p0), (2, .int p1), (3, .int (nI n_6))]) hx hb eX8_number_36 hl (by decide) rfl (fun ls hl => ?_)
        refine lv_iload hx hb eX8_number_38 (lv_at hl 0 rfl) ?_
        refine lv_iload_n hx hb eX8_number_40 rfl (lv_at hl 5 rfl) ?_
        refine lv_icmp_ne (tgt := 46) hx hb eX8_number_41 (by decide) (fun c_8 => ?_) (fun c_8 => ?_)
        · have hcc_8 := c_8
          have hsp := hsp.trans (if_neg c_8)
          refine lv_aload_n hx hb eX8_number_46 rfl (lv_at hl 2 rfl) ?_
          refine va_get (D := (dC, dI)) (ci := 8) (v := .ref hy) (C := RX8) (T := TX8) (N := 16) hx hb hts hiX8 hown hK hP 0 rfl rfl 5 (by decide) v_8 (fun _ h9 => h9) rfl eX8_number_47 ?_
          refine lv_iload hx hb eX8_number_50 (lv_at hl 1 rfl) ?_
          refine lv_iload hx hb eX8_number_52 (lv_at hl 0 rfl) ?_
          have hPc : va_P (dC, dI) vwCl (hz__w hy (nI hk) co ol k_fo fo k_fl fl) _ := hP.sub [15, 16, 17] rfl
          have hDc := hD.sub (ws' := (hz__w hy (nI hk) co ol k_fo fo k_fl fl)) [15, 16, 17] (by decide) rfl
          have hKc : va_K (dC, dI) vwCl (hz__t k_fo k_fl) s := hK.sub [13, 14] rfl
          have hFc := pu_free hDc hS hA
          refine va_callv (va_runV (As := [.int (nI n_3), .int y_7]) (rest := []) ⟨hx, hb, hml, hown, hts⟩ (c_E_2_keep l dC dI _ hy hk co ol k_fo fo k_fl fl (nI n_3) y_7 hhk (by assumption) (Or.inl ⟨n_3, by omega, rfl⟩)) (cwV 2 hts g_E_8_number_E_2_keep rfl rfl rfl (by decide +kernel) ⟨Nat.le_of_ble_eq_true rfl, Nat.le_of_ble_eq_true rfl⟩) ⟨pu_bl, va_recv hK hP (ci := 2) (q0 := 15) rfl rfl, pu_in hPc hKc hDc⟩ rfl rfl hl.1 rfl (lv_room (Nat.le_of_ble_eq_true rfl)) eX8_number_54 ⟨Nat.le_of_ble_eq_true rfl, Nat.le_of_ble_eq_true rfl⟩) hS (fun q _ h => hFc q h) hFc (fun u t H1 locs ht hvm hw hB hz1 hk1 hS => ?_)
          obtain ⟨z_fo_10, z_fl_11, z_hk_12, ⟨hP1, -, hD1⟩, hz_hk_12, xr_9_0, xr_9_1⟩ := hB
          rw [ht] at hP1
          obtain ⟨hP, hD⟩ := pj_a (X := (xh__w xa xtape (nI tp) rd au xdr hy g (nI hs) tg sg (nI ss) rm ti py bu sm (nI nc) (nI np) (nI ne) st0 q4 q5 q6 q7 q8 q9 q10 q11 q12 q13 q14 q15 q16 k_f4 f4 k_f5 (bN 7 q_f5) k_f6 (bN 7 q_f6) k_f7 f7 k_f8 (bN 4 q_f8) k_f9 (bN 2 q_f9) k_f10 f10 k_f11 f11 k_f12 f12 k_f13 f13 k_f14 f14 k_f15 f15 k_f16 f16 (nI hk) co ol k_fo fo k_fl fl (nI on) (nI si) ti0 tm bh)) (X' := (xh__w xa xtape (nI tp) rd au xdr hy g (nI hs) tg sg (nI ss) rm ti py bu sm (nI nc) (nI np) (nI ne) st0 q4 q5 q6 q7 q8 q9 q10 q11 q12 q13 q14 q15 q16 k_f4 f4 k_f5 (bN 7 q_f5) k_f6 (bN 7 q_f6) k_f7 f7 k_f8 (bN 4 q_f8) k_f9 (bN 2 q_f9) k_f10 f10 k_f11 f11 k_f12 f12 k_f13 f13 k_f14 f14 k_f15 f15 k_f16 f16 (nI z_hk_12) co ol k_fo z_fo_10 k_fl z_fl_11 (nI on) (nI si) ti0 tm bh)) (wc := (hz__w hy (nI hk) co ol k_fo fo k_fl fl)) (w1 := (hz__w hy (nI z_hk_12) co ol k_fo z_fo_10 k_fl z_fl_11)) hP hD [15, 16, 17] [3, 4, 5, 6, 7, 8, 9, 10, 11, 12, 13, 14, 15, 16, 17, 0, 1, 2, 21] 3 rfl hk1 hP1 rfl rfl rfl (by decide)
          clear hP1 hD1 hFc hPc hDc hKc
          clear hk1 hz1 ht hvm
          generalize H1 = H at hP hS ⊢
          have hsp := hsp.trans (slet_eq xr_9_1)
          refine lv_aload_n hx hb eX8_number_57 rfl (lv_at hl 2 rfl) ?_
          refine va_get (D := (dC, dI)) (ci := 8) (v := .ref au) (C := RX8) (T := TX8) (N := 16) hx hb hts hiX8 hown hK hP 0 rfl rfl 3 (by decide) v_6 (fun _ h9 => h9) rfl eX8_number_58 ?_
          refine lv_iload hx hb eX8_number_61 (lv_at hl 1 rfl) ?_
          refine lv_iload_n hx hb eX8_number_63 rfl (lv_at hl 5 rfl) ?_
          have hPc : va_P (dC, dI) vwCl (au__w au (nI nc) (nI np) (nI ne) st0 q4 q5 q6 q7 q8 q9 q10 q11 q12 q13 q14 q15 q16 k_f4 f4 k_f5 (bN 7 q_f5) k_f6 (bN 7 q_f6) k_f7 f7 k_f8 (bN 4 q_f8) k_f9 (bN 2 q_f9) k_f10 f10 k_f11 f11 k_f12 f12 k_f13 f13 k_f14 f14 k_f15 f15 k_f16 f16) _ := hP.sub [1, 2, 3, 4, 5, 6, 7, 8, 9, 10, 11, 12, 13, 14] rfl
          have hDc := hD.sub (ws' := (au__w au (nI nc) (nI np) (nI ne) st0 q4 q5 q6 q7 q8 q9 q10 q11 q12 q13 q14 q15 q16 k_f4 f4 k_f5 (bN 7 q_f5) k_f6 (bN 7 q_f6) k_f7 f7 k_f8 (bN 4 q_f8) k_f9 (bN 2 q_f9) k_f10 f10 k_f11 f11 k_f12 f12 k_f13 f13 k_f14 f14 k_f15 f15 k_f16 f16)) [1, 2, 3, 4, 5, 6, 7, 8, 9, 10, 11, 12, 13, 14] (by decide) rfl
          have hKc : va_K (dC, dI) vwCl (au__t k_f4 k_f5 k_f6 k_f7 k_f8 k_f9 k_f10 k_f11 k_f12 k_f13 k_f14 k_f15 k_f16) s := hK.sub [0, 1, 2, 3, 4, 5, 6, 7, 8, 9, 10, 11, 12] rfl
          have hFc := pu_free hDc hS hA
          refine va_callv (va_runV (As := [.int (nI n_3), .int (nI n_6)]) (rest := []) ⟨hx, hb, hml, hown, hts⟩ (c_E_0_setNumber l dC dI _ au nc np ne st0 q4 q5 q6 q7 q8 q9 q10 q11 q12 q13 q14 q15 q16 k_f4 f4 k_f5 q_f5 k_f6 q_f6 k_f7 f7 k_f8 q_f8 k_f9 q_f9 k_f10 f10 k_f11 f11 k_f12 f12 k_f13 f13 k_f14 f14 k_f15 f15 k_f16 f16 n_3 (nI n_6) hnc hnp hne (hst0) hn_3) (cwV 2 hts g_E_8_number_E_0_setNumber rfl rfl rfl (by decide +kernel) ⟨Nat.le_of_ble_eq_true rfl, Nat.le_of_ble_eq_true rfl⟩) ⟨pu_bl, va_recv hK hP (ci := 0) (q0 := 1) rfl rfl, pu_in hPc hKc hDc⟩ rfl rfl hl.1 rfl (lv_room (Nat.le_of_ble_eq_true rfl)) eX8_number_64 ⟨Nat.le_of_ble_eq_true rfl, Nat.le_of_ble_eq_true rfl⟩) hS (fun q _ h => hFc q h) hFc (fun u t H1 locs ht hvm hw hB hz1 hk1 hS => ?_)
          obtain ⟨z_f13_14, z_f14_15, z_f15_16, z_f16_17, z_f11_18, z_f12_19, ⟨hP1, -, hD1⟩, xr_13_0⟩ := hB
          rw [ht] at hP1
          obtain ⟨hP, hD⟩ := pj_a (X := (xh__w xa xtape (nI tp) rd au xdr hy g (nI hs) tg sg (nI ss) rm ti py bu sm (nI nc) (nI np) (nI ne) st0 q4 q5 q6 q7 q8 q9 q10 q11 q12 q13 q14 q15 q16 k_f4 f4 k_f5 (bN 7 q_f5) k_f6 (bN 7 q_f6) k_f7 f7 k_f8 (bN 4 q_f8) k_f9 (bN 2 q_f9) k_f10 f10 k_f11 f11 k_f12 f12 k_f13 f13 k_f14 f14 k_f15 f15 k_f16 f16 (nI z_hk_12) co ol k_fo z_fo_10 k_fl z_fl_11 (nI on) (nI si) ti0 tm bh)) (X' := (xh__w xa xtape (nI tp) rd au xdr hy g (nI hs) tg sg (nI ss) rm ti py bu sm (nI nc) (nI np) (nI ne) st0 q4 q5 q6 q7 q8 q9 q10 q11 q12 q13 q14 q15 q16 k_f4 f4 k_f5 (bN 7 q_f5) k_f6 (bN 7 q_f6) k_f7 f7 k_f8 (bN 4 q_f8) k_f9 (bN 2 q_f9) k_f10 f10 k_f11 z_f11_18 k_f12 z_f12_19 k_f13 z_f13_14 k_f14 z_f14_15 k_f15 z_f15_16 k_f16 z_f16_17 (nI z_hk_12) co ol k_fo z_fo_10 k_fl z_fl_11 (nI on) (nI si) ti0 tm bh)) (wc := (au__w au (nI nc) (nI np) (nI ne) st0 q4 q5 q6 q7 q8 q9 q10 q11 q12 q13 q14 q15 q16 k_f4 f4 k_f5 (bN 7 q_f5) k_f6 (bN 7 q_f6) k_f7 f7 k_f8 (bN 4 q_f8) k_f9 (bN 2 q_f9) k_f10 f10 k_f11 f11 k_f12 f12 k_f13 f13 k_f14 f14 k_f15 f15 k_f16 f16)) (w1 := (au__w au (nI nc) (nI np) (nI ne) st0 q4 q5 q6 q7 q8 q9 q10 q11 q12 q13 q14 q15 q16 k_f4 f4 k_f5 (bN 7 q_f5) k_f6 (bN 7 q_f6) k_f7 f7 k_f8 (bN 4 q_f8) k_f9 (bN 2 q_f9) k_f10 f10 k_f11 z_f11_18 k_f12 z_f12_19 k_f13 z_f13_14 k_f14 z_f14_15 k_f15 z_f15_16 k_f16 z_f16_17)) hP hD [1, 2, 3, 4, 5, 6, 7, 8, 9, 10, 11, 12, 13, 14] [14, 0, 1, 2, 3, 4, 5, 6, 7, 8, 9, 10, 11, 12, 13, 29, 30, 31, 32] 14 rfl hk1 hP1 rfl rfl rfl (by decide)
          clear hP1 hD1 hFc hPc hDc hKc
          clear hk1 hz1 ht hvm
          generalize H1 = H at hP hS ⊢
          have hsp := hsp.trans (slet_eq xr_13_0)
          refine lv_aload_n hx hb eX8_number_67 rfl (lv_at hl 2 rfl) ?_
          have hPc : va_P (dC, dI) vwCl (xp__w xa xtape (nI tp) rd au xdr hy g (nI hs) tg sg (nI ss) rm ti py bu sm (nI on) (nI si) ti0 tm bh) _ := hP.sub [0, 18] rfl
          have hDc := hD.sub (ws' := (xp__w xa xtape (nI tp) rd au xdr hy g (nI hs) tg sg (nI ss) rm ti py bu sm (nI on) (nI si) ti0 tm bh)) [0, 18] (by decide) rfl
          have hKc : va_K (dC, dI) vwCl (xp__t ) s := hK.sub [] rfl
          have hFc := pu_free hDc hS hA
          refine va_callv (va_runV (As := []) (rest := []) ⟨hx, hb, hml, hown, hts⟩ (c_E_8_dropViews l dC dI _ xa xtape tp rd au xdr hy g hs tg sg ss rm ti py bu sm on si ti0 tm bh htp hhs hss hon hsi) (cwV 0 hts g_E_8_number_E_8_dropViews rfl rfl rfl (by decide +kernel) ⟨Nat.le_of_ble_eq_true rfl, Nat.le_of_ble_eq_true rfl⟩) ⟨pu_bl, va_recv hK hP (ci := 8) (q0 := 0) rfl rfl, pu_in hPc hKc hDc⟩ rfl rfl hl.1 rfl (lv_room (Nat.le_of_ble_eq_true rfl)) eX8_number_68 ⟨Nat.le_of_ble_eq_true rfl, Nat.le_of_ble_eq_true rfl⟩) hS (fun q _ h => hFc q h) hFc (fun u t H1 locs ht hvm hw hB hz1 hk1 hS => ?_)
          obtain ⟨hP1, -, hD1⟩ := hB
          rw [ht] at hP1
          obtain ⟨hP, hD⟩ := pj_a (X := (xh__w xa xtape (nI tp) rd au xdr hy g (nI hs) tg sg (nI ss) rm ti py bu sm (nI nc) (nI np) (nI ne) st0 q4 q5 q6 q7 q8 q9 q10 q11 q12 q13 q14 q15 q16 k_f4 f4 k_f5 (bN 7 q_f5) k_f6 (bN 7 q_f6) k_f7 f7 k_f8 (bN 4 q_f8) k_f9 (bN 2 q_f9) k_f10 f10 k_f11 z_f11_18 k_f12 z_f12_19 k_f13 z_f13_14 k_f14 z_f14_15 k_f15 z_f15_16 k_f16 z_f16_17 (nI z_hk_12) co ol k_fo z_fo_10 k_fl z_fl_11 (nI on) (nI si) ti0 tm bh)) (X' := (xh__w xa xtape (nI tp) rd au xdr hy g 0 tg sg 0 rm ti py bu sm (nI nc) (nI np) (nI ne) st0 q4 q5 q6 q7 q8 q9 q10 q11 q12 q13 q14 q15 q16 k_f4 f4 k_f5 (bN 7 q_f5) k_f6 (bN 7 q_f6) k_f7 f7 k_f8 (bN 4 q_f8) k_f9 (bN 2 q_f9) k_f10 f10 k_f11 z_f11_18 k_f12 z_f12_19 k_f13 z_f13_14 k_f14 z_f14_15 k_f15 z_f15_16 k_f16 z_f16_17 (nI z_hk_12) co ol k_fo z_fo_10 k_fl z_fl_11 0 (nI si) ti0 tm bh)) (wc := (xp__w xa xtape (nI tp) rd au xdr hy g (nI hs) tg sg (nI ss) rm ti py bu sm (nI on) (nI si) ti0 tm bh)) (w1 := (xp__w xa xtape (nI tp) rd au xdr hy g 0 tg sg 0 rm ti py bu sm 0 (nI si) ti0 tm bh)) hP hD [0, 18] [0, 3, 4, 5, 6, 7, 8, 9, 10, 11, 12, 13, 14, 15, 16, 17, 18, 19, 1] 2 rfl hk1 hP1 rfl rfl rfl (by decide)
          clear hP1 hD1 hFc hPc hDc hKc
          clear hk1 hz1 ht hvm
          generalize H1 = H at hP hS ⊢
          refine lv_iload hx hb eX8_number_71 (lv_at hl 0 rfl) ?_
          exact W.iret (v := y_7) hx hb hr (fun t ht hW => ⟨⟨y_7, (), rfl, (congrArg Prod.fst (hsp.symm.trans hRR)), ⟨z_f12_19, z_f13_14, z_f14_15, z_f15_16, z_f16_17, z_fo_10, z_fl_11, z_f11_18, 0, 0, z_hk_12, 0, ⟨by rw [ht]; exact hP, va_K.moved hW.alike hK, hD⟩, (Nat.le_of_ble_eq_true rfl), (Nat.le_of_ble_eq_true rfl), hz_hk_12, (Nat.le_of_ble_eq_true rfl), by assumption, (congrArg Prod.snd (hsp.symm.trans hRR))⟩⟩, hS.F ht⟩) hS.2.2 eX8_number_73
        · have hcc_8 := c_8
          have hsp := hsp.trans (if_pos c_8)
          refine lv_iconst (v := (-1)) hx hb eX8_number_44 (by decide) ?_
          exact W.iret (v := (-1)) hx hb hr (fun t ht hW => ⟨⟨(-1), (), rfl, (congrArg Prod.fst (hsp.symm.trans hRR)), ⟨f12, f13, f14, f15, f16, fo, fl, f11, ss, hs, hk, on, ⟨by rw [ht]; exact hP, va_K.moved hW.alike hK, hD⟩, hss, hhs, hhk, hon, by assumption, (congrArg Prod.snd (hsp.symm.trans hRR))⟩⟩, hS.F ht⟩) hS.2.2 eX8_number_45
      · have hcc_5 := c_5
        have hsp := hsp.trans (if_neg c_5)
        refine lv_iconst (v := (-1)) hx hb eX8_number_24 (by decide) ?_
        exact W.iret (v := (-1)) hx hb hr (fun t ht hW => ⟨⟨(-1), (), rfl, (congrArg Prod.fst (hsp.symm.trans hRR)), ⟨f12, f13, f14, f15, f16, fo, fl, f11, ss, hs, hk, on, ⟨by rw [ht]; exact hP, va_K.moved hW.alike hK, hD⟩, hss, hhs, hhk, hon, by assumption, (congrArg Prod.snd (hsp.symm.trans hRR))⟩⟩, hS.F ht⟩) hS.2.2 eX8_number_25
