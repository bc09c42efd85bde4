abbrev vs_E_8_number_0 : List Cond := .code yX8_number cX8_number 6 (some .int) :: CM
theorem g_E_8_number_0_E_8_slotOf : GoodIn vs_E_8_number_0 (wsV RX8 171 RX8 yX8_slotOf vs_E_8_slotOf) := cm_gV cm_490 cm_491 cm_492 cm_427 cm_493
theorem g_E_8_number_0_E_2_keep : GoodIn vs_E_8_number_0 (wsV RX8 199 RX2 yX2_keep vs_E_2_keep) := cm_gV cm_503 cm_504 cm_505 cm_506 cm_161
theorem g_E_8_number_0_E_0_setNumber : GoodIn vs_E_8_number_0 (wsV RX8 202 RX0 yX0_setNumber vs_E_0_setNumber) := cm_gV cm_507 cm_168 cm_169 cm_19 cm_27
theorem g_E_8_number_0_E_8_dropViews : GoodIn vs_E_8_number_0 (wsV RX8 94 RX8 yX8_dropViews vs_E_8_dropViews) := cm_gV cm_441 cm_442 cm_443 cm_427 cm_444
noncomputable def sp_E_8_number_0 (ne : Nat) (q_f8 : Nat → Nat) (q_f9 : Nat → Nat) (f10 : Nat → Int32) (f11 : Nat → Int32) (f12 : Nat → Int32) (f13 : Nat → Int32) (f14 : Nat → Int32) (f15 : Nat → Int32) (f16 : Nat → Int32) (hk : Nat) (fo : Nat → Int32) (fl : Nat → Int32) (on : Nat) (p0 : Int32) (p1 : Int32) (p2 : Int32) : Int32 × (Nat → Int32) × (Nat → Int32) × (Nat → Int32) × (Nat → Int32) × (Nat → Int32) × (Nat → Int32) × (Nat → Int32) × (Nat → Int32) × Nat × Nat := (slet (sp_E_8_slotOf 0 ne q_f8 p0 p1) (fun u_2 => (if u_2 = 0 then ((-1), f12, f13, f14, f15, f16, fo, fl, f11, hk, on) else (slet (u_2 - 1) (fun n_3 => (if (p2 : Int32) < 0 then ((-1), f12, f13, f14, f15, f16, fo, fl, f11, hk, on) else (if (p2 : Int32) ≤ 20 then (slet ((p2 : Int32).toNatClampNeg) (fun n_6 => (slet (f11 n_3) (fun y_7 => (if (y_7 : Int32) = (nI n_6) then ((-1), f12, f13, f14, f15, f16, fo, fl, f11, hk, on) else (slet (sp_E_2_keep hk fo fl (nI n_3) y_7) (fun (z_fo_10, z_fl_11, z_hk_12) => (slet (sp_E_0_setNumber q_f8 q_f9 f10 f11 f12 f13 f14 f15 f16 n_3 (nI n_6)) (fun (z_f13_14, z_f14_15, z_f15_16, z_f16_17, z_f11_18, z_f12_19) => (y_7, z_f12_19, z_f13_14, z_f14_15, z_f15_16, z_f16_17, z_fo_10, z_fl_11, z_f11_18, z_hk_12, 0)))))))))) else ((-1), f12, f13, f14, f15, f16, fo, fl, f11, hk, on))))))))
set_option maxHeartbeats 4000000 in
set_option maxRecDepth 100000 in
theorem c_E_8_number_0 (l : Launch) (dC : Nat → ClassId) (dI : Nat → Nat → Nat) (sz : Nat) (xa : Nat) (xtape : Nat) (tp : Nat) (rd : Nat) (au : Nat) (xdr : Nat) (hy : Nat) (g : Nat) (tg : Nat) (sg : Nat) (rm : Nat) (ti : Nat) (py : Nat) (bu : Nat) (sm : Nat) (nc : Nat) (ne : Nat) (st0 : Int32) (q4 : Nat) (q5 : Nat) (q6 : Nat) (q7 : Nat) (q8 : Nat) (q9 : Nat) (q10 : Nat) (q11 : Nat) (q12 : Nat) (q13 : Nat) (q14 : Nat) (q15 : Nat) (q16 : Nat) (k_f4 : ClassId) (f4 : Nat → Int32) (k_f5 : ClassId) (q_f5 : Nat → Nat) (k_f6 : ClassId) (q_f6 : Nat → Nat) (k_f7 : ClassId) (f7 : Nat → Int32) (k_f8 : ClassId) (q_f8 : Nat → Nat) (k_f9 : ClassId) (q_f9 : Nat → Nat) (k_f10 : ClassId) (f10 : Nat → Int32) (k_f11 : ClassId) (f11 : Nat → Int32) (k_f12 : ClassId) (f12 : Nat → Int32) (k_f13 : ClassId) (f13 : Nat → Int32) (k_f14 : ClassId) (f14 : Nat → Int32) (k_f15 : ClassId) (f15 : Nat → Int32) (k_f16 : ClassId) (f16 : Nat → Int32) (hk : Nat) (co : Nat) (ol : Nat) (k_fo : ClassId) (fo : Nat → Int32) (k_fl : ClassId) (fl : Nat → Int32) (on : Nat) (si : Nat) (ti0 : Int32) (tm : Nat) (bh : Nat) (p0 : Int32) (p1 : Int32) (p2 : Int32) (htp : tp ≤ 900) (hnc : nc ≤ 3) (hne : ne ≤ 14) (hst0 : pm1 7 st0) (hhk : hk ≤ 20) (hon : on ≤ 1) (hsi : si ≤ 7) (hq0 : hi_ok hk fo) : Met l yX8_number vs_E_8_number_0 ({ frames := 3, cells := 0, slots := 0, locals := 67 }) (va_Pc [.ref xa, .int p0, .int p1, .int p2] (pu_B (dC, dI) (xh__w xa xtape (nI tp) rd au xdr hy g 0 tg sg 0 rm ti py bu sm (nI nc) 0 (nI ne) st0 q4 q5 q6 q7 q8 q9 q10 q11 q12 q13 q14 q15 q16 k_f4 f4 k_f5 (bN 7 q_f5) k_f6 (bN 7 q_f6) k_f7 f7 k_f8 (bN 4 q_f8) k_f9 (bN 2 q_f9) k_f10 f10 k_f11 f11 k_f12 f12 k_f13 f13 k_f14 f14 k_f15 f15 k_f16 f16 (nI hk) co ol k_fo fo k_fl fl (nI on) (nI si) ti0 tm bh) (xh__t k_f4 k_f5 k_f6 k_f7 k_f8 k_f9 k_f10 k_f11 k_f12 k_f13 k_f14 k_f15 k_f16 k_fo k_fl) sz)) (va_Qi (fun (r : Int32) (_ : Unit) => r = (sp_E_8_number_0 ne q_f8 q_f9 f10 f11 f12 f13 f14 f15 f16 hk fo fl on p0 p1 p2).1) (fun _ t => ∃ (z_f12 : Nat → Int32) (z_f13 : Nat → Int32) (z_f14 : Nat → Int32) (z_f15 : Nat → Int32) (z_f16 : Nat → Int32) (z_fo : Nat → Int32) (z_fl : Nat → Int32) (z_f11 : Nat → Int32) (z_hk : Nat) (z_on : Nat), pu_E (dC, dI) (xh__w xa xtape (nI tp) rd au xdr hy g 0 tg sg 0 rm ti py bu sm (nI nc) 0 (nI ne) st0 q4 q5 q6 q7 q8 q9 q10 q11 q12 q13 q14 q15 q16 k_f4 f4 k_f5 (bN 7 q_f5) k_f6 (bN 7 q_f6) k_f7 f7 k_f8 (bN 4 q_f8) k_f9 (bN 2 q_f9) k_f10 f10 k_f11 z_f11 k_f12 z_f12 k_f13 z_f13 k_f14 z_f14 k_f15 z_f15 k_f16 z_f16 (nI z_hk) co ol k_fo z_fo k_fl z_fl (nI z_on) (nI si) ti0 tm bh) (xh__t k_f4 k_f5 k_f6 k_f7 k_f8 k_f9 k_f10 k_f11 k_f12 k_f13 k_f14 k_f15 k_f16 k_fo k_fl) (va_A ((xh__w xa xtape (nI tp) rd au xdr hy g 0 tg sg 0 rm ti py bu sm (nI nc) 0 (nI ne) st0 q4 q5 q6 q7 q8 q9 q10 q11 q12 q13 q14 q15 q16 k_f4 f4 k_f5 (bN 7 q_f5) k_f6 (bN 7 q_f6) k_f7 f7 k_f8 (bN 4 q_f8) k_f9 (bN 2 q_f9) k_f10 f10 k_f11 f11 k_f12 f12 k_f13 f13 k_f14 f14 k_f15 f15 k_f16 f16 (nI hk) co ol k_fo fo k_fl fl (nI on) (nI si) ti0 tm bh)) sz) t ∧ (z_hk ≤ 20) ∧ (z_on ≤ 1) ∧ (hi_ok z_hk z_fo) ∧ ((z_f12, z_f13, z_f14, z_f15, z_f16, z_fo, z_fl, z_f11, z_hk, z_on) = (sp_E_8_number_0 ne q_f8 q_f9 f10 f11 f12 f13 f14 f15 f16 hk fo fl on p0 p1 p2).2)) (va_A ((xh__w xa xtape (nI tp) rd au xdr hy g 0 tg sg 0 rm ti py bu sm (nI nc) 0 (nI ne) st0 q4 q5 q6 q7 q8 q9 q10 q11 q12 q13 q14 q15 q16 k_f4 f4 k_f5 (bN 7 q_f5) k_f6 (bN 7 q_f6) k_f7 f7 k_f8 (bN 4 q_f8) k_f9 (bN 2 q_f9) k_f10 f10 k_f11 f11 k_f12 f12 k_f13 f13 k_f14 f14 k_f15 f15 k_f16 f16 (nI hk) co ol k_fo fo k_fl fl (nI on) (nI si) ti0 tm bh)) sz)) 0 0 (va_A ((xh__w xa xtape (nI tp) rd au xdr hy g 0 tg sg 0 rm ti py bu sm (nI nc) 0 (nI ne) st0 q4 q5 q6 q7 q8 q9 q10 q11 q12 q13 q14 q15 q16 k_f4 f4 k_f5 (bN 7 q_f5) k_f6 (bN 7 q_f6) k_f7 f7 k_f8 (bN 4 q_f8) k_f9 (bN 2 q_f9) k_f10 f10 k_f11 f11 k_f12 f12 k_f13 f13 k_f14 f14 k_f15 f15 k_f16 f16 (nI hk) co ol k_fo fo k_fl fl (nI on) (nI si) ti0 tm bh)) sz) := by
  refine Met.ofW (cc := cX8_number) (maxL := 6) (ret := (some .int)) (by decide) rfl ?_
  intro p e s m args below meth c s₁ B hml hv
  obtain ⟨rfl, rfl, hP, hK, hD0⟩ := hv
  have hx := B.exec
  have hb := B.bytes
  have hr := B.returns
  have hts := atoms_spec (ws := vs_E_8_number_0) B.pre
  have v_6 := hts (.fieldLink RX8 23 "ClockReach" "model" "LClockReach$Automaton;") (List.mem_cons_of_mem _ cm_434)
  have v_7 := hts (.fieldLink RX8 181 "ClockReach$Automaton" "numbers" "[I") (List.mem_cons_of_mem _ cm_489)
  have v_8 := hts (.fieldLink RX8 33 "ClockReach" "history" "LClockReach$History;") (List.mem_cons_of_mem _ cm_435)
  have hown : s.vm.findClass RX8 = some m.cls := findClass_of_methodNamed B.named
  have hlocks := B.notSynchronized
  have hiX0 : ∀ w ∈ wsX00, w ∈ vs_E_8_number_0 := fun _ h => List.mem_cons_of_mem _ (cm_X0 h)
  have hiX8 : ∀ w ∈ wsX80, w ∈ vs_E_8_number_0 := fun _ h => List.mem_cons_of_mem _ (cm_X8 h)
  have hD := hD0.self (sz := s.heap.size)
  generalize hAe : va_A ((xh__w xa xtape (nI tp) rd au xdr hy g 0 tg sg 0 rm ti py bu sm (nI nc) 0 (nI ne) st0 q4 q5 q6 q7 q8 q9 q10 q11 q12 q13 q14 q15 q16 k_f4 f4 k_f5 (bN 7 q_f5) k_f6 (bN 7 q_f6) k_f7 f7 k_f8 (bN 4 q_f8) k_f9 (bN 2 q_f9) k_f10 f10 k_f11 f11 k_f12 f12 k_f13 f13 k_f14 f14 k_f15 f15 k_f16 f16 (nI hk) co ol k_fo fo k_fl fl (nI on) (nI si) ti0 tm bh)) s.heap.size = A at hD ⊢
  have hA : ∀ q : Nat, s.heap.size ≤ q → A q := fun q h => by rw [← hAe]; exact Or.inr h
  have hS : va_S A s.heap s.heap [] := va_S.rf
  have hl := lv_entry ([.ref xa, .int p0, .int p1, .int p2]) (n := 6) (Nat.le_of_ble_eq_true rfl)
  rw [lg_entry_eq]
  generalize (lg_sl ([.ref xa, .int p0, .int p1, .int p2]) ++ List.replicate (6 - (lg_sl ([.ref xa, .int p0, .int p1, .int p2])).length) Slot.unset).toArray = ls at hl ⊢
  have hl : lv_has ls 6 [(0, .ref xa), (1, .int p0), (2, .int p1), (3, .int p2)] := hl
  obtain ⟨RR, hRR⟩ : ∃ x, x = (sp_E_8_number_0 ne q_f8 q_f9 f10 f11 f12 f13 f14 f15 f16 hk fo fl on p0 p1 p2) := ⟨_, rfl⟩
  have hsp := hRR
  refine lv_aload_n hx hb eX8_number_0 rfl (lv_at hl 0 rfl) ?_
  refine lv_iload_n hx hb eX8_number_1 rfl (lv_at hl 1 rfl) ?_
  refine lv_iload_n hx hb eX8_number_2 rfl (lv_at hl 2 rfl) ?_
  have hPc : va_P (dC, dI) vwCl (xa__w xa xtape (nI tp) rd au xdr hy g 0 tg sg 0 rm ti py bu sm (nI nc) 0 (nI ne) st0 q4 q5 q6 q7 q8 q9 q10 q11 q12 q13 q14 q15 q16 k_f4 f4 k_f5 (bN 7 q_f5) k_f6 (bN 7 q_f6) k_f7 f7 k_f8 (bN 4 q_f8) k_f9 (bN 2 q_f9) k_f10 f10 k_f11 f11 k_f12 f12 k_f13 f13 k_f14 f14 k_f15 f15 k_f16 f16) _ := hP.sub [0, 1, 2, 3, 4, 5, 6, 7, 8, 9, 10, 11, 12, 13, 14] rfl
  have hDc := hD.sub (ws' := (xa__w xa xtape (nI tp) rd au xdr hy g 0 tg sg 0 rm ti py bu sm (nI nc) 0 (nI ne) st0 q4 q5 q6 q7 q8 q9 q10 q11 q12 q13 q14 q15 q16 k_f4 f4 k_f5 (bN 7 q_f5) k_f6 (bN 7 q_f6) k_f7 f7 k_f8 (bN 4 q_f8) k_f9 (bN 2 q_f9) k_f10 f10 k_f11 f11 k_f12 f12 k_f13 f13 k_f14 f14 k_f15 f15 k_f16 f16)) [0, 1, 2, 3, 4, 5, 6, 7, 8, 9, 10, 11, 12, 13, 14] (by decide) rfl
  have hKc : va_K (dC, dI) vwCl (xa__t k_f4 k_f5 k_f6 k_f7 k_f8 k_f9 k_f10 k_f11 k_f12 k_f13 k_f14 k_f15 k_f16) s := hK.sub [0, 1, 2, 3, 4, 5, 6, 7, 8, 9, 10, 11, 12] rfl
  refine va_calli (va_runV (As := [.int p0, .int p1]) (rest := []) ⟨hx, hb, hml, hown, hts⟩ (c_E_8_slotOf l dC dI _ xa xtape tp rd au xdr hy g 0 tg sg 0 rm ti py bu sm nc 0 ne st0 q4 q5 q6 q7 q8 q9 q10 q11 q12 q13 q14 q15 q16 k_f4 f4 k_f5 q_f5 k_f6 q_f6 k_f7 f7 k_f8 q_f8 k_f9 q_f9 k_f10 f10 k_f11 f11 k_f12 f12 k_f13 f13 k_f14 f14 k_f15 f15 k_f16 f16 p0 p1 htp (Nat.le_of_ble_eq_true rfl) (Nat.le_of_ble_eq_true rfl) hnc (Nat.le_of_ble_eq_true rfl) hne (hst0)) (cwV 2 hts g_E_8_number_0_E_8_slotOf rfl rfl rfl (by decide +kernel) ⟨Nat.le_of_ble_eq_true rfl, Nat.le_of_ble_eq_true rfl⟩) ⟨pu_bl, va_recv hK hP (ci := 8) (q0 := 0) rfl rfl, pu_in hPc hKc hDc⟩ rfl rfl hl.1 rfl (lv_room (Nat.le_of_ble_eq_true rfl)) eX8_number_3 ⟨Nat.le_of_ble_eq_true rfl, Nat.le_of_ble_eq_true rfl⟩) hS (fun q _ h => pu_fr hS hA q h) (pu_fr hS hA) (fun r_1 u t H1 locs ht hvm hw hB hz1 hk1 hS => ?_)
  have hP := pu_keep hP hk1
  clear hk1 hz1 ht hvm
  generalize H1 = H at hP hS ⊢
  obtain ⟨u_2, hu_2, mu_2, iu_2⟩ := hw
  have hsp := hsp.trans (slet_eq iu_2)
  rcases mI_get u_2 with ⟨zn_3, wn_3⟩ | ⟨n_3, zn_3, wn_3⟩
  · obtain rfl : r_1 = -1 := mu_2.trans wn_3
    have hsp := hsp.trans (if_pos zn_3)
    refine lv_istore (lv' := [(4, .int (-1)), (0, .ref xa), (1, .int p0), (2, .int p1), (3, .int p2)]) hx hb eX8_number_6 hl (by decide) rfl (fun ls hl => ?_)
    refine lv_iload hx hb eX8_number_8 (lv_at hl 0 rfl) ?_
    refine lv_iconst (v := (-1)) hx hb eX8_number_10 (by decide) ?_
    refine lv_icmp_eq (tgt := 24) hx hb eX8_number_11 (by decide) (fun _ => ?_) (fun z => absurd z (by decide))
    refine lv_iconst (v := (-1)) hx hb eX8_number_24 (by decide) ?_
    exact W.iret (v := (-1)) hx hb hr (fun t ht hW => ⟨⟨(-1), (), rfl, (congrArg Prod.fst (hsp.symm.trans hRR)), ⟨f12, f13, f14, f15, f16, fo, fl, f11, hk, on, ⟨by rw [ht]; exact hP, va_K.moved hW.alike hK, hD⟩, hhk, hon, by assumption, (congrArg Prod.snd (hsp.symm.trans hRR))⟩⟩, hS.F ht⟩) hS.2.2 eX8_number_25
  · obtain rfl : r_1 = nI n_3 := mu_2.trans wn_3
    have hn_3 : n_3 ≤ 87 := by omega
    have hsp := hsp.trans (if_neg (by omega))
    have hsp := hsp.trans (slet_eq (by omega : n_3 = u_2 - 1))
    refine lv_istore (lv' := [(4, .int (nI n_3)), (0, .ref xa), (1, .int p0), (2, .int p1), (3, .int p2)]) hx hb eX8_number_6 hl (by decide) rfl (fun ls hl => ?_)
    refine lv_iload hx hb eX8_number_8 (lv_at hl 0 rfl) ?_
    refine lv_iconst (v := (-1)) hx hb eX8_number_10 (by decide) ?_
    refine lv_icmp_eq (tgt := 24) hx hb eX8_number_11 (by decide) (fun z => absurd z (pu_nneg (n := n_3) (by omega) (by decide))) (fun _ => ?_)
    refine lv_iload_n hx hb eX8_number_14 rfl (lv_at hl 4 rfl) ?_
    refine lv_if_lt (tgt := 24) hx hb eX8_number_15 (by decide) (fun c_4 => ?_) (fun c_4 => ?_)
    · have hcc_4 := c_4
      have hsp := hsp.trans (if_pos c_4)
      refine lv_iconst (v := (-1)) hx hb eX8_number_24 (by decide) ?_
      exact W.iret (v := (-1)) hx hb hr (fun t ht hW => ⟨⟨(-1), (), rfl, (congrArg Prod.fst (hsp.symm.trans hRR)), ⟨f12, f13, f14, f15, f16, fo, fl, f11, hk, on, ⟨by rw [ht]; exact hP, va_K.moved hW.alike hK, hD⟩, hhk, hon, by assumption, (congrArg Prod.snd (hsp.symm.trans hRR))⟩⟩, hS.F ht⟩) hS.2.2 eX8_number_25
    · have hcc_4 := c_4
      have hsp := hsp.trans (if_neg c_4)
      have lp2 : ¬ p2 < 0 := c_4
      refine lv_iload_n hx hb eX8_number_18 rfl (lv_at hl 4 rfl) ?_
      refine lv_bipush (v := 20) hx hb eX8_number_19 (by decide) ?_
      refine lv_icmp_le (tgt := 26) hx hb eX8_number_21 (by decide) (fun c_5 => ?_) (fun c_5 => ?_)
      · have hcc_5 := c_5
        have hsp := hsp.trans (if_pos c_5)
        obtain ⟨n_6, hn_6, rfl⟩ := pu_ule (b := 20) (by omega) lp2 (c_5)
        have hsp := hsp.trans (slet_eq (nI_cl (n := n_6) (by omega)))
        refine lv_aload_n hx hb eX8_number_26 rfl (lv_at hl 1 rfl) ?_
        refine va_get (D := (dC, dI)) (ci := 8) (v := .ref au) (C := RX8) (T := TX8) (N := 16) hx hb hts hiX8 hown hK hP 0 rfl rfl 3 (by decide) v_6 (fun _ h9 => h9) rfl eX8_number_27 ?_
        refine va_get (D := (dC, dI)) (ci := 0) (v := .ref q11) (C := RX0) (T := TX0) (N := 17) hx hb hts hiX0 hown hK hP 1 rfl rfl 11 (by decide) v_7 (fun _ h9 => h9) rfl eX8_number_30 ?_
        refine lv_iload hx hb eX8_number_33 (lv_at hl 0 rfl) ?_
        refine va_iald hx hb hK hP 9 7 rfl rfl (vp_in_nI (n := n_3) (Nat.lt_of_le_of_lt hn_3 (Nat.le_of_ble_eq_true rfl)) (Nat.le_of_ble_eq_true rfl)) eX8_number_35 ?_
        refine lv_topi (fun y_7 ey_7 => ?_)
        have ey_7 : y_7 = f11 n_3 := ey_7.trans (congrArg f11 (nI_clamp (n := n_3) (Nat.lt_of_le_of_lt hn_3 (Nat.le_of_ble_eq_true rfl))))
        have hsp := hsp.trans (slet_eq ey_7)
        refine lv_istore (lv' := [(5, .int y_7), (4, .int (nI n_3)), (0, .ref xa), (1, .int p0), (2, .int p1), (3, .int (nI n_6))]) hx hb eX8_number_36 hl (by decide) rfl (fun ls hl => ?_)
        refine lv_iload hx hb eX8_number_38 (lv_at hl 0 rfl) ?_
        refine lv_iload_n hx hb eX8_number_40 rfl (lv_at hl 5 rfl) ?_
        refine lv_icmp_ne (tgt := 46) hx hb eX8_number_41 (by decide) (fun c_8 => ?_) (fun c_8 => ?_)
        · have hcc_8 := c_8
          have hsp := hsp.trans (if_neg c_8)
          refine lv_aload_n hx hb eX8_number_46 rfl (lv_at hl 2 rfl) ?_
          refine va_get (D := (dC, dI)) (ci := 8) (v := .ref hy) (C := RX8) (T := TX8) (N := 16) hx hb hts hiX8 hown hK hP 0 rfl rfl 5 (by decide) v_8 (fun _ h9 => h9) rfl eX8_number_47 ?_
          refine lv_iload hx hb eX8_number_50 (lv_at hl 1 rfl) ?_
          refine lv_iload hx hb eX8_number_52 (lv_at hl 0 rfl) ?_
          have hPc : va_P (dC, dI) vwCl (hz__w hy (nI hk) co ol k_fo fo k_fl fl) _ := hP.sub [15, 16, 17] rfl
          have hDc := hD.sub (ws' := (hz__w hy (nI hk) co ol k_fo fo k_fl fl)) [15, 16, 17] (by decide) rfl
          have hKc : va_K (dC, dI) vwCl (hz__t k_fo k_fl) s := hK.sub [13, 14] rfl
          have hFc := pu_free hDc hS hA
          refine va_callv (va_runV (As := [.int (nI n_3), .int y_7]) (rest := []) ⟨hx, hb, hml, hown, hts⟩ (c_E_2_keep l dC dI _ hy hk co ol k_fo fo k_fl fl (nI n_3) y_7 hhk (by assumption) (Or.inl ⟨n_3, by omega, rfl⟩)) (cwV 2 hts g_E_8_number_0_E_2_keep rfl rfl rfl (by decide +kernel) ⟨Nat.le_of_ble_eq_true rfl, Nat.le_of_ble_eq_true rfl⟩) ⟨pu_bl, va_recv hK hP (ci := 2) (q0 := 15) rfl rfl, pu_in hPc hKc hDc⟩ rfl rfl hl.1 rfl (lv_room (Nat.le_of_ble_eq_true rfl)) eX8_number_54 ⟨Nat.le_of_ble_eq_true rfl, Nat.le_of_ble_eq_true rfl⟩) hS (fun q _ h => hFc q h) hFc (fun u t H1 locs ht hvm hw hB hz1 hk1 hS => ?_)
          obtain ⟨z_fo_10, z_fl_11, z_hk_12, ⟨hP1, -, hD1⟩, hz_hk_12, xr_9_0, xr_9_1⟩ := hB
          rw [ht] at hP1
          obtain ⟨hP, hD⟩ := pj_a (X := (xh__w xa xtape (nI tp) rd au xdr hy g 0 tg sg 0 rm ti py bu sm (nI nc) 0 (nI ne) st0 q4 q5 q6 q7 q8 q9 q10 q11 q12 q13 q14 q15 q16 k_f4 f4 k_f5 (bN 7 q_f5) k_f6 (bN 7 q_f6) k_f7 f7 k_f8 (bN 4 q_f8) k_f9 (bN 2 q_f9) k_f10 f10 k_f11 f11 k_f12 f12 k_f13 f13 k_f14 f14 k_f15 f15 k_f16 f16 (nI hk) co ol k_fo fo k_fl fl (nI on) (nI si) ti0 tm bh)) (X' := (xh__w xa xtape (nI tp) rd au xdr hy g 0 tg sg 0 rm ti py bu sm (nI nc) 0 (nI ne) st0 q4 q5 q6 q7 q8 q9 q10 q11 q12 q13 q14 q15 q16 k_f4 f4 k_f5 (bN 7 q_f5) k_f6 (bN 7 q_f6) k_f7 f7 k_f8 (bN 4 q_f8) k_f9 (bN 2 q_f9) k_f10 f10 k_f11 f11 k_f12 f12 k_f13 f13 k_f14 f14 k_f15 f15 k_f16 f16 (nI z_hk_12) co ol k_fo z_fo_10 k_fl z_fl_11 (nI on) (nI si) ti0 tm bh)) (wc := (hz__w hy (nI hk) co ol k_fo fo k_fl fl)) (w1 := (hz__w hy (nI z_hk_12) co ol k_fo z_fo_10 k_fl z_fl_11)) hP hD [15, 16, 17] [3, 4, 5, 6, 7, 8, 9, 10, 11, 12, 13, 14, 15, 16, 17, 0, 1, 2, 21] 3 rfl hk1 hP1 rfl rfl rfl (by decide)
          clear hP1 hD1 hFc hPc hDc hKc
          clear hk1 hz1 ht hvm
          generalize H1 = H at hP hS ⊢
          have hsp := hsp.trans (slet_eq xr_9_1)
          refine lv_aload_n hx hb eX8_number_57 rfl (lv_at hl 2 rfl) ?_
          refine va_get (D := (dC, dI)) (ci := 8) (v := .ref au) (C := RX8) (T := TX8) (N := 16) hx hb hts hiX8 hown hK hP 0 rfl rfl 3 (by decide) v_6 (fun _ h9 => h9) rfl eX8_number_58 ?_
          refine lv_iload hx hb eX8_number_61 (lv_at hl 1 rfl) ?_
          refine lv_iload_n hx hb eX8_number_63 rfl (lv_at hl 5 rfl) ?_
          have hPc : va_P (dC, dI) vwCl (au__w au (nI nc) 0 (nI ne) st0 q4 q5 q6 q7 q8 q9 q10 q11 q12 q13 q14 q15 q16 k_f4 f4 k_f5 (bN 7 q_f5) k_f6 (bN 7 q_f6) k_f7 f7 k_f8 (bN 4 q_f8) k_f9 (bN 2 q_f9) k_f10 f10 k_f11 f11 k_f12 f12 k_f13 f13 k_f14 f14 k_f15 f15 k_f16 f16) _ := hP.sub [1, 2, 3, 4, 5, 6, 7, 8, 9, 10, 11, 12, 13, 14] rfl
          have hDc := hD.sub (ws' := (au__w au (nI nc) 0 (nI ne) st0 q4 q5 q6 q7 q8 q9 q10 q11 q12 q13 q14 q15 q16 k_f4 f4 k_f5 (bN 7 q_f5) k_f6 (bN 7 q_f6) k_f7 f7 k_f8 (bN 4 q_f8) k_f9 (bN 2 q_f9) k_f10 f10 k_f11 f11 k_f12 f12 k_f13 f13 k_f14 f14 k_f15 f15 k_f16 f16)) [1, 2, 3, 4, 5, 6, 7, 8, 9, 10, 11, 12, 13, 14] (by decide) rfl
          have hKc : va_K (dC, dI) vwCl (au__t k_f4 k_f5 k_f6 k_f7 k_f8 k_f9 k_f10 k_f11 k_f12 k_f13 k_f14 k_f15 k_f16) s := hK.sub [0, 1, 2, 3, 4, 5, 6, 7, 8, 9, 10, 11, 12] rfl
          have hFc := pu_free hDc hS hA
          refine va_callv (va_runV (As := [.int (nI n_3), .int (nI n_6)]) (rest := []) ⟨hx, hb, hml, hown, hts⟩ (c_E_0_setNumber l dC dI _ au nc 0 ne st0 q4 q5 q6 q7 q8 q9 q10 q11 q12 q13 q14 q15 q16 k_f4 f4 k_f5 q_f5 k_f6 q_f6 k_f7 f7 k_f8 q_f8 k_f9 q_f9 k_f10 f10 k_f11 f11 k_f12 f12 k_f13 f13 k_f14 f14 k_f15 f15 k_f16 f16 n_3 (nI n_6) hnc (Nat.le_of_ble_eq_true rfl) hne (hst0) hn_3) (cwV 2 hts g_E_8_number_0_E_0_setNumber rfl rfl rfl (by decide +kernel) ⟨Nat.le_of_ble_eq_true rfl, Nat.le_of_ble_eq_true rfl⟩) ⟨pu_bl, va_recv hK hP (ci := 0) (q0 := 1) rfl rfl, pu_in hPc hKc hDc⟩ rfl rfl hl.1 rfl (lv_room (Nat.le_of_ble_eq_true rfl)) eX8_number_64 ⟨Nat.le_of_ble_eq_true rfl, Nat.le_of_ble_eq_true rfl⟩) hS (fun q _ h => hFc q h) hFc (fun u t H1 locs ht hvm hw hB hz1 hk1 hS => ?_)
          obtain ⟨z_f13_14, z_f14_15, z_f15_16, z_f16_17, z_f11_18, z_f12_19, ⟨hP1, -, hD1⟩, xr_13_0⟩ := hB
          rw [ht] at hP1
          obtain ⟨hP, hD⟩ := pj_a (X := (xh__w xa xtape (nI tp) rd au xdr hy g 0 tg sg 0 rm ti py bu sm (nI nc) 0 (nI ne) st0 q4 q5 q6 q7 q8 q9 q10 q11 q12 q13 q14 q15 q16 k_f4 f4 k_f5 (bN 7 q_f5) k_f6 (bN 7 q_f6) k_f7 f7 k_f8 (bN 4 q_f8) k_f9 (bN 2 q_f9) k_f10 f10 k_f11 f11 k_f12 f12 k_f13 f13 k_f14 f14 k_f15 f15 k_f16 f16 (nI z_hk_12) co ol k_fo z_fo_10 k_fl z_fl_11 (nI on) (nI si) ti0 tm bh)) (X' := (xh__w xa xtape (nI tp) rd au xdr hy g 0 tg sg 0 rm ti py bu sm (nI nc) 0 (nI ne) st0 q4 q5 q6 q7 q8 q9 q10 q11 q12 q13 q14 q15 q16 k_f4 f4 k_f5 (bN 7 q_f5) k_f6 (bN 7 q_f6) k_f7 f7 k_f8 (bN 4 q_f8) k_f9 (bN 2 q_f9) k_f10 f10 k_f11 z_f11_18 k_f12 z_f12_19 k_f13 z_f13_14 k_f14 z_f14_15 k_f15 z_f15_16 k_f16 z_f16_17 (nI z_hk_12) co ol k_fo z_fo_10 k_fl z_fl_11 (nI on) (nI si) ti0 tm bh)) (wc := (au__w au (nI nc) 0 (nI ne) st0 q4 q5 q6 q7 q8 q9 q10 q11 q12 q13 q14 q15 q16 k_f4 f4 k_f5 (bN 7 q_f5) k_f6 (bN 7 q_f6) k_f7 f7 k_f8 (bN 4 q_f8) k_f9 (bN 2 q_f9) k_f10 f10 k_f11 f11 k_f12 f12 k_f13 f13 k_f14 f14 k_f15 f15 k_f16 f16)) (w1 := (au__w au (nI nc) 0 (nI ne) st0 q4 q5 q6 q7 q8 q9 q10 q11 q12 q13 q14 q15 q16 k_f4 f4 k_f5 (bN 7 q_f5) k_f6 (bN 7 q_f6) k_f7 f7 k_f8 (bN 4 q_f8) k_f9 (bN 2 q_f9) k_f10 f10 k_f11 z_f11_18 k_f12 z_f12_19 k_f13 z_f13_14 k_f14 z_f14_15 k_f15 z_f15_16 k_f16 z_f16_17)) hP hD [1, 2, 3, 4, 5, 6, 7, 8, 9, 10, 11, 12, 13, 14] [14, 0, 1, 2, 3, 4, 5, 6, 7, 8, 9, 10, 11, 12, 13, 29, 30, 31, 32] 14 rfl hk1 hP1 rfl rfl rfl (by decide)
          clear hP1 hD1 hFc hPc hDc hKc
          clear hk1 hz1 ht hvm
          generalize H1 = H at hP hS ⊢
          have hsp := hsp.trans (slet_eq xr_13_0)
          refine lv_aload_n hx hb eX8_number_67 rfl (lv_at hl 2 rfl) ?_
          have hPc : va_P (dC, dI) vwCl (xp__w xa xtape (nI tp) rd au xdr hy g 0 tg sg 0 rm ti py bu sm (nI on) (nI si) ti0 tm bh) _ := hP.sub [0, 18] rfl
          have hDc := hD.sub (ws' := (xp__w xa xtape (nI tp) rd au xdr hy g 0 tg sg 0 rm ti py bu sm (nI on) (nI si) ti0 tm bh)) [0, 18] (by decide) rfl
          have hKc : va_K (dC, dI) vwCl (xp__t ) s := hK.sub [] rfl
          have hFc := pu_free hDc hS hA
          refine va_callv (va_runV (As := []) (rest := []) ⟨hx, hb, hml, hown, hts⟩ (c_E_8_dropViews l dC dI _ xa xtape tp rd au xdr hy g 0 tg sg 0 rm ti py bu sm on si ti0 tm bh htp (Nat.le_of_ble_eq_true rfl) (Nat.le_of_ble_eq_true rfl) hon hsi) (cwV 0 hts g_E_8_number_0_E_8_dropViews rfl rfl rfl (by decide +kernel) ⟨Nat.le_of_ble_eq_true rfl, Nat.le_of_ble_eq_true rfl⟩) ⟨pu_bl, va_recv hK hP (ci := 8) (q0 := 0) rfl rfl, pu_in hPc hKc hDc⟩ rfl rfl hl.1 rfl (lv_room (Nat.le_of_ble_eq_true rfl)) eX8_number_68 ⟨Nat.le_of_ble_eq_true rfl, Nat.le_of_ble_eq_true rfl⟩) hS (fun q _ h => hFc q h) hFc (fun u t H1 locs ht hvm hw hB hz1 hk1 hS => ?_)
          obtain ⟨hP1, -, hD1⟩ := hB
          rw [ht] at hP1
          obtain ⟨hP, hD⟩ := pj_a (X := (xh__w xa xtape (nI tp) rd au xdr hy g 0 tg sg 0 rm ti py bu sm (nI nc) 0 (nI ne) st0 q4 q5 q6 q7 q8 q9 q10 q11 q12 q13 q14 q15 q16 k_f4 f4 k_f5 (bN 7 q_f5) k_f6 (bN 7 q_f6) k_f7 f7 k_f8 (bN 4 q_f8) k_f9 (bN 2 q_f9) k_f10 f10 k_f11 z_f11_18 k_f12 z_f12_19 k_f13 z_f13_14 k_f14 z_f14_15 k_f15 z_f15_16 k_f16 z_f16_17 (nI z_hk_12) co ol k_fo z_fo_10 k_fl z_fl_11 (nI on) (nI si) ti0 tm bh)) (X' := (xh__w xa xtape (nI tp) rd au xdr hy g 0 tg sg 0 rm ti py bu sm (nI nc) 0 (nI ne) st0 q4 q5 q6 q7 q8 q9 q10 q11 q12 q13 q14 q15 q16 k_f4 f4 k_f5 (bN 7 q_f5) k_f6 (bN 7 q_f6) k_f7 f7 k_f8 (bN 4 q_f8) k_f9 (bN 2 q_f9) k_f10 f10 k_f11 z_f11_18 k_f12 z_f12_19 k_f13 z_f13_14 k_f14 z_f14_15 k_f15 z_f15_16 k_f16 z_f16_17 (nI z_hk_12) co ol k_fo z_fo_10 k_fl z_fl_11 0 (nI si) ti0 tm bh)) (wc := (xp__w xa xtape (nI tp) rd au xdr hy g 0 tg sg 0 rm ti py bu sm (nI on) (nI si) ti0 tm bh)) (w1 := (xp__w xa xtape (nI tp) rd au xdr hy g 0 tg sg 0 rm ti py bu sm 0 (nI si) ti0 tm bh)) hP hD [0, 18] [0, 3, 4, 5, 6, 7, 8, 9, 10, 11, 12, 13, 14, 15, 16, 17, 18, 19, 1] 2 rfl hk1 hP1 rfl rfl rfl (by decide)
          clear hP1 hD1 hFc hPc hDc hKc
          clear hk1 hz1 ht hvm
          generalize H1 = H at hP hS ⊢
          refine lv_iload hx hb eX8_number_71 (lv_at hl 0 rfl) ?_
          exact W.iret (v := y_7) hx hb hr (fun t ht hW => ⟨⟨y_7, (), rfl, (congrArg Prod.fst (hsp.symm.trans hRR)), ⟨z_f12_19, z_f13_14, z_f14_15, z_f15_16, z_f16_17, z_fo_10, z_fl_11, z_f11_18, z_hk_12, 0, ⟨by rw [ht]; exact hP, va_K.moved hW.alike hK, hD⟩, hz_hk_12, (Nat.le_of_ble_eq_true rfl), by assumption, (congrArg Prod.snd (hsp.symm.trans hRR))⟩⟩, hS.F ht⟩) hS.2.2 eX8_number_73
        · have hcc_8 := c_8
          have hsp := hsp.trans (if_pos c_8)
          refine lv_iconst (v := (-1)) hx hb eX8_number_44 (by decide) ?_
          exact W.iret (v := (-1)) hx hb hr (fun t ht hW => ⟨⟨(-1), (), rfl, (congrArg Prod.fst (hsp.symm.trans hRR)), ⟨f12, f13, f14, f15, f16, fo, fl, f11, hk, on, ⟨by rw [ht]; exact hP, va_K.moved hW.alike hK, hD⟩, hhk, hon, by assumption, (congrArg Prod.snd (hsp.symm.trans hRR))⟩⟩, hS.F ht⟩) hS.2.2 eX8_number_45
      · have hcc_5 := c_5
        have hsp := hsp.trans (if_neg c_5)
        refine lv_iconst (v := (-1)) hx hb eX8_number_24 (by decide) ?_
        exact W.iret (v := (-1)) hx hb hr (fun t ht hW => ⟨⟨(-1), (), rfl, (congrArg Prod.fst (hsp.symm.trans hRR)), ⟨f12, f13, f14, f15, f16, fo, fl, f11, hk, on, ⟨by rw [ht]; exact hP, va_K.moved hW.alike hK, hD⟩, hhk, hon, by assumption, (congrArg Prod.snd (hsp.symm.trans hRR))⟩⟩, hS.F ht⟩) hS.2.2 eX8_number_25
abbrev vs_E_8_urgent_0 : List Cond := .code yX8_urgent cX8_urgent 3 (some .boolean) :: CM
theorem g_E_8_urgent_0_E_8_isPlace : GoodIn vs_E_8_urgent_0 (wsV RX8 140 RX8 yX8_isPlace vs_E_8_isPlace) := cm_gV cm_471 cm_472 cm_473 cm_427 cm_474
noncomputable def sp_E_8_urgent_0 : Nat := 0
set_option maxHeartbeats 4000000 in
set_option maxRecDepth 100000 in
theorem c_E_8_urgent_0 (l : Launch) (dC : Nat → ClassId) (dI : Nat → Nat → Nat) (sz : Nat) (xa : Nat) (xtape : Nat) (tp : Nat) (rd : Nat) (au : Nat) (xdr : Nat) (hy : Nat) (g : Nat) (tg : Nat) (sg : Nat) (rm : Nat) (ti : Nat) (py : Nat) (bu : Nat) (sm : Nat) (nc : Nat) (ne : Nat) (st0 : Int32) (q4 : Nat) (q5 : Nat) (q6 : Nat) (q7 : Nat) (q8 : Nat) (q9 : Nat) (q10 : Nat) (q11 : Nat) (q12 : Nat) (q13 : Nat) (q14 : Nat) (q15 : Nat) (q16 : Nat) (k_f4 : ClassId) (f4 : Nat → Int32) (k_f5 : ClassId) (q_f5 : Nat → Nat) (k_f6 : ClassId) (q_f6 : Nat → Nat) (k_f7 : ClassId) (f7 : Nat → Int32) (k_f8 : ClassId) (q_f8 : Nat → Nat) (k_f9 : ClassId) (q_f9 : Nat → Nat) (k_f10 : ClassId) (f10 : Nat → Int32) (k_f11 : ClassId) (f11 : Nat → Int32) (k_f12 : ClassId) (f12 : Nat → Int32) (k_f13 : ClassId) (f13 : Nat → Int32) (k_f14 : ClassId) (f14 : Nat → Int32) (k_f15 : ClassId) (f15 : Nat → Int32) (k_f16 : ClassId) (f16 : Nat → Int32) (hk : Nat) (co : Nat) (ol : Nat) (k_fo : ClassId) (fo : Nat → Int32) (k_fl : ClassId) (fl : Nat → Int32) (on : Nat) (si : Nat) (ti0 : Int32) (tm : Nat) (bh : Nat) (p0 : Int32) (a1 : Nat) (htp : tp ≤ 900) (hnc : nc ≤ 3) (hne : ne ≤ 14) (hst0 : pm1 7 st0) (hhk : hk ≤ 20) (hon : on ≤ 1) (hsi : si ≤ 7) (ha1 : a1 ≤ 1) (hq0 : hi_ok hk fo) : Met l yX8_urgent vs_E_8_urgent_0 ({ frames := 1, cells := 0, slots := 0, locals := 21 }) (va_Pc [.ref xa, .int p0, .int (nI a1)] (pu_B (dC, dI) (xh__w xa xtape (nI tp) rd au xdr hy g 0 tg sg 0 rm ti py bu sm (nI nc) 0 (nI ne) st0 q4 q5 q6 q7 q8 q9 q10 q11 q12 q13 q14 q15 q16 k_f4 f4 k_f5 (bN 7 q_f5) k_f6 (bN 7 q_f6) k_f7 f7 k_f8 (bN 4 q_f8) k_f9 (bN 2 q_f9) k_f10 f10 k_f11 f11 k_f12 f12 k_f13 f13 k_f14 f14 k_f15 f15 k_f16 f16 (nI hk) co ol k_fo fo k_fl fl (nI on) (nI si) ti0 tm bh) (xh__t k_f4 k_f5 k_f6 k_f7 k_f8 k_f9 k_f10 k_f11 k_f12 k_f13 k_f14 k_f15 k_f16 k_fo k_fl) sz)) (va_Qi (fun (r : Int32) (_ : Unit) => ∃ v : Nat, v ≤ 1 ∧ r = nI v ∧ v = sp_E_8_urgent_0) (fun _ _ => True) (va_A [] sz)) 0 0 (va_A [] sz) := by
  refine Met.ofW (cc := cX8_urgent) (maxL := 3) (ret := (some .boolean)) (by decide) rfl ?_
  intro p e s m args below meth c s₁ B hml hv
  obtain ⟨rfl, rfl, hP, hK, hD0⟩ := hv
  have hx := B.exec
  have hb := B.bytes
  have hr := B.returns
  have hts := atoms_spec (ws := vs_E_8_urgent_0) B.pre
  have hown : s.vm.findClass RX8 = some m.cls := findClass_of_methodNamed B.named
  have hlocks := B.notSynchronized
  have hD := hD0
  have hA : ∀ q : Nat, s.heap.size ≤ q → va_A [] s.heap.size q := fun _ h => Or.inr h
  have hS : va_S (va_A [] s.heap.size) s.heap s.heap [] := va_S.rf
  have hl := lv_entry ([.ref xa, .int p0, .int (nI a1)]) (n := 3) (Nat.le_of_ble_eq_true rfl)
  rw [lg_entry_eq]
  generalize (lg_sl ([.ref xa, .int p0, .int (nI a1)]) ++ List.replicate (3 - (lg_sl ([.ref xa, .int p0, .int (nI a1)])).length) Slot.unset).toArray = ls at hl ⊢
  have hl : lv_has ls 3 [(0, .ref xa), (1, .int p0), (2, .int (nI a1))] := hl
  obtain ⟨RR, hRR⟩ : ∃ x, x = sp_E_8_urgent_0 := ⟨_, rfl⟩
  have hsp := hRR
  refine lv_aload_n hx hb eX8_urgent_0 rfl (lv_at hl 0 rfl) ?_
  refine lv_iload_n hx hb eX8_urgent_1 rfl (lv_at hl 1 rfl) ?_
  have hPc : va_P (dC, dI) vwCl (xo__w xa xtape (nI tp) rd au xdr hy g 0 tg sg 0 rm ti py bu sm (nI nc) 0 (nI ne) st0 q4 q5 q6 q7 q8 q9 q10 q11 q12 q13 q14 q15 q16) _ := hP.sub [0, 1] rfl
  have hDc := hD.sub (ws' := (xo__w xa xtape (nI tp) rd au xdr hy g 0 tg sg 0 rm ti py bu sm (nI nc) 0 (nI ne) st0 q4 q5 q6 q7 q8 q9 q10 q11 q12 q13 q14 q15 q16)) [0, 1] (by decide) rfl
  have hKc : va_K (dC, dI) vwCl (xo__t ) s := hK.sub [] rfl
  refine va_calli (va_runV (As := [.int p0]) (rest := []) ⟨hx, hb, hml, hown, hts⟩ (c_E_8_isPlace l dC dI _ xa xtape tp rd au xdr hy g 0 tg sg 0 rm ti py bu sm nc 0 ne st0 q4 q5 q6 q7 q8 q9 q10 q11 q12 q13 q14 q15 q16 p0 htp (Nat.le_of_ble_eq_true rfl) (Nat.le_of_ble_eq_true rfl) hnc (Nat.le_of_ble_eq_true rfl) hne (hst0)) (cwV 1 hts g_E_8_urgent_0_E_8_isPlace rfl rfl rfl (by decide +kernel) ⟨Nat.le_of_ble_eq_true rfl, Nat.le_of_ble_eq_true rfl⟩) ⟨pu_bl, va_recv hK hP (ci := 8) (q0 := 0) rfl rfl, pu_in hPc hKc hDc⟩ rfl rfl hl.1 rfl (lv_room (Nat.le_of_ble_eq_true rfl)) eX8_urgent_2 ⟨Nat.le_of_ble_eq_true rfl, Nat.le_of_ble_eq_true rfl⟩) hS (fun q _ h => pu_fr hS hA q h) (pu_fr hS hA) (fun r_1 u t H1 locs ht hvm hw hB hz1 hk1 hS => ?_)
  have hP := pu_keep hP hk1
  clear hk1 hz1 ht hvm
  generalize H1 = H at hP hS ⊢
  rcases hw with ⟨rfl, hw⟩ | ⟨rfl, hn⟩
  · obtain ⟨n_2, hn_2, -⟩ := hw
    exact absurd hn_2 (Nat.not_lt_zero _)
  · refine lv_if_eq (tgt := 21) hx hb eX8_urgent_5 (by decide) (fun _ => ?_) (fun z => absurd z (by decide))
    refine lv_iconst (v := 0) hx hb eX8_urgent_21 (by decide) ?_
    exact W.zret (v := 0) (ty := .boolean) hx hb hr (rfl) (fun t ht hW => ⟨⟨0, (), rfl, ⟨0, (Nat.le_of_ble_eq_true rfl), rfl, (hsp.symm.trans hRR)⟩, trivial⟩, hS.F ht⟩) hS.2.2 eX8_urgent_22
abbrev vs_E_8_undo_0 : List Cond := .code yX8_undo cX8_undo 1 (some .boolean) :: CM
theorem g_E_8_undo_0_E_2_takesBack : GoodIn vs_E_8_undo_0 (wsV RX8 208 RX2 yX2_takesBack vs_E_2_takesBack) := cm_gV cm_512 cm_513 cm_514 cm_506 cm_165
theorem g_E_8_undo_0_E_8_dropViews : GoodIn vs_E_8_undo_0 (wsV RX8 94 RX8 yX8_dropViews vs_E_8_dropViews) := cm_gV cm_441 cm_442 cm_443 cm_427 cm_444
noncomputable def sp_E_8_undo_0 (f4 : Nat → Int32) (q_f8 : Nat → Nat) (q_f9 : Nat → Nat) (f10 : Nat → Int32) (f11 : Nat → Int32) (f12 : Nat → Int32) (f13 : Nat → Int32) (f14 : Nat → Int32) (f15 : Nat → Int32) (f16 : Nat → Int32) (hk : Nat) (fo : Nat → Int32) (fl : Nat → Int32) (on : Nat) : Nat × (Nat → Int32) × (Nat → Int32) × (Nat → Int32) × (Nat → Int32) × (Nat → Int32) × (Nat → Int32) × (Nat → Int32) × Nat × Nat := (slet (sp_E_2_takesBack hk fo fl f4 q_f8 q_f9 f10 f11 f12 f13 f14 f15 f16) (fun (u_10, z_f11_2, z_f12_3, z_f13_4, z_f14_5, z_f15_6, z_f16_7, z_f4_8, z_hk_9) => (if u_10 = 0 then (0, z_f12_3, z_f13_4, z_f14_5, z_f15_6, z_f16_7, z_f4_8, z_f11_2, z_hk_9, on) else (1, z_f12_3, z_f13_4, z_f14_5, z_f15_6, z_f16_7, z_f4_8, z_f11_2, z_hk_9, 0))))
set_option maxHeartbeats 4000000 in
set_option maxRecDepth 100000 in
theorem c_E_8_undo_0 (l : Launch) (dC : Nat → ClassId) (dI : Nat → Nat → Nat) (sz : Nat) (xa : Nat) (xtape : Nat) (tp : Nat) (rd : Nat) (au : Nat) (xdr : Nat) (hy : Nat) (g : Nat) (tg : Nat) (sg : Nat) (rm : Nat) (ti : Nat) (py : Nat) (bu : Nat) (sm : Nat) (nc : Nat) (ne : Nat) (st0 : Int32) (q4 : Nat) (q5 : Nat) (q6 : Nat) (q7 : Nat) (q8 : Nat) (q9 : Nat) (q10 : Nat) (q11 : Nat) (q12 : Nat) (q13 : Nat) (q14 : Nat) (q15 : Nat) (q16 : Nat) (k_f4 : ClassId) (f4 : Nat → Int32) (k_f5 : ClassId) (q_f5 : Nat → Nat) (k_f6 : ClassId) (q_f6 : Nat → Nat) (k_f7 : ClassId) (f7 : Nat → Int32) (k_f8 : ClassId) (q_f8 : Nat → Nat) (k_f9 : ClassId) (q_f9 : Nat → Nat) (k_f10 : ClassId) (f10 : Nat → Int32) (k_f11 : ClassId) (f11 : Nat → Int32) (k_f12 : ClassId) (f12 : Nat → Int32) (k_f13 : ClassId) (f13 : Nat → Int32) (k_f14 : ClassId) (f14 : Nat → Int32) (k_f15 : ClassId) (f15 : Nat → Int32) (k_f16 : ClassId) (f16 : Nat → Int32) (hk : Nat) (co : Nat) (ol : Nat) (k_fo : ClassId) (fo : Nat → Int32) (k_fl : ClassId) (fl : Nat → Int32) (on : Nat) (si : Nat) (ti0 : Int32) (tm : Nat) (bh : Nat) (htp : tp ≤ 900) (hnc : nc ≤ 3) (hne : ne ≤ 14) (hst0 : pm1 7 st0) (hhk : hk ≤ 20) (hon : on ≤ 1) (hsi : si ≤ 7) (hq0 : hi_ok hk fo) : Met l yX8_undo vs_E_8_undo_0 ({ frames := 4, cells := 0, slots := 0, locals := 89 }) (va_Pc [.ref xa] (pu_B (dC, dI) (xh__w xa xtape (nI tp) rd au xdr hy g 0 tg sg 0 rm ti py bu sm (nI nc) 0 (nI ne) st0 q4 q5 q6 q7 q8 q9 q10 q11 q12 q13 q14 q15 q16 k_f4 f4 k_f5 (bN 7 q_f5) k_f6 (bN 7 q_f6) k_f7 f7 k_f8 (bN 4 q_f8) k_f9 (bN 2 q_f9) k_f10 f10 k_f11 f11 k_f12 f12 k_f13 f13 k_f14 f14 k_f15 f15 k_f16 f16 (nI hk) co ol k_fo fo k_fl fl (nI on) (nI si) ti0 tm bh) (xh__t k_f4 k_f5 k_f6 k_f7 k_f8 k_f9 k_f10 k_f11 k_f12 k_f13 k_f14 k_f15 k_f16 k_fo k_fl) sz)) (va_Qi (fun (r : Int32) (_ : Unit) => ∃ v : Nat, v ≤ 1 ∧ r = nI v ∧ v = (sp_E_8_undo_0 f4 q_f8 q_f9 f10 f11 f12 f13 f14 f15 f16 hk fo fl on).1) (fun _ t => ∃ (z_f12 : Nat → Int32) (z_f13 : Nat → Int32) (z_f14 : Nat → Int32) (z_f15 : Nat → Int32) (z_f16 : Nat → Int32) (z_f4 : Nat → Int32) (z_f11 : Nat → Int32) (z_hk : Nat) (z_on : Nat), pu_E (dC, dI) (xh__w xa xtape (nI tp) rd au xdr hy g 0 tg sg 0 rm ti py bu sm (nI nc) 0 (nI ne) st0 q4 q5 q6 q7 q8 q9 q10 q11 q12 q13 q14 q15 q16 k_f4 z_f4 k_f5 (bN 7 q_f5) k_f6 (bN 7 q_f6) k_f7 f7 k_f8 (bN 4 q_f8) k_f9 (bN 2 q_f9) k_f10 f10 k_f11 z_f11 k_f12 z_f12 k_f13 z_f13 k_f14 z_f14 k_f15 z_f15 k_f16 z_f16 (nI z_hk) co ol k_fo fo k_fl fl (nI z_on) (nI si) ti0 tm bh) (xh__t k_f4 k_f5 k_f6 k_f7 k_f8 k_f9 k_f10 k_f11 k_f12 k_f13 k_f14 k_f15 k_f16 k_fo k_fl) (va_A ((xh__w xa xtape (nI tp) rd au xdr hy g 0 tg sg 0 rm ti py bu sm (nI nc) 0 (nI ne) st0 q4 q5 q6 q7 q8 q9 q10 q11 q12 q13 q14 q15 q16 k_f4 f4 k_f5 (bN 7 q_f5) k_f6 (bN 7 q_f6) k_f7 f7 k_f8 (bN 4 q_f8) k_f9 (bN 2 q_f9) k_f10 f10 k_f11 f11 k_f12 f12 k_f13 f13 k_f14 f14 k_f15 f15 k_f16 f16 (nI hk) co ol k_fo fo k_fl fl (nI on) (nI si) ti0 tm bh)) sz) t ∧ (z_hk ≤ 20) ∧ (z_on ≤ 1) ∧ (hi_ok z_hk fo) ∧ ((z_f12, z_f13, z_f14, z_f15, z_f16, z_f4, z_f11, z_hk, z_on) = (sp_E_8_undo_0 f4 q_f8 q_f9 f10 f11 f12 f13 f14 f15 f16 hk fo fl on).2)) (va_A ((xh__w xa xtape (nI tp) rd au xdr hy g 0 tg sg 0 rm ti py bu sm (nI nc) 0 (nI ne) st0 q4 q5 q6 q7 q8 q9 q10 q11 q12 q13 q14 q15 q16 k_f4 f4 k_f5 (bN 7 q_f5) k_f6 (bN 7 q_f6) k_f7 f7 k_f8 (bN 4 q_f8) k_f9 (bN 2 q_f9) k_f10 f10 k_f11 f11 k_f12 f12 k_f13 f13 k_f14 f14 k_f15 f15 k_f16 f16 (nI hk) co ol k_fo fo k_fl fl (nI on) (nI si) ti0 tm bh)) sz)) 0 0 (va_A ((xh__w xa xtape (nI tp) rd au xdr hy g 0 tg sg 0 rm ti py bu sm (nI nc) 0 (nI ne) st0 q4 q5 q6 q7 q8 q9 q10 q11 q12 q13 q14 q15 q16 k_f4 f4 k_f5 (bN 7 q_f5) k_f6 (bN 7 q_f6) k_f7 f7 k_f8 (bN 4 q_f8) k_f9 (bN 2 q_f9) k_f10 f10 k_f11 f11 k_f12 f12 k_f13 f13 k_f14 f14 k_f15 f15 k_f16 f16 (nI hk) co ol k_fo fo k_fl fl (nI on) (nI si) ti0 tm bh)) sz) := by
  refine Met.ofW (cc := cX8_undo) (maxL := 1) (ret := (some .boolean)) (by decide) rfl ?_
  intro p e s m args below meth c s₁ B hml hv
  obtain ⟨rfl, rfl, hP, hK, hD0⟩ := hv
  have hx := B.exec
  have hb := B.bytes
  have hr := B.returns
  have hts := atoms_spec (ws := vs_E_8_undo_0) B.pre
  have v_1 := hts (.fieldLink RX8 33 "ClockReach" "history" "LClockReach$History;") (List.mem_cons_of_mem _ cm_435)
  have v_2 := hts (.fieldLink RX8 23 "ClockReach" "model" "LClockReach$Automaton;") (List.mem_cons_of_mem _ cm_434)
  have hown : s.vm.findClass RX8 = some m.cls := findClass_of_methodNamed B.named
  have hlocks := B.notSynchronized
  have hiX8 : ∀ w ∈ wsX80, w ∈ vs_E_8_undo_0 := fun _ h => List.mem_cons_of_mem _ (cm_X8 h)
  have hD := hD0.self (sz := s.heap.size)
  generalize hAe : va_A ((xh__w xa xtape (nI tp) rd au xdr hy g 0 tg sg 0 rm ti py bu sm (nI nc) 0 (nI ne) st0 q4 q5 q6 q7 q8 q9 q10 q11 q12 q13 q14 q15 q16 k_f4 f4 k_f5 (bN 7 q_f5) k_f6 (bN 7 q_f6) k_f7 f7 k_f8 (bN 4 q_f8) k_f9 (bN 2 q_f9) k_f10 f10 k_f11 f11 k_f12 f12 k_f13 f13 k_f14 f14 k_f15 f15 k_f16 f16 (nI hk) co ol k_fo fo k_fl fl (nI on) (nI si) ti0 tm bh)) s.heap.size = A at hD ⊢
  have hA : ∀ q : Nat, s.heap.size ≤ q → A q := fun q h => by rw [← hAe]; exact Or.inr h
  have hS : va_S A s.heap s.heap [] := va_S.rf
  have hl := lv_entry ([.ref xa]) (n := 1) (Nat.le_of_ble_eq_true rfl)
  rw [lg_entry_eq]
  generalize (lg_sl ([.ref xa]) ++ List.replicate (1 - (lg_sl ([.ref xa])).length) Slot.unset).toArray = ls at hl ⊢
  have hl : lv_has ls 1 [(0, .ref xa)] := hl
  obtain ⟨RR, hRR⟩ : ∃ x, x = (sp_E_8_undo_0 f4 q_f8 q_f9 f10 f11 f12 f13 f14 f15 f16 hk fo fl on) := ⟨_, rfl⟩
  have hsp := hRR
  refine lv_aload_n hx hb eX8_undo_0 rfl (lv_at hl 0 rfl) ?_
  refine va_get (D := (dC, dI)) (ci := 8) (v := .ref hy) (C := RX8) (T := TX8) (N := 16) hx hb hts hiX8 hown hK hP 0 rfl rfl 5 (by decide) v_1 (fun _ h9 => h9) rfl eX8_undo_1 ?_
  refine lv_aload_n hx hb eX8_undo_4 rfl (lv_at hl 0 rfl) ?_
  refine va_get (D := (dC, dI)) (ci := 8) (v := .ref au) (C := RX8) (T := TX8) (N := 16) hx hb hts hiX8 hown hK hP 0 rfl rfl 3 (by decide) v_2 (fun _ h9 => h9) rfl eX8_undo_5 ?_
  have hPc : va_P (dC, dI) vwCl (hi__w hy (nI hk) co ol k_fo fo k_fl fl au (nI nc) 0 (nI ne) st0 q4 q5 q6 q7 q8 q9 q10 q11 q12 q13 q14 q15 q16 k_f4 f4 k_f5 (bN 7 q_f5) k_f6 (bN 7 q_f6) k_f7 f7 k_f8 (bN 4 q_f8) k_f9 (bN 2 q_f9) k_f10 f10 k_f11 f11 k_f12 f12 k_f13 f13 k_f14 f14 k_f15 f15 k_f16 f16) _ := hP.sub [15, 16, 17, 1, 2, 3, 4, 5, 6, 7, 8, 9, 10, 11, 12, 13, 14] rfl
  have hDc := hD.sub (ws' := (hi__w hy (nI hk) co ol k_fo fo k_fl fl au (nI nc) 0 (nI ne) st0 q4 q5 q6 q7 q8 q9 q10 q11 q12 q13 q14 q15 q16 k_f4 f4 k_f5 (bN 7 q_f5) k_f6 (bN 7 q_f6) k_f7 f7 k_f8 (bN 4 q_f8) k_f9 (bN 2 q_f9) k_f10 f10 k_f11 f11 k_f12 f12 k_f13 f13 k_f14 f14 k_f15 f15 k_f16 f16)) [15, 16, 17, 1, 2, 3, 4, 5, 6, 7, 8, 9, 10, 11, 12, 13, 14] (by decide) rfl
  have hKc : va_K (dC, dI) vwCl (hi__t k_fo k_fl k_f4 k_f5 k_f6 k_f7 k_f8 k_f9 k_f10 k_f11 k_f12 k_f13 k_f14 k_f15 k_f16) s := hK.sub [13, 14, 0, 1, 2, 3, 4, 5, 6, 7, 8, 9, 10, 11, 12] rfl
  have hFc := pu_free hDc hS hA
  refine va_calli (va_runV (As := [.ref au]) (rest := []) ⟨hx, hb, hml, hown, hts⟩ (c_E_2_takesBack l dC dI _ hy hk co ol k_fo fo k_fl fl au nc 0 ne st0 q4 q5 q6 q7 q8 q9 q10 q11 q12 q13 q14 q15 q16 k_f4 f4 k_f5 q_f5 k_f6 q_f6 k_f7 f7 k_f8 q_f8 k_f9 q_f9 k_f10 f10 k_f11 f11 k_f12 f12 k_f13 f13 k_f14 f14 k_f15 f15 k_f16 f16 hhk hnc (Nat.le_of_ble_eq_true rfl) hne (hst0) (by assumption)) (cwV 1 hts g_E_8_undo_0_E_2_takesBack rfl rfl rfl (by decide +kernel) ⟨Nat.le_of_ble_eq_true rfl, Nat.le_of_ble_eq_true rfl⟩) ⟨pu_bl, va_recv hK hP (ci := 2) (q0 := 15) rfl rfl, pu_in hPc hKc hDc⟩ rfl rfl hl.1 rfl (lv_room (Nat.le_of_ble_eq_true rfl)) eX8_undo_8 ⟨Nat.le_of_ble_eq_true rfl, Nat.le_of_ble_eq_true rfl⟩) hS (fun q _ h => hFc q h) hFc (fun r_1 u t H1 locs ht hvm hw hB hz1 hk1 hS => ?_)
  obtain ⟨z_f11_2, z_f12_3, z_f13_4, z_f14_5, z_f15_6, z_f16_7, z_f4_8, z_hk_9, ⟨hP1, -, hD1⟩, hz_hk_9, xr_1_0, xr_1_1⟩ := hB
  rw [ht] at hP1
  obtain ⟨hP, hD⟩ := pj_a (X := (xh__w xa xtape (nI tp) rd au xdr hy g 0 tg sg 0 rm ti py bu sm (nI nc) 0 (nI ne) st0 q4 q5 q6 q7 q8 q9 q10 q11 q12 q13 q14 q15 q16 k_f4 f4 k_f5 (bN 7 q_f5) k_f6 (bN 7 q_f6) k_f7 f7 k_f8 (bN 4 q_f8) k_f9 (bN 2 q_f9) k_f10 f10 k_f11 f11 k_f12 f12 k_f13 f13 k_f14 f14 k_f15 f15 k_f16 f16 (nI hk) co ol k_fo fo k_fl fl (nI on) (nI si) ti0 tm bh)) (X' := (xh__w xa xtape (nI tp) rd au xdr hy g 0 tg sg 0 rm ti py bu sm (nI nc) 0 (nI ne) st0 q4 q5 q6 q7 q8 q9 q10 q11 q12 q13 q14 q15 q16 k_f4 z_f4_8 k_f5 (bN 7 q_f5) k_f6 (bN 7 q_f6) k_f7 f7 k_f8 (bN 4 q_f8) k_f9 (bN 2 q_f9) k_f10 f10 k_f11 z_f11_2 k_f12 z_f12_3 k_f13 z_f13_4 k_f14 z_f14_5 k_f15 z_f15_6 k_f16 z_f16_7 (nI z_hk_9) co ol k_fo fo k_fl fl (nI on) (nI si) ti0 tm bh)) (wc := (hi__w hy (nI hk) co ol k_fo fo k_fl fl au (nI nc) 0 (nI ne) st0 q4 q5 q6 q7 q8 q9 q10 q11 q12 q13 q14 q15 q16 k_f4 f4 k_f5 (bN 7 q_f5) k_f6 (bN 7 q_f6) k_f7 f7 k_f8 (bN 4 q_f8) k_f9 (bN 2 q_f9) k_f10 f10 k_f11 f11 k_f12 f12 k_f13 f13 k_f14 f14 k_f15 f15 k_f16 f16)) (w1 := (hi__w hy (nI z_hk_9) co ol k_fo fo k_fl fl au (nI nc) 0 (nI ne) st0 q4 q5 q6 q7 q8 q9 q10 q11 q12 q13 q14 q15 q16 k_f4 z_f4_8 k_f5 (bN 7 q_f5) k_f6 (bN 7 q_f6) k_f7 f7 k_f8 (bN 4 q_f8) k_f9 (bN 2 q_f9) k_f10 f10 k_f11 z_f11_2 k_f12 z_f12_3 k_f13 z_f13_4 k_f14 z_f14_5 k_f15 z_f15_6 k_f16 z_f16_7)) hP hD [15, 16, 17, 1, 2, 3, 4, 5, 6, 7, 8, 9, 10, 11, 12, 13, 14] [17, 3, 4, 5, 6, 7, 8, 9, 10, 11, 12, 13, 14, 15, 16, 0, 1, 2, 35] 17 rfl hk1 hP1 rfl rfl rfl (by decide)
  clear hP1 hD1 hFc hPc hDc hKc
  clear hk1 hz1 ht hvm
  generalize H1 = H at hP hS ⊢
  obtain ⟨u_10, hu_10, rfl, iu_10⟩ := hw
  have iu_10 : (u_10, z_f11_2, z_f12_3, z_f13_4, z_f14_5, z_f15_6, z_f16_7, z_f4_8, z_hk_9) = (sp_E_2_takesBack hk fo fl f4 q_f8 q_f9 f10 f11 f12 f13 f14 f15 f16) := Prod.ext iu_10 xr_1_1
  have hsp := hsp.trans (slet_eq iu_10)
  refine lv_if_ne (tgt := 16) hx hb eX8_undo_11 (by decide) (fun c_11 => ?_) (fun c_11 => ?_)
  · have c_11 : ¬ u_10 = 0 := fun z => c_11 ((nI_eq (a := u_10) (b := 0) (Nat.lt_of_le_of_lt hu_10 (Nat.le_of_ble_eq_true rfl)) (Nat.le_of_ble_eq_true rfl)).mpr z)
    have hsp := hsp.trans (if_neg c_11)
    refine lv_aload_n hx hb eX8_undo_16 rfl (lv_at hl 0 rfl) ?_
    have hPc : va_P (dC, dI) vwCl (xp__w xa xtape (nI tp) rd au xdr hy g 0 tg sg 0 rm ti py bu sm (nI on) (nI si) ti0 tm bh) _ := hP.sub [0, 18] rfl
    have hDc := hD.sub (ws' := (xp__w xa xtape (nI tp) rd au xdr hy g 0 tg sg 0 rm ti py bu sm (nI on) (nI si) ti0 tm bh)) [0, 18] (by decide) rfl
    have hKc : va_K (dC, dI) vwCl (xp__t ) s := hK.sub [] rfl
    have hFc := pu_free hDc hS hA
    refine va_callv (va_runV (As := []) (rest := []) ⟨hx, hb, hml, hown, hts⟩ (c_E_8_dropViews l dC dI _ xa xtape tp rd au xdr hy g 0 tg sg 0 rm ti py bu sm on si ti0 tm bh htp (Nat.le_of_ble_eq_true rfl) (Nat.le_of_ble_eq_true rfl) hon hsi) (cwV 0 hts g_E_8_undo_0_E_8_dropViews rfl rfl rfl (by decide +kernel) ⟨Nat.le_of_ble_eq_true rfl, Nat.le_of_ble_eq_true rfl⟩) ⟨pu_bl, va_recv hK hP (ci := 8) (q0 := 0) rfl rfl, pu_in hPc hKc hDc⟩ rfl rfl hl.1 rfl (lv_room (Nat.le_of_ble_eq_true rfl)) eX8_undo_17 ⟨Nat.le_of_ble_eq_true rfl, Nat.le_of_ble_eq_true rfl⟩) hS (fun q _ h => hFc q h) hFc (fun u t H1 locs ht hvm hw hB hz1 hk1 hS => ?_)
    obtain ⟨hP1, -, hD1⟩ := hB
    rw [ht] at hP1
    obtain ⟨hP, hD⟩ := pj_a (X := (xh__w xa xtape (nI tp) rd au xdr hy g 0 tg sg 0 rm ti py bu sm (nI nc) 0 (nI ne) st0 q4 q5 q6 q7 q8 q9 q10 q11 q12 q13 q14 q15 q16 k_f4 z_f4_8 k_f5 (bN 7 q_f5) k_f6 (bN 7 q_f6) k_f7 f7 k_f8 (bN 4 q_f8) k_f9 (bN 2 q_f9) k_f10 f10 k_f11 z_f11_2 k_f12 z_f12_3 k_f13 z_f13_4 k_f14 z_f14_5 k_f15 z_f15_6 k_f16 z_f16_7 (nI z_hk_9) co ol k_fo fo k_fl fl (nI on) (nI si) ti0 tm bh)) (X' := (xh__w xa xtape (nI tp) rd au xdr hy g 0 tg sg 0 rm ti py bu sm (nI nc) 0 (nI ne) st0 q4 q5 q6 q7 q8 q9 q10 q11 q12 q13 q14 q15 q16 k_f4 z_f4_8 k_f5 (bN 7 q_f5) k_f6 (bN 7 q_f6) k_f7 f7 k_f8 (bN 4 q_f8) k_f9 (bN 2 q_f9) k_f10 f10 k_f11 z_f11_2 k_f12 z_f12_3 k_f13 z_f13_4 k_f14 z_f14_5 k_f15 z_f15_6 k_f16 z_f16_7 (nI z_hk_9) co ol k_fo fo k_fl fl 0 (nI si) ti0 tm bh)) (wc := (xp__w xa xtape (nI tp) rd au xdr hy g 0 tg sg 0 rm ti py bu sm (nI on) (nI si) ti0 tm bh)) (w1 := (xp__w xa xtape (nI tp) rd au xdr hy g 0 tg sg 0 rm ti py bu sm 0 (nI si) ti0 tm bh)) hP hD [0, 18] [0, 3, 4, 5, 6, 7, 8, 9, 10, 11, 12, 13, 14, 15, 16, 17, 18, 19, 1] 2 rfl hk1 hP1 rfl rfl rfl (by decide)
    clear hP1 hD1 hFc hPc hDc hKc
    clear hk1 hz1 ht hvm
    generalize H1 = H at hP hS ⊢
    refine lv_iconst (v := 1) hx hb eX8_undo_20 (by decide) ?_
    exact W.zret (v := 1) (ty := .boolean) hx hb hr (rfl) (fun t ht hW => ⟨⟨1, (), rfl, ⟨1, (Nat.le_of_ble_eq_true rfl), rfl, (congrArg Prod.fst (hsp.symm.trans hRR))⟩, ⟨z_f12_3, z_f13_4, z_f14_5, z_f15_6, z_f16_7, z_f4_8, z_f11_2, z_hk_9, 0, ⟨by rw [ht]; exact hP, va_K.moved hW.alike hK, hD⟩, hz_hk_9, (Nat.le_of_ble_eq_true rfl), by first | assumption | exact hi_le hq0 (by omega), (congrArg Prod.snd (hsp.symm.trans hRR))⟩⟩, hS.F ht⟩) hS.2.2 eX8_undo_21
  · have c_11 : u_10 = 0 := (nI_eq (a := u_10) (b := 0) (Nat.lt_of_le_of_lt hu_10 (Nat.le_of_ble_eq_true rfl)) (Nat.le_of_ble_eq_true rfl)).mp c_11
    have hsp := hsp.trans (if_pos c_11)
    refine lv_iconst (v := 0) hx hb eX8_undo_14 (by decide) ?_
    exact W.zret (v := 0) (ty := .boolean) hx hb hr (rfl) (fun t ht hW => ⟨⟨0, (), rfl, ⟨0, (Nat.le_of_ble_eq_true rfl), rfl, (congrArg Prod.fst (hsp.symm.trans hRR))⟩, ⟨z_f12_3, z_f13_4, z_f14_5, z_f15_6, z_f16_7, z_f4_8, z_f11_2, z_hk_9, on, ⟨by rw [ht]; exact hP, va_K.moved hW.alike hK, hD⟩, hz_hk_9, hon, by first | assumption | exact hi_le hq0 (by omega), (congrArg Prod.snd (hsp.symm.trans hRR))⟩⟩, hS.F ht⟩) hS.2.2 eX8_undo_15
theorem eX7_wholePart_0 : decode cX7_wholePart 0 = .ok (.iload_n 0, 1) := by decide +kernel
theorem eX7_wholePart_1 : decode cX7_wholePart 1 = .ok (.iconst 1, 1) := by decide +kernel
theorem eX7_wholePart_2 : decode cX7_wholePart 2 = .ok (.isub, 1) := by decide +kernel
theorem eX7_wholePart_3 : decode cX7_wholePart 3 = .ok (.iconst 1, 1) := by decide +kernel
theorem eX7_wholePart_4 : decode cX7_wholePart 4 = .ok (.ishr, 1) := by decide +kernel
theorem eX7_wholePart_5 : decode cX7_wholePart 5 = .ok (.ireturn, 1) := by decide +kernel
abbrev vs_C_7_wholePart : List Cond := .code yX7_wholePart cX7_wholePart 1 (some .int) :: CM
set_option maxHeartbeats 4000000 in
set_option maxRecDepth 100000 in
theorem c_C_7_wholePart (l : Launch) (dC : Nat → ClassId) (dI : Nat → Nat → Nat) (sz : Nat) (p0 : Int32)  : Met l yX7_wholePart vs_C_7_wholePart ({ frames := 0, cells := 0, slots := 0, locals := 0 }) (va_Pc [.int p0] (pu_B (dC, dI) [] [] sz)) (va_Qi (fun (r : Int32) (_ : Unit) => True) (fun _ _ => True) (va_A [] sz)) 0 0 (va_A [] sz) := by
  refine Met.ofW (cc := cX7_wholePart) (maxL := 1) (ret := (some .int)) (by decide) rfl ?_
  intro p e s m args below meth c s₁ B hml hv
  obtain ⟨rfl, rfl, hP, hK, hD0⟩ := hv
  have hx := B.exec
  have hb := B.bytes
  have hr := B.returns
  have hts := atoms_spec (ws := vs_C_7_wholePart) B.pre
  have hown : s.vm.findClass RX7 = some m.cls := findClass_of_methodNamed B.named
  have hlocks := B.notSynchronized
  have hD := hD0
  have hA : ∀ q : Nat, s.heap.size ≤ q → va_A [] s.heap.size q := fun _ h => Or.inr h
  have hS : va_S (va_A [] s.heap.size) s.heap s.heap [] := va_S.rf
  have hl := lv_entry ([.int p0]) (n := 1) (Nat.le_of_ble_eq_true rfl)
  rw [lg_entry_eq]
  generalize (lg_sl ([.int p0]) ++ List.replicate (1 - (lg_sl ([.int p0])).length) Slot.unset).toArray = ls at hl ⊢
  have hl : lv_has ls 1 [(0, .int p0)] := hl
  refine lv_iload_n hx hb eX7_wholePart_0 rfl (lv_at hl 0 rfl) ?_
  refine lv_iconst (v := 1) hx hb eX7_wholePart_1 (by decide) ?_
  refine lv_isub hx hb eX7_wholePart_2 ?_
  refine lv_topi (fun y_1 ey_1 => ?_)
  refine lv_iconst (v := 1) hx hb eX7_wholePart_3 (by decide) ?_
  refine lv_ishr hx hb eX7_wholePart_4 ?_
  refine lv_topi (fun y_2 ey_2 => ?_)
  exact W.iret (v := y_2) hx hb hr (fun t ht hW => ⟨⟨y_2, (), rfl, trivial, trivial⟩, hS.F ht⟩) hS.2.2 eX7_wholePart_5
theorem eX7_wholeFrom_0 : decode cX7_wholeFrom 0 = .ok (.aload_n 0, 1) := by decide +kernel
theorem eX7_wholeFrom_1 : decode cX7_wholeFrom 1 = .ok (.getfield 18, 3) := by decide +kernel
theorem eX7_wholeFrom_4 : decode cX7_wholeFrom 4 = .ok (.istore_n 3, 1) := by decide +kernel
theorem eX7_wholeFrom_5 : decode cX7_wholeFrom 5 = .ok (.iload_n 1, 1) := by decide +kernel
theorem eX7_wholeFrom_6 : decode cX7_wholeFrom 6 = .ok (.iload_n 3, 1) := by decide +kernel
theorem eX7_wholeFrom_7 : decode cX7_wholeFrom 7 = .ok (.if_icmp .ge 9, 3) := by decide +kernel
theorem eX7_wholeFrom_16 : decode cX7_wholeFrom 16 = .ok (.iconst 1, 1) := by decide +kernel
theorem eX7_wholeFrom_17 : decode cX7_wholeFrom 17 = .ok (.ireturn, 1) := by decide +kernel
abbrev vs_C_7_wholeFrom_4 : List Cond := .code yX7_wholeFrom cX7_wholeFrom 9 (some .int) :: CM
set_option maxHeartbeats 4000000 in
set_option maxRecDepth 100000 in
theorem c_C_7_wholeFrom_4 (l : Launch) (dC : Nat → ClassId) (dI : Nat → Nat → Nat) (sz : Nat) (vz : Nat) (k_fv : ClassId) (fv : Nat → Int32) (z : Nat) (zc : Nat) (zn : Nat) (k_fz : ClassId) (fz : Nat → Int32) (hzn : zn ≤ 4) : Met l yX7_wholeFrom vs_C_7_wholeFrom_4 ({ frames := 0, cells := 0, slots := 0, locals := 0 }) (va_Pc [.ref z, .int 4, .ref vz] (pu_B (dC, dI) (zs16__w vz k_fv fv z zc (nI zn) k_fz fz) (zs16__t k_fv k_fz) sz)) (va_Qi (fun (r : Int32) (_ : Unit) => True) (fun _ _ => True) (va_A [] sz)) 0 0 (va_A [] sz) := by
  refine Met.ofW (cc := cX7_wholeFrom) (maxL := 9) (ret := (some .int)) (by decide) rfl ?_
  intro p e s m args below meth c s₁ B hml hv
  obtain ⟨rfl, rfl, hP, hK, hD0⟩ := hv
  have hx := B.exec
  have hb := B.bytes
  have hr := B.returns
  have hts := atoms_spec (ws := vs_C_7_wholeFrom_4) B.pre
  have v_1 := hts (.fieldLink RX7 18 "ClockReach$Zone" "size" "I") (List.mem_cons_of_mem _ cm_48)
  have hown : s.vm.findClass RX7 = some m.cls := findClass_of_methodNamed B.named
  have hlocks := B.notSynchronized
  have hiX7 : ∀ w ∈ wsX70, w ∈ vs_C_7_wholeFrom_4 := fun _ h => List.mem_cons_of_mem _ (cm_X7 h)
  have hD := hD0
  have hA : ∀ q : Nat, s.heap.size ≤ q → va_A [] s.heap.size q := fun _ h => Or.inr h
  have hS : va_S (va_A [] s.heap.size) s.heap s.heap [] := va_S.rf
  have hl := lv_entry ([.ref z, .int 4, .ref vz]) (n := 9) (Nat.le_of_ble_eq_true rfl)
  rw [lg_entry_eq]
  generalize (lg_sl ([.ref z, .int 4, .ref vz]) ++ List.replicate (9 - (lg_sl ([.ref z, .int 4, .ref vz])).length) Slot.unset).toArray = ls at hl ⊢
  have hl : lv_has ls 9 [(0, .ref z), (1, .int 4), (2, .ref vz)] := hl
  have hzz := zz4 hzn
  refine lv_aload_n hx hb eX7_wholeFrom_0 rfl (lv_at hl 0 rfl) ?_
  refine va_get (D := (dC, dI)) (ci := 7) (v := .int (nI zn)) (C := RX7) (T := TX7) (N := 2) hx hb hts hiX7 hown hK hP 1 rfl rfl 1 (by decide) v_1 (fun _ h9 => h9) rfl eX7_wholeFrom_1 ?_
  refine lv_istore_n (lv' := [(3, .int (nI zn)), (0, .ref z), (1, .int 4), (2, .ref vz)]) hx hb eX7_wholeFrom_4 rfl hl (by decide) rfl (fun ls hl => ?_)
  refine lv_iload_n hx hb eX7_wholeFrom_5 rfl (lv_at hl 2 rfl) ?_
  refine lv_iload_n hx hb eX7_wholeFrom_6 rfl (lv_at hl 0 rfl) ?_
  refine lv_icmp_ge (tgt := 16) hx hb eX7_wholeFrom_7 (by decide) (fun c_1 => ?_) (fun c_1 => ?_)
  · have c_1 : zn ≤ 4 := (nI_leI (a := zn) (b := 4) (Nat.lt_of_le_of_lt hzn (Nat.le_of_ble_eq_true rfl)) (Nat.le_of_ble_eq_true rfl)).mp c_1
    refine lv_iconst (v := 1) hx hb eX7_wholeFrom_16 (by decide) ?_
    exact W.iret (v := 1) hx hb hr (fun t ht hW => ⟨⟨1, (), rfl, trivial, trivial⟩, hS.F ht⟩) hS.2.2 eX7_wholeFrom_17
  · have c_1 : ¬ zn ≤ 4 := fun z => c_1 ((nI_leI (a := zn) (b := 4) (Nat.lt_of_le_of_lt hzn (Nat.le_of_ble_eq_true rfl)) (Nat.le_of_ble_eq_true rfl)).mpr z)
    exfalso
    omega
theorem eX7_wholeFrom_10 : decode cX7_wholeFrom 10 = .ok (.iload_n 1, 1) := by decide +kernel
theorem eX7_wholeFrom_11 : decode cX7_wholeFrom 11 = .ok (.aload_n 2, 1) := by decide +kernel
theorem eX7_wholeFrom_12 : decode cX7_wholeFrom 12 = .ok (.arraylength, 1) := by decide +kernel
theorem eX7_wholeFrom_13 : decode cX7_wholeFrom 13 = .ok (.if_icmp .lt 5, 3) := by decide +kernel
theorem eX7_wholeFrom_18 : decode cX7_wholeFrom 18 = .ok (.iconst 0, 1) := by decide +kernel
theorem eX7_wholeFrom_19 : decode cX7_wholeFrom 19 = .ok (.istore 4, 2) := by decide +kernel
theorem eX7_wholeFrom_21 : decode cX7_wholeFrom 21 = .ok (.bipush 21, 2) := by decide +kernel
theorem eX7_wholeFrom_23 : decode cX7_wholeFrom 23 = .ok (.istore 5, 2) := by decide +kernel
theorem eX7_wholeFrom_25 : decode cX7_wholeFrom 25 = .ok (.iconst 0, 1) := by decide +kernel
theorem eX7_wholeFrom_26 : decode cX7_wholeFrom 26 = .ok (.istore 6, 2) := by decide +kernel
theorem eX7_wholeFrom_28 : decode cX7_wholeFrom 28 = .ok (.iload 6, 2) := by decide +kernel
theorem eX7_wholeFrom_30 : decode cX7_wholeFrom 30 = .ok (.iload_n 1, 1) := by decide +kernel
theorem eX7_wholeFrom_31 : decode cX7_wholeFrom 31 = .ok (.if_icmp .ge 83, 3) := by decide +kernel
theorem eX7_wholeFrom_34 : decode cX7_wholeFrom 34 = .ok (.aload_n 0, 1) := by decide +kernel
theorem eX7_wholeFrom_35 : decode cX7_wholeFrom 35 = .ok (.getfield 11, 3) := by decide +kernel
theorem eX7_wholeFrom_38 : decode cX7_wholeFrom 38 = .ok (.iload_n 1, 1) := by decide +kernel
theorem eX7_wholeFrom_39 : decode cX7_wholeFrom 39 = .ok (.iload_n 3, 1) := by decide +kernel
theorem eX7_wholeFrom_40 : decode cX7_wholeFrom 40 = .ok (.imul, 1) := by decide +kernel
theorem eX7_wholeFrom_41 : decode cX7_wholeFrom 41 = .ok (.iload 6, 2) := by decide +kernel
theorem eX7_wholeFrom_43 : decode cX7_wholeFrom 43 = .ok (.iadd, 1) := by decide +kernel
theorem eX7_wholeFrom_44 : decode cX7_wholeFrom 44 = .ok (.iaload, 1) := by decide +kernel
theorem eX7_wholeFrom_45 : decode cX7_wholeFrom 45 = .ok (.istore 7, 2) := by decide +kernel
theorem eX7_wholeFrom_47 : decode cX7_wholeFrom 47 = .ok (.aload_n 0, 1) := by decide +kernel
theorem eX7_wholeFrom_48 : decode cX7_wholeFrom 48 = .ok (.getfield 11, 3) := by decide +kernel
theorem eX7_wholeFrom_51 : decode cX7_wholeFrom 51 = .ok (.iload 6, 2) := by decide +kernel
theorem eX7_wholeFrom_53 : decode cX7_wholeFrom 53 = .ok (.iload_n 3, 1) := by decide +kernel
theorem eX7_wholeFrom_54 : decode cX7_wholeFrom 54 = .ok (.imul, 1) := by decide +kernel
theorem eX7_wholeFrom_55 : decode cX7_wholeFrom 55 = .ok (.iload_n 1, 1) := by decide +kernel
theorem eX7_wholeFrom_56 : decode cX7_wholeFrom 56 = .ok (.iadd, 1) := by decide +kernel
theorem eX7_wholeFrom_57 : decode cX7_wholeFrom 57 = .ok (.iaload, 1) := by decide +kernel
theorem eX7_wholeFrom_58 : decode cX7_wholeFrom 58 = .ok (.istore 8, 2) := by decide +kernel
theorem eX7_wholeFrom_60 : decode cX7_wholeFrom 60 = .ok (.iload 7, 2) := by decide +kernel
theorem eX7_wholeFrom_62 : decode cX7_wholeFrom 62 = .ok (.ldc 17, 2) := by decide +kernel
theorem eX7_wholeFrom_64 : decode cX7_wholeFrom 64 = .ok (.if_icmp .eq 20, 3) := by decide +kernel
theorem eX7_wholeFrom_67 : decode cX7_wholeFrom 67 = .ok (.iload 5, 2) := by decide +kernel
theorem eX7_wholeFrom_69 : decode cX7_wholeFrom 69 = .ok (.aload_n 2, 1) := by decide +kernel
theorem eX7_wholeFrom_70 : decode cX7_wholeFrom 70 = .ok (.iload 6, 2) := by decide +kernel
theorem eX7_wholeFrom_72 : decode cX7_wholeFrom 72 = .ok (.iaload, 1) := by decide +kernel
theorem eX7_wholeFrom_73 : decode cX7_wholeFrom 73 = .ok (.iload 7, 2) := by decide +kernel
theorem eX7_wholeFrom_75 : decode cX7_wholeFrom 75 = .ok (.invokestatic 39, 3) := by decide +kernel
theorem eX7_wholeFrom_78 : decode cX7_wholeFrom 78 = .ok (.iadd, 1) := by decide +kernel
theorem eX7_wholeFrom_79 : decode cX7_wholeFrom 79 = .ok (.invokestatic 22, 3) := by decide +kernel
theorem eX7_wholeFrom_82 : decode cX7_wholeFrom 82 = .ok (.istore 5, 2) := by decide +kernel
theorem eX7_wholeFrom_84 : decode cX7_wholeFrom 84 = .ok (.iload 8, 2) := by decide +kernel
theorem eX7_wholeFrom_86 : decode cX7_wholeFrom 86 = .ok (.ldc 17, 2) := by decide +kernel
theorem eX7_wholeFrom_88 : decode cX7_wholeFrom 88 = .ok (.if_icmp .eq 20, 3) := by decide +kernel
theorem eX7_wholeFrom_91 : decode cX7_wholeFrom 91 = .ok (.iload 4, 2) := by decide +kernel
theorem eX7_wholeFrom_93 : decode cX7_wholeFrom 93 = .ok (.aload_n 2, 1) := by decide +kernel
theorem eX7_wholeFrom_94 : decode cX7_wholeFrom 94 = .ok (.iload 6, 2) := by decide +kernel
theorem eX7_wholeFrom_96 : decode cX7_wholeFrom 96 = .ok (.iaload, 1) := by decide +kernel
theorem eX7_wholeFrom_97 : decode cX7_wholeFrom 97 = .ok (.iload 8, 2) := by decide +kernel
theorem eX7_wholeFrom_99 : decode cX7_wholeFrom 99 = .ok (.invokestatic 39, 3) := by decide +kernel
theorem eX7_wholeFrom_102 : decode cX7_wholeFrom 102 = .ok (.isub, 1) := by decide +kernel
theorem eX7_wholeFrom_103 : decode cX7_wholeFrom 103 = .ok (.invokestatic 42, 3) := by decide +kernel
theorem eX7_wholeFrom_106 : decode cX7_wholeFrom 106 = .ok (.istore 4, 2) := by decide +kernel
theorem eX7_wholeFrom_108 : decode cX7_wholeFrom 108 = .ok (.iinc 6 1, 3) := by decide +kernel
theorem eX7_wholeFrom_111 : decode cX7_wholeFrom 111 = .ok (.goto (-83), 3) := by decide +kernel
theorem eX7_wholeFrom_114 : decode cX7_wholeFrom 114 = .ok (.iload_n 1, 1) := by decide +kernel
theorem eX7_wholeFrom_115 : decode cX7_wholeFrom 115 = .ok (.iload_n 3, 1) := by decide +kernel
theorem eX7_wholeFrom_116 : decode cX7_wholeFrom 116 = .ok (.iconst 1, 1) := by decide +kernel
theorem eX7_wholeFrom_117 : decode cX7_wholeFrom 117 = .ok (.isub, 1) := by decide +kernel
theorem eX7_wholeFrom_118 : decode cX7_wholeFrom 118 = .ok (.if_icmp .ne 15, 3) := by decide +kernel
theorem eX7_wholeFrom_121 : decode cX7_wholeFrom 121 = .ok (.iconst 0, 1) := by decide +kernel
theorem eX7_wholeFrom_122 : decode cX7_wholeFrom 122 = .ok (.iload 5, 2) := by decide +kernel
theorem eX7_wholeFrom_124 : decode cX7_wholeFrom 124 = .ok (.iload 4, 2) := by decide +kernel
theorem eX7_wholeFrom_126 : decode cX7_wholeFrom 126 = .ok (.isub, 1) := by decide +kernel
theorem eX7_wholeFrom_127 : decode cX7_wholeFrom 127 = .ok (.iconst 1, 1) := by decide +kernel
theorem eX7_wholeFrom_128 : decode cX7_wholeFrom 128 = .ok (.iadd, 1) := by decide +kernel
theorem eX7_wholeFrom_129 : decode cX7_wholeFrom 129 = .ok (.invokestatic 42, 3) := by decide +kernel
theorem eX7_wholeFrom_132 : decode cX7_wholeFrom 132 = .ok (.ireturn, 1) := by decide +kernel
abbrev vs_C_7_wholeFrom_3 : List Cond := .code yX7_wholeFrom cX7_wholeFrom 9 (some .int) :: CM
theorem g_C_7_wholeFrom_3_C_7_wholePart : GoodIn vs_C_7_wholeFrom_3 (va_wsS RX7 39 yX7_wholePart vs_C_7_wholePart) := cm_gS cm_420 cm_421 cm_45 cm_412
set_option maxHeartbeats 4000000 in
set_option maxRecDepth 100000 in
theorem c_C_7_wholeFrom_3 (l : Launch) (dC : Nat → ClassId) (dI : Nat → Nat → Nat) (sz : Nat) (vz : Nat) (k_fv : ClassId) (fv : Nat → Int32) (z : Nat) (zc : Nat) (zn : Nat) (k_fz : ClassId) (fz : Nat → Int32) (hzn : zn ≤ 4) : Met l yX7_wholeFrom vs_C_7_wholeFrom_3 ({ frames := 1, cells := 0, slots := 0, locals := 20 }) (va_Pc [.ref z, .int 3, .ref vz] (pu_B (dC, dI) (zs16__w vz k_fv fv z zc (nI zn) k_fz fz) (zs16__t k_fv k_fz) sz)) (va_Qi (fun (r : Int32) (_ : Unit) => True) (fun _ _ => True) (va_A [] sz)) 0 0 (va_A [] sz) := by
  refine Met.ofW (cc := cX7_wholeFrom) (maxL := 9) (ret := (some .int)) (by decide) rfl ?_
  intro p e s m args below meth c s₁ B hml hv
  obtain ⟨rfl, rfl, hP, hK, hD0⟩ := hv
  have hx := B.exec
  have hb := B.bytes
  have hr := B.returns
  have hts := atoms_spec (ws := vs_C_7_wholeFrom_3) B.pre
  have v_1 := hts (.fieldLink RX7 18 "ClockReach$Zone" "size" "I") (List.mem_cons_of_mem _ cm_48)
  have v_2 := hts (.fieldLink RX7 11 "ClockReach$Zone" "cells" "[I") (List.mem_cons_of_mem _ cm_47)
  have v_3 := hts (.constant RX7 17 (2147483647)) (List.mem_cons_of_mem _ cm_49)
  have v_8 := hts (.methodLink RX7 22 Lib.Math.min.name) (List.mem_cons_of_mem _ cm_340)
  have v_9 := hts (.static Lib.Math.min.name) (List.mem_cons_of_mem _ cm_188)
  have v_10 := hts (.initialized "java/lang/Math") (List.mem_cons_of_mem _ cm_37)
  have v_11 := hts (.code Lib.Math.min.name Lib.Math.min.code 2 (some .int)) (List.mem_cons_of_mem _ cm_189)
  have v_12 := hts (.methodLink RX7 42 Lib.Math.max.name) (List.mem_cons_of_mem _ cm_419)
  have v_13 := hts (.static Lib.Math.max.name) (List.mem_cons_of_mem _ cm_36)
  have v_14 := hts (.code Lib.Math.max.name Lib.Math.max.code 2 (some .int)) (List.mem_cons_of_mem _ cm_38)
  have hown : s.vm.findClass RX7 = some m.cls := findClass_of_methodNamed B.named
  have hlocks := B.notSynchronized
  have hiX7 : ∀ w ∈ wsX70, w ∈ vs_C_7_wholeFrom_3 := fun _ h => List.mem_cons_of_mem _ (cm_X7 h)
  have hD := hD0
  have hA : ∀ q : Nat, s.heap.size ≤ q → va_A [] s.heap.size q := fun _ h => Or.inr h
  have hS : va_S (va_A [] s.heap.size) s.heap s.heap [] := va_S.rf
  have hl := lv_entry ([.ref z, .int 3, .ref vz]) (n := 9) (Nat.le_of_ble_eq_true rfl)
  rw [lg_entry_eq]
  generalize (lg_sl ([.ref z, .int 3, .ref vz]) ++ List.replicate (9 - (lg_sl ([.ref z, .int 3, .ref vz])).length) Slot.unset).toArray = ls at hl ⊢
  have hl : lv_has ls 9 [(0, .ref z), (1, .int 3), (2, .ref vz)] := hl
  have hzz := zz4 hzn
  refine lv_aload_n hx hb eX7_wholeFrom_0 rfl (lv_at hl 0 rfl) ?_
  refine va_get (D := (dC, dI)) (ci := 7) (v := .int (nI zn)) (C := RX7) (T := TX7) (N := 2) hx hb hts hiX7 hown hK hP 1 rfl rfl 1 (by decide) v_1 (fun _ h9 => h9) rfl eX7_wholeFrom_1 ?_
  refine lv_istore_n (lv' := [(3, .int (nI zn)), (0, .ref z), (1, .int 3), (2, .ref vz)]) hx hb eX7_wholeFrom_4 rfl hl (by decide) rfl (fun ls hl => ?_)
  refine lv_iload_n hx hb eX7_wholeFrom_5 rfl (lv_at hl 2 rfl) ?_
  refine lv_iload_n hx hb eX7_wholeFrom_6 rfl (lv_at hl 0 rfl) ?_
  refine lv_icmp_ge (tgt := 16) hx hb eX7_wholeFrom_7 (by decide) (fun c_1 => ?_) (fun c_1 => ?_)
  · have c_1 : zn ≤ 3 := (nI_leI (a := zn) (b := 3) (Nat.lt_of_le_of_lt hzn (Nat.le_of_ble_eq_true rfl)) (Nat.le_of_ble_eq_true rfl)).mp c_1
    refine lv_iconst (v := 1) hx hb eX7_wholeFrom_16 (by decide) ?_
    exact W.iret (v := 1) hx hb hr (fun t ht hW => ⟨⟨1, (), rfl, trivial, trivial⟩, hS.F ht⟩) hS.2.2 eX7_wholeFrom_17
  · have c_1 : ¬ zn ≤ 3 := fun z => c_1 ((nI_leI (a := zn) (b := 3) (Nat.lt_of_le_of_lt hzn (Nat.le_of_ble_eq_true rfl)) (Nat.le_of_ble_eq_true rfl)).mpr z)
    refine lv_iload_n hx hb eX7_wholeFrom_10 rfl (lv_at hl 2 rfl) ?_
    refine lv_aload_n hx hb eX7_wholeFrom_11 rfl (lv_at hl 3 rfl) ?_
    refine va_alen (v := 4) hx hb hK hP 0 0 rfl rfl rfl eX7_wholeFrom_12 ?_
    refine lv_icmp_lt (tgt := 18) hx hb eX7_wholeFrom_13 (by decide) (fun _ => ?_) (fun z => absurd z (by decide))
    refine lv_iconst (v := 0) hx hb eX7_wholeFrom_18 (by decide) ?_
    refine lv_istore (lv' := [(4, .int 0), (3, .int (nI zn)), (0, .ref z), (1, .int 3), (2, .ref vz)]) hx hb eX7_wholeFrom_19 hl (by decide) rfl (fun ls hl => ?_)
    refine lv_bipush (v := 21) hx hb eX7_wholeFrom_21 (by decide) ?_
    refine lv_istore (lv' := [(5, .int 21), (4, .int 0), (3, .int (nI zn)), (0, .ref z), (1, .int 3), (2, .ref vz)]) hx hb eX7_wholeFrom_23 hl (by decide) rfl (fun ls hl => ?_)
    refine lv_iconst (v := 0) hx hb eX7_wholeFrom_25 (by decide) ?_
    refine lv_istore (lv' := [(6, .int 0), (5, .int 21), (4, .int 0), (3, .int (nI zn)), (0, .ref z), (1, .int 3), (2, .ref vz)]) hx hb eX7_wholeFrom_26 hl (by decide) rfl (fun ls hl => ?_)
    refine pu_while (fun nn H locs ls => ∃ (g_7 : Int32) (g_8 : Int32) (g_9 : Nat), nn = 3 - g_9 ∧ g_9 ≤ 3 ∧ (0 : Int32) ≤ g_7 ∧ g_8 ≤ 21 ∧ va_P (dC, dI) vwCl (zs16__w vz k_fv fv z zc (nI zn) k_fz fz) H ∧ va_D (fun _ => True) (zs16__w vz k_fv fv z zc (nI zn) k_fz fz) ∧ va_S (va_A [] s.heap.size) s.heap H locs ∧ lv_has ls 9 [(0, .ref z), (1, .int 3), (2, .ref vz), (3, .int (nI zn)), (4, .int g_7), (5, .int g_8), (6, .int (nI g_9))]) 28 ?_ _ _ _ _ ⟨0, 21, 0, rfl, (Nat.le_of_ble_eq_true rfl), by first | decide | assumption, by first | decide | assumption, hP, hD, hS, lv_sub hl [4, 5, 6, 3, 2, 1, 0] rfl⟩
    rintro nn ih_12 H locs ls ⟨g_7, g_8, g_9, rfl, hg_9, he_10, he_11, hP, hD, hS, hl⟩
    refine lv_iload hx hb eX7_wholeFrom_28 (lv_at hl 6 rfl) ?_
    refine lv_iload_n hx hb eX7_wholeFrom_30 rfl (lv_at hl 1 rfl) ?_
    refine lv_icmp_ge (tgt := 114) hx hb eX7_wholeFrom_31 (by decide) (fun c_13 => ?_) (fun c_13 => ?_)
    · have c_13 : 3 ≤ g_9 := (nI_leI (a := 3) (b := g_9) (Nat.le_of_ble_eq_true rfl) (Nat.lt_of_le_of_lt hg_9 (Nat.le_of_ble_eq_true rfl))).mp c_13
      refine lv_iload_n hx hb eX7_wholeFrom_114 rfl (lv_at hl 1 rfl) ?_
      refine lv_iload_n hx hb eX7_wholeFrom_115 rfl (lv_at hl 3 rfl) ?_
      refine lv_iconst (v := 1) hx hb eX7_wholeFrom_116 (by decide) ?_
      refine lv_isub hx hb eX7_wholeFrom_117 ?_
      refine lv_topi (fun y_14 ey_14 => ?_)
      obtain rfl : y_14 = (nI (zn - 1)) := ey_14.trans (pk_sub (a := zn) (b := 1) (by omega))
      refine lv_icmp_ne (tgt := 133) hx hb eX7_wholeFrom_118 (by decide) (fun c_15 => ?_) (fun c_15 => ?_)
      · have c_15 : ¬ 3 = (zn - 1) := fun z => c_15 ((nI_eq (a := 3) (b := (zn - 1)) (Nat.le_of_ble_eq_true rfl) (by omega)).mpr z)
        exfalso
        omega
      · have c_15 : 3 = (zn - 1) := (nI_eq (a := 3) (b := (zn - 1)) (Nat.le_of_ble_eq_true rfl) (by omega)).mp c_15
        refine lv_iconst (v := 0) hx hb eX7_wholeFrom_121 (by decide) ?_
        refine lv_iload hx hb eX7_wholeFrom_122 (lv_at hl 5 rfl) ?_
        refine lv_iload hx hb eX7_wholeFrom_124 (lv_at hl 4 rfl) ?_
        refine lv_isub hx hb eX7_wholeFrom_126 ?_
        refine lv_topi (fun y_16 ey_16 => ?_)
        refine lv_iconst (v := 1) hx hb eX7_wholeFrom_127 (by decide) ?_
        refine lv_iadd hx hb eX7_wholeFrom_128 ?_
        refine lv_topi (fun y_17 ey_17 => ?_)
        refine va_mmax hx hb (hml.trans hl.1.symm) hown v_12 v_13 v_10 v_14 (Nat.le_of_ble_eq_true rfl) (Nat.le_of_ble_eq_true rfl) (Nat.le_of_ble_eq_true rfl) (Nat.le_of_ble_eq_true rfl) eX7_wholeFrom_129 ?_
        refine lv_topi (fun y_18 ey_18 => ?_)
        exact W.iret (v := y_18) hx hb hr (fun t ht hW => ⟨⟨y_18, (), rfl, trivial, trivial⟩, hS.F ht⟩) hS.2.2 eX7_wholeFrom_132
    · have c_13 : ¬ 3 ≤ g_9 := fun z => c_13 ((nI_leI (a := 3) (b := g_9) (Nat.le_of_ble_eq_true rfl) (Nat.lt_of_le_of_lt hg_9 (Nat.le_of_ble_eq_true rfl))).mpr z)
      refine lv_aload_n hx hb eX7_wholeFrom_34 rfl (lv_at hl 0 rfl) ?_
      refine va_get (D := (dC, dI)) (ci := 7) (v := .ref zc) (C := RX7) (T := TX7) (N := 2) hx hb hts hiX7 hown hK hP 1 rfl rfl 0 (by decide) v_2 (fun _ h9 => h9) rfl eX7_wholeFrom_35 ?_
      refine lv_iload_n hx hb eX7_wholeFrom_38 rfl (lv_at hl 1 rfl) ?_
      refine lv_iload_n hx hb eX7_wholeFrom_39 rfl (lv_at hl 3 rfl) ?_
      refine lv_imul hx hb eX7_wholeFrom_40 ?_
      refine lv_topi (fun y_19 ey_19 => ?_)
      obtain rfl : y_19 = (nI (3 * zn)) := ey_19.trans (pk_mul 3 zn)
      refine lv_iload hx hb eX7_wholeFrom_41 (lv_at hl 6 rfl) ?_
      refine lv_iadd hx hb eX7_wholeFrom_43 ?_
      refine lv_topi (fun y_20 ey_20 => ?_)
      obtain rfl : y_20 = (nI ((3 * zn) + g_9)) := ey_20.trans (nI_add (3 * zn) g_9)
      refine va_iald hx hb hK hP 2 1 rfl rfl (vp_in_nI (n := ((3 * zn) + g_9)) (by omega) (Nat.le_of_ble_eq_true rfl)) eX7_wholeFrom_44 ?_
      refine lv_topi (fun y_21 ey_21 => ?_)
      refine lv_istore (lv' := [(7, .int y_21), (0, .ref z), (1, .int 3), (2, .ref vz), (3, .int (nI zn)), (4, .int g_7), (5, .int g_8), (6, .int (nI g_9))]) hx hb eX7_wholeFrom_45 hl (by decide) rfl (fun ls hl => ?_)
      refine lv_aload_n hx hb eX7_wholeFrom_47 rfl (lv_at hl 1 rfl) ?_
      refine va_get (D := (dC, dI)) (ci := 7) (v := .ref zc) (C := RX7) (T := TX7) (N := 2) hx hb hts hiX7 hown hK hP 1 rfl rfl 0 (by decide) v_2 (fun _ h9 => h9) rfl eX7_wholeFrom_48 ?_
      refine lv_iload hx hb eX7_wholeFrom_51 (lv_at hl 7 rfl) ?_
      refine lv_iload_n hx hb eX7_wholeFrom_53 rfl (lv_at hl 4 rfl) ?_
      refine lv_imul hx hb eX7_wholeFrom_54 ?_
      refine lv_topi (fun y_22 ey_22 => ?_)
      obtain rfl : y_22 = (nI (g_9 * zn)) := ey_22.trans (pk_mul g_9 zn)
      refine lv_iload_n hx hb eX7_wholeFrom_55 rfl (lv_at hl 2 rfl) ?_
      refine lv_iadd hx hb eX7_wholeFrom_56 ?_
      refine lv_topi (fun y_23 ey_23 => ?_)
      obtain rfl : y_23 = (nI ((g_9 * zn) + 3)) := ey_23.trans (nI_add (g_9 * zn) 3)
      refine va_iald hx hb hK hP 2 1 rfl rfl (vp_in_nI (n := ((g_9 * zn) + 3)) (by first | exact zx16 (by omega) (by omega) (by omega) | exact zy16 (by omega) (by omega) | omega) (Nat.le_of_ble_eq_true rfl)) eX7_wholeFrom_57 ?_
      refine lv_topi (fun y_24 ey_24 => ?_)
      refine lv_istore (lv' := [(8, .int y_24), (7, .int y_21), (0, .ref z), (1, .int 3), (2, .ref vz), (3, .int (nI zn)), (4, .int g_7), (5, .int g_8), (6, .int (nI g_9))]) hx hb eX7_wholeFrom_58 hl (by decide) rfl (fun ls hl => ?_)
      refine lv_iload hx hb eX7_wholeFrom_60 (lv_at hl 1 rfl) ?_
      refine lv_ldc hx hb hown v_3 eX7_wholeFrom_62 ?_
      refine pu_join (fun H locs ls st => ∃ (g_25 : Int32), st = [] ∧ (0 : Int32) ≤ g_7 ∧ g_25 ≤ 21 ∧ va_P (dC, dI) vwCl (zs16__w vz k_fv fv z zc (nI zn) k_fz fz) H ∧ va_D (fun _ => True) (zs16__w vz k_fv fv z zc (nI zn) k_fz fz) ∧ va_S (va_A [] s.heap.size) s.heap H locs ∧ lv_has ls 9 [(0, .ref z), (1, .int 3), (2, .ref vz), (3, .int (nI zn)), (4, .int g_7), (5, .int g_25), (6, .int (nI g_9)), (7, .int y_21), (8, .int y_24)]) 84 ?_ (fun j_28 => ?_)
      · rintro H locs ls st ⟨g_25, rfl, he_26, he_27, hP, hD, hS, hl⟩
        refine lv_iload hx hb eX7_wholeFrom_84 (lv_at hl 8 rfl) ?_
        refine lv_ldc hx hb hown v_3 eX7_wholeFrom_86 ?_
        refine pu_join (fun H locs ls st => ∃ (g_29 : Int32), st = [] ∧ (0 : Int32) ≤ g_29 ∧ g_25 ≤ 21 ∧ va_P (dC, dI) vwCl (zs16__w vz k_fv fv z zc (nI zn) k_fz fz) H ∧ va_D (fun _ => True) (zs16__w vz k_fv fv z zc (nI zn) k_fz fz) ∧ va_S (va_A [] s.heap.size) s.heap H locs ∧ lv_has ls 9 [(0, .ref z), (1, .int 3), (2, .ref vz), (3, .int (nI zn)), (4, .int g_29), (5, .int g_25), (6, .int (nI g_9)), (7, .int y_21), (8, .int y_24)]) 108 ?_ (fun j_32 => ?_)
        · rintro H locs ls st ⟨g_29, rfl, he_30, he_31, hP, hD, hS, hl⟩
          refine lv_iinc (v := (nI (g_9 + 1))) (lv' := [(6, .int (nI (g_9 + 1))), (0, .ref z), (1, .int 3), (2, .ref vz), (3, .int (nI zn)), (4, .int g_29), (5, .int g_25), (7, .int y_21), (8, .int y_24)]) hx hb eX7_wholeFrom_108 hl (k := 6) rfl (nI_1 _) (by decide) rfl (fun ls hl => ?_)
          refine lv_goto (tgt := 28) hx hb eX7_wholeFrom_111 (by decide) ?_
          exact ih_12 (3 - (g_9 + 1)) (by omega) _ _ _ ⟨g_29, g_25, (g_9 + 1), rfl, (by omega), by first | decide | assumption, by first | decide | assumption, hP, hD, hS, lv_sub hl [1, 2, 3, 4, 5, 6, 0] rfl⟩
        refine lv_icmp_eq (tgt := 108) hx hb eX7_wholeFrom_88 (by decide) (fun c_33 => ?_) (fun c_33 => ?_)
        · exact j_32 _ _ _ _ ⟨g_7, rfl, by first | decide | assumption, by first | decide | assumption, hP, hD, hS, lv_sub hl [0, 1, 2, 3, 4, 5, 6, 7, 8] rfl⟩
        · refine lv_iload hx hb eX7_wholeFrom_91 (lv_at hl 4 rfl) ?_
          refine lv_aload_n hx hb eX7_wholeFrom_93 rfl (lv_at hl 2 rfl) ?_
          refine lv_iload hx hb eX7_wholeFrom_94 (lv_at hl 6 rfl) ?_
          refine va_iald hx hb hK hP 0 0 rfl rfl (vp_in_nI (n := g_9) (Nat.lt_of_le_of_lt hg_9 (Nat.le_of_ble_eq_true rfl)) (Nat.le_of_ble_eq_true rfl)) eX7_wholeFrom_96 ?_
          refine lv_topi (fun y_34 ey_34 => ?_)
          refine lv_iload hx hb eX7_wholeFrom_97 (lv_at hl 8 rfl) ?_
          refine va_calli (va_runS (As := [.int y_24]) (rest := [.int y_34, .int g_7]) ⟨hx, hb, hml, hown, hts⟩ (c_C_7_wholePart l dC dI _ y_24) (va_cwS 1 hts g_C_7_wholeFrom_3_C_7_wholePart rfl rfl rfl (by decide +kernel) ⟨Nat.le_of_ble_eq_true rfl, Nat.le_of_ble_eq_true rfl⟩) ⟨pu_bl, pu_in (hP.sub [] rfl) (hK.sub [] rfl) (hD.sub [] (by decide) rfl)⟩ rfl rfl hl.1 rfl (lv_room (Nat.le_of_ble_eq_true rfl)) eX7_wholeFrom_99 ⟨Nat.le_of_ble_eq_true rfl, Nat.le_of_ble_eq_true rfl⟩) hS (fun q _ h => pu_fr hS hA q h) (pu_fr hS hA) (fun r_35 u t H1 locs ht hvm hw hB hz1 hk1 hS => ?_)
          have hP := pu_keep hP hk1
          clear hk1 hz1 ht hvm
          generalize H1 = H at hP hS ⊢
          refine lv_isub hx hb eX7_wholeFrom_102 ?_
          refine lv_topi (fun y_36 ey_36 => ?_)
          refine va_mmax hx hb (hml.trans hl.1.symm) hown v_12 v_13 v_10 v_14 (Nat.le_of_ble_eq_true rfl) (Nat.le_of_ble_eq_true rfl) (Nat.le_of_ble_eq_true rfl) (Nat.le_of_ble_eq_true rfl) eX7_wholeFrom_103 ?_
          refine lv_topi (fun y_37 ey_37 => ?_)
          refine lv_istore (lv' := [(4, .int y_37), (0, .ref z), (1, .int 3), (2, .ref vz), (3, .int (nI zn)), (5, .int g_25), (6, .int (nI g_9)), (7, .int y_21), (8, .int y_24)]) hx hb eX7_wholeFrom_106 hl (by decide) rfl (fun ls hl => ?_)
          exact j_32 _ _ _ _ ⟨y_37, rfl, by first | decide | assumption | (rw [ey_37]; first | exact mn_21 (by assumption) | exact mx_0 (by assumption)), by first | decide | assumption, hP, hD, hS, lv_sub hl [1, 2, 3, 4, 0, 5, 6, 7, 8] rfl⟩
      refine lv_icmp_eq (tgt := 84) hx hb eX7_wholeFrom_64 (by decide) (fun c_38 => ?_) (fun c_38 => ?_)
      · exact j_28 _ _ _ _ ⟨g_8, rfl, by first | decide | assumption, by first | decide | assumption, hP, hD, hS, lv_sub hl [2, 3, 4, 5, 6, 7, 8, 1, 0] rfl⟩
      · refine lv_iload hx hb eX7_wholeFrom_67 (lv_at hl 7 rfl) ?_
        refine lv_aload_n hx hb eX7_wholeFrom_69 rfl (lv_at hl 4 rfl) ?_
        refine lv_iload hx hb eX7_wholeFrom_70 (lv_at hl 8 rfl) ?_
        refine va_iald hx hb hK hP 0 0 rfl rfl (vp_in_nI (n := g_9) (Nat.lt_of_le_of_lt hg_9 (Nat.le_of_ble_eq_true rfl)) (Nat.le_of_ble_eq_true rfl)) eX7_wholeFrom_72 ?_
        refine lv_topi (fun y_39 ey_39 => ?_)
        refine lv_iload hx hb eX7_wholeFrom_73 (lv_at hl 1 rfl) ?_
        refine va_calli (va_runS (As := [.int y_21]) (rest := [.int y_39, .int g_8]) ⟨hx, hb, hml, hown, hts⟩ (c_C_7_wholePart l dC dI _ y_21) (va_cwS 1 hts g_C_7_wholeFrom_3_C_7_wholePart rfl rfl rfl (by decide +kernel) ⟨Nat.le_of_ble_eq_true rfl, Nat.le_of_ble_eq_true rfl⟩) ⟨pu_bl, pu_in (hP.sub [] rfl) (hK.sub [] rfl) (hD.sub [] (by decide) rfl)⟩ rfl rfl hl.1 rfl (lv_room (Nat.le_of_ble_eq_true rfl)) eX7_wholeFrom_75 ⟨Nat.le_of_ble_eq_true rfl, Nat.le_of_ble_eq_true rfl⟩) hS (fun q _ h => pu_fr hS hA q h) (pu_fr hS hA) (fun r_40 u t H1 locs ht hvm hw hB hz1 hk1 hS => ?_)
        have hP := pu_keep hP hk1
        clear hk1 hz1 ht hvm
        generalize H1 = H at hP hS ⊢
        refine lv_iadd hx hb eX7_wholeFrom_78 ?_
        refine lv_topi (fun y_41 ey_41 => ?_)
        refine va_mmin hx hb (hml.trans hl.1.symm) hown v_8 v_9 v_10 v_11 (Nat.le_of_ble_eq_true rfl) (Nat.le_of_ble_eq_true rfl) (Nat.le_of_ble_eq_true rfl) (Nat.le_of_ble_eq_true rfl) eX7_wholeFrom_79 ?_
        refine lv_topi (fun y_42 ey_42 => ?_)
        refine lv_istore (lv' := [(5, .int y_42), (8, .int y_24), (7, .int y_21), (0, .ref z), (1, .int 3), (2, .ref vz), (3, .int (nI zn)), (4, .int g_7), (6, .int (nI g_9))]) hx hb eX7_wholeFrom_82 hl (by decide) rfl (fun ls hl => ?_)
        exact j_28 _ _ _ _ ⟨y_42, rfl, by first | decide | assumption, by first | decide | assumption | (rw [ey_42]; first | exact mn_21 (by assumption) | exact mx_0 (by assumption)), hP, hD, hS, lv_sub hl [3, 4, 5, 6, 7, 0, 8, 2, 1] rfl⟩
theorem eX7_wholeFrom_133 : decode cX7_wholeFrom 133 = .ok (.iconst 0, 1) := by decide +kernel
theorem eX7_wholeFrom_134 : decode cX7_wholeFrom 134 = .ok (.istore 6, 2) := by decide +kernel
theorem eX7_wholeFrom_136 : decode cX7_wholeFrom 136 = .ok (.iload 4, 2) := by decide +kernel
theorem eX7_wholeFrom_138 : decode cX7_wholeFrom 138 = .ok (.istore 7, 2) := by decide +kernel
theorem eX7_wholeFrom_140 : decode cX7_wholeFrom 140 = .ok (.iload 7, 2) := by decide +kernel
theorem eX7_wholeFrom_142 : decode cX7_wholeFrom 142 = .ok (.iload 5, 2) := by decide +kernel
theorem eX7_wholeFrom_144 : decode cX7_wholeFrom 144 = .ok (.if_icmp .gt 27, 3) := by decide +kernel
theorem eX7_wholeFrom_147 : decode cX7_wholeFrom 147 = .ok (.aload_n 2, 1) := by decide +kernel
theorem eX7_wholeFrom_148 : decode cX7_wholeFrom 148 = .ok (.iload_n 1, 1) := by decide +kernel
theorem eX7_wholeFrom_149 : decode cX7_wholeFrom 149 = .ok (.iload 7, 2) := by decide +kernel
theorem eX7_wholeFrom_151 : decode cX7_wholeFrom 151 = .ok (.iastore, 1) := by decide +kernel
theorem eX7_wholeFrom_152 : decode cX7_wholeFrom 152 = .ok (.iload 6, 2) := by decide +kernel
theorem eX7_wholeFrom_154 : decode cX7_wholeFrom 154 = .ok (.aload_n 0, 1) := by decide +kernel
theorem eX7_wholeFrom_155 : decode cX7_wholeFrom 155 = .ok (.iload_n 1, 1) := by decide +kernel
theorem eX7_wholeFrom_156 : decode cX7_wholeFrom 156 = .ok (.iconst 1, 1) := by decide +kernel
theorem eX7_wholeFrom_157 : decode cX7_wholeFrom 157 = .ok (.iadd, 1) := by decide +kernel
theorem eX7_wholeFrom_158 : decode cX7_wholeFrom 158 = .ok (.aload_n 2, 1) := by decide +kernel
theorem eX7_wholeFrom_159 : decode cX7_wholeFrom 159 = .ok (.invokestatic 35, 3) := by decide +kernel
theorem eX7_wholeFrom_162 : decode cX7_wholeFrom 162 = .ok (.iadd, 1) := by decide +kernel
theorem eX7_wholeFrom_163 : decode cX7_wholeFrom 163 = .ok (.istore 6, 2) := by decide +kernel
theorem eX7_wholeFrom_165 : decode cX7_wholeFrom 165 = .ok (.iinc 7 1, 3) := by decide +kernel
theorem eX7_wholeFrom_168 : decode cX7_wholeFrom 168 = .ok (.goto (-28), 3) := by decide +kernel
theorem eX7_wholeFrom_171 : decode cX7_wholeFrom 171 = .ok (.iload 6, 2) := by decide +kernel
theorem eX7_wholeFrom_173 : decode cX7_wholeFrom 173 = .ok (.ireturn, 1) := by decide +kernel
abbrev vs_C_7_wholeFrom_2 : List Cond := .code yX7_wholeFrom cX7_wholeFrom 9 (some .int) :: CM
theorem g_C_7_wholeFrom_2_C_7_wholeFrom_3 : GoodIn vs_C_7_wholeFrom_2 (va_wsS RX7 35 yX7_wholeFrom vs_C_7_wholeFrom_3) := cm_gS cm_416 cm_417 cm_45 cm_418
theorem g_C_7_wholeFrom_2_C_7_wholePart : GoodIn vs_C_7_wholeFrom_2 (va_wsS RX7 39 yX7_wholePart vs_C_7_wholePart) := cm_gS cm_420 cm_421 cm_45 cm_412
set_option maxHeartbeats 4000000 in
set_option maxRecDepth 100000 in
theorem c_C_7_wholeFrom_2 (l : Launch) (dC : Nat → ClassId) (dI : Nat → Nat → Nat) (sz : Nat) (vz : Nat) (k_fv : ClassId) (fv : Nat → Int32) (z : Nat) (zc : Nat) (zn : Nat) (k_fz : ClassId) (fz : Nat → Int32) (hzn : zn ≤ 4) : Met l yX7_wholeFrom vs_C_7_wholeFrom_2 ({ frames := 2, cells := 0, slots := 0, locals := 48 }) (va_Pc [.ref z, .int 2, .ref vz] (pu_B (dC, dI) (zs16__w vz k_fv fv z zc (nI zn) k_fz fz) (zs16__t k_fv k_fz) sz)) (va_Qi (fun (r : Int32) (_ : Unit) => True) (fun _ t => ∃ (z_fv : Nat → Int32), pu_E (dC, dI) (zs16__w vz k_fv z_fv z zc (nI zn) k_fz fz) (zs16__t k_fv k_fz) (va_A ((zs16__w vz k_fv fv z zc (nI zn) k_fz fz)) sz) t) (va_A ((zs16__w vz k_fv fv z zc (nI zn) k_fz fz)) sz)) 0 0 (va_A ((zs16__w vz k_fv fv z zc (nI zn) k_fz fz)) sz) := by
  refine Met.ofW (cc := cX7_wholeFrom) (maxL := 9) (ret := (some .int)) (by decide) rfl ?_
  intro p e s m args below meth c s₁ B hml hv
  obtain ⟨rfl, rfl, hP, hK, hD0⟩ := hv
  have hx := B.exec
  have hb := B.bytes
  have hr := B.returns
  have hts := atoms_spec (ws := vs_C_7_wholeFrom_2) B.pre
  have v_1 := hts (.fieldLink RX7 18 "ClockReach$Zone" "size" "I") (List.mem_cons_of_mem _ cm_48)
  have v_2 := hts (.fieldLink RX7 11 "ClockReach$Zone" "cells" "[I") (List.mem_cons_of_mem _ cm_47)
  have v_3 := hts (.constant RX7 17 (2147483647)) (List.mem_cons_of_mem _ cm_49)
  have v_8 := hts (.methodLink RX7 22 Lib.Math.min.name) (List.mem_cons_of_mem _ cm_340)
  have v_9 := hts (.static Lib.Math.min.name) (List.mem_cons_of_mem _ cm_188)
  have v_10 := hts (.initialized "java/lang/Math") (List.mem_cons_of_mem _ cm_37)
  have v_11 := hts (.code Lib.Math.min.name Lib.Math.min.code 2 (some .int)) (List.mem_cons_of_mem _ cm_189)
  have v_12 := hts (.methodLink RX7 42 Lib.Math.max.name) (List.mem_cons_of_mem _ cm_419)
  have v_13 := hts (.static Lib.Math.max.name) (List.mem_cons_of_mem _ cm_36)
  have v_14 := hts (.code Lib.Math.max.name Lib.Math.max.code 2 (some .int)) (List.mem_cons_of_mem _ cm_38)
  have hown : s.vm.findClass RX7 = some m.cls := findClass_of_methodNamed B.named
  have hlocks := B.notSynchronized
  have hiX7 : ∀ w ∈ wsX70, w ∈ vs_C_7_wholeFrom_2 := fun _ h => List.mem_cons_of_mem _ (cm_X7 h)
  have hD := hD0.self (sz := s.heap.size)
  generalize hAe : va_A ((zs16__w vz k_fv fv z zc (nI zn) k_fz fz)) s.heap.size = A at hD ⊢
  have hA : ∀ q : Nat, s.heap.size ≤ q → A q := fun q h => by rw [← hAe]; exact Or.inr h
  have hS : va_S A s.heap s.heap [] := va_S.rf
  have hl := lv_entry ([.ref z, .int 2, .ref vz]) (n := 9) (Nat.le_of_ble_eq_true rfl)
  rw [lg_entry_eq]
  generalize (lg_sl ([.ref z, .int 2, .ref vz]) ++ List.replicate (9 - (lg_sl ([.ref z, .int 2, .ref vz])).length) Slot.unset).toArray = ls at hl ⊢
  have hl : lv_has ls 9 [(0, .ref z), (1, .int 2), (2, .ref vz)] := hl
  have hzz := zz4 hzn
  refine lv_aload_n hx hb eX7_wholeFrom_0 rfl (lv_at hl 0 rfl) ?_
  refine va_get (D := (dC, dI)) (ci := 7) (v := .int (nI zn)) (C := RX7) (T := TX7) (N := 2) hx hb hts hiX7 hown hK hP 1 rfl rfl 1 (by decide) v_1 (fun _ h9 => h9) rfl eX7_wholeFrom_1 ?_
  refine lv_istore_n (lv' := [(3, .int (nI zn)), (0, .ref z), (1, .int 2), (2, .ref vz)]) hx hb eX7_wholeFrom_4 rfl hl (by decide) rfl (fun ls hl => ?_)
  refine lv_iload_n hx hb eX7_wholeFrom_5 rfl (lv_at hl 2 rfl) ?_
  refine lv_iload_n hx hb eX7_wholeFrom_6 rfl (lv_at hl 0 rfl) ?_
  refine lv_icmp_ge (tgt := 16) hx hb eX7_wholeFrom_7 (by decide) (fun c_1 => ?_) (fun c_1 => ?_)
  · have c_1 : zn ≤ 2 := (nI_leI (a := zn) (b := 2) (Nat.lt_of_le_of_lt hzn (Nat.le_of_ble_eq_true rfl)) (Nat.le_of_ble_eq_true rfl)).mp c_1
    refine lv_iconst (v := 1) hx hb eX7_wholeFrom_16 (by decide) ?_
    exact W.iret (v := 1) hx hb hr (fun t ht hW => ⟨⟨1, (), rfl, trivial, ⟨fv, ⟨by rw [ht]; exact hP, va_K.moved hW.alike hK, hD⟩⟩⟩, hS.F ht⟩) hS.2.2 eX7_wholeFrom_17
  · have c_1 : ¬ zn ≤ 2 := fun z => c_1 ((nI_leI (a := zn) (b := 2) (Nat.lt_of_le_of_lt hzn (Nat.le_of_ble_eq_true rfl)) (Nat.le_of_ble_eq_true rfl)).mpr z)
    refine lv_iload_n hx hb eX7_wholeFrom_10 rfl (lv_at hl 2 rfl) ?_
    refine lv_aload_n hx hb eX7_wholeFrom_11 rfl (lv_at hl 3 rfl) ?_
    refine va_alen (v := 4) hx hb hK hP 0 0 rfl rfl rfl eX7_wholeFrom_12 ?_
    refine lv_icmp_lt (tgt := 18) hx hb eX7_wholeFrom_13 (by decide) (fun _ => ?_) (fun z => absurd z (by decide))
    refine lv_iconst (v := 0) hx hb eX7_wholeFrom_18 (by decide) ?_
    refine lv_istore (lv' := [(4, .int 0), (3, .int (nI zn)), (0, .ref z), (1, .int 2), (2, .ref vz)]) hx hb eX7_wholeFrom_19 hl (by decide) rfl (fun ls hl => ?_)
    refine lv_bipush (v := 21) hx hb eX7_wholeFrom_21 (by decide) ?_
    refine lv_istore (lv' := [(5, .int 21), (4, .int 0), (3, .int (nI zn)), (0, .ref z), (1, .int 2), (2, .ref vz)]) hx hb eX7_wholeFrom_23 hl (by decide) rfl (fun ls hl => ?_)
    refine lv_iconst (v := 0) hx hb eX7_wholeFrom_25 (by decide) ?_
    refine lv_istore (lv' := [(6, .int 0), (5, .int 21), (4, .int 0), (3, .int (nI zn)), (0, .ref z), (1, .int 2), (2, .ref vz)]) hx hb eX7_wholeFrom_26 hl (by decide) rfl (fun ls hl => ?_)
    refine pu_while (fun nn H locs ls => ∃ (g_7 : Int32) (g_8 : Int32) (g_9 : Nat), nn = 2 - g_9 ∧ g_9 ≤ 2 ∧ (0 : Int32) ≤ g_7 ∧ g_8 ≤ 21 ∧ va_P (dC, dI) vwCl (zs16__w vz k_fv fv z zc (nI zn) k_fz fz) H ∧ va_D A (zs16__w vz k_fv fv z zc (nI zn) k_fz fz) ∧ va_S A s.heap H locs ∧ lv_has ls 9 [(0, .ref z), (1, .int 2), (2, .ref vz), (3, .int (nI zn)), (4, .int g_7), (5, .int g_8), (6, .int (nI g_9))]) 28 ?_ _ _ _ _ ⟨0, 21, 0, rfl, (Nat.le_of_ble_eq_true rfl), by first | decide | assumption, by first | decide | assumption, hP, hD, hS, lv_sub hl [4, 5, 6, 3, 2, 1, 0] rfl⟩
    rintro nn ih_12 H locs ls ⟨g_7, g_8, g_9, rfl, hg_9, he_10, he_11, hP, hD, hS, hl⟩
    refine lv_iload hx hb eX7_wholeFrom_28 (lv_at hl 6 rfl) ?_
    refine lv_iload_n hx hb eX7_wholeFrom_30 rfl (lv_at hl 1 rfl) ?_
    refine lv_icmp_ge (tgt := 114) hx hb eX7_wholeFrom_31 (by decide) (fun c_13 => ?_) (fun c_13 => ?_)
    · have c_13 : 2 ≤ g_9 := (nI_leI (a := 2) (b := g_9) (Nat.le_of_ble_eq_true rfl) (Nat.lt_of_le_of_lt hg_9 (Nat.le_of_ble_eq_true rfl))).mp c_13
      refine lv_iload_n hx hb eX7_wholeFrom_114 rfl (lv_at hl 1 rfl) ?_
      refine lv_iload_n hx hb eX7_wholeFrom_115 rfl (lv_at hl 3 rfl) ?_
      refine lv_iconst (v := 1) hx hb eX7_wholeFrom_116 (by decide) ?_
      refine lv_isub hx hb eX7_wholeFrom_117 ?_
      refine lv_topi (fun y_14 ey_14 => ?_)
      obtain rfl : y_14 = (nI (zn - 1)) := ey_14.trans (pk_sub (a := zn) (b := 1) (by omega))
      refine lv_icmp_ne (tgt := 133) hx hb eX7_wholeFrom_118 (by decide) (fun c_15 => ?_) (fun c_15 => ?_)
      · have c_15 : ¬ 2 = (zn - 1) := fun z => c_15 ((nI_eq (a := 2) (b := (zn - 1)) (Nat.le_of_ble_eq_true rfl) (by omega)).mpr z)
        refine lv_iconst (v := 0) hx hb eX7_wholeFrom_133 (by decide) ?_
        refine lv_istore (lv' := [(6, .int 0), (0, .ref z), (1, .int 2), (2, .ref vz), (3, .int (nI zn)), (4, .int g_7), (5, .int g_8)]) hx hb eX7_wholeFrom_134 hl (by decide) rfl (fun ls hl => ?_)
        obtain ⟨lw_16, hlw_16, rfl⟩ := nI_of (le_0 (x := g_7) (by assumption))
        by_cases hklw_16 : lw_16 ≤ 21
        · refine lv_iload hx hb eX7_wholeFrom_136 (lv_at hl 5 rfl) ?_
          refine lv_istore (lv' := [(7, .int (nI lw_16)), (6, .int 0), (0, .ref z), (1, .int 2), (2, .ref vz), (3, .int (nI zn)), (4, .int (nI lw_16)), (5, .int g_8)]) hx hb eX7_wholeFrom_138 hl (by decide) rfl (fun ls hl => ?_)
          refine pu_while (fun nn H locs ls => ∃ (g_21 : Nat → Int32) (g_22 : Int32) (g_23 : Nat), nn = 1073741823 - g_23 ∧ g_23 ≤ 22 ∧ g_8 ≤ 21 ∧ va_P (dC, dI) vwCl (zs16__w vz k_fv g_21 z zc (nI zn) k_fz fz) H ∧ va_D A (zs16__w vz k_fv g_21 z zc (nI zn) k_fz fz) ∧ va_S A s.heap H locs ∧ lv_has ls 9 [(0, .ref z), (1, .int 2), (2, .ref vz), (3, .int (nI zn)), (4, .int (nI lw_16)), (5, .int g_8), (6, .int g_22), (7, .int (nI g_23))]) 140 ?_ _ _ _ _ ⟨fv, 0, lw_16, rfl, (by omega), by first | decide | assumption, hP, hD, hS, lv_sub hl [2, 3, 4, 5, 6, 7, 1, 0] rfl⟩
          rintro nn ih_25 H locs ls ⟨g_21, g_22, g_23, rfl, hg_23, he_24, hP, hD, hS, hl⟩
          refine lv_iload hx hb eX7_wholeFrom_140 (lv_at hl 7 rfl) ?_
          refine lv_iload hx hb eX7_wholeFrom_142 (lv_at hl 5 rfl) ?_
          refine lv_icmp_gt (tgt := 171) hx hb eX7_wholeFrom_144 (by decide) (fun c_26 => ?_) (fun c_26 => ?_)
          · refine lv_iload hx hb eX7_wholeFrom_171 (lv_at hl 6 rfl) ?_
            exact W.iret (v := g_22) hx hb hr (fun t ht hW => ⟨⟨g_22, (), rfl, trivial, ⟨g_21, ⟨by rw [ht]; exact hP, va_K.moved hW.alike hK, hD⟩⟩⟩, hS.F ht⟩) hS.2.2 eX7_wholeFrom_173
          · have hvc_26 : g_23 ≤ 21 := by
              refine Nat.not_lt.mp (fun z => absurd (mx_lt (by assumption) (k := g_23) (by omega) (by omega)) c_26)
            refine lv_aload_n hx hb eX7_wholeFrom_147 rfl (lv_at hl 2 rfl) ?_
            refine lv_iload_n hx hb eX7_wholeFrom_148 rfl (lv_at hl 1 rfl) ?_
            refine lv_iload hx hb eX7_wholeFrom_149 (lv_at hl 7 rfl) ?_
            refine va_iast hx hb hK hP hD hS 0 0 rfl rfl (vp_in_nI (n := 2) (Nat.le_of_ble_eq_true rfl) (Nat.le_of_ble_eq_true rfl)) eX7_wholeFrom_151 (fun H locs hP hD hS => ?_)
            have hP : va_P (dC, dI) vwCl (zs16__w vz k_fv (upd g_21 (2 : Int32).toNatClampNeg (nI g_23)) z zc (nI zn) k_fz fz) H := hP
            have hD : va_D A (zs16__w vz k_fv (upd g_21 (2 : Int32).toNatClampNeg (nI g_23)) z zc (nI zn) k_fz fz) := hD
            refine lv_iload hx hb eX7_wholeFrom_152 (lv_at hl 6 rfl) ?_
            refine lv_aload_n hx hb eX7_wholeFrom_154 rfl (lv_at hl 0 rfl) ?_
            refine lv_iload_n hx hb eX7_wholeFrom_155 rfl (lv_at hl 1 rfl) ?_
            refine lv_iconst (v := 1) hx hb eX7_wholeFrom_156 (by decide) ?_
            refine lv_iadd hx hb eX7_wholeFrom_157 ?_
            refine lv_topi (fun y_27 ey_27 => ?_)
            obtain rfl : y_27 = 3 := ey_27.trans (by decide)
            refine lv_aload_n hx hb eX7_wholeFrom_158 rfl (lv_at hl 2 rfl) ?_
            refine va_calli (va_runS (As := [.ref z, .int 3, .ref vz]) (rest := [.int g_22]) ⟨hx, hb, hml, hown, hts⟩ (c_C_7_wholeFrom_3 l dC dI _ vz k_fv (upd g_21 (2 : Int32).toNatClampNeg (nI g_23)) z zc zn k_fz fz hzn) (va_cwS 3 hts g_C_7_wholeFrom_2_C_7_wholeFrom_3 rfl rfl rfl (by decide +kernel) ⟨Nat.le_of_ble_eq_true rfl, Nat.le_of_ble_eq_true rfl⟩) ⟨pu_bl, pu_in hP hK hD⟩ rfl rfl hl.1 rfl (lv_room (Nat.le_of_ble_eq_true rfl)) eX7_wholeFrom_159 ⟨Nat.le_of_ble_eq_true rfl, Nat.le_of_ble_eq_true rfl⟩) hS (fun q _ h => pu_fr hS hA q h) (pu_fr hS hA) (fun r_28 u t H1 locs ht hvm hw hB hz1 hk1 hS => ?_)
            have hP := pu_keep hP hk1
            clear hk1 hz1 ht hvm
            generalize H1 = H at hP hS ⊢
            refine lv_iadd hx hb eX7_wholeFrom_162 ?_
            refine lv_topi (fun y_29 ey_29 => ?_)
            refine lv_istore (lv' := [(6, .int y_29), (0, .ref z), (1, .int 2), (2, .ref vz), (3, .int (nI zn)), (4, .int (nI lw_16)), (5, .int g_8), (7, .int (nI g_23))]) hx hb eX7_wholeFrom_163 hl (by decide) rfl (fun ls hl => ?_)
            refine lv_iinc (v := (nI (g_23 + 1))) (lv' := [(7, .int (nI (g_23 + 1))), (6, .int y_29), (0, .ref z), (1, .int 2), (2, .ref vz), (3, .int (nI zn)), (4, .int (nI lw_16)), (5, .int g_8)]) hx hb eX7_wholeFrom_165 hl (k := 7) rfl (nI_1 _) (by decide) rfl (fun ls hl => ?_)
            refine lv_goto (tgt := 140) hx hb eX7_wholeFrom_168 (by decide) ?_
            exact ih_25 (1073741823 - (g_23 + 1)) (by omega) _ _ _ ⟨(upd g_21 (2 : Int32).toNatClampNeg (nI g_23)), y_29, (g_23 + 1), rfl, (by omega), by first | decide | assumption, hP, hD, hS, lv_sub hl [2, 3, 4, 5, 6, 7, 1, 0] rfl⟩
        · refine lv_iload hx hb eX7_wholeFrom_136 (lv_at hl 5 rfl) ?_
          refine lv_istore (lv' := [(7, .int (nI lw_16)), (6, .int 0), (0, .ref z), (1, .int 2), (2, .ref vz), (3, .int (nI zn)), (4, .int (nI lw_16)), (5, .int g_8)]) hx hb eX7_wholeFrom_138 hl (by decide) rfl (fun ls hl => ?_)
          refine lv_iload hx hb eX7_wholeFrom_140 (lv_at hl 0 rfl) ?_
          refine lv_iload hx hb eX7_wholeFrom_142 (lv_at hl 7 rfl) ?_
          refine lv_icmp_gt (tgt := 171) hx hb eX7_wholeFrom_144 (by decide) (fun c_30 => ?_) (fun c_30 => ?_)
          · refine lv_iload hx hb eX7_wholeFrom_171 (lv_at hl 1 rfl) ?_
            exact W.iret (v := 0) hx hb hr (fun t ht hW => ⟨⟨0, (), rfl, trivial, ⟨fv, ⟨by rw [ht]; exact hP, va_K.moved hW.alike hK, hD⟩⟩⟩, hS.F ht⟩) hS.2.2 eX7_wholeFrom_173
          · exact absurd (mx_lt (by assumption) (k := lw_16) (by omega) (by omega)) c_30
      · have c_15 : 2 = (zn - 1) := (nI_eq (a := 2) (b := (zn - 1)) (Nat.le_of_ble_eq_true rfl) (by omega)).mp c_15
        refine lv_iconst (v := 0) hx hb eX7_wholeFrom_121 (by decide) ?_
        refine lv_iload hx hb eX7_wholeFrom_122 (lv_at hl 5 rfl) ?_
        refine lv_iload hx hb eX7_wholeFrom_124 (lv_at hl 4 rfl) ?_
        refine lv_isub hx hb eX7_wholeFrom_126 ?_
        refine lv_topi (fun y_31 ey_31 => ?_)
        refine lv_iconst (v := 1) hx hb eX7_wholeFrom_127 (by decide) ?_
        refine lv_iadd hx hb eX7_wholeFrom_128 ?_
        refine lv_topi (fun y_32 ey_32 => ?_)
        refine va_mmax hx hb (hml.trans hl.1.symm) hown v_12 v_13 v_10 v_14 (Nat.le_of_ble_eq_true rfl) (Nat.le_of_ble_eq_true rfl) (Nat.le_of_ble_eq_true rfl) (Nat.le_of_ble_eq_true rfl) eX7_wholeFrom_129 ?_
        refine lv_topi (fun y_33 ey_33 => ?_)
        exact W.iret (v := y_33) hx hb hr (fun t ht hW => ⟨⟨y_33, (), rfl, trivial, ⟨fv, ⟨by rw [ht]; exact hP, va_K.moved hW.alike hK, hD⟩⟩⟩, hS.F ht⟩) hS.2.2 eX7_wholeFrom_132
    · have c_13 : ¬ 2 ≤ g_9 := fun z => c_13 ((nI_leI (a := 2) (b := g_9) (Nat.le_of_ble_eq_true rfl) (Nat.lt_of_le_of_lt hg_9 (Nat.le_of_ble_eq_true rfl))).mpr z)
      refine lv_aload_n hx hb eX7_wholeFrom_34 rfl (lv_at hl 0 rfl) ?_
      refine va_get (D := (dC, dI)) (ci := 7) (v := .ref zc) (C := RX7) (T := TX7) (N := 2) hx hb hts hiX7 hown hK hP 1 rfl rfl 0 (by decide) v_2 (fun _ h9 => h9) rfl eX7_wholeFrom_35 ?_
      refine lv_iload_n hx hb eX7_wholeFrom_38 rfl (lv_at hl 1 rfl) ?_
      refine lv_iload_n hx hb eX7_wholeFrom_39 rfl (lv_at hl 3 rfl) ?_
      refine lv_imul hx hb eX7_wholeFrom_40 ?_
      refine lv_topi (fun y_34 ey_34 => ?_)
      obtain rfl : y_34 = (nI (2 * zn)) := ey_34.trans (pk_mul 2 zn)
      refine lv_iload hx hb eX7_wholeFrom_41 (lv_at hl 6 rfl) ?_
      refine lv_iadd hx hb eX7_wholeFrom_43 ?_
      refine lv_topi (fun y_35 ey_35 => ?_)
      obtain rfl : y_35 = (nI ((2 * zn) + g_9)) := ey_35.trans (nI_add (2 * zn) g_9)
      refine va_iald hx hb hK hP 2 1 rfl rfl (vp_in_nI (n := ((2 * zn) + g_9)) (by omega) (Nat.le_of_ble_eq_true rfl)) eX7_wholeFrom_44 ?_
      refine lv_topi (fun y_36 ey_36 => ?_)
      refine lv_istore (lv' := [(7, .int y_36), (0, .ref z), (1, .int 2), (2, .ref vz), (3, .int (nI zn)), (4, .int g_7), (5, .int g_8), (6, .int (nI g_9))]) hx hb eX7_wholeFrom_45 hl (by decide) rfl (fun ls hl => ?_)
      refine lv_aload_n hx hb eX7_wholeFrom_47 rfl (lv_at hl 1 rfl) ?_
      refine va_get (D := (dC, dI)) (ci := 7) (v := .ref zc) (C := RX7) (T := TX7) (N := 2) hx hb hts hiX7 hown hK hP 1 rfl rfl 0 (by decide) v_2 (fun _ h9 => h9) rfl eX7_wholeFrom_48 ?_
      refine lv_iload hx hb eX7_wholeFrom_51 (lv_at hl 7 rfl) ?_
      refine lv_iload_n hx hb eX7_wholeFrom_53 rfl (lv_at hl 4 rfl) ?_
      refine lv_imul hx hb eX7_wholeFrom_54 ?_
      refine lv_topi (fun y_37 ey_37 => ?_)
      obtain rfl : y_37 = (nI (g_9 * zn)) := ey_37.trans (pk_mul g_9 zn)
      refine lv_iload_n hx hb eX7_wholeFrom_55 rfl (lv_at hl 2 rfl) ?_
      refine lv_iadd hx hb eX7_wholeFrom_56 ?_
      refine lv_topi (fun y_38 ey_38 => ?_)
      obtain rfl : y_38 = (nI ((g_9 * zn) + 2)) := ey_38.trans (nI_add (g_9 * zn) 2)
      refine va_iald hx hb hK hP 2 1 rfl rfl (vp_in_nI (n := ((g_9 * zn) + 2)) (by first | exact zx16 (by omega) (by omega) (by omega) | exact zy16 (by omega) (by omega) | omega) (Nat.le_of_ble_eq_true rfl)) eX7_wholeFrom_57 ?_
      refine lv_topi (fun y_39 ey_39 => ?_)
      refine lv_istore (lv' := [(8, .int y_39), (7, .int y_36), (0, .ref z), (1, .int 2), (2, .ref vz), (3, .int (nI zn)), (4, .int g_7), (5, .int g_8), (6, .int (nI g_9))]) hx hb eX7_wholeFrom_58 hl (by decide) rfl (fun ls hl => ?_)
      refine lv_iload hx hb eX7_wholeFrom_60 (lv_at hl 1 rfl) ?_
      refine lv_ldc hx hb hown v_3 eX7_wholeFrom_62 ?_
      refine pu_join (fun H locs ls st => ∃ (g_40 : Int32), st = [] ∧ (0 : Int32) ≤ g_7 ∧ g_40 ≤ 21 ∧ va_P (dC, dI) vwCl (zs16__w vz k_fv fv z zc (nI zn) k_fz fz) H ∧ va_D A (zs16__w vz k_fv fv z zc (nI zn) k_fz fz) ∧ va_S A s.heap H locs ∧ lv_has ls 9 [(0, .ref z), (1, .int 2), (2, .ref vz), (3, .int (nI zn)), (4, .int g_7), (5, .int g_40), (6, .int (nI g_9)), (7, .int y_36), (8, .int y_39)]) 84 ?_ (fun j_43 => ?_)
      · rintro H locs ls st ⟨g_40, rfl, he_41, he_42, hP, hD, hS, hl⟩
        refine lv_iload hx hb eX7_wholeFrom_84 (lv_at hl 8 rfl) ?_
        refine lv_ldc hx hb hown v_3 eX7_wholeFrom_86 ?_
        refine pu_join (fun H locs ls st => ∃ (g_44 : Int32), st = [] ∧ (0 : Int32) ≤ g_44 ∧ g_40 ≤ 21 ∧ va_P (dC, dI) vwCl (zs16__w vz k_fv fv z zc (nI zn) k_fz fz) H ∧ va_D A (zs16__w vz k_fv fv z zc (nI zn) k_fz fz) ∧ va_S A s.heap H locs ∧ lv_has ls 9 [(0, .ref z), (1, .int 2), (2, .ref vz), (3, .int (nI zn)), (4, .int g_44), (5, .int g_40), (6, .int (nI g_9)), (7, .int y_36), (8, .int y_39)]) 108 ?_ (fun j_47 => ?_)
        · rintro H locs ls st ⟨g_44, rfl, he_45, he_46, hP, hD, hS, hl⟩
          refine lv_iinc (v := (nI (g_9 + 1))) (lv' := [(6, .int (nI (g_9 + 1))), (0, .ref z), (1, .int 2), (2, .ref vz), (3, .int (nI zn)), (4, .int g_44), (5, .int g_40), (7, .int y_36), (8, .int y_39)]) hx hb eX7_wholeFrom_108 hl (k := 6) rfl (nI_1 _) (by decide) rfl (fun ls hl => ?_)
          refine lv_goto (tgt := 28) hx hb eX7_wholeFrom_111 (by decide) ?_
          exact ih_12 (2 - (g_9 + 1)) (by omega) _ _ _ ⟨g_44, g_40, (g_9 + 1), rfl, (by omega), by first | decide | assumption, by first | decide | assumption, hP, hD, hS, lv_sub hl [1, 2, 3, 4, 5, 6, 0] rfl⟩
        refine lv_icmp_eq (tgt := 108) hx hb eX7_wholeFrom_88 (by decide) (fun c_48 => ?_) (fun c_48 => ?_)
        · exact j_47 _ _ _ _ ⟨g_7, rfl, by first | decide | assumption, by first | decide | assumption, hP, hD, hS, lv_sub hl [0, 1, 2, 3, 4, 5, 6, 7, 8] rfl⟩
        · refine lv_iload hx hb eX7_wholeFrom_91 (lv_at hl 4 rfl) ?_
          refine lv_aload_n hx hb eX7_wholeFrom_93 rfl (lv_at hl 2 rfl) ?_
          refine lv_iload hx hb eX7_wholeFrom_94 (lv_at hl 6 rfl) ?_
          refine va_iald hx hb hK hP 0 0 rfl rfl (vp_in_nI (n := g_9) (Nat.lt_of_le_of_lt hg_9 (Nat.le_of_ble_eq_true rfl)) (Nat.le_of_ble_eq_true rfl)) eX7_wholeFrom_96 ?_
          refine lv_topi (fun y_49 ey_49 => ?_)
          refine lv_iload hx hb eX7_wholeFrom_97 (lv_at hl 8 rfl) ?_
          refine va_calli (va_runS (As := [.int y_39]) (rest := [.int y_49, .int g_7]) ⟨hx, hb, hml, hown, hts⟩ (c_C_7_wholePart l dC dI _ y_39) (va_cwS 1 hts g_C_7_wholeFrom_2_C_7_wholePart rfl rfl rfl (by decide +kernel) ⟨Nat.le_of_ble_eq_true rfl, Nat.le_of_ble_eq_true rfl⟩) ⟨pu_bl, pu_in (hP.sub [] rfl) (hK.sub [] rfl) (hD.sub [] (by decide) rfl)⟩ rfl rfl hl.1 rfl (lv_room (Nat.le_of_ble_eq_true rfl)) eX7_wholeFrom_99 ⟨Nat.le_of_ble_eq_true rfl, Nat.le_of_ble_eq_true rfl⟩) hS (fun q _ h => pu_fr hS hA q h) (pu_fr hS hA) (fun r_50 u t H1 locs ht hvm hw hB hz1 hk1 hS => ?_)
          have hP := pu_keep hP hk1
          clear hk1 hz1 ht hvm
          generalize H1 = H at hP hS ⊢
          refine lv_isub hx hb eX7_wholeFrom_102 ?_
          refine lv_topi (fun y_51 ey_51 => ?_)
          refine va_mmax hx hb (hml.trans hl.1.symm) hown v_12 v_13 v_10 v_14 (Nat.le_of_ble_eq_true rfl) (Nat.le_of_ble_eq_true rfl) (Nat.le_of_ble_eq_true rfl) (Nat.le_of_ble_eq_true rfl) eX7_wholeFrom_103 ?_
          refine lv_topi (fun y_52 ey_52 => ?_)
          refine lv_istore (lv' := [(4, .int y_52), (0, .ref z), (1, .int 2), (2, .ref vz), (3, .int (nI zn)), (5, .int g_40), (6, .int (nI g_9)), (7, .int y_36), (8, .int y_39)]) hx hb eX7_wholeFrom_106 hl (by decide) rfl (fun ls hl => ?_)
          exact j_47 _ _ _ _ ⟨y_52, rfl, by first | decide | assumption | (rw [ey_52]; first | exact mn_21 (by assumption) | exact mx_0 (by assumption)), by first | decide | assumption, hP, hD, hS, lv_sub hl [1, 2, 3, 4, 0, 5, 6, 7, 8] rfl⟩
      refine lv_icmp_eq (tgt := 84) hx hb eX7_wholeFrom_64 (by decide) (fun c_53 => ?_) (fun c_53 => ?_)
      · exact j_43 _ _ _ _ ⟨g_8, rfl, by first | decide | assumption, by first | decide | assumption, hP, hD, hS, lv_sub hl [2, 3, 4, 5, 6, 7, 8, 1, 0] rfl⟩
      · refine lv_iload hx hb eX7_wholeFrom_67 (lv_at hl 7 rfl) ?_
        refine lv_aload_n hx hb eX7_wholeFrom_69 rfl (lv_at hl 4 rfl) ?_
        refine lv_iload hx hb eX7_wholeFrom_70 (lv_at hl 8 rfl) ?_
        refine va_iald hx hb hK hP 0 0 rfl rfl (vp_in_nI (n := g_9) (Nat.lt_of_le_of_lt hg_9 (Nat.le_of_ble_eq_true rfl)) (Nat.le_of_ble_eq_true rfl)) eX7_wholeFrom_72 ?_
        refine lv_topi (fun y_54 ey_54 => ?_)
        refine lv_iload hx hb eX7_wholeFrom_73 (lv_at hl 1 rfl) ?_
        refine va_calli (va_runS (As := [.int y_36]) (rest := [.int y_54, .int g_8]) ⟨hx, hb, hml, hown, hts⟩ (c_C_7_wholePart l dC dI _ y_36) (va_cwS 1 hts g_C_7_wholeFrom_2_C_7_wholePart rfl rfl rfl (by decide +kernel) ⟨Nat.le_of_ble_eq_true rfl, Nat.le_of_ble_eq_true rfl⟩) ⟨pu_bl, pu_in (hP.sub [] rfl) (hK.sub [] rfl) (hD.sub [] (by decide) rfl)⟩ rfl rfl hl.1 rfl (lv_room (Nat.le_of_ble_eq_true rfl)) eX7_wholeFrom_75 ⟨Nat.le_of_ble_eq_true rfl, Nat.le_of_ble_eq_true rfl⟩) hS (fun q _ h => pu_fr hS hA q h) (pu_fr hS hA) (fun r_55 u t H1 locs ht hvm hw hB hz1 hk1 hS => ?_)
        have hP := pu_keep hP hk1
        clear hk1 hz1 ht hvm
        generalize H1 = H at hP hS ⊢
        refine lv_iadd hx hb eX7_wholeFrom_78 ?_
        refine lv_topi (fun y_56 ey_56 => ?_)
        refine va_mmin hx hb (hml.trans hl.1.symm) hown v_8 v_9 v_10 v_11 (Nat.le_of_ble_eq_true rfl) (Nat.le_of_ble_eq_true rfl) (Nat.le_of_ble_eq_true rfl) (Nat.le_of_ble_eq_true rfl) eX7_wholeFrom_79 ?_
        refine lv_topi (fun y_57 ey_57 => ?_)
        refine lv_istore (lv' := [(5, .int y_57), (8, .int y_39), (7, .int y_36), (0, .ref z), (1, .int 2), (2, .ref vz), (3, .int (nI zn)), (4, .int g_7), (6, .int (nI g_9))]) hx hb eX7_wholeFrom_82 hl (by decide) rfl (fun ls hl => ?_)
        exact j_43 _ _ _ _ ⟨y_57, rfl, by first | decide | assumption, by first | decide | assumption | (rw [ey_57]; first | exact mn_21 (by assumption) | exact mx_0 (by assumption)), hP, hD, hS, lv_sub hl [3, 4, 5, 6, 7, 0, 8, 2, 1] rfl⟩
abbrev vs_C_7_wholeFrom_1 : List Cond := .code yX7_wholeFrom cX7_wholeFrom 9 (some .int) :: CM
theorem g_C_7_wholeFrom_1_C_7_wholeFrom_2 : GoodIn vs_C_7_wholeFrom_1 (va_wsS RX7 35 yX7_wholeFrom vs_C_7_wholeFrom_2) := cm_gS cm_416 cm_417 cm_45 cm_418
theorem g_C_7_wholeFrom_1_C_7_wholePart : GoodIn vs_C_7_wholeFrom_1 (va_wsS RX7 39 yX7_wholePart vs_C_7_wholePart) := cm_gS cm_420 cm_421 cm_45 cm_412
set_option maxHeartbeats 4000000 in
set_option maxRecDepth 100000 in
theorem c_C_7_wholeFrom_1 (l : Launch) (dC : Nat → ClassId) (dI : Nat → Nat → Nat) (sz : Nat) (vz : Nat) (k_fv : ClassId) (fv : Nat → Int32) (z : Nat) (zc : Nat) (zn : Nat) (k_fz : ClassId) (fz : Nat → Int32) (hzn : zn ≤ 4) : Met l yX7_wholeFrom vs_C_7_wholeFrom_1 ({ frames := 3, cells := 0, slots := 0, locals := 76 }) (va_Pc [.ref z, .int 1, .ref vz] (pu_B (dC, dI) (zs16__w vz k_fv fv z zc (nI zn) k_fz fz) (zs16__t k_fv k_fz) sz)) (va_Qi (fun (r : Int32) (_ : Unit) => True) (fun _ t => ∃ (z_fv : Nat → Int32), pu_E (dC, dI) (zs16__w vz k_fv z_fv z zc (nI zn) k_fz fz) (zs16__t k_fv k_fz) (va_A ((zs16__w vz k_fv fv z zc (nI zn) k_fz fz)) sz) t) (va_A ((zs16__w vz k_fv fv z zc (nI zn) k_fz fz)) sz)) 0 0 (va_A ((zs16__w vz k_fv fv z zc (nI zn) k_fz fz)) sz) := by
  refine Met.ofW (cc := cX7_wholeFrom) (maxL := 9) (ret := (some .int)) (by decide) rfl ?_
  intro p e s m args below meth c s₁ B hml hv
  obtain ⟨rfl, rfl, hP, hK, hD0⟩ := hv
  have hx := B.exec
  have hb := B.bytes
  have hr := B.returns
  have hts := atoms_spec (ws := vs_C_7_wholeFrom_1) B.pre
  have v_1 := hts (.fieldLink RX7 18 "ClockReach$Zone" "size" "I") (List.mem_cons_of_mem _ cm_48)
  have v_2 := hts (.fieldLink RX7 11 "ClockReach$Zone" "cells" "[I") (List.mem_cons_of_mem _ cm_47)
  have v_3 := hts (.constant RX7 17 (2147483647)) (List.mem_cons_of_mem _ cm_49)
  have v_8 := hts (.methodLink RX7 22 Lib.Math.min.name) (List.mem_cons_of_mem _ cm_340)
  have v_9 := hts (.static Lib.Math.min.name) (List.mem_cons_of_mem _ cm_188)
  have v_10 := hts (.initialized "java/lang/Math") (List.mem_cons_of_mem _ cm_37)
  have v_11 := hts (.code Lib.Math.min.name Lib.Math.min.code 2 (some .int)) (List.mem_cons_of_mem _ cm_189)
  have v_12 := hts (.methodLink RX7 42 Lib.Math.max.name) (List.mem_cons_of_mem _ cm_419)
  have v_13 := hts (.static Lib.Math.max.name) (List.mem_cons_of_mem _ cm_36)
  have v_14 := hts (.code Lib.Math.max.name Lib.Math.max.code 2 (some .int)) (List.mem_cons_of_mem _ cm_38)
  have hown : s.vm.findClass RX7 = some m.cls := findClass_of_methodNamed B.named
  have hlocks := B.notSynchronized
  have hiX7 : ∀ w ∈ wsX70, w ∈ vs_C_7_wholeFrom_1 := fun _ h => List.mem_cons_of_mem _ (cm_X7 h)
  have hD := hD0.self (sz := s.heap.size)
  generalize hAe : va_A ((zs16__w vz k_fv fv z zc (nI zn) k_fz fz)) s.heap.size = A at hD ⊢
  have hA : ∀ q : Nat, s.heap.size ≤ q → A q := fun q h => by rw [← hAe]; exact Or.inr h
  have hS : va_S A s.heap s.heap [] := va_S.rf
  have hl := lv_entry ([.ref z, .int 1, .ref vz]) (n := 9) (Nat.le_of_ble_eq_true rfl)
  rw [lg_entry_eq]
  generalize (lg_sl ([.ref z, .int 1, .ref vz]) ++ List.replicate (9 - (lg_sl ([.ref z, .int 1, .ref vz])).length) Slot.unset).toArray = ls at hl ⊢
  have hl : lv_has ls 9 [(0, .ref z), (1, .int 1), (2, .ref vz)] := hl
  have hzz := zz4 hzn
  refine lv_aload_n hx hb eX7_wholeFrom_0 rfl (lv_at hl 0 rfl) ?_
  refine va_get (D := (dC, dI)) (ci := 7) (v := .int (nI zn)) (C := RX7) (T := TX7) (N := 2) hx hb hts hiX7 hown hK hP 1 rfl rfl 1 (by decide) v_1 (fun _ h9 => h9) rfl eX7_wholeFrom_1 ?_
  refine lv_istore_n (lv' := [(3, .int (nI zn)), (0, .ref z), (1, .int 1), (2, .ref vz)]) hx hb eX7_wholeFrom_4 rfl hl (by decide) rfl (fun ls hl => ?_)
  refine lv_iload_n hx hb eX7_wholeFrom_5 rfl (lv_at hl 2 rfl) ?_
  refine lv_iload_n hx hb eX7_wholeFrom_6 rfl (lv_at hl 0 rfl) ?_
  refine lv_icmp_ge (tgt := 16) hx hb eX7_wholeFrom_7 (by decide) (fun c_1 => ?_) (fun c_1 => ?_)
  · have c_1 : zn ≤ 1 := (nI_leI (a := zn) (b := 1) (Nat.lt_of_le_of_lt hzn (Nat.le_of_ble_eq_true rfl)) (Nat.le_of_ble_eq_true rfl)).mp c_1
    refine lv_iconst (v := 1) hx hb eX7_wholeFrom_16 (by decide) ?_
    exact W.iret (v := 1) hx hb hr (fun t ht hW => ⟨⟨1, (), rfl, trivial, ⟨fv, ⟨by rw [ht]; exact hP, va_K.moved hW.alike hK, hD⟩⟩⟩, hS.F ht⟩) hS.2.2 eX7_wholeFrom_17
  · have c_1 : ¬ zn ≤ 1 := fun z => c_1 ((nI_leI (a := zn) (b := 1) (Nat.lt_of_le_of_lt hzn (Nat.le_of_ble_eq_true rfl)) (Nat.le_of_ble_eq_true rfl)).mpr z)
    refine lv_iload_n hx hb eX7_wholeFrom_10 rfl (lv_at hl 2 rfl) ?_
    refine lv_aload_n hx hb eX7_wholeFrom_11 rfl (lv_at hl 3 rfl) ?_
    refine va_alen (v := 4) hx hb hK hP 0 0 rfl rfl rfl eX7_wholeFrom_12 ?_
    refine lv_icmp_lt (tgt := 18) hx hb eX7_wholeFrom_13 (by decide) (fun _ => ?_) (fun z => absurd z (by decide))
    refine lv_iconst (v := 0) hx hb eX7_wholeFrom_18 (by decide) ?_
    refine lv_istore (lv' := [(4, .int 0), (3, .int (nI zn)), (0, .ref z), (1, .int 1), (2, .ref vz)]) hx hb eX7_wholeFrom_19 hl (by decide) rfl (fun ls hl => ?_)
    refine lv_bipush (v := 21) hx hb eX7_wholeFrom_21 (by decide) ?_
    refine lv_istore (lv' := [(5, .int 21), (4, .int 0), (3, .int (nI zn)), (0, .ref z), (1, .int 1), (2, .ref vz)]) hx hb eX7_wholeFrom_23 hl (by decide) rfl (fun ls hl => ?_)
    refine lv_iconst (v := 0) hx hb eX7_wholeFrom_25 (by decide) ?_
    refine lv_istore (lv' := [(6, .int 0), (5, .int 21), (4, .int 0), (3, .int (nI zn)), (0, .ref z), (1, .int 1), (2, .ref vz)]) hx hb eX7_wholeFrom_26 hl (by decide) rfl (fun ls hl => ?_)
    refine pu_while (fun nn H locs ls => ∃ (g_7 : Int32) (g_8 : Int32) (g_9 : Nat), nn = 1 - g_9 ∧ g_9 ≤ 1 ∧ (0 : Int32) ≤ g_7 ∧ g_8 ≤ 21 ∧ va_P (dC, dI) vwCl (zs16__w vz k_fv fv z zc (nI zn) k_fz fz) H ∧ va_D A (zs16__w vz k_fv fv z zc (nI zn) k_fz fz) ∧ va_S A s.heap H locs ∧ lv_has ls 9 [(0, .ref z), (1, .int 1), (2, .ref vz), (3, .int (nI zn)), (4, .int g_7), (5, .int g_8), (6, .int (nI g_9))]) 28 ?_ _ _ _ _ ⟨0, 21, 0, rfl, (Nat.le_of_ble_eq_true rfl), by first | decide | assumption, by first | decide | assumption, hP, hD, hS, lv_sub hl [4, 5, 6, 3, 2, 1, 0] rfl⟩
    rintro nn ih_12 H locs ls ⟨g_7, g_8, g_9, rfl, hg_9, he_10, he_11, hP, hD, hS, hl⟩
    refine lv_iload hx hb eX7_wholeFrom_28 (lv_at hl 6 rfl) ?_
    refine lv_iload_n hx hb eX7_wholeFrom_30 rfl (lv_at hl 1 rfl) ?_
    refine lv_icmp_ge (tgt := 114) hx hb eX7_wholeFrom_31 (by decide) (fun c_13 => ?_) (fun c_13 => ?_)
    · have c_13 : 1 ≤ g_9 := (nI_leI (a := 1) (b := g_9) (Nat.le_of_ble_eq_true rfl) (Nat.lt_of_le_of_lt hg_9 (Nat.le_of_ble_eq_true rfl))).mp c_13
      refine lv_iload_n hx hb eX7_wholeFrom_114 rfl (lv_at hl 1 rfl) ?_
      refine lv_iload_n hx hb eX7_wholeFrom_115 rfl (lv_at hl 3 rfl) ?_
      refine lv_iconst (v := 1) hx hb eX7_wholeFrom_116 (by decide) ?_
      refine lv_isub hx hb eX7_wholeFrom_117 ?_
      refine lv_topi (fun y_14 ey_14 => ?_)
      obtain rfl : y_14 = (nI (zn - 1)) := ey_14.trans (pk_sub (a := zn) (b := 1) (by omega))
      refine lv_icmp_ne (tgt := 133) hx hb eX7_wholeFrom_118 (by decide) (fun c_15 => ?_) (fun c_15 => ?_)
      · have c_15 : ¬ 1 = (zn - 1) := fun z => c_15 ((nI_eq (a := 1) (b := (zn - 1)) (Nat.le_of_ble_eq_true rfl) (by omega)).mpr z)
        refine lv_iconst (v := 0) hx hb eX7_wholeFrom_133 (by decide) ?_
        refine lv_istore (lv' := [(6, .int 0), (0, .ref z), (1, .int 1), (2, .ref vz), (3, .int (nI zn)), (4, .int g_7), (5, .int g_8)]) hx hb eX7_wholeFrom_134 hl (by decide) rfl (fun ls hl => ?_)
        obtain ⟨lw_16, hlw_16, rfl⟩ := nI_of (le_0 (x := g_7) (by assumption))
        by_cases hklw_16 : lw_16 ≤ 21
        · refine lv_iload hx hb eX7_wholeFrom_136 (lv_at hl 5 rfl) ?_
          refine lv_istore (lv' := [(7, .int (nI lw_16)), (6, .int 0), (0, .ref z), (1, .int 1), (2, .ref vz), (3, .int (nI zn)), (4, .int (nI lw_16)), (5, .int g_8)]) hx hb eX7_wholeFrom_138 hl (by decide) rfl (fun ls hl => ?_)
          refine pu_while (fun nn H locs ls => ∃ (g_21 : Nat → Int32) (g_22 : Int32) (g_23 : Nat), nn = 1073741823 - g_23 ∧ g_23 ≤ 22 ∧ g_8 ≤ 21 ∧ va_P (dC, dI) vwCl (zs16__w vz k_fv g_21 z zc (nI zn) k_fz fz) H ∧ va_D A (zs16__w vz k_fv g_21 z zc (nI zn) k_fz fz) ∧ va_S A s.heap H locs ∧ lv_has ls 9 [(0, .ref z), (1, .int 1), (2, .ref vz), (3, .int (nI zn)), (4, .int (nI lw_16)), (5, .int g_8), (6, .int g_22), (7, .int (nI g_23))]) 140 ?_ _ _ _ _ ⟨fv, 0, lw_16, rfl, (by omega), by first | decide | assumption, hP, hD, hS, lv_sub hl [2, 3, 4, 5, 6, 7, 1, 0] rfl⟩
          rintro nn ih_25 H locs ls ⟨g_21, g_22, g_23, rfl, hg_23, he_24, hP, hD, hS, hl⟩
          refine lv_iload hx hb eX7_wholeFrom_140 (lv_at hl 7 rfl) ?_
          refine lv_iload hx hb eX7_wholeFrom_142 (lv_at hl 5 rfl) ?_
          refine lv_icmp_gt (tgt := 171) hx hb eX7_wholeFrom_144 (by decide) (fun c_26 => ?_) (fun c_26 => ?_)
          · refine lv_iload hx hb eX7_wholeFrom_171 (lv_at hl 6 rfl) ?_
            exact W.iret (v := g_22) hx hb hr (fun t ht hW => ⟨⟨g_22, (), rfl, trivial, ⟨g_21, ⟨by rw [ht]; exact hP, va_K.moved hW.alike hK, hD⟩⟩⟩, hS.F ht⟩) hS.2.2 eX7_wholeFrom_173
          · have hvc_26 : g_23 ≤ 21 := by
              refine Nat.not_lt.mp (fun z => absurd (mx_lt (by assumption) (k := g_23) (by omega) (by omega)) c_26)
            refine lv_aload_n hx hb eX7_wholeFrom_147 rfl (lv_at hl 2 rfl) ?_
            refine lv_iload_n hx hb eX7_wholeFrom_148 rfl (lv_at hl 1 rfl) ?_
            refine lv_iload hx hb eX7_wholeFrom_149 (lv_at hl 7 rfl) ?_
            refine va_iast hx hb hK hP hD hS 0 0 rfl rfl (vp_in_nI (n := 1) (Nat.le_of_ble_eq_true rfl) (Nat.le_of_ble_eq_true rfl)) eX7_wholeFrom_151 (fun H locs hP hD hS => ?_)
            have hP : va_P (dC, dI) vwCl (zs16__w vz k_fv (upd g_21 (1 : Int32).toNatClampNeg (nI g_23)) z zc (nI zn) k_fz fz) H := hP
            have hD : va_D A (zs16__w vz k_fv (upd g_21 (1 : Int32).toNatClampNeg (nI g_23)) z zc (nI zn) k_fz fz) := hD
            refine lv_iload hx hb eX7_wholeFrom_152 (lv_at hl 6 rfl) ?_
            refine lv_aload_n hx hb eX7_wholeFrom_154 rfl (lv_at hl 0 rfl) ?_
            refine lv_iload_n hx hb eX7_wholeFrom_155 rfl (lv_at hl 1 rfl) ?_
            refine lv_iconst (v := 1) hx hb eX7_wholeFrom_156 (by decide) ?_
            refine lv_iadd hx hb eX7_wholeFrom_157 ?_
            refine lv_topi (fun y_27 ey_27 => ?_)
            obtain rfl : y_27 = 2 := ey_27.trans (by decide)
            refine lv_aload_n hx hb eX7_wholeFrom_158 rfl (lv_at hl 2 rfl) ?_
            have hFc := pu_free hD hS hA
            refine va_calli (va_runS (As := [.ref z, .int 2, .ref vz]) (rest := [.int g_22]) ⟨hx, hb, hml, hown, hts⟩ (c_C_7_wholeFrom_2 l dC dI _ vz k_fv (upd g_21 (1 : Int32).toNatClampNeg (nI g_23)) z zc zn k_fz fz hzn) (va_cwS 3 hts g_C_7_wholeFrom_1_C_7_wholeFrom_2 rfl rfl rfl (by decide +kernel) ⟨Nat.le_of_ble_eq_true rfl, Nat.le_of_ble_eq_true rfl⟩) ⟨pu_bl, pu_in hP hK hD⟩ rfl rfl hl.1 rfl (lv_room (Nat.le_of_ble_eq_true rfl)) eX7_wholeFrom_159 ⟨Nat.le_of_ble_eq_true rfl, Nat.le_of_ble_eq_true rfl⟩) hS (fun q _ h => hFc q h) hFc (fun r_28 u t H1 locs ht hvm hw hB hz1 hk1 hS => ?_)
            obtain ⟨z_fv_29, ⟨hP1, -, hD1⟩⟩ := hB
            rw [ht] at hP1
            have hP := hP1
            have hD := pu_all hFc hD1
            clear hP1 hD1 hFc
            clear hk1 hz1 ht hvm
            generalize H1 = H at hP hS ⊢
            refine lv_iadd hx hb eX7_wholeFrom_162 ?_
            refine lv_topi (fun y_30 ey_30 => ?_)
            refine lv_istore (lv' := [(6, .int y_30), (0, .ref z), (1, .int 1), (2, .ref vz), (3, .int (nI zn)), (4, .int (nI lw_16)), (5, .int g_8), (7, .int (nI g_23))]) hx hb eX7_wholeFrom_163 hl (by decide) rfl (fun ls hl => ?_)
            refine lv_iinc (v := (nI (g_23 + 1))) (lv' := [(7, .int (nI (g_23 + 1))), (6, .int y_30), (0, .ref z), (1, .int 1), (2, .ref vz), (3, .int (nI zn)), (4, .int (nI lw_16)), (5, .int g_8)]) hx hb eX7_wholeFrom_165 hl (k := 7) rfl (nI_1 _) (by decide) rfl (fun ls hl => ?_)
            refine lv_goto (tgt := 140) hx hb eX7_wholeFrom_168 (by decide) ?_
            exact ih_25 (1073741823 - (g_23 + 1)) (by omega) _ _ _ ⟨z_fv_29, y_30, (g_23 + 1), rfl, (by omega), by first | decide | assumption, hP, hD, hS, lv_sub hl [2, 3, 4, 5, 6, 7, 1, 0] rfl⟩
        · refine lv_iload hx hb eX7_wholeFrom_136 (lv_at hl 5 rfl) ?_
          refine lv_istore (lv' := [(7, .int (nI lw_16)), (6, .int 0), (0, .ref z), (1, .int 1), (2, .ref vz), (3, .int (nI zn)), (4, .int (nI lw_16)), (5, .int g_8)]) hx hb eX7_wholeFrom_138 hl (by decide) rfl (fun ls hl => ?_)
          refine lv_iload hx hb eX7_wholeFrom_140 (lv_at hl 0 rfl) ?_
          refine lv_iload hx hb eX7_wholeFrom_142 (lv_at hl 7 rfl) ?_
          refine lv_icmp_gt (tgt := 171) hx hb eX7_wholeFrom_144 (by decide) (fun c_31 => ?_) (fun c_31 => ?_)
          · refine lv_iload hx hb eX7_wholeFrom_171 (lv_at hl 1 rfl) ?_
            exact W.iret (v := 0) hx hb hr (fun t ht hW => ⟨⟨0, (), rfl, trivial, ⟨fv, ⟨by rw [ht]; exact hP, va_K.moved hW.alike hK, hD⟩⟩⟩, hS.F ht⟩) hS.2.2 eX7_wholeFrom_173
          · exact absurd (mx_lt (by assumption) (k := lw_16) (by omega) (by omega)) c_31
      · have c_15 : 1 = (zn - 1) := (nI_eq (a := 1) (b := (zn - 1)) (Nat.le_of_ble_eq_true rfl) (by omega)).mp c_15
        refine lv_iconst (v := 0) hx hb eX7_wholeFrom_121 (by decide) ?_
        refine lv_iload hx hb eX7_wholeFrom_122 (lv_at hl 5 rfl) ?_
        refine lv_iload hx hb eX7_wholeFrom_124 (lv_at hl 4 rfl) ?_
        refine lv_isub hx hb eX7_wholeFrom_126 ?_
        refine lv_topi (fun y_32 ey_32 => ?_)
        refine lv_iconst (v := 1) hx hb eX7_wholeFrom_127 (by decide) ?_
        refine lv_iadd hx hb eX7_wholeFrom_128 ?_
        refine lv_topi (fun y_33 ey_33 => ?_)
        refine va_mmax hx hb (hml.trans hl.1.symm) hown v_12 v_13 v_10 v_14 (Nat.le_of_ble_eq_true rfl) (Nat.le_of_ble_eq_true rfl) (Nat.le_of_ble_eq_true rfl) (Nat.le_of_ble_eq_true rfl) eX7_wholeFrom_129 ?_
        refine lv_topi (fun y_34 ey_34 => ?_)
        exact W.iret (v := y_34) hx hb hr (fun t ht hW => ⟨⟨y_34, (), rfl, trivial, ⟨fv, ⟨by rw [ht]; exact hP, va_K.moved hW.alike hK, hD⟩⟩⟩, hS.F ht⟩) hS.2.2 eX7_wholeFrom_132
    · have c_13 : ¬ 1 ≤ g_9 := fun z => c_13 ((nI_leI (a := 1) (b := g_9) (Nat.le_of_ble_eq_true rfl) (Nat.lt_of_le_of_lt hg_9 (Nat.le_of_ble_eq_true rfl))).mpr z)
      refine lv_aload_n hx hb eX7_wholeFrom_34 rfl (lv_at hl 0 rfl) ?_
      refine va_get (D := (dC, dI)) (ci := 7) (v := .ref zc) (C := RX7) (T := TX7) (N := 2) hx hb hts hiX7 hown hK hP 1 rfl rfl 0 (by decide) v_2 (fun _ h9 => h9) rfl eX7_wholeFrom_35 ?_
      refine lv_iload_n hx hb eX7_wholeFrom_38 rfl (lv_at hl 1 rfl) ?_
      refine lv_iload_n hx hb eX7_wholeFrom_39 rfl (lv_at hl 3 rfl) ?_
      refine lv_imul hx hb eX7_wholeFrom_40 ?_
      refine lv_topi (fun y_35 ey_35 => ?_)
      obtain rfl : y_35 = (nI (1 * zn)) := ey_35.trans (pk_mul 1 zn)
      refine lv_iload hx hb eX7_wholeFrom_41 (lv_at hl 6 rfl) ?_
      refine lv_iadd hx hb eX7_wholeFrom_43 ?_
      refine lv_topi (fun y_36 ey_36 => ?_)
      obtain rfl : y_36 = (nI ((1 * zn) + g_9)) := ey_36.trans (nI_add (1 * zn) g_9)
      refine va_iald hx hb hK hP 2 1 rfl rfl (vp_in_nI (n := ((1 * zn) + g_9)) (by omega) (Nat.le_of_ble_eq_true rfl)) eX7_wholeFrom_44 ?_
      refine lv_topi (fun y_37 ey_37 => ?_)
      refine lv_istore (lv' := [(7, .int y_37), (0, .ref z), (1, .int 1), (2, .ref vz), (3, .int (nI zn)), (4, .int g_7), (5, .int g_8), (6, .int (nI g_9))]) hx hb eX7_wholeFrom_45 hl (by decide) rfl (fun ls hl => ?_)
      refine lv_aload_n hx hb eX7_wholeFrom_47 rfl (lv_at hl 1 rfl) ?_
      refine va_get (D := (dC, dI)) (ci := 7) (v := .ref zc) (C := RX7) (T := TX7) (N := 2) hx hb hts hiX7 hown hK hP 1 rfl rfl 0 (by decide) v_2 (fun _ h9 => h9) rfl eX7_wholeFrom_48 ?_
      refine lv_iload hx hb eX7_wholeFrom_51 (lv_at hl 7 rfl) ?_
      refine lv_iload_n hx hb eX7_wholeFrom_53 rfl (lv_at hl 4 rfl) ?_
      refine lv_imul hx hb eX7_wholeFrom_54 ?_
      refine lv_topi (fun y_38 ey_38 => ?_)
      obtain rfl : y_38 = (nI (g_9 * zn)) := ey_38.trans (pk_mul g_9 zn)
      refine lv_iload_n hx hb eX7_wholeFrom_55 rfl (lv_at hl 2 rfl) ?_
      refine lv_iadd hx hb eX7_wholeFrom_56 ?_
      refine lv_topi (fun y_39 ey_39 => ?_)
      obtain rfl : y_39 = (nI ((g_9 * zn) + 1)) := ey_39.trans (nI_add (g_9 * zn) 1)
      refine va_iald hx hb hK hP 2 1 rfl rfl (vp_in_nI (n := ((g_9 * zn) + 1)) (by first | exact zx16 (by omega) (by omega) (by omega) | exact zy16 (by omega) (by omega) | omega) (Nat.le_of_ble_eq_true rfl)) eX7_wholeFrom_57 ?_
      refine lv_topi (fun y_40 ey_40 => ?_)
      refine lv_istore (lv' := [(8, .int y_40), (7, .int y_37), (0, .ref z), (1, .int 1), (2, .ref vz), (3, .int (nI zn)), (4, .int g_7), (5, .int g_8), (6, .int (nI g_9))]) hx hb eX7_wholeFrom_58 hl (by decide) rfl (fun ls hl => ?_)
      refine lv_iload hx hb eX7_wholeFrom_60 (lv_at hl 1 rfl) ?_
      refine lv_ldc hx hb hown v_3 eX7_wholeFrom_62 ?_
      refine pu_join (fun H locs ls st => ∃ (g_41 : Int32), st = [] ∧ (0 : Int32) ≤ g_7 ∧ g_41 ≤ 21 ∧ va_P (dC, dI) vwCl (zs16__w vz k_fv fv z zc (nI zn) k_fz fz) H ∧ va_D A (zs16__w vz k_fv fv z zc (nI zn) k_fz fz) ∧ va_S A s.heap H locs ∧ lv_has ls 9 [(0, .ref z), (1, .int 1), (2, .ref vz), (3, .int (nI zn)), (4, .int g_7), (5, .int g_41), (6, .int (nI g_9)), (7, .int y_37), (8, .int y_40)]) 84 ?_ (fun j_44 => ?_)
      · rintro H locs ls st ⟨g_41, rfl, he_42, he_43, hP, hD, hS, hl⟩
        refine lv_iload hx hb eX7_wholeFrom_84 (lv_at hl 8 rfl) ?_
        refine lv_ldc hx hb hown v_3 eX7_wholeFrom_86 ?_
        refine pu_join (fun H locs ls st => ∃ (g_45 : Int32), st = [] ∧ (0 : Int32) ≤ g_45 ∧ g_41 ≤ 21 ∧ va_P (dC, dI) vwCl (zs16__w vz k_fv fv z zc (nI zn) k_fz fz) H ∧ va_D A (zs16__w vz k_fv fv z zc (nI zn) k_fz fz) ∧ va_S A s.heap H locs ∧ lv_has ls 9 [(0, .ref z), (1, .int 1), (2, .ref vz), (3, .int (nI zn)), (4, .int g_45), (5, .int g_41), (6, .int (nI g_9)), (7, .int y_37), (8, .int y_40)]) 108 ?_ (fun j_48 => ?_)
        · rintro H locs ls st ⟨g_45, rfl, he_46, he_47, hP, hD, hS, hl⟩
          refine lv_iinc (v := (nI (g_9 + 1))) (lv' := [(6, .int (nI (g_9 + 1))), (0, .ref z), (1, .int 1), (2, .ref vz), (3, .int (nI zn)), (4, .int g_45), (5, .int g_41), (7, .int y_37), (8, .int y_40)]) hx hb eX7_wholeFrom_108 hl (k := 6) rfl (nI_1 _) (by decide) rfl (fun ls hl => ?_)
          refine lv_goto (tgt := 28) hx hb eX7_wholeFrom_111 (by decide) ?_
          exact ih_12 (1 - (g_9 + 1)) (by omega) _ _ _ ⟨g_45, g_41, (g_9 + 1), rfl, (by omega), by first | decide | assumption, by first | decide | assumption, hP, hD, hS, lv_sub hl [1, 2, 3, 4, 5, 6, 0] rfl⟩
        refine lv_icmp_eq (tgt := 108) hx hb eX7_wholeFrom_88 (by decide) (fun c_49 => ?_) (fun c_49 => ?_)
        · exact j_48 _ _ _ _ ⟨g_7, rfl, by first | decide | assumption, by first | decide | assumption, hP, hD, hS, lv_sub hl [0, 1, 2, 3, 4, 5, 6, 7, 8] rfl⟩
        · refine lv_iload hx hb eX7_wholeFrom_91 (lv_at hl 4 rfl) ?_
          refine lv_aload_n hx hb eX7_wholeFrom_93 rfl (lv_at hl 2 rfl) ?_
          refine lv_iload hx hb eX7_wholeFrom_94 (lv_at hl 6 rfl) ?_
          refine va_iald hx hb hK hP 0 0 rfl rfl (vp_in_nI (n := g_9) (Nat.lt_of_le_of_lt hg_9 (Nat.le_of_ble_eq_true rfl)) (Nat.le_of_ble_eq_true rfl)) eX7_wholeFrom_96 ?_
          refine lv_topi (fun y_50 ey_50 => ?_)
          refine lv_iload hx hb eX7_wholeFrom_97 (lv_at hl 8 rfl) ?_
          refine va_calli (va_runS (As := [.int y_40]) (rest := [.int y_50, .int g_7]) ⟨hx, hb, hml, hown, hts⟩ (c_C_7_wholePart l dC dI _ y_40) (va_cwS 1 hts g_C_7_wholeFrom_1_C_7_wholePart rfl rfl rfl (by decide +kernel) ⟨Nat.le_of_ble_eq_true rfl, Nat.le_of_ble_eq_true rfl⟩) ⟨pu_bl, pu_in (hP.sub [] rfl) (hK.sub [] rfl) (hD.sub [] (by decide) rfl)⟩ rfl rfl hl.1 rfl (lv_room (Nat.le_of_ble_eq_true rfl)) eX7_wholeFrom_99 ⟨Nat.le_of_ble_eq_true rfl, Nat.le_of_ble_eq_true rfl⟩) hS (fun q _ h => pu_fr hS hA q h) (pu_fr hS hA) (fun r_51 u t H1 locs ht hvm hw hB hz1 hk1 hS => ?_)
          have hP := pu_keep hP hk1
          clear hk1 hz1 ht hvm
          generalize H1 = H at hP hS ⊢
          refine lv_isub hx hb eX7_wholeFrom_102 ?_
          refine lv_topi (fun y_52 ey_52 => ?_)
          refine va_mmax hx hb (hml.trans hl.1.symm) hown v_12 v_13 v_10 v_14 (Nat.le_of_ble_eq_true rfl) (Nat.le_of_ble_eq_true rfl) (Nat.le_of_ble_eq_true rfl) (Nat.le_of_ble_eq_true rfl) eX7_wholeFrom_103 ?_
          refine lv_topi (fun y_53 ey_53 => ?_)
          refine lv_istore (lv' := [(4, .int y_53), (0, .ref z), (1, .int 1), (2, .ref vz), (3, .int (nI zn)), (5, .int g_41), (6, .int (nI g_9)), (7, .int y_37), (8, .int y_40)]) hx hb eX7_wholeFrom_106 hl (by decide) rfl (fun ls hl => ?_)
          exact j_48 _ _ _ _ ⟨y_53, rfl, by first | decide | assumption | (rw [ey_53]; first | exact mn_21 (by assumption) | exact mx_0 (by assumption)), by first | decide | assumption, hP, hD, hS, lv_sub hl [1, 2, 3, 4, 0, 5, 6, 7, 8] rfl⟩
      refine lv_icmp_eq (tgt := 84) hx hb eX7_wholeFrom_64 (by decide) (fun c_54 => ?_) (fun c_54 => ?_)
      · exact j_44 _ _ _ _ ⟨g_8, rfl, by first | decide | assumption, by first | decide | assumption, hP, hD, hS, lv_sub hl [2, 3, 4, 5, 6, 7, 8, 1, 0] rfl⟩
      · refine lv_iload hx hb eX7_wholeFrom_67 (lv_at hl 7 rfl) ?_
        refine lv_aload_n hx hb eX7_wholeFrom_69 rfl (lv_at hl 4 rfl) ?_
        refine lv_iload hx hb eX7_wholeFrom_70 (lv_at hl 8 rfl) ?_
        refine va_iald hx hb hK hP 0 0 rfl rfl (vp_in_nI (n := g_9) (Nat.lt_of_le_of_lt hg_9 (Nat.le_of_ble_eq_true rfl)) (Nat.le_of_ble_eq_true rfl)) eX7_wholeFrom_72 ?_
        refine lv_topi (fun y_55 ey_55 => ?_)
        refine lv_iload hx hb eX7_wholeFrom_73 (lv_at hl 1 rfl) ?_
        refine va_calli (va_runS (As := [.int y_37]) (rest := [.int y_55, .int g_8]) ⟨hx, hb, hml, hown, hts⟩ (c_C_7_wholePart l dC dI _ y_37) (va_cwS 1 hts g_C_7_wholeFrom_1_C_7_wholePart rfl rfl rfl (by decide +kernel) ⟨Nat.le_of_ble_eq_true rfl, Nat.le_of_ble_eq_true rfl⟩) ⟨pu_bl, pu_in (hP.sub [] rfl) (hK.sub [] rfl) (hD.sub [] (by decide) rfl)⟩ rfl rfl hl.1 rfl (lv_room (Nat.le_of_ble_eq_true rfl)) eX7_wholeFrom_75 ⟨Nat.le_of_ble_eq_true rfl, Nat.le_of_ble_eq_true rfl⟩) hS (fun q _ h => pu_fr hS hA q h) (pu_fr hS hA) (fun r_56 u t H1 locs ht hvm hw hB hz1 hk1 hS => ?_)
        have hP := pu_keep hP hk1
        clear hk1 hz1 ht hvm
        generalize H1 = H at hP hS ⊢
        refine lv_iadd hx hb eX7_wholeFrom_78 ?_
        refine lv_topi (fun y_57 ey_57 => ?_)
        refine va_mmin hx hb (hml.trans hl.1.symm) hown v_8 v_9 v_10 v_11 (Nat.le_of_ble_eq_true rfl) (Nat.le_of_ble_eq_true rfl) (Nat.le_of_ble_eq_true rfl) (Nat.le_of_ble_eq_true rfl) eX7_wholeFrom_79 ?_
        refine lv_topi (fun y_58 ey_58 => ?_)
        refine lv_istore (lv' := [(5, .int y_58), (8, .int y_40), (7, .int y_37), (0, .ref z), (1, .int 1), (2, .ref vz), (3, .int (nI zn)), (4, .int g_7), (6, .int (nI g_9))]) hx hb eX7_wholeFrom_82 hl (by decide) rfl (fun ls hl => ?_)
        exact j_44 _ _ _ _ ⟨y_58, rfl, by first | decide | assumption, by first | decide | assumption | (rw [ey_58]; first | exact mn_21 (by assumption) | exact mx_0 (by assumption)), hP, hD, hS, lv_sub hl [3, 4, 5, 6, 7, 0, 8, 2, 1] rfl⟩
theorem eX7_wholeValues_0 : decode cX7_wholeValues 0 = .ok (.aload_n 0, 1) := by decide +kernel
theorem eX7_wholeValues_1 : decode cX7_wholeValues 1 = .ok (.iconst 1, 1) := by decide +kernel
theorem eX7_wholeValues_2 : decode cX7_wholeValues 2 = .ok (.aload_n 1, 1) := by decide +kernel
theorem eX7_wholeValues_3 : decode cX7_wholeValues 3 = .ok (.invokestatic 35, 3) := by decide +kernel
theorem eX7_wholeValues_6 : decode cX7_wholeValues 6 = .ok (.ireturn, 1) := by decide +kernel
abbrev vs_C_7_wholeValues : List Cond := .code yX7_wholeValues cX7_wholeValues 2 (some .int) :: CM
theorem g_C_7_wholeValues_C_7_wholeFrom_1 : GoodIn vs_C_7_wholeValues (va_wsS RX7 35 yX7_wholeFrom vs_C_7_wholeFrom_1) := cm_gS cm_416 cm_417 cm_45 cm_418
set_option maxHeartbeats 4000000 in
set_option maxRecDepth 100000 in
theorem c_C_7_wholeValues (l : Launch) (dC : Nat → ClassId) (dI : Nat → Nat → Nat) (sz : Nat) (vz : Nat) (k_fv : ClassId) (fv : Nat → Int32) (z : Nat) (zc : Nat) (zn : Nat) (k_fz : ClassId) (fz : Nat → Int32) (hzn : zn ≤ 4) : Met l yX7_wholeValues vs_C_7_wholeValues ({ frames := 4, cells := 0, slots := 0, locals := 104 }) (va_Pc [.ref z, .ref vz] (pu_B (dC, dI) (zs16__w vz k_fv fv z zc (nI zn) k_fz fz) (zs16__t k_fv k_fz) sz)) (va_Qi (fun (r : Int32) (_ : Unit) => True) (fun _ t => ∃ (z_fv : Nat → Int32), pu_E (dC, dI) (zs16__w vz k_fv z_fv z zc (nI zn) k_fz fz) (zs16__t k_fv k_fz) (va_A ((zs16__w vz k_fv fv z zc (nI zn) k_fz fz)) sz) t) (va_A ((zs16__w vz k_fv fv z zc (nI zn) k_fz fz)) sz)) 0 0 (va_A ((zs16__w vz k_fv fv z zc (nI zn) k_fz fz)) sz) := by
  refine Met.ofW (cc := cX7_wholeValues) (maxL := 2) (ret := (some .int)) (by decide) rfl ?_
  intro p e s m args below meth c s₁ B hml hv
  obtain ⟨rfl, rfl, hP, hK, hD0⟩ := hv
  have hx := B.exec
  have hb := B.bytes
  have hr := B.returns
  have hts := atoms_spec (ws := vs_C_7_wholeValues) B.pre
  have hown : s.vm.findClass RX7 = some m.cls := findClass_of_methodNamed B.named
  have hlocks := B.notSynchronized
  have hD := hD0.self (sz := s.heap.size)
  generalize hAe : va_A ((zs16__w vz k_fv fv z zc (nI zn) k_fz fz)) s.heap.size = A at hD ⊢
  have hA : ∀ q : Nat, s.heap.size ≤ q → A q := fun q h => by rw [← hAe]; exact Or.inr h
  have hS : va_S A s.heap s.heap [] := va_S.rf
  have hl := lv_entry ([.ref z, .ref vz]) (n := 2) (Nat.le_of_ble_eq_true rfl)
  rw [lg_entry_eq]
  generalize (lg_sl ([.ref z, .ref vz]) ++ List.replicate (2 - (lg_sl ([.ref z, .ref vz])).length) Slot.unset).toArray = ls at hl ⊢
  have hl : lv_has ls 2 [(0, .ref z), (1, .ref vz)] := hl
  refine lv_aload_n hx hb eX7_wholeValues_0 rfl (lv_at hl 0 rfl) ?_
  refine lv_iconst (v := 1) hx hb eX7_wholeValues_1 (by decide) ?_
  refine lv_aload_n hx hb eX7_wholeValues_2 rfl (lv_at hl 1 rfl) ?_
  have hFc := pu_free hD hS hA
  refine va_calli (va_runS (As := [.ref z, .int 1, .ref vz]) (rest := []) ⟨hx, hb, hml, hown, hts⟩ (c_C_7_wholeFrom_1 l dC dI _ vz k_fv fv z zc zn k_fz fz hzn) (va_cwS 3 hts g_C_7_wholeValues_C_7_wholeFrom_1 rfl rfl rfl (by decide +kernel) ⟨Nat.le_of_ble_eq_true rfl, Nat.le_of_ble_eq_true rfl⟩) ⟨pu_bl, pu_in hP hK hD⟩ rfl rfl hl.1 rfl (lv_room (Nat.le_of_ble_eq_true rfl)) eX7_wholeValues_3 ⟨Nat.le_of_ble_eq_true rfl, Nat.le_of_ble_eq_true rfl⟩) hS (fun q _ h => hFc q h) hFc (fun r_1 u t H1 locs ht hvm hw hB hz1 hk1 hS => ?_)
  obtain ⟨z_fv_2, ⟨hP1, -, hD1⟩⟩ := hB
  rw [ht] at hP1
  have hP := hP1
  have hD := pu_all hFc hD1
  clear hP1 hD1 hFc
  clear hk1 hz1 ht hvm
  generalize H1 = H at hP hS ⊢
  exact W.iret (v := r_1) hx hb hr (fun t ht hW => ⟨⟨r_1, (), rfl, trivial, ⟨z_fv_2, ⟨by rw [ht]; exact hP, va_K.moved hW.alike hK, hD⟩⟩⟩, hS.F ht⟩) hS.2.2 eX7_wholeValues_6
theorem eX8_points_0 : decode cX8_points 0 = .ok (.aload_n 0, 1) := by decide +kernel
theorem eX8_points_1 : decode cX8_points 1 = .ok (.iload_n 1, 1) := by decide +kernel
theorem eX8_points_2 : decode cX8_points 2 = .ok (.invokevirtual 228, 3) := by decide +kernel
theorem eX8_points_5 : decode cX8_points 5 = .ok (.ifCond .ne 5, 3) := by decide +kernel
theorem eX8_points_8 : decode cX8_points 8 = .ok (.iconst (-1), 1) := by decide +kernel
theorem eX8_points_9 : decode cX8_points 9 = .ok (.ireturn, 1) := by decide +kernel
theorem eX8_points_10 : decode cX8_points 10 = .ok (.aload_n 0, 1) := by decide +kernel
theorem eX8_points_11 : decode cX8_points 11 = .ok (.getfield 76, 3) := by decide +kernel
theorem eX8_points_14 : decode cX8_points 14 = .ok (.iconst 0, 1) := by decide +kernel
theorem eX8_points_15 : decode cX8_points 15 = .ok (.iconst 0, 1) := by decide +kernel
theorem eX8_points_16 : decode cX8_points 16 = .ok (.iastore, 1) := by decide +kernel
theorem eX8_points_17 : decode cX8_points 17 = .ok (.aload_n 0, 1) := by decide +kernel
theorem eX8_points_18 : decode cX8_points 18 = .ok (.getfield 42, 3) := by decide +kernel
theorem eX8_points_21 : decode cX8_points 21 = .ok (.getfield 249, 3) := by decide +kernel
theorem eX8_points_24 : decode cX8_points 24 = .ok (.iload_n 1, 1) := by decide +kernel
theorem eX8_points_25 : decode cX8_points 25 = .ok (.aaload, 1) := by decide +kernel
theorem eX8_points_26 : decode cX8_points 26 = .ok (.aload_n 0, 1) := by decide +kernel
theorem eX8_points_27 : decode cX8_points 27 = .ok (.getfield 76, 3) := by decide +kernel
theorem eX8_points_30 : decode cX8_points 30 = .ok (.invokevirtual 300, 3) := by decide +kernel
theorem eX8_points_33 : decode cX8_points 33 = .ok (.ireturn, 1) := by decide +kernel
abbrev vs_C_8_points : List Cond := .code yX8_points cX8_points 2 (some .int) :: CM
theorem g_C_8_points_E_8_isState : GoodIn vs_C_8_points (wsV RX8 228 RX8 yX8_isState vs_E_8_isState) := cm_gV cm_537 cm_538 cm_539 cm_427 cm_530
theorem g_C_8_points_C_7_wholeValues : GoodIn vs_C_8_points (wsV RX8 300 RX7 yX7_wholeValues vs_C_7_wholeValues) := cm_gV cm_582 cm_583 cm_584 cm_45 cm_415
set_option maxHeartbeats 4000000 in
set_option maxRecDepth 100000 in
theorem c_C_8_points (l : Launch) (dC : Nat → ClassId) (dI : Nat → Nat → Nat) (sz : Nat) (xa : Nat) (xtape : Nat) (tp : Nat) (rd : Nat) (au : Nat) (xdr : Nat) (hy : Nat) (g : Nat) (hs : Nat) (tg : Nat) (sg : Nat) (ss : Nat) (rm : Nat) (ti : Nat) (py : Nat) (bu : Nat) (sm : Nat) (gz : Nat) (g1 : Nat) (g2 : Nat) (g3 : Nat) (g4 : Nat) (g5 : Nat) (gc : Nat) (gfull : Nat) (gx : Int32) (gway : Int32) (gav : Int32) (ggoal : Int32) (gfound : Nat) (gl : Nat) (gsz : Nat) (g16 : Nat) (g17 : Nat) (k_fgz : ClassId) (k_s1g : ClassId) (q_s1g : Nat → Nat) (k_s2g : ClassId) (s2g : Nat → Int32) (k_s3g : ClassId) (s3g : Nat → Int32) (k_s4g : ClassId) (s4g : Nat → Int32) (k_s5g : ClassId) (s5g : Nat → Int32) (k_hig : ClassId) (hig : Nat → Int32) (k_log : ClassId) (log : Nat → Int32) (k_fsm : ClassId) (fsm : Nat → Int32) (N : Nat) (o : Nat) (az ac : Nat → Nat) (kz : Nat → ClassId) (qs : Nat → Nat) (fz : Nat → Nat → Int32) (p0 : Int32) (htp : tp ≤ 900) (hhs : hs ≤ 1) (hss : ss ≤ 1) (hgc : gc ≤ 120) (hgfull : gfull ≤ 1) (hgfound : gfound ≤ 1) (hgl : gl ≤ 1) (hgsz : gsz ≤ 4) (hN : o + 121 ≤ N) : Met l yX8_points vs_C_8_points ({ frames := 5, cells := 0, slots := 0, locals := 125 }) (va_Pc [.ref xa, .int p0] (pu_B (dC, dI) ((xgp__w xa xtape (nI tp) rd au xdr hy g (nI hs) tg sg (nI ss) rm ti py bu sm gz g1 g2 g3 g4 g5 (nI gc) (nI gfull) gx gway gav ggoal (nI gfound) 120 (nI gl) (nI gsz) g16 g17 k_fgz (zs o 121 az) k_s1g (bN 7 q_s1g) k_s2g s2g k_s3g s3g k_s4g s4g k_s5g s5g k_hig hig k_log log k_fsm fsm) ++ zp 4 16 N az ac kz qs fz) ((xgp__t k_fgz k_s1g k_s2g k_s3g k_s4g k_s5g k_hig k_log k_fsm) ++ zt N kz) sz)) (va_Qi (fun (r : Int32) (_ : Unit) => True) (fun _ t => ∃ (z_fsm : Nat → Int32) (z_fz : Nat → Nat → Int32) (z_qs : Nat → Nat), pu_E (dC, dI) ((xgp__w xa xtape (nI tp) rd au xdr hy g (nI hs) tg sg (nI ss) rm ti py bu sm gz g1 g2 g3 g4 g5 (nI gc) (nI gfull) gx gway gav ggoal (nI gfound) 120 (nI gl) (nI gsz) g16 g17 k_fgz (zs o 121 az) k_s1g (bN 7 q_s1g) k_s2g s2g k_s3g s3g k_s4g s4g k_s5g s5g k_hig hig k_log log k_fsm z_fsm) ++ zp 4 16 N az ac kz z_qs z_fz) ((xgp__t k_fgz k_s1g k_s2g k_s3g k_s4g k_s5g k_hig k_log k_fsm) ++ zt N kz) (va_A (((xgp__w xa xtape (nI tp) rd au xdr hy g (nI hs) tg sg (nI ss) rm ti py bu sm gz g1 g2 g3 g4 g5 (nI gc) (nI gfull) gx gway gav ggoal (nI gfound) 120 (nI gl) (nI gsz) g16 g17 k_fgz (zs o 121 az) k_s1g (bN 7 q_s1g) k_s2g s2g k_s3g s3g k_s4g s4g k_s5g s5g k_hig hig k_log log k_fsm fsm) ++ zp 4 16 N az ac kz qs fz)) sz) t) (va_A (((xgp__w xa xtape (nI tp) rd au xdr hy g (nI hs) tg sg (nI ss) rm ti py bu sm gz g1 g2 g3 g4 g5 (nI gc) (nI gfull) gx gway gav ggoal (nI gfound) 120 (nI gl) (nI gsz) g16 g17 k_fgz (zs o 121 az) k_s1g (bN 7 q_s1g) k_s2g s2g k_s3g s3g k_s4g s4g k_s5g s5g k_hig hig k_log log k_fsm fsm) ++ zp 4 16 N az ac kz qs fz)) sz)) 0 0 (va_A (((xgp__w xa xtape (nI tp) rd au xdr hy g (nI hs) tg sg (nI ss) rm ti py bu sm gz g1 g2 g3 g4 g5 (nI gc) (nI gfull) gx gway gav ggoal (nI gfound) 120 (nI gl) (nI gsz) g16 g17 k_fgz (zs o 121 az) k_s1g (bN 7 q_s1g) k_s2g s2g k_s3g s3g k_s4g s4g k_s5g s5g k_hig hig k_log log k_fsm fsm) ++ zp 4 16 N az ac kz qs fz)) sz) := by
  refine Met.ofW (cc := cX8_points) (maxL := 2) (ret := (some .int)) (by decide) rfl ?_
  intro p e s m args below meth c s₁ B hml hv
  obtain ⟨rfl, rfl, hP, hK, hD0⟩ := hv
  have hx := B.exec
  have hb := B.bytes
  have hr := B.returns
  have hts := atoms_spec (ws := vs_C_8_points) B.pre
  have v_6 := hts (.fieldLink RX8 76 "ClockReach" "sample" "[I") (List.mem_cons_of_mem _ cm_563)
  have v_7 := hts (.fieldLink RX8 42 "ClockReach" "shown" "LClockReach$Graph;") (List.mem_cons_of_mem _ cm_456)
  have v_8 := hts (.fieldLink RX8 249 "ClockReach$Graph" "zones" "[LClockReach$Zone;") (List.mem_cons_of_mem _ cm_544)
  have hown : s.vm.findClass RX8 = some m.cls := findClass_of_methodNamed B.named
  have hlocks := B.notSynchronized
  have hiX1 : ∀ w ∈ wsX10, w ∈ vs_C_8_points := fun _ h => List.mem_cons_of_mem _ (cm_X1 h)
  have hiX8 : ∀ w ∈ wsX80, w ∈ vs_C_8_points := fun _ h => List.mem_cons_of_mem _ (cm_X8 h)
  have hD := hD0.self (sz := s.heap.size)
  generalize hAe : va_A (((xgp__w xa xtape (nI tp) rd au xdr hy g (nI hs) tg sg (nI ss) rm ti py bu sm gz g1 g2 g3 g4 g5 (nI gc) (nI gfull) gx gway gav ggoal (nI gfound) 120 (nI gl) (nI gsz) g16 g17 k_fgz (zs o 121 az) k_s1g (bN 7 q_s1g) k_s2g s2g k_s3g s3g k_s4g s4g k_s5g s5g k_hig hig k_log log k_fsm fsm) ++ zp 4 16 N az ac kz qs fz)) s.heap.size = A at hD ⊢
  have hA : ∀ q : Nat, s.heap.size ≤ q → A q := fun q h => by rw [← hAe]; exact Or.inr h
  have hS : va_S A s.heap s.heap [] := va_S.rf
  have hl := lv_entry ([.ref xa, .int p0]) (n := 2) (Nat.le_of_ble_eq_true rfl)
  rw [lg_entry_eq]
  generalize (lg_sl ([.ref xa, .int p0]) ++ List.replicate (2 - (lg_sl ([.ref xa, .int p0])).length) Slot.unset).toArray = ls at hl ⊢
  have hl : lv_has ls 2 [(0, .ref xa), (1, .int p0)] := hl
  refine lv_aload_n hx hb eX8_points_0 rfl (lv_at hl 0 rfl) ?_
  refine lv_iload_n hx hb eX8_points_1 rfl (lv_at hl 1 rfl) ?_
  have hPc : va_P (dC, dI) vwCl [(xa, .inr (8, [.ref xtape, .int (nI tp), .ref rd, .ref au, .ref xdr, .ref hy, .ref g, .int (nI hs), .ref tg, .ref sg, .int (nI ss), .ref rm, .ref ti, .ref py, .ref bu, .ref sm])), (g, .inr (1, [.ref gz, .ref g1, .ref g2, .ref g3, .ref g4, .ref g5, .int (nI gc), .int (nI gfull), .int gx, .int gway, .int gav, .int ggoal, .int (nI gfound), .int 120, .int (nI gl), .int (nI gsz), .ref g16, .ref g17]))] _ := hP.sub [0, 1] rfl
  have hDc : va_D A [(xa, .inr (8, [.ref xtape, .int (nI tp), .ref rd, .ref au, .ref xdr, .ref hy, .ref g, .int (nI hs), .ref tg, .ref sg, .int (nI ss), .ref rm, .ref ti, .ref py, .ref bu, .ref sm])), (g, .inr (1, [.ref gz, .ref g1, .ref g2, .ref g3, .ref g4, .ref g5, .int (nI gc), .int (nI gfull), .int gx, .int gway, .int gav, .int ggoal, .int (nI gfound), .int 120, .int (nI gl), .int (nI gsz), .ref g16, .ref g17]))] := (zp_left hD).sub [0, 1] (by decide) rfl
  have hKc : va_K (dC, dI) vwCl [] s := hK.sub [] rfl
  refine va_calli (va_runV (As := [.int p0]) (rest := []) ⟨hx, hb, hml, hown, hts⟩ (c_E_8_isState l dC dI _ xa xtape tp rd au xdr hy g hs tg sg ss rm ti py bu sm gz g1 g2 g3 g4 g5 gc gfull gx gway gav ggoal gfound gl gsz g16 g17 p0 htp hhs hss hgc hgfull hgfound hgl hgsz) (cwV 1 hts g_C_8_points_E_8_isState rfl rfl rfl (by decide +kernel) ⟨Nat.le_of_ble_eq_true rfl, Nat.le_of_ble_eq_true rfl⟩) ⟨pu_bl, va_recv hK hP (ci := 8) (q0 := 0) rfl rfl, pu_in hPc hKc hDc⟩ rfl rfl hl.1 rfl (lv_room (Nat.le_of_ble_eq_true rfl)) eX8_points_2 ⟨Nat.le_of_ble_eq_true rfl, Nat.le_of_ble_eq_true rfl⟩) hS (fun q _ h => pu_fr hS hA q h) (pu_fr hS hA) (fun r_1 u t H1 locs ht hvm hw hB hz1 hk1 hS => ?_)
  have hP := pu_keep hP hk1
  clear hPc hDc hKc
  clear hk1 hz1 ht hvm
  generalize H1 = H at hP hS ⊢
  rcases hw with ⟨rfl, hw⟩ | ⟨rfl, hn⟩
  · obtain ⟨hs1, n_2, hn_2, rfl⟩ := hw
    refine lv_if_ne (tgt := 10) hx hb eX8_points_5 (by decide) (fun _ => ?_) (fun z => absurd z (by decide))
    refine lv_aload_n hx hb eX8_points_10 rfl (lv_at hl 0 rfl) ?_
    refine va_get (D := (dC, dI)) (ci := 8) (v := .ref sm) (C := RX8) (T := TX8) (N := 16) hx hb hts hiX8 hown hK hP 0 rfl rfl 15 (by decide) v_6 (fun _ h9 => h9) rfl eX8_points_11 ?_
    refine lv_iconst (v := 0) hx hb eX8_points_14 (by decide) ?_
    refine lv_iconst (v := 0) hx hb eX8_points_15 (by decide) ?_
    refine va_iast hx hb hK hP hD hS 10 8 rfl rfl (vp_in_nI (n := 0) (Nat.le_of_ble_eq_true rfl) (Nat.le_of_ble_eq_true rfl)) eX8_points_16 (fun H locs hP hD hS => ?_)
    have hP : va_P (dC, dI) vwCl ((xgp__w xa xtape (nI tp) rd au xdr hy g (nI hs) tg sg (nI ss) rm ti py bu sm gz g1 g2 g3 g4 g5 (nI gc) (nI gfull) gx gway gav ggoal (nI gfound) 120 (nI gl) (nI gsz) g16 g17 k_fgz (zs o 121 az) k_s1g (bN 7 q_s1g) k_s2g s2g k_s3g s3g k_s4g s4g k_s5g s5g k_hig hig k_log log k_fsm (upd fsm (0 : Int32).toNatClampNeg 0)) ++ zp 4 16 N az ac kz qs fz) H := hP
    have hD : va_D A ((xgp__w xa xtape (nI tp) rd au xdr hy g (nI hs) tg sg (nI ss) rm ti py bu sm gz g1 g2 g3 g4 g5 (nI gc) (nI gfull) gx gway gav ggoal (nI gfound) 120 (nI gl) (nI gsz) g16 g17 k_fgz (zs o 121 az) k_s1g (bN 7 q_s1g) k_s2g s2g k_s3g s3g k_s4g s4g k_s5g s5g k_hig hig k_log log k_fsm (upd fsm (0 : Int32).toNatClampNeg 0)) ++ zp 4 16 N az ac kz qs fz) := hD
    refine lv_aload_n hx hb eX8_points_17 rfl (lv_at hl 0 rfl) ?_
    refine va_get (D := (dC, dI)) (ci := 8) (v := .ref g) (C := RX8) (T := TX8) (N := 16) hx hb hts hiX8 hown hK hP 0 rfl rfl 6 (by decide) v_7 (fun _ h9 => h9) rfl eX8_points_18 ?_
    refine va_get (D := (dC, dI)) (ci := 1) (v := .ref gz) (C := RX1) (T := TX1) (N := 18) hx hb hts hiX1 hown hK hP 1 rfl rfl 0 (by decide) v_8 (fun _ h9 => h9) rfl eX8_points_21 ?_
    refine lv_iload_n hx hb eX8_points_24 rfl (lv_at hl 1 rfl) ?_
    refine va_aldq hx hb hK hP 2 0 rfl rfl (vp_in_nI (n := n_2) (by omega) (Nat.le_of_ble_eq_true rfl)) eX8_points_25 ?_
    refine W.eq (g2 := F0 m 26 ls [.ref (az (o + n_2))]) (by rw [zs_get (by omega) (by omega)]) ?_
    refine lv_aload_n hx hb eX8_points_26 rfl (lv_at hl 0 rfl) ?_
    refine va_get (D := (dC, dI)) (ci := 8) (v := .ref sm) (C := RX8) (T := TX8) (N := 16) hx hb hts hiX8 hown hK hP 0 rfl rfl 15 (by decide) v_6 (fun _ h9 => h9) rfl eX8_points_27 ?_
    have hPz := zp_cut (k := (o + n_2)) hP (by omega)
    have hPc : va_P (dC, dI) vwCl ([(sm, .inl (k_fsm, 4, .inl (upd fsm (0 : Int32).toNatClampNeg 0)))] ++ [(az (o + n_2), .inr (7, [.ref (ac (o + n_2)), .int (nI (min (qs (o + n_2)) 4))])), (ac (o + n_2), .inl (kz (o + n_2), 16, .inl (fz (o + n_2))))]) _ := va_P.app (hP.sub [10] rfl) hPz
    have hDc : va_D A ([(sm, .inl (k_fsm, 4, .inl (upd fsm (0 : Int32).toNatClampNeg 0)))] ++ [(az (o + n_2), .inr (7, [.ref (ac (o + n_2)), .int (nI (min (qs (o + n_2)) 4))])), (ac (o + n_2), .inl (kz (o + n_2), 16, .inl (fz (o + n_2))))]) := zp_cutD hD (by omega) [10] (by decide) rfl
    have hKc : va_K (dC, dI) vwCl ([(k_fsm, .int)] ++ [(kz (o + n_2), .int)]) s := zp_K hK (by omega) [8] rfl
    have hFc := pu_free hDc hS hA
    refine va_calli (va_runV (As := [.ref sm]) (rest := []) ⟨hx, hb, hml, hown, hts⟩ (c_C_7_wholeValues l dC dI _ sm k_fsm (upd fsm (0 : Int32).toNatClampNeg 0) (az (o + n_2)) (ac (o + n_2)) (min (qs (o + n_2)) 4) (kz (o + n_2)) (fz (o + n_2)) (Nat.min_le_right _ _)) (cwV 1 hts g_C_8_points_C_7_wholeValues rfl rfl rfl (by decide +kernel) ⟨Nat.le_of_ble_eq_true rfl, Nat.le_of_ble_eq_true rfl⟩) ⟨pu_bl, va_recv hK hPz (ci := 7) (q0 := 0) rfl rfl, pu_in hPc hKc hDc⟩ rfl rfl hl.1 rfl (lv_room (Nat.le_of_ble_eq_true rfl)) eX8_points_30 ⟨Nat.le_of_ble_eq_true rfl, Nat.le_of_ble_eq_true rfl⟩) hS (fun q _ h => hFc q h) hFc (fun r_3 u t H1 locs ht hvm hw hB hz1 hk1 hS => ?_)
    obtain ⟨z_fv_4, ⟨hP1, -, hD1⟩⟩ := hB
    rw [ht] at hP1
    obtain ⟨qs_5, fz_6, hP, hD⟩ := zq_put (X := (xgp__w xa xtape (nI tp) rd au xdr hy g (nI hs) tg sg (nI ss) rm ti py bu sm gz g1 g2 g3 g4 g5 (nI gc) (nI gfull) gx gway gav ggoal (nI gfound) 120 (nI gl) (nI gsz) g16 g17 k_fgz (zs o 121 az) k_s1g (bN 7 q_s1g) k_s2g s2g k_s3g s3g k_s4g s4g k_s5g s5g k_hig hig k_log log k_fsm (upd fsm (0 : Int32).toNatClampNeg 0))) (wx := [(sm, .inl (k_fsm, 4, .inl (upd fsm (0 : Int32).toNatClampNeg 0)))]) (X' := (xgp__w xa xtape (nI tp) rd au xdr hy g (nI hs) tg sg (nI ss) rm ti py bu sm gz g1 g2 g3 g4 g5 (nI gc) (nI gfull) gx gway gav ggoal (nI gfound) 120 (nI gl) (nI gsz) g16 g17 k_fgz (zs o 121 az) k_s1g (bN 7 q_s1g) k_s2g s2g k_s3g s3g k_s4g s4g k_s5g s5g k_hig hig k_log log k_fsm z_fv_4)) (w1 := [(sm, .inl (k_fsm, 4, .inl z_fv_4))]) (k := (o + n_2)) (n' := min (qs (o + n_2)) 4) (f' := fz (o + n_2)) hP hD (by omega) [10] rfl hk1 (Nat.min_le_right _ _) hP1 rfl rfl
    clear hP1 hD1 hFc
    clear hPc hDc hKc
    clear hk1 hz1 ht hvm
    generalize H1 = H at hP hS ⊢
    exact W.iret (v := r_3) hx hb hr (fun t ht hW => ⟨⟨r_3, (), rfl, trivial, ⟨z_fv_4, fz_6, qs_5, ⟨by rw [ht]; exact hP, va_K.moved hW.alike hK, hD⟩⟩⟩, hS.F ht⟩) hS.2.2 eX8_points_33
  · refine lv_if_ne (tgt := 10) hx hb eX8_points_5 (by decide) (fun z => absurd z (by decide)) (fun _ => ?_)
    refine lv_iconst (v := (-1)) hx hb eX8_points_8 (by decide) ?_
    exact W.iret (v := (-1)) hx hb hr (fun t ht hW => ⟨⟨(-1), (), rfl, trivial, ⟨fsm, fz, qs, ⟨by rw [ht]; exact hP, va_K.moved hW.alike hK, hD⟩⟩⟩, hS.F ht⟩) hS.2.2 eX8_points_9
theorem eX5_clear_0 : decode cX5_clear 0 = .ok (.aload_n 0, 1) := by decide +kernel
theorem eX5_clear_1 : decode cX5_clear 1 = .ok (.iconst 0, 1) := by decide +kernel
theorem eX5_clear_2 : decode cX5_clear 2 = .ok (.putfield 37, 3) := by decide +kernel
theorem eX5_clear_5 : decode cX5_clear 5 = .ok (.aload_n 0, 1) := by decide +kernel
theorem eX5_clear_6 : decode cX5_clear 6 = .ok (.iconst 0, 1) := by decide +kernel
theorem eX5_clear_7 : decode cX5_clear 7 = .ok (.putfield 41, 3) := by decide +kernel
theorem eX5_clear_10 : decode cX5_clear 10 = .ok (.return_, 1) := by decide +kernel
abbrev vs_C_5_clear : List Cond := .code yX5_clear cX5_clear 1 none :: CM
set_option maxHeartbeats 4000000 in
set_option maxRecDepth 100000 in
theorem c_C_5_clear (l : Launch) (dC : Nat → ClassId) (dI : Nat → Nat → Nat) (sz : Nat) (rm : Nat) (rcv : Nat) (rk : Nat) (rmd : Nat) (ru : Nat) (rpc : Nat) (rct : Nat) (rce : Nat) (k_fcv : ClassId) (fcv : Nat → Option Nat) (k_fmd : ClassId) (k_fpc : ClassId) (k_fct : ClassId) (fct : Nat → Int32) (k_fce : ClassId) (q_fce : Nat → Nat) (N : Nat) (az ac : Nat → Nat) (kz : Nat → ClassId) (qs : Nat → Nat) (fz : Nat → Nat → Int32) (hrk : rk ≤ 120) (hru : ru ≤ 28) (hN : 393 ≤ N) : Met l yX5_clear vs_C_5_clear ({ frames := 0, cells := 0, slots := 0, locals := 0 }) (va_Pc [.ref rm] (pu_B (dC, dI) ((rm__w rm rcv (nI rk) rmd (nI ru) rpc rct rce (az 392) k_fcv fcv k_fmd (zs 242 28 az) k_fpc (zs 270 122 az) k_fct fct k_fce (bN 16 q_fce)) ++ zp 4 16 N az ac kz qs fz) ((rm__t k_fcv k_fmd k_fpc k_fct k_fce) ++ zt N kz) sz)) (va_Qv (fun (_ : Unit) => True) (fun _ t => pu_E (dC, dI) ((rm__w rm rcv 0 rmd 0 rpc rct rce (az 392) k_fcv fcv k_fmd (zs 242 28 az) k_fpc (zs 270 122 az) k_fct fct k_fce (bN 16 q_fce)) ++ zp 4 16 N az ac kz qs fz) ((rm__t k_fcv k_fmd k_fpc k_fct k_fce) ++ zt N kz) (va_A (((rm__w rm rcv (nI rk) rmd (nI ru) rpc rct rce (az 392) k_fcv fcv k_fmd (zs 242 28 az) k_fpc (zs 270 122 az) k_fct fct k_fce (bN 16 q_fce)) ++ zp 4 16 N az ac kz qs fz)) sz) t) (va_A (((rm__w rm rcv (nI rk) rmd (nI ru) rpc rct rce (az 392) k_fcv fcv k_fmd (zs 242 28 az) k_fpc (zs 270 122 az) k_fct fct k_fce (bN 16 q_fce)) ++ zp 4 16 N az ac kz qs fz)) sz)) 0 0 (va_A (((rm__w rm rcv (nI rk) rmd (nI ru) rpc rct rce (az 392) k_fcv fcv k_fmd (zs 242 28 az) k_fpc (zs 270 122 az) k_fct fct k_fce (bN 16 q_fce)) ++ zp 4 16 N az ac kz qs fz)) sz) := by
  refine Met.ofW (cc := cX5_clear) (maxL := 1) (ret := none) (by decide) rfl ?_
  intro p e s m args below meth c s₁ B hml hv
  obtain ⟨rfl, rfl, hP, hK, hD0⟩ := hv
  have hx := B.exec
  have hb := B.bytes
  have hr := B.returns
  have hts := atoms_spec (ws := vs_C_5_clear) B.pre
  have v_1 := hts (.fieldLink RX5 37 "ClockReach$Remainder" "count" "I") (List.mem_cons_of_mem _ cm_316)
  have v_2 := hts (.fieldLink RX5 41 "ClockReach$Remainder" "used" "I") (List.mem_cons_of_mem _ cm_317)
  have hown : s.vm.findClass RX5 = some m.cls := findClass_of_methodNamed B.named
  have hlocks := B.notSynchronized
  have hiX5 : ∀ w ∈ wsX50, w ∈ vs_C_5_clear := fun _ h => List.mem_cons_of_mem _ (cm_X5 h)
  have hD := hD0.self (sz := s.heap.size)
  generalize hAe : va_A (((rm__w rm rcv (nI rk) rmd (nI ru) rpc rct rce (az 392) k_fcv fcv k_fmd (zs 242 28 az) k_fpc (zs 270 122 az) k_fct fct k_fce (bN 16 q_fce)) ++ zp 4 16 N az ac kz qs fz)) s.heap.size = A at hD ⊢
  have hA : ∀ q : Nat, s.heap.size ≤ q → A q := fun q h => by rw [← hAe]; exact Or.inr h
  have hS : va_S A s.heap s.heap [] := va_S.rf
  have hl := lv_entry ([.ref rm]) (n := 1) (Nat.le_of_ble_eq_true rfl)
  rw [lg_entry_eq]
  generalize (lg_sl ([.ref rm]) ++ List.replicate (1 - (lg_sl ([.ref rm])).length) Slot.unset).toArray = ls at hl ⊢
  have hl : lv_has ls 1 [(0, .ref rm)] := hl
  refine lv_aload_n hx hb eX5_clear_0 rfl (lv_at hl 0 rfl) ?_
  refine lv_iconst (v := 0) hx hb eX5_clear_1 (by decide) ?_
  refine va_put (D := (dC, dI)) (ci := 5) (v := .int 0) (ty := .int) (C := RX5) (T := TX5) (N := 8) hx hb hts hiX5 tyX5 tyX5_ok nmX5 hown hK hP hD hS 0 rfl rfl 1 (by decide) v_1 (fun _ h9 => h9) rfl (by decide +kernel) rfl rfl (Nat.le_of_ble_eq_true rfl) eX5_clear_2 (fun H locs hP hD hS => ?_)
  have hP : va_P (dC, dI) vwCl ((rm__w rm rcv 0 rmd (nI ru) rpc rct rce (az 392) k_fcv fcv k_fmd (zs 242 28 az) k_fpc (zs 270 122 az) k_fct fct k_fce (bN 16 q_fce)) ++ zp 4 16 N az ac kz qs fz) H := hP
  have hD : va_D A ((rm__w rm rcv 0 rmd (nI ru) rpc rct rce (az 392) k_fcv fcv k_fmd (zs 242 28 az) k_fpc (zs 270 122 az) k_fct fct k_fce (bN 16 q_fce)) ++ zp 4 16 N az ac kz qs fz) := hD
  refine lv_aload_n hx hb eX5_clear_5 rfl (lv_at hl 0 rfl) ?_
  refine lv_iconst (v := 0) hx hb eX5_clear_6 (by decide) ?_
  refine va_put (D := (dC, dI)) (ci := 5) (v := .int 0) (ty := .int) (C := RX5) (T := TX5) (N := 8) hx hb hts hiX5 tyX5 tyX5_ok nmX5 hown hK hP hD hS 0 rfl rfl 3 (by decide) v_2 (fun _ h9 => h9) rfl (by decide +kernel) rfl rfl (Nat.le_of_ble_eq_true rfl) eX5_clear_7 (fun H locs hP hD hS => ?_)
  have hP : va_P (dC, dI) vwCl ((rm__w rm rcv 0 rmd 0 rpc rct rce (az 392) k_fcv fcv k_fmd (zs 242 28 az) k_fpc (zs 270 122 az) k_fct fct k_fce (bN 16 q_fce)) ++ zp 4 16 N az ac kz qs fz) H := hP
  have hD : va_D A ((rm__w rm rcv 0 rmd 0 rpc rct rce (az 392) k_fcv fcv k_fmd (zs 242 28 az) k_fpc (zs 270 122 az) k_fct fct k_fce (bN 16 q_fce)) ++ zp 4 16 N az ac kz qs fz) := hD
  exact W.vret hx hb hr (fun t ht hW => ⟨⟨(), rfl, trivial, ⟨by rw [ht]; exact hP, va_K.moved hW.alike hK, hD⟩⟩, hS.F ht⟩) hS.2.2 eX5_clear_10
