theorem eX8_lets_0 : decode cX8_lets 0 = .ok (.aload_n 0, 1) := by decide +kernel
theorem eX8_lets_1 : decode cX8_lets 1 = .ok (.iload_n 1, 1) := by decide +kernel
theorem eX8_lets_2 : decode cX8_lets 2 = .ok (.iload_n 2, 1) := by decide +kernel
theorem eX8_lets_3 : decode cX8_lets 3 = .ok (.invokevirtual 171, 3) := by decide +kernel
theorem eX8_lets_6 : decode cX8_lets 6 = .ok (.istore 5, 2) := by decide +kernel
theorem eX8_lets_8 : decode cX8_lets 8 = .ok (.iload 5, 2) := by decide +kernel
theorem eX8_lets_10 : decode cX8_lets 10 = .ok (.iconst (-1), 1) := by decide +kernel
theorem eX8_lets_11 : decode cX8_lets 11 = .ok (.if_icmp .eq 22, 3) := by decide +kernel
theorem eX8_lets_14 : decode cX8_lets 14 = .ok (.aload_n 0, 1) := by decide +kernel
theorem eX8_lets_15 : decode cX8_lets 15 = .ok (.iload_n 3, 1) := by decide +kernel
theorem eX8_lets_16 : decode cX8_lets 16 = .ok (.invokevirtual 140, 3) := by decide +kernel
theorem eX8_lets_19 : decode cX8_lets 19 = .ok (.ifCond .eq 14, 3) := by decide +kernel
theorem eX8_lets_33 : decode cX8_lets 33 = .ok (.iconst (-1), 1) := by decide +kernel
theorem eX8_lets_34 : decode cX8_lets 34 = .ok (.ireturn, 1) := by decide +kernel
abbrev vs_E_8_lets_0 : List Cond := .code yX8_lets cX8_lets 10 (some .int) :: CM
theorem g_E_8_lets_0_E_8_slotOf : GoodIn vs_E_8_lets_0 (wsV RX8 171 RX8 yX8_slotOf vs_E_8_slotOf) := cm_gV cm_490 cm_491 cm_492 cm_427 cm_493
theorem g_E_8_lets_0_E_8_isPlace : GoodIn vs_E_8_lets_0 (wsV RX8 140 RX8 yX8_isPlace vs_E_8_isPlace) := cm_gV cm_471 cm_472 cm_473 cm_427 cm_474
noncomputable def sp_E_8_lets_0 (ne : Nat) (q_f8 : Nat → Nat) (p0 : Int32) (p1 : Int32) : Int32 := (slet (sp_E_8_slotOf 0 ne q_f8 p0 p1) (fun u_2 => (if u_2 = 0 then (-1) else (slet (u_2 - 1) (fun n_3 => (-1))))))
set_option maxHeartbeats 4000000 in
set_option maxRecDepth 100000 in
theorem c_E_8_lets_0 (l : Launch) (dC : Nat → ClassId) (dI : Nat → Nat → Nat) (sz : Nat) (xa : Nat) (xtape : Nat) (tp : Nat) (rd : Nat) (au : Nat) (xdr : Nat) (hy : Nat) (g : Nat) (tg : Nat) (sg : Nat) (rm : Nat) (ti : Nat) (py : Nat) (bu : Nat) (sm : Nat) (nc : Nat) (ne : Nat) (st0 : Int32) (q4 : Nat) (q5 : Nat) (q6 : Nat) (q7 : Nat) (q8 : Nat) (q9 : Nat) (q10 : Nat) (q11 : Nat) (q12 : Nat) (q13 : Nat) (q14 : Nat) (q15 : Nat) (q16 : Nat) (k_f4 : ClassId) (f4 : Nat → Int32) (k_f5 : ClassId) (q_f5 : Nat → Nat) (k_f6 : ClassId) (q_f6 : Nat → Nat) (k_f7 : ClassId) (f7 : Nat → Int32) (k_f8 : ClassId) (q_f8 : Nat → Nat) (k_f9 : ClassId) (q_f9 : Nat → Nat) (k_f10 : ClassId) (f10 : Nat → Int32) (k_f11 : ClassId) (f11 : Nat → Int32) (k_f12 : ClassId) (f12 : Nat → Int32) (k_f13 : ClassId) (f13 : Nat → Int32) (k_f14 : ClassId) (f14 : Nat → Int32) (k_f15 : ClassId) (f15 : Nat → Int32) (k_f16 : ClassId) (f16 : Nat → Int32) (tz : Nat) (t1 : Nat) (t2 : Nat) (t3 : Nat) (t4 : Nat) (t5 : Nat) (tc : Nat) (tfull : Nat) (tx : Int32) (tway : Int32) (tav : Int32) (tgoal : Int32) (tfound : Nat) (tl : Nat) (tsz : Nat) (t16 : Nat) (t17 : Nat) (k_ftz : ClassId) (k_s1t : ClassId) (q_s1t : Nat → Nat) (k_s2t : ClassId) (s2t : Nat → Int32) (k_s3t : ClassId) (s3t : Nat → Int32) (k_s4t : ClassId) (s4t : Nat → Int32) (k_s5t : ClassId) (s5t : Nat → Int32) (k_hit : ClassId) (hit : Nat → Int32) (k_lot : ClassId) (lot : Nat → Int32) (k_fbu : ClassId) (fbu : Nat → Int32) (N : Nat) (o : Nat) (az ac : Nat → Nat) (kz : Nat → ClassId) (qs : Nat → Nat) (fz : Nat → Nat → Int32) (p0 : Int32) (p1 : Int32) (p2 : Int32) (p3 : Int32) (htp : tp ≤ 900) (hnc : nc ≤ 3) (hne : ne ≤ 14) (hst0 : pm1 7 st0) (htc : tc ≤ 120) (htfull : tfull ≤ 1) (htfound : tfound ≤ 1) (htl : tl ≤ 1) (htsz : tsz ≤ 4) (hN : o + 121 ≤ N) : Met l yX8_lets vs_E_8_lets_0 ({ frames := 2, cells := 0, slots := 0, locals := 44 }) (va_Pc [.ref xa, .int p0, .int p1, .int p2, .int p3] (pu_B (dC, dI) ((xtr__w xa xtape (nI tp) rd au xdr hy g 0 tg sg 0 rm ti py bu sm (nI nc) 0 (nI ne) st0 q4 q5 q6 q7 q8 q9 q10 q11 q12 q13 q14 q15 q16 k_f4 f4 k_f5 (bN 7 q_f5) k_f6 (bN 7 q_f6) k_f7 f7 k_f8 (bN 4 q_f8) k_f9 (bN 2 q_f9) k_f10 f10 k_f11 f11 k_f12 f12 k_f13 f13 k_f14 f14 k_f15 f15 k_f16 f16 tz t1 t2 t3 t4 t5 (nI tc) (nI tfull) tx tway tav tgoal (nI tfound) 120 (nI tl) (nI tsz) t16 t17 k_ftz (zs o 121 az) k_s1t (bN 7 q_s1t) k_s2t s2t k_s3t s3t k_s4t s4t k_s5t s5t k_hit hit k_lot lot k_fbu fbu) ++ zp 4 16 N az ac kz qs fz) ((xtr__t k_f4 k_f5 k_f6 k_f7 k_f8 k_f9 k_f10 k_f11 k_f12 k_f13 k_f14 k_f15 k_f16 k_ftz k_s1t k_s2t k_s3t k_s4t k_s5t k_hit k_lot k_fbu) ++ zt N kz) sz)) (va_Qi (fun (r : Int32) (_ : Unit) => r = (sp_E_8_lets_0 ne q_f8 p0 p1)) (fun _ _ => True) (va_A [] sz)) 0 0 (va_A [] sz) := by
  refine Met.ofW (cc := cX8_lets) (maxL := 10) (ret := (some .int)) (by decide) rfl ?_
  intro p e s m args below meth c s₁ B hml hv
  obtain ⟨rfl, rfl, hP, hK, hD0⟩ := hv
  have hx := B.exec
  have hb := B.bytes
  have hr := B.returns
  have hts := atoms_spec (ws := vs_E_8_lets_0) B.pre
  have hown : s.vm.findClass RX8 = some m.cls := findClass_of_methodNamed B.named
  have hlocks := B.notSynchronized
  have hD := hD0
  have hA : ∀ q : Nat, s.heap.size ≤ q → va_A [] s.heap.size q := fun _ h => Or.inr h
  have hS : va_S (va_A [] s.heap.size) s.heap s.heap [] := va_S.rf
  have hl := lv_entry ([.ref xa, .int p0, .int p1, .int p2, .int p3]) (n := 10) (Nat.le_of_ble_eq_true rfl)
  rw [lg_entry_eq]
  generalize (lg_sl ([.ref xa, .int p0, .int p1, .int p2, .int p3]) ++ List.replicate (10 - (lg_sl ([.ref xa, .int p0, .int p1, .int p2, .int p3])).length) Slot.unset).toArray = ls at hl ⊢
  have hl : lv_has ls 10 [(0, .ref xa), (1, .int p0), (2, .int p1), (3, .int p2), (4, .int p3)] := hl
  obtain ⟨RR, hRR⟩ : ∃ x, x = (sp_E_8_lets_0 ne q_f8 p0 p1) := ⟨_, rfl⟩
  have hsp := hRR
  refine lv_aload_n hx hb eX8_lets_0 rfl (lv_at hl 0 rfl) ?_
  refine lv_iload_n hx hb eX8_lets_1 rfl (lv_at hl 1 rfl) ?_
  refine lv_iload_n hx hb eX8_lets_2 rfl (lv_at hl 2 rfl) ?_
  have hPc : va_P (dC, dI) vwCl [(xa, .inr (8, [.ref xtape, .int (nI tp), .ref rd, .ref au, .ref xdr, .ref hy, .ref g, .int 0, .ref tg, .ref sg, .int 0, .ref rm, .ref ti, .ref py, .ref bu, .ref sm])), (au, .inr (0, [.int (nI nc), .int 0, .int (nI ne), .int st0, .ref q4, .ref q5, .ref q6, .ref q7, .ref q8, .ref q9, .ref q10, .ref q11, .ref q12, .ref q13, .ref q14, .ref q15, .ref q16])), (q4, .inl (k_f4, 8, .inl f4)), (q5, .inl (k_f5, 14, .inl (bN 7 q_f5))), (q6, .inl (k_f6, 14, .inl (bN 7 q_f6))), (q7, .inl (k_f7, 14, .inl f7)), (q8, .inl (k_f8, 22, .inl (bN 4 q_f8))), (q9, .inl (k_f9, 88, .inl (bN 2 q_f9))), (q10, .inl (k_f10, 88, .inl f10)), (q11, .inl (k_f11, 88, .inl f11)), (q12, .inl (k_f12, 88, .inl f12)), (q13, .inl (k_f13, 88, .inl f13)), (q14, .inl (k_f14, 4, .inl f14)), (q15, .inl (k_f15, 4, .inl f15)), (q16, .inl (k_f16, 4, .inl f16))] _ := hP.sub [0, 1, 2, 3, 4, 5, 6, 7, 8, 9, 10, 11, 12, 13, 14] rfl
  have hDc : va_D (fun _ => True) [(xa, .inr (8, [.ref xtape, .int (nI tp), .ref rd, .ref au, .ref xdr, .ref hy, .ref g, .int 0, .ref tg, .ref sg, .int 0, .ref rm, .ref ti, .ref py, .ref bu, .ref sm])), (au, .inr (0, [.int (nI nc), .int 0, .int (nI ne), .int st0, .ref q4, .ref q5, .ref q6, .ref q7, .ref q8, .ref q9, .ref q10, .ref q11, .ref q12, .ref q13, .ref q14, .ref q15, .ref q16])), (q4, .inl (k_f4, 8, .inl f4)), (q5, .inl (k_f5, 14, .inl (bN 7 q_f5))), (q6, .inl (k_f6, 14, .inl (bN 7 q_f6))), (q7, .inl (k_f7, 14, .inl f7)), (q8, .inl (k_f8, 22, .inl (bN 4 q_f8))), (q9, .inl (k_f9, 88, .inl (bN 2 q_f9))), (q10, .inl (k_f10, 88, .inl f10)), (q11, .inl (k_f11, 88, .inl f11)), (q12, .inl (k_f12, 88, .inl f12)), (q13, .inl (k_f13, 88, .inl f13)), (q14, .inl (k_f14, 4, .inl f14)), (q15, .inl (k_f15, 4, .inl f15)), (q16, .inl (k_f16, 4, .inl f16))] := (zp_left hD).sub [0, 1, 2, 3, 4, 5, 6, 7, 8, 9, 10, 11, 12, 13, 14] (by decide) rfl
  have hKc : va_K (dC, dI) vwCl [(k_f4, .boolean), (k_f5, .int), (k_f6, .int), (k_f7, .int), (k_f8, .int), (k_f9, .int), (k_f10, .int), (k_f11, .int), (k_f12, .int), (k_f13, .int), (k_f14, .int), (k_f15, .int), (k_f16, .int)] s := hK.sub [0, 1, 2, 3, 4, 5, 6, 7, 8, 9, 10, 11, 12] rfl
  refine va_calli (va_runV (As := [.int p0, .int p1]) (rest := []) ⟨hx, hb, hml, hown, hts⟩ (c_E_8_slotOf l dC dI _ xa xtape tp rd au xdr hy g 0 tg sg 0 rm ti py bu sm nc 0 ne st0 q4 q5 q6 q7 q8 q9 q10 q11 q12 q13 q14 q15 q16 k_f4 f4 k_f5 q_f5 k_f6 q_f6 k_f7 f7 k_f8 q_f8 k_f9 q_f9 k_f10 f10 k_f11 f11 k_f12 f12 k_f13 f13 k_f14 f14 k_f15 f15 k_f16 f16 p0 p1 htp (Nat.le_of_ble_eq_true rfl) (Nat.le_of_ble_eq_true rfl) hnc (Nat.le_of_ble_eq_true rfl) hne (hst0)) (cwV 2 hts g_E_8_lets_0_E_8_slotOf rfl rfl rfl (by decide +kernel) ⟨Nat.le_of_ble_eq_true rfl, Nat.le_of_ble_eq_true rfl⟩) ⟨pu_bl, va_recv hK hP (ci := 8) (q0 := 0) rfl rfl, pu_in hPc hKc hDc⟩ rfl rfl hl.1 rfl (lv_room (Nat.le_of_ble_eq_true rfl)) eX8_lets_3 ⟨Nat.le_of_ble_eq_true rfl, Nat.le_of_ble_eq_true rfl⟩) hS (fun q _ h => pu_fr hS hA q h) (pu_fr hS hA) (fun r_1 u t H1 locs ht hvm hw hB hz1 hk1 hS => ?_)
  have hP := pu_keep hP hk1
  clear hPc hDc hKc
  clear hk1 hz1 ht hvm
  generalize H1 = H at hP hS ⊢
  obtain ⟨u_2, hu_2, mu_2, iu_2⟩ := hw
  have hsp := hsp.trans (slet_eq iu_2)
  rcases mI_get u_2 with ⟨zn_3, wn_3⟩ | ⟨n_3, zn_3, wn_3⟩
  · obtain rfl : r_1 = -1 := mu_2.trans wn_3
    have hsp := hsp.trans (if_pos zn_3)
    refine lv_istore (lv' := [(5, .int (-1)), (0, .ref xa), (1, .int p0), (2, .int p1), (3, .int p2), (4, .int p3)]) hx hb eX8_lets_6 hl (by decide) rfl (fun ls hl => ?_)
    refine lv_iload hx hb eX8_lets_8 (lv_at hl 0 rfl) ?_
    refine lv_iconst (v := (-1)) hx hb eX8_lets_10 (by decide) ?_
    refine lv_icmp_eq (tgt := 33) hx hb eX8_lets_11 (by decide) (fun _ => ?_) (fun z => absurd z (by decide))
    refine lv_iconst (v := (-1)) hx hb eX8_lets_33 (by decide) ?_
    exact W.iret (v := (-1)) hx hb hr (fun t ht hW => ⟨⟨(-1), (), rfl, (hsp.symm.trans hRR), trivial⟩, hS.F ht⟩) hS.2.2 eX8_lets_34
  · obtain rfl : r_1 = nI n_3 := mu_2.trans wn_3
    have hn_3 : n_3 ≤ 87 := by omega
    have hsp := hsp.trans (if_neg (by omega))
    have hsp := hsp.trans (slet_eq (by omega : n_3 = u_2 - 1))
    refine lv_istore (lv' := [(5, .int (nI n_3)), (0, .ref xa), (1, .int p0), (2, .int p1), (3, .int p2), (4, .int p3)]) hx hb eX8_lets_6 hl (by decide) rfl (fun ls hl => ?_)
    refine lv_iload hx hb eX8_lets_8 (lv_at hl 0 rfl) ?_
    refine lv_iconst (v := (-1)) hx hb eX8_lets_10 (by decide) ?_
    refine lv_icmp_eq (tgt := 33) hx hb eX8_lets_11 (by decide) (fun z => absurd z (pu_nneg (n := n_3) (by omega) (by decide))) (fun _ => ?_)
    refine lv_aload_n hx hb eX8_lets_14 rfl (lv_at hl 1 rfl) ?_
    refine lv_iload_n hx hb eX8_lets_15 rfl (lv_at hl 4 rfl) ?_
    have hPc : va_P (dC, dI) vwCl [(xa, .inr (8, [.ref xtape, .int (nI tp), .ref rd, .ref au, .ref xdr, .ref hy, .ref g, .int 0, .ref tg, .ref sg, .int 0, .ref rm, .ref ti, .ref py, .ref bu, .ref sm])), (au, .inr (0, [.int (nI nc), .int 0, .int (nI ne), .int st0, .ref q4, .ref q5, .ref q6, .ref q7, .ref q8, .ref q9, .ref q10, .ref q11, .ref q12, .ref q13, .ref q14, .ref q15, .ref q16]))] _ := hP.sub [0, 1] rfl
    have hDc : va_D (fun _ => True) [(xa, .inr (8, [.ref xtape, .int (nI tp), .ref rd, .ref au, .ref xdr, .ref hy, .ref g, .int 0, .ref tg, .ref sg, .int 0, .ref rm, .ref ti, .ref py, .ref bu, .ref sm])), (au, .inr (0, [.int (nI nc), .int 0, .int (nI ne), .int st0, .ref q4, .ref q5, .ref q6, .ref q7, .ref q8, .ref q9, .ref q10, .ref q11, .ref q12, .ref q13, .ref q14, .ref q15, .ref q16]))] := (zp_left hD).sub [0, 1] (by decide) rfl
    have hKc : va_K (dC, dI) vwCl [] s := hK.sub [] rfl
    refine va_calli (va_runV (As := [.int p2]) (rest := []) ⟨hx, hb, hml, hown, hts⟩ (c_E_8_isPlace l dC dI _ xa xtape tp rd au xdr hy g 0 tg sg 0 rm ti py bu sm nc 0 ne st0 q4 q5 q6 q7 q8 q9 q10 q11 q12 q13 q14 q15 q16 p2 htp (Nat.le_of_ble_eq_true rfl) (Nat.le_of_ble_eq_true rfl) hnc (Nat.le_of_ble_eq_true rfl) hne (hst0)) (cwV 1 hts g_E_8_lets_0_E_8_isPlace rfl rfl rfl (by decide +kernel) ⟨Nat.le_of_ble_eq_true rfl, Nat.le_of_ble_eq_true rfl⟩) ⟨pu_bl, va_recv hK hP (ci := 8) (q0 := 0) rfl rfl, pu_in hPc hKc hDc⟩ rfl rfl hl.1 rfl (lv_room (Nat.le_of_ble_eq_true rfl)) eX8_lets_16 ⟨Nat.le_of_ble_eq_true rfl, Nat.le_of_ble_eq_true rfl⟩) hS (fun q _ h => pu_fr hS hA q h) (pu_fr hS hA) (fun r_4 u t H1 locs ht hvm hw hB hz1 hk1 hS => ?_)
    have hP := pu_keep hP hk1
    clear hPc hDc hKc
    clear hk1 hz1 ht hvm
    generalize H1 = H at hP hS ⊢
    rcases hw with ⟨rfl, hw⟩ | ⟨rfl, hn⟩
    · obtain ⟨n_5, hn_5, -⟩ := hw
      exact absurd hn_5 (Nat.not_lt_zero _)
    · refine lv_if_eq (tgt := 33) hx hb eX8_lets_19 (by decide) (fun _ => ?_) (fun z => absurd z (by decide))
      refine lv_iconst (v := (-1)) hx hb eX8_lets_33 (by decide) ?_
      exact W.iret (v := (-1)) hx hb hr (fun t ht hW => ⟨⟨(-1), (), rfl, (hsp.symm.trans hRR), trivial⟩, hS.F ht⟩) hS.2.2 eX8_lets_34
