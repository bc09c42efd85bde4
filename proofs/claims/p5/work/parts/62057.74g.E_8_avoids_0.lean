theorem eX8_avoids_0 : decode cX8_avoids 0 = .ok (.aload_n 0, 1) := by decide +kernel
theorem eX8_avoids_1 : decode cX8_avoids 1 = .ok (.iload_n 1, 1) := by decide +kernel
theorem eX8_avoids_2 : decode cX8_avoids 2 = .ok (.invokevirtual 140, 3) := by decide +kernel
theorem eX8_avoids_5 : decode cX8_avoids 5 = .ok (.ifCond .eq 11, 3) := by decide +kernel
theorem eX8_avoids_16 : decode cX8_avoids 16 = .ok (.iconst (-1), 1) := by decide +kernel
theorem eX8_avoids_17 : decode cX8_avoids 17 = .ok (.ireturn, 1) := by decide +kernel
abbrev vs_E_8_avoids_0 : List Cond := .code yX8_avoids cX8_avoids 3 (some .int) :: CM
theorem g_E_8_avoids_0_E_8_isPlace : GoodIn vs_E_8_avoids_0 (wsV RX8 140 RX8 yX8_isPlace vs_E_8_isPlace) := cm_gV cm_471 cm_472 cm_473 cm_427 cm_474
noncomputable def sp_E_8_avoids_0 : Int32 := (-1)
set_option maxHeartbeats 4000000 in
set_option maxRecDepth 100000 in
theorem c_E_8_avoids_0 (l : Launch) (dC : Nat → ClassId) (dI : Nat → Nat → Nat) (sz : Nat) (xa : Nat) (xtape : Nat) (tp : Nat) (rd : Nat) (au : Nat) (xdr : Nat) (hy : Nat) (g : Nat) (tg : Nat) (sg : Nat) (rm : Nat) (ti : Nat) (py : Nat) (bu : Nat) (sm : Nat) (nc : Nat) (ne : Nat) (st0 : Int32) (q4 : Nat) (q5 : Nat) (q6 : Nat) (q7 : Nat) (q8 : Nat) (q9 : Nat) (q10 : Nat) (q11 : Nat) (q12 : Nat) (q13 : Nat) (q14 : Nat) (q15 : Nat) (q16 : Nat) (k_f4 : ClassId) (f4 : Nat → Int32) (k_f5 : ClassId) (q_f5 : Nat → Nat) (k_f6 : ClassId) (q_f6 : Nat → Nat) (k_f7 : ClassId) (f7 : Nat → Int32) (k_f8 : ClassId) (q_f8 : Nat → Nat) (k_f9 : ClassId) (q_f9 : Nat → Nat) (k_f10 : ClassId) (f10 : Nat → Int32) (k_f11 : ClassId) (f11 : Nat → Int32) (k_f12 : ClassId) (f12 : Nat → Int32) (k_f13 : ClassId) (f13 : Nat → Int32) (k_f14 : ClassId) (f14 : Nat → Int32) (k_f15 : ClassId) (f15 : Nat → Int32) (k_f16 : ClassId) (f16 : Nat → Int32) (tz : Nat) (t1 : Nat) (t2 : Nat) (t3 : Nat) (t4 : Nat) (t5 : Nat) (tc : Nat) (tfull : Nat) (tx : Int32) (tway : Int32) (tav : Int32) (tgoal : Int32) (tfound : Nat) (tl : Nat) (tsz : Nat) (t16 : Nat) (t17 : Nat) (k_ftz : ClassId) (k_s1t : ClassId) (q_s1t : Nat → Nat) (k_s2t : ClassId) (s2t : Nat → Int32) (k_s3t : ClassId) (s3t : Nat → Int32) (k_s4t : ClassId) (s4t : Nat → Int32) (k_s5t : ClassId) (s5t : Nat → Int32) (k_hit : ClassId) (hit : Nat → Int32) (k_lot : ClassId) (lot : Nat → Int32) (k_fbu : ClassId) (fbu : Nat → Int32) (N : Nat) (o : Nat) (az ac : Nat → Nat) (kz : Nat → ClassId) (qs : Nat → Nat) (fz : Nat → Nat → Int32) (p0 : Int32) (p1 : Int32) (htp : tp ≤ 900) (hnc : nc ≤ 3) (hne : ne ≤ 14) (hst0 : pm1 7 st0) (htc : tc ≤ 120) (htfull : tfull ≤ 1) (htfound : tfound ≤ 1) (htl : tl ≤ 1) (htsz : tsz ≤ 4) (hN : o + 121 ≤ N) : Met l yX8_avoids vs_E_8_avoids_0 ({ frames := 1, cells := 0, slots := 0, locals := 21 }) (va_Pc [.ref xa, .int p0, .int p1] (pu_B (dC, dI) ((xtr__w xa xtape (nI tp) rd au xdr hy g 0 tg sg 0 rm ti py bu sm (nI nc) 0 (nI ne) st0 q4 q5 q6 q7 q8 q9 q10 q11 q12 q13 q14 q15 q16 k_f4 f4 k_f5 (bN 7 q_f5) k_f6 (bN 7 q_f6) k_f7 f7 k_f8 (bN 4 q_f8) k_f9 (bN 2 q_f9) k_f10 f10 k_f11 f11 k_f12 f12 k_f13 f13 k_f14 f14 k_f15 f15 k_f16 f16 tz t1 t2 t3 t4 t5 (nI tc) (nI tfull) tx tway tav tgoal (nI tfound) 120 (nI tl) (nI tsz) t16 t17 k_ftz (zs o 121 az) k_s1t (bN 7 q_s1t) k_s2t s2t k_s3t s3t k_s4t s4t k_s5t s5t k_hit hit k_lot lot k_fbu fbu) ++ zp 4 16 N az ac kz qs fz) ((xtr__t k_f4 k_f5 k_f6 k_f7 k_f8 k_f9 k_f10 k_f11 k_f12 k_f13 k_f14 k_f15 k_f16 k_ftz k_s1t k_s2t k_s3t k_s4t k_s5t k_hit k_lot k_fbu) ++ zt N kz) sz)) (va_Qi (fun (r : Int32) (_ : Unit) => r = sp_E_8_avoids_0) (fun _ _ => True) (va_A [] sz)) 0 0 (va_A [] sz) := by
  refine Met.ofW (cc := cX8_avoids) (maxL := 3) (ret := (some .int)) (by decide) rfl ?_
  intro p e s m args below meth c s₁ B hml hv
  obtain ⟨rfl, rfl, hP, hK, hD0⟩ := hv
  have hx := B.exec
  have hb := B.bytes
  have hr := B.returns
  have hts := atoms_spec (ws := vs_E_8_avoids_0) B.pre
  have hown : s.vm.findClass RX8 = some m.cls := findClass_of_methodNamed B.named
  have hlocks := B.notSynchronized
  have hD := hD0
  have hA : ∀ q : Nat, s.heap.size ≤ q → va_A [] s.heap.size q := fun _ h => Or.inr h
  have hS : va_S (va_A [] s.heap.size) s.heap s.heap [] := va_S.rf
  have hl := lv_entry ([.ref xa, .int p0, .int p1]) (n := 3) (Nat.le_of_ble_eq_true rfl)
  rw [lg_entry_eq]
  generalize (lg_sl ([.ref xa, .int p0, .int p1]) ++ List.replicate (3 - (lg_sl ([.ref xa, .int p0, .int p1])).length) Slot.unset).toArray = ls at hl ⊢
  have hl : lv_has ls 3 [(0, .ref xa), (1, .int p0), (2, .int p1)] := hl
  obtain ⟨RR, hRR⟩ : ∃ x, x = sp_E_8_avoids_0 := ⟨_, rfl⟩
  have hsp := hRR
  refine lv_aload_n hx hb eX8_avoids_0 rfl (lv_at hl 0 rfl) ?_
  refine lv_iload_n hx hb eX8_avoids_1 rfl (lv_at hl 1 rfl) ?_
  have hPc : va_P (dC, dI) vwCl [(xa, .inr (8, [.ref xtape, .int (nI tp), .ref rd, .ref au, .ref xdr, .ref hy, .ref g, .int 0, .ref tg, .ref sg, .int 0, .ref rm, .ref ti, .ref py, .ref bu, .ref sm])), (au, .inr (0, [.int (nI nc), .int 0, .int (nI ne), .int st0, .ref q4, .ref q5, .ref q6, .ref q7, .ref q8, .ref q9, .ref q10, .ref q11, .ref q12, .ref q13, .ref q14, .ref q15, .ref q16]))] _ := hP.sub [0, 1] rfl
  have hDc : va_D (fun _ => True) [(xa, .inr (8, [.ref xtape, .int (nI tp), .ref rd, .ref au, .ref xdr, .ref hy, .ref g, .int 0, .ref tg, .ref sg, .int 0, .ref rm, .ref ti, .ref py, .ref bu, .ref sm])), (au, .inr (0, [.int (nI nc), .int 0, .int (nI ne), .int st0, .ref q4, .ref q5, .ref q6, .ref q7, .ref q8, .ref q9, .ref q10, .ref q11, .ref q12, .ref q13, .ref q14, .ref q15, .ref q16]))] := (zp_left hD).sub [0, 1] (by decide) rfl
  have hKc : va_K (dC, dI) vwCl [] s := hK.sub [] rfl
  refine va_calli (va_runV (As := [.int p0]) (rest := []) ⟨hx, hb, hml, hown, hts⟩ (c_E_8_isPlace l dC dI _ xa xtape tp rd au xdr hy g 0 tg sg 0 rm ti py bu sm nc 0 ne st0 q4 q5 q6 q7 q8 q9 q10 q11 q12 q13 q14 q15 q16 p0 htp (Nat.le_of_ble_eq_true rfl) (Nat.le_of_ble_eq_true rfl) hnc (Nat.le_of_ble_eq_true rfl) hne (hst0)) (cwV 1 hts g_E_8_avoids_0_E_8_isPlace rfl rfl rfl (by decide +kernel) ⟨Nat.le_of_ble_eq_true rfl, Nat.le_of_ble_eq_true rfl⟩) ⟨pu_bl, va_recv hK hP (ci := 8) (q0 := 0) rfl rfl, pu_in hPc hKc hDc⟩ rfl rfl hl.1 rfl (lv_room (Nat.le_of_ble_eq_true rfl)) eX8_avoids_2 ⟨Nat.le_of_ble_eq_true rfl, Nat.le_of_ble_eq_true rfl⟩) hS (fun q _ h => pu_fr hS hA q h) (pu_fr hS hA) (fun r_1 u t H1 locs ht hvm hw hB hz1 hk1 hS => ?_)
  have hP := pu_keep hP hk1
  clear hPc hDc hKc
  clear hk1 hz1 ht hvm
  generalize H1 = H at hP hS ⊢
  rcases hw with ⟨rfl, hw⟩ | ⟨rfl, hn⟩
  · obtain ⟨n_2, hn_2, -⟩ := hw
    exact absurd hn_2 (Nat.not_lt_zero _)
  · refine lv_if_eq (tgt := 16) hx hb eX8_avoids_5 (by decide) (fun _ => ?_) (fun z => absurd z (by decide))
    refine lv_iconst (v := (-1)) hx hb eX8_avoids_16 (by decide) ?_
    exact W.iret (v := (-1)) hx hb hr (fun t ht hW => ⟨⟨(-1), (), rfl, (hsp.symm.trans hRR), trivial⟩, hS.F ht⟩) hS.2.2 eX8_avoids_17
