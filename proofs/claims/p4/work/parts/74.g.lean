theorem eX8_avoids_0 : decode cX8_avoids 0 = .ok (.aload_n 0, 1) := by decide +kernel
theorem eX8_avoids_1 : decode cX8_avoids 1 = .ok (.iload_n 1, 1) := by decide +kernel
theorem eX8_avoids_2 : decode cX8_avoids 2 = .ok (.invokevirtual 140, 3) := by decide +kernel
theorem eX8_avoids_5 : decode cX8_avoids 5 = .ok (.ifCond .eq 11, 3) := by decide +kernel
theorem eX8_avoids_16 : decode cX8_avoids 16 = .ok (.iconst (-1), 1) := by decide +kernel
theorem eX8_avoids_17 : decode cX8_avoids 17 = .ok (.ireturn, 1) := by decide +kernel
abbrev vs_C_8_avoids_0 : List Cond := .code yX8_avoids cX8_avoids 3 (some .int) :: CM
theorem g_C_8_avoids_0_C_8_isPlace : GoodIn vs_C_8_avoids_0 (wsV RX8 140 RX8 yX8_isPlace vs_C_8_isPlace) := cm_gV cm_471 cm_472 cm_473 cm_427 cm_474
set_option maxHeartbeats 4000000 in
set_option maxRecDepth 100000 in
theorem c_C_8_avoids_0 (l : Launch) (dC : Nat → ClassId) (dI : Nat → Nat → Nat) (sz : Nat) (xa : Nat) (xtape : Nat) (tp : Nat) (rd : Nat) (au : Nat) (xdr : Nat) (hy : Nat) (g : Nat) (tg : Nat) (sg : Nat) (rm : Nat) (ti : Nat) (py : Nat) (bu : Nat) (sm : Nat) (nc : Nat) (ne : Nat) (st0 : Int32) (q4 : Nat) (q5 : Nat) (q6 : Nat) (q7 : Nat) (q8 : Nat) (q9 : Nat) (q10 : Nat) (q11 : Nat) (q12 : Nat) (q13 : Nat) (q14 : Nat) (q15 : Nat) (q16 : Nat) (k_f4 : ClassId) (f4 : Nat → Int32) (k_f5 : ClassId) (q_f5 : Nat → Nat) (k_f6 : ClassId) (q_f6 : Nat → Nat) (k_f7 : ClassId) (f7 : Nat → Int32) (k_f8 : ClassId) (q_f8 : Nat → Nat) (k_f9 : ClassId) (q_f9 : Nat → Nat) (k_f10 : ClassId) (f10 : Nat → Int32) (k_f11 : ClassId) (f11 : Nat → Int32) (k_f12 : ClassId) (f12 : Nat → Int32) (k_f13 : ClassId) (f13 : Nat → Int32) (k_f14 : ClassId) (f14 : Nat → Int32) (k_f15 : ClassId) (f15 : Nat → Int32) (k_f16 : ClassId) (f16 : Nat → Int32) (tz : Nat) (t1 : Nat) (t2 : Nat) (t3 : Nat) (t4 : Nat) (t5 : Nat) (tc : Nat) (tfull : Nat) (tx : Int32) (tway : Int32) (tav : Int32) (tgoal : Int32) (tfound : Nat) (tl : Nat) (tsz : Nat) (t16 : Nat) (t17 : Nat) (k_ftz : ClassId) (k_s1t : ClassId) (q_s1t : Nat → Nat) (k_s2t : ClassId) (s2t : Nat → Int32) (k_s3t : ClassId) (s3t : Nat → Int32) (k_s4t : ClassId) (s4t : Nat → Int32) (k_s5t : ClassId) (s5t : Nat → Int32) (k_hit : ClassId) (hit : Nat → Int32) (k_lot : ClassId) (lot : Nat → Int32) (k_fbu : ClassId) (fbu : Nat → Int32) (N : Nat) (o : Nat) (az ac : Nat → Nat) (kz : Nat → ClassId) (qs : Nat → Nat) (fz : Nat → Nat → Int32) (p0 : Int32) (p1 : Int32) (htp : tp ≤ 900) (hnc : nc ≤ 3) (hne : ne ≤ 14) (hst0 : pm1 7 st0) (htc : tc ≤ 120) (htfull : tfull ≤ 1) (htfound : tfound ≤ 1) (htl : tl ≤ 1) (htsz : tsz ≤ 4) (hN : o + 121 ≤ N) : Met l yX8_avoids vs_C_8_avoids_0 ({ frames := 1, cells := 0, slots := 0, locals := 21 }) (va_Pc [.ref xa, .int p0, .int p1] (pu_B (dC, dI) ((xtr__w xa xtape (nI tp) rd au xdr hy g 0 tg sg 0 rm ti py bu sm (nI nc) 0 (nI ne) st0 q4 q5 q6 q7 q8 q9 q10 q11 q12 q13 q14 q15 q16 k_f4 f4 k_f5 (bN 7 q_f5) k_f6 (bN 7 q_f6) k_f7 f7 k_f8 (bN 4 q_f8) k_f9 (bN 2 q_f9) k_f10 f10 k_f11 f11 k_f12 f12 k_f13 f13 k_f14 f14 k_f15 f15 k_f16 f16 tz t1 t2 t3 t4 t5 (nI tc) (nI tfull) tx tway tav tgoal (nI tfound) 120 (nI tl) (nI tsz) t16 t17 k_ftz (zs o 121 az) k_s1t (bN 7 q_s1t) k_s2t s2t k_s3t s3t k_s4t s4t k_s5t s5t k_hit hit k_lot lot k_fbu fbu) ++ zp 4 16 N az ac kz qs fz) ((xtr__t k_f4 k_f5 k_f6 k_f7 k_f8 k_f9 k_f10 k_f11 k_f12 k_f13 k_f14 k_f15 k_f16 k_ftz k_s1t k_s2t k_s3t k_s4t k_s5t k_hit k_lot k_fbu) ++ zt N kz) sz)) (va_Qi (fun (r : Int32) (_ : Unit) => True) (fun _ _ => True) (va_A [] sz)) 0 0 (va_A [] sz) := by
  refine Met.ofW (cc := cX8_avoids) (maxL := 3) (ret := (some .int)) (by decide) rfl ?_
  intro p e s m args below meth c s₁ B hml hv
  obtain ⟨rfl, rfl, hP, hK, hD0⟩ := hv
  have hx := B.exec
  have hb := B.bytes
  have hr := B.returns
  have hts := atoms_spec (ws := vs_C_8_avoids_0) B.pre
  have hown : s.vm.findClass RX8 = some m.cls := findClass_of_methodNamed B.named
  have hlocks := B.notSynchronized
  have hD := hD0
  have hA : ∀ q : Nat, s.heap.size ≤ q → va_A [] s.heap.size q := fun _ h => Or.inr h
  have hS : va_S (va_A [] s.heap.size) s.heap s.heap [] := va_S.rf
  have hl := lv_entry ([.ref xa, .int p0, .int p1]) (n := 3) (Nat.le_of_ble_eq_true rfl)
  rw [lg_entry_eq]
  generalize (lg_sl ([.ref xa, .int p0, .int p1]) ++ List.replicate (3 - (lg_sl ([.ref xa, .int p0, .int p1])).length) Slot.unset).toArray = ls at hl ⊢
  have hl : lv_has ls 3 [(0, .ref xa), (1, .int p0), (2, .int p1)] := hl
  refine lv_aload_n hx hb eX8_avoids_0 rfl (lv_at hl 0 rfl) ?_
  refine lv_iload_n hx hb eX8_avoids_1 rfl (lv_at hl 1 rfl) ?_
  have hPc : va_P (dC, dI) vwCl [(xa, .inr (8, [.ref xtape, .int (nI tp), .ref rd, .ref au, .ref xdr, .ref hy, .ref g, .int 0, .ref tg, .ref sg, .int 0, .ref rm, .ref ti, .ref py, .ref bu, .ref sm])), (au, .inr (0, [.int (nI nc), .int 0, .int (nI ne), .int st0, .ref q4, .ref q5, .ref q6, .ref q7, .ref q8, .ref q9, .ref q10, .ref q11, .ref q12, .ref q13, .ref q14, .ref q15, .ref q16]))] _ := hP.sub [0, 1] rfl
  have hDc : va_D (fun _ => True) [(xa, .inr (8, [.ref xtape, .int (nI tp), .ref rd, .ref au, .ref xdr, .ref hy, .ref g, .int 0, .ref tg, .ref sg, .int 0, .ref rm, .ref ti, .ref py, .ref bu, .ref sm])), (au, .inr (0, [.int (nI nc), .int 0, .int (nI ne), .int st0, .ref q4, .ref q5, .ref q6, .ref q7, .ref q8, .ref q9, .ref q10, .ref q11, .ref q12, .ref q13, .ref q14, .ref q15, .ref q16]))] := (zp_left hD).sub [0, 1] (by decide) rfl
  have hKc : va_K (dC, dI) vwCl [] s := hK.sub [] rfl
  refine va_calli (va_runV (As := [.int p0]) (rest := []) ⟨hx, hb, hml, hown, hts⟩ (c_C_8_isPlace l dC dI _ xa xtape tp rd au xdr hy g 0 tg sg 0 rm ti py bu sm nc 0 ne st0 q4 q5 q6 q7 q8 q9 q10 q11 q12 q13 q14 q15 q16 p0 htp (Nat.le_of_ble_eq_true rfl) (Nat.le_of_ble_eq_true rfl) hnc (Nat.le_of_ble_eq_true rfl) hne (hst0)) (cwV 1 hts g_C_8_avoids_0_C_8_isPlace rfl rfl rfl (by decide +kernel) ⟨Nat.le_of_ble_eq_true rfl, Nat.le_of_ble_eq_true rfl⟩) ⟨pu_bl, va_recv hK hP (ci := 8) (q0 := 0) rfl rfl, pu_in hPc hKc hDc⟩ rfl rfl hl.1 rfl (lv_room (Nat.le_of_ble_eq_true rfl)) eX8_avoids_2 ⟨Nat.le_of_ble_eq_true rfl, Nat.le_of_ble_eq_true rfl⟩) hS (fun q _ h => pu_fr hS hA q h) (pu_fr hS hA) (fun r_1 u t H1 locs ht hvm hw hB hz1 hk1 hS => ?_)
  have hP := pu_keep hP hk1
  clear hPc hDc hKc
  clear hk1 hz1 ht hvm
  generalize H1 = H at hP hS ⊢
  rcases hw with ⟨rfl, hw⟩ | rfl
  · obtain ⟨n_2, hn_2, -⟩ := hw
    exact absurd hn_2 (Nat.not_lt_zero _)
  · refine lv_if_eq (tgt := 16) hx hb eX8_avoids_5 (by decide) (fun _ => ?_) (fun z => absurd z (by decide))
    refine lv_iconst (v := (-1)) hx hb eX8_avoids_16 (by decide) ?_
    exact W.iret (v := (-1)) hx hb hr (fun t ht hW => ⟨⟨(-1), (), rfl, trivial, trivial⟩, hS.F ht⟩) hS.2.2 eX8_avoids_17
theorem eX8_avoids_8 : decode cX8_avoids 8 = .ok (.aload_n 0, 1) := by decide +kernel
theorem eX8_avoids_9 : decode cX8_avoids 9 = .ok (.iload_n 2, 1) := by decide +kernel
theorem eX8_avoids_10 : decode cX8_avoids 10 = .ok (.invokevirtual 140, 3) := by decide +kernel
theorem eX8_avoids_13 : decode cX8_avoids 13 = .ok (.ifCond .ne 5, 3) := by decide +kernel
theorem eX8_avoids_18 : decode cX8_avoids 18 = .ok (.aload_n 0, 1) := by decide +kernel
theorem eX8_avoids_19 : decode cX8_avoids 19 = .ok (.iload_n 2, 1) := by decide +kernel
theorem eX8_avoids_20 : decode cX8_avoids 20 = .ok (.iload_n 1, 1) := by decide +kernel
theorem eX8_avoids_21 : decode cX8_avoids 21 = .ok (.invokevirtual 313, 3) := by decide +kernel
theorem eX8_avoids_24 : decode cX8_avoids 24 = .ok (.invokestatic 133, 3) := by decide +kernel
theorem eX8_avoids_27 : decode cX8_avoids 27 = .ok (.ireturn, 1) := by decide +kernel
abbrev vs_C_8_avoids : List Cond := .code yX8_avoids cX8_avoids 3 (some .int) :: CM
theorem g_C_8_avoids_C_8_isPlace : GoodIn vs_C_8_avoids (wsV RX8 140 RX8 yX8_isPlace vs_C_8_isPlace) := cm_gV cm_471 cm_472 cm_473 cm_427 cm_474
theorem g_C_8_avoids_C_8_canReach : GoodIn vs_C_8_avoids (wsV RX8 313 RX8 yX8_canReach vs_C_8_canReach) := cm_gV cm_594 cm_595 cm_596 cm_427 cm_597
theorem g_C_8_avoids_C_8_bit : GoodIn vs_C_8_avoids (va_wsS RX8 133 yX8_bit vs_C_8_bit) := cm_gS cm_463 cm_464 cm_427 cm_465
set_option maxHeartbeats 4000000 in
set_option maxRecDepth 100000 in
theorem c_C_8_avoids (l : Launch) (dC : Nat → ClassId) (dI : Nat → Nat → Nat) (sz : Nat) (xa : Nat) (xtape : Nat) (tp : Nat) (rd : Nat) (au : Nat) (xdr : Nat) (hy : Nat) (g : Nat) (hs : Nat) (tg : Nat) (sg : Nat) (ss : Nat) (rm : Nat) (ti : Nat) (py : Nat) (bu : Nat) (sm : Nat) (nc : Nat) (np : Nat) (ne : Nat) (st0 : Nat) (q4 : Nat) (q5 : Nat) (q6 : Nat) (q7 : Nat) (q8 : Nat) (q9 : Nat) (q10 : Nat) (q11 : Nat) (q12 : Nat) (q13 : Nat) (q14 : Nat) (q15 : Nat) (q16 : Nat) (k_f4 : ClassId) (f4 : Nat → Int32) (k_f5 : ClassId) (q_f5 : Nat → Nat) (k_f6 : ClassId) (q_f6 : Nat → Nat) (k_f7 : ClassId) (f7 : Nat → Int32) (k_f8 : ClassId) (q_f8 : Nat → Nat) (k_f9 : ClassId) (q_f9 : Nat → Nat) (k_f10 : ClassId) (f10 : Nat → Int32) (k_f11 : ClassId) (f11 : Nat → Int32) (k_f12 : ClassId) (f12 : Nat → Int32) (k_f13 : ClassId) (f13 : Nat → Int32) (k_f14 : ClassId) (f14 : Nat → Int32) (k_f15 : ClassId) (f15 : Nat → Int32) (k_f16 : ClassId) (f16 : Nat → Int32) (tz : Nat) (t1 : Nat) (t2 : Nat) (t3 : Nat) (t4 : Nat) (t5 : Nat) (tc : Nat) (tfull : Nat) (tx : Int32) (tway : Int32) (tav : Int32) (tgoal : Int32) (tfound : Nat) (tl : Nat) (tsz : Nat) (t16 : Nat) (t17 : Nat) (k_ftz : ClassId) (k_s1t : ClassId) (q_s1t : Nat → Nat) (k_s2t : ClassId) (s2t : Nat → Int32) (k_s3t : ClassId) (s3t : Nat → Int32) (k_s4t : ClassId) (s4t : Nat → Int32) (k_s5t : ClassId) (s5t : Nat → Int32) (k_hit : ClassId) (hit : Nat → Int32) (k_lot : ClassId) (lot : Nat → Int32) (k_fbu : ClassId) (fbu : Nat → Int32) (N : Nat) (o : Nat) (az ac : Nat → Nat) (kz : Nat → ClassId) (qs : Nat → Nat) (fz : Nat → Nat → Int32) (p0 : Int32) (p1 : Int32) (htp : tp ≤ 900) (hhs : hs ≤ 1) (hss : ss ≤ 1) (hnc : nc ≤ 3) (hnp : np ≤ 8) (hne : ne ≤ 14) (hst0 : st0 ≤ 7) (htc : tc ≤ 120) (htfull : tfull ≤ 1) (htfound : tfound ≤ 1) (htl : tl ≤ 1) (htsz : tsz ≤ 4) (hN : o + 121 ≤ N) (hq0 : gz_ok tc s2t s3t s4t) : Met l yX8_avoids vs_C_8_avoids ({ frames := 6, cells := 0, slots := 0, locals := 147 }) (va_Pc [.ref xa, .int p0, .int p1] (pu_B (dC, dI) ((xtr__w xa xtape (nI tp) rd au xdr hy g (nI hs) tg sg (nI ss) rm ti py bu sm (nI nc) (nI np) (nI ne) (nI st0) q4 q5 q6 q7 q8 q9 q10 q11 q12 q13 q14 q15 q16 k_f4 f4 k_f5 (bN 7 q_f5) k_f6 (bN 7 q_f6) k_f7 f7 k_f8 (bN 4 q_f8) k_f9 (bN 2 q_f9) k_f10 f10 k_f11 f11 k_f12 f12 k_f13 f13 k_f14 f14 k_f15 f15 k_f16 f16 tz t1 t2 t3 t4 t5 (nI tc) (nI tfull) tx tway tav tgoal (nI tfound) 120 (nI tl) (nI tsz) t16 t17 k_ftz (zs o 121 az) k_s1t (bN 7 q_s1t) k_s2t s2t k_s3t s3t k_s4t s4t k_s5t s5t k_hit hit k_lot lot k_fbu fbu) ++ zp 4 16 N az ac kz qs fz) ((xtr__t k_f4 k_f5 k_f6 k_f7 k_f8 k_f9 k_f10 k_f11 k_f12 k_f13 k_f14 k_f15 k_f16 k_ftz k_s1t k_s2t k_s3t k_s4t k_s5t k_hit k_lot k_fbu) ++ zt N kz) sz)) (va_Qi (fun (r : Int32) (_ : Unit) => True) (fun _ t => ∃ (z_s1t : Nat → Nat) (z_s2t : Nat → Int32) (z_s3t : Nat → Int32) (z_s4t : Nat → Int32) (z_s5t : Nat → Int32) (z_hit : Nat → Int32) (z_lot : Nat → Int32) (z_fbu : Nat → Int32) (z_tav : Int32) (z_tgoal : Int32) (z_tfound : Nat) (z_tl : Nat) (z_tsz : Nat) (z_tc : Nat) (z_tfull : Nat) (z_tx : Int32) (z_tway : Int32) (z_fz : Nat → Nat → Int32) (z_qs : Nat → Nat), pu_E (dC, dI) ((xtr__w xa xtape (nI tp) rd au xdr hy g (nI hs) tg sg (nI ss) rm ti py bu sm (nI nc) (nI np) (nI ne) (nI st0) q4 q5 q6 q7 q8 q9 q10 q11 q12 q13 q14 q15 q16 k_f4 f4 k_f5 (bN 7 q_f5) k_f6 (bN 7 q_f6) k_f7 f7 k_f8 (bN 4 q_f8) k_f9 (bN 2 q_f9) k_f10 f10 k_f11 f11 k_f12 f12 k_f13 f13 k_f14 f14 k_f15 f15 k_f16 f16 tz t1 t2 t3 t4 t5 (nI z_tc) (nI z_tfull) z_tx z_tway z_tav z_tgoal (nI z_tfound) 120 (nI z_tl) (nI z_tsz) t16 t17 k_ftz (zs o 121 az) k_s1t (bN 7 z_s1t) k_s2t z_s2t k_s3t z_s3t k_s4t z_s4t k_s5t z_s5t k_hit z_hit k_lot z_lot k_fbu z_fbu) ++ zp 4 16 N az ac kz z_qs z_fz) ((xtr__t k_f4 k_f5 k_f6 k_f7 k_f8 k_f9 k_f10 k_f11 k_f12 k_f13 k_f14 k_f15 k_f16 k_ftz k_s1t k_s2t k_s3t k_s4t k_s5t k_hit k_lot k_fbu) ++ zt N kz) (va_A (((xtr__w xa xtape (nI tp) rd au xdr hy g (nI hs) tg sg (nI ss) rm ti py bu sm (nI nc) (nI np) (nI ne) (nI st0) q4 q5 q6 q7 q8 q9 q10 q11 q12 q13 q14 q15 q16 k_f4 f4 k_f5 (bN 7 q_f5) k_f6 (bN 7 q_f6) k_f7 f7 k_f8 (bN 4 q_f8) k_f9 (bN 2 q_f9) k_f10 f10 k_f11 f11 k_f12 f12 k_f13 f13 k_f14 f14 k_f15 f15 k_f16 f16 tz t1 t2 t3 t4 t5 (nI tc) (nI tfull) tx tway tav tgoal (nI tfound) 120 (nI tl) (nI tsz) t16 t17 k_ftz (zs o 121 az) k_s1t (bN 7 q_s1t) k_s2t s2t k_s3t s3t k_s4t s4t k_s5t s5t k_hit hit k_lot lot k_fbu fbu) ++ zp 4 16 N az ac kz qs fz)) sz) t ∧ (z_tfound ≤ 1) ∧ (z_tl ≤ 1) ∧ (z_tsz ≤ 4) ∧ (z_tc ≤ 120) ∧ (z_tfull ≤ 1) ∧ (gz_ok z_tc z_s2t z_s3t z_s4t)) (va_A (((xtr__w xa xtape (nI tp) rd au xdr hy g (nI hs) tg sg (nI ss) rm ti py bu sm (nI nc) (nI np) (nI ne) (nI st0) q4 q5 q6 q7 q8 q9 q10 q11 q12 q13 q14 q15 q16 k_f4 f4 k_f5 (bN 7 q_f5) k_f6 (bN 7 q_f6) k_f7 f7 k_f8 (bN 4 q_f8) k_f9 (bN 2 q_f9) k_f10 f10 k_f11 f11 k_f12 f12 k_f13 f13 k_f14 f14 k_f15 f15 k_f16 f16 tz t1 t2 t3 t4 t5 (nI tc) (nI tfull) tx tway tav tgoal (nI tfound) 120 (nI tl) (nI tsz) t16 t17 k_ftz (zs o 121 az) k_s1t (bN 7 q_s1t) k_s2t s2t k_s3t s3t k_s4t s4t k_s5t s5t k_hit hit k_lot lot k_fbu fbu) ++ zp 4 16 N az ac kz qs fz)) sz)) 0 0 (va_A (((xtr__w xa xtape (nI tp) rd au xdr hy g (nI hs) tg sg (nI ss) rm ti py bu sm (nI nc) (nI np) (nI ne) (nI st0) q4 q5 q6 q7 q8 q9 q10 q11 q12 q13 q14 q15 q16 k_f4 f4 k_f5 (bN 7 q_f5) k_f6 (bN 7 q_f6) k_f7 f7 k_f8 (bN 4 q_f8) k_f9 (bN 2 q_f9) k_f10 f10 k_f11 f11 k_f12 f12 k_f13 f13 k_f14 f14 k_f15 f15 k_f16 f16 tz t1 t2 t3 t4 t5 (nI tc) (nI tfull) tx tway tav tgoal (nI tfound) 120 (nI tl) (nI tsz) t16 t17 k_ftz (zs o 121 az) k_s1t (bN 7 q_s1t) k_s2t s2t k_s3t s3t k_s4t s4t k_s5t s5t k_hit hit k_lot lot k_fbu fbu) ++ zp 4 16 N az ac kz qs fz)) sz) := by
  refine Met.ofW (cc := cX8_avoids) (maxL := 3) (ret := (some .int)) (by decide) rfl ?_
  intro p e s m args below meth c s₁ B hml hv
  obtain ⟨rfl, rfl, hP, hK, hD0⟩ := hv
  have hx := B.exec
  have hb := B.bytes
  have hr := B.returns
  have hts := atoms_spec (ws := vs_C_8_avoids) B.pre
  have hown : s.vm.findClass RX8 = some m.cls := findClass_of_methodNamed B.named
  have hlocks := B.notSynchronized
  have hD := hD0.self (sz := s.heap.size)
  generalize hAe : va_A (((xtr__w xa xtape (nI tp) rd au xdr hy g (nI hs) tg sg (nI ss) rm ti py bu sm (nI nc) (nI np) (nI ne) (nI st0) q4 q5 q6 q7 q8 q9 q10 q11 q12 q13 q14 q15 q16 k_f4 f4 k_f5 (bN 7 q_f5) k_f6 (bN 7 q_f6) k_f7 f7 k_f8 (bN 4 q_f8) k_f9 (bN 2 q_f9) k_f10 f10 k_f11 f11 k_f12 f12 k_f13 f13 k_f14 f14 k_f15 f15 k_f16 f16 tz t1 t2 t3 t4 t5 (nI tc) (nI tfull) tx tway tav tgoal (nI tfound) 120 (nI tl) (nI tsz) t16 t17 k_ftz (zs o 121 az) k_s1t (bN 7 q_s1t) k_s2t s2t k_s3t s3t k_s4t s4t k_s5t s5t k_hit hit k_lot lot k_fbu fbu) ++ zp 4 16 N az ac kz qs fz)) s.heap.size = A at hD ⊢
  have hA : ∀ q : Nat, s.heap.size ≤ q → A q := fun q h => by rw [← hAe]; exact Or.inr h
  have hS : va_S A s.heap s.heap [] := va_S.rf
  have hl := lv_entry ([.ref xa, .int p0, .int p1]) (n := 3) (Nat.le_of_ble_eq_true rfl)
  rw [lg_entry_eq]
  generalize (lg_sl ([.ref xa, .int p0, .int p1]) ++ List.replicate (3 - (lg_sl ([.ref xa, .int p0, .int p1])).length) Slot.unset).toArray = ls at hl ⊢
  have hl : lv_has ls 3 [(0, .ref xa), (1, .int p0), (2, .int p1)] := hl
  refine lv_aload_n hx hb eX8_avoids_0 rfl (lv_at hl 0 rfl) ?_
  refine lv_iload_n hx hb eX8_avoids_1 rfl (lv_at hl 1 rfl) ?_
  have hPc : va_P (dC, dI) vwCl [(xa, .inr (8, [.ref xtape, .int (nI tp), .ref rd, .ref au, .ref xdr, .ref hy, .ref g, .int (nI hs), .ref tg, .ref sg, .int (nI ss), .ref rm, .ref ti, .ref py, .ref bu, .ref sm])), (au, .inr (0, [.int (nI nc), .int (nI np), .int (nI ne), .int (nI st0), .ref q4, .ref q5, .ref q6, .ref q7, .ref q8, .ref q9, .ref q10, .ref q11, .ref q12, .ref q13, .ref q14, .ref q15, .ref q16]))] _ := hP.sub [0, 1] rfl
  have hDc : va_D A [(xa, .inr (8, [.ref xtape, .int (nI tp), .ref rd, .ref au, .ref xdr, .ref hy, .ref g, .int (nI hs), .ref tg, .ref sg, .int (nI ss), .ref rm, .ref ti, .ref py, .ref bu, .ref sm])), (au, .inr (0, [.int (nI nc), .int (nI np), .int (nI ne), .int (nI st0), .ref q4, .ref q5, .ref q6, .ref q7, .ref q8, .ref q9, .ref q10, .ref q11, .ref q12, .ref q13, .ref q14, .ref q15, .ref q16]))] := (zp_left hD).sub [0, 1] (by decide) rfl
  have hKc : va_K (dC, dI) vwCl [] s := hK.sub [] rfl
  refine va_calli (va_runV (As := [.int p0]) (rest := []) ⟨hx, hb, hml, hown, hts⟩ (c_C_8_isPlace l dC dI _ xa xtape tp rd au xdr hy g hs tg sg ss rm ti py bu sm nc np ne (nI st0) q4 q5 q6 q7 q8 q9 q10 q11 q12 q13 q14 q15 q16 p0 htp hhs hss hnc hnp hne (Or.inr ⟨st0, hst0, rfl⟩)) (cwV 1 hts g_C_8_avoids_C_8_isPlace rfl rfl rfl (by decide +kernel) ⟨Nat.le_of_ble_eq_true rfl, Nat.le_of_ble_eq_true rfl⟩) ⟨pu_bl, va_recv hK hP (ci := 8) (q0 := 0) rfl rfl, pu_in hPc hKc hDc⟩ rfl rfl hl.1 rfl (lv_room (Nat.le_of_ble_eq_true rfl)) eX8_avoids_2 ⟨Nat.le_of_ble_eq_true rfl, Nat.le_of_ble_eq_true rfl⟩) hS (fun q _ h => pu_fr hS hA q h) (pu_fr hS hA) (fun r_1 u t H1 locs ht hvm hw hB hz1 hk1 hS => ?_)
  have hP := pu_keep hP hk1
  clear hPc hDc hKc
  clear hk1 hz1 ht hvm
  generalize H1 = H at hP hS ⊢
  rcases hw with ⟨rfl, hw⟩ | rfl
  · obtain ⟨n_2, hn_2, rfl⟩ := hw
    refine lv_if_eq (tgt := 16) hx hb eX8_avoids_5 (by decide) (fun z => absurd z (by decide)) (fun _ => ?_)
    refine lv_aload_n hx hb eX8_avoids_8 rfl (lv_at hl 0 rfl) ?_
    refine lv_iload_n hx hb eX8_avoids_9 rfl (lv_at hl 2 rfl) ?_
    have hPc : va_P (dC, dI) vwCl [(xa, .inr (8, [.ref xtape, .int (nI tp), .ref rd, .ref au, .ref xdr, .ref hy, .ref g, .int (nI hs), .ref tg, .ref sg, .int (nI ss), .ref rm, .ref ti, .ref py, .ref bu, .ref sm])), (au, .inr (0, [.int (nI nc), .int (nI np), .int (nI ne), .int (nI st0), .ref q4, .ref q5, .ref q6, .ref q7, .ref q8, .ref q9, .ref q10, .ref q11, .ref q12, .ref q13, .ref q14, .ref q15, .ref q16]))] _ := hP.sub [0, 1] rfl
    have hDc : va_D A [(xa, .inr (8, [.ref xtape, .int (nI tp), .ref rd, .ref au, .ref xdr, .ref hy, .ref g, .int (nI hs), .ref tg, .ref sg, .int (nI ss), .ref rm, .ref ti, .ref py, .ref bu, .ref sm])), (au, .inr (0, [.int (nI nc), .int (nI np), .int (nI ne), .int (nI st0), .ref q4, .ref q5, .ref q6, .ref q7, .ref q8, .ref q9, .ref q10, .ref q11, .ref q12, .ref q13, .ref q14, .ref q15, .ref q16]))] := (zp_left hD).sub [0, 1] (by decide) rfl
    have hKc : va_K (dC, dI) vwCl [] s := hK.sub [] rfl
    refine va_calli (va_runV (As := [.int p1]) (rest := []) ⟨hx, hb, hml, hown, hts⟩ (c_C_8_isPlace l dC dI _ xa xtape tp rd au xdr hy g hs tg sg ss rm ti py bu sm nc np ne (nI st0) q4 q5 q6 q7 q8 q9 q10 q11 q12 q13 q14 q15 q16 p1 htp hhs hss hnc hnp hne (Or.inr ⟨st0, hst0, rfl⟩)) (cwV 1 hts g_C_8_avoids_C_8_isPlace rfl rfl rfl (by decide +kernel) ⟨Nat.le_of_ble_eq_true rfl, Nat.le_of_ble_eq_true rfl⟩) ⟨pu_bl, va_recv hK hP (ci := 8) (q0 := 0) rfl rfl, pu_in hPc hKc hDc⟩ rfl rfl hl.1 rfl (lv_room (Nat.le_of_ble_eq_true rfl)) eX8_avoids_10 ⟨Nat.le_of_ble_eq_true rfl, Nat.le_of_ble_eq_true rfl⟩) hS (fun q _ h => pu_fr hS hA q h) (pu_fr hS hA) (fun r_3 u t H1 locs ht hvm hw hB hz1 hk1 hS => ?_)
    have hP := pu_keep hP hk1
    clear hPc hDc hKc
    clear hk1 hz1 ht hvm
    generalize H1 = H at hP hS ⊢
    rcases hw with ⟨rfl, hw⟩ | rfl
    · obtain ⟨n_4, hn_4, rfl⟩ := hw
      refine lv_if_ne (tgt := 18) hx hb eX8_avoids_13 (by decide) (fun _ => ?_) (fun z => absurd z (by decide))
      refine lv_aload_n hx hb eX8_avoids_18 rfl (lv_at hl 0 rfl) ?_
      refine lv_iload_n hx hb eX8_avoids_19 rfl (lv_at hl 2 rfl) ?_
      refine lv_iload_n hx hb eX8_avoids_20 rfl (lv_at hl 1 rfl) ?_
      have hFc := pu_free hD hS hA
      refine va_calli (va_runV (As := [.int (nI n_4), .int (nI n_2)]) (rest := []) ⟨hx, hb, hml, hown, hts⟩ (c_C_8_canReach l dC dI _ xa xtape tp rd au xdr hy g hs tg sg ss rm ti py bu sm nc np ne st0 q4 q5 q6 q7 q8 q9 q10 q11 q12 q13 q14 q15 q16 k_f4 f4 k_f5 q_f5 k_f6 q_f6 k_f7 f7 k_f8 q_f8 k_f9 q_f9 k_f10 f10 k_f11 f11 k_f12 f12 k_f13 f13 k_f14 f14 k_f15 f15 k_f16 f16 tz t1 t2 t3 t4 t5 tc tfull tx tway tav tgoal tfound tl tsz t16 t17 k_ftz k_s1t q_s1t k_s2t s2t k_s3t s3t k_s4t s4t k_s5t s5t k_hit hit k_lot lot k_fbu fbu N o az ac kz qs fz (nI n_4) (nI n_2) htp hhs hss hnc hnp hne hst0 htc htfull htfound htl htsz (by omega) (by assumption)) (cwV 2 hts g_C_8_avoids_C_8_canReach rfl rfl rfl (by decide +kernel) ⟨Nat.le_of_ble_eq_true rfl, Nat.le_of_ble_eq_true rfl⟩) ⟨pu_bl, va_recv hK hP (ci := 8) (q0 := 0) rfl rfl, pu_in hP hK hD⟩ rfl rfl hl.1 rfl (lv_room (Nat.le_of_ble_eq_true rfl)) eX8_avoids_21 ⟨Nat.le_of_ble_eq_true rfl, Nat.le_of_ble_eq_true rfl⟩) hS (fun q _ h => hFc q h) hFc (fun r_5 u t H1 locs ht hvm hw hB hz1 hk1 hS => ?_)
      obtain ⟨z_s1t_6, z_s2t_7, z_s3t_8, z_s4t_9, z_s5t_10, z_hit_11, z_lot_12, z_fbu_13, z_tav_14, z_tgoal_15, z_tfound_16, z_tl_17, z_tsz_18, z_tc_19, z_tfull_20, z_tx_21, z_tway_22, z_fz_23, z_qs_24, ⟨hP1, -, hD1⟩, hz_tfound_16, hz_tl_17, hz_tsz_18, hz_tc_19, hz_tfull_20, xr_5_0⟩ := hB
      rw [ht] at hP1
      have hP := hP1
      have hD := pu_all hFc hD1
      clear hP1 hD1 hFc
      clear hk1 hz1 ht hvm
      generalize H1 = H at hP hS ⊢
      obtain ⟨u_25, hu_25, rfl⟩ := hw
      have hPc : va_P (dC, dI) vwCl [] _ := hP.sub [] rfl
      have hDc : va_D A [] := (zp_left hD).sub [] (by decide) rfl
      have hKc : va_K (dC, dI) vwCl [] s := hK.sub [] rfl
      refine va_calli (va_runS (As := [.int (nI u_25)]) (rest := []) ⟨hx, hb, hml, hown, hts⟩ (c_C_8_bit l dC dI _ (nI u_25)) (va_cwS 1 hts g_C_8_avoids_C_8_bit rfl rfl rfl (by decide +kernel) ⟨Nat.le_of_ble_eq_true rfl, Nat.le_of_ble_eq_true rfl⟩) ⟨pu_bl, pu_in hPc hKc hDc⟩ rfl rfl hl.1 rfl (lv_room (Nat.le_of_ble_eq_true rfl)) eX8_avoids_24 ⟨Nat.le_of_ble_eq_true rfl, Nat.le_of_ble_eq_true rfl⟩) hS (fun q _ h => pu_fr hS hA q h) (pu_fr hS hA) (fun r_26 u t H1 locs ht hvm hw hB hz1 hk1 hS => ?_)
      have hP := pu_keep hP hk1
      clear hPc hDc hKc
      clear hk1 hz1 ht hvm
      generalize H1 = H at hP hS ⊢
      obtain ⟨u_27, hu_27, rfl⟩ := hw
      exact W.iret (v := (nI u_27)) hx hb hr (fun t ht hW => ⟨⟨(nI u_27), (), rfl, trivial, ⟨z_s1t_6, z_s2t_7, z_s3t_8, z_s4t_9, z_s5t_10, z_hit_11, z_lot_12, z_fbu_13, z_tav_14, z_tgoal_15, z_tfound_16, z_tl_17, z_tsz_18, z_tc_19, z_tfull_20, z_tx_21, z_tway_22, z_fz_23, z_qs_24, ⟨by rw [ht]; exact hP, va_K.moved hW.alike hK, hD⟩, hz_tfound_16, hz_tl_17, hz_tsz_18, hz_tc_19, hz_tfull_20, by first | assumption | exact gz_0⟩⟩, hS.F ht⟩) hS.2.2 eX8_avoids_27
    · refine lv_if_ne (tgt := 18) hx hb eX8_avoids_13 (by decide) (fun z => absurd z (by decide)) (fun _ => ?_)
      refine lv_iconst (v := (-1)) hx hb eX8_avoids_16 (by decide) ?_
      exact W.iret (v := (-1)) hx hb hr (fun t ht hW => ⟨⟨(-1), (), rfl, trivial, ⟨q_s1t, s2t, s3t, s4t, s5t, hit, lot, fbu, tav, tgoal, tfound, tl, tsz, tc, tfull, tx, tway, fz, qs, ⟨by rw [ht]; exact hP, va_K.moved hW.alike hK, hD⟩, htfound, htl, htsz, htc, htfull, by first | assumption | exact gz_0⟩⟩, hS.F ht⟩) hS.2.2 eX8_avoids_17
  · refine lv_if_eq (tgt := 16) hx hb eX8_avoids_5 (by decide) (fun _ => ?_) (fun z => absurd z (by decide))
    refine lv_iconst (v := (-1)) hx hb eX8_avoids_16 (by decide) ?_
    exact W.iret (v := (-1)) hx hb hr (fun t ht hW => ⟨⟨(-1), (), rfl, trivial, ⟨q_s1t, s2t, s3t, s4t, s5t, hit, lot, fbu, tav, tgoal, tfound, tl, tsz, tc, tfull, tx, tway, fz, qs, ⟨by rw [ht]; exact hP, va_K.moved hW.alike hK, hD⟩, htfound, htl, htsz, htc, htfull, by first | assumption | exact gz_0⟩⟩, hS.F ht⟩) hS.2.2 eX8_avoids_17
