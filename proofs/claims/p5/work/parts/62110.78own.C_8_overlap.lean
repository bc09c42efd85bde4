theorem eX8_overlap_0 : decode cX8_overlap 0 = .ok (.aload_n 0, 1) := by decide +kernel
theorem eX8_overlap_1 : decode cX8_overlap 1 = .ok (.iload_n 1, 1) := by decide +kernel
theorem eX8_overlap_2 : decode cX8_overlap 2 = .ok (.invokevirtual 228, 3) := by decide +kernel
theorem eX8_overlap_5 : decode cX8_overlap 5 = .ok (.ifCond .eq 11, 3) := by decide +kernel
theorem eX8_overlap_8 : decode cX8_overlap 8 = .ok (.aload_n 0, 1) := by decide +kernel
theorem eX8_overlap_9 : decode cX8_overlap 9 = .ok (.iload_n 2, 1) := by decide +kernel
theorem eX8_overlap_10 : decode cX8_overlap 10 = .ok (.invokevirtual 228, 3) := by decide +kernel
theorem eX8_overlap_13 : decode cX8_overlap 13 = .ok (.ifCond .ne 5, 3) := by decide +kernel
theorem eX8_overlap_16 : decode cX8_overlap 16 = .ok (.iconst (-1), 1) := by decide +kernel
theorem eX8_overlap_17 : decode cX8_overlap 17 = .ok (.ireturn, 1) := by decide +kernel
theorem eX8_overlap_18 : decode cX8_overlap 18 = .ok (.aload_n 0, 1) := by decide +kernel
theorem eX8_overlap_19 : decode cX8_overlap 19 = .ok (.getfield 55, 3) := by decide +kernel
theorem eX8_overlap_22 : decode cX8_overlap 22 = .ok (.aload_n 0, 1) := by decide +kernel
theorem eX8_overlap_23 : decode cX8_overlap 23 = .ok (.getfield 42, 3) := by decide +kernel
theorem eX8_overlap_26 : decode cX8_overlap 26 = .ok (.getfield 249, 3) := by decide +kernel
theorem eX8_overlap_29 : decode cX8_overlap 29 = .ok (.iload_n 1, 1) := by decide +kernel
theorem eX8_overlap_30 : decode cX8_overlap 30 = .ok (.aaload, 1) := by decide +kernel
theorem eX8_overlap_31 : decode cX8_overlap 31 = .ok (.aload_n 0, 1) := by decide +kernel
theorem eX8_overlap_32 : decode cX8_overlap 32 = .ok (.getfield 42, 3) := by decide +kernel
theorem eX8_overlap_35 : decode cX8_overlap 35 = .ok (.getfield 249, 3) := by decide +kernel
theorem eX8_overlap_38 : decode cX8_overlap 38 = .ok (.iload_n 2, 1) := by decide +kernel
theorem eX8_overlap_39 : decode cX8_overlap 39 = .ok (.aaload, 1) := by decide +kernel
theorem eX8_overlap_40 : decode cX8_overlap 40 = .ok (.invokevirtual 292, 3) := by decide +kernel
theorem eX8_overlap_43 : decode cX8_overlap 43 = .ok (.invokestatic 133, 3) := by decide +kernel
theorem eX8_overlap_46 : decode cX8_overlap 46 = .ok (.ireturn, 1) := by decide +kernel
abbrev vs_C_8_overlap : List Cond := .code yX8_overlap cX8_overlap 3 (some .int) :: CM
theorem g_C_8_overlap_E_8_isState : GoodIn vs_C_8_overlap (wsV RX8 228 RX8 yX8_isState vs_E_8_isState) := cm_gV cm_537 cm_538 cm_539 cm_427 cm_530
theorem g_C_8_overlap_C_5_meet : GoodIn vs_C_8_overlap (wsV RX8 292 RX5 yX5_meet vs_C_5_meet) := cm_gV cm_578 cm_357 cm_358 cm_332 cm_341
theorem g_C_8_overlap_E_8_bit : GoodIn vs_C_8_overlap (va_wsS RX8 133 yX8_bit vs_E_8_bit) := cm_gS cm_463 cm_464 cm_427 cm_465
set_option maxHeartbeats 4000000 in
set_option maxRecDepth 100000 in
theorem c_C_8_overlap (l : Launch) (dC : Nat → ClassId) (dI : Nat → Nat → Nat) (sz : Nat) (xa : Nat) (xtape : Nat) (tp : Nat) (rd : Nat) (au : Nat) (xdr : Nat) (hy : Nat) (g : Nat) (hs : Nat) (tg : Nat) (sg : Nat) (ss : Nat) (rm : Nat) (ti : Nat) (py : Nat) (bu : Nat) (sm : Nat) (nc : Nat) (np : Nat) (ne : Nat) (st0 : Int32) (q4 : Nat) (q5 : Nat) (q6 : Nat) (q7 : Nat) (q8 : Nat) (q9 : Nat) (q10 : Nat) (q11 : Nat) (q12 : Nat) (q13 : Nat) (q14 : Nat) (q15 : Nat) (q16 : Nat) (k_f4 : ClassId) (f4 : Nat → Int32) (k_f5 : ClassId) (q_f5 : Nat → Nat) (k_f6 : ClassId) (q_f6 : Nat → Nat) (k_f7 : ClassId) (f7 : Nat → Int32) (k_f8 : ClassId) (q_f8 : Nat → Nat) (k_f9 : ClassId) (q_f9 : Nat → Nat) (k_f10 : ClassId) (f10 : Nat → Int32) (k_f11 : ClassId) (f11 : Nat → Int32) (k_f12 : ClassId) (f12 : Nat → Int32) (k_f13 : ClassId) (f13 : Nat → Int32) (k_f14 : ClassId) (f14 : Nat → Int32) (k_f15 : ClassId) (f15 : Nat → Int32) (k_f16 : ClassId) (f16 : Nat → Int32) (rcv : Nat) (rk : Nat) (rmd : Nat) (ru : Nat) (rpc : Nat) (rct : Nat) (rce : Nat) (k_fcv : ClassId) (fcv : Nat → Option Nat) (k_fmd : ClassId) (k_fpc : ClassId) (k_fct : ClassId) (fct : Nat → Int32) (k_fce : ClassId) (q_fce : Nat → Nat) (gz : Nat) (g1 : Nat) (g2 : Nat) (g3 : Nat) (g4 : Nat) (g5 : Nat) (gc : Nat) (gfull : Nat) (gx : Int32) (gway : Int32) (gav : Int32) (ggoal : Int32) (gfound : Nat) (gl : Nat) (gsz : Nat) (g16 : Nat) (g17 : Nat) (k_fgz : ClassId) (k_s1g : ClassId) (q_s1g : Nat → Nat) (k_s2g : ClassId) (s2g : Nat → Int32) (k_s3g : ClassId) (s3g : Nat → Int32) (k_s4g : ClassId) (s4g : Nat → Int32) (k_s5g : ClassId) (s5g : Nat → Int32) (k_hig : ClassId) (hig : Nat → Int32) (k_log : ClassId) (log : Nat → Int32) (N : Nat) (az ac : Nat → Nat) (kz : Nat → ClassId) (qs : Nat → Nat) (fz : Nat → Nat → Int32) (p0 : Int32) (p1 : Int32) (htp : tp ≤ 900) (hhs : hs ≤ 1) (hss : ss ≤ 1) (hnc : nc ≤ 3) (hnp : np ≤ 8) (hne : ne ≤ 14) (hst0 : pm1 7 st0) (hrk : rk ≤ 120) (hru : ru ≤ 28) (hgc : gc ≤ 120) (hgfull : gfull ≤ 1) (hgfound : gfound ≤ 1) (hgl : gl ≤ 1) (hgsz : gsz ≤ 4) (hN : 393 ≤ N) : Met l yX8_overlap vs_C_8_overlap ({ frames := 2, cells := 0, slots := 0, locals := 53 }) (va_Pc [.ref xa, .int p0, .int p1] (pu_B (dC, dI) ((xrm__w xa xtape (nI tp) rd au xdr hy g (nI hs) tg sg (nI ss) rm ti py bu sm (nI nc) (nI np) (nI ne) st0 q4 q5 q6 q7 q8 q9 q10 q11 q12 q13 q14 q15 q16 k_f4 f4 k_f5 (bN 7 q_f5) k_f6 (bN 7 q_f6) k_f7 f7 k_f8 (bN 4 q_f8) k_f9 (bN 2 q_f9) k_f10 f10 k_f11 f11 k_f12 f12 k_f13 f13 k_f14 f14 k_f15 f15 k_f16 f16 rcv (nI rk) rmd (nI ru) rpc rct rce (az 392) k_fcv fcv k_fmd (zs 242 28 az) k_fpc (zs 270 122 az) k_fct fct k_fce (bN 16 q_fce) gz g1 g2 g3 g4 g5 (nI gc) (nI gfull) gx gway gav ggoal (nI gfound) 120 (nI gl) (nI gsz) g16 g17 k_fgz (zs 121 121 az) k_s1g (bN 7 q_s1g) k_s2g s2g k_s3g s3g k_s4g s4g k_s5g s5g k_hig hig k_log log) ++ zp 4 16 N az ac kz qs fz) ((xrm__t k_f4 k_f5 k_f6 k_f7 k_f8 k_f9 k_f10 k_f11 k_f12 k_f13 k_f14 k_f15 k_f16 k_fcv k_fmd k_fpc k_fct k_fce k_fgz k_s1g k_s2g k_s3g k_s4g k_s5g k_hig k_log) ++ zt N kz) sz)) (va_Qi (fun (r : Int32) (_ : Unit) => True) (fun _ t => ∃ (z_fz : Nat → Nat → Int32) (z_qs : Nat → Nat), pu_E (dC, dI) ((xrm__w xa xtape (nI tp) rd au xdr hy g (nI hs) tg sg (nI ss) rm ti py bu sm (nI nc) (nI np) (nI ne) st0 q4 q5 q6 q7 q8 q9 q10 q11 q12 q13 q14 q15 q16 k_f4 f4 k_f5 (bN 7 q_f5) k_f6 (bN 7 q_f6) k_f7 f7 k_f8 (bN 4 q_f8) k_f9 (bN 2 q_f9) k_f10 f10 k_f11 f11 k_f12 f12 k_f13 f13 k_f14 f14 k_f15 f15 k_f16 f16 rcv (nI rk) rmd (nI ru) rpc rct rce (az 392) k_fcv fcv k_fmd (zs 242 28 az) k_fpc (zs 270 122 az) k_fct fct k_fce (bN 16 q_fce) gz g1 g2 g3 g4 g5 (nI gc) (nI gfull) gx gway gav ggoal (nI gfound) 120 (nI gl) (nI gsz) g16 g17 k_fgz (zs 121 121 az) k_s1g (bN 7 q_s1g) k_s2g s2g k_s3g s3g k_s4g s4g k_s5g s5g k_hig hig k_log log) ++ zp 4 16 N az ac kz z_qs z_fz) ((xrm__t k_f4 k_f5 k_f6 k_f7 k_f8 k_f9 k_f10 k_f11 k_f12 k_f13 k_f14 k_f15 k_f16 k_fcv k_fmd k_fpc k_fct k_fce k_fgz k_s1g k_s2g k_s3g k_s4g k_s5g k_hig k_log) ++ zt N kz) (va_A (((xrm__w xa xtape (nI tp) rd au xdr hy g (nI hs) tg sg (nI ss) rm ti py bu sm (nI nc) (nI np) (nI ne) st0 q4 q5 q6 q7 q8 q9 q10 q11 q12 q13 q14 q15 q16 k_f4 f4 k_f5 (bN 7 q_f5) k_f6 (bN 7 q_f6) k_f7 f7 k_f8 (bN 4 q_f8) k_f9 (bN 2 q_f9) k_f10 f10 k_f11 f11 k_f12 f12 k_f13 f13 k_f14 f14 k_f15 f15 k_f16 f16 rcv (nI rk) rmd (nI ru) rpc rct rce (az 392) k_fcv fcv k_fmd (zs 242 28 az) k_fpc (zs 270 122 az) k_fct fct k_fce (bN 16 q_fce) gz g1 g2 g3 g4 g5 (nI gc) (nI gfull) gx gway gav ggoal (nI gfound) 120 (nI gl) (nI gsz) g16 g17 k_fgz (zs 121 121 az) k_s1g (bN 7 q_s1g) k_s2g s2g k_s3g s3g k_s4g s4g k_s5g s5g k_hig hig k_log log) ++ zp 4 16 N az ac kz qs fz)) sz) t) (va_A (((xrm__w xa xtape (nI tp) rd au xdr hy g (nI hs) tg sg (nI ss) rm ti py bu sm (nI nc) (nI np) (nI ne) st0 q4 q5 q6 q7 q8 q9 q10 q11 q12 q13 q14 q15 q16 k_f4 f4 k_f5 (bN 7 q_f5) k_f6 (bN 7 q_f6) k_f7 f7 k_f8 (bN 4 q_f8) k_f9 (bN 2 q_f9) k_f10 f10 k_f11 f11 k_f12 f12 k_f13 f13 k_f14 f14 k_f15 f15 k_f16 f16 rcv (nI rk) rmd (nI ru) rpc rct rce (az 392) k_fcv fcv k_fmd (zs 242 28 az) k_fpc (zs 270 122 az) k_fct fct k_fce (bN 16 q_fce) gz g1 g2 g3 g4 g5 (nI gc) (nI gfull) gx gway gav ggoal (nI gfound) 120 (nI gl) (nI gsz) g16 g17 k_fgz (zs 121 121 az) k_s1g (bN 7 q_s1g) k_s2g s2g k_s3g s3g k_s4g s4g k_s5g s5g k_hig hig k_log log) ++ zp 4 16 N az ac kz qs fz)) sz)) 0 0 (va_A (((xrm__w xa xtape (nI tp) rd au xdr hy g (nI hs) tg sg (nI ss) rm ti py bu sm (nI nc) (nI np) (nI ne) st0 q4 q5 q6 q7 q8 q9 q10 q11 q12 q13 q14 q15 q16 k_f4 f4 k_f5 (bN 7 q_f5) k_f6 (bN 7 q_f6) k_f7 f7 k_f8 (bN 4 q_f8) k_f9 (bN 2 q_f9) k_f10 f10 k_f11 f11 k_f12 f12 k_f13 f13 k_f14 f14 k_f15 f15 k_f16 f16 rcv (nI rk) rmd (nI ru) rpc rct rce (az 392) k_fcv fcv k_fmd (zs 242 28 az) k_fpc (zs 270 122 az) k_fct fct k_fce (bN 16 q_fce) gz g1 g2 g3 g4 g5 (nI gc) (nI gfull) gx gway gav ggoal (nI gfound) 120 (nI gl) (nI gsz) g16 g17 k_fgz (zs 121 121 az) k_s1g (bN 7 q_s1g) k_s2g s2g k_s3g s3g k_s4g s4g k_s5g s5g k_hig hig k_log log) ++ zp 4 16 N az ac kz qs fz)) sz) := by
  refine Met.ofW (cc := cX8_overlap) (maxL := 3) (ret := (some .int)) (by decide) rfl ?_
  intro p e s m args below meth c s₁ B hml hv
  obtain ⟨rfl, rfl, hP, hK, hD0⟩ := hv
  have hx := B.exec
  have hb := B.bytes
  have hr := B.returns
  have hts := atoms_spec (ws := vs_C_8_overlap) B.pre
  have v_6 := hts (.fieldLink RX8 55 "ClockReach" "remainder" "LClockReach$Remainder;") (List.mem_cons_of_mem _ cm_545)
  have v_7 := hts (.fieldLink RX8 42 "ClockReach" "shown" "LClockReach$Graph;") (List.mem_cons_of_mem _ cm_456)
  have v_8 := hts (.fieldLink RX8 249 "ClockReach$Graph" "zones" "[LClockReach$Zone;") (List.mem_cons_of_mem _ cm_544)
  have hown : s.vm.findClass RX8 = some m.cls := findClass_of_methodNamed B.named
  have hlocks := B.notSynchronized
  have hiX1 : ∀ w ∈ wsX10, w ∈ vs_C_8_overlap := fun _ h => List.mem_cons_of_mem _ (cm_X1 h)
  have hiX8 : ∀ w ∈ wsX80, w ∈ vs_C_8_overlap := fun _ h => List.mem_cons_of_mem _ (cm_X8 h)
  have hD := hD0.self (sz := s.heap.size)
  generalize hAe : va_A (((xrm__w xa xtape (nI tp) rd au xdr hy g (nI hs) tg sg (nI ss) rm ti py bu sm (nI nc) (nI np) (nI ne) st0 q4 q5 q6 q7 q8 q9 q10 q11 q12 q13 q14 q15 q16 k_f4 f4 k_f5 (bN 7 q_f5) k_f6 (bN 7 q_f6) k_f7 f7 k_f8 (bN 4 q_f8) k_f9 (bN 2 q_f9) k_f10 f10 k_f11 f11 k_f12 f12 k_f13 f13 k_f14 f14 k_f15 f15 k_f16 f16 rcv (nI rk) rmd (nI ru) rpc rct rce (az 392) k_fcv fcv k_fmd (zs 242 28 az) k_fpc (zs 270 122 az) k_fct fct k_fce (bN 16 q_fce) gz g1 g2 g3 g4 g5 (nI gc) (nI gfull) gx gway gav ggoal (nI gfound) 120 (nI gl) (nI gsz) g16 g17 k_fgz (zs 121 121 az) k_s1g (bN 7 q_s1g) k_s2g s2g k_s3g s3g k_s4g s4g k_s5g s5g k_hig hig k_log log) ++ zp 4 16 N az ac kz qs fz)) s.heap.size = A at hD ⊢
  have hA : ∀ q : Nat, s.heap.size ≤ q → A q := fun q h => by rw [← hAe]; exact Or.inr h
  have hS : va_S A s.heap s.heap [] := va_S.rf
  have hl := lv_entry ([.ref xa, .int p0, .int p1]) (n := 3) (Nat.le_of_ble_eq_true rfl)
  rw [lg_entry_eq]
  generalize (lg_sl ([.ref xa, .int p0, .int p1]) ++ List.replicate (3 - (lg_sl ([.ref xa, .int p0, .int p1])).length) Slot.unset).toArray = ls at hl ⊢
  have hl : lv_has ls 3 [(0, .ref xa), (1, .int p0), (2, .int p1)] := hl
  refine lv_aload_n hx hb eX8_overlap_0 rfl (lv_at hl 0 rfl) ?_
  refine lv_iload_n hx hb eX8_overlap_1 rfl (lv_at hl 1 rfl) ?_
  have hPc : va_P (dC, dI) vwCl [(xa, .inr (8, [.ref xtape, .int (nI tp), .ref rd, .ref au, .ref xdr, .ref hy, .ref g, .int (nI hs), .ref tg, .ref sg, .int (nI ss), .ref rm, .ref ti, .ref py, .ref bu, .ref sm])), (g, .inr (1, [.ref gz, .ref g1, .ref g2, .ref g3, .ref g4, .ref g5, .int (nI gc), .int (nI gfull), .int gx, .int gway, .int gav, .int ggoal, .int (nI gfound), .int 120, .int (nI gl), .int (nI gsz), .ref g16, .ref g17]))] _ := hP.sub [0, 21] rfl
  have hDc : va_D A [(xa, .inr (8, [.ref xtape, .int (nI tp), .ref rd, .ref au, .ref xdr, .ref hy, .ref g, .int (nI hs), .ref tg, .ref sg, .int (nI ss), .ref rm, .ref ti, .ref py, .ref bu, .ref sm])), (g, .inr (1, [.ref gz, .ref g1, .ref g2, .ref g3, .ref g4, .ref g5, .int (nI gc), .int (nI gfull), .int gx, .int gway, .int gav, .int ggoal, .int (nI gfound), .int 120, .int (nI gl), .int (nI gsz), .ref g16, .ref g17]))] := (zp_left hD).sub [0, 21] (by decide) rfl
  have hKc : va_K (dC, dI) vwCl [] s := hK.sub [] rfl
  refine va_calli (va_runV (As := [.int p0]) (rest := []) ⟨hx, hb, hml, hown, hts⟩ (c_E_8_isState l dC dI _ xa xtape tp rd au xdr hy g hs tg sg ss rm ti py bu sm gz g1 g2 g3 g4 g5 gc gfull gx gway gav ggoal gfound gl gsz g16 g17 p0 htp hhs hss hgc hgfull hgfound hgl hgsz) (cwV 1 hts g_C_8_overlap_E_8_isState rfl rfl rfl (by decide +kernel) ⟨Nat.le_of_ble_eq_true rfl, Nat.le_of_ble_eq_true rfl⟩) ⟨pu_bl, va_recv hK hP (ci := 8) (q0 := 0) rfl rfl, pu_in hPc hKc hDc⟩ rfl rfl hl.1 rfl (lv_room (Nat.le_of_ble_eq_true rfl)) eX8_overlap_2 ⟨Nat.le_of_ble_eq_true rfl, Nat.le_of_ble_eq_true rfl⟩) hS (fun q _ h => pu_fr hS hA q h) (pu_fr hS hA) (fun r_1 u t H1 locs ht hvm hw hB hz1 hk1 hS => ?_)
  have hP := pu_keep hP hk1
  clear hPc hDc hKc
  clear hk1 hz1 ht hvm
  generalize H1 = H at hP hS ⊢
  rcases hw with ⟨rfl, hw⟩ | ⟨rfl, hn⟩
  · obtain ⟨hs1, n_2, hn_2, rfl⟩ := hw
    refine lv_if_eq (tgt := 16) hx hb eX8_overlap_5 (by decide) (fun z => absurd z (by decide)) (fun _ => ?_)
    refine lv_aload_n hx hb eX8_overlap_8 rfl (lv_at hl 0 rfl) ?_
    refine lv_iload_n hx hb eX8_overlap_9 rfl (lv_at hl 2 rfl) ?_
    have hPc : va_P (dC, dI) vwCl [(xa, .inr (8, [.ref xtape, .int (nI tp), .ref rd, .ref au, .ref xdr, .ref hy, .ref g, .int (nI hs), .ref tg, .ref sg, .int (nI ss), .ref rm, .ref ti, .ref py, .ref bu, .ref sm])), (g, .inr (1, [.ref gz, .ref g1, .ref g2, .ref g3, .ref g4, .ref g5, .int (nI gc), .int (nI gfull), .int gx, .int gway, .int gav, .int ggoal, .int (nI gfound), .int 120, .int (nI gl), .int (nI gsz), .ref g16, .ref g17]))] _ := hP.sub [0, 21] rfl
    have hDc : va_D A [(xa, .inr (8, [.ref xtape, .int (nI tp), .ref rd, .ref au, .ref xdr, .ref hy, .ref g, .int (nI hs), .ref tg, .ref sg, .int (nI ss), .ref rm, .ref ti, .ref py, .ref bu, .ref sm])), (g, .inr (1, [.ref gz, .ref g1, .ref g2, .ref g3, .ref g4, .ref g5, .int (nI gc), .int (nI gfull), .int gx, .int gway, .int gav, .int ggoal, .int (nI gfound), .int 120, .int (nI gl), .int (nI gsz), .ref g16, .ref g17]))] := (zp_left hD).sub [0, 21] (by decide) rfl
    have hKc : va_K (dC, dI) vwCl [] s := hK.sub [] rfl
    refine va_calli (va_runV (As := [.int p1]) (rest := []) ⟨hx, hb, hml, hown, hts⟩ (c_E_8_isState l dC dI _ xa xtape tp rd au xdr hy g hs tg sg ss rm ti py bu sm gz g1 g2 g3 g4 g5 gc gfull gx gway gav ggoal gfound gl gsz g16 g17 p1 htp hhs hss hgc hgfull hgfound hgl hgsz) (cwV 1 hts g_C_8_overlap_E_8_isState rfl rfl rfl (by decide +kernel) ⟨Nat.le_of_ble_eq_true rfl, Nat.le_of_ble_eq_true rfl⟩) ⟨pu_bl, va_recv hK hP (ci := 8) (q0 := 0) rfl rfl, pu_in hPc hKc hDc⟩ rfl rfl hl.1 rfl (lv_room (Nat.le_of_ble_eq_true rfl)) eX8_overlap_10 ⟨Nat.le_of_ble_eq_true rfl, Nat.le_of_ble_eq_true rfl⟩) hS (fun q _ h => pu_fr hS hA q h) (pu_fr hS hA) (fun r_3 u t H1 locs ht hvm hw hB hz1 hk1 hS => ?_)
    have hP := pu_keep hP hk1
    clear hPc hDc hKc
    clear hk1 hz1 ht hvm
    generalize H1 = H at hP hS ⊢
    rcases hw with ⟨rfl, hw⟩ | ⟨rfl, hn⟩
    · obtain ⟨hs1, n_4, hn_4, rfl⟩ := hw
      refine lv_if_ne (tgt := 18) hx hb eX8_overlap_13 (by decide) (fun _ => ?_) (fun z => absurd z (by decide))
      refine lv_aload_n hx hb eX8_overlap_18 rfl (lv_at hl 0 rfl) ?_
      refine va_get (D := (dC, dI)) (ci := 8) (v := .ref rm) (C := RX8) (T := TX8) (N := 16) hx hb hts hiX8 hown hK hP 0 rfl rfl 11 (by decide) v_6 (fun _ h9 => h9) rfl eX8_overlap_19 ?_
      refine lv_aload_n hx hb eX8_overlap_22 rfl (lv_at hl 0 rfl) ?_
      refine va_get (D := (dC, dI)) (ci := 8) (v := .ref g) (C := RX8) (T := TX8) (N := 16) hx hb hts hiX8 hown hK hP 0 rfl rfl 6 (by decide) v_7 (fun _ h9 => h9) rfl eX8_overlap_23 ?_
      refine va_get (D := (dC, dI)) (ci := 1) (v := .ref gz) (C := RX1) (T := TX1) (N := 18) hx hb hts hiX1 hown hK hP 21 rfl rfl 0 (by decide) v_8 (fun _ h9 => h9) rfl eX8_overlap_26 ?_
      refine lv_iload_n hx hb eX8_overlap_29 rfl (lv_at hl 1 rfl) ?_
      refine va_aldq hx hb hK hP 22 18 rfl rfl (vp_in_nI (n := n_2) (by omega) (Nat.le_of_ble_eq_true rfl)) eX8_overlap_30 ?_
      refine W.eq (g2 := F0 m 31 ls [.ref (az (121 + n_2)), .ref rm]) (by rw [zs_get (by omega) (by omega)]) ?_
      refine lv_aload_n hx hb eX8_overlap_31 rfl (lv_at hl 0 rfl) ?_
      refine va_get (D := (dC, dI)) (ci := 8) (v := .ref g) (C := RX8) (T := TX8) (N := 16) hx hb hts hiX8 hown hK hP 0 rfl rfl 6 (by decide) v_7 (fun _ h9 => h9) rfl eX8_overlap_32 ?_
      refine va_get (D := (dC, dI)) (ci := 1) (v := .ref gz) (C := RX1) (T := TX1) (N := 18) hx hb hts hiX1 hown hK hP 21 rfl rfl 0 (by decide) v_8 (fun _ h9 => h9) rfl eX8_overlap_35 ?_
      refine lv_iload_n hx hb eX8_overlap_38 rfl (lv_at hl 2 rfl) ?_
      refine va_aldq hx hb hK hP 22 18 rfl rfl (vp_in_nI (n := n_4) (by omega) (Nat.le_of_ble_eq_true rfl)) eX8_overlap_39 ?_
      refine W.eq (g2 := F0 m 40 ls [.ref (az (121 + n_4)), .ref (az (121 + n_2)), .ref rm]) (by rw [zs_get (by omega) (by omega)]) ?_
      have hPc : va_P (dC, dI) vwCl ([(rm, .inr (5, [.ref rcv, .int (nI rk), .ref rmd, .int (nI ru), .ref rpc, .ref rct, .ref rce, .ref (az 392)])), (rcv, .inl (k_fcv, 120, .inr (.inr (.inr (.inr fcv))))), (rmd, .inl (k_fmd, 28, .inr (.inr (.inr (.inr (zs 242 28 az)))))), (rpc, .inl (k_fpc, 122, .inr (.inr (.inr (.inr (zs 270 122 az)))))), (rct, .inl (k_fct, 122, .inl fct)), (rce, .inl (k_fce, 122, .inl (bN 16 q_fce)))] ++ zp 4 16 N az ac kz qs fz) _ := hP.part [15, 16, 17, 18, 19, 20] rfl
      have hDc : va_D A ([(rm, .inr (5, [.ref rcv, .int (nI rk), .ref rmd, .int (nI ru), .ref rpc, .ref rct, .ref rce, .ref (az 392)])), (rcv, .inl (k_fcv, 120, .inr (.inr (.inr (.inr fcv))))), (rmd, .inl (k_fmd, 28, .inr (.inr (.inr (.inr (zs 242 28 az)))))), (rpc, .inl (k_fpc, 122, .inr (.inr (.inr (.inr (zs 270 122 az)))))), (rct, .inl (k_fct, 122, .inl fct)), (rce, .inl (k_fce, 122, .inl (bN 16 q_fce)))] ++ zp 4 16 N az ac kz qs fz) := hD.part [15, 16, 17, 18, 19, 20] (by decide) rfl
      have hKc : va_K (dC, dI) vwCl ([(k_fcv, .object RX7), (k_fmd, .object RX7), (k_fpc, .object RX7), (k_fct, .int), (k_fce, .int)] ++ zt N kz) s := zk_part hK [13, 14, 15, 16, 17] rfl
      have hFc := pu_free hDc hS hA
      refine va_calli (va_runV (As := [.ref (az (121 + n_2)), .ref (az (121 + n_4))]) (rest := []) ⟨hx, hb, hml, hown, hts⟩ (c_C_5_meet l dC dI _ rm rcv rk rmd ru rpc rct rce k_fcv fcv k_fmd k_fpc k_fct fct k_fce q_fce N az ac kz qs fz (121 + n_2) (121 + n_4) hrk hru (by omega) (by omega) (by omega) (by omega) (by omega)) (cwV 2 hts g_C_8_overlap_C_5_meet rfl rfl rfl (by decide +kernel) ⟨Nat.le_of_ble_eq_true rfl, Nat.le_of_ble_eq_true rfl⟩) ⟨pu_bl, va_recv hK hP (ci := 5) (q0 := 15) rfl rfl, pu_in hPc hKc hDc⟩ rfl rfl hl.1 rfl (lv_room (Nat.le_of_ble_eq_true rfl)) eX8_overlap_40 ⟨Nat.le_of_ble_eq_true rfl, Nat.le_of_ble_eq_true rfl⟩) hS (fun q _ h => hFc q h) hFc (fun r_5 u t H1 locs ht hvm hw hB hz1 hk1 hS => ?_)
      obtain ⟨z_fz_6, z_qs_7, ⟨hP1, -, hD1⟩⟩ := hB
      rw [ht] at hP1
      obtain ⟨hP, hD⟩ := pj_c (X := (xrm__w xa xtape (nI tp) rd au xdr hy g (nI hs) tg sg (nI ss) rm ti py bu sm (nI nc) (nI np) (nI ne) st0 q4 q5 q6 q7 q8 q9 q10 q11 q12 q13 q14 q15 q16 k_f4 f4 k_f5 (bN 7 q_f5) k_f6 (bN 7 q_f6) k_f7 f7 k_f8 (bN 4 q_f8) k_f9 (bN 2 q_f9) k_f10 f10 k_f11 f11 k_f12 f12 k_f13 f13 k_f14 f14 k_f15 f15 k_f16 f16 rcv (nI rk) rmd (nI ru) rpc rct rce (az 392) k_fcv fcv k_fmd (zs 242 28 az) k_fpc (zs 270 122 az) k_fct fct k_fce (bN 16 q_fce) gz g1 g2 g3 g4 g5 (nI gc) (nI gfull) gx gway gav ggoal (nI gfound) 120 (nI gl) (nI gsz) g16 g17 k_fgz (zs 121 121 az) k_s1g (bN 7 q_s1g) k_s2g s2g k_s3g s3g k_s4g s4g k_s5g s5g k_hig hig k_log log)) (X' := (xrm__w xa xtape (nI tp) rd au xdr hy g (nI hs) tg sg (nI ss) rm ti py bu sm (nI nc) (nI np) (nI ne) st0 q4 q5 q6 q7 q8 q9 q10 q11 q12 q13 q14 q15 q16 k_f4 f4 k_f5 (bN 7 q_f5) k_f6 (bN 7 q_f6) k_f7 f7 k_f8 (bN 4 q_f8) k_f9 (bN 2 q_f9) k_f10 f10 k_f11 f11 k_f12 f12 k_f13 f13 k_f14 f14 k_f15 f15 k_f16 f16 rcv (nI rk) rmd (nI ru) rpc rct rce (az 392) k_fcv fcv k_fmd (zs 242 28 az) k_fpc (zs 270 122 az) k_fct fct k_fce (bN 16 q_fce) gz g1 g2 g3 g4 g5 (nI gc) (nI gfull) gx gway gav ggoal (nI gfound) 120 (nI gl) (nI gsz) g16 g17 k_fgz (zs 121 121 az) k_s1g (bN 7 q_s1g) k_s2g s2g k_s3g s3g k_s4g s4g k_s5g s5g k_hig hig k_log log)) (wc := (rm__w rm rcv (nI rk) rmd (nI ru) rpc rct rce (az 392) k_fcv fcv k_fmd (zs 242 28 az) k_fpc (zs 270 122 az) k_fct fct k_fce (bN 16 q_fce))) (w1 := (rm__w rm rcv (nI rk) rmd (nI ru) rpc rct rce (az 392) k_fcv fcv k_fmd (zs 242 28 az) k_fpc (zs 270 122 az) k_fct fct k_fce (bN 16 q_fce))) hP hD [15, 16, 17, 18, 19, 20] [6, 7, 8, 9, 10, 11, 12, 13, 14, 15, 16, 17, 18, 19, 20, 0, 1, 2, 3, 4, 5, 27, 28, 29, 30, 31, 32, 33, 34, 35] 6 rfl hk1 hP1 rfl zp_f rfl rfl (by decide)
      clear hP1 hD1 hFc
      clear hPc hDc hKc
      clear hk1 hz1 ht hvm
      generalize H1 = H at hP hS ⊢
      obtain ⟨u_8, hu_8, rfl⟩ := hw
      have hPc : va_P (dC, dI) vwCl [] _ := hP.sub [] rfl
      have hDc : va_D A [] := (zp_left hD).sub [] (by decide) rfl
      have hKc : va_K (dC, dI) vwCl [] s := hK.sub [] rfl
      refine va_calli (va_runS (As := [.int (nI u_8)]) (rest := []) ⟨hx, hb, hml, hown, hts⟩ (c_E_8_bit l dC dI _ (nI u_8)) (va_cwS 1 hts g_C_8_overlap_E_8_bit rfl rfl rfl (by decide +kernel) ⟨Nat.le_of_ble_eq_true rfl, Nat.le_of_ble_eq_true rfl⟩) ⟨pu_bl, pu_in hPc hKc hDc⟩ rfl rfl hl.1 rfl (lv_room (Nat.le_of_ble_eq_true rfl)) eX8_overlap_43 ⟨Nat.le_of_ble_eq_true rfl, Nat.le_of_ble_eq_true rfl⟩) hS (fun q _ h => pu_fr hS hA q h) (pu_fr hS hA) (fun r_9 u t H1 locs ht hvm hw hB hz1 hk1 hS => ?_)
      have hP := pu_keep hP hk1
      clear hPc hDc hKc
      clear hk1 hz1 ht hvm
      generalize H1 = H at hP hS ⊢
      obtain ⟨u_10, hu_10, rfl, iu_10⟩ := hw
      exact W.iret (v := (nI u_10)) hx hb hr (fun t ht hW => ⟨⟨(nI u_10), (), rfl, trivial, ⟨z_fz_6, z_qs_7, ⟨by rw [ht]; exact hP, va_K.moved hW.alike hK, hD⟩⟩⟩, hS.F ht⟩) hS.2.2 eX8_overlap_46
    · refine lv_if_ne (tgt := 18) hx hb eX8_overlap_13 (by decide) (fun z => absurd z (by decide)) (fun _ => ?_)
      refine lv_iconst (v := (-1)) hx hb eX8_overlap_16 (by decide) ?_
      exact W.iret (v := (-1)) hx hb hr (fun t ht hW => ⟨⟨(-1), (), rfl, trivial, ⟨fz, qs, ⟨by rw [ht]; exact hP, va_K.moved hW.alike hK, hD⟩⟩⟩, hS.F ht⟩) hS.2.2 eX8_overlap_17
  · refine lv_if_eq (tgt := 16) hx hb eX8_overlap_5 (by decide) (fun _ => ?_) (fun z => absurd z (by decide))
    refine lv_iconst (v := (-1)) hx hb eX8_overlap_16 (by decide) ?_
    exact W.iret (v := (-1)) hx hb hr (fun t ht hW => ⟨⟨(-1), (), rfl, trivial, ⟨fz, qs, ⟨by rw [ht]; exact hP, va_K.moved hW.alike hK, hD⟩⟩⟩, hS.F ht⟩) hS.2.2 eX8_overlap_17
