theorem eX8_first_0 : decode cX8_first 0 = .ok (.aload_n 0, 1) := by decide +kernel
theorem eX8_first_1 : decode cX8_first 1 = .ok (.getfield 100, 3) := by decide +kernel
theorem eX8_first_4 : decode cX8_first 4 = .ok (.ifCond .eq 11, 3) := by decide +kernel
theorem eX8_first_7 : decode cX8_first 7 = .ok (.aload_n 0, 1) := by decide +kernel
theorem eX8_first_8 : decode cX8_first 8 = .ok (.iload_n 1, 1) := by decide +kernel
theorem eX8_first_9 : decode cX8_first 9 = .ok (.invokevirtual 140, 3) := by decide +kernel
theorem eX8_first_12 : decode cX8_first 12 = .ok (.ifCond .ne 5, 3) := by decide +kernel
theorem eX8_first_15 : decode cX8_first 15 = .ok (.iconst (-1), 1) := by decide +kernel
theorem eX8_first_16 : decode cX8_first 16 = .ok (.ireturn, 1) := by decide +kernel
theorem eX8_first_17 : decode cX8_first 17 = .ok (.aload_n 0, 1) := by decide +kernel
theorem eX8_first_18 : decode cX8_first 18 = .ok (.getfield 42, 3) := by decide +kernel
theorem eX8_first_21 : decode cX8_first 21 = .ok (.iload_n 1, 1) := by decide +kernel
theorem eX8_first_22 : decode cX8_first 22 = .ok (.invokevirtual 283, 3) := by decide +kernel
theorem eX8_first_25 : decode cX8_first 25 = .ok (.ireturn, 1) := by decide +kernel
abbrev vs_E_8_first : List Cond := .code yX8_first cX8_first 2 (some .int) :: CM
theorem g_E_8_first_E_8_isPlace : GoodIn vs_E_8_first (wsV RX8 140 RX8 yX8_isPlace vs_E_8_isPlace) := cm_gV cm_471 cm_472 cm_473 cm_427 cm_474
theorem g_E_8_first_E_1_firstAt_16 : GoodIn vs_E_8_first (wsV RX8 283 RX1 yX1_firstAt vs_E_1_firstAt_16) := cm_gV cm_568 cm_569 cm_570 cm_113 cm_151
noncomputable def sp_E_8_first (hs : Nat) (np : Nat) (gc : Nat) (q_s1g : Nat → Nat) (p0 : Int32) : Int32 := (if hs = 0 then (-1) else (if (0 : Int32) ≤ p0 ∧ p0 < nI np then (slet ((p0 : Int32).toNatClampNeg) (fun n_3 => (slet (sp_E_1_firstAt_16 gc q_s1g (nI n_3)) (fun r_4 => r_4)))) else (-1)))
set_option maxHeartbeats 4000000 in
set_option maxRecDepth 100000 in
theorem c_E_8_first (l : Launch) (dC : Nat → ClassId) (dI : Nat → Nat → Nat) (sz : Nat) (xa : Nat) (xtape : Nat) (tp : Nat) (rd : Nat) (au : Nat) (xdr : Nat) (hy : Nat) (g : Nat) (hs : Nat) (tg : Nat) (sg : Nat) (ss : Nat) (rm : Nat) (ti : Nat) (py : Nat) (bu : Nat) (sm : Nat) (nc : Nat) (np : Nat) (ne : Nat) (st0 : Int32) (q4 : Nat) (q5 : Nat) (q6 : Nat) (q7 : Nat) (q8 : Nat) (q9 : Nat) (q10 : Nat) (q11 : Nat) (q12 : Nat) (q13 : Nat) (q14 : Nat) (q15 : Nat) (q16 : Nat) (k_f4 : ClassId) (f4 : Nat → Int32) (k_f5 : ClassId) (q_f5 : Nat → Nat) (k_f6 : ClassId) (q_f6 : Nat → Nat) (k_f7 : ClassId) (f7 : Nat → Int32) (k_f8 : ClassId) (q_f8 : Nat → Nat) (k_f9 : ClassId) (q_f9 : Nat → Nat) (k_f10 : ClassId) (f10 : Nat → Int32) (k_f11 : ClassId) (f11 : Nat → Int32) (k_f12 : ClassId) (f12 : Nat → Int32) (k_f13 : ClassId) (f13 : Nat → Int32) (k_f14 : ClassId) (f14 : Nat → Int32) (k_f15 : ClassId) (f15 : Nat → Int32) (k_f16 : ClassId) (f16 : Nat → Int32) (gz : Nat) (g1 : Nat) (g2 : Nat) (g3 : Nat) (g4 : Nat) (g5 : Nat) (gc : Nat) (gfull : Nat) (gx : Int32) (gway : Int32) (gav : Int32) (ggoal : Int32) (gfound : Nat) (gl : Nat) (gsz : Nat) (g16 : Nat) (g17 : Nat) (k_fgz : ClassId) (k_s1g : ClassId) (q_s1g : Nat → Nat) (k_s2g : ClassId) (s2g : Nat → Int32) (k_s3g : ClassId) (s3g : Nat → Int32) (k_s4g : ClassId) (s4g : Nat → Int32) (k_s5g : ClassId) (s5g : Nat → Int32) (k_hig : ClassId) (hig : Nat → Int32) (k_log : ClassId) (log : Nat → Int32) (k_fbu : ClassId) (fbu : Nat → Int32) (N : Nat) (o : Nat) (az ac : Nat → Nat) (kz : Nat → ClassId) (qs : Nat → Nat) (fz : Nat → Nat → Int32) (p0 : Int32) (htp : tp ≤ 900) (hhs : hs ≤ 1) (hss : ss ≤ 1) (hnc : nc ≤ 3) (hnp : np ≤ 8) (hne : ne ≤ 14) (hst0 : pm1 7 st0) (hgc : gc ≤ 120) (hgfull : gfull ≤ 1) (hgfound : gfound ≤ 1) (hgl : gl ≤ 1) (hgsz : gsz ≤ 4) (hN : o + 121 ≤ N) : Met l yX8_first vs_E_8_first ({ frames := 1, cells := 0, slots := 0, locals := 22 }) (va_Pc [.ref xa, .int p0] (pu_B (dC, dI) ((xg__w xa xtape (nI tp) rd au xdr hy g (nI hs) tg sg (nI ss) rm ti py bu sm (nI nc) (nI np) (nI ne) st0 q4 q5 q6 q7 q8 q9 q10 q11 q12 q13 q14 q15 q16 k_f4 f4 k_f5 (bN 7 q_f5) k_f6 (bN 7 q_f6) k_f7 f7 k_f8 (bN 4 q_f8) k_f9 (bN 2 q_f9) k_f10 f10 k_f11 f11 k_f12 f12 k_f13 f13 k_f14 f14 k_f15 f15 k_f16 f16 gz g1 g2 g3 g4 g5 (nI gc) (nI gfull) gx gway gav ggoal (nI gfound) 120 (nI gl) (nI gsz) g16 g17 k_fgz (zs o 121 az) k_s1g (bN 7 q_s1g) k_s2g s2g k_s3g s3g k_s4g s4g k_s5g s5g k_hig hig k_log log k_fbu fbu) ++ zp 4 16 N az ac kz qs fz) ((xg__t k_f4 k_f5 k_f6 k_f7 k_f8 k_f9 k_f10 k_f11 k_f12 k_f13 k_f14 k_f15 k_f16 k_fgz k_s1g k_s2g k_s3g k_s4g k_s5g k_hig k_log k_fbu) ++ zt N kz) sz)) (va_Qi (fun (r : Int32) (_ : Unit) => r = (sp_E_8_first hs np gc q_s1g p0)) (fun _ _ => True) (va_A [] sz)) 0 0 (va_A [] sz) := by
  refine Met.ofW (cc := cX8_first) (maxL := 2) (ret := (some .int)) (by decide) rfl ?_
  intro p e s m args below meth c s₁ B hml hv
  obtain ⟨rfl, rfl, hP, hK, hD0⟩ := hv
  have hx := B.exec
  have hb := B.bytes
  have hr := B.returns
  have hts := atoms_spec (ws := vs_E_8_first) B.pre
  have v_1 := hts (.fieldLink RX8 100 "ClockReach" "hasShown" "Z") (List.mem_cons_of_mem _ cm_445)
  have v_7 := hts (.fieldLink RX8 42 "ClockReach" "shown" "LClockReach$Graph;") (List.mem_cons_of_mem _ cm_456)
  have hown : s.vm.findClass RX8 = some m.cls := findClass_of_methodNamed B.named
  have hlocks := B.notSynchronized
  have hiX8 : ∀ w ∈ wsX80, w ∈ vs_E_8_first := fun _ h => List.mem_cons_of_mem _ (cm_X8 h)
  have hD := hD0
  have hA : ∀ q : Nat, s.heap.size ≤ q → va_A [] s.heap.size q := fun _ h => Or.inr h
  have hS : va_S (va_A [] s.heap.size) s.heap s.heap [] := va_S.rf
  have hl := lv_entry ([.ref xa, .int p0]) (n := 2) (Nat.le_of_ble_eq_true rfl)
  rw [lg_entry_eq]
  generalize (lg_sl ([.ref xa, .int p0]) ++ List.replicate (2 - (lg_sl ([.ref xa, .int p0])).length) Slot.unset).toArray = ls at hl ⊢
  have hl : lv_has ls 2 [(0, .ref xa), (1, .int p0)] := hl
  obtain ⟨RR, hRR⟩ : ∃ x, x = (sp_E_8_first hs np gc q_s1g p0) := ⟨_, rfl⟩
  have hsp := hRR
  refine lv_aload_n hx hb eX8_first_0 rfl (lv_at hl 0 rfl) ?_
  refine va_get (D := (dC, dI)) (ci := 8) (v := .int (nI hs)) (C := RX8) (T := TX8) (N := 16) hx hb hts hiX8 hown hK hP 0 rfl rfl 7 (by decide) v_1 (fun _ h9 => h9) rfl eX8_first_1 ?_
  refine lv_if_eq (tgt := 15) hx hb eX8_first_4 (by decide) (fun c_1 => ?_) (fun c_1 => ?_)
  · have c_1 : hs = 0 := (nI_eq (a := hs) (b := 0) (Nat.lt_of_le_of_lt hhs (Nat.le_of_ble_eq_true rfl)) (Nat.le_of_ble_eq_true rfl)).mp c_1
    have hsp := hsp.trans (if_pos c_1)
    refine lv_iconst (v := (-1)) hx hb eX8_first_15 (by decide) ?_
    exact W.iret (v := (-1)) hx hb hr (fun t ht hW => ⟨⟨(-1), (), rfl, (hsp.symm.trans hRR), trivial⟩, hS.F ht⟩) hS.2.2 eX8_first_16
  · have c_1 : ¬ hs = 0 := fun z => c_1 ((nI_eq (a := hs) (b := 0) (Nat.lt_of_le_of_lt hhs (Nat.le_of_ble_eq_true rfl)) (Nat.le_of_ble_eq_true rfl)).mpr z)
    have hsp := hsp.trans (if_neg c_1)
    refine lv_aload_n hx hb eX8_first_7 rfl (lv_at hl 0 rfl) ?_
    refine lv_iload_n hx hb eX8_first_8 rfl (lv_at hl 1 rfl) ?_
    have hPc : va_P (dC, dI) vwCl [(xa, .inr (8, [.ref xtape, .int (nI tp), .ref rd, .ref au, .ref xdr, .ref hy, .ref g, .int (nI hs), .ref tg, .ref sg, .int (nI ss), .ref rm, .ref ti, .ref py, .ref bu, .ref sm])), (au, .inr (0, [.int (nI nc), .int (nI np), .int (nI ne), .int st0, .ref q4, .ref q5, .ref q6, .ref q7, .ref q8, .ref q9, .ref q10, .ref q11, .ref q12, .ref q13, .ref q14, .ref q15, .ref q16]))] _ := hP.sub [0, 1] rfl
    have hDc : va_D (fun _ => True) [(xa, .inr (8, [.ref xtape, .int (nI tp), .ref rd, .ref au, .ref xdr, .ref hy, .ref g, .int (nI hs), .ref tg, .ref sg, .int (nI ss), .ref rm, .ref ti, .ref py, .ref bu, .ref sm])), (au, .inr (0, [.int (nI nc), .int (nI np), .int (nI ne), .int st0, .ref q4, .ref q5, .ref q6, .ref q7, .ref q8, .ref q9, .ref q10, .ref q11, .ref q12, .ref q13, .ref q14, .ref q15, .ref q16]))] := (zp_left hD).sub [0, 1] (by decide) rfl
    have hKc : va_K (dC, dI) vwCl [] s := hK.sub [] rfl
    refine va_calli (va_runV (As := [.int p0]) (rest := []) ⟨hx, hb, hml, hown, hts⟩ (c_E_8_isPlace l dC dI _ xa xtape tp rd au xdr hy g hs tg sg ss rm ti py bu sm nc np ne st0 q4 q5 q6 q7 q8 q9 q10 q11 q12 q13 q14 q15 q16 p0 htp hhs hss hnc hnp hne (hst0)) (cwV 1 hts g_E_8_first_E_8_isPlace rfl rfl rfl (by decide +kernel) ⟨Nat.le_of_ble_eq_true rfl, Nat.le_of_ble_eq_true rfl⟩) ⟨pu_bl, va_recv hK hP (ci := 8) (q0 := 0) rfl rfl, pu_in hPc hKc hDc⟩ rfl rfl hl.1 rfl (lv_room (Nat.le_of_ble_eq_true rfl)) eX8_first_9 ⟨Nat.le_of_ble_eq_true rfl, Nat.le_of_ble_eq_true rfl⟩) hS (fun q _ h => pu_fr hS hA q h) (pu_fr hS hA) (fun r_2 u t H1 locs ht hvm hw hB hz1 hk1 hS => ?_)
    have hP := pu_keep hP hk1
    clear hPc hDc hKc
    clear hk1 hz1 ht hvm
    generalize H1 = H at hP hS ⊢
    rcases hw with ⟨rfl, hw⟩ | ⟨rfl, hn⟩
    · obtain ⟨n_3, hn_3, rfl⟩ := hw
      have hsp := hsp.trans (if_pos (in_q hn_3 (by omega)))
      have hsp := hsp.trans (slet_eq (nI_cl (n := n_3) (by omega)))
      refine lv_if_ne (tgt := 17) hx hb eX8_first_12 (by decide) (fun _ => ?_) (fun z => absurd z (by decide))
      refine lv_aload_n hx hb eX8_first_17 rfl (lv_at hl 0 rfl) ?_
      refine va_get (D := (dC, dI)) (ci := 8) (v := .ref g) (C := RX8) (T := TX8) (N := 16) hx hb hts hiX8 hown hK hP 0 rfl rfl 6 (by decide) v_7 (fun _ h9 => h9) rfl eX8_first_18 ?_
      refine lv_iload_n hx hb eX8_first_21 rfl (lv_at hl 1 rfl) ?_
      have hPc : va_P (dC, dI) vwCl ([(g, .inr (1, [.ref gz, .ref g1, .ref g2, .ref g3, .ref g4, .ref g5, .int (nI gc), .int (nI gfull), .int gx, .int gway, .int gav, .int ggoal, .int (nI gfound), .int 120, .int (nI gl), .int (nI gsz), .ref g16, .ref g17])), (gz, .inl (k_fgz, 121, .inr (.inr (.inr (.inr (zs o 121 az)))))), (g1, .inl (k_s1g, 120, .inl (bN 7 q_s1g))), (g2, .inl (k_s2g, 120, .inl s2g)), (g3, .inl (k_s3g, 120, .inl s3g)), (g4, .inl (k_s4g, 120, .inl s4g)), (g5, .inl (k_s5g, 120, .inl s5g)), (g16, .inl (k_hig, 5, .inl hig)), (g17, .inl (k_log, 5, .inl log))] ++ zp 4 16 N az ac kz qs fz) _ := hP.part [15, 16, 17, 18, 19, 20, 21, 22, 23] rfl
      have hDc : va_D (fun _ => True) ([(g, .inr (1, [.ref gz, .ref g1, .ref g2, .ref g3, .ref g4, .ref g5, .int (nI gc), .int (nI gfull), .int gx, .int gway, .int gav, .int ggoal, .int (nI gfound), .int 120, .int (nI gl), .int (nI gsz), .ref g16, .ref g17])), (gz, .inl (k_fgz, 121, .inr (.inr (.inr (.inr (zs o 121 az)))))), (g1, .inl (k_s1g, 120, .inl (bN 7 q_s1g))), (g2, .inl (k_s2g, 120, .inl s2g)), (g3, .inl (k_s3g, 120, .inl s3g)), (g4, .inl (k_s4g, 120, .inl s4g)), (g5, .inl (k_s5g, 120, .inl s5g)), (g16, .inl (k_hig, 5, .inl hig)), (g17, .inl (k_log, 5, .inl log))] ++ zp 4 16 N az ac kz qs fz) := hD.part [15, 16, 17, 18, 19, 20, 21, 22, 23] (by decide) rfl
      have hKc : va_K (dC, dI) vwCl ([(k_fgz, .object RX7), (k_s1g, .int), (k_s2g, .int), (k_s3g, .int), (k_s4g, .int), (k_s5g, .int), (k_hig, .int), (k_log, .int)] ++ zt N kz) s := zk_part hK [13, 14, 15, 16, 17, 18, 19, 20] rfl
      refine va_calli (va_runV (As := [.int (nI n_3)]) (rest := []) ⟨hx, hb, hml, hown, hts⟩ (c_E_1_firstAt_16 l dC dI _ g gz g1 g2 g3 g4 g5 gc gfull gx gway gav ggoal gfound gl gsz g16 g17 k_fgz k_s1g q_s1g k_s2g s2g k_s3g s3g k_s4g s4g k_s5g s5g k_hig hig k_log log N o az ac kz qs fz (nI n_3) hgc hgfull hgfound hgl hgsz (by omega)) (cwV 1 hts g_E_8_first_E_1_firstAt_16 rfl rfl rfl (by decide +kernel) ⟨Nat.le_of_ble_eq_true rfl, Nat.le_of_ble_eq_true rfl⟩) ⟨pu_bl, va_recv hK hP (ci := 1) (q0 := 15) rfl rfl, pu_in hPc hKc hDc⟩ rfl rfl hl.1 rfl (lv_room (Nat.le_of_ble_eq_true rfl)) eX8_first_22 ⟨Nat.le_of_ble_eq_true rfl, Nat.le_of_ble_eq_true rfl⟩) hS (fun q _ h => pu_fr hS hA q h) (pu_fr hS hA) (fun r_4 u t H1 locs ht hvm hw hB hz1 hk1 hS => ?_)
      have hP := pu_keep hP hk1
      clear hPc hDc hKc
      clear hk1 hz1 ht hvm
      generalize H1 = H at hP hS ⊢
      have ir_4 := hw
      have hsp := hsp.trans (slet_eq ir_4)
      exact W.iret (v := r_4) hx hb hr (fun t ht hW => ⟨⟨r_4, (), rfl, (hsp.symm.trans hRR), trivial⟩, hS.F ht⟩) hS.2.2 eX8_first_25
    · have hsp := hsp.trans (if_neg hn)
      refine lv_if_ne (tgt := 17) hx hb eX8_first_12 (by decide) (fun z => absurd z (by decide)) (fun _ => ?_)
      refine lv_iconst (v := (-1)) hx hb eX8_first_15 (by decide) ?_
      exact W.iret (v := (-1)) hx hb hr (fun t ht hW => ⟨⟨(-1), (), rfl, (hsp.symm.trans hRR), trivial⟩, hS.F ht⟩) hS.2.2 eX8_first_16
theorem eX8_reached_0 : decode cX8_reached 0 = .ok (.aload_n 0, 1) := by decide +kernel
theorem eX8_reached_1 : decode cX8_reached 1 = .ok (.getfield 100, 3) := by decide +kernel
theorem eX8_reached_4 : decode cX8_reached 4 = .ok (.ifCond .eq 13, 3) := by decide +kernel
theorem eX8_reached_7 : decode cX8_reached 7 = .ok (.aload_n 0, 1) := by decide +kernel
theorem eX8_reached_8 : decode cX8_reached 8 = .ok (.getfield 42, 3) := by decide +kernel
theorem eX8_reached_11 : decode cX8_reached 11 = .ok (.invokevirtual 286, 3) := by decide +kernel
theorem eX8_reached_14 : decode cX8_reached 14 = .ok (.goto 4, 3) := by decide +kernel
theorem eX8_reached_17 : decode cX8_reached 17 = .ok (.iconst (-1), 1) := by decide +kernel
theorem eX8_reached_18 : decode cX8_reached 18 = .ok (.ireturn, 1) := by decide +kernel
abbrev vs_E_8_reached : List Cond := .code yX8_reached cX8_reached 1 (some .int) :: CM
theorem g_E_8_reached_E_1_allSites_16 : GoodIn vs_E_8_reached (wsV RX8 286 RX1 yX1_allSites vs_E_1_allSites_16) := cm_gV cm_572 cm_573 cm_574 cm_113 cm_152
noncomputable def sp_E_8_reached (hs : Nat) (gc : Nat) (q_s1g : Nat → Nat) : Int32 := (if hs = 0 then (-1) else (slet (sp_E_1_allSites_16 gc q_s1g) (fun r_2 => r_2)))
set_option maxHeartbeats 4000000 in
set_option maxRecDepth 100000 in
theorem c_E_8_reached (l : Launch) (dC : Nat → ClassId) (dI : Nat → Nat → Nat) (sz : Nat) (xa : Nat) (xtape : Nat) (tp : Nat) (rd : Nat) (au : Nat) (xdr : Nat) (hy : Nat) (g : Nat) (hs : Nat) (tg : Nat) (sg : Nat) (ss : Nat) (rm : Nat) (ti : Nat) (py : Nat) (bu : Nat) (sm : Nat) (nc : Nat) (np : Nat) (ne : Nat) (st0 : Int32) (q4 : Nat) (q5 : Nat) (q6 : Nat) (q7 : Nat) (q8 : Nat) (q9 : Nat) (q10 : Nat) (q11 : Nat) (q12 : Nat) (q13 : Nat) (q14 : Nat) (q15 : Nat) (q16 : Nat) (k_f4 : ClassId) (f4 : Nat → Int32) (k_f5 : ClassId) (q_f5 : Nat → Nat) (k_f6 : ClassId) (q_f6 : Nat → Nat) (k_f7 : ClassId) (f7 : Nat → Int32) (k_f8 : ClassId) (q_f8 : Nat → Nat) (k_f9 : ClassId) (q_f9 : Nat → Nat) (k_f10 : ClassId) (f10 : Nat → Int32) (k_f11 : ClassId) (f11 : Nat → Int32) (k_f12 : ClassId) (f12 : Nat → Int32) (k_f13 : ClassId) (f13 : Nat → Int32) (k_f14 : ClassId) (f14 : Nat → Int32) (k_f15 : ClassId) (f15 : Nat → Int32) (k_f16 : ClassId) (f16 : Nat → Int32) (gz : Nat) (g1 : Nat) (g2 : Nat) (g3 : Nat) (g4 : Nat) (g5 : Nat) (gc : Nat) (gfull : Nat) (gx : Int32) (gway : Int32) (gav : Int32) (ggoal : Int32) (gfound : Nat) (gl : Nat) (gsz : Nat) (g16 : Nat) (g17 : Nat) (k_fgz : ClassId) (k_s1g : ClassId) (q_s1g : Nat → Nat) (k_s2g : ClassId) (s2g : Nat → Int32) (k_s3g : ClassId) (s3g : Nat → Int32) (k_s4g : ClassId) (s4g : Nat → Int32) (k_s5g : ClassId) (s5g : Nat → Int32) (k_hig : ClassId) (hig : Nat → Int32) (k_log : ClassId) (log : Nat → Int32) (k_fbu : ClassId) (fbu : Nat → Int32) (N : Nat) (o : Nat) (az ac : Nat → Nat) (kz : Nat → ClassId) (qs : Nat → Nat) (fz : Nat → Nat → Int32) (htp : tp ≤ 900) (hhs : hs ≤ 1) (hss : ss ≤ 1) (hnc : nc ≤ 3) (hnp : np ≤ 8) (hne : ne ≤ 14) (hst0 : pm1 7 st0) (hgc : gc ≤ 120) (hgfull : gfull ≤ 1) (hgfound : gfound ≤ 1) (hgl : gl ≤ 1) (hgsz : gsz ≤ 4) (hN : o + 121 ≤ N) : Met l yX8_reached vs_E_8_reached ({ frames := 1, cells := 0, slots := 0, locals := 22 }) (va_Pc [.ref xa] (pu_B (dC, dI) ((xg__w xa xtape (nI tp) rd au xdr hy g (nI hs) tg sg (nI ss) rm ti py bu sm (nI nc) (nI np) (nI ne) st0 q4 q5 q6 q7 q8 q9 q10 q11 q12 q13 q14 q15 q16 k_f4 f4 k_f5 (bN 7 q_f5) k_f6 (bN 7 q_f6) k_f7 f7 k_f8 (bN 4 q_f8) k_f9 (bN 2 q_f9) k_f10 f10 k_f11 f11 k_f12 f12 k_f13 f13 k_f14 f14 k_f15 f15 k_f16 f16 gz g1 g2 g3 g4 g5 (nI gc) (nI gfull) gx gway gav ggoal (nI gfound) 120 (nI gl) (nI gsz) g16 g17 k_fgz (zs o 121 az) k_s1g (bN 7 q_s1g) k_s2g s2g k_s3g s3g k_s4g s4g k_s5g s5g k_hig hig k_log log k_fbu fbu) ++ zp 4 16 N az ac kz qs fz) ((xg__t k_f4 k_f5 k_f6 k_f7 k_f8 k_f9 k_f10 k_f11 k_f12 k_f13 k_f14 k_f15 k_f16 k_fgz k_s1g k_s2g k_s3g k_s4g k_s5g k_hig k_log k_fbu) ++ zt N kz) sz)) (va_Qi (fun (r : Int32) (_ : Unit) => r = (sp_E_8_reached hs gc q_s1g)) (fun _ _ => True) (va_A [] sz)) 0 0 (va_A [] sz) := by
  refine Met.ofW (cc := cX8_reached) (maxL := 1) (ret := (some .int)) (by decide) rfl ?_
  intro p e s m args below meth c s₁ B hml hv
  obtain ⟨rfl, rfl, hP, hK, hD0⟩ := hv
  have hx := B.exec
  have hb := B.bytes
  have hr := B.returns
  have hts := atoms_spec (ws := vs_E_8_reached) B.pre
  have v_1 := hts (.fieldLink RX8 100 "ClockReach" "hasShown" "Z") (List.mem_cons_of_mem _ cm_445)
  have v_2 := hts (.fieldLink RX8 42 "ClockReach" "shown" "LClockReach$Graph;") (List.mem_cons_of_mem _ cm_456)
  have hown : s.vm.findClass RX8 = some m.cls := findClass_of_methodNamed B.named
  have hlocks := B.notSynchronized
  have hiX8 : ∀ w ∈ wsX80, w ∈ vs_E_8_reached := fun _ h => List.mem_cons_of_mem _ (cm_X8 h)
  have hD := hD0
  have hA : ∀ q : Nat, s.heap.size ≤ q → va_A [] s.heap.size q := fun _ h => Or.inr h
  have hS : va_S (va_A [] s.heap.size) s.heap s.heap [] := va_S.rf
  have hl := lv_entry ([.ref xa]) (n := 1) (Nat.le_of_ble_eq_true rfl)
  rw [lg_entry_eq]
  generalize (lg_sl ([.ref xa]) ++ List.replicate (1 - (lg_sl ([.ref xa])).length) Slot.unset).toArray = ls at hl ⊢
  have hl : lv_has ls 1 [(0, .ref xa)] := hl
  obtain ⟨RR, hRR⟩ : ∃ x, x = (sp_E_8_reached hs gc q_s1g) := ⟨_, rfl⟩
  have hsp := hRR
  refine lv_aload_n hx hb eX8_reached_0 rfl (lv_at hl 0 rfl) ?_
  refine va_get (D := (dC, dI)) (ci := 8) (v := .int (nI hs)) (C := RX8) (T := TX8) (N := 16) hx hb hts hiX8 hown hK hP 0 rfl rfl 7 (by decide) v_1 (fun _ h9 => h9) rfl eX8_reached_1 ?_
  refine lv_if_eq (tgt := 17) hx hb eX8_reached_4 (by decide) (fun c_1 => ?_) (fun c_1 => ?_)
  · have c_1 : hs = 0 := (nI_eq (a := hs) (b := 0) (Nat.lt_of_le_of_lt hhs (Nat.le_of_ble_eq_true rfl)) (Nat.le_of_ble_eq_true rfl)).mp c_1
    have hsp := hsp.trans (if_pos c_1)
    refine lv_iconst (v := (-1)) hx hb eX8_reached_17 (by decide) ?_
    exact W.iret (v := (-1)) hx hb hr (fun t ht hW => ⟨⟨(-1), (), rfl, (hsp.symm.trans hRR), trivial⟩, hS.F ht⟩) hS.2.2 eX8_reached_18
  · have c_1 : ¬ hs = 0 := fun z => c_1 ((nI_eq (a := hs) (b := 0) (Nat.lt_of_le_of_lt hhs (Nat.le_of_ble_eq_true rfl)) (Nat.le_of_ble_eq_true rfl)).mpr z)
    have hsp := hsp.trans (if_neg c_1)
    refine lv_aload_n hx hb eX8_reached_7 rfl (lv_at hl 0 rfl) ?_
    refine va_get (D := (dC, dI)) (ci := 8) (v := .ref g) (C := RX8) (T := TX8) (N := 16) hx hb hts hiX8 hown hK hP 0 rfl rfl 6 (by decide) v_2 (fun _ h9 => h9) rfl eX8_reached_8 ?_
    have hPc : va_P (dC, dI) vwCl ([(g, .inr (1, [.ref gz, .ref g1, .ref g2, .ref g3, .ref g4, .ref g5, .int (nI gc), .int (nI gfull), .int gx, .int gway, .int gav, .int ggoal, .int (nI gfound), .int 120, .int (nI gl), .int (nI gsz), .ref g16, .ref g17])), (gz, .inl (k_fgz, 121, .inr (.inr (.inr (.inr (zs o 121 az)))))), (g1, .inl (k_s1g, 120, .inl (bN 7 q_s1g))), (g2, .inl (k_s2g, 120, .inl s2g)), (g3, .inl (k_s3g, 120, .inl s3g)), (g4, .inl (k_s4g, 120, .inl s4g)), (g5, .inl (k_s5g, 120, .inl s5g)), (g16, .inl (k_hig, 5, .inl hig)), (g17, .inl (k_log, 5, .inl log))] ++ zp 4 16 N az ac kz qs fz) _ := hP.part [15, 16, 17, 18, 19, 20, 21, 22, 23] rfl
    have hDc : va_D (fun _ => True) ([(g, .inr (1, [.ref gz, .ref g1, .ref g2, .ref g3, .ref g4, .ref g5, .int (nI gc), .int (nI gfull), .int gx, .int gway, .int gav, .int ggoal, .int (nI gfound), .int 120, .int (nI gl), .int (nI gsz), .ref g16, .ref g17])), (gz, .inl (k_fgz, 121, .inr (.inr (.inr (.inr (zs o 121 az)))))), (g1, .inl (k_s1g, 120, .inl (bN 7 q_s1g))), (g2, .inl (k_s2g, 120, .inl s2g)), (g3, .inl (k_s3g, 120, .inl s3g)), (g4, .inl (k_s4g, 120, .inl s4g)), (g5, .inl (k_s5g, 120, .inl s5g)), (g16, .inl (k_hig, 5, .inl hig)), (g17, .inl (k_log, 5, .inl log))] ++ zp 4 16 N az ac kz qs fz) := hD.part [15, 16, 17, 18, 19, 20, 21, 22, 23] (by decide) rfl
    have hKc : va_K (dC, dI) vwCl ([(k_fgz, .object RX7), (k_s1g, .int), (k_s2g, .int), (k_s3g, .int), (k_s4g, .int), (k_s5g, .int), (k_hig, .int), (k_log, .int)] ++ zt N kz) s := zk_part hK [13, 14, 15, 16, 17, 18, 19, 20] rfl
    refine va_calli (va_runV (As := []) (rest := []) ⟨hx, hb, hml, hown, hts⟩ (c_E_1_allSites_16 l dC dI _ g gz g1 g2 g3 g4 g5 gc gfull gx gway gav ggoal gfound gl gsz g16 g17 k_fgz k_s1g q_s1g k_s2g s2g k_s3g s3g k_s4g s4g k_s5g s5g k_hig hig k_log log N o az ac kz qs fz hgc hgfull hgfound hgl hgsz (by omega)) (cwV 0 hts g_E_8_reached_E_1_allSites_16 rfl rfl rfl (by decide +kernel) ⟨Nat.le_of_ble_eq_true rfl, Nat.le_of_ble_eq_true rfl⟩) ⟨pu_bl, va_recv hK hP (ci := 1) (q0 := 15) rfl rfl, pu_in hPc hKc hDc⟩ rfl rfl hl.1 rfl (lv_room (Nat.le_of_ble_eq_true rfl)) eX8_reached_11 ⟨Nat.le_of_ble_eq_true rfl, Nat.le_of_ble_eq_true rfl⟩) hS (fun q _ h => pu_fr hS hA q h) (pu_fr hS hA) (fun r_2 u t H1 locs ht hvm hw hB hz1 hk1 hS => ?_)
    have hP := pu_keep hP hk1
    clear hPc hDc hKc
    clear hk1 hz1 ht hvm
    generalize H1 = H at hP hS ⊢
    have ir_2 := hw
    have hsp := hsp.trans (slet_eq ir_2)
    refine lv_goto (tgt := 18) hx hb eX8_reached_14 (by decide) ?_
    exact W.iret (v := r_2) hx hb hr (fun t ht hW => ⟨⟨r_2, (), rfl, (hsp.symm.trans hRR), trivial⟩, hS.F ht⟩) hS.2.2 eX8_reached_18
theorem eX8_taken_0 : decode cX8_taken 0 = .ok (.aload_n 0, 1) := by decide +kernel
theorem eX8_taken_1 : decode cX8_taken 1 = .ok (.getfield 100, 3) := by decide +kernel
theorem eX8_taken_4 : decode cX8_taken 4 = .ok (.ifCond .eq 13, 3) := by decide +kernel
theorem eX8_taken_7 : decode cX8_taken 7 = .ok (.aload_n 0, 1) := by decide +kernel
theorem eX8_taken_8 : decode cX8_taken 8 = .ok (.getfield 42, 3) := by decide +kernel
theorem eX8_taken_11 : decode cX8_taken 11 = .ok (.getfield 289, 3) := by decide +kernel
theorem eX8_taken_14 : decode cX8_taken 14 = .ok (.goto 4, 3) := by decide +kernel
theorem eX8_taken_17 : decode cX8_taken 17 = .ok (.iconst (-1), 1) := by decide +kernel
theorem eX8_taken_18 : decode cX8_taken 18 = .ok (.ireturn, 1) := by decide +kernel
abbrev vs_E_8_taken : List Cond := .code yX8_taken cX8_taken 1 (some .int) :: CM
noncomputable def sp_E_8_taken (hs : Nat) (gx : Int32) : Int32 := (if hs = 0 then (-1) else gx)
set_option maxHeartbeats 4000000 in
set_option maxRecDepth 100000 in
theorem c_E_8_taken (l : Launch) (dC : Nat → ClassId) (dI : Nat → Nat → Nat) (sz : Nat) (xa : Nat) (xtape : Nat) (tp : Nat) (rd : Nat) (au : Nat) (xdr : Nat) (hy : Nat) (g : Nat) (hs : Nat) (tg : Nat) (sg : Nat) (ss : Nat) (rm : Nat) (ti : Nat) (py : Nat) (bu : Nat) (sm : Nat) (gz : Nat) (g1 : Nat) (g2 : Nat) (g3 : Nat) (g4 : Nat) (g5 : Nat) (gc : Nat) (gfull : Nat) (gx : Int32) (gway : Int32) (gav : Int32) (ggoal : Int32) (gfound : Nat) (gl : Nat) (gsz : Nat) (g16 : Nat) (g17 : Nat) (htp : tp ≤ 900) (hhs : hs ≤ 1) (hss : ss ≤ 1) (hgc : gc ≤ 120) (hgfull : gfull ≤ 1) (hgfound : gfound ≤ 1) (hgl : gl ≤ 1) (hgsz : gsz ≤ 4) : Met l yX8_taken vs_E_8_taken ({ frames := 0, cells := 0, slots := 0, locals := 0 }) (va_Pc [.ref xa] (pu_B (dC, dI) (xg0__w xa xtape (nI tp) rd au xdr hy g (nI hs) tg sg (nI ss) rm ti py bu sm gz g1 g2 g3 g4 g5 (nI gc) (nI gfull) gx gway gav ggoal (nI gfound) 120 (nI gl) (nI gsz) g16 g17) (xg0__t ) sz)) (va_Qi (fun (r : Int32) (_ : Unit) => r = (sp_E_8_taken hs gx)) (fun _ _ => True) (va_A [] sz)) 0 0 (va_A [] sz) := by
  refine Met.ofW (cc := cX8_taken) (maxL := 1) (ret := (some .int)) (by decide) rfl ?_
  intro p e s m args below meth c s₁ B hml hv
  obtain ⟨rfl, rfl, hP, hK, hD0⟩ := hv
  have hx := B.exec
  have hb := B.bytes
  have hr := B.returns
  have hts := atoms_spec (ws := vs_E_8_taken) B.pre
  have v_1 := hts (.fieldLink RX8 100 "ClockReach" "hasShown" "Z") (List.mem_cons_of_mem _ cm_445)
  have v_2 := hts (.fieldLink RX8 42 "ClockReach" "shown" "LClockReach$Graph;") (List.mem_cons_of_mem _ cm_456)
  have v_3 := hts (.fieldLink RX8 289 "ClockReach$Graph" "crossed" "I") (List.mem_cons_of_mem _ cm_576)
  have hown : s.vm.findClass RX8 = some m.cls := findClass_of_methodNamed B.named
  have hlocks := B.notSynchronized
  have hiX1 : ∀ w ∈ wsX10, w ∈ vs_E_8_taken := fun _ h => List.mem_cons_of_mem _ (cm_X1 h)
  have hiX8 : ∀ w ∈ wsX80, w ∈ vs_E_8_taken := fun _ h => List.mem_cons_of_mem _ (cm_X8 h)
  have hD := hD0
  have hA : ∀ q : Nat, s.heap.size ≤ q → va_A [] s.heap.size q := fun _ h => Or.inr h
  have hS : va_S (va_A [] s.heap.size) s.heap s.heap [] := va_S.rf
  have hl := lv_entry ([.ref xa]) (n := 1) (Nat.le_of_ble_eq_true rfl)
  rw [lg_entry_eq]
  generalize (lg_sl ([.ref xa]) ++ List.replicate (1 - (lg_sl ([.ref xa])).length) Slot.unset).toArray = ls at hl ⊢
  have hl : lv_has ls 1 [(0, .ref xa)] := hl
  obtain ⟨RR, hRR⟩ : ∃ x, x = (sp_E_8_taken hs gx) := ⟨_, rfl⟩
  have hsp := hRR
  refine lv_aload_n hx hb eX8_taken_0 rfl (lv_at hl 0 rfl) ?_
  refine va_get (D := (dC, dI)) (ci := 8) (v := .int (nI hs)) (C := RX8) (T := TX8) (N := 16) hx hb hts hiX8 hown hK hP 0 rfl rfl 7 (by decide) v_1 (fun _ h9 => h9) rfl eX8_taken_1 ?_
  refine lv_if_eq (tgt := 17) hx hb eX8_taken_4 (by decide) (fun c_1 => ?_) (fun c_1 => ?_)
  · have c_1 : hs = 0 := (nI_eq (a := hs) (b := 0) (Nat.lt_of_le_of_lt hhs (Nat.le_of_ble_eq_true rfl)) (Nat.le_of_ble_eq_true rfl)).mp c_1
    have hsp := hsp.trans (if_pos c_1)
    refine lv_iconst (v := (-1)) hx hb eX8_taken_17 (by decide) ?_
    exact W.iret (v := (-1)) hx hb hr (fun t ht hW => ⟨⟨(-1), (), rfl, (hsp.symm.trans hRR), trivial⟩, hS.F ht⟩) hS.2.2 eX8_taken_18
  · have c_1 : ¬ hs = 0 := fun z => c_1 ((nI_eq (a := hs) (b := 0) (Nat.lt_of_le_of_lt hhs (Nat.le_of_ble_eq_true rfl)) (Nat.le_of_ble_eq_true rfl)).mpr z)
    have hsp := hsp.trans (if_neg c_1)
    refine lv_aload_n hx hb eX8_taken_7 rfl (lv_at hl 0 rfl) ?_
    refine va_get (D := (dC, dI)) (ci := 8) (v := .ref g) (C := RX8) (T := TX8) (N := 16) hx hb hts hiX8 hown hK hP 0 rfl rfl 6 (by decide) v_2 (fun _ h9 => h9) rfl eX8_taken_8 ?_
    refine va_get (D := (dC, dI)) (ci := 1) (v := .int gx) (C := RX1) (T := TX1) (N := 18) hx hb hts hiX1 hown hK hP 1 rfl rfl 8 (by decide) v_3 (fun _ h9 => h9) rfl eX8_taken_11 ?_
    refine lv_goto (tgt := 18) hx hb eX8_taken_14 (by decide) ?_
    exact W.iret (v := gx) hx hb hr (fun t ht hW => ⟨⟨gx, (), rfl, (hsp.symm.trans hRR), trivial⟩, hS.F ht⟩) hS.2.2 eX8_taken_18
