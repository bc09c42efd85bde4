theorem eX8_has_0 : decode cX8_has 0 = .ok (.aload_n 0, 1) := by decide +kernel
theorem eX8_has_1 : decode cX8_has 1 = .ok (.iload_n 1, 1) := by decide +kernel
theorem eX8_has_2 : decode cX8_has 2 = .ok (.invokevirtual 228, 3) := by decide +kernel
theorem eX8_has_5 : decode cX8_has 5 = .ok (.ifCond .ne 5, 3) := by decide +kernel
theorem eX8_has_8 : decode cX8_has 8 = .ok (.iconst (-1), 1) := by decide +kernel
theorem eX8_has_9 : decode cX8_has 9 = .ok (.ireturn, 1) := by decide +kernel
theorem eX8_has_10 : decode cX8_has 10 = .ok (.aload_n 0, 1) := by decide +kernel
theorem eX8_has_11 : decode cX8_has 11 = .ok (.getfield 76, 3) := by decide +kernel
theorem eX8_has_14 : decode cX8_has 14 = .ok (.iconst 0, 1) := by decide +kernel
theorem eX8_has_15 : decode cX8_has 15 = .ok (.iconst 0, 1) := by decide +kernel
theorem eX8_has_16 : decode cX8_has 16 = .ok (.iastore, 1) := by decide +kernel
theorem eX8_has_17 : decode cX8_has 17 = .ok (.aload_n 0, 1) := by decide +kernel
theorem eX8_has_18 : decode cX8_has 18 = .ok (.getfield 76, 3) := by decide +kernel
theorem eX8_has_21 : decode cX8_has 21 = .ok (.iconst 1, 1) := by decide +kernel
theorem eX8_has_22 : decode cX8_has 22 = .ok (.iload_n 2, 1) := by decide +kernel
theorem eX8_has_23 : decode cX8_has 23 = .ok (.iastore, 1) := by decide +kernel
theorem eX8_has_24 : decode cX8_has 24 = .ok (.aload_n 0, 1) := by decide +kernel
theorem eX8_has_25 : decode cX8_has 25 = .ok (.getfield 76, 3) := by decide +kernel
theorem eX8_has_28 : decode cX8_has 28 = .ok (.iconst 2, 1) := by decide +kernel
theorem eX8_has_29 : decode cX8_has 29 = .ok (.iload_n 3, 1) := by decide +kernel
theorem eX8_has_30 : decode cX8_has 30 = .ok (.iastore, 1) := by decide +kernel
theorem eX8_has_31 : decode cX8_has 31 = .ok (.aload_n 0, 1) := by decide +kernel
theorem eX8_has_32 : decode cX8_has 32 = .ok (.getfield 76, 3) := by decide +kernel
theorem eX8_has_35 : decode cX8_has 35 = .ok (.iconst 3, 1) := by decide +kernel
theorem eX8_has_36 : decode cX8_has 36 = .ok (.iload 4, 2) := by decide +kernel
theorem eX8_has_38 : decode cX8_has 38 = .ok (.iastore, 1) := by decide +kernel
theorem eX8_has_39 : decode cX8_has 39 = .ok (.aload_n 0, 1) := by decide +kernel
theorem eX8_has_40 : decode cX8_has 40 = .ok (.getfield 42, 3) := by decide +kernel
theorem eX8_has_43 : decode cX8_has 43 = .ok (.getfield 249, 3) := by decide +kernel
theorem eX8_has_46 : decode cX8_has 46 = .ok (.iload_n 1, 1) := by decide +kernel
theorem eX8_has_47 : decode cX8_has 47 = .ok (.aaload, 1) := by decide +kernel
theorem eX8_has_48 : decode cX8_has 48 = .ok (.aload_n 0, 1) := by decide +kernel
theorem eX8_has_49 : decode cX8_has 49 = .ok (.getfield 76, 3) := by decide +kernel
theorem eX8_has_52 : decode cX8_has 52 = .ok (.invokevirtual 279, 3) := by decide +kernel
theorem eX8_has_55 : decode cX8_has 55 = .ok (.invokestatic 133, 3) := by decide +kernel
theorem eX8_has_58 : decode cX8_has 58 = .ok (.ireturn, 1) := by decide +kernel
abbrev vs_E_8_has : List Cond := .code yX8_has cX8_has 5 (some .int) :: CM
theorem g_E_8_has_E_8_isState : GoodIn vs_E_8_has (wsV RX8 228 RX8 yX8_isState vs_E_8_isState) := cm_gV cm_537 cm_538 cm_539 cm_427 cm_530
theorem g_E_8_has_E_7_holdsTimes : GoodIn vs_E_8_has (wsV RX8 279 RX7 yX7_holdsTimes vs_E_7_holdsTimes) := cm_gV cm_564 cm_565 cm_566 cm_45 cm_413
theorem g_E_8_has_E_8_bit : GoodIn vs_E_8_has (va_wsS RX8 133 yX8_bit vs_E_8_bit) := cm_gS cm_463 cm_464 cm_427 cm_465
noncomputable def sp_E_8_has (hs : Nat) (gc : Nat) (fsm : Nat → Int32) (o : Nat) (qs : Nat → Nat) (fz : Nat → Nat → Int32) (p0 : Int32) (p1 : Int32) (p2 : Int32) (p3 : Int32) : Int32 × (Nat → Int32) := (if hs = 1 ∧ (0 : Int32) ≤ p0 ∧ p0 < nI gc then (slet ((p0 : Int32).toNatClampNeg) (fun n_2 => (slet (upd fsm 0 0) (fun f_3 => (slet (upd f_3 1 p1) (fun f_4 => (slet (upd f_4 2 p2) (fun f_5 => (slet (upd f_5 3 p3) (fun f_6 => (slet (sp_E_7_holdsTimes f_6 (min (qs (o + n_2)) 4) (fz (o + n_2))) (fun u_8 => (slet (sp_E_8_bit (nI u_8)) (fun u_10 => ((nI u_10), f_6))))))))))))))) else ((-1), fsm))
set_option maxHeartbeats 4000000 in
set_option maxRecDepth 100000 in
theorem c_E_8_has (l : Launch) (dC : Nat → ClassId) (dI : Nat → Nat → Nat) (sz : Nat) (xa : Nat) (xtape : Nat) (tp : Nat) (rd : Nat) (au : Nat) (xdr : Nat) (hy : Nat) (g : Nat) (hs : Nat) (tg : Nat) (sg : Nat) (ss : Nat) (rm : Nat) (ti : Nat) (py : Nat) (bu : Nat) (sm : Nat) (gz : Nat) (g1 : Nat) (g2 : Nat) (g3 : Nat) (g4 : Nat) (g5 : Nat) (gc : Nat) (gfull : Nat) (gx : Int32) (gway : Int32) (gav : Int32) (ggoal : Int32) (gfound : Nat) (gl : Nat) (gsz : Nat) (g16 : Nat) (g17 : Nat) (k_fgz : ClassId) (k_s1g : ClassId) (q_s1g : Nat → Nat) (k_s2g : ClassId) (s2g : Nat → Int32) (k_s3g : ClassId) (s3g : Nat → Int32) (k_s4g : ClassId) (s4g : Nat → Int32) (k_s5g : ClassId) (s5g : Nat → Int32) (k_hig : ClassId) (hig : Nat → Int32) (k_log : ClassId) (log : Nat → Int32) (k_fsm : ClassId) (fsm : Nat → Int32) (N : Nat) (o : Nat) (az ac : Nat → Nat) (kz : Nat → ClassId) (qs : Nat → Nat) (fz : Nat → Nat → Int32) (p0 : Int32) (p1 : Int32) (p2 : Int32) (p3 : Int32) (htp : tp ≤ 900) (hhs : hs ≤ 1) (hss : ss ≤ 1) (hgc : gc ≤ 120) (hgfull : gfull ≤ 1) (hgfound : gfound ≤ 1) (hgl : gl ≤ 1) (hgsz : gsz ≤ 4) (hN : o + 121 ≤ N) : Met l yX8_has vs_E_8_has ({ frames := 2, cells := 0, slots := 0, locals := 44 }) (va_Pc [.ref xa, .int p0, .int p1, .int p2, .int p3] (pu_B (dC, dI) ((xgp__w xa xtape (nI tp) rd au xdr hy g (nI hs) tg sg (nI ss) rm ti py bu sm gz g1 g2 g3 g4 g5 (nI gc) (nI gfull) gx gway gav ggoal (nI gfound) 120 (nI gl) (nI gsz) g16 g17 k_fgz (zs o 121 az) k_s1g (bN 7 q_s1g) k_s2g s2g k_s3g s3g k_s4g s4g k_s5g s5g k_hig hig k_log log k_fsm fsm) ++ zp 4 16 N az ac kz qs fz) ((xgp__t k_fgz k_s1g k_s2g k_s3g k_s4g k_s5g k_hig k_log k_fsm) ++ zt N kz) sz)) (va_Qi (fun (r : Int32) (_ : Unit) => r = (sp_E_8_has hs gc fsm o qs fz p0 p1 p2 p3).1) (fun _ t => ∃ (z_fsm : Nat → Int32), pu_E (dC, dI) ((xgp__w xa xtape (nI tp) rd au xdr hy g (nI hs) tg sg (nI ss) rm ti py bu sm gz g1 g2 g3 g4 g5 (nI gc) (nI gfull) gx gway gav ggoal (nI gfound) 120 (nI gl) (nI gsz) g16 g17 k_fgz (zs o 121 az) k_s1g (bN 7 q_s1g) k_s2g s2g k_s3g s3g k_s4g s4g k_s5g s5g k_hig hig k_log log k_fsm z_fsm) ++ zp 4 16 N az ac kz qs fz) ((xgp__t k_fgz k_s1g k_s2g k_s3g k_s4g k_s5g k_hig k_log k_fsm) ++ zt N kz) (va_A (((xgp__w xa xtape (nI tp) rd au xdr hy g (nI hs) tg sg (nI ss) rm ti py bu sm gz g1 g2 g3 g4 g5 (nI gc) (nI gfull) gx gway gav ggoal (nI gfound) 120 (nI gl) (nI gsz) g16 g17 k_fgz (zs o 121 az) k_s1g (bN 7 q_s1g) k_s2g s2g k_s3g s3g k_s4g s4g k_s5g s5g k_hig hig k_log log k_fsm fsm) ++ zp 4 16 N az ac kz qs fz)) sz) t ∧ (z_fsm = (sp_E_8_has hs gc fsm o qs fz p0 p1 p2 p3).2)) (va_A (((xgp__w xa xtape (nI tp) rd au xdr hy g (nI hs) tg sg (nI ss) rm ti py bu sm gz g1 g2 g3 g4 g5 (nI gc) (nI gfull) gx gway gav ggoal (nI gfound) 120 (nI gl) (nI gsz) g16 g17 k_fgz (zs o 121 az) k_s1g (bN 7 q_s1g) k_s2g s2g k_s3g s3g k_s4g s4g k_s5g s5g k_hig hig k_log log k_fsm fsm) ++ zp 4 16 N az ac kz qs fz)) sz)) 0 0 (va_A (((xgp__w xa xtape (nI tp) rd au xdr hy g (nI hs) tg sg (nI ss) rm ti py bu sm gz g1 g2 g3 g4 g5 (nI gc) (nI gfull) gx gway gav ggoal (nI gfound) 120 (nI gl) (nI gsz) g16 g17 k_fgz (zs o 121 az) k_s1g (bN 7 q_s1g) k_s2g s2g k_s3g s3g k_s4g s4g k_s5g s5g k_hig hig k_log log k_fsm fsm) ++ zp 4 16 N az ac kz qs fz)) sz) := by
  refine Met.ofW (cc := cX8_has) (maxL := 5) (ret := (some .int)) (by decide) rfl ?_
  intro p e s m args below meth c s₁ B hml hv
  obtain ⟨rfl, rfl, hP, hK, hD0⟩ := hv
  have hx := B.exec
  have hb := B.bytes
  have hr := B.returns
  have hts := atoms_spec (ws := vs_E_8_has) B.pre
  have v_6 := hts (.fieldLink RX8 76 "ClockReach" "sample" "[I") (List.mem_cons_of_mem _ cm_563)
  have v_7 := hts (.fieldLink RX8 42 "ClockReach" "shown" "LClockReach$Graph;") (List.mem_cons_of_mem _ cm_456)
  have v_8 := hts (.fieldLink RX8 249 "ClockReach$Graph" "zones" "[LClockReach$Zone;") (List.mem_cons_of_mem _ cm_544)
  have hown : s.vm.findClass RX8 = some m.cls := findClass_of_methodNamed B.named
  have hlocks := B.notSynchronized
  have hiX1 : ∀ w ∈ wsX10, w ∈ vs_E_8_has := fun _ h => List.mem_cons_of_mem _ (cm_X1 h)
  have hiX8 : ∀ w ∈ wsX80, w ∈ vs_E_8_has := fun _ h => List.mem_cons_of_mem _ (cm_X8 h)
  have hD := hD0.self (sz := s.heap.size)
  generalize hAe : va_A (((xgp__w xa xtape (nI tp) rd au xdr hy g (nI hs) tg sg (nI ss) rm ti py bu sm gz g1 g2 g3 g4 g5 (nI gc) (nI gfull) gx gway gav ggoal (nI gfound) 120 (nI gl) (nI gsz) g16 g17 k_fgz (zs o 121 az) k_s1g (bN 7 q_s1g) k_s2g s2g k_s3g s3g k_s4g s4g k_s5g s5g k_hig hig k_log log k_fsm fsm) ++ zp 4 16 N az ac kz qs fz)) s.heap.size = A at hD ⊢
  have hA : ∀ q : Nat, s.heap.size ≤ q → A q := fun q h => by rw [← hAe]; exact Or.inr h
  have hS : va_S A s.heap s.heap [] := va_S.rf
  have hl := lv_entry ([.ref xa, .int p0, .int p1, .int p2, .int p3]) (n := 5) (Nat.le_of_ble_eq_true rfl)
  rw [lg_entry_eq]
  generalize (lg_sl ([.ref xa, .int p0, .int p1, .int p2, .int p3]) ++ List.replicate (5 - (lg_sl ([.ref xa, .int p0, .int p1, .int p2, .int p3])).length) Slot.unset).toArray = ls at hl ⊢
  have hl : lv_has ls 5 [(0, .ref xa), (1, .int p0), (2, .int p1), (3, .int p2), (4, .int p3)] := hl
  obtain ⟨RR, hRR⟩ : ∃ x, x = (sp_E_8_has hs gc fsm o qs fz p0 p1 p2 p3) := ⟨_, rfl⟩
  have hsp := hRR
  refine lv_aload_n hx hb eX8_has_0 rfl (lv_at hl 0 rfl) ?_
  refine lv_iload_n hx hb eX8_has_1 rfl (lv_at hl 1 rfl) ?_
  have hPc : va_P (dC, dI) vwCl [(xa, .inr (8, [.ref xtape, .int (nI tp), .ref rd, .ref au, .ref xdr, .ref hy, .ref g, .int (nI hs), .ref tg, .ref sg, .int (nI ss), .ref rm, .ref ti, .ref py, .ref bu, .ref sm])), (g, .inr (1, [.ref gz, .ref g1, .ref g2, .ref g3, .ref g4, .ref g5, .int (nI gc), .int (nI gfull), .int gx, .int gway, .int gav, .int ggoal, .int (nI gfound), .int 120, .int (nI gl), .int (nI gsz), .ref g16, .ref g17]))] _ := hP.sub [0, 1] rfl
  have hDc : va_D A [(xa, .inr (8, [.ref xtape, .int (nI tp), .ref rd, .ref au, .ref xdr, .ref hy, .ref g, .int (nI hs), .ref tg, .ref sg, .int (nI ss), .ref rm, .ref ti, .ref py, .ref bu, .ref sm])), (g, .inr (1, [.ref gz, .ref g1, .ref g2, .ref g3, .ref g4, .ref g5, .int (nI gc), .int (nI gfull), .int gx, .int gway, .int gav, .int ggoal, .int (nI gfound), .int 120, .int (nI gl), .int (nI gsz), .ref g16, .ref g17]))] := (zp_left hD).sub [0, 1] (by decide) rfl
  have hKc : va_K (dC, dI) vwCl [] s := hK.sub [] rfl
  refine va_calli (va_runV (As := [.int p0]) (rest := []) ⟨hx, hb, hml, hown, hts⟩ (c_E_8_isState l dC dI _ xa xtape tp rd au xdr hy g hs tg sg ss rm ti py bu sm gz g1 g2 g3 g4 g5 gc gfull gx gway gav ggoal gfound gl gsz g16 g17 p0 htp hhs hss hgc hgfull hgfound hgl hgsz) (cwV 1 hts g_E_8_has_E_8_isState rfl rfl rfl (by decide +kernel) ⟨Nat.le_of_ble_eq_true rfl, Nat.le_of_ble_eq_true rfl⟩) ⟨pu_bl, va_recv hK hP (ci := 8) (q0 := 0) rfl rfl, pu_in hPc hKc hDc⟩ rfl rfl hl.1 rfl (lv_room (Nat.le_of_ble_eq_true rfl)) eX8_has_2 ⟨Nat.le_of_ble_eq_true rfl, Nat.le_of_ble_eq_true rfl⟩) hS (fun q _ h => pu_fr hS hA q h) (pu_fr hS hA) (fun r_1 u t H1 locs ht hvm hw hB hz1 hk1 hS => ?_)
  have hP := pu_keep hP hk1
  clear hPc hDc hKc
  clear hk1 hz1 ht hvm
  generalize H1 = H at hP hS ⊢
  rcases hw with ⟨rfl, hw⟩ | ⟨rfl, hn⟩
  · obtain ⟨hs1, n_2, hn_2, rfl⟩ := hw
    have hsp := hsp.trans (if_pos ⟨hs1, in_q hn_2 (by omega)⟩)
    have hsp := hsp.trans (slet_eq (nI_cl (n := n_2) (by omega)))
    refine lv_if_ne (tgt := 10) hx hb eX8_has_5 (by decide) (fun _ => ?_) (fun z => absurd z (by decide))
    refine lv_aload_n hx hb eX8_has_10 rfl (lv_at hl 0 rfl) ?_
    refine va_get (D := (dC, dI)) (ci := 8) (v := .ref sm) (C := RX8) (T := TX8) (N := 16) hx hb hts hiX8 hown hK hP 0 rfl rfl 15 (by decide) v_6 (fun _ h9 => h9) rfl eX8_has_11 ?_
    refine lv_iconst (v := 0) hx hb eX8_has_14 (by decide) ?_
    refine lv_iconst (v := 0) hx hb eX8_has_15 (by decide) ?_
    refine va_iast hx hb hK hP hD hS 10 8 rfl rfl (vp_in_nI (n := 0) (Nat.le_of_ble_eq_true rfl) (Nat.le_of_ble_eq_true rfl)) eX8_has_16 (fun H locs hP hD hS => ?_)
    obtain ⟨f_3, ef_3, xf_3⟩ := up_x fsm (n := 0) 0 (Nat.le_of_ble_eq_true rfl)
    have hP : va_P (dC, dI) vwCl ((xgp__w xa xtape (nI tp) rd au xdr hy g (nI hs) tg sg (nI ss) rm ti py bu sm gz g1 g2 g3 g4 g5 (nI gc) (nI gfull) gx gway gav ggoal (nI gfound) 120 (nI gl) (nI gsz) g16 g17 k_fgz (zs o 121 az) k_s1g (bN 7 q_s1g) k_s2g s2g k_s3g s3g k_s4g s4g k_s5g s5g k_hig hig k_log log k_fsm f_3) ++ zp 4 16 N az ac kz qs fz) H := by rw [← ef_3]; exact hP
    have hD : va_D A ((xgp__w xa xtape (nI tp) rd au xdr hy g (nI hs) tg sg (nI ss) rm ti py bu sm gz g1 g2 g3 g4 g5 (nI gc) (nI gfull) gx gway gav ggoal (nI gfound) 120 (nI gl) (nI gsz) g16 g17 k_fgz (zs o 121 az) k_s1g (bN 7 q_s1g) k_s2g s2g k_s3g s3g k_s4g s4g k_s5g s5g k_hig hig k_log log k_fsm f_3) ++ zp 4 16 N az ac kz qs fz) := by rw [← ef_3]; exact hD
    have hsp := hsp.trans (slet_eq xf_3)
    refine lv_aload_n hx hb eX8_has_17 rfl (lv_at hl 0 rfl) ?_
    refine va_get (D := (dC, dI)) (ci := 8) (v := .ref sm) (C := RX8) (T := TX8) (N := 16) hx hb hts hiX8 hown hK hP 0 rfl rfl 15 (by decide) v_6 (fun _ h9 => h9) rfl eX8_has_18 ?_
    refine lv_iconst (v := 1) hx hb eX8_has_21 (by decide) ?_
    refine lv_iload_n hx hb eX8_has_22 rfl (lv_at hl 2 rfl) ?_
    refine va_iast hx hb hK hP hD hS 10 8 rfl rfl (vp_in_nI (n := 1) (Nat.le_of_ble_eq_true rfl) (Nat.le_of_ble_eq_true rfl)) eX8_has_23 (fun H locs hP hD hS => ?_)
    obtain ⟨f_4, ef_4, xf_4⟩ := up_x f_3 (n := 1) p1 (Nat.le_of_ble_eq_true rfl)
    have hP : va_P (dC, dI) vwCl ((xgp__w xa xtape (nI tp) rd au xdr hy g (nI hs) tg sg (nI ss) rm ti py bu sm gz g1 g2 g3 g4 g5 (nI gc) (nI gfull) gx gway gav ggoal (nI gfound) 120 (nI gl) (nI gsz) g16 g17 k_fgz (zs o 121 az) k_s1g (bN 7 q_s1g) k_s2g s2g k_s3g s3g k_s4g s4g k_s5g s5g k_hig hig k_log log k_fsm f_4) ++ zp 4 16 N az ac kz qs fz) H := by rw [← ef_4]; exact hP
    have hD : va_D A ((xgp__w xa xtape (nI tp) rd au xdr hy g (nI hs) tg sg (nI ss) rm ti py bu sm gz g1 g2 g3 g4 g5 (nI gc) (nI gfull) gx gway gav ggoal (nI gfound) 120 (nI gl) (nI gsz) g16 g17 k_fgz (zs o 121 az) k_s1g (bN 7 q_s1g) k_s2g s2g k_s3g s3g k_s4g s4g k_s5g s5g k_hig hig k_log log k_fsm f_4) ++ zp 4 16 N az ac kz qs fz) := by rw [← ef_4]; exact hD
    have hsp := hsp.trans (slet_eq xf_4)
    refine lv_aload_n hx hb eX8_has_24 rfl (lv_at hl 0 rfl) ?_
    refine va_get (D := (dC, dI)) (ci := 8) (v := .ref sm) (C := RX8) (T := TX8) (N := 16) hx hb hts hiX8 hown hK hP 0 rfl rfl 15 (by decide) v_6 (fun _ h9 => h9) rfl eX8_has_25 ?_
    refine lv_iconst (v := 2) hx hb eX8_has_28 (by decide) ?_
    refine lv_iload_n hx hb eX8_has_29 rfl (lv_at hl 3 rfl) ?_
    refine va_iast hx hb hK hP hD hS 10 8 rfl rfl (vp_in_nI (n := 2) (Nat.le_of_ble_eq_true rfl) (Nat.le_of_ble_eq_true rfl)) eX8_has_30 (fun H locs hP hD hS => ?_)
    obtain ⟨f_5, ef_5, xf_5⟩ := up_x f_4 (n := 2) p2 (Nat.le_of_ble_eq_true rfl)
    have hP : va_P (dC, dI) vwCl ((xgp__w xa xtape (nI tp) rd au xdr hy g (nI hs) tg sg (nI ss) rm ti py bu sm gz g1 g2 g3 g4 g5 (nI gc) (nI gfull) gx gway gav ggoal (nI gfound) 120 (nI gl) (nI gsz) g16 g17 k_fgz (zs o 121 az) k_s1g (bN 7 q_s1g) k_s2g s2g k_s3g s3g k_s4g s4g k_s5g s5g k_hig hig k_log log k_fsm f_5) ++ zp 4 16 N az ac kz qs fz) H := by rw [← ef_5]; exact hP
    have hD : va_D A ((xgp__w xa xtape (nI tp) rd au xdr hy g (nI hs) tg sg (nI ss) rm ti py bu sm gz g1 g2 g3 g4 g5 (nI gc) (nI gfull) gx gway gav ggoal (nI gfound) 120 (nI gl) (nI gsz) g16 g17 k_fgz (zs o 121 az) k_s1g (bN 7 q_s1g) k_s2g s2g k_s3g s3g k_s4g s4g k_s5g s5g k_hig hig k_log log k_fsm f_5) ++ zp 4 16 N az ac kz qs fz) := by rw [← ef_5]; exact hD
    have hsp := hsp.trans (slet_eq xf_5)
    refine lv_aload_n hx hb eX8_has_31 rfl (lv_at hl 0 rfl) ?_
    refine va_get (D := (dC, dI)) (ci := 8) (v := .ref sm) (C := RX8) (T := TX8) (N := 16) hx hb hts hiX8 hown hK hP 0 rfl rfl 15 (by decide) v_6 (fun _ h9 => h9) rfl eX8_has_32 ?_
    refine lv_iconst (v := 3) hx hb eX8_has_35 (by decide) ?_
    refine lv_iload hx hb eX8_has_36 (lv_at hl 4 rfl) ?_
    refine va_iast hx hb hK hP hD hS 10 8 rfl rfl (vp_in_nI (n := 3) (Nat.le_of_ble_eq_true rfl) (Nat.le_of_ble_eq_true rfl)) eX8_has_38 (fun H locs hP hD hS => ?_)
    obtain ⟨f_6, ef_6, xf_6⟩ := up_x f_5 (n := 3) p3 (Nat.le_of_ble_eq_true rfl)
    have hP : va_P (dC, dI) vwCl ((xgp__w xa xtape (nI tp) rd au xdr hy g (nI hs) tg sg (nI ss) rm ti py bu sm gz g1 g2 g3 g4 g5 (nI gc) (nI gfull) gx gway gav ggoal (nI gfound) 120 (nI gl) (nI gsz) g16 g17 k_fgz (zs o 121 az) k_s1g (bN 7 q_s1g) k_s2g s2g k_s3g s3g k_s4g s4g k_s5g s5g k_hig hig k_log log k_fsm f_6) ++ zp 4 16 N az ac kz qs fz) H := by rw [← ef_6]; exact hP
    have hD : va_D A ((xgp__w xa xtape (nI tp) rd au xdr hy g (nI hs) tg sg (nI ss) rm ti py bu sm gz g1 g2 g3 g4 g5 (nI gc) (nI gfull) gx gway gav ggoal (nI gfound) 120 (nI gl) (nI gsz) g16 g17 k_fgz (zs o 121 az) k_s1g (bN 7 q_s1g) k_s2g s2g k_s3g s3g k_s4g s4g k_s5g s5g k_hig hig k_log log k_fsm f_6) ++ zp 4 16 N az ac kz qs fz) := by rw [← ef_6]; exact hD
    have hsp := hsp.trans (slet_eq xf_6)
    refine lv_aload_n hx hb eX8_has_39 rfl (lv_at hl 0 rfl) ?_
    refine va_get (D := (dC, dI)) (ci := 8) (v := .ref g) (C := RX8) (T := TX8) (N := 16) hx hb hts hiX8 hown hK hP 0 rfl rfl 6 (by decide) v_7 (fun _ h9 => h9) rfl eX8_has_40 ?_
    refine va_get (D := (dC, dI)) (ci := 1) (v := .ref gz) (C := RX1) (T := TX1) (N := 18) hx hb hts hiX1 hown hK hP 1 rfl rfl 0 (by decide) v_8 (fun _ h9 => h9) rfl eX8_has_43 ?_
    refine lv_iload_n hx hb eX8_has_46 rfl (lv_at hl 1 rfl) ?_
    refine va_aldq hx hb hK hP 2 0 rfl rfl (vp_in_nI (n := n_2) (by omega) (Nat.le_of_ble_eq_true rfl)) eX8_has_47 ?_
    refine W.eq (g2 := F0 m 48 ls [.ref (az (o + n_2))]) (by rw [zs_get (by omega) (by omega)]) ?_
    refine lv_aload_n hx hb eX8_has_48 rfl (lv_at hl 0 rfl) ?_
    refine va_get (D := (dC, dI)) (ci := 8) (v := .ref sm) (C := RX8) (T := TX8) (N := 16) hx hb hts hiX8 hown hK hP 0 rfl rfl 15 (by decide) v_6 (fun _ h9 => h9) rfl eX8_has_49 ?_
    have hPz := zp_cut (k := (o + n_2)) hP (by omega)
    have hPc : va_P (dC, dI) vwCl ([(sm, .inl (k_fsm, 4, .inl f_6))] ++ [(az (o + n_2), .inr (7, [.ref (ac (o + n_2)), .int (nI (min (qs (o + n_2)) 4))])), (ac (o + n_2), .inl (kz (o + n_2), 16, .inl (fz (o + n_2))))]) _ := va_P.app (hP.sub [10] rfl) hPz
    have hDc : va_D A ([(sm, .inl (k_fsm, 4, .inl f_6))] ++ [(az (o + n_2), .inr (7, [.ref (ac (o + n_2)), .int (nI (min (qs (o + n_2)) 4))])), (ac (o + n_2), .inl (kz (o + n_2), 16, .inl (fz (o + n_2))))]) := zp_cutD hD (by omega) [10] (by decide) rfl
    have hKc : va_K (dC, dI) vwCl ([(k_fsm, .int)] ++ [(kz (o + n_2), .int)]) s := zp_K hK (by omega) [8] rfl
    refine va_calli (va_runV (As := [.ref sm]) (rest := []) ⟨hx, hb, hml, hown, hts⟩ (c_E_7_holdsTimes l dC dI _ sm k_fsm f_6 (az (o + n_2)) (ac (o + n_2)) (min (qs (o + n_2)) 4) (kz (o + n_2)) (fz (o + n_2)) (Nat.min_le_right _ _)) (cwV 1 hts g_E_8_has_E_7_holdsTimes rfl rfl rfl (by decide +kernel) ⟨Nat.le_of_ble_eq_true rfl, Nat.le_of_ble_eq_true rfl⟩) ⟨pu_bl, va_recv hK hPz (ci := 7) (q0 := 0) rfl rfl, pu_in hPc hKc hDc⟩ rfl rfl hl.1 rfl (lv_room (Nat.le_of_ble_eq_true rfl)) eX8_has_52 ⟨Nat.le_of_ble_eq_true rfl, Nat.le_of_ble_eq_true rfl⟩) hS (fun q _ h => pu_fr hS hA q h) (pu_fr hS hA) (fun r_7 u t H1 locs ht hvm hw hB hz1 hk1 hS => ?_)
    have hP := pu_keep hP hk1
    clear hPc hDc hKc
    clear hk1 hz1 ht hvm
    generalize H1 = H at hP hS ⊢
    obtain ⟨u_8, hu_8, rfl, iu_8⟩ := hw
    have hsp := hsp.trans (slet_eq iu_8)
    have hPc : va_P (dC, dI) vwCl [] _ := hP.sub [] rfl
    have hDc : va_D A [] := (zp_left hD).sub [] (by decide) rfl
    have hKc : va_K (dC, dI) vwCl [] s := hK.sub [] rfl
    refine va_calli (va_runS (As := [.int (nI u_8)]) (rest := []) ⟨hx, hb, hml, hown, hts⟩ (c_E_8_bit l dC dI _ (nI u_8)) (va_cwS 1 hts g_E_8_has_E_8_bit rfl rfl rfl (by decide +kernel) ⟨Nat.le_of_ble_eq_true rfl, Nat.le_of_ble_eq_true rfl⟩) ⟨pu_bl, pu_in hPc hKc hDc⟩ rfl rfl hl.1 rfl (lv_room (Nat.le_of_ble_eq_true rfl)) eX8_has_55 ⟨Nat.le_of_ble_eq_true rfl, Nat.le_of_ble_eq_true rfl⟩) hS (fun q _ h => pu_fr hS hA q h) (pu_fr hS hA) (fun r_9 u t H1 locs ht hvm hw hB hz1 hk1 hS => ?_)
    have hP := pu_keep hP hk1
    clear hPc hDc hKc
    clear hk1 hz1 ht hvm
    generalize H1 = H at hP hS ⊢
    obtain ⟨u_10, hu_10, rfl, iu_10⟩ := hw
    have hsp := hsp.trans (slet_eq iu_10)
    exact W.iret (v := (nI u_10)) hx hb hr (fun t ht hW => ⟨⟨(nI u_10), (), rfl, (congrArg Prod.fst (hsp.symm.trans hRR)), ⟨f_6, ⟨by rw [ht]; exact hP, va_K.moved hW.alike hK, hD⟩, (congrArg Prod.snd (hsp.symm.trans hRR))⟩⟩, hS.F ht⟩) hS.2.2 eX8_has_58
  · have hsp := hsp.trans (if_neg hn)
    refine lv_if_ne (tgt := 10) hx hb eX8_has_5 (by decide) (fun z => absurd z (by decide)) (fun _ => ?_)
    refine lv_iconst (v := (-1)) hx hb eX8_has_8 (by decide) ?_
    exact W.iret (v := (-1)) hx hb hr (fun t ht hW => ⟨⟨(-1), (), rfl, (congrArg Prod.fst (hsp.symm.trans hRR)), ⟨fsm, ⟨by rw [ht]; exact hP, va_K.moved hW.alike hK, hD⟩, (congrArg Prod.snd (hsp.symm.trans hRR))⟩⟩, hS.F ht⟩) hS.2.2 eX8_has_9
