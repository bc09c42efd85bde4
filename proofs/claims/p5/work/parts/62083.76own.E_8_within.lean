theorem eX8_within_0 : decode cX8_within 0 = .ok (.aload_n 0, 1) := by decide +kernel
theorem eX8_within_1 : decode cX8_within 1 = .ok (.iload_n 1, 1) := by decide +kernel
theorem eX8_within_2 : decode cX8_within 2 = .ok (.invokevirtual 228, 3) := by decide +kernel
theorem eX8_within_5 : decode cX8_within 5 = .ok (.ifCond .eq 11, 3) := by decide +kernel
theorem eX8_within_8 : decode cX8_within 8 = .ok (.aload_n 0, 1) := by decide +kernel
theorem eX8_within_9 : decode cX8_within 9 = .ok (.iload_n 2, 1) := by decide +kernel
theorem eX8_within_10 : decode cX8_within 10 = .ok (.invokevirtual 228, 3) := by decide +kernel
theorem eX8_within_13 : decode cX8_within 13 = .ok (.ifCond .ne 5, 3) := by decide +kernel
theorem eX8_within_16 : decode cX8_within 16 = .ok (.iconst (-1), 1) := by decide +kernel
theorem eX8_within_17 : decode cX8_within 17 = .ok (.ireturn, 1) := by decide +kernel
theorem eX8_within_18 : decode cX8_within 18 = .ok (.aload_n 0, 1) := by decide +kernel
theorem eX8_within_19 : decode cX8_within 19 = .ok (.getfield 42, 3) := by decide +kernel
theorem eX8_within_22 : decode cX8_within 22 = .ok (.getfield 249, 3) := by decide +kernel
theorem eX8_within_25 : decode cX8_within 25 = .ok (.iload_n 1, 1) := by decide +kernel
theorem eX8_within_26 : decode cX8_within 26 = .ok (.aaload, 1) := by decide +kernel
theorem eX8_within_27 : decode cX8_within 27 = .ok (.aload_n 0, 1) := by decide +kernel
theorem eX8_within_28 : decode cX8_within 28 = .ok (.getfield 42, 3) := by decide +kernel
theorem eX8_within_31 : decode cX8_within 31 = .ok (.getfield 249, 3) := by decide +kernel
theorem eX8_within_34 : decode cX8_within 34 = .ok (.iload_n 2, 1) := by decide +kernel
theorem eX8_within_35 : decode cX8_within 35 = .ok (.aaload, 1) := by decide +kernel
theorem eX8_within_36 : decode cX8_within 36 = .ok (.invokevirtual 276, 3) := by decide +kernel
theorem eX8_within_39 : decode cX8_within 39 = .ok (.invokestatic 133, 3) := by decide +kernel
theorem eX8_within_42 : decode cX8_within 42 = .ok (.ireturn, 1) := by decide +kernel
abbrev vs_E_8_within : List Cond := .code yX8_within cX8_within 3 (some .int) :: CM
theorem g_E_8_within_E_8_isState : GoodIn vs_E_8_within (wsV RX8 228 RX8 yX8_isState vs_E_8_isState) := cm_gV cm_537 cm_538 cm_539 cm_427 cm_530
theorem g_E_8_within_E_7_holdsAll_s_16 : GoodIn vs_E_8_within (wsV RX8 276 RX7 yX7_holdsAll vs_E_7_holdsAll_s_16) := cm_gV cm_561 cm_144 cm_145 cm_45 cm_146
theorem g_E_8_within_E_8_bit : GoodIn vs_E_8_within (va_wsS RX8 133 yX8_bit vs_E_8_bit) := cm_gS cm_463 cm_464 cm_427 cm_465
theorem g_E_8_within_E_7_holdsAll_16 : GoodIn vs_E_8_within (wsV RX8 276 RX7 yX7_holdsAll vs_E_7_holdsAll_16) := cm_gV cm_561 cm_144 cm_145 cm_45 cm_146
noncomputable def sp_E_8_within (hs : Nat) (gc : Nat) (o : Nat) (qs : Nat → Nat) (fz : Nat → Nat → Int32) (p0 : Int32) (p1 : Int32) : Int32 := (if hs = 1 ∧ (0 : Int32) ≤ p0 ∧ p0 < nI gc then (slet ((p0 : Int32).toNatClampNeg) (fun n_2 => (if hs = 1 ∧ (0 : Int32) ≤ p1 ∧ p1 < nI gc then (slet ((p1 : Int32).toNatClampNeg) (fun n_4 => (if n_2 = n_4 then (slet (sp_E_7_holdsAll_s_16 (min (qs (o + n_2)) 4) (fz (o + n_2))) (fun u_6 => (slet (sp_E_8_bit (nI u_6)) (fun u_8 => (nI u_8))))) else (slet (sp_E_7_holdsAll_16 (fz (o + n_4)) (min (qs (o + n_2)) 4) (fz (o + n_2))) (fun u_10 => (slet (sp_E_8_bit (nI u_10)) (fun u_12 => (nI u_12)))))))) else (-1)))) else (-1))
set_option maxHeartbeats 4000000 in
set_option maxRecDepth 100000 in
theorem c_E_8_within (l : Launch) (dC : Nat → ClassId) (dI : Nat → Nat → Nat) (sz : Nat) (xa : Nat) (xtape : Nat) (tp : Nat) (rd : Nat) (au : Nat) (xdr : Nat) (hy : Nat) (g : Nat) (hs : Nat) (tg : Nat) (sg : Nat) (ss : Nat) (rm : Nat) (ti : Nat) (py : Nat) (bu : Nat) (sm : Nat) (nc : Nat) (np : Nat) (ne : Nat) (st0 : Int32) (q4 : Nat) (q5 : Nat) (q6 : Nat) (q7 : Nat) (q8 : Nat) (q9 : Nat) (q10 : Nat) (q11 : Nat) (q12 : Nat) (q13 : Nat) (q14 : Nat) (q15 : Nat) (q16 : Nat) (k_f4 : ClassId) (f4 : Nat → Int32) (k_f5 : ClassId) (q_f5 : Nat → Nat) (k_f6 : ClassId) (q_f6 : Nat → Nat) (k_f7 : ClassId) (f7 : Nat → Int32) (k_f8 : ClassId) (q_f8 : Nat → Nat) (k_f9 : ClassId) (q_f9 : Nat → Nat) (k_f10 : ClassId) (f10 : Nat → Int32) (k_f11 : ClassId) (f11 : Nat → Int32) (k_f12 : ClassId) (f12 : Nat → Int32) (k_f13 : ClassId) (f13 : Nat → Int32) (k_f14 : ClassId) (f14 : Nat → Int32) (k_f15 : ClassId) (f15 : Nat → Int32) (k_f16 : ClassId) (f16 : Nat → Int32) (gz : Nat) (g1 : Nat) (g2 : Nat) (g3 : Nat) (g4 : Nat) (g5 : Nat) (gc : Nat) (gfull : Nat) (gx : Int32) (gway : Int32) (gav : Int32) (ggoal : Int32) (gfound : Nat) (gl : Nat) (gsz : Nat) (g16 : Nat) (g17 : Nat) (k_fgz : ClassId) (k_s1g : ClassId) (q_s1g : Nat → Nat) (k_s2g : ClassId) (s2g : Nat → Int32) (k_s3g : ClassId) (s3g : Nat → Int32) (k_s4g : ClassId) (s4g : Nat → Int32) (k_s5g : ClassId) (s5g : Nat → Int32) (k_hig : ClassId) (hig : Nat → Int32) (k_log : ClassId) (log : Nat → Int32) (k_fbu : ClassId) (fbu : Nat → Int32) (N : Nat) (o : Nat) (az ac : Nat → Nat) (kz : Nat → ClassId) (qs : Nat → Nat) (fz : Nat → Nat → Int32) (p0 : Int32) (p1 : Int32) (htp : tp ≤ 900) (hhs : hs ≤ 1) (hss : ss ≤ 1) (hnc : nc ≤ 3) (hnp : np ≤ 8) (hne : ne ≤ 14) (hst0 : pm1 7 st0) (hgc : gc ≤ 120) (hgfull : gfull ≤ 1) (hgfound : gfound ≤ 1) (hgl : gl ≤ 1) (hgsz : gsz ≤ 4) (hN : o + 121 ≤ N) : Met l yX8_within vs_E_8_within ({ frames := 1, cells := 0, slots := 0, locals := 22 }) (va_Pc [.ref xa, .int p0, .int p1] (pu_B (dC, dI) ((xg__w xa xtape (nI tp) rd au xdr hy g (nI hs) tg sg (nI ss) rm ti py bu sm (nI nc) (nI np) (nI ne) st0 q4 q5 q6 q7 q8 q9 q10 q11 q12 q13 q14 q15 q16 k_f4 f4 k_f5 (bN 7 q_f5) k_f6 (bN 7 q_f6) k_f7 f7 k_f8 (bN 4 q_f8) k_f9 (bN 2 q_f9) k_f10 f10 k_f11 f11 k_f12 f12 k_f13 f13 k_f14 f14 k_f15 f15 k_f16 f16 gz g1 g2 g3 g4 g5 (nI gc) (nI gfull) gx gway gav ggoal (nI gfound) 120 (nI gl) (nI gsz) g16 g17 k_fgz (zs o 121 az) k_s1g (bN 7 q_s1g) k_s2g s2g k_s3g s3g k_s4g s4g k_s5g s5g k_hig hig k_log log k_fbu fbu) ++ zp 4 16 N az ac kz qs fz) ((xg__t k_f4 k_f5 k_f6 k_f7 k_f8 k_f9 k_f10 k_f11 k_f12 k_f13 k_f14 k_f15 k_f16 k_fgz k_s1g k_s2g k_s3g k_s4g k_s5g k_hig k_log k_fbu) ++ zt N kz) sz)) (va_Qi (fun (r : Int32) (_ : Unit) => r = (sp_E_8_within hs gc o qs fz p0 p1)) (fun _ _ => True) (va_A [] sz)) 0 0 (va_A [] sz) := by
  refine Met.ofW (cc := cX8_within) (maxL := 3) (ret := (some .int)) (by decide) rfl ?_
  intro p e s m args below meth c s₁ B hml hv
  obtain ⟨rfl, rfl, hP, hK, hD0⟩ := hv
  have hx := B.exec
  have hb := B.bytes
  have hr := B.returns
  have hts := atoms_spec (ws := vs_E_8_within) B.pre
  have v_6 := hts (.fieldLink RX8 42 "ClockReach" "shown" "LClockReach$Graph;") (List.mem_cons_of_mem _ cm_456)
  have v_7 := hts (.fieldLink RX8 249 "ClockReach$Graph" "zones" "[LClockReach$Zone;") (List.mem_cons_of_mem _ cm_544)
  have hown : s.vm.findClass RX8 = some m.cls := findClass_of_methodNamed B.named
  have hlocks := B.notSynchronized
  have hiX1 : ∀ w ∈ wsX10, w ∈ vs_E_8_within := fun _ h => List.mem_cons_of_mem _ (cm_X1 h)
  have hiX8 : ∀ w ∈ wsX80, w ∈ vs_E_8_within := fun _ h => List.mem_cons_of_mem _ (cm_X8 h)
  have hD := hD0
  have hA : ∀ q : Nat, s.heap.size ≤ q → va_A [] s.heap.size q := fun _ h => Or.inr h
  have hS : va_S (va_A [] s.heap.size) s.heap s.heap [] := va_S.rf
  have hl := lv_entry ([.ref xa, .int p0, .int p1]) (n := 3) (Nat.le_of_ble_eq_true rfl)
  rw [lg_entry_eq]
  generalize (lg_sl ([.ref xa, .int p0, .int p1]) ++ List.replicate (3 - (lg_sl ([.ref xa, .int p0, .int p1])).length) Slot.unset).toArray = ls at hl ⊢
  have hl : lv_has ls 3 [(0, .ref xa), (1, .int p0), (2, .int p1)] := hl
  obtain ⟨RR, hRR⟩ : ∃ x, x = (sp_E_8_within hs gc o qs fz p0 p1) := ⟨_, rfl⟩
  have hsp := hRR
  refine lv_aload_n hx hb eX8_within_0 rfl (lv_at hl 0 rfl) ?_
  refine lv_iload_n hx hb eX8_within_1 rfl (lv_at hl 1 rfl) ?_
  have hPc : va_P (dC, dI) vwCl [(xa, .inr (8, [.ref xtape, .int (nI tp), .ref rd, .ref au, .ref xdr, .ref hy, .ref g, .int (nI hs), .ref tg, .ref sg, .int (nI ss), .ref rm, .ref ti, .ref py, .ref bu, .ref sm])), (g, .inr (1, [.ref gz, .ref g1, .ref g2, .ref g3, .ref g4, .ref g5, .int (nI gc), .int (nI gfull), .int gx, .int gway, .int gav, .int ggoal, .int (nI gfound), .int 120, .int (nI gl), .int (nI gsz), .ref g16, .ref g17]))] _ := hP.sub [0, 15] rfl
  have hDc : va_D (fun _ => True) [(xa, .inr (8, [.ref xtape, .int (nI tp), .ref rd, .ref au, .ref xdr, .ref hy, .ref g, .int (nI hs), .ref tg, .ref sg, .int (nI ss), .ref rm, .ref ti, .ref py, .ref bu, .ref sm])), (g, .inr (1, [.ref gz, .ref g1, .ref g2, .ref g3, .ref g4, .ref g5, .int (nI gc), .int (nI gfull), .int gx, .int gway, .int gav, .int ggoal, .int (nI gfound), .int 120, .int (nI gl), .int (nI gsz), .ref g16, .ref g17]))] := (zp_left hD).sub [0, 15] (by decide) rfl
  have hKc : va_K (dC, dI) vwCl [] s := hK.sub [] rfl
  refine va_calli (va_runV (As := [.int p0]) (rest := []) ⟨hx, hb, hml, hown, hts⟩ (c_E_8_isState l dC dI _ xa xtape tp rd au xdr hy g hs tg sg ss rm ti py bu sm gz g1 g2 g3 g4 g5 gc gfull gx gway gav ggoal gfound gl gsz g16 g17 p0 htp hhs hss hgc hgfull hgfound hgl hgsz) (cwV 1 hts g_E_8_within_E_8_isState rfl rfl rfl (by decide +kernel) ⟨Nat.le_of_ble_eq_true rfl, Nat.le_of_ble_eq_true rfl⟩) ⟨pu_bl, va_recv hK hP (ci := 8) (q0 := 0) rfl rfl, pu_in hPc hKc hDc⟩ rfl rfl hl.1 rfl (lv_room (Nat.le_of_ble_eq_true rfl)) eX8_within_2 ⟨Nat.le_of_ble_eq_true rfl, Nat.le_of_ble_eq_true rfl⟩) hS (fun q _ h => pu_fr hS hA q h) (pu_fr hS hA) (fun r_1 u t H1 locs ht hvm hw hB hz1 hk1 hS => ?_)
  have hP := pu_keep hP hk1
  clear hPc hDc hKc
  clear hk1 hz1 ht hvm
  generalize H1 = H at hP hS ⊢
  rcases hw with ⟨rfl, hw⟩ | ⟨rfl, hn⟩
  · obtain ⟨hs1, n_2, hn_2, rfl⟩ := hw
    have hsp := hsp.trans (if_pos ⟨hs1, in_q hn_2 (by omega)⟩)
    have hsp := hsp.trans (slet_eq (nI_cl (n := n_2) (by omega)))
    refine lv_if_eq (tgt := 16) hx hb eX8_within_5 (by decide) (fun z => absurd z (by decide)) (fun _ => ?_)
    refine lv_aload_n hx hb eX8_within_8 rfl (lv_at hl 0 rfl) ?_
    refine lv_iload_n hx hb eX8_within_9 rfl (lv_at hl 2 rfl) ?_
    have hPc : va_P (dC, dI) vwCl [(xa, .inr (8, [.ref xtape, .int (nI tp), .ref rd, .ref au, .ref xdr, .ref hy, .ref g, .int (nI hs), .ref tg, .ref sg, .int (nI ss), .ref rm, .ref ti, .ref py, .ref bu, .ref sm])), (g, .inr (1, [.ref gz, .ref g1, .ref g2, .ref g3, .ref g4, .ref g5, .int (nI gc), .int (nI gfull), .int gx, .int gway, .int gav, .int ggoal, .int (nI gfound), .int 120, .int (nI gl), .int (nI gsz), .ref g16, .ref g17]))] _ := hP.sub [0, 15] rfl
    have hDc : va_D (fun _ => True) [(xa, .inr (8, [.ref xtape, .int (nI tp), .ref rd, .ref au, .ref xdr, .ref hy, .ref g, .int (nI hs), .ref tg, .ref sg, .int (nI ss), .ref rm, .ref ti, .ref py, .ref bu, .ref sm])), (g, .inr (1, [.ref gz, .ref g1, .ref g2, .ref g3, .ref g4, .ref g5, .int (nI gc), .int (nI gfull), .int gx, .int gway, .int gav, .int ggoal, .int (nI gfound), .int 120, .int (nI gl), .int (nI gsz), .ref g16, .ref g17]))] := (zp_left hD).sub [0, 15] (by decide) rfl
    have hKc : va_K (dC, dI) vwCl [] s := hK.sub [] rfl
    refine va_calli (va_runV (As := [.int p1]) (rest := []) ⟨hx, hb, hml, hown, hts⟩ (c_E_8_isState l dC dI _ xa xtape tp rd au xdr hy g hs tg sg ss rm ti py bu sm gz g1 g2 g3 g4 g5 gc gfull gx gway gav ggoal gfound gl gsz g16 g17 p1 htp hhs hss hgc hgfull hgfound hgl hgsz) (cwV 1 hts g_E_8_within_E_8_isState rfl rfl rfl (by decide +kernel) ⟨Nat.le_of_ble_eq_true rfl, Nat.le_of_ble_eq_true rfl⟩) ⟨pu_bl, va_recv hK hP (ci := 8) (q0 := 0) rfl rfl, pu_in hPc hKc hDc⟩ rfl rfl hl.1 rfl (lv_room (Nat.le_of_ble_eq_true rfl)) eX8_within_10 ⟨Nat.le_of_ble_eq_true rfl, Nat.le_of_ble_eq_true rfl⟩) hS (fun q _ h => pu_fr hS hA q h) (pu_fr hS hA) (fun r_3 u t H1 locs ht hvm hw hB hz1 hk1 hS => ?_)
    have hP := pu_keep hP hk1
    clear hPc hDc hKc
    clear hk1 hz1 ht hvm
    generalize H1 = H at hP hS ⊢
    rcases hw with ⟨rfl, hw⟩ | ⟨rfl, hn⟩
    · obtain ⟨hs1, n_4, hn_4, rfl⟩ := hw
      have hsp := hsp.trans (if_pos ⟨hs1, in_q hn_4 (by omega)⟩)
      have hsp := hsp.trans (slet_eq (nI_cl (n := n_4) (by omega)))
      refine lv_if_ne (tgt := 18) hx hb eX8_within_13 (by decide) (fun _ => ?_) (fun z => absurd z (by decide))
      refine lv_aload_n hx hb eX8_within_18 rfl (lv_at hl 0 rfl) ?_
      refine va_get (D := (dC, dI)) (ci := 8) (v := .ref g) (C := RX8) (T := TX8) (N := 16) hx hb hts hiX8 hown hK hP 0 rfl rfl 6 (by decide) v_6 (fun _ h9 => h9) rfl eX8_within_19 ?_
      refine va_get (D := (dC, dI)) (ci := 1) (v := .ref gz) (C := RX1) (T := TX1) (N := 18) hx hb hts hiX1 hown hK hP 15 rfl rfl 0 (by decide) v_7 (fun _ h9 => h9) rfl eX8_within_22 ?_
      refine lv_iload_n hx hb eX8_within_25 rfl (lv_at hl 1 rfl) ?_
      refine va_aldq hx hb hK hP 16 13 rfl rfl (vp_in_nI (n := n_2) (by omega) (Nat.le_of_ble_eq_true rfl)) eX8_within_26 ?_
      refine W.eq (g2 := F0 m 27 ls [.ref (az (o + n_2))]) (by rw [zs_get (by omega) (by omega)]) ?_
      refine lv_aload_n hx hb eX8_within_27 rfl (lv_at hl 0 rfl) ?_
      refine va_get (D := (dC, dI)) (ci := 8) (v := .ref g) (C := RX8) (T := TX8) (N := 16) hx hb hts hiX8 hown hK hP 0 rfl rfl 6 (by decide) v_6 (fun _ h9 => h9) rfl eX8_within_28 ?_
      refine va_get (D := (dC, dI)) (ci := 1) (v := .ref gz) (C := RX1) (T := TX1) (N := 18) hx hb hts hiX1 hown hK hP 15 rfl rfl 0 (by decide) v_7 (fun _ h9 => h9) rfl eX8_within_31 ?_
      refine lv_iload_n hx hb eX8_within_34 rfl (lv_at hl 2 rfl) ?_
      refine va_aldq hx hb hK hP 16 13 rfl rfl (vp_in_nI (n := n_4) (by omega) (Nat.le_of_ble_eq_true rfl)) eX8_within_35 ?_
      refine W.eq (g2 := F0 m 36 ls [.ref (az (o + n_4)), .ref (az (o + n_2))]) (by rw [zs_get (by omega) (by omega)]) ?_
      by_cases hjk : n_2 = n_4
      · subst hjk
        have hsp := hsp.trans (if_pos rfl)
        have hPz := zp_cut (k := (o + n_2)) hP (by omega)
        have hPc : va_P (dC, dI) vwCl ([] ++ [(az (o + n_2), .inr (7, [.ref (ac (o + n_2)), .int (nI (min (qs (o + n_2)) 4))])), (ac (o + n_2), .inl (kz (o + n_2), 16, .inl (fz (o + n_2))))]) _ := va_P.app (hP.sub [] rfl) hPz
        have hDc : va_D (fun _ => True) ([] ++ [(az (o + n_2), .inr (7, [.ref (ac (o + n_2)), .int (nI (min (qs (o + n_2)) 4))])), (ac (o + n_2), .inl (kz (o + n_2), 16, .inl (fz (o + n_2))))]) := zp_cutD hD (by omega) [] (by decide) rfl
        have hKc : va_K (dC, dI) vwCl ([] ++ [(kz (o + n_2), .int)]) s := zp_K hK (by omega) [] rfl
        refine va_calli (va_runV (As := [.ref (az (o + n_2))]) (rest := []) ⟨hx, hb, hml, hown, hts⟩ (c_E_7_holdsAll_s_16 l dC dI _ (az (o + n_2)) (ac (o + n_2)) (min (qs (o + n_2)) 4) (kz (o + n_2)) (fz (o + n_2)) (Nat.min_le_right _ _)) (cwV 1 hts g_E_8_within_E_7_holdsAll_s_16 rfl rfl rfl (by decide +kernel) ⟨Nat.le_of_ble_eq_true rfl, Nat.le_of_ble_eq_true rfl⟩) ⟨pu_bl, va_recv hK hPz (ci := 7) (q0 := 0) rfl rfl, pu_in hPc hKc hDc⟩ rfl rfl hl.1 rfl (lv_room (Nat.le_of_ble_eq_true rfl)) eX8_within_36 ⟨Nat.le_of_ble_eq_true rfl, Nat.le_of_ble_eq_true rfl⟩) hS (fun q _ h => pu_fr hS hA q h) (pu_fr hS hA) (fun r_5 u t H1 locs ht hvm hw hB hz1 hk1 hS => ?_)
        have hP := pu_keep hP hk1
        clear hPc hDc hKc
        clear hk1 hz1 ht hvm
        generalize H1 = H at hP hS ⊢
        obtain ⟨u_6, hu_6, rfl, iu_6⟩ := hw
        have hsp := hsp.trans (slet_eq iu_6)
        have hPc : va_P (dC, dI) vwCl [] _ := hP.sub [] rfl
        have hDc : va_D (fun _ => True) [] := (zp_left hD).sub [] (by decide) rfl
        have hKc : va_K (dC, dI) vwCl [] s := hK.sub [] rfl
        refine va_calli (va_runS (As := [.int (nI u_6)]) (rest := []) ⟨hx, hb, hml, hown, hts⟩ (c_E_8_bit l dC dI _ (nI u_6)) (va_cwS 1 hts g_E_8_within_E_8_bit rfl rfl rfl (by decide +kernel) ⟨Nat.le_of_ble_eq_true rfl, Nat.le_of_ble_eq_true rfl⟩) ⟨pu_bl, pu_in hPc hKc hDc⟩ rfl rfl hl.1 rfl (lv_room (Nat.le_of_ble_eq_true rfl)) eX8_within_39 ⟨Nat.le_of_ble_eq_true rfl, Nat.le_of_ble_eq_true rfl⟩) hS (fun q _ h => pu_fr hS hA q h) (pu_fr hS hA) (fun r_7 u t H1 locs ht hvm hw hB hz1 hk1 hS => ?_)
        have hP := pu_keep hP hk1
        clear hPc hDc hKc
        clear hk1 hz1 ht hvm
        generalize H1 = H at hP hS ⊢
        obtain ⟨u_8, hu_8, rfl, iu_8⟩ := hw
        have hsp := hsp.trans (slet_eq iu_8)
        exact W.iret (v := (nI u_8)) hx hb hr (fun t ht hW => ⟨⟨(nI u_8), (), rfl, (hsp.symm.trans hRR), trivial⟩, hS.F ht⟩) hS.2.2 eX8_within_42
      · have hsp := hsp.trans (if_neg hjk)
        have hPz := zp_cut (k := (o + n_2)) hP (by omega)
        have hPy := zp_cut (k := (o + n_4)) hP (by omega)
        have hPc : va_P (dC, dI) vwCl ([(az (o + n_4), .inr (7, [.ref (ac (o + n_4)), .int (nI (min (qs (o + n_4)) 4))])), (ac (o + n_4), .inl (kz (o + n_4), 16, .inl (fz (o + n_4))))] ++ [(az (o + n_2), .inr (7, [.ref (ac (o + n_2)), .int (nI (min (qs (o + n_2)) 4))])), (ac (o + n_2), .inl (kz (o + n_2), 16, .inl (fz (o + n_2))))]) _ := va_P.app hPy hPz
        have hDc : va_D (fun _ => True) ([(az (o + n_4), .inr (7, [.ref (ac (o + n_4)), .int (nI (min (qs (o + n_4)) 4))])), (ac (o + n_4), .inl (kz (o + n_4), 16, .inl (fz (o + n_4))))] ++ [(az (o + n_2), .inr (7, [.ref (ac (o + n_2)), .int (nI (min (qs (o + n_2)) 4))])), (ac (o + n_2), .inl (kz (o + n_2), 16, .inl (fz (o + n_2))))]) := zp_cutD2 hD (by omega) (by omega) (by omega)
        have hKc : va_K (dC, dI) vwCl [(kz (o + n_4), .int), (kz (o + n_2), .int)] s := zp_K2 hK (by omega) (by omega)
        refine va_calli (va_runV (As := [.ref (az (o + n_4))]) (rest := []) ⟨hx, hb, hml, hown, hts⟩ (c_E_7_holdsAll_16 l dC dI _ (az (o + n_4)) (ac (o + n_4)) (min (qs (o + n_4)) 4) (kz (o + n_4)) (fz (o + n_4)) (az (o + n_2)) (ac (o + n_2)) (min (qs (o + n_2)) 4) (kz (o + n_2)) (fz (o + n_2)) (Nat.min_le_right _ _) (Nat.min_le_right _ _)) (cwV 1 hts g_E_8_within_E_7_holdsAll_16 rfl rfl rfl (by decide +kernel) ⟨Nat.le_of_ble_eq_true rfl, Nat.le_of_ble_eq_true rfl⟩) ⟨pu_bl, va_recv hK hPz (ci := 7) (q0 := 0) rfl rfl, pu_in hPc hKc hDc⟩ rfl rfl hl.1 rfl (lv_room (Nat.le_of_ble_eq_true rfl)) eX8_within_36 ⟨Nat.le_of_ble_eq_true rfl, Nat.le_of_ble_eq_true rfl⟩) hS (fun q _ h => pu_fr hS hA q h) (pu_fr hS hA) (fun r_9 u t H1 locs ht hvm hw hB hz1 hk1 hS => ?_)
        have hP := pu_keep hP hk1
        clear hPc hDc hKc
        clear hk1 hz1 ht hvm
        generalize H1 = H at hP hS ⊢
        obtain ⟨u_10, hu_10, rfl, iu_10⟩ := hw
        have hsp := hsp.trans (slet_eq iu_10)
        have hPc : va_P (dC, dI) vwCl [] _ := hP.sub [] rfl
        have hDc : va_D (fun _ => True) [] := (zp_left hD).sub [] (by decide) rfl
        have hKc : va_K (dC, dI) vwCl [] s := hK.sub [] rfl
        refine va_calli (va_runS (As := [.int (nI u_10)]) (rest := []) ⟨hx, hb, hml, hown, hts⟩ (c_E_8_bit l dC dI _ (nI u_10)) (va_cwS 1 hts g_E_8_within_E_8_bit rfl rfl rfl (by decide +kernel) ⟨Nat.le_of_ble_eq_true rfl, Nat.le_of_ble_eq_true rfl⟩) ⟨pu_bl, pu_in hPc hKc hDc⟩ rfl rfl hl.1 rfl (lv_room (Nat.le_of_ble_eq_true rfl)) eX8_within_39 ⟨Nat.le_of_ble_eq_true rfl, Nat.le_of_ble_eq_true rfl⟩) hS (fun q _ h => pu_fr hS hA q h) (pu_fr hS hA) (fun r_11 u t H1 locs ht hvm hw hB hz1 hk1 hS => ?_)
        have hP := pu_keep hP hk1
        clear hPc hDc hKc
        clear hk1 hz1 ht hvm
        generalize H1 = H at hP hS ⊢
        obtain ⟨u_12, hu_12, rfl, iu_12⟩ := hw
        have hsp := hsp.trans (slet_eq iu_12)
        exact W.iret (v := (nI u_12)) hx hb hr (fun t ht hW => ⟨⟨(nI u_12), (), rfl, (hsp.symm.trans hRR), trivial⟩, hS.F ht⟩) hS.2.2 eX8_within_42
    · have hsp := hsp.trans (if_neg hn)
      refine lv_if_ne (tgt := 18) hx hb eX8_within_13 (by decide) (fun z => absurd z (by decide)) (fun _ => ?_)
      refine lv_iconst (v := (-1)) hx hb eX8_within_16 (by decide) ?_
      exact W.iret (v := (-1)) hx hb hr (fun t ht hW => ⟨⟨(-1), (), rfl, (hsp.symm.trans hRR), trivial⟩, hS.F ht⟩) hS.2.2 eX8_within_17
  · have hsp := hsp.trans (if_neg hn)
    refine lv_if_eq (tgt := 16) hx hb eX8_within_5 (by decide) (fun _ => ?_) (fun z => absurd z (by decide))
    refine lv_iconst (v := (-1)) hx hb eX8_within_16 (by decide) ?_
    exact W.iret (v := (-1)) hx hb hr (fun t ht hW => ⟨⟨(-1), (), rfl, (hsp.symm.trans hRR), trivial⟩, hS.F ht⟩) hS.2.2 eX8_within_17
