theorem eX8_isStep_8 : decode cX8_isStep 8 = .ok (.iload_n 2, 1) := by decide +kernel
theorem eX8_isStep_9 : decode cX8_isStep 9 = .ok (.ifCond .lt 20, 3) := by decide +kernel
theorem eX8_isStep_12 : decode cX8_isStep 12 = .ok (.iload_n 2, 1) := by decide +kernel
theorem eX8_isStep_13 : decode cX8_isStep 13 = .ok (.aload_n 0, 1) := by decide +kernel
theorem eX8_isStep_14 : decode cX8_isStep 14 = .ok (.getfield 42, 3) := by decide +kernel
theorem eX8_isStep_17 : decode cX8_isStep 17 = .ok (.getfield 240, 3) := by decide +kernel
theorem eX8_isStep_20 : decode cX8_isStep 20 = .ok (.iload_n 1, 1) := by decide +kernel
theorem eX8_isStep_21 : decode cX8_isStep 21 = .ok (.iaload, 1) := by decide +kernel
theorem eX8_isStep_22 : decode cX8_isStep 22 = .ok (.if_icmp .ge 7, 3) := by decide +kernel
theorem eX8_isStep_25 : decode cX8_isStep 25 = .ok (.iconst 1, 1) := by decide +kernel
theorem eX8_isStep_26 : decode cX8_isStep 26 = .ok (.goto 4, 3) := by decide +kernel
abbrev vs_E_8_isStep : List Cond := .code yX8_isStep cX8_isStep 3 (some .boolean) :: CM
theorem g_E_8_isStep_E_8_isState : GoodIn vs_E_8_isStep (wsV RX8 228 RX8 yX8_isState vs_E_8_isState) := cm_gV cm_537 cm_538 cm_539 cm_427 cm_530
noncomputable def sp_E_8_isStep (hs : Nat) (gc : Nat) (fs4 : Nat → Int32) (p0 : Int32) (p1 : Int32) : Unit := (if hs = 1 ∧ (0 : Int32) ≤ p0 ∧ p0 < nI gc then (slet ((p0 : Int32).toNatClampNeg) (fun n_2 => (if (p1 : Int32) < 0 then () else (slet ((fs4 n_2 : Int32).toNatClampNeg) (fun d_4 => (if ((nI d_4) : Int32) ≤ p1 then () else (slet ((p1 : Int32).toNatClampNeg) (fun n_7 => ())))))))) else ())
set_option maxHeartbeats 4000000 in
set_option maxRecDepth 100000 in
theorem c_E_8_isStep (l : Launch) (dC : Nat → ClassId) (dI : Nat → Nat → Nat) (sz : Nat) (xa : Nat) (xtape : Nat) (tp : Nat) (rd : Nat) (au : Nat) (xdr : Nat) (hy : Nat) (g : Nat) (hs : Nat) (tg : Nat) (sg : Nat) (ss : Nat) (rm : Nat) (ti : Nat) (py : Nat) (bu : Nat) (sm : Nat) (gz : Nat) (g1 : Nat) (g2 : Nat) (g3 : Nat) (g4 : Nat) (g5 : Nat) (gc : Nat) (gfull : Nat) (gx : Int32) (gway : Int32) (gav : Int32) (ggoal : Int32) (gfound : Nat) (gl : Nat) (gsz : Nat) (g16 : Nat) (g17 : Nat) (k_fs2 : ClassId) (fs2 : Nat → Int32) (k_fs3 : ClassId) (fs3 : Nat → Int32) (k_fs4 : ClassId) (fs4 : Nat → Int32) (p0 : Int32) (p1 : Int32) (htp : tp ≤ 900) (hhs : hs ≤ 1) (hss : ss ≤ 1) (hgc : gc ≤ 120) (hgfull : gfull ≤ 1) (hgfound : gfound ≤ 1) (hgl : gl ≤ 1) (hgsz : gsz ≤ 4) (hq0 : gz_ok gc fs2 fs3 fs4) : Met l yX8_isStep vs_E_8_isStep ({ frames := 1, cells := 0, slots := 0, locals := 21 }) (va_Pc [.ref xa, .int p0, .int p1] (pu_B (dC, dI) (xgl__w xa xtape (nI tp) rd au xdr hy g (nI hs) tg sg (nI ss) rm ti py bu sm gz g1 g2 g3 g4 g5 (nI gc) (nI gfull) gx gway gav ggoal (nI gfound) 120 (nI gl) (nI gsz) g16 g17 k_fs2 fs2 k_fs3 fs3 k_fs4 fs4) (xgl__t k_fs2 k_fs3 k_fs4) sz)) (va_Qi (fun (r : Int32) (_ : Unit) => (r = 1 ∧ ∃ q j : Nat, q < gc ∧ j ≤ 118 ∧ p0 = nI q ∧ p1 = nI j ∧ isStp hs gc fs4 p0 p1) ∨ (r = 0 ∧ ¬ isStp hs gc fs4 p0 p1)) (fun _ _ => True) (va_A [] sz)) 0 0 (va_A [] sz) := by
  refine Met.ofW (cc := cX8_isStep) (maxL := 3) (ret := (some .boolean)) (by decide) rfl ?_
  intro p e s m args below meth c s₁ B hml hv
  obtain ⟨rfl, rfl, hP, hK, hD0⟩ := hv
  have hx := B.exec
  have hb := B.bytes
  have hr := B.returns
  have hts := atoms_spec (ws := vs_E_8_isStep) B.pre
  have v_6 := hts (.fieldLink RX8 42 "ClockReach" "shown" "LClockReach$Graph;") (List.mem_cons_of_mem _ cm_456)
  have v_7 := hts (.fieldLink RX8 240 "ClockReach$Graph" "depths" "[I") (List.mem_cons_of_mem _ cm_535)
  have hown : s.vm.findClass RX8 = some m.cls := findClass_of_methodNamed B.named
  have hlocks := B.notSynchronized
  have hiX1 : ∀ w ∈ wsX10, w ∈ vs_E_8_isStep := fun _ h => List.mem_cons_of_mem _ (cm_X1 h)
  have hiX8 : ∀ w ∈ wsX80, w ∈ vs_E_8_isStep := fun _ h => List.mem_cons_of_mem _ (cm_X8 h)
  have hD := hD0
  have hA : ∀ q : Nat, s.heap.size ≤ q → va_A [] s.heap.size q := fun _ h => Or.inr h
  have hS : va_S (va_A [] s.heap.size) s.heap s.heap [] := va_S.rf
  have hl := lv_entry ([.ref xa, .int p0, .int p1]) (n := 3) (Nat.le_of_ble_eq_true rfl)
  rw [lg_entry_eq]
  generalize (lg_sl ([.ref xa, .int p0, .int p1]) ++ List.replicate (3 - (lg_sl ([.ref xa, .int p0, .int p1])).length) Slot.unset).toArray = ls at hl ⊢
  have hl : lv_has ls 3 [(0, .ref xa), (1, .int p0), (2, .int p1)] := hl
  obtain ⟨RR, hRR⟩ : ∃ x, x = (sp_E_8_isStep hs gc fs4 p0 p1) := ⟨_, rfl⟩
  have hsp := hRR
  refine lv_aload_n hx hb eX8_isStep_0 rfl (lv_at hl 0 rfl) ?_
  refine lv_iload_n hx hb eX8_isStep_1 rfl (lv_at hl 1 rfl) ?_
  have hPc : va_P (dC, dI) vwCl (xg0__w xa xtape (nI tp) rd au xdr hy g (nI hs) tg sg (nI ss) rm ti py bu sm gz g1 g2 g3 g4 g5 (nI gc) (nI gfull) gx gway gav ggoal (nI gfound) 120 (nI gl) (nI gsz) g16 g17) _ := hP.sub [0, 1] rfl
  have hDc := hD.sub (ws' := (xg0__w xa xtape (nI tp) rd au xdr hy g (nI hs) tg sg (nI ss) rm ti py bu sm gz g1 g2 g3 g4 g5 (nI gc) (nI gfull) gx gway gav ggoal (nI gfound) 120 (nI gl) (nI gsz) g16 g17)) [0, 1] (by decide) rfl
  have hKc : va_K (dC, dI) vwCl (xg0__t ) s := hK.sub [] rfl
  refine va_calli (va_runV (As := [.int p0]) (rest := []) ⟨hx, hb, hml, hown, hts⟩ (c_E_8_isState l dC dI _ xa xtape tp rd au xdr hy g hs tg sg ss rm ti py bu sm gz g1 g2 g3 g4 g5 gc gfull gx gway gav ggoal gfound gl gsz g16 g17 p0 htp hhs hss hgc hgfull hgfound hgl hgsz) (cwV 1 hts g_E_8_isStep_E_8_isState rfl rfl rfl (by decide +kernel) ⟨Nat.le_of_ble_eq_true rfl, Nat.le_of_ble_eq_true rfl⟩) ⟨pu_bl, va_recv hK hP (ci := 8) (q0 := 0) rfl rfl, pu_in hPc hKc hDc⟩ rfl rfl hl.1 rfl (lv_room (Nat.le_of_ble_eq_true rfl)) eX8_isStep_2 ⟨Nat.le_of_ble_eq_true rfl, Nat.le_of_ble_eq_true rfl⟩) hS (fun q _ h => pu_fr hS hA q h) (pu_fr hS hA) (fun r_1 u t H1 locs ht hvm hw hB hz1 hk1 hS => ?_)
  have hP := pu_keep hP hk1
  clear hk1 hz1 ht hvm
  generalize H1 = H at hP hS ⊢
  rcases hw with ⟨rfl, hw⟩ | ⟨rfl, hn⟩
  · obtain ⟨hs1, n_2, hn_2, rfl⟩ := hw
    have hsp := hsp.trans (if_pos ⟨hs1, in_q hn_2 (by omega)⟩)
    have hsp := hsp.trans (slet_eq (nI_cl (n := n_2) (by omega)))
    refine lv_if_eq (tgt := 29) hx hb eX8_isStep_5 (by decide) (fun z => absurd z (by decide)) (fun _ => ?_)
    refine lv_iload_n hx hb eX8_isStep_8 rfl (lv_at hl 2 rfl) ?_
    refine lv_if_lt (tgt := 29) hx hb eX8_isStep_9 (by decide) (fun c_3 => ?_) (fun c_3 => ?_)
    · have hcc_3 := c_3
      have hsp := hsp.trans (if_pos c_3)
      refine lv_iconst (v := 0) hx hb eX8_isStep_29 (by decide) ?_
      exact W.zret (v := 0) (ty := .boolean) hx hb hr (rfl) (fun t ht hW => ⟨⟨0, (), rfl, Or.inr ⟨rfl, by first | exact stp_n0 hn | exact stp_n2 (by assumption) | exact stp_n3 (by omega) (by assumption) (by assumption)⟩, trivial⟩, hS.F ht⟩) hS.2.2 eX8_isStep_30
    · have hcc_3 := c_3
      have hsp := hsp.trans (if_neg c_3)
      have lp1 : ¬ p1 < 0 := c_3
      refine lv_iload_n hx hb eX8_isStep_12 rfl (lv_at hl 2 rfl) ?_
      refine lv_aload_n hx hb eX8_isStep_13 rfl (lv_at hl 0 rfl) ?_
      refine va_get (D := (dC, dI)) (ci := 8) (v := .ref g) (C := RX8) (T := TX8) (N := 16) hx hb hts hiX8 hown hK hP 0 rfl rfl 6 (by decide) v_6 (fun _ h9 => h9) rfl eX8_isStep_14 ?_
      refine va_get (D := (dC, dI)) (ci := 1) (v := .ref g4) (C := RX1) (T := TX1) (N := 18) hx hb hts hiX1 hown hK hP 1 rfl rfl 4 (by decide) v_7 (fun _ h9 => h9) rfl eX8_isStep_17 ?_
      refine lv_iload_n hx hb eX8_isStep_20 rfl (lv_at hl 1 rfl) ?_
      obtain ⟨d_4, hd_4, fd_4, gd_4⟩ := gz_get hq0 (i := n_2) (by omega) (by omega)
      have hsp := hsp.trans (slet_eq (by rw [gd_4]; exact nI_cl (n := d_4) (by omega) : d_4 = (fs4 n_2 : Int32).toNatClampNeg))
      refine va_iald hx hb hK hP 4 2 rfl rfl (vp_in_nI (n := n_2) (by omega) (Nat.le_of_ble_eq_true rfl)) eX8_isStep_21 ?_
      refine lv_topi (fun y_5 ey_5 => ?_)
      obtain rfl : y_5 = nI d_4 := ey_5.trans fd_4
      refine lv_icmp_ge (tgt := 29) hx hb eX8_isStep_22 (by decide) (fun c_6 => ?_) (fun c_6 => ?_)
      · have hcc_6 := c_6
        have hsp := hsp.trans (if_pos c_6)
        refine lv_iconst (v := 0) hx hb eX8_isStep_29 (by decide) ?_
        exact W.zret (v := 0) (ty := .boolean) hx hb hr (rfl) (fun t ht hW => ⟨⟨0, (), rfl, Or.inr ⟨rfl, by first | exact stp_n0 hn | exact stp_n2 (by assumption) | exact stp_n3 (by omega) (by assumption) (by assumption)⟩, trivial⟩, hS.F ht⟩) hS.2.2 eX8_isStep_30
      · have hcc_6 := c_6
        have hsp := hsp.trans (if_neg c_6)
        obtain ⟨n_7, hn_7, rfl⟩ := pu_ult (b := d_4) (by omega) lp1 (Int32.not_le.mp c_6)
        have hsp := hsp.trans (slet_eq (nI_cl (n := n_7) (by omega)))
        refine lv_iconst (v := 1) hx hb eX8_isStep_25 (by decide) ?_
        refine lv_goto (tgt := 30) hx hb eX8_isStep_26 (by decide) ?_
        exact W.zret (v := 1) (ty := .boolean) hx hb hr (rfl) (fun t ht hW => ⟨⟨1, (), rfl, Or.inl ⟨rfl, n_2, n_7, by omega, by omega, rfl, rfl, stp_y (by assumption) (by omega) (by omega) (by assumption) (by omega) (by omega)⟩, trivial⟩, hS.F ht⟩) hS.2.2 eX8_isStep_30
  · have hsp := hsp.trans (if_neg hn)
    refine lv_if_eq (tgt := 29) hx hb eX8_isStep_5 (by decide) (fun _ => ?_) (fun z => absurd z (by decide))
    refine lv_iconst (v := 0) hx hb eX8_isStep_29 (by decide) ?_
    exact W.zret (v := 0) (ty := .boolean) hx hb hr (rfl) (fun t ht hW => ⟨⟨0, (), rfl, Or.inr ⟨rfl, by first | exact stp_n0 hn | exact stp_n2 (by assumption) | exact stp_n3 (by omega) (by assumption) (by assumption)⟩, trivial⟩, hS.F ht⟩) hS.2.2 eX8_isStep_30
