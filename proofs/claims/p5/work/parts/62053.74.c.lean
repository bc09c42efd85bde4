theorem eX8_graph_0 : decode cX8_graph 0 = .ok (.iload_n 1, 1) := by decide +kernel
theorem eX8_graph_1 : decode cX8_graph 1 = .ok (.ifCond .lt 18, 3) := by decide +kernel
theorem eX8_graph_4 : decode cX8_graph 4 = .ok (.iload_n 1, 1) := by decide +kernel
theorem eX8_graph_5 : decode cX8_graph 5 = .ok (.iconst 2, 1) := by decide +kernel
theorem eX8_graph_6 : decode cX8_graph 6 = .ok (.if_icmp .gt 13, 3) := by decide +kernel
theorem eX8_graph_9 : decode cX8_graph 9 = .ok (.aload_n 0, 1) := by decide +kernel
theorem eX8_graph_10 : decode cX8_graph 10 = .ok (.getfield 23, 3) := by decide +kernel
theorem eX8_graph_13 : decode cX8_graph 13 = .ok (.getfield 97, 3) := by decide +kernel
theorem eX8_graph_16 : decode cX8_graph 16 = .ok (.ifCond .ne 5, 3) := by decide +kernel
theorem eX8_graph_19 : decode cX8_graph 19 = .ok (.iconst (-1), 1) := by decide +kernel
theorem eX8_graph_20 : decode cX8_graph 20 = .ok (.ireturn, 1) := by decide +kernel
abbrev vs_E_8_graph_0 : List Cond := .code yX8_graph cX8_graph 3 (some .int) :: CM
noncomputable def sp_E_8_graph_0 (p0 : Int32) : Int32 := (if (p0 : Int32) < 0 then (-1) else (if (2 : Int32) < p0 then (-1) else (slet ((p0 : Int32).toNatClampNeg) (fun n_3 => (-1)))))
set_option maxHeartbeats 4000000 in
set_option maxRecDepth 100000 in
theorem c_E_8_graph_0 (l : Launch) (dC : Nat → ClassId) (dI : Nat → Nat → Nat) (sz : Nat) (xa : Nat) (xtape : Nat) (tp : Nat) (rd : Nat) (au : Nat) (xdr : Nat) (hy : Nat) (g : Nat) (tg : Nat) (sg : Nat) (rm : Nat) (ti : Nat) (py : Nat) (bu : Nat) (sm : Nat) (nc : Nat) (ne : Nat) (st0 : Int32) (q4 : Nat) (q5 : Nat) (q6 : Nat) (q7 : Nat) (q8 : Nat) (q9 : Nat) (q10 : Nat) (q11 : Nat) (q12 : Nat) (q13 : Nat) (q14 : Nat) (q15 : Nat) (q16 : Nat) (k_f4 : ClassId) (f4 : Nat → Int32) (k_f5 : ClassId) (q_f5 : Nat → Nat) (k_f6 : ClassId) (q_f6 : Nat → Nat) (k_f7 : ClassId) (f7 : Nat → Int32) (k_f8 : ClassId) (q_f8 : Nat → Nat) (k_f9 : ClassId) (q_f9 : Nat → Nat) (k_f10 : ClassId) (f10 : Nat → Int32) (k_f11 : ClassId) (f11 : Nat → Int32) (k_f12 : ClassId) (f12 : Nat → Int32) (k_f13 : ClassId) (f13 : Nat → Int32) (k_f14 : ClassId) (f14 : Nat → Int32) (k_f15 : ClassId) (f15 : Nat → Int32) (k_f16 : ClassId) (f16 : Nat → Int32) (gz : Nat) (g1 : Nat) (g2 : Nat) (g3 : Nat) (g4 : Nat) (g5 : Nat) (gc : Nat) (gfull : Nat) (gx : Int32) (gway : Int32) (gav : Int32) (ggoal : Int32) (gfound : Nat) (gl : Nat) (gsz : Nat) (g16 : Nat) (g17 : Nat) (k_fgz : ClassId) (k_s1g : ClassId) (q_s1g : Nat → Nat) (k_s2g : ClassId) (s2g : Nat → Int32) (k_s3g : ClassId) (s3g : Nat → Int32) (k_s4g : ClassId) (s4g : Nat → Int32) (k_s5g : ClassId) (s5g : Nat → Int32) (k_hig : ClassId) (hig : Nat → Int32) (k_log : ClassId) (log : Nat → Int32) (k_fbu : ClassId) (fbu : Nat → Int32) (N : Nat) (o : Nat) (az ac : Nat → Nat) (kz : Nat → ClassId) (qs : Nat → Nat) (fz : Nat → Nat → Int32) (p0 : Int32) (a1 : Nat) (htp : tp ≤ 900) (hnc : nc ≤ 3) (hne : ne ≤ 14) (hst0 : pm1 7 st0) (hgc : gc ≤ 120) (hgfull : gfull ≤ 1) (hgfound : gfound ≤ 1) (hgl : gl ≤ 1) (hgsz : gsz ≤ 4) (hN : o + 121 ≤ N) (ha1 : a1 ≤ 1) : Met l yX8_graph vs_E_8_graph_0 ({ frames := 0, cells := 0, slots := 0, locals := 0 }) (va_Pc [.ref xa, .int p0, .int (nI a1)] (pu_B (dC, dI) ((xg__w xa xtape (nI tp) rd au xdr hy g 0 tg sg 0 rm ti py bu sm (nI nc) 0 (nI ne) st0 q4 q5 q6 q7 q8 q9 q10 q11 q12 q13 q14 q15 q16 k_f4 f4 k_f5 (bN 7 q_f5) k_f6 (bN 7 q_f6) k_f7 f7 k_f8 (bN 4 q_f8) k_f9 (bN 2 q_f9) k_f10 f10 k_f11 f11 k_f12 f12 k_f13 f13 k_f14 f14 k_f15 f15 k_f16 f16 gz g1 g2 g3 g4 g5 (nI gc) (nI gfull) gx gway gav ggoal (nI gfound) 120 (nI gl) (nI gsz) g16 g17 k_fgz (zs o 121 az) k_s1g (bN 7 q_s1g) k_s2g s2g k_s3g s3g k_s4g s4g k_s5g s5g k_hig hig k_log log k_fbu fbu) ++ zp 4 16 N az ac kz qs fz) ((xg__t k_f4 k_f5 k_f6 k_f7 k_f8 k_f9 k_f10 k_f11 k_f12 k_f13 k_f14 k_f15 k_f16 k_fgz k_s1g k_s2g k_s3g k_s4g k_s5g k_hig k_log k_fbu) ++ zt N kz) sz)) (va_Qi (fun (r : Int32) (_ : Unit) => r = (sp_E_8_graph_0 p0)) (fun _ _ => True) (va_A [] sz)) 0 0 (va_A [] sz) := by
  refine Met.ofW (cc := cX8_graph) (maxL := 3) (ret := (some .int)) (by decide) rfl ?_
  intro p e s m args below meth c s₁ B hml hv
  obtain ⟨rfl, rfl, hP, hK, hD0⟩ := hv
  have hx := B.exec
  have hb := B.bytes
  have hr := B.returns
  have hts := atoms_spec (ws := vs_E_8_graph_0) B.pre
  have v_1 := hts (.fieldLink RX8 23 "ClockReach" "model" "LClockReach$Automaton;") (List.mem_cons_of_mem _ cm_434)
  have v_2 := hts (.fieldLink RX8 97 "ClockReach$Automaton" "places" "I") (List.mem_cons_of_mem _ cm_437)
  have hown : s.vm.findClass RX8 = some m.cls := findClass_of_methodNamed B.named
  have hlocks := B.notSynchronized
  have hiX0 : ∀ w ∈ wsX00, w ∈ vs_E_8_graph_0 := fun _ h => List.mem_cons_of_mem _ (cm_X0 h)
  have hiX8 : ∀ w ∈ wsX80, w ∈ vs_E_8_graph_0 := fun _ h => List.mem_cons_of_mem _ (cm_X8 h)
  have hD := hD0
  have hA : ∀ q : Nat, s.heap.size ≤ q → va_A [] s.heap.size q := fun _ h => Or.inr h
  have hS : va_S (va_A [] s.heap.size) s.heap s.heap [] := va_S.rf
  have hl := lv_entry ([.ref xa, .int p0, .int (nI a1)]) (n := 3) (Nat.le_of_ble_eq_true rfl)
  rw [lg_entry_eq]
  generalize (lg_sl ([.ref xa, .int p0, .int (nI a1)]) ++ List.replicate (3 - (lg_sl ([.ref xa, .int p0, .int (nI a1)])).length) Slot.unset).toArray = ls at hl ⊢
  have hl : lv_has ls 3 [(0, .ref xa), (1, .int p0), (2, .int (nI a1))] := hl
  obtain ⟨RR, hRR⟩ : ∃ x, x = (sp_E_8_graph_0 p0) := ⟨_, rfl⟩
  have hsp := hRR
  refine lv_iload_n hx hb eX8_graph_0 rfl (lv_at hl 1 rfl) ?_
  refine lv_if_lt (tgt := 19) hx hb eX8_graph_1 (by decide) (fun c_1 => ?_) (fun c_1 => ?_)
  · have hcc_1 := c_1
    have hsp := hsp.trans (if_pos c_1)
    refine lv_iconst (v := (-1)) hx hb eX8_graph_19 (by decide) ?_
    exact W.iret (v := (-1)) hx hb hr (fun t ht hW => ⟨⟨(-1), (), rfl, (hsp.symm.trans hRR), trivial⟩, hS.F ht⟩) hS.2.2 eX8_graph_20
  · have hcc_1 := c_1
    have hsp := hsp.trans (if_neg c_1)
    have lp0 : ¬ p0 < 0 := c_1
    refine lv_iload_n hx hb eX8_graph_4 rfl (lv_at hl 1 rfl) ?_
    refine lv_iconst (v := 2) hx hb eX8_graph_5 (by decide) ?_
    refine lv_icmp_gt (tgt := 19) hx hb eX8_graph_6 (by decide) (fun c_2 => ?_) (fun c_2 => ?_)
    · have hcc_2 := c_2
      have hsp := hsp.trans (if_pos c_2)
      refine lv_iconst (v := (-1)) hx hb eX8_graph_19 (by decide) ?_
      exact W.iret (v := (-1)) hx hb hr (fun t ht hW => ⟨⟨(-1), (), rfl, (hsp.symm.trans hRR), trivial⟩, hS.F ht⟩) hS.2.2 eX8_graph_20
    · have hcc_2 := c_2
      have hsp := hsp.trans (if_neg c_2)
      obtain ⟨n_3, hn_3, rfl⟩ := pu_ule (b := 2) (by omega) lp0 (Int32.not_lt.mp c_2)
      have hsp := hsp.trans (slet_eq (nI_cl (n := n_3) (by omega)))
      refine lv_aload_n hx hb eX8_graph_9 rfl (lv_at hl 0 rfl) ?_
      refine va_get (D := (dC, dI)) (ci := 8) (v := .ref au) (C := RX8) (T := TX8) (N := 16) hx hb hts hiX8 hown hK hP 0 rfl rfl 3 (by decide) v_1 (fun _ h9 => h9) rfl eX8_graph_10 ?_
      refine va_get (D := (dC, dI)) (ci := 0) (v := .int 0) (C := RX0) (T := TX0) (N := 17) hx hb hts hiX0 hown hK hP 1 rfl rfl 1 (by decide) v_2 (fun _ h9 => h9) rfl eX8_graph_13 ?_
      refine lv_if_ne (tgt := 21) hx hb eX8_graph_16 (by decide) (fun z => absurd z (by decide)) (fun _ => ?_)
      refine lv_iconst (v := (-1)) hx hb eX8_graph_19 (by decide) ?_
      exact W.iret (v := (-1)) hx hb hr (fun t ht hW => ⟨⟨(-1), (), rfl, (hsp.symm.trans hRR), trivial⟩, hS.F ht⟩) hS.2.2 eX8_graph_20
