theorem eX8_about_0 : decode cX8_about 0 = .ok (.iload_n 1, 1) := by decide +kernel
theorem eX8_about_1 : decode cX8_about 1 = .ok (.tableswitch 168 0 9 #[55, 63, 71, 79, 87, 95, 114, 136, 155, 163], 55) := by decide +kernel
theorem eX8_about_56 : decode cX8_about 56 = .ok (.aload_n 0, 1) := by decide +kernel
theorem eX8_about_57 : decode cX8_about 57 = .ok (.getfield 23, 3) := by decide +kernel
theorem eX8_about_60 : decode cX8_about 60 = .ok (.getfield 116, 3) := by decide +kernel
theorem eX8_about_63 : decode cX8_about 63 = .ok (.ireturn, 1) := by decide +kernel
theorem eX8_about_64 : decode cX8_about 64 = .ok (.aload_n 0, 1) := by decide +kernel
theorem eX8_about_65 : decode cX8_about 65 = .ok (.getfield 23, 3) := by decide +kernel
theorem eX8_about_68 : decode cX8_about 68 = .ok (.getfield 97, 3) := by decide +kernel
theorem eX8_about_71 : decode cX8_about 71 = .ok (.ireturn, 1) := by decide +kernel
theorem eX8_about_72 : decode cX8_about 72 = .ok (.aload_n 0, 1) := by decide +kernel
theorem eX8_about_73 : decode cX8_about 73 = .ok (.getfield 23, 3) := by decide +kernel
theorem eX8_about_76 : decode cX8_about 76 = .ok (.getfield 119, 3) := by decide +kernel
theorem eX8_about_79 : decode cX8_about 79 = .ok (.ireturn, 1) := by decide +kernel
theorem eX8_about_80 : decode cX8_about 80 = .ok (.aload_n 0, 1) := by decide +kernel
theorem eX8_about_81 : decode cX8_about 81 = .ok (.getfield 23, 3) := by decide +kernel
theorem eX8_about_84 : decode cX8_about 84 = .ok (.getfield 122, 3) := by decide +kernel
theorem eX8_about_87 : decode cX8_about 87 = .ok (.ireturn, 1) := by decide +kernel
theorem eX8_about_88 : decode cX8_about 88 = .ok (.aload_n 0, 1) := by decide +kernel
theorem eX8_about_89 : decode cX8_about 89 = .ok (.getfield 23, 3) := by decide +kernel
theorem eX8_about_92 : decode cX8_about 92 = .ok (.invokevirtual 125, 3) := by decide +kernel
theorem eX8_about_95 : decode cX8_about 95 = .ok (.ireturn, 1) := by decide +kernel
theorem eX8_about_96 : decode cX8_about 96 = .ok (.aload_n 0, 1) := by decide +kernel
theorem eX8_about_97 : decode cX8_about 97 = .ok (.getfield 100, 3) := by decide +kernel
theorem eX8_about_100 : decode cX8_about 100 = .ok (.ifCond .eq 13, 3) := by decide +kernel
theorem eX8_about_103 : decode cX8_about 103 = .ok (.aload_n 0, 1) := by decide +kernel
theorem eX8_about_104 : decode cX8_about 104 = .ok (.getfield 42, 3) := by decide +kernel
theorem eX8_about_107 : decode cX8_about 107 = .ok (.getfield 129, 3) := by decide +kernel
theorem eX8_about_110 : decode cX8_about 110 = .ok (.goto 4, 3) := by decide +kernel
theorem eX8_about_113 : decode cX8_about 113 = .ok (.iconst (-1), 1) := by decide +kernel
theorem eX8_about_114 : decode cX8_about 114 = .ok (.ireturn, 1) := by decide +kernel
theorem eX8_about_115 : decode cX8_about 115 = .ok (.aload_n 0, 1) := by decide +kernel
theorem eX8_about_116 : decode cX8_about 116 = .ok (.getfield 100, 3) := by decide +kernel
theorem eX8_about_119 : decode cX8_about 119 = .ok (.ifCond .eq 16, 3) := by decide +kernel
theorem eX8_about_122 : decode cX8_about 122 = .ok (.aload_n 0, 1) := by decide +kernel
theorem eX8_about_123 : decode cX8_about 123 = .ok (.getfield 42, 3) := by decide +kernel
theorem eX8_about_126 : decode cX8_about 126 = .ok (.getfield 130, 3) := by decide +kernel
theorem eX8_about_129 : decode cX8_about 129 = .ok (.invokestatic 133, 3) := by decide +kernel
theorem eX8_about_132 : decode cX8_about 132 = .ok (.goto 4, 3) := by decide +kernel
theorem eX8_about_135 : decode cX8_about 135 = .ok (.iconst (-1), 1) := by decide +kernel
theorem eX8_about_136 : decode cX8_about 136 = .ok (.ireturn, 1) := by decide +kernel
theorem eX8_about_137 : decode cX8_about 137 = .ok (.aload_n 0, 1) := by decide +kernel
theorem eX8_about_138 : decode cX8_about 138 = .ok (.getfield 100, 3) := by decide +kernel
theorem eX8_about_141 : decode cX8_about 141 = .ok (.ifCond .eq 13, 3) := by decide +kernel
theorem eX8_about_144 : decode cX8_about 144 = .ok (.aload_n 0, 1) := by decide +kernel
theorem eX8_about_145 : decode cX8_about 145 = .ok (.getfield 42, 3) := by decide +kernel
theorem eX8_about_148 : decode cX8_about 148 = .ok (.getfield 137, 3) := by decide +kernel
theorem eX8_about_151 : decode cX8_about 151 = .ok (.goto 4, 3) := by decide +kernel
theorem eX8_about_154 : decode cX8_about 154 = .ok (.iconst (-1), 1) := by decide +kernel
theorem eX8_about_155 : decode cX8_about 155 = .ok (.ireturn, 1) := by decide +kernel
theorem eX8_about_156 : decode cX8_about 156 = .ok (.aload_n 0, 1) := by decide +kernel
theorem eX8_about_157 : decode cX8_about 157 = .ok (.getfield 33, 3) := by decide +kernel
theorem eX8_about_160 : decode cX8_about 160 = .ok (.getfield 91, 3) := by decide +kernel
theorem eX8_about_163 : decode cX8_about 163 = .ok (.ireturn, 1) := by decide +kernel
theorem eX8_about_164 : decode cX8_about 164 = .ok (.aload_n 0, 1) := by decide +kernel
theorem eX8_about_165 : decode cX8_about 165 = .ok (.getfield 79, 3) := by decide +kernel
theorem eX8_about_168 : decode cX8_about 168 = .ok (.ireturn, 1) := by decide +kernel
theorem eX8_about_169 : decode cX8_about 169 = .ok (.iconst (-1), 1) := by decide +kernel
theorem eX8_about_170 : decode cX8_about 170 = .ok (.ireturn, 1) := by decide +kernel
abbrev vs_E_8_about : List Cond := .code yX8_about cX8_about 2 (some .int) :: CM
theorem g_E_8_about_E_0_allConditions : GoodIn vs_E_8_about (wsV RX8 125 RX0 yX0_allConditions vs_E_0_allConditions) := cm_gV cm_460 cm_461 cm_462 cm_19 cm_39
theorem g_E_8_about_E_8_bit : GoodIn vs_E_8_about (va_wsS RX8 133 yX8_bit vs_E_8_bit) := cm_gS cm_463 cm_464 cm_427 cm_465
noncomputable def sp_E_8_about (tp : Nat) (hs : Nat) (nc : Nat) (np : Nat) (ne : Nat) (st0 : Int32) (q_f8 : Nat → Nat) (gc : Nat) (gfull : Nat) (gway : Int32) (hk : Nat) (p0 : Int32) : Int32 := (if (p0 : Int32) = 0 then (nI nc) else (if (p0 : Int32) = 1 then (nI np) else (if (p0 : Int32) = 2 then (nI ne) else (if (p0 : Int32) = 3 then (if (st0 : Int32) = -1 then (-1) else (slet ((st0 : Int32).toNatClampNeg) (fun n_6 => (nI n_6)))) else (if (p0 : Int32) = 4 then (slet (sp_E_0_allConditions q_f8) (fun r_8 => r_8)) else (if (p0 : Int32) = 5 then (if hs = 0 then (-1) else (nI gc)) else (if (p0 : Int32) = 6 then (if hs = 0 then (-1) else (slet (sp_E_8_bit (nI gfull)) (fun u_14 => (nI u_14)))) else (if (p0 : Int32) = 7 then (if hs = 0 then (-1) else gway) else (if (p0 : Int32) = 8 then (nI hk) else (if (p0 : Int32) = 9 then (nI tp) else (-1)))))))))))
set_option maxHeartbeats 4000000 in
set_option maxRecDepth 100000 in
theorem c_E_8_about (l : Launch) (dC : Nat → ClassId) (dI : Nat → Nat → Nat) (sz : Nat) (xa : Nat) (xtape : Nat) (tp : Nat) (rd : Nat) (au : Nat) (xdr : Nat) (hy : Nat) (g : Nat) (hs : Nat) (tg : Nat) (sg : Nat) (ss : Nat) (rm : Nat) (ti : Nat) (py : Nat) (bu : Nat) (sm : Nat) (nc : Nat) (np : Nat) (ne : Nat) (st0 : Int32) (q4 : Nat) (q5 : Nat) (q6 : Nat) (q7 : Nat) (q8 : Nat) (q9 : Nat) (q10 : Nat) (q11 : Nat) (q12 : Nat) (q13 : Nat) (q14 : Nat) (q15 : Nat) (q16 : Nat) (k_f4 : ClassId) (f4 : Nat → Int32) (k_f5 : ClassId) (q_f5 : Nat → Nat) (k_f6 : ClassId) (q_f6 : Nat → Nat) (k_f7 : ClassId) (f7 : Nat → Int32) (k_f8 : ClassId) (q_f8 : Nat → Nat) (k_f9 : ClassId) (q_f9 : Nat → Nat) (k_f10 : ClassId) (f10 : Nat → Int32) (k_f11 : ClassId) (f11 : Nat → Int32) (k_f12 : ClassId) (f12 : Nat → Int32) (k_f13 : ClassId) (f13 : Nat → Int32) (k_f14 : ClassId) (f14 : Nat → Int32) (k_f15 : ClassId) (f15 : Nat → Int32) (k_f16 : ClassId) (f16 : Nat → Int32) (gz : Nat) (g1 : Nat) (g2 : Nat) (g3 : Nat) (g4 : Nat) (g5 : Nat) (gc : Nat) (gfull : Nat) (gx : Int32) (gway : Int32) (gav : Int32) (ggoal : Int32) (gfound : Nat) (gl : Nat) (gsz : Nat) (g16 : Nat) (g17 : Nat) (hk : Nat) (co : Nat) (ol : Nat) (p0 : Int32) (htp : tp ≤ 900) (hhs : hs ≤ 1) (hss : ss ≤ 1) (hnc : nc ≤ 3) (hnp : np ≤ 8) (hne : ne ≤ 14) (hst0 : pm1 7 st0) (hgc : gc ≤ 120) (hgfull : gfull ≤ 1) (hgfound : gfound ≤ 1) (hgl : gl ≤ 1) (hgsz : gsz ≤ 4) (hhk : hk ≤ 20) : Met l yX8_about vs_E_8_about ({ frames := 1, cells := 0, slots := 0, locals := 22 }) (va_Pc [.ref xa, .int p0] (pu_B (dC, dI) (xab__w xa xtape (nI tp) rd au xdr hy g (nI hs) tg sg (nI ss) rm ti py bu sm (nI nc) (nI np) (nI ne) st0 q4 q5 q6 q7 q8 q9 q10 q11 q12 q13 q14 q15 q16 k_f4 f4 k_f5 (bN 7 q_f5) k_f6 (bN 7 q_f6) k_f7 f7 k_f8 (bN 4 q_f8) k_f9 (bN 2 q_f9) k_f10 f10 k_f11 f11 k_f12 f12 k_f13 f13 k_f14 f14 k_f15 f15 k_f16 f16 gz g1 g2 g3 g4 g5 (nI gc) (nI gfull) gx gway gav ggoal (nI gfound) 120 (nI gl) (nI gsz) g16 g17 (nI hk) co ol) (xab__t k_f4 k_f5 k_f6 k_f7 k_f8 k_f9 k_f10 k_f11 k_f12 k_f13 k_f14 k_f15 k_f16) sz)) (va_Qi (fun (r : Int32) (_ : Unit) => r = (sp_E_8_about tp hs nc np ne st0 q_f8 gc gfull gway hk p0)) (fun _ _ => True) (va_A [] sz)) 0 0 (va_A [] sz) := by
  refine Met.ofW (cc := cX8_about) (maxL := 2) (ret := (some .int)) (by decide) rfl ?_
  intro p e s m args below meth c s₁ B hml hv
  obtain ⟨rfl, rfl, hP, hK, hD0⟩ := hv
  have hx := B.exec
  have hb := B.bytes
  have hr := B.returns
  have hts := atoms_spec (ws := vs_E_8_about) B.pre
  have v_1 := hts (.fieldLink RX8 23 "ClockReach" "model" "LClockReach$Automaton;") (List.mem_cons_of_mem _ cm_434)
  have v_2 := hts (.fieldLink RX8 116 "ClockReach$Automaton" "clocks" "I") (List.mem_cons_of_mem _ cm_453)
  have v_3 := hts (.fieldLink RX8 97 "ClockReach$Automaton" "places" "I") (List.mem_cons_of_mem _ cm_437)
  have v_4 := hts (.fieldLink RX8 119 "ClockReach$Automaton" "edges" "I") (List.mem_cons_of_mem _ cm_454)
  have v_5 := hts (.fieldLink RX8 122 "ClockReach$Automaton" "start" "I") (List.mem_cons_of_mem _ cm_455)
  have v_11 := hts (.fieldLink RX8 100 "ClockReach" "hasShown" "Z") (List.mem_cons_of_mem _ cm_445)
  have v_12 := hts (.fieldLink RX8 42 "ClockReach" "shown" "LClockReach$Graph;") (List.mem_cons_of_mem _ cm_456)
  have v_13 := hts (.fieldLink RX8 129 "ClockReach$Graph" "count" "I") (List.mem_cons_of_mem _ cm_457)
  have v_14 := hts (.fieldLink RX8 130 "ClockReach$Graph" "full" "Z") (List.mem_cons_of_mem _ cm_458)
  have v_19 := hts (.fieldLink RX8 137 "ClockReach$Graph" "way" "I") (List.mem_cons_of_mem _ cm_459)
  have v_20 := hts (.fieldLink RX8 33 "ClockReach" "history" "LClockReach$History;") (List.mem_cons_of_mem _ cm_435)
  have v_21 := hts (.fieldLink RX8 91 "ClockReach$History" "count" "I") (List.mem_cons_of_mem _ cm_436)
  have v_22 := hts (.fieldLink RX8 79 "ClockReach" "taped" "I") (List.mem_cons_of_mem _ cm_423)
  have hown : s.vm.findClass RX8 = some m.cls := findClass_of_methodNamed B.named
  have hlocks := B.notSynchronized
  have hiX0 : ∀ w ∈ wsX00, w ∈ vs_E_8_about := fun _ h => List.mem_cons_of_mem _ (cm_X0 h)
  have hiX1 : ∀ w ∈ wsX10, w ∈ vs_E_8_about := fun _ h => List.mem_cons_of_mem _ (cm_X1 h)
  have hiX2 : ∀ w ∈ wsX20, w ∈ vs_E_8_about := fun _ h => List.mem_cons_of_mem _ (cm_X2 h)
  have hiX8 : ∀ w ∈ wsX80, w ∈ vs_E_8_about := fun _ h => List.mem_cons_of_mem _ (cm_X8 h)
  have hD := hD0
  have hA : ∀ q : Nat, s.heap.size ≤ q → va_A [] s.heap.size q := fun _ h => Or.inr h
  have hS : va_S (va_A [] s.heap.size) s.heap s.heap [] := va_S.rf
  have hl := lv_entry ([.ref xa, .int p0]) (n := 2) (Nat.le_of_ble_eq_true rfl)
  rw [lg_entry_eq]
  generalize (lg_sl ([.ref xa, .int p0]) ++ List.replicate (2 - (lg_sl ([.ref xa, .int p0])).length) Slot.unset).toArray = ls at hl ⊢
  have hl : lv_has ls 2 [(0, .ref xa), (1, .int p0)] := hl
  obtain ⟨RR, hRR⟩ : ∃ x, x = (sp_E_8_about tp hs nc np ne st0 q_f8 gc gfull gway hk p0) := ⟨_, rfl⟩
  have hsp := hRR
  refine lv_iload_n hx hb eX8_about_0 rfl (lv_at hl 1 rfl) ?_
  by_cases w_1 : p0 = 0
  · subst w_1
    have hsp := hsp.trans (if_pos rfl)
    refine lv_tableIn (tgt := 56) (off := 55) hx hb eX8_about_1 (by decide) (by decide) rfl (by decide) ?_
    refine lv_aload_n hx hb eX8_about_56 rfl (lv_at hl 0 rfl) ?_
    refine va_get (D := (dC, dI)) (ci := 8) (v := .ref au) (C := RX8) (T := TX8) (N := 16) hx hb hts hiX8 hown hK hP 0 rfl rfl 3 (by decide) v_1 (fun _ h9 => h9) rfl eX8_about_57 ?_
    refine va_get (D := (dC, dI)) (ci := 0) (v := .int (nI nc)) (C := RX0) (T := TX0) (N := 17) hx hb hts hiX0 hown hK hP 1 rfl rfl 0 (by decide) v_2 (fun _ h9 => h9) rfl eX8_about_60 ?_
    exact W.iret (v := (nI nc)) hx hb hr (fun t ht hW => ⟨⟨(nI nc), (), rfl, (hsp.symm.trans hRR), trivial⟩, hS.F ht⟩) hS.2.2 eX8_about_63
  have hsp := hsp.trans (if_neg w_1)
  by_cases w_2 : p0 = 1
  · subst w_2
    have hsp := hsp.trans (if_pos rfl)
    refine lv_tableIn (tgt := 64) (off := 63) hx hb eX8_about_1 (by decide) (by decide) rfl (by decide) ?_
    refine lv_aload_n hx hb eX8_about_64 rfl (lv_at hl 0 rfl) ?_
    refine va_get (D := (dC, dI)) (ci := 8) (v := .ref au) (C := RX8) (T := TX8) (N := 16) hx hb hts hiX8 hown hK hP 0 rfl rfl 3 (by decide) v_1 (fun _ h9 => h9) rfl eX8_about_65 ?_
    refine va_get (D := (dC, dI)) (ci := 0) (v := .int (nI np)) (C := RX0) (T := TX0) (N := 17) hx hb hts hiX0 hown hK hP 1 rfl rfl 1 (by decide) v_3 (fun _ h9 => h9) rfl eX8_about_68 ?_
    exact W.iret (v := (nI np)) hx hb hr (fun t ht hW => ⟨⟨(nI np), (), rfl, (hsp.symm.trans hRR), trivial⟩, hS.F ht⟩) hS.2.2 eX8_about_71
  have hsp := hsp.trans (if_neg w_2)
  by_cases w_3 : p0 = 2
  · subst w_3
    have hsp := hsp.trans (if_pos rfl)
    refine lv_tableIn (tgt := 72) (off := 71) hx hb eX8_about_1 (by decide) (by decide) rfl (by decide) ?_
    refine lv_aload_n hx hb eX8_about_72 rfl (lv_at hl 0 rfl) ?_
    refine va_get (D := (dC, dI)) (ci := 8) (v := .ref au) (C := RX8) (T := TX8) (N := 16) hx hb hts hiX8 hown hK hP 0 rfl rfl 3 (by decide) v_1 (fun _ h9 => h9) rfl eX8_about_73 ?_
    refine va_get (D := (dC, dI)) (ci := 0) (v := .int (nI ne)) (C := RX0) (T := TX0) (N := 17) hx hb hts hiX0 hown hK hP 1 rfl rfl 2 (by decide) v_4 (fun _ h9 => h9) rfl eX8_about_76 ?_
    exact W.iret (v := (nI ne)) hx hb hr (fun t ht hW => ⟨⟨(nI ne), (), rfl, (hsp.symm.trans hRR), trivial⟩, hS.F ht⟩) hS.2.2 eX8_about_79
  have hsp := hsp.trans (if_neg w_3)
  by_cases w_4 : p0 = 3
  · subst w_4
    have hsp := hsp.trans (if_pos rfl)
    refine lv_tableIn (tgt := 80) (off := 79) hx hb eX8_about_1 (by decide) (by decide) rfl (by decide) ?_
    refine lv_aload_n hx hb eX8_about_80 rfl (lv_at hl 0 rfl) ?_
    refine va_get (D := (dC, dI)) (ci := 8) (v := .ref au) (C := RX8) (T := TX8) (N := 16) hx hb hts hiX8 hown hK hP 0 rfl rfl 3 (by decide) v_1 (fun _ h9 => h9) rfl eX8_about_81 ?_
    refine va_get (D := (dC, dI)) (ci := 0) (v := .int st0) (C := RX0) (T := TX0) (N := 17) hx hb hts hiX0 hown hK hP 1 rfl rfl 3 (by decide) v_5 (fun _ h9 => h9) rfl eX8_about_84 ?_
    refine lv_topi (fun y_5 ey_5 => ?_)
    have mn_6 := hst0
    rcases mn_6 with en_6 | ⟨n_6, hn_6, en_6⟩
    · obtain rfl : y_5 = (-1) := ey_5.trans en_6
      have hsp := hsp.trans (if_pos en_6)
      exact W.iret (v := (-1)) hx hb hr (fun t ht hW => ⟨⟨(-1), (), rfl, (hsp.symm.trans hRR), trivial⟩, hS.F ht⟩) hS.2.2 eX8_about_87
    · obtain rfl : y_5 = (nI n_6) := ey_5.trans en_6
      have hsp := hsp.trans (if_neg (fun z => pu_nneg (n := n_6) (k := -1) (by omega) (by decide) (en_6.symm.trans z)))
      have hsp := hsp.trans (slet_eq (by rw [en_6]; exact nI_cl (by omega) : n_6 = (st0 : Int32).toNatClampNeg))
      exact W.iret (v := (nI n_6)) hx hb hr (fun t ht hW => ⟨⟨(nI n_6), (), rfl, (hsp.symm.trans hRR), trivial⟩, hS.F ht⟩) hS.2.2 eX8_about_87
  have hsp := hsp.trans (if_neg w_4)
  by_cases w_7 : p0 = 4
  · subst w_7
    have hsp := hsp.trans (if_pos rfl)
    refine lv_tableIn (tgt := 88) (off := 87) hx hb eX8_about_1 (by decide) (by decide) rfl (by decide) ?_
    refine lv_aload_n hx hb eX8_about_88 rfl (lv_at hl 0 rfl) ?_
    refine va_get (D := (dC, dI)) (ci := 8) (v := .ref au) (C := RX8) (T := TX8) (N := 16) hx hb hts hiX8 hown hK hP 0 rfl rfl 3 (by decide) v_1 (fun _ h9 => h9) rfl eX8_about_89 ?_
    have hPc : va_P (dC, dI) vwCl (au__w au (nI nc) (nI np) (nI ne) st0 q4 q5 q6 q7 q8 q9 q10 q11 q12 q13 q14 q15 q16 k_f4 f4 k_f5 (bN 7 q_f5) k_f6 (bN 7 q_f6) k_f7 f7 k_f8 (bN 4 q_f8) k_f9 (bN 2 q_f9) k_f10 f10 k_f11 f11 k_f12 f12 k_f13 f13 k_f14 f14 k_f15 f15 k_f16 f16) _ := hP.sub [1, 2, 3, 4, 5, 6, 7, 8, 9, 10, 11, 12, 13, 14] rfl
    have hDc := hD.sub (ws' := (au__w au (nI nc) (nI np) (nI ne) st0 q4 q5 q6 q7 q8 q9 q10 q11 q12 q13 q14 q15 q16 k_f4 f4 k_f5 (bN 7 q_f5) k_f6 (bN 7 q_f6) k_f7 f7 k_f8 (bN 4 q_f8) k_f9 (bN 2 q_f9) k_f10 f10 k_f11 f11 k_f12 f12 k_f13 f13 k_f14 f14 k_f15 f15 k_f16 f16)) [1, 2, 3, 4, 5, 6, 7, 8, 9, 10, 11, 12, 13, 14] (by decide) rfl
    have hKc : va_K (dC, dI) vwCl (au__t k_f4 k_f5 k_f6 k_f7 k_f8 k_f9 k_f10 k_f11 k_f12 k_f13 k_f14 k_f15 k_f16) s := hK.sub [0, 1, 2, 3, 4, 5, 6, 7, 8, 9, 10, 11, 12] rfl
    refine va_calli (va_runV (As := []) (rest := []) ⟨hx, hb, hml, hown, hts⟩ (c_E_0_allConditions l dC dI _ au nc np ne st0 q4 q5 q6 q7 q8 q9 q10 q11 q12 q13 q14 q15 q16 k_f4 f4 k_f5 q_f5 k_f6 q_f6 k_f7 f7 k_f8 q_f8 k_f9 q_f9 k_f10 f10 k_f11 f11 k_f12 f12 k_f13 f13 k_f14 f14 k_f15 f15 k_f16 f16 hnc hnp hne (hst0)) (cwV 0 hts g_E_8_about_E_0_allConditions rfl rfl rfl (by decide +kernel) ⟨Nat.le_of_ble_eq_true rfl, Nat.le_of_ble_eq_true rfl⟩) ⟨pu_bl, va_recv hK hP (ci := 0) (q0 := 1) rfl rfl, pu_in hPc hKc hDc⟩ rfl rfl hl.1 rfl (lv_room (Nat.le_of_ble_eq_true rfl)) eX8_about_92 ⟨Nat.le_of_ble_eq_true rfl, Nat.le_of_ble_eq_true rfl⟩) hS (fun q _ h => pu_fr hS hA q h) (pu_fr hS hA) (fun r_8 u t H1 locs ht hvm hw hB hz1 hk1 hS => ?_)
    have hP := pu_keep hP hk1
    clear hk1 hz1 ht hvm
    generalize H1 = H at hP hS ⊢
    have ir_8 := hw
    have hsp := hsp.trans (slet_eq ir_8)
    exact W.iret (v := r_8) hx hb hr (fun t ht hW => ⟨⟨r_8, (), rfl, (hsp.symm.trans hRR), trivial⟩, hS.F ht⟩) hS.2.2 eX8_about_95
  have hsp := hsp.trans (if_neg w_7)
  by_cases w_9 : p0 = 5
  · subst w_9
    have hsp := hsp.trans (if_pos rfl)
    refine lv_tableIn (tgt := 96) (off := 95) hx hb eX8_about_1 (by decide) (by decide) rfl (by decide) ?_
    refine lv_aload_n hx hb eX8_about_96 rfl (lv_at hl 0 rfl) ?_
    refine va_get (D := (dC, dI)) (ci := 8) (v := .int (nI hs)) (C := RX8) (T := TX8) (N := 16) hx hb hts hiX8 hown hK hP 0 rfl rfl 7 (by decide) v_11 (fun _ h9 => h9) rfl eX8_about_97 ?_
    refine lv_if_eq (tgt := 113) hx hb eX8_about_100 (by decide) (fun c_10 => ?_) (fun c_10 => ?_)
    · have c_10 : hs = 0 := (nI_eq (a := hs) (b := 0) (Nat.lt_of_le_of_lt hhs (Nat.le_of_ble_eq_true rfl)) (Nat.le_of_ble_eq_true rfl)).mp c_10
      have hsp := hsp.trans (if_pos c_10)
      refine lv_iconst (v := (-1)) hx hb eX8_about_113 (by decide) ?_
      exact W.iret (v := (-1)) hx hb hr (fun t ht hW => ⟨⟨(-1), (), rfl, (hsp.symm.trans hRR), trivial⟩, hS.F ht⟩) hS.2.2 eX8_about_114
    · have c_10 : ¬ hs = 0 := fun z => c_10 ((nI_eq (a := hs) (b := 0) (Nat.lt_of_le_of_lt hhs (Nat.le_of_ble_eq_true rfl)) (Nat.le_of_ble_eq_true rfl)).mpr z)
      have hsp := hsp.trans (if_neg c_10)
      refine lv_aload_n hx hb eX8_about_103 rfl (lv_at hl 0 rfl) ?_
      refine va_get (D := (dC, dI)) (ci := 8) (v := .ref g) (C := RX8) (T := TX8) (N := 16) hx hb hts hiX8 hown hK hP 0 rfl rfl 6 (by decide) v_12 (fun _ h9 => h9) rfl eX8_about_104 ?_
      refine va_get (D := (dC, dI)) (ci := 1) (v := .int (nI gc)) (C := RX1) (T := TX1) (N := 18) hx hb hts hiX1 hown hK hP 15 rfl rfl 6 (by decide) v_13 (fun _ h9 => h9) rfl eX8_about_107 ?_
      refine lv_goto (tgt := 114) hx hb eX8_about_110 (by decide) ?_
      exact W.iret (v := (nI gc)) hx hb hr (fun t ht hW => ⟨⟨(nI gc), (), rfl, (hsp.symm.trans hRR), trivial⟩, hS.F ht⟩) hS.2.2 eX8_about_114
  have hsp := hsp.trans (if_neg w_9)
  by_cases w_11 : p0 = 6
  · subst w_11
    have hsp := hsp.trans (if_pos rfl)
    refine lv_tableIn (tgt := 115) (off := 114) hx hb eX8_about_1 (by decide) (by decide) rfl (by decide) ?_
    refine lv_aload_n hx hb eX8_about_115 rfl (lv_at hl 0 rfl) ?_
    refine va_get (D := (dC, dI)) (ci := 8) (v := .int (nI hs)) (C := RX8) (T := TX8) (N := 16) hx hb hts hiX8 hown hK hP 0 rfl rfl 7 (by decide) v_11 (fun _ h9 => h9) rfl eX8_about_116 ?_
    refine lv_if_eq (tgt := 135) hx hb eX8_about_119 (by decide) (fun c_12 => ?_) (fun c_12 => ?_)
    · have c_12 : hs = 0 := (nI_eq (a := hs) (b := 0) (Nat.lt_of_le_of_lt hhs (Nat.le_of_ble_eq_true rfl)) (Nat.le_of_ble_eq_true rfl)).mp c_12
      have hsp := hsp.trans (if_pos c_12)
      refine lv_iconst (v := (-1)) hx hb eX8_about_135 (by decide) ?_
      exact W.iret (v := (-1)) hx hb hr (fun t ht hW => ⟨⟨(-1), (), rfl, (hsp.symm.trans hRR), trivial⟩, hS.F ht⟩) hS.2.2 eX8_about_136
    · have c_12 : ¬ hs = 0 := fun z => c_12 ((nI_eq (a := hs) (b := 0) (Nat.lt_of_le_of_lt hhs (Nat.le_of_ble_eq_true rfl)) (Nat.le_of_ble_eq_true rfl)).mpr z)
      have hsp := hsp.trans (if_neg c_12)
      refine lv_aload_n hx hb eX8_about_122 rfl (lv_at hl 0 rfl) ?_
      refine va_get (D := (dC, dI)) (ci := 8) (v := .ref g) (C := RX8) (T := TX8) (N := 16) hx hb hts hiX8 hown hK hP 0 rfl rfl 6 (by decide) v_12 (fun _ h9 => h9) rfl eX8_about_123 ?_
      refine va_get (D := (dC, dI)) (ci := 1) (v := .int (nI gfull)) (C := RX1) (T := TX1) (N := 18) hx hb hts hiX1 hown hK hP 15 rfl rfl 7 (by decide) v_14 (fun _ h9 => h9) rfl eX8_about_126 ?_
      refine va_calli (va_runS (As := [.int (nI gfull)]) (rest := []) ⟨hx, hb, hml, hown, hts⟩ (c_E_8_bit l dC dI _ (nI gfull)) (va_cwS 1 hts g_E_8_about_E_8_bit rfl rfl rfl (by decide +kernel) ⟨Nat.le_of_ble_eq_true rfl, Nat.le_of_ble_eq_true rfl⟩) ⟨pu_bl, pu_in (hP.sub [] rfl) (hK.sub [] rfl) (hD.sub [] (by decide) rfl)⟩ rfl rfl hl.1 rfl (lv_room (Nat.le_of_ble_eq_true rfl)) eX8_about_129 ⟨Nat.le_of_ble_eq_true rfl, Nat.le_of_ble_eq_true rfl⟩) hS (fun q _ h => pu_fr hS hA q h) (pu_fr hS hA) (fun r_13 u t H1 locs ht hvm hw hB hz1 hk1 hS => ?_)
      have hP := pu_keep hP hk1
      clear hk1 hz1 ht hvm
      generalize H1 = H at hP hS ⊢
      obtain ⟨u_14, hu_14, rfl, iu_14⟩ := hw
      have hsp := hsp.trans (slet_eq iu_14)
      refine lv_goto (tgt := 136) hx hb eX8_about_132 (by decide) ?_
      exact W.iret (v := (nI u_14)) hx hb hr (fun t ht hW => ⟨⟨(nI u_14), (), rfl, (hsp.symm.trans hRR), trivial⟩, hS.F ht⟩) hS.2.2 eX8_about_136
  have hsp := hsp.trans (if_neg w_11)
  by_cases w_15 : p0 = 7
  · subst w_15
    have hsp := hsp.trans (if_pos rfl)
    refine lv_tableIn (tgt := 137) (off := 136) hx hb eX8_about_1 (by decide) (by decide) rfl (by decide) ?_
    refine lv_aload_n hx hb eX8_about_137 rfl (lv_at hl 0 rfl) ?_
    refine va_get (D := (dC, dI)) (ci := 8) (v := .int (nI hs)) (C := RX8) (T := TX8) (N := 16) hx hb hts hiX8 hown hK hP 0 rfl rfl 7 (by decide) v_11 (fun _ h9 => h9) rfl eX8_about_138 ?_
    refine lv_if_eq (tgt := 154) hx hb eX8_about_141 (by decide) (fun c_16 => ?_) (fun c_16 => ?_)
    · have c_16 : hs = 0 := (nI_eq (a := hs) (b := 0) (Nat.lt_of_le_of_lt hhs (Nat.le_of_ble_eq_true rfl)) (Nat.le_of_ble_eq_true rfl)).mp c_16
      have hsp := hsp.trans (if_pos c_16)
      refine lv_iconst (v := (-1)) hx hb eX8_about_154 (by decide) ?_
      exact W.iret (v := (-1)) hx hb hr (fun t ht hW => ⟨⟨(-1), (), rfl, (hsp.symm.trans hRR), trivial⟩, hS.F ht⟩) hS.2.2 eX8_about_155
    · have c_16 : ¬ hs = 0 := fun z => c_16 ((nI_eq (a := hs) (b := 0) (Nat.lt_of_le_of_lt hhs (Nat.le_of_ble_eq_true rfl)) (Nat.le_of_ble_eq_true rfl)).mpr z)
      have hsp := hsp.trans (if_neg c_16)
      refine lv_aload_n hx hb eX8_about_144 rfl (lv_at hl 0 rfl) ?_
      refine va_get (D := (dC, dI)) (ci := 8) (v := .ref g) (C := RX8) (T := TX8) (N := 16) hx hb hts hiX8 hown hK hP 0 rfl rfl 6 (by decide) v_12 (fun _ h9 => h9) rfl eX8_about_145 ?_
      refine va_get (D := (dC, dI)) (ci := 1) (v := .int gway) (C := RX1) (T := TX1) (N := 18) hx hb hts hiX1 hown hK hP 15 rfl rfl 9 (by decide) v_19 (fun _ h9 => h9) rfl eX8_about_148 ?_
      refine lv_goto (tgt := 155) hx hb eX8_about_151 (by decide) ?_
      exact W.iret (v := gway) hx hb hr (fun t ht hW => ⟨⟨gway, (), rfl, (hsp.symm.trans hRR), trivial⟩, hS.F ht⟩) hS.2.2 eX8_about_155
  have hsp := hsp.trans (if_neg w_15)
  by_cases w_17 : p0 = 8
  · subst w_17
    have hsp := hsp.trans (if_pos rfl)
    refine lv_tableIn (tgt := 156) (off := 155) hx hb eX8_about_1 (by decide) (by decide) rfl (by decide) ?_
    refine lv_aload_n hx hb eX8_about_156 rfl (lv_at hl 0 rfl) ?_
    refine va_get (D := (dC, dI)) (ci := 8) (v := .ref hy) (C := RX8) (T := TX8) (N := 16) hx hb hts hiX8 hown hK hP 0 rfl rfl 5 (by decide) v_20 (fun _ h9 => h9) rfl eX8_about_157 ?_
    refine va_get (D := (dC, dI)) (ci := 2) (v := .int (nI hk)) (C := RX2) (T := TX2) (N := 3) hx hb hts hiX2 hown hK hP 16 rfl rfl 0 (by decide) v_21 (fun _ h9 => h9) rfl eX8_about_160 ?_
    exact W.iret (v := (nI hk)) hx hb hr (fun t ht hW => ⟨⟨(nI hk), (), rfl, (hsp.symm.trans hRR), trivial⟩, hS.F ht⟩) hS.2.2 eX8_about_163
  have hsp := hsp.trans (if_neg w_17)
  by_cases w_18 : p0 = 9
  · subst w_18
    have hsp := hsp.trans (if_pos rfl)
    refine lv_tableIn (tgt := 164) (off := 163) hx hb eX8_about_1 (by decide) (by decide) rfl (by decide) ?_
    refine lv_aload_n hx hb eX8_about_164 rfl (lv_at hl 0 rfl) ?_
    refine va_get (D := (dC, dI)) (ci := 8) (v := .int (nI tp)) (C := RX8) (T := TX8) (N := 16) hx hb hts hiX8 hown hK hP 0 rfl rfl 1 (by decide) v_22 (fun _ h9 => h9) rfl eX8_about_165 ?_
    exact W.iret (v := (nI tp)) hx hb hr (fun t ht hW => ⟨⟨(nI tp), (), rfl, (hsp.symm.trans hRR), trivial⟩, hS.F ht⟩) hS.2.2 eX8_about_168
  have hsp := hsp.trans (if_neg w_18)
  refine lv_tableOut (tgt := 169) hx hb eX8_about_1 (by
      have zw_1 : Int32.toInt p0 ≠ 0 := fun g => w_1 ((fa_eq _ _).mpr g)
      have zw_2 : Int32.toInt p0 ≠ 1 := fun g => w_2 ((fa_eq _ _).mpr g)
      have zw_3 : Int32.toInt p0 ≠ 2 := fun g => w_3 ((fa_eq _ _).mpr g)
      have zw_4 : Int32.toInt p0 ≠ 3 := fun g => w_4 ((fa_eq _ _).mpr g)
      have zw_7 : Int32.toInt p0 ≠ 4 := fun g => w_7 ((fa_eq _ _).mpr g)
      have zw_9 : Int32.toInt p0 ≠ 5 := fun g => w_9 ((fa_eq _ _).mpr g)
      have zw_11 : Int32.toInt p0 ≠ 6 := fun g => w_11 ((fa_eq _ _).mpr g)
      have zw_15 : Int32.toInt p0 ≠ 7 := fun g => w_15 ((fa_eq _ _).mpr g)
      have zw_17 : Int32.toInt p0 ≠ 8 := fun g => w_17 ((fa_eq _ _).mpr g)
      have zw_18 : Int32.toInt p0 ≠ 9 := fun g => w_18 ((fa_eq _ _).mpr g)
      omega) (by decide) ?_
  refine lv_iconst (v := (-1)) hx hb eX8_about_169 (by decide) ?_
  exact W.iret (v := (-1)) hx hb hr (fun t ht hW => ⟨⟨(-1), (), rfl, (hsp.symm.trans hRR), trivial⟩, hS.F ht⟩) hS.2.2 eX8_about_170
