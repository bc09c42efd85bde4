theorem eX8_bit_0 : decode cX8_bit 0 = .ok (.iload_n 0, 1) := by decide +kernel
theorem eX8_bit_1 : decode cX8_bit 1 = .ok (.ifCond .eq 7, 3) := by decide +kernel
theorem eX8_bit_4 : decode cX8_bit 4 = .ok (.iconst 1, 1) := by decide +kernel
theorem eX8_bit_5 : decode cX8_bit 5 = .ok (.goto 4, 3) := by decide +kernel
theorem eX8_bit_8 : decode cX8_bit 8 = .ok (.iconst 0, 1) := by decide +kernel
theorem eX8_bit_9 : decode cX8_bit 9 = .ok (.ireturn, 1) := by decide +kernel
abbrev vs_E_8_bit : List Cond := .code yX8_bit cX8_bit 1 (some .int) :: CM
noncomputable def sp_E_8_bit (p0 : Int32) : Nat := (if (p0 : Int32) = 0 then 0 else 1)
set_option maxHeartbeats 4000000 in
set_option maxRecDepth 100000 in
theorem c_E_8_bit (l : Launch) (dC : Nat → ClassId) (dI : Nat → Nat → Nat) (sz : Nat) (p0 : Int32)  : Met l yX8_bit vs_E_8_bit ({ frames := 0, cells := 0, slots := 0, locals := 0 }) (va_Pc [.int p0] (pu_B (dC, dI) [] [] sz)) (va_Qi (fun (r : Int32) (_ : Unit) => ∃ v : Nat, v ≤ 1 ∧ r = nI v ∧ v = (sp_E_8_bit p0)) (fun _ _ => True) (va_A [] sz)) 0 0 (va_A [] sz) := by
  refine Met.ofW (cc := cX8_bit) (maxL := 1) (ret := (some .int)) (by decide) rfl ?_
  intro p e s m args below meth c s₁ B hml hv
  obtain ⟨rfl, rfl, hP, hK, hD0⟩ := hv
  have hx := B.exec
  have hb := B.bytes
  have hr := B.returns
  have hts := atoms_spec (ws := vs_E_8_bit) B.pre
  have hown : s.vm.findClass RX8 = some m.cls := findClass_of_methodNamed B.named
  have hlocks := B.notSynchronized
  have hD := hD0
  have hA : ∀ q : Nat, s.heap.size ≤ q → va_A [] s.heap.size q := fun _ h => Or.inr h
  have hS : va_S (va_A [] s.heap.size) s.heap s.heap [] := va_S.rf
  have hl := lv_entry ([.int p0]) (n := 1) (Nat.le_of_ble_eq_true rfl)
  rw [lg_entry_eq]
  generalize (lg_sl ([.int p0]) ++ List.replicate (1 - (lg_sl ([.int p0])).length) Slot.unset).toArray = ls at hl ⊢
  have hl : lv_has ls 1 [(0, .int p0)] := hl
  obtain ⟨RR, hRR⟩ : ∃ x, x = (sp_E_8_bit p0) := ⟨_, rfl⟩
  have hsp := hRR
  refine lv_iload_n hx hb eX8_bit_0 rfl (lv_at hl 0 rfl) ?_
  refine lv_if_eq (tgt := 8) hx hb eX8_bit_1 (by decide) (fun c_1 => ?_) (fun c_1 => ?_)
  · have hcc_1 := c_1
    have hsp := hsp.trans (if_pos c_1)
    refine lv_iconst (v := 0) hx hb eX8_bit_8 (by decide) ?_
    exact W.iret (v := 0) hx hb hr (fun t ht hW => ⟨⟨0, (), rfl, ⟨0, (Nat.le_of_ble_eq_true rfl), rfl, (hsp.symm.trans hRR)⟩, trivial⟩, hS.F ht⟩) hS.2.2 eX8_bit_9
  · have hcc_1 := c_1
    have hsp := hsp.trans (if_neg c_1)
    refine lv_iconst (v := 1) hx hb eX8_bit_4 (by decide) ?_
    refine lv_goto (tgt := 9) hx hb eX8_bit_5 (by decide) ?_
    exact W.iret (v := 1) hx hb hr (fun t ht hW => ⟨⟨1, (), rfl, ⟨1, (Nat.le_of_ble_eq_true rfl), rfl, (hsp.symm.trans hRR)⟩, trivial⟩, hS.F ht⟩) hS.2.2 eX8_bit_9
theorem eX8_isPlace_0 : decode cX8_isPlace 0 = .ok (.iload_n 1, 1) := by decide +kernel
theorem eX8_isPlace_1 : decode cX8_isPlace 1 = .ok (.ifCond .lt 18, 3) := by decide +kernel
theorem eX8_isPlace_4 : decode cX8_isPlace 4 = .ok (.iload_n 1, 1) := by decide +kernel
theorem eX8_isPlace_5 : decode cX8_isPlace 5 = .ok (.aload_n 0, 1) := by decide +kernel
theorem eX8_isPlace_6 : decode cX8_isPlace 6 = .ok (.getfield 23, 3) := by decide +kernel
theorem eX8_isPlace_9 : decode cX8_isPlace 9 = .ok (.getfield 97, 3) := by decide +kernel
theorem eX8_isPlace_12 : decode cX8_isPlace 12 = .ok (.if_icmp .ge 7, 3) := by decide +kernel
theorem eX8_isPlace_15 : decode cX8_isPlace 15 = .ok (.iconst 1, 1) := by decide +kernel
theorem eX8_isPlace_16 : decode cX8_isPlace 16 = .ok (.goto 4, 3) := by decide +kernel
theorem eX8_isPlace_19 : decode cX8_isPlace 19 = .ok (.iconst 0, 1) := by decide +kernel
theorem eX8_isPlace_20 : decode cX8_isPlace 20 = .ok (.ireturn, 1) := by decide +kernel
abbrev vs_E_8_isPlace : List Cond := .code yX8_isPlace cX8_isPlace 2 (some .boolean) :: CM
noncomputable def sp_E_8_isPlace (np : Nat) (p0 : Int32) : Unit := (if (p0 : Int32) < 0 then () else (if ((nI np) : Int32) ≤ p0 then () else (slet ((p0 : Int32).toNatClampNeg) (fun n_3 => ()))))
set_option maxHeartbeats 4000000 in
set_option maxRecDepth 100000 in
theorem c_E_8_isPlace (l : Launch) (dC : Nat → ClassId) (dI : Nat → Nat → Nat) (sz : Nat) (xa : Nat) (xtape : Nat) (tp : Nat) (rd : Nat) (au : Nat) (xdr : Nat) (hy : Nat) (g : Nat) (hs : Nat) (tg : Nat) (sg : Nat) (ss : Nat) (rm : Nat) (ti : Nat) (py : Nat) (bu : Nat) (sm : Nat) (nc : Nat) (np : Nat) (ne : Nat) (st0 : Int32) (q4 : Nat) (q5 : Nat) (q6 : Nat) (q7 : Nat) (q8 : Nat) (q9 : Nat) (q10 : Nat) (q11 : Nat) (q12 : Nat) (q13 : Nat) (q14 : Nat) (q15 : Nat) (q16 : Nat) (p0 : Int32) (htp : tp ≤ 900) (hhs : hs ≤ 1) (hss : ss ≤ 1) (hnc : nc ≤ 3) (hnp : np ≤ 8) (hne : ne ≤ 14) (hst0 : pm1 7 st0) : Met l yX8_isPlace vs_E_8_isPlace ({ frames := 0, cells := 0, slots := 0, locals := 0 }) (va_Pc [.ref xa, .int p0] (pu_B (dC, dI) (xo__w xa xtape (nI tp) rd au xdr hy g (nI hs) tg sg (nI ss) rm ti py bu sm (nI nc) (nI np) (nI ne) st0 q4 q5 q6 q7 q8 q9 q10 q11 q12 q13 q14 q15 q16) (xo__t ) sz)) (va_Qi (fun (r : Int32) (_ : Unit) => (r = 1 ∧ ∃ q : Nat, q < np ∧ p0 = nI q) ∨ (r = 0 ∧ ¬ ((0 : Int32) ≤ p0 ∧ p0 < nI np))) (fun _ _ => True) (va_A [] sz)) 0 0 (va_A [] sz) := by
  refine Met.ofW (cc := cX8_isPlace) (maxL := 2) (ret := (some .boolean)) (by decide) rfl ?_
  intro p e s m args below meth c s₁ B hml hv
  obtain ⟨rfl, rfl, hP, hK, hD0⟩ := hv
  have hx := B.exec
  have hb := B.bytes
  have hr := B.returns
  have hts := atoms_spec (ws := vs_E_8_isPlace) B.pre
  have v_1 := hts (.fieldLink RX8 23 "ClockReach" "model" "LClockReach$Automaton;") (List.mem_cons_of_mem _ cm_434)
  have v_2 := hts (.fieldLink RX8 97 "ClockReach$Automaton" "places" "I") (List.mem_cons_of_mem _ cm_437)
  have hown : s.vm.findClass RX8 = some m.cls := findClass_of_methodNamed B.named
  have hlocks := B.notSynchronized
  have hiX0 : ∀ w ∈ wsX00, w ∈ vs_E_8_isPlace := fun _ h => List.mem_cons_of_mem _ (cm_X0 h)
  have hiX8 : ∀ w ∈ wsX80, w ∈ vs_E_8_isPlace := fun _ h => List.mem_cons_of_mem _ (cm_X8 h)
  have hD := hD0
  have hA : ∀ q : Nat, s.heap.size ≤ q → va_A [] s.heap.size q := fun _ h => Or.inr h
  have hS : va_S (va_A [] s.heap.size) s.heap s.heap [] := va_S.rf
  have hl := lv_entry ([.ref xa, .int p0]) (n := 2) (Nat.le_of_ble_eq_true rfl)
  rw [lg_entry_eq]
  generalize (lg_sl ([.ref xa, .int p0]) ++ List.replicate (2 - (lg_sl ([.ref xa, .int p0])).length) Slot.unset).toArray = ls at hl ⊢
  have hl : lv_has ls 2 [(0, .ref xa), (1, .int p0)] := hl
  obtain ⟨RR, hRR⟩ : ∃ x, x = (sp_E_8_isPlace np p0) := ⟨_, rfl⟩
  have hsp := hRR
  refine lv_iload_n hx hb eX8_isPlace_0 rfl (lv_at hl 1 rfl) ?_
  refine lv_if_lt (tgt := 19) hx hb eX8_isPlace_1 (by decide) (fun c_1 => ?_) (fun c_1 => ?_)
  · have hcc_1 := c_1
    have hsp := hsp.trans (if_pos c_1)
    refine lv_iconst (v := 0) hx hb eX8_isPlace_19 (by decide) ?_
    exact W.zret (v := 0) (ty := .boolean) hx hb hr (rfl) (fun t ht hW => ⟨⟨0, (), rfl, Or.inr ⟨rfl, by first | exact fun z => absurd z.1 (Int32.not_le.mpr (by assumption)) | exact fun z => absurd z.2 (Int32.not_lt.mpr (by assumption))⟩, trivial⟩, hS.F ht⟩) hS.2.2 eX8_isPlace_20
  · have hcc_1 := c_1
    have hsp := hsp.trans (if_neg c_1)
    have lp0 : ¬ p0 < 0 := c_1
    refine lv_iload_n hx hb eX8_isPlace_4 rfl (lv_at hl 1 rfl) ?_
    refine lv_aload_n hx hb eX8_isPlace_5 rfl (lv_at hl 0 rfl) ?_
    refine va_get (D := (dC, dI)) (ci := 8) (v := .ref au) (C := RX8) (T := TX8) (N := 16) hx hb hts hiX8 hown hK hP 0 rfl rfl 3 (by decide) v_1 (fun _ h9 => h9) rfl eX8_isPlace_6 ?_
    refine va_get (D := (dC, dI)) (ci := 0) (v := .int (nI np)) (C := RX0) (T := TX0) (N := 17) hx hb hts hiX0 hown hK hP 1 rfl rfl 1 (by decide) v_2 (fun _ h9 => h9) rfl eX8_isPlace_9 ?_
    refine lv_icmp_ge (tgt := 19) hx hb eX8_isPlace_12 (by decide) (fun c_2 => ?_) (fun c_2 => ?_)
    · have hcc_2 := c_2
      have hsp := hsp.trans (if_pos c_2)
      refine lv_iconst (v := 0) hx hb eX8_isPlace_19 (by decide) ?_
      exact W.zret (v := 0) (ty := .boolean) hx hb hr (rfl) (fun t ht hW => ⟨⟨0, (), rfl, Or.inr ⟨rfl, by first | exact fun z => absurd z.1 (Int32.not_le.mpr (by assumption)) | exact fun z => absurd z.2 (Int32.not_lt.mpr (by assumption))⟩, trivial⟩, hS.F ht⟩) hS.2.2 eX8_isPlace_20
    · have hcc_2 := c_2
      have hsp := hsp.trans (if_neg c_2)
      obtain ⟨n_3, hn_3, rfl⟩ := pu_ult (b := np) (by omega) lp0 (Int32.not_le.mp c_2)
      have hsp := hsp.trans (slet_eq (nI_cl (n := n_3) (by omega)))
      refine lv_iconst (v := 1) hx hb eX8_isPlace_15 (by decide) ?_
      refine lv_goto (tgt := 20) hx hb eX8_isPlace_16 (by decide) ?_
      exact W.zret (v := 1) (ty := .boolean) hx hb hr (rfl) (fun t ht hW => ⟨⟨1, (), rfl, Or.inl ⟨rfl, n_3, hn_3, rfl⟩, trivial⟩, hS.F ht⟩) hS.2.2 eX8_isPlace_20
theorem eX8_isEdge_0 : decode cX8_isEdge 0 = .ok (.iload_n 1, 1) := by decide +kernel
theorem eX8_isEdge_1 : decode cX8_isEdge 1 = .ok (.ifCond .lt 18, 3) := by decide +kernel
theorem eX8_isEdge_4 : decode cX8_isEdge 4 = .ok (.iload_n 1, 1) := by decide +kernel
theorem eX8_isEdge_5 : decode cX8_isEdge 5 = .ok (.aload_n 0, 1) := by decide +kernel
theorem eX8_isEdge_6 : decode cX8_isEdge 6 = .ok (.getfield 23, 3) := by decide +kernel
theorem eX8_isEdge_9 : decode cX8_isEdge 9 = .ok (.getfield 119, 3) := by decide +kernel
theorem eX8_isEdge_12 : decode cX8_isEdge 12 = .ok (.if_icmp .ge 7, 3) := by decide +kernel
theorem eX8_isEdge_15 : decode cX8_isEdge 15 = .ok (.iconst 1, 1) := by decide +kernel
theorem eX8_isEdge_16 : decode cX8_isEdge 16 = .ok (.goto 4, 3) := by decide +kernel
theorem eX8_isEdge_19 : decode cX8_isEdge 19 = .ok (.iconst 0, 1) := by decide +kernel
theorem eX8_isEdge_20 : decode cX8_isEdge 20 = .ok (.ireturn, 1) := by decide +kernel
abbrev vs_E_8_isEdge : List Cond := .code yX8_isEdge cX8_isEdge 2 (some .boolean) :: CM
noncomputable def sp_E_8_isEdge (ne : Nat) (p0 : Int32) : Unit := (if (p0 : Int32) < 0 then () else (if ((nI ne) : Int32) ≤ p0 then () else (slet ((p0 : Int32).toNatClampNeg) (fun n_3 => ()))))
set_option maxHeartbeats 4000000 in
set_option maxRecDepth 100000 in
theorem c_E_8_isEdge (l : Launch) (dC : Nat → ClassId) (dI : Nat → Nat → Nat) (sz : Nat) (xa : Nat) (xtape : Nat) (tp : Nat) (rd : Nat) (au : Nat) (xdr : Nat) (hy : Nat) (g : Nat) (hs : Nat) (tg : Nat) (sg : Nat) (ss : Nat) (rm : Nat) (ti : Nat) (py : Nat) (bu : Nat) (sm : Nat) (nc : Nat) (np : Nat) (ne : Nat) (st0 : Int32) (q4 : Nat) (q5 : Nat) (q6 : Nat) (q7 : Nat) (q8 : Nat) (q9 : Nat) (q10 : Nat) (q11 : Nat) (q12 : Nat) (q13 : Nat) (q14 : Nat) (q15 : Nat) (q16 : Nat) (p0 : Int32) (htp : tp ≤ 900) (hhs : hs ≤ 1) (hss : ss ≤ 1) (hnc : nc ≤ 3) (hnp : np ≤ 8) (hne : ne ≤ 14) (hst0 : pm1 7 st0) : Met l yX8_isEdge vs_E_8_isEdge ({ frames := 0, cells := 0, slots := 0, locals := 0 }) (va_Pc [.ref xa, .int p0] (pu_B (dC, dI) (xo__w xa xtape (nI tp) rd au xdr hy g (nI hs) tg sg (nI ss) rm ti py bu sm (nI nc) (nI np) (nI ne) st0 q4 q5 q6 q7 q8 q9 q10 q11 q12 q13 q14 q15 q16) (xo__t ) sz)) (va_Qi (fun (r : Int32) (_ : Unit) => (r = 1 ∧ ∃ q : Nat, q < ne ∧ p0 = nI q) ∨ (r = 0 ∧ ¬ ((0 : Int32) ≤ p0 ∧ p0 < nI ne))) (fun _ _ => True) (va_A [] sz)) 0 0 (va_A [] sz) := by
  refine Met.ofW (cc := cX8_isEdge) (maxL := 2) (ret := (some .boolean)) (by decide) rfl ?_
  intro p e s m args below meth c s₁ B hml hv
  obtain ⟨rfl, rfl, hP, hK, hD0⟩ := hv
  have hx := B.exec
  have hb := B.bytes
  have hr := B.returns
  have hts := atoms_spec (ws := vs_E_8_isEdge) B.pre
  have v_1 := hts (.fieldLink RX8 23 "ClockReach" "model" "LClockReach$Automaton;") (List.mem_cons_of_mem _ cm_434)
  have v_2 := hts (.fieldLink RX8 119 "ClockReach$Automaton" "edges" "I") (List.mem_cons_of_mem _ cm_454)
  have hown : s.vm.findClass RX8 = some m.cls := findClass_of_methodNamed B.named
  have hlocks := B.notSynchronized
  have hiX0 : ∀ w ∈ wsX00, w ∈ vs_E_8_isEdge := fun _ h => List.mem_cons_of_mem _ (cm_X0 h)
  have hiX8 : ∀ w ∈ wsX80, w ∈ vs_E_8_isEdge := fun _ h => List.mem_cons_of_mem _ (cm_X8 h)
  have hD := hD0
  have hA : ∀ q : Nat, s.heap.size ≤ q → va_A [] s.heap.size q := fun _ h => Or.inr h
  have hS : va_S (va_A [] s.heap.size) s.heap s.heap [] := va_S.rf
  have hl := lv_entry ([.ref xa, .int p0]) (n := 2) (Nat.le_of_ble_eq_true rfl)
  rw [lg_entry_eq]
  generalize (lg_sl ([.ref xa, .int p0]) ++ List.replicate (2 - (lg_sl ([.ref xa, .int p0])).length) Slot.unset).toArray = ls at hl ⊢
  have hl : lv_has ls 2 [(0, .ref xa), (1, .int p0)] := hl
  obtain ⟨RR, hRR⟩ : ∃ x, x = (sp_E_8_isEdge ne p0) := ⟨_, rfl⟩
  have hsp := hRR
  refine lv_iload_n hx hb eX8_isEdge_0 rfl (lv_at hl 1 rfl) ?_
  refine lv_if_lt (tgt := 19) hx hb eX8_isEdge_1 (by decide) (fun c_1 => ?_) (fun c_1 => ?_)
  · have hcc_1 := c_1
    have hsp := hsp.trans (if_pos c_1)
    refine lv_iconst (v := 0) hx hb eX8_isEdge_19 (by decide) ?_
    exact W.zret (v := 0) (ty := .boolean) hx hb hr (rfl) (fun t ht hW => ⟨⟨0, (), rfl, Or.inr ⟨rfl, by first | exact fun z => absurd z.1 (Int32.not_le.mpr (by assumption)) | exact fun z => absurd z.2 (Int32.not_lt.mpr (by assumption))⟩, trivial⟩, hS.F ht⟩) hS.2.2 eX8_isEdge_20
  · have hcc_1 := c_1
    have hsp := hsp.trans (if_neg c_1)
    have lp0 : ¬ p0 < 0 := c_1
    refine lv_iload_n hx hb eX8_isEdge_4 rfl (lv_at hl 1 rfl) ?_
    refine lv_aload_n hx hb eX8_isEdge_5 rfl (lv_at hl 0 rfl) ?_
    refine va_get (D := (dC, dI)) (ci := 8) (v := .ref au) (C := RX8) (T := TX8) (N := 16) hx hb hts hiX8 hown hK hP 0 rfl rfl 3 (by decide) v_1 (fun _ h9 => h9) rfl eX8_isEdge_6 ?_
    refine va_get (D := (dC, dI)) (ci := 0) (v := .int (nI ne)) (C := RX0) (T := TX0) (N := 17) hx hb hts hiX0 hown hK hP 1 rfl rfl 2 (by decide) v_2 (fun _ h9 => h9) rfl eX8_isEdge_9 ?_
    refine lv_icmp_ge (tgt := 19) hx hb eX8_isEdge_12 (by decide) (fun c_2 => ?_) (fun c_2 => ?_)
    · have hcc_2 := c_2
      have hsp := hsp.trans (if_pos c_2)
      refine lv_iconst (v := 0) hx hb eX8_isEdge_19 (by decide) ?_
      exact W.zret (v := 0) (ty := .boolean) hx hb hr (rfl) (fun t ht hW => ⟨⟨0, (), rfl, Or.inr ⟨rfl, by first | exact fun z => absurd z.1 (Int32.not_le.mpr (by assumption)) | exact fun z => absurd z.2 (Int32.not_lt.mpr (by assumption))⟩, trivial⟩, hS.F ht⟩) hS.2.2 eX8_isEdge_20
    · have hcc_2 := c_2
      have hsp := hsp.trans (if_neg c_2)
      obtain ⟨n_3, hn_3, rfl⟩ := pu_ult (b := ne) (by omega) lp0 (Int32.not_le.mp c_2)
      have hsp := hsp.trans (slet_eq (nI_cl (n := n_3) (by omega)))
      refine lv_iconst (v := 1) hx hb eX8_isEdge_15 (by decide) ?_
      refine lv_goto (tgt := 20) hx hb eX8_isEdge_16 (by decide) ?_
      exact W.zret (v := 1) (ty := .boolean) hx hb hr (rfl) (fun t ht hW => ⟨⟨1, (), rfl, Or.inl ⟨rfl, n_3, hn_3, rfl⟩, trivial⟩, hS.F ht⟩) hS.2.2 eX8_isEdge_20
theorem eX8_isClock_0 : decode cX8_isClock 0 = .ok (.iload_n 1, 1) := by decide +kernel
theorem eX8_isClock_1 : decode cX8_isClock 1 = .ok (.ifCond .lt 18, 3) := by decide +kernel
theorem eX8_isClock_4 : decode cX8_isClock 4 = .ok (.iload_n 1, 1) := by decide +kernel
theorem eX8_isClock_5 : decode cX8_isClock 5 = .ok (.aload_n 0, 1) := by decide +kernel
theorem eX8_isClock_6 : decode cX8_isClock 6 = .ok (.getfield 23, 3) := by decide +kernel
theorem eX8_isClock_9 : decode cX8_isClock 9 = .ok (.getfield 116, 3) := by decide +kernel
theorem eX8_isClock_12 : decode cX8_isClock 12 = .ok (.if_icmp .ge 7, 3) := by decide +kernel
theorem eX8_isClock_15 : decode cX8_isClock 15 = .ok (.iconst 1, 1) := by decide +kernel
theorem eX8_isClock_16 : decode cX8_isClock 16 = .ok (.goto 4, 3) := by decide +kernel
theorem eX8_isClock_19 : decode cX8_isClock 19 = .ok (.iconst 0, 1) := by decide +kernel
theorem eX8_isClock_20 : decode cX8_isClock 20 = .ok (.ireturn, 1) := by decide +kernel
abbrev vs_E_8_isClock : List Cond := .code yX8_isClock cX8_isClock 2 (some .boolean) :: CM
noncomputable def sp_E_8_isClock (nc : Nat) (p0 : Int32) : Unit := (if (p0 : Int32) < 0 then () else (if ((nI nc) : Int32) ≤ p0 then () else (slet ((p0 : Int32).toNatClampNeg) (fun n_3 => ()))))
set_option maxHeartbeats 4000000 in
set_option maxRecDepth 100000 in
theorem c_E_8_isClock (l : Launch) (dC : Nat → ClassId) (dI : Nat → Nat → Nat) (sz : Nat) (xa : Nat) (xtape : Nat) (tp : Nat) (rd : Nat) (au : Nat) (xdr : Nat) (hy : Nat) (g : Nat) (hs : Nat) (tg : Nat) (sg : Nat) (ss : Nat) (rm : Nat) (ti : Nat) (py : Nat) (bu : Nat) (sm : Nat) (nc : Nat) (np : Nat) (ne : Nat) (st0 : Int32) (q4 : Nat) (q5 : Nat) (q6 : Nat) (q7 : Nat) (q8 : Nat) (q9 : Nat) (q10 : Nat) (q11 : Nat) (q12 : Nat) (q13 : Nat) (q14 : Nat) (q15 : Nat) (q16 : Nat) (p0 : Int32) (htp : tp ≤ 900) (hhs : hs ≤ 1) (hss : ss ≤ 1) (hnc : nc ≤ 3) (hnp : np ≤ 8) (hne : ne ≤ 14) (hst0 : pm1 7 st0) : Met l yX8_isClock vs_E_8_isClock ({ frames := 0, cells := 0, slots := 0, locals := 0 }) (va_Pc [.ref xa, .int p0] (pu_B (dC, dI) (xo__w xa xtape (nI tp) rd au xdr hy g (nI hs) tg sg (nI ss) rm ti py bu sm (nI nc) (nI np) (nI ne) st0 q4 q5 q6 q7 q8 q9 q10 q11 q12 q13 q14 q15 q16) (xo__t ) sz)) (va_Qi (fun (r : Int32) (_ : Unit) => (r = 1 ∧ ∃ q : Nat, q < nc ∧ p0 = nI q) ∨ (r = 0 ∧ ¬ ((0 : Int32) ≤ p0 ∧ p0 < nI nc))) (fun _ _ => True) (va_A [] sz)) 0 0 (va_A [] sz) := by
  refine Met.ofW (cc := cX8_isClock) (maxL := 2) (ret := (some .boolean)) (by decide) rfl ?_
  intro p e s m args below meth c s₁ B hml hv
  obtain ⟨rfl, rfl, hP, hK, hD0⟩ := hv
  have hx := B.exec
  have hb := B.bytes
  have hr := B.returns
  have hts := atoms_spec (ws := vs_E_8_isClock) B.pre
  have v_1 := hts (.fieldLink RX8 23 "ClockReach" "model" "LClockReach$Automaton;") (List.mem_cons_of_mem _ cm_434)
  have v_2 := hts (.fieldLink RX8 116 "ClockReach$Automaton" "clocks" "I") (List.mem_cons_of_mem _ cm_453)
  have hown : s.vm.findClass RX8 = some m.cls := findClass_of_methodNamed B.named
  have hlocks := B.notSynchronized
  have hiX0 : ∀ w ∈ wsX00, w ∈ vs_E_8_isClock := fun _ h => List.mem_cons_of_mem _ (cm_X0 h)
  have hiX8 : ∀ w ∈ wsX80, w ∈ vs_E_8_isClock := fun _ h => List.mem_cons_of_mem _ (cm_X8 h)
  have hD := hD0
  have hA : ∀ q : Nat, s.heap.size ≤ q → va_A [] s.heap.size q := fun _ h => Or.inr h
  have hS : va_S (va_A [] s.heap.size) s.heap s.heap [] := va_S.rf
  have hl := lv_entry ([.ref xa, .int p0]) (n := 2) (Nat.le_of_ble_eq_true rfl)
  rw [lg_entry_eq]
  generalize (lg_sl ([.ref xa, .int p0]) ++ List.replicate (2 - (lg_sl ([.ref xa, .int p0])).length) Slot.unset).toArray = ls at hl ⊢
  have hl : lv_has ls 2 [(0, .ref xa), (1, .int p0)] := hl
  obtain ⟨RR, hRR⟩ : ∃ x, x = (sp_E_8_isClock nc p0) := ⟨_, rfl⟩
  have hsp := hRR
  refine lv_iload_n hx hb eX8_isClock_0 rfl (lv_at hl 1 rfl) ?_
  refine lv_if_lt (tgt := 19) hx hb eX8_isClock_1 (by decide) (fun c_1 => ?_) (fun c_1 => ?_)
  · have hcc_1 := c_1
    have hsp := hsp.trans (if_pos c_1)
    refine lv_iconst (v := 0) hx hb eX8_isClock_19 (by decide) ?_
    exact W.zret (v := 0) (ty := .boolean) hx hb hr (rfl) (fun t ht hW => ⟨⟨0, (), rfl, Or.inr ⟨rfl, by first | exact fun z => absurd z.1 (Int32.not_le.mpr (by assumption)) | exact fun z => absurd z.2 (Int32.not_lt.mpr (by assumption))⟩, trivial⟩, hS.F ht⟩) hS.2.2 eX8_isClock_20
  · have hcc_1 := c_1
    have hsp := hsp.trans (if_neg c_1)
    have lp0 : ¬ p0 < 0 := c_1
    refine lv_iload_n hx hb eX8_isClock_4 rfl (lv_at hl 1 rfl) ?_
    refine lv_aload_n hx hb eX8_isClock_5 rfl (lv_at hl 0 rfl) ?_
    refine va_get (D := (dC, dI)) (ci := 8) (v := .ref au) (C := RX8) (T := TX8) (N := 16) hx hb hts hiX8 hown hK hP 0 rfl rfl 3 (by decide) v_1 (fun _ h9 => h9) rfl eX8_isClock_6 ?_
    refine va_get (D := (dC, dI)) (ci := 0) (v := .int (nI nc)) (C := RX0) (T := TX0) (N := 17) hx hb hts hiX0 hown hK hP 1 rfl rfl 0 (by decide) v_2 (fun _ h9 => h9) rfl eX8_isClock_9 ?_
    refine lv_icmp_ge (tgt := 19) hx hb eX8_isClock_12 (by decide) (fun c_2 => ?_) (fun c_2 => ?_)
    · have hcc_2 := c_2
      have hsp := hsp.trans (if_pos c_2)
      refine lv_iconst (v := 0) hx hb eX8_isClock_19 (by decide) ?_
      exact W.zret (v := 0) (ty := .boolean) hx hb hr (rfl) (fun t ht hW => ⟨⟨0, (), rfl, Or.inr ⟨rfl, by first | exact fun z => absurd z.1 (Int32.not_le.mpr (by assumption)) | exact fun z => absurd z.2 (Int32.not_lt.mpr (by assumption))⟩, trivial⟩, hS.F ht⟩) hS.2.2 eX8_isClock_20
    · have hcc_2 := c_2
      have hsp := hsp.trans (if_neg c_2)
      obtain ⟨n_3, hn_3, rfl⟩ := pu_ult (b := nc) (by omega) lp0 (Int32.not_le.mp c_2)
      have hsp := hsp.trans (slet_eq (nI_cl (n := n_3) (by omega)))
      refine lv_iconst (v := 1) hx hb eX8_isClock_15 (by decide) ?_
      refine lv_goto (tgt := 20) hx hb eX8_isClock_16 (by decide) ?_
      exact W.zret (v := 1) (ty := .boolean) hx hb hr (rfl) (fun t ht hW => ⟨⟨1, (), rfl, Or.inl ⟨rfl, n_3, hn_3, rfl⟩, trivial⟩, hS.F ht⟩) hS.2.2 eX8_isClock_20
theorem eX8_dropViews_0 : decode cX8_dropViews 0 = .ok (.aload_n 0, 1) := by decide +kernel
theorem eX8_dropViews_1 : decode cX8_dropViews 1 = .ok (.iconst 0, 1) := by decide +kernel
theorem eX8_dropViews_2 : decode cX8_dropViews 2 = .ok (.putfield 100, 3) := by decide +kernel
theorem eX8_dropViews_5 : decode cX8_dropViews 5 = .ok (.aload_n 0, 1) := by decide +kernel
theorem eX8_dropViews_6 : decode cX8_dropViews 6 = .ok (.iconst 0, 1) := by decide +kernel
theorem eX8_dropViews_7 : decode cX8_dropViews 7 = .ok (.putfield 104, 3) := by decide +kernel
theorem eX8_dropViews_10 : decode cX8_dropViews 10 = .ok (.aload_n 0, 1) := by decide +kernel
theorem eX8_dropViews_11 : decode cX8_dropViews 11 = .ok (.getfield 69, 3) := by decide +kernel
theorem eX8_dropViews_14 : decode cX8_dropViews 14 = .ok (.iconst 0, 1) := by decide +kernel
theorem eX8_dropViews_15 : decode cX8_dropViews 15 = .ok (.putfield 107, 3) := by decide +kernel
theorem eX8_dropViews_18 : decode cX8_dropViews 18 = .ok (.return_, 1) := by decide +kernel
abbrev vs_E_8_dropViews : List Cond := .code yX8_dropViews cX8_dropViews 1 none :: CM
noncomputable def sp_E_8_dropViews : Unit := ()
set_option maxHeartbeats 4000000 in
set_option maxRecDepth 100000 in
theorem c_E_8_dropViews (l : Launch) (dC : Nat → ClassId) (dI : Nat → Nat → Nat) (sz : Nat) (xa : Nat) (xtape : Nat) (tp : Nat) (rd : Nat) (au : Nat) (xdr : Nat) (hy : Nat) (g : Nat) (hs : Nat) (tg : Nat) (sg : Nat) (ss : Nat) (rm : Nat) (ti : Nat) (py : Nat) (bu : Nat) (sm : Nat) (on : Nat) (si : Nat) (ti0 : Int32) (tm : Nat) (bh : Nat) (htp : tp ≤ 900) (hhs : hs ≤ 1) (hss : ss ≤ 1) (hon : on ≤ 1) (hsi : si ≤ 7) : Met l yX8_dropViews vs_E_8_dropViews ({ frames := 0, cells := 0, slots := 0, locals := 0 }) (va_Pc [.ref xa] (pu_B (dC, dI) (xp__w xa xtape (nI tp) rd au xdr hy g (nI hs) tg sg (nI ss) rm ti py bu sm (nI on) (nI si) ti0 tm bh) (xp__t ) sz)) (va_Qv (fun (_ : Unit) => True) (fun _ t => pu_E (dC, dI) (xp__w xa xtape (nI tp) rd au xdr hy g 0 tg sg 0 rm ti py bu sm 0 (nI si) ti0 tm bh) (xp__t ) (va_A ((xp__w xa xtape (nI tp) rd au xdr hy g (nI hs) tg sg (nI ss) rm ti py bu sm (nI on) (nI si) ti0 tm bh)) sz) t) (va_A ((xp__w xa xtape (nI tp) rd au xdr hy g (nI hs) tg sg (nI ss) rm ti py bu sm (nI on) (nI si) ti0 tm bh)) sz)) 0 0 (va_A ((xp__w xa xtape (nI tp) rd au xdr hy g (nI hs) tg sg (nI ss) rm ti py bu sm (nI on) (nI si) ti0 tm bh)) sz) := by
  refine Met.ofW (cc := cX8_dropViews) (maxL := 1) (ret := none) (by decide) rfl ?_
  intro p e s m args below meth c s₁ B hml hv
  obtain ⟨rfl, rfl, hP, hK, hD0⟩ := hv
  have hx := B.exec
  have hb := B.bytes
  have hr := B.returns
  have hts := atoms_spec (ws := vs_E_8_dropViews) B.pre
  have v_1 := hts (.fieldLink RX8 100 "ClockReach" "hasShown" "Z") (List.mem_cons_of_mem _ cm_445)
  have v_2 := hts (.fieldLink RX8 104 "ClockReach" "soonStands" "Z") (List.mem_cons_of_mem _ cm_446)
  have v_3 := hts (.fieldLink RX8 69 "ClockReach" "play" "LClockReach$Play;") (List.mem_cons_of_mem _ cm_447)
  have v_4 := hts (.fieldLink RX8 107 "ClockReach$Play" "on" "Z") (List.mem_cons_of_mem _ cm_448)
  have hown : s.vm.findClass RX8 = some m.cls := findClass_of_methodNamed B.named
  have hlocks := B.notSynchronized
  have hiX3 : ∀ w ∈ wsX30, w ∈ vs_E_8_dropViews := fun _ h => List.mem_cons_of_mem _ (cm_X3 h)
  have hiX8 : ∀ w ∈ wsX80, w ∈ vs_E_8_dropViews := fun _ h => List.mem_cons_of_mem _ (cm_X8 h)
  have hD := hD0.self (sz := s.heap.size)
  generalize hAe : va_A ((xp__w xa xtape (nI tp) rd au xdr hy g (nI hs) tg sg (nI ss) rm ti py bu sm (nI on) (nI si) ti0 tm bh)) s.heap.size = A at hD ⊢
  have hA : ∀ q : Nat, s.heap.size ≤ q → A q := fun q h => by rw [← hAe]; exact Or.inr h
  have hS : va_S A s.heap s.heap [] := va_S.rf
  have hl := lv_entry ([.ref xa]) (n := 1) (Nat.le_of_ble_eq_true rfl)
  rw [lg_entry_eq]
  generalize (lg_sl ([.ref xa]) ++ List.replicate (1 - (lg_sl ([.ref xa])).length) Slot.unset).toArray = ls at hl ⊢
  have hl : lv_has ls 1 [(0, .ref xa)] := hl
  obtain ⟨RR, hRR⟩ : ∃ x, x = sp_E_8_dropViews := ⟨_, rfl⟩
  have hsp := hRR
  refine lv_aload_n hx hb eX8_dropViews_0 rfl (lv_at hl 0 rfl) ?_
  refine lv_iconst (v := 0) hx hb eX8_dropViews_1 (by decide) ?_
  refine va_put (D := (dC, dI)) (ci := 8) (v := .int 0) (ty := .boolean) (C := RX8) (T := TX8) (N := 16) hx hb hts hiX8 tyX8 tyX8_ok nmX8 hown hK hP hD hS 0 rfl rfl 7 (by decide) v_1 (fun _ h9 => h9) rfl (by decide +kernel) rfl rfl (Nat.le_of_ble_eq_true rfl) eX8_dropViews_2 (fun H locs hP hD hS => ?_)
  have hP : va_P (dC, dI) vwCl (xp__w xa xtape (nI tp) rd au xdr hy g 0 tg sg (nI ss) rm ti py bu sm (nI on) (nI si) ti0 tm bh) H := hP
  have hD : va_D A (xp__w xa xtape (nI tp) rd au xdr hy g 0 tg sg (nI ss) rm ti py bu sm (nI on) (nI si) ti0 tm bh) := hD
  refine lv_aload_n hx hb eX8_dropViews_5 rfl (lv_at hl 0 rfl) ?_
  refine lv_iconst (v := 0) hx hb eX8_dropViews_6 (by decide) ?_
  refine va_put (D := (dC, dI)) (ci := 8) (v := .int 0) (ty := .boolean) (C := RX8) (T := TX8) (N := 16) hx hb hts hiX8 tyX8 tyX8_ok nmX8 hown hK hP hD hS 0 rfl rfl 10 (by decide) v_2 (fun _ h9 => h9) rfl (by decide +kernel) rfl rfl (Nat.le_of_ble_eq_true rfl) eX8_dropViews_7 (fun H locs hP hD hS => ?_)
  have hP : va_P (dC, dI) vwCl (xp__w xa xtape (nI tp) rd au xdr hy g 0 tg sg 0 rm ti py bu sm (nI on) (nI si) ti0 tm bh) H := hP
  have hD : va_D A (xp__w xa xtape (nI tp) rd au xdr hy g 0 tg sg 0 rm ti py bu sm (nI on) (nI si) ti0 tm bh) := hD
  refine lv_aload_n hx hb eX8_dropViews_10 rfl (lv_at hl 0 rfl) ?_
  refine va_get (D := (dC, dI)) (ci := 8) (v := .ref py) (C := RX8) (T := TX8) (N := 16) hx hb hts hiX8 hown hK hP 0 rfl rfl 13 (by decide) v_3 (fun _ h9 => h9) rfl eX8_dropViews_11 ?_
  refine lv_iconst (v := 0) hx hb eX8_dropViews_14 (by decide) ?_
  refine va_put (D := (dC, dI)) (ci := 3) (v := .int 0) (ty := .boolean) (C := RX3) (T := TX3) (N := 5) hx hb hts hiX3 tyX3 tyX3_ok nmX3 hown hK hP hD hS 1 rfl rfl 0 (by decide) v_4 (fun _ h9 => h9) rfl (by decide +kernel) rfl rfl (Nat.le_of_ble_eq_true rfl) eX8_dropViews_15 (fun H locs hP hD hS => ?_)
  have hP : va_P (dC, dI) vwCl (xp__w xa xtape (nI tp) rd au xdr hy g 0 tg sg 0 rm ti py bu sm 0 (nI si) ti0 tm bh) H := hP
  have hD : va_D A (xp__w xa xtape (nI tp) rd au xdr hy g 0 tg sg 0 rm ti py bu sm 0 (nI si) ti0 tm bh) := hD
  exact W.vret hx hb hr (fun t ht hW => ⟨⟨(), rfl, trivial, ⟨by rw [ht]; exact hP, va_K.moved hW.alike hK, hD⟩⟩, hS.F ht⟩) hS.2.2 eX8_dropViews_18
theorem eX8_fault_0 : decode cX8_fault 0 = .ok (.iload_n 1, 1) := by decide +kernel
theorem eX8_fault_1 : decode cX8_fault 1 = .ok (.lookupswitch 43 #[(0, 27), (1, 35)], 27) := by decide +kernel
theorem eX8_fault_28 : decode cX8_fault 28 = .ok (.aload_n 0, 1) := by decide +kernel
theorem eX8_fault_29 : decode cX8_fault 29 = .ok (.getfield 16, 3) := by decide +kernel
theorem eX8_fault_32 : decode cX8_fault 32 = .ok (.getfield 110, 3) := by decide +kernel
theorem eX8_fault_35 : decode cX8_fault 35 = .ok (.ireturn, 1) := by decide +kernel
theorem eX8_fault_36 : decode cX8_fault 36 = .ok (.aload_n 0, 1) := by decide +kernel
theorem eX8_fault_37 : decode cX8_fault 37 = .ok (.getfield 16, 3) := by decide +kernel
theorem eX8_fault_40 : decode cX8_fault 40 = .ok (.getfield 113, 3) := by decide +kernel
theorem eX8_fault_43 : decode cX8_fault 43 = .ok (.ireturn, 1) := by decide +kernel
theorem eX8_fault_44 : decode cX8_fault 44 = .ok (.iconst (-1), 1) := by decide +kernel
theorem eX8_fault_45 : decode cX8_fault 45 = .ok (.ireturn, 1) := by decide +kernel
abbrev vs_E_8_fault : List Cond := .code yX8_fault cX8_fault 2 (some .int) :: CM
noncomputable def sp_E_8_fault (fa : Int32) (fat : Int32) (p0 : Int32) : Int32 := (if (p0 : Int32) = 0 then fa else (if (p0 : Int32) = 1 then fat else (-1)))
set_option maxHeartbeats 4000000 in
set_option maxRecDepth 100000 in
theorem c_E_8_fault (l : Launch) (dC : Nat → ClassId) (dI : Nat → Nat → Nat) (sz : Nat) (xa : Nat) (xtape : Nat) (tp : Nat) (rd : Nat) (au : Nat) (xdr : Nat) (hy : Nat) (g : Nat) (hs : Nat) (tg : Nat) (sg : Nat) (ss : Nat) (rm : Nat) (ti : Nat) (py : Nat) (bu : Nat) (sm : Nat) (fa : Int32) (fat : Int32) (tx0 : Value) (len : Nat) (pos : Nat) (kd : Nat) (vl : Int32) (tka : Int32) (in0 : Value) (rw : Nat) (rc : Nat) (rp : Nat) (p0 : Int32) (htp : tp ≤ 900) (hhs : hs ≤ 1) (hss : ss ≤ 1) (hlen : len ≤ 900) (hpos : pos ≤ 900) (hkd : kd ≤ 15) : Met l yX8_fault vs_E_8_fault ({ frames := 0, cells := 0, slots := 0, locals := 0 }) (va_Pc [.ref xa, .int p0] (pu_B (dC, dI) (xr__w xa xtape (nI tp) rd au xdr hy g (nI hs) tg sg (nI ss) rm ti py bu sm fa fat (tx0) (nI len) (nI pos) (nI kd) vl tka (in0) rw rc rp) (xr__t ) sz)) (va_Qi (fun (r : Int32) (_ : Unit) => r = (sp_E_8_fault fa fat p0)) (fun _ _ => True) (va_A [] sz)) 0 0 (va_A [] sz) := by
  refine Met.ofW (cc := cX8_fault) (maxL := 2) (ret := (some .int)) (by decide) rfl ?_
  intro p e s m args below meth c s₁ B hml hv
  obtain ⟨rfl, rfl, hP, hK, hD0⟩ := hv
  have hx := B.exec
  have hb := B.bytes
  have hr := B.returns
  have hts := atoms_spec (ws := vs_E_8_fault) B.pre
  have v_1 := hts (.fieldLink RX8 16 "ClockReach" "reader" "LClockReach$Reader;") (List.mem_cons_of_mem _ cm_432)
  have v_2 := hts (.fieldLink RX8 110 "ClockReach$Reader" "fault" "I") (List.mem_cons_of_mem _ cm_450)
  have v_3 := hts (.fieldLink RX8 113 "ClockReach$Reader" "faultAt" "I") (List.mem_cons_of_mem _ cm_451)
  have hown : s.vm.findClass RX8 = some m.cls := findClass_of_methodNamed B.named
  have hlocks := B.notSynchronized
  have hiX4 : ∀ w ∈ wsX40, w ∈ vs_E_8_fault := fun _ h => List.mem_cons_of_mem _ (cm_X4 h)
  have hiX8 : ∀ w ∈ wsX80, w ∈ vs_E_8_fault := fun _ h => List.mem_cons_of_mem _ (cm_X8 h)
  have hD := hD0
  have hA : ∀ q : Nat, s.heap.size ≤ q → va_A [] s.heap.size q := fun _ h => Or.inr h
  have hS : va_S (va_A [] s.heap.size) s.heap s.heap [] := va_S.rf
  have hl := lv_entry ([.ref xa, .int p0]) (n := 2) (Nat.le_of_ble_eq_true rfl)
  rw [lg_entry_eq]
  generalize (lg_sl ([.ref xa, .int p0]) ++ List.replicate (2 - (lg_sl ([.ref xa, .int p0])).length) Slot.unset).toArray = ls at hl ⊢
  have hl : lv_has ls 2 [(0, .ref xa), (1, .int p0)] := hl
  obtain ⟨RR, hRR⟩ : ∃ x, x = (sp_E_8_fault fa fat p0) := ⟨_, rfl⟩
  have hsp := hRR
  refine lv_iload_n hx hb eX8_fault_0 rfl (lv_at hl 1 rfl) ?_
  by_cases w_1 : p0 = 0
  · subst w_1
    have hsp := hsp.trans (if_pos rfl)
    refine lv_lookup (tgt := 28) (off := 27) hx hb eX8_fault_1 (by decide) (by decide) (by decide) ?_
    refine lv_aload_n hx hb eX8_fault_28 rfl (lv_at hl 0 rfl) ?_
    refine va_get (D := (dC, dI)) (ci := 8) (v := .ref rd) (C := RX8) (T := TX8) (N := 16) hx hb hts hiX8 hown hK hP 0 rfl rfl 2 (by decide) v_1 (fun _ h9 => h9) rfl eX8_fault_29 ?_
    refine va_get (D := (dC, dI)) (ci := 4) (v := .int fa) (C := RX4) (T := TX4) (N := 12) hx hb hts hiX4 hown hK hP 1 rfl rfl 0 (by decide) v_2 (fun _ h9 => h9) rfl eX8_fault_32 ?_
    exact W.iret (v := fa) hx hb hr (fun t ht hW => ⟨⟨fa, (), rfl, (hsp.symm.trans hRR), trivial⟩, hS.F ht⟩) hS.2.2 eX8_fault_35
  have hsp := hsp.trans (if_neg w_1)
  by_cases w_2 : p0 = 1
  · subst w_2
    have hsp := hsp.trans (if_pos rfl)
    refine lv_lookup (tgt := 36) (off := 35) hx hb eX8_fault_1 (by decide) (by decide) (by decide) ?_
    refine lv_aload_n hx hb eX8_fault_36 rfl (lv_at hl 0 rfl) ?_
    refine va_get (D := (dC, dI)) (ci := 8) (v := .ref rd) (C := RX8) (T := TX8) (N := 16) hx hb hts hiX8 hown hK hP 0 rfl rfl 2 (by decide) v_1 (fun _ h9 => h9) rfl eX8_fault_37 ?_
    refine va_get (D := (dC, dI)) (ci := 4) (v := .int fat) (C := RX4) (T := TX4) (N := 12) hx hb hts hiX4 hown hK hP 1 rfl rfl 1 (by decide) v_3 (fun _ h9 => h9) rfl eX8_fault_40 ?_
    exact W.iret (v := fat) hx hb hr (fun t ht hW => ⟨⟨fat, (), rfl, (hsp.symm.trans hRR), trivial⟩, hS.F ht⟩) hS.2.2 eX8_fault_43
  have hsp := hsp.trans (if_neg w_2)
  refine lv_lookup (tgt := 44) (off := 43) hx hb eX8_fault_1 (by decide) ((lv_osw w_1 (by decide)).trans ((lv_osw w_2 (by decide)).trans (rfl))) (by decide) ?_
  refine lv_iconst (v := (-1)) hx hb eX8_fault_44 (by decide) ?_
  exact W.iret (v := (-1)) hx hb hr (fun t ht hW => ⟨⟨(-1), (), rfl, (hsp.symm.trans hRR), trivial⟩, hS.F ht⟩) hS.2.2 eX8_fault_45
theorem eX8_place_0 : decode cX8_place 0 = .ok (.aload_n 0, 1) := by decide +kernel
theorem eX8_place_1 : decode cX8_place 1 = .ok (.iload_n 1, 1) := by decide +kernel
theorem eX8_place_2 : decode cX8_place 2 = .ok (.invokevirtual 140, 3) := by decide +kernel
theorem eX8_place_5 : decode cX8_place 5 = .ok (.ifCond .ne 5, 3) := by decide +kernel
theorem eX8_place_8 : decode cX8_place 8 = .ok (.iconst (-1), 1) := by decide +kernel
theorem eX8_place_9 : decode cX8_place 9 = .ok (.ireturn, 1) := by decide +kernel
theorem eX8_place_10 : decode cX8_place 10 = .ok (.iload_n 2, 1) := by decide +kernel
theorem eX8_place_11 : decode cX8_place 11 = .ok (.tableswitch 87 0 3 #[29, 42, 55, 71], 29) := by decide +kernel
theorem eX8_place_40 : decode cX8_place 40 = .ok (.aload_n 0, 1) := by decide +kernel
theorem eX8_place_41 : decode cX8_place 41 = .ok (.getfield 23, 3) := by decide +kernel
theorem eX8_place_44 : decode cX8_place 44 = .ok (.getfield 144, 3) := by decide +kernel
theorem eX8_place_47 : decode cX8_place 47 = .ok (.iload_n 1, 1) := by decide +kernel
theorem eX8_place_48 : decode cX8_place 48 = .ok (.baload, 1) := by decide +kernel
theorem eX8_place_49 : decode cX8_place 49 = .ok (.invokestatic 133, 3) := by decide +kernel
theorem eX8_place_52 : decode cX8_place 52 = .ok (.ireturn, 1) := by decide +kernel
theorem eX8_place_53 : decode cX8_place 53 = .ok (.aload_n 0, 1) := by decide +kernel
theorem eX8_place_54 : decode cX8_place 54 = .ok (.getfield 23, 3) := by decide +kernel
theorem eX8_place_57 : decode cX8_place 57 = .ok (.getfield 148, 3) := by decide +kernel
theorem eX8_place_60 : decode cX8_place 60 = .ok (.iload_n 1, 1) := by decide +kernel
theorem eX8_place_61 : decode cX8_place 61 = .ok (.invokestatic 151, 3) := by decide +kernel
theorem eX8_place_64 : decode cX8_place 64 = .ok (.iaload, 1) := by decide +kernel
theorem eX8_place_65 : decode cX8_place 65 = .ok (.ireturn, 1) := by decide +kernel
theorem eX8_place_66 : decode cX8_place 66 = .ok (.aload_n 0, 1) := by decide +kernel
theorem eX8_place_67 : decode cX8_place 67 = .ok (.getfield 23, 3) := by decide +kernel
theorem eX8_place_70 : decode cX8_place 70 = .ok (.aload_n 0, 1) := by decide +kernel
theorem eX8_place_71 : decode cX8_place 71 = .ok (.getfield 23, 3) := by decide +kernel
theorem eX8_place_74 : decode cX8_place 74 = .ok (.getfield 155, 3) := by decide +kernel
theorem eX8_place_77 : decode cX8_place 77 = .ok (.iload_n 1, 1) := by decide +kernel
theorem eX8_place_78 : decode cX8_place 78 = .ok (.invokevirtual 158, 3) := by decide +kernel
theorem eX8_place_81 : decode cX8_place 81 = .ok (.ireturn, 1) := by decide +kernel
theorem eX8_place_82 : decode cX8_place 82 = .ok (.aload_n 0, 1) := by decide +kernel
theorem eX8_place_83 : decode cX8_place 83 = .ok (.getfield 23, 3) := by decide +kernel
theorem eX8_place_86 : decode cX8_place 86 = .ok (.aload_n 0, 1) := by decide +kernel
theorem eX8_place_87 : decode cX8_place 87 = .ok (.getfield 23, 3) := by decide +kernel
theorem eX8_place_90 : decode cX8_place 90 = .ok (.getfield 162, 3) := by decide +kernel
theorem eX8_place_93 : decode cX8_place 93 = .ok (.iload_n 1, 1) := by decide +kernel
theorem eX8_place_94 : decode cX8_place 94 = .ok (.invokevirtual 158, 3) := by decide +kernel
theorem eX8_place_97 : decode cX8_place 97 = .ok (.ireturn, 1) := by decide +kernel
theorem eX8_place_98 : decode cX8_place 98 = .ok (.iconst (-1), 1) := by decide +kernel
theorem eX8_place_99 : decode cX8_place 99 = .ok (.ireturn, 1) := by decide +kernel
abbrev vs_E_8_place : List Cond := .code yX8_place cX8_place 3 (some .int) :: CM
theorem g_E_8_place_E_8_isPlace : GoodIn vs_E_8_place (wsV RX8 140 RX8 yX8_isPlace vs_E_8_isPlace) := cm_gV cm_471 cm_472 cm_473 cm_427 cm_474
theorem g_E_8_place_E_8_bit : GoodIn vs_E_8_place (va_wsS RX8 133 yX8_bit vs_E_8_bit) := cm_gS cm_463 cm_464 cm_427 cm_465
theorem g_E_8_place_E_0_hostOfPlace : GoodIn vs_E_8_place (va_wsS RX8 151 yX0_hostOfPlace vs_E_0_hostOfPlace) := cm_gS cm_475 cm_55 cm_19 cm_0
theorem g_E_8_place_E_0_edgesWith_5 : GoodIn vs_E_8_place (wsV RX8 158 RX0 yX0_edgesWith vs_E_0_edgesWith_5) := cm_gV cm_476 cm_477 cm_478 cm_19 cm_40
theorem g_E_8_place_E_0_edgesWith_6 : GoodIn vs_E_8_place (wsV RX8 158 RX0 yX0_edgesWith vs_E_0_edgesWith_6) := cm_gV cm_476 cm_477 cm_478 cm_19 cm_40
noncomputable def sp_E_8_place (np : Nat) (ne : Nat) (f4 : Nat → Int32) (q_f5 : Nat → Nat) (q_f6 : Nat → Nat) (q_f8 : Nat → Nat) (p0 : Int32) (p1 : Int32) : Int32 := (if (0 : Int32) ≤ p0 ∧ p0 < nI np then (slet ((p0 : Int32).toNatClampNeg) (fun n_2 => (if (p1 : Int32) = 0 then (slet (f4 n_2) (fun y_4 => (slet (sp_E_8_bit y_4) (fun u_6 => (nI u_6))))) else (if (p1 : Int32) = 1 then (slet (min (q_f8 (14 + n_2)) 4) (fun u_10 => (nI u_10))) else (if (p1 : Int32) = 2 then (slet (sp_E_0_edgesWith_5 ne q_f5 (nI n_2)) (fun r_12 => r_12)) else (if (p1 : Int32) = 3 then (slet (sp_E_0_edgesWith_6 ne q_f6 (nI n_2)) (fun r_14 => r_14)) else (-1))))))) else (-1))
set_option maxHeartbeats 4000000 in
set_option maxRecDepth 100000 in
theorem c_E_8_place (l : Launch) (dC : Nat → ClassId) (dI : Nat → Nat → Nat) (sz : Nat) (xa : Nat) (xtape : Nat) (tp : Nat) (rd : Nat) (au : Nat) (xdr : Nat) (hy : Nat) (g : Nat) (hs : Nat) (tg : Nat) (sg : Nat) (ss : Nat) (rm : Nat) (ti : Nat) (py : Nat) (bu : Nat) (sm : Nat) (nc : Nat) (np : Nat) (ne : Nat) (st0 : Int32) (q4 : Nat) (q5 : Nat) (q6 : Nat) (q7 : Nat) (q8 : Nat) (q9 : Nat) (q10 : Nat) (q11 : Nat) (q12 : Nat) (q13 : Nat) (q14 : Nat) (q15 : Nat) (q16 : Nat) (k_f4 : ClassId) (f4 : Nat → Int32) (k_f5 : ClassId) (q_f5 : Nat → Nat) (k_f6 : ClassId) (q_f6 : Nat → Nat) (k_f7 : ClassId) (f7 : Nat → Int32) (k_f8 : ClassId) (q_f8 : Nat → Nat) (k_f9 : ClassId) (q_f9 : Nat → Nat) (k_f10 : ClassId) (f10 : Nat → Int32) (k_f11 : ClassId) (f11 : Nat → Int32) (k_f12 : ClassId) (f12 : Nat → Int32) (k_f13 : ClassId) (f13 : Nat → Int32) (k_f14 : ClassId) (f14 : Nat → Int32) (k_f15 : ClassId) (f15 : Nat → Int32) (k_f16 : ClassId) (f16 : Nat → Int32) (p0 : Int32) (p1 : Int32) (htp : tp ≤ 900) (hhs : hs ≤ 1) (hss : ss ≤ 1) (hnc : nc ≤ 3) (hnp : np ≤ 8) (hne : ne ≤ 14) (hst0 : pm1 7 st0) : Met l yX8_place vs_E_8_place ({ frames := 1, cells := 0, slots := 0, locals := 24 }) (va_Pc [.ref xa, .int p0, .int p1] (pu_B (dC, dI) (xa__w xa xtape (nI tp) rd au xdr hy g (nI hs) tg sg (nI ss) rm ti py bu sm (nI nc) (nI np) (nI ne) st0 q4 q5 q6 q7 q8 q9 q10 q11 q12 q13 q14 q15 q16 k_f4 f4 k_f5 (bN 7 q_f5) k_f6 (bN 7 q_f6) k_f7 f7 k_f8 (bN 4 q_f8) k_f9 (bN 2 q_f9) k_f10 f10 k_f11 f11 k_f12 f12 k_f13 f13 k_f14 f14 k_f15 f15 k_f16 f16) (xa__t k_f4 k_f5 k_f6 k_f7 k_f8 k_f9 k_f10 k_f11 k_f12 k_f13 k_f14 k_f15 k_f16) sz)) (va_Qi (fun (r : Int32) (_ : Unit) => r = (sp_E_8_place np ne f4 q_f5 q_f6 q_f8 p0 p1)) (fun _ _ => True) (va_A [] sz)) 0 0 (va_A [] sz) := by
  refine Met.ofW (cc := cX8_place) (maxL := 3) (ret := (some .int)) (by decide) rfl ?_
  intro p e s m args below meth c s₁ B hml hv
  obtain ⟨rfl, rfl, hP, hK, hD0⟩ := hv
  have hx := B.exec
  have hb := B.bytes
  have hr := B.returns
  have hts := atoms_spec (ws := vs_E_8_place) B.pre
  have v_6 := hts (.fieldLink RX8 23 "ClockReach" "model" "LClockReach$Automaton;") (List.mem_cons_of_mem _ cm_434)
  have v_7 := hts (.fieldLink RX8 144 "ClockReach$Automaton" "hurried" "[Z") (List.mem_cons_of_mem _ cm_467)
  have v_11 := hts (.fieldLink RX8 148 "ClockReach$Automaton" "counts" "[I") (List.mem_cons_of_mem _ cm_468)
  have v_16 := hts (.fieldLink RX8 155 "ClockReach$Automaton" "sources" "[I") (List.mem_cons_of_mem _ cm_469)
  have v_21 := hts (.fieldLink RX8 162 "ClockReach$Automaton" "targets" "[I") (List.mem_cons_of_mem _ cm_470)
  have hown : s.vm.findClass RX8 = some m.cls := findClass_of_methodNamed B.named
  have hlocks := B.notSynchronized
  have hiX0 : ∀ w ∈ wsX00, w ∈ vs_E_8_place := fun _ h => List.mem_cons_of_mem _ (cm_X0 h)
  have hiX8 : ∀ w ∈ wsX80, w ∈ vs_E_8_place := fun _ h => List.mem_cons_of_mem _ (cm_X8 h)
  have hD := hD0
  have hA : ∀ q : Nat, s.heap.size ≤ q → va_A [] s.heap.size q := fun _ h => Or.inr h
  have hS : va_S (va_A [] s.heap.size) s.heap s.heap [] := va_S.rf
  have hl := lv_entry ([.ref xa, .int p0, .int p1]) (n := 3) (Nat.le_of_ble_eq_true rfl)
  rw [lg_entry_eq]
  generalize (lg_sl ([.ref xa, .int p0, .int p1]) ++ List.replicate (3 - (lg_sl ([.ref xa, .int p0, .int p1])).length) Slot.unset).toArray = ls at hl ⊢
  have hl : lv_has ls 3 [(0, .ref xa), (1, .int p0), (2, .int p1)] := hl
  obtain ⟨RR, hRR⟩ : ∃ x, x = (sp_E_8_place np ne f4 q_f5 q_f6 q_f8 p0 p1) := ⟨_, rfl⟩
  have hsp := hRR
  refine lv_aload_n hx hb eX8_place_0 rfl (lv_at hl 0 rfl) ?_
  refine lv_iload_n hx hb eX8_place_1 rfl (lv_at hl 1 rfl) ?_
  have hPc : va_P (dC, dI) vwCl (xo__w xa xtape (nI tp) rd au xdr hy g (nI hs) tg sg (nI ss) rm ti py bu sm (nI nc) (nI np) (nI ne) st0 q4 q5 q6 q7 q8 q9 q10 q11 q12 q13 q14 q15 q16) _ := hP.sub [0, 1] rfl
  have hDc := hD.sub (ws' := (xo__w xa xtape (nI tp) rd au xdr hy g (nI hs) tg sg (nI ss) rm ti py bu sm (nI nc) (nI np) (nI ne) st0 q4 q5 q6 q7 q8 q9 q10 q11 q12 q13 q14 q15 q16)) [0, 1] (by decide) rfl
  have hKc : va_K (dC, dI) vwCl (xo__t ) s := hK.sub [] rfl
  refine va_calli (va_runV (As := [.int p0]) (rest := []) ⟨hx, hb, hml, hown, hts⟩ (c_E_8_isPlace l dC dI _ xa xtape tp rd au xdr hy g hs tg sg ss rm ti py bu sm nc np ne st0 q4 q5 q6 q7 q8 q9 q10 q11 q12 q13 q14 q15 q16 p0 htp hhs hss hnc hnp hne (hst0)) (cwV 1 hts g_E_8_place_E_8_isPlace rfl rfl rfl (by decide +kernel) ⟨Nat.le_of_ble_eq_true rfl, Nat.le_of_ble_eq_true rfl⟩) ⟨pu_bl, va_recv hK hP (ci := 8) (q0 := 0) rfl rfl, pu_in hPc hKc hDc⟩ rfl rfl hl.1 rfl (lv_room (Nat.le_of_ble_eq_true rfl)) eX8_place_2 ⟨Nat.le_of_ble_eq_true rfl, Nat.le_of_ble_eq_true rfl⟩) hS (fun q _ h => pu_fr hS hA q h) (pu_fr hS hA) (fun r_1 u t H1 locs ht hvm hw hB hz1 hk1 hS => ?_)
  have hP := pu_keep hP hk1
  clear hk1 hz1 ht hvm
  generalize H1 = H at hP hS ⊢
  rcases hw with ⟨rfl, hw⟩ | ⟨rfl, hn⟩
  · obtain ⟨n_2, hn_2, rfl⟩ := hw
    have hsp := hsp.trans (if_pos (in_q hn_2 (by omega)))
    have hsp := hsp.trans (slet_eq (nI_cl (n := n_2) (by omega)))
    refine lv_if_ne (tgt := 10) hx hb eX8_place_5 (by decide) (fun _ => ?_) (fun z => absurd z (by decide))
    refine lv_iload_n hx hb eX8_place_10 rfl (lv_at hl 2 rfl) ?_
    by_cases w_3 : p1 = 0
    · subst w_3
      have hsp := hsp.trans (if_pos rfl)
      refine lv_tableIn (tgt := 40) (off := 29) hx hb eX8_place_11 (by decide) (by decide) rfl (by decide) ?_
      refine lv_aload_n hx hb eX8_place_40 rfl (lv_at hl 0 rfl) ?_
      refine va_get (D := (dC, dI)) (ci := 8) (v := .ref au) (C := RX8) (T := TX8) (N := 16) hx hb hts hiX8 hown hK hP 0 rfl rfl 3 (by decide) v_6 (fun _ h9 => h9) rfl eX8_place_41 ?_
      refine va_get (D := (dC, dI)) (ci := 0) (v := .ref q4) (C := RX0) (T := TX0) (N := 17) hx hb hts hiX0 hown hK hP 1 rfl rfl 4 (by decide) v_7 (fun _ h9 => h9) rfl eX8_place_44 ?_
      refine lv_iload_n hx hb eX8_place_47 rfl (lv_at hl 1 rfl) ?_
      refine va_zald hx hb hK hP 2 0 rfl rfl (vp_in_nI (n := n_2) (by omega) (Nat.le_of_ble_eq_true rfl)) eX8_place_48 ?_
      refine lv_topi (fun y_4 ey_4 => ?_)
      have ey_4 : y_4 = f4 n_2 := ey_4.trans (congrArg f4 (nI_clamp (n := n_2) (by omega)))
      have hsp := hsp.trans (slet_eq ey_4)
      refine va_calli (va_runS (As := [.int y_4]) (rest := []) ⟨hx, hb, hml, hown, hts⟩ (c_E_8_bit l dC dI _ y_4) (va_cwS 1 hts g_E_8_place_E_8_bit rfl rfl rfl (by decide +kernel) ⟨Nat.le_of_ble_eq_true rfl, Nat.le_of_ble_eq_true rfl⟩) ⟨pu_bl, pu_in (hP.sub [] rfl) (hK.sub [] rfl) (hD.sub [] (by decide) rfl)⟩ rfl rfl hl.1 rfl (lv_room (Nat.le_of_ble_eq_true rfl)) eX8_place_49 ⟨Nat.le_of_ble_eq_true rfl, Nat.le_of_ble_eq_true rfl⟩) hS (fun q _ h => pu_fr hS hA q h) (pu_fr hS hA) (fun r_5 u t H1 locs ht hvm hw hB hz1 hk1 hS => ?_)
      have hP := pu_keep hP hk1
      clear hk1 hz1 ht hvm
      generalize H1 = H at hP hS ⊢
      obtain ⟨u_6, hu_6, rfl, iu_6⟩ := hw
      have hsp := hsp.trans (slet_eq iu_6)
      exact W.iret (v := (nI u_6)) hx hb hr (fun t ht hW => ⟨⟨(nI u_6), (), rfl, (hsp.symm.trans hRR), trivial⟩, hS.F ht⟩) hS.2.2 eX8_place_52
    have hsp := hsp.trans (if_neg w_3)
    by_cases w_7 : p1 = 1
    · subst w_7
      have hsp := hsp.trans (if_pos rfl)
      refine lv_tableIn (tgt := 53) (off := 42) hx hb eX8_place_11 (by decide) (by decide) rfl (by decide) ?_
      refine lv_aload_n hx hb eX8_place_53 rfl (lv_at hl 0 rfl) ?_
      refine va_get (D := (dC, dI)) (ci := 8) (v := .ref au) (C := RX8) (T := TX8) (N := 16) hx hb hts hiX8 hown hK hP 0 rfl rfl 3 (by decide) v_6 (fun _ h9 => h9) rfl eX8_place_54 ?_
      refine va_get (D := (dC, dI)) (ci := 0) (v := .ref q8) (C := RX0) (T := TX0) (N := 17) hx hb hts hiX0 hown hK hP 1 rfl rfl 8 (by decide) v_11 (fun _ h9 => h9) rfl eX8_place_57 ?_
      refine lv_iload_n hx hb eX8_place_60 rfl (lv_at hl 1 rfl) ?_
      refine va_calli (va_runS (As := [.int (nI n_2)]) (rest := [.ref q8]) ⟨hx, hb, hml, hown, hts⟩ (c_E_0_hostOfPlace l dC dI _ n_2 (by omega)) (va_cwS 1 hts g_E_8_place_E_0_hostOfPlace rfl rfl rfl (by decide +kernel) ⟨Nat.le_of_ble_eq_true rfl, Nat.le_of_ble_eq_true rfl⟩) ⟨pu_bl, pu_in (hP.sub [] rfl) (hK.sub [] rfl) (hD.sub [] (by decide) rfl)⟩ rfl rfl hl.1 rfl (lv_room (Nat.le_of_ble_eq_true rfl)) eX8_place_61 ⟨Nat.le_of_ble_eq_true rfl, Nat.le_of_ble_eq_true rfl⟩) hS (fun q _ h => pu_fr hS hA q h) (pu_fr hS hA) (fun r_8 u t H1 locs ht hvm hw hB hz1 hk1 hS => ?_)
      have hP := pu_keep hP hk1
      clear hk1 hz1 ht hvm
      generalize H1 = H at hP hS ⊢
      obtain rfl : r_8 = nI (14 + n_2) := hw
      refine va_iald hx hb hK hP 6 4 rfl rfl (vp_in_nI (n := (14 + n_2)) (by omega) (Nat.le_of_ble_eq_true rfl)) eX8_place_64 ?_
      refine lv_topi (fun y_9 ey_9 => ?_)
      obtain ⟨u_10, hu_10, qu_10, xu_10⟩ := bN_getx 4 q_f8 (n := (14 + n_2)) (by omega)
      obtain rfl : y_9 = nI u_10 := ey_9.trans qu_10
      have hsp := hsp.trans (slet_eq xu_10)
      exact W.iret (v := (nI u_10)) hx hb hr (fun t ht hW => ⟨⟨(nI u_10), (), rfl, (hsp.symm.trans hRR), trivial⟩, hS.F ht⟩) hS.2.2 eX8_place_65
    have hsp := hsp.trans (if_neg w_7)
    by_cases w_11 : p1 = 2
    · subst w_11
      have hsp := hsp.trans (if_pos rfl)
      refine lv_tableIn (tgt := 66) (off := 55) hx hb eX8_place_11 (by decide) (by decide) rfl (by decide) ?_
      refine lv_aload_n hx hb eX8_place_66 rfl (lv_at hl 0 rfl) ?_
      refine va_get (D := (dC, dI)) (ci := 8) (v := .ref au) (C := RX8) (T := TX8) (N := 16) hx hb hts hiX8 hown hK hP 0 rfl rfl 3 (by decide) v_6 (fun _ h9 => h9) rfl eX8_place_67 ?_
      refine lv_aload_n hx hb eX8_place_70 rfl (lv_at hl 0 rfl) ?_
      refine va_get (D := (dC, dI)) (ci := 8) (v := .ref au) (C := RX8) (T := TX8) (N := 16) hx hb hts hiX8 hown hK hP 0 rfl rfl 3 (by decide) v_6 (fun _ h9 => h9) rfl eX8_place_71 ?_
      refine va_get (D := (dC, dI)) (ci := 0) (v := .ref q5) (C := RX0) (T := TX0) (N := 17) hx hb hts hiX0 hown hK hP 1 rfl rfl 5 (by decide) v_16 (fun _ h9 => h9) rfl eX8_place_74 ?_
      refine lv_iload_n hx hb eX8_place_77 rfl (lv_at hl 1 rfl) ?_
      have hPc : va_P (dC, dI) vwCl (au__w au (nI nc) (nI np) (nI ne) st0 q4 q5 q6 q7 q8 q9 q10 q11 q12 q13 q14 q15 q16 k_f4 f4 k_f5 (bN 7 q_f5) k_f6 (bN 7 q_f6) k_f7 f7 k_f8 (bN 4 q_f8) k_f9 (bN 2 q_f9) k_f10 f10 k_f11 f11 k_f12 f12 k_f13 f13 k_f14 f14 k_f15 f15 k_f16 f16) _ := hP.sub [1, 2, 3, 4, 5, 6, 7, 8, 9, 10, 11, 12, 13, 14] rfl
      have hDc := hD.sub (ws' := (au__w au (nI nc) (nI np) (nI ne) st0 q4 q5 q6 q7 q8 q9 q10 q11 q12 q13 q14 q15 q16 k_f4 f4 k_f5 (bN 7 q_f5) k_f6 (bN 7 q_f6) k_f7 f7 k_f8 (bN 4 q_f8) k_f9 (bN 2 q_f9) k_f10 f10 k_f11 f11 k_f12 f12 k_f13 f13 k_f14 f14 k_f15 f15 k_f16 f16)) [1, 2, 3, 4, 5, 6, 7, 8, 9, 10, 11, 12, 13, 14] (by decide) rfl
      have hKc : va_K (dC, dI) vwCl (au__t k_f4 k_f5 k_f6 k_f7 k_f8 k_f9 k_f10 k_f11 k_f12 k_f13 k_f14 k_f15 k_f16) s := hK.sub [0, 1, 2, 3, 4, 5, 6, 7, 8, 9, 10, 11, 12] rfl
      refine va_calli (va_runV (As := [.ref q5, .int (nI n_2)]) (rest := []) ⟨hx, hb, hml, hown, hts⟩ (c_E_0_edgesWith_5 l dC dI _ au nc np ne st0 q4 q5 q6 q7 q8 q9 q10 q11 q12 q13 q14 q15 q16 k_f4 f4 k_f5 q_f5 k_f6 q_f6 k_f7 f7 k_f8 q_f8 k_f9 q_f9 k_f10 f10 k_f11 f11 k_f12 f12 k_f13 f13 k_f14 f14 k_f15 f15 k_f16 f16 (nI n_2) hnc hnp hne (hst0)) (cwV 2 hts g_E_8_place_E_0_edgesWith_5 rfl rfl rfl (by decide +kernel) ⟨Nat.le_of_ble_eq_true rfl, Nat.le_of_ble_eq_true rfl⟩) ⟨pu_bl, va_recv hK hP (ci := 0) (q0 := 1) rfl rfl, pu_in hPc hKc hDc⟩ rfl rfl hl.1 rfl (lv_room (Nat.le_of_ble_eq_true rfl)) eX8_place_78 ⟨Nat.le_of_ble_eq_true rfl, Nat.le_of_ble_eq_true rfl⟩) hS (fun q _ h => pu_fr hS hA q h) (pu_fr hS hA) (fun r_12 u t H1 locs ht hvm hw hB hz1 hk1 hS => ?_)
      have hP := pu_keep hP hk1
      clear hk1 hz1 ht hvm
      generalize H1 = H at hP hS ⊢
      have ir_12 := hw
      have hsp := hsp.trans (slet_eq ir_12)
      exact W.iret (v := r_12) hx hb hr (fun t ht hW => ⟨⟨r_12, (), rfl, (hsp.symm.trans hRR), trivial⟩, hS.F ht⟩) hS.2.2 eX8_place_81
    have hsp := hsp.trans (if_neg w_11)
    by_cases w_13 : p1 = 3
    · subst w_13
      have hsp := hsp.trans (if_pos rfl)
      refine lv_tableIn (tgt := 82) (off := 71) hx hb eX8_place_11 (by decide) (by decide) rfl (by decide) ?_
      refine lv_aload_n hx hb eX8_place_82 rfl (lv_at hl 0 rfl) ?_
      refine va_get (D := (dC, dI)) (ci := 8) (v := .ref au) (C := RX8) (T := TX8) (N := 16) hx hb hts hiX8 hown hK hP 0 rfl rfl 3 (by decide) v_6 (fun _ h9 => h9) rfl eX8_place_83 ?_
      refine lv_aload_n hx hb eX8_place_86 rfl (lv_at hl 0 rfl) ?_
      refine va_get (D := (dC, dI)) (ci := 8) (v := .ref au) (C := RX8) (T := TX8) (N := 16) hx hb hts hiX8 hown hK hP 0 rfl rfl 3 (by decide) v_6 (fun _ h9 => h9) rfl eX8_place_87 ?_
      refine va_get (D := (dC, dI)) (ci := 0) (v := .ref q6) (C := RX0) (T := TX0) (N := 17) hx hb hts hiX0 hown hK hP 1 rfl rfl 6 (by decide) v_21 (fun _ h9 => h9) rfl eX8_place_90 ?_
      refine lv_iload_n hx hb eX8_place_93 rfl (lv_at hl 1 rfl) ?_
      have hPc : va_P (dC, dI) vwCl (au__w au (nI nc) (nI np) (nI ne) st0 q4 q5 q6 q7 q8 q9 q10 q11 q12 q13 q14 q15 q16 k_f4 f4 k_f5 (bN 7 q_f5) k_f6 (bN 7 q_f6) k_f7 f7 k_f8 (bN 4 q_f8) k_f9 (bN 2 q_f9) k_f10 f10 k_f11 f11 k_f12 f12 k_f13 f13 k_f14 f14 k_f15 f15 k_f16 f16) _ := hP.sub [1, 2, 3, 4, 5, 6, 7, 8, 9, 10, 11, 12, 13, 14] rfl
      have hDc := hD.sub (ws' := (au__w au (nI nc) (nI np) (nI ne) st0 q4 q5 q6 q7 q8 q9 q10 q11 q12 q13 q14 q15 q16 k_f4 f4 k_f5 (bN 7 q_f5) k_f6 (bN 7 q_f6) k_f7 f7 k_f8 (bN 4 q_f8) k_f9 (bN 2 q_f9) k_f10 f10 k_f11 f11 k_f12 f12 k_f13 f13 k_f14 f14 k_f15 f15 k_f16 f16)) [1, 2, 3, 4, 5, 6, 7, 8, 9, 10, 11, 12, 13, 14] (by decide) rfl
      have hKc : va_K (dC, dI) vwCl (au__t k_f4 k_f5 k_f6 k_f7 k_f8 k_f9 k_f10 k_f11 k_f12 k_f13 k_f14 k_f15 k_f16) s := hK.sub [0, 1, 2, 3, 4, 5, 6, 7, 8, 9, 10, 11, 12] rfl
      refine va_calli (va_runV (As := [.ref q6, .int (nI n_2)]) (rest := []) ⟨hx, hb, hml, hown, hts⟩ (c_E_0_edgesWith_6 l dC dI _ au nc np ne st0 q4 q5 q6 q7 q8 q9 q10 q11 q12 q13 q14 q15 q16 k_f4 f4 k_f5 q_f5 k_f6 q_f6 k_f7 f7 k_f8 q_f8 k_f9 q_f9 k_f10 f10 k_f11 f11 k_f12 f12 k_f13 f13 k_f14 f14 k_f15 f15 k_f16 f16 (nI n_2) hnc hnp hne (hst0)) (cwV 2 hts g_E_8_place_E_0_edgesWith_6 rfl rfl rfl (by decide +kernel) ⟨Nat.le_of_ble_eq_true rfl, Nat.le_of_ble_eq_true rfl⟩) ⟨pu_bl, va_recv hK hP (ci := 0) (q0 := 1) rfl rfl, pu_in hPc hKc hDc⟩ rfl rfl hl.1 rfl (lv_room (Nat.le_of_ble_eq_true rfl)) eX8_place_94 ⟨Nat.le_of_ble_eq_true rfl, Nat.le_of_ble_eq_true rfl⟩) hS (fun q _ h => pu_fr hS hA q h) (pu_fr hS hA) (fun r_14 u t H1 locs ht hvm hw hB hz1 hk1 hS => ?_)
      have hP := pu_keep hP hk1
      clear hk1 hz1 ht hvm
      generalize H1 = H at hP hS ⊢
      have ir_14 := hw
      have hsp := hsp.trans (slet_eq ir_14)
      exact W.iret (v := r_14) hx hb hr (fun t ht hW => ⟨⟨r_14, (), rfl, (hsp.symm.trans hRR), trivial⟩, hS.F ht⟩) hS.2.2 eX8_place_97
    have hsp := hsp.trans (if_neg w_13)
    refine lv_tableOut (tgt := 98) hx hb eX8_place_11 (by
        have zw_3 : Int32.toInt p1 ≠ 0 := fun g => w_3 ((fa_eq _ _).mpr g)
        have zw_7 : Int32.toInt p1 ≠ 1 := fun g => w_7 ((fa_eq _ _).mpr g)
        have zw_11 : Int32.toInt p1 ≠ 2 := fun g => w_11 ((fa_eq _ _).mpr g)
        have zw_13 : Int32.toInt p1 ≠ 3 := fun g => w_13 ((fa_eq _ _).mpr g)
        omega) (by decide) ?_
    refine lv_iconst (v := (-1)) hx hb eX8_place_98 (by decide) ?_
    exact W.iret (v := (-1)) hx hb hr (fun t ht hW => ⟨⟨(-1), (), rfl, (hsp.symm.trans hRR), trivial⟩, hS.F ht⟩) hS.2.2 eX8_place_99
  · have hsp := hsp.trans (if_neg hn)
    refine lv_if_ne (tgt := 10) hx hb eX8_place_5 (by decide) (fun z => absurd z (by decide)) (fun _ => ?_)
    refine lv_iconst (v := (-1)) hx hb eX8_place_8 (by decide) ?_
    exact W.iret (v := (-1)) hx hb hr (fun t ht hW => ⟨⟨(-1), (), rfl, (hsp.symm.trans hRR), trivial⟩, hS.F ht⟩) hS.2.2 eX8_place_9
theorem eX8_edge_0 : decode cX8_edge 0 = .ok (.aload_n 0, 1) := by decide +kernel
theorem eX8_edge_1 : decode cX8_edge 1 = .ok (.iload_n 1, 1) := by decide +kernel
theorem eX8_edge_2 : decode cX8_edge 2 = .ok (.invokevirtual 165, 3) := by decide +kernel
theorem eX8_edge_5 : decode cX8_edge 5 = .ok (.ifCond .ne 5, 3) := by decide +kernel
theorem eX8_edge_8 : decode cX8_edge 8 = .ok (.iconst (-1), 1) := by decide +kernel
theorem eX8_edge_9 : decode cX8_edge 9 = .ok (.ireturn, 1) := by decide +kernel
theorem eX8_edge_10 : decode cX8_edge 10 = .ok (.iload_n 2, 1) := by decide +kernel
theorem eX8_edge_11 : decode cX8_edge 11 = .ok (.tableswitch 69 0 3 #[29, 39, 49, 59], 29) := by decide +kernel
theorem eX8_edge_40 : decode cX8_edge 40 = .ok (.aload_n 0, 1) := by decide +kernel
theorem eX8_edge_41 : decode cX8_edge 41 = .ok (.getfield 23, 3) := by decide +kernel
theorem eX8_edge_44 : decode cX8_edge 44 = .ok (.getfield 155, 3) := by decide +kernel
theorem eX8_edge_47 : decode cX8_edge 47 = .ok (.iload_n 1, 1) := by decide +kernel
theorem eX8_edge_48 : decode cX8_edge 48 = .ok (.iaload, 1) := by decide +kernel
theorem eX8_edge_49 : decode cX8_edge 49 = .ok (.ireturn, 1) := by decide +kernel
theorem eX8_edge_50 : decode cX8_edge 50 = .ok (.aload_n 0, 1) := by decide +kernel
theorem eX8_edge_51 : decode cX8_edge 51 = .ok (.getfield 23, 3) := by decide +kernel
theorem eX8_edge_54 : decode cX8_edge 54 = .ok (.getfield 162, 3) := by decide +kernel
theorem eX8_edge_57 : decode cX8_edge 57 = .ok (.iload_n 1, 1) := by decide +kernel
theorem eX8_edge_58 : decode cX8_edge 58 = .ok (.iaload, 1) := by decide +kernel
theorem eX8_edge_59 : decode cX8_edge 59 = .ok (.ireturn, 1) := by decide +kernel
theorem eX8_edge_60 : decode cX8_edge 60 = .ok (.aload_n 0, 1) := by decide +kernel
theorem eX8_edge_61 : decode cX8_edge 61 = .ok (.getfield 23, 3) := by decide +kernel
theorem eX8_edge_64 : decode cX8_edge 64 = .ok (.getfield 148, 3) := by decide +kernel
theorem eX8_edge_67 : decode cX8_edge 67 = .ok (.iload_n 1, 1) := by decide +kernel
theorem eX8_edge_68 : decode cX8_edge 68 = .ok (.iaload, 1) := by decide +kernel
theorem eX8_edge_69 : decode cX8_edge 69 = .ok (.ireturn, 1) := by decide +kernel
theorem eX8_edge_70 : decode cX8_edge 70 = .ok (.aload_n 0, 1) := by decide +kernel
theorem eX8_edge_71 : decode cX8_edge 71 = .ok (.getfield 23, 3) := by decide +kernel
theorem eX8_edge_74 : decode cX8_edge 74 = .ok (.getfield 168, 3) := by decide +kernel
theorem eX8_edge_77 : decode cX8_edge 77 = .ok (.iload_n 1, 1) := by decide +kernel
theorem eX8_edge_78 : decode cX8_edge 78 = .ok (.iaload, 1) := by decide +kernel
theorem eX8_edge_79 : decode cX8_edge 79 = .ok (.ireturn, 1) := by decide +kernel
theorem eX8_edge_80 : decode cX8_edge 80 = .ok (.iconst (-1), 1) := by decide +kernel
theorem eX8_edge_81 : decode cX8_edge 81 = .ok (.ireturn, 1) := by decide +kernel
abbrev vs_E_8_edge : List Cond := .code yX8_edge cX8_edge 3 (some .int) :: CM
theorem g_E_8_edge_E_8_isEdge : GoodIn vs_E_8_edge (wsV RX8 165 RX8 yX8_isEdge vs_E_8_isEdge) := cm_gV cm_483 cm_484 cm_485 cm_427 cm_479
noncomputable def sp_E_8_edge (ne : Nat) (q_f5 : Nat → Nat) (q_f6 : Nat → Nat) (f7 : Nat → Int32) (q_f8 : Nat → Nat) (p0 : Int32) (p1 : Int32) : Int32 := (if (0 : Int32) ≤ p0 ∧ p0 < nI ne then (slet ((p0 : Int32).toNatClampNeg) (fun n_2 => (if (p1 : Int32) = 0 then (slet (min (q_f5 n_2) 7) (fun u_5 => (nI u_5))) else (if (p1 : Int32) = 1 then (slet (min (q_f6 n_2) 7) (fun u_8 => (nI u_8))) else (if (p1 : Int32) = 2 then (slet (min (q_f8 n_2) 4) (fun u_11 => (nI u_11))) else (if (p1 : Int32) = 3 then (slet (f7 n_2) (fun y_13 => y_13)) else (-1))))))) else (-1))
set_option maxHeartbeats 4000000 in
set_option maxRecDepth 100000 in
theorem c_E_8_edge (l : Launch) (dC : Nat → ClassId) (dI : Nat → Nat → Nat) (sz : Nat) (xa : Nat) (xtape : Nat) (tp : Nat) (rd : Nat) (au : Nat) (xdr : Nat) (hy : Nat) (g : Nat) (hs : Nat) (tg : Nat) (sg : Nat) (ss : Nat) (rm : Nat) (ti : Nat) (py : Nat) (bu : Nat) (sm : Nat) (nc : Nat) (np : Nat) (ne : Nat) (st0 : Int32) (q4 : Nat) (q5 : Nat) (q6 : Nat) (q7 : Nat) (q8 : Nat) (q9 : Nat) (q10 : Nat) (q11 : Nat) (q12 : Nat) (q13 : Nat) (q14 : Nat) (q15 : Nat) (q16 : Nat) (k_f4 : ClassId) (f4 : Nat → Int32) (k_f5 : ClassId) (q_f5 : Nat → Nat) (k_f6 : ClassId) (q_f6 : Nat → Nat) (k_f7 : ClassId) (f7 : Nat → Int32) (k_f8 : ClassId) (q_f8 : Nat → Nat) (k_f9 : ClassId) (q_f9 : Nat → Nat) (k_f10 : ClassId) (f10 : Nat → Int32) (k_f11 : ClassId) (f11 : Nat → Int32) (k_f12 : ClassId) (f12 : Nat → Int32) (k_f13 : ClassId) (f13 : Nat → Int32) (k_f14 : ClassId) (f14 : Nat → Int32) (k_f15 : ClassId) (f15 : Nat → Int32) (k_f16 : ClassId) (f16 : Nat → Int32) (p0 : Int32) (p1 : Int32) (htp : tp ≤ 900) (hhs : hs ≤ 1) (hss : ss ≤ 1) (hnc : nc ≤ 3) (hnp : np ≤ 8) (hne : ne ≤ 14) (hst0 : pm1 7 st0) : Met l yX8_edge vs_E_8_edge ({ frames := 1, cells := 0, slots := 0, locals := 21 }) (va_Pc [.ref xa, .int p0, .int p1] (pu_B (dC, dI) (xa__w xa xtape (nI tp) rd au xdr hy g (nI hs) tg sg (nI ss) rm ti py bu sm (nI nc) (nI np) (nI ne) st0 q4 q5 q6 q7 q8 q9 q10 q11 q12 q13 q14 q15 q16 k_f4 f4 k_f5 (bN 7 q_f5) k_f6 (bN 7 q_f6) k_f7 f7 k_f8 (bN 4 q_f8) k_f9 (bN 2 q_f9) k_f10 f10 k_f11 f11 k_f12 f12 k_f13 f13 k_f14 f14 k_f15 f15 k_f16 f16) (xa__t k_f4 k_f5 k_f6 k_f7 k_f8 k_f9 k_f10 k_f11 k_f12 k_f13 k_f14 k_f15 k_f16) sz)) (va_Qi (fun (r : Int32) (_ : Unit) => r = (sp_E_8_edge ne q_f5 q_f6 f7 q_f8 p0 p1)) (fun _ _ => True) (va_A [] sz)) 0 0 (va_A [] sz) := by
  refine Met.ofW (cc := cX8_edge) (maxL := 3) (ret := (some .int)) (by decide) rfl ?_
  intro p e s m args below meth c s₁ B hml hv
  obtain ⟨rfl, rfl, hP, hK, hD0⟩ := hv
  have hx := B.exec
  have hb := B.bytes
  have hr := B.returns
  have hts := atoms_spec (ws := vs_E_8_edge) B.pre
  have v_6 := hts (.fieldLink RX8 23 "ClockReach" "model" "LClockReach$Automaton;") (List.mem_cons_of_mem _ cm_434)
  have v_7 := hts (.fieldLink RX8 155 "ClockReach$Automaton" "sources" "[I") (List.mem_cons_of_mem _ cm_469)
  have v_8 := hts (.fieldLink RX8 162 "ClockReach$Automaton" "targets" "[I") (List.mem_cons_of_mem _ cm_470)
  have v_9 := hts (.fieldLink RX8 148 "ClockReach$Automaton" "counts" "[I") (List.mem_cons_of_mem _ cm_468)
  have v_10 := hts (.fieldLink RX8 168 "ClockReach$Automaton" "resets" "[I") (List.mem_cons_of_mem _ cm_482)
  have hown : s.vm.findClass RX8 = some m.cls := findClass_of_methodNamed B.named
  have hlocks := B.notSynchronized
  have hiX0 : ∀ w ∈ wsX00, w ∈ vs_E_8_edge := fun _ h => List.mem_cons_of_mem _ (cm_X0 h)
  have hiX8 : ∀ w ∈ wsX80, w ∈ vs_E_8_edge := fun _ h => List.mem_cons_of_mem _ (cm_X8 h)
  have hD := hD0
  have hA : ∀ q : Nat, s.heap.size ≤ q → va_A [] s.heap.size q := fun _ h => Or.inr h
  have hS : va_S (va_A [] s.heap.size) s.heap s.heap [] := va_S.rf
  have hl := lv_entry ([.ref xa, .int p0, .int p1]) (n := 3) (Nat.le_of_ble_eq_true rfl)
  rw [lg_entry_eq]
  generalize (lg_sl ([.ref xa, .int p0, .int p1]) ++ List.replicate (3 - (lg_sl ([.ref xa, .int p0, .int p1])).length) Slot.unset).toArray = ls at hl ⊢
  have hl : lv_has ls 3 [(0, .ref xa), (1, .int p0), (2, .int p1)] := hl
  obtain ⟨RR, hRR⟩ : ∃ x, x = (sp_E_8_edge ne q_f5 q_f6 f7 q_f8 p0 p1) := ⟨_, rfl⟩
  have hsp := hRR
  refine lv_aload_n hx hb eX8_edge_0 rfl (lv_at hl 0 rfl) ?_
  refine lv_iload_n hx hb eX8_edge_1 rfl (lv_at hl 1 rfl) ?_
  have hPc : va_P (dC, dI) vwCl (xo__w xa xtape (nI tp) rd au xdr hy g (nI hs) tg sg (nI ss) rm ti py bu sm (nI nc) (nI np) (nI ne) st0 q4 q5 q6 q7 q8 q9 q10 q11 q12 q13 q14 q15 q16) _ := hP.sub [0, 1] rfl
  have hDc := hD.sub (ws' := (xo__w xa xtape (nI tp) rd au xdr hy g (nI hs) tg sg (nI ss) rm ti py bu sm (nI nc) (nI np) (nI ne) st0 q4 q5 q6 q7 q8 q9 q10 q11 q12 q13 q14 q15 q16)) [0, 1] (by decide) rfl
  have hKc : va_K (dC, dI) vwCl (xo__t ) s := hK.sub [] rfl
  refine va_calli (va_runV (As := [.int p0]) (rest := []) ⟨hx, hb, hml, hown, hts⟩ (c_E_8_isEdge l dC dI _ xa xtape tp rd au xdr hy g hs tg sg ss rm ti py bu sm nc np ne st0 q4 q5 q6 q7 q8 q9 q10 q11 q12 q13 q14 q15 q16 p0 htp hhs hss hnc hnp hne (hst0)) (cwV 1 hts g_E_8_edge_E_8_isEdge rfl rfl rfl (by decide +kernel) ⟨Nat.le_of_ble_eq_true rfl, Nat.le_of_ble_eq_true rfl⟩) ⟨pu_bl, va_recv hK hP (ci := 8) (q0 := 0) rfl rfl, pu_in hPc hKc hDc⟩ rfl rfl hl.1 rfl (lv_room (Nat.le_of_ble_eq_true rfl)) eX8_edge_2 ⟨Nat.le_of_ble_eq_true rfl, Nat.le_of_ble_eq_true rfl⟩) hS (fun q _ h => pu_fr hS hA q h) (pu_fr hS hA) (fun r_1 u t H1 locs ht hvm hw hB hz1 hk1 hS => ?_)
  have hP := pu_keep hP hk1
  clear hk1 hz1 ht hvm
  generalize H1 = H at hP hS ⊢
  rcases hw with ⟨rfl, hw⟩ | ⟨rfl, hn⟩
  · obtain ⟨n_2, hn_2, rfl⟩ := hw
    have hsp := hsp.trans (if_pos (in_q hn_2 (by omega)))
    have hsp := hsp.trans (slet_eq (nI_cl (n := n_2) (by omega)))
    refine lv_if_ne (tgt := 10) hx hb eX8_edge_5 (by decide) (fun _ => ?_) (fun z => absurd z (by decide))
    refine lv_iload_n hx hb eX8_edge_10 rfl (lv_at hl 2 rfl) ?_
    by_cases w_3 : p1 = 0
    · subst w_3
      have hsp := hsp.trans (if_pos rfl)
      refine lv_tableIn (tgt := 40) (off := 29) hx hb eX8_edge_11 (by decide) (by decide) rfl (by decide) ?_
      refine lv_aload_n hx hb eX8_edge_40 rfl (lv_at hl 0 rfl) ?_
      refine va_get (D := (dC, dI)) (ci := 8) (v := .ref au) (C := RX8) (T := TX8) (N := 16) hx hb hts hiX8 hown hK hP 0 rfl rfl 3 (by decide) v_6 (fun _ h9 => h9) rfl eX8_edge_41 ?_
      refine va_get (D := (dC, dI)) (ci := 0) (v := .ref q5) (C := RX0) (T := TX0) (N := 17) hx hb hts hiX0 hown hK hP 1 rfl rfl 5 (by decide) v_7 (fun _ h9 => h9) rfl eX8_edge_44 ?_
      refine lv_iload_n hx hb eX8_edge_47 rfl (lv_at hl 1 rfl) ?_
      refine va_iald hx hb hK hP 3 1 rfl rfl (vp_in_nI (n := n_2) (by omega) (Nat.le_of_ble_eq_true rfl)) eX8_edge_48 ?_
      refine lv_topi (fun y_4 ey_4 => ?_)
      obtain ⟨u_5, hu_5, qu_5, xu_5⟩ := bN_getx 7 q_f5 (n := n_2) (by omega)
      obtain rfl : y_4 = nI u_5 := ey_4.trans qu_5
      have hsp := hsp.trans (slet_eq xu_5)
      exact W.iret (v := (nI u_5)) hx hb hr (fun t ht hW => ⟨⟨(nI u_5), (), rfl, (hsp.symm.trans hRR), trivial⟩, hS.F ht⟩) hS.2.2 eX8_edge_49
    have hsp := hsp.trans (if_neg w_3)
    by_cases w_6 : p1 = 1
    · subst w_6
      have hsp := hsp.trans (if_pos rfl)
      refine lv_tableIn (tgt := 50) (off := 39) hx hb eX8_edge_11 (by decide) (by decide) rfl (by decide) ?_
      refine lv_aload_n hx hb eX8_edge_50 rfl (lv_at hl 0 rfl) ?_
      refine va_get (D := (dC, dI)) (ci := 8) (v := .ref au) (C := RX8) (T := TX8) (N := 16) hx hb hts hiX8 hown hK hP 0 rfl rfl 3 (by decide) v_6 (fun _ h9 => h9) rfl eX8_edge_51 ?_
      refine va_get (D := (dC, dI)) (ci := 0) (v := .ref q6) (C := RX0) (T := TX0) (N := 17) hx hb hts hiX0 hown hK hP 1 rfl rfl 6 (by decide) v_8 (fun _ h9 => h9) rfl eX8_edge_54 ?_
      refine lv_iload_n hx hb eX8_edge_57 rfl (lv_at hl 1 rfl) ?_
      refine va_iald hx hb hK hP 4 2 rfl rfl (vp_in_nI (n := n_2) (by omega) (Nat.le_of_ble_eq_true rfl)) eX8_edge_58 ?_
      refine lv_topi (fun y_7 ey_7 => ?_)
      obtain ⟨u_8, hu_8, qu_8, xu_8⟩ := bN_getx 7 q_f6 (n := n_2) (by omega)
      obtain rfl : y_7 = nI u_8 := ey_7.trans qu_8
      have hsp := hsp.trans (slet_eq xu_8)
      exact W.iret (v := (nI u_8)) hx hb hr (fun t ht hW => ⟨⟨(nI u_8), (), rfl, (hsp.symm.trans hRR), trivial⟩, hS.F ht⟩) hS.2.2 eX8_edge_59
    have hsp := hsp.trans (if_neg w_6)
    by_cases w_9 : p1 = 2
    · subst w_9
      have hsp := hsp.trans (if_pos rfl)
      refine lv_tableIn (tgt := 60) (off := 49) hx hb eX8_edge_11 (by decide) (by decide) rfl (by decide) ?_
      refine lv_aload_n hx hb eX8_edge_60 rfl (lv_at hl 0 rfl) ?_
      refine va_get (D := (dC, dI)) (ci := 8) (v := .ref au) (C := RX8) (T := TX8) (N := 16) hx hb hts hiX8 hown hK hP 0 rfl rfl 3 (by decide) v_6 (fun _ h9 => h9) rfl eX8_edge_61 ?_
      refine va_get (D := (dC, dI)) (ci := 0) (v := .ref q8) (C := RX0) (T := TX0) (N := 17) hx hb hts hiX0 hown hK hP 1 rfl rfl 8 (by decide) v_9 (fun _ h9 => h9) rfl eX8_edge_64 ?_
      refine lv_iload_n hx hb eX8_edge_67 rfl (lv_at hl 1 rfl) ?_
      refine va_iald hx hb hK hP 6 4 rfl rfl (vp_in_nI (n := n_2) (by omega) (Nat.le_of_ble_eq_true rfl)) eX8_edge_68 ?_
      refine lv_topi (fun y_10 ey_10 => ?_)
      obtain ⟨u_11, hu_11, qu_11, xu_11⟩ := bN_getx 4 q_f8 (n := n_2) (by omega)
      obtain rfl : y_10 = nI u_11 := ey_10.trans qu_11
      have hsp := hsp.trans (slet_eq xu_11)
      exact W.iret (v := (nI u_11)) hx hb hr (fun t ht hW => ⟨⟨(nI u_11), (), rfl, (hsp.symm.trans hRR), trivial⟩, hS.F ht⟩) hS.2.2 eX8_edge_69
    have hsp := hsp.trans (if_neg w_9)
    by_cases w_12 : p1 = 3
    · subst w_12
      have hsp := hsp.trans (if_pos rfl)
      refine lv_tableIn (tgt := 70) (off := 59) hx hb eX8_edge_11 (by decide) (by decide) rfl (by decide) ?_
      refine lv_aload_n hx hb eX8_edge_70 rfl (lv_at hl 0 rfl) ?_
      refine va_get (D := (dC, dI)) (ci := 8) (v := .ref au) (C := RX8) (T := TX8) (N := 16) hx hb hts hiX8 hown hK hP 0 rfl rfl 3 (by decide) v_6 (fun _ h9 => h9) rfl eX8_edge_71 ?_
      refine va_get (D := (dC, dI)) (ci := 0) (v := .ref q7) (C := RX0) (T := TX0) (N := 17) hx hb hts hiX0 hown hK hP 1 rfl rfl 7 (by decide) v_10 (fun _ h9 => h9) rfl eX8_edge_74 ?_
      refine lv_iload_n hx hb eX8_edge_77 rfl (lv_at hl 1 rfl) ?_
      refine va_iald hx hb hK hP 5 3 rfl rfl (vp_in_nI (n := n_2) (by omega) (Nat.le_of_ble_eq_true rfl)) eX8_edge_78 ?_
      refine lv_topi (fun y_13 ey_13 => ?_)
      have ey_13 : y_13 = f7 n_2 := ey_13.trans (congrArg f7 (nI_clamp (n := n_2) (by omega)))
      have hsp := hsp.trans (slet_eq ey_13)
      exact W.iret (v := y_13) hx hb hr (fun t ht hW => ⟨⟨y_13, (), rfl, (hsp.symm.trans hRR), trivial⟩, hS.F ht⟩) hS.2.2 eX8_edge_79
    have hsp := hsp.trans (if_neg w_12)
    refine lv_tableOut (tgt := 80) hx hb eX8_edge_11 (by
        have zw_3 : Int32.toInt p1 ≠ 0 := fun g => w_3 ((fa_eq _ _).mpr g)
        have zw_6 : Int32.toInt p1 ≠ 1 := fun g => w_6 ((fa_eq _ _).mpr g)
        have zw_9 : Int32.toInt p1 ≠ 2 := fun g => w_9 ((fa_eq _ _).mpr g)
        have zw_12 : Int32.toInt p1 ≠ 3 := fun g => w_12 ((fa_eq _ _).mpr g)
        omega) (by decide) ?_
    refine lv_iconst (v := (-1)) hx hb eX8_edge_80 (by decide) ?_
    exact W.iret (v := (-1)) hx hb hr (fun t ht hW => ⟨⟨(-1), (), rfl, (hsp.symm.trans hRR), trivial⟩, hS.F ht⟩) hS.2.2 eX8_edge_81
  · have hsp := hsp.trans (if_neg hn)
    refine lv_if_ne (tgt := 10) hx hb eX8_edge_5 (by decide) (fun z => absurd z (by decide)) (fun _ => ?_)
    refine lv_iconst (v := (-1)) hx hb eX8_edge_8 (by decide) ?_
    exact W.iret (v := (-1)) hx hb hr (fun t ht hW => ⟨⟨(-1), (), rfl, (hsp.symm.trans hRR), trivial⟩, hS.F ht⟩) hS.2.2 eX8_edge_9
theorem eX8_limit_0 : decode cX8_limit 0 = .ok (.aload_n 0, 1) := by decide +kernel
theorem eX8_limit_1 : decode cX8_limit 1 = .ok (.iload_n 1, 1) := by decide +kernel
theorem eX8_limit_2 : decode cX8_limit 2 = .ok (.invokevirtual 187, 3) := by decide +kernel
theorem eX8_limit_5 : decode cX8_limit 5 = .ok (.ifCond .ne 5, 3) := by decide +kernel
theorem eX8_limit_8 : decode cX8_limit 8 = .ok (.iconst (-1), 1) := by decide +kernel
theorem eX8_limit_9 : decode cX8_limit 9 = .ok (.ireturn, 1) := by decide +kernel
theorem eX8_limit_10 : decode cX8_limit 10 = .ok (.iload_n 2, 1) := by decide +kernel
theorem eX8_limit_11 : decode cX8_limit 11 = .ok (.tableswitch 61 0 2 #[25, 37, 49], 25) := by decide +kernel
theorem eX8_limit_36 : decode cX8_limit 36 = .ok (.aload_n 0, 1) := by decide +kernel
theorem eX8_limit_37 : decode cX8_limit 37 = .ok (.getfield 23, 3) := by decide +kernel
theorem eX8_limit_40 : decode cX8_limit 40 = .ok (.getfield 190, 3) := by decide +kernel
theorem eX8_limit_43 : decode cX8_limit 43 = .ok (.iload_n 1, 1) := by decide +kernel
theorem eX8_limit_44 : decode cX8_limit 44 = .ok (.iconst 1, 1) := by decide +kernel
theorem eX8_limit_45 : decode cX8_limit 45 = .ok (.iadd, 1) := by decide +kernel
theorem eX8_limit_46 : decode cX8_limit 46 = .ok (.iaload, 1) := by decide +kernel
theorem eX8_limit_47 : decode cX8_limit 47 = .ok (.ireturn, 1) := by decide +kernel
theorem eX8_limit_48 : decode cX8_limit 48 = .ok (.aload_n 0, 1) := by decide +kernel
theorem eX8_limit_49 : decode cX8_limit 49 = .ok (.getfield 23, 3) := by decide +kernel
theorem eX8_limit_52 : decode cX8_limit 52 = .ok (.getfield 193, 3) := by decide +kernel
theorem eX8_limit_55 : decode cX8_limit 55 = .ok (.iload_n 1, 1) := by decide +kernel
theorem eX8_limit_56 : decode cX8_limit 56 = .ok (.iconst 1, 1) := by decide +kernel
theorem eX8_limit_57 : decode cX8_limit 57 = .ok (.iadd, 1) := by decide +kernel
theorem eX8_limit_58 : decode cX8_limit 58 = .ok (.iaload, 1) := by decide +kernel
theorem eX8_limit_59 : decode cX8_limit 59 = .ok (.ireturn, 1) := by decide +kernel
theorem eX8_limit_60 : decode cX8_limit 60 = .ok (.aload_n 0, 1) := by decide +kernel
theorem eX8_limit_61 : decode cX8_limit 61 = .ok (.getfield 23, 3) := by decide +kernel
theorem eX8_limit_64 : decode cX8_limit 64 = .ok (.getfield 196, 3) := by decide +kernel
theorem eX8_limit_67 : decode cX8_limit 67 = .ok (.iload_n 1, 1) := by decide +kernel
theorem eX8_limit_68 : decode cX8_limit 68 = .ok (.iconst 1, 1) := by decide +kernel
theorem eX8_limit_69 : decode cX8_limit 69 = .ok (.iadd, 1) := by decide +kernel
theorem eX8_limit_70 : decode cX8_limit 70 = .ok (.iaload, 1) := by decide +kernel
theorem eX8_limit_71 : decode cX8_limit 71 = .ok (.ireturn, 1) := by decide +kernel
theorem eX8_limit_72 : decode cX8_limit 72 = .ok (.iconst (-1), 1) := by decide +kernel
theorem eX8_limit_73 : decode cX8_limit 73 = .ok (.ireturn, 1) := by decide +kernel
abbrev vs_E_8_limit : List Cond := .code yX8_limit cX8_limit 3 (some .int) :: CM
theorem g_E_8_limit_E_8_isClock : GoodIn vs_E_8_limit (wsV RX8 187 RX8 yX8_isClock vs_E_8_isClock) := cm_gV cm_499 cm_500 cm_501 cm_427 cm_480
noncomputable def sp_E_8_limit (nc : Nat) (f14 : Nat → Int32) (f15 : Nat → Int32) (f16 : Nat → Int32) (p0 : Int32) (p1 : Int32) : Int32 := (if (0 : Int32) ≤ p0 ∧ p0 < nI nc then (slet ((p0 : Int32).toNatClampNeg) (fun n_2 => (if (p1 : Int32) = 0 then (slet (f14 (n_2 + 1)) (fun y_5 => y_5)) else (if (p1 : Int32) = 1 then (slet (f15 (n_2 + 1)) (fun y_8 => y_8)) else (if (p1 : Int32) = 2 then (slet (f16 (n_2 + 1)) (fun y_11 => y_11)) else (-1)))))) else (-1))
set_option maxHeartbeats 4000000 in
set_option maxRecDepth 100000 in
theorem c_E_8_limit (l : Launch) (dC : Nat → ClassId) (dI : Nat → Nat → Nat) (sz : Nat) (xa : Nat) (xtape : Nat) (tp : Nat) (rd : Nat) (au : Nat) (xdr : Nat) (hy : Nat) (g : Nat) (hs : Nat) (tg : Nat) (sg : Nat) (ss : Nat) (rm : Nat) (ti : Nat) (py : Nat) (bu : Nat) (sm : Nat) (nc : Nat) (np : Nat) (ne : Nat) (st0 : Int32) (q4 : Nat) (q5 : Nat) (q6 : Nat) (q7 : Nat) (q8 : Nat) (q9 : Nat) (q10 : Nat) (q11 : Nat) (q12 : Nat) (q13 : Nat) (q14 : Nat) (q15 : Nat) (q16 : Nat) (k_f4 : ClassId) (f4 : Nat → Int32) (k_f5 : ClassId) (q_f5 : Nat → Nat) (k_f6 : ClassId) (q_f6 : Nat → Nat) (k_f7 : ClassId) (f7 : Nat → Int32) (k_f8 : ClassId) (q_f8 : Nat → Nat) (k_f9 : ClassId) (q_f9 : Nat → Nat) (k_f10 : ClassId) (f10 : Nat → Int32) (k_f11 : ClassId) (f11 : Nat → Int32) (k_f12 : ClassId) (f12 : Nat → Int32) (k_f13 : ClassId) (f13 : Nat → Int32) (k_f14 : ClassId) (f14 : Nat → Int32) (k_f15 : ClassId) (f15 : Nat → Int32) (k_f16 : ClassId) (f16 : Nat → Int32) (p0 : Int32) (p1 : Int32) (htp : tp ≤ 900) (hhs : hs ≤ 1) (hss : ss ≤ 1) (hnc : nc ≤ 3) (hnp : np ≤ 8) (hne : ne ≤ 14) (hst0 : pm1 7 st0) : Met l yX8_limit vs_E_8_limit ({ frames := 1, cells := 0, slots := 0, locals := 21 }) (va_Pc [.ref xa, .int p0, .int p1] (pu_B (dC, dI) (xa__w xa xtape (nI tp) rd au xdr hy g (nI hs) tg sg (nI ss) rm ti py bu sm (nI nc) (nI np) (nI ne) st0 q4 q5 q6 q7 q8 q9 q10 q11 q12 q13 q14 q15 q16 k_f4 f4 k_f5 (bN 7 q_f5) k_f6 (bN 7 q_f6) k_f7 f7 k_f8 (bN 4 q_f8) k_f9 (bN 2 q_f9) k_f10 f10 k_f11 f11 k_f12 f12 k_f13 f13 k_f14 f14 k_f15 f15 k_f16 f16) (xa__t k_f4 k_f5 k_f6 k_f7 k_f8 k_f9 k_f10 k_f11 k_f12 k_f13 k_f14 k_f15 k_f16) sz)) (va_Qi (fun (r : Int32) (_ : Unit) => r = (sp_E_8_limit nc f14 f15 f16 p0 p1)) (fun _ _ => True) (va_A [] sz)) 0 0 (va_A [] sz) := by
  refine Met.ofW (cc := cX8_limit) (maxL := 3) (ret := (some .int)) (by decide) rfl ?_
  intro p e s m args below meth c s₁ B hml hv
  obtain ⟨rfl, rfl, hP, hK, hD0⟩ := hv
  have hx := B.exec
  have hb := B.bytes
  have hr := B.returns
  have hts := atoms_spec (ws := vs_E_8_limit) B.pre
  have v_6 := hts (.fieldLink RX8 23 "ClockReach" "model" "LClockReach$Automaton;") (List.mem_cons_of_mem _ cm_434)
  have v_7 := hts (.fieldLink RX8 190 "ClockReach$Automaton" "greatest" "[I") (List.mem_cons_of_mem _ cm_496)
  have v_8 := hts (.fieldLink RX8 193 "ClockReach$Automaton" "lower" "[I") (List.mem_cons_of_mem _ cm_497)
  have v_9 := hts (.fieldLink RX8 196 "ClockReach$Automaton" "upper" "[I") (List.mem_cons_of_mem _ cm_498)
  have hown : s.vm.findClass RX8 = some m.cls := findClass_of_methodNamed B.named
  have hlocks := B.notSynchronized
  have hiX0 : ∀ w ∈ wsX00, w ∈ vs_E_8_limit := fun _ h => List.mem_cons_of_mem _ (cm_X0 h)
  have hiX8 : ∀ w ∈ wsX80, w ∈ vs_E_8_limit := fun _ h => List.mem_cons_of_mem _ (cm_X8 h)
  have hD := hD0
  have hA : ∀ q : Nat, s.heap.size ≤ q → va_A [] s.heap.size q := fun _ h => Or.inr h
  have hS : va_S (va_A [] s.heap.size) s.heap s.heap [] := va_S.rf
  have hl := lv_entry ([.ref xa, .int p0, .int p1]) (n := 3) (Nat.le_of_ble_eq_true rfl)
  rw [lg_entry_eq]
  generalize (lg_sl ([.ref xa, .int p0, .int p1]) ++ List.replicate (3 - (lg_sl ([.ref xa, .int p0, .int p1])).length) Slot.unset).toArray = ls at hl ⊢
  have hl : lv_has ls 3 [(0, .ref xa), (1, .int p0), (2, .int p1)] := hl
  obtain ⟨RR, hRR⟩ : ∃ x, x = (sp_E_8_limit nc f14 f15 f16 p0 p1) := ⟨_, rfl⟩
  have hsp := hRR
  refine lv_aload_n hx hb eX8_limit_0 rfl (lv_at hl 0 rfl) ?_
  refine lv_iload_n hx hb eX8_limit_1 rfl (lv_at hl 1 rfl) ?_
  have hPc : va_P (dC, dI) vwCl (xo__w xa xtape (nI tp) rd au xdr hy g (nI hs) tg sg (nI ss) rm ti py bu sm (nI nc) (nI np) (nI ne) st0 q4 q5 q6 q7 q8 q9 q10 q11 q12 q13 q14 q15 q16) _ := hP.sub [0, 1] rfl
  have hDc := hD.sub (ws' := (xo__w xa xtape (nI tp) rd au xdr hy g (nI hs) tg sg (nI ss) rm ti py bu sm (nI nc) (nI np) (nI ne) st0 q4 q5 q6 q7 q8 q9 q10 q11 q12 q13 q14 q15 q16)) [0, 1] (by decide) rfl
  have hKc : va_K (dC, dI) vwCl (xo__t ) s := hK.sub [] rfl
  refine va_calli (va_runV (As := [.int p0]) (rest := []) ⟨hx, hb, hml, hown, hts⟩ (c_E_8_isClock l dC dI _ xa xtape tp rd au xdr hy g hs tg sg ss rm ti py bu sm nc np ne st0 q4 q5 q6 q7 q8 q9 q10 q11 q12 q13 q14 q15 q16 p0 htp hhs hss hnc hnp hne (hst0)) (cwV 1 hts g_E_8_limit_E_8_isClock rfl rfl rfl (by decide +kernel) ⟨Nat.le_of_ble_eq_true rfl, Nat.le_of_ble_eq_true rfl⟩) ⟨pu_bl, va_recv hK hP (ci := 8) (q0 := 0) rfl rfl, pu_in hPc hKc hDc⟩ rfl rfl hl.1 rfl (lv_room (Nat.le_of_ble_eq_true rfl)) eX8_limit_2 ⟨Nat.le_of_ble_eq_true rfl, Nat.le_of_ble_eq_true rfl⟩) hS (fun q _ h => pu_fr hS hA q h) (pu_fr hS hA) (fun r_1 u t H1 locs ht hvm hw hB hz1 hk1 hS => ?_)
  have hP := pu_keep hP hk1
  clear hk1 hz1 ht hvm
  generalize H1 = H at hP hS ⊢
  rcases hw with ⟨rfl, hw⟩ | ⟨rfl, hn⟩
  · obtain ⟨n_2, hn_2, rfl⟩ := hw
    have hsp := hsp.trans (if_pos (in_q hn_2 (by omega)))
    have hsp := hsp.trans (slet_eq (nI_cl (n := n_2) (by omega)))
    refine lv_if_ne (tgt := 10) hx hb eX8_limit_5 (by decide) (fun _ => ?_) (fun z => absurd z (by decide))
    refine lv_iload_n hx hb eX8_limit_10 rfl (lv_at hl 2 rfl) ?_
    by_cases w_3 : p1 = 0
    · subst w_3
      have hsp := hsp.trans (if_pos rfl)
      refine lv_tableIn (tgt := 36) (off := 25) hx hb eX8_limit_11 (by decide) (by decide) rfl (by decide) ?_
      refine lv_aload_n hx hb eX8_limit_36 rfl (lv_at hl 0 rfl) ?_
      refine va_get (D := (dC, dI)) (ci := 8) (v := .ref au) (C := RX8) (T := TX8) (N := 16) hx hb hts hiX8 hown hK hP 0 rfl rfl 3 (by decide) v_6 (fun _ h9 => h9) rfl eX8_limit_37 ?_
      refine va_get (D := (dC, dI)) (ci := 0) (v := .ref q14) (C := RX0) (T := TX0) (N := 17) hx hb hts hiX0 hown hK hP 1 rfl rfl 14 (by decide) v_7 (fun _ h9 => h9) rfl eX8_limit_40 ?_
      refine lv_iload_n hx hb eX8_limit_43 rfl (lv_at hl 1 rfl) ?_
      refine lv_iconst (v := 1) hx hb eX8_limit_44 (by decide) ?_
      refine lv_iadd hx hb eX8_limit_45 ?_
      refine lv_topi (fun y_4 ey_4 => ?_)
      obtain rfl : y_4 = (nI (n_2 + 1)) := ey_4.trans (nI_add n_2 1)
      refine va_iald hx hb hK hP 12 10 rfl rfl (vp_in_nI (n := (n_2 + 1)) (by omega) (Nat.le_of_ble_eq_true rfl)) eX8_limit_46 ?_
      refine lv_topi (fun y_5 ey_5 => ?_)
      have ey_5 : y_5 = f14 (n_2 + 1) := ey_5.trans (congrArg f14 (nI_clamp (n := (n_2 + 1)) (by omega)))
      have hsp := hsp.trans (slet_eq ey_5)
      exact W.iret (v := y_5) hx hb hr (fun t ht hW => ⟨⟨y_5, (), rfl, (hsp.symm.trans hRR), trivial⟩, hS.F ht⟩) hS.2.2 eX8_limit_47
    have hsp := hsp.trans (if_neg w_3)
    by_cases w_6 : p1 = 1
    · subst w_6
      have hsp := hsp.trans (if_pos rfl)
      refine lv_tableIn (tgt := 48) (off := 37) hx hb eX8_limit_11 (by decide) (by decide) rfl (by decide) ?_
      refine lv_aload_n hx hb eX8_limit_48 rfl (lv_at hl 0 rfl) ?_
      refine va_get (D := (dC, dI)) (ci := 8) (v := .ref au) (C := RX8) (T := TX8) (N := 16) hx hb hts hiX8 hown hK hP 0 rfl rfl 3 (by decide) v_6 (fun _ h9 => h9) rfl eX8_limit_49 ?_
      refine va_get (D := (dC, dI)) (ci := 0) (v := .ref q15) (C := RX0) (T := TX0) (N := 17) hx hb hts hiX0 hown hK hP 1 rfl rfl 15 (by decide) v_8 (fun _ h9 => h9) rfl eX8_limit_52 ?_
      refine lv_iload_n hx hb eX8_limit_55 rfl (lv_at hl 1 rfl) ?_
      refine lv_iconst (v := 1) hx hb eX8_limit_56 (by decide) ?_
      refine lv_iadd hx hb eX8_limit_57 ?_
      refine lv_topi (fun y_7 ey_7 => ?_)
      obtain rfl : y_7 = (nI (n_2 + 1)) := ey_7.trans (nI_add n_2 1)
      refine va_iald hx hb hK hP 13 11 rfl rfl (vp_in_nI (n := (n_2 + 1)) (by omega) (Nat.le_of_ble_eq_true rfl)) eX8_limit_58 ?_
      refine lv_topi (fun y_8 ey_8 => ?_)
      have ey_8 : y_8 = f15 (n_2 + 1) := ey_8.trans (congrArg f15 (nI_clamp (n := (n_2 + 1)) (by omega)))
      have hsp := hsp.trans (slet_eq ey_8)
      exact W.iret (v := y_8) hx hb hr (fun t ht hW => ⟨⟨y_8, (), rfl, (hsp.symm.trans hRR), trivial⟩, hS.F ht⟩) hS.2.2 eX8_limit_59
    have hsp := hsp.trans (if_neg w_6)
    by_cases w_9 : p1 = 2
    · subst w_9
      have hsp := hsp.trans (if_pos rfl)
      refine lv_tableIn (tgt := 60) (off := 49) hx hb eX8_limit_11 (by decide) (by decide) rfl (by decide) ?_
      refine lv_aload_n hx hb eX8_limit_60 rfl (lv_at hl 0 rfl) ?_
      refine va_get (D := (dC, dI)) (ci := 8) (v := .ref au) (C := RX8) (T := TX8) (N := 16) hx hb hts hiX8 hown hK hP 0 rfl rfl 3 (by decide) v_6 (fun _ h9 => h9) rfl eX8_limit_61 ?_
      refine va_get (D := (dC, dI)) (ci := 0) (v := .ref q16) (C := RX0) (T := TX0) (N := 17) hx hb hts hiX0 hown hK hP 1 rfl rfl 16 (by decide) v_9 (fun _ h9 => h9) rfl eX8_limit_64 ?_
      refine lv_iload_n hx hb eX8_limit_67 rfl (lv_at hl 1 rfl) ?_
      refine lv_iconst (v := 1) hx hb eX8_limit_68 (by decide) ?_
      refine lv_iadd hx hb eX8_limit_69 ?_
      refine lv_topi (fun y_10 ey_10 => ?_)
      obtain rfl : y_10 = (nI (n_2 + 1)) := ey_10.trans (nI_add n_2 1)
      refine va_iald hx hb hK hP 14 12 rfl rfl (vp_in_nI (n := (n_2 + 1)) (by omega) (Nat.le_of_ble_eq_true rfl)) eX8_limit_70 ?_
      refine lv_topi (fun y_11 ey_11 => ?_)
      have ey_11 : y_11 = f16 (n_2 + 1) := ey_11.trans (congrArg f16 (nI_clamp (n := (n_2 + 1)) (by omega)))
      have hsp := hsp.trans (slet_eq ey_11)
      exact W.iret (v := y_11) hx hb hr (fun t ht hW => ⟨⟨y_11, (), rfl, (hsp.symm.trans hRR), trivial⟩, hS.F ht⟩) hS.2.2 eX8_limit_71
    have hsp := hsp.trans (if_neg w_9)
    refine lv_tableOut (tgt := 72) hx hb eX8_limit_11 (by
        have zw_3 : Int32.toInt p1 ≠ 0 := fun g => w_3 ((fa_eq _ _).mpr g)
        have zw_6 : Int32.toInt p1 ≠ 1 := fun g => w_6 ((fa_eq _ _).mpr g)
        have zw_9 : Int32.toInt p1 ≠ 2 := fun g => w_9 ((fa_eq _ _).mpr g)
        omega) (by decide) ?_
    refine lv_iconst (v := (-1)) hx hb eX8_limit_72 (by decide) ?_
    exact W.iret (v := (-1)) hx hb hr (fun t ht hW => ⟨⟨(-1), (), rfl, (hsp.symm.trans hRR), trivial⟩, hS.F ht⟩) hS.2.2 eX8_limit_73
  · have hsp := hsp.trans (if_neg hn)
    refine lv_if_ne (tgt := 10) hx hb eX8_limit_5 (by decide) (fun z => absurd z (by decide)) (fun _ => ?_)
    refine lv_iconst (v := (-1)) hx hb eX8_limit_8 (by decide) ?_
    exact W.iret (v := (-1)) hx hb hr (fun t ht hW => ⟨⟨(-1), (), rfl, (hsp.symm.trans hRR), trivial⟩, hS.F ht⟩) hS.2.2 eX8_limit_9
theorem eX8_rings_0 : decode cX8_rings 0 = .ok (.aload_n 0, 1) := by decide +kernel
theorem eX8_rings_1 : decode cX8_rings 1 = .ok (.getfield 23, 3) := by decide +kernel
theorem eX8_rings_4 : decode cX8_rings 4 = .ok (.invokevirtual 304, 3) := by decide +kernel
theorem eX8_rings_7 : decode cX8_rings 7 = .ok (.ireturn, 1) := by decide +kernel
abbrev vs_E_8_rings : List Cond := .code yX8_rings cX8_rings 1 (some .int) :: CM
theorem g_E_8_rings_E_0_hurriedRings : GoodIn vs_E_8_rings (wsV RX8 304 RX0 yX0_hurriedRings vs_E_0_hurriedRings) := cm_gV cm_586 cm_587 cm_588 cm_19 cm_70
noncomputable def sp_E_8_rings (np : Nat) (ne : Nat) (f4 : Nat → Int32) (q_f5 : Nat → Nat) (q_f6 : Nat → Nat) : Int32 := (slet (sp_E_0_hurriedRings np ne f4 q_f5 q_f6) (fun r_1 => r_1))
set_option maxHeartbeats 4000000 in
set_option maxRecDepth 100000 in
theorem c_E_8_rings (l : Launch) (dC : Nat → ClassId) (dI : Nat → Nat → Nat) (sz : Nat) (xa : Nat) (xtape : Nat) (tp : Nat) (rd : Nat) (au : Nat) (xdr : Nat) (hy : Nat) (g : Nat) (hs : Nat) (tg : Nat) (sg : Nat) (ss : Nat) (rm : Nat) (ti : Nat) (py : Nat) (bu : Nat) (sm : Nat) (nc : Nat) (np : Nat) (ne : Nat) (st0 : Int32) (q4 : Nat) (q5 : Nat) (q6 : Nat) (q7 : Nat) (q8 : Nat) (q9 : Nat) (q10 : Nat) (q11 : Nat) (q12 : Nat) (q13 : Nat) (q14 : Nat) (q15 : Nat) (q16 : Nat) (k_f4 : ClassId) (f4 : Nat → Int32) (k_f5 : ClassId) (q_f5 : Nat → Nat) (k_f6 : ClassId) (q_f6 : Nat → Nat) (k_f7 : ClassId) (f7 : Nat → Int32) (k_f8 : ClassId) (q_f8 : Nat → Nat) (k_f9 : ClassId) (q_f9 : Nat → Nat) (k_f10 : ClassId) (f10 : Nat → Int32) (k_f11 : ClassId) (f11 : Nat → Int32) (k_f12 : ClassId) (f12 : Nat → Int32) (k_f13 : ClassId) (f13 : Nat → Int32) (k_f14 : ClassId) (f14 : Nat → Int32) (k_f15 : ClassId) (f15 : Nat → Int32) (k_f16 : ClassId) (f16 : Nat → Int32) (htp : tp ≤ 900) (hhs : hs ≤ 1) (hss : ss ≤ 1) (hnc : nc ≤ 3) (hnp : np ≤ 8) (hne : ne ≤ 14) (hst0 : pm1 7 st0) : Met l yX8_rings vs_E_8_rings ({ frames := 2, cells := 0, slots := 0, locals := 47 }) (va_Pc [.ref xa] (pu_B (dC, dI) (xa__w xa xtape (nI tp) rd au xdr hy g (nI hs) tg sg (nI ss) rm ti py bu sm (nI nc) (nI np) (nI ne) st0 q4 q5 q6 q7 q8 q9 q10 q11 q12 q13 q14 q15 q16 k_f4 f4 k_f5 (bN 7 q_f5) k_f6 (bN 7 q_f6) k_f7 f7 k_f8 (bN 4 q_f8) k_f9 (bN 2 q_f9) k_f10 f10 k_f11 f11 k_f12 f12 k_f13 f13 k_f14 f14 k_f15 f15 k_f16 f16) (xa__t k_f4 k_f5 k_f6 k_f7 k_f8 k_f9 k_f10 k_f11 k_f12 k_f13 k_f14 k_f15 k_f16) sz)) (va_Qi (fun (r : Int32) (_ : Unit) => r = (sp_E_8_rings np ne f4 q_f5 q_f6)) (fun _ _ => True) (va_A [] sz)) 0 0 (va_A [] sz) := by
  refine Met.ofW (cc := cX8_rings) (maxL := 1) (ret := (some .int)) (by decide) rfl ?_
  intro p e s m args below meth c s₁ B hml hv
  obtain ⟨rfl, rfl, hP, hK, hD0⟩ := hv
  have hx := B.exec
  have hb := B.bytes
  have hr := B.returns
  have hts := atoms_spec (ws := vs_E_8_rings) B.pre
  have v_1 := hts (.fieldLink RX8 23 "ClockReach" "model" "LClockReach$Automaton;") (List.mem_cons_of_mem _ cm_434)
  have hown : s.vm.findClass RX8 = some m.cls := findClass_of_methodNamed B.named
  have hlocks := B.notSynchronized
  have hiX8 : ∀ w ∈ wsX80, w ∈ vs_E_8_rings := fun _ h => List.mem_cons_of_mem _ (cm_X8 h)
  have hD := hD0
  have hA : ∀ q : Nat, s.heap.size ≤ q → va_A [] s.heap.size q := fun _ h => Or.inr h
  have hS : va_S (va_A [] s.heap.size) s.heap s.heap [] := va_S.rf
  have hl := lv_entry ([.ref xa]) (n := 1) (Nat.le_of_ble_eq_true rfl)
  rw [lg_entry_eq]
  generalize (lg_sl ([.ref xa]) ++ List.replicate (1 - (lg_sl ([.ref xa])).length) Slot.unset).toArray = ls at hl ⊢
  have hl : lv_has ls 1 [(0, .ref xa)] := hl
  obtain ⟨RR, hRR⟩ : ∃ x, x = (sp_E_8_rings np ne f4 q_f5 q_f6) := ⟨_, rfl⟩
  have hsp := hRR
  refine lv_aload_n hx hb eX8_rings_0 rfl (lv_at hl 0 rfl) ?_
  refine va_get (D := (dC, dI)) (ci := 8) (v := .ref au) (C := RX8) (T := TX8) (N := 16) hx hb hts hiX8 hown hK hP 0 rfl rfl 3 (by decide) v_1 (fun _ h9 => h9) rfl eX8_rings_1 ?_
  have hPc : va_P (dC, dI) vwCl (au__w au (nI nc) (nI np) (nI ne) st0 q4 q5 q6 q7 q8 q9 q10 q11 q12 q13 q14 q15 q16 k_f4 f4 k_f5 (bN 7 q_f5) k_f6 (bN 7 q_f6) k_f7 f7 k_f8 (bN 4 q_f8) k_f9 (bN 2 q_f9) k_f10 f10 k_f11 f11 k_f12 f12 k_f13 f13 k_f14 f14 k_f15 f15 k_f16 f16) _ := hP.sub [1, 2, 3, 4, 5, 6, 7, 8, 9, 10, 11, 12, 13, 14] rfl
  have hDc := hD.sub (ws' := (au__w au (nI nc) (nI np) (nI ne) st0 q4 q5 q6 q7 q8 q9 q10 q11 q12 q13 q14 q15 q16 k_f4 f4 k_f5 (bN 7 q_f5) k_f6 (bN 7 q_f6) k_f7 f7 k_f8 (bN 4 q_f8) k_f9 (bN 2 q_f9) k_f10 f10 k_f11 f11 k_f12 f12 k_f13 f13 k_f14 f14 k_f15 f15 k_f16 f16)) [1, 2, 3, 4, 5, 6, 7, 8, 9, 10, 11, 12, 13, 14] (by decide) rfl
  have hKc : va_K (dC, dI) vwCl (au__t k_f4 k_f5 k_f6 k_f7 k_f8 k_f9 k_f10 k_f11 k_f12 k_f13 k_f14 k_f15 k_f16) s := hK.sub [0, 1, 2, 3, 4, 5, 6, 7, 8, 9, 10, 11, 12] rfl
  refine va_calli (va_runV (As := []) (rest := []) ⟨hx, hb, hml, hown, hts⟩ (c_E_0_hurriedRings l dC dI _ au nc np ne st0 q4 q5 q6 q7 q8 q9 q10 q11 q12 q13 q14 q15 q16 k_f4 f4 k_f5 q_f5 k_f6 q_f6 k_f7 f7 k_f8 q_f8 k_f9 q_f9 k_f10 f10 k_f11 f11 k_f12 f12 k_f13 f13 k_f14 f14 k_f15 f15 k_f16 f16 hnc hnp hne (hst0)) (cwV 0 hts g_E_8_rings_E_0_hurriedRings rfl rfl rfl (by decide +kernel) ⟨Nat.le_of_ble_eq_true rfl, Nat.le_of_ble_eq_true rfl⟩) ⟨pu_bl, va_recv hK hP (ci := 0) (q0 := 1) rfl rfl, pu_in hPc hKc hDc⟩ rfl rfl hl.1 rfl (lv_room (Nat.le_of_ble_eq_true rfl)) eX8_rings_4 ⟨Nat.le_of_ble_eq_true rfl, Nat.le_of_ble_eq_true rfl⟩) hS (fun q _ h => pu_fr hS hA q h) (pu_fr hS hA) (fun r_1 u t H1 locs ht hvm hw hB hz1 hk1 hS => ?_)
  have hP := pu_keep hP hk1
  clear hk1 hz1 ht hvm
  generalize H1 = H at hP hS ⊢
  have ir_1 := hw
  have hsp := hsp.trans (slet_eq ir_1)
  exact W.iret (v := r_1) hx hb hr (fun t ht hW => ⟨⟨r_1, (), rfl, (hsp.symm.trans hRR), trivial⟩, hS.F ht⟩) hS.2.2 eX8_rings_7
theorem eX8_putBytes_0 : decode cX8_putBytes 0 = .ok (.bipush 24, 2) := by decide +kernel
theorem eX8_putBytes_2 : decode cX8_putBytes 2 = .ok (.istore_n 2, 1) := by decide +kernel
theorem eX8_putBytes_3 : decode cX8_putBytes 3 = .ok (.iload_n 2, 1) := by decide +kernel
theorem eX8_putBytes_4 : decode cX8_putBytes 4 = .ok (.ifCond .lt 45, 3) := by decide +kernel
theorem eX8_putBytes_7 : decode cX8_putBytes 7 = .ok (.aload_n 0, 1) := by decide +kernel
theorem eX8_putBytes_8 : decode cX8_putBytes 8 = .ok (.getfield 79, 3) := by decide +kernel
theorem eX8_putBytes_11 : decode cX8_putBytes 11 = .ok (.sipush 900, 3) := by decide +kernel
theorem eX8_putBytes_14 : decode cX8_putBytes 14 = .ok (.if_icmp .ge 35, 3) := by decide +kernel
theorem eX8_putBytes_17 : decode cX8_putBytes 17 = .ok (.aload_n 0, 1) := by decide +kernel
theorem eX8_putBytes_18 : decode cX8_putBytes 18 = .ok (.getfield 9, 3) := by decide +kernel
theorem eX8_putBytes_21 : decode cX8_putBytes 21 = .ok (.aload_n 0, 1) := by decide +kernel
theorem eX8_putBytes_22 : decode cX8_putBytes 22 = .ok (.getfield 79, 3) := by decide +kernel
theorem eX8_putBytes_25 : decode cX8_putBytes 25 = .ok (.iload_n 1, 1) := by decide +kernel
theorem eX8_putBytes_26 : decode cX8_putBytes 26 = .ok (.iload_n 2, 1) := by decide +kernel
theorem eX8_putBytes_27 : decode cX8_putBytes 27 = .ok (.ishr, 1) := by decide +kernel
theorem eX8_putBytes_28 : decode cX8_putBytes 28 = .ok (.sipush 255, 3) := by decide +kernel
theorem eX8_putBytes_31 : decode cX8_putBytes 31 = .ok (.iand, 1) := by decide +kernel
theorem eX8_putBytes_32 : decode cX8_putBytes 32 = .ok (.iastore, 1) := by decide +kernel
theorem eX8_putBytes_33 : decode cX8_putBytes 33 = .ok (.aload_n 0, 1) := by decide +kernel
theorem eX8_putBytes_34 : decode cX8_putBytes 34 = .ok (.dup, 1) := by decide +kernel
theorem eX8_putBytes_35 : decode cX8_putBytes 35 = .ok (.getfield 79, 3) := by decide +kernel
theorem eX8_putBytes_38 : decode cX8_putBytes 38 = .ok (.iconst 1, 1) := by decide +kernel
theorem eX8_putBytes_39 : decode cX8_putBytes 39 = .ok (.iadd, 1) := by decide +kernel
theorem eX8_putBytes_40 : decode cX8_putBytes 40 = .ok (.putfield 79, 3) := by decide +kernel
theorem eX8_putBytes_43 : decode cX8_putBytes 43 = .ok (.iinc 2 (-8), 3) := by decide +kernel
theorem eX8_putBytes_46 : decode cX8_putBytes 46 = .ok (.goto (-43), 3) := by decide +kernel
theorem eX8_putBytes_49 : decode cX8_putBytes 49 = .ok (.return_, 1) := by decide +kernel
abbrev vs_E_8_putBytes : List Cond := .code yX8_putBytes cX8_putBytes 3 none :: CM
noncomputable def sp_E_8_putBytes (tp : Nat) (ft : Nat → Int32) (p0 : Int32) : (Nat → Int32) := (slet ((p0 : Int32) >>> ((24 : Int32) &&& 31)) (fun y_2 => (slet ((y_2 : Int32) &&& (255 : Int32)) (fun y_3 => (slet (upd ft tp y_3) (fun f_4 => (slet ((p0 : Int32) >>> ((16 : Int32) &&& 31)) (fun y_7 => (slet ((y_7 : Int32) &&& (255 : Int32)) (fun y_8 => (slet (upd f_4 (tp + 1) y_8) (fun f_9 => (slet ((p0 : Int32) >>> ((8 : Int32) &&& 31)) (fun y_12 => (slet ((y_12 : Int32) &&& (255 : Int32)) (fun y_13 => (slet (upd f_9 ((tp + 1) + 1) y_13) (fun f_14 => (slet ((p0 : Int32) >>> ((0 : Int32) &&& 31)) (fun y_17 => (slet ((y_17 : Int32) &&& (255 : Int32)) (fun y_18 => (slet (upd f_14 (((tp + 1) + 1) + 1) y_18) (fun f_19 => f_19))))))))))))))))))))))))
set_option maxHeartbeats 4000000 in
set_option maxRecDepth 100000 in
theorem c_E_8_putBytes (l : Launch) (dC : Nat → ClassId) (dI : Nat → Nat → Nat) (sz : Nat) (xa : Nat) (xtape : Nat) (tp : Nat) (rd : Nat) (au : Nat) (xdr : Nat) (hy : Nat) (g : Nat) (hs : Nat) (tg : Nat) (sg : Nat) (ss : Nat) (rm : Nat) (ti : Nat) (py : Nat) (bu : Nat) (sm : Nat) (k_ft : ClassId) (ft : Nat → Int32) (p0 : Int32) (htp : tp ≤ 896) (hhs : hs ≤ 1) (hss : ss ≤ 1) : Met l yX8_putBytes vs_E_8_putBytes ({ frames := 0, cells := 0, slots := 0, locals := 0 }) (va_Pc [.ref xa, .int p0] (pu_B (dC, dI) (xt__w xa xtape (nI tp) rd au xdr hy g (nI hs) tg sg (nI ss) rm ti py bu sm k_ft ft) (xt__t k_ft) sz)) (va_Qv (fun (_ : Unit) => True) (fun _ t => ∃ (z_ft : Nat → Int32), pu_E (dC, dI) (xt__w xa xtape (nI (tp + 4)) rd au xdr hy g (nI hs) tg sg (nI ss) rm ti py bu sm k_ft z_ft) (xt__t k_ft) (va_A ((xt__w xa xtape (nI tp) rd au xdr hy g (nI hs) tg sg (nI ss) rm ti py bu sm k_ft ft)) sz) t ∧ (z_ft = (sp_E_8_putBytes tp ft p0))) (va_A ((xt__w xa xtape (nI tp) rd au xdr hy g (nI hs) tg sg (nI ss) rm ti py bu sm k_ft ft)) sz)) 0 0 (va_A ((xt__w xa xtape (nI tp) rd au xdr hy g (nI hs) tg sg (nI ss) rm ti py bu sm k_ft ft)) sz) := by
  refine Met.ofW (cc := cX8_putBytes) (maxL := 3) (ret := none) (by decide) rfl ?_
  intro p e s m args below meth c s₁ B hml hv
  obtain ⟨rfl, rfl, hP, hK, hD0⟩ := hv
  have hx := B.exec
  have hb := B.bytes
  have hr := B.returns
  have hts := atoms_spec (ws := vs_E_8_putBytes) B.pre
  have v_1 := hts (.fieldLink RX8 79 "ClockReach" "taped" "I") (List.mem_cons_of_mem _ cm_423)
  have v_2 := hts (.fieldLink RX8 9 "ClockReach" "tape" "[I") (List.mem_cons_of_mem _ cm_429)
  have hown : s.vm.findClass RX8 = some m.cls := findClass_of_methodNamed B.named
  have hlocks := B.notSynchronized
  have hiX8 : ∀ w ∈ wsX80, w ∈ vs_E_8_putBytes := fun _ h => List.mem_cons_of_mem _ (cm_X8 h)
  have hD := hD0.self (sz := s.heap.size)
  generalize hAe : va_A ((xt__w xa xtape (nI tp) rd au xdr hy g (nI hs) tg sg (nI ss) rm ti py bu sm k_ft ft)) s.heap.size = A at hD ⊢
  have hA : ∀ q : Nat, s.heap.size ≤ q → A q := fun q h => by rw [← hAe]; exact Or.inr h
  have hS : va_S A s.heap s.heap [] := va_S.rf
  have hl := lv_entry ([.ref xa, .int p0]) (n := 3) (Nat.le_of_ble_eq_true rfl)
  rw [lg_entry_eq]
  generalize (lg_sl ([.ref xa, .int p0]) ++ List.replicate (3 - (lg_sl ([.ref xa, .int p0])).length) Slot.unset).toArray = ls at hl ⊢
  have hl : lv_has ls 3 [(0, .ref xa), (1, .int p0)] := hl
  obtain ⟨RR, hRR⟩ : ∃ x, x = (sp_E_8_putBytes tp ft p0) := ⟨_, rfl⟩
  have hsp := hRR
  refine lv_bipush (v := 24) hx hb eX8_putBytes_0 (by decide) ?_
  refine lv_istore_n (lv' := [(2, .int 24), (0, .ref xa), (1, .int p0)]) hx hb eX8_putBytes_2 rfl hl (by decide) rfl (fun ls hl => ?_)
  refine lv_iload_n hx hb eX8_putBytes_3 rfl (lv_at hl 0 rfl) ?_
  refine lv_if_lt (tgt := 49) hx hb eX8_putBytes_4 (by decide) (fun z => absurd z (by decide)) (fun _ => ?_)
  refine lv_aload_n hx hb eX8_putBytes_7 rfl (lv_at hl 1 rfl) ?_
  refine va_get (D := (dC, dI)) (ci := 8) (v := .int (nI tp)) (C := RX8) (T := TX8) (N := 16) hx hb hts hiX8 hown hK hP 0 rfl rfl 1 (by decide) v_1 (fun _ h9 => h9) rfl eX8_putBytes_8 ?_
  refine lv_sipush (v := 900) hx hb eX8_putBytes_11 (by decide) ?_
  refine lv_icmp_ge (tgt := 49) hx hb eX8_putBytes_14 (by decide) (fun c_1 => ?_) (fun c_1 => ?_)
  · have c_1 : 900 ≤ tp := (nI_leI (a := 900) (b := tp) (Nat.le_of_ble_eq_true rfl) (Nat.lt_of_le_of_lt htp (Nat.le_of_ble_eq_true rfl))).mp c_1
    exfalso
    omega
  · have c_1 : ¬ 900 ≤ tp := fun z => c_1 ((nI_leI (a := 900) (b := tp) (Nat.le_of_ble_eq_true rfl) (Nat.lt_of_le_of_lt htp (Nat.le_of_ble_eq_true rfl))).mpr z)
    refine lv_aload_n hx hb eX8_putBytes_17 rfl (lv_at hl 1 rfl) ?_
    refine va_get (D := (dC, dI)) (ci := 8) (v := .ref xtape) (C := RX8) (T := TX8) (N := 16) hx hb hts hiX8 hown hK hP 0 rfl rfl 0 (by decide) v_2 (fun _ h9 => h9) rfl eX8_putBytes_18 ?_
    refine lv_aload_n hx hb eX8_putBytes_21 rfl (lv_at hl 1 rfl) ?_
    refine va_get (D := (dC, dI)) (ci := 8) (v := .int (nI tp)) (C := RX8) (T := TX8) (N := 16) hx hb hts hiX8 hown hK hP 0 rfl rfl 1 (by decide) v_1 (fun _ h9 => h9) rfl eX8_putBytes_22 ?_
    refine lv_iload_n hx hb eX8_putBytes_25 rfl (lv_at hl 2 rfl) ?_
    refine lv_iload_n hx hb eX8_putBytes_26 rfl (lv_at hl 0 rfl) ?_
    refine lv_ishr hx hb eX8_putBytes_27 ?_
    refine lv_topi (fun y_2 ey_2 => ?_)
    have hsp := hsp.trans (slet_eq ey_2)
    refine lv_sipush (v := 255) hx hb eX8_putBytes_28 (by decide) ?_
    refine lv_iand hx hb eX8_putBytes_31 ?_
    refine lv_topi (fun y_3 ey_3 => ?_)
    have hsp := hsp.trans (slet_eq ey_3)
    refine va_iast hx hb hK hP hD hS 1 0 rfl rfl (vp_in_nI (n := tp) (Nat.lt_of_le_of_lt htp (Nat.le_of_ble_eq_true rfl)) (Nat.le_of_ble_eq_true rfl)) eX8_putBytes_32 (fun H locs hP hD hS => ?_)
    obtain ⟨f_4, ef_4, xf_4⟩ := up_x ft (n := tp) y_3 (Nat.lt_of_le_of_lt htp (Nat.le_of_ble_eq_true rfl))
    have hP : va_P (dC, dI) vwCl (xt__w xa xtape (nI tp) rd au xdr hy g (nI hs) tg sg (nI ss) rm ti py bu sm k_ft f_4) H := by rw [← ef_4]; exact hP
    have hD : va_D A (xt__w xa xtape (nI tp) rd au xdr hy g (nI hs) tg sg (nI ss) rm ti py bu sm k_ft f_4) := by rw [← ef_4]; exact hD
    have hsp := hsp.trans (slet_eq xf_4)
    refine lv_aload_n hx hb eX8_putBytes_33 rfl (lv_at hl 1 rfl) ?_
    refine lv_dup hx hb eX8_putBytes_34 rfl ?_
    refine va_get (D := (dC, dI)) (ci := 8) (v := .int (nI tp)) (C := RX8) (T := TX8) (N := 16) hx hb hts hiX8 hown hK hP 0 rfl rfl 1 (by decide) v_1 (fun _ h9 => h9) rfl eX8_putBytes_35 ?_
    refine lv_iconst (v := 1) hx hb eX8_putBytes_38 (by decide) ?_
    refine lv_iadd hx hb eX8_putBytes_39 ?_
    refine lv_topi (fun y_5 ey_5 => ?_)
    obtain rfl : y_5 = (nI (tp + 1)) := ey_5.trans (nI_add tp 1)
    refine va_put (D := (dC, dI)) (ci := 8) (v := .int (nI (tp + 1))) (ty := .int) (C := RX8) (T := TX8) (N := 16) hx hb hts hiX8 tyX8 tyX8_ok nmX8 hown hK hP hD hS 0 rfl rfl 1 (by decide) v_1 (fun _ h9 => h9) rfl (by decide +kernel) rfl rfl (Nat.le_of_ble_eq_true rfl) eX8_putBytes_40 (fun H locs hP hD hS => ?_)
    have hP : va_P (dC, dI) vwCl (xt__w xa xtape (nI (tp + 1)) rd au xdr hy g (nI hs) tg sg (nI ss) rm ti py bu sm k_ft f_4) H := hP
    have hD : va_D A (xt__w xa xtape (nI (tp + 1)) rd au xdr hy g (nI hs) tg sg (nI ss) rm ti py bu sm k_ft f_4) := hD
    refine lv_iinc (v := 16) (lv' := [(2, .int 16), (0, .ref xa), (1, .int p0)]) hx hb eX8_putBytes_43 hl (k := 0) rfl (by decide) (by decide) rfl (fun ls hl => ?_)
    refine lv_goto (tgt := 3) hx hb eX8_putBytes_46 (by decide) ?_
    refine lv_iload_n hx hb eX8_putBytes_3 rfl (lv_at hl 0 rfl) ?_
    refine lv_if_lt (tgt := 49) hx hb eX8_putBytes_4 (by decide) (fun z => absurd z (by decide)) (fun _ => ?_)
    refine lv_aload_n hx hb eX8_putBytes_7 rfl (lv_at hl 1 rfl) ?_
    refine va_get (D := (dC, dI)) (ci := 8) (v := .int (nI (tp + 1))) (C := RX8) (T := TX8) (N := 16) hx hb hts hiX8 hown hK hP 0 rfl rfl 1 (by decide) v_1 (fun _ h9 => h9) rfl eX8_putBytes_8 ?_
    refine lv_sipush (v := 900) hx hb eX8_putBytes_11 (by decide) ?_
    refine lv_icmp_ge (tgt := 49) hx hb eX8_putBytes_14 (by decide) (fun c_6 => ?_) (fun c_6 => ?_)
    · have c_6 : 900 ≤ (tp + 1) := (nI_leI (a := 900) (b := (tp + 1)) (Nat.le_of_ble_eq_true rfl) (by omega)).mp c_6
      exfalso
      omega
    · have c_6 : ¬ 900 ≤ (tp + 1) := fun z => c_6 ((nI_leI (a := 900) (b := (tp + 1)) (Nat.le_of_ble_eq_true rfl) (by omega)).mpr z)
      refine lv_aload_n hx hb eX8_putBytes_17 rfl (lv_at hl 1 rfl) ?_
      refine va_get (D := (dC, dI)) (ci := 8) (v := .ref xtape) (C := RX8) (T := TX8) (N := 16) hx hb hts hiX8 hown hK hP 0 rfl rfl 0 (by decide) v_2 (fun _ h9 => h9) rfl eX8_putBytes_18 ?_
      refine lv_aload_n hx hb eX8_putBytes_21 rfl (lv_at hl 1 rfl) ?_
      refine va_get (D := (dC, dI)) (ci := 8) (v := .int (nI (tp + 1))) (C := RX8) (T := TX8) (N := 16) hx hb hts hiX8 hown hK hP 0 rfl rfl 1 (by decide) v_1 (fun _ h9 => h9) rfl eX8_putBytes_22 ?_
      refine lv_iload_n hx hb eX8_putBytes_25 rfl (lv_at hl 2 rfl) ?_
      refine lv_iload_n hx hb eX8_putBytes_26 rfl (lv_at hl 0 rfl) ?_
      refine lv_ishr hx hb eX8_putBytes_27 ?_
      refine lv_topi (fun y_7 ey_7 => ?_)
      have hsp := hsp.trans (slet_eq ey_7)
      refine lv_sipush (v := 255) hx hb eX8_putBytes_28 (by decide) ?_
      refine lv_iand hx hb eX8_putBytes_31 ?_
      refine lv_topi (fun y_8 ey_8 => ?_)
      have hsp := hsp.trans (slet_eq ey_8)
      refine va_iast hx hb hK hP hD hS 1 0 rfl rfl (vp_in_nI (n := (tp + 1)) (by omega) (Nat.le_of_ble_eq_true rfl)) eX8_putBytes_32 (fun H locs hP hD hS => ?_)
      obtain ⟨f_9, ef_9, xf_9⟩ := up_x f_4 (n := (tp + 1)) y_8 (by omega)
      have hP : va_P (dC, dI) vwCl (xt__w xa xtape (nI (tp + 1)) rd au xdr hy g (nI hs) tg sg (nI ss) rm ti py bu sm k_ft f_9) H := by rw [← ef_9]; exact hP
      have hD : va_D A (xt__w xa xtape (nI (tp + 1)) rd au xdr hy g (nI hs) tg sg (nI ss) rm ti py bu sm k_ft f_9) := by rw [← ef_9]; exact hD
      have hsp := hsp.trans (slet_eq xf_9)
      refine lv_aload_n hx hb eX8_putBytes_33 rfl (lv_at hl 1 rfl) ?_
      refine lv_dup hx hb eX8_putBytes_34 rfl ?_
      refine va_get (D := (dC, dI)) (ci := 8) (v := .int (nI (tp + 1))) (C := RX8) (T := TX8) (N := 16) hx hb hts hiX8 hown hK hP 0 rfl rfl 1 (by decide) v_1 (fun _ h9 => h9) rfl eX8_putBytes_35 ?_
      refine lv_iconst (v := 1) hx hb eX8_putBytes_38 (by decide) ?_
      refine lv_iadd hx hb eX8_putBytes_39 ?_
      refine lv_topi (fun y_10 ey_10 => ?_)
      obtain rfl : y_10 = (nI ((tp + 1) + 1)) := ey_10.trans (nI_add (tp + 1) 1)
      refine va_put (D := (dC, dI)) (ci := 8) (v := .int (nI ((tp + 1) + 1))) (ty := .int) (C := RX8) (T := TX8) (N := 16) hx hb hts hiX8 tyX8 tyX8_ok nmX8 hown hK hP hD hS 0 rfl rfl 1 (by decide) v_1 (fun _ h9 => h9) rfl (by decide +kernel) rfl rfl (Nat.le_of_ble_eq_true rfl) eX8_putBytes_40 (fun H locs hP hD hS => ?_)
      have hP : va_P (dC, dI) vwCl (xt__w xa xtape (nI ((tp + 1) + 1)) rd au xdr hy g (nI hs) tg sg (nI ss) rm ti py bu sm k_ft f_9) H := hP
      have hD : va_D A (xt__w xa xtape (nI ((tp + 1) + 1)) rd au xdr hy g (nI hs) tg sg (nI ss) rm ti py bu sm k_ft f_9) := hD
      refine lv_iinc (v := 8) (lv' := [(2, .int 8), (0, .ref xa), (1, .int p0)]) hx hb eX8_putBytes_43 hl (k := 0) rfl (by decide) (by decide) rfl (fun ls hl => ?_)
      refine lv_goto (tgt := 3) hx hb eX8_putBytes_46 (by decide) ?_
      refine lv_iload_n hx hb eX8_putBytes_3 rfl (lv_at hl 0 rfl) ?_
      refine lv_if_lt (tgt := 49) hx hb eX8_putBytes_4 (by decide) (fun z => absurd z (by decide)) (fun _ => ?_)
      refine lv_aload_n hx hb eX8_putBytes_7 rfl (lv_at hl 1 rfl) ?_
      refine va_get (D := (dC, dI)) (ci := 8) (v := .int (nI ((tp + 1) + 1))) (C := RX8) (T := TX8) (N := 16) hx hb hts hiX8 hown hK hP 0 rfl rfl 1 (by decide) v_1 (fun _ h9 => h9) rfl eX8_putBytes_8 ?_
      refine lv_sipush (v := 900) hx hb eX8_putBytes_11 (by decide) ?_
      refine lv_icmp_ge (tgt := 49) hx hb eX8_putBytes_14 (by decide) (fun c_11 => ?_) (fun c_11 => ?_)
      · have c_11 : 900 ≤ ((tp + 1) + 1) := (nI_leI (a := 900) (b := ((tp + 1) + 1)) (Nat.le_of_ble_eq_true rfl) (by omega)).mp c_11
        exfalso
        omega
      · have c_11 : ¬ 900 ≤ ((tp + 1) + 1) := fun z => c_11 ((nI_leI (a := 900) (b := ((tp + 1) + 1)) (Nat.le_of_ble_eq_true rfl) (by omega)).mpr z)
        refine lv_aload_n hx hb eX8_putBytes_17 rfl (lv_at hl 1 rfl) ?_
        refine va_get (D := (dC, dI)) (ci := 8) (v := .ref xtape) (C := RX8) (T := TX8) (N := 16) hx hb hts hiX8 hown hK hP 0 rfl rfl 0 (by decide) v_2 (fun _ h9 => h9) rfl eX8_putBytes_18 ?_
        refine lv_aload_n hx hb eX8_putBytes_21 rfl (lv_at hl 1 rfl) ?_
        refine va_get (D := (dC, dI)) (ci := 8) (v := .int (nI ((tp + 1) + 1))) (C := RX8) (T := TX8) (N := 16) hx hb hts hiX8 hown hK hP 0 rfl rfl 1 (by decide) v_1 (fun _ h9 => h9) rfl eX8_putBytes_22 ?_
        refine lv_iload_n hx hb eX8_putBytes_25 rfl (lv_at hl 2 rfl) ?_
        refine lv_iload_n hx hb eX8_putBytes_26 rfl (lv_at hl 0 rfl) ?_
        refine lv_ishr hx hb eX8_putBytes_27 ?_
        refine lv_topi (fun y_12 ey_12 => ?_)
        have hsp := hsp.trans (slet_eq ey_12)
        refine lv_sipush (v := 255) hx hb eX8_putBytes_28 (by decide) ?_
        refine lv_iand hx hb eX8_putBytes_31 ?_
        refine lv_topi (fun y_13 ey_13 => ?_)
        have hsp := hsp.trans (slet_eq ey_13)
        refine va_iast hx hb hK hP hD hS 1 0 rfl rfl (vp_in_nI (n := ((tp + 1) + 1)) (by omega) (Nat.le_of_ble_eq_true rfl)) eX8_putBytes_32 (fun H locs hP hD hS => ?_)
        obtain ⟨f_14, ef_14, xf_14⟩ := up_x f_9 (n := ((tp + 1) + 1)) y_13 (by omega)
        have hP : va_P (dC, dI) vwCl (xt__w xa xtape (nI ((tp + 1) + 1)) rd au xdr hy g (nI hs) tg sg (nI ss) rm ti py bu sm k_ft f_14) H := by rw [← ef_14]; exact hP
        have hD : va_D A (xt__w xa xtape (nI ((tp + 1) + 1)) rd au xdr hy g (nI hs) tg sg (nI ss) rm ti py bu sm k_ft f_14) := by rw [← ef_14]; exact hD
        have hsp := hsp.trans (slet_eq xf_14)
        refine lv_aload_n hx hb eX8_putBytes_33 rfl (lv_at hl 1 rfl) ?_
        refine lv_dup hx hb eX8_putBytes_34 rfl ?_
        refine va_get (D := (dC, dI)) (ci := 8) (v := .int (nI ((tp + 1) + 1))) (C := RX8) (T := TX8) (N := 16) hx hb hts hiX8 hown hK hP 0 rfl rfl 1 (by decide) v_1 (fun _ h9 => h9) rfl eX8_putBytes_35 ?_
        refine lv_iconst (v := 1) hx hb eX8_putBytes_38 (by decide) ?_
        refine lv_iadd hx hb eX8_putBytes_39 ?_
        refine lv_topi (fun y_15 ey_15 => ?_)
        obtain rfl : y_15 = (nI (((tp + 1) + 1) + 1)) := ey_15.trans (nI_add ((tp + 1) + 1) 1)
        refine va_put (D := (dC, dI)) (ci := 8) (v := .int (nI (((tp + 1) + 1) + 1))) (ty := .int) (C := RX8) (T := TX8) (N := 16) hx hb hts hiX8 tyX8 tyX8_ok nmX8 hown hK hP hD hS 0 rfl rfl 1 (by decide) v_1 (fun _ h9 => h9) rfl (by decide +kernel) rfl rfl (Nat.le_of_ble_eq_true rfl) eX8_putBytes_40 (fun H locs hP hD hS => ?_)
        have hP : va_P (dC, dI) vwCl (xt__w xa xtape (nI (((tp + 1) + 1) + 1)) rd au xdr hy g (nI hs) tg sg (nI ss) rm ti py bu sm k_ft f_14) H := hP
        have hD : va_D A (xt__w xa xtape (nI (((tp + 1) + 1) + 1)) rd au xdr hy g (nI hs) tg sg (nI ss) rm ti py bu sm k_ft f_14) := hD
        refine lv_iinc (v := 0) (lv' := [(2, .int 0), (0, .ref xa), (1, .int p0)]) hx hb eX8_putBytes_43 hl (k := 0) rfl (by decide) (by decide) rfl (fun ls hl => ?_)
        refine lv_goto (tgt := 3) hx hb eX8_putBytes_46 (by decide) ?_
        refine lv_iload_n hx hb eX8_putBytes_3 rfl (lv_at hl 0 rfl) ?_
        refine lv_if_lt (tgt := 49) hx hb eX8_putBytes_4 (by decide) (fun z => absurd z (by decide)) (fun _ => ?_)
        refine lv_aload_n hx hb eX8_putBytes_7 rfl (lv_at hl 1 rfl) ?_
        refine va_get (D := (dC, dI)) (ci := 8) (v := .int (nI (((tp + 1) + 1) + 1))) (C := RX8) (T := TX8) (N := 16) hx hb hts hiX8 hown hK hP 0 rfl rfl 1 (by decide) v_1 (fun _ h9 => h9) rfl eX8_putBytes_8 ?_
        refine lv_sipush (v := 900) hx hb eX8_putBytes_11 (by decide) ?_
        refine lv_icmp_ge (tgt := 49) hx hb eX8_putBytes_14 (by decide) (fun c_16 => ?_) (fun c_16 => ?_)
        · have c_16 : 900 ≤ (((tp + 1) + 1) + 1) := (nI_leI (a := 900) (b := (((tp + 1) + 1) + 1)) (Nat.le_of_ble_eq_true rfl) (by omega)).mp c_16
          exfalso
          omega
        · have c_16 : ¬ 900 ≤ (((tp + 1) + 1) + 1) := fun z => c_16 ((nI_leI (a := 900) (b := (((tp + 1) + 1) + 1)) (Nat.le_of_ble_eq_true rfl) (by omega)).mpr z)
          refine lv_aload_n hx hb eX8_putBytes_17 rfl (lv_at hl 1 rfl) ?_
          refine va_get (D := (dC, dI)) (ci := 8) (v := .ref xtape) (C := RX8) (T := TX8) (N := 16) hx hb hts hiX8 hown hK hP 0 rfl rfl 0 (by decide) v_2 (fun _ h9 => h9) rfl eX8_putBytes_18 ?_
          refine lv_aload_n hx hb eX8_putBytes_21 rfl (lv_at hl 1 rfl) ?_
          refine va_get (D := (dC, dI)) (ci := 8) (v := .int (nI (((tp + 1) + 1) + 1))) (C := RX8) (T := TX8) (N := 16) hx hb hts hiX8 hown hK hP 0 rfl rfl 1 (by decide) v_1 (fun _ h9 => h9) rfl eX8_putBytes_22 ?_
          refine lv_iload_n hx hb eX8_putBytes_25 rfl (lv_at hl 2 rfl) ?_
          refine lv_iload_n hx hb eX8_putBytes_26 rfl (lv_at hl 0 rfl) ?_
          refine lv_ishr hx hb eX8_putBytes_27 ?_
          refine lv_topi (fun y_17 ey_17 => ?_)
          have hsp := hsp.trans (slet_eq ey_17)
          refine lv_sipush (v := 255) hx hb eX8_putBytes_28 (by decide) ?_
          refine lv_iand hx hb eX8_putBytes_31 ?_
          refine lv_topi (fun y_18 ey_18 => ?_)
          have hsp := hsp.trans (slet_eq ey_18)
          refine va_iast hx hb hK hP hD hS 1 0 rfl rfl (vp_in_nI (n := (((tp + 1) + 1) + 1)) (by omega) (Nat.le_of_ble_eq_true rfl)) eX8_putBytes_32 (fun H locs hP hD hS => ?_)
          obtain ⟨f_19, ef_19, xf_19⟩ := up_x f_14 (n := (((tp + 1) + 1) + 1)) y_18 (by omega)
          have hP : va_P (dC, dI) vwCl (xt__w xa xtape (nI (((tp + 1) + 1) + 1)) rd au xdr hy g (nI hs) tg sg (nI ss) rm ti py bu sm k_ft f_19) H := by rw [← ef_19]; exact hP
          have hD : va_D A (xt__w xa xtape (nI (((tp + 1) + 1) + 1)) rd au xdr hy g (nI hs) tg sg (nI ss) rm ti py bu sm k_ft f_19) := by rw [← ef_19]; exact hD
          have hsp := hsp.trans (slet_eq xf_19)
          refine lv_aload_n hx hb eX8_putBytes_33 rfl (lv_at hl 1 rfl) ?_
          refine lv_dup hx hb eX8_putBytes_34 rfl ?_
          refine va_get (D := (dC, dI)) (ci := 8) (v := .int (nI (((tp + 1) + 1) + 1))) (C := RX8) (T := TX8) (N := 16) hx hb hts hiX8 hown hK hP 0 rfl rfl 1 (by decide) v_1 (fun _ h9 => h9) rfl eX8_putBytes_35 ?_
          refine lv_iconst (v := 1) hx hb eX8_putBytes_38 (by decide) ?_
          refine lv_iadd hx hb eX8_putBytes_39 ?_
          refine lv_topi (fun y_20 ey_20 => ?_)
          obtain rfl : y_20 = (nI ((((tp + 1) + 1) + 1) + 1)) := ey_20.trans (nI_add (((tp + 1) + 1) + 1) 1)
          refine va_put (D := (dC, dI)) (ci := 8) (v := .int (nI ((((tp + 1) + 1) + 1) + 1))) (ty := .int) (C := RX8) (T := TX8) (N := 16) hx hb hts hiX8 tyX8 tyX8_ok nmX8 hown hK hP hD hS 0 rfl rfl 1 (by decide) v_1 (fun _ h9 => h9) rfl (by decide +kernel) rfl rfl (Nat.le_of_ble_eq_true rfl) eX8_putBytes_40 (fun H locs hP hD hS => ?_)
          have hP : va_P (dC, dI) vwCl (xt__w xa xtape (nI ((((tp + 1) + 1) + 1) + 1)) rd au xdr hy g (nI hs) tg sg (nI ss) rm ti py bu sm k_ft f_19) H := hP
          have hD : va_D A (xt__w xa xtape (nI ((((tp + 1) + 1) + 1) + 1)) rd au xdr hy g (nI hs) tg sg (nI ss) rm ti py bu sm k_ft f_19) := hD
          refine lv_iinc (v := (-8)) (lv' := [(2, .int (-8)), (0, .ref xa), (1, .int p0)]) hx hb eX8_putBytes_43 hl (k := 0) rfl (by decide) (by decide) rfl (fun ls hl => ?_)
          refine lv_goto (tgt := 3) hx hb eX8_putBytes_46 (by decide) ?_
          refine lv_iload_n hx hb eX8_putBytes_3 rfl (lv_at hl 0 rfl) ?_
          refine lv_if_lt (tgt := 49) hx hb eX8_putBytes_4 (by decide) (fun _ => ?_) (fun z => absurd z (by decide))
          exact W.vret hx hb hr (fun t ht hW => ⟨⟨(), rfl, trivial, ⟨f_19, ⟨by rw [ht]; exact hP, va_K.moved hW.alike hK, hD⟩, (hsp.symm.trans hRR)⟩⟩, hS.F ht⟩) hS.2.2 eX8_putBytes_49
theorem eX8_feed_0 : decode cX8_feed 0 = .ok (.aload_n 0, 1) := by decide +kernel
theorem eX8_feed_1 : decode cX8_feed 1 = .ok (.getfield 79, 3) := by decide +kernel
theorem eX8_feed_4 : decode cX8_feed 4 = .ok (.bipush 20, 2) := by decide +kernel
theorem eX8_feed_6 : decode cX8_feed 6 = .ok (.iadd, 1) := by decide +kernel
theorem eX8_feed_7 : decode cX8_feed 7 = .ok (.sipush 900, 3) := by decide +kernel
theorem eX8_feed_10 : decode cX8_feed 10 = .ok (.if_icmp .le 5, 3) := by decide +kernel
theorem eX8_feed_13 : decode cX8_feed 13 = .ok (.iconst (-1), 1) := by decide +kernel
theorem eX8_feed_14 : decode cX8_feed 14 = .ok (.ireturn, 1) := by decide +kernel
theorem eX8_feed_15 : decode cX8_feed 15 = .ok (.aload_n 0, 1) := by decide +kernel
theorem eX8_feed_16 : decode cX8_feed 16 = .ok (.iload_n 1, 1) := by decide +kernel
theorem eX8_feed_17 : decode cX8_feed 17 = .ok (.invokevirtual 83, 3) := by decide +kernel
theorem eX8_feed_20 : decode cX8_feed 20 = .ok (.aload_n 0, 1) := by decide +kernel
theorem eX8_feed_21 : decode cX8_feed 21 = .ok (.iload_n 2, 1) := by decide +kernel
theorem eX8_feed_22 : decode cX8_feed 22 = .ok (.invokevirtual 83, 3) := by decide +kernel
theorem eX8_feed_25 : decode cX8_feed 25 = .ok (.aload_n 0, 1) := by decide +kernel
theorem eX8_feed_26 : decode cX8_feed 26 = .ok (.iload_n 3, 1) := by decide +kernel
theorem eX8_feed_27 : decode cX8_feed 27 = .ok (.invokevirtual 83, 3) := by decide +kernel
theorem eX8_feed_30 : decode cX8_feed 30 = .ok (.aload_n 0, 1) := by decide +kernel
theorem eX8_feed_31 : decode cX8_feed 31 = .ok (.iload 4, 2) := by decide +kernel
theorem eX8_feed_33 : decode cX8_feed 33 = .ok (.invokevirtual 83, 3) := by decide +kernel
theorem eX8_feed_36 : decode cX8_feed 36 = .ok (.aload_n 0, 1) := by decide +kernel
theorem eX8_feed_37 : decode cX8_feed 37 = .ok (.iload 5, 2) := by decide +kernel
theorem eX8_feed_39 : decode cX8_feed 39 = .ok (.invokevirtual 83, 3) := by decide +kernel
theorem eX8_feed_42 : decode cX8_feed 42 = .ok (.aload_n 0, 1) := by decide +kernel
theorem eX8_feed_43 : decode cX8_feed 43 = .ok (.getfield 79, 3) := by decide +kernel
theorem eX8_feed_46 : decode cX8_feed 46 = .ok (.ireturn, 1) := by decide +kernel
abbrev vs_E_8_feed : List Cond := .code yX8_feed cX8_feed 6 (some .int) :: CM
theorem g_E_8_feed_E_8_putBytes : GoodIn vs_E_8_feed (wsV RX8 83 RX8 yX8_putBytes vs_E_8_putBytes) := cm_gV cm_424 cm_425 cm_426 cm_427 cm_428
noncomputable def sp_E_8_feed (tp : Nat) (ft : Nat → Int32) (p0 : Int32) (p1 : Int32) (p2 : Int32) (p3 : Int32) (p4 : Int32) : (Nat → Int32) × Nat := (if (tp + 20) ≤ 900 then (slet (sp_E_8_putBytes tp ft p0) (fun z_ft_4 => (slet (sp_E_8_putBytes (tp + 4) z_ft_4 p1) (fun z_ft_6 => (slet (sp_E_8_putBytes ((tp + 4) + 4) z_ft_6 p2) (fun z_ft_8 => (slet (sp_E_8_putBytes (((tp + 4) + 4) + 4) z_ft_8 p3) (fun z_ft_10 => (slet (sp_E_8_putBytes ((((tp + 4) + 4) + 4) + 4) z_ft_10 p4) (fun z_ft_12 => (z_ft_12, (((((tp + 4) + 4) + 4) + 4) + 4)))))))))))) else (ft, tp))
set_option maxHeartbeats 4000000 in
set_option maxRecDepth 100000 in
theorem c_E_8_feed (l : Launch) (dC : Nat → ClassId) (dI : Nat → Nat → Nat) (sz : Nat) (xa : Nat) (xtape : Nat) (tp : Nat) (rd : Nat) (au : Nat) (xdr : Nat) (hy : Nat) (g : Nat) (hs : Nat) (tg : Nat) (sg : Nat) (ss : Nat) (rm : Nat) (ti : Nat) (py : Nat) (bu : Nat) (sm : Nat) (k_ft : ClassId) (ft : Nat → Int32) (p0 : Int32) (p1 : Int32) (p2 : Int32) (p3 : Int32) (p4 : Int32) (htp : tp ≤ 900) (hhs : hs ≤ 1) (hss : ss ≤ 1) : Met l yX8_feed vs_E_8_feed ({ frames := 1, cells := 0, slots := 0, locals := 22 }) (va_Pc [.ref xa, .int p0, .int p1, .int p2, .int p3, .int p4] (pu_B (dC, dI) (xt__w xa xtape (nI tp) rd au xdr hy g (nI hs) tg sg (nI ss) rm ti py bu sm k_ft ft) (xt__t k_ft) sz)) (va_Qi (fun (r : Int32) (_ : Unit) => r = (if tp + 20 ≤ 900 then nI (tp + 20) else -1)) (fun _ t => ∃ (z_ft : Nat → Int32) (z_tp : Nat), pu_E (dC, dI) (xt__w xa xtape (nI z_tp) rd au xdr hy g (nI hs) tg sg (nI ss) rm ti py bu sm k_ft z_ft) (xt__t k_ft) (va_A ((xt__w xa xtape (nI tp) rd au xdr hy g (nI hs) tg sg (nI ss) rm ti py bu sm k_ft ft)) sz) t ∧ (z_tp ≤ 900) ∧ (z_tp = (if tp + 20 ≤ 900 then tp + 20 else tp)) ∧ ((z_ft, z_tp) = (sp_E_8_feed tp ft p0 p1 p2 p3 p4))) (va_A ((xt__w xa xtape (nI tp) rd au xdr hy g (nI hs) tg sg (nI ss) rm ti py bu sm k_ft ft)) sz)) 0 0 (va_A ((xt__w xa xtape (nI tp) rd au xdr hy g (nI hs) tg sg (nI ss) rm ti py bu sm k_ft ft)) sz) := by
  refine Met.ofW (cc := cX8_feed) (maxL := 6) (ret := (some .int)) (by decide) rfl ?_
  intro p e s m args below meth c s₁ B hml hv
  obtain ⟨rfl, rfl, hP, hK, hD0⟩ := hv
  have hx := B.exec
  have hb := B.bytes
  have hr := B.returns
  have hts := atoms_spec (ws := vs_E_8_feed) B.pre
  have v_1 := hts (.fieldLink RX8 79 "ClockReach" "taped" "I") (List.mem_cons_of_mem _ cm_423)
  have hown : s.vm.findClass RX8 = some m.cls := findClass_of_methodNamed B.named
  have hlocks := B.notSynchronized
  have hiX8 : ∀ w ∈ wsX80, w ∈ vs_E_8_feed := fun _ h => List.mem_cons_of_mem _ (cm_X8 h)
  have hD := hD0.self (sz := s.heap.size)
  generalize hAe : va_A ((xt__w xa xtape (nI tp) rd au xdr hy g (nI hs) tg sg (nI ss) rm ti py bu sm k_ft ft)) s.heap.size = A at hD ⊢
  have hA : ∀ q : Nat, s.heap.size ≤ q → A q := fun q h => by rw [← hAe]; exact Or.inr h
  have hS : va_S A s.heap s.heap [] := va_S.rf
  have hl := lv_entry ([.ref xa, .int p0, .int p1, .int p2, .int p3, .int p4]) (n := 6) (Nat.le_of_ble_eq_true rfl)
  rw [lg_entry_eq]
  generalize (lg_sl ([.ref xa, .int p0, .int p1, .int p2, .int p3, .int p4]) ++ List.replicate (6 - (lg_sl ([.ref xa, .int p0, .int p1, .int p2, .int p3, .int p4])).length) Slot.unset).toArray = ls at hl ⊢
  have hl : lv_has ls 6 [(0, .ref xa), (1, .int p0), (2, .int p1), (3, .int p2), (4, .int p3), (5, .int p4)] := hl
  obtain ⟨RR, hRR⟩ : ∃ x, x = (sp_E_8_feed tp ft p0 p1 p2 p3 p4) := ⟨_, rfl⟩
  have hsp := hRR
  refine lv_aload_n hx hb eX8_feed_0 rfl (lv_at hl 0 rfl) ?_
  refine va_get (D := (dC, dI)) (ci := 8) (v := .int (nI tp)) (C := RX8) (T := TX8) (N := 16) hx hb hts hiX8 hown hK hP 0 rfl rfl 1 (by decide) v_1 (fun _ h9 => h9) rfl eX8_feed_1 ?_
  refine lv_bipush (v := 20) hx hb eX8_feed_4 (by decide) ?_
  refine lv_iadd hx hb eX8_feed_6 ?_
  refine lv_topi (fun y_1 ey_1 => ?_)
  obtain rfl : y_1 = (nI (tp + 20)) := ey_1.trans (nI_add tp 20)
  refine lv_sipush (v := 900) hx hb eX8_feed_7 (by decide) ?_
  refine lv_icmp_le (tgt := 15) hx hb eX8_feed_10 (by decide) (fun c_2 => ?_) (fun c_2 => ?_)
  · have c_2 : (tp + 20) ≤ 900 := (nI_leI (a := (tp + 20)) (b := 900) (by omega) (Nat.le_of_ble_eq_true rfl)).mp c_2
    have hsp := hsp.trans (if_pos c_2)
    refine lv_aload_n hx hb eX8_feed_15 rfl (lv_at hl 0 rfl) ?_
    refine lv_iload_n hx hb eX8_feed_16 rfl (lv_at hl 1 rfl) ?_
    have hFc := pu_free hD hS hA
    refine va_callv (va_runV (As := [.int p0]) (rest := []) ⟨hx, hb, hml, hown, hts⟩ (c_E_8_putBytes l dC dI _ xa xtape tp rd au xdr hy g hs tg sg ss rm ti py bu sm k_ft ft p0 (by omega) hhs hss) (cwV 1 hts g_E_8_feed_E_8_putBytes rfl rfl rfl (by decide +kernel) ⟨Nat.le_of_ble_eq_true rfl, Nat.le_of_ble_eq_true rfl⟩) ⟨pu_bl, va_recv hK hP (ci := 8) (q0 := 0) rfl rfl, pu_in hP hK hD⟩ rfl rfl hl.1 rfl (lv_room (Nat.le_of_ble_eq_true rfl)) eX8_feed_17 ⟨Nat.le_of_ble_eq_true rfl, Nat.le_of_ble_eq_true rfl⟩) hS (fun q _ h => hFc q h) hFc (fun u t H1 locs ht hvm hw hB hz1 hk1 hS => ?_)
    obtain ⟨z_ft_4, ⟨hP1, -, hD1⟩, xr_3_0⟩ := hB
    rw [ht] at hP1
    have hP := hP1
    have hD := pu_all hFc hD1
    clear hP1 hD1 hFc
    clear hk1 hz1 ht hvm
    generalize H1 = H at hP hS ⊢
    have hsp := hsp.trans (slet_eq xr_3_0)
    refine lv_aload_n hx hb eX8_feed_20 rfl (lv_at hl 0 rfl) ?_
    refine lv_iload_n hx hb eX8_feed_21 rfl (lv_at hl 2 rfl) ?_
    have hFc := pu_free hD hS hA
    refine va_callv (va_runV (As := [.int p1]) (rest := []) ⟨hx, hb, hml, hown, hts⟩ (c_E_8_putBytes l dC dI _ xa xtape (tp + 4) rd au xdr hy g hs tg sg ss rm ti py bu sm k_ft z_ft_4 p1 (by omega) hhs hss) (cwV 1 hts g_E_8_feed_E_8_putBytes rfl rfl rfl (by decide +kernel) ⟨Nat.le_of_ble_eq_true rfl, Nat.le_of_ble_eq_true rfl⟩) ⟨pu_bl, va_recv hK hP (ci := 8) (q0 := 0) rfl rfl, pu_in hP hK hD⟩ rfl rfl hl.1 rfl (lv_room (Nat.le_of_ble_eq_true rfl)) eX8_feed_22 ⟨Nat.le_of_ble_eq_true rfl, Nat.le_of_ble_eq_true rfl⟩) hS (fun q _ h => hFc q h) hFc (fun u t H1 locs ht hvm hw hB hz1 hk1 hS => ?_)
    obtain ⟨z_ft_6, ⟨hP1, -, hD1⟩, xr_5_0⟩ := hB
    rw [ht] at hP1
    have hP := hP1
    have hD := pu_all hFc hD1
    clear hP1 hD1 hFc
    clear hk1 hz1 ht hvm
    generalize H1 = H at hP hS ⊢
    have hsp := hsp.trans (slet_eq xr_5_0)
    refine lv_aload_n hx hb eX8_feed_25 rfl (lv_at hl 0 rfl) ?_
    refine lv_iload_n hx hb eX8_feed_26 rfl (lv_at hl 3 rfl) ?_
    have hFc := pu_free hD hS hA
    refine va_callv (va_runV (As := [.int p2]) (rest := []) ⟨hx, hb, hml, hown, hts⟩ (c_E_8_putBytes l dC dI _ xa xtape ((tp + 4) + 4) rd au xdr hy g hs tg sg ss rm ti py bu sm k_ft z_ft_6 p2 (by omega) hhs hss) (cwV 1 hts g_E_8_feed_E_8_putBytes rfl rfl rfl (by decide +kernel) ⟨Nat.le_of_ble_eq_true rfl, Nat.le_of_ble_eq_true rfl⟩) ⟨pu_bl, va_recv hK hP (ci := 8) (q0 := 0) rfl rfl, pu_in hP hK hD⟩ rfl rfl hl.1 rfl (lv_room (Nat.le_of_ble_eq_true rfl)) eX8_feed_27 ⟨Nat.le_of_ble_eq_true rfl, Nat.le_of_ble_eq_true rfl⟩) hS (fun q _ h => hFc q h) hFc (fun u t H1 locs ht hvm hw hB hz1 hk1 hS => ?_)
    obtain ⟨z_ft_8, ⟨hP1, -, hD1⟩, xr_7_0⟩ := hB
    rw [ht] at hP1
    have hP := hP1
    have hD := pu_all hFc hD1
    clear hP1 hD1 hFc
    clear hk1 hz1 ht hvm
    generalize H1 = H at hP hS ⊢
    have hsp := hsp.trans (slet_eq xr_7_0)
    refine lv_aload_n hx hb eX8_feed_30 rfl (lv_at hl 0 rfl) ?_
    refine lv_iload hx hb eX8_feed_31 (lv_at hl 4 rfl) ?_
    have hFc := pu_free hD hS hA
    refine va_callv (va_runV (As := [.int p3]) (rest := []) ⟨hx, hb, hml, hown, hts⟩ (c_E_8_putBytes l dC dI _ xa xtape (((tp + 4) + 4) + 4) rd au xdr hy g hs tg sg ss rm ti py bu sm k_ft z_ft_8 p3 (by omega) hhs hss) (cwV 1 hts g_E_8_feed_E_8_putBytes rfl rfl rfl (by decide +kernel) ⟨Nat.le_of_ble_eq_true rfl, Nat.le_of_ble_eq_true rfl⟩) ⟨pu_bl, va_recv hK hP (ci := 8) (q0 := 0) rfl rfl, pu_in hP hK hD⟩ rfl rfl hl.1 rfl (lv_room (Nat.le_of_ble_eq_true rfl)) eX8_feed_33 ⟨Nat.le_of_ble_eq_true rfl, Nat.le_of_ble_eq_true rfl⟩) hS (fun q _ h => hFc q h) hFc (fun u t H1 locs ht hvm hw hB hz1 hk1 hS => ?_)
    obtain ⟨z_ft_10, ⟨hP1, -, hD1⟩, xr_9_0⟩ := hB
    rw [ht] at hP1
    have hP := hP1
    have hD := pu_all hFc hD1
    clear hP1 hD1 hFc
    clear hk1 hz1 ht hvm
    generalize H1 = H at hP hS ⊢
    have hsp := hsp.trans (slet_eq xr_9_0)
    refine lv_aload_n hx hb eX8_feed_36 rfl (lv_at hl 0 rfl) ?_
    refine lv_iload hx hb eX8_feed_37 (lv_at hl 5 rfl) ?_
    have hFc := pu_free hD hS hA
    refine va_callv (va_runV (As := [.int p4]) (rest := []) ⟨hx, hb, hml, hown, hts⟩ (c_E_8_putBytes l dC dI _ xa xtape ((((tp + 4) + 4) + 4) + 4) rd au xdr hy g hs tg sg ss rm ti py bu sm k_ft z_ft_10 p4 (by omega) hhs hss) (cwV 1 hts g_E_8_feed_E_8_putBytes rfl rfl rfl (by decide +kernel) ⟨Nat.le_of_ble_eq_true rfl, Nat.le_of_ble_eq_true rfl⟩) ⟨pu_bl, va_recv hK hP (ci := 8) (q0 := 0) rfl rfl, pu_in hP hK hD⟩ rfl rfl hl.1 rfl (lv_room (Nat.le_of_ble_eq_true rfl)) eX8_feed_39 ⟨Nat.le_of_ble_eq_true rfl, Nat.le_of_ble_eq_true rfl⟩) hS (fun q _ h => hFc q h) hFc (fun u t H1 locs ht hvm hw hB hz1 hk1 hS => ?_)
    obtain ⟨z_ft_12, ⟨hP1, -, hD1⟩, xr_11_0⟩ := hB
    rw [ht] at hP1
    have hP := hP1
    have hD := pu_all hFc hD1
    clear hP1 hD1 hFc
    clear hk1 hz1 ht hvm
    generalize H1 = H at hP hS ⊢
    have hsp := hsp.trans (slet_eq xr_11_0)
    refine lv_aload_n hx hb eX8_feed_42 rfl (lv_at hl 0 rfl) ?_
    refine va_get (D := (dC, dI)) (ci := 8) (v := .int (nI (((((tp + 4) + 4) + 4) + 4) + 4))) (C := RX8) (T := TX8) (N := 16) hx hb hts hiX8 hown hK hP 0 rfl rfl 1 (by decide) v_1 (fun _ h9 => h9) rfl eX8_feed_43 ?_
    exact W.iret (v := (nI (((((tp + 4) + 4) + 4) + 4) + 4))) hx hb hr (fun t ht hW => ⟨⟨(nI (((((tp + 4) + 4) + 4) + 4) + 4)), (), rfl, by first | rw [if_pos (by omega)] | rw [if_neg (by omega)], ⟨z_ft_12, (((((tp + 4) + 4) + 4) + 4) + 4), ⟨by rw [ht]; exact hP, va_K.moved hW.alike hK, hD⟩, (by omega), by first | rw [if_pos (by omega)] | rw [if_neg (by omega)], (hsp.symm.trans hRR)⟩⟩, hS.F ht⟩) hS.2.2 eX8_feed_46
  · have c_2 : ¬ (tp + 20) ≤ 900 := fun z => c_2 ((nI_leI (a := (tp + 20)) (b := 900) (by omega) (Nat.le_of_ble_eq_true rfl)).mpr z)
    have hsp := hsp.trans (if_neg c_2)
    refine lv_iconst (v := (-1)) hx hb eX8_feed_13 (by decide) ?_
    exact W.iret (v := (-1)) hx hb hr (fun t ht hW => ⟨⟨(-1), (), rfl, by first | rw [if_pos (by omega)] | rw [if_neg (by omega)], ⟨ft, tp, ⟨by rw [ht]; exact hP, va_K.moved hW.alike hK, hD⟩, htp, by first | rw [if_pos (by omega)] | rw [if_neg (by omega)], (hsp.symm.trans hRR)⟩⟩, hS.F ht⟩) hS.2.2 eX8_feed_14
theorem eX8_end_0 : decode cX8_end 0 = .ok (.iload_n 1, 1) := by decide +kernel
theorem eX8_end_1 : decode cX8_end 1 = .ok (.ifCond .lt 11, 3) := by decide +kernel
theorem eX8_end_4 : decode cX8_end 4 = .ok (.iload_n 1, 1) := by decide +kernel
theorem eX8_end_5 : decode cX8_end 5 = .ok (.aload_n 0, 1) := by decide +kernel
theorem eX8_end_6 : decode cX8_end 6 = .ok (.getfield 79, 3) := by decide +kernel
theorem eX8_end_9 : decode cX8_end 9 = .ok (.if_icmp .le 5, 3) := by decide +kernel
theorem eX8_end_12 : decode cX8_end 12 = .ok (.iconst (-1), 1) := by decide +kernel
theorem eX8_end_13 : decode cX8_end 13 = .ok (.ireturn, 1) := by decide +kernel
theorem eX8_end_14 : decode cX8_end 14 = .ok (.aload_n 0, 1) := by decide +kernel
theorem eX8_end_15 : decode cX8_end 15 = .ok (.iload_n 1, 1) := by decide +kernel
theorem eX8_end_16 : decode cX8_end 16 = .ok (.putfield 79, 3) := by decide +kernel
theorem eX8_end_19 : decode cX8_end 19 = .ok (.iload_n 1, 1) := by decide +kernel
theorem eX8_end_20 : decode cX8_end 20 = .ok (.ireturn, 1) := by decide +kernel
abbrev vs_E_8_end : List Cond := .code yX8_end cX8_end 2 (some .int) :: CM
noncomputable def sp_E_8_end (tp : Nat) (p0 : Int32) : Nat := (if (p0 : Int32) < 0 then tp else (if (p0 : Int32) ≤ (nI tp) then (slet ((p0 : Int32).toNatClampNeg) (fun n_3 => n_3)) else tp))
set_option maxHeartbeats 4000000 in
set_option maxRecDepth 100000 in
theorem c_E_8_end (l : Launch) (dC : Nat → ClassId) (dI : Nat → Nat → Nat) (sz : Nat) (xa : Nat) (xtape : Nat) (tp : Nat) (rd : Nat) (au : Nat) (xdr : Nat) (hy : Nat) (g : Nat) (hs : Nat) (tg : Nat) (sg : Nat) (ss : Nat) (rm : Nat) (ti : Nat) (py : Nat) (bu : Nat) (sm : Nat) (k_ft : ClassId) (ft : Nat → Int32) (p0 : Int32) (htp : tp ≤ 900) (hhs : hs ≤ 1) (hss : ss ≤ 1) : Met l yX8_end vs_E_8_end ({ frames := 0, cells := 0, slots := 0, locals := 0 }) (va_Pc [.ref xa, .int p0] (pu_B (dC, dI) (xt__w xa xtape (nI tp) rd au xdr hy g (nI hs) tg sg (nI ss) rm ti py bu sm k_ft ft) (xt__t k_ft) sz)) (va_Qi (fun (r : Int32) (_ : Unit) => r = (if 0 ≤ p0 ∧ p0 ≤ nI tp then p0 else -1)) (fun _ t => ∃ (z_tp : Nat), pu_E (dC, dI) (xt__w xa xtape (nI z_tp) rd au xdr hy g (nI hs) tg sg (nI ss) rm ti py bu sm k_ft ft) (xt__t k_ft) (va_A ((xt__w xa xtape (nI tp) rd au xdr hy g (nI hs) tg sg (nI ss) rm ti py bu sm k_ft ft)) sz) t ∧ (z_tp ≤ 900) ∧ (nI z_tp = (if 0 ≤ p0 ∧ p0 ≤ nI tp then p0 else nI tp)) ∧ (z_tp ≤ tp) ∧ (z_tp = (sp_E_8_end tp p0))) (va_A ((xt__w xa xtape (nI tp) rd au xdr hy g (nI hs) tg sg (nI ss) rm ti py bu sm k_ft ft)) sz)) 0 0 (va_A ((xt__w xa xtape (nI tp) rd au xdr hy g (nI hs) tg sg (nI ss) rm ti py bu sm k_ft ft)) sz) := by
  refine Met.ofW (cc := cX8_end) (maxL := 2) (ret := (some .int)) (by decide) rfl ?_
  intro p e s m args below meth c s₁ B hml hv
  obtain ⟨rfl, rfl, hP, hK, hD0⟩ := hv
  have hx := B.exec
  have hb := B.bytes
  have hr := B.returns
  have hts := atoms_spec (ws := vs_E_8_end) B.pre
  have v_1 := hts (.fieldLink RX8 79 "ClockReach" "taped" "I") (List.mem_cons_of_mem _ cm_423)
  have hown : s.vm.findClass RX8 = some m.cls := findClass_of_methodNamed B.named
  have hlocks := B.notSynchronized
  have hiX8 : ∀ w ∈ wsX80, w ∈ vs_E_8_end := fun _ h => List.mem_cons_of_mem _ (cm_X8 h)
  have hD := hD0.self (sz := s.heap.size)
  generalize hAe : va_A ((xt__w xa xtape (nI tp) rd au xdr hy g (nI hs) tg sg (nI ss) rm ti py bu sm k_ft ft)) s.heap.size = A at hD ⊢
  have hA : ∀ q : Nat, s.heap.size ≤ q → A q := fun q h => by rw [← hAe]; exact Or.inr h
  have hS : va_S A s.heap s.heap [] := va_S.rf
  have hl := lv_entry ([.ref xa, .int p0]) (n := 2) (Nat.le_of_ble_eq_true rfl)
  rw [lg_entry_eq]
  generalize (lg_sl ([.ref xa, .int p0]) ++ List.replicate (2 - (lg_sl ([.ref xa, .int p0])).length) Slot.unset).toArray = ls at hl ⊢
  have hl : lv_has ls 2 [(0, .ref xa), (1, .int p0)] := hl
  obtain ⟨RR, hRR⟩ : ∃ x, x = (sp_E_8_end tp p0) := ⟨_, rfl⟩
  have hsp := hRR
  refine lv_iload_n hx hb eX8_end_0 rfl (lv_at hl 1 rfl) ?_
  refine lv_if_lt (tgt := 12) hx hb eX8_end_1 (by decide) (fun c_1 => ?_) (fun c_1 => ?_)
  · have hcc_1 := c_1
    have hsp := hsp.trans (if_pos c_1)
    refine lv_iconst (v := (-1)) hx hb eX8_end_12 (by decide) ?_
    exact W.iret (v := (-1)) hx hb hr (fun t ht hW => ⟨⟨(-1), (), rfl, by first | exact (if_neg (fun h => absurd h.1 (Int32.not_le.mpr c_1))).symm | exact (if_neg (fun h => c_2 h.2)).symm, ⟨tp, ⟨by rw [ht]; exact hP, va_K.moved hW.alike hK, hD⟩, htp, by first | exact (if_neg (fun h => absurd h.1 (Int32.not_le.mpr c_1))).symm | exact (if_neg (fun h => c_2 h.2)).symm, by omega, (hsp.symm.trans hRR)⟩⟩, hS.F ht⟩) hS.2.2 eX8_end_13
  · have hcc_1 := c_1
    have hsp := hsp.trans (if_neg c_1)
    have lp0 : ¬ p0 < 0 := c_1
    refine lv_iload_n hx hb eX8_end_4 rfl (lv_at hl 1 rfl) ?_
    refine lv_aload_n hx hb eX8_end_5 rfl (lv_at hl 0 rfl) ?_
    refine va_get (D := (dC, dI)) (ci := 8) (v := .int (nI tp)) (C := RX8) (T := TX8) (N := 16) hx hb hts hiX8 hown hK hP 0 rfl rfl 1 (by decide) v_1 (fun _ h9 => h9) rfl eX8_end_6 ?_
    refine lv_icmp_le (tgt := 14) hx hb eX8_end_9 (by decide) (fun c_2 => ?_) (fun c_2 => ?_)
    · have hcc_2 := c_2
      have hsp := hsp.trans (if_pos c_2)
      obtain ⟨n_3, hn_3, rfl⟩ := pu_ule (b := tp) (by omega) lp0 (c_2)
      have hsp := hsp.trans (slet_eq (nI_cl (n := n_3) (by omega)))
      refine lv_aload_n hx hb eX8_end_14 rfl (lv_at hl 0 rfl) ?_
      refine lv_iload_n hx hb eX8_end_15 rfl (lv_at hl 1 rfl) ?_
      refine va_put (D := (dC, dI)) (ci := 8) (v := .int (nI n_3)) (ty := .int) (C := RX8) (T := TX8) (N := 16) hx hb hts hiX8 tyX8 tyX8_ok nmX8 hown hK hP hD hS 0 rfl rfl 1 (by decide) v_1 (fun _ h9 => h9) rfl (by decide +kernel) rfl rfl (Nat.le_of_ble_eq_true rfl) eX8_end_16 (fun H locs hP hD hS => ?_)
      have hP : va_P (dC, dI) vwCl (xt__w xa xtape (nI n_3) rd au xdr hy g (nI hs) tg sg (nI ss) rm ti py bu sm k_ft ft) H := hP
      have hD : va_D A (xt__w xa xtape (nI n_3) rd au xdr hy g (nI hs) tg sg (nI ss) rm ti py bu sm k_ft ft) := hD
      refine lv_iload_n hx hb eX8_end_19 rfl (lv_at hl 1 rfl) ?_
      exact W.iret (v := (nI n_3)) hx hb hr (fun t ht hW => ⟨⟨(nI n_3), (), rfl, (if_pos ⟨nI_pos' (by omega), nI_le (by omega) (by omega)⟩).symm, ⟨n_3, ⟨by rw [ht]; exact hP, va_K.moved hW.alike hK, hD⟩, (by omega), (if_pos ⟨nI_pos' (by omega), nI_le (by omega) (by omega)⟩).symm, by omega, (hsp.symm.trans hRR)⟩⟩, hS.F ht⟩) hS.2.2 eX8_end_20
    · have hcc_2 := c_2
      have hsp := hsp.trans (if_neg c_2)
      refine lv_iconst (v := (-1)) hx hb eX8_end_12 (by decide) ?_
      exact W.iret (v := (-1)) hx hb hr (fun t ht hW => ⟨⟨(-1), (), rfl, by first | exact (if_neg (fun h => absurd h.1 (Int32.not_le.mpr c_1))).symm | exact (if_neg (fun h => c_2 h.2)).symm, ⟨tp, ⟨by rw [ht]; exact hP, va_K.moved hW.alike hK, hD⟩, htp, by first | exact (if_neg (fun h => absurd h.1 (Int32.not_le.mpr c_1))).symm | exact (if_neg (fun h => c_2 h.2)).symm, by omega, (hsp.symm.trans hRR)⟩⟩, hS.F ht⟩) hS.2.2 eX8_end_13
abbrev vs_E_8_isPlace_k : List Cond := .code yX8_isPlace cX8_isPlace 2 (some .boolean) :: CM
noncomputable def sp_E_8_isPlace_k (np : Nat) (a0 : Nat) : Nat := (if np ≤ a0 then 0 else 1)
set_option maxHeartbeats 4000000 in
set_option maxRecDepth 100000 in
theorem c_E_8_isPlace_k (l : Launch) (dC : Nat → ClassId) (dI : Nat → Nat → Nat) (sz : Nat) (xa : Nat) (xtape : Nat) (tp : Nat) (rd : Nat) (au : Nat) (xdr : Nat) (hy : Nat) (g : Nat) (hs : Nat) (tg : Nat) (sg : Nat) (ss : Nat) (rm : Nat) (ti : Nat) (py : Nat) (bu : Nat) (sm : Nat) (nc : Nat) (np : Nat) (ne : Nat) (st0 : Int32) (q4 : Nat) (q5 : Nat) (q6 : Nat) (q7 : Nat) (q8 : Nat) (q9 : Nat) (q10 : Nat) (q11 : Nat) (q12 : Nat) (q13 : Nat) (q14 : Nat) (q15 : Nat) (q16 : Nat) (a0 : Nat) (htp : tp ≤ 900) (hhs : hs ≤ 1) (hss : ss ≤ 1) (hnc : nc ≤ 3) (hnp : np ≤ 8) (hne : ne ≤ 14) (hst0 : pm1 7 st0) (ha0 : a0 ≤ 7) : Met l yX8_isPlace vs_E_8_isPlace_k ({ frames := 0, cells := 0, slots := 0, locals := 0 }) (va_Pc [.ref xa, .int (nI a0)] (pu_B (dC, dI) (xo__w xa xtape (nI tp) rd au xdr hy g (nI hs) tg sg (nI ss) rm ti py bu sm (nI nc) (nI np) (nI ne) st0 q4 q5 q6 q7 q8 q9 q10 q11 q12 q13 q14 q15 q16) (xo__t ) sz)) (va_Qi (fun (r : Int32) (_ : Unit) => ∃ v : Nat, v ≤ 1 ∧ r = nI v ∧ v = (sp_E_8_isPlace_k np a0)) (fun _ _ => True) (va_A [] sz)) 0 0 (va_A [] sz) := by
  refine Met.ofW (cc := cX8_isPlace) (maxL := 2) (ret := (some .boolean)) (by decide) rfl ?_
  intro p e s m args below meth c s₁ B hml hv
  obtain ⟨rfl, rfl, hP, hK, hD0⟩ := hv
  have hx := B.exec
  have hb := B.bytes
  have hr := B.returns
  have hts := atoms_spec (ws := vs_E_8_isPlace_k) B.pre
  have v_1 := hts (.fieldLink RX8 23 "ClockReach" "model" "LClockReach$Automaton;") (List.mem_cons_of_mem _ cm_434)
  have v_2 := hts (.fieldLink RX8 97 "ClockReach$Automaton" "places" "I") (List.mem_cons_of_mem _ cm_437)
  have hown : s.vm.findClass RX8 = some m.cls := findClass_of_methodNamed B.named
  have hlocks := B.notSynchronized
  have hiX0 : ∀ w ∈ wsX00, w ∈ vs_E_8_isPlace_k := fun _ h => List.mem_cons_of_mem _ (cm_X0 h)
  have hiX8 : ∀ w ∈ wsX80, w ∈ vs_E_8_isPlace_k := fun _ h => List.mem_cons_of_mem _ (cm_X8 h)
  have hD := hD0
  have hA : ∀ q : Nat, s.heap.size ≤ q → va_A [] s.heap.size q := fun _ h => Or.inr h
  have hS : va_S (va_A [] s.heap.size) s.heap s.heap [] := va_S.rf
  have hl := lv_entry ([.ref xa, .int (nI a0)]) (n := 2) (Nat.le_of_ble_eq_true rfl)
  rw [lg_entry_eq]
  generalize (lg_sl ([.ref xa, .int (nI a0)]) ++ List.replicate (2 - (lg_sl ([.ref xa, .int (nI a0)])).length) Slot.unset).toArray = ls at hl ⊢
  have hl : lv_has ls 2 [(0, .ref xa), (1, .int (nI a0))] := hl
  obtain ⟨RR, hRR⟩ : ∃ x, x = (sp_E_8_isPlace_k np a0) := ⟨_, rfl⟩
  have hsp := hRR
  refine lv_iload_n hx hb eX8_isPlace_0 rfl (lv_at hl 1 rfl) ?_
  refine lv_if_lt (tgt := 19) hx hb eX8_isPlace_1 (by decide) (fun c_1 => ?_) (fun c_1 => ?_)
  · have c_1 : a0 < 0 := (nI_ltI (a := a0) (b := 0) (Nat.lt_of_le_of_lt ha0 (Nat.le_of_ble_eq_true rfl)) (Nat.le_of_ble_eq_true rfl)).mp c_1
    exfalso
    omega
  · have c_1 : ¬ a0 < 0 := fun z => c_1 ((nI_ltI (a := a0) (b := 0) (Nat.lt_of_le_of_lt ha0 (Nat.le_of_ble_eq_true rfl)) (Nat.le_of_ble_eq_true rfl)).mpr z)
    refine lv_iload_n hx hb eX8_isPlace_4 rfl (lv_at hl 1 rfl) ?_
    refine lv_aload_n hx hb eX8_isPlace_5 rfl (lv_at hl 0 rfl) ?_
    refine va_get (D := (dC, dI)) (ci := 8) (v := .ref au) (C := RX8) (T := TX8) (N := 16) hx hb hts hiX8 hown hK hP 0 rfl rfl 3 (by decide) v_1 (fun _ h9 => h9) rfl eX8_isPlace_6 ?_
    refine va_get (D := (dC, dI)) (ci := 0) (v := .int (nI np)) (C := RX0) (T := TX0) (N := 17) hx hb hts hiX0 hown hK hP 1 rfl rfl 1 (by decide) v_2 (fun _ h9 => h9) rfl eX8_isPlace_9 ?_
    refine lv_icmp_ge (tgt := 19) hx hb eX8_isPlace_12 (by decide) (fun c_2 => ?_) (fun c_2 => ?_)
    · have c_2 : np ≤ a0 := (nI_leI (a := np) (b := a0) (Nat.lt_of_le_of_lt hnp (Nat.le_of_ble_eq_true rfl)) (Nat.lt_of_le_of_lt ha0 (Nat.le_of_ble_eq_true rfl))).mp c_2
      have hsp := hsp.trans (if_pos c_2)
      refine lv_iconst (v := 0) hx hb eX8_isPlace_19 (by decide) ?_
      exact W.zret (v := 0) (ty := .boolean) hx hb hr (rfl) (fun t ht hW => ⟨⟨0, (), rfl, ⟨0, (Nat.le_of_ble_eq_true rfl), rfl, (hsp.symm.trans hRR)⟩, trivial⟩, hS.F ht⟩) hS.2.2 eX8_isPlace_20
    · have c_2 : ¬ np ≤ a0 := fun z => c_2 ((nI_leI (a := np) (b := a0) (Nat.lt_of_le_of_lt hnp (Nat.le_of_ble_eq_true rfl)) (Nat.lt_of_le_of_lt ha0 (Nat.le_of_ble_eq_true rfl))).mpr z)
      have hsp := hsp.trans (if_neg c_2)
      refine lv_iconst (v := 1) hx hb eX8_isPlace_15 (by decide) ?_
      refine lv_goto (tgt := 20) hx hb eX8_isPlace_16 (by decide) ?_
      exact W.zret (v := 1) (ty := .boolean) hx hb hr (rfl) (fun t ht hW => ⟨⟨1, (), rfl, ⟨1, (Nat.le_of_ble_eq_true rfl), rfl, (hsp.symm.trans hRR)⟩, trivial⟩, hS.F ht⟩) hS.2.2 eX8_isPlace_20
