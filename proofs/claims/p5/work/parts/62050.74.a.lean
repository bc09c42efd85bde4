theorem eX8_isState_0 : decode cX8_isState 0 = .ok (.aload_n 0, 1) := by decide +kernel
theorem eX8_isState_1 : decode cX8_isState 1 = .ok (.getfield 100, 3) := by decide +kernel
theorem eX8_isState_4 : decode cX8_isState 4 = .ok (.ifCond .eq 22, 3) := by decide +kernel
theorem eX8_isState_7 : decode cX8_isState 7 = .ok (.iload_n 1, 1) := by decide +kernel
theorem eX8_isState_8 : decode cX8_isState 8 = .ok (.ifCond .lt 18, 3) := by decide +kernel
theorem eX8_isState_11 : decode cX8_isState 11 = .ok (.iload_n 1, 1) := by decide +kernel
theorem eX8_isState_12 : decode cX8_isState 12 = .ok (.aload_n 0, 1) := by decide +kernel
theorem eX8_isState_13 : decode cX8_isState 13 = .ok (.getfield 42, 3) := by decide +kernel
theorem eX8_isState_16 : decode cX8_isState 16 = .ok (.getfield 129, 3) := by decide +kernel
theorem eX8_isState_19 : decode cX8_isState 19 = .ok (.if_icmp .ge 7, 3) := by decide +kernel
theorem eX8_isState_22 : decode cX8_isState 22 = .ok (.iconst 1, 1) := by decide +kernel
theorem eX8_isState_23 : decode cX8_isState 23 = .ok (.goto 4, 3) := by decide +kernel
theorem eX8_isState_26 : decode cX8_isState 26 = .ok (.iconst 0, 1) := by decide +kernel
theorem eX8_isState_27 : decode cX8_isState 27 = .ok (.ireturn, 1) := by decide +kernel
abbrev vs_E_8_isState_k : List Cond := .code yX8_isState cX8_isState 2 (some .boolean) :: CM
noncomputable def sp_E_8_isState_k (hs : Nat) (gc : Nat) (a0 : Nat) : Nat := (if hs = 0 then 0 else (if gc ≤ a0 then 0 else 1))
set_option maxHeartbeats 4000000 in
set_option maxRecDepth 100000 in
theorem c_E_8_isState_k (l : Launch) (dC : Nat → ClassId) (dI : Nat → Nat → Nat) (sz : Nat) (xa : Nat) (xtape : Nat) (tp : Nat) (rd : Nat) (au : Nat) (xdr : Nat) (hy : Nat) (g : Nat) (hs : Nat) (tg : Nat) (sg : Nat) (ss : Nat) (rm : Nat) (ti : Nat) (py : Nat) (bu : Nat) (sm : Nat) (gz : Nat) (g1 : Nat) (g2 : Nat) (g3 : Nat) (g4 : Nat) (g5 : Nat) (gc : Nat) (gfull : Nat) (gx : Int32) (gway : Int32) (gav : Int32) (ggoal : Int32) (gfound : Nat) (gl : Nat) (gsz : Nat) (g16 : Nat) (g17 : Nat) (a0 : Nat) (htp : tp ≤ 900) (hhs : hs ≤ 1) (hss : ss ≤ 1) (hgc : gc ≤ 120) (hgfull : gfull ≤ 1) (hgfound : gfound ≤ 1) (hgl : gl ≤ 1) (hgsz : gsz ≤ 4) (ha0 : a0 ≤ 119) : Met l yX8_isState vs_E_8_isState_k ({ frames := 0, cells := 0, slots := 0, locals := 0 }) (va_Pc [.ref xa, .int (nI a0)] (pu_B (dC, dI) (xg0__w xa xtape (nI tp) rd au xdr hy g (nI hs) tg sg (nI ss) rm ti py bu sm gz g1 g2 g3 g4 g5 (nI gc) (nI gfull) gx gway gav ggoal (nI gfound) 120 (nI gl) (nI gsz) g16 g17) (xg0__t ) sz)) (va_Qi (fun (r : Int32) (_ : Unit) => ∃ v : Nat, v ≤ 1 ∧ r = nI v ∧ v = (sp_E_8_isState_k hs gc a0)) (fun _ _ => True) (va_A [] sz)) 0 0 (va_A [] sz) := by
  refine Met.ofW (cc := cX8_isState) (maxL := 2) (ret := (some .boolean)) (by decide) rfl ?_
  intro p e s m args below meth c s₁ B hml hv
  obtain ⟨rfl, rfl, hP, hK, hD0⟩ := hv
  have hx := B.exec
  have hb := B.bytes
  have hr := B.returns
  have hts := atoms_spec (ws := vs_E_8_isState_k) B.pre
  have v_1 := hts (.fieldLink RX8 100 "ClockReach" "hasShown" "Z") (List.mem_cons_of_mem _ cm_445)
  have v_2 := hts (.fieldLink RX8 42 "ClockReach" "shown" "LClockReach$Graph;") (List.mem_cons_of_mem _ cm_456)
  have v_3 := hts (.fieldLink RX8 129 "ClockReach$Graph" "count" "I") (List.mem_cons_of_mem _ cm_457)
  have hown : s.vm.findClass RX8 = some m.cls := findClass_of_methodNamed B.named
  have hlocks := B.notSynchronized
  have hiX1 : ∀ w ∈ wsX10, w ∈ vs_E_8_isState_k := fun _ h => List.mem_cons_of_mem _ (cm_X1 h)
  have hiX8 : ∀ w ∈ wsX80, w ∈ vs_E_8_isState_k := fun _ h => List.mem_cons_of_mem _ (cm_X8 h)
  have hD := hD0
  have hA : ∀ q : Nat, s.heap.size ≤ q → va_A [] s.heap.size q := fun _ h => Or.inr h
  have hS : va_S (va_A [] s.heap.size) s.heap s.heap [] := va_S.rf
  have hl := lv_entry ([.ref xa, .int (nI a0)]) (n := 2) (Nat.le_of_ble_eq_true rfl)
  rw [lg_entry_eq]
  generalize (lg_sl ([.ref xa, .int (nI a0)]) ++ List.replicate (2 - (lg_sl ([.ref xa, .int (nI a0)])).length) Slot.unset).toArray = ls at hl ⊢
  have hl : lv_has ls 2 [(0, .ref xa), (1, .int (nI a0))] := hl
  obtain ⟨RR, hRR⟩ : ∃ x, x = (sp_E_8_isState_k hs gc a0) := ⟨_, rfl⟩
  have hsp := hRR
  refine lv_aload_n hx hb eX8_isState_0 rfl (lv_at hl 0 rfl) ?_
  refine va_get (D := (dC, dI)) (ci := 8) (v := .int (nI hs)) (C := RX8) (T := TX8) (N := 16) hx hb hts hiX8 hown hK hP 0 rfl rfl 7 (by decide) v_1 (fun _ h9 => h9) rfl eX8_isState_1 ?_
  refine lv_if_eq (tgt := 26) hx hb eX8_isState_4 (by decide) (fun c_1 => ?_) (fun c_1 => ?_)
  · have c_1 : hs = 0 := (nI_eq (a := hs) (b := 0) (Nat.lt_of_le_of_lt hhs (Nat.le_of_ble_eq_true rfl)) (Nat.le_of_ble_eq_true rfl)).mp c_1
    have hsp := hsp.trans (if_pos c_1)
    refine lv_iconst (v := 0) hx hb eX8_isState_26 (by decide) ?_
    exact W.zret (v := 0) (ty := .boolean) hx hb hr (rfl) (fun t ht hW => ⟨⟨0, (), rfl, ⟨0, (Nat.le_of_ble_eq_true rfl), rfl, (hsp.symm.trans hRR)⟩, trivial⟩, hS.F ht⟩) hS.2.2 eX8_isState_27
  · have c_1 : ¬ hs = 0 := fun z => c_1 ((nI_eq (a := hs) (b := 0) (Nat.lt_of_le_of_lt hhs (Nat.le_of_ble_eq_true rfl)) (Nat.le_of_ble_eq_true rfl)).mpr z)
    have hsp := hsp.trans (if_neg c_1)
    refine lv_iload_n hx hb eX8_isState_7 rfl (lv_at hl 1 rfl) ?_
    refine lv_if_lt (tgt := 26) hx hb eX8_isState_8 (by decide) (fun c_2 => ?_) (fun c_2 => ?_)
    · have c_2 : a0 < 0 := (nI_ltI (a := a0) (b := 0) (Nat.lt_of_le_of_lt ha0 (Nat.le_of_ble_eq_true rfl)) (Nat.le_of_ble_eq_true rfl)).mp c_2
      exfalso
      omega
    · have c_2 : ¬ a0 < 0 := fun z => c_2 ((nI_ltI (a := a0) (b := 0) (Nat.lt_of_le_of_lt ha0 (Nat.le_of_ble_eq_true rfl)) (Nat.le_of_ble_eq_true rfl)).mpr z)
      refine lv_iload_n hx hb eX8_isState_11 rfl (lv_at hl 1 rfl) ?_
      refine lv_aload_n hx hb eX8_isState_12 rfl (lv_at hl 0 rfl) ?_
      refine va_get (D := (dC, dI)) (ci := 8) (v := .ref g) (C := RX8) (T := TX8) (N := 16) hx hb hts hiX8 hown hK hP 0 rfl rfl 6 (by decide) v_2 (fun _ h9 => h9) rfl eX8_isState_13 ?_
      refine va_get (D := (dC, dI)) (ci := 1) (v := .int (nI gc)) (C := RX1) (T := TX1) (N := 18) hx hb hts hiX1 hown hK hP 1 rfl rfl 6 (by decide) v_3 (fun _ h9 => h9) rfl eX8_isState_16 ?_
      refine lv_icmp_ge (tgt := 26) hx hb eX8_isState_19 (by decide) (fun c_3 => ?_) (fun c_3 => ?_)
      · have c_3 : gc ≤ a0 := (nI_leI (a := gc) (b := a0) (Nat.lt_of_le_of_lt hgc (Nat.le_of_ble_eq_true rfl)) (Nat.lt_of_le_of_lt ha0 (Nat.le_of_ble_eq_true rfl))).mp c_3
        have hsp := hsp.trans (if_pos c_3)
        refine lv_iconst (v := 0) hx hb eX8_isState_26 (by decide) ?_
        exact W.zret (v := 0) (ty := .boolean) hx hb hr (rfl) (fun t ht hW => ⟨⟨0, (), rfl, ⟨0, (Nat.le_of_ble_eq_true rfl), rfl, (hsp.symm.trans hRR)⟩, trivial⟩, hS.F ht⟩) hS.2.2 eX8_isState_27
      · have c_3 : ¬ gc ≤ a0 := fun z => c_3 ((nI_leI (a := gc) (b := a0) (Nat.lt_of_le_of_lt hgc (Nat.le_of_ble_eq_true rfl)) (Nat.lt_of_le_of_lt ha0 (Nat.le_of_ble_eq_true rfl))).mpr z)
        have hsp := hsp.trans (if_neg c_3)
        refine lv_iconst (v := 1) hx hb eX8_isState_22 (by decide) ?_
        refine lv_goto (tgt := 27) hx hb eX8_isState_23 (by decide) ?_
        exact W.zret (v := 1) (ty := .boolean) hx hb hr (rfl) (fun t ht hW => ⟨⟨1, (), rfl, ⟨1, (Nat.le_of_ble_eq_true rfl), rfl, (hsp.symm.trans hRR)⟩, trivial⟩, hS.F ht⟩) hS.2.2 eX8_isState_27
abbrev vs_E_8_isState : List Cond := .code yX8_isState cX8_isState 2 (some .boolean) :: CM
noncomputable def sp_E_8_isState (hs : Nat) (gc : Nat) (p0 : Int32) : Unit := (if hs = 0 then () else (if (p0 : Int32) < 0 then () else (if ((nI gc) : Int32) ≤ p0 then () else (slet ((p0 : Int32).toNatClampNeg) (fun n_4 => ())))))
set_option maxHeartbeats 4000000 in
set_option maxRecDepth 100000 in
theorem c_E_8_isState (l : Launch) (dC : Nat → ClassId) (dI : Nat → Nat → Nat) (sz : Nat) (xa : Nat) (xtape : Nat) (tp : Nat) (rd : Nat) (au : Nat) (xdr : Nat) (hy : Nat) (g : Nat) (hs : Nat) (tg : Nat) (sg : Nat) (ss : Nat) (rm : Nat) (ti : Nat) (py : Nat) (bu : Nat) (sm : Nat) (gz : Nat) (g1 : Nat) (g2 : Nat) (g3 : Nat) (g4 : Nat) (g5 : Nat) (gc : Nat) (gfull : Nat) (gx : Int32) (gway : Int32) (gav : Int32) (ggoal : Int32) (gfound : Nat) (gl : Nat) (gsz : Nat) (g16 : Nat) (g17 : Nat) (p0 : Int32) (htp : tp ≤ 900) (hhs : hs ≤ 1) (hss : ss ≤ 1) (hgc : gc ≤ 120) (hgfull : gfull ≤ 1) (hgfound : gfound ≤ 1) (hgl : gl ≤ 1) (hgsz : gsz ≤ 4) : Met l yX8_isState vs_E_8_isState ({ frames := 0, cells := 0, slots := 0, locals := 0 }) (va_Pc [.ref xa, .int p0] (pu_B (dC, dI) (xg0__w xa xtape (nI tp) rd au xdr hy g (nI hs) tg sg (nI ss) rm ti py bu sm gz g1 g2 g3 g4 g5 (nI gc) (nI gfull) gx gway gav ggoal (nI gfound) 120 (nI gl) (nI gsz) g16 g17) (xg0__t ) sz)) (va_Qi (fun (r : Int32) (_ : Unit) => (r = 1 ∧ hs = 1 ∧ ∃ q : Nat, q < gc ∧ p0 = nI q) ∨ (r = 0 ∧ ¬ (hs = 1 ∧ (0 : Int32) ≤ p0 ∧ p0 < nI gc))) (fun _ _ => True) (va_A [] sz)) 0 0 (va_A [] sz) := by
  refine Met.ofW (cc := cX8_isState) (maxL := 2) (ret := (some .boolean)) (by decide) rfl ?_
  intro p e s m args below meth c s₁ B hml hv
  obtain ⟨rfl, rfl, hP, hK, hD0⟩ := hv
  have hx := B.exec
  have hb := B.bytes
  have hr := B.returns
  have hts := atoms_spec (ws := vs_E_8_isState) B.pre
  have v_1 := hts (.fieldLink RX8 100 "ClockReach" "hasShown" "Z") (List.mem_cons_of_mem _ cm_445)
  have v_2 := hts (.fieldLink RX8 42 "ClockReach" "shown" "LClockReach$Graph;") (List.mem_cons_of_mem _ cm_456)
  have v_3 := hts (.fieldLink RX8 129 "ClockReach$Graph" "count" "I") (List.mem_cons_of_mem _ cm_457)
  have hown : s.vm.findClass RX8 = some m.cls := findClass_of_methodNamed B.named
  have hlocks := B.notSynchronized
  have hiX1 : ∀ w ∈ wsX10, w ∈ vs_E_8_isState := fun _ h => List.mem_cons_of_mem _ (cm_X1 h)
  have hiX8 : ∀ w ∈ wsX80, w ∈ vs_E_8_isState := fun _ h => List.mem_cons_of_mem _ (cm_X8 h)
  have hD := hD0
  have hA : ∀ q : Nat, s.heap.size ≤ q → va_A [] s.heap.size q := fun _ h => Or.inr h
  have hS : va_S (va_A [] s.heap.size) s.heap s.heap [] := va_S.rf
  have hl := lv_entry ([.ref xa, .int p0]) (n := 2) (Nat.le_of_ble_eq_true rfl)
  rw [lg_entry_eq]
  generalize (lg_sl ([.ref xa, .int p0]) ++ List.replicate (2 - (lg_sl ([.ref xa, .int p0])).length) Slot.unset).toArray = ls at hl ⊢
  have hl : lv_has ls 2 [(0, .ref xa), (1, .int p0)] := hl
  obtain ⟨RR, hRR⟩ : ∃ x, x = (sp_E_8_isState hs gc p0) := ⟨_, rfl⟩
  have hsp := hRR
  refine lv_aload_n hx hb eX8_isState_0 rfl (lv_at hl 0 rfl) ?_
  refine va_get (D := (dC, dI)) (ci := 8) (v := .int (nI hs)) (C := RX8) (T := TX8) (N := 16) hx hb hts hiX8 hown hK hP 0 rfl rfl 7 (by decide) v_1 (fun _ h9 => h9) rfl eX8_isState_1 ?_
  refine lv_if_eq (tgt := 26) hx hb eX8_isState_4 (by decide) (fun c_1 => ?_) (fun c_1 => ?_)
  · have c_1 : hs = 0 := (nI_eq (a := hs) (b := 0) (Nat.lt_of_le_of_lt hhs (Nat.le_of_ble_eq_true rfl)) (Nat.le_of_ble_eq_true rfl)).mp c_1
    have hsp := hsp.trans (if_pos c_1)
    refine lv_iconst (v := 0) hx hb eX8_isState_26 (by decide) ?_
    exact W.zret (v := 0) (ty := .boolean) hx hb hr (rfl) (fun t ht hW => ⟨⟨0, (), rfl, Or.inr ⟨rfl, by first | exact fun z => absurd z.1 (by omega) | exact fun z => absurd z.2.1 (Int32.not_le.mpr (by assumption)) | exact fun z => absurd z.2.2 (Int32.not_lt.mpr (by assumption))⟩, trivial⟩, hS.F ht⟩) hS.2.2 eX8_isState_27
  · have c_1 : ¬ hs = 0 := fun z => c_1 ((nI_eq (a := hs) (b := 0) (Nat.lt_of_le_of_lt hhs (Nat.le_of_ble_eq_true rfl)) (Nat.le_of_ble_eq_true rfl)).mpr z)
    have hsp := hsp.trans (if_neg c_1)
    refine lv_iload_n hx hb eX8_isState_7 rfl (lv_at hl 1 rfl) ?_
    refine lv_if_lt (tgt := 26) hx hb eX8_isState_8 (by decide) (fun c_2 => ?_) (fun c_2 => ?_)
    · have hcc_2 := c_2
      have hsp := hsp.trans (if_pos c_2)
      refine lv_iconst (v := 0) hx hb eX8_isState_26 (by decide) ?_
      exact W.zret (v := 0) (ty := .boolean) hx hb hr (rfl) (fun t ht hW => ⟨⟨0, (), rfl, Or.inr ⟨rfl, by first | exact fun z => absurd z.1 (by omega) | exact fun z => absurd z.2.1 (Int32.not_le.mpr (by assumption)) | exact fun z => absurd z.2.2 (Int32.not_lt.mpr (by assumption))⟩, trivial⟩, hS.F ht⟩) hS.2.2 eX8_isState_27
    · have hcc_2 := c_2
      have hsp := hsp.trans (if_neg c_2)
      have lp0 : ¬ p0 < 0 := c_2
      refine lv_iload_n hx hb eX8_isState_11 rfl (lv_at hl 1 rfl) ?_
      refine lv_aload_n hx hb eX8_isState_12 rfl (lv_at hl 0 rfl) ?_
      refine va_get (D := (dC, dI)) (ci := 8) (v := .ref g) (C := RX8) (T := TX8) (N := 16) hx hb hts hiX8 hown hK hP 0 rfl rfl 6 (by decide) v_2 (fun _ h9 => h9) rfl eX8_isState_13 ?_
      refine va_get (D := (dC, dI)) (ci := 1) (v := .int (nI gc)) (C := RX1) (T := TX1) (N := 18) hx hb hts hiX1 hown hK hP 1 rfl rfl 6 (by decide) v_3 (fun _ h9 => h9) rfl eX8_isState_16 ?_
      refine lv_icmp_ge (tgt := 26) hx hb eX8_isState_19 (by decide) (fun c_3 => ?_) (fun c_3 => ?_)
      · have hcc_3 := c_3
        have hsp := hsp.trans (if_pos c_3)
        refine lv_iconst (v := 0) hx hb eX8_isState_26 (by decide) ?_
        exact W.zret (v := 0) (ty := .boolean) hx hb hr (rfl) (fun t ht hW => ⟨⟨0, (), rfl, Or.inr ⟨rfl, by first | exact fun z => absurd z.1 (by omega) | exact fun z => absurd z.2.1 (Int32.not_le.mpr (by assumption)) | exact fun z => absurd z.2.2 (Int32.not_lt.mpr (by assumption))⟩, trivial⟩, hS.F ht⟩) hS.2.2 eX8_isState_27
      · have hcc_3 := c_3
        have hsp := hsp.trans (if_neg c_3)
        obtain ⟨n_4, hn_4, rfl⟩ := pu_ult (b := gc) (by omega) lp0 (Int32.not_le.mp c_3)
        have hsp := hsp.trans (slet_eq (nI_cl (n := n_4) (by omega)))
        refine lv_iconst (v := 1) hx hb eX8_isState_22 (by decide) ?_
        refine lv_goto (tgt := 27) hx hb eX8_isState_23 (by decide) ?_
        exact W.zret (v := 1) (ty := .boolean) hx hb hr (rfl) (fun t ht hW => ⟨⟨1, (), rfl, Or.inl ⟨rfl, by omega, n_4, by omega, rfl⟩, trivial⟩, hS.F ht⟩) hS.2.2 eX8_isState_27
