theorem eX8_isState_0 : decode cX8_isState 0 = .ok (.aload_n 0, 1) := by decide +kernel
theorem eX8_isState_1 : decode cX8_isState 1 = .ok (.getfield 100, 3) := by decide +kernel
theorem eX8_isState_4 : decode cX8_isState 4 = .ok (.ifCond .eq 22, 3) := by decide +kernel
theorem eX8_isState_7 : decode cX8_isState 7 = .ok (.iload_n 1, 1) := by decide +kernel
theorem eX8_isState_8 : decode cX8_isState 8 = .ok (.ifCond .lt 18, 3) := by decide +kernel
theorem eX8_isState_11 : decode cX8_isState 11 = .ok (.iload_n 1, 1) := by decide +kernel
theorem eX8_isState_12 : decode cX8_isState 12 = .ok (.aload_n 0, 1) := by decide +kernel
theorem eX8_isState_13 : decode cX8_isState 13 = .ok (.getfield 42, 3) := by decide +kernel
theorem eX8_isState_16 : decode cX8_isState 16 = .ok (.getfield 129, 3) := by decide +kernel
theorem eX8_isState_19 : decode cX8_isState 19 = .ok (.if_icmp .ge 7, 3) := by decide +kernel
theorem eX8_isState_22 : decode cX8_isState 22 = .ok (.iconst 1, 1) := by decide +kernel
theorem eX8_isState_23 : decode cX8_isState 23 = .ok (.goto 4, 3) := by decide +kernel
theorem eX8_isState_26 : decode cX8_isState 26 = .ok (.iconst 0, 1) := by decide +kernel
theorem eX8_isState_27 : decode cX8_isState 27 = .ok (.ireturn, 1) := by decide +kernel
abbrev vs_C_8_isState_k : List Cond := .code yX8_isState cX8_isState 2 (some .boolean) :: CM
set_option maxHeartbeats 4000000 in
set_option maxRecDepth 100000 in
theorem c_C_8_isState_k (l : Launch) (dC : Nat → ClassId) (dI : Nat → Nat → Nat) (sz : Nat) (xa : Nat) (xtape : Nat) (tp : Nat) (rd : Nat) (au : Nat) (xdr : Nat) (hy : Nat) (g : Nat) (hs : Nat) (tg : Nat) (sg : Nat) (ss : Nat) (rm : Nat) (ti : Nat) (py : Nat) (bu : Nat) (sm : Nat) (gz : Nat) (g1 : Nat) (g2 : Nat) (g3 : Nat) (g4 : Nat) (g5 : Nat) (gc : Nat) (gfull : Nat) (gx : Int32) (gway : Int32) (gav : Int32) (ggoal : Int32) (gfound : Nat) (gl : Nat) (gsz : Nat) (g16 : Nat) (g17 : Nat) (a0 : Nat) (htp : tp ≤ 900) (hhs : hs ≤ 1) (hss : ss ≤ 1) (hgc : gc ≤ 120) (hgfull : gfull ≤ 1) (hgfound : gfound ≤ 1) (hgl : gl ≤ 1) (hgsz : gsz ≤ 4) (ha0 : a0 ≤ 119) : Met l yX8_isState vs_C_8_isState_k ({ frames := 0, cells := 0, slots := 0, locals := 0 }) (va_Pc [.ref xa, .int (nI a0)] (pu_B (dC, dI) (xg0__w xa xtape (nI tp) rd au xdr hy g (nI hs) tg sg (nI ss) rm ti py bu sm gz g1 g2 g3 g4 g5 (nI gc) (nI gfull) gx gway gav ggoal (nI gfound) 120 (nI gl) (nI gsz) g16 g17) (xg0__t ) sz)) (va_Qi (fun (r : Int32) (_ : Unit) => ∃ v : Nat, v ≤ 1 ∧ r = nI v) (fun _ _ => True) (va_A [] sz)) 0 0 (va_A [] sz) := by
  refine Met.ofW (cc := cX8_isState) (maxL := 2) (ret := (some .boolean)) (by decide) rfl ?_
  intro p e s m args below meth c s₁ B hml hv
  obtain ⟨rfl, rfl, hP, hK, hD0⟩ := hv
  have hx := B.exec
  have hb := B.bytes
  have hr := B.returns
  have hts := atoms_spec (ws := vs_C_8_isState_k) B.pre
  have v_1 := hts (.fieldLink RX8 100 "ClockReach" "hasShown" "Z") (List.mem_cons_of_mem _ cm_445)
  have v_2 := hts (.fieldLink RX8 42 "ClockReach" "shown" "LClockReach$Graph;") (List.mem_cons_of_mem _ cm_456)
  have v_3 := hts (.fieldLink RX8 129 "ClockReach$Graph" "count" "I") (List.mem_cons_of_mem _ cm_457)
  have hown : s.vm.findClass RX8 = some m.cls := findClass_of_methodNamed B.named
  have hlocks := B.notSynchronized
  have hiX1 : ∀ w ∈ wsX10, w ∈ vs_C_8_isState_k := fun _ h => List.mem_cons_of_mem _ (cm_X1 h)
  have hiX8 : ∀ w ∈ wsX80, w ∈ vs_C_8_isState_k := fun _ h => List.mem_cons_of_mem _ (cm_X8 h)
  have hD := hD0
  have hA : ∀ q : Nat, s.heap.size ≤ q → va_A [] s.heap.size q := fun _ h => Or.inr h
  have hS : va_S (va_A [] s.heap.size) s.heap s.heap [] := va_S.rf
  have hl := lv_entry ([.ref xa, .int (nI a0)]) (n := 2) (Nat.le_of_ble_eq_true rfl)
  rw [lg_entry_eq]
  generalize (lg_sl ([.ref xa, .int (nI a0)]) ++ List.replicate (2 - (lg_sl ([.ref xa, .int (nI a0)])).length) Slot.unset).toArray = ls at hl ⊢
  have hl : lv_has ls 2 [(0, .ref xa), (1, .int (nI a0))] := hl
  refine lv_aload_n hx hb eX8_isState_0 rfl (lv_at hl 0 rfl) ?_
  refine va_get (D := (dC, dI)) (ci := 8) (v := .int (nI hs)) (C := RX8) (T := TX8) (N := 16) hx hb hts hiX8 hown hK hP 0 rfl rfl 7 (by decide) v_1 (fun _ h9 => h9) rfl eX8_isState_1 ?_
  refine lv_if_eq (tgt := 26) hx hb eX8_isState_4 (by decide) (fun c_1 => ?_) (fun c_1 => ?_)
  · have c_1 : hs = 0 := (nI_eq (a := hs) (b := 0) (Nat.lt_of_le_of_lt hhs (Nat.le_of_ble_eq_true rfl)) (Nat.le_of_ble_eq_true rfl)).mp c_1
    refine lv_iconst (v := 0) hx hb eX8_isState_26 (by decide) ?_
    exact W.zret (v := 0) (ty := .boolean) hx hb hr (rfl) (fun t ht hW => ⟨⟨0, (), rfl, ⟨0, (Nat.le_of_ble_eq_true rfl), rfl⟩, trivial⟩, hS.F ht⟩) hS.2.2 eX8_isState_27
  · have c_1 : ¬ hs = 0 := fun z => c_1 ((nI_eq (a := hs) (b := 0) (Nat.lt_of_le_of_lt hhs (Nat.le_of_ble_eq_true rfl)) (Nat.le_of_ble_eq_true rfl)).mpr z)
    refine lv_iload_n hx hb eX8_isState_7 rfl (lv_at hl 1 rfl) ?_
    refine lv_if_lt (tgt := 26) hx hb eX8_isState_8 (by decide) (fun c_2 => ?_) (fun c_2 => ?_)
    · have c_2 : a0 < 0 := (nI_ltI (a := a0) (b := 0) (Nat.lt_of_le_of_lt ha0 (Nat.le_of_ble_eq_true rfl)) (Nat.le_of_ble_eq_true rfl)).mp c_2
      exfalso
      omega
    · have c_2 : ¬ a0 < 0 := fun z => c_2 ((nI_ltI (a := a0) (b := 0) (Nat.lt_of_le_of_lt ha0 (Nat.le_of_ble_eq_true rfl)) (Nat.le_of_ble_eq_true rfl)).mpr z)
      refine lv_iload_n hx hb eX8_isState_11 rfl (lv_at hl 1 rfl) ?_
      refine lv_aload_n hx hb eX8_isState_12 rfl (lv_at hl 0 rfl) ?_
      refine va_get (D := (dC, dI)) (ci := 8) (v := .ref g) (C := RX8) (T := TX8) (N := 16) hx hb hts hiX8 hown hK hP 0 rfl rfl 6 (by decide) v_2 (fun _ h9 => h9) rfl eX8_isState_13 ?_
      refine va_get (D := (dC, dI)) (ci := 1) (v := .int (nI gc)) (C := RX1) (T := TX1) (N := 18) hx hb hts hiX1 hown hK hP 1 rfl rfl 6 (by decide) v_3 (fun _ h9 => h9) rfl eX8_isState_16 ?_
      refine lv_icmp_ge (tgt := 26) hx hb eX8_isState_19 (by decide) (fun c_3 => ?_) (fun c_3 => ?_)
      · have c_3 : gc ≤ a0 := (nI_leI (a := gc) (b := a0) (Nat.lt_of_le_of_lt hgc (Nat.le_of_ble_eq_true rfl)) (Nat.lt_of_le_of_lt ha0 (Nat.le_of_ble_eq_true rfl))).mp c_3
        refine lv_iconst (v := 0) hx hb eX8_isState_26 (by decide) ?_
        exact W.zret (v := 0) (ty := .boolean) hx hb hr (rfl) (fun t ht hW => ⟨⟨0, (), rfl, ⟨0, (Nat.le_of_ble_eq_true rfl), rfl⟩, trivial⟩, hS.F ht⟩) hS.2.2 eX8_isState_27
      · have c_3 : ¬ gc ≤ a0 := fun z => c_3 ((nI_leI (a := gc) (b := a0) (Nat.lt_of_le_of_lt hgc (Nat.le_of_ble_eq_true rfl)) (Nat.lt_of_le_of_lt ha0 (Nat.le_of_ble_eq_true rfl))).mpr z)
        refine lv_iconst (v := 1) hx hb eX8_isState_22 (by decide) ?_
        refine lv_goto (tgt := 27) hx hb eX8_isState_23 (by decide) ?_
        exact W.zret (v := 1) (ty := .boolean) hx hb hr (rfl) (fun t ht hW => ⟨⟨1, (), rfl, ⟨1, (Nat.le_of_ble_eq_true rfl), rfl⟩, trivial⟩, hS.F ht⟩) hS.2.2 eX8_isState_27
abbrev vs_C_8_isState : List Cond := .code yX8_isState cX8_isState 2 (some .boolean) :: CM
set_option maxHeartbeats 4000000 in
set_option maxRecDepth 100000 in
theorem c_C_8_isState (l : Launch) (dC : Nat → ClassId) (dI : Nat → Nat → Nat) (sz : Nat) (xa : Nat) (xtape : Nat) (tp : Nat) (rd : Nat) (au : Nat) (xdr : Nat) (hy : Nat) (g : Nat) (hs : Nat) (tg : Nat) (sg : Nat) (ss : Nat) (rm : Nat) (ti : Nat) (py : Nat) (bu : Nat) (sm : Nat) (gz : Nat) (g1 : Nat) (g2 : Nat) (g3 : Nat) (g4 : Nat) (g5 : Nat) (gc : Nat) (gfull : Nat) (gx : Int32) (gway : Int32) (gav : Int32) (ggoal : Int32) (gfound : Nat) (gl : Nat) (gsz : Nat) (g16 : Nat) (g17 : Nat) (p0 : Int32) (htp : tp ≤ 900) (hhs : hs ≤ 1) (hss : ss ≤ 1) (hgc : gc ≤ 120) (hgfull : gfull ≤ 1) (hgfound : gfound ≤ 1) (hgl : gl ≤ 1) (hgsz : gsz ≤ 4) : Met l yX8_isState vs_C_8_isState ({ frames := 0, cells := 0, slots := 0, locals := 0 }) (va_Pc [.ref xa, .int p0] (pu_B (dC, dI) (xg0__w xa xtape (nI tp) rd au xdr hy g (nI hs) tg sg (nI ss) rm ti py bu sm gz g1 g2 g3 g4 g5 (nI gc) (nI gfull) gx gway gav ggoal (nI gfound) 120 (nI gl) (nI gsz) g16 g17) (xg0__t ) sz)) (va_Qi (fun (r : Int32) (_ : Unit) => (r = 1 ∧ ∃ q : Nat, q < gc ∧ p0 = nI q) ∨ r = 0) (fun _ _ => True) (va_A [] sz)) 0 0 (va_A [] sz) := by
  refine Met.ofW (cc := cX8_isState) (maxL := 2) (ret := (some .boolean)) (by decide) rfl ?_
  intro p e s m args below meth c s₁ B hml hv
  obtain ⟨rfl, rfl, hP, hK, hD0⟩ := hv
  have hx := B.exec
  have hb := B.bytes
  have hr := B.returns
  have hts := atoms_spec (ws := vs_C_8_isState) B.pre
  have v_1 := hts (.fieldLink RX8 100 "ClockReach" "hasShown" "Z") (List.mem_cons_of_mem _ cm_445)
  have v_2 := hts (.fieldLink RX8 42 "ClockReach" "shown" "LClockReach$Graph;") (List.mem_cons_of_mem _ cm_456)
  have v_3 := hts (.fieldLink RX8 129 "ClockReach$Graph" "count" "I") (List.mem_cons_of_mem _ cm_457)
  have hown : s.vm.findClass RX8 = some m.cls := findClass_of_methodNamed B.named
  have hlocks := B.notSynchronized
  have hiX1 : ∀ w ∈ wsX10, w ∈ vs_C_8_isState := fun _ h => List.mem_cons_of_mem _ (cm_X1 h)
  have hiX8 : ∀ w ∈ wsX80, w ∈ vs_C_8_isState := fun _ h => List.mem_cons_of_mem _ (cm_X8 h)
  have hD := hD0
  have hA : ∀ q : Nat, s.heap.size ≤ q → va_A [] s.heap.size q := fun _ h => Or.inr h
  have hS : va_S (va_A [] s.heap.size) s.heap s.heap [] := va_S.rf
  have hl := lv_entry ([.ref xa, .int p0]) (n := 2) (Nat.le_of_ble_eq_true rfl)
  rw [lg_entry_eq]
  generalize (lg_sl ([.ref xa, .int p0]) ++ List.replicate (2 - (lg_sl ([.ref xa, .int p0])).length) Slot.unset).toArray = ls at hl ⊢
  have hl : lv_has ls 2 [(0, .ref xa), (1, .int p0)] := hl
  refine lv_aload_n hx hb eX8_isState_0 rfl (lv_at hl 0 rfl) ?_
  refine va_get (D := (dC, dI)) (ci := 8) (v := .int (nI hs)) (C := RX8) (T := TX8) (N := 16) hx hb hts hiX8 hown hK hP 0 rfl rfl 7 (by decide) v_1 (fun _ h9 => h9) rfl eX8_isState_1 ?_
  refine lv_if_eq (tgt := 26) hx hb eX8_isState_4 (by decide) (fun c_1 => ?_) (fun c_1 => ?_)
  · have c_1 : hs = 0 := (nI_eq (a := hs) (b := 0) (Nat.lt_of_le_of_lt hhs (Nat.le_of_ble_eq_true rfl)) (Nat.le_of_ble_eq_true rfl)).mp c_1
    refine lv_iconst (v := 0) hx hb eX8_isState_26 (by decide) ?_
    exact W.zret (v := 0) (ty := .boolean) hx hb hr (rfl) (fun t ht hW => ⟨⟨0, (), rfl, Or.inr rfl, trivial⟩, hS.F ht⟩) hS.2.2 eX8_isState_27
  · have c_1 : ¬ hs = 0 := fun z => c_1 ((nI_eq (a := hs) (b := 0) (Nat.lt_of_le_of_lt hhs (Nat.le_of_ble_eq_true rfl)) (Nat.le_of_ble_eq_true rfl)).mpr z)
    refine lv_iload_n hx hb eX8_isState_7 rfl (lv_at hl 1 rfl) ?_
    refine lv_if_lt (tgt := 26) hx hb eX8_isState_8 (by decide) (fun c_2 => ?_) (fun c_2 => ?_)
    · refine lv_iconst (v := 0) hx hb eX8_isState_26 (by decide) ?_
      exact W.zret (v := 0) (ty := .boolean) hx hb hr (rfl) (fun t ht hW => ⟨⟨0, (), rfl, Or.inr rfl, trivial⟩, hS.F ht⟩) hS.2.2 eX8_isState_27
    · have lp0 : ¬ p0 < 0 := c_2
      refine lv_iload_n hx hb eX8_isState_11 rfl (lv_at hl 1 rfl) ?_
      refine lv_aload_n hx hb eX8_isState_12 rfl (lv_at hl 0 rfl) ?_
      refine va_get (D := (dC, dI)) (ci := 8) (v := .ref g) (C := RX8) (T := TX8) (N := 16) hx hb hts hiX8 hown hK hP 0 rfl rfl 6 (by decide) v_2 (fun _ h9 => h9) rfl eX8_isState_13 ?_
      refine va_get (D := (dC, dI)) (ci := 1) (v := .int (nI gc)) (C := RX1) (T := TX1) (N := 18) hx hb hts hiX1 hown hK hP 1 rfl rfl 6 (by decide) v_3 (fun _ h9 => h9) rfl eX8_isState_16 ?_
      refine lv_icmp_ge (tgt := 26) hx hb eX8_isState_19 (by decide) (fun c_3 => ?_) (fun c_3 => ?_)
      · refine lv_iconst (v := 0) hx hb eX8_isState_26 (by decide) ?_
        exact W.zret (v := 0) (ty := .boolean) hx hb hr (rfl) (fun t ht hW => ⟨⟨0, (), rfl, Or.inr rfl, trivial⟩, hS.F ht⟩) hS.2.2 eX8_isState_27
      · obtain ⟨n_4, hn_4, rfl⟩ := pu_ult (b := gc) (by omega) lp0 (Int32.not_le.mp c_3)
        refine lv_iconst (v := 1) hx hb eX8_isState_22 (by decide) ?_
        refine lv_goto (tgt := 27) hx hb eX8_isState_23 (by decide) ?_
        exact W.zret (v := 1) (ty := .boolean) hx hb hr (rfl) (fun t ht hW => ⟨⟨1, (), rfl, Or.inl ⟨rfl, n_4, by omega, rfl⟩, trivial⟩, hS.F ht⟩) hS.2.2 eX8_isState_27
theorem eX8_beginAtZero_0 : decode cX8_beginAtZero 0 = .ok (.iconst 0, 1) := by decide +kernel
theorem eX8_beginAtZero_1 : decode cX8_beginAtZero 1 = .ok (.istore_n 2, 1) := by decide +kernel
theorem eX8_beginAtZero_2 : decode cX8_beginAtZero 2 = .ok (.iload_n 2, 1) := by decide +kernel
theorem eX8_beginAtZero_3 : decode cX8_beginAtZero 3 = .ok (.aload_n 0, 1) := by decide +kernel
theorem eX8_beginAtZero_4 : decode cX8_beginAtZero 4 = .ok (.getfield 73, 3) := by decide +kernel
theorem eX8_beginAtZero_7 : decode cX8_beginAtZero 7 = .ok (.arraylength, 1) := by decide +kernel
theorem eX8_beginAtZero_8 : decode cX8_beginAtZero 8 = .ok (.if_icmp .ge 16, 3) := by decide +kernel
theorem eX8_beginAtZero_11 : decode cX8_beginAtZero 11 = .ok (.aload_n 0, 1) := by decide +kernel
theorem eX8_beginAtZero_12 : decode cX8_beginAtZero 12 = .ok (.getfield 73, 3) := by decide +kernel
theorem eX8_beginAtZero_15 : decode cX8_beginAtZero 15 = .ok (.iload_n 2, 1) := by decide +kernel
theorem eX8_beginAtZero_16 : decode cX8_beginAtZero 16 = .ok (.iconst 0, 1) := by decide +kernel
theorem eX8_beginAtZero_17 : decode cX8_beginAtZero 17 = .ok (.iastore, 1) := by decide +kernel
theorem eX8_beginAtZero_18 : decode cX8_beginAtZero 18 = .ok (.iinc 2 1, 3) := by decide +kernel
theorem eX8_beginAtZero_21 : decode cX8_beginAtZero 21 = .ok (.goto (-19), 3) := by decide +kernel
theorem eX8_beginAtZero_24 : decode cX8_beginAtZero 24 = .ok (.aload_n 1, 1) := by decide +kernel
theorem eX8_beginAtZero_25 : decode cX8_beginAtZero 25 = .ok (.aload_n 0, 1) := by decide +kernel
theorem eX8_beginAtZero_26 : decode cX8_beginAtZero 26 = .ok (.getfield 23, 3) := by decide +kernel
theorem eX8_beginAtZero_29 : decode cX8_beginAtZero 29 = .ok (.aload_n 0, 1) := by decide +kernel
theorem eX8_beginAtZero_30 : decode cX8_beginAtZero 30 = .ok (.getfield 23, 3) := by decide +kernel
theorem eX8_beginAtZero_33 : decode cX8_beginAtZero 33 = .ok (.getfield 122, 3) := by decide +kernel
theorem eX8_beginAtZero_36 : decode cX8_beginAtZero 36 = .ok (.aload_n 0, 1) := by decide +kernel
theorem eX8_beginAtZero_37 : decode cX8_beginAtZero 37 = .ok (.getfield 73, 3) := by decide +kernel
theorem eX8_beginAtZero_40 : decode cX8_beginAtZero 40 = .ok (.invokevirtual 224, 3) := by decide +kernel
theorem eX8_beginAtZero_43 : decode cX8_beginAtZero 43 = .ok (.return_, 1) := by decide +kernel
abbrev vs_C_8_beginAtZero_16 : List Cond := .code yX8_beginAtZero cX8_beginAtZero 3 none :: CM
theorem g_C_8_beginAtZero_16_C_1_open_16 : GoodIn vs_C_8_beginAtZero_16 (wsV RX8 224 RX1 yX1_open vs_C_1_open_16) := cm_gV cm_524 cm_525 cm_526 cm_113 cm_88
set_option maxHeartbeats 4000000 in
set_option maxRecDepth 100000 in
theorem c_C_8_beginAtZero_16 (l : Launch) (dC : Nat → ClassId) (dI : Nat → Nat → Nat) (sz : Nat) (xa : Nat) (xtape : Nat) (tp : Nat) (rd : Nat) (au : Nat) (xdr : Nat) (hy : Nat) (g : Nat) (hs : Nat) (tg : Nat) (sg : Nat) (ss : Nat) (rm : Nat) (ti : Nat) (py : Nat) (bu : Nat) (sm : Nat) (nc : Nat) (np : Nat) (ne : Nat) (st0 : Nat) (q4 : Nat) (q5 : Nat) (q6 : Nat) (q7 : Nat) (q8 : Nat) (q9 : Nat) (q10 : Nat) (q11 : Nat) (q12 : Nat) (q13 : Nat) (q14 : Nat) (q15 : Nat) (q16 : Nat) (k_f4 : ClassId) (f4 : Nat → Int32) (k_f5 : ClassId) (q_f5 : Nat → Nat) (k_f6 : ClassId) (q_f6 : Nat → Nat) (k_f7 : ClassId) (f7 : Nat → Int32) (k_f8 : ClassId) (q_f8 : Nat → Nat) (k_f9 : ClassId) (q_f9 : Nat → Nat) (k_f10 : ClassId) (f10 : Nat → Int32) (k_f11 : ClassId) (f11 : Nat → Int32) (k_f12 : ClassId) (f12 : Nat → Int32) (k_f13 : ClassId) (f13 : Nat → Int32) (k_f14 : ClassId) (f14 : Nat → Int32) (k_f15 : ClassId) (f15 : Nat → Int32) (k_f16 : ClassId) (f16 : Nat → Int32) (gx : Nat) (gxz : Nat) (gx1 : Nat) (gx2 : Nat) (gx3 : Nat) (gx4 : Nat) (gx5 : Nat) (gxc : Nat) (gxfull : Nat) (gxx : Int32) (gxway : Int32) (gxav : Int32) (gxgoal : Int32) (gxfound : Nat) (gxl : Nat) (gxsz : Nat) (gx16 : Nat) (gx17 : Nat) (k_fgxz : ClassId) (k_s1gx : ClassId) (q_s1gx : Nat → Nat) (k_s2gx : ClassId) (s2gx : Nat → Int32) (k_s3gx : ClassId) (s3gx : Nat → Int32) (k_s4gx : ClassId) (s4gx : Nat → Int32) (k_s5gx : ClassId) (s5gx : Nat → Int32) (k_higx : ClassId) (higx : Nat → Int32) (k_logx : ClassId) (logx : Nat → Int32) (k_fbu : ClassId) (fbu : Nat → Int32) (N : Nat) (o : Nat) (az ac : Nat → Nat) (kz : Nat → ClassId) (qs : Nat → Nat) (fz : Nat → Nat → Int32) (htp : tp ≤ 900) (hhs : hs ≤ 1) (hss : ss ≤ 1) (hnc : nc ≤ 3) (hnp : np ≤ 8) (hne : ne ≤ 14) (hst0 : st0 ≤ 7) (hgxc : gxc ≤ 120) (hgxfull : gxfull ≤ 1) (hgxfound : gxfound ≤ 1) (hgxl : gxl ≤ 1) (hgxsz : gxsz ≤ 4) (hN : o + 121 ≤ N) : Met l yX8_beginAtZero vs_C_8_beginAtZero_16 ({ frames := 4, cells := 0, slots := 0, locals := 101 }) (va_Pc [.ref xa, .ref gx] (pu_B (dC, dI) ((xb16__w xa xtape (nI tp) rd au xdr hy g (nI hs) tg sg (nI ss) rm ti py bu sm (nI nc) (nI np) (nI ne) (nI st0) q4 q5 q6 q7 q8 q9 q10 q11 q12 q13 q14 q15 q16 k_f4 f4 k_f5 (bN 7 q_f5) k_f6 (bN 7 q_f6) k_f7 f7 k_f8 (bN 4 q_f8) k_f9 (bN 2 q_f9) k_f10 f10 k_f11 f11 k_f12 f12 k_f13 f13 k_f14 f14 k_f15 f15 k_f16 f16 gx gxz gx1 gx2 gx3 gx4 gx5 (nI gxc) (nI gxfull) gxx gxway gxav gxgoal (nI gxfound) 120 (nI gxl) (nI gxsz) gx16 gx17 k_fgxz (zs o 121 az) k_s1gx (bN 7 q_s1gx) k_s2gx s2gx k_s3gx s3gx k_s4gx s4gx k_s5gx s5gx k_higx higx k_logx logx k_fbu fbu) ++ zp 4 16 N az ac kz qs fz) ((xb16__t k_f4 k_f5 k_f6 k_f7 k_f8 k_f9 k_f10 k_f11 k_f12 k_f13 k_f14 k_f15 k_f16 k_fgxz k_s1gx k_s2gx k_s3gx k_s4gx k_s5gx k_higx k_logx k_fbu) ++ zt N kz) sz)) (va_Qv (fun (_ : Unit) => True) (fun _ t => ∃ (z_s1gx : Nat → Nat) (z_s2gx : Nat → Int32) (z_s3gx : Nat → Int32) (z_s4gx : Nat → Int32) (z_s5gx : Nat → Int32) (z_fbu : Nat → Int32) (z_gxfound : Nat) (z_gxc : Nat) (z_gxfull : Nat) (z_gxx : Int32) (z_fz : Nat → Nat → Int32) (z_qs : Nat → Nat), pu_E (dC, dI) ((xb16__w xa xtape (nI tp) rd au xdr hy g (nI hs) tg sg (nI ss) rm ti py bu sm (nI nc) (nI np) (nI ne) (nI st0) q4 q5 q6 q7 q8 q9 q10 q11 q12 q13 q14 q15 q16 k_f4 f4 k_f5 (bN 7 q_f5) k_f6 (bN 7 q_f6) k_f7 f7 k_f8 (bN 4 q_f8) k_f9 (bN 2 q_f9) k_f10 f10 k_f11 f11 k_f12 f12 k_f13 f13 k_f14 f14 k_f15 f15 k_f16 f16 gx gxz gx1 gx2 gx3 gx4 gx5 (nI z_gxc) (nI z_gxfull) z_gxx gxway gxav gxgoal (nI z_gxfound) 120 (nI gxl) (nI gxsz) gx16 gx17 k_fgxz (zs o 121 az) k_s1gx (bN 7 z_s1gx) k_s2gx z_s2gx k_s3gx z_s3gx k_s4gx z_s4gx k_s5gx z_s5gx k_higx higx k_logx logx k_fbu z_fbu) ++ zp 4 16 N az ac kz z_qs z_fz) ((xb16__t k_f4 k_f5 k_f6 k_f7 k_f8 k_f9 k_f10 k_f11 k_f12 k_f13 k_f14 k_f15 k_f16 k_fgxz k_s1gx k_s2gx k_s3gx k_s4gx k_s5gx k_higx k_logx k_fbu) ++ zt N kz) (va_A (((xb16__w xa xtape (nI tp) rd au xdr hy g (nI hs) tg sg (nI ss) rm ti py bu sm (nI nc) (nI np) (nI ne) (nI st0) q4 q5 q6 q7 q8 q9 q10 q11 q12 q13 q14 q15 q16 k_f4 f4 k_f5 (bN 7 q_f5) k_f6 (bN 7 q_f6) k_f7 f7 k_f8 (bN 4 q_f8) k_f9 (bN 2 q_f9) k_f10 f10 k_f11 f11 k_f12 f12 k_f13 f13 k_f14 f14 k_f15 f15 k_f16 f16 gx gxz gx1 gx2 gx3 gx4 gx5 (nI gxc) (nI gxfull) gxx gxway gxav gxgoal (nI gxfound) 120 (nI gxl) (nI gxsz) gx16 gx17 k_fgxz (zs o 121 az) k_s1gx (bN 7 q_s1gx) k_s2gx s2gx k_s3gx s3gx k_s4gx s4gx k_s5gx s5gx k_higx higx k_logx logx k_fbu fbu) ++ zp 4 16 N az ac kz qs fz)) sz) t ∧ (z_gxfound ≤ 1) ∧ (z_gxc ≤ 120) ∧ (z_gxfull ≤ 1) ∧ (gz_ok z_gxc z_s2gx z_s3gx z_s4gx)) (va_A (((xb16__w xa xtape (nI tp) rd au xdr hy g (nI hs) tg sg (nI ss) rm ti py bu sm (nI nc) (nI np) (nI ne) (nI st0) q4 q5 q6 q7 q8 q9 q10 q11 q12 q13 q14 q15 q16 k_f4 f4 k_f5 (bN 7 q_f5) k_f6 (bN 7 q_f6) k_f7 f7 k_f8 (bN 4 q_f8) k_f9 (bN 2 q_f9) k_f10 f10 k_f11 f11 k_f12 f12 k_f13 f13 k_f14 f14 k_f15 f15 k_f16 f16 gx gxz gx1 gx2 gx3 gx4 gx5 (nI gxc) (nI gxfull) gxx gxway gxav gxgoal (nI gxfound) 120 (nI gxl) (nI gxsz) gx16 gx17 k_fgxz (zs o 121 az) k_s1gx (bN 7 q_s1gx) k_s2gx s2gx k_s3gx s3gx k_s4gx s4gx k_s5gx s5gx k_higx higx k_logx logx k_fbu fbu) ++ zp 4 16 N az ac kz qs fz)) sz)) 0 0 (va_A (((xb16__w xa xtape (nI tp) rd au xdr hy g (nI hs) tg sg (nI ss) rm ti py bu sm (nI nc) (nI np) (nI ne) (nI st0) q4 q5 q6 q7 q8 q9 q10 q11 q12 q13 q14 q15 q16 k_f4 f4 k_f5 (bN 7 q_f5) k_f6 (bN 7 q_f6) k_f7 f7 k_f8 (bN 4 q_f8) k_f9 (bN 2 q_f9) k_f10 f10 k_f11 f11 k_f12 f12 k_f13 f13 k_f14 f14 k_f15 f15 k_f16 f16 gx gxz gx1 gx2 gx3 gx4 gx5 (nI gxc) (nI gxfull) gxx gxway gxav gxgoal (nI gxfound) 120 (nI gxl) (nI gxsz) gx16 gx17 k_fgxz (zs o 121 az) k_s1gx (bN 7 q_s1gx) k_s2gx s2gx k_s3gx s3gx k_s4gx s4gx k_s5gx s5gx k_higx higx k_logx logx k_fbu fbu) ++ zp 4 16 N az ac kz qs fz)) sz) := by
  refine Met.ofW (cc := cX8_beginAtZero) (maxL := 3) (ret := none) (by decide) rfl ?_
  intro p e s m args below meth c s₁ B hml hv
  obtain ⟨rfl, rfl, hP, hK, hD0⟩ := hv
  have hx := B.exec
  have hb := B.bytes
  have hr := B.returns
  have hts := atoms_spec (ws := vs_C_8_beginAtZero_16) B.pre
  have v_1 := hts (.fieldLink RX8 73 "ClockReach" "beginUnits" "[I") (List.mem_cons_of_mem _ cm_523)
  have v_2 := hts (.fieldLink RX8 23 "ClockReach" "model" "LClockReach$Automaton;") (List.mem_cons_of_mem _ cm_434)
  have v_3 := hts (.fieldLink RX8 122 "ClockReach$Automaton" "start" "I") (List.mem_cons_of_mem _ cm_455)
  have hown : s.vm.findClass RX8 = some m.cls := findClass_of_methodNamed B.named
  have hlocks := B.notSynchronized
  have hiX0 : ∀ w ∈ wsX00, w ∈ vs_C_8_beginAtZero_16 := fun _ h => List.mem_cons_of_mem _ (cm_X0 h)
  have hiX8 : ∀ w ∈ wsX80, w ∈ vs_C_8_beginAtZero_16 := fun _ h => List.mem_cons_of_mem _ (cm_X8 h)
  have hD := hD0.self (sz := s.heap.size)
  generalize hAe : va_A (((xb16__w xa xtape (nI tp) rd au xdr hy g (nI hs) tg sg (nI ss) rm ti py bu sm (nI nc) (nI np) (nI ne) (nI st0) q4 q5 q6 q7 q8 q9 q10 q11 q12 q13 q14 q15 q16 k_f4 f4 k_f5 (bN 7 q_f5) k_f6 (bN 7 q_f6) k_f7 f7 k_f8 (bN 4 q_f8) k_f9 (bN 2 q_f9) k_f10 f10 k_f11 f11 k_f12 f12 k_f13 f13 k_f14 f14 k_f15 f15 k_f16 f16 gx gxz gx1 gx2 gx3 gx4 gx5 (nI gxc) (nI gxfull) gxx gxway gxav gxgoal (nI gxfound) 120 (nI gxl) (nI gxsz) gx16 gx17 k_fgxz (zs o 121 az) k_s1gx (bN 7 q_s1gx) k_s2gx s2gx k_s3gx s3gx k_s4gx s4gx k_s5gx s5gx k_higx higx k_logx logx k_fbu fbu) ++ zp 4 16 N az ac kz qs fz)) s.heap.size = A at hD ⊢
  have hA : ∀ q : Nat, s.heap.size ≤ q → A q := fun q h => by rw [← hAe]; exact Or.inr h
  have hS : va_S A s.heap s.heap [] := va_S.rf
  have hl := lv_entry ([.ref xa, .ref gx]) (n := 3) (Nat.le_of_ble_eq_true rfl)
  rw [lg_entry_eq]
  generalize (lg_sl ([.ref xa, .ref gx]) ++ List.replicate (3 - (lg_sl ([.ref xa, .ref gx])).length) Slot.unset).toArray = ls at hl ⊢
  have hl : lv_has ls 3 [(0, .ref xa), (1, .ref gx)] := hl
  refine lv_iconst (v := 0) hx hb eX8_beginAtZero_0 (by decide) ?_
  refine lv_istore_n (lv' := [(2, .int 0), (0, .ref xa), (1, .ref gx)]) hx hb eX8_beginAtZero_1 rfl hl (by decide) rfl (fun ls hl => ?_)
  refine pu_while (fun nn H locs ls => ∃ (g_3 : Nat → Int32) (g_4 : Nat), nn = 5 - g_4 ∧ g_4 ≤ 5 ∧ va_P (dC, dI) vwCl ((xb16__w xa xtape (nI tp) rd au xdr hy g (nI hs) tg sg (nI ss) rm ti py bu sm (nI nc) (nI np) (nI ne) (nI st0) q4 q5 q6 q7 q8 q9 q10 q11 q12 q13 q14 q15 q16 k_f4 f4 k_f5 (bN 7 q_f5) k_f6 (bN 7 q_f6) k_f7 f7 k_f8 (bN 4 q_f8) k_f9 (bN 2 q_f9) k_f10 f10 k_f11 f11 k_f12 f12 k_f13 f13 k_f14 f14 k_f15 f15 k_f16 f16 gx gxz gx1 gx2 gx3 gx4 gx5 (nI gxc) (nI gxfull) gxx gxway gxav gxgoal (nI gxfound) 120 (nI gxl) (nI gxsz) gx16 gx17 k_fgxz (zs o 121 az) k_s1gx (bN 7 q_s1gx) k_s2gx s2gx k_s3gx s3gx k_s4gx s4gx k_s5gx s5gx k_higx higx k_logx logx k_fbu g_3) ++ zp 4 16 N az ac kz qs fz) H ∧ va_D A ((xb16__w xa xtape (nI tp) rd au xdr hy g (nI hs) tg sg (nI ss) rm ti py bu sm (nI nc) (nI np) (nI ne) (nI st0) q4 q5 q6 q7 q8 q9 q10 q11 q12 q13 q14 q15 q16 k_f4 f4 k_f5 (bN 7 q_f5) k_f6 (bN 7 q_f6) k_f7 f7 k_f8 (bN 4 q_f8) k_f9 (bN 2 q_f9) k_f10 f10 k_f11 f11 k_f12 f12 k_f13 f13 k_f14 f14 k_f15 f15 k_f16 f16 gx gxz gx1 gx2 gx3 gx4 gx5 (nI gxc) (nI gxfull) gxx gxway gxav gxgoal (nI gxfound) 120 (nI gxl) (nI gxsz) gx16 gx17 k_fgxz (zs o 121 az) k_s1gx (bN 7 q_s1gx) k_s2gx s2gx k_s3gx s3gx k_s4gx s4gx k_s5gx s5gx k_higx higx k_logx logx k_fbu g_3) ++ zp 4 16 N az ac kz qs fz) ∧ va_S A s.heap H locs ∧ lv_has ls 3 [(0, .ref xa), (1, .ref gx), (2, .int (nI g_4))]) 2 ?_ _ _ _ _ ⟨fbu, 0, rfl, (Nat.le_of_ble_eq_true rfl), hP, hD, hS, lv_sub hl [1, 2, 0] rfl⟩
  rintro nn ih_5 H locs ls ⟨g_3, g_4, rfl, hg_4, hP, hD, hS, hl⟩
  refine lv_iload_n hx hb eX8_beginAtZero_2 rfl (lv_at hl 2 rfl) ?_
  refine lv_aload_n hx hb eX8_beginAtZero_3 rfl (lv_at hl 0 rfl) ?_
  refine va_get (D := (dC, dI)) (ci := 8) (v := .ref bu) (C := RX8) (T := TX8) (N := 16) hx hb hts hiX8 hown hK hP 0 rfl rfl 14 (by decide) v_1 (fun _ h9 => h9) rfl eX8_beginAtZero_4 ?_
  refine va_alen (v := 5) hx hb hK hP 24 21 rfl rfl rfl eX8_beginAtZero_7 ?_
  refine lv_icmp_ge (tgt := 24) hx hb eX8_beginAtZero_8 (by decide) (fun c_6 => ?_) (fun c_6 => ?_)
  · have c_6 : 5 ≤ g_4 := (nI_leI (a := 5) (b := g_4) (Nat.le_of_ble_eq_true rfl) (Nat.lt_of_le_of_lt hg_4 (Nat.le_of_ble_eq_true rfl))).mp c_6
    refine lv_aload_n hx hb eX8_beginAtZero_24 rfl (lv_at hl 1 rfl) ?_
    refine lv_aload_n hx hb eX8_beginAtZero_25 rfl (lv_at hl 0 rfl) ?_
    refine va_get (D := (dC, dI)) (ci := 8) (v := .ref au) (C := RX8) (T := TX8) (N := 16) hx hb hts hiX8 hown hK hP 0 rfl rfl 3 (by decide) v_2 (fun _ h9 => h9) rfl eX8_beginAtZero_26 ?_
    refine lv_aload_n hx hb eX8_beginAtZero_29 rfl (lv_at hl 0 rfl) ?_
    refine va_get (D := (dC, dI)) (ci := 8) (v := .ref au) (C := RX8) (T := TX8) (N := 16) hx hb hts hiX8 hown hK hP 0 rfl rfl 3 (by decide) v_2 (fun _ h9 => h9) rfl eX8_beginAtZero_30 ?_
    refine va_get (D := (dC, dI)) (ci := 0) (v := .int (nI st0)) (C := RX0) (T := TX0) (N := 17) hx hb hts hiX0 hown hK hP 1 rfl rfl 3 (by decide) v_3 (fun _ h9 => h9) rfl eX8_beginAtZero_33 ?_
    refine lv_aload_n hx hb eX8_beginAtZero_36 rfl (lv_at hl 0 rfl) ?_
    refine va_get (D := (dC, dI)) (ci := 8) (v := .ref bu) (C := RX8) (T := TX8) (N := 16) hx hb hts hiX8 hown hK hP 0 rfl rfl 14 (by decide) v_1 (fun _ h9 => h9) rfl eX8_beginAtZero_37 ?_
    have hPc : va_P (dC, dI) vwCl ([(gx, .inr (1, [.ref gxz, .ref gx1, .ref gx2, .ref gx3, .ref gx4, .ref gx5, .int (nI gxc), .int (nI gxfull), .int gxx, .int gxway, .int gxav, .int gxgoal, .int (nI gxfound), .int 120, .int (nI gxl), .int (nI gxsz), .ref gx16, .ref gx17])), (gxz, .inl (k_fgxz, 121, .inr (.inr (.inr (.inr (zs o 121 az)))))), (gx1, .inl (k_s1gx, 120, .inl (bN 7 q_s1gx))), (gx2, .inl (k_s2gx, 120, .inl s2gx)), (gx3, .inl (k_s3gx, 120, .inl s3gx)), (gx4, .inl (k_s4gx, 120, .inl s4gx)), (gx5, .inl (k_s5gx, 120, .inl s5gx)), (gx16, .inl (k_higx, 5, .inl higx)), (gx17, .inl (k_logx, 5, .inl logx)), (au, .inr (0, [.int (nI nc), .int (nI np), .int (nI ne), .int (nI st0), .ref q4, .ref q5, .ref q6, .ref q7, .ref q8, .ref q9, .ref q10, .ref q11, .ref q12, .ref q13, .ref q14, .ref q15, .ref q16])), (q4, .inl (k_f4, 8, .inl f4)), (q5, .inl (k_f5, 14, .inl (bN 7 q_f5))), (q6, .inl (k_f6, 14, .inl (bN 7 q_f6))), (q7, .inl (k_f7, 14, .inl f7)), (q8, .inl (k_f8, 22, .inl (bN 4 q_f8))), (q9, .inl (k_f9, 88, .inl (bN 2 q_f9))), (q10, .inl (k_f10, 88, .inl f10)), (q11, .inl (k_f11, 88, .inl f11)), (q12, .inl (k_f12, 88, .inl f12)), (q13, .inl (k_f13, 88, .inl f13)), (q14, .inl (k_f14, 4, .inl f14)), (q15, .inl (k_f15, 4, .inl f15)), (q16, .inl (k_f16, 4, .inl f16)), (bu, .inl (k_fbu, 5, .inl g_3))] ++ zp 4 16 N az ac kz qs fz) _ := hP.part [15, 16, 17, 18, 19, 20, 21, 22, 23, 1, 2, 3, 4, 5, 6, 7, 8, 9, 10, 11, 12, 13, 14, 24] rfl
    have hDc : va_D A ([(gx, .inr (1, [.ref gxz, .ref gx1, .ref gx2, .ref gx3, .ref gx4, .ref gx5, .int (nI gxc), .int (nI gxfull), .int gxx, .int gxway, .int gxav, .int gxgoal, .int (nI gxfound), .int 120, .int (nI gxl), .int (nI gxsz), .ref gx16, .ref gx17])), (gxz, .inl (k_fgxz, 121, .inr (.inr (.inr (.inr (zs o 121 az)))))), (gx1, .inl (k_s1gx, 120, .inl (bN 7 q_s1gx))), (gx2, .inl (k_s2gx, 120, .inl s2gx)), (gx3, .inl (k_s3gx, 120, .inl s3gx)), (gx4, .inl (k_s4gx, 120, .inl s4gx)), (gx5, .inl (k_s5gx, 120, .inl s5gx)), (gx16, .inl (k_higx, 5, .inl higx)), (gx17, .inl (k_logx, 5, .inl logx)), (au, .inr (0, [.int (nI nc), .int (nI np), .int (nI ne), .int (nI st0), .ref q4, .ref q5, .ref q6, .ref q7, .ref q8, .ref q9, .ref q10, .ref q11, .ref q12, .ref q13, .ref q14, .ref q15, .ref q16])), (q4, .inl (k_f4, 8, .inl f4)), (q5, .inl (k_f5, 14, .inl (bN 7 q_f5))), (q6, .inl (k_f6, 14, .inl (bN 7 q_f6))), (q7, .inl (k_f7, 14, .inl f7)), (q8, .inl (k_f8, 22, .inl (bN 4 q_f8))), (q9, .inl (k_f9, 88, .inl (bN 2 q_f9))), (q10, .inl (k_f10, 88, .inl f10)), (q11, .inl (k_f11, 88, .inl f11)), (q12, .inl (k_f12, 88, .inl f12)), (q13, .inl (k_f13, 88, .inl f13)), (q14, .inl (k_f14, 4, .inl f14)), (q15, .inl (k_f15, 4, .inl f15)), (q16, .inl (k_f16, 4, .inl f16)), (bu, .inl (k_fbu, 5, .inl g_3))] ++ zp 4 16 N az ac kz qs fz) := hD.part [15, 16, 17, 18, 19, 20, 21, 22, 23, 1, 2, 3, 4, 5, 6, 7, 8, 9, 10, 11, 12, 13, 14, 24] (by decide) rfl
    have hKc : va_K (dC, dI) vwCl ([(k_fgxz, .object RX7), (k_s1gx, .int), (k_s2gx, .int), (k_s3gx, .int), (k_s4gx, .int), (k_s5gx, .int), (k_higx, .int), (k_logx, .int), (k_f4, .boolean), (k_f5, .int), (k_f6, .int), (k_f7, .int), (k_f8, .int), (k_f9, .int), (k_f10, .int), (k_f11, .int), (k_f12, .int), (k_f13, .int), (k_f14, .int), (k_f15, .int), (k_f16, .int), (k_fbu, .int)] ++ zt N kz) s := zk_part hK [13, 14, 15, 16, 17, 18, 19, 20, 0, 1, 2, 3, 4, 5, 6, 7, 8, 9, 10, 11, 12, 21] rfl
    have hFc := pu_free hDc hS hA
    refine va_callv (va_runV (As := [.ref au, .int (nI st0), .ref bu]) (rest := []) ⟨hx, hb, hml, hown, hts⟩ (c_C_1_open_16 l dC dI _ gx gxz gx1 gx2 gx3 gx4 gx5 gxc gxfull gxx gxway gxav gxgoal gxfound gxl gxsz gx16 gx17 k_fgxz k_s1gx q_s1gx k_s2gx s2gx k_s3gx s3gx k_s4gx s4gx k_s5gx s5gx k_higx higx k_logx logx au nc np ne (nI st0) q4 q5 q6 q7 q8 q9 q10 q11 q12 q13 q14 q15 q16 k_f4 f4 k_f5 q_f5 k_f6 q_f6 k_f7 f7 k_f8 q_f8 k_f9 q_f9 k_f10 f10 k_f11 f11 k_f12 f12 k_f13 f13 k_f14 f14 k_f15 f15 k_f16 f16 bu k_fbu g_3 N o az ac kz qs fz st0 hgxc hgxfull hgxfound hgxl hgxsz hnc hnp hne (Or.inr ⟨st0, hst0, rfl⟩) (by omega) hst0) (cwV 3 hts g_C_8_beginAtZero_16_C_1_open_16 rfl rfl rfl (by decide +kernel) ⟨Nat.le_of_ble_eq_true rfl, Nat.le_of_ble_eq_true rfl⟩) ⟨pu_bl, va_recv hK hP (ci := 1) (q0 := 15) rfl rfl, pu_in hPc hKc hDc⟩ rfl rfl hl.1 rfl (lv_room (Nat.le_of_ble_eq_true rfl)) eX8_beginAtZero_40 ⟨Nat.le_of_ble_eq_true rfl, Nat.le_of_ble_eq_true rfl⟩) hS (fun q _ h => hFc q h) hFc (fun u t H1 locs ht hvm hw hB hz1 hk1 hS => ?_)
    obtain ⟨z_fs1_8, z_fs2_9, z_fs3_10, z_fs4_11, z_fs5_12, z_gfound_13, z_gc_14, z_gfull_15, z_gx_16, z_fz_17, z_qs_18, ⟨hP1, -, hD1⟩, hz_gfound_13, hz_gc_14, hz_gfull_15, xr_7_0⟩ := hB
    rw [ht] at hP1
    obtain ⟨hP, hD⟩ := pl_put (X' := (xb16__w xa xtape (nI tp) rd au xdr hy g (nI hs) tg sg (nI ss) rm ti py bu sm (nI nc) (nI np) (nI ne) (nI st0) q4 q5 q6 q7 q8 q9 q10 q11 q12 q13 q14 q15 q16 k_f4 f4 k_f5 (bN 7 q_f5) k_f6 (bN 7 q_f6) k_f7 f7 k_f8 (bN 4 q_f8) k_f9 (bN 2 q_f9) k_f10 f10 k_f11 f11 k_f12 f12 k_f13 f13 k_f14 f14 k_f15 f15 k_f16 f16 gx gxz gx1 gx2 gx3 gx4 gx5 (nI z_gc_14) (nI z_gfull_15) z_gx_16 gxway gxav gxgoal (nI z_gfound_13) 120 (nI gxl) (nI gxsz) gx16 gx17 k_fgxz (zs o 121 az) k_s1gx (bN 7 z_fs1_8) k_s2gx z_fs2_9 k_s3gx z_fs3_10 k_s4gx z_fs4_11 k_s5gx z_fs5_12 k_higx higx k_logx logx k_fbu g_3)) (w1 := (gs2__w gx gxz gx1 gx2 gx3 gx4 gx5 (nI z_gc_14) (nI z_gfull_15) z_gx_16 gxway gxav gxgoal (nI z_gfound_13) 120 (nI gxl) (nI gxsz) gx16 gx17 k_fgxz (zs o 121 az) k_s1gx (bN 7 z_fs1_8) k_s2gx z_fs2_9 k_s3gx z_fs3_10 k_s4gx z_fs4_11 k_s5gx z_fs5_12 k_higx higx k_logx logx au (nI nc) (nI np) (nI ne) (nI st0) q4 q5 q6 q7 q8 q9 q10 q11 q12 q13 q14 q15 q16 k_f4 f4 k_f5 (bN 7 q_f5) k_f6 (bN 7 q_f6) k_f7 f7 k_f8 (bN 4 q_f8) k_f9 (bN 2 q_f9) k_f10 f10 k_f11 f11 k_f12 f12 k_f13 f13 k_f14 f14 k_f15 f15 k_f16 f16 bu k_fbu g_3)) hP hD [15, 16, 17, 18, 19, 20, 21, 22, 23, 1, 2, 3, 4, 5, 6, 7, 8, 9, 10, 11, 12, 13, 14, 24] rfl hk1 hP1 rfl zp_f rfl
    clear hP1 hD1 hFc
    clear hPc hDc hKc
    clear hk1 hz1 ht hvm
    generalize H1 = H at hP hS ⊢
    exact W.vret hx hb hr (fun t ht hW => ⟨⟨(), rfl, trivial, ⟨z_fs1_8, z_fs2_9, z_fs3_10, z_fs4_11, z_fs5_12, g_3, z_gfound_13, z_gc_14, z_gfull_15, z_gx_16, z_fz_17, z_qs_18, ⟨by rw [ht]; exact hP, va_K.moved hW.alike hK, hD⟩, hz_gfound_13, hz_gc_14, hz_gfull_15, by first | assumption | exact gz_0⟩⟩, hS.F ht⟩) hS.2.2 eX8_beginAtZero_43
  · have c_6 : ¬ 5 ≤ g_4 := fun z => c_6 ((nI_leI (a := 5) (b := g_4) (Nat.le_of_ble_eq_true rfl) (Nat.lt_of_le_of_lt hg_4 (Nat.le_of_ble_eq_true rfl))).mpr z)
    refine lv_aload_n hx hb eX8_beginAtZero_11 rfl (lv_at hl 0 rfl) ?_
    refine va_get (D := (dC, dI)) (ci := 8) (v := .ref bu) (C := RX8) (T := TX8) (N := 16) hx hb hts hiX8 hown hK hP 0 rfl rfl 14 (by decide) v_1 (fun _ h9 => h9) rfl eX8_beginAtZero_12 ?_
    refine lv_iload_n hx hb eX8_beginAtZero_15 rfl (lv_at hl 2 rfl) ?_
    refine lv_iconst (v := 0) hx hb eX8_beginAtZero_16 (by decide) ?_
    refine va_iast hx hb hK hP hD hS 24 21 rfl rfl (vp_in_nI (n := g_4) (by omega) (Nat.le_of_ble_eq_true rfl)) eX8_beginAtZero_17 (fun H locs hP hD hS => ?_)
    have hP : va_P (dC, dI) vwCl ((xb16__w xa xtape (nI tp) rd au xdr hy g (nI hs) tg sg (nI ss) rm ti py bu sm (nI nc) (nI np) (nI ne) (nI st0) q4 q5 q6 q7 q8 q9 q10 q11 q12 q13 q14 q15 q16 k_f4 f4 k_f5 (bN 7 q_f5) k_f6 (bN 7 q_f6) k_f7 f7 k_f8 (bN 4 q_f8) k_f9 (bN 2 q_f9) k_f10 f10 k_f11 f11 k_f12 f12 k_f13 f13 k_f14 f14 k_f15 f15 k_f16 f16 gx gxz gx1 gx2 gx3 gx4 gx5 (nI gxc) (nI gxfull) gxx gxway gxav gxgoal (nI gxfound) 120 (nI gxl) (nI gxsz) gx16 gx17 k_fgxz (zs o 121 az) k_s1gx (bN 7 q_s1gx) k_s2gx s2gx k_s3gx s3gx k_s4gx s4gx k_s5gx s5gx k_higx higx k_logx logx k_fbu (upd g_3 ((nI g_4) : Int32).toNatClampNeg 0)) ++ zp 4 16 N az ac kz qs fz) H := hP
    have hD : va_D A ((xb16__w xa xtape (nI tp) rd au xdr hy g (nI hs) tg sg (nI ss) rm ti py bu sm (nI nc) (nI np) (nI ne) (nI st0) q4 q5 q6 q7 q8 q9 q10 q11 q12 q13 q14 q15 q16 k_f4 f4 k_f5 (bN 7 q_f5) k_f6 (bN 7 q_f6) k_f7 f7 k_f8 (bN 4 q_f8) k_f9 (bN 2 q_f9) k_f10 f10 k_f11 f11 k_f12 f12 k_f13 f13 k_f14 f14 k_f15 f15 k_f16 f16 gx gxz gx1 gx2 gx3 gx4 gx5 (nI gxc) (nI gxfull) gxx gxway gxav gxgoal (nI gxfound) 120 (nI gxl) (nI gxsz) gx16 gx17 k_fgxz (zs o 121 az) k_s1gx (bN 7 q_s1gx) k_s2gx s2gx k_s3gx s3gx k_s4gx s4gx k_s5gx s5gx k_higx higx k_logx logx k_fbu (upd g_3 ((nI g_4) : Int32).toNatClampNeg 0)) ++ zp 4 16 N az ac kz qs fz) := hD
    refine lv_iinc (v := (nI (g_4 + 1))) (lv' := [(2, .int (nI (g_4 + 1))), (0, .ref xa), (1, .ref gx)]) hx hb eX8_beginAtZero_18 hl (k := 2) rfl (nI_1 _) (by decide) rfl (fun ls hl => ?_)
    refine lv_goto (tgt := 2) hx hb eX8_beginAtZero_21 (by decide) ?_
    exact ih_5 (5 - (g_4 + 1)) (by omega) _ _ _ ⟨(upd g_3 ((nI g_4) : Int32).toNatClampNeg 0), (g_4 + 1), rfl, (by omega), hP, hD, hS, lv_sub hl [1, 2, 0] rfl⟩
abbrev vs_C_8_beginAtZero_25 : List Cond := .code yX8_beginAtZero cX8_beginAtZero 3 none :: CM
theorem g_C_8_beginAtZero_25_C_1_open_25 : GoodIn vs_C_8_beginAtZero_25 (wsV RX8 224 RX1 yX1_open vs_C_1_open_25) := cm_gV cm_524 cm_525 cm_526 cm_113 cm_88
set_option maxHeartbeats 4000000 in
set_option maxRecDepth 100000 in
theorem c_C_8_beginAtZero_25 (l : Launch) (dC : Nat → ClassId) (dI : Nat → Nat → Nat) (sz : Nat) (xa : Nat) (xtape : Nat) (tp : Nat) (rd : Nat) (au : Nat) (xdr : Nat) (hy : Nat) (g : Nat) (hs : Nat) (tg : Nat) (sg : Nat) (ss : Nat) (rm : Nat) (ti : Nat) (py : Nat) (bu : Nat) (sm : Nat) (nc : Nat) (np : Nat) (ne : Nat) (st0 : Nat) (q4 : Nat) (q5 : Nat) (q6 : Nat) (q7 : Nat) (q8 : Nat) (q9 : Nat) (q10 : Nat) (q11 : Nat) (q12 : Nat) (q13 : Nat) (q14 : Nat) (q15 : Nat) (q16 : Nat) (k_f4 : ClassId) (f4 : Nat → Int32) (k_f5 : ClassId) (q_f5 : Nat → Nat) (k_f6 : ClassId) (q_f6 : Nat → Nat) (k_f7 : ClassId) (f7 : Nat → Int32) (k_f8 : ClassId) (q_f8 : Nat → Nat) (k_f9 : ClassId) (q_f9 : Nat → Nat) (k_f10 : ClassId) (f10 : Nat → Int32) (k_f11 : ClassId) (f11 : Nat → Int32) (k_f12 : ClassId) (f12 : Nat → Int32) (k_f13 : ClassId) (f13 : Nat → Int32) (k_f14 : ClassId) (f14 : Nat → Int32) (k_f15 : ClassId) (f15 : Nat → Int32) (k_f16 : ClassId) (f16 : Nat → Int32) (gx : Nat) (gxz : Nat) (gx1 : Nat) (gx2 : Nat) (gx3 : Nat) (gx4 : Nat) (gx5 : Nat) (gxc : Nat) (gxfull : Nat) (gxx : Int32) (gxway : Int32) (gxav : Int32) (gxgoal : Int32) (gxfound : Nat) (gxl : Nat) (gxsz : Nat) (gx16 : Nat) (gx17 : Nat) (k_fgxz : ClassId) (k_s1gx : ClassId) (q_s1gx : Nat → Nat) (k_s2gx : ClassId) (s2gx : Nat → Int32) (k_s3gx : ClassId) (s3gx : Nat → Int32) (k_s4gx : ClassId) (s4gx : Nat → Int32) (k_s5gx : ClassId) (s5gx : Nat → Int32) (k_higx : ClassId) (higx : Nat → Int32) (k_logx : ClassId) (logx : Nat → Int32) (k_fbu : ClassId) (fbu : Nat → Int32) (N : Nat) (o : Nat) (az ac : Nat → Nat) (kz : Nat → ClassId) (qs : Nat → Nat) (fz : Nat → Nat → Int32) (htp : tp ≤ 900) (hhs : hs ≤ 1) (hss : ss ≤ 1) (hnc : nc ≤ 3) (hnp : np ≤ 8) (hne : ne ≤ 14) (hst0 : st0 ≤ 7) (hgxc : gxc ≤ 400) (hgxfull : gxfull ≤ 1) (hgxfound : gxfound ≤ 1) (hgxl : gxl ≤ 1) (hgxsz : gxsz ≤ 5) (hN : o + 401 ≤ N) : Met l yX8_beginAtZero vs_C_8_beginAtZero_25 ({ frames := 4, cells := 0, slots := 0, locals := 101 }) (va_Pc [.ref xa, .ref gx] (pu_B (dC, dI) ((xb25__w xa xtape (nI tp) rd au xdr hy g (nI hs) tg sg (nI ss) rm ti py bu sm (nI nc) (nI np) (nI ne) (nI st0) q4 q5 q6 q7 q8 q9 q10 q11 q12 q13 q14 q15 q16 k_f4 f4 k_f5 (bN 7 q_f5) k_f6 (bN 7 q_f6) k_f7 f7 k_f8 (bN 4 q_f8) k_f9 (bN 2 q_f9) k_f10 f10 k_f11 f11 k_f12 f12 k_f13 f13 k_f14 f14 k_f15 f15 k_f16 f16 gx gxz gx1 gx2 gx3 gx4 gx5 (nI gxc) (nI gxfull) gxx gxway gxav gxgoal (nI gxfound) 400 (nI gxl) (nI gxsz) gx16 gx17 k_fgxz (zs o 401 az) k_s1gx (bN 7 q_s1gx) k_s2gx s2gx k_s3gx s3gx k_s4gx s4gx k_s5gx s5gx k_higx higx k_logx logx k_fbu fbu) ++ zp 5 25 N az ac kz qs fz) ((xb25__t k_f4 k_f5 k_f6 k_f7 k_f8 k_f9 k_f10 k_f11 k_f12 k_f13 k_f14 k_f15 k_f16 k_fgxz k_s1gx k_s2gx k_s3gx k_s4gx k_s5gx k_higx k_logx k_fbu) ++ zt N kz) sz)) (va_Qv (fun (_ : Unit) => True) (fun _ t => ∃ (z_s1gx : Nat → Nat) (z_s2gx : Nat → Int32) (z_s3gx : Nat → Int32) (z_s4gx : Nat → Int32) (z_s5gx : Nat → Int32) (z_fbu : Nat → Int32) (z_gxfound : Nat) (z_gxc : Nat) (z_gxfull : Nat) (z_gxx : Int32) (z_fz : Nat → Nat → Int32) (z_qs : Nat → Nat), pu_E (dC, dI) ((xb25__w xa xtape (nI tp) rd au xdr hy g (nI hs) tg sg (nI ss) rm ti py bu sm (nI nc) (nI np) (nI ne) (nI st0) q4 q5 q6 q7 q8 q9 q10 q11 q12 q13 q14 q15 q16 k_f4 f4 k_f5 (bN 7 q_f5) k_f6 (bN 7 q_f6) k_f7 f7 k_f8 (bN 4 q_f8) k_f9 (bN 2 q_f9) k_f10 f10 k_f11 f11 k_f12 f12 k_f13 f13 k_f14 f14 k_f15 f15 k_f16 f16 gx gxz gx1 gx2 gx3 gx4 gx5 (nI z_gxc) (nI z_gxfull) z_gxx gxway gxav gxgoal (nI z_gxfound) 400 (nI gxl) (nI gxsz) gx16 gx17 k_fgxz (zs o 401 az) k_s1gx (bN 7 z_s1gx) k_s2gx z_s2gx k_s3gx z_s3gx k_s4gx z_s4gx k_s5gx z_s5gx k_higx higx k_logx logx k_fbu z_fbu) ++ zp 5 25 N az ac kz z_qs z_fz) ((xb25__t k_f4 k_f5 k_f6 k_f7 k_f8 k_f9 k_f10 k_f11 k_f12 k_f13 k_f14 k_f15 k_f16 k_fgxz k_s1gx k_s2gx k_s3gx k_s4gx k_s5gx k_higx k_logx k_fbu) ++ zt N kz) (va_A (((xb25__w xa xtape (nI tp) rd au xdr hy g (nI hs) tg sg (nI ss) rm ti py bu sm (nI nc) (nI np) (nI ne) (nI st0) q4 q5 q6 q7 q8 q9 q10 q11 q12 q13 q14 q15 q16 k_f4 f4 k_f5 (bN 7 q_f5) k_f6 (bN 7 q_f6) k_f7 f7 k_f8 (bN 4 q_f8) k_f9 (bN 2 q_f9) k_f10 f10 k_f11 f11 k_f12 f12 k_f13 f13 k_f14 f14 k_f15 f15 k_f16 f16 gx gxz gx1 gx2 gx3 gx4 gx5 (nI gxc) (nI gxfull) gxx gxway gxav gxgoal (nI gxfound) 400 (nI gxl) (nI gxsz) gx16 gx17 k_fgxz (zs o 401 az) k_s1gx (bN 7 q_s1gx) k_s2gx s2gx k_s3gx s3gx k_s4gx s4gx k_s5gx s5gx k_higx higx k_logx logx k_fbu fbu) ++ zp 5 25 N az ac kz qs fz)) sz) t ∧ (z_gxfound ≤ 1) ∧ (z_gxc ≤ 400) ∧ (z_gxfull ≤ 1) ∧ (gz_ok z_gxc z_s2gx z_s3gx z_s4gx)) (va_A (((xb25__w xa xtape (nI tp) rd au xdr hy g (nI hs) tg sg (nI ss) rm ti py bu sm (nI nc) (nI np) (nI ne) (nI st0) q4 q5 q6 q7 q8 q9 q10 q11 q12 q13 q14 q15 q16 k_f4 f4 k_f5 (bN 7 q_f5) k_f6 (bN 7 q_f6) k_f7 f7 k_f8 (bN 4 q_f8) k_f9 (bN 2 q_f9) k_f10 f10 k_f11 f11 k_f12 f12 k_f13 f13 k_f14 f14 k_f15 f15 k_f16 f16 gx gxz gx1 gx2 gx3 gx4 gx5 (nI gxc) (nI gxfull) gxx gxway gxav gxgoal (nI gxfound) 400 (nI gxl) (nI gxsz) gx16 gx17 k_fgxz (zs o 401 az) k_s1gx (bN 7 q_s1gx) k_s2gx s2gx k_s3gx s3gx k_s4gx s4gx k_s5gx s5gx k_higx higx k_logx logx k_fbu fbu) ++ zp 5 25 N az ac kz qs fz)) sz)) 0 0 (va_A (((xb25__w xa xtape (nI tp) rd au xdr hy g (nI hs) tg sg (nI ss) rm ti py bu sm (nI nc) (nI np) (nI ne) (nI st0) q4 q5 q6 q7 q8 q9 q10 q11 q12 q13 q14 q15 q16 k_f4 f4 k_f5 (bN 7 q_f5) k_f6 (bN 7 q_f6) k_f7 f7 k_f8 (bN 4 q_f8) k_f9 (bN 2 q_f9) k_f10 f10 k_f11 f11 k_f12 f12 k_f13 f13 k_f14 f14 k_f15 f15 k_f16 f16 gx gxz gx1 gx2 gx3 gx4 gx5 (nI gxc) (nI gxfull) gxx gxway gxav gxgoal (nI gxfound) 400 (nI gxl) (nI gxsz) gx16 gx17 k_fgxz (zs o 401 az) k_s1gx (bN 7 q_s1gx) k_s2gx s2gx k_s3gx s3gx k_s4gx s4gx k_s5gx s5gx k_higx higx k_logx logx k_fbu fbu) ++ zp 5 25 N az ac kz qs fz)) sz) := by
  refine Met.ofW (cc := cX8_beginAtZero) (maxL := 3) (ret := none) (by decide) rfl ?_
  intro p e s m args below meth c s₁ B hml hv
  obtain ⟨rfl, rfl, hP, hK, hD0⟩ := hv
  have hx := B.exec
  have hb := B.bytes
  have hr := B.returns
  have hts := atoms_spec (ws := vs_C_8_beginAtZero_25) B.pre
  have v_1 := hts (.fieldLink RX8 73 "ClockReach" "beginUnits" "[I") (List.mem_cons_of_mem _ cm_523)
  have v_2 := hts (.fieldLink RX8 23 "ClockReach" "model" "LClockReach$Automaton;") (List.mem_cons_of_mem _ cm_434)
  have v_3 := hts (.fieldLink RX8 122 "ClockReach$Automaton" "start" "I") (List.mem_cons_of_mem _ cm_455)
  have hown : s.vm.findClass RX8 = some m.cls := findClass_of_methodNamed B.named
  have hlocks := B.notSynchronized
  have hiX0 : ∀ w ∈ wsX00, w ∈ vs_C_8_beginAtZero_25 := fun _ h => List.mem_cons_of_mem _ (cm_X0 h)
  have hiX8 : ∀ w ∈ wsX80, w ∈ vs_C_8_beginAtZero_25 := fun _ h => List.mem_cons_of_mem _ (cm_X8 h)
  have hD := hD0.self (sz := s.heap.size)
  generalize hAe : va_A (((xb25__w xa xtape (nI tp) rd au xdr hy g (nI hs) tg sg (nI ss) rm ti py bu sm (nI nc) (nI np) (nI ne) (nI st0) q4 q5 q6 q7 q8 q9 q10 q11 q12 q13 q14 q15 q16 k_f4 f4 k_f5 (bN 7 q_f5) k_f6 (bN 7 q_f6) k_f7 f7 k_f8 (bN 4 q_f8) k_f9 (bN 2 q_f9) k_f10 f10 k_f11 f11 k_f12 f12 k_f13 f13 k_f14 f14 k_f15 f15 k_f16 f16 gx gxz gx1 gx2 gx3 gx4 gx5 (nI gxc) (nI gxfull) gxx gxway gxav gxgoal (nI gxfound) 400 (nI gxl) (nI gxsz) gx16 gx17 k_fgxz (zs o 401 az) k_s1gx (bN 7 q_s1gx) k_s2gx s2gx k_s3gx s3gx k_s4gx s4gx k_s5gx s5gx k_higx higx k_logx logx k_fbu fbu) ++ zp 5 25 N az ac kz qs fz)) s.heap.size = A at hD ⊢
  have hA : ∀ q : Nat, s.heap.size ≤ q → A q := fun q h => by rw [← hAe]; exact Or.inr h
  have hS : va_S A s.heap s.heap [] := va_S.rf
  have hl := lv_entry ([.ref xa, .ref gx]) (n := 3) (Nat.le_of_ble_eq_true rfl)
  rw [lg_entry_eq]
  generalize (lg_sl ([.ref xa, .ref gx]) ++ List.replicate (3 - (lg_sl ([.ref xa, .ref gx])).length) Slot.unset).toArray = ls at hl ⊢
  have hl : lv_has ls 3 [(0, .ref xa), (1, .ref gx)] := hl
  refine lv_iconst (v := 0) hx hb eX8_beginAtZero_0 (by decide) ?_
  refine lv_istore_n (lv' := [(2, .int 0), (0, .ref xa), (1, .ref gx)]) hx hb eX8_beginAtZero_1 rfl hl (by decide) rfl (fun ls hl => ?_)
  refine pu_while (fun nn H locs ls => ∃ (g_3 : Nat → Int32) (g_4 : Nat), nn = 5 - g_4 ∧ g_4 ≤ 5 ∧ va_P (dC, dI) vwCl ((xb25__w xa xtape (nI tp) rd au xdr hy g (nI hs) tg sg (nI ss) rm ti py bu sm (nI nc) (nI np) (nI ne) (nI st0) q4 q5 q6 q7 q8 q9 q10 q11 q12 q13 q14 q15 q16 k_f4 f4 k_f5 (bN 7 q_f5) k_f6 (bN 7 q_f6) k_f7 f7 k_f8 (bN 4 q_f8) k_f9 (bN 2 q_f9) k_f10 f10 k_f11 f11 k_f12 f12 k_f13 f13 k_f14 f14 k_f15 f15 k_f16 f16 gx gxz gx1 gx2 gx3 gx4 gx5 (nI gxc) (nI gxfull) gxx gxway gxav gxgoal (nI gxfound) 400 (nI gxl) (nI gxsz) gx16 gx17 k_fgxz (zs o 401 az) k_s1gx (bN 7 q_s1gx) k_s2gx s2gx k_s3gx s3gx k_s4gx s4gx k_s5gx s5gx k_higx higx k_logx logx k_fbu g_3) ++ zp 5 25 N az ac kz qs fz) H ∧ va_D A ((xb25__w xa xtape (nI tp) rd au xdr hy g (nI hs) tg sg (nI ss) rm ti py bu sm (nI nc) (nI np) (nI ne) (nI st0) q4 q5 q6 q7 q8 q9 q10 q11 q12 q13 q14 q15 q16 k_f4 f4 k_f5 (bN 7 q_f5) k_f6 (bN 7 q_f6) k_f7 f7 k_f8 (bN 4 q_f8) k_f9 (bN 2 q_f9) k_f10 f10 k_f11 f11 k_f12 f12 k_f13 f13 k_f14 f14 k_f15 f15 k_f16 f16 gx gxz gx1 gx2 gx3 gx4 gx5 (nI gxc) (nI gxfull) gxx gxway gxav gxgoal (nI gxfound) 400 (nI gxl) (nI gxsz) gx16 gx17 k_fgxz (zs o 401 az) k_s1gx (bN 7 q_s1gx) k_s2gx s2gx k_s3gx s3gx k_s4gx s4gx k_s5gx s5gx k_higx higx k_logx logx k_fbu g_3) ++ zp 5 25 N az ac kz qs fz) ∧ va_S A s.heap H locs ∧ lv_has ls 3 [(0, .ref xa), (1, .ref gx), (2, .int (nI g_4))]) 2 ?_ _ _ _ _ ⟨fbu, 0, rfl, (Nat.le_of_ble_eq_true rfl), hP, hD, hS, lv_sub hl [1, 2, 0] rfl⟩
  rintro nn ih_5 H locs ls ⟨g_3, g_4, rfl, hg_4, hP, hD, hS, hl⟩
  refine lv_iload_n hx hb eX8_beginAtZero_2 rfl (lv_at hl 2 rfl) ?_
  refine lv_aload_n hx hb eX8_beginAtZero_3 rfl (lv_at hl 0 rfl) ?_
  refine va_get (D := (dC, dI)) (ci := 8) (v := .ref bu) (C := RX8) (T := TX8) (N := 16) hx hb hts hiX8 hown hK hP 0 rfl rfl 14 (by decide) v_1 (fun _ h9 => h9) rfl eX8_beginAtZero_4 ?_
  refine va_alen (v := 5) hx hb hK hP 24 21 rfl rfl rfl eX8_beginAtZero_7 ?_
  refine lv_icmp_ge (tgt := 24) hx hb eX8_beginAtZero_8 (by decide) (fun c_6 => ?_) (fun c_6 => ?_)
  · have c_6 : 5 ≤ g_4 := (nI_leI (a := 5) (b := g_4) (Nat.le_of_ble_eq_true rfl) (Nat.lt_of_le_of_lt hg_4 (Nat.le_of_ble_eq_true rfl))).mp c_6
    refine lv_aload_n hx hb eX8_beginAtZero_24 rfl (lv_at hl 1 rfl) ?_
    refine lv_aload_n hx hb eX8_beginAtZero_25 rfl (lv_at hl 0 rfl) ?_
    refine va_get (D := (dC, dI)) (ci := 8) (v := .ref au) (C := RX8) (T := TX8) (N := 16) hx hb hts hiX8 hown hK hP 0 rfl rfl 3 (by decide) v_2 (fun _ h9 => h9) rfl eX8_beginAtZero_26 ?_
    refine lv_aload_n hx hb eX8_beginAtZero_29 rfl (lv_at hl 0 rfl) ?_
    refine va_get (D := (dC, dI)) (ci := 8) (v := .ref au) (C := RX8) (T := TX8) (N := 16) hx hb hts hiX8 hown hK hP 0 rfl rfl 3 (by decide) v_2 (fun _ h9 => h9) rfl eX8_beginAtZero_30 ?_
    refine va_get (D := (dC, dI)) (ci := 0) (v := .int (nI st0)) (C := RX0) (T := TX0) (N := 17) hx hb hts hiX0 hown hK hP 1 rfl rfl 3 (by decide) v_3 (fun _ h9 => h9) rfl eX8_beginAtZero_33 ?_
    refine lv_aload_n hx hb eX8_beginAtZero_36 rfl (lv_at hl 0 rfl) ?_
    refine va_get (D := (dC, dI)) (ci := 8) (v := .ref bu) (C := RX8) (T := TX8) (N := 16) hx hb hts hiX8 hown hK hP 0 rfl rfl 14 (by decide) v_1 (fun _ h9 => h9) rfl eX8_beginAtZero_37 ?_
    have hPc : va_P (dC, dI) vwCl ([(gx, .inr (1, [.ref gxz, .ref gx1, .ref gx2, .ref gx3, .ref gx4, .ref gx5, .int (nI gxc), .int (nI gxfull), .int gxx, .int gxway, .int gxav, .int gxgoal, .int (nI gxfound), .int 400, .int (nI gxl), .int (nI gxsz), .ref gx16, .ref gx17])), (gxz, .inl (k_fgxz, 401, .inr (.inr (.inr (.inr (zs o 401 az)))))), (gx1, .inl (k_s1gx, 400, .inl (bN 7 q_s1gx))), (gx2, .inl (k_s2gx, 400, .inl s2gx)), (gx3, .inl (k_s3gx, 400, .inl s3gx)), (gx4, .inl (k_s4gx, 400, .inl s4gx)), (gx5, .inl (k_s5gx, 400, .inl s5gx)), (gx16, .inl (k_higx, 5, .inl higx)), (gx17, .inl (k_logx, 5, .inl logx)), (au, .inr (0, [.int (nI nc), .int (nI np), .int (nI ne), .int (nI st0), .ref q4, .ref q5, .ref q6, .ref q7, .ref q8, .ref q9, .ref q10, .ref q11, .ref q12, .ref q13, .ref q14, .ref q15, .ref q16])), (q4, .inl (k_f4, 8, .inl f4)), (q5, .inl (k_f5, 14, .inl (bN 7 q_f5))), (q6, .inl (k_f6, 14, .inl (bN 7 q_f6))), (q7, .inl (k_f7, 14, .inl f7)), (q8, .inl (k_f8, 22, .inl (bN 4 q_f8))), (q9, .inl (k_f9, 88, .inl (bN 2 q_f9))), (q10, .inl (k_f10, 88, .inl f10)), (q11, .inl (k_f11, 88, .inl f11)), (q12, .inl (k_f12, 88, .inl f12)), (q13, .inl (k_f13, 88, .inl f13)), (q14, .inl (k_f14, 4, .inl f14)), (q15, .inl (k_f15, 4, .inl f15)), (q16, .inl (k_f16, 4, .inl f16)), (bu, .inl (k_fbu, 5, .inl g_3))] ++ zp 5 25 N az ac kz qs fz) _ := hP.part [15, 16, 17, 18, 19, 20, 21, 22, 23, 1, 2, 3, 4, 5, 6, 7, 8, 9, 10, 11, 12, 13, 14, 24] rfl
    have hDc : va_D A ([(gx, .inr (1, [.ref gxz, .ref gx1, .ref gx2, .ref gx3, .ref gx4, .ref gx5, .int (nI gxc), .int (nI gxfull), .int gxx, .int gxway, .int gxav, .int gxgoal, .int (nI gxfound), .int 400, .int (nI gxl), .int (nI gxsz), .ref gx16, .ref gx17])), (gxz, .inl (k_fgxz, 401, .inr (.inr (.inr (.inr (zs o 401 az)))))), (gx1, .inl (k_s1gx, 400, .inl (bN 7 q_s1gx))), (gx2, .inl (k_s2gx, 400, .inl s2gx)), (gx3, .inl (k_s3gx, 400, .inl s3gx)), (gx4, .inl (k_s4gx, 400, .inl s4gx)), (gx5, .inl (k_s5gx, 400, .inl s5gx)), (gx16, .inl (k_higx, 5, .inl higx)), (gx17, .inl (k_logx, 5, .inl logx)), (au, .inr (0, [.int (nI nc), .int (nI np), .int (nI ne), .int (nI st0), .ref q4, .ref q5, .ref q6, .ref q7, .ref q8, .ref q9, .ref q10, .ref q11, .ref q12, .ref q13, .ref q14, .ref q15, .ref q16])), (q4, .inl (k_f4, 8, .inl f4)), (q5, .inl (k_f5, 14, .inl (bN 7 q_f5))), (q6, .inl (k_f6, 14, .inl (bN 7 q_f6))), (q7, .inl (k_f7, 14, .inl f7)), (q8, .inl (k_f8, 22, .inl (bN 4 q_f8))), (q9, .inl (k_f9, 88, .inl (bN 2 q_f9))), (q10, .inl (k_f10, 88, .inl f10)), (q11, .inl (k_f11, 88, .inl f11)), (q12, .inl (k_f12, 88, .inl f12)), (q13, .inl (k_f13, 88, .inl f13)), (q14, .inl (k_f14, 4, .inl f14)), (q15, .inl (k_f15, 4, .inl f15)), (q16, .inl (k_f16, 4, .inl f16)), (bu, .inl (k_fbu, 5, .inl g_3))] ++ zp 5 25 N az ac kz qs fz) := hD.part [15, 16, 17, 18, 19, 20, 21, 22, 23, 1, 2, 3, 4, 5, 6, 7, 8, 9, 10, 11, 12, 13, 14, 24] (by decide) rfl
    have hKc : va_K (dC, dI) vwCl ([(k_fgxz, .object RX7), (k_s1gx, .int), (k_s2gx, .int), (k_s3gx, .int), (k_s4gx, .int), (k_s5gx, .int), (k_higx, .int), (k_logx, .int), (k_f4, .boolean), (k_f5, .int), (k_f6, .int), (k_f7, .int), (k_f8, .int), (k_f9, .int), (k_f10, .int), (k_f11, .int), (k_f12, .int), (k_f13, .int), (k_f14, .int), (k_f15, .int), (k_f16, .int), (k_fbu, .int)] ++ zt N kz) s := zk_part hK [13, 14, 15, 16, 17, 18, 19, 20, 0, 1, 2, 3, 4, 5, 6, 7, 8, 9, 10, 11, 12, 21] rfl
    have hFc := pu_free hDc hS hA
    refine va_callv (va_runV (As := [.ref au, .int (nI st0), .ref bu]) (rest := []) ⟨hx, hb, hml, hown, hts⟩ (c_C_1_open_25 l dC dI _ gx gxz gx1 gx2 gx3 gx4 gx5 gxc gxfull gxx gxway gxav gxgoal gxfound gxl gxsz gx16 gx17 k_fgxz k_s1gx q_s1gx k_s2gx s2gx k_s3gx s3gx k_s4gx s4gx k_s5gx s5gx k_higx higx k_logx logx au nc np ne (nI st0) q4 q5 q6 q7 q8 q9 q10 q11 q12 q13 q14 q15 q16 k_f4 f4 k_f5 q_f5 k_f6 q_f6 k_f7 f7 k_f8 q_f8 k_f9 q_f9 k_f10 f10 k_f11 f11 k_f12 f12 k_f13 f13 k_f14 f14 k_f15 f15 k_f16 f16 bu k_fbu g_3 N o az ac kz qs fz st0 hgxc hgxfull hgxfound hgxl hgxsz hnc hnp hne (Or.inr ⟨st0, hst0, rfl⟩) (by omega) hst0) (cwV 3 hts g_C_8_beginAtZero_25_C_1_open_25 rfl rfl rfl (by decide +kernel) ⟨Nat.le_of_ble_eq_true rfl, Nat.le_of_ble_eq_true rfl⟩) ⟨pu_bl, va_recv hK hP (ci := 1) (q0 := 15) rfl rfl, pu_in hPc hKc hDc⟩ rfl rfl hl.1 rfl (lv_room (Nat.le_of_ble_eq_true rfl)) eX8_beginAtZero_40 ⟨Nat.le_of_ble_eq_true rfl, Nat.le_of_ble_eq_true rfl⟩) hS (fun q _ h => hFc q h) hFc (fun u t H1 locs ht hvm hw hB hz1 hk1 hS => ?_)
    obtain ⟨z_fs1_8, z_fs2_9, z_fs3_10, z_fs4_11, z_fs5_12, z_gfound_13, z_gc_14, z_gfull_15, z_gx_16, z_fz_17, z_qs_18, ⟨hP1, -, hD1⟩, hz_gfound_13, hz_gc_14, hz_gfull_15, xr_7_0⟩ := hB
    rw [ht] at hP1
    obtain ⟨hP, hD⟩ := pl_put (X' := (xb25__w xa xtape (nI tp) rd au xdr hy g (nI hs) tg sg (nI ss) rm ti py bu sm (nI nc) (nI np) (nI ne) (nI st0) q4 q5 q6 q7 q8 q9 q10 q11 q12 q13 q14 q15 q16 k_f4 f4 k_f5 (bN 7 q_f5) k_f6 (bN 7 q_f6) k_f7 f7 k_f8 (bN 4 q_f8) k_f9 (bN 2 q_f9) k_f10 f10 k_f11 f11 k_f12 f12 k_f13 f13 k_f14 f14 k_f15 f15 k_f16 f16 gx gxz gx1 gx2 gx3 gx4 gx5 (nI z_gc_14) (nI z_gfull_15) z_gx_16 gxway gxav gxgoal (nI z_gfound_13) 400 (nI gxl) (nI gxsz) gx16 gx17 k_fgxz (zs o 401 az) k_s1gx (bN 7 z_fs1_8) k_s2gx z_fs2_9 k_s3gx z_fs3_10 k_s4gx z_fs4_11 k_s5gx z_fs5_12 k_higx higx k_logx logx k_fbu g_3)) (w1 := (gt2__w gx gxz gx1 gx2 gx3 gx4 gx5 (nI z_gc_14) (nI z_gfull_15) z_gx_16 gxway gxav gxgoal (nI z_gfound_13) 400 (nI gxl) (nI gxsz) gx16 gx17 k_fgxz (zs o 401 az) k_s1gx (bN 7 z_fs1_8) k_s2gx z_fs2_9 k_s3gx z_fs3_10 k_s4gx z_fs4_11 k_s5gx z_fs5_12 k_higx higx k_logx logx au (nI nc) (nI np) (nI ne) (nI st0) q4 q5 q6 q7 q8 q9 q10 q11 q12 q13 q14 q15 q16 k_f4 f4 k_f5 (bN 7 q_f5) k_f6 (bN 7 q_f6) k_f7 f7 k_f8 (bN 4 q_f8) k_f9 (bN 2 q_f9) k_f10 f10 k_f11 f11 k_f12 f12 k_f13 f13 k_f14 f14 k_f15 f15 k_f16 f16 bu k_fbu g_3)) hP hD [15, 16, 17, 18, 19, 20, 21, 22, 23, 1, 2, 3, 4, 5, 6, 7, 8, 9, 10, 11, 12, 13, 14, 24] rfl hk1 hP1 rfl zp_f rfl
    clear hP1 hD1 hFc
    clear hPc hDc hKc
    clear hk1 hz1 ht hvm
    generalize H1 = H at hP hS ⊢
    exact W.vret hx hb hr (fun t ht hW => ⟨⟨(), rfl, trivial, ⟨z_fs1_8, z_fs2_9, z_fs3_10, z_fs4_11, z_fs5_12, g_3, z_gfound_13, z_gc_14, z_gfull_15, z_gx_16, z_fz_17, z_qs_18, ⟨by rw [ht]; exact hP, va_K.moved hW.alike hK, hD⟩, hz_gfound_13, hz_gc_14, hz_gfull_15, by first | assumption | exact gz_0⟩⟩, hS.F ht⟩) hS.2.2 eX8_beginAtZero_43
  · have c_6 : ¬ 5 ≤ g_4 := fun z => c_6 ((nI_leI (a := 5) (b := g_4) (Nat.le_of_ble_eq_true rfl) (Nat.lt_of_le_of_lt hg_4 (Nat.le_of_ble_eq_true rfl))).mpr z)
    refine lv_aload_n hx hb eX8_beginAtZero_11 rfl (lv_at hl 0 rfl) ?_
    refine va_get (D := (dC, dI)) (ci := 8) (v := .ref bu) (C := RX8) (T := TX8) (N := 16) hx hb hts hiX8 hown hK hP 0 rfl rfl 14 (by decide) v_1 (fun _ h9 => h9) rfl eX8_beginAtZero_12 ?_
    refine lv_iload_n hx hb eX8_beginAtZero_15 rfl (lv_at hl 2 rfl) ?_
    refine lv_iconst (v := 0) hx hb eX8_beginAtZero_16 (by decide) ?_
    refine va_iast hx hb hK hP hD hS 24 21 rfl rfl (vp_in_nI (n := g_4) (by omega) (Nat.le_of_ble_eq_true rfl)) eX8_beginAtZero_17 (fun H locs hP hD hS => ?_)
    have hP : va_P (dC, dI) vwCl ((xb25__w xa xtape (nI tp) rd au xdr hy g (nI hs) tg sg (nI ss) rm ti py bu sm (nI nc) (nI np) (nI ne) (nI st0) q4 q5 q6 q7 q8 q9 q10 q11 q12 q13 q14 q15 q16 k_f4 f4 k_f5 (bN 7 q_f5) k_f6 (bN 7 q_f6) k_f7 f7 k_f8 (bN 4 q_f8) k_f9 (bN 2 q_f9) k_f10 f10 k_f11 f11 k_f12 f12 k_f13 f13 k_f14 f14 k_f15 f15 k_f16 f16 gx gxz gx1 gx2 gx3 gx4 gx5 (nI gxc) (nI gxfull) gxx gxway gxav gxgoal (nI gxfound) 400 (nI gxl) (nI gxsz) gx16 gx17 k_fgxz (zs o 401 az) k_s1gx (bN 7 q_s1gx) k_s2gx s2gx k_s3gx s3gx k_s4gx s4gx k_s5gx s5gx k_higx higx k_logx logx k_fbu (upd g_3 ((nI g_4) : Int32).toNatClampNeg 0)) ++ zp 5 25 N az ac kz qs fz) H := hP
    have hD : va_D A ((xb25__w xa xtape (nI tp) rd au xdr hy g (nI hs) tg sg (nI ss) rm ti py bu sm (nI nc) (nI np) (nI ne) (nI st0) q4 q5 q6 q7 q8 q9 q10 q11 q12 q13 q14 q15 q16 k_f4 f4 k_f5 (bN 7 q_f5) k_f6 (bN 7 q_f6) k_f7 f7 k_f8 (bN 4 q_f8) k_f9 (bN 2 q_f9) k_f10 f10 k_f11 f11 k_f12 f12 k_f13 f13 k_f14 f14 k_f15 f15 k_f16 f16 gx gxz gx1 gx2 gx3 gx4 gx5 (nI gxc) (nI gxfull) gxx gxway gxav gxgoal (nI gxfound) 400 (nI gxl) (nI gxsz) gx16 gx17 k_fgxz (zs o 401 az) k_s1gx (bN 7 q_s1gx) k_s2gx s2gx k_s3gx s3gx k_s4gx s4gx k_s5gx s5gx k_higx higx k_logx logx k_fbu (upd g_3 ((nI g_4) : Int32).toNatClampNeg 0)) ++ zp 5 25 N az ac kz qs fz) := hD
    refine lv_iinc (v := (nI (g_4 + 1))) (lv' := [(2, .int (nI (g_4 + 1))), (0, .ref xa), (1, .ref gx)]) hx hb eX8_beginAtZero_18 hl (k := 2) rfl (nI_1 _) (by decide) rfl (fun ls hl => ?_)
    refine lv_goto (tgt := 2) hx hb eX8_beginAtZero_21 (by decide) ?_
    exact ih_5 (5 - (g_4 + 1)) (by omega) _ _ _ ⟨(upd g_3 ((nI g_4) : Int32).toNatClampNeg 0), (g_4 + 1), rfl, (by omega), hP, hD, hS, lv_sub hl [1, 2, 0] rfl⟩
theorem eX8_graph_0 : decode cX8_graph 0 = .ok (.iload_n 1, 1) := by decide +kernel
theorem eX8_graph_1 : decode cX8_graph 1 = .ok (.ifCond .lt 18, 3) := by decide +kernel
theorem eX8_graph_4 : decode cX8_graph 4 = .ok (.iload_n 1, 1) := by decide +kernel
theorem eX8_graph_5 : decode cX8_graph 5 = .ok (.iconst 2, 1) := by decide +kernel
theorem eX8_graph_6 : decode cX8_graph 6 = .ok (.if_icmp .gt 13, 3) := by decide +kernel
theorem eX8_graph_9 : decode cX8_graph 9 = .ok (.aload_n 0, 1) := by decide +kernel
theorem eX8_graph_10 : decode cX8_graph 10 = .ok (.getfield 23, 3) := by decide +kernel
theorem eX8_graph_13 : decode cX8_graph 13 = .ok (.getfield 97, 3) := by decide +kernel
theorem eX8_graph_16 : decode cX8_graph 16 = .ok (.ifCond .ne 5, 3) := by decide +kernel
theorem eX8_graph_19 : decode cX8_graph 19 = .ok (.iconst (-1), 1) := by decide +kernel
theorem eX8_graph_20 : decode cX8_graph 20 = .ok (.ireturn, 1) := by decide +kernel
abbrev vs_C_8_graph_0 : List Cond := .code yX8_graph cX8_graph 3 (some .int) :: CM
set_option maxHeartbeats 4000000 in
set_option maxRecDepth 100000 in
theorem c_C_8_graph_0 (l : Launch) (dC : Nat → ClassId) (dI : Nat → Nat → Nat) (sz : Nat) (xa : Nat) (xtape : Nat) (tp : Nat) (rd : Nat) (au : Nat) (xdr : Nat) (hy : Nat) (g : Nat) (tg : Nat) (sg : Nat) (rm : Nat) (ti : Nat) (py : Nat) (bu : Nat) (sm : Nat) (nc : Nat) (ne : Nat) (st0 : Int32) (q4 : Nat) (q5 : Nat) (q6 : Nat) (q7 : Nat) (q8 : Nat) (q9 : Nat) (q10 : Nat) (q11 : Nat) (q12 : Nat) (q13 : Nat) (q14 : Nat) (q15 : Nat) (q16 : Nat) (k_f4 : ClassId) (f4 : Nat → Int32) (k_f5 : ClassId) (q_f5 : Nat → Nat) (k_f6 : ClassId) (q_f6 : Nat → Nat) (k_f7 : ClassId) (f7 : Nat → Int32) (k_f8 : ClassId) (q_f8 : Nat → Nat) (k_f9 : ClassId) (q_f9 : Nat → Nat) (k_f10 : ClassId) (f10 : Nat → Int32) (k_f11 : ClassId) (f11 : Nat → Int32) (k_f12 : ClassId) (f12 : Nat → Int32) (k_f13 : ClassId) (f13 : Nat → Int32) (k_f14 : ClassId) (f14 : Nat → Int32) (k_f15 : ClassId) (f15 : Nat → Int32) (k_f16 : ClassId) (f16 : Nat → Int32) (gz : Nat) (g1 : Nat) (g2 : Nat) (g3 : Nat) (g4 : Nat) (g5 : Nat) (gc : Nat) (gfull : Nat) (gx : Int32) (gway : Int32) (gav : Int32) (ggoal : Int32) (gfound : Nat) (gl : Nat) (gsz : Nat) (g16 : Nat) (g17 : Nat) (k_fgz : ClassId) (k_s1g : ClassId) (q_s1g : Nat → Nat) (k_s2g : ClassId) (s2g : Nat → Int32) (k_s3g : ClassId) (s3g : Nat → Int32) (k_s4g : ClassId) (s4g : Nat → Int32) (k_s5g : ClassId) (s5g : Nat → Int32) (k_hig : ClassId) (hig : Nat → Int32) (k_log : ClassId) (log : Nat → Int32) (k_fbu : ClassId) (fbu : Nat → Int32) (N : Nat) (o : Nat) (az ac : Nat → Nat) (kz : Nat → ClassId) (qs : Nat → Nat) (fz : Nat → Nat → Int32) (p0 : Int32) (a1 : Nat) (htp : tp ≤ 900) (hnc : nc ≤ 3) (hne : ne ≤ 14) (hst0 : pm1 7 st0) (hgc : gc ≤ 120) (hgfull : gfull ≤ 1) (hgfound : gfound ≤ 1) (hgl : gl ≤ 1) (hgsz : gsz ≤ 4) (hN : o + 121 ≤ N) (ha1 : a1 ≤ 1) : Met l yX8_graph vs_C_8_graph_0 ({ frames := 0, cells := 0, slots := 0, locals := 0 }) (va_Pc [.ref xa, .int p0, .int (nI a1)] (pu_B (dC, dI) ((xg__w xa xtape (nI tp) rd au xdr hy g 0 tg sg 0 rm ti py bu sm (nI nc) 0 (nI ne) st0 q4 q5 q6 q7 q8 q9 q10 q11 q12 q13 q14 q15 q16 k_f4 f4 k_f5 (bN 7 q_f5) k_f6 (bN 7 q_f6) k_f7 f7 k_f8 (bN 4 q_f8) k_f9 (bN 2 q_f9) k_f10 f10 k_f11 f11 k_f12 f12 k_f13 f13 k_f14 f14 k_f15 f15 k_f16 f16 gz g1 g2 g3 g4 g5 (nI gc) (nI gfull) gx gway gav ggoal (nI gfound) 120 (nI gl) (nI gsz) g16 g17 k_fgz (zs o 121 az) k_s1g (bN 7 q_s1g) k_s2g s2g k_s3g s3g k_s4g s4g k_s5g s5g k_hig hig k_log log k_fbu fbu) ++ zp 4 16 N az ac kz qs fz) ((xg__t k_f4 k_f5 k_f6 k_f7 k_f8 k_f9 k_f10 k_f11 k_f12 k_f13 k_f14 k_f15 k_f16 k_fgz k_s1g k_s2g k_s3g k_s4g k_s5g k_hig k_log k_fbu) ++ zt N kz) sz)) (va_Qi (fun (r : Int32) (_ : Unit) => True) (fun _ _ => True) (va_A [] sz)) 0 0 (va_A [] sz) := by
  refine Met.ofW (cc := cX8_graph) (maxL := 3) (ret := (some .int)) (by decide) rfl ?_
  intro p e s m args below meth c s₁ B hml hv
  obtain ⟨rfl, rfl, hP, hK, hD0⟩ := hv
  have hx := B.exec
  have hb := B.bytes
  have hr := B.returns
  have hts := atoms_spec (ws := vs_C_8_graph_0) B.pre
  have v_1 := hts (.fieldLink RX8 23 "ClockReach" "model" "LClockReach$Automaton;") (List.mem_cons_of_mem _ cm_434)
  have v_2 := hts (.fieldLink RX8 97 "ClockReach$Automaton" "places" "I") (List.mem_cons_of_mem _ cm_437)
  have hown : s.vm.findClass RX8 = some m.cls := findClass_of_methodNamed B.named
  have hlocks := B.notSynchronized
  have hiX0 : ∀ w ∈ wsX00, w ∈ vs_C_8_graph_0 := fun _ h => List.mem_cons_of_mem _ (cm_X0 h)
  have hiX8 : ∀ w ∈ wsX80, w ∈ vs_C_8_graph_0 := fun _ h => List.mem_cons_of_mem _ (cm_X8 h)
  have hD := hD0
  have hA : ∀ q : Nat, s.heap.size ≤ q → va_A [] s.heap.size q := fun _ h => Or.inr h
  have hS : va_S (va_A [] s.heap.size) s.heap s.heap [] := va_S.rf
  have hl := lv_entry ([.ref xa, .int p0, .int (nI a1)]) (n := 3) (Nat.le_of_ble_eq_true rfl)
  rw [lg_entry_eq]
  generalize (lg_sl ([.ref xa, .int p0, .int (nI a1)]) ++ List.replicate (3 - (lg_sl ([.ref xa, .int p0, .int (nI a1)])).length) Slot.unset).toArray = ls at hl ⊢
  have hl : lv_has ls 3 [(0, .ref xa), (1, .int p0), (2, .int (nI a1))] := hl
  refine lv_iload_n hx hb eX8_graph_0 rfl (lv_at hl 1 rfl) ?_
  refine lv_if_lt (tgt := 19) hx hb eX8_graph_1 (by decide) (fun c_1 => ?_) (fun c_1 => ?_)
  · refine lv_iconst (v := (-1)) hx hb eX8_graph_19 (by decide) ?_
    exact W.iret (v := (-1)) hx hb hr (fun t ht hW => ⟨⟨(-1), (), rfl, trivial, trivial⟩, hS.F ht⟩) hS.2.2 eX8_graph_20
  · have lp0 : ¬ p0 < 0 := c_1
    refine lv_iload_n hx hb eX8_graph_4 rfl (lv_at hl 1 rfl) ?_
    refine lv_iconst (v := 2) hx hb eX8_graph_5 (by decide) ?_
    refine lv_icmp_gt (tgt := 19) hx hb eX8_graph_6 (by decide) (fun c_2 => ?_) (fun c_2 => ?_)
    · refine lv_iconst (v := (-1)) hx hb eX8_graph_19 (by decide) ?_
      exact W.iret (v := (-1)) hx hb hr (fun t ht hW => ⟨⟨(-1), (), rfl, trivial, trivial⟩, hS.F ht⟩) hS.2.2 eX8_graph_20
    · obtain ⟨n_3, hn_3, rfl⟩ := pu_ule (b := 2) (by omega) lp0 (Int32.not_lt.mp c_2)
      refine lv_aload_n hx hb eX8_graph_9 rfl (lv_at hl 0 rfl) ?_
      refine va_get (D := (dC, dI)) (ci := 8) (v := .ref au) (C := RX8) (T := TX8) (N := 16) hx hb hts hiX8 hown hK hP 0 rfl rfl 3 (by decide) v_1 (fun _ h9 => h9) rfl eX8_graph_10 ?_
      refine va_get (D := (dC, dI)) (ci := 0) (v := .int 0) (C := RX0) (T := TX0) (N := 17) hx hb hts hiX0 hown hK hP 1 rfl rfl 1 (by decide) v_2 (fun _ h9 => h9) rfl eX8_graph_13 ?_
      refine lv_if_ne (tgt := 21) hx hb eX8_graph_16 (by decide) (fun z => absurd z (by decide)) (fun _ => ?_)
      refine lv_iconst (v := (-1)) hx hb eX8_graph_19 (by decide) ?_
      exact W.iret (v := (-1)) hx hb hr (fun t ht hW => ⟨⟨(-1), (), rfl, trivial, trivial⟩, hS.F ht⟩) hS.2.2 eX8_graph_20
theorem eX8_graph_21 : decode cX8_graph 21 = .ok (.aload_n 0, 1) := by decide +kernel
theorem eX8_graph_22 : decode cX8_graph 22 = .ok (.getfield 42, 3) := by decide +kernel
theorem eX8_graph_25 : decode cX8_graph 25 = .ok (.aload_n 0, 1) := by decide +kernel
theorem eX8_graph_26 : decode cX8_graph 26 = .ok (.getfield 23, 3) := by decide +kernel
theorem eX8_graph_29 : decode cX8_graph 29 = .ok (.iload_n 1, 1) := by decide +kernel
theorem eX8_graph_30 : decode cX8_graph 30 = .ok (.iload_n 2, 1) := by decide +kernel
theorem eX8_graph_31 : decode cX8_graph 31 = .ok (.aload_n 0, 1) := by decide +kernel
theorem eX8_graph_32 : decode cX8_graph 32 = .ok (.getfield 23, 3) := by decide +kernel
theorem eX8_graph_35 : decode cX8_graph 35 = .ok (.getfield 116, 3) := by decide +kernel
theorem eX8_graph_38 : decode cX8_graph 38 = .ok (.iconst 1, 1) := by decide +kernel
theorem eX8_graph_39 : decode cX8_graph 39 = .ok (.iadd, 1) := by decide +kernel
theorem eX8_graph_40 : decode cX8_graph 40 = .ok (.invokevirtual 212, 3) := by decide +kernel
theorem eX8_graph_43 : decode cX8_graph 43 = .ok (.aload_n 0, 1) := by decide +kernel
theorem eX8_graph_44 : decode cX8_graph 44 = .ok (.aload_n 0, 1) := by decide +kernel
theorem eX8_graph_45 : decode cX8_graph 45 = .ok (.getfield 42, 3) := by decide +kernel
theorem eX8_graph_48 : decode cX8_graph 48 = .ok (.invokevirtual 216, 3) := by decide +kernel
theorem eX8_graph_51 : decode cX8_graph 51 = .ok (.aload_n 0, 1) := by decide +kernel
theorem eX8_graph_52 : decode cX8_graph 52 = .ok (.getfield 42, 3) := by decide +kernel
theorem eX8_graph_55 : decode cX8_graph 55 = .ok (.aload_n 0, 1) := by decide +kernel
theorem eX8_graph_56 : decode cX8_graph 56 = .ok (.getfield 23, 3) := by decide +kernel
theorem eX8_graph_59 : decode cX8_graph 59 = .ok (.invokevirtual 220, 3) := by decide +kernel
theorem eX8_graph_62 : decode cX8_graph 62 = .ok (.aload_n 0, 1) := by decide +kernel
theorem eX8_graph_63 : decode cX8_graph 63 = .ok (.iconst 1, 1) := by decide +kernel
theorem eX8_graph_64 : decode cX8_graph 64 = .ok (.putfield 100, 3) := by decide +kernel
theorem eX8_graph_67 : decode cX8_graph 67 = .ok (.aload_n 0, 1) := by decide +kernel
theorem eX8_graph_68 : decode cX8_graph 68 = .ok (.getfield 42, 3) := by decide +kernel
theorem eX8_graph_71 : decode cX8_graph 71 = .ok (.getfield 129, 3) := by decide +kernel
theorem eX8_graph_74 : decode cX8_graph 74 = .ok (.ireturn, 1) := by decide +kernel
abbrev vs_C_8_graph : List Cond := .code yX8_graph cX8_graph 3 (some .int) :: CM
theorem g_C_8_graph_C_1_plan_16 : GoodIn vs_C_8_graph (wsV RX8 212 RX1 yX1_plan vs_C_1_plan_16) := cm_gV cm_516 cm_517 cm_518 cm_113 cm_75
theorem g_C_8_graph_C_8_beginAtZero_16 : GoodIn vs_C_8_graph (wsV RX8 216 RX8 yX8_beginAtZero vs_C_8_beginAtZero_16) := cm_gV cm_519 cm_520 cm_521 cm_427 cm_522
theorem g_C_8_graph_C_1_grow_16 : GoodIn vs_C_8_graph (wsV RX8 220 RX1 yX1_grow vs_C_1_grow_16) := cm_gV cm_527 cm_528 cm_529 cm_113 cm_120
set_option maxHeartbeats 4000000 in
set_option maxRecDepth 100000 in
theorem c_C_8_graph (l : Launch) (dC : Nat → ClassId) (dI : Nat → Nat → Nat) (sz : Nat) (xa : Nat) (xtape : Nat) (tp : Nat) (rd : Nat) (au : Nat) (xdr : Nat) (hy : Nat) (g : Nat) (hs : Nat) (tg : Nat) (sg : Nat) (ss : Nat) (rm : Nat) (ti : Nat) (py : Nat) (bu : Nat) (sm : Nat) (nc : Nat) (np : Nat) (ne : Nat) (st0 : Nat) (q4 : Nat) (q5 : Nat) (q6 : Nat) (q7 : Nat) (q8 : Nat) (q9 : Nat) (q10 : Nat) (q11 : Nat) (q12 : Nat) (q13 : Nat) (q14 : Nat) (q15 : Nat) (q16 : Nat) (k_f4 : ClassId) (f4 : Nat → Int32) (k_f5 : ClassId) (q_f5 : Nat → Nat) (k_f6 : ClassId) (q_f6 : Nat → Nat) (k_f7 : ClassId) (f7 : Nat → Int32) (k_f8 : ClassId) (q_f8 : Nat → Nat) (k_f9 : ClassId) (q_f9 : Nat → Nat) (k_f10 : ClassId) (f10 : Nat → Int32) (k_f11 : ClassId) (f11 : Nat → Int32) (k_f12 : ClassId) (f12 : Nat → Int32) (k_f13 : ClassId) (f13 : Nat → Int32) (k_f14 : ClassId) (f14 : Nat → Int32) (k_f15 : ClassId) (f15 : Nat → Int32) (k_f16 : ClassId) (f16 : Nat → Int32) (gz : Nat) (g1 : Nat) (g2 : Nat) (g3 : Nat) (g4 : Nat) (g5 : Nat) (gc : Nat) (gfull : Nat) (gx : Int32) (gway : Int32) (gav : Int32) (ggoal : Int32) (gfound : Nat) (gl : Nat) (gsz : Nat) (g16 : Nat) (g17 : Nat) (k_fgz : ClassId) (k_s1g : ClassId) (q_s1g : Nat → Nat) (k_s2g : ClassId) (s2g : Nat → Int32) (k_s3g : ClassId) (s3g : Nat → Int32) (k_s4g : ClassId) (s4g : Nat → Int32) (k_s5g : ClassId) (s5g : Nat → Int32) (k_hig : ClassId) (hig : Nat → Int32) (k_log : ClassId) (log : Nat → Int32) (k_fbu : ClassId) (fbu : Nat → Int32) (N : Nat) (o : Nat) (az ac : Nat → Nat) (kz : Nat → ClassId) (qs : Nat → Nat) (fz : Nat → Nat → Int32) (p0 : Int32) (a1 : Nat) (htp : tp ≤ 900) (hhs : hs ≤ 1) (hss : ss ≤ 1) (hnc : nc ≤ 3) (hnp : np ≤ 8) (hne : ne ≤ 14) (hst0 : st0 ≤ 7) (hgc : gc ≤ 120) (hgfull : gfull ≤ 1) (hgfound : gfound ≤ 1) (hgl : gl ≤ 1) (hgsz : gsz ≤ 4) (hN : o + 121 ≤ N) (ha1 : a1 ≤ 1) (hq0 : gz_ok gc s2g s3g s4g) : Met l yX8_graph vs_C_8_graph ({ frames := 5, cells := 0, slots := 0, locals := 125 }) (va_Pc [.ref xa, .int p0, .int (nI a1)] (pu_B (dC, dI) ((xg__w xa xtape (nI tp) rd au xdr hy g (nI hs) tg sg (nI ss) rm ti py bu sm (nI nc) (nI np) (nI ne) (nI st0) q4 q5 q6 q7 q8 q9 q10 q11 q12 q13 q14 q15 q16 k_f4 f4 k_f5 (bN 7 q_f5) k_f6 (bN 7 q_f6) k_f7 f7 k_f8 (bN 4 q_f8) k_f9 (bN 2 q_f9) k_f10 f10 k_f11 f11 k_f12 f12 k_f13 f13 k_f14 f14 k_f15 f15 k_f16 f16 gz g1 g2 g3 g4 g5 (nI gc) (nI gfull) gx gway gav ggoal (nI gfound) 120 (nI gl) (nI gsz) g16 g17 k_fgz (zs o 121 az) k_s1g (bN 7 q_s1g) k_s2g s2g k_s3g s3g k_s4g s4g k_s5g s5g k_hig hig k_log log k_fbu fbu) ++ zp 4 16 N az ac kz qs fz) ((xg__t k_f4 k_f5 k_f6 k_f7 k_f8 k_f9 k_f10 k_f11 k_f12 k_f13 k_f14 k_f15 k_f16 k_fgz k_s1g k_s2g k_s3g k_s4g k_s5g k_hig k_log k_fbu) ++ zt N kz) sz)) (va_Qi (fun (r : Int32) (_ : Unit) => True) (fun _ t => ∃ (z_s1g : Nat → Nat) (z_s2g : Nat → Int32) (z_s3g : Nat → Int32) (z_s4g : Nat → Int32) (z_s5g : Nat → Int32) (z_hig : Nat → Int32) (z_log : Nat → Int32) (z_fbu : Nat → Int32) (z_hs : Nat) (z_gav : Int32) (z_ggoal : Int32) (z_gfound : Nat) (z_gl : Nat) (z_gsz : Nat) (z_gc : Nat) (z_gfull : Nat) (z_gx : Int32) (z_gway : Int32) (z_fz : Nat → Nat → Int32) (z_qs : Nat → Nat), pu_E (dC, dI) ((xg__w xa xtape (nI tp) rd au xdr hy g (nI z_hs) tg sg (nI ss) rm ti py bu sm (nI nc) (nI np) (nI ne) (nI st0) q4 q5 q6 q7 q8 q9 q10 q11 q12 q13 q14 q15 q16 k_f4 f4 k_f5 (bN 7 q_f5) k_f6 (bN 7 q_f6) k_f7 f7 k_f8 (bN 4 q_f8) k_f9 (bN 2 q_f9) k_f10 f10 k_f11 f11 k_f12 f12 k_f13 f13 k_f14 f14 k_f15 f15 k_f16 f16 gz g1 g2 g3 g4 g5 (nI z_gc) (nI z_gfull) z_gx z_gway z_gav z_ggoal (nI z_gfound) 120 (nI z_gl) (nI z_gsz) g16 g17 k_fgz (zs o 121 az) k_s1g (bN 7 z_s1g) k_s2g z_s2g k_s3g z_s3g k_s4g z_s4g k_s5g z_s5g k_hig z_hig k_log z_log k_fbu z_fbu) ++ zp 4 16 N az ac kz z_qs z_fz) ((xg__t k_f4 k_f5 k_f6 k_f7 k_f8 k_f9 k_f10 k_f11 k_f12 k_f13 k_f14 k_f15 k_f16 k_fgz k_s1g k_s2g k_s3g k_s4g k_s5g k_hig k_log k_fbu) ++ zt N kz) (va_A (((xg__w xa xtape (nI tp) rd au xdr hy g (nI hs) tg sg (nI ss) rm ti py bu sm (nI nc) (nI np) (nI ne) (nI st0) q4 q5 q6 q7 q8 q9 q10 q11 q12 q13 q14 q15 q16 k_f4 f4 k_f5 (bN 7 q_f5) k_f6 (bN 7 q_f6) k_f7 f7 k_f8 (bN 4 q_f8) k_f9 (bN 2 q_f9) k_f10 f10 k_f11 f11 k_f12 f12 k_f13 f13 k_f14 f14 k_f15 f15 k_f16 f16 gz g1 g2 g3 g4 g5 (nI gc) (nI gfull) gx gway gav ggoal (nI gfound) 120 (nI gl) (nI gsz) g16 g17 k_fgz (zs o 121 az) k_s1g (bN 7 q_s1g) k_s2g s2g k_s3g s3g k_s4g s4g k_s5g s5g k_hig hig k_log log k_fbu fbu) ++ zp 4 16 N az ac kz qs fz)) sz) t ∧ (z_hs ≤ 1) ∧ (z_gfound ≤ 1) ∧ (z_gl ≤ 1) ∧ (z_gsz ≤ 4) ∧ (z_gc ≤ 120) ∧ (z_gfull ≤ 1) ∧ (gz_ok z_gc z_s2g z_s3g z_s4g)) (va_A (((xg__w xa xtape (nI tp) rd au xdr hy g (nI hs) tg sg (nI ss) rm ti py bu sm (nI nc) (nI np) (nI ne) (nI st0) q4 q5 q6 q7 q8 q9 q10 q11 q12 q13 q14 q15 q16 k_f4 f4 k_f5 (bN 7 q_f5) k_f6 (bN 7 q_f6) k_f7 f7 k_f8 (bN 4 q_f8) k_f9 (bN 2 q_f9) k_f10 f10 k_f11 f11 k_f12 f12 k_f13 f13 k_f14 f14 k_f15 f15 k_f16 f16 gz g1 g2 g3 g4 g5 (nI gc) (nI gfull) gx gway gav ggoal (nI gfound) 120 (nI gl) (nI gsz) g16 g17 k_fgz (zs o 121 az) k_s1g (bN 7 q_s1g) k_s2g s2g k_s3g s3g k_s4g s4g k_s5g s5g k_hig hig k_log log k_fbu fbu) ++ zp 4 16 N az ac kz qs fz)) sz)) 0 0 (va_A (((xg__w xa xtape (nI tp) rd au xdr hy g (nI hs) tg sg (nI ss) rm ti py bu sm (nI nc) (nI np) (nI ne) (nI st0) q4 q5 q6 q7 q8 q9 q10 q11 q12 q13 q14 q15 q16 k_f4 f4 k_f5 (bN 7 q_f5) k_f6 (bN 7 q_f6) k_f7 f7 k_f8 (bN 4 q_f8) k_f9 (bN 2 q_f9) k_f10 f10 k_f11 f11 k_f12 f12 k_f13 f13 k_f14 f14 k_f15 f15 k_f16 f16 gz g1 g2 g3 g4 g5 (nI gc) (nI gfull) gx gway gav ggoal (nI gfound) 120 (nI gl) (nI gsz) g16 g17 k_fgz (zs o 121 az) k_s1g (bN 7 q_s1g) k_s2g s2g k_s3g s3g k_s4g s4g k_s5g s5g k_hig hig k_log log k_fbu fbu) ++ zp 4 16 N az ac kz qs fz)) sz) := by
  refine Met.ofW (cc := cX8_graph) (maxL := 3) (ret := (some .int)) (by decide) rfl ?_
  intro p e s m args below meth c s₁ B hml hv
  obtain ⟨rfl, rfl, hP, hK, hD0⟩ := hv
  have hx := B.exec
  have hb := B.bytes
  have hr := B.returns
  have hts := atoms_spec (ws := vs_C_8_graph) B.pre
  have v_1 := hts (.fieldLink RX8 23 "ClockReach" "model" "LClockReach$Automaton;") (List.mem_cons_of_mem _ cm_434)
  have v_2 := hts (.fieldLink RX8 97 "ClockReach$Automaton" "places" "I") (List.mem_cons_of_mem _ cm_437)
  have v_3 := hts (.fieldLink RX8 42 "ClockReach" "shown" "LClockReach$Graph;") (List.mem_cons_of_mem _ cm_456)
  have v_4 := hts (.fieldLink RX8 116 "ClockReach$Automaton" "clocks" "I") (List.mem_cons_of_mem _ cm_453)
  have v_19 := hts (.fieldLink RX8 100 "ClockReach" "hasShown" "Z") (List.mem_cons_of_mem _ cm_445)
  have v_20 := hts (.fieldLink RX8 129 "ClockReach$Graph" "count" "I") (List.mem_cons_of_mem _ cm_457)
  have hown : s.vm.findClass RX8 = some m.cls := findClass_of_methodNamed B.named
  have hlocks := B.notSynchronized
  have hiX0 : ∀ w ∈ wsX00, w ∈ vs_C_8_graph := fun _ h => List.mem_cons_of_mem _ (cm_X0 h)
  have hiX1 : ∀ w ∈ wsX10, w ∈ vs_C_8_graph := fun _ h => List.mem_cons_of_mem _ (cm_X1 h)
  have hiX8 : ∀ w ∈ wsX80, w ∈ vs_C_8_graph := fun _ h => List.mem_cons_of_mem _ (cm_X8 h)
  have hD := hD0.self (sz := s.heap.size)
  generalize hAe : va_A (((xg__w xa xtape (nI tp) rd au xdr hy g (nI hs) tg sg (nI ss) rm ti py bu sm (nI nc) (nI np) (nI ne) (nI st0) q4 q5 q6 q7 q8 q9 q10 q11 q12 q13 q14 q15 q16 k_f4 f4 k_f5 (bN 7 q_f5) k_f6 (bN 7 q_f6) k_f7 f7 k_f8 (bN 4 q_f8) k_f9 (bN 2 q_f9) k_f10 f10 k_f11 f11 k_f12 f12 k_f13 f13 k_f14 f14 k_f15 f15 k_f16 f16 gz g1 g2 g3 g4 g5 (nI gc) (nI gfull) gx gway gav ggoal (nI gfound) 120 (nI gl) (nI gsz) g16 g17 k_fgz (zs o 121 az) k_s1g (bN 7 q_s1g) k_s2g s2g k_s3g s3g k_s4g s4g k_s5g s5g k_hig hig k_log log k_fbu fbu) ++ zp 4 16 N az ac kz qs fz)) s.heap.size = A at hD ⊢
  have hA : ∀ q : Nat, s.heap.size ≤ q → A q := fun q h => by rw [← hAe]; exact Or.inr h
  have hS : va_S A s.heap s.heap [] := va_S.rf
  have hl := lv_entry ([.ref xa, .int p0, .int (nI a1)]) (n := 3) (Nat.le_of_ble_eq_true rfl)
  rw [lg_entry_eq]
  generalize (lg_sl ([.ref xa, .int p0, .int (nI a1)]) ++ List.replicate (3 - (lg_sl ([.ref xa, .int p0, .int (nI a1)])).length) Slot.unset).toArray = ls at hl ⊢
  have hl : lv_has ls 3 [(0, .ref xa), (1, .int p0), (2, .int (nI a1))] := hl
  refine lv_iload_n hx hb eX8_graph_0 rfl (lv_at hl 1 rfl) ?_
  refine lv_if_lt (tgt := 19) hx hb eX8_graph_1 (by decide) (fun c_1 => ?_) (fun c_1 => ?_)
  · refine lv_iconst (v := (-1)) hx hb eX8_graph_19 (by decide) ?_
    exact W.iret (v := (-1)) hx hb hr (fun t ht hW => ⟨⟨(-1), (), rfl, trivial, ⟨q_s1g, s2g, s3g, s4g, s5g, hig, log, fbu, hs, gav, ggoal, gfound, gl, gsz, gc, gfull, gx, gway, fz, qs, ⟨by rw [ht]; exact hP, va_K.moved hW.alike hK, hD⟩, hhs, hgfound, hgl, hgsz, hgc, hgfull, by first | assumption | exact gz_0⟩⟩, hS.F ht⟩) hS.2.2 eX8_graph_20
  · have lp0 : ¬ p0 < 0 := c_1
    refine lv_iload_n hx hb eX8_graph_4 rfl (lv_at hl 1 rfl) ?_
    refine lv_iconst (v := 2) hx hb eX8_graph_5 (by decide) ?_
    refine lv_icmp_gt (tgt := 19) hx hb eX8_graph_6 (by decide) (fun c_2 => ?_) (fun c_2 => ?_)
    · refine lv_iconst (v := (-1)) hx hb eX8_graph_19 (by decide) ?_
      exact W.iret (v := (-1)) hx hb hr (fun t ht hW => ⟨⟨(-1), (), rfl, trivial, ⟨q_s1g, s2g, s3g, s4g, s5g, hig, log, fbu, hs, gav, ggoal, gfound, gl, gsz, gc, gfull, gx, gway, fz, qs, ⟨by rw [ht]; exact hP, va_K.moved hW.alike hK, hD⟩, hhs, hgfound, hgl, hgsz, hgc, hgfull, by first | assumption | exact gz_0⟩⟩, hS.F ht⟩) hS.2.2 eX8_graph_20
    · obtain ⟨n_3, hn_3, rfl⟩ := pu_ule (b := 2) (by omega) lp0 (Int32.not_lt.mp c_2)
      refine lv_aload_n hx hb eX8_graph_9 rfl (lv_at hl 0 rfl) ?_
      refine va_get (D := (dC, dI)) (ci := 8) (v := .ref au) (C := RX8) (T := TX8) (N := 16) hx hb hts hiX8 hown hK hP 0 rfl rfl 3 (by decide) v_1 (fun _ h9 => h9) rfl eX8_graph_10 ?_
      refine va_get (D := (dC, dI)) (ci := 0) (v := .int (nI np)) (C := RX0) (T := TX0) (N := 17) hx hb hts hiX0 hown hK hP 1 rfl rfl 1 (by decide) v_2 (fun _ h9 => h9) rfl eX8_graph_13 ?_
      refine lv_if_ne (tgt := 21) hx hb eX8_graph_16 (by decide) (fun c_4 => ?_) (fun c_4 => ?_)
      · have c_4 : ¬ np = 0 := fun z => c_4 ((nI_eq (a := np) (b := 0) (Nat.lt_of_le_of_lt hnp (Nat.le_of_ble_eq_true rfl)) (Nat.le_of_ble_eq_true rfl)).mpr z)
        refine lv_aload_n hx hb eX8_graph_21 rfl (lv_at hl 0 rfl) ?_
        refine va_get (D := (dC, dI)) (ci := 8) (v := .ref g) (C := RX8) (T := TX8) (N := 16) hx hb hts hiX8 hown hK hP 0 rfl rfl 6 (by decide) v_3 (fun _ h9 => h9) rfl eX8_graph_22 ?_
        refine lv_aload_n hx hb eX8_graph_25 rfl (lv_at hl 0 rfl) ?_
        refine va_get (D := (dC, dI)) (ci := 8) (v := .ref au) (C := RX8) (T := TX8) (N := 16) hx hb hts hiX8 hown hK hP 0 rfl rfl 3 (by decide) v_1 (fun _ h9 => h9) rfl eX8_graph_26 ?_
        refine lv_iload_n hx hb eX8_graph_29 rfl (lv_at hl 1 rfl) ?_
        refine lv_iload_n hx hb eX8_graph_30 rfl (lv_at hl 2 rfl) ?_
        refine lv_aload_n hx hb eX8_graph_31 rfl (lv_at hl 0 rfl) ?_
        refine va_get (D := (dC, dI)) (ci := 8) (v := .ref au) (C := RX8) (T := TX8) (N := 16) hx hb hts hiX8 hown hK hP 0 rfl rfl 3 (by decide) v_1 (fun _ h9 => h9) rfl eX8_graph_32 ?_
        refine va_get (D := (dC, dI)) (ci := 0) (v := .int (nI nc)) (C := RX0) (T := TX0) (N := 17) hx hb hts hiX0 hown hK hP 1 rfl rfl 0 (by decide) v_4 (fun _ h9 => h9) rfl eX8_graph_35 ?_
        refine lv_iconst (v := 1) hx hb eX8_graph_38 (by decide) ?_
        refine lv_iadd hx hb eX8_graph_39 ?_
        refine lv_topi (fun y_5 ey_5 => ?_)
        obtain rfl : y_5 = (nI (nc + 1)) := ey_5.trans (nI_add nc 1)
        have hPc : va_P (dC, dI) vwCl ([(g, .inr (1, [.ref gz, .ref g1, .ref g2, .ref g3, .ref g4, .ref g5, .int (nI gc), .int (nI gfull), .int gx, .int gway, .int gav, .int ggoal, .int (nI gfound), .int 120, .int (nI gl), .int (nI gsz), .ref g16, .ref g17])), (gz, .inl (k_fgz, 121, .inr (.inr (.inr (.inr (zs o 121 az)))))), (g1, .inl (k_s1g, 120, .inl (bN 7 q_s1g))), (g2, .inl (k_s2g, 120, .inl s2g)), (g3, .inl (k_s3g, 120, .inl s3g)), (g4, .inl (k_s4g, 120, .inl s4g)), (g5, .inl (k_s5g, 120, .inl s5g)), (g16, .inl (k_hig, 5, .inl hig)), (g17, .inl (k_log, 5, .inl log)), (au, .inr (0, [.int (nI nc), .int (nI np), .int (nI ne), .int (nI st0), .ref q4, .ref q5, .ref q6, .ref q7, .ref q8, .ref q9, .ref q10, .ref q11, .ref q12, .ref q13, .ref q14, .ref q15, .ref q16])), (q4, .inl (k_f4, 8, .inl f4)), (q5, .inl (k_f5, 14, .inl (bN 7 q_f5))), (q6, .inl (k_f6, 14, .inl (bN 7 q_f6))), (q7, .inl (k_f7, 14, .inl f7)), (q8, .inl (k_f8, 22, .inl (bN 4 q_f8))), (q9, .inl (k_f9, 88, .inl (bN 2 q_f9))), (q10, .inl (k_f10, 88, .inl f10)), (q11, .inl (k_f11, 88, .inl f11)), (q12, .inl (k_f12, 88, .inl f12)), (q13, .inl (k_f13, 88, .inl f13)), (q14, .inl (k_f14, 4, .inl f14)), (q15, .inl (k_f15, 4, .inl f15)), (q16, .inl (k_f16, 4, .inl f16))] ++ zp 4 16 N az ac kz qs fz) _ := hP.part [15, 16, 17, 18, 19, 20, 21, 22, 23, 1, 2, 3, 4, 5, 6, 7, 8, 9, 10, 11, 12, 13, 14] rfl
        have hDc : va_D A ([(g, .inr (1, [.ref gz, .ref g1, .ref g2, .ref g3, .ref g4, .ref g5, .int (nI gc), .int (nI gfull), .int gx, .int gway, .int gav, .int ggoal, .int (nI gfound), .int 120, .int (nI gl), .int (nI gsz), .ref g16, .ref g17])), (gz, .inl (k_fgz, 121, .inr (.inr (.inr (.inr (zs o 121 az)))))), (g1, .inl (k_s1g, 120, .inl (bN 7 q_s1g))), (g2, .inl (k_s2g, 120, .inl s2g)), (g3, .inl (k_s3g, 120, .inl s3g)), (g4, .inl (k_s4g, 120, .inl s4g)), (g5, .inl (k_s5g, 120, .inl s5g)), (g16, .inl (k_hig, 5, .inl hig)), (g17, .inl (k_log, 5, .inl log)), (au, .inr (0, [.int (nI nc), .int (nI np), .int (nI ne), .int (nI st0), .ref q4, .ref q5, .ref q6, .ref q7, .ref q8, .ref q9, .ref q10, .ref q11, .ref q12, .ref q13, .ref q14, .ref q15, .ref q16])), (q4, .inl (k_f4, 8, .inl f4)), (q5, .inl (k_f5, 14, .inl (bN 7 q_f5))), (q6, .inl (k_f6, 14, .inl (bN 7 q_f6))), (q7, .inl (k_f7, 14, .inl f7)), (q8, .inl (k_f8, 22, .inl (bN 4 q_f8))), (q9, .inl (k_f9, 88, .inl (bN 2 q_f9))), (q10, .inl (k_f10, 88, .inl f10)), (q11, .inl (k_f11, 88, .inl f11)), (q12, .inl (k_f12, 88, .inl f12)), (q13, .inl (k_f13, 88, .inl f13)), (q14, .inl (k_f14, 4, .inl f14)), (q15, .inl (k_f15, 4, .inl f15)), (q16, .inl (k_f16, 4, .inl f16))] ++ zp 4 16 N az ac kz qs fz) := hD.part [15, 16, 17, 18, 19, 20, 21, 22, 23, 1, 2, 3, 4, 5, 6, 7, 8, 9, 10, 11, 12, 13, 14] (by decide) rfl
        have hKc : va_K (dC, dI) vwCl ([(k_fgz, .object RX7), (k_s1g, .int), (k_s2g, .int), (k_s3g, .int), (k_s4g, .int), (k_s5g, .int), (k_hig, .int), (k_log, .int), (k_f4, .boolean), (k_f5, .int), (k_f6, .int), (k_f7, .int), (k_f8, .int), (k_f9, .int), (k_f10, .int), (k_f11, .int), (k_f12, .int), (k_f13, .int), (k_f14, .int), (k_f15, .int), (k_f16, .int)] ++ zt N kz) s := zk_part hK [13, 14, 15, 16, 17, 18, 19, 20, 0, 1, 2, 3, 4, 5, 6, 7, 8, 9, 10, 11, 12] rfl
        have hFc := pu_free hDc hS hA
        refine va_callv (va_runV (As := [.ref au, .int (nI n_3), .int (nI a1), .int (nI (nc + 1))]) (rest := []) ⟨hx, hb, hml, hown, hts⟩ (c_C_1_plan_16 l dC dI _ g gz g1 g2 g3 g4 g5 gc gfull gx gway gav ggoal gfound gl gsz g16 g17 k_fgz k_s1g q_s1g k_s2g s2g k_s3g s3g k_s4g s4g k_s5g s5g k_hig hig k_log log au nc np ne (nI st0) q4 q5 q6 q7 q8 q9 q10 q11 q12 q13 q14 q15 q16 k_f4 f4 k_f5 q_f5 k_f6 q_f6 k_f7 f7 k_f8 q_f8 k_f9 q_f9 k_f10 f10 k_f11 f11 k_f12 f12 k_f13 f13 k_f14 f14 k_f15 f15 k_f16 f16 N o az ac kz qs fz (nI n_3) a1 (nc + 1) hgc hgfull hgfound hgl hgsz hnc hnp hne (Or.inr ⟨st0, hst0, rfl⟩) (by omega) ha1 (by omega)) (cwV 4 hts g_C_8_graph_C_1_plan_16 rfl rfl rfl (by decide +kernel) ⟨Nat.le_of_ble_eq_true rfl, Nat.le_of_ble_eq_true rfl⟩) ⟨pu_bl, va_recv hK hP (ci := 1) (q0 := 15) rfl rfl, pu_in hPc hKc hDc⟩ rfl rfl hl.1 rfl (lv_room (Nat.le_of_ble_eq_true rfl)) eX8_graph_40 ⟨Nat.le_of_ble_eq_true rfl, Nat.le_of_ble_eq_true rfl⟩) hS (fun q _ h => hFc q h) hFc (fun u t H1 locs ht hvm hw hB hz1 hk1 hS => ?_)
        obtain ⟨z_fhi_7, z_flo_8, z_gav_9, z_ggoal_10, z_gfound_11, z_gl_12, z_gsz_13, z_gway_14, ⟨hP1, -, hD1⟩, hz_gfound_11, hz_gl_12, hz_gsz_13⟩ := hB
        rw [ht] at hP1
        obtain ⟨hP, hD⟩ := pl_put (X' := (xg__w xa xtape (nI tp) rd au xdr hy g (nI hs) tg sg (nI ss) rm ti py bu sm (nI nc) (nI np) (nI ne) (nI st0) q4 q5 q6 q7 q8 q9 q10 q11 q12 q13 q14 q15 q16 k_f4 f4 k_f5 (bN 7 q_f5) k_f6 (bN 7 q_f6) k_f7 f7 k_f8 (bN 4 q_f8) k_f9 (bN 2 q_f9) k_f10 f10 k_f11 f11 k_f12 f12 k_f13 f13 k_f14 f14 k_f15 f15 k_f16 f16 gz g1 g2 g3 g4 g5 (nI gc) (nI gfull) gx z_gway_14 z_gav_9 z_ggoal_10 (nI z_gfound_11) 120 (nI z_gl_12) (nI z_gsz_13) g16 g17 k_fgz (zs o 121 az) k_s1g (bN 7 q_s1g) k_s2g s2g k_s3g s3g k_s4g s4g k_s5g s5g k_hig z_fhi_7 k_log z_flo_8 k_fbu fbu)) (w1 := (gs1__w g gz g1 g2 g3 g4 g5 (nI gc) (nI gfull) gx z_gway_14 z_gav_9 z_ggoal_10 (nI z_gfound_11) 120 (nI z_gl_12) (nI z_gsz_13) g16 g17 k_fgz (zs o 121 az) k_s1g (bN 7 q_s1g) k_s2g s2g k_s3g s3g k_s4g s4g k_s5g s5g k_hig z_fhi_7 k_log z_flo_8 au (nI nc) (nI np) (nI ne) (nI st0) q4 q5 q6 q7 q8 q9 q10 q11 q12 q13 q14 q15 q16 k_f4 f4 k_f5 (bN 7 q_f5) k_f6 (bN 7 q_f6) k_f7 f7 k_f8 (bN 4 q_f8) k_f9 (bN 2 q_f9) k_f10 f10 k_f11 f11 k_f12 f12 k_f13 f13 k_f14 f14 k_f15 f15 k_f16 f16)) hP hD [15, 16, 17, 18, 19, 20, 21, 22, 23, 1, 2, 3, 4, 5, 6, 7, 8, 9, 10, 11, 12, 13, 14] rfl hk1 hP1 rfl zp_f rfl
        clear hP1 hD1 hFc
        clear hPc hDc hKc
        clear hk1 hz1 ht hvm
        generalize H1 = H at hP hS ⊢
        refine lv_aload_n hx hb eX8_graph_43 rfl (lv_at hl 0 rfl) ?_
        refine lv_aload_n hx hb eX8_graph_44 rfl (lv_at hl 0 rfl) ?_
        refine va_get (D := (dC, dI)) (ci := 8) (v := .ref g) (C := RX8) (T := TX8) (N := 16) hx hb hts hiX8 hown hK hP 0 rfl rfl 6 (by decide) v_3 (fun _ h9 => h9) rfl eX8_graph_45 ?_
        have hFc := pu_free hD hS hA
        refine va_callv (va_runV (As := [.ref g]) (rest := []) ⟨hx, hb, hml, hown, hts⟩ (c_C_8_beginAtZero_16 l dC dI _ xa xtape tp rd au xdr hy g hs tg sg ss rm ti py bu sm nc np ne st0 q4 q5 q6 q7 q8 q9 q10 q11 q12 q13 q14 q15 q16 k_f4 f4 k_f5 q_f5 k_f6 q_f6 k_f7 f7 k_f8 q_f8 k_f9 q_f9 k_f10 f10 k_f11 f11 k_f12 f12 k_f13 f13 k_f14 f14 k_f15 f15 k_f16 f16 g gz g1 g2 g3 g4 g5 gc gfull gx z_gway_14 z_gav_9 z_ggoal_10 z_gfound_11 z_gl_12 z_gsz_13 g16 g17 k_fgz k_s1g q_s1g k_s2g s2g k_s3g s3g k_s4g s4g k_s5g s5g k_hig z_fhi_7 k_log z_flo_8 k_fbu fbu N o az ac kz qs fz htp hhs hss hnc hnp hne hst0 hgc hgfull hz_gfound_11 hz_gl_12 hz_gsz_13 (by omega)) (cwV 1 hts g_C_8_graph_C_8_beginAtZero_16 rfl rfl rfl (by decide +kernel) ⟨Nat.le_of_ble_eq_true rfl, Nat.le_of_ble_eq_true rfl⟩) ⟨pu_bl, va_recv hK hP (ci := 8) (q0 := 0) rfl rfl, pu_in hP hK hD⟩ rfl rfl hl.1 rfl (lv_room (Nat.le_of_ble_eq_true rfl)) eX8_graph_48 ⟨Nat.le_of_ble_eq_true rfl, Nat.le_of_ble_eq_true rfl⟩) hS (fun q _ h => hFc q h) hFc (fun u t H1 locs ht hvm hw hB hz1 hk1 hS => ?_)
        obtain ⟨z_s1gx_16, z_s2gx_17, z_s3gx_18, z_s4gx_19, z_s5gx_20, z_fbu_21, z_gxfound_22, z_gxc_23, z_gxfull_24, z_gxx_25, z_fz_26, z_qs_27, ⟨hP1, -, hD1⟩, hz_gxfound_22, hz_gxc_23, hz_gxfull_24, xr_15_0⟩ := hB
        rw [ht] at hP1
        have hP := hP1
        have hD := pu_all hFc hD1
        clear hP1 hD1 hFc
        clear hk1 hz1 ht hvm
        generalize H1 = H at hP hS ⊢
        refine lv_aload_n hx hb eX8_graph_51 rfl (lv_at hl 0 rfl) ?_
        refine va_get (D := (dC, dI)) (ci := 8) (v := .ref g) (C := RX8) (T := TX8) (N := 16) hx hb hts hiX8 hown hK hP 0 rfl rfl 6 (by decide) v_3 (fun _ h9 => h9) rfl eX8_graph_52 ?_
        refine lv_aload_n hx hb eX8_graph_55 rfl (lv_at hl 0 rfl) ?_
        refine va_get (D := (dC, dI)) (ci := 8) (v := .ref au) (C := RX8) (T := TX8) (N := 16) hx hb hts hiX8 hown hK hP 0 rfl rfl 3 (by decide) v_1 (fun _ h9 => h9) rfl eX8_graph_56 ?_
        have hPc : va_P (dC, dI) vwCl ([(g, .inr (1, [.ref gz, .ref g1, .ref g2, .ref g3, .ref g4, .ref g5, .int (nI z_gxc_23), .int (nI z_gxfull_24), .int z_gxx_25, .int z_gway_14, .int z_gav_9, .int z_ggoal_10, .int (nI z_gxfound_22), .int 120, .int (nI z_gl_12), .int (nI z_gsz_13), .ref g16, .ref g17])), (gz, .inl (k_fgz, 121, .inr (.inr (.inr (.inr (zs o 121 az)))))), (g1, .inl (k_s1g, 120, .inl (bN 7 z_s1gx_16))), (g2, .inl (k_s2g, 120, .inl z_s2gx_17)), (g3, .inl (k_s3g, 120, .inl z_s3gx_18)), (g4, .inl (k_s4g, 120, .inl z_s4gx_19)), (g5, .inl (k_s5g, 120, .inl z_s5gx_20)), (g16, .inl (k_hig, 5, .inl z_fhi_7)), (g17, .inl (k_log, 5, .inl z_flo_8)), (au, .inr (0, [.int (nI nc), .int (nI np), .int (nI ne), .int (nI st0), .ref q4, .ref q5, .ref q6, .ref q7, .ref q8, .ref q9, .ref q10, .ref q11, .ref q12, .ref q13, .ref q14, .ref q15, .ref q16])), (q4, .inl (k_f4, 8, .inl f4)), (q5, .inl (k_f5, 14, .inl (bN 7 q_f5))), (q6, .inl (k_f6, 14, .inl (bN 7 q_f6))), (q7, .inl (k_f7, 14, .inl f7)), (q8, .inl (k_f8, 22, .inl (bN 4 q_f8))), (q9, .inl (k_f9, 88, .inl (bN 2 q_f9))), (q10, .inl (k_f10, 88, .inl f10)), (q11, .inl (k_f11, 88, .inl f11)), (q12, .inl (k_f12, 88, .inl f12)), (q13, .inl (k_f13, 88, .inl f13)), (q14, .inl (k_f14, 4, .inl f14)), (q15, .inl (k_f15, 4, .inl f15)), (q16, .inl (k_f16, 4, .inl f16))] ++ zp 4 16 N az ac kz z_qs_27 z_fz_26) _ := hP.part [15, 16, 17, 18, 19, 20, 21, 22, 23, 1, 2, 3, 4, 5, 6, 7, 8, 9, 10, 11, 12, 13, 14] rfl
        have hDc : va_D A ([(g, .inr (1, [.ref gz, .ref g1, .ref g2, .ref g3, .ref g4, .ref g5, .int (nI z_gxc_23), .int (nI z_gxfull_24), .int z_gxx_25, .int z_gway_14, .int z_gav_9, .int z_ggoal_10, .int (nI z_gxfound_22), .int 120, .int (nI z_gl_12), .int (nI z_gsz_13), .ref g16, .ref g17])), (gz, .inl (k_fgz, 121, .inr (.inr (.inr (.inr (zs o 121 az)))))), (g1, .inl (k_s1g, 120, .inl (bN 7 z_s1gx_16))), (g2, .inl (k_s2g, 120, .inl z_s2gx_17)), (g3, .inl (k_s3g, 120, .inl z_s3gx_18)), (g4, .inl (k_s4g, 120, .inl z_s4gx_19)), (g5, .inl (k_s5g, 120, .inl z_s5gx_20)), (g16, .inl (k_hig, 5, .inl z_fhi_7)), (g17, .inl (k_log, 5, .inl z_flo_8)), (au, .inr (0, [.int (nI nc), .int (nI np), .int (nI ne), .int (nI st0), .ref q4, .ref q5, .ref q6, .ref q7, .ref q8, .ref q9, .ref q10, .ref q11, .ref q12, .ref q13, .ref q14, .ref q15, .ref q16])), (q4, .inl (k_f4, 8, .inl f4)), (q5, .inl (k_f5, 14, .inl (bN 7 q_f5))), (q6, .inl (k_f6, 14, .inl (bN 7 q_f6))), (q7, .inl (k_f7, 14, .inl f7)), (q8, .inl (k_f8, 22, .inl (bN 4 q_f8))), (q9, .inl (k_f9, 88, .inl (bN 2 q_f9))), (q10, .inl (k_f10, 88, .inl f10)), (q11, .inl (k_f11, 88, .inl f11)), (q12, .inl (k_f12, 88, .inl f12)), (q13, .inl (k_f13, 88, .inl f13)), (q14, .inl (k_f14, 4, .inl f14)), (q15, .inl (k_f15, 4, .inl f15)), (q16, .inl (k_f16, 4, .inl f16))] ++ zp 4 16 N az ac kz z_qs_27 z_fz_26) := hD.part [15, 16, 17, 18, 19, 20, 21, 22, 23, 1, 2, 3, 4, 5, 6, 7, 8, 9, 10, 11, 12, 13, 14] (by decide) rfl
        have hKc : va_K (dC, dI) vwCl ([(k_fgz, .object RX7), (k_s1g, .int), (k_s2g, .int), (k_s3g, .int), (k_s4g, .int), (k_s5g, .int), (k_hig, .int), (k_log, .int), (k_f4, .boolean), (k_f5, .int), (k_f6, .int), (k_f7, .int), (k_f8, .int), (k_f9, .int), (k_f10, .int), (k_f11, .int), (k_f12, .int), (k_f13, .int), (k_f14, .int), (k_f15, .int), (k_f16, .int)] ++ zt N kz) s := zk_part hK [13, 14, 15, 16, 17, 18, 19, 20, 0, 1, 2, 3, 4, 5, 6, 7, 8, 9, 10, 11, 12] rfl
        have hFc := pu_free hDc hS hA
        refine va_callv (va_runV (As := [.ref au]) (rest := []) ⟨hx, hb, hml, hown, hts⟩ (c_C_1_grow_16 l dC dI _ g gz g1 g2 g3 g4 g5 z_gxc_23 z_gxfull_24 z_gxx_25 z_gway_14 z_gav_9 z_ggoal_10 z_gxfound_22 z_gl_12 z_gsz_13 g16 g17 k_fgz k_s1g z_s1gx_16 k_s2g z_s2gx_17 k_s3g z_s3gx_18 k_s4g z_s4gx_19 k_s5g z_s5gx_20 k_hig z_fhi_7 k_log z_flo_8 au nc np ne (nI st0) q4 q5 q6 q7 q8 q9 q10 q11 q12 q13 q14 q15 q16 k_f4 f4 k_f5 q_f5 k_f6 q_f6 k_f7 f7 k_f8 q_f8 k_f9 q_f9 k_f10 f10 k_f11 f11 k_f12 f12 k_f13 f13 k_f14 f14 k_f15 f15 k_f16 f16 N o az ac kz z_qs_27 z_fz_26 hz_gxc_23 hz_gxfull_24 hz_gxfound_22 hz_gl_12 hz_gsz_13 hnc hnp hne (Or.inr ⟨st0, hst0, rfl⟩) (by omega) (by first | assumption | exact gz_0)) (cwV 1 hts g_C_8_graph_C_1_grow_16 rfl rfl rfl (by decide +kernel) ⟨Nat.le_of_ble_eq_true rfl, Nat.le_of_ble_eq_true rfl⟩) ⟨pu_bl, va_recv hK hP (ci := 1) (q0 := 15) rfl rfl, pu_in hPc hKc hDc⟩ rfl rfl hl.1 rfl (lv_room (Nat.le_of_ble_eq_true rfl)) eX8_graph_59 ⟨Nat.le_of_ble_eq_true rfl, Nat.le_of_ble_eq_true rfl⟩) hS (fun q _ h => hFc q h) hFc (fun u t H1 locs ht hvm hw hB hz1 hk1 hS => ?_)
        obtain ⟨z_fs1_29, z_fs2_30, z_fs3_31, z_fs4_32, z_fs5_33, z_gfound_34, z_gc_35, z_gfull_36, z_gx_37, z_fz_38, z_qs_39, ⟨hP1, -, hD1⟩, hz_gfound_34, hz_gc_35, hz_gfull_36, xr_28_0⟩ := hB
        rw [ht] at hP1
        obtain ⟨hP, hD⟩ := pl_put (X' := (xg__w xa xtape (nI tp) rd au xdr hy g (nI hs) tg sg (nI ss) rm ti py bu sm (nI nc) (nI np) (nI ne) (nI st0) q4 q5 q6 q7 q8 q9 q10 q11 q12 q13 q14 q15 q16 k_f4 f4 k_f5 (bN 7 q_f5) k_f6 (bN 7 q_f6) k_f7 f7 k_f8 (bN 4 q_f8) k_f9 (bN 2 q_f9) k_f10 f10 k_f11 f11 k_f12 f12 k_f13 f13 k_f14 f14 k_f15 f15 k_f16 f16 gz g1 g2 g3 g4 g5 (nI z_gc_35) (nI z_gfull_36) z_gx_37 z_gway_14 z_gav_9 z_ggoal_10 (nI z_gfound_34) 120 (nI z_gl_12) (nI z_gsz_13) g16 g17 k_fgz (zs o 121 az) k_s1g (bN 7 z_fs1_29) k_s2g z_fs2_30 k_s3g z_fs3_31 k_s4g z_fs4_32 k_s5g z_fs5_33 k_hig z_fhi_7 k_log z_flo_8 k_fbu z_fbu_21)) (w1 := (gs1__w g gz g1 g2 g3 g4 g5 (nI z_gc_35) (nI z_gfull_36) z_gx_37 z_gway_14 z_gav_9 z_ggoal_10 (nI z_gfound_34) 120 (nI z_gl_12) (nI z_gsz_13) g16 g17 k_fgz (zs o 121 az) k_s1g (bN 7 z_fs1_29) k_s2g z_fs2_30 k_s3g z_fs3_31 k_s4g z_fs4_32 k_s5g z_fs5_33 k_hig z_fhi_7 k_log z_flo_8 au (nI nc) (nI np) (nI ne) (nI st0) q4 q5 q6 q7 q8 q9 q10 q11 q12 q13 q14 q15 q16 k_f4 f4 k_f5 (bN 7 q_f5) k_f6 (bN 7 q_f6) k_f7 f7 k_f8 (bN 4 q_f8) k_f9 (bN 2 q_f9) k_f10 f10 k_f11 f11 k_f12 f12 k_f13 f13 k_f14 f14 k_f15 f15 k_f16 f16)) hP hD [15, 16, 17, 18, 19, 20, 21, 22, 23, 1, 2, 3, 4, 5, 6, 7, 8, 9, 10, 11, 12, 13, 14] rfl hk1 hP1 rfl zp_f rfl
        clear hP1 hD1 hFc
        clear hPc hDc hKc
        clear hk1 hz1 ht hvm
        generalize H1 = H at hP hS ⊢
        refine lv_aload_n hx hb eX8_graph_62 rfl (lv_at hl 0 rfl) ?_
        refine lv_iconst (v := 1) hx hb eX8_graph_63 (by decide) ?_
        refine va_put (D := (dC, dI)) (ci := 8) (v := .int 1) (ty := .boolean) (C := RX8) (T := TX8) (N := 16) hx hb hts hiX8 tyX8 tyX8_ok nmX8 hown hK hP hD hS 0 rfl rfl 7 (by decide) v_19 (fun _ h9 => h9) rfl (by decide +kernel) rfl rfl (Nat.le_of_ble_eq_true rfl) eX8_graph_64 (fun H locs hP hD hS => ?_)
        have hP : va_P (dC, dI) vwCl ((xg__w xa xtape (nI tp) rd au xdr hy g 1 tg sg (nI ss) rm ti py bu sm (nI nc) (nI np) (nI ne) (nI st0) q4 q5 q6 q7 q8 q9 q10 q11 q12 q13 q14 q15 q16 k_f4 f4 k_f5 (bN 7 q_f5) k_f6 (bN 7 q_f6) k_f7 f7 k_f8 (bN 4 q_f8) k_f9 (bN 2 q_f9) k_f10 f10 k_f11 f11 k_f12 f12 k_f13 f13 k_f14 f14 k_f15 f15 k_f16 f16 gz g1 g2 g3 g4 g5 (nI z_gc_35) (nI z_gfull_36) z_gx_37 z_gway_14 z_gav_9 z_ggoal_10 (nI z_gfound_34) 120 (nI z_gl_12) (nI z_gsz_13) g16 g17 k_fgz (zs o 121 az) k_s1g (bN 7 z_fs1_29) k_s2g z_fs2_30 k_s3g z_fs3_31 k_s4g z_fs4_32 k_s5g z_fs5_33 k_hig z_fhi_7 k_log z_flo_8 k_fbu z_fbu_21) ++ zp 4 16 N az ac kz z_qs_39 z_fz_38) H := hP
        have hD : va_D A ((xg__w xa xtape (nI tp) rd au xdr hy g 1 tg sg (nI ss) rm ti py bu sm (nI nc) (nI np) (nI ne) (nI st0) q4 q5 q6 q7 q8 q9 q10 q11 q12 q13 q14 q15 q16 k_f4 f4 k_f5 (bN 7 q_f5) k_f6 (bN 7 q_f6) k_f7 f7 k_f8 (bN 4 q_f8) k_f9 (bN 2 q_f9) k_f10 f10 k_f11 f11 k_f12 f12 k_f13 f13 k_f14 f14 k_f15 f15 k_f16 f16 gz g1 g2 g3 g4 g5 (nI z_gc_35) (nI z_gfull_36) z_gx_37 z_gway_14 z_gav_9 z_ggoal_10 (nI z_gfound_34) 120 (nI z_gl_12) (nI z_gsz_13) g16 g17 k_fgz (zs o 121 az) k_s1g (bN 7 z_fs1_29) k_s2g z_fs2_30 k_s3g z_fs3_31 k_s4g z_fs4_32 k_s5g z_fs5_33 k_hig z_fhi_7 k_log z_flo_8 k_fbu z_fbu_21) ++ zp 4 16 N az ac kz z_qs_39 z_fz_38) := hD
        refine lv_aload_n hx hb eX8_graph_67 rfl (lv_at hl 0 rfl) ?_
        refine va_get (D := (dC, dI)) (ci := 8) (v := .ref g) (C := RX8) (T := TX8) (N := 16) hx hb hts hiX8 hown hK hP 0 rfl rfl 6 (by decide) v_3 (fun _ h9 => h9) rfl eX8_graph_68 ?_
        refine va_get (D := (dC, dI)) (ci := 1) (v := .int (nI z_gc_35)) (C := RX1) (T := TX1) (N := 18) hx hb hts hiX1 hown hK hP 15 rfl rfl 6 (by decide) v_20 (fun _ h9 => h9) rfl eX8_graph_71 ?_
        exact W.iret (v := (nI z_gc_35)) hx hb hr (fun t ht hW => ⟨⟨(nI z_gc_35), (), rfl, trivial, ⟨z_fs1_29, z_fs2_30, z_fs3_31, z_fs4_32, z_fs5_33, z_fhi_7, z_flo_8, z_fbu_21, 1, z_gav_9, z_ggoal_10, z_gfound_34, z_gl_12, z_gsz_13, z_gc_35, z_gfull_36, z_gx_37, z_gway_14, z_fz_38, z_qs_39, ⟨by rw [ht]; exact hP, va_K.moved hW.alike hK, hD⟩, (Nat.le_of_ble_eq_true rfl), hz_gfound_34, hz_gl_12, hz_gsz_13, hz_gc_35, hz_gfull_36, by first | assumption | exact gz_0⟩⟩, hS.F ht⟩) hS.2.2 eX8_graph_74
      · have c_4 : np = 0 := (nI_eq (a := np) (b := 0) (Nat.lt_of_le_of_lt hnp (Nat.le_of_ble_eq_true rfl)) (Nat.le_of_ble_eq_true rfl)).mp c_4
        refine lv_iconst (v := (-1)) hx hb eX8_graph_19 (by decide) ?_
        exact W.iret (v := (-1)) hx hb hr (fun t ht hW => ⟨⟨(-1), (), rfl, trivial, ⟨q_s1g, s2g, s3g, s4g, s5g, hig, log, fbu, hs, gav, ggoal, gfound, gl, gsz, gc, gfull, gx, gway, fz, qs, ⟨by rw [ht]; exact hP, va_K.moved hW.alike hK, hD⟩, hhs, hgfound, hgl, hgsz, hgc, hgfull, by first | assumption | exact gz_0⟩⟩, hS.F ht⟩) hS.2.2 eX8_graph_20
theorem eX8_first_0 : decode cX8_first 0 = .ok (.aload_n 0, 1) := by decide +kernel
theorem eX8_first_1 : decode cX8_first 1 = .ok (.getfield 100, 3) := by decide +kernel
theorem eX8_first_4 : decode cX8_first 4 = .ok (.ifCond .eq 11, 3) := by decide +kernel
theorem eX8_first_7 : decode cX8_first 7 = .ok (.aload_n 0, 1) := by decide +kernel
theorem eX8_first_8 : decode cX8_first 8 = .ok (.iload_n 1, 1) := by decide +kernel
theorem eX8_first_9 : decode cX8_first 9 = .ok (.invokevirtual 140, 3) := by decide +kernel
theorem eX8_first_12 : decode cX8_first 12 = .ok (.ifCond .ne 5, 3) := by decide +kernel
theorem eX8_first_15 : decode cX8_first 15 = .ok (.iconst (-1), 1) := by decide +kernel
theorem eX8_first_16 : decode cX8_first 16 = .ok (.ireturn, 1) := by decide +kernel
theorem eX8_first_17 : decode cX8_first 17 = .ok (.aload_n 0, 1) := by decide +kernel
theorem eX8_first_18 : decode cX8_first 18 = .ok (.getfield 42, 3) := by decide +kernel
theorem eX8_first_21 : decode cX8_first 21 = .ok (.iload_n 1, 1) := by decide +kernel
theorem eX8_first_22 : decode cX8_first 22 = .ok (.invokevirtual 283, 3) := by decide +kernel
theorem eX8_first_25 : decode cX8_first 25 = .ok (.ireturn, 1) := by decide +kernel
abbrev vs_C_8_first : List Cond := .code yX8_first cX8_first 2 (some .int) :: CM
theorem g_C_8_first_C_8_isPlace : GoodIn vs_C_8_first (wsV RX8 140 RX8 yX8_isPlace vs_C_8_isPlace) := cm_gV cm_471 cm_472 cm_473 cm_427 cm_474
theorem g_C_8_first_C_1_firstAt_16 : GoodIn vs_C_8_first (wsV RX8 283 RX1 yX1_firstAt vs_C_1_firstAt_16) := cm_gV cm_568 cm_569 cm_570 cm_113 cm_151
set_option maxHeartbeats 4000000 in
set_option maxRecDepth 100000 in
theorem c_C_8_first (l : Launch) (dC : Nat → ClassId) (dI : Nat → Nat → Nat) (sz : Nat) (xa : Nat) (xtape : Nat) (tp : Nat) (rd : Nat) (au : Nat) (xdr : Nat) (hy : Nat) (g : Nat) (hs : Nat) (tg : Nat) (sg : Nat) (ss : Nat) (rm : Nat) (ti : Nat) (py : Nat) (bu : Nat) (sm : Nat) (nc : Nat) (np : Nat) (ne : Nat) (st0 : Int32) (q4 : Nat) (q5 : Nat) (q6 : Nat) (q7 : Nat) (q8 : Nat) (q9 : Nat) (q10 : Nat) (q11 : Nat) (q12 : Nat) (q13 : Nat) (q14 : Nat) (q15 : Nat) (q16 : Nat) (k_f4 : ClassId) (f4 : Nat → Int32) (k_f5 : ClassId) (q_f5 : Nat → Nat) (k_f6 : ClassId) (q_f6 : Nat → Nat) (k_f7 : ClassId) (f7 : Nat → Int32) (k_f8 : ClassId) (q_f8 : Nat → Nat) (k_f9 : ClassId) (q_f9 : Nat → Nat) (k_f10 : ClassId) (f10 : Nat → Int32) (k_f11 : ClassId) (f11 : Nat → Int32) (k_f12 : ClassId) (f12 : Nat → Int32) (k_f13 : ClassId) (f13 : Nat → Int32) (k_f14 : ClassId) (f14 : Nat → Int32) (k_f15 : ClassId) (f15 : Nat → Int32) (k_f16 : ClassId) (f16 : Nat → Int32) (gz : Nat) (g1 : Nat) (g2 : Nat) (g3 : Nat) (g4 : Nat) (g5 : Nat) (gc : Nat) (gfull : Nat) (gx : Int32) (gway : Int32) (gav : Int32) (ggoal : Int32) (gfound : Nat) (gl : Nat) (gsz : Nat) (g16 : Nat) (g17 : Nat) (k_fgz : ClassId) (k_s1g : ClassId) (q_s1g : Nat → Nat) (k_s2g : ClassId) (s2g : Nat → Int32) (k_s3g : ClassId) (s3g : Nat → Int32) (k_s4g : ClassId) (s4g : Nat → Int32) (k_s5g : ClassId) (s5g : Nat → Int32) (k_hig : ClassId) (hig : Nat → Int32) (k_log : ClassId) (log : Nat → Int32) (k_fbu : ClassId) (fbu : Nat → Int32) (N : Nat) (o : Nat) (az ac : Nat → Nat) (kz : Nat → ClassId) (qs : Nat → Nat) (fz : Nat → Nat → Int32) (p0 : Int32) (htp : tp ≤ 900) (hhs : hs ≤ 1) (hss : ss ≤ 1) (hnc : nc ≤ 3) (hnp : np ≤ 8) (hne : ne ≤ 14) (hst0 : pm1 7 st0) (hgc : gc ≤ 120) (hgfull : gfull ≤ 1) (hgfound : gfound ≤ 1) (hgl : gl ≤ 1) (hgsz : gsz ≤ 4) (hN : o + 121 ≤ N) : Met l yX8_first vs_C_8_first ({ frames := 1, cells := 0, slots := 0, locals := 22 }) (va_Pc [.ref xa, .int p0] (pu_B (dC, dI) ((xg__w xa xtape (nI tp) rd au xdr hy g (nI hs) tg sg (nI ss) rm ti py bu sm (nI nc) (nI np) (nI ne) st0 q4 q5 q6 q7 q8 q9 q10 q11 q12 q13 q14 q15 q16 k_f4 f4 k_f5 (bN 7 q_f5) k_f6 (bN 7 q_f6) k_f7 f7 k_f8 (bN 4 q_f8) k_f9 (bN 2 q_f9) k_f10 f10 k_f11 f11 k_f12 f12 k_f13 f13 k_f14 f14 k_f15 f15 k_f16 f16 gz g1 g2 g3 g4 g5 (nI gc) (nI gfull) gx gway gav ggoal (nI gfound) 120 (nI gl) (nI gsz) g16 g17 k_fgz (zs o 121 az) k_s1g (bN 7 q_s1g) k_s2g s2g k_s3g s3g k_s4g s4g k_s5g s5g k_hig hig k_log log k_fbu fbu) ++ zp 4 16 N az ac kz qs fz) ((xg__t k_f4 k_f5 k_f6 k_f7 k_f8 k_f9 k_f10 k_f11 k_f12 k_f13 k_f14 k_f15 k_f16 k_fgz k_s1g k_s2g k_s3g k_s4g k_s5g k_hig k_log k_fbu) ++ zt N kz) sz)) (va_Qi (fun (r : Int32) (_ : Unit) => True) (fun _ _ => True) (va_A [] sz)) 0 0 (va_A [] sz) := by
  refine Met.ofW (cc := cX8_first) (maxL := 2) (ret := (some .int)) (by decide) rfl ?_
  intro p e s m args below meth c s₁ B hml hv
  obtain ⟨rfl, rfl, hP, hK, hD0⟩ := hv
  have hx := B.exec
  have hb := B.bytes
  have hr := B.returns
  have hts := atoms_spec (ws := vs_C_8_first) B.pre
  have v_1 := hts (.fieldLink RX8 100 "ClockReach" "hasShown" "Z") (List.mem_cons_of_mem _ cm_445)
  have v_7 := hts (.fieldLink RX8 42 "ClockReach" "shown" "LClockReach$Graph;") (List.mem_cons_of_mem _ cm_456)
  have hown : s.vm.findClass RX8 = some m.cls := findClass_of_methodNamed B.named
  have hlocks := B.notSynchronized
  have hiX8 : ∀ w ∈ wsX80, w ∈ vs_C_8_first := fun _ h => List.mem_cons_of_mem _ (cm_X8 h)
  have hD := hD0
  have hA : ∀ q : Nat, s.heap.size ≤ q → va_A [] s.heap.size q := fun _ h => Or.inr h
  have hS : va_S (va_A [] s.heap.size) s.heap s.heap [] := va_S.rf
  have hl := lv_entry ([.ref xa, .int p0]) (n := 2) (Nat.le_of_ble_eq_true rfl)
  rw [lg_entry_eq]
  generalize (lg_sl ([.ref xa, .int p0]) ++ List.replicate (2 - (lg_sl ([.ref xa, .int p0])).length) Slot.unset).toArray = ls at hl ⊢
  have hl : lv_has ls 2 [(0, .ref xa), (1, .int p0)] := hl
  refine lv_aload_n hx hb eX8_first_0 rfl (lv_at hl 0 rfl) ?_
  refine va_get (D := (dC, dI)) (ci := 8) (v := .int (nI hs)) (C := RX8) (T := TX8) (N := 16) hx hb hts hiX8 hown hK hP 0 rfl rfl 7 (by decide) v_1 (fun _ h9 => h9) rfl eX8_first_1 ?_
  refine lv_if_eq (tgt := 15) hx hb eX8_first_4 (by decide) (fun c_1 => ?_) (fun c_1 => ?_)
  · have c_1 : hs = 0 := (nI_eq (a := hs) (b := 0) (Nat.lt_of_le_of_lt hhs (Nat.le_of_ble_eq_true rfl)) (Nat.le_of_ble_eq_true rfl)).mp c_1
    refine lv_iconst (v := (-1)) hx hb eX8_first_15 (by decide) ?_
    exact W.iret (v := (-1)) hx hb hr (fun t ht hW => ⟨⟨(-1), (), rfl, trivial, trivial⟩, hS.F ht⟩) hS.2.2 eX8_first_16
  · have c_1 : ¬ hs = 0 := fun z => c_1 ((nI_eq (a := hs) (b := 0) (Nat.lt_of_le_of_lt hhs (Nat.le_of_ble_eq_true rfl)) (Nat.le_of_ble_eq_true rfl)).mpr z)
    refine lv_aload_n hx hb eX8_first_7 rfl (lv_at hl 0 rfl) ?_
    refine lv_iload_n hx hb eX8_first_8 rfl (lv_at hl 1 rfl) ?_
    have hPc : va_P (dC, dI) vwCl [(xa, .inr (8, [.ref xtape, .int (nI tp), .ref rd, .ref au, .ref xdr, .ref hy, .ref g, .int (nI hs), .ref tg, .ref sg, .int (nI ss), .ref rm, .ref ti, .ref py, .ref bu, .ref sm])), (au, .inr (0, [.int (nI nc), .int (nI np), .int (nI ne), .int st0, .ref q4, .ref q5, .ref q6, .ref q7, .ref q8, .ref q9, .ref q10, .ref q11, .ref q12, .ref q13, .ref q14, .ref q15, .ref q16]))] _ := hP.sub [0, 1] rfl
    have hDc : va_D (fun _ => True) [(xa, .inr (8, [.ref xtape, .int (nI tp), .ref rd, .ref au, .ref xdr, .ref hy, .ref g, .int (nI hs), .ref tg, .ref sg, .int (nI ss), .ref rm, .ref ti, .ref py, .ref bu, .ref sm])), (au, .inr (0, [.int (nI nc), .int (nI np), .int (nI ne), .int st0, .ref q4, .ref q5, .ref q6, .ref q7, .ref q8, .ref q9, .ref q10, .ref q11, .ref q12, .ref q13, .ref q14, .ref q15, .ref q16]))] := (zp_left hD).sub [0, 1] (by decide) rfl
    have hKc : va_K (dC, dI) vwCl [] s := hK.sub [] rfl
    refine va_calli (va_runV (As := [.int p0]) (rest := []) ⟨hx, hb, hml, hown, hts⟩ (c_C_8_isPlace l dC dI _ xa xtape tp rd au xdr hy g hs tg sg ss rm ti py bu sm nc np ne st0 q4 q5 q6 q7 q8 q9 q10 q11 q12 q13 q14 q15 q16 p0 htp hhs hss hnc hnp hne (hst0)) (cwV 1 hts g_C_8_first_C_8_isPlace rfl rfl rfl (by decide +kernel) ⟨Nat.le_of_ble_eq_true rfl, Nat.le_of_ble_eq_true rfl⟩) ⟨pu_bl, va_recv hK hP (ci := 8) (q0 := 0) rfl rfl, pu_in hPc hKc hDc⟩ rfl rfl hl.1 rfl (lv_room (Nat.le_of_ble_eq_true rfl)) eX8_first_9 ⟨Nat.le_of_ble_eq_true rfl, Nat.le_of_ble_eq_true rfl⟩) hS (fun q _ h => pu_fr hS hA q h) (pu_fr hS hA) (fun r_2 u t H1 locs ht hvm hw hB hz1 hk1 hS => ?_)
    have hP := pu_keep hP hk1
    clear hPc hDc hKc
    clear hk1 hz1 ht hvm
    generalize H1 = H at hP hS ⊢
    rcases hw with ⟨rfl, hw⟩ | rfl
    · obtain ⟨n_3, hn_3, rfl⟩ := hw
      refine lv_if_ne (tgt := 17) hx hb eX8_first_12 (by decide) (fun _ => ?_) (fun z => absurd z (by decide))
      refine lv_aload_n hx hb eX8_first_17 rfl (lv_at hl 0 rfl) ?_
      refine va_get (D := (dC, dI)) (ci := 8) (v := .ref g) (C := RX8) (T := TX8) (N := 16) hx hb hts hiX8 hown hK hP 0 rfl rfl 6 (by decide) v_7 (fun _ h9 => h9) rfl eX8_first_18 ?_
      refine lv_iload_n hx hb eX8_first_21 rfl (lv_at hl 1 rfl) ?_
      have hPc : va_P (dC, dI) vwCl ([(g, .inr (1, [.ref gz, .ref g1, .ref g2, .ref g3, .ref g4, .ref g5, .int (nI gc), .int (nI gfull), .int gx, .int gway, .int gav, .int ggoal, .int (nI gfound), .int 120, .int (nI gl), .int (nI gsz), .ref g16, .ref g17])), (gz, .inl (k_fgz, 121, .inr (.inr (.inr (.inr (zs o 121 az)))))), (g1, .inl (k_s1g, 120, .inl (bN 7 q_s1g))), (g2, .inl (k_s2g, 120, .inl s2g)), (g3, .inl (k_s3g, 120, .inl s3g)), (g4, .inl (k_s4g, 120, .inl s4g)), (g5, .inl (k_s5g, 120, .inl s5g)), (g16, .inl (k_hig, 5, .inl hig)), (g17, .inl (k_log, 5, .inl log))] ++ zp 4 16 N az ac kz qs fz) _ := hP.part [15, 16, 17, 18, 19, 20, 21, 22, 23] rfl
      have hDc : va_D (fun _ => True) ([(g, .inr (1, [.ref gz, .ref g1, .ref g2, .ref g3, .ref g4, .ref g5, .int (nI gc), .int (nI gfull), .int gx, .int gway, .int gav, .int ggoal, .int (nI gfound), .int 120, .int (nI gl), .int (nI gsz), .ref g16, .ref g17])), (gz, .inl (k_fgz, 121, .inr (.inr (.inr (.inr (zs o 121 az)))))), (g1, .inl (k_s1g, 120, .inl (bN 7 q_s1g))), (g2, .inl (k_s2g, 120, .inl s2g)), (g3, .inl (k_s3g, 120, .inl s3g)), (g4, .inl (k_s4g, 120, .inl s4g)), (g5, .inl (k_s5g, 120, .inl s5g)), (g16, .inl (k_hig, 5, .inl hig)), (g17, .inl (k_log, 5, .inl log))] ++ zp 4 16 N az ac kz qs fz) := hD.part [15, 16, 17, 18, 19, 20, 21, 22, 23] (by decide) rfl
      have hKc : va_K (dC, dI) vwCl ([(k_fgz, .object RX7), (k_s1g, .int), (k_s2g, .int), (k_s3g, .int), (k_s4g, .int), (k_s5g, .int), (k_hig, .int), (k_log, .int)] ++ zt N kz) s := zk_part hK [13, 14, 15, 16, 17, 18, 19, 20] rfl
      refine va_calli (va_runV (As := [.int (nI n_3)]) (rest := []) ⟨hx, hb, hml, hown, hts⟩ (c_C_1_firstAt_16 l dC dI _ g gz g1 g2 g3 g4 g5 gc gfull gx gway gav ggoal gfound gl gsz g16 g17 k_fgz k_s1g q_s1g k_s2g s2g k_s3g s3g k_s4g s4g k_s5g s5g k_hig hig k_log log N o az ac kz qs fz (nI n_3) hgc hgfull hgfound hgl hgsz (by omega)) (cwV 1 hts g_C_8_first_C_1_firstAt_16 rfl rfl rfl (by decide +kernel) ⟨Nat.le_of_ble_eq_true rfl, Nat.le_of_ble_eq_true rfl⟩) ⟨pu_bl, va_recv hK hP (ci := 1) (q0 := 15) rfl rfl, pu_in hPc hKc hDc⟩ rfl rfl hl.1 rfl (lv_room (Nat.le_of_ble_eq_true rfl)) eX8_first_22 ⟨Nat.le_of_ble_eq_true rfl, Nat.le_of_ble_eq_true rfl⟩) hS (fun q _ h => pu_fr hS hA q h) (pu_fr hS hA) (fun r_4 u t H1 locs ht hvm hw hB hz1 hk1 hS => ?_)
      have hP := pu_keep hP hk1
      clear hPc hDc hKc
      clear hk1 hz1 ht hvm
      generalize H1 = H at hP hS ⊢
      exact W.iret (v := r_4) hx hb hr (fun t ht hW => ⟨⟨r_4, (), rfl, trivial, trivial⟩, hS.F ht⟩) hS.2.2 eX8_first_25
    · refine lv_if_ne (tgt := 17) hx hb eX8_first_12 (by decide) (fun z => absurd z (by decide)) (fun _ => ?_)
      refine lv_iconst (v := (-1)) hx hb eX8_first_15 (by decide) ?_
      exact W.iret (v := (-1)) hx hb hr (fun t ht hW => ⟨⟨(-1), (), rfl, trivial, trivial⟩, hS.F ht⟩) hS.2.2 eX8_first_16
theorem eX8_reached_0 : decode cX8_reached 0 = .ok (.aload_n 0, 1) := by decide +kernel
theorem eX8_reached_1 : decode cX8_reached 1 = .ok (.getfield 100, 3) := by decide +kernel
theorem eX8_reached_4 : decode cX8_reached 4 = .ok (.ifCond .eq 13, 3) := by decide +kernel
theorem eX8_reached_7 : decode cX8_reached 7 = .ok (.aload_n 0, 1) := by decide +kernel
theorem eX8_reached_8 : decode cX8_reached 8 = .ok (.getfield 42, 3) := by decide +kernel
theorem eX8_reached_11 : decode cX8_reached 11 = .ok (.invokevirtual 286, 3) := by decide +kernel
theorem eX8_reached_14 : decode cX8_reached 14 = .ok (.goto 4, 3) := by decide +kernel
theorem eX8_reached_17 : decode cX8_reached 17 = .ok (.iconst (-1), 1) := by decide +kernel
theorem eX8_reached_18 : decode cX8_reached 18 = .ok (.ireturn, 1) := by decide +kernel
abbrev vs_C_8_reached : List Cond := .code yX8_reached cX8_reached 1 (some .int) :: CM
theorem g_C_8_reached_C_1_allSites_16 : GoodIn vs_C_8_reached (wsV RX8 286 RX1 yX1_allSites vs_C_1_allSites_16) := cm_gV cm_572 cm_573 cm_574 cm_113 cm_152
set_option maxHeartbeats 4000000 in
set_option maxRecDepth 100000 in
theorem c_C_8_reached (l : Launch) (dC : Nat → ClassId) (dI : Nat → Nat → Nat) (sz : Nat) (xa : Nat) (xtape : Nat) (tp : Nat) (rd : Nat) (au : Nat) (xdr : Nat) (hy : Nat) (g : Nat) (hs : Nat) (tg : Nat) (sg : Nat) (ss : Nat) (rm : Nat) (ti : Nat) (py : Nat) (bu : Nat) (sm : Nat) (nc : Nat) (np : Nat) (ne : Nat) (st0 : Int32) (q4 : Nat) (q5 : Nat) (q6 : Nat) (q7 : Nat) (q8 : Nat) (q9 : Nat) (q10 : Nat) (q11 : Nat) (q12 : Nat) (q13 : Nat) (q14 : Nat) (q15 : Nat) (q16 : Nat) (k_f4 : ClassId) (f4 : Nat → Int32) (k_f5 : ClassId) (q_f5 : Nat → Nat) (k_f6 : ClassId) (q_f6 : Nat → Nat) (k_f7 : ClassId) (f7 : Nat → Int32) (k_f8 : ClassId) (q_f8 : Nat → Nat) (k_f9 : ClassId) (q_f9 : Nat → Nat) (k_f10 : ClassId) (f10 : Nat → Int32) (k_f11 : ClassId) (f11 : Nat → Int32) (k_f12 : ClassId) (f12 : Nat → Int32) (k_f13 : ClassId) (f13 : Nat → Int32) (k_f14 : ClassId) (f14 : Nat → Int32) (k_f15 : ClassId) (f15 : Nat → Int32) (k_f16 : ClassId) (f16 : Nat → Int32) (gz : Nat) (g1 : Nat) (g2 : Nat) (g3 : Nat) (g4 : Nat) (g5 : Nat) (gc : Nat) (gfull : Nat) (gx : Int32) (gway : Int32) (gav : Int32) (ggoal : Int32) (gfound : Nat) (gl : Nat) (gsz : Nat) (g16 : Nat) (g17 : Nat) (k_fgz : ClassId) (k_s1g : ClassId) (q_s1g : Nat → Nat) (k_s2g : ClassId) (s2g : Nat → Int32) (k_s3g : ClassId) (s3g : Nat → Int32) (k_s4g : ClassId) (s4g : Nat → Int32) (k_s5g : ClassId) (s5g : Nat → Int32) (k_hig : ClassId) (hig : Nat → Int32) (k_log : ClassId) (log : Nat → Int32) (k_fbu : ClassId) (fbu : Nat → Int32) (N : Nat) (o : Nat) (az ac : Nat → Nat) (kz : Nat → ClassId) (qs : Nat → Nat) (fz : Nat → Nat → Int32) (htp : tp ≤ 900) (hhs : hs ≤ 1) (hss : ss ≤ 1) (hnc : nc ≤ 3) (hnp : np ≤ 8) (hne : ne ≤ 14) (hst0 : pm1 7 st0) (hgc : gc ≤ 120) (hgfull : gfull ≤ 1) (hgfound : gfound ≤ 1) (hgl : gl ≤ 1) (hgsz : gsz ≤ 4) (hN : o + 121 ≤ N) : Met l yX8_reached vs_C_8_reached ({ frames := 1, cells := 0, slots := 0, locals := 22 }) (va_Pc [.ref xa] (pu_B (dC, dI) ((xg__w xa xtape (nI tp) rd au xdr hy g (nI hs) tg sg (nI ss) rm ti py bu sm (nI nc) (nI np) (nI ne) st0 q4 q5 q6 q7 q8 q9 q10 q11 q12 q13 q14 q15 q16 k_f4 f4 k_f5 (bN 7 q_f5) k_f6 (bN 7 q_f6) k_f7 f7 k_f8 (bN 4 q_f8) k_f9 (bN 2 q_f9) k_f10 f10 k_f11 f11 k_f12 f12 k_f13 f13 k_f14 f14 k_f15 f15 k_f16 f16 gz g1 g2 g3 g4 g5 (nI gc) (nI gfull) gx gway gav ggoal (nI gfound) 120 (nI gl) (nI gsz) g16 g17 k_fgz (zs o 121 az) k_s1g (bN 7 q_s1g) k_s2g s2g k_s3g s3g k_s4g s4g k_s5g s5g k_hig hig k_log log k_fbu fbu) ++ zp 4 16 N az ac kz qs fz) ((xg__t k_f4 k_f5 k_f6 k_f7 k_f8 k_f9 k_f10 k_f11 k_f12 k_f13 k_f14 k_f15 k_f16 k_fgz k_s1g k_s2g k_s3g k_s4g k_s5g k_hig k_log k_fbu) ++ zt N kz) sz)) (va_Qi (fun (r : Int32) (_ : Unit) => True) (fun _ _ => True) (va_A [] sz)) 0 0 (va_A [] sz) := by
  refine Met.ofW (cc := cX8_reached) (maxL := 1) (ret := (some .int)) (by decide) rfl ?_
  intro p e s m args below meth c s₁ B hml hv
  obtain ⟨rfl, rfl, hP, hK, hD0⟩ := hv
  have hx := B.exec
  have hb := B.bytes
  have hr := B.returns
  have hts := atoms_spec (ws := vs_C_8_reached) B.pre
  have v_1 := hts (.fieldLink RX8 100 "ClockReach" "hasShown" "Z") (List.mem_cons_of_mem _ cm_445)
  have v_2 := hts (.fieldLink RX8 42 "ClockReach" "shown" "LClockReach$Graph;") (List.mem_cons_of_mem _ cm_456)
  have hown : s.vm.findClass RX8 = some m.cls := findClass_of_methodNamed B.named
  have hlocks := B.notSynchronized
  have hiX8 : ∀ w ∈ wsX80, w ∈ vs_C_8_reached := fun _ h => List.mem_cons_of_mem _ (cm_X8 h)
  have hD := hD0
  have hA : ∀ q : Nat, s.heap.size ≤ q → va_A [] s.heap.size q := fun _ h => Or.inr h
  have hS : va_S (va_A [] s.heap.size) s.heap s.heap [] := va_S.rf
  have hl := lv_entry ([.ref xa]) (n := 1) (Nat.le_of_ble_eq_true rfl)
  rw [lg_entry_eq]
  generalize (lg_sl ([.ref xa]) ++ List.replicate (1 - (lg_sl ([.ref xa])).length) Slot.unset).toArray = ls at hl ⊢
  have hl : lv_has ls 1 [(0, .ref xa)] := hl
  refine lv_aload_n hx hb eX8_reached_0 rfl (lv_at hl 0 rfl) ?_
  refine va_get (D := (dC, dI)) (ci := 8) (v := .int (nI hs)) (C := RX8) (T := TX8) (N := 16) hx hb hts hiX8 hown hK hP 0 rfl rfl 7 (by decide) v_1 (fun _ h9 => h9) rfl eX8_reached_1 ?_
  refine lv_if_eq (tgt := 17) hx hb eX8_reached_4 (by decide) (fun c_1 => ?_) (fun c_1 => ?_)
  · have c_1 : hs = 0 := (nI_eq (a := hs) (b := 0) (Nat.lt_of_le_of_lt hhs (Nat.le_of_ble_eq_true rfl)) (Nat.le_of_ble_eq_true rfl)).mp c_1
    refine lv_iconst (v := (-1)) hx hb eX8_reached_17 (by decide) ?_
    exact W.iret (v := (-1)) hx hb hr (fun t ht hW => ⟨⟨(-1), (), rfl, trivial, trivial⟩, hS.F ht⟩) hS.2.2 eX8_reached_18
  · have c_1 : ¬ hs = 0 := fun z => c_1 ((nI_eq (a := hs) (b := 0) (Nat.lt_of_le_of_lt hhs (Nat.le_of_ble_eq_true rfl)) (Nat.le_of_ble_eq_true rfl)).mpr z)
    refine lv_aload_n hx hb eX8_reached_7 rfl (lv_at hl 0 rfl) ?_
    refine va_get (D := (dC, dI)) (ci := 8) (v := .ref g) (C := RX8) (T := TX8) (N := 16) hx hb hts hiX8 hown hK hP 0 rfl rfl 6 (by decide) v_2 (fun _ h9 => h9) rfl eX8_reached_8 ?_
    have hPc : va_P (dC, dI) vwCl ([(g, .inr (1, [.ref gz, .ref g1, .ref g2, .ref g3, .ref g4, .ref g5, .int (nI gc), .int (nI gfull), .int gx, .int gway, .int gav, .int ggoal, .int (nI gfound), .int 120, .int (nI gl), .int (nI gsz), .ref g16, .ref g17])), (gz, .inl (k_fgz, 121, .inr (.inr (.inr (.inr (zs o 121 az)))))), (g1, .inl (k_s1g, 120, .inl (bN 7 q_s1g))), (g2, .inl (k_s2g, 120, .inl s2g)), (g3, .inl (k_s3g, 120, .inl s3g)), (g4, .inl (k_s4g, 120, .inl s4g)), (g5, .inl (k_s5g, 120, .inl s5g)), (g16, .inl (k_hig, 5, .inl hig)), (g17, .inl (k_log, 5, .inl log))] ++ zp 4 16 N az ac kz qs fz) _ := hP.part [15, 16, 17, 18, 19, 20, 21, 22, 23] rfl
    have hDc : va_D (fun _ => True) ([(g, .inr (1, [.ref gz, .ref g1, .ref g2, .ref g3, .ref g4, .ref g5, .int (nI gc), .int (nI gfull), .int gx, .int gway, .int gav, .int ggoal, .int (nI gfound), .int 120, .int (nI gl), .int (nI gsz), .ref g16, .ref g17])), (gz, .inl (k_fgz, 121, .inr (.inr (.inr (.inr (zs o 121 az)))))), (g1, .inl (k_s1g, 120, .inl (bN 7 q_s1g))), (g2, .inl (k_s2g, 120, .inl s2g)), (g3, .inl (k_s3g, 120, .inl s3g)), (g4, .inl (k_s4g, 120, .inl s4g)), (g5, .inl (k_s5g, 120, .inl s5g)), (g16, .inl (k_hig, 5, .inl hig)), (g17, .inl (k_log, 5, .inl log))] ++ zp 4 16 N az ac kz qs fz) := hD.part [15, 16, 17, 18, 19, 20, 21, 22, 23] (by decide) rfl
    have hKc : va_K (dC, dI) vwCl ([(k_fgz, .object RX7), (k_s1g, .int), (k_s2g, .int), (k_s3g, .int), (k_s4g, .int), (k_s5g, .int), (k_hig, .int), (k_log, .int)] ++ zt N kz) s := zk_part hK [13, 14, 15, 16, 17, 18, 19, 20] rfl
    refine va_calli (va_runV (As := []) (rest := []) ⟨hx, hb, hml, hown, hts⟩ (c_C_1_allSites_16 l dC dI _ g gz g1 g2 g3 g4 g5 gc gfull gx gway gav ggoal gfound gl gsz g16 g17 k_fgz k_s1g q_s1g k_s2g s2g k_s3g s3g k_s4g s4g k_s5g s5g k_hig hig k_log log N o az ac kz qs fz hgc hgfull hgfound hgl hgsz (by omega)) (cwV 0 hts g_C_8_reached_C_1_allSites_16 rfl rfl rfl (by decide +kernel) ⟨Nat.le_of_ble_eq_true rfl, Nat.le_of_ble_eq_true rfl⟩) ⟨pu_bl, va_recv hK hP (ci := 1) (q0 := 15) rfl rfl, pu_in hPc hKc hDc⟩ rfl rfl hl.1 rfl (lv_room (Nat.le_of_ble_eq_true rfl)) eX8_reached_11 ⟨Nat.le_of_ble_eq_true rfl, Nat.le_of_ble_eq_true rfl⟩) hS (fun q _ h => pu_fr hS hA q h) (pu_fr hS hA) (fun r_2 u t H1 locs ht hvm hw hB hz1 hk1 hS => ?_)
    have hP := pu_keep hP hk1
    clear hPc hDc hKc
    clear hk1 hz1 ht hvm
    generalize H1 = H at hP hS ⊢
    refine lv_goto (tgt := 18) hx hb eX8_reached_14 (by decide) ?_
    exact W.iret (v := r_2) hx hb hr (fun t ht hW => ⟨⟨r_2, (), rfl, trivial, trivial⟩, hS.F ht⟩) hS.2.2 eX8_reached_18
theorem eX8_taken_0 : decode cX8_taken 0 = .ok (.aload_n 0, 1) := by decide +kernel
theorem eX8_taken_1 : decode cX8_taken 1 = .ok (.getfield 100, 3) := by decide +kernel
theorem eX8_taken_4 : decode cX8_taken 4 = .ok (.ifCond .eq 13, 3) := by decide +kernel
theorem eX8_taken_7 : decode cX8_taken 7 = .ok (.aload_n 0, 1) := by decide +kernel
theorem eX8_taken_8 : decode cX8_taken 8 = .ok (.getfield 42, 3) := by decide +kernel
theorem eX8_taken_11 : decode cX8_taken 11 = .ok (.getfield 289, 3) := by decide +kernel
theorem eX8_taken_14 : decode cX8_taken 14 = .ok (.goto 4, 3) := by decide +kernel
theorem eX8_taken_17 : decode cX8_taken 17 = .ok (.iconst (-1), 1) := by decide +kernel
theorem eX8_taken_18 : decode cX8_taken 18 = .ok (.ireturn, 1) := by decide +kernel
abbrev vs_C_8_taken : List Cond := .code yX8_taken cX8_taken 1 (some .int) :: CM
set_option maxHeartbeats 4000000 in
set_option maxRecDepth 100000 in
theorem c_C_8_taken (l : Launch) (dC : Nat → ClassId) (dI : Nat → Nat → Nat) (sz : Nat) (xa : Nat) (xtape : Nat) (tp : Nat) (rd : Nat) (au : Nat) (xdr : Nat) (hy : Nat) (g : Nat) (hs : Nat) (tg : Nat) (sg : Nat) (ss : Nat) (rm : Nat) (ti : Nat) (py : Nat) (bu : Nat) (sm : Nat) (gz : Nat) (g1 : Nat) (g2 : Nat) (g3 : Nat) (g4 : Nat) (g5 : Nat) (gc : Nat) (gfull : Nat) (gx : Int32) (gway : Int32) (gav : Int32) (ggoal : Int32) (gfound : Nat) (gl : Nat) (gsz : Nat) (g16 : Nat) (g17 : Nat) (htp : tp ≤ 900) (hhs : hs ≤ 1) (hss : ss ≤ 1) (hgc : gc ≤ 120) (hgfull : gfull ≤ 1) (hgfound : gfound ≤ 1) (hgl : gl ≤ 1) (hgsz : gsz ≤ 4) : Met l yX8_taken vs_C_8_taken ({ frames := 0, cells := 0, slots := 0, locals := 0 }) (va_Pc [.ref xa] (pu_B (dC, dI) (xg0__w xa xtape (nI tp) rd au xdr hy g (nI hs) tg sg (nI ss) rm ti py bu sm gz g1 g2 g3 g4 g5 (nI gc) (nI gfull) gx gway gav ggoal (nI gfound) 120 (nI gl) (nI gsz) g16 g17) (xg0__t ) sz)) (va_Qi (fun (r : Int32) (_ : Unit) => True) (fun _ _ => True) (va_A [] sz)) 0 0 (va_A [] sz) := by
  refine Met.ofW (cc := cX8_taken) (maxL := 1) (ret := (some .int)) (by decide) rfl ?_
  intro p e s m args below meth c s₁ B hml hv
  obtain ⟨rfl, rfl, hP, hK, hD0⟩ := hv
  have hx := B.exec
  have hb := B.bytes
  have hr := B.returns
  have hts := atoms_spec (ws := vs_C_8_taken) B.pre
  have v_1 := hts (.fieldLink RX8 100 "ClockReach" "hasShown" "Z") (List.mem_cons_of_mem _ cm_445)
  have v_2 := hts (.fieldLink RX8 42 "ClockReach" "shown" "LClockReach$Graph;") (List.mem_cons_of_mem _ cm_456)
  have v_3 := hts (.fieldLink RX8 289 "ClockReach$Graph" "crossed" "I") (List.mem_cons_of_mem _ cm_576)
  have hown : s.vm.findClass RX8 = some m.cls := findClass_of_methodNamed B.named
  have hlocks := B.notSynchronized
  have hiX1 : ∀ w ∈ wsX10, w ∈ vs_C_8_taken := fun _ h => List.mem_cons_of_mem _ (cm_X1 h)
  have hiX8 : ∀ w ∈ wsX80, w ∈ vs_C_8_taken := fun _ h => List.mem_cons_of_mem _ (cm_X8 h)
  have hD := hD0
  have hA : ∀ q : Nat, s.heap.size ≤ q → va_A [] s.heap.size q := fun _ h => Or.inr h
  have hS : va_S (va_A [] s.heap.size) s.heap s.heap [] := va_S.rf
  have hl := lv_entry ([.ref xa]) (n := 1) (Nat.le_of_ble_eq_true rfl)
  rw [lg_entry_eq]
  generalize (lg_sl ([.ref xa]) ++ List.replicate (1 - (lg_sl ([.ref xa])).length) Slot.unset).toArray = ls at hl ⊢
  have hl : lv_has ls 1 [(0, .ref xa)] := hl
  refine lv_aload_n hx hb eX8_taken_0 rfl (lv_at hl 0 rfl) ?_
  refine va_get (D := (dC, dI)) (ci := 8) (v := .int (nI hs)) (C := RX8) (T := TX8) (N := 16) hx hb hts hiX8 hown hK hP 0 rfl rfl 7 (by decide) v_1 (fun _ h9 => h9) rfl eX8_taken_1 ?_
  refine lv_if_eq (tgt := 17) hx hb eX8_taken_4 (by decide) (fun c_1 => ?_) (fun c_1 => ?_)
  · have c_1 : hs = 0 := (nI_eq (a := hs) (b := 0) (Nat.lt_of_le_of_lt hhs (Nat.le_of_ble_eq_true rfl)) (Nat.le_of_ble_eq_true rfl)).mp c_1
    refine lv_iconst (v := (-1)) hx hb eX8_taken_17 (by decide) ?_
    exact W.iret (v := (-1)) hx hb hr (fun t ht hW => ⟨⟨(-1), (), rfl, trivial, trivial⟩, hS.F ht⟩) hS.2.2 eX8_taken_18
  · have c_1 : ¬ hs = 0 := fun z => c_1 ((nI_eq (a := hs) (b := 0) (Nat.lt_of_le_of_lt hhs (Nat.le_of_ble_eq_true rfl)) (Nat.le_of_ble_eq_true rfl)).mpr z)
    refine lv_aload_n hx hb eX8_taken_7 rfl (lv_at hl 0 rfl) ?_
    refine va_get (D := (dC, dI)) (ci := 8) (v := .ref g) (C := RX8) (T := TX8) (N := 16) hx hb hts hiX8 hown hK hP 0 rfl rfl 6 (by decide) v_2 (fun _ h9 => h9) rfl eX8_taken_8 ?_
    refine va_get (D := (dC, dI)) (ci := 1) (v := .int gx) (C := RX1) (T := TX1) (N := 18) hx hb hts hiX1 hown hK hP 1 rfl rfl 8 (by decide) v_3 (fun _ h9 => h9) rfl eX8_taken_11 ?_
    refine lv_goto (tgt := 18) hx hb eX8_taken_14 (by decide) ?_
    exact W.iret (v := gx) hx hb hr (fun t ht hW => ⟨⟨gx, (), rfl, trivial, trivial⟩, hS.F ht⟩) hS.2.2 eX8_taken_18
theorem eX8_canReach_0 : decode cX8_canReach 0 = .ok (.aload_n 0, 1) := by decide +kernel
theorem eX8_canReach_1 : decode cX8_canReach 1 = .ok (.getfield 46, 3) := by decide +kernel
theorem eX8_canReach_4 : decode cX8_canReach 4 = .ok (.aload_n 0, 1) := by decide +kernel
theorem eX8_canReach_5 : decode cX8_canReach 5 = .ok (.getfield 23, 3) := by decide +kernel
theorem eX8_canReach_8 : decode cX8_canReach 8 = .ok (.iconst 2, 1) := by decide +kernel
theorem eX8_canReach_9 : decode cX8_canReach 9 = .ok (.iconst 1, 1) := by decide +kernel
theorem eX8_canReach_10 : decode cX8_canReach 10 = .ok (.aload_n 0, 1) := by decide +kernel
theorem eX8_canReach_11 : decode cX8_canReach 11 = .ok (.getfield 23, 3) := by decide +kernel
theorem eX8_canReach_14 : decode cX8_canReach 14 = .ok (.getfield 116, 3) := by decide +kernel
theorem eX8_canReach_17 : decode cX8_canReach 17 = .ok (.iconst 1, 1) := by decide +kernel
theorem eX8_canReach_18 : decode cX8_canReach 18 = .ok (.iadd, 1) := by decide +kernel
theorem eX8_canReach_19 : decode cX8_canReach 19 = .ok (.invokevirtual 212, 3) := by decide +kernel
theorem eX8_canReach_22 : decode cX8_canReach 22 = .ok (.aload_n 0, 1) := by decide +kernel
theorem eX8_canReach_23 : decode cX8_canReach 23 = .ok (.getfield 46, 3) := by decide +kernel
theorem eX8_canReach_26 : decode cX8_canReach 26 = .ok (.iload_n 1, 1) := by decide +kernel
theorem eX8_canReach_27 : decode cX8_canReach 27 = .ok (.putfield 307, 3) := by decide +kernel
theorem eX8_canReach_30 : decode cX8_canReach 30 = .ok (.aload_n 0, 1) := by decide +kernel
theorem eX8_canReach_31 : decode cX8_canReach 31 = .ok (.getfield 46, 3) := by decide +kernel
theorem eX8_canReach_34 : decode cX8_canReach 34 = .ok (.iload_n 2, 1) := by decide +kernel
theorem eX8_canReach_35 : decode cX8_canReach 35 = .ok (.putfield 317, 3) := by decide +kernel
theorem eX8_canReach_38 : decode cX8_canReach 38 = .ok (.aload_n 0, 1) := by decide +kernel
theorem eX8_canReach_39 : decode cX8_canReach 39 = .ok (.aload_n 0, 1) := by decide +kernel
theorem eX8_canReach_40 : decode cX8_canReach 40 = .ok (.getfield 46, 3) := by decide +kernel
theorem eX8_canReach_43 : decode cX8_canReach 43 = .ok (.invokevirtual 216, 3) := by decide +kernel
theorem eX8_canReach_46 : decode cX8_canReach 46 = .ok (.aload_n 0, 1) := by decide +kernel
theorem eX8_canReach_47 : decode cX8_canReach 47 = .ok (.getfield 46, 3) := by decide +kernel
theorem eX8_canReach_50 : decode cX8_canReach 50 = .ok (.aload_n 0, 1) := by decide +kernel
theorem eX8_canReach_51 : decode cX8_canReach 51 = .ok (.getfield 23, 3) := by decide +kernel
theorem eX8_canReach_54 : decode cX8_canReach 54 = .ok (.invokevirtual 220, 3) := by decide +kernel
theorem eX8_canReach_57 : decode cX8_canReach 57 = .ok (.aload_n 0, 1) := by decide +kernel
theorem eX8_canReach_58 : decode cX8_canReach 58 = .ok (.getfield 46, 3) := by decide +kernel
theorem eX8_canReach_61 : decode cX8_canReach 61 = .ok (.getfield 310, 3) := by decide +kernel
theorem eX8_canReach_64 : decode cX8_canReach 64 = .ok (.ireturn, 1) := by decide +kernel
abbrev vs_C_8_canReach : List Cond := .code yX8_canReach cX8_canReach 3 (some .boolean) :: CM
theorem g_C_8_canReach_C_1_plan_16 : GoodIn vs_C_8_canReach (wsV RX8 212 RX1 yX1_plan vs_C_1_plan_16) := cm_gV cm_516 cm_517 cm_518 cm_113 cm_75
theorem g_C_8_canReach_C_8_beginAtZero_16 : GoodIn vs_C_8_canReach (wsV RX8 216 RX8 yX8_beginAtZero vs_C_8_beginAtZero_16) := cm_gV cm_519 cm_520 cm_521 cm_427 cm_522
theorem g_C_8_canReach_C_1_grow_16 : GoodIn vs_C_8_canReach (wsV RX8 220 RX1 yX1_grow vs_C_1_grow_16) := cm_gV cm_527 cm_528 cm_529 cm_113 cm_120
set_option maxHeartbeats 4000000 in
set_option maxRecDepth 100000 in
theorem c_C_8_canReach (l : Launch) (dC : Nat → ClassId) (dI : Nat → Nat → Nat) (sz : Nat) (xa : Nat) (xtape : Nat) (tp : Nat) (rd : Nat) (au : Nat) (xdr : Nat) (hy : Nat) (g : Nat) (hs : Nat) (tg : Nat) (sg : Nat) (ss : Nat) (rm : Nat) (ti : Nat) (py : Nat) (bu : Nat) (sm : Nat) (nc : Nat) (np : Nat) (ne : Nat) (st0 : Nat) (q4 : Nat) (q5 : Nat) (q6 : Nat) (q7 : Nat) (q8 : Nat) (q9 : Nat) (q10 : Nat) (q11 : Nat) (q12 : Nat) (q13 : Nat) (q14 : Nat) (q15 : Nat) (q16 : Nat) (k_f4 : ClassId) (f4 : Nat → Int32) (k_f5 : ClassId) (q_f5 : Nat → Nat) (k_f6 : ClassId) (q_f6 : Nat → Nat) (k_f7 : ClassId) (f7 : Nat → Int32) (k_f8 : ClassId) (q_f8 : Nat → Nat) (k_f9 : ClassId) (q_f9 : Nat → Nat) (k_f10 : ClassId) (f10 : Nat → Int32) (k_f11 : ClassId) (f11 : Nat → Int32) (k_f12 : ClassId) (f12 : Nat → Int32) (k_f13 : ClassId) (f13 : Nat → Int32) (k_f14 : ClassId) (f14 : Nat → Int32) (k_f15 : ClassId) (f15 : Nat → Int32) (k_f16 : ClassId) (f16 : Nat → Int32) (tz : Nat) (t1 : Nat) (t2 : Nat) (t3 : Nat) (t4 : Nat) (t5 : Nat) (tc : Nat) (tfull : Nat) (tx : Int32) (tway : Int32) (tav : Int32) (tgoal : Int32) (tfound : Nat) (tl : Nat) (tsz : Nat) (t16 : Nat) (t17 : Nat) (k_ftz : ClassId) (k_s1t : ClassId) (q_s1t : Nat → Nat) (k_s2t : ClassId) (s2t : Nat → Int32) (k_s3t : ClassId) (s3t : Nat → Int32) (k_s4t : ClassId) (s4t : Nat → Int32) (k_s5t : ClassId) (s5t : Nat → Int32) (k_hit : ClassId) (hit : Nat → Int32) (k_lot : ClassId) (lot : Nat → Int32) (k_fbu : ClassId) (fbu : Nat → Int32) (N : Nat) (o : Nat) (az ac : Nat → Nat) (kz : Nat → ClassId) (qs : Nat → Nat) (fz : Nat → Nat → Int32) (p0 : Int32) (p1 : Int32) (htp : tp ≤ 900) (hhs : hs ≤ 1) (hss : ss ≤ 1) (hnc : nc ≤ 3) (hnp : np ≤ 8) (hne : ne ≤ 14) (hst0 : st0 ≤ 7) (htc : tc ≤ 120) (htfull : tfull ≤ 1) (htfound : tfound ≤ 1) (htl : tl ≤ 1) (htsz : tsz ≤ 4) (hN : o + 121 ≤ N) (hq0 : gz_ok tc s2t s3t s4t) : Met l yX8_canReach vs_C_8_canReach ({ frames := 5, cells := 0, slots := 0, locals := 125 }) (va_Pc [.ref xa, .int p0, .int p1] (pu_B (dC, dI) ((xtr__w xa xtape (nI tp) rd au xdr hy g (nI hs) tg sg (nI ss) rm ti py bu sm (nI nc) (nI np) (nI ne) (nI st0) q4 q5 q6 q7 q8 q9 q10 q11 q12 q13 q14 q15 q16 k_f4 f4 k_f5 (bN 7 q_f5) k_f6 (bN 7 q_f6) k_f7 f7 k_f8 (bN 4 q_f8) k_f9 (bN 2 q_f9) k_f10 f10 k_f11 f11 k_f12 f12 k_f13 f13 k_f14 f14 k_f15 f15 k_f16 f16 tz t1 t2 t3 t4 t5 (nI tc) (nI tfull) tx tway tav tgoal (nI tfound) 120 (nI tl) (nI tsz) t16 t17 k_ftz (zs o 121 az) k_s1t (bN 7 q_s1t) k_s2t s2t k_s3t s3t k_s4t s4t k_s5t s5t k_hit hit k_lot lot k_fbu fbu) ++ zp 4 16 N az ac kz qs fz) ((xtr__t k_f4 k_f5 k_f6 k_f7 k_f8 k_f9 k_f10 k_f11 k_f12 k_f13 k_f14 k_f15 k_f16 k_ftz k_s1t k_s2t k_s3t k_s4t k_s5t k_hit k_lot k_fbu) ++ zt N kz) sz)) (va_Qi (fun (r : Int32) (_ : Unit) => ∃ v : Nat, v ≤ 1 ∧ r = nI v) (fun _ t => ∃ (z_s1t : Nat → Nat) (z_s2t : Nat → Int32) (z_s3t : Nat → Int32) (z_s4t : Nat → Int32) (z_s5t : Nat → Int32) (z_hit : Nat → Int32) (z_lot : Nat → Int32) (z_fbu : Nat → Int32) (z_tav : Int32) (z_tgoal : Int32) (z_tfound : Nat) (z_tl : Nat) (z_tsz : Nat) (z_tc : Nat) (z_tfull : Nat) (z_tx : Int32) (z_tway : Int32) (z_fz : Nat → Nat → Int32) (z_qs : Nat → Nat), pu_E (dC, dI) ((xtr__w xa xtape (nI tp) rd au xdr hy g (nI hs) tg sg (nI ss) rm ti py bu sm (nI nc) (nI np) (nI ne) (nI st0) q4 q5 q6 q7 q8 q9 q10 q11 q12 q13 q14 q15 q16 k_f4 f4 k_f5 (bN 7 q_f5) k_f6 (bN 7 q_f6) k_f7 f7 k_f8 (bN 4 q_f8) k_f9 (bN 2 q_f9) k_f10 f10 k_f11 f11 k_f12 f12 k_f13 f13 k_f14 f14 k_f15 f15 k_f16 f16 tz t1 t2 t3 t4 t5 (nI z_tc) (nI z_tfull) z_tx z_tway z_tav z_tgoal (nI z_tfound) 120 (nI z_tl) (nI z_tsz) t16 t17 k_ftz (zs o 121 az) k_s1t (bN 7 z_s1t) k_s2t z_s2t k_s3t z_s3t k_s4t z_s4t k_s5t z_s5t k_hit z_hit k_lot z_lot k_fbu z_fbu) ++ zp 4 16 N az ac kz z_qs z_fz) ((xtr__t k_f4 k_f5 k_f6 k_f7 k_f8 k_f9 k_f10 k_f11 k_f12 k_f13 k_f14 k_f15 k_f16 k_ftz k_s1t k_s2t k_s3t k_s4t k_s5t k_hit k_lot k_fbu) ++ zt N kz) (va_A (((xtr__w xa xtape (nI tp) rd au xdr hy g (nI hs) tg sg (nI ss) rm ti py bu sm (nI nc) (nI np) (nI ne) (nI st0) q4 q5 q6 q7 q8 q9 q10 q11 q12 q13 q14 q15 q16 k_f4 f4 k_f5 (bN 7 q_f5) k_f6 (bN 7 q_f6) k_f7 f7 k_f8 (bN 4 q_f8) k_f9 (bN 2 q_f9) k_f10 f10 k_f11 f11 k_f12 f12 k_f13 f13 k_f14 f14 k_f15 f15 k_f16 f16 tz t1 t2 t3 t4 t5 (nI tc) (nI tfull) tx tway tav tgoal (nI tfound) 120 (nI tl) (nI tsz) t16 t17 k_ftz (zs o 121 az) k_s1t (bN 7 q_s1t) k_s2t s2t k_s3t s3t k_s4t s4t k_s5t s5t k_hit hit k_lot lot k_fbu fbu) ++ zp 4 16 N az ac kz qs fz)) sz) t ∧ (z_tfound ≤ 1) ∧ (z_tl ≤ 1) ∧ (z_tsz ≤ 4) ∧ (z_tc ≤ 120) ∧ (z_tfull ≤ 1) ∧ (gz_ok z_tc z_s2t z_s3t z_s4t)) (va_A (((xtr__w xa xtape (nI tp) rd au xdr hy g (nI hs) tg sg (nI ss) rm ti py bu sm (nI nc) (nI np) (nI ne) (nI st0) q4 q5 q6 q7 q8 q9 q10 q11 q12 q13 q14 q15 q16 k_f4 f4 k_f5 (bN 7 q_f5) k_f6 (bN 7 q_f6) k_f7 f7 k_f8 (bN 4 q_f8) k_f9 (bN 2 q_f9) k_f10 f10 k_f11 f11 k_f12 f12 k_f13 f13 k_f14 f14 k_f15 f15 k_f16 f16 tz t1 t2 t3 t4 t5 (nI tc) (nI tfull) tx tway tav tgoal (nI tfound) 120 (nI tl) (nI tsz) t16 t17 k_ftz (zs o 121 az) k_s1t (bN 7 q_s1t) k_s2t s2t k_s3t s3t k_s4t s4t k_s5t s5t k_hit hit k_lot lot k_fbu fbu) ++ zp 4 16 N az ac kz qs fz)) sz)) 0 0 (va_A (((xtr__w xa xtape (nI tp) rd au xdr hy g (nI hs) tg sg (nI ss) rm ti py bu sm (nI nc) (nI np) (nI ne) (nI st0) q4 q5 q6 q7 q8 q9 q10 q11 q12 q13 q14 q15 q16 k_f4 f4 k_f5 (bN 7 q_f5) k_f6 (bN 7 q_f6) k_f7 f7 k_f8 (bN 4 q_f8) k_f9 (bN 2 q_f9) k_f10 f10 k_f11 f11 k_f12 f12 k_f13 f13 k_f14 f14 k_f15 f15 k_f16 f16 tz t1 t2 t3 t4 t5 (nI tc) (nI tfull) tx tway tav tgoal (nI tfound) 120 (nI tl) (nI tsz) t16 t17 k_ftz (zs o 121 az) k_s1t (bN 7 q_s1t) k_s2t s2t k_s3t s3t k_s4t s4t k_s5t s5t k_hit hit k_lot lot k_fbu fbu) ++ zp 4 16 N az ac kz qs fz)) sz) := by
  refine Met.ofW (cc := cX8_canReach) (maxL := 3) (ret := (some .boolean)) (by decide) rfl ?_
  intro p e s m args below meth c s₁ B hml hv
  obtain ⟨rfl, rfl, hP, hK, hD0⟩ := hv
  have hx := B.exec
  have hb := B.bytes
  have hr := B.returns
  have hts := atoms_spec (ws := vs_C_8_canReach) B.pre
  have v_1 := hts (.fieldLink RX8 46 "ClockReach" "tried" "LClockReach$Graph;") (List.mem_cons_of_mem _ cm_590)
  have v_2 := hts (.fieldLink RX8 23 "ClockReach" "model" "LClockReach$Automaton;") (List.mem_cons_of_mem _ cm_434)
  have v_3 := hts (.fieldLink RX8 116 "ClockReach$Automaton" "clocks" "I") (List.mem_cons_of_mem _ cm_453)
  have v_9 := hts (.fieldLink RX8 307 "ClockReach$Graph" "goal" "I") (List.mem_cons_of_mem _ cm_591)
  have v_10 := hts (.fieldLink RX8 317 "ClockReach$Graph" "avoided" "I") (List.mem_cons_of_mem _ cm_598)
  have v_20 := hts (.fieldLink RX8 310 "ClockReach$Graph" "found" "Z") (List.mem_cons_of_mem _ cm_592)
  have hown : s.vm.findClass RX8 = some m.cls := findClass_of_methodNamed B.named
  have hlocks := B.notSynchronized
  have hiX0 : ∀ w ∈ wsX00, w ∈ vs_C_8_canReach := fun _ h => List.mem_cons_of_mem _ (cm_X0 h)
  have hiX1 : ∀ w ∈ wsX10, w ∈ vs_C_8_canReach := fun _ h => List.mem_cons_of_mem _ (cm_X1 h)
  have hiX8 : ∀ w ∈ wsX80, w ∈ vs_C_8_canReach := fun _ h => List.mem_cons_of_mem _ (cm_X8 h)
  have hD := hD0.self (sz := s.heap.size)
  generalize hAe : va_A (((xtr__w xa xtape (nI tp) rd au xdr hy g (nI hs) tg sg (nI ss) rm ti py bu sm (nI nc) (nI np) (nI ne) (nI st0) q4 q5 q6 q7 q8 q9 q10 q11 q12 q13 q14 q15 q16 k_f4 f4 k_f5 (bN 7 q_f5) k_f6 (bN 7 q_f6) k_f7 f7 k_f8 (bN 4 q_f8) k_f9 (bN 2 q_f9) k_f10 f10 k_f11 f11 k_f12 f12 k_f13 f13 k_f14 f14 k_f15 f15 k_f16 f16 tz t1 t2 t3 t4 t5 (nI tc) (nI tfull) tx tway tav tgoal (nI tfound) 120 (nI tl) (nI tsz) t16 t17 k_ftz (zs o 121 az) k_s1t (bN 7 q_s1t) k_s2t s2t k_s3t s3t k_s4t s4t k_s5t s5t k_hit hit k_lot lot k_fbu fbu) ++ zp 4 16 N az ac kz qs fz)) s.heap.size = A at hD ⊢
  have hA : ∀ q : Nat, s.heap.size ≤ q → A q := fun q h => by rw [← hAe]; exact Or.inr h
  have hS : va_S A s.heap s.heap [] := va_S.rf
  have hl := lv_entry ([.ref xa, .int p0, .int p1]) (n := 3) (Nat.le_of_ble_eq_true rfl)
  rw [lg_entry_eq]
  generalize (lg_sl ([.ref xa, .int p0, .int p1]) ++ List.replicate (3 - (lg_sl ([.ref xa, .int p0, .int p1])).length) Slot.unset).toArray = ls at hl ⊢
  have hl : lv_has ls 3 [(0, .ref xa), (1, .int p0), (2, .int p1)] := hl
  refine lv_aload_n hx hb eX8_canReach_0 rfl (lv_at hl 0 rfl) ?_
  refine va_get (D := (dC, dI)) (ci := 8) (v := .ref tg) (C := RX8) (T := TX8) (N := 16) hx hb hts hiX8 hown hK hP 0 rfl rfl 8 (by decide) v_1 (fun _ h9 => h9) rfl eX8_canReach_1 ?_
  refine lv_aload_n hx hb eX8_canReach_4 rfl (lv_at hl 0 rfl) ?_
  refine va_get (D := (dC, dI)) (ci := 8) (v := .ref au) (C := RX8) (T := TX8) (N := 16) hx hb hts hiX8 hown hK hP 0 rfl rfl 3 (by decide) v_2 (fun _ h9 => h9) rfl eX8_canReach_5 ?_
  refine lv_iconst (v := 2) hx hb eX8_canReach_8 (by decide) ?_
  refine lv_iconst (v := 1) hx hb eX8_canReach_9 (by decide) ?_
  refine lv_aload_n hx hb eX8_canReach_10 rfl (lv_at hl 0 rfl) ?_
  refine va_get (D := (dC, dI)) (ci := 8) (v := .ref au) (C := RX8) (T := TX8) (N := 16) hx hb hts hiX8 hown hK hP 0 rfl rfl 3 (by decide) v_2 (fun _ h9 => h9) rfl eX8_canReach_11 ?_
  refine va_get (D := (dC, dI)) (ci := 0) (v := .int (nI nc)) (C := RX0) (T := TX0) (N := 17) hx hb hts hiX0 hown hK hP 1 rfl rfl 0 (by decide) v_3 (fun _ h9 => h9) rfl eX8_canReach_14 ?_
  refine lv_iconst (v := 1) hx hb eX8_canReach_17 (by decide) ?_
  refine lv_iadd hx hb eX8_canReach_18 ?_
  refine lv_topi (fun y_1 ey_1 => ?_)
  obtain rfl : y_1 = (nI (nc + 1)) := ey_1.trans (nI_add nc 1)
  have hPc : va_P (dC, dI) vwCl ([(tg, .inr (1, [.ref tz, .ref t1, .ref t2, .ref t3, .ref t4, .ref t5, .int (nI tc), .int (nI tfull), .int tx, .int tway, .int tav, .int tgoal, .int (nI tfound), .int 120, .int (nI tl), .int (nI tsz), .ref t16, .ref t17])), (tz, .inl (k_ftz, 121, .inr (.inr (.inr (.inr (zs o 121 az)))))), (t1, .inl (k_s1t, 120, .inl (bN 7 q_s1t))), (t2, .inl (k_s2t, 120, .inl s2t)), (t3, .inl (k_s3t, 120, .inl s3t)), (t4, .inl (k_s4t, 120, .inl s4t)), (t5, .inl (k_s5t, 120, .inl s5t)), (t16, .inl (k_hit, 5, .inl hit)), (t17, .inl (k_lot, 5, .inl lot)), (au, .inr (0, [.int (nI nc), .int (nI np), .int (nI ne), .int (nI st0), .ref q4, .ref q5, .ref q6, .ref q7, .ref q8, .ref q9, .ref q10, .ref q11, .ref q12, .ref q13, .ref q14, .ref q15, .ref q16])), (q4, .inl (k_f4, 8, .inl f4)), (q5, .inl (k_f5, 14, .inl (bN 7 q_f5))), (q6, .inl (k_f6, 14, .inl (bN 7 q_f6))), (q7, .inl (k_f7, 14, .inl f7)), (q8, .inl (k_f8, 22, .inl (bN 4 q_f8))), (q9, .inl (k_f9, 88, .inl (bN 2 q_f9))), (q10, .inl (k_f10, 88, .inl f10)), (q11, .inl (k_f11, 88, .inl f11)), (q12, .inl (k_f12, 88, .inl f12)), (q13, .inl (k_f13, 88, .inl f13)), (q14, .inl (k_f14, 4, .inl f14)), (q15, .inl (k_f15, 4, .inl f15)), (q16, .inl (k_f16, 4, .inl f16))] ++ zp 4 16 N az ac kz qs fz) _ := hP.part [15, 16, 17, 18, 19, 20, 21, 22, 23, 1, 2, 3, 4, 5, 6, 7, 8, 9, 10, 11, 12, 13, 14] rfl
  have hDc : va_D A ([(tg, .inr (1, [.ref tz, .ref t1, .ref t2, .ref t3, .ref t4, .ref t5, .int (nI tc), .int (nI tfull), .int tx, .int tway, .int tav, .int tgoal, .int (nI tfound), .int 120, .int (nI tl), .int (nI tsz), .ref t16, .ref t17])), (tz, .inl (k_ftz, 121, .inr (.inr (.inr (.inr (zs o 121 az)))))), (t1, .inl (k_s1t, 120, .inl (bN 7 q_s1t))), (t2, .inl (k_s2t, 120, .inl s2t)), (t3, .inl (k_s3t, 120, .inl s3t)), (t4, .inl (k_s4t, 120, .inl s4t)), (t5, .inl (k_s5t, 120, .inl s5t)), (t16, .inl (k_hit, 5, .inl hit)), (t17, .inl (k_lot, 5, .inl lot)), (au, .inr (0, [.int (nI nc), .int (nI np), .int (nI ne), .int (nI st0), .ref q4, .ref q5, .ref q6, .ref q7, .ref q8, .ref q9, .ref q10, .ref q11, .ref q12, .ref q13, .ref q14, .ref q15, .ref q16])), (q4, .inl (k_f4, 8, .inl f4)), (q5, .inl (k_f5, 14, .inl (bN 7 q_f5))), (q6, .inl (k_f6, 14, .inl (bN 7 q_f6))), (q7, .inl (k_f7, 14, .inl f7)), (q8, .inl (k_f8, 22, .inl (bN 4 q_f8))), (q9, .inl (k_f9, 88, .inl (bN 2 q_f9))), (q10, .inl (k_f10, 88, .inl f10)), (q11, .inl (k_f11, 88, .inl f11)), (q12, .inl (k_f12, 88, .inl f12)), (q13, .inl (k_f13, 88, .inl f13)), (q14, .inl (k_f14, 4, .inl f14)), (q15, .inl (k_f15, 4, .inl f15)), (q16, .inl (k_f16, 4, .inl f16))] ++ zp 4 16 N az ac kz qs fz) := hD.part [15, 16, 17, 18, 19, 20, 21, 22, 23, 1, 2, 3, 4, 5, 6, 7, 8, 9, 10, 11, 12, 13, 14] (by decide) rfl
  have hKc : va_K (dC, dI) vwCl ([(k_ftz, .object RX7), (k_s1t, .int), (k_s2t, .int), (k_s3t, .int), (k_s4t, .int), (k_s5t, .int), (k_hit, .int), (k_lot, .int), (k_f4, .boolean), (k_f5, .int), (k_f6, .int), (k_f7, .int), (k_f8, .int), (k_f9, .int), (k_f10, .int), (k_f11, .int), (k_f12, .int), (k_f13, .int), (k_f14, .int), (k_f15, .int), (k_f16, .int)] ++ zt N kz) s := zk_part hK [13, 14, 15, 16, 17, 18, 19, 20, 0, 1, 2, 3, 4, 5, 6, 7, 8, 9, 10, 11, 12] rfl
  have hFc := pu_free hDc hS hA
  refine va_callv (va_runV (As := [.ref au, .int 2, .int 1, .int (nI (nc + 1))]) (rest := []) ⟨hx, hb, hml, hown, hts⟩ (c_C_1_plan_16 l dC dI _ tg tz t1 t2 t3 t4 t5 tc tfull tx tway tav tgoal tfound tl tsz t16 t17 k_ftz k_s1t q_s1t k_s2t s2t k_s3t s3t k_s4t s4t k_s5t s5t k_hit hit k_lot lot au nc np ne (nI st0) q4 q5 q6 q7 q8 q9 q10 q11 q12 q13 q14 q15 q16 k_f4 f4 k_f5 q_f5 k_f6 q_f6 k_f7 f7 k_f8 q_f8 k_f9 q_f9 k_f10 f10 k_f11 f11 k_f12 f12 k_f13 f13 k_f14 f14 k_f15 f15 k_f16 f16 N o az ac kz qs fz 2 1 (nc + 1) htc htfull htfound htl htsz hnc hnp hne (Or.inr ⟨st0, hst0, rfl⟩) (by omega) (Nat.le_of_ble_eq_true rfl) (by omega)) (cwV 4 hts g_C_8_canReach_C_1_plan_16 rfl rfl rfl (by decide +kernel) ⟨Nat.le_of_ble_eq_true rfl, Nat.le_of_ble_eq_true rfl⟩) ⟨pu_bl, va_recv hK hP (ci := 1) (q0 := 15) rfl rfl, pu_in hPc hKc hDc⟩ rfl rfl hl.1 rfl (lv_room (Nat.le_of_ble_eq_true rfl)) eX8_canReach_19 ⟨Nat.le_of_ble_eq_true rfl, Nat.le_of_ble_eq_true rfl⟩) hS (fun q _ h => hFc q h) hFc (fun u t H1 locs ht hvm hw hB hz1 hk1 hS => ?_)
  obtain ⟨z_fhi_3, z_flo_4, z_gav_5, z_ggoal_6, z_gfound_7, z_gl_8, z_gsz_9, z_gway_10, ⟨hP1, -, hD1⟩, hz_gfound_7, hz_gl_8, hz_gsz_9⟩ := hB
  rw [ht] at hP1
  obtain ⟨hP, hD⟩ := pl_put (X' := (xtr__w xa xtape (nI tp) rd au xdr hy g (nI hs) tg sg (nI ss) rm ti py bu sm (nI nc) (nI np) (nI ne) (nI st0) q4 q5 q6 q7 q8 q9 q10 q11 q12 q13 q14 q15 q16 k_f4 f4 k_f5 (bN 7 q_f5) k_f6 (bN 7 q_f6) k_f7 f7 k_f8 (bN 4 q_f8) k_f9 (bN 2 q_f9) k_f10 f10 k_f11 f11 k_f12 f12 k_f13 f13 k_f14 f14 k_f15 f15 k_f16 f16 tz t1 t2 t3 t4 t5 (nI tc) (nI tfull) tx z_gway_10 z_gav_5 z_ggoal_6 (nI z_gfound_7) 120 (nI z_gl_8) (nI z_gsz_9) t16 t17 k_ftz (zs o 121 az) k_s1t (bN 7 q_s1t) k_s2t s2t k_s3t s3t k_s4t s4t k_s5t s5t k_hit z_fhi_3 k_lot z_flo_4 k_fbu fbu)) (w1 := (gs1__w tg tz t1 t2 t3 t4 t5 (nI tc) (nI tfull) tx z_gway_10 z_gav_5 z_ggoal_6 (nI z_gfound_7) 120 (nI z_gl_8) (nI z_gsz_9) t16 t17 k_ftz (zs o 121 az) k_s1t (bN 7 q_s1t) k_s2t s2t k_s3t s3t k_s4t s4t k_s5t s5t k_hit z_fhi_3 k_lot z_flo_4 au (nI nc) (nI np) (nI ne) (nI st0) q4 q5 q6 q7 q8 q9 q10 q11 q12 q13 q14 q15 q16 k_f4 f4 k_f5 (bN 7 q_f5) k_f6 (bN 7 q_f6) k_f7 f7 k_f8 (bN 4 q_f8) k_f9 (bN 2 q_f9) k_f10 f10 k_f11 f11 k_f12 f12 k_f13 f13 k_f14 f14 k_f15 f15 k_f16 f16)) hP hD [15, 16, 17, 18, 19, 20, 21, 22, 23, 1, 2, 3, 4, 5, 6, 7, 8, 9, 10, 11, 12, 13, 14] rfl hk1 hP1 rfl zp_f rfl
  clear hP1 hD1 hFc
  clear hPc hDc hKc
  clear hk1 hz1 ht hvm
  generalize H1 = H at hP hS ⊢
  refine lv_aload_n hx hb eX8_canReach_22 rfl (lv_at hl 0 rfl) ?_
  refine va_get (D := (dC, dI)) (ci := 8) (v := .ref tg) (C := RX8) (T := TX8) (N := 16) hx hb hts hiX8 hown hK hP 0 rfl rfl 8 (by decide) v_1 (fun _ h9 => h9) rfl eX8_canReach_23 ?_
  refine lv_iload_n hx hb eX8_canReach_26 rfl (lv_at hl 1 rfl) ?_
  refine va_put (D := (dC, dI)) (ci := 1) (v := .int p0) (ty := .int) (C := RX1) (T := TX1) (N := 18) hx hb hts hiX1 tyX1 tyX1_ok nmX1 hown hK hP hD hS 15 rfl rfl 11 (by decide) v_9 (fun _ h9 => h9) rfl (by decide +kernel) rfl rfl (Nat.le_of_ble_eq_true rfl) eX8_canReach_27 (fun H locs hP hD hS => ?_)
  have hP : va_P (dC, dI) vwCl ((xtr__w xa xtape (nI tp) rd au xdr hy g (nI hs) tg sg (nI ss) rm ti py bu sm (nI nc) (nI np) (nI ne) (nI st0) q4 q5 q6 q7 q8 q9 q10 q11 q12 q13 q14 q15 q16 k_f4 f4 k_f5 (bN 7 q_f5) k_f6 (bN 7 q_f6) k_f7 f7 k_f8 (bN 4 q_f8) k_f9 (bN 2 q_f9) k_f10 f10 k_f11 f11 k_f12 f12 k_f13 f13 k_f14 f14 k_f15 f15 k_f16 f16 tz t1 t2 t3 t4 t5 (nI tc) (nI tfull) tx z_gway_10 z_gav_5 p0 (nI z_gfound_7) 120 (nI z_gl_8) (nI z_gsz_9) t16 t17 k_ftz (zs o 121 az) k_s1t (bN 7 q_s1t) k_s2t s2t k_s3t s3t k_s4t s4t k_s5t s5t k_hit z_fhi_3 k_lot z_flo_4 k_fbu fbu) ++ zp 4 16 N az ac kz qs fz) H := hP
  have hD : va_D A ((xtr__w xa xtape (nI tp) rd au xdr hy g (nI hs) tg sg (nI ss) rm ti py bu sm (nI nc) (nI np) (nI ne) (nI st0) q4 q5 q6 q7 q8 q9 q10 q11 q12 q13 q14 q15 q16 k_f4 f4 k_f5 (bN 7 q_f5) k_f6 (bN 7 q_f6) k_f7 f7 k_f8 (bN 4 q_f8) k_f9 (bN 2 q_f9) k_f10 f10 k_f11 f11 k_f12 f12 k_f13 f13 k_f14 f14 k_f15 f15 k_f16 f16 tz t1 t2 t3 t4 t5 (nI tc) (nI tfull) tx z_gway_10 z_gav_5 p0 (nI z_gfound_7) 120 (nI z_gl_8) (nI z_gsz_9) t16 t17 k_ftz (zs o 121 az) k_s1t (bN 7 q_s1t) k_s2t s2t k_s3t s3t k_s4t s4t k_s5t s5t k_hit z_fhi_3 k_lot z_flo_4 k_fbu fbu) ++ zp 4 16 N az ac kz qs fz) := hD
  refine lv_aload_n hx hb eX8_canReach_30 rfl (lv_at hl 0 rfl) ?_
  refine va_get (D := (dC, dI)) (ci := 8) (v := .ref tg) (C := RX8) (T := TX8) (N := 16) hx hb hts hiX8 hown hK hP 0 rfl rfl 8 (by decide) v_1 (fun _ h9 => h9) rfl eX8_canReach_31 ?_
  refine lv_iload_n hx hb eX8_canReach_34 rfl (lv_at hl 2 rfl) ?_
  refine va_put (D := (dC, dI)) (ci := 1) (v := .int p1) (ty := .int) (C := RX1) (T := TX1) (N := 18) hx hb hts hiX1 tyX1 tyX1_ok nmX1 hown hK hP hD hS 15 rfl rfl 10 (by decide) v_10 (fun _ h9 => h9) rfl (by decide +kernel) rfl rfl (Nat.le_of_ble_eq_true rfl) eX8_canReach_35 (fun H locs hP hD hS => ?_)
  have hP : va_P (dC, dI) vwCl ((xtr__w xa xtape (nI tp) rd au xdr hy g (nI hs) tg sg (nI ss) rm ti py bu sm (nI nc) (nI np) (nI ne) (nI st0) q4 q5 q6 q7 q8 q9 q10 q11 q12 q13 q14 q15 q16 k_f4 f4 k_f5 (bN 7 q_f5) k_f6 (bN 7 q_f6) k_f7 f7 k_f8 (bN 4 q_f8) k_f9 (bN 2 q_f9) k_f10 f10 k_f11 f11 k_f12 f12 k_f13 f13 k_f14 f14 k_f15 f15 k_f16 f16 tz t1 t2 t3 t4 t5 (nI tc) (nI tfull) tx z_gway_10 p1 p0 (nI z_gfound_7) 120 (nI z_gl_8) (nI z_gsz_9) t16 t17 k_ftz (zs o 121 az) k_s1t (bN 7 q_s1t) k_s2t s2t k_s3t s3t k_s4t s4t k_s5t s5t k_hit z_fhi_3 k_lot z_flo_4 k_fbu fbu) ++ zp 4 16 N az ac kz qs fz) H := hP
  have hD : va_D A ((xtr__w xa xtape (nI tp) rd au xdr hy g (nI hs) tg sg (nI ss) rm ti py bu sm (nI nc) (nI np) (nI ne) (nI st0) q4 q5 q6 q7 q8 q9 q10 q11 q12 q13 q14 q15 q16 k_f4 f4 k_f5 (bN 7 q_f5) k_f6 (bN 7 q_f6) k_f7 f7 k_f8 (bN 4 q_f8) k_f9 (bN 2 q_f9) k_f10 f10 k_f11 f11 k_f12 f12 k_f13 f13 k_f14 f14 k_f15 f15 k_f16 f16 tz t1 t2 t3 t4 t5 (nI tc) (nI tfull) tx z_gway_10 p1 p0 (nI z_gfound_7) 120 (nI z_gl_8) (nI z_gsz_9) t16 t17 k_ftz (zs o 121 az) k_s1t (bN 7 q_s1t) k_s2t s2t k_s3t s3t k_s4t s4t k_s5t s5t k_hit z_fhi_3 k_lot z_flo_4 k_fbu fbu) ++ zp 4 16 N az ac kz qs fz) := hD
  refine lv_aload_n hx hb eX8_canReach_38 rfl (lv_at hl 0 rfl) ?_
  refine lv_aload_n hx hb eX8_canReach_39 rfl (lv_at hl 0 rfl) ?_
  refine va_get (D := (dC, dI)) (ci := 8) (v := .ref tg) (C := RX8) (T := TX8) (N := 16) hx hb hts hiX8 hown hK hP 0 rfl rfl 8 (by decide) v_1 (fun _ h9 => h9) rfl eX8_canReach_40 ?_
  have hFc := pu_free hD hS hA
  refine va_callv (va_runV (As := [.ref tg]) (rest := []) ⟨hx, hb, hml, hown, hts⟩ (c_C_8_beginAtZero_16 l dC dI _ xa xtape tp rd au xdr hy g hs tg sg ss rm ti py bu sm nc np ne st0 q4 q5 q6 q7 q8 q9 q10 q11 q12 q13 q14 q15 q16 k_f4 f4 k_f5 q_f5 k_f6 q_f6 k_f7 f7 k_f8 q_f8 k_f9 q_f9 k_f10 f10 k_f11 f11 k_f12 f12 k_f13 f13 k_f14 f14 k_f15 f15 k_f16 f16 tg tz t1 t2 t3 t4 t5 tc tfull tx z_gway_10 p1 p0 z_gfound_7 z_gl_8 z_gsz_9 t16 t17 k_ftz k_s1t q_s1t k_s2t s2t k_s3t s3t k_s4t s4t k_s5t s5t k_hit z_fhi_3 k_lot z_flo_4 k_fbu fbu N o az ac kz qs fz htp hhs hss hnc hnp hne hst0 htc htfull hz_gfound_7 hz_gl_8 hz_gsz_9 (by omega)) (cwV 1 hts g_C_8_canReach_C_8_beginAtZero_16 rfl rfl rfl (by decide +kernel) ⟨Nat.le_of_ble_eq_true rfl, Nat.le_of_ble_eq_true rfl⟩) ⟨pu_bl, va_recv hK hP (ci := 8) (q0 := 0) rfl rfl, pu_in hP hK hD⟩ rfl rfl hl.1 rfl (lv_room (Nat.le_of_ble_eq_true rfl)) eX8_canReach_43 ⟨Nat.le_of_ble_eq_true rfl, Nat.le_of_ble_eq_true rfl⟩) hS (fun q _ h => hFc q h) hFc (fun u t H1 locs ht hvm hw hB hz1 hk1 hS => ?_)
  obtain ⟨z_s1gx_12, z_s2gx_13, z_s3gx_14, z_s4gx_15, z_s5gx_16, z_fbu_17, z_gxfound_18, z_gxc_19, z_gxfull_20, z_gxx_21, z_fz_22, z_qs_23, ⟨hP1, -, hD1⟩, hz_gxfound_18, hz_gxc_19, hz_gxfull_20, xr_11_0⟩ := hB
  rw [ht] at hP1
  have hP := hP1
  have hD := pu_all hFc hD1
  clear hP1 hD1 hFc
  clear hk1 hz1 ht hvm
  generalize H1 = H at hP hS ⊢
  refine lv_aload_n hx hb eX8_canReach_46 rfl (lv_at hl 0 rfl) ?_
  refine va_get (D := (dC, dI)) (ci := 8) (v := .ref tg) (C := RX8) (T := TX8) (N := 16) hx hb hts hiX8 hown hK hP 0 rfl rfl 8 (by decide) v_1 (fun _ h9 => h9) rfl eX8_canReach_47 ?_
  refine lv_aload_n hx hb eX8_canReach_50 rfl (lv_at hl 0 rfl) ?_
  refine va_get (D := (dC, dI)) (ci := 8) (v := .ref au) (C := RX8) (T := TX8) (N := 16) hx hb hts hiX8 hown hK hP 0 rfl rfl 3 (by decide) v_2 (fun _ h9 => h9) rfl eX8_canReach_51 ?_
  have hPc : va_P (dC, dI) vwCl ([(tg, .inr (1, [.ref tz, .ref t1, .ref t2, .ref t3, .ref t4, .ref t5, .int (nI z_gxc_19), .int (nI z_gxfull_20), .int z_gxx_21, .int z_gway_10, .int p1, .int p0, .int (nI z_gxfound_18), .int 120, .int (nI z_gl_8), .int (nI z_gsz_9), .ref t16, .ref t17])), (tz, .inl (k_ftz, 121, .inr (.inr (.inr (.inr (zs o 121 az)))))), (t1, .inl (k_s1t, 120, .inl (bN 7 z_s1gx_12))), (t2, .inl (k_s2t, 120, .inl z_s2gx_13)), (t3, .inl (k_s3t, 120, .inl z_s3gx_14)), (t4, .inl (k_s4t, 120, .inl z_s4gx_15)), (t5, .inl (k_s5t, 120, .inl z_s5gx_16)), (t16, .inl (k_hit, 5, .inl z_fhi_3)), (t17, .inl (k_lot, 5, .inl z_flo_4)), (au, .inr (0, [.int (nI nc), .int (nI np), .int (nI ne), .int (nI st0), .ref q4, .ref q5, .ref q6, .ref q7, .ref q8, .ref q9, .ref q10, .ref q11, .ref q12, .ref q13, .ref q14, .ref q15, .ref q16])), (q4, .inl (k_f4, 8, .inl f4)), (q5, .inl (k_f5, 14, .inl (bN 7 q_f5))), (q6, .inl (k_f6, 14, .inl (bN 7 q_f6))), (q7, .inl (k_f7, 14, .inl f7)), (q8, .inl (k_f8, 22, .inl (bN 4 q_f8))), (q9, .inl (k_f9, 88, .inl (bN 2 q_f9))), (q10, .inl (k_f10, 88, .inl f10)), (q11, .inl (k_f11, 88, .inl f11)), (q12, .inl (k_f12, 88, .inl f12)), (q13, .inl (k_f13, 88, .inl f13)), (q14, .inl (k_f14, 4, .inl f14)), (q15, .inl (k_f15, 4, .inl f15)), (q16, .inl (k_f16, 4, .inl f16))] ++ zp 4 16 N az ac kz z_qs_23 z_fz_22) _ := hP.part [15, 16, 17, 18, 19, 20, 21, 22, 23, 1, 2, 3, 4, 5, 6, 7, 8, 9, 10, 11, 12, 13, 14] rfl
  have hDc : va_D A ([(tg, .inr (1, [.ref tz, .ref t1, .ref t2, .ref t3, .ref t4, .ref t5, .int (nI z_gxc_19), .int (nI z_gxfull_20), .int z_gxx_21, .int z_gway_10, .int p1, .int p0, .int (nI z_gxfound_18), .int 120, .int (nI z_gl_8), .int (nI z_gsz_9), .ref t16, .ref t17])), (tz, .inl (k_ftz, 121, .inr (.inr (.inr (.inr (zs o 121 az)))))), (t1, .inl (k_s1t, 120, .inl (bN 7 z_s1gx_12))), (t2, .inl (k_s2t, 120, .inl z_s2gx_13)), (t3, .inl (k_s3t, 120, .inl z_s3gx_14)), (t4, .inl (k_s4t, 120, .inl z_s4gx_15)), (t5, .inl (k_s5t, 120, .inl z_s5gx_16)), (t16, .inl (k_hit, 5, .inl z_fhi_3)), (t17, .inl (k_lot, 5, .inl z_flo_4)), (au, .inr (0, [.int (nI nc), .int (nI np), .int (nI ne), .int (nI st0), .ref q4, .ref q5, .ref q6, .ref q7, .ref q8, .ref q9, .ref q10, .ref q11, .ref q12, .ref q13, .ref q14, .ref q15, .ref q16])), (q4, .inl (k_f4, 8, .inl f4)), (q5, .inl (k_f5, 14, .inl (bN 7 q_f5))), (q6, .inl (k_f6, 14, .inl (bN 7 q_f6))), (q7, .inl (k_f7, 14, .inl f7)), (q8, .inl (k_f8, 22, .inl (bN 4 q_f8))), (q9, .inl (k_f9, 88, .inl (bN 2 q_f9))), (q10, .inl (k_f10, 88, .inl f10)), (q11, .inl (k_f11, 88, .inl f11)), (q12, .inl (k_f12, 88, .inl f12)), (q13, .inl (k_f13, 88, .inl f13)), (q14, .inl (k_f14, 4, .inl f14)), (q15, .inl (k_f15, 4, .inl f15)), (q16, .inl (k_f16, 4, .inl f16))] ++ zp 4 16 N az ac kz z_qs_23 z_fz_22) := hD.part [15, 16, 17, 18, 19, 20, 21, 22, 23, 1, 2, 3, 4, 5, 6, 7, 8, 9, 10, 11, 12, 13, 14] (by decide) rfl
  have hKc : va_K (dC, dI) vwCl ([(k_ftz, .object RX7), (k_s1t, .int), (k_s2t, .int), (k_s3t, .int), (k_s4t, .int), (k_s5t, .int), (k_hit, .int), (k_lot, .int), (k_f4, .boolean), (k_f5, .int), (k_f6, .int), (k_f7, .int), (k_f8, .int), (k_f9, .int), (k_f10, .int), (k_f11, .int), (k_f12, .int), (k_f13, .int), (k_f14, .int), (k_f15, .int), (k_f16, .int)] ++ zt N kz) s := zk_part hK [13, 14, 15, 16, 17, 18, 19, 20, 0, 1, 2, 3, 4, 5, 6, 7, 8, 9, 10, 11, 12] rfl
  have hFc := pu_free hDc hS hA
  refine va_callv (va_runV (As := [.ref au]) (rest := []) ⟨hx, hb, hml, hown, hts⟩ (c_C_1_grow_16 l dC dI _ tg tz t1 t2 t3 t4 t5 z_gxc_19 z_gxfull_20 z_gxx_21 z_gway_10 p1 p0 z_gxfound_18 z_gl_8 z_gsz_9 t16 t17 k_ftz k_s1t z_s1gx_12 k_s2t z_s2gx_13 k_s3t z_s3gx_14 k_s4t z_s4gx_15 k_s5t z_s5gx_16 k_hit z_fhi_3 k_lot z_flo_4 au nc np ne (nI st0) q4 q5 q6 q7 q8 q9 q10 q11 q12 q13 q14 q15 q16 k_f4 f4 k_f5 q_f5 k_f6 q_f6 k_f7 f7 k_f8 q_f8 k_f9 q_f9 k_f10 f10 k_f11 f11 k_f12 f12 k_f13 f13 k_f14 f14 k_f15 f15 k_f16 f16 N o az ac kz z_qs_23 z_fz_22 hz_gxc_19 hz_gxfull_20 hz_gxfound_18 hz_gl_8 hz_gsz_9 hnc hnp hne (Or.inr ⟨st0, hst0, rfl⟩) (by omega) (by first | assumption | exact gz_0)) (cwV 1 hts g_C_8_canReach_C_1_grow_16 rfl rfl rfl (by decide +kernel) ⟨Nat.le_of_ble_eq_true rfl, Nat.le_of_ble_eq_true rfl⟩) ⟨pu_bl, va_recv hK hP (ci := 1) (q0 := 15) rfl rfl, pu_in hPc hKc hDc⟩ rfl rfl hl.1 rfl (lv_room (Nat.le_of_ble_eq_true rfl)) eX8_canReach_54 ⟨Nat.le_of_ble_eq_true rfl, Nat.le_of_ble_eq_true rfl⟩) hS (fun q _ h => hFc q h) hFc (fun u t H1 locs ht hvm hw hB hz1 hk1 hS => ?_)
  obtain ⟨z_fs1_25, z_fs2_26, z_fs3_27, z_fs4_28, z_fs5_29, z_gfound_30, z_gc_31, z_gfull_32, z_gx_33, z_fz_34, z_qs_35, ⟨hP1, -, hD1⟩, hz_gfound_30, hz_gc_31, hz_gfull_32, xr_24_0⟩ := hB
  rw [ht] at hP1
  obtain ⟨hP, hD⟩ := pl_put (X' := (xtr__w xa xtape (nI tp) rd au xdr hy g (nI hs) tg sg (nI ss) rm ti py bu sm (nI nc) (nI np) (nI ne) (nI st0) q4 q5 q6 q7 q8 q9 q10 q11 q12 q13 q14 q15 q16 k_f4 f4 k_f5 (bN 7 q_f5) k_f6 (bN 7 q_f6) k_f7 f7 k_f8 (bN 4 q_f8) k_f9 (bN 2 q_f9) k_f10 f10 k_f11 f11 k_f12 f12 k_f13 f13 k_f14 f14 k_f15 f15 k_f16 f16 tz t1 t2 t3 t4 t5 (nI z_gc_31) (nI z_gfull_32) z_gx_33 z_gway_10 p1 p0 (nI z_gfound_30) 120 (nI z_gl_8) (nI z_gsz_9) t16 t17 k_ftz (zs o 121 az) k_s1t (bN 7 z_fs1_25) k_s2t z_fs2_26 k_s3t z_fs3_27 k_s4t z_fs4_28 k_s5t z_fs5_29 k_hit z_fhi_3 k_lot z_flo_4 k_fbu z_fbu_17)) (w1 := (gs1__w tg tz t1 t2 t3 t4 t5 (nI z_gc_31) (nI z_gfull_32) z_gx_33 z_gway_10 p1 p0 (nI z_gfound_30) 120 (nI z_gl_8) (nI z_gsz_9) t16 t17 k_ftz (zs o 121 az) k_s1t (bN 7 z_fs1_25) k_s2t z_fs2_26 k_s3t z_fs3_27 k_s4t z_fs4_28 k_s5t z_fs5_29 k_hit z_fhi_3 k_lot z_flo_4 au (nI nc) (nI np) (nI ne) (nI st0) q4 q5 q6 q7 q8 q9 q10 q11 q12 q13 q14 q15 q16 k_f4 f4 k_f5 (bN 7 q_f5) k_f6 (bN 7 q_f6) k_f7 f7 k_f8 (bN 4 q_f8) k_f9 (bN 2 q_f9) k_f10 f10 k_f11 f11 k_f12 f12 k_f13 f13 k_f14 f14 k_f15 f15 k_f16 f16)) hP hD [15, 16, 17, 18, 19, 20, 21, 22, 23, 1, 2, 3, 4, 5, 6, 7, 8, 9, 10, 11, 12, 13, 14] rfl hk1 hP1 rfl zp_f rfl
  clear hP1 hD1 hFc
  clear hPc hDc hKc
  clear hk1 hz1 ht hvm
  generalize H1 = H at hP hS ⊢
  refine lv_aload_n hx hb eX8_canReach_57 rfl (lv_at hl 0 rfl) ?_
  refine va_get (D := (dC, dI)) (ci := 8) (v := .ref tg) (C := RX8) (T := TX8) (N := 16) hx hb hts hiX8 hown hK hP 0 rfl rfl 8 (by decide) v_1 (fun _ h9 => h9) rfl eX8_canReach_58 ?_
  refine va_get (D := (dC, dI)) (ci := 1) (v := .int (nI z_gfound_30)) (C := RX1) (T := TX1) (N := 18) hx hb hts hiX1 hown hK hP 15 rfl rfl 12 (by decide) v_20 (fun _ h9 => h9) rfl eX8_canReach_61 ?_
  exact W.zret (v := (nI z_gfound_30)) (ty := .boolean) hx hb hr (pu_nz (pu_b1 (n := z_gfound_30) (by omega))) (fun t ht hW => ⟨⟨(nI z_gfound_30), (), rfl, ⟨z_gfound_30, hz_gfound_30, rfl⟩, ⟨z_fs1_25, z_fs2_26, z_fs3_27, z_fs4_28, z_fs5_29, z_fhi_3, z_flo_4, z_fbu_17, p1, p0, z_gfound_30, z_gl_8, z_gsz_9, z_gc_31, z_gfull_32, z_gx_33, z_gway_10, z_fz_34, z_qs_35, ⟨by rw [ht]; exact hP, va_K.moved hW.alike hK, hD⟩, hz_gfound_30, hz_gl_8, hz_gsz_9, hz_gc_31, hz_gfull_32, by first | assumption | exact gz_0⟩⟩, hS.F ht⟩) hS.2.2 eX8_canReach_64
theorem eX8_avoids_0 : decode cX8_avoids 0 = .ok (.aload_n 0, 1) := by decide +kernel
theorem eX8_avoids_1 : decode cX8_avoids 1 = .ok (.iload_n 1, 1) := by decide +kernel
theorem eX8_avoids_2 : decode cX8_avoids 2 = .ok (.invokevirtual 140, 3) := by decide +kernel
theorem eX8_avoids_5 : decode cX8_avoids 5 = .ok (.ifCond .eq 11, 3) := by decide +kernel
theorem eX8_avoids_16 : decode cX8_avoids 16 = .ok (.iconst (-1), 1) := by decide +kernel
theorem eX8_avoids_17 : decode cX8_avoids 17 = .ok (.ireturn, 1) := by decide +kernel
abbrev vs_C_8_avoids_0 : List Cond := .code yX8_avoids cX8_avoids 3 (some .int) :: CM
theorem g_C_8_avoids_0_C_8_isPlace : GoodIn vs_C_8_avoids_0 (wsV RX8 140 RX8 yX8_isPlace vs_C_8_isPlace) := cm_gV cm_471 cm_472 cm_473 cm_427 cm_474
set_option maxHeartbeats 4000000 in
set_option maxRecDepth 100000 in
theorem c_C_8_avoids_0 (l : Launch) (dC : Nat → ClassId) (dI : Nat → Nat → Nat) (sz : Nat) (xa : Nat) (xtape : Nat) (tp : Nat) (rd : Nat) (au : Nat) (xdr : Nat) (hy : Nat) (g : Nat) (tg : Nat) (sg : Nat) (rm : Nat) (ti : Nat) (py : Nat) (bu : Nat) (sm : Nat) (nc : Nat) (ne : Nat) (st0 : Int32) (q4 : Nat) (q5 : Nat) (q6 : Nat) (q7 : Nat) (q8 : Nat) (q9 : Nat) (q10 : Nat) (q11 : Nat) (q12 : Nat) (q13 : Nat) (q14 : Nat) (q15 : Nat) (q16 : Nat) (k_f4 : ClassId) (f4 : Nat → Int32) (k_f5 : ClassId) (q_f5 : Nat → Nat) (k_f6 : ClassId) (q_f6 : Nat → Nat) (k_f7 : ClassId) (f7 : Nat → Int32) (k_f8 : ClassId) (q_f8 : Nat → Nat) (k_f9 : ClassId) (q_f9 : Nat → Nat) (k_f10 : ClassId) (f10 : Nat → Int32) (k_f11 : ClassId) (f11 : Nat → Int32) (k_f12 : ClassId) (f12 : Nat → Int32) (k_f13 : ClassId) (f13 : Nat → Int32) (k_f14 : ClassId) (f14 : Nat → Int32) (k_f15 : ClassId) (f15 : Nat → Int32) (k_f16 : ClassId) (f16 : Nat → Int32) (tz : Nat) (t1 : Nat) (t2 : Nat) (t3 : Nat) (t4 : Nat) (t5 : Nat) (tc : Nat) (tfull : Nat) (tx : Int32) (tway : Int32) (tav : Int32) (tgoal : Int32) (tfound : Nat) (tl : Nat) (tsz : Nat) (t16 : Nat) (t17 : Nat) (k_ftz : ClassId) (k_s1t : ClassId) (q_s1t : Nat → Nat) (k_s2t : ClassId) (s2t : Nat → Int32) (k_s3t : ClassId) (s3t : Nat → Int32) (k_s4t : ClassId) (s4t : Nat → Int32) (k_s5t : ClassId) (s5t : Nat → Int32) (k_hit : ClassId) (hit : Nat → Int32) (k_lot : ClassId) (lot : Nat → Int32) (k_fbu : ClassId) (fbu : Nat → Int32) (N : Nat) (o : Nat) (az ac : Nat → Nat) (kz : Nat → ClassId) (qs : Nat → Nat) (fz : Nat → Nat → Int32) (p0 : Int32) (p1 : Int32) (htp : tp ≤ 900) (hnc : nc ≤ 3) (hne : ne ≤ 14) (hst0 : pm1 7 st0) (htc : tc ≤ 120) (htfull : tfull ≤ 1) (htfound : tfound ≤ 1) (htl : tl ≤ 1) (htsz : tsz ≤ 4) (hN : o + 121 ≤ N) : Met l yX8_avoids vs_C_8_avoids_0 ({ frames := 1, cells := 0, slots := 0, locals := 21 }) (va_Pc [.ref xa, .int p0, .int p1] (pu_B (dC, dI) ((xtr__w xa xtape (nI tp) rd au xdr hy g 0 tg sg 0 rm ti py bu sm (nI nc) 0 (nI ne) st0 q4 q5 q6 q7 q8 q9 q10 q11 q12 q13 q14 q15 q16 k_f4 f4 k_f5 (bN 7 q_f5) k_f6 (bN 7 q_f6) k_f7 f7 k_f8 (bN 4 q_f8) k_f9 (bN 2 q_f9) k_f10 f10 k_f11 f11 k_f12 f12 k_f13 f13 k_f14 f14 k_f15 f15 k_f16 f16 tz t1 t2 t3 t4 t5 (nI tc) (nI tfull) tx tway tav tgoal (nI tfound) 120 (nI tl) (nI tsz) t16 t17 k_ftz (zs o 121 az) k_s1t (bN 7 q_s1t) k_s2t s2t k_s3t s3t k_s4t s4t k_s5t s5t k_hit hit k_lot lot k_fbu fbu) ++ zp 4 16 N az ac kz qs fz) ((xtr__t k_f4 k_f5 k_f6 k_f7 k_f8 k_f9 k_f10 k_f11 k_f12 k_f13 k_f14 k_f15 k_f16 k_ftz k_s1t k_s2t k_s3t k_s4t k_s5t k_hit k_lot k_fbu) ++ zt N kz) sz)) (va_Qi (fun (r : Int32) (_ : Unit) => True) (fun _ _ => True) (va_A [] sz)) 0 0 (va_A [] sz) := by
  refine Met.ofW (cc := cX8_avoids) (maxL := 3) (ret := (some .int)) (by decide) rfl ?_
  intro p e s m args below meth c s₁ B hml hv
  obtain ⟨rfl, rfl, hP, hK, hD0⟩ := hv
  have hx := B.exec
  have hb := B.bytes
  have hr := B.returns
  have hts := atoms_spec (ws := vs_C_8_avoids_0) B.pre
  have hown : s.vm.findClass RX8 = some m.cls := findClass_of_methodNamed B.named
  have hlocks := B.notSynchronized
  have hD := hD0
  have hA : ∀ q : Nat, s.heap.size ≤ q → va_A [] s.heap.size q := fun _ h => Or.inr h
  have hS : va_S (va_A [] s.heap.size) s.heap s.heap [] := va_S.rf
  have hl := lv_entry ([.ref xa, .int p0, .int p1]) (n := 3) (Nat.le_of_ble_eq_true rfl)
  rw [lg_entry_eq]
  generalize (lg_sl ([.ref xa, .int p0, .int p1]) ++ List.replicate (3 - (lg_sl ([.ref xa, .int p0, .int p1])).length) Slot.unset).toArray = ls at hl ⊢
  have hl : lv_has ls 3 [(0, .ref xa), (1, .int p0), (2, .int p1)] := hl
  refine lv_aload_n hx hb eX8_avoids_0 rfl (lv_at hl 0 rfl) ?_
  refine lv_iload_n hx hb eX8_avoids_1 rfl (lv_at hl 1 rfl) ?_
  have hPc : va_P (dC, dI) vwCl [(xa, .inr (8, [.ref xtape, .int (nI tp), .ref rd, .ref au, .ref xdr, .ref hy, .ref g, .int 0, .ref tg, .ref sg, .int 0, .ref rm, .ref ti, .ref py, .ref bu, .ref sm])), (au, .inr (0, [.int (nI nc), .int 0, .int (nI ne), .int st0, .ref q4, .ref q5, .ref q6, .ref q7, .ref q8, .ref q9, .ref q10, .ref q11, .ref q12, .ref q13, .ref q14, .ref q15, .ref q16]))] _ := hP.sub [0, 1] rfl
  have hDc : va_D (fun _ => True) [(xa, .inr (8, [.ref xtape, .int (nI tp), .ref rd, .ref au, .ref xdr, .ref hy, .ref g, .int 0, .ref tg, .ref sg, .int 0, .ref rm, .ref ti, .ref py, .ref bu, .ref sm])), (au, .inr (0, [.int (nI nc), .int 0, .int (nI ne), .int st0, .ref q4, .ref q5, .ref q6, .ref q7, .ref q8, .ref q9, .ref q10, .ref q11, .ref q12, .ref q13, .ref q14, .ref q15, .ref q16]))] := (zp_left hD).sub [0, 1] (by decide) rfl
  have hKc : va_K (dC, dI) vwCl [] s := hK.sub [] rfl
  refine va_calli (va_runV (As := [.int p0]) (rest := []) ⟨hx, hb, hml, hown, hts⟩ (c_C_8_isPlace l dC dI _ xa xtape tp rd au xdr hy g 0 tg sg 0 rm ti py bu sm nc 0 ne st0 q4 q5 q6 q7 q8 q9 q10 q11 q12 q13 q14 q15 q16 p0 htp (Nat.le_of_ble_eq_true rfl) (Nat.le_of_ble_eq_true rfl) hnc (Nat.le_of_ble_eq_true rfl) hne (hst0)) (cwV 1 hts g_C_8_avoids_0_C_8_isPlace rfl rfl rfl (by decide +kernel) ⟨Nat.le_of_ble_eq_true rfl, Nat.le_of_ble_eq_true rfl⟩) ⟨pu_bl, va_recv hK hP (ci := 8) (q0 := 0) rfl rfl, pu_in hPc hKc hDc⟩ rfl rfl hl.1 rfl (lv_room (Nat.le_of_ble_eq_true rfl)) eX8_avoids_2 ⟨Nat.le_of_ble_eq_true rfl, Nat.le_of_ble_eq_true rfl⟩) hS (fun q _ h => pu_fr hS hA q h) (pu_fr hS hA) (fun r_1 u t H1 locs ht hvm hw hB hz1 hk1 hS => ?_)
  have hP := pu_keep hP hk1
  clear hPc hDc hKc
  clear hk1 hz1 ht hvm
  generalize H1 = H at hP hS ⊢
  rcases hw with ⟨rfl, hw⟩ | rfl
  · obtain ⟨n_2, hn_2, -⟩ := hw
    exact absurd hn_2 (Nat.not_lt_zero _)
  · refine lv_if_eq (tgt := 16) hx hb eX8_avoids_5 (by decide) (fun _ => ?_) (fun z => absurd z (by decide))
    refine lv_iconst (v := (-1)) hx hb eX8_avoids_16 (by decide) ?_
    exact W.iret (v := (-1)) hx hb hr (fun t ht hW => ⟨⟨(-1), (), rfl, trivial, trivial⟩, hS.F ht⟩) hS.2.2 eX8_avoids_17
theorem eX8_avoids_8 : decode cX8_avoids 8 = .ok (.aload_n 0, 1) := by decide +kernel
theorem eX8_avoids_9 : decode cX8_avoids 9 = .ok (.iload_n 2, 1) := by decide +kernel
theorem eX8_avoids_10 : decode cX8_avoids 10 = .ok (.invokevirtual 140, 3) := by decide +kernel
theorem eX8_avoids_13 : decode cX8_avoids 13 = .ok (.ifCond .ne 5, 3) := by decide +kernel
theorem eX8_avoids_18 : decode cX8_avoids 18 = .ok (.aload_n 0, 1) := by decide +kernel
theorem eX8_avoids_19 : decode cX8_avoids 19 = .ok (.iload_n 2, 1) := by decide +kernel
theorem eX8_avoids_20 : decode cX8_avoids 20 = .ok (.iload_n 1, 1) := by decide +kernel
theorem eX8_avoids_21 : decode cX8_avoids 21 = .ok (.invokevirtual 313, 3) := by decide +kernel
theorem eX8_avoids_24 : decode cX8_avoids 24 = .ok (.invokestatic 133, 3) := by decide +kernel
theorem eX8_avoids_27 : decode cX8_avoids 27 = .ok (.ireturn, 1) := by decide +kernel
abbrev vs_C_8_avoids : List Cond := .code yX8_avoids cX8_avoids 3 (some .int) :: CM
theorem g_C_8_avoids_C_8_isPlace : GoodIn vs_C_8_avoids (wsV RX8 140 RX8 yX8_isPlace vs_C_8_isPlace) := cm_gV cm_471 cm_472 cm_473 cm_427 cm_474
theorem g_C_8_avoids_C_8_canReach : GoodIn vs_C_8_avoids (wsV RX8 313 RX8 yX8_canReach vs_C_8_canReach) := cm_gV cm_594 cm_595 cm_596 cm_427 cm_597
theorem g_C_8_avoids_C_8_bit : GoodIn vs_C_8_avoids (va_wsS RX8 133 yX8_bit vs_C_8_bit) := cm_gS cm_463 cm_464 cm_427 cm_465
set_option maxHeartbeats 4000000 in
set_option maxRecDepth 100000 in
theorem c_C_8_avoids (l : Launch) (dC : Nat → ClassId) (dI : Nat → Nat → Nat) (sz : Nat) (xa : Nat) (xtape : Nat) (tp : Nat) (rd : Nat) (au : Nat) (xdr : Nat) (hy : Nat) (g : Nat) (hs : Nat) (tg : Nat) (sg : Nat) (ss : Nat) (rm : Nat) (ti : Nat) (py : Nat) (bu : Nat) (sm : Nat) (nc : Nat) (np : Nat) (ne : Nat) (st0 : Nat) (q4 : Nat) (q5 : Nat) (q6 : Nat) (q7 : Nat) (q8 : Nat) (q9 : Nat) (q10 : Nat) (q11 : Nat) (q12 : Nat) (q13 : Nat) (q14 : Nat) (q15 : Nat) (q16 : Nat) (k_f4 : ClassId) (f4 : Nat → Int32) (k_f5 : ClassId) (q_f5 : Nat → Nat) (k_f6 : ClassId) (q_f6 : Nat → Nat) (k_f7 : ClassId) (f7 : Nat → Int32) (k_f8 : ClassId) (q_f8 : Nat → Nat) (k_f9 : ClassId) (q_f9 : Nat → Nat) (k_f10 : ClassId) (f10 : Nat → Int32) (k_f11 : ClassId) (f11 : Nat → Int32) (k_f12 : ClassId) (f12 : Nat → Int32) (k_f13 : ClassId) (f13 : Nat → Int32) (k_f14 : ClassId) (f14 : Nat → Int32) (k_f15 : ClassId) (f15 : Nat → Int32) (k_f16 : ClassId) (f16 : Nat → Int32) (tz : Nat) (t1 : Nat) (t2 : Nat) (t3 : Nat) (t4 : Nat) (t5 : Nat) (tc : Nat) (tfull : Nat) (tx : Int32) (tway : Int32) (tav : Int32) (tgoal : Int32) (tfound : Nat) (tl : Nat) (tsz : Nat) (t16 : Nat) (t17 : Nat) (k_ftz : ClassId) (k_s1t : ClassId) (q_s1t : Nat → Nat) (k_s2t : ClassId) (s2t : Nat → Int32) (k_s3t : ClassId) (s3t : Nat → Int32) (k_s4t : ClassId) (s4t : Nat → Int32) (k_s5t : ClassId) (s5t : Nat → Int32) (k_hit : ClassId) (hit : Nat → Int32) (k_lot : ClassId) (lot : Nat → Int32) (k_fbu : ClassId) (fbu : Nat → Int32) (N : Nat) (o : Nat) (az ac : Nat → Nat) (kz : Nat → ClassId) (qs : Nat → Nat) (fz : Nat → Nat → Int32) (p0 : Int32) (p1 : Int32) (htp : tp ≤ 900) (hhs : hs ≤ 1) (hss : ss ≤ 1) (hnc : nc ≤ 3) (hnp : np ≤ 8) (hne : ne ≤ 14) (hst0 : st0 ≤ 7) (htc : tc ≤ 120) (htfull : tfull ≤ 1) (htfound : tfound ≤ 1) (htl : tl ≤ 1) (htsz : tsz ≤ 4) (hN : o + 121 ≤ N) (hq0 : gz_ok tc s2t s3t s4t) : Met l yX8_avoids vs_C_8_avoids ({ frames := 6, cells := 0, slots := 0, locals := 147 }) (va_Pc [.ref xa, .int p0, .int p1] (pu_B (dC, dI) ((xtr__w xa xtape (nI tp) rd au xdr hy g (nI hs) tg sg (nI ss) rm ti py bu sm (nI nc) (nI np) (nI ne) (nI st0) q4 q5 q6 q7 q8 q9 q10 q11 q12 q13 q14 q15 q16 k_f4 f4 k_f5 (bN 7 q_f5) k_f6 (bN 7 q_f6) k_f7 f7 k_f8 (bN 4 q_f8) k_f9 (bN 2 q_f9) k_f10 f10 k_f11 f11 k_f12 f12 k_f13 f13 k_f14 f14 k_f15 f15 k_f16 f16 tz t1 t2 t3 t4 t5 (nI tc) (nI tfull) tx tway tav tgoal (nI tfound) 120 (nI tl) (nI tsz) t16 t17 k_ftz (zs o 121 az) k_s1t (bN 7 q_s1t) k_s2t s2t k_s3t s3t k_s4t s4t k_s5t s5t k_hit hit k_lot lot k_fbu fbu) ++ zp 4 16 N az ac kz qs fz) ((xtr__t k_f4 k_f5 k_f6 k_f7 k_f8 k_f9 k_f10 k_f11 k_f12 k_f13 k_f14 k_f15 k_f16 k_ftz k_s1t k_s2t k_s3t k_s4t k_s5t k_hit k_lot k_fbu) ++ zt N kz) sz)) (va_Qi (fun (r : Int32) (_ : Unit) => True) (fun _ t => ∃ (z_s1t : Nat → Nat) (z_s2t : Nat → Int32) (z_s3t : Nat → Int32) (z_s4t : Nat → Int32) (z_s5t : Nat → Int32) (z_hit : Nat → Int32) (z_lot : Nat → Int32) (z_fbu : Nat → Int32) (z_tav : Int32) (z_tgoal : Int32) (z_tfound : Nat) (z_tl : Nat) (z_tsz : Nat) (z_tc : Nat) (z_tfull : Nat) (z_tx : Int32) (z_tway : Int32) (z_fz : Nat → Nat → Int32) (z_qs : Nat → Nat), pu_E (dC, dI) ((xtr__w xa xtape (nI tp) rd au xdr hy g (nI hs) tg sg (nI ss) rm ti py bu sm (nI nc) (nI np) (nI ne) (nI st0) q4 q5 q6 q7 q8 q9 q10 q11 q12 q13 q14 q15 q16 k_f4 f4 k_f5 (bN 7 q_f5) k_f6 (bN 7 q_f6) k_f7 f7 k_f8 (bN 4 q_f8) k_f9 (bN 2 q_f9) k_f10 f10 k_f11 f11 k_f12 f12 k_f13 f13 k_f14 f14 k_f15 f15 k_f16 f16 tz t1 t2 t3 t4 t5 (nI z_tc) (nI z_tfull) z_tx z_tway z_tav z_tgoal (nI z_tfound) 120 (nI z_tl) (nI z_tsz) t16 t17 k_ftz (zs o 121 az) k_s1t (bN 7 z_s1t) k_s2t z_s2t k_s3t z_s3t k_s4t z_s4t k_s5t z_s5t k_hit z_hit k_lot z_lot k_fbu z_fbu) ++ zp 4 16 N az ac kz z_qs z_fz) ((xtr__t k_f4 k_f5 k_f6 k_f7 k_f8 k_f9 k_f10 k_f11 k_f12 k_f13 k_f14 k_f15 k_f16 k_ftz k_s1t k_s2t k_s3t k_s4t k_s5t k_hit k_lot k_fbu) ++ zt N kz) (va_A (((xtr__w xa xtape (nI tp) rd au xdr hy g (nI hs) tg sg (nI ss) rm ti py bu sm (nI nc) (nI np) (nI ne) (nI st0) q4 q5 q6 q7 q8 q9 q10 q11 q12 q13 q14 q15 q16 k_f4 f4 k_f5 (bN 7 q_f5) k_f6 (bN 7 q_f6) k_f7 f7 k_f8 (bN 4 q_f8) k_f9 (bN 2 q_f9) k_f10 f10 k_f11 f11 k_f12 f12 k_f13 f13 k_f14 f14 k_f15 f15 k_f16 f16 tz t1 t2 t3 t4 t5 (nI tc) (nI tfull) tx tway tav tgoal (nI tfound) 120 (nI tl) (nI tsz) t16 t17 k_ftz (zs o 121 az) k_s1t (bN 7 q_s1t) k_s2t s2t k_s3t s3t k_s4t s4t k_s5t s5t k_hit hit k_lot lot k_fbu fbu) ++ zp 4 16 N az ac kz qs fz)) sz) t ∧ (z_tfound ≤ 1) ∧ (z_tl ≤ 1) ∧ (z_tsz ≤ 4) ∧ (z_tc ≤ 120) ∧ (z_tfull ≤ 1) ∧ (gz_ok z_tc z_s2t z_s3t z_s4t)) (va_A (((xtr__w xa xtape (nI tp) rd au xdr hy g (nI hs) tg sg (nI ss) rm ti py bu sm (nI nc) (nI np) (nI ne) (nI st0) q4 q5 q6 q7 q8 q9 q10 q11 q12 q13 q14 q15 q16 k_f4 f4 k_f5 (bN 7 q_f5) k_f6 (bN 7 q_f6) k_f7 f7 k_f8 (bN 4 q_f8) k_f9 (bN 2 q_f9) k_f10 f10 k_f11 f11 k_f12 f12 k_f13 f13 k_f14 f14 k_f15 f15 k_f16 f16 tz t1 t2 t3 t4 t5 (nI tc) (nI tfull) tx tway tav tgoal (nI tfound) 120 (nI tl) (nI tsz) t16 t17 k_ftz (zs o 121 az) k_s1t (bN 7 q_s1t) k_s2t s2t k_s3t s3t k_s4t s4t k_s5t s5t k_hit hit k_lot lot k_fbu fbu) ++ zp 4 16 N az ac kz qs fz)) sz)) 0 0 (va_A (((xtr__w xa xtape (nI tp) rd au xdr hy g (nI hs) tg sg (nI ss) rm ti py bu sm (nI nc) (nI np) (nI ne) (nI st0) q4 q5 q6 q7 q8 q9 q10 q11 q12 q13 q14 q15 q16 k_f4 f4 k_f5 (bN 7 q_f5) k_f6 (bN 7 q_f6) k_f7 f7 k_f8 (bN 4 q_f8) k_f9 (bN 2 q_f9) k_f10 f10 k_f11 f11 k_f12 f12 k_f13 f13 k_f14 f14 k_f15 f15 k_f16 f16 tz t1 t2 t3 t4 t5 (nI tc) (nI tfull) tx tway tav tgoal (nI tfound) 120 (nI tl) (nI tsz) t16 t17 k_ftz (zs o 121 az) k_s1t (bN 7 q_s1t) k_s2t s2t k_s3t s3t k_s4t s4t k_s5t s5t k_hit hit k_lot lot k_fbu fbu) ++ zp 4 16 N az ac kz qs fz)) sz) := by
  refine Met.ofW (cc := cX8_avoids) (maxL := 3) (ret := (some .int)) (by decide) rfl ?_
  intro p e s m args below meth c s₁ B hml hv
  obtain ⟨rfl, rfl, hP, hK, hD0⟩ := hv
  have hx := B.exec
  have hb := B.bytes
  have hr := B.returns
  have hts := atoms_spec (ws := vs_C_8_avoids) B.pre
  have hown : s.vm.findClass RX8 = some m.cls := findClass_of_methodNamed B.named
  have hlocks := B.notSynchronized
  have hD := hD0.self (sz := s.heap.size)
  generalize hAe : va_A (((xtr__w xa xtape (nI tp) rd au xdr hy g (nI hs) tg sg (nI ss) rm ti py bu sm (nI nc) (nI np) (nI ne) (nI st0) q4 q5 q6 q7 q8 q9 q10 q11 q12 q13 q14 q15 q16 k_f4 f4 k_f5 (bN 7 q_f5) k_f6 (bN 7 q_f6) k_f7 f7 k_f8 (bN 4 q_f8) k_f9 (bN 2 q_f9) k_f10 f10 k_f11 f11 k_f12 f12 k_f13 f13 k_f14 f14 k_f15 f15 k_f16 f16 tz t1 t2 t3 t4 t5 (nI tc) (nI tfull) tx tway tav tgoal (nI tfound) 120 (nI tl) (nI tsz) t16 t17 k_ftz (zs o 121 az) k_s1t (bN 7 q_s1t) k_s2t s2t k_s3t s3t k_s4t s4t k_s5t s5t k_hit hit k_lot lot k_fbu fbu) ++ zp 4 16 N az ac kz qs fz)) s.heap.size = A at hD ⊢
  have hA : ∀ q : Nat, s.heap.size ≤ q → A q := fun q h => by rw [← hAe]; exact Or.inr h
  have hS : va_S A s.heap s.heap [] := va_S.rf
  have hl := lv_entry ([.ref xa, .int p0, .int p1]) (n := 3) (Nat.le_of_ble_eq_true rfl)
  rw [lg_entry_eq]
  generalize (lg_sl ([.ref xa, .int p0, .int p1]) ++ List.replicate (3 - (lg_sl ([.ref xa, .int p0, .int p1])).length) Slot.unset).toArray = ls at hl ⊢
  have hl : lv_has ls 3 [(0, .ref xa), (1, .int p0), (2, .int p1)] := hl
  refine lv_aload_n hx hb eX8_avoids_0 rfl (lv_at hl 0 rfl) ?_
  refine lv_iload_n hx hb eX8_avoids_1 rfl (lv_at hl 1 rfl) ?_
  have hPc : va_P (dC, dI) vwCl [(xa, .inr (8, [.ref xtape, .int (nI tp), .ref rd, .ref au, .ref xdr, .ref hy, .ref g, .int (nI hs), .ref tg, .ref sg, .int (nI ss), .ref rm, .ref ti, .ref py, .ref bu, .ref sm])), (au, .inr (0, [.int (nI nc), .int (nI np), .int (nI ne), .int (nI st0), .ref q4, .ref q5, .ref q6, .ref q7, .ref q8, .ref q9, .ref q10, .ref q11, .ref q12, .ref q13, .ref q14, .ref q15, .ref q16]))] _ := hP.sub [0, 1] rfl
  have hDc : va_D A [(xa, .inr (8, [.ref xtape, .int (nI tp), .ref rd, .ref au, .ref xdr, .ref hy, .ref g, .int (nI hs), .ref tg, .ref sg, .int (nI ss), .ref rm, .ref ti, .ref py, .ref bu, .ref sm])), (au, .inr (0, [.int (nI nc), .int (nI np), .int (nI ne), .int (nI st0), .ref q4, .ref q5, .ref q6, .ref q7, .ref q8, .ref q9, .ref q10, .ref q11, .ref q12, .ref q13, .ref q14, .ref q15, .ref q16]))] := (zp_left hD).sub [0, 1] (by decide) rfl
  have hKc : va_K (dC, dI) vwCl [] s := hK.sub [] rfl
  refine va_calli (va_runV (As := [.int p0]) (rest := []) ⟨hx, hb, hml, hown, hts⟩ (c_C_8_isPlace l dC dI _ xa xtape tp rd au xdr hy g hs tg sg ss rm ti py bu sm nc np ne (nI st0) q4 q5 q6 q7 q8 q9 q10 q11 q12 q13 q14 q15 q16 p0 htp hhs hss hnc hnp hne (Or.inr ⟨st0, hst0, rfl⟩)) (cwV 1 hts g_C_8_avoids_C_8_isPlace rfl rfl rfl (by decide +kernel) ⟨Nat.le_of_ble_eq_true rfl, Nat.le_of_ble_eq_true rfl⟩) ⟨pu_bl, va_recv hK hP (ci := 8) (q0 := 0) rfl rfl, pu_in hPc hKc hDc⟩ rfl rfl hl.1 rfl (lv_room (Nat.le_of_ble_eq_true rfl)) eX8_avoids_2 ⟨Nat.le_of_ble_eq_true rfl, Nat.le_of_ble_eq_true rfl⟩) hS (fun q _ h => pu_fr hS hA q h) (pu_fr hS hA) (fun r_1 u t H1 locs ht hvm hw hB hz1 hk1 hS => ?_)
  have hP := pu_keep hP hk1
  clear hPc hDc hKc
  clear hk1 hz1 ht hvm
  generalize H1 = H at hP hS ⊢
  rcases hw with ⟨rfl, hw⟩ | rfl
  · obtain ⟨n_2, hn_2, rfl⟩ := hw
    refine lv_if_eq (tgt := 16) hx hb eX8_avoids_5 (by decide) (fun z => absurd z (by decide)) (fun _ => ?_)
    refine lv_aload_n hx hb eX8_avoids_8 rfl (lv_at hl 0 rfl) ?_
    refine lv_iload_n hx hb eX8_avoids_9 rfl (lv_at hl 2 rfl) ?_
    have hPc : va_P (dC, dI) vwCl [(xa, .inr (8, [.ref xtape, .int (nI tp), .ref rd, .ref au, .ref xdr, .ref hy, .ref g, .int (nI hs), .ref tg, .ref sg, .int (nI ss), .ref rm, .ref ti, .ref py, .ref bu, .ref sm])), (au, .inr (0, [.int (nI nc), .int (nI np), .int (nI ne), .int (nI st0), .ref q4, .ref q5, .ref q6, .ref q7, .ref q8, .ref q9, .ref q10, .ref q11, .ref q12, .ref q13, .ref q14, .ref q15, .ref q16]))] _ := hP.sub [0, 1] rfl
    have hDc : va_D A [(xa, .inr (8, [.ref xtape, .int (nI tp), .ref rd, .ref au, .ref xdr, .ref hy, .ref g, .int (nI hs), .ref tg, .ref sg, .int (nI ss), .ref rm, .ref ti, .ref py, .ref bu, .ref sm])), (au, .inr (0, [.int (nI nc), .int (nI np), .int (nI ne), .int (nI st0), .ref q4, .ref q5, .ref q6, .ref q7, .ref q8, .ref q9, .ref q10, .ref q11, .ref q12, .ref q13, .ref q14, .ref q15, .ref q16]))] := (zp_left hD).sub [0, 1] (by decide) rfl
    have hKc : va_K (dC, dI) vwCl [] s := hK.sub [] rfl
    refine va_calli (va_runV (As := [.int p1]) (rest := []) ⟨hx, hb, hml, hown, hts⟩ (c_C_8_isPlace l dC dI _ xa xtape tp rd au xdr hy g hs tg sg ss rm ti py bu sm nc np ne (nI st0) q4 q5 q6 q7 q8 q9 q10 q11 q12 q13 q14 q15 q16 p1 htp hhs hss hnc hnp hne (Or.inr ⟨st0, hst0, rfl⟩)) (cwV 1 hts g_C_8_avoids_C_8_isPlace rfl rfl rfl (by decide +kernel) ⟨Nat.le_of_ble_eq_true rfl, Nat.le_of_ble_eq_true rfl⟩) ⟨pu_bl, va_recv hK hP (ci := 8) (q0 := 0) rfl rfl, pu_in hPc hKc hDc⟩ rfl rfl hl.1 rfl (lv_room (Nat.le_of_ble_eq_true rfl)) eX8_avoids_10 ⟨Nat.le_of_ble_eq_true rfl, Nat.le_of_ble_eq_true rfl⟩) hS (fun q _ h => pu_fr hS hA q h) (pu_fr hS hA) (fun r_3 u t H1 locs ht hvm hw hB hz1 hk1 hS => ?_)
    have hP := pu_keep hP hk1
    clear hPc hDc hKc
    clear hk1 hz1 ht hvm
    generalize H1 = H at hP hS ⊢
    rcases hw with ⟨rfl, hw⟩ | rfl
    · obtain ⟨n_4, hn_4, rfl⟩ := hw
      refine lv_if_ne (tgt := 18) hx hb eX8_avoids_13 (by decide) (fun _ => ?_) (fun z => absurd z (by decide))
      refine lv_aload_n hx hb eX8_avoids_18 rfl (lv_at hl 0 rfl) ?_
      refine lv_iload_n hx hb eX8_avoids_19 rfl (lv_at hl 2 rfl) ?_
      refine lv_iload_n hx hb eX8_avoids_20 rfl (lv_at hl 1 rfl) ?_
      have hFc := pu_free hD hS hA
      refine va_calli (va_runV (As := [.int (nI n_4), .int (nI n_2)]) (rest := []) ⟨hx, hb, hml, hown, hts⟩ (c_C_8_canReach l dC dI _ xa xtape tp rd au xdr hy g hs tg sg ss rm ti py bu sm nc np ne st0 q4 q5 q6 q7 q8 q9 q10 q11 q12 q13 q14 q15 q16 k_f4 f4 k_f5 q_f5 k_f6 q_f6 k_f7 f7 k_f8 q_f8 k_f9 q_f9 k_f10 f10 k_f11 f11 k_f12 f12 k_f13 f13 k_f14 f14 k_f15 f15 k_f16 f16 tz t1 t2 t3 t4 t5 tc tfull tx tway tav tgoal tfound tl tsz t16 t17 k_ftz k_s1t q_s1t k_s2t s2t k_s3t s3t k_s4t s4t k_s5t s5t k_hit hit k_lot lot k_fbu fbu N o az ac kz qs fz (nI n_4) (nI n_2) htp hhs hss hnc hnp hne hst0 htc htfull htfound htl htsz (by omega) (by assumption)) (cwV 2 hts g_C_8_avoids_C_8_canReach rfl rfl rfl (by decide +kernel) ⟨Nat.le_of_ble_eq_true rfl, Nat.le_of_ble_eq_true rfl⟩) ⟨pu_bl, va_recv hK hP (ci := 8) (q0 := 0) rfl rfl, pu_in hP hK hD⟩ rfl rfl hl.1 rfl (lv_room (Nat.le_of_ble_eq_true rfl)) eX8_avoids_21 ⟨Nat.le_of_ble_eq_true rfl, Nat.le_of_ble_eq_true rfl⟩) hS (fun q _ h => hFc q h) hFc (fun r_5 u t H1 locs ht hvm hw hB hz1 hk1 hS => ?_)
      obtain ⟨z_s1t_6, z_s2t_7, z_s3t_8, z_s4t_9, z_s5t_10, z_hit_11, z_lot_12, z_fbu_13, z_tav_14, z_tgoal_15, z_tfound_16, z_tl_17, z_tsz_18, z_tc_19, z_tfull_20, z_tx_21, z_tway_22, z_fz_23, z_qs_24, ⟨hP1, -, hD1⟩, hz_tfound_16, hz_tl_17, hz_tsz_18, hz_tc_19, hz_tfull_20, xr_5_0⟩ := hB
      rw [ht] at hP1
      have hP := hP1
      have hD := pu_all hFc hD1
      clear hP1 hD1 hFc
      clear hk1 hz1 ht hvm
      generalize H1 = H at hP hS ⊢
      obtain ⟨u_25, hu_25, rfl⟩ := hw
      have hPc : va_P (dC, dI) vwCl [] _ := hP.sub [] rfl
      have hDc : va_D A [] := (zp_left hD).sub [] (by decide) rfl
      have hKc : va_K (dC, dI) vwCl [] s := hK.sub [] rfl
      refine va_calli (va_runS (As := [.int (nI u_25)]) (rest := []) ⟨hx, hb, hml, hown, hts⟩ (c_C_8_bit l dC dI _ (nI u_25)) (va_cwS 1 hts g_C_8_avoids_C_8_bit rfl rfl rfl (by decide +kernel) ⟨Nat.le_of_ble_eq_true rfl, Nat.le_of_ble_eq_true rfl⟩) ⟨pu_bl, pu_in hPc hKc hDc⟩ rfl rfl hl.1 rfl (lv_room (Nat.le_of_ble_eq_true rfl)) eX8_avoids_24 ⟨Nat.le_of_ble_eq_true rfl, Nat.le_of_ble_eq_true rfl⟩) hS (fun q _ h => pu_fr hS hA q h) (pu_fr hS hA) (fun r_26 u t H1 locs ht hvm hw hB hz1 hk1 hS => ?_)
      have hP := pu_keep hP hk1
      clear hPc hDc hKc
      clear hk1 hz1 ht hvm
      generalize H1 = H at hP hS ⊢
      obtain ⟨u_27, hu_27, rfl⟩ := hw
      exact W.iret (v := (nI u_27)) hx hb hr (fun t ht hW => ⟨⟨(nI u_27), (), rfl, trivial, ⟨z_s1t_6, z_s2t_7, z_s3t_8, z_s4t_9, z_s5t_10, z_hit_11, z_lot_12, z_fbu_13, z_tav_14, z_tgoal_15, z_tfound_16, z_tl_17, z_tsz_18, z_tc_19, z_tfull_20, z_tx_21, z_tway_22, z_fz_23, z_qs_24, ⟨by rw [ht]; exact hP, va_K.moved hW.alike hK, hD⟩, hz_tfound_16, hz_tl_17, hz_tsz_18, hz_tc_19, hz_tfull_20, by first | assumption | exact gz_0⟩⟩, hS.F ht⟩) hS.2.2 eX8_avoids_27
    · refine lv_if_ne (tgt := 18) hx hb eX8_avoids_13 (by decide) (fun z => absurd z (by decide)) (fun _ => ?_)
      refine lv_iconst (v := (-1)) hx hb eX8_avoids_16 (by decide) ?_
      exact W.iret (v := (-1)) hx hb hr (fun t ht hW => ⟨⟨(-1), (), rfl, trivial, ⟨q_s1t, s2t, s3t, s4t, s5t, hit, lot, fbu, tav, tgoal, tfound, tl, tsz, tc, tfull, tx, tway, fz, qs, ⟨by rw [ht]; exact hP, va_K.moved hW.alike hK, hD⟩, htfound, htl, htsz, htc, htfull, by first | assumption | exact gz_0⟩⟩, hS.F ht⟩) hS.2.2 eX8_avoids_17
  · refine lv_if_eq (tgt := 16) hx hb eX8_avoids_5 (by decide) (fun _ => ?_) (fun z => absurd z (by decide))
    refine lv_iconst (v := (-1)) hx hb eX8_avoids_16 (by decide) ?_
    exact W.iret (v := (-1)) hx hb hr (fun t ht hW => ⟨⟨(-1), (), rfl, trivial, ⟨q_s1t, s2t, s3t, s4t, s5t, hit, lot, fbu, tav, tgoal, tfound, tl, tsz, tc, tfull, tx, tway, fz, qs, ⟨by rw [ht]; exact hP, va_K.moved hW.alike hK, hD⟩, htfound, htl, htsz, htc, htfull, by first | assumption | exact gz_0⟩⟩, hS.F ht⟩) hS.2.2 eX8_avoids_17
theorem eX8_from_0 : decode cX8_from 0 = .ok (.aload_n 0, 1) := by decide +kernel
theorem eX8_from_1 : decode cX8_from 1 = .ok (.iload_n 1, 1) := by decide +kernel
theorem eX8_from_2 : decode cX8_from 2 = .ok (.invokevirtual 140, 3) := by decide +kernel
theorem eX8_from_5 : decode cX8_from 5 = .ok (.ifCond .eq 12, 3) := by decide +kernel
theorem eX8_from_17 : decode cX8_from 17 = .ok (.iconst (-1), 1) := by decide +kernel
theorem eX8_from_18 : decode cX8_from 18 = .ok (.ireturn, 1) := by decide +kernel
abbrev vs_C_8_from_0 : List Cond := .code yX8_from cX8_from 7 (some .int) :: CM
theorem g_C_8_from_0_C_8_isPlace : GoodIn vs_C_8_from_0 (wsV RX8 140 RX8 yX8_isPlace vs_C_8_isPlace) := cm_gV cm_471 cm_472 cm_473 cm_427 cm_474
set_option maxHeartbeats 4000000 in
set_option maxRecDepth 100000 in
theorem c_C_8_from_0 (l : Launch) (dC : Nat → ClassId) (dI : Nat → Nat → Nat) (sz : Nat) (xa : Nat) (xtape : Nat) (tp : Nat) (rd : Nat) (au : Nat) (xdr : Nat) (hy : Nat) (g : Nat) (tg : Nat) (sg : Nat) (rm : Nat) (ti : Nat) (py : Nat) (bu : Nat) (sm : Nat) (nc : Nat) (ne : Nat) (st0 : Int32) (q4 : Nat) (q5 : Nat) (q6 : Nat) (q7 : Nat) (q8 : Nat) (q9 : Nat) (q10 : Nat) (q11 : Nat) (q12 : Nat) (q13 : Nat) (q14 : Nat) (q15 : Nat) (q16 : Nat) (k_f4 : ClassId) (f4 : Nat → Int32) (k_f5 : ClassId) (q_f5 : Nat → Nat) (k_f6 : ClassId) (q_f6 : Nat → Nat) (k_f7 : ClassId) (f7 : Nat → Int32) (k_f8 : ClassId) (q_f8 : Nat → Nat) (k_f9 : ClassId) (q_f9 : Nat → Nat) (k_f10 : ClassId) (f10 : Nat → Int32) (k_f11 : ClassId) (f11 : Nat → Int32) (k_f12 : ClassId) (f12 : Nat → Int32) (k_f13 : ClassId) (f13 : Nat → Int32) (k_f14 : ClassId) (f14 : Nat → Int32) (k_f15 : ClassId) (f15 : Nat → Int32) (k_f16 : ClassId) (f16 : Nat → Int32) (tz : Nat) (t1 : Nat) (t2 : Nat) (t3 : Nat) (t4 : Nat) (t5 : Nat) (tc : Nat) (tfull : Nat) (tx : Int32) (tway : Int32) (tav : Int32) (tgoal : Int32) (tfound : Nat) (tl : Nat) (tsz : Nat) (t16 : Nat) (t17 : Nat) (k_ftz : ClassId) (k_s1t : ClassId) (q_s1t : Nat → Nat) (k_s2t : ClassId) (s2t : Nat → Int32) (k_s3t : ClassId) (s3t : Nat → Int32) (k_s4t : ClassId) (s4t : Nat → Int32) (k_s5t : ClassId) (s5t : Nat → Int32) (k_hit : ClassId) (hit : Nat → Int32) (k_lot : ClassId) (lot : Nat → Int32) (k_fbu : ClassId) (fbu : Nat → Int32) (N : Nat) (o : Nat) (az ac : Nat → Nat) (kz : Nat → ClassId) (qs : Nat → Nat) (fz : Nat → Nat → Int32) (p0 : Int32) (p1 : Int32) (p2 : Int32) (p3 : Int32) (p4 : Int32) (htp : tp ≤ 900) (hnc : nc ≤ 3) (hne : ne ≤ 14) (hst0 : pm1 7 st0) (htc : tc ≤ 120) (htfull : tfull ≤ 1) (htfound : tfound ≤ 1) (htl : tl ≤ 1) (htsz : tsz ≤ 4) (hN : o + 121 ≤ N) : Met l yX8_from vs_C_8_from_0 ({ frames := 1, cells := 0, slots := 0, locals := 21 }) (va_Pc [.ref xa, .int p0, .int p1, .int p2, .int p3, .int p4] (pu_B (dC, dI) ((xtr__w xa xtape (nI tp) rd au xdr hy g 0 tg sg 0 rm ti py bu sm (nI nc) 0 (nI ne) st0 q4 q5 q6 q7 q8 q9 q10 q11 q12 q13 q14 q15 q16 k_f4 f4 k_f5 (bN 7 q_f5) k_f6 (bN 7 q_f6) k_f7 f7 k_f8 (bN 4 q_f8) k_f9 (bN 2 q_f9) k_f10 f10 k_f11 f11 k_f12 f12 k_f13 f13 k_f14 f14 k_f15 f15 k_f16 f16 tz t1 t2 t3 t4 t5 (nI tc) (nI tfull) tx tway tav tgoal (nI tfound) 120 (nI tl) (nI tsz) t16 t17 k_ftz (zs o 121 az) k_s1t (bN 7 q_s1t) k_s2t s2t k_s3t s3t k_s4t s4t k_s5t s5t k_hit hit k_lot lot k_fbu fbu) ++ zp 4 16 N az ac kz qs fz) ((xtr__t k_f4 k_f5 k_f6 k_f7 k_f8 k_f9 k_f10 k_f11 k_f12 k_f13 k_f14 k_f15 k_f16 k_ftz k_s1t k_s2t k_s3t k_s4t k_s5t k_hit k_lot k_fbu) ++ zt N kz) sz)) (va_Qi (fun (r : Int32) (_ : Unit) => True) (fun _ _ => True) (va_A [] sz)) 0 0 (va_A [] sz) := by
  refine Met.ofW (cc := cX8_from) (maxL := 7) (ret := (some .int)) (by decide) rfl ?_
  intro p e s m args below meth c s₁ B hml hv
  obtain ⟨rfl, rfl, hP, hK, hD0⟩ := hv
  have hx := B.exec
  have hb := B.bytes
  have hr := B.returns
  have hts := atoms_spec (ws := vs_C_8_from_0) B.pre
  have hown : s.vm.findClass RX8 = some m.cls := findClass_of_methodNamed B.named
  have hlocks := B.notSynchronized
  have hD := hD0
  have hA : ∀ q : Nat, s.heap.size ≤ q → va_A [] s.heap.size q := fun _ h => Or.inr h
  have hS : va_S (va_A [] s.heap.size) s.heap s.heap [] := va_S.rf
  have hl := lv_entry ([.ref xa, .int p0, .int p1, .int p2, .int p3, .int p4]) (n := 7) (Nat.le_of_ble_eq_true rfl)
  rw [lg_entry_eq]
  generalize (lg_sl ([.ref xa, .int p0, .int p1, .int p2, .int p3, .int p4]) ++ List.replicate (7 - (lg_sl ([.ref xa, .int p0, .int p1, .int p2, .int p3, .int p4])).length) Slot.unset).toArray = ls at hl ⊢
  have hl : lv_has ls 7 [(0, .ref xa), (1, .int p0), (2, .int p1), (3, .int p2), (4, .int p3), (5, .int p4)] := hl
  refine lv_aload_n hx hb eX8_from_0 rfl (lv_at hl 0 rfl) ?_
  refine lv_iload_n hx hb eX8_from_1 rfl (lv_at hl 1 rfl) ?_
  have hPc : va_P (dC, dI) vwCl [(xa, .inr (8, [.ref xtape, .int (nI tp), .ref rd, .ref au, .ref xdr, .ref hy, .ref g, .int 0, .ref tg, .ref sg, .int 0, .ref rm, .ref ti, .ref py, .ref bu, .ref sm])), (au, .inr (0, [.int (nI nc), .int 0, .int (nI ne), .int st0, .ref q4, .ref q5, .ref q6, .ref q7, .ref q8, .ref q9, .ref q10, .ref q11, .ref q12, .ref q13, .ref q14, .ref q15, .ref q16]))] _ := hP.sub [0, 1] rfl
  have hDc : va_D (fun _ => True) [(xa, .inr (8, [.ref xtape, .int (nI tp), .ref rd, .ref au, .ref xdr, .ref hy, .ref g, .int 0, .ref tg, .ref sg, .int 0, .ref rm, .ref ti, .ref py, .ref bu, .ref sm])), (au, .inr (0, [.int (nI nc), .int 0, .int (nI ne), .int st0, .ref q4, .ref q5, .ref q6, .ref q7, .ref q8, .ref q9, .ref q10, .ref q11, .ref q12, .ref q13, .ref q14, .ref q15, .ref q16]))] := (zp_left hD).sub [0, 1] (by decide) rfl
  have hKc : va_K (dC, dI) vwCl [] s := hK.sub [] rfl
  refine va_calli (va_runV (As := [.int p0]) (rest := []) ⟨hx, hb, hml, hown, hts⟩ (c_C_8_isPlace l dC dI _ xa xtape tp rd au xdr hy g 0 tg sg 0 rm ti py bu sm nc 0 ne st0 q4 q5 q6 q7 q8 q9 q10 q11 q12 q13 q14 q15 q16 p0 htp (Nat.le_of_ble_eq_true rfl) (Nat.le_of_ble_eq_true rfl) hnc (Nat.le_of_ble_eq_true rfl) hne (hst0)) (cwV 1 hts g_C_8_from_0_C_8_isPlace rfl rfl rfl (by decide +kernel) ⟨Nat.le_of_ble_eq_true rfl, Nat.le_of_ble_eq_true rfl⟩) ⟨pu_bl, va_recv hK hP (ci := 8) (q0 := 0) rfl rfl, pu_in hPc hKc hDc⟩ rfl rfl hl.1 rfl (lv_room (Nat.le_of_ble_eq_true rfl)) eX8_from_2 ⟨Nat.le_of_ble_eq_true rfl, Nat.le_of_ble_eq_true rfl⟩) hS (fun q _ h => pu_fr hS hA q h) (pu_fr hS hA) (fun r_1 u t H1 locs ht hvm hw hB hz1 hk1 hS => ?_)
  have hP := pu_keep hP hk1
  clear hPc hDc hKc
  clear hk1 hz1 ht hvm
  generalize H1 = H at hP hS ⊢
  rcases hw with ⟨rfl, hw⟩ | rfl
  · obtain ⟨n_2, hn_2, -⟩ := hw
    exact absurd hn_2 (Nat.not_lt_zero _)
  · refine lv_if_eq (tgt := 17) hx hb eX8_from_5 (by decide) (fun _ => ?_) (fun z => absurd z (by decide))
    refine lv_iconst (v := (-1)) hx hb eX8_from_17 (by decide) ?_
    exact W.iret (v := (-1)) hx hb hr (fun t ht hW => ⟨⟨(-1), (), rfl, trivial, trivial⟩, hS.F ht⟩) hS.2.2 eX8_from_18
theorem eX8_from_8 : decode cX8_from 8 = .ok (.aload_n 0, 1) := by decide +kernel
theorem eX8_from_9 : decode cX8_from 9 = .ok (.iload 5, 2) := by decide +kernel
theorem eX8_from_11 : decode cX8_from 11 = .ok (.invokevirtual 140, 3) := by decide +kernel
theorem eX8_from_14 : decode cX8_from 14 = .ok (.ifCond .ne 5, 3) := by decide +kernel
theorem eX8_from_19 : decode cX8_from 19 = .ok (.aload_n 0, 1) := by decide +kernel
theorem eX8_from_20 : decode cX8_from 20 = .ok (.getfield 73, 3) := by decide +kernel
theorem eX8_from_23 : decode cX8_from 23 = .ok (.iconst 0, 1) := by decide +kernel
theorem eX8_from_24 : decode cX8_from 24 = .ok (.iconst 0, 1) := by decide +kernel
theorem eX8_from_25 : decode cX8_from 25 = .ok (.iastore, 1) := by decide +kernel
theorem eX8_from_26 : decode cX8_from 26 = .ok (.aload_n 0, 1) := by decide +kernel
theorem eX8_from_27 : decode cX8_from 27 = .ok (.getfield 73, 3) := by decide +kernel
theorem eX8_from_30 : decode cX8_from 30 = .ok (.iconst 1, 1) := by decide +kernel
theorem eX8_from_31 : decode cX8_from 31 = .ok (.iload_n 2, 1) := by decide +kernel
theorem eX8_from_32 : decode cX8_from 32 = .ok (.iastore, 1) := by decide +kernel
theorem eX8_from_33 : decode cX8_from 33 = .ok (.aload_n 0, 1) := by decide +kernel
theorem eX8_from_34 : decode cX8_from 34 = .ok (.getfield 73, 3) := by decide +kernel
theorem eX8_from_37 : decode cX8_from 37 = .ok (.iconst 2, 1) := by decide +kernel
theorem eX8_from_38 : decode cX8_from 38 = .ok (.iload_n 3, 1) := by decide +kernel
theorem eX8_from_39 : decode cX8_from 39 = .ok (.iastore, 1) := by decide +kernel
theorem eX8_from_40 : decode cX8_from 40 = .ok (.aload_n 0, 1) := by decide +kernel
theorem eX8_from_41 : decode cX8_from 41 = .ok (.getfield 73, 3) := by decide +kernel
theorem eX8_from_44 : decode cX8_from 44 = .ok (.iconst 3, 1) := by decide +kernel
theorem eX8_from_45 : decode cX8_from 45 = .ok (.iload 4, 2) := by decide +kernel
theorem eX8_from_47 : decode cX8_from 47 = .ok (.iastore, 1) := by decide +kernel
theorem eX8_from_48 : decode cX8_from 48 = .ok (.iconst 1, 1) := by decide +kernel
theorem eX8_from_49 : decode cX8_from 49 = .ok (.istore 6, 2) := by decide +kernel
theorem eX8_from_51 : decode cX8_from 51 = .ok (.iload 6, 2) := by decide +kernel
theorem eX8_from_53 : decode cX8_from 53 = .ok (.aload_n 0, 1) := by decide +kernel
theorem eX8_from_54 : decode cX8_from 54 = .ok (.getfield 23, 3) := by decide +kernel
theorem eX8_from_57 : decode cX8_from 57 = .ok (.getfield 116, 3) := by decide +kernel
theorem eX8_from_60 : decode cX8_from 60 = .ok (.if_icmp .gt 33, 3) := by decide +kernel
theorem eX8_from_63 : decode cX8_from 63 = .ok (.aload_n 0, 1) := by decide +kernel
theorem eX8_from_64 : decode cX8_from 64 = .ok (.getfield 73, 3) := by decide +kernel
theorem eX8_from_67 : decode cX8_from 67 = .ok (.iload 6, 2) := by decide +kernel
theorem eX8_from_69 : decode cX8_from 69 = .ok (.iaload, 1) := by decide +kernel
theorem eX8_from_70 : decode cX8_from 70 = .ok (.ifCond .lt 15, 3) := by decide +kernel
theorem eX8_from_73 : decode cX8_from 73 = .ok (.aload_n 0, 1) := by decide +kernel
theorem eX8_from_74 : decode cX8_from 74 = .ok (.getfield 73, 3) := by decide +kernel
theorem eX8_from_77 : decode cX8_from 77 = .ok (.iload 6, 2) := by decide +kernel
theorem eX8_from_79 : decode cX8_from 79 = .ok (.iaload, 1) := by decide +kernel
theorem eX8_from_80 : decode cX8_from 80 = .ok (.bipush 60, 2) := by decide +kernel
theorem eX8_from_82 : decode cX8_from 82 = .ok (.if_icmp .le 5, 3) := by decide +kernel
theorem eX8_from_85 : decode cX8_from 85 = .ok (.iconst (-1), 1) := by decide +kernel
theorem eX8_from_86 : decode cX8_from 86 = .ok (.ireturn, 1) := by decide +kernel
theorem eX8_from_87 : decode cX8_from 87 = .ok (.iinc 6 1, 3) := by decide +kernel
theorem eX8_from_90 : decode cX8_from 90 = .ok (.goto (-39), 3) := by decide +kernel
theorem eX8_from_93 : decode cX8_from 93 = .ok (.aload_n 0, 1) := by decide +kernel
theorem eX8_from_94 : decode cX8_from 94 = .ok (.getfield 46, 3) := by decide +kernel
theorem eX8_from_97 : decode cX8_from 97 = .ok (.aload_n 0, 1) := by decide +kernel
theorem eX8_from_98 : decode cX8_from 98 = .ok (.getfield 23, 3) := by decide +kernel
theorem eX8_from_101 : decode cX8_from 101 = .ok (.iconst 2, 1) := by decide +kernel
theorem eX8_from_102 : decode cX8_from 102 = .ok (.iconst 1, 1) := by decide +kernel
theorem eX8_from_103 : decode cX8_from 103 = .ok (.aload_n 0, 1) := by decide +kernel
theorem eX8_from_104 : decode cX8_from 104 = .ok (.getfield 23, 3) := by decide +kernel
theorem eX8_from_107 : decode cX8_from 107 = .ok (.getfield 116, 3) := by decide +kernel
theorem eX8_from_110 : decode cX8_from 110 = .ok (.iconst 1, 1) := by decide +kernel
theorem eX8_from_111 : decode cX8_from 111 = .ok (.iadd, 1) := by decide +kernel
theorem eX8_from_112 : decode cX8_from 112 = .ok (.invokevirtual 212, 3) := by decide +kernel
theorem eX8_from_115 : decode cX8_from 115 = .ok (.aload_n 0, 1) := by decide +kernel
theorem eX8_from_116 : decode cX8_from 116 = .ok (.getfield 46, 3) := by decide +kernel
theorem eX8_from_119 : decode cX8_from 119 = .ok (.iload 5, 2) := by decide +kernel
theorem eX8_from_121 : decode cX8_from 121 = .ok (.putfield 307, 3) := by decide +kernel
theorem eX8_from_124 : decode cX8_from 124 = .ok (.aload_n 0, 1) := by decide +kernel
theorem eX8_from_125 : decode cX8_from 125 = .ok (.getfield 46, 3) := by decide +kernel
theorem eX8_from_128 : decode cX8_from 128 = .ok (.aload_n 0, 1) := by decide +kernel
theorem eX8_from_129 : decode cX8_from 129 = .ok (.getfield 23, 3) := by decide +kernel
theorem eX8_from_132 : decode cX8_from 132 = .ok (.iload_n 1, 1) := by decide +kernel
theorem eX8_from_133 : decode cX8_from 133 = .ok (.aload_n 0, 1) := by decide +kernel
theorem eX8_from_134 : decode cX8_from 134 = .ok (.getfield 73, 3) := by decide +kernel
theorem eX8_from_137 : decode cX8_from 137 = .ok (.invokevirtual 224, 3) := by decide +kernel
theorem eX8_from_140 : decode cX8_from 140 = .ok (.aload_n 0, 1) := by decide +kernel
theorem eX8_from_141 : decode cX8_from 141 = .ok (.getfield 46, 3) := by decide +kernel
theorem eX8_from_144 : decode cX8_from 144 = .ok (.aload_n 0, 1) := by decide +kernel
theorem eX8_from_145 : decode cX8_from 145 = .ok (.getfield 23, 3) := by decide +kernel
theorem eX8_from_148 : decode cX8_from 148 = .ok (.invokevirtual 220, 3) := by decide +kernel
theorem eX8_from_151 : decode cX8_from 151 = .ok (.aload_n 0, 1) := by decide +kernel
theorem eX8_from_152 : decode cX8_from 152 = .ok (.getfield 46, 3) := by decide +kernel
theorem eX8_from_155 : decode cX8_from 155 = .ok (.getfield 310, 3) := by decide +kernel
theorem eX8_from_158 : decode cX8_from 158 = .ok (.invokestatic 133, 3) := by decide +kernel
theorem eX8_from_161 : decode cX8_from 161 = .ok (.ireturn, 1) := by decide +kernel
abbrev vs_C_8_from : List Cond := .code yX8_from cX8_from 7 (some .int) :: CM
theorem g_C_8_from_C_8_isPlace : GoodIn vs_C_8_from (wsV RX8 140 RX8 yX8_isPlace vs_C_8_isPlace) := cm_gV cm_471 cm_472 cm_473 cm_427 cm_474
theorem g_C_8_from_C_1_plan_16 : GoodIn vs_C_8_from (wsV RX8 212 RX1 yX1_plan vs_C_1_plan_16) := cm_gV cm_516 cm_517 cm_518 cm_113 cm_75
theorem g_C_8_from_C_1_open_16 : GoodIn vs_C_8_from (wsV RX8 224 RX1 yX1_open vs_C_1_open_16) := cm_gV cm_524 cm_525 cm_526 cm_113 cm_88
theorem g_C_8_from_C_1_grow_16 : GoodIn vs_C_8_from (wsV RX8 220 RX1 yX1_grow vs_C_1_grow_16) := cm_gV cm_527 cm_528 cm_529 cm_113 cm_120
theorem g_C_8_from_C_8_bit : GoodIn vs_C_8_from (va_wsS RX8 133 yX8_bit vs_C_8_bit) := cm_gS cm_463 cm_464 cm_427 cm_465
set_option maxHeartbeats 4000000 in
set_option maxRecDepth 100000 in
theorem c_C_8_from (l : Launch) (dC : Nat → ClassId) (dI : Nat → Nat → Nat) (sz : Nat) (xa : Nat) (xtape : Nat) (tp : Nat) (rd : Nat) (au : Nat) (xdr : Nat) (hy : Nat) (g : Nat) (hs : Nat) (tg : Nat) (sg : Nat) (ss : Nat) (rm : Nat) (ti : Nat) (py : Nat) (bu : Nat) (sm : Nat) (nc : Nat) (np : Nat) (ne : Nat) (st0 : Nat) (q4 : Nat) (q5 : Nat) (q6 : Nat) (q7 : Nat) (q8 : Nat) (q9 : Nat) (q10 : Nat) (q11 : Nat) (q12 : Nat) (q13 : Nat) (q14 : Nat) (q15 : Nat) (q16 : Nat) (k_f4 : ClassId) (f4 : Nat → Int32) (k_f5 : ClassId) (q_f5 : Nat → Nat) (k_f6 : ClassId) (q_f6 : Nat → Nat) (k_f7 : ClassId) (f7 : Nat → Int32) (k_f8 : ClassId) (q_f8 : Nat → Nat) (k_f9 : ClassId) (q_f9 : Nat → Nat) (k_f10 : ClassId) (f10 : Nat → Int32) (k_f11 : ClassId) (f11 : Nat → Int32) (k_f12 : ClassId) (f12 : Nat → Int32) (k_f13 : ClassId) (f13 : Nat → Int32) (k_f14 : ClassId) (f14 : Nat → Int32) (k_f15 : ClassId) (f15 : Nat → Int32) (k_f16 : ClassId) (f16 : Nat → Int32) (tz : Nat) (t1 : Nat) (t2 : Nat) (t3 : Nat) (t4 : Nat) (t5 : Nat) (tc : Nat) (tfull : Nat) (tx : Int32) (tway : Int32) (tav : Int32) (tgoal : Int32) (tfound : Nat) (tl : Nat) (tsz : Nat) (t16 : Nat) (t17 : Nat) (k_ftz : ClassId) (k_s1t : ClassId) (q_s1t : Nat → Nat) (k_s2t : ClassId) (s2t : Nat → Int32) (k_s3t : ClassId) (s3t : Nat → Int32) (k_s4t : ClassId) (s4t : Nat → Int32) (k_s5t : ClassId) (s5t : Nat → Int32) (k_hit : ClassId) (hit : Nat → Int32) (k_lot : ClassId) (lot : Nat → Int32) (k_fbu : ClassId) (fbu : Nat → Int32) (N : Nat) (o : Nat) (az ac : Nat → Nat) (kz : Nat → ClassId) (qs : Nat → Nat) (fz : Nat → Nat → Int32) (p0 : Int32) (p1 : Int32) (p2 : Int32) (p3 : Int32) (p4 : Int32) (htp : tp ≤ 900) (hhs : hs ≤ 1) (hss : ss ≤ 1) (hnc : nc ≤ 3) (hnp : np ≤ 8) (hne : ne ≤ 14) (hst0 : st0 ≤ 7) (htc : tc ≤ 120) (htfull : tfull ≤ 1) (htfound : tfound ≤ 1) (htl : tl ≤ 1) (htsz : tsz ≤ 4) (hN : o + 121 ≤ N) (hq0 : gz_ok tc s2t s3t s4t) : Met l yX8_from vs_C_8_from ({ frames := 5, cells := 0, slots := 0, locals := 125 }) (va_Pc [.ref xa, .int p0, .int p1, .int p2, .int p3, .int p4] (pu_B (dC, dI) ((xtr__w xa xtape (nI tp) rd au xdr hy g (nI hs) tg sg (nI ss) rm ti py bu sm (nI nc) (nI np) (nI ne) (nI st0) q4 q5 q6 q7 q8 q9 q10 q11 q12 q13 q14 q15 q16 k_f4 f4 k_f5 (bN 7 q_f5) k_f6 (bN 7 q_f6) k_f7 f7 k_f8 (bN 4 q_f8) k_f9 (bN 2 q_f9) k_f10 f10 k_f11 f11 k_f12 f12 k_f13 f13 k_f14 f14 k_f15 f15 k_f16 f16 tz t1 t2 t3 t4 t5 (nI tc) (nI tfull) tx tway tav tgoal (nI tfound) 120 (nI tl) (nI tsz) t16 t17 k_ftz (zs o 121 az) k_s1t (bN 7 q_s1t) k_s2t s2t k_s3t s3t k_s4t s4t k_s5t s5t k_hit hit k_lot lot k_fbu fbu) ++ zp 4 16 N az ac kz qs fz) ((xtr__t k_f4 k_f5 k_f6 k_f7 k_f8 k_f9 k_f10 k_f11 k_f12 k_f13 k_f14 k_f15 k_f16 k_ftz k_s1t k_s2t k_s3t k_s4t k_s5t k_hit k_lot k_fbu) ++ zt N kz) sz)) (va_Qi (fun (r : Int32) (_ : Unit) => True) (fun _ t => ∃ (z_s1t : Nat → Nat) (z_s2t : Nat → Int32) (z_s3t : Nat → Int32) (z_s4t : Nat → Int32) (z_s5t : Nat → Int32) (z_hit : Nat → Int32) (z_lot : Nat → Int32) (z_fbu : Nat → Int32) (z_tav : Int32) (z_tgoal : Int32) (z_tfound : Nat) (z_tl : Nat) (z_tsz : Nat) (z_tc : Nat) (z_tfull : Nat) (z_tx : Int32) (z_tway : Int32) (z_fz : Nat → Nat → Int32) (z_qs : Nat → Nat), pu_E (dC, dI) ((xtr__w xa xtape (nI tp) rd au xdr hy g (nI hs) tg sg (nI ss) rm ti py bu sm (nI nc) (nI np) (nI ne) (nI st0) q4 q5 q6 q7 q8 q9 q10 q11 q12 q13 q14 q15 q16 k_f4 f4 k_f5 (bN 7 q_f5) k_f6 (bN 7 q_f6) k_f7 f7 k_f8 (bN 4 q_f8) k_f9 (bN 2 q_f9) k_f10 f10 k_f11 f11 k_f12 f12 k_f13 f13 k_f14 f14 k_f15 f15 k_f16 f16 tz t1 t2 t3 t4 t5 (nI z_tc) (nI z_tfull) z_tx z_tway z_tav z_tgoal (nI z_tfound) 120 (nI z_tl) (nI z_tsz) t16 t17 k_ftz (zs o 121 az) k_s1t (bN 7 z_s1t) k_s2t z_s2t k_s3t z_s3t k_s4t z_s4t k_s5t z_s5t k_hit z_hit k_lot z_lot k_fbu z_fbu) ++ zp 4 16 N az ac kz z_qs z_fz) ((xtr__t k_f4 k_f5 k_f6 k_f7 k_f8 k_f9 k_f10 k_f11 k_f12 k_f13 k_f14 k_f15 k_f16 k_ftz k_s1t k_s2t k_s3t k_s4t k_s5t k_hit k_lot k_fbu) ++ zt N kz) (va_A (((xtr__w xa xtape (nI tp) rd au xdr hy g (nI hs) tg sg (nI ss) rm ti py bu sm (nI nc) (nI np) (nI ne) (nI st0) q4 q5 q6 q7 q8 q9 q10 q11 q12 q13 q14 q15 q16 k_f4 f4 k_f5 (bN 7 q_f5) k_f6 (bN 7 q_f6) k_f7 f7 k_f8 (bN 4 q_f8) k_f9 (bN 2 q_f9) k_f10 f10 k_f11 f11 k_f12 f12 k_f13 f13 k_f14 f14 k_f15 f15 k_f16 f16 tz t1 t2 t3 t4 t5 (nI tc) (nI tfull) tx tway tav tgoal (nI tfound) 120 (nI tl) (nI tsz) t16 t17 k_ftz (zs o 121 az) k_s1t (bN 7 q_s1t) k_s2t s2t k_s3t s3t k_s4t s4t k_s5t s5t k_hit hit k_lot lot k_fbu fbu) ++ zp 4 16 N az ac kz qs fz)) sz) t ∧ (z_tfound ≤ 1) ∧ (z_tl ≤ 1) ∧ (z_tsz ≤ 4) ∧ (z_tc ≤ 120) ∧ (z_tfull ≤ 1) ∧ (gz_ok z_tc z_s2t z_s3t z_s4t)) (va_A (((xtr__w xa xtape (nI tp) rd au xdr hy g (nI hs) tg sg (nI ss) rm ti py bu sm (nI nc) (nI np) (nI ne) (nI st0) q4 q5 q6 q7 q8 q9 q10 q11 q12 q13 q14 q15 q16 k_f4 f4 k_f5 (bN 7 q_f5) k_f6 (bN 7 q_f6) k_f7 f7 k_f8 (bN 4 q_f8) k_f9 (bN 2 q_f9) k_f10 f10 k_f11 f11 k_f12 f12 k_f13 f13 k_f14 f14 k_f15 f15 k_f16 f16 tz t1 t2 t3 t4 t5 (nI tc) (nI tfull) tx tway tav tgoal (nI tfound) 120 (nI tl) (nI tsz) t16 t17 k_ftz (zs o 121 az) k_s1t (bN 7 q_s1t) k_s2t s2t k_s3t s3t k_s4t s4t k_s5t s5t k_hit hit k_lot lot k_fbu fbu) ++ zp 4 16 N az ac kz qs fz)) sz)) 0 0 (va_A (((xtr__w xa xtape (nI tp) rd au xdr hy g (nI hs) tg sg (nI ss) rm ti py bu sm (nI nc) (nI np) (nI ne) (nI st0) q4 q5 q6 q7 q8 q9 q10 q11 q12 q13 q14 q15 q16 k_f4 f4 k_f5 (bN 7 q_f5) k_f6 (bN 7 q_f6) k_f7 f7 k_f8 (bN 4 q_f8) k_f9 (bN 2 q_f9) k_f10 f10 k_f11 f11 k_f12 f12 k_f13 f13 k_f14 f14 k_f15 f15 k_f16 f16 tz t1 t2 t3 t4 t5 (nI tc) (nI tfull) tx tway tav tgoal (nI tfound) 120 (nI tl) (nI tsz) t16 t17 k_ftz (zs o 121 az) k_s1t (bN 7 q_s1t) k_s2t s2t k_s3t s3t k_s4t s4t k_s5t s5t k_hit hit k_lot lot k_fbu fbu) ++ zp 4 16 N az ac kz qs fz)) sz) := by
  refine Met.ofW (cc := cX8_from) (maxL := 7) (ret := (some .int)) (by decide) rfl ?_
  intro p e s m args below meth c s₁ B hml hv
  obtain ⟨rfl, rfl, hP, hK, hD0⟩ := hv
  have hx := B.exec
  have hb := B.bytes
  have hr := B.returns
  have hts := atoms_spec (ws := vs_C_8_from) B.pre
  have v_6 := hts (.fieldLink RX8 73 "ClockReach" "beginUnits" "[I") (List.mem_cons_of_mem _ cm_523)
  have v_7 := hts (.fieldLink RX8 23 "ClockReach" "model" "LClockReach$Automaton;") (List.mem_cons_of_mem _ cm_434)
  have v_8 := hts (.fieldLink RX8 116 "ClockReach$Automaton" "clocks" "I") (List.mem_cons_of_mem _ cm_453)
  have v_9 := hts (.fieldLink RX8 46 "ClockReach" "tried" "LClockReach$Graph;") (List.mem_cons_of_mem _ cm_590)
  have v_15 := hts (.fieldLink RX8 307 "ClockReach$Graph" "goal" "I") (List.mem_cons_of_mem _ cm_591)
  have v_24 := hts (.fieldLink RX8 310 "ClockReach$Graph" "found" "Z") (List.mem_cons_of_mem _ cm_592)
  have hown : s.vm.findClass RX8 = some m.cls := findClass_of_methodNamed B.named
  have hlocks := B.notSynchronized
  have hiX0 : ∀ w ∈ wsX00, w ∈ vs_C_8_from := fun _ h => List.mem_cons_of_mem _ (cm_X0 h)
  have hiX1 : ∀ w ∈ wsX10, w ∈ vs_C_8_from := fun _ h => List.mem_cons_of_mem _ (cm_X1 h)
  have hiX8 : ∀ w ∈ wsX80, w ∈ vs_C_8_from := fun _ h => List.mem_cons_of_mem _ (cm_X8 h)
  have hD := hD0.self (sz := s.heap.size)
  generalize hAe : va_A (((xtr__w xa xtape (nI tp) rd au xdr hy g (nI hs) tg sg (nI ss) rm ti py bu sm (nI nc) (nI np) (nI ne) (nI st0) q4 q5 q6 q7 q8 q9 q10 q11 q12 q13 q14 q15 q16 k_f4 f4 k_f5 (bN 7 q_f5) k_f6 (bN 7 q_f6) k_f7 f7 k_f8 (bN 4 q_f8) k_f9 (bN 2 q_f9) k_f10 f10 k_f11 f11 k_f12 f12 k_f13 f13 k_f14 f14 k_f15 f15 k_f16 f16 tz t1 t2 t3 t4 t5 (nI tc) (nI tfull) tx tway tav tgoal (nI tfound) 120 (nI tl) (nI tsz) t16 t17 k_ftz (zs o 121 az) k_s1t (bN 7 q_s1t) k_s2t s2t k_s3t s3t k_s4t s4t k_s5t s5t k_hit hit k_lot lot k_fbu fbu) ++ zp 4 16 N az ac kz qs fz)) s.heap.size = A at hD ⊢
  have hA : ∀ q : Nat, s.heap.size ≤ q → A q := fun q h => by rw [← hAe]; exact Or.inr h
  have hS : va_S A s.heap s.heap [] := va_S.rf
  have hl := lv_entry ([.ref xa, .int p0, .int p1, .int p2, .int p3, .int p4]) (n := 7) (Nat.le_of_ble_eq_true rfl)
  rw [lg_entry_eq]
  generalize (lg_sl ([.ref xa, .int p0, .int p1, .int p2, .int p3, .int p4]) ++ List.replicate (7 - (lg_sl ([.ref xa, .int p0, .int p1, .int p2, .int p3, .int p4])).length) Slot.unset).toArray = ls at hl ⊢
  have hl : lv_has ls 7 [(0, .ref xa), (1, .int p0), (2, .int p1), (3, .int p2), (4, .int p3), (5, .int p4)] := hl
  refine lv_aload_n hx hb eX8_from_0 rfl (lv_at hl 0 rfl) ?_
  refine lv_iload_n hx hb eX8_from_1 rfl (lv_at hl 1 rfl) ?_
  have hPc : va_P (dC, dI) vwCl [(xa, .inr (8, [.ref xtape, .int (nI tp), .ref rd, .ref au, .ref xdr, .ref hy, .ref g, .int (nI hs), .ref tg, .ref sg, .int (nI ss), .ref rm, .ref ti, .ref py, .ref bu, .ref sm])), (au, .inr (0, [.int (nI nc), .int (nI np), .int (nI ne), .int (nI st0), .ref q4, .ref q5, .ref q6, .ref q7, .ref q8, .ref q9, .ref q10, .ref q11, .ref q12, .ref q13, .ref q14, .ref q15, .ref q16]))] _ := hP.sub [0, 1] rfl
  have hDc : va_D A [(xa, .inr (8, [.ref xtape, .int (nI tp), .ref rd, .ref au, .ref xdr, .ref hy, .ref g, .int (nI hs), .ref tg, .ref sg, .int (nI ss), .ref rm, .ref ti, .ref py, .ref bu, .ref sm])), (au, .inr (0, [.int (nI nc), .int (nI np), .int (nI ne), .int (nI st0), .ref q4, .ref q5, .ref q6, .ref q7, .ref q8, .ref q9, .ref q10, .ref q11, .ref q12, .ref q13, .ref q14, .ref q15, .ref q16]))] := (zp_left hD).sub [0, 1] (by decide) rfl
  have hKc : va_K (dC, dI) vwCl [] s := hK.sub [] rfl
  refine va_calli (va_runV (As := [.int p0]) (rest := []) ⟨hx, hb, hml, hown, hts⟩ (c_C_8_isPlace l dC dI _ xa xtape tp rd au xdr hy g hs tg sg ss rm ti py bu sm nc np ne (nI st0) q4 q5 q6 q7 q8 q9 q10 q11 q12 q13 q14 q15 q16 p0 htp hhs hss hnc hnp hne (Or.inr ⟨st0, hst0, rfl⟩)) (cwV 1 hts g_C_8_from_C_8_isPlace rfl rfl rfl (by decide +kernel) ⟨Nat.le_of_ble_eq_true rfl, Nat.le_of_ble_eq_true rfl⟩) ⟨pu_bl, va_recv hK hP (ci := 8) (q0 := 0) rfl rfl, pu_in hPc hKc hDc⟩ rfl rfl hl.1 rfl (lv_room (Nat.le_of_ble_eq_true rfl)) eX8_from_2 ⟨Nat.le_of_ble_eq_true rfl, Nat.le_of_ble_eq_true rfl⟩) hS (fun q _ h => pu_fr hS hA q h) (pu_fr hS hA) (fun r_1 u t H1 locs ht hvm hw hB hz1 hk1 hS => ?_)
  have hP := pu_keep hP hk1
  clear hPc hDc hKc
  clear hk1 hz1 ht hvm
  generalize H1 = H at hP hS ⊢
  rcases hw with ⟨rfl, hw⟩ | rfl
  · obtain ⟨n_2, hn_2, rfl⟩ := hw
    refine lv_if_eq (tgt := 17) hx hb eX8_from_5 (by decide) (fun z => absurd z (by decide)) (fun _ => ?_)
    refine lv_aload_n hx hb eX8_from_8 rfl (lv_at hl 0 rfl) ?_
    refine lv_iload hx hb eX8_from_9 (lv_at hl 5 rfl) ?_
    have hPc : va_P (dC, dI) vwCl [(xa, .inr (8, [.ref xtape, .int (nI tp), .ref rd, .ref au, .ref xdr, .ref hy, .ref g, .int (nI hs), .ref tg, .ref sg, .int (nI ss), .ref rm, .ref ti, .ref py, .ref bu, .ref sm])), (au, .inr (0, [.int (nI nc), .int (nI np), .int (nI ne), .int (nI st0), .ref q4, .ref q5, .ref q6, .ref q7, .ref q8, .ref q9, .ref q10, .ref q11, .ref q12, .ref q13, .ref q14, .ref q15, .ref q16]))] _ := hP.sub [0, 1] rfl
    have hDc : va_D A [(xa, .inr (8, [.ref xtape, .int (nI tp), .ref rd, .ref au, .ref xdr, .ref hy, .ref g, .int (nI hs), .ref tg, .ref sg, .int (nI ss), .ref rm, .ref ti, .ref py, .ref bu, .ref sm])), (au, .inr (0, [.int (nI nc), .int (nI np), .int (nI ne), .int (nI st0), .ref q4, .ref q5, .ref q6, .ref q7, .ref q8, .ref q9, .ref q10, .ref q11, .ref q12, .ref q13, .ref q14, .ref q15, .ref q16]))] := (zp_left hD).sub [0, 1] (by decide) rfl
    have hKc : va_K (dC, dI) vwCl [] s := hK.sub [] rfl
    refine va_calli (va_runV (As := [.int p4]) (rest := []) ⟨hx, hb, hml, hown, hts⟩ (c_C_8_isPlace l dC dI _ xa xtape tp rd au xdr hy g hs tg sg ss rm ti py bu sm nc np ne (nI st0) q4 q5 q6 q7 q8 q9 q10 q11 q12 q13 q14 q15 q16 p4 htp hhs hss hnc hnp hne (Or.inr ⟨st0, hst0, rfl⟩)) (cwV 1 hts g_C_8_from_C_8_isPlace rfl rfl rfl (by decide +kernel) ⟨Nat.le_of_ble_eq_true rfl, Nat.le_of_ble_eq_true rfl⟩) ⟨pu_bl, va_recv hK hP (ci := 8) (q0 := 0) rfl rfl, pu_in hPc hKc hDc⟩ rfl rfl hl.1 rfl (lv_room (Nat.le_of_ble_eq_true rfl)) eX8_from_11 ⟨Nat.le_of_ble_eq_true rfl, Nat.le_of_ble_eq_true rfl⟩) hS (fun q _ h => pu_fr hS hA q h) (pu_fr hS hA) (fun r_3 u t H1 locs ht hvm hw hB hz1 hk1 hS => ?_)
    have hP := pu_keep hP hk1
    clear hPc hDc hKc
    clear hk1 hz1 ht hvm
    generalize H1 = H at hP hS ⊢
    rcases hw with ⟨rfl, hw⟩ | rfl
    · obtain ⟨n_4, hn_4, rfl⟩ := hw
      refine lv_if_ne (tgt := 19) hx hb eX8_from_14 (by decide) (fun _ => ?_) (fun z => absurd z (by decide))
      refine lv_aload_n hx hb eX8_from_19 rfl (lv_at hl 0 rfl) ?_
      refine va_get (D := (dC, dI)) (ci := 8) (v := .ref bu) (C := RX8) (T := TX8) (N := 16) hx hb hts hiX8 hown hK hP 0 rfl rfl 14 (by decide) v_6 (fun _ h9 => h9) rfl eX8_from_20 ?_
      refine lv_iconst (v := 0) hx hb eX8_from_23 (by decide) ?_
      refine lv_iconst (v := 0) hx hb eX8_from_24 (by decide) ?_
      refine va_iast hx hb hK hP hD hS 24 21 rfl rfl (vp_in_nI (n := 0) (Nat.le_of_ble_eq_true rfl) (Nat.le_of_ble_eq_true rfl)) eX8_from_25 (fun H locs hP hD hS => ?_)
      have hP : va_P (dC, dI) vwCl ((xtr__w xa xtape (nI tp) rd au xdr hy g (nI hs) tg sg (nI ss) rm ti py bu sm (nI nc) (nI np) (nI ne) (nI st0) q4 q5 q6 q7 q8 q9 q10 q11 q12 q13 q14 q15 q16 k_f4 f4 k_f5 (bN 7 q_f5) k_f6 (bN 7 q_f6) k_f7 f7 k_f8 (bN 4 q_f8) k_f9 (bN 2 q_f9) k_f10 f10 k_f11 f11 k_f12 f12 k_f13 f13 k_f14 f14 k_f15 f15 k_f16 f16 tz t1 t2 t3 t4 t5 (nI tc) (nI tfull) tx tway tav tgoal (nI tfound) 120 (nI tl) (nI tsz) t16 t17 k_ftz (zs o 121 az) k_s1t (bN 7 q_s1t) k_s2t s2t k_s3t s3t k_s4t s4t k_s5t s5t k_hit hit k_lot lot k_fbu (upd fbu (0 : Int32).toNatClampNeg 0)) ++ zp 4 16 N az ac kz qs fz) H := hP
      have hD : va_D A ((xtr__w xa xtape (nI tp) rd au xdr hy g (nI hs) tg sg (nI ss) rm ti py bu sm (nI nc) (nI np) (nI ne) (nI st0) q4 q5 q6 q7 q8 q9 q10 q11 q12 q13 q14 q15 q16 k_f4 f4 k_f5 (bN 7 q_f5) k_f6 (bN 7 q_f6) k_f7 f7 k_f8 (bN 4 q_f8) k_f9 (bN 2 q_f9) k_f10 f10 k_f11 f11 k_f12 f12 k_f13 f13 k_f14 f14 k_f15 f15 k_f16 f16 tz t1 t2 t3 t4 t5 (nI tc) (nI tfull) tx tway tav tgoal (nI tfound) 120 (nI tl) (nI tsz) t16 t17 k_ftz (zs o 121 az) k_s1t (bN 7 q_s1t) k_s2t s2t k_s3t s3t k_s4t s4t k_s5t s5t k_hit hit k_lot lot k_fbu (upd fbu (0 : Int32).toNatClampNeg 0)) ++ zp 4 16 N az ac kz qs fz) := hD
      refine lv_aload_n hx hb eX8_from_26 rfl (lv_at hl 0 rfl) ?_
      refine va_get (D := (dC, dI)) (ci := 8) (v := .ref bu) (C := RX8) (T := TX8) (N := 16) hx hb hts hiX8 hown hK hP 0 rfl rfl 14 (by decide) v_6 (fun _ h9 => h9) rfl eX8_from_27 ?_
      refine lv_iconst (v := 1) hx hb eX8_from_30 (by decide) ?_
      refine lv_iload_n hx hb eX8_from_31 rfl (lv_at hl 2 rfl) ?_
      refine va_iast hx hb hK hP hD hS 24 21 rfl rfl (vp_in_nI (n := 1) (Nat.le_of_ble_eq_true rfl) (Nat.le_of_ble_eq_true rfl)) eX8_from_32 (fun H locs hP hD hS => ?_)
      have hP : va_P (dC, dI) vwCl ((xtr__w xa xtape (nI tp) rd au xdr hy g (nI hs) tg sg (nI ss) rm ti py bu sm (nI nc) (nI np) (nI ne) (nI st0) q4 q5 q6 q7 q8 q9 q10 q11 q12 q13 q14 q15 q16 k_f4 f4 k_f5 (bN 7 q_f5) k_f6 (bN 7 q_f6) k_f7 f7 k_f8 (bN 4 q_f8) k_f9 (bN 2 q_f9) k_f10 f10 k_f11 f11 k_f12 f12 k_f13 f13 k_f14 f14 k_f15 f15 k_f16 f16 tz t1 t2 t3 t4 t5 (nI tc) (nI tfull) tx tway tav tgoal (nI tfound) 120 (nI tl) (nI tsz) t16 t17 k_ftz (zs o 121 az) k_s1t (bN 7 q_s1t) k_s2t s2t k_s3t s3t k_s4t s4t k_s5t s5t k_hit hit k_lot lot k_fbu (upd (upd fbu (0 : Int32).toNatClampNeg 0) (1 : Int32).toNatClampNeg p1)) ++ zp 4 16 N az ac kz qs fz) H := hP
      have hD : va_D A ((xtr__w xa xtape (nI tp) rd au xdr hy g (nI hs) tg sg (nI ss) rm ti py bu sm (nI nc) (nI np) (nI ne) (nI st0) q4 q5 q6 q7 q8 q9 q10 q11 q12 q13 q14 q15 q16 k_f4 f4 k_f5 (bN 7 q_f5) k_f6 (bN 7 q_f6) k_f7 f7 k_f8 (bN 4 q_f8) k_f9 (bN 2 q_f9) k_f10 f10 k_f11 f11 k_f12 f12 k_f13 f13 k_f14 f14 k_f15 f15 k_f16 f16 tz t1 t2 t3 t4 t5 (nI tc) (nI tfull) tx tway tav tgoal (nI tfound) 120 (nI tl) (nI tsz) t16 t17 k_ftz (zs o 121 az) k_s1t (bN 7 q_s1t) k_s2t s2t k_s3t s3t k_s4t s4t k_s5t s5t k_hit hit k_lot lot k_fbu (upd (upd fbu (0 : Int32).toNatClampNeg 0) (1 : Int32).toNatClampNeg p1)) ++ zp 4 16 N az ac kz qs fz) := hD
      refine lv_aload_n hx hb eX8_from_33 rfl (lv_at hl 0 rfl) ?_
      refine va_get (D := (dC, dI)) (ci := 8) (v := .ref bu) (C := RX8) (T := TX8) (N := 16) hx hb hts hiX8 hown hK hP 0 rfl rfl 14 (by decide) v_6 (fun _ h9 => h9) rfl eX8_from_34 ?_
      refine lv_iconst (v := 2) hx hb eX8_from_37 (by decide) ?_
      refine lv_iload_n hx hb eX8_from_38 rfl (lv_at hl 3 rfl) ?_
      refine va_iast hx hb hK hP hD hS 24 21 rfl rfl (vp_in_nI (n := 2) (Nat.le_of_ble_eq_true rfl) (Nat.le_of_ble_eq_true rfl)) eX8_from_39 (fun H locs hP hD hS => ?_)
      have hP : va_P (dC, dI) vwCl ((xtr__w xa xtape (nI tp) rd au xdr hy g (nI hs) tg sg (nI ss) rm ti py bu sm (nI nc) (nI np) (nI ne) (nI st0) q4 q5 q6 q7 q8 q9 q10 q11 q12 q13 q14 q15 q16 k_f4 f4 k_f5 (bN 7 q_f5) k_f6 (bN 7 q_f6) k_f7 f7 k_f8 (bN 4 q_f8) k_f9 (bN 2 q_f9) k_f10 f10 k_f11 f11 k_f12 f12 k_f13 f13 k_f14 f14 k_f15 f15 k_f16 f16 tz t1 t2 t3 t4 t5 (nI tc) (nI tfull) tx tway tav tgoal (nI tfound) 120 (nI tl) (nI tsz) t16 t17 k_ftz (zs o 121 az) k_s1t (bN 7 q_s1t) k_s2t s2t k_s3t s3t k_s4t s4t k_s5t s5t k_hit hit k_lot lot k_fbu (upd (upd (upd fbu (0 : Int32).toNatClampNeg 0) (1 : Int32).toNatClampNeg p1) (2 : Int32).toNatClampNeg p2)) ++ zp 4 16 N az ac kz qs fz) H := hP
      have hD : va_D A ((xtr__w xa xtape (nI tp) rd au xdr hy g (nI hs) tg sg (nI ss) rm ti py bu sm (nI nc) (nI np) (nI ne) (nI st0) q4 q5 q6 q7 q8 q9 q10 q11 q12 q13 q14 q15 q16 k_f4 f4 k_f5 (bN 7 q_f5) k_f6 (bN 7 q_f6) k_f7 f7 k_f8 (bN 4 q_f8) k_f9 (bN 2 q_f9) k_f10 f10 k_f11 f11 k_f12 f12 k_f13 f13 k_f14 f14 k_f15 f15 k_f16 f16 tz t1 t2 t3 t4 t5 (nI tc) (nI tfull) tx tway tav tgoal (nI tfound) 120 (nI tl) (nI tsz) t16 t17 k_ftz (zs o 121 az) k_s1t (bN 7 q_s1t) k_s2t s2t k_s3t s3t k_s4t s4t k_s5t s5t k_hit hit k_lot lot k_fbu (upd (upd (upd fbu (0 : Int32).toNatClampNeg 0) (1 : Int32).toNatClampNeg p1) (2 : Int32).toNatClampNeg p2)) ++ zp 4 16 N az ac kz qs fz) := hD
      refine lv_aload_n hx hb eX8_from_40 rfl (lv_at hl 0 rfl) ?_
      refine va_get (D := (dC, dI)) (ci := 8) (v := .ref bu) (C := RX8) (T := TX8) (N := 16) hx hb hts hiX8 hown hK hP 0 rfl rfl 14 (by decide) v_6 (fun _ h9 => h9) rfl eX8_from_41 ?_
      refine lv_iconst (v := 3) hx hb eX8_from_44 (by decide) ?_
      refine lv_iload hx hb eX8_from_45 (lv_at hl 4 rfl) ?_
      refine va_iast hx hb hK hP hD hS 24 21 rfl rfl (vp_in_nI (n := 3) (Nat.le_of_ble_eq_true rfl) (Nat.le_of_ble_eq_true rfl)) eX8_from_47 (fun H locs hP hD hS => ?_)
      have hP : va_P (dC, dI) vwCl ((xtr__w xa xtape (nI tp) rd au xdr hy g (nI hs) tg sg (nI ss) rm ti py bu sm (nI nc) (nI np) (nI ne) (nI st0) q4 q5 q6 q7 q8 q9 q10 q11 q12 q13 q14 q15 q16 k_f4 f4 k_f5 (bN 7 q_f5) k_f6 (bN 7 q_f6) k_f7 f7 k_f8 (bN 4 q_f8) k_f9 (bN 2 q_f9) k_f10 f10 k_f11 f11 k_f12 f12 k_f13 f13 k_f14 f14 k_f15 f15 k_f16 f16 tz t1 t2 t3 t4 t5 (nI tc) (nI tfull) tx tway tav tgoal (nI tfound) 120 (nI tl) (nI tsz) t16 t17 k_ftz (zs o 121 az) k_s1t (bN 7 q_s1t) k_s2t s2t k_s3t s3t k_s4t s4t k_s5t s5t k_hit hit k_lot lot k_fbu (upd (upd (upd (upd fbu (0 : Int32).toNatClampNeg 0) (1 : Int32).toNatClampNeg p1) (2 : Int32).toNatClampNeg p2) (3 : Int32).toNatClampNeg p3)) ++ zp 4 16 N az ac kz qs fz) H := hP
      have hD : va_D A ((xtr__w xa xtape (nI tp) rd au xdr hy g (nI hs) tg sg (nI ss) rm ti py bu sm (nI nc) (nI np) (nI ne) (nI st0) q4 q5 q6 q7 q8 q9 q10 q11 q12 q13 q14 q15 q16 k_f4 f4 k_f5 (bN 7 q_f5) k_f6 (bN 7 q_f6) k_f7 f7 k_f8 (bN 4 q_f8) k_f9 (bN 2 q_f9) k_f10 f10 k_f11 f11 k_f12 f12 k_f13 f13 k_f14 f14 k_f15 f15 k_f16 f16 tz t1 t2 t3 t4 t5 (nI tc) (nI tfull) tx tway tav tgoal (nI tfound) 120 (nI tl) (nI tsz) t16 t17 k_ftz (zs o 121 az) k_s1t (bN 7 q_s1t) k_s2t s2t k_s3t s3t k_s4t s4t k_s5t s5t k_hit hit k_lot lot k_fbu (upd (upd (upd (upd fbu (0 : Int32).toNatClampNeg 0) (1 : Int32).toNatClampNeg p1) (2 : Int32).toNatClampNeg p2) (3 : Int32).toNatClampNeg p3)) ++ zp 4 16 N az ac kz qs fz) := hD
      refine lv_iconst (v := 1) hx hb eX8_from_48 (by decide) ?_
      refine lv_istore (lv' := [(6, .int 1), (0, .ref xa), (1, .int (nI n_2)), (2, .int p1), (3, .int p2), (4, .int p3), (5, .int (nI n_4))]) hx hb eX8_from_49 hl (by decide) rfl (fun ls hl => ?_)
      refine pu_while (fun nn H locs ls => ∃ (g_6 : Nat), nn = 4 - g_6 ∧ (1 ≤ g_6 ∧ g_6 ≤ 4) ∧ va_P (dC, dI) vwCl ((xtr__w xa xtape (nI tp) rd au xdr hy g (nI hs) tg sg (nI ss) rm ti py bu sm (nI nc) (nI np) (nI ne) (nI st0) q4 q5 q6 q7 q8 q9 q10 q11 q12 q13 q14 q15 q16 k_f4 f4 k_f5 (bN 7 q_f5) k_f6 (bN 7 q_f6) k_f7 f7 k_f8 (bN 4 q_f8) k_f9 (bN 2 q_f9) k_f10 f10 k_f11 f11 k_f12 f12 k_f13 f13 k_f14 f14 k_f15 f15 k_f16 f16 tz t1 t2 t3 t4 t5 (nI tc) (nI tfull) tx tway tav tgoal (nI tfound) 120 (nI tl) (nI tsz) t16 t17 k_ftz (zs o 121 az) k_s1t (bN 7 q_s1t) k_s2t s2t k_s3t s3t k_s4t s4t k_s5t s5t k_hit hit k_lot lot k_fbu (upd (upd (upd (upd fbu (0 : Int32).toNatClampNeg 0) (1 : Int32).toNatClampNeg p1) (2 : Int32).toNatClampNeg p2) (3 : Int32).toNatClampNeg p3)) ++ zp 4 16 N az ac kz qs fz) H ∧ va_D A ((xtr__w xa xtape (nI tp) rd au xdr hy g (nI hs) tg sg (nI ss) rm ti py bu sm (nI nc) (nI np) (nI ne) (nI st0) q4 q5 q6 q7 q8 q9 q10 q11 q12 q13 q14 q15 q16 k_f4 f4 k_f5 (bN 7 q_f5) k_f6 (bN 7 q_f6) k_f7 f7 k_f8 (bN 4 q_f8) k_f9 (bN 2 q_f9) k_f10 f10 k_f11 f11 k_f12 f12 k_f13 f13 k_f14 f14 k_f15 f15 k_f16 f16 tz t1 t2 t3 t4 t5 (nI tc) (nI tfull) tx tway tav tgoal (nI tfound) 120 (nI tl) (nI tsz) t16 t17 k_ftz (zs o 121 az) k_s1t (bN 7 q_s1t) k_s2t s2t k_s3t s3t k_s4t s4t k_s5t s5t k_hit hit k_lot lot k_fbu (upd (upd (upd (upd fbu (0 : Int32).toNatClampNeg 0) (1 : Int32).toNatClampNeg p1) (2 : Int32).toNatClampNeg p2) (3 : Int32).toNatClampNeg p3)) ++ zp 4 16 N az ac kz qs fz) ∧ va_S A s.heap H locs ∧ lv_has ls 7 [(0, .ref xa), (1, .int (nI n_2)), (2, .int p1), (3, .int p2), (4, .int p3), (5, .int (nI n_4)), (6, .int (nI g_6))]) 51 ?_ _ _ _ _ ⟨1, rfl, ⟨by omega, by omega⟩, hP, hD, hS, lv_sub hl [1, 2, 3, 4, 5, 6, 0] rfl⟩
      rintro nn ih_7 H locs ls ⟨g_6, rfl, hg_6, hP, hD, hS, hl⟩
      refine lv_iload hx hb eX8_from_51 (lv_at hl 6 rfl) ?_
      refine lv_aload_n hx hb eX8_from_53 rfl (lv_at hl 0 rfl) ?_
      refine va_get (D := (dC, dI)) (ci := 8) (v := .ref au) (C := RX8) (T := TX8) (N := 16) hx hb hts hiX8 hown hK hP 0 rfl rfl 3 (by decide) v_7 (fun _ h9 => h9) rfl eX8_from_54 ?_
      refine va_get (D := (dC, dI)) (ci := 0) (v := .int (nI nc)) (C := RX0) (T := TX0) (N := 17) hx hb hts hiX0 hown hK hP 1 rfl rfl 0 (by decide) v_8 (fun _ h9 => h9) rfl eX8_from_57 ?_
      refine lv_icmp_gt (tgt := 93) hx hb eX8_from_60 (by decide) (fun c_8 => ?_) (fun c_8 => ?_)
      · have c_8 : nc < g_6 := (nI_ltI (a := nc) (b := g_6) (Nat.lt_of_le_of_lt hnc (Nat.le_of_ble_eq_true rfl)) (Nat.lt_of_le_of_lt hg_6.2 (Nat.le_of_ble_eq_true rfl))).mp c_8
        refine lv_aload_n hx hb eX8_from_93 rfl (lv_at hl 0 rfl) ?_
        refine va_get (D := (dC, dI)) (ci := 8) (v := .ref tg) (C := RX8) (T := TX8) (N := 16) hx hb hts hiX8 hown hK hP 0 rfl rfl 8 (by decide) v_9 (fun _ h9 => h9) rfl eX8_from_94 ?_
        refine lv_aload_n hx hb eX8_from_97 rfl (lv_at hl 0 rfl) ?_
        refine va_get (D := (dC, dI)) (ci := 8) (v := .ref au) (C := RX8) (T := TX8) (N := 16) hx hb hts hiX8 hown hK hP 0 rfl rfl 3 (by decide) v_7 (fun _ h9 => h9) rfl eX8_from_98 ?_
        refine lv_iconst (v := 2) hx hb eX8_from_101 (by decide) ?_
        refine lv_iconst (v := 1) hx hb eX8_from_102 (by decide) ?_
        refine lv_aload_n hx hb eX8_from_103 rfl (lv_at hl 0 rfl) ?_
        refine va_get (D := (dC, dI)) (ci := 8) (v := .ref au) (C := RX8) (T := TX8) (N := 16) hx hb hts hiX8 hown hK hP 0 rfl rfl 3 (by decide) v_7 (fun _ h9 => h9) rfl eX8_from_104 ?_
        refine va_get (D := (dC, dI)) (ci := 0) (v := .int (nI nc)) (C := RX0) (T := TX0) (N := 17) hx hb hts hiX0 hown hK hP 1 rfl rfl 0 (by decide) v_8 (fun _ h9 => h9) rfl eX8_from_107 ?_
        refine lv_iconst (v := 1) hx hb eX8_from_110 (by decide) ?_
        refine lv_iadd hx hb eX8_from_111 ?_
        refine lv_topi (fun y_9 ey_9 => ?_)
        obtain rfl : y_9 = (nI (nc + 1)) := ey_9.trans (nI_add nc 1)
        have hPc : va_P (dC, dI) vwCl ([(tg, .inr (1, [.ref tz, .ref t1, .ref t2, .ref t3, .ref t4, .ref t5, .int (nI tc), .int (nI tfull), .int tx, .int tway, .int tav, .int tgoal, .int (nI tfound), .int 120, .int (nI tl), .int (nI tsz), .ref t16, .ref t17])), (tz, .inl (k_ftz, 121, .inr (.inr (.inr (.inr (zs o 121 az)))))), (t1, .inl (k_s1t, 120, .inl (bN 7 q_s1t))), (t2, .inl (k_s2t, 120, .inl s2t)), (t3, .inl (k_s3t, 120, .inl s3t)), (t4, .inl (k_s4t, 120, .inl s4t)), (t5, .inl (k_s5t, 120, .inl s5t)), (t16, .inl (k_hit, 5, .inl hit)), (t17, .inl (k_lot, 5, .inl lot)), (au, .inr (0, [.int (nI nc), .int (nI np), .int (nI ne), .int (nI st0), .ref q4, .ref q5, .ref q6, .ref q7, .ref q8, .ref q9, .ref q10, .ref q11, .ref q12, .ref q13, .ref q14, .ref q15, .ref q16])), (q4, .inl (k_f4, 8, .inl f4)), (q5, .inl (k_f5, 14, .inl (bN 7 q_f5))), (q6, .inl (k_f6, 14, .inl (bN 7 q_f6))), (q7, .inl (k_f7, 14, .inl f7)), (q8, .inl (k_f8, 22, .inl (bN 4 q_f8))), (q9, .inl (k_f9, 88, .inl (bN 2 q_f9))), (q10, .inl (k_f10, 88, .inl f10)), (q11, .inl (k_f11, 88, .inl f11)), (q12, .inl (k_f12, 88, .inl f12)), (q13, .inl (k_f13, 88, .inl f13)), (q14, .inl (k_f14, 4, .inl f14)), (q15, .inl (k_f15, 4, .inl f15)), (q16, .inl (k_f16, 4, .inl f16))] ++ zp 4 16 N az ac kz qs fz) _ := hP.part [15, 16, 17, 18, 19, 20, 21, 22, 23, 1, 2, 3, 4, 5, 6, 7, 8, 9, 10, 11, 12, 13, 14] rfl
        have hDc : va_D A ([(tg, .inr (1, [.ref tz, .ref t1, .ref t2, .ref t3, .ref t4, .ref t5, .int (nI tc), .int (nI tfull), .int tx, .int tway, .int tav, .int tgoal, .int (nI tfound), .int 120, .int (nI tl), .int (nI tsz), .ref t16, .ref t17])), (tz, .inl (k_ftz, 121, .inr (.inr (.inr (.inr (zs o 121 az)))))), (t1, .inl (k_s1t, 120, .inl (bN 7 q_s1t))), (t2, .inl (k_s2t, 120, .inl s2t)), (t3, .inl (k_s3t, 120, .inl s3t)), (t4, .inl (k_s4t, 120, .inl s4t)), (t5, .inl (k_s5t, 120, .inl s5t)), (t16, .inl (k_hit, 5, .inl hit)), (t17, .inl (k_lot, 5, .inl lot)), (au, .inr (0, [.int (nI nc), .int (nI np), .int (nI ne), .int (nI st0), .ref q4, .ref q5, .ref q6, .ref q7, .ref q8, .ref q9, .ref q10, .ref q11, .ref q12, .ref q13, .ref q14, .ref q15, .ref q16])), (q4, .inl (k_f4, 8, .inl f4)), (q5, .inl (k_f5, 14, .inl (bN 7 q_f5))), (q6, .inl (k_f6, 14, .inl (bN 7 q_f6))), (q7, .inl (k_f7, 14, .inl f7)), (q8, .inl (k_f8, 22, .inl (bN 4 q_f8))), (q9, .inl (k_f9, 88, .inl (bN 2 q_f9))), (q10, .inl (k_f10, 88, .inl f10)), (q11, .inl (k_f11, 88, .inl f11)), (q12, .inl (k_f12, 88, .inl f12)), (q13, .inl (k_f13, 88, .inl f13)), (q14, .inl (k_f14, 4, .inl f14)), (q15, .inl (k_f15, 4, .inl f15)), (q16, .inl (k_f16, 4, .inl f16))] ++ zp 4 16 N az ac kz qs fz) := hD.part [15, 16, 17, 18, 19, 20, 21, 22, 23, 1, 2, 3, 4, 5, 6, 7, 8, 9, 10, 11, 12, 13, 14] (by decide) rfl
        have hKc : va_K (dC, dI) vwCl ([(k_ftz, .object RX7), (k_s1t, .int), (k_s2t, .int), (k_s3t, .int), (k_s4t, .int), (k_s5t, .int), (k_hit, .int), (k_lot, .int), (k_f4, .boolean), (k_f5, .int), (k_f6, .int), (k_f7, .int), (k_f8, .int), (k_f9, .int), (k_f10, .int), (k_f11, .int), (k_f12, .int), (k_f13, .int), (k_f14, .int), (k_f15, .int), (k_f16, .int)] ++ zt N kz) s := zk_part hK [13, 14, 15, 16, 17, 18, 19, 20, 0, 1, 2, 3, 4, 5, 6, 7, 8, 9, 10, 11, 12] rfl
        have hFc := pu_free hDc hS hA
        refine va_callv (va_runV (As := [.ref au, .int 2, .int 1, .int (nI (nc + 1))]) (rest := []) ⟨hx, hb, hml, hown, hts⟩ (c_C_1_plan_16 l dC dI _ tg tz t1 t2 t3 t4 t5 tc tfull tx tway tav tgoal tfound tl tsz t16 t17 k_ftz k_s1t q_s1t k_s2t s2t k_s3t s3t k_s4t s4t k_s5t s5t k_hit hit k_lot lot au nc np ne (nI st0) q4 q5 q6 q7 q8 q9 q10 q11 q12 q13 q14 q15 q16 k_f4 f4 k_f5 q_f5 k_f6 q_f6 k_f7 f7 k_f8 q_f8 k_f9 q_f9 k_f10 f10 k_f11 f11 k_f12 f12 k_f13 f13 k_f14 f14 k_f15 f15 k_f16 f16 N o az ac kz qs fz 2 1 (nc + 1) htc htfull htfound htl htsz hnc hnp hne (Or.inr ⟨st0, hst0, rfl⟩) (by omega) (Nat.le_of_ble_eq_true rfl) (by omega)) (cwV 4 hts g_C_8_from_C_1_plan_16 rfl rfl rfl (by decide +kernel) ⟨Nat.le_of_ble_eq_true rfl, Nat.le_of_ble_eq_true rfl⟩) ⟨pu_bl, va_recv hK hP (ci := 1) (q0 := 15) rfl rfl, pu_in hPc hKc hDc⟩ rfl rfl hl.1 rfl (lv_room (Nat.le_of_ble_eq_true rfl)) eX8_from_112 ⟨Nat.le_of_ble_eq_true rfl, Nat.le_of_ble_eq_true rfl⟩) hS (fun q _ h => hFc q h) hFc (fun u t H1 locs ht hvm hw hB hz1 hk1 hS => ?_)
        obtain ⟨z_fhi_11, z_flo_12, z_gav_13, z_ggoal_14, z_gfound_15, z_gl_16, z_gsz_17, z_gway_18, ⟨hP1, -, hD1⟩, hz_gfound_15, hz_gl_16, hz_gsz_17⟩ := hB
        rw [ht] at hP1
        obtain ⟨hP, hD⟩ := pl_put (X' := (xtr__w xa xtape (nI tp) rd au xdr hy g (nI hs) tg sg (nI ss) rm ti py bu sm (nI nc) (nI np) (nI ne) (nI st0) q4 q5 q6 q7 q8 q9 q10 q11 q12 q13 q14 q15 q16 k_f4 f4 k_f5 (bN 7 q_f5) k_f6 (bN 7 q_f6) k_f7 f7 k_f8 (bN 4 q_f8) k_f9 (bN 2 q_f9) k_f10 f10 k_f11 f11 k_f12 f12 k_f13 f13 k_f14 f14 k_f15 f15 k_f16 f16 tz t1 t2 t3 t4 t5 (nI tc) (nI tfull) tx z_gway_18 z_gav_13 z_ggoal_14 (nI z_gfound_15) 120 (nI z_gl_16) (nI z_gsz_17) t16 t17 k_ftz (zs o 121 az) k_s1t (bN 7 q_s1t) k_s2t s2t k_s3t s3t k_s4t s4t k_s5t s5t k_hit z_fhi_11 k_lot z_flo_12 k_fbu (upd (upd (upd (upd fbu (0 : Int32).toNatClampNeg 0) (1 : Int32).toNatClampNeg p1) (2 : Int32).toNatClampNeg p2) (3 : Int32).toNatClampNeg p3))) (w1 := (gs1__w tg tz t1 t2 t3 t4 t5 (nI tc) (nI tfull) tx z_gway_18 z_gav_13 z_ggoal_14 (nI z_gfound_15) 120 (nI z_gl_16) (nI z_gsz_17) t16 t17 k_ftz (zs o 121 az) k_s1t (bN 7 q_s1t) k_s2t s2t k_s3t s3t k_s4t s4t k_s5t s5t k_hit z_fhi_11 k_lot z_flo_12 au (nI nc) (nI np) (nI ne) (nI st0) q4 q5 q6 q7 q8 q9 q10 q11 q12 q13 q14 q15 q16 k_f4 f4 k_f5 (bN 7 q_f5) k_f6 (bN 7 q_f6) k_f7 f7 k_f8 (bN 4 q_f8) k_f9 (bN 2 q_f9) k_f10 f10 k_f11 f11 k_f12 f12 k_f13 f13 k_f14 f14 k_f15 f15 k_f16 f16)) hP hD [15, 16, 17, 18, 19, 20, 21, 22, 23, 1, 2, 3, 4, 5, 6, 7, 8, 9, 10, 11, 12, 13, 14] rfl hk1 hP1 rfl zp_f rfl
        clear hP1 hD1 hFc
        clear hPc hDc hKc
        clear hk1 hz1 ht hvm
        generalize H1 = H at hP hS ⊢
        refine lv_aload_n hx hb eX8_from_115 rfl (lv_at hl 0 rfl) ?_
        refine va_get (D := (dC, dI)) (ci := 8) (v := .ref tg) (C := RX8) (T := TX8) (N := 16) hx hb hts hiX8 hown hK hP 0 rfl rfl 8 (by decide) v_9 (fun _ h9 => h9) rfl eX8_from_116 ?_
        refine lv_iload hx hb eX8_from_119 (lv_at hl 5 rfl) ?_
        refine va_put (D := (dC, dI)) (ci := 1) (v := .int (nI n_4)) (ty := .int) (C := RX1) (T := TX1) (N := 18) hx hb hts hiX1 tyX1 tyX1_ok nmX1 hown hK hP hD hS 15 rfl rfl 11 (by decide) v_15 (fun _ h9 => h9) rfl (by decide +kernel) rfl rfl (Nat.le_of_ble_eq_true rfl) eX8_from_121 (fun H locs hP hD hS => ?_)
        have hP : va_P (dC, dI) vwCl ((xtr__w xa xtape (nI tp) rd au xdr hy g (nI hs) tg sg (nI ss) rm ti py bu sm (nI nc) (nI np) (nI ne) (nI st0) q4 q5 q6 q7 q8 q9 q10 q11 q12 q13 q14 q15 q16 k_f4 f4 k_f5 (bN 7 q_f5) k_f6 (bN 7 q_f6) k_f7 f7 k_f8 (bN 4 q_f8) k_f9 (bN 2 q_f9) k_f10 f10 k_f11 f11 k_f12 f12 k_f13 f13 k_f14 f14 k_f15 f15 k_f16 f16 tz t1 t2 t3 t4 t5 (nI tc) (nI tfull) tx z_gway_18 z_gav_13 (nI n_4) (nI z_gfound_15) 120 (nI z_gl_16) (nI z_gsz_17) t16 t17 k_ftz (zs o 121 az) k_s1t (bN 7 q_s1t) k_s2t s2t k_s3t s3t k_s4t s4t k_s5t s5t k_hit z_fhi_11 k_lot z_flo_12 k_fbu (upd (upd (upd (upd fbu (0 : Int32).toNatClampNeg 0) (1 : Int32).toNatClampNeg p1) (2 : Int32).toNatClampNeg p2) (3 : Int32).toNatClampNeg p3)) ++ zp 4 16 N az ac kz qs fz) H := hP
        have hD : va_D A ((xtr__w xa xtape (nI tp) rd au xdr hy g (nI hs) tg sg (nI ss) rm ti py bu sm (nI nc) (nI np) (nI ne) (nI st0) q4 q5 q6 q7 q8 q9 q10 q11 q12 q13 q14 q15 q16 k_f4 f4 k_f5 (bN 7 q_f5) k_f6 (bN 7 q_f6) k_f7 f7 k_f8 (bN 4 q_f8) k_f9 (bN 2 q_f9) k_f10 f10 k_f11 f11 k_f12 f12 k_f13 f13 k_f14 f14 k_f15 f15 k_f16 f16 tz t1 t2 t3 t4 t5 (nI tc) (nI tfull) tx z_gway_18 z_gav_13 (nI n_4) (nI z_gfound_15) 120 (nI z_gl_16) (nI z_gsz_17) t16 t17 k_ftz (zs o 121 az) k_s1t (bN 7 q_s1t) k_s2t s2t k_s3t s3t k_s4t s4t k_s5t s5t k_hit z_fhi_11 k_lot z_flo_12 k_fbu (upd (upd (upd (upd fbu (0 : Int32).toNatClampNeg 0) (1 : Int32).toNatClampNeg p1) (2 : Int32).toNatClampNeg p2) (3 : Int32).toNatClampNeg p3)) ++ zp 4 16 N az ac kz qs fz) := hD
        refine lv_aload_n hx hb eX8_from_124 rfl (lv_at hl 0 rfl) ?_
        refine va_get (D := (dC, dI)) (ci := 8) (v := .ref tg) (C := RX8) (T := TX8) (N := 16) hx hb hts hiX8 hown hK hP 0 rfl rfl 8 (by decide) v_9 (fun _ h9 => h9) rfl eX8_from_125 ?_
        refine lv_aload_n hx hb eX8_from_128 rfl (lv_at hl 0 rfl) ?_
        refine va_get (D := (dC, dI)) (ci := 8) (v := .ref au) (C := RX8) (T := TX8) (N := 16) hx hb hts hiX8 hown hK hP 0 rfl rfl 3 (by decide) v_7 (fun _ h9 => h9) rfl eX8_from_129 ?_
        refine lv_iload_n hx hb eX8_from_132 rfl (lv_at hl 1 rfl) ?_
        refine lv_aload_n hx hb eX8_from_133 rfl (lv_at hl 0 rfl) ?_
        refine va_get (D := (dC, dI)) (ci := 8) (v := .ref bu) (C := RX8) (T := TX8) (N := 16) hx hb hts hiX8 hown hK hP 0 rfl rfl 14 (by decide) v_6 (fun _ h9 => h9) rfl eX8_from_134 ?_
        have hPc : va_P (dC, dI) vwCl ([(tg, .inr (1, [.ref tz, .ref t1, .ref t2, .ref t3, .ref t4, .ref t5, .int (nI tc), .int (nI tfull), .int tx, .int z_gway_18, .int z_gav_13, .int (nI n_4), .int (nI z_gfound_15), .int 120, .int (nI z_gl_16), .int (nI z_gsz_17), .ref t16, .ref t17])), (tz, .inl (k_ftz, 121, .inr (.inr (.inr (.inr (zs o 121 az)))))), (t1, .inl (k_s1t, 120, .inl (bN 7 q_s1t))), (t2, .inl (k_s2t, 120, .inl s2t)), (t3, .inl (k_s3t, 120, .inl s3t)), (t4, .inl (k_s4t, 120, .inl s4t)), (t5, .inl (k_s5t, 120, .inl s5t)), (t16, .inl (k_hit, 5, .inl z_fhi_11)), (t17, .inl (k_lot, 5, .inl z_flo_12)), (au, .inr (0, [.int (nI nc), .int (nI np), .int (nI ne), .int (nI st0), .ref q4, .ref q5, .ref q6, .ref q7, .ref q8, .ref q9, .ref q10, .ref q11, .ref q12, .ref q13, .ref q14, .ref q15, .ref q16])), (q4, .inl (k_f4, 8, .inl f4)), (q5, .inl (k_f5, 14, .inl (bN 7 q_f5))), (q6, .inl (k_f6, 14, .inl (bN 7 q_f6))), (q7, .inl (k_f7, 14, .inl f7)), (q8, .inl (k_f8, 22, .inl (bN 4 q_f8))), (q9, .inl (k_f9, 88, .inl (bN 2 q_f9))), (q10, .inl (k_f10, 88, .inl f10)), (q11, .inl (k_f11, 88, .inl f11)), (q12, .inl (k_f12, 88, .inl f12)), (q13, .inl (k_f13, 88, .inl f13)), (q14, .inl (k_f14, 4, .inl f14)), (q15, .inl (k_f15, 4, .inl f15)), (q16, .inl (k_f16, 4, .inl f16)), (bu, .inl (k_fbu, 5, .inl (upd (upd (upd (upd fbu (0 : Int32).toNatClampNeg 0) (1 : Int32).toNatClampNeg p1) (2 : Int32).toNatClampNeg p2) (3 : Int32).toNatClampNeg p3)))] ++ zp 4 16 N az ac kz qs fz) _ := hP.part [15, 16, 17, 18, 19, 20, 21, 22, 23, 1, 2, 3, 4, 5, 6, 7, 8, 9, 10, 11, 12, 13, 14, 24] rfl
        have hDc : va_D A ([(tg, .inr (1, [.ref tz, .ref t1, .ref t2, .ref t3, .ref t4, .ref t5, .int (nI tc), .int (nI tfull), .int tx, .int z_gway_18, .int z_gav_13, .int (nI n_4), .int (nI z_gfound_15), .int 120, .int (nI z_gl_16), .int (nI z_gsz_17), .ref t16, .ref t17])), (tz, .inl (k_ftz, 121, .inr (.inr (.inr (.inr (zs o 121 az)))))), (t1, .inl (k_s1t, 120, .inl (bN 7 q_s1t))), (t2, .inl (k_s2t, 120, .inl s2t)), (t3, .inl (k_s3t, 120, .inl s3t)), (t4, .inl (k_s4t, 120, .inl s4t)), (t5, .inl (k_s5t, 120, .inl s5t)), (t16, .inl (k_hit, 5, .inl z_fhi_11)), (t17, .inl (k_lot, 5, .inl z_flo_12)), (au, .inr (0, [.int (nI nc), .int (nI np), .int (nI ne), .int (nI st0), .ref q4, .ref q5, .ref q6, .ref q7, .ref q8, .ref q9, .ref q10, .ref q11, .ref q12, .ref q13, .ref q14, .ref q15, .ref q16])), (q4, .inl (k_f4, 8, .inl f4)), (q5, .inl (k_f5, 14, .inl (bN 7 q_f5))), (q6, .inl (k_f6, 14, .inl (bN 7 q_f6))), (q7, .inl (k_f7, 14, .inl f7)), (q8, .inl (k_f8, 22, .inl (bN 4 q_f8))), (q9, .inl (k_f9, 88, .inl (bN 2 q_f9))), (q10, .inl (k_f10, 88, .inl f10)), (q11, .inl (k_f11, 88, .inl f11)), (q12, .inl (k_f12, 88, .inl f12)), (q13, .inl (k_f13, 88, .inl f13)), (q14, .inl (k_f14, 4, .inl f14)), (q15, .inl (k_f15, 4, .inl f15)), (q16, .inl (k_f16, 4, .inl f16)), (bu, .inl (k_fbu, 5, .inl (upd (upd (upd (upd fbu (0 : Int32).toNatClampNeg 0) (1 : Int32).toNatClampNeg p1) (2 : Int32).toNatClampNeg p2) (3 : Int32).toNatClampNeg p3)))] ++ zp 4 16 N az ac kz qs fz) := hD.part [15, 16, 17, 18, 19, 20, 21, 22, 23, 1, 2, 3, 4, 5, 6, 7, 8, 9, 10, 11, 12, 13, 14, 24] (by decide) rfl
        have hKc : va_K (dC, dI) vwCl ([(k_ftz, .object RX7), (k_s1t, .int), (k_s2t, .int), (k_s3t, .int), (k_s4t, .int), (k_s5t, .int), (k_hit, .int), (k_lot, .int), (k_f4, .boolean), (k_f5, .int), (k_f6, .int), (k_f7, .int), (k_f8, .int), (k_f9, .int), (k_f10, .int), (k_f11, .int), (k_f12, .int), (k_f13, .int), (k_f14, .int), (k_f15, .int), (k_f16, .int), (k_fbu, .int)] ++ zt N kz) s := zk_part hK [13, 14, 15, 16, 17, 18, 19, 20, 0, 1, 2, 3, 4, 5, 6, 7, 8, 9, 10, 11, 12, 21] rfl
        have hFc := pu_free hDc hS hA
        refine va_callv (va_runV (As := [.ref au, .int (nI n_2), .ref bu]) (rest := []) ⟨hx, hb, hml, hown, hts⟩ (c_C_1_open_16 l dC dI _ tg tz t1 t2 t3 t4 t5 tc tfull tx z_gway_18 z_gav_13 (nI n_4) z_gfound_15 z_gl_16 z_gsz_17 t16 t17 k_ftz k_s1t q_s1t k_s2t s2t k_s3t s3t k_s4t s4t k_s5t s5t k_hit z_fhi_11 k_lot z_flo_12 au nc np ne (nI st0) q4 q5 q6 q7 q8 q9 q10 q11 q12 q13 q14 q15 q16 k_f4 f4 k_f5 q_f5 k_f6 q_f6 k_f7 f7 k_f8 q_f8 k_f9 q_f9 k_f10 f10 k_f11 f11 k_f12 f12 k_f13 f13 k_f14 f14 k_f15 f15 k_f16 f16 bu k_fbu (upd (upd (upd (upd fbu (0 : Int32).toNatClampNeg 0) (1 : Int32).toNatClampNeg p1) (2 : Int32).toNatClampNeg p2) (3 : Int32).toNatClampNeg p3) N o az ac kz qs fz n_2 htc htfull hz_gfound_15 hz_gl_16 hz_gsz_17 hnc hnp hne (Or.inr ⟨st0, hst0, rfl⟩) (by omega) (by omega)) (cwV 3 hts g_C_8_from_C_1_open_16 rfl rfl rfl (by decide +kernel) ⟨Nat.le_of_ble_eq_true rfl, Nat.le_of_ble_eq_true rfl⟩) ⟨pu_bl, va_recv hK hP (ci := 1) (q0 := 15) rfl rfl, pu_in hPc hKc hDc⟩ rfl rfl hl.1 rfl (lv_room (Nat.le_of_ble_eq_true rfl)) eX8_from_137 ⟨Nat.le_of_ble_eq_true rfl, Nat.le_of_ble_eq_true rfl⟩) hS (fun q _ h => hFc q h) hFc (fun u t H1 locs ht hvm hw hB hz1 hk1 hS => ?_)
        obtain ⟨z_fs1_20, z_fs2_21, z_fs3_22, z_fs4_23, z_fs5_24, z_gfound_25, z_gc_26, z_gfull_27, z_gx_28, z_fz_29, z_qs_30, ⟨hP1, -, hD1⟩, hz_gfound_25, hz_gc_26, hz_gfull_27, xr_19_0⟩ := hB
        rw [ht] at hP1
        obtain ⟨hP, hD⟩ := pl_put (X' := (xtr__w xa xtape (nI tp) rd au xdr hy g (nI hs) tg sg (nI ss) rm ti py bu sm (nI nc) (nI np) (nI ne) (nI st0) q4 q5 q6 q7 q8 q9 q10 q11 q12 q13 q14 q15 q16 k_f4 f4 k_f5 (bN 7 q_f5) k_f6 (bN 7 q_f6) k_f7 f7 k_f8 (bN 4 q_f8) k_f9 (bN 2 q_f9) k_f10 f10 k_f11 f11 k_f12 f12 k_f13 f13 k_f14 f14 k_f15 f15 k_f16 f16 tz t1 t2 t3 t4 t5 (nI z_gc_26) (nI z_gfull_27) z_gx_28 z_gway_18 z_gav_13 (nI n_4) (nI z_gfound_25) 120 (nI z_gl_16) (nI z_gsz_17) t16 t17 k_ftz (zs o 121 az) k_s1t (bN 7 z_fs1_20) k_s2t z_fs2_21 k_s3t z_fs3_22 k_s4t z_fs4_23 k_s5t z_fs5_24 k_hit z_fhi_11 k_lot z_flo_12 k_fbu (upd (upd (upd (upd fbu (0 : Int32).toNatClampNeg 0) (1 : Int32).toNatClampNeg p1) (2 : Int32).toNatClampNeg p2) (3 : Int32).toNatClampNeg p3))) (w1 := (gs2__w tg tz t1 t2 t3 t4 t5 (nI z_gc_26) (nI z_gfull_27) z_gx_28 z_gway_18 z_gav_13 (nI n_4) (nI z_gfound_25) 120 (nI z_gl_16) (nI z_gsz_17) t16 t17 k_ftz (zs o 121 az) k_s1t (bN 7 z_fs1_20) k_s2t z_fs2_21 k_s3t z_fs3_22 k_s4t z_fs4_23 k_s5t z_fs5_24 k_hit z_fhi_11 k_lot z_flo_12 au (nI nc) (nI np) (nI ne) (nI st0) q4 q5 q6 q7 q8 q9 q10 q11 q12 q13 q14 q15 q16 k_f4 f4 k_f5 (bN 7 q_f5) k_f6 (bN 7 q_f6) k_f7 f7 k_f8 (bN 4 q_f8) k_f9 (bN 2 q_f9) k_f10 f10 k_f11 f11 k_f12 f12 k_f13 f13 k_f14 f14 k_f15 f15 k_f16 f16 bu k_fbu (upd (upd (upd (upd fbu (0 : Int32).toNatClampNeg 0) (1 : Int32).toNatClampNeg p1) (2 : Int32).toNatClampNeg p2) (3 : Int32).toNatClampNeg p3))) hP hD [15, 16, 17, 18, 19, 20, 21, 22, 23, 1, 2, 3, 4, 5, 6, 7, 8, 9, 10, 11, 12, 13, 14, 24] rfl hk1 hP1 rfl zp_f rfl
        clear hP1 hD1 hFc
        clear hPc hDc hKc
        clear hk1 hz1 ht hvm
        generalize H1 = H at hP hS ⊢
        refine lv_aload_n hx hb eX8_from_140 rfl (lv_at hl 0 rfl) ?_
        refine va_get (D := (dC, dI)) (ci := 8) (v := .ref tg) (C := RX8) (T := TX8) (N := 16) hx hb hts hiX8 hown hK hP 0 rfl rfl 8 (by decide) v_9 (fun _ h9 => h9) rfl eX8_from_141 ?_
        refine lv_aload_n hx hb eX8_from_144 rfl (lv_at hl 0 rfl) ?_
        refine va_get (D := (dC, dI)) (ci := 8) (v := .ref au) (C := RX8) (T := TX8) (N := 16) hx hb hts hiX8 hown hK hP 0 rfl rfl 3 (by decide) v_7 (fun _ h9 => h9) rfl eX8_from_145 ?_
        have hPc : va_P (dC, dI) vwCl ([(tg, .inr (1, [.ref tz, .ref t1, .ref t2, .ref t3, .ref t4, .ref t5, .int (nI z_gc_26), .int (nI z_gfull_27), .int z_gx_28, .int z_gway_18, .int z_gav_13, .int (nI n_4), .int (nI z_gfound_25), .int 120, .int (nI z_gl_16), .int (nI z_gsz_17), .ref t16, .ref t17])), (tz, .inl (k_ftz, 121, .inr (.inr (.inr (.inr (zs o 121 az)))))), (t1, .inl (k_s1t, 120, .inl (bN 7 z_fs1_20))), (t2, .inl (k_s2t, 120, .inl z_fs2_21)), (t3, .inl (k_s3t, 120, .inl z_fs3_22)), (t4, .inl (k_s4t, 120, .inl z_fs4_23)), (t5, .inl (k_s5t, 120, .inl z_fs5_24)), (t16, .inl (k_hit, 5, .inl z_fhi_11)), (t17, .inl (k_lot, 5, .inl z_flo_12)), (au, .inr (0, [.int (nI nc), .int (nI np), .int (nI ne), .int (nI st0), .ref q4, .ref q5, .ref q6, .ref q7, .ref q8, .ref q9, .ref q10, .ref q11, .ref q12, .ref q13, .ref q14, .ref q15, .ref q16])), (q4, .inl (k_f4, 8, .inl f4)), (q5, .inl (k_f5, 14, .inl (bN 7 q_f5))), (q6, .inl (k_f6, 14, .inl (bN 7 q_f6))), (q7, .inl (k_f7, 14, .inl f7)), (q8, .inl (k_f8, 22, .inl (bN 4 q_f8))), (q9, .inl (k_f9, 88, .inl (bN 2 q_f9))), (q10, .inl (k_f10, 88, .inl f10)), (q11, .inl (k_f11, 88, .inl f11)), (q12, .inl (k_f12, 88, .inl f12)), (q13, .inl (k_f13, 88, .inl f13)), (q14, .inl (k_f14, 4, .inl f14)), (q15, .inl (k_f15, 4, .inl f15)), (q16, .inl (k_f16, 4, .inl f16))] ++ zp 4 16 N az ac kz z_qs_30 z_fz_29) _ := hP.part [15, 16, 17, 18, 19, 20, 21, 22, 23, 1, 2, 3, 4, 5, 6, 7, 8, 9, 10, 11, 12, 13, 14] rfl
        have hDc : va_D A ([(tg, .inr (1, [.ref tz, .ref t1, .ref t2, .ref t3, .ref t4, .ref t5, .int (nI z_gc_26), .int (nI z_gfull_27), .int z_gx_28, .int z_gway_18, .int z_gav_13, .int (nI n_4), .int (nI z_gfound_25), .int 120, .int (nI z_gl_16), .int (nI z_gsz_17), .ref t16, .ref t17])), (tz, .inl (k_ftz, 121, .inr (.inr (.inr (.inr (zs o 121 az)))))), (t1, .inl (k_s1t, 120, .inl (bN 7 z_fs1_20))), (t2, .inl (k_s2t, 120, .inl z_fs2_21)), (t3, .inl (k_s3t, 120, .inl z_fs3_22)), (t4, .inl (k_s4t, 120, .inl z_fs4_23)), (t5, .inl (k_s5t, 120, .inl z_fs5_24)), (t16, .inl (k_hit, 5, .inl z_fhi_11)), (t17, .inl (k_lot, 5, .inl z_flo_12)), (au, .inr (0, [.int (nI nc), .int (nI np), .int (nI ne), .int (nI st0), .ref q4, .ref q5, .ref q6, .ref q7, .ref q8, .ref q9, .ref q10, .ref q11, .ref q12, .ref q13, .ref q14, .ref q15, .ref q16])), (q4, .inl (k_f4, 8, .inl f4)), (q5, .inl (k_f5, 14, .inl (bN 7 q_f5))), (q6, .inl (k_f6, 14, .inl (bN 7 q_f6))), (q7, .inl (k_f7, 14, .inl f7)), (q8, .inl (k_f8, 22, .inl (bN 4 q_f8))), (q9, .inl (k_f9, 88, .inl (bN 2 q_f9))), (q10, .inl (k_f10, 88, .inl f10)), (q11, .inl (k_f11, 88, .inl f11)), (q12, .inl (k_f12, 88, .inl f12)), (q13, .inl (k_f13, 88, .inl f13)), (q14, .inl (k_f14, 4, .inl f14)), (q15, .inl (k_f15, 4, .inl f15)), (q16, .inl (k_f16, 4, .inl f16))] ++ zp 4 16 N az ac kz z_qs_30 z_fz_29) := hD.part [15, 16, 17, 18, 19, 20, 21, 22, 23, 1, 2, 3, 4, 5, 6, 7, 8, 9, 10, 11, 12, 13, 14] (by decide) rfl
        have hKc : va_K (dC, dI) vwCl ([(k_ftz, .object RX7), (k_s1t, .int), (k_s2t, .int), (k_s3t, .int), (k_s4t, .int), (k_s5t, .int), (k_hit, .int), (k_lot, .int), (k_f4, .boolean), (k_f5, .int), (k_f6, .int), (k_f7, .int), (k_f8, .int), (k_f9, .int), (k_f10, .int), (k_f11, .int), (k_f12, .int), (k_f13, .int), (k_f14, .int), (k_f15, .int), (k_f16, .int)] ++ zt N kz) s := zk_part hK [13, 14, 15, 16, 17, 18, 19, 20, 0, 1, 2, 3, 4, 5, 6, 7, 8, 9, 10, 11, 12] rfl
        have hFc := pu_free hDc hS hA
        refine va_callv (va_runV (As := [.ref au]) (rest := []) ⟨hx, hb, hml, hown, hts⟩ (c_C_1_grow_16 l dC dI _ tg tz t1 t2 t3 t4 t5 z_gc_26 z_gfull_27 z_gx_28 z_gway_18 z_gav_13 (nI n_4) z_gfound_25 z_gl_16 z_gsz_17 t16 t17 k_ftz k_s1t z_fs1_20 k_s2t z_fs2_21 k_s3t z_fs3_22 k_s4t z_fs4_23 k_s5t z_fs5_24 k_hit z_fhi_11 k_lot z_flo_12 au nc np ne (nI st0) q4 q5 q6 q7 q8 q9 q10 q11 q12 q13 q14 q15 q16 k_f4 f4 k_f5 q_f5 k_f6 q_f6 k_f7 f7 k_f8 q_f8 k_f9 q_f9 k_f10 f10 k_f11 f11 k_f12 f12 k_f13 f13 k_f14 f14 k_f15 f15 k_f16 f16 N o az ac kz z_qs_30 z_fz_29 hz_gc_26 hz_gfull_27 hz_gfound_25 hz_gl_16 hz_gsz_17 hnc hnp hne (Or.inr ⟨st0, hst0, rfl⟩) (by omega) (by first | assumption | exact gz_0)) (cwV 1 hts g_C_8_from_C_1_grow_16 rfl rfl rfl (by decide +kernel) ⟨Nat.le_of_ble_eq_true rfl, Nat.le_of_ble_eq_true rfl⟩) ⟨pu_bl, va_recv hK hP (ci := 1) (q0 := 15) rfl rfl, pu_in hPc hKc hDc⟩ rfl rfl hl.1 rfl (lv_room (Nat.le_of_ble_eq_true rfl)) eX8_from_148 ⟨Nat.le_of_ble_eq_true rfl, Nat.le_of_ble_eq_true rfl⟩) hS (fun q _ h => hFc q h) hFc (fun u t H1 locs ht hvm hw hB hz1 hk1 hS => ?_)
        obtain ⟨z_fs1_32, z_fs2_33, z_fs3_34, z_fs4_35, z_fs5_36, z_gfound_37, z_gc_38, z_gfull_39, z_gx_40, z_fz_41, z_qs_42, ⟨hP1, -, hD1⟩, hz_gfound_37, hz_gc_38, hz_gfull_39, xr_31_0⟩ := hB
        rw [ht] at hP1
        obtain ⟨hP, hD⟩ := pl_put (X' := (xtr__w xa xtape (nI tp) rd au xdr hy g (nI hs) tg sg (nI ss) rm ti py bu sm (nI nc) (nI np) (nI ne) (nI st0) q4 q5 q6 q7 q8 q9 q10 q11 q12 q13 q14 q15 q16 k_f4 f4 k_f5 (bN 7 q_f5) k_f6 (bN 7 q_f6) k_f7 f7 k_f8 (bN 4 q_f8) k_f9 (bN 2 q_f9) k_f10 f10 k_f11 f11 k_f12 f12 k_f13 f13 k_f14 f14 k_f15 f15 k_f16 f16 tz t1 t2 t3 t4 t5 (nI z_gc_38) (nI z_gfull_39) z_gx_40 z_gway_18 z_gav_13 (nI n_4) (nI z_gfound_37) 120 (nI z_gl_16) (nI z_gsz_17) t16 t17 k_ftz (zs o 121 az) k_s1t (bN 7 z_fs1_32) k_s2t z_fs2_33 k_s3t z_fs3_34 k_s4t z_fs4_35 k_s5t z_fs5_36 k_hit z_fhi_11 k_lot z_flo_12 k_fbu (upd (upd (upd (upd fbu (0 : Int32).toNatClampNeg 0) (1 : Int32).toNatClampNeg p1) (2 : Int32).toNatClampNeg p2) (3 : Int32).toNatClampNeg p3))) (w1 := (gs1__w tg tz t1 t2 t3 t4 t5 (nI z_gc_38) (nI z_gfull_39) z_gx_40 z_gway_18 z_gav_13 (nI n_4) (nI z_gfound_37) 120 (nI z_gl_16) (nI z_gsz_17) t16 t17 k_ftz (zs o 121 az) k_s1t (bN 7 z_fs1_32) k_s2t z_fs2_33 k_s3t z_fs3_34 k_s4t z_fs4_35 k_s5t z_fs5_36 k_hit z_fhi_11 k_lot z_flo_12 au (nI nc) (nI np) (nI ne) (nI st0) q4 q5 q6 q7 q8 q9 q10 q11 q12 q13 q14 q15 q16 k_f4 f4 k_f5 (bN 7 q_f5) k_f6 (bN 7 q_f6) k_f7 f7 k_f8 (bN 4 q_f8) k_f9 (bN 2 q_f9) k_f10 f10 k_f11 f11 k_f12 f12 k_f13 f13 k_f14 f14 k_f15 f15 k_f16 f16)) hP hD [15, 16, 17, 18, 19, 20, 21, 22, 23, 1, 2, 3, 4, 5, 6, 7, 8, 9, 10, 11, 12, 13, 14] rfl hk1 hP1 rfl zp_f rfl
        clear hP1 hD1 hFc
        clear hPc hDc hKc
        clear hk1 hz1 ht hvm
        generalize H1 = H at hP hS ⊢
        refine lv_aload_n hx hb eX8_from_151 rfl (lv_at hl 0 rfl) ?_
        refine va_get (D := (dC, dI)) (ci := 8) (v := .ref tg) (C := RX8) (T := TX8) (N := 16) hx hb hts hiX8 hown hK hP 0 rfl rfl 8 (by decide) v_9 (fun _ h9 => h9) rfl eX8_from_152 ?_
        refine va_get (D := (dC, dI)) (ci := 1) (v := .int (nI z_gfound_37)) (C := RX1) (T := TX1) (N := 18) hx hb hts hiX1 hown hK hP 15 rfl rfl 12 (by decide) v_24 (fun _ h9 => h9) rfl eX8_from_155 ?_
        have hPc : va_P (dC, dI) vwCl [] _ := hP.sub [] rfl
        have hDc : va_D A [] := (zp_left hD).sub [] (by decide) rfl
        have hKc : va_K (dC, dI) vwCl [] s := hK.sub [] rfl
        refine va_calli (va_runS (As := [.int (nI z_gfound_37)]) (rest := []) ⟨hx, hb, hml, hown, hts⟩ (c_C_8_bit l dC dI _ (nI z_gfound_37)) (va_cwS 1 hts g_C_8_from_C_8_bit rfl rfl rfl (by decide +kernel) ⟨Nat.le_of_ble_eq_true rfl, Nat.le_of_ble_eq_true rfl⟩) ⟨pu_bl, pu_in hPc hKc hDc⟩ rfl rfl hl.1 rfl (lv_room (Nat.le_of_ble_eq_true rfl)) eX8_from_158 ⟨Nat.le_of_ble_eq_true rfl, Nat.le_of_ble_eq_true rfl⟩) hS (fun q _ h => pu_fr hS hA q h) (pu_fr hS hA) (fun r_43 u t H1 locs ht hvm hw hB hz1 hk1 hS => ?_)
        have hP := pu_keep hP hk1
        clear hPc hDc hKc
        clear hk1 hz1 ht hvm
        generalize H1 = H at hP hS ⊢
        obtain ⟨u_44, hu_44, rfl⟩ := hw
        exact W.iret (v := (nI u_44)) hx hb hr (fun t ht hW => ⟨⟨(nI u_44), (), rfl, trivial, ⟨z_fs1_32, z_fs2_33, z_fs3_34, z_fs4_35, z_fs5_36, z_fhi_11, z_flo_12, (upd (upd (upd (upd fbu (0 : Int32).toNatClampNeg 0) (1 : Int32).toNatClampNeg p1) (2 : Int32).toNatClampNeg p2) (3 : Int32).toNatClampNeg p3), z_gav_13, (nI n_4), z_gfound_37, z_gl_16, z_gsz_17, z_gc_38, z_gfull_39, z_gx_40, z_gway_18, z_fz_41, z_qs_42, ⟨by rw [ht]; exact hP, va_K.moved hW.alike hK, hD⟩, hz_gfound_37, hz_gl_16, hz_gsz_17, hz_gc_38, hz_gfull_39, by first | assumption | exact gz_0⟩⟩, hS.F ht⟩) hS.2.2 eX8_from_161
      · have c_8 : ¬ nc < g_6 := fun z => c_8 ((nI_ltI (a := nc) (b := g_6) (Nat.lt_of_le_of_lt hnc (Nat.le_of_ble_eq_true rfl)) (Nat.lt_of_le_of_lt hg_6.2 (Nat.le_of_ble_eq_true rfl))).mpr z)
        refine lv_aload_n hx hb eX8_from_63 rfl (lv_at hl 0 rfl) ?_
        refine va_get (D := (dC, dI)) (ci := 8) (v := .ref bu) (C := RX8) (T := TX8) (N := 16) hx hb hts hiX8 hown hK hP 0 rfl rfl 14 (by decide) v_6 (fun _ h9 => h9) rfl eX8_from_64 ?_
        refine lv_iload hx hb eX8_from_67 (lv_at hl 6 rfl) ?_
        refine va_iald hx hb hK hP 24 21 rfl rfl (vp_in_nI (n := g_6) (Nat.lt_of_le_of_lt hg_6.2 (Nat.le_of_ble_eq_true rfl)) (Nat.le_of_ble_eq_true rfl)) eX8_from_69 ?_
        refine lv_topi (fun y_45 ey_45 => ?_)
        refine lv_if_lt (tgt := 85) hx hb eX8_from_70 (by decide) (fun c_46 => ?_) (fun c_46 => ?_)
        · refine lv_iconst (v := (-1)) hx hb eX8_from_85 (by decide) ?_
          exact W.iret (v := (-1)) hx hb hr (fun t ht hW => ⟨⟨(-1), (), rfl, trivial, ⟨q_s1t, s2t, s3t, s4t, s5t, hit, lot, (upd (upd (upd (upd fbu (0 : Int32).toNatClampNeg 0) (1 : Int32).toNatClampNeg p1) (2 : Int32).toNatClampNeg p2) (3 : Int32).toNatClampNeg p3), tav, tgoal, tfound, tl, tsz, tc, tfull, tx, tway, fz, qs, ⟨by rw [ht]; exact hP, va_K.moved hW.alike hK, hD⟩, htfound, htl, htsz, htc, htfull, by first | assumption | exact gz_0⟩⟩, hS.F ht⟩) hS.2.2 eX8_from_86
        · have ly_45 : ¬ y_45 < 0 := c_46
          refine lv_aload_n hx hb eX8_from_73 rfl (lv_at hl 0 rfl) ?_
          refine va_get (D := (dC, dI)) (ci := 8) (v := .ref bu) (C := RX8) (T := TX8) (N := 16) hx hb hts hiX8 hown hK hP 0 rfl rfl 14 (by decide) v_6 (fun _ h9 => h9) rfl eX8_from_74 ?_
          refine lv_iload hx hb eX8_from_77 (lv_at hl 6 rfl) ?_
          refine va_iald hx hb hK hP 24 21 rfl rfl (vp_in_nI (n := g_6) (Nat.lt_of_le_of_lt hg_6.2 (Nat.le_of_ble_eq_true rfl)) (Nat.le_of_ble_eq_true rfl)) eX8_from_79 ?_
          refine lv_topi (fun y_47 ey_47 => ?_)
          refine lv_bipush (v := 60) hx hb eX8_from_80 (by decide) ?_
          refine lv_icmp_le (tgt := 87) hx hb eX8_from_82 (by decide) (fun c_48 => ?_) (fun c_48 => ?_)
          · refine lv_iinc (v := (nI (g_6 + 1))) (lv' := [(6, .int (nI (g_6 + 1))), (0, .ref xa), (1, .int (nI n_2)), (2, .int p1), (3, .int p2), (4, .int p3), (5, .int (nI n_4))]) hx hb eX8_from_87 hl (k := 6) rfl (nI_1 _) (by decide) rfl (fun ls hl => ?_)
            refine lv_goto (tgt := 51) hx hb eX8_from_90 (by decide) ?_
            exact ih_7 (4 - (g_6 + 1)) (by omega) _ _ _ ⟨(g_6 + 1), rfl, ⟨by omega, by omega⟩, hP, hD, hS, lv_sub hl [1, 2, 3, 4, 5, 6, 0] rfl⟩
          · refine lv_iconst (v := (-1)) hx hb eX8_from_85 (by decide) ?_
            exact W.iret (v := (-1)) hx hb hr (fun t ht hW => ⟨⟨(-1), (), rfl, trivial, ⟨q_s1t, s2t, s3t, s4t, s5t, hit, lot, (upd (upd (upd (upd fbu (0 : Int32).toNatClampNeg 0) (1 : Int32).toNatClampNeg p1) (2 : Int32).toNatClampNeg p2) (3 : Int32).toNatClampNeg p3), tav, tgoal, tfound, tl, tsz, tc, tfull, tx, tway, fz, qs, ⟨by rw [ht]; exact hP, va_K.moved hW.alike hK, hD⟩, htfound, htl, htsz, htc, htfull, by first | assumption | exact gz_0⟩⟩, hS.F ht⟩) hS.2.2 eX8_from_86
    · refine lv_if_ne (tgt := 19) hx hb eX8_from_14 (by decide) (fun z => absurd z (by decide)) (fun _ => ?_)
      refine lv_iconst (v := (-1)) hx hb eX8_from_17 (by decide) ?_
      exact W.iret (v := (-1)) hx hb hr (fun t ht hW => ⟨⟨(-1), (), rfl, trivial, ⟨q_s1t, s2t, s3t, s4t, s5t, hit, lot, fbu, tav, tgoal, tfound, tl, tsz, tc, tfull, tx, tway, fz, qs, ⟨by rw [ht]; exact hP, va_K.moved hW.alike hK, hD⟩, htfound, htl, htsz, htc, htfull, by first | assumption | exact gz_0⟩⟩, hS.F ht⟩) hS.2.2 eX8_from_18
  · refine lv_if_eq (tgt := 17) hx hb eX8_from_5 (by decide) (fun _ => ?_) (fun z => absurd z (by decide))
    refine lv_iconst (v := (-1)) hx hb eX8_from_17 (by decide) ?_
    exact W.iret (v := (-1)) hx hb hr (fun t ht hW => ⟨⟨(-1), (), rfl, trivial, ⟨q_s1t, s2t, s3t, s4t, s5t, hit, lot, fbu, tav, tgoal, tfound, tl, tsz, tc, tfull, tx, tway, fz, qs, ⟨by rw [ht]; exact hP, va_K.moved hW.alike hK, hD⟩, htfound, htl, htsz, htc, htfull, by first | assumption | exact gz_0⟩⟩, hS.F ht⟩) hS.2.2 eX8_from_18
theorem eX8_soonest_0 : decode cX8_soonest 0 = .ok (.aload_n 0, 1) := by decide +kernel
theorem eX8_soonest_1 : decode cX8_soonest 1 = .ok (.iload_n 1, 1) := by decide +kernel
theorem eX8_soonest_2 : decode cX8_soonest 2 = .ok (.invokevirtual 140, 3) := by decide +kernel
theorem eX8_soonest_5 : decode cX8_soonest 5 = .ok (.ifCond .eq 12, 3) := by decide +kernel
theorem eX8_soonest_17 : decode cX8_soonest 17 = .ok (.iconst (-1), 1) := by decide +kernel
theorem eX8_soonest_18 : decode cX8_soonest 18 = .ok (.ireturn, 1) := by decide +kernel
abbrev vs_C_8_soonest_0 : List Cond := .code yX8_soonest cX8_soonest 4 (some .int) :: CM
theorem g_C_8_soonest_0_C_8_isPlace : GoodIn vs_C_8_soonest_0 (wsV RX8 140 RX8 yX8_isPlace vs_C_8_isPlace) := cm_gV cm_471 cm_472 cm_473 cm_427 cm_474
set_option maxHeartbeats 4000000 in
set_option maxRecDepth 100000 in
theorem c_C_8_soonest_0 (l : Launch) (dC : Nat → ClassId) (dI : Nat → Nat → Nat) (sz : Nat) (xa : Nat) (xtape : Nat) (tp : Nat) (rd : Nat) (au : Nat) (xdr : Nat) (hy : Nat) (g : Nat) (tg : Nat) (sg : Nat) (rm : Nat) (ti : Nat) (py : Nat) (bu : Nat) (sm : Nat) (nc : Nat) (ne : Nat) (st0 : Int32) (q4 : Nat) (q5 : Nat) (q6 : Nat) (q7 : Nat) (q8 : Nat) (q9 : Nat) (q10 : Nat) (q11 : Nat) (q12 : Nat) (q13 : Nat) (q14 : Nat) (q15 : Nat) (q16 : Nat) (k_f4 : ClassId) (f4 : Nat → Int32) (k_f5 : ClassId) (q_f5 : Nat → Nat) (k_f6 : ClassId) (q_f6 : Nat → Nat) (k_f7 : ClassId) (f7 : Nat → Int32) (k_f8 : ClassId) (q_f8 : Nat → Nat) (k_f9 : ClassId) (q_f9 : Nat → Nat) (k_f10 : ClassId) (f10 : Nat → Int32) (k_f11 : ClassId) (f11 : Nat → Int32) (k_f12 : ClassId) (f12 : Nat → Int32) (k_f13 : ClassId) (f13 : Nat → Int32) (k_f14 : ClassId) (f14 : Nat → Int32) (k_f15 : ClassId) (f15 : Nat → Int32) (k_f16 : ClassId) (f16 : Nat → Int32) (uz : Nat) (u1 : Nat) (u2 : Nat) (u3 : Nat) (u4 : Nat) (u5 : Nat) (uc : Nat) (ufull : Nat) (ux : Int32) (uway : Int32) (uav : Int32) (ugoal : Int32) (ufound : Nat) (ul : Nat) (usz : Nat) (u16 : Nat) (u17 : Nat) (k_fuz : ClassId) (k_s1u : ClassId) (q_s1u : Nat → Nat) (k_s2u : ClassId) (s2u : Nat → Int32) (k_s3u : ClassId) (s3u : Nat → Int32) (k_s4u : ClassId) (s4u : Nat → Int32) (k_s5u : ClassId) (s5u : Nat → Int32) (k_hiu : ClassId) (hiu : Nat → Int32) (k_lou : ClassId) (lou : Nat → Int32) (k_fbu : ClassId) (fbu : Nat → Int32) (N : Nat) (o : Nat) (az ac : Nat → Nat) (kz : Nat → ClassId) (qs : Nat → Nat) (fz : Nat → Nat → Int32) (p0 : Int32) (p1 : Int32) (htp : tp ≤ 900) (hnc : nc ≤ 3) (hne : ne ≤ 14) (hst0 : pm1 7 st0) (huc : uc ≤ 400) (hufull : ufull ≤ 1) (hufound : ufound ≤ 1) (hul : ul ≤ 1) (husz : usz ≤ 5) (hN : o + 401 ≤ N) : Met l yX8_soonest vs_C_8_soonest_0 ({ frames := 1, cells := 0, slots := 0, locals := 21 }) (va_Pc [.ref xa, .int p0, .int p1] (pu_B (dC, dI) ((xso__w xa xtape (nI tp) rd au xdr hy g 0 tg sg 0 rm ti py bu sm (nI nc) 0 (nI ne) st0 q4 q5 q6 q7 q8 q9 q10 q11 q12 q13 q14 q15 q16 k_f4 f4 k_f5 (bN 7 q_f5) k_f6 (bN 7 q_f6) k_f7 f7 k_f8 (bN 4 q_f8) k_f9 (bN 2 q_f9) k_f10 f10 k_f11 f11 k_f12 f12 k_f13 f13 k_f14 f14 k_f15 f15 k_f16 f16 uz u1 u2 u3 u4 u5 (nI uc) (nI ufull) ux uway uav ugoal (nI ufound) 400 (nI ul) (nI usz) u16 u17 k_fuz (zs o 401 az) k_s1u (bN 7 q_s1u) k_s2u s2u k_s3u s3u k_s4u s4u k_s5u s5u k_hiu hiu k_lou lou k_fbu fbu) ++ zp 5 25 N az ac kz qs fz) ((xso__t k_f4 k_f5 k_f6 k_f7 k_f8 k_f9 k_f10 k_f11 k_f12 k_f13 k_f14 k_f15 k_f16 k_fuz k_s1u k_s2u k_s3u k_s4u k_s5u k_hiu k_lou k_fbu) ++ zt N kz) sz)) (va_Qi (fun (r : Int32) (_ : Unit) => True) (fun _ _ => True) (va_A [] sz)) 0 0 (va_A [] sz) := by
  refine Met.ofW (cc := cX8_soonest) (maxL := 4) (ret := (some .int)) (by decide) rfl ?_
  intro p e s m args below meth c s₁ B hml hv
  obtain ⟨rfl, rfl, hP, hK, hD0⟩ := hv
  have hx := B.exec
  have hb := B.bytes
  have hr := B.returns
  have hts := atoms_spec (ws := vs_C_8_soonest_0) B.pre
  have hown : s.vm.findClass RX8 = some m.cls := findClass_of_methodNamed B.named
  have hlocks := B.notSynchronized
  have hD := hD0
  have hA : ∀ q : Nat, s.heap.size ≤ q → va_A [] s.heap.size q := fun _ h => Or.inr h
  have hS : va_S (va_A [] s.heap.size) s.heap s.heap [] := va_S.rf
  have hl := lv_entry ([.ref xa, .int p0, .int p1]) (n := 4) (Nat.le_of_ble_eq_true rfl)
  rw [lg_entry_eq]
  generalize (lg_sl ([.ref xa, .int p0, .int p1]) ++ List.replicate (4 - (lg_sl ([.ref xa, .int p0, .int p1])).length) Slot.unset).toArray = ls at hl ⊢
  have hl : lv_has ls 4 [(0, .ref xa), (1, .int p0), (2, .int p1)] := hl
  refine lv_aload_n hx hb eX8_soonest_0 rfl (lv_at hl 0 rfl) ?_
  refine lv_iload_n hx hb eX8_soonest_1 rfl (lv_at hl 1 rfl) ?_
  have hPc : va_P (dC, dI) vwCl [(xa, .inr (8, [.ref xtape, .int (nI tp), .ref rd, .ref au, .ref xdr, .ref hy, .ref g, .int 0, .ref tg, .ref sg, .int 0, .ref rm, .ref ti, .ref py, .ref bu, .ref sm])), (au, .inr (0, [.int (nI nc), .int 0, .int (nI ne), .int st0, .ref q4, .ref q5, .ref q6, .ref q7, .ref q8, .ref q9, .ref q10, .ref q11, .ref q12, .ref q13, .ref q14, .ref q15, .ref q16]))] _ := hP.sub [0, 1] rfl
  have hDc : va_D (fun _ => True) [(xa, .inr (8, [.ref xtape, .int (nI tp), .ref rd, .ref au, .ref xdr, .ref hy, .ref g, .int 0, .ref tg, .ref sg, .int 0, .ref rm, .ref ti, .ref py, .ref bu, .ref sm])), (au, .inr (0, [.int (nI nc), .int 0, .int (nI ne), .int st0, .ref q4, .ref q5, .ref q6, .ref q7, .ref q8, .ref q9, .ref q10, .ref q11, .ref q12, .ref q13, .ref q14, .ref q15, .ref q16]))] := (zp_left hD).sub [0, 1] (by decide) rfl
  have hKc : va_K (dC, dI) vwCl [] s := hK.sub [] rfl
  refine va_calli (va_runV (As := [.int p0]) (rest := []) ⟨hx, hb, hml, hown, hts⟩ (c_C_8_isPlace l dC dI _ xa xtape tp rd au xdr hy g 0 tg sg 0 rm ti py bu sm nc 0 ne st0 q4 q5 q6 q7 q8 q9 q10 q11 q12 q13 q14 q15 q16 p0 htp (Nat.le_of_ble_eq_true rfl) (Nat.le_of_ble_eq_true rfl) hnc (Nat.le_of_ble_eq_true rfl) hne (hst0)) (cwV 1 hts g_C_8_soonest_0_C_8_isPlace rfl rfl rfl (by decide +kernel) ⟨Nat.le_of_ble_eq_true rfl, Nat.le_of_ble_eq_true rfl⟩) ⟨pu_bl, va_recv hK hP (ci := 8) (q0 := 0) rfl rfl, pu_in hPc hKc hDc⟩ rfl rfl hl.1 rfl (lv_room (Nat.le_of_ble_eq_true rfl)) eX8_soonest_2 ⟨Nat.le_of_ble_eq_true rfl, Nat.le_of_ble_eq_true rfl⟩) hS (fun q _ h => pu_fr hS hA q h) (pu_fr hS hA) (fun r_1 u t H1 locs ht hvm hw hB hz1 hk1 hS => ?_)
  have hP := pu_keep hP hk1
  clear hPc hDc hKc
  clear hk1 hz1 ht hvm
  generalize H1 = H at hP hS ⊢
  rcases hw with ⟨rfl, hw⟩ | rfl
  · obtain ⟨n_2, hn_2, -⟩ := hw
    exact absurd hn_2 (Nat.not_lt_zero _)
  · refine lv_if_eq (tgt := 17) hx hb eX8_soonest_5 (by decide) (fun _ => ?_) (fun z => absurd z (by decide))
    refine lv_iconst (v := (-1)) hx hb eX8_soonest_17 (by decide) ?_
    exact W.iret (v := (-1)) hx hb hr (fun t ht hW => ⟨⟨(-1), (), rfl, trivial, trivial⟩, hS.F ht⟩) hS.2.2 eX8_soonest_18
theorem eX8_soonest_8 : decode cX8_soonest 8 = .ok (.iload_n 2, 1) := by decide +kernel
theorem eX8_soonest_9 : decode cX8_soonest 9 = .ok (.ifCond .lt 8, 3) := by decide +kernel
theorem eX8_soonest_12 : decode cX8_soonest 12 = .ok (.iload_n 2, 1) := by decide +kernel
theorem eX8_soonest_13 : decode cX8_soonest 13 = .ok (.iconst 1, 1) := by decide +kernel
theorem eX8_soonest_14 : decode cX8_soonest 14 = .ok (.if_icmp .le 5, 3) := by decide +kernel
theorem eX8_soonest_19 : decode cX8_soonest 19 = .ok (.aload_n 0, 1) := by decide +kernel
theorem eX8_soonest_20 : decode cX8_soonest 20 = .ok (.getfield 104, 3) := by decide +kernel
theorem eX8_soonest_23 : decode cX8_soonest 23 = .ok (.ifCond .ne 49, 3) := by decide +kernel
theorem eX8_soonest_26 : decode cX8_soonest 26 = .ok (.aload_n 0, 1) := by decide +kernel
theorem eX8_soonest_27 : decode cX8_soonest 27 = .ok (.getfield 49, 3) := by decide +kernel
theorem eX8_soonest_30 : decode cX8_soonest 30 = .ok (.aload_n 0, 1) := by decide +kernel
theorem eX8_soonest_31 : decode cX8_soonest 31 = .ok (.getfield 23, 3) := by decide +kernel
theorem eX8_soonest_34 : decode cX8_soonest 34 = .ok (.iconst 2, 1) := by decide +kernel
theorem eX8_soonest_35 : decode cX8_soonest 35 = .ok (.iconst 1, 1) := by decide +kernel
theorem eX8_soonest_36 : decode cX8_soonest 36 = .ok (.aload_n 0, 1) := by decide +kernel
theorem eX8_soonest_37 : decode cX8_soonest 37 = .ok (.getfield 23, 3) := by decide +kernel
theorem eX8_soonest_40 : decode cX8_soonest 40 = .ok (.getfield 116, 3) := by decide +kernel
theorem eX8_soonest_43 : decode cX8_soonest 43 = .ok (.iconst 2, 1) := by decide +kernel
theorem eX8_soonest_44 : decode cX8_soonest 44 = .ok (.iadd, 1) := by decide +kernel
theorem eX8_soonest_45 : decode cX8_soonest 45 = .ok (.invokevirtual 212, 3) := by decide +kernel
theorem eX8_soonest_48 : decode cX8_soonest 48 = .ok (.aload_n 0, 1) := by decide +kernel
theorem eX8_soonest_49 : decode cX8_soonest 49 = .ok (.aload_n 0, 1) := by decide +kernel
theorem eX8_soonest_50 : decode cX8_soonest 50 = .ok (.getfield 49, 3) := by decide +kernel
theorem eX8_soonest_53 : decode cX8_soonest 53 = .ok (.invokevirtual 216, 3) := by decide +kernel
theorem eX8_soonest_56 : decode cX8_soonest 56 = .ok (.aload_n 0, 1) := by decide +kernel
theorem eX8_soonest_57 : decode cX8_soonest 57 = .ok (.getfield 49, 3) := by decide +kernel
theorem eX8_soonest_60 : decode cX8_soonest 60 = .ok (.aload_n 0, 1) := by decide +kernel
theorem eX8_soonest_61 : decode cX8_soonest 61 = .ok (.getfield 23, 3) := by decide +kernel
theorem eX8_soonest_64 : decode cX8_soonest 64 = .ok (.invokevirtual 220, 3) := by decide +kernel
theorem eX8_soonest_67 : decode cX8_soonest 67 = .ok (.aload_n 0, 1) := by decide +kernel
theorem eX8_soonest_68 : decode cX8_soonest 68 = .ok (.iconst 1, 1) := by decide +kernel
theorem eX8_soonest_69 : decode cX8_soonest 69 = .ok (.putfield 104, 3) := by decide +kernel
theorem eX8_soonest_72 : decode cX8_soonest 72 = .ok (.aload_n 0, 1) := by decide +kernel
theorem eX8_soonest_73 : decode cX8_soonest 73 = .ok (.getfield 49, 3) := by decide +kernel
theorem eX8_soonest_76 : decode cX8_soonest 76 = .ok (.getfield 130, 3) := by decide +kernel
theorem eX8_soonest_79 : decode cX8_soonest 79 = .ok (.ifCond .eq 6, 3) := by decide +kernel
theorem eX8_soonest_82 : decode cX8_soonest 82 = .ok (.bipush (-2), 2) := by decide +kernel
theorem eX8_soonest_84 : decode cX8_soonest 84 = .ok (.ireturn, 1) := by decide +kernel
theorem eX8_soonest_85 : decode cX8_soonest 85 = .ok (.aload_n 0, 1) := by decide +kernel
theorem eX8_soonest_86 : decode cX8_soonest 86 = .ok (.getfield 49, 3) := by decide +kernel
theorem eX8_soonest_89 : decode cX8_soonest 89 = .ok (.iload_n 1, 1) := by decide +kernel
theorem eX8_soonest_90 : decode cX8_soonest 90 = .ok (.iconst 0, 1) := by decide +kernel
theorem eX8_soonest_91 : decode cX8_soonest 91 = .ok (.aload_n 0, 1) := by decide +kernel
theorem eX8_soonest_92 : decode cX8_soonest 92 = .ok (.getfield 23, 3) := by decide +kernel
theorem eX8_soonest_95 : decode cX8_soonest 95 = .ok (.getfield 116, 3) := by decide +kernel
theorem eX8_soonest_98 : decode cX8_soonest 98 = .ok (.iconst 1, 1) := by decide +kernel
theorem eX8_soonest_99 : decode cX8_soonest 99 = .ok (.iadd, 1) := by decide +kernel
theorem eX8_soonest_100 : decode cX8_soonest 100 = .ok (.invokevirtual 357, 3) := by decide +kernel
theorem eX8_soonest_103 : decode cX8_soonest 103 = .ok (.istore_n 3, 1) := by decide +kernel
theorem eX8_soonest_104 : decode cX8_soonest 104 = .ok (.iload_n 3, 1) := by decide +kernel
theorem eX8_soonest_105 : decode cX8_soonest 105 = .ok (.bipush (-120), 2) := by decide +kernel
theorem eX8_soonest_107 : decode cX8_soonest 107 = .ok (.if_icmp .gt 5, 3) := by decide +kernel
theorem eX8_soonest_110 : decode cX8_soonest 110 = .ok (.iconst (-1), 1) := by decide +kernel
theorem eX8_soonest_111 : decode cX8_soonest 111 = .ok (.ireturn, 1) := by decide +kernel
theorem eX8_soonest_112 : decode cX8_soonest 112 = .ok (.iload_n 2, 1) := by decide +kernel
theorem eX8_soonest_113 : decode cX8_soonest 113 = .ok (.ifCond .ne 10, 3) := by decide +kernel
theorem eX8_soonest_116 : decode cX8_soonest 116 = .ok (.iload_n 3, 1) := by decide +kernel
theorem eX8_soonest_117 : decode cX8_soonest 117 = .ok (.iconst 1, 1) := by decide +kernel
theorem eX8_soonest_118 : decode cX8_soonest 118 = .ok (.ishr, 1) := by decide +kernel
theorem eX8_soonest_119 : decode cX8_soonest 119 = .ok (.ineg, 1) := by decide +kernel
theorem eX8_soonest_120 : decode cX8_soonest 120 = .ok (.goto 6, 3) := by decide +kernel
theorem eX8_soonest_123 : decode cX8_soonest 123 = .ok (.iload_n 3, 1) := by decide +kernel
theorem eX8_soonest_124 : decode cX8_soonest 124 = .ok (.iconst 1, 1) := by decide +kernel
theorem eX8_soonest_125 : decode cX8_soonest 125 = .ok (.iand, 1) := by decide +kernel
theorem eX8_soonest_126 : decode cX8_soonest 126 = .ok (.ireturn, 1) := by decide +kernel
abbrev vs_C_8_soonest : List Cond := .code yX8_soonest cX8_soonest 4 (some .int) :: CM
theorem g_C_8_soonest_C_8_isPlace : GoodIn vs_C_8_soonest (wsV RX8 140 RX8 yX8_isPlace vs_C_8_isPlace) := cm_gV cm_471 cm_472 cm_473 cm_427 cm_474
theorem g_C_8_soonest_C_1_loosestAt_25 : GoodIn vs_C_8_soonest (wsV RX8 357 RX1 yX1_loosestAt vs_C_1_loosestAt_25) := cm_gV cm_637 cm_638 cm_639 cm_113 cm_153
theorem g_C_8_soonest_C_1_plan_25 : GoodIn vs_C_8_soonest (wsV RX8 212 RX1 yX1_plan vs_C_1_plan_25) := cm_gV cm_516 cm_517 cm_518 cm_113 cm_75
theorem g_C_8_soonest_C_8_beginAtZero_25 : GoodIn vs_C_8_soonest (wsV RX8 216 RX8 yX8_beginAtZero vs_C_8_beginAtZero_25) := cm_gV cm_519 cm_520 cm_521 cm_427 cm_522
theorem g_C_8_soonest_C_1_grow_25 : GoodIn vs_C_8_soonest (wsV RX8 220 RX1 yX1_grow vs_C_1_grow_25) := cm_gV cm_527 cm_528 cm_529 cm_113 cm_120
set_option maxHeartbeats 4000000 in
set_option maxRecDepth 100000 in
theorem c_C_8_soonest (l : Launch) (dC : Nat → ClassId) (dI : Nat → Nat → Nat) (sz : Nat) (xa : Nat) (xtape : Nat) (tp : Nat) (rd : Nat) (au : Nat) (xdr : Nat) (hy : Nat) (g : Nat) (hs : Nat) (tg : Nat) (sg : Nat) (ss : Nat) (rm : Nat) (ti : Nat) (py : Nat) (bu : Nat) (sm : Nat) (nc : Nat) (np : Nat) (ne : Nat) (st0 : Nat) (q4 : Nat) (q5 : Nat) (q6 : Nat) (q7 : Nat) (q8 : Nat) (q9 : Nat) (q10 : Nat) (q11 : Nat) (q12 : Nat) (q13 : Nat) (q14 : Nat) (q15 : Nat) (q16 : Nat) (k_f4 : ClassId) (f4 : Nat → Int32) (k_f5 : ClassId) (q_f5 : Nat → Nat) (k_f6 : ClassId) (q_f6 : Nat → Nat) (k_f7 : ClassId) (f7 : Nat → Int32) (k_f8 : ClassId) (q_f8 : Nat → Nat) (k_f9 : ClassId) (q_f9 : Nat → Nat) (k_f10 : ClassId) (f10 : Nat → Int32) (k_f11 : ClassId) (f11 : Nat → Int32) (k_f12 : ClassId) (f12 : Nat → Int32) (k_f13 : ClassId) (f13 : Nat → Int32) (k_f14 : ClassId) (f14 : Nat → Int32) (k_f15 : ClassId) (f15 : Nat → Int32) (k_f16 : ClassId) (f16 : Nat → Int32) (uz : Nat) (u1 : Nat) (u2 : Nat) (u3 : Nat) (u4 : Nat) (u5 : Nat) (uc : Nat) (ufull : Nat) (ux : Int32) (uway : Int32) (uav : Int32) (ugoal : Int32) (ufound : Nat) (ul : Nat) (usz : Nat) (u16 : Nat) (u17 : Nat) (k_fuz : ClassId) (k_s1u : ClassId) (q_s1u : Nat → Nat) (k_s2u : ClassId) (s2u : Nat → Int32) (k_s3u : ClassId) (s3u : Nat → Int32) (k_s4u : ClassId) (s4u : Nat → Int32) (k_s5u : ClassId) (s5u : Nat → Int32) (k_hiu : ClassId) (hiu : Nat → Int32) (k_lou : ClassId) (lou : Nat → Int32) (k_fbu : ClassId) (fbu : Nat → Int32) (N : Nat) (o : Nat) (az ac : Nat → Nat) (kz : Nat → ClassId) (qs : Nat → Nat) (fz : Nat → Nat → Int32) (p0 : Int32) (p1 : Int32) (htp : tp ≤ 900) (hhs : hs ≤ 1) (hss : ss ≤ 1) (hnc : nc ≤ 3) (hnp : np ≤ 8) (hne : ne ≤ 14) (hst0 : st0 ≤ 7) (huc : uc ≤ 400) (hufull : ufull ≤ 1) (hufound : ufound ≤ 1) (hul : ul ≤ 1) (husz : usz ≤ 5) (hN : o + 401 ≤ N) (hq0 : gz_ok uc s2u s3u s4u) : Met l yX8_soonest vs_C_8_soonest ({ frames := 5, cells := 0, slots := 0, locals := 125 }) (va_Pc [.ref xa, .int p0, .int p1] (pu_B (dC, dI) ((xso__w xa xtape (nI tp) rd au xdr hy g (nI hs) tg sg (nI ss) rm ti py bu sm (nI nc) (nI np) (nI ne) (nI st0) q4 q5 q6 q7 q8 q9 q10 q11 q12 q13 q14 q15 q16 k_f4 f4 k_f5 (bN 7 q_f5) k_f6 (bN 7 q_f6) k_f7 f7 k_f8 (bN 4 q_f8) k_f9 (bN 2 q_f9) k_f10 f10 k_f11 f11 k_f12 f12 k_f13 f13 k_f14 f14 k_f15 f15 k_f16 f16 uz u1 u2 u3 u4 u5 (nI uc) (nI ufull) ux uway uav ugoal (nI ufound) 400 (nI ul) (nI usz) u16 u17 k_fuz (zs o 401 az) k_s1u (bN 7 q_s1u) k_s2u s2u k_s3u s3u k_s4u s4u k_s5u s5u k_hiu hiu k_lou lou k_fbu fbu) ++ zp 5 25 N az ac kz qs fz) ((xso__t k_f4 k_f5 k_f6 k_f7 k_f8 k_f9 k_f10 k_f11 k_f12 k_f13 k_f14 k_f15 k_f16 k_fuz k_s1u k_s2u k_s3u k_s4u k_s5u k_hiu k_lou k_fbu) ++ zt N kz) sz)) (va_Qi (fun (r : Int32) (_ : Unit) => True) (fun _ t => ∃ (z_s1u : Nat → Nat) (z_s2u : Nat → Int32) (z_s3u : Nat → Int32) (z_s4u : Nat → Int32) (z_s5u : Nat → Int32) (z_hiu : Nat → Int32) (z_lou : Nat → Int32) (z_fbu : Nat → Int32) (z_ss : Nat) (z_uav : Int32) (z_ugoal : Int32) (z_ufound : Nat) (z_ul : Nat) (z_usz : Nat) (z_uc : Nat) (z_ufull : Nat) (z_ux : Int32) (z_uway : Int32) (z_fz : Nat → Nat → Int32) (z_qs : Nat → Nat), pu_E (dC, dI) ((xso__w xa xtape (nI tp) rd au xdr hy g (nI hs) tg sg (nI z_ss) rm ti py bu sm (nI nc) (nI np) (nI ne) (nI st0) q4 q5 q6 q7 q8 q9 q10 q11 q12 q13 q14 q15 q16 k_f4 f4 k_f5 (bN 7 q_f5) k_f6 (bN 7 q_f6) k_f7 f7 k_f8 (bN 4 q_f8) k_f9 (bN 2 q_f9) k_f10 f10 k_f11 f11 k_f12 f12 k_f13 f13 k_f14 f14 k_f15 f15 k_f16 f16 uz u1 u2 u3 u4 u5 (nI z_uc) (nI z_ufull) z_ux z_uway z_uav z_ugoal (nI z_ufound) 400 (nI z_ul) (nI z_usz) u16 u17 k_fuz (zs o 401 az) k_s1u (bN 7 z_s1u) k_s2u z_s2u k_s3u z_s3u k_s4u z_s4u k_s5u z_s5u k_hiu z_hiu k_lou z_lou k_fbu z_fbu) ++ zp 5 25 N az ac kz z_qs z_fz) ((xso__t k_f4 k_f5 k_f6 k_f7 k_f8 k_f9 k_f10 k_f11 k_f12 k_f13 k_f14 k_f15 k_f16 k_fuz k_s1u k_s2u k_s3u k_s4u k_s5u k_hiu k_lou k_fbu) ++ zt N kz) (va_A (((xso__w xa xtape (nI tp) rd au xdr hy g (nI hs) tg sg (nI ss) rm ti py bu sm (nI nc) (nI np) (nI ne) (nI st0) q4 q5 q6 q7 q8 q9 q10 q11 q12 q13 q14 q15 q16 k_f4 f4 k_f5 (bN 7 q_f5) k_f6 (bN 7 q_f6) k_f7 f7 k_f8 (bN 4 q_f8) k_f9 (bN 2 q_f9) k_f10 f10 k_f11 f11 k_f12 f12 k_f13 f13 k_f14 f14 k_f15 f15 k_f16 f16 uz u1 u2 u3 u4 u5 (nI uc) (nI ufull) ux uway uav ugoal (nI ufound) 400 (nI ul) (nI usz) u16 u17 k_fuz (zs o 401 az) k_s1u (bN 7 q_s1u) k_s2u s2u k_s3u s3u k_s4u s4u k_s5u s5u k_hiu hiu k_lou lou k_fbu fbu) ++ zp 5 25 N az ac kz qs fz)) sz) t ∧ (z_ss ≤ 1) ∧ (z_ufound ≤ 1) ∧ (z_ul ≤ 1) ∧ (z_usz ≤ 5) ∧ (z_uc ≤ 400) ∧ (z_ufull ≤ 1) ∧ (gz_ok z_uc z_s2u z_s3u z_s4u)) (va_A (((xso__w xa xtape (nI tp) rd au xdr hy g (nI hs) tg sg (nI ss) rm ti py bu sm (nI nc) (nI np) (nI ne) (nI st0) q4 q5 q6 q7 q8 q9 q10 q11 q12 q13 q14 q15 q16 k_f4 f4 k_f5 (bN 7 q_f5) k_f6 (bN 7 q_f6) k_f7 f7 k_f8 (bN 4 q_f8) k_f9 (bN 2 q_f9) k_f10 f10 k_f11 f11 k_f12 f12 k_f13 f13 k_f14 f14 k_f15 f15 k_f16 f16 uz u1 u2 u3 u4 u5 (nI uc) (nI ufull) ux uway uav ugoal (nI ufound) 400 (nI ul) (nI usz) u16 u17 k_fuz (zs o 401 az) k_s1u (bN 7 q_s1u) k_s2u s2u k_s3u s3u k_s4u s4u k_s5u s5u k_hiu hiu k_lou lou k_fbu fbu) ++ zp 5 25 N az ac kz qs fz)) sz)) 0 0 (va_A (((xso__w xa xtape (nI tp) rd au xdr hy g (nI hs) tg sg (nI ss) rm ti py bu sm (nI nc) (nI np) (nI ne) (nI st0) q4 q5 q6 q7 q8 q9 q10 q11 q12 q13 q14 q15 q16 k_f4 f4 k_f5 (bN 7 q_f5) k_f6 (bN 7 q_f6) k_f7 f7 k_f8 (bN 4 q_f8) k_f9 (bN 2 q_f9) k_f10 f10 k_f11 f11 k_f12 f12 k_f13 f13 k_f14 f14 k_f15 f15 k_f16 f16 uz u1 u2 u3 u4 u5 (nI uc) (nI ufull) ux uway uav ugoal (nI ufound) 400 (nI ul) (nI usz) u16 u17 k_fuz (zs o 401 az) k_s1u (bN 7 q_s1u) k_s2u s2u k_s3u s3u k_s4u s4u k_s5u s5u k_hiu hiu k_lou lou k_fbu fbu) ++ zp 5 25 N az ac kz qs fz)) sz) := by
  refine Met.ofW (cc := cX8_soonest) (maxL := 4) (ret := (some .int)) (by decide) rfl ?_
  intro p e s m args below meth c s₁ B hml hv
  obtain ⟨rfl, rfl, hP, hK, hD0⟩ := hv
  have hx := B.exec
  have hb := B.bytes
  have hr := B.returns
  have hts := atoms_spec (ws := vs_C_8_soonest) B.pre
  have v_6 := hts (.fieldLink RX8 104 "ClockReach" "soonStands" "Z") (List.mem_cons_of_mem _ cm_446)
  have v_7 := hts (.fieldLink RX8 49 "ClockReach" "soon" "LClockReach$Graph;") (List.mem_cons_of_mem _ cm_636)
  have v_8 := hts (.fieldLink RX8 23 "ClockReach" "model" "LClockReach$Automaton;") (List.mem_cons_of_mem _ cm_434)
  have v_9 := hts (.fieldLink RX8 116 "ClockReach$Automaton" "clocks" "I") (List.mem_cons_of_mem _ cm_453)
  have v_23 := hts (.fieldLink RX8 130 "ClockReach$Graph" "full" "Z") (List.mem_cons_of_mem _ cm_458)
  have hown : s.vm.findClass RX8 = some m.cls := findClass_of_methodNamed B.named
  have hlocks := B.notSynchronized
  have hiX0 : ∀ w ∈ wsX00, w ∈ vs_C_8_soonest := fun _ h => List.mem_cons_of_mem _ (cm_X0 h)
  have hiX1 : ∀ w ∈ wsX10, w ∈ vs_C_8_soonest := fun _ h => List.mem_cons_of_mem _ (cm_X1 h)
  have hiX8 : ∀ w ∈ wsX80, w ∈ vs_C_8_soonest := fun _ h => List.mem_cons_of_mem _ (cm_X8 h)
  have hD := hD0.self (sz := s.heap.size)
  generalize hAe : va_A (((xso__w xa xtape (nI tp) rd au xdr hy g (nI hs) tg sg (nI ss) rm ti py bu sm (nI nc) (nI np) (nI ne) (nI st0) q4 q5 q6 q7 q8 q9 q10 q11 q12 q13 q14 q15 q16 k_f4 f4 k_f5 (bN 7 q_f5) k_f6 (bN 7 q_f6) k_f7 f7 k_f8 (bN 4 q_f8) k_f9 (bN 2 q_f9) k_f10 f10 k_f11 f11 k_f12 f12 k_f13 f13 k_f14 f14 k_f15 f15 k_f16 f16 uz u1 u2 u3 u4 u5 (nI uc) (nI ufull) ux uway uav ugoal (nI ufound) 400 (nI ul) (nI usz) u16 u17 k_fuz (zs o 401 az) k_s1u (bN 7 q_s1u) k_s2u s2u k_s3u s3u k_s4u s4u k_s5u s5u k_hiu hiu k_lou lou k_fbu fbu) ++ zp 5 25 N az ac kz qs fz)) s.heap.size = A at hD ⊢
  have hA : ∀ q : Nat, s.heap.size ≤ q → A q := fun q h => by rw [← hAe]; exact Or.inr h
  have hS : va_S A s.heap s.heap [] := va_S.rf
  have hl := lv_entry ([.ref xa, .int p0, .int p1]) (n := 4) (Nat.le_of_ble_eq_true rfl)
  rw [lg_entry_eq]
  generalize (lg_sl ([.ref xa, .int p0, .int p1]) ++ List.replicate (4 - (lg_sl ([.ref xa, .int p0, .int p1])).length) Slot.unset).toArray = ls at hl ⊢
  have hl : lv_has ls 4 [(0, .ref xa), (1, .int p0), (2, .int p1)] := hl
  refine lv_aload_n hx hb eX8_soonest_0 rfl (lv_at hl 0 rfl) ?_
  refine lv_iload_n hx hb eX8_soonest_1 rfl (lv_at hl 1 rfl) ?_
  have hPc : va_P (dC, dI) vwCl [(xa, .inr (8, [.ref xtape, .int (nI tp), .ref rd, .ref au, .ref xdr, .ref hy, .ref g, .int (nI hs), .ref tg, .ref sg, .int (nI ss), .ref rm, .ref ti, .ref py, .ref bu, .ref sm])), (au, .inr (0, [.int (nI nc), .int (nI np), .int (nI ne), .int (nI st0), .ref q4, .ref q5, .ref q6, .ref q7, .ref q8, .ref q9, .ref q10, .ref q11, .ref q12, .ref q13, .ref q14, .ref q15, .ref q16]))] _ := hP.sub [0, 1] rfl
  have hDc : va_D A [(xa, .inr (8, [.ref xtape, .int (nI tp), .ref rd, .ref au, .ref xdr, .ref hy, .ref g, .int (nI hs), .ref tg, .ref sg, .int (nI ss), .ref rm, .ref ti, .ref py, .ref bu, .ref sm])), (au, .inr (0, [.int (nI nc), .int (nI np), .int (nI ne), .int (nI st0), .ref q4, .ref q5, .ref q6, .ref q7, .ref q8, .ref q9, .ref q10, .ref q11, .ref q12, .ref q13, .ref q14, .ref q15, .ref q16]))] := (zp_left hD).sub [0, 1] (by decide) rfl
  have hKc : va_K (dC, dI) vwCl [] s := hK.sub [] rfl
  refine va_calli (va_runV (As := [.int p0]) (rest := []) ⟨hx, hb, hml, hown, hts⟩ (c_C_8_isPlace l dC dI _ xa xtape tp rd au xdr hy g hs tg sg ss rm ti py bu sm nc np ne (nI st0) q4 q5 q6 q7 q8 q9 q10 q11 q12 q13 q14 q15 q16 p0 htp hhs hss hnc hnp hne (Or.inr ⟨st0, hst0, rfl⟩)) (cwV 1 hts g_C_8_soonest_C_8_isPlace rfl rfl rfl (by decide +kernel) ⟨Nat.le_of_ble_eq_true rfl, Nat.le_of_ble_eq_true rfl⟩) ⟨pu_bl, va_recv hK hP (ci := 8) (q0 := 0) rfl rfl, pu_in hPc hKc hDc⟩ rfl rfl hl.1 rfl (lv_room (Nat.le_of_ble_eq_true rfl)) eX8_soonest_2 ⟨Nat.le_of_ble_eq_true rfl, Nat.le_of_ble_eq_true rfl⟩) hS (fun q _ h => pu_fr hS hA q h) (pu_fr hS hA) (fun r_1 u t H1 locs ht hvm hw hB hz1 hk1 hS => ?_)
  have hP := pu_keep hP hk1
  clear hPc hDc hKc
  clear hk1 hz1 ht hvm
  generalize H1 = H at hP hS ⊢
  rcases hw with ⟨rfl, hw⟩ | rfl
  · obtain ⟨n_2, hn_2, rfl⟩ := hw
    refine lv_if_eq (tgt := 17) hx hb eX8_soonest_5 (by decide) (fun z => absurd z (by decide)) (fun _ => ?_)
    refine lv_iload_n hx hb eX8_soonest_8 rfl (lv_at hl 2 rfl) ?_
    refine lv_if_lt (tgt := 17) hx hb eX8_soonest_9 (by decide) (fun c_3 => ?_) (fun c_3 => ?_)
    · refine lv_iconst (v := (-1)) hx hb eX8_soonest_17 (by decide) ?_
      exact W.iret (v := (-1)) hx hb hr (fun t ht hW => ⟨⟨(-1), (), rfl, trivial, ⟨q_s1u, s2u, s3u, s4u, s5u, hiu, lou, fbu, ss, uav, ugoal, ufound, ul, usz, uc, ufull, ux, uway, fz, qs, ⟨by rw [ht]; exact hP, va_K.moved hW.alike hK, hD⟩, hss, hufound, hul, husz, huc, hufull, by first | assumption | exact gz_0⟩⟩, hS.F ht⟩) hS.2.2 eX8_soonest_18
    · have lp1 : ¬ p1 < 0 := c_3
      refine lv_iload_n hx hb eX8_soonest_12 rfl (lv_at hl 2 rfl) ?_
      refine lv_iconst (v := 1) hx hb eX8_soonest_13 (by decide) ?_
      refine lv_icmp_le (tgt := 19) hx hb eX8_soonest_14 (by decide) (fun c_4 => ?_) (fun c_4 => ?_)
      · obtain ⟨n_5, hn_5, rfl⟩ := pu_ule (b := 1) (by omega) lp1 (c_4)
        refine lv_aload_n hx hb eX8_soonest_19 rfl (lv_at hl 0 rfl) ?_
        refine va_get (D := (dC, dI)) (ci := 8) (v := .int (nI ss)) (C := RX8) (T := TX8) (N := 16) hx hb hts hiX8 hown hK hP 0 rfl rfl 10 (by decide) v_6 (fun _ h9 => h9) rfl eX8_soonest_20 ?_
        refine pu_join (fun H locs ls st => ∃ (g_6 : Nat) (g_7 : Nat) (g_8 : Nat) (g_9 : Int32) (g_10 : Int32) (g_11 : Int32) (g_12 : Int32) (g_13 : Nat) (g_14 : Nat) (g_15 : Nat) (g_16 : Nat → Nat) (g_17 : Nat → Int32) (g_18 : Nat → Int32) (g_19 : Nat → Int32) (g_20 : Nat → Int32) (g_21 : Nat → Int32) (g_22 : Nat → Int32) (g_23 : Nat → Int32) (g_24 : Nat → Nat) (g_25 : Nat → Nat → Int32), st = [] ∧ (1 ≤ g_6 ∧ g_6 ≤ 1) ∧ g_7 ≤ 400 ∧ g_8 ≤ 1 ∧ g_13 ≤ 1 ∧ g_14 ≤ 1 ∧ g_15 ≤ 5 ∧ va_P (dC, dI) vwCl ((xso__w xa xtape (nI tp) rd au xdr hy g (nI hs) tg sg (nI g_6) rm ti py bu sm (nI nc) (nI np) (nI ne) (nI st0) q4 q5 q6 q7 q8 q9 q10 q11 q12 q13 q14 q15 q16 k_f4 f4 k_f5 (bN 7 q_f5) k_f6 (bN 7 q_f6) k_f7 f7 k_f8 (bN 4 q_f8) k_f9 (bN 2 q_f9) k_f10 f10 k_f11 f11 k_f12 f12 k_f13 f13 k_f14 f14 k_f15 f15 k_f16 f16 uz u1 u2 u3 u4 u5 (nI g_7) (nI g_8) g_9 g_10 g_11 g_12 (nI g_13) 400 (nI g_14) (nI g_15) u16 u17 k_fuz (zs o 401 az) k_s1u (bN 7 g_16) k_s2u g_17 k_s3u g_18 k_s4u g_19 k_s5u g_20 k_hiu g_21 k_lou g_22 k_fbu g_23) ++ zp 5 25 N az ac kz g_24 g_25) H ∧ va_D A ((xso__w xa xtape (nI tp) rd au xdr hy g (nI hs) tg sg (nI g_6) rm ti py bu sm (nI nc) (nI np) (nI ne) (nI st0) q4 q5 q6 q7 q8 q9 q10 q11 q12 q13 q14 q15 q16 k_f4 f4 k_f5 (bN 7 q_f5) k_f6 (bN 7 q_f6) k_f7 f7 k_f8 (bN 4 q_f8) k_f9 (bN 2 q_f9) k_f10 f10 k_f11 f11 k_f12 f12 k_f13 f13 k_f14 f14 k_f15 f15 k_f16 f16 uz u1 u2 u3 u4 u5 (nI g_7) (nI g_8) g_9 g_10 g_11 g_12 (nI g_13) 400 (nI g_14) (nI g_15) u16 u17 k_fuz (zs o 401 az) k_s1u (bN 7 g_16) k_s2u g_17 k_s3u g_18 k_s4u g_19 k_s5u g_20 k_hiu g_21 k_lou g_22 k_fbu g_23) ++ zp 5 25 N az ac kz g_24 g_25) ∧ va_S A s.heap H locs ∧ lv_has ls 4 [(0, .ref xa), (1, .int (nI n_2)), (2, .int (nI n_5))]) 72 ?_ (fun j_26 => ?_)
        · rintro H locs ls st ⟨g_6, g_7, g_8, g_9, g_10, g_11, g_12, g_13, g_14, g_15, g_16, g_17, g_18, g_19, g_20, g_21, g_22, g_23, g_24, g_25, rfl, hg_6, hg_7, hg_8, hg_13, hg_14, hg_15, hP, hD, hS, hl⟩
          refine lv_aload_n hx hb eX8_soonest_72 rfl (lv_at hl 0 rfl) ?_
          refine va_get (D := (dC, dI)) (ci := 8) (v := .ref sg) (C := RX8) (T := TX8) (N := 16) hx hb hts hiX8 hown hK hP 0 rfl rfl 9 (by decide) v_7 (fun _ h9 => h9) rfl eX8_soonest_73 ?_
          refine va_get (D := (dC, dI)) (ci := 1) (v := .int (nI g_8)) (C := RX1) (T := TX1) (N := 18) hx hb hts hiX1 hown hK hP 15 rfl rfl 7 (by decide) v_23 (fun _ h9 => h9) rfl eX8_soonest_76 ?_
          refine lv_if_eq (tgt := 85) hx hb eX8_soonest_79 (by decide) (fun c_27 => ?_) (fun c_27 => ?_)
          · have c_27 : g_8 = 0 := (nI_eq (a := g_8) (b := 0) (Nat.lt_of_le_of_lt hg_8 (Nat.le_of_ble_eq_true rfl)) (Nat.le_of_ble_eq_true rfl)).mp c_27
            refine lv_aload_n hx hb eX8_soonest_85 rfl (lv_at hl 0 rfl) ?_
            refine va_get (D := (dC, dI)) (ci := 8) (v := .ref sg) (C := RX8) (T := TX8) (N := 16) hx hb hts hiX8 hown hK hP 0 rfl rfl 9 (by decide) v_7 (fun _ h9 => h9) rfl eX8_soonest_86 ?_
            refine lv_iload_n hx hb eX8_soonest_89 rfl (lv_at hl 1 rfl) ?_
            refine lv_iconst (v := 0) hx hb eX8_soonest_90 (by decide) ?_
            refine lv_aload_n hx hb eX8_soonest_91 rfl (lv_at hl 0 rfl) ?_
            refine va_get (D := (dC, dI)) (ci := 8) (v := .ref au) (C := RX8) (T := TX8) (N := 16) hx hb hts hiX8 hown hK hP 0 rfl rfl 3 (by decide) v_8 (fun _ h9 => h9) rfl eX8_soonest_92 ?_
            refine va_get (D := (dC, dI)) (ci := 0) (v := .int (nI nc)) (C := RX0) (T := TX0) (N := 17) hx hb hts hiX0 hown hK hP 1 rfl rfl 0 (by decide) v_9 (fun _ h9 => h9) rfl eX8_soonest_95 ?_
            refine lv_iconst (v := 1) hx hb eX8_soonest_98 (by decide) ?_
            refine lv_iadd hx hb eX8_soonest_99 ?_
            refine lv_topi (fun y_28 ey_28 => ?_)
            obtain rfl : y_28 = (nI (nc + 1)) := ey_28.trans (nI_add nc 1)
            have hPc : va_P (dC, dI) vwCl ([(sg, .inr (1, [.ref uz, .ref u1, .ref u2, .ref u3, .ref u4, .ref u5, .int (nI g_7), .int (nI g_8), .int g_9, .int g_10, .int g_11, .int g_12, .int (nI g_13), .int 400, .int (nI g_14), .int (nI g_15), .ref u16, .ref u17])), (uz, .inl (k_fuz, 401, .inr (.inr (.inr (.inr (zs o 401 az)))))), (u1, .inl (k_s1u, 400, .inl (bN 7 g_16))), (u2, .inl (k_s2u, 400, .inl g_17)), (u3, .inl (k_s3u, 400, .inl g_18)), (u4, .inl (k_s4u, 400, .inl g_19)), (u5, .inl (k_s5u, 400, .inl g_20)), (u16, .inl (k_hiu, 5, .inl g_21)), (u17, .inl (k_lou, 5, .inl g_22))] ++ zp 5 25 N az ac kz g_24 g_25) _ := hP.part [15, 16, 17, 18, 19, 20, 21, 22, 23] rfl
            have hDc : va_D A ([(sg, .inr (1, [.ref uz, .ref u1, .ref u2, .ref u3, .ref u4, .ref u5, .int (nI g_7), .int (nI g_8), .int g_9, .int g_10, .int g_11, .int g_12, .int (nI g_13), .int 400, .int (nI g_14), .int (nI g_15), .ref u16, .ref u17])), (uz, .inl (k_fuz, 401, .inr (.inr (.inr (.inr (zs o 401 az)))))), (u1, .inl (k_s1u, 400, .inl (bN 7 g_16))), (u2, .inl (k_s2u, 400, .inl g_17)), (u3, .inl (k_s3u, 400, .inl g_18)), (u4, .inl (k_s4u, 400, .inl g_19)), (u5, .inl (k_s5u, 400, .inl g_20)), (u16, .inl (k_hiu, 5, .inl g_21)), (u17, .inl (k_lou, 5, .inl g_22))] ++ zp 5 25 N az ac kz g_24 g_25) := hD.part [15, 16, 17, 18, 19, 20, 21, 22, 23] (by decide) rfl
            have hKc : va_K (dC, dI) vwCl ([(k_fuz, .object RX7), (k_s1u, .int), (k_s2u, .int), (k_s3u, .int), (k_s4u, .int), (k_s5u, .int), (k_hiu, .int), (k_lou, .int)] ++ zt N kz) s := zk_part hK [13, 14, 15, 16, 17, 18, 19, 20] rfl
            refine va_calli (va_runV (As := [.int (nI n_2), .int 0, .int (nI (nc + 1))]) (rest := []) ⟨hx, hb, hml, hown, hts⟩ (c_C_1_loosestAt_25 l dC dI _ sg uz u1 u2 u3 u4 u5 g_7 g_8 g_9 g_10 g_11 g_12 g_13 g_14 g_15 u16 u17 k_fuz k_s1u g_16 k_s2u g_17 k_s3u g_18 k_s4u g_19 k_s5u g_20 k_hiu g_21 k_lou g_22 N o az ac kz g_24 g_25 (nI n_2) 0 (nc + 1) hg_7 hg_8 hg_13 hg_14 hg_15 (by omega) (Nat.le_of_ble_eq_true rfl) (by omega)) (cwV 3 hts g_C_8_soonest_C_1_loosestAt_25 rfl rfl rfl (by decide +kernel) ⟨Nat.le_of_ble_eq_true rfl, Nat.le_of_ble_eq_true rfl⟩) ⟨pu_bl, va_recv hK hP (ci := 1) (q0 := 15) rfl rfl, pu_in hPc hKc hDc⟩ rfl rfl hl.1 rfl (lv_room (Nat.le_of_ble_eq_true rfl)) eX8_soonest_100 ⟨Nat.le_of_ble_eq_true rfl, Nat.le_of_ble_eq_true rfl⟩) hS (fun q _ h => pu_fr hS hA q h) (pu_fr hS hA) (fun r_29 u t H1 locs ht hvm hw hB hz1 hk1 hS => ?_)
            have hP := pu_keep hP hk1
            clear hPc hDc hKc
            clear hk1 hz1 ht hvm
            generalize H1 = H at hP hS ⊢
            refine lv_istore_n (lv' := [(3, .int r_29), (0, .ref xa), (1, .int (nI n_2)), (2, .int (nI n_5))]) hx hb eX8_soonest_103 rfl hl (by decide) rfl (fun ls hl => ?_)
            refine lv_iload_n hx hb eX8_soonest_104 rfl (lv_at hl 0 rfl) ?_
            refine lv_bipush (v := (-120)) hx hb eX8_soonest_105 (by decide) ?_
            refine lv_icmp_gt (tgt := 112) hx hb eX8_soonest_107 (by decide) (fun c_30 => ?_) (fun c_30 => ?_)
            · refine lv_iload_n hx hb eX8_soonest_112 rfl (lv_at hl 3 rfl) ?_
              refine lv_if_ne (tgt := 123) hx hb eX8_soonest_113 (by decide) (fun c_31 => ?_) (fun c_31 => ?_)
              · have c_31 : ¬ n_5 = 0 := fun z => c_31 ((nI_eq (a := n_5) (b := 0) (by omega) (Nat.le_of_ble_eq_true rfl)).mpr z)
                refine lv_iload_n hx hb eX8_soonest_123 rfl (lv_at hl 0 rfl) ?_
                refine lv_iconst (v := 1) hx hb eX8_soonest_124 (by decide) ?_
                refine lv_iand hx hb eX8_soonest_125 ?_
                refine lv_topi (fun y_32 ey_32 => ?_)
                exact W.iret (v := y_32) hx hb hr (fun t ht hW => ⟨⟨y_32, (), rfl, trivial, ⟨g_16, g_17, g_18, g_19, g_20, g_21, g_22, g_23, g_6, g_11, g_12, g_13, g_14, g_15, g_7, g_8, g_9, g_10, g_25, g_24, ⟨by rw [ht]; exact hP, va_K.moved hW.alike hK, hD⟩, hg_6.2, hg_13, hg_14, hg_15, hg_7, hg_8, by first | assumption | exact gz_0⟩⟩, hS.F ht⟩) hS.2.2 eX8_soonest_126
              · have c_31 : n_5 = 0 := (nI_eq (a := n_5) (b := 0) (by omega) (Nat.le_of_ble_eq_true rfl)).mp c_31
                refine lv_iload_n hx hb eX8_soonest_116 rfl (lv_at hl 0 rfl) ?_
                refine lv_iconst (v := 1) hx hb eX8_soonest_117 (by decide) ?_
                refine lv_ishr hx hb eX8_soonest_118 ?_
                refine lv_topi (fun y_33 ey_33 => ?_)
                refine lv_ineg hx hb eX8_soonest_119 ?_
                refine lv_topi (fun y_34 ey_34 => ?_)
                refine lv_goto (tgt := 126) hx hb eX8_soonest_120 (by decide) ?_
                exact W.iret (v := y_34) hx hb hr (fun t ht hW => ⟨⟨y_34, (), rfl, trivial, ⟨g_16, g_17, g_18, g_19, g_20, g_21, g_22, g_23, g_6, g_11, g_12, g_13, g_14, g_15, g_7, g_8, g_9, g_10, g_25, g_24, ⟨by rw [ht]; exact hP, va_K.moved hW.alike hK, hD⟩, hg_6.2, hg_13, hg_14, hg_15, hg_7, hg_8, by first | assumption | exact gz_0⟩⟩, hS.F ht⟩) hS.2.2 eX8_soonest_126
            · refine lv_iconst (v := (-1)) hx hb eX8_soonest_110 (by decide) ?_
              exact W.iret (v := (-1)) hx hb hr (fun t ht hW => ⟨⟨(-1), (), rfl, trivial, ⟨g_16, g_17, g_18, g_19, g_20, g_21, g_22, g_23, g_6, g_11, g_12, g_13, g_14, g_15, g_7, g_8, g_9, g_10, g_25, g_24, ⟨by rw [ht]; exact hP, va_K.moved hW.alike hK, hD⟩, hg_6.2, hg_13, hg_14, hg_15, hg_7, hg_8, by first | assumption | exact gz_0⟩⟩, hS.F ht⟩) hS.2.2 eX8_soonest_111
          · have c_27 : ¬ g_8 = 0 := fun z => c_27 ((nI_eq (a := g_8) (b := 0) (Nat.lt_of_le_of_lt hg_8 (Nat.le_of_ble_eq_true rfl)) (Nat.le_of_ble_eq_true rfl)).mpr z)
            refine lv_bipush (v := (-2)) hx hb eX8_soonest_82 (by decide) ?_
            exact W.iret (v := (-2)) hx hb hr (fun t ht hW => ⟨⟨(-2), (), rfl, trivial, ⟨g_16, g_17, g_18, g_19, g_20, g_21, g_22, g_23, g_6, g_11, g_12, g_13, g_14, g_15, g_7, g_8, g_9, g_10, g_25, g_24, ⟨by rw [ht]; exact hP, va_K.moved hW.alike hK, hD⟩, hg_6.2, hg_13, hg_14, hg_15, hg_7, hg_8, by first | assumption | exact gz_0⟩⟩, hS.F ht⟩) hS.2.2 eX8_soonest_84
        refine lv_if_ne (tgt := 72) hx hb eX8_soonest_23 (by decide) (fun c_35 => ?_) (fun c_35 => ?_)
        · have c_35 : ¬ ss = 0 := fun z => c_35 ((nI_eq (a := ss) (b := 0) (Nat.lt_of_le_of_lt hss (Nat.le_of_ble_eq_true rfl)) (Nat.le_of_ble_eq_true rfl)).mpr z)
          exact j_26 _ _ _ _ ⟨ss, uc, ufull, ux, uway, uav, ugoal, ufound, ul, usz, q_s1u, s2u, s3u, s4u, s5u, hiu, lou, fbu, qs, fz, rfl, ⟨by omega, by omega⟩, huc, hufull, hufound, hul, husz, hP, hD, hS, lv_sub hl [0, 1, 2] rfl⟩
        · have c_35 : ss = 0 := (nI_eq (a := ss) (b := 0) (Nat.lt_of_le_of_lt hss (Nat.le_of_ble_eq_true rfl)) (Nat.le_of_ble_eq_true rfl)).mp c_35
          refine lv_aload_n hx hb eX8_soonest_26 rfl (lv_at hl 0 rfl) ?_
          refine va_get (D := (dC, dI)) (ci := 8) (v := .ref sg) (C := RX8) (T := TX8) (N := 16) hx hb hts hiX8 hown hK hP 0 rfl rfl 9 (by decide) v_7 (fun _ h9 => h9) rfl eX8_soonest_27 ?_
          refine lv_aload_n hx hb eX8_soonest_30 rfl (lv_at hl 0 rfl) ?_
          refine va_get (D := (dC, dI)) (ci := 8) (v := .ref au) (C := RX8) (T := TX8) (N := 16) hx hb hts hiX8 hown hK hP 0 rfl rfl 3 (by decide) v_8 (fun _ h9 => h9) rfl eX8_soonest_31 ?_
          refine lv_iconst (v := 2) hx hb eX8_soonest_34 (by decide) ?_
          refine lv_iconst (v := 1) hx hb eX8_soonest_35 (by decide) ?_
          refine lv_aload_n hx hb eX8_soonest_36 rfl (lv_at hl 0 rfl) ?_
          refine va_get (D := (dC, dI)) (ci := 8) (v := .ref au) (C := RX8) (T := TX8) (N := 16) hx hb hts hiX8 hown hK hP 0 rfl rfl 3 (by decide) v_8 (fun _ h9 => h9) rfl eX8_soonest_37 ?_
          refine va_get (D := (dC, dI)) (ci := 0) (v := .int (nI nc)) (C := RX0) (T := TX0) (N := 17) hx hb hts hiX0 hown hK hP 1 rfl rfl 0 (by decide) v_9 (fun _ h9 => h9) rfl eX8_soonest_40 ?_
          refine lv_iconst (v := 2) hx hb eX8_soonest_43 (by decide) ?_
          refine lv_iadd hx hb eX8_soonest_44 ?_
          refine lv_topi (fun y_36 ey_36 => ?_)
          obtain rfl : y_36 = (nI (nc + 2)) := ey_36.trans (nI_add nc 2)
          have hPc : va_P (dC, dI) vwCl ([(sg, .inr (1, [.ref uz, .ref u1, .ref u2, .ref u3, .ref u4, .ref u5, .int (nI uc), .int (nI ufull), .int ux, .int uway, .int uav, .int ugoal, .int (nI ufound), .int 400, .int (nI ul), .int (nI usz), .ref u16, .ref u17])), (uz, .inl (k_fuz, 401, .inr (.inr (.inr (.inr (zs o 401 az)))))), (u1, .inl (k_s1u, 400, .inl (bN 7 q_s1u))), (u2, .inl (k_s2u, 400, .inl s2u)), (u3, .inl (k_s3u, 400, .inl s3u)), (u4, .inl (k_s4u, 400, .inl s4u)), (u5, .inl (k_s5u, 400, .inl s5u)), (u16, .inl (k_hiu, 5, .inl hiu)), (u17, .inl (k_lou, 5, .inl lou)), (au, .inr (0, [.int (nI nc), .int (nI np), .int (nI ne), .int (nI st0), .ref q4, .ref q5, .ref q6, .ref q7, .ref q8, .ref q9, .ref q10, .ref q11, .ref q12, .ref q13, .ref q14, .ref q15, .ref q16])), (q4, .inl (k_f4, 8, .inl f4)), (q5, .inl (k_f5, 14, .inl (bN 7 q_f5))), (q6, .inl (k_f6, 14, .inl (bN 7 q_f6))), (q7, .inl (k_f7, 14, .inl f7)), (q8, .inl (k_f8, 22, .inl (bN 4 q_f8))), (q9, .inl (k_f9, 88, .inl (bN 2 q_f9))), (q10, .inl (k_f10, 88, .inl f10)), (q11, .inl (k_f11, 88, .inl f11)), (q12, .inl (k_f12, 88, .inl f12)), (q13, .inl (k_f13, 88, .inl f13)), (q14, .inl (k_f14, 4, .inl f14)), (q15, .inl (k_f15, 4, .inl f15)), (q16, .inl (k_f16, 4, .inl f16))] ++ zp 5 25 N az ac kz qs fz) _ := hP.part [15, 16, 17, 18, 19, 20, 21, 22, 23, 1, 2, 3, 4, 5, 6, 7, 8, 9, 10, 11, 12, 13, 14] rfl
          have hDc : va_D A ([(sg, .inr (1, [.ref uz, .ref u1, .ref u2, .ref u3, .ref u4, .ref u5, .int (nI uc), .int (nI ufull), .int ux, .int uway, .int uav, .int ugoal, .int (nI ufound), .int 400, .int (nI ul), .int (nI usz), .ref u16, .ref u17])), (uz, .inl (k_fuz, 401, .inr (.inr (.inr (.inr (zs o 401 az)))))), (u1, .inl (k_s1u, 400, .inl (bN 7 q_s1u))), (u2, .inl (k_s2u, 400, .inl s2u)), (u3, .inl (k_s3u, 400, .inl s3u)), (u4, .inl (k_s4u, 400, .inl s4u)), (u5, .inl (k_s5u, 400, .inl s5u)), (u16, .inl (k_hiu, 5, .inl hiu)), (u17, .inl (k_lou, 5, .inl lou)), (au, .inr (0, [.int (nI nc), .int (nI np), .int (nI ne), .int (nI st0), .ref q4, .ref q5, .ref q6, .ref q7, .ref q8, .ref q9, .ref q10, .ref q11, .ref q12, .ref q13, .ref q14, .ref q15, .ref q16])), (q4, .inl (k_f4, 8, .inl f4)), (q5, .inl (k_f5, 14, .inl (bN 7 q_f5))), (q6, .inl (k_f6, 14, .inl (bN 7 q_f6))), (q7, .inl (k_f7, 14, .inl f7)), (q8, .inl (k_f8, 22, .inl (bN 4 q_f8))), (q9, .inl (k_f9, 88, .inl (bN 2 q_f9))), (q10, .inl (k_f10, 88, .inl f10)), (q11, .inl (k_f11, 88, .inl f11)), (q12, .inl (k_f12, 88, .inl f12)), (q13, .inl (k_f13, 88, .inl f13)), (q14, .inl (k_f14, 4, .inl f14)), (q15, .inl (k_f15, 4, .inl f15)), (q16, .inl (k_f16, 4, .inl f16))] ++ zp 5 25 N az ac kz qs fz) := hD.part [15, 16, 17, 18, 19, 20, 21, 22, 23, 1, 2, 3, 4, 5, 6, 7, 8, 9, 10, 11, 12, 13, 14] (by decide) rfl
          have hKc : va_K (dC, dI) vwCl ([(k_fuz, .object RX7), (k_s1u, .int), (k_s2u, .int), (k_s3u, .int), (k_s4u, .int), (k_s5u, .int), (k_hiu, .int), (k_lou, .int), (k_f4, .boolean), (k_f5, .int), (k_f6, .int), (k_f7, .int), (k_f8, .int), (k_f9, .int), (k_f10, .int), (k_f11, .int), (k_f12, .int), (k_f13, .int), (k_f14, .int), (k_f15, .int), (k_f16, .int)] ++ zt N kz) s := zk_part hK [13, 14, 15, 16, 17, 18, 19, 20, 0, 1, 2, 3, 4, 5, 6, 7, 8, 9, 10, 11, 12] rfl
          have hFc := pu_free hDc hS hA
          refine va_callv (va_runV (As := [.ref au, .int 2, .int 1, .int (nI (nc + 2))]) (rest := []) ⟨hx, hb, hml, hown, hts⟩ (c_C_1_plan_25 l dC dI _ sg uz u1 u2 u3 u4 u5 uc ufull ux uway uav ugoal ufound ul usz u16 u17 k_fuz k_s1u q_s1u k_s2u s2u k_s3u s3u k_s4u s4u k_s5u s5u k_hiu hiu k_lou lou au nc np ne (nI st0) q4 q5 q6 q7 q8 q9 q10 q11 q12 q13 q14 q15 q16 k_f4 f4 k_f5 q_f5 k_f6 q_f6 k_f7 f7 k_f8 q_f8 k_f9 q_f9 k_f10 f10 k_f11 f11 k_f12 f12 k_f13 f13 k_f14 f14 k_f15 f15 k_f16 f16 N o az ac kz qs fz 2 1 (nc + 2) huc hufull hufound hul husz hnc hnp hne (Or.inr ⟨st0, hst0, rfl⟩) (by omega) (Nat.le_of_ble_eq_true rfl) (by omega)) (cwV 4 hts g_C_8_soonest_C_1_plan_25 rfl rfl rfl (by decide +kernel) ⟨Nat.le_of_ble_eq_true rfl, Nat.le_of_ble_eq_true rfl⟩) ⟨pu_bl, va_recv hK hP (ci := 1) (q0 := 15) rfl rfl, pu_in hPc hKc hDc⟩ rfl rfl hl.1 rfl (lv_room (Nat.le_of_ble_eq_true rfl)) eX8_soonest_45 ⟨Nat.le_of_ble_eq_true rfl, Nat.le_of_ble_eq_true rfl⟩) hS (fun q _ h => hFc q h) hFc (fun u t H1 locs ht hvm hw hB hz1 hk1 hS => ?_)
          obtain ⟨z_fhi_38, z_flo_39, z_gav_40, z_ggoal_41, z_gfound_42, z_gl_43, z_gsz_44, z_gway_45, ⟨hP1, -, hD1⟩, hz_gfound_42, hz_gl_43, hz_gsz_44⟩ := hB
          rw [ht] at hP1
          obtain ⟨hP, hD⟩ := pl_put (X' := (xso__w xa xtape (nI tp) rd au xdr hy g (nI hs) tg sg (nI ss) rm ti py bu sm (nI nc) (nI np) (nI ne) (nI st0) q4 q5 q6 q7 q8 q9 q10 q11 q12 q13 q14 q15 q16 k_f4 f4 k_f5 (bN 7 q_f5) k_f6 (bN 7 q_f6) k_f7 f7 k_f8 (bN 4 q_f8) k_f9 (bN 2 q_f9) k_f10 f10 k_f11 f11 k_f12 f12 k_f13 f13 k_f14 f14 k_f15 f15 k_f16 f16 uz u1 u2 u3 u4 u5 (nI uc) (nI ufull) ux z_gway_45 z_gav_40 z_ggoal_41 (nI z_gfound_42) 400 (nI z_gl_43) (nI z_gsz_44) u16 u17 k_fuz (zs o 401 az) k_s1u (bN 7 q_s1u) k_s2u s2u k_s3u s3u k_s4u s4u k_s5u s5u k_hiu z_fhi_38 k_lou z_flo_39 k_fbu fbu)) (w1 := (gt1__w sg uz u1 u2 u3 u4 u5 (nI uc) (nI ufull) ux z_gway_45 z_gav_40 z_ggoal_41 (nI z_gfound_42) 400 (nI z_gl_43) (nI z_gsz_44) u16 u17 k_fuz (zs o 401 az) k_s1u (bN 7 q_s1u) k_s2u s2u k_s3u s3u k_s4u s4u k_s5u s5u k_hiu z_fhi_38 k_lou z_flo_39 au (nI nc) (nI np) (nI ne) (nI st0) q4 q5 q6 q7 q8 q9 q10 q11 q12 q13 q14 q15 q16 k_f4 f4 k_f5 (bN 7 q_f5) k_f6 (bN 7 q_f6) k_f7 f7 k_f8 (bN 4 q_f8) k_f9 (bN 2 q_f9) k_f10 f10 k_f11 f11 k_f12 f12 k_f13 f13 k_f14 f14 k_f15 f15 k_f16 f16)) hP hD [15, 16, 17, 18, 19, 20, 21, 22, 23, 1, 2, 3, 4, 5, 6, 7, 8, 9, 10, 11, 12, 13, 14] rfl hk1 hP1 rfl zp_f rfl
          clear hP1 hD1 hFc
          clear hPc hDc hKc
          clear hk1 hz1 ht hvm
          generalize H1 = H at hP hS ⊢
          refine lv_aload_n hx hb eX8_soonest_48 rfl (lv_at hl 0 rfl) ?_
          refine lv_aload_n hx hb eX8_soonest_49 rfl (lv_at hl 0 rfl) ?_
          refine va_get (D := (dC, dI)) (ci := 8) (v := .ref sg) (C := RX8) (T := TX8) (N := 16) hx hb hts hiX8 hown hK hP 0 rfl rfl 9 (by decide) v_7 (fun _ h9 => h9) rfl eX8_soonest_50 ?_
          have hFc := pu_free hD hS hA
          refine va_callv (va_runV (As := [.ref sg]) (rest := []) ⟨hx, hb, hml, hown, hts⟩ (c_C_8_beginAtZero_25 l dC dI _ xa xtape tp rd au xdr hy g hs tg sg ss rm ti py bu sm nc np ne st0 q4 q5 q6 q7 q8 q9 q10 q11 q12 q13 q14 q15 q16 k_f4 f4 k_f5 q_f5 k_f6 q_f6 k_f7 f7 k_f8 q_f8 k_f9 q_f9 k_f10 f10 k_f11 f11 k_f12 f12 k_f13 f13 k_f14 f14 k_f15 f15 k_f16 f16 sg uz u1 u2 u3 u4 u5 uc ufull ux z_gway_45 z_gav_40 z_ggoal_41 z_gfound_42 z_gl_43 z_gsz_44 u16 u17 k_fuz k_s1u q_s1u k_s2u s2u k_s3u s3u k_s4u s4u k_s5u s5u k_hiu z_fhi_38 k_lou z_flo_39 k_fbu fbu N o az ac kz qs fz htp hhs hss hnc hnp hne hst0 huc hufull hz_gfound_42 hz_gl_43 hz_gsz_44 (by omega)) (cwV 1 hts g_C_8_soonest_C_8_beginAtZero_25 rfl rfl rfl (by decide +kernel) ⟨Nat.le_of_ble_eq_true rfl, Nat.le_of_ble_eq_true rfl⟩) ⟨pu_bl, va_recv hK hP (ci := 8) (q0 := 0) rfl rfl, pu_in hP hK hD⟩ rfl rfl hl.1 rfl (lv_room (Nat.le_of_ble_eq_true rfl)) eX8_soonest_53 ⟨Nat.le_of_ble_eq_true rfl, Nat.le_of_ble_eq_true rfl⟩) hS (fun q _ h => hFc q h) hFc (fun u t H1 locs ht hvm hw hB hz1 hk1 hS => ?_)
          obtain ⟨z_s1gx_47, z_s2gx_48, z_s3gx_49, z_s4gx_50, z_s5gx_51, z_fbu_52, z_gxfound_53, z_gxc_54, z_gxfull_55, z_gxx_56, z_fz_57, z_qs_58, ⟨hP1, -, hD1⟩, hz_gxfound_53, hz_gxc_54, hz_gxfull_55, xr_46_0⟩ := hB
          rw [ht] at hP1
          have hP := hP1
          have hD := pu_all hFc hD1
          clear hP1 hD1 hFc
          clear hk1 hz1 ht hvm
          generalize H1 = H at hP hS ⊢
          refine lv_aload_n hx hb eX8_soonest_56 rfl (lv_at hl 0 rfl) ?_
          refine va_get (D := (dC, dI)) (ci := 8) (v := .ref sg) (C := RX8) (T := TX8) (N := 16) hx hb hts hiX8 hown hK hP 0 rfl rfl 9 (by decide) v_7 (fun _ h9 => h9) rfl eX8_soonest_57 ?_
          refine lv_aload_n hx hb eX8_soonest_60 rfl (lv_at hl 0 rfl) ?_
          refine va_get (D := (dC, dI)) (ci := 8) (v := .ref au) (C := RX8) (T := TX8) (N := 16) hx hb hts hiX8 hown hK hP 0 rfl rfl 3 (by decide) v_8 (fun _ h9 => h9) rfl eX8_soonest_61 ?_
          have hPc : va_P (dC, dI) vwCl ([(sg, .inr (1, [.ref uz, .ref u1, .ref u2, .ref u3, .ref u4, .ref u5, .int (nI z_gxc_54), .int (nI z_gxfull_55), .int z_gxx_56, .int z_gway_45, .int z_gav_40, .int z_ggoal_41, .int (nI z_gxfound_53), .int 400, .int (nI z_gl_43), .int (nI z_gsz_44), .ref u16, .ref u17])), (uz, .inl (k_fuz, 401, .inr (.inr (.inr (.inr (zs o 401 az)))))), (u1, .inl (k_s1u, 400, .inl (bN 7 z_s1gx_47))), (u2, .inl (k_s2u, 400, .inl z_s2gx_48)), (u3, .inl (k_s3u, 400, .inl z_s3gx_49)), (u4, .inl (k_s4u, 400, .inl z_s4gx_50)), (u5, .inl (k_s5u, 400, .inl z_s5gx_51)), (u16, .inl (k_hiu, 5, .inl z_fhi_38)), (u17, .inl (k_lou, 5, .inl z_flo_39)), (au, .inr (0, [.int (nI nc), .int (nI np), .int (nI ne), .int (nI st0), .ref q4, .ref q5, .ref q6, .ref q7, .ref q8, .ref q9, .ref q10, .ref q11, .ref q12, .ref q13, .ref q14, .ref q15, .ref q16])), (q4, .inl (k_f4, 8, .inl f4)), (q5, .inl (k_f5, 14, .inl (bN 7 q_f5))), (q6, .inl (k_f6, 14, .inl (bN 7 q_f6))), (q7, .inl (k_f7, 14, .inl f7)), (q8, .inl (k_f8, 22, .inl (bN 4 q_f8))), (q9, .inl (k_f9, 88, .inl (bN 2 q_f9))), (q10, .inl (k_f10, 88, .inl f10)), (q11, .inl (k_f11, 88, .inl f11)), (q12, .inl (k_f12, 88, .inl f12)), (q13, .inl (k_f13, 88, .inl f13)), (q14, .inl (k_f14, 4, .inl f14)), (q15, .inl (k_f15, 4, .inl f15)), (q16, .inl (k_f16, 4, .inl f16))] ++ zp 5 25 N az ac kz z_qs_58 z_fz_57) _ := hP.part [15, 16, 17, 18, 19, 20, 21, 22, 23, 1, 2, 3, 4, 5, 6, 7, 8, 9, 10, 11, 12, 13, 14] rfl
          have hDc : va_D A ([(sg, .inr (1, [.ref uz, .ref u1, .ref u2, .ref u3, .ref u4, .ref u5, .int (nI z_gxc_54), .int (nI z_gxfull_55), .int z_gxx_56, .int z_gway_45, .int z_gav_40, .int z_ggoal_41, .int (nI z_gxfound_53), .int 400, .int (nI z_gl_43), .int (nI z_gsz_44), .ref u16, .ref u17])), (uz, .inl (k_fuz, 401, .inr (.inr (.inr (.inr (zs o 401 az)))))), (u1, .inl (k_s1u, 400, .inl (bN 7 z_s1gx_47))), (u2, .inl (k_s2u, 400, .inl z_s2gx_48)), (u3, .inl (k_s3u, 400, .inl z_s3gx_49)), (u4, .inl (k_s4u, 400, .inl z_s4gx_50)), (u5, .inl (k_s5u, 400, .inl z_s5gx_51)), (u16, .inl (k_hiu, 5, .inl z_fhi_38)), (u17, .inl (k_lou, 5, .inl z_flo_39)), (au, .inr (0, [.int (nI nc), .int (nI np), .int (nI ne), .int (nI st0), .ref q4, .ref q5, .ref q6, .ref q7, .ref q8, .ref q9, .ref q10, .ref q11, .ref q12, .ref q13, .ref q14, .ref q15, .ref q16])), (q4, .inl (k_f4, 8, .inl f4)), (q5, .inl (k_f5, 14, .inl (bN 7 q_f5))), (q6, .inl (k_f6, 14, .inl (bN 7 q_f6))), (q7, .inl (k_f7, 14, .inl f7)), (q8, .inl (k_f8, 22, .inl (bN 4 q_f8))), (q9, .inl (k_f9, 88, .inl (bN 2 q_f9))), (q10, .inl (k_f10, 88, .inl f10)), (q11, .inl (k_f11, 88, .inl f11)), (q12, .inl (k_f12, 88, .inl f12)), (q13, .inl (k_f13, 88, .inl f13)), (q14, .inl (k_f14, 4, .inl f14)), (q15, .inl (k_f15, 4, .inl f15)), (q16, .inl (k_f16, 4, .inl f16))] ++ zp 5 25 N az ac kz z_qs_58 z_fz_57) := hD.part [15, 16, 17, 18, 19, 20, 21, 22, 23, 1, 2, 3, 4, 5, 6, 7, 8, 9, 10, 11, 12, 13, 14] (by decide) rfl
          have hKc : va_K (dC, dI) vwCl ([(k_fuz, .object RX7), (k_s1u, .int), (k_s2u, .int), (k_s3u, .int), (k_s4u, .int), (k_s5u, .int), (k_hiu, .int), (k_lou, .int), (k_f4, .boolean), (k_f5, .int), (k_f6, .int), (k_f7, .int), (k_f8, .int), (k_f9, .int), (k_f10, .int), (k_f11, .int), (k_f12, .int), (k_f13, .int), (k_f14, .int), (k_f15, .int), (k_f16, .int)] ++ zt N kz) s := zk_part hK [13, 14, 15, 16, 17, 18, 19, 20, 0, 1, 2, 3, 4, 5, 6, 7, 8, 9, 10, 11, 12] rfl
          have hFc := pu_free hDc hS hA
          refine va_callv (va_runV (As := [.ref au]) (rest := []) ⟨hx, hb, hml, hown, hts⟩ (c_C_1_grow_25 l dC dI _ sg uz u1 u2 u3 u4 u5 z_gxc_54 z_gxfull_55 z_gxx_56 z_gway_45 z_gav_40 z_ggoal_41 z_gxfound_53 z_gl_43 z_gsz_44 u16 u17 k_fuz k_s1u z_s1gx_47 k_s2u z_s2gx_48 k_s3u z_s3gx_49 k_s4u z_s4gx_50 k_s5u z_s5gx_51 k_hiu z_fhi_38 k_lou z_flo_39 au nc np ne (nI st0) q4 q5 q6 q7 q8 q9 q10 q11 q12 q13 q14 q15 q16 k_f4 f4 k_f5 q_f5 k_f6 q_f6 k_f7 f7 k_f8 q_f8 k_f9 q_f9 k_f10 f10 k_f11 f11 k_f12 f12 k_f13 f13 k_f14 f14 k_f15 f15 k_f16 f16 N o az ac kz z_qs_58 z_fz_57 hz_gxc_54 hz_gxfull_55 hz_gxfound_53 hz_gl_43 hz_gsz_44 hnc hnp hne (Or.inr ⟨st0, hst0, rfl⟩) (by omega) (by first | assumption | exact gz_0)) (cwV 1 hts g_C_8_soonest_C_1_grow_25 rfl rfl rfl (by decide +kernel) ⟨Nat.le_of_ble_eq_true rfl, Nat.le_of_ble_eq_true rfl⟩) ⟨pu_bl, va_recv hK hP (ci := 1) (q0 := 15) rfl rfl, pu_in hPc hKc hDc⟩ rfl rfl hl.1 rfl (lv_room (Nat.le_of_ble_eq_true rfl)) eX8_soonest_64 ⟨Nat.le_of_ble_eq_true rfl, Nat.le_of_ble_eq_true rfl⟩) hS (fun q _ h => hFc q h) hFc (fun u t H1 locs ht hvm hw hB hz1 hk1 hS => ?_)
          obtain ⟨z_fs1_60, z_fs2_61, z_fs3_62, z_fs4_63, z_fs5_64, z_gfound_65, z_gc_66, z_gfull_67, z_gx_68, z_fz_69, z_qs_70, ⟨hP1, -, hD1⟩, hz_gfound_65, hz_gc_66, hz_gfull_67, xr_59_0⟩ := hB
          rw [ht] at hP1
          obtain ⟨hP, hD⟩ := pl_put (X' := (xso__w xa xtape (nI tp) rd au xdr hy g (nI hs) tg sg (nI ss) rm ti py bu sm (nI nc) (nI np) (nI ne) (nI st0) q4 q5 q6 q7 q8 q9 q10 q11 q12 q13 q14 q15 q16 k_f4 f4 k_f5 (bN 7 q_f5) k_f6 (bN 7 q_f6) k_f7 f7 k_f8 (bN 4 q_f8) k_f9 (bN 2 q_f9) k_f10 f10 k_f11 f11 k_f12 f12 k_f13 f13 k_f14 f14 k_f15 f15 k_f16 f16 uz u1 u2 u3 u4 u5 (nI z_gc_66) (nI z_gfull_67) z_gx_68 z_gway_45 z_gav_40 z_ggoal_41 (nI z_gfound_65) 400 (nI z_gl_43) (nI z_gsz_44) u16 u17 k_fuz (zs o 401 az) k_s1u (bN 7 z_fs1_60) k_s2u z_fs2_61 k_s3u z_fs3_62 k_s4u z_fs4_63 k_s5u z_fs5_64 k_hiu z_fhi_38 k_lou z_flo_39 k_fbu z_fbu_52)) (w1 := (gt1__w sg uz u1 u2 u3 u4 u5 (nI z_gc_66) (nI z_gfull_67) z_gx_68 z_gway_45 z_gav_40 z_ggoal_41 (nI z_gfound_65) 400 (nI z_gl_43) (nI z_gsz_44) u16 u17 k_fuz (zs o 401 az) k_s1u (bN 7 z_fs1_60) k_s2u z_fs2_61 k_s3u z_fs3_62 k_s4u z_fs4_63 k_s5u z_fs5_64 k_hiu z_fhi_38 k_lou z_flo_39 au (nI nc) (nI np) (nI ne) (nI st0) q4 q5 q6 q7 q8 q9 q10 q11 q12 q13 q14 q15 q16 k_f4 f4 k_f5 (bN 7 q_f5) k_f6 (bN 7 q_f6) k_f7 f7 k_f8 (bN 4 q_f8) k_f9 (bN 2 q_f9) k_f10 f10 k_f11 f11 k_f12 f12 k_f13 f13 k_f14 f14 k_f15 f15 k_f16 f16)) hP hD [15, 16, 17, 18, 19, 20, 21, 22, 23, 1, 2, 3, 4, 5, 6, 7, 8, 9, 10, 11, 12, 13, 14] rfl hk1 hP1 rfl zp_f rfl
          clear hP1 hD1 hFc
          clear hPc hDc hKc
          clear hk1 hz1 ht hvm
          generalize H1 = H at hP hS ⊢
          refine lv_aload_n hx hb eX8_soonest_67 rfl (lv_at hl 0 rfl) ?_
          refine lv_iconst (v := 1) hx hb eX8_soonest_68 (by decide) ?_
          refine va_put (D := (dC, dI)) (ci := 8) (v := .int 1) (ty := .boolean) (C := RX8) (T := TX8) (N := 16) hx hb hts hiX8 tyX8 tyX8_ok nmX8 hown hK hP hD hS 0 rfl rfl 10 (by decide) v_6 (fun _ h9 => h9) rfl (by decide +kernel) rfl rfl (Nat.le_of_ble_eq_true rfl) eX8_soonest_69 (fun H locs hP hD hS => ?_)
          have hP : va_P (dC, dI) vwCl ((xso__w xa xtape (nI tp) rd au xdr hy g (nI hs) tg sg 1 rm ti py bu sm (nI nc) (nI np) (nI ne) (nI st0) q4 q5 q6 q7 q8 q9 q10 q11 q12 q13 q14 q15 q16 k_f4 f4 k_f5 (bN 7 q_f5) k_f6 (bN 7 q_f6) k_f7 f7 k_f8 (bN 4 q_f8) k_f9 (bN 2 q_f9) k_f10 f10 k_f11 f11 k_f12 f12 k_f13 f13 k_f14 f14 k_f15 f15 k_f16 f16 uz u1 u2 u3 u4 u5 (nI z_gc_66) (nI z_gfull_67) z_gx_68 z_gway_45 z_gav_40 z_ggoal_41 (nI z_gfound_65) 400 (nI z_gl_43) (nI z_gsz_44) u16 u17 k_fuz (zs o 401 az) k_s1u (bN 7 z_fs1_60) k_s2u z_fs2_61 k_s3u z_fs3_62 k_s4u z_fs4_63 k_s5u z_fs5_64 k_hiu z_fhi_38 k_lou z_flo_39 k_fbu z_fbu_52) ++ zp 5 25 N az ac kz z_qs_70 z_fz_69) H := hP
          have hD : va_D A ((xso__w xa xtape (nI tp) rd au xdr hy g (nI hs) tg sg 1 rm ti py bu sm (nI nc) (nI np) (nI ne) (nI st0) q4 q5 q6 q7 q8 q9 q10 q11 q12 q13 q14 q15 q16 k_f4 f4 k_f5 (bN 7 q_f5) k_f6 (bN 7 q_f6) k_f7 f7 k_f8 (bN 4 q_f8) k_f9 (bN 2 q_f9) k_f10 f10 k_f11 f11 k_f12 f12 k_f13 f13 k_f14 f14 k_f15 f15 k_f16 f16 uz u1 u2 u3 u4 u5 (nI z_gc_66) (nI z_gfull_67) z_gx_68 z_gway_45 z_gav_40 z_ggoal_41 (nI z_gfound_65) 400 (nI z_gl_43) (nI z_gsz_44) u16 u17 k_fuz (zs o 401 az) k_s1u (bN 7 z_fs1_60) k_s2u z_fs2_61 k_s3u z_fs3_62 k_s4u z_fs4_63 k_s5u z_fs5_64 k_hiu z_fhi_38 k_lou z_flo_39 k_fbu z_fbu_52) ++ zp 5 25 N az ac kz z_qs_70 z_fz_69) := hD
          exact j_26 _ _ _ _ ⟨1, z_gc_66, z_gfull_67, z_gx_68, z_gway_45, z_gav_40, z_ggoal_41, z_gfound_65, z_gl_43, z_gsz_44, z_fs1_60, z_fs2_61, z_fs3_62, z_fs4_63, z_fs5_64, z_fhi_38, z_flo_39, z_fbu_52, z_qs_70, z_fz_69, rfl, ⟨by omega, by omega⟩, hz_gc_66, hz_gfull_67, hz_gfound_65, hz_gl_43, hz_gsz_44, hP, hD, hS, lv_sub hl [0, 1, 2] rfl⟩
      · refine lv_iconst (v := (-1)) hx hb eX8_soonest_17 (by decide) ?_
        exact W.iret (v := (-1)) hx hb hr (fun t ht hW => ⟨⟨(-1), (), rfl, trivial, ⟨q_s1u, s2u, s3u, s4u, s5u, hiu, lou, fbu, ss, uav, ugoal, ufound, ul, usz, uc, ufull, ux, uway, fz, qs, ⟨by rw [ht]; exact hP, va_K.moved hW.alike hK, hD⟩, hss, hufound, hul, husz, huc, hufull, by first | assumption | exact gz_0⟩⟩, hS.F ht⟩) hS.2.2 eX8_soonest_18
  · refine lv_if_eq (tgt := 17) hx hb eX8_soonest_5 (by decide) (fun _ => ?_) (fun z => absurd z (by decide))
    refine lv_iconst (v := (-1)) hx hb eX8_soonest_17 (by decide) ?_
    exact W.iret (v := (-1)) hx hb hr (fun t ht hW => ⟨⟨(-1), (), rfl, trivial, ⟨q_s1u, s2u, s3u, s4u, s5u, hiu, lou, fbu, ss, uav, ugoal, ufound, ul, usz, uc, ufull, ux, uway, fz, qs, ⟨by rw [ht]; exact hP, va_K.moved hW.alike hK, hD⟩, hss, hufound, hul, husz, huc, hufull, by first | assumption | exact gz_0⟩⟩, hS.F ht⟩) hS.2.2 eX8_soonest_18
