abbrev vs_E_8_fault : List Cond := .code yX8_fault cX8_fault 2 (some .int) :: CM
noncomputable def sp_E_8_fault (fa : Int32) (fat : Int32) (p0 : Int32) : Int32 := (if (p0 : Int32) = 0 then fa else (if (p0 : Int32) = 1 then fat else (-1)))
set_option maxHeartbeats 4000000 in
set_option maxRecDepth 100000 in
theorem c_E_8_fault (l : Launch) (dC : Nat → ClassId) (dI : Nat → Nat → Nat) (sz : Nat) (xa : Nat) (xtape : Nat) (tp : Nat) (rd : Nat) (au : Nat) (xdr : Nat) (hy : Nat) (g : Nat) (hs : Nat) (tg : Nat) (sg : Nat) (ss : Nat) (rm : Nat) (ti : Nat) (py : Nat) (bu : Nat) (sm : Nat) (fa : Int32) (fat : Int32) (tx0 : Value) (len : Nat) (pos : Nat) (kd : Nat) (vl : Int32) (tka : Int32) (in0 : Value) (rw : Nat) (rc : Nat) (rp : Nat) (p0 : Int32) (htp : tp ≤ 900) (hhs : hs ≤ 1) (hss : ss ≤ 1) (hlen : len ≤ 900) (hpos : pos ≤ 900) (hkd : kd ≤ 15) : Met l yX8_fault vs_E_8_fault ({ frames := 0, cells := 0, slots := 0, locals := 0 }) (va_Pc [.ref xa, .int p0] (pu_B (dC, dI) (xr__w xa xtape (nI tp) rd au xdr hy g (nI hs) tg sg (nI ss) rm ti py bu sm fa fat (tx0) (nI len) (nI pos) (nI kd) vl tka (in0) rw rc rp) (xr__t ) sz)) (va_Qi (fun (r : Int32) (_ : Unit) => r = (sp_E_8_fault fa fat p0)) (fun _ _ => True) (va_A [] sz)) 0 0 (va_A [] sz) := by
  refine Met.ofW (cc := cX8_fault) (maxL := 2) (ret := (some .int)) (by decide) rfl ?_
  intro p e s m args below meth c s₁ B hml hv
  obtain ⟨rfl, rfl, hP, hK, hD0⟩ := hv
  have hx := B.exec
  have hb := B.bytes
  have hr := B.returns
  have hts := atoms_spec (ws := vs_E_8_fault) B.pre
  have v_1 := hts (.fieldLink RX8 16 "ClockReach" "reader" "LClockReach$Reader;") (List.mem_cons_of_mem _ cm_432)
  have v_2 := hts (.fieldLink RX8 110 "ClockReach$Reader" "fault" "I") (List.mem_cons_of_mem _ cm_450)
  have v_3 := hts (.fieldLink RX8 113 "ClockReach$Reader" "faultAt" "I") (List.mem_cons_of_mem _ cm_451)
  have hown : s.vm.findClass RX8 = some m.cls := findClass_of_methodNamed B.named
  have hlocks := B.notSynchronized
  have hiX4 : ∀ w ∈ wsX40, w ∈ vs_E_8_fault := fun _ h => List.mem_cons_of_mem _ (cm_X4 h)
  have hiX8 : ∀ w ∈ wsX80, w ∈ vs_E_8_fault := fun _ h => List.mem_cons_of_mem _ (cm_X8 h)
  have hD := hD0
  have hA : ∀ q : Nat, s.heap.size ≤ q → va_A [] s.heap.size q := fun _ h => Or.inr h
  have hS : va_S (va_A [] s.heap.size) s.heap s.heap [] := va_S.rf
  have hl := lv_entry ([.ref xa, .int p0]) (n := 2) (Nat.le_of_ble_eq_true rfl)
  rw [lg_entry_eq]
  generalize (lg_sl ([.ref xa, .int p0]) ++ List.replicate (2 - (lg_sl ([.ref xa, .int p0])).length) Slot.unset).toArray = ls at hl ⊢
  have hl : lv_has ls 2 [(0, .ref xa), (1, .int p0)] := hl
  obtain ⟨RR, hRR⟩ : ∃ x, x = (sp_E_8_fault fa fat p0) := ⟨_, rfl⟩
  have hsp := hRR
  refine lv_iload_n hx hb eX8_fault_0 rfl (lv_at hl 1 rfl) ?_
  by_cases w_1 : p0 = 0
  · have hsp := hsp.trans (if_pos w_1)
    subst w_1
    refine lv_lookup (tgt := 28) (off := 27) hx hb eX8_fault_1 (by decide) (by decide) (by decide) ?_
    refine lv_aload_n hx hb eX8_fault_28 rfl (lv_at hl 0 rfl) ?_
    refine va_get (D := (dC, dI)) (ci := 8) (v := .ref rd) (C := RX8) (T := TX8) (N := 16) hx hb hts hiX8 hown hK hP 0 rfl rfl 2 (by decide) v_1 (fun _ h9 => h9) rfl eX8_fault_29 ?_
    refine va_get (D := (dC, dI)) (ci := 4) (v := .int fa) (C := RX4) (T := TX4) (N := 12) hx hb hts hiX4 hown hK hP 1 rfl rfl 0 (by decide) v_2 (fun _ h9 => h9) rfl eX8_fault_32 ?_
    exact W.iret (v := fa) hx hb hr (fun t ht hW => ⟨⟨fa, (), rfl, (hsp.symm.trans hRR), trivial⟩, hS.F ht⟩) hS.2.2 eX8_fault_35
  have hsp := hsp.trans (if_neg w_1)
  by_cases w_2 : p0 = 1
  · have hsp := hsp.trans (if_pos w_2)
    subst w_2
    refine lv_lookup (tgt := 36) (off := 35) hx hb eX8_fault_1 (by decide) (by decide) (by decide) ?_
    refine lv_aload_n hx hb eX8_fault_36 rfl (lv_at hl 0 rfl) ?_
    refine va_get (D := (dC, dI)) (ci := 8) (v := .ref rd) (C := RX8) (T := TX8) (N := 16) hx hb hts hiX8 hown hK hP 0 rfl rfl 2 (by decide) v_1 (fun _ h9 => h9) rfl eX8_fault_37 ?_
    refine va_get (D := (dC, dI)) (ci := 4) (v := .int fat) (C := RX4) (T := TX4) (N := 12) hx hb hts hiX4 hown hK hP 1 rfl rfl 1 (by decide) v_3 (fun _ h9 => h9) rfl eX8_fault_40 ?_
    exact W.iret (v := fat) hx hb hr (fun t ht hW => ⟨⟨fat, (), rfl, (hsp.symm.trans hRR), trivial⟩, hS.F ht⟩) hS.2.2 eX8_fault_43
  have hsp := hsp.trans (if_neg w_2)
  refine lv_lookup (tgt := 44) (off := 43) hx hb eX8_fault_1 (by decide) ((lv_osw w_1 (by decide)).trans ((lv_osw w_2 (by decide)).trans (rfl))) (by decide) ?_
  refine lv_iconst (v := (-1)) hx hb eX8_fault_44 (by decide) ?_
  exact W.iret (v := (-1)) hx hb hr (fun t ht hW => ⟨⟨(-1), (), rfl, (hsp.symm.trans hRR), trivial⟩, hS.F ht⟩) hS.2.2 eX8_fault_45
