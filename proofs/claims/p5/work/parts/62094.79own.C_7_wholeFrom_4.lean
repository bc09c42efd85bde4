theorem eX7_wholeFrom_0 : decode cX7_wholeFrom 0 = .ok (.aload_n 0, 1) := by decide +kernel
theorem eX7_wholeFrom_1 : decode cX7_wholeFrom 1 = .ok (.getfield 18, 3) := by decide +kernel
theorem eX7_wholeFrom_4 : decode cX7_wholeFrom 4 = .ok (.istore_n 3, 1) := by decide +kernel
theorem eX7_wholeFrom_5 : decode cX7_wholeFrom 5 = .ok (.iload_n 1, 1) := by decide +kernel
theorem eX7_wholeFrom_6 : decode cX7_wholeFrom 6 = .ok (.iload_n 3, 1) := by decide +kernel
theorem eX7_wholeFrom_7 : decode cX7_wholeFrom 7 = .ok (.if_icmp .ge 9, 3) := by decide +kernel
theorem eX7_wholeFrom_16 : decode cX7_wholeFrom 16 = .ok (.iconst 1, 1) := by decide +kernel
theorem eX7_wholeFrom_17 : decode cX7_wholeFrom 17 = .ok (.ireturn, 1) := by decide +kernel
abbrev vs_C_7_wholeFrom_4 : List Cond := .code yX7_wholeFrom cX7_wholeFrom 9 (some .int) :: CM
set_option maxHeartbeats 4000000 in
set_option maxRecDepth 100000 in
theorem c_C_7_wholeFrom_4 (l : Launch) (dC : Nat → ClassId) (dI : Nat → Nat → Nat) (sz : Nat) (vz : Nat) (k_fv : ClassId) (fv : Nat → Int32) (z : Nat) (zc : Nat) (zn : Nat) (k_fz : ClassId) (fz : Nat → Int32) (hzn : zn ≤ 4) : Met l yX7_wholeFrom vs_C_7_wholeFrom_4 ({ frames := 0, cells := 0, slots := 0, locals := 0 }) (va_Pc [.ref z, .int 4, .ref vz] (pu_B (dC, dI) (zs16__w vz k_fv fv z zc (nI zn) k_fz fz) (zs16__t k_fv k_fz) sz)) (va_Qi (fun (r : Int32) (_ : Unit) => True) (fun _ _ => True) (va_A [] sz)) 0 0 (va_A [] sz) := by
  refine Met.ofW (cc := cX7_wholeFrom) (maxL := 9) (ret := (some .int)) (by decide) rfl ?_
  intro p e s m args below meth c s₁ B hml hv
  obtain ⟨rfl, rfl, hP, hK, hD0⟩ := hv
  have hx := B.exec
  have hb := B.bytes
  have hr := B.returns
  have hts := atoms_spec (ws := vs_C_7_wholeFrom_4) B.pre
  have v_1 := hts (.fieldLink RX7 18 "ClockReach$Zone" "size" "I") (List.mem_cons_of_mem _ cm_48)
  have hown : s.vm.findClass RX7 = some m.cls := findClass_of_methodNamed B.named
  have hlocks := B.notSynchronized
  have hiX7 : ∀ w ∈ wsX70, w ∈ vs_C_7_wholeFrom_4 := fun _ h => List.mem_cons_of_mem _ (cm_X7 h)
  have hD := hD0
  have hA : ∀ q : Nat, s.heap.size ≤ q → va_A [] s.heap.size q := fun _ h => Or.inr h
  have hS : va_S (va_A [] s.heap.size) s.heap s.heap [] := va_S.rf
  have hl := lv_entry ([.ref z, .int 4, .ref vz]) (n := 9) (Nat.le_of_ble_eq_true rfl)
  rw [lg_entry_eq]
  generalize (lg_sl ([.ref z, .int 4, .ref vz]) ++ List.replicate (9 - (lg_sl ([.ref z, .int 4, .ref vz])).length) Slot.unset).toArray = ls at hl ⊢
  have hl : lv_has ls 9 [(0, .ref z), (1, .int 4), (2, .ref vz)] := hl
  have hzz := zz4 hzn
  refine lv_aload_n hx hb eX7_wholeFrom_0 rfl (lv_at hl 0 rfl) ?_
  refine va_get (D := (dC, dI)) (ci := 7) (v := .int (nI zn)) (C := RX7) (T := TX7) (N := 2) hx hb hts hiX7 hown hK hP 1 rfl rfl 1 (by decide) v_1 (fun _ h9 => h9) rfl eX7_wholeFrom_1 ?_
  refine lv_istore_n (lv' := [(3, .int (nI zn)), (0, .ref z), (1, .int 4), (2, .ref vz)]) hx hb eX7_wholeFrom_4 rfl hl (by decide) rfl (fun ls hl => ?_)
  refine lv_iload_n hx hb eX7_wholeFrom_5 rfl (lv_at hl 2 rfl) ?_
  refine lv_iload_n hx hb eX7_wholeFrom_6 rfl (lv_at hl 0 rfl) ?_
  refine lv_icmp_ge (tgt := 16) hx hb eX7_wholeFrom_7 (by decide) (fun c_1 => ?_) (fun c_1 => ?_)
  · have c_1 : zn ≤ 4 := (nI_leI (a := zn) (b := 4) (Nat.lt_of_le_of_lt hzn (Nat.le_of_ble_eq_true rfl)) (Nat.le_of_ble_eq_true rfl)).mp c_1
    refine lv_iconst (v := 1) hx hb eX7_wholeFrom_16 (by decide) ?_
    exact W.iret (v := 1) hx hb hr (fun t ht hW => ⟨⟨1, (), rfl, trivial, trivial⟩, hS.F ht⟩) hS.2.2 eX7_wholeFrom_17
  · have c_1 : ¬ zn ≤ 4 := fun z => c_1 ((nI_leI (a := zn) (b := 4) (Nat.lt_of_le_of_lt hzn (Nat.le_of_ble_eq_true rfl)) (Nat.le_of_ble_eq_true rfl)).mpr z)
    exfalso
    omega
