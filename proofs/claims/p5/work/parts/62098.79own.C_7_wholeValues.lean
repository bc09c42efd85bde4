theorem eX7_wholeValues_0 : decode cX7_wholeValues 0 = .ok (.aload_n 0, 1) := by decide +kernel
theorem eX7_wholeValues_1 : decode cX7_wholeValues 1 = .ok (.iconst 1, 1) := by decide +kernel
theorem eX7_wholeValues_2 : decode cX7_wholeValues 2 = .ok (.aload_n 1, 1) := by decide +kernel
theorem eX7_wholeValues_3 : decode cX7_wholeValues 3 = .ok (.invokestatic 35, 3) := by decide +kernel
theorem eX7_wholeValues_6 : decode cX7_wholeValues 6 = .ok (.ireturn, 1) := by decide +kernel
abbrev vs_C_7_wholeValues : List Cond := .code yX7_wholeValues cX7_wholeValues 2 (some .int) :: CM
theorem g_C_7_wholeValues_C_7_wholeFrom_1 : GoodIn vs_C_7_wholeValues (va_wsS RX7 35 yX7_wholeFrom vs_C_7_wholeFrom_1) := cm_gS cm_416 cm_417 cm_45 cm_418
set_option maxHeartbeats 4000000 in
set_option maxRecDepth 100000 in
theorem c_C_7_wholeValues (l : Launch) (dC : Nat → ClassId) (dI : Nat → Nat → Nat) (sz : Nat) (vz : Nat) (k_fv : ClassId) (fv : Nat → Int32) (z : Nat) (zc : Nat) (zn : Nat) (k_fz : ClassId) (fz : Nat → Int32) (hzn : zn ≤ 4) : Met l yX7_wholeValues vs_C_7_wholeValues ({ frames := 4, cells := 0, slots := 0, locals := 104 }) (va_Pc [.ref z, .ref vz] (pu_B (dC, dI) (zs16__w vz k_fv fv z zc (nI zn) k_fz fz) (zs16__t k_fv k_fz) sz)) (va_Qi (fun (r : Int32) (_ : Unit) => True) (fun _ t => ∃ (z_fv : Nat → Int32), pu_E (dC, dI) (zs16__w vz k_fv z_fv z zc (nI zn) k_fz fz) (zs16__t k_fv k_fz) (va_A ((zs16__w vz k_fv fv z zc (nI zn) k_fz fz)) sz) t) (va_A ((zs16__w vz k_fv fv z zc (nI zn) k_fz fz)) sz)) 0 0 (va_A ((zs16__w vz k_fv fv z zc (nI zn) k_fz fz)) sz) := by
  refine Met.ofW (cc := cX7_wholeValues) (maxL := 2) (ret := (some .int)) (by decide) rfl ?_
  intro p e s m args below meth c s₁ B hml hv
  obtain ⟨rfl, rfl, hP, hK, hD0⟩ := hv
  have hx := B.exec
  have hb := B.bytes
  have hr := B.returns
  have hts := atoms_spec (ws := vs_C_7_wholeValues) B.pre
  have hown : s.vm.findClass RX7 = some m.cls := findClass_of_methodNamed B.named
  have hlocks := B.notSynchronized
  have hD := hD0.self (sz := s.heap.size)
  generalize hAe : va_A ((zs16__w vz k_fv fv z zc (nI zn) k_fz fz)) s.heap.size = A at hD ⊢
  have hA : ∀ q : Nat, s.heap.size ≤ q → A q := fun q h => by rw [← hAe]; exact Or.inr h
  have hS : va_S A s.heap s.heap [] := va_S.rf
  have hl := lv_entry ([.ref z, .ref vz]) (n := 2) (Nat.le_of_ble_eq_true rfl)
  rw [lg_entry_eq]
  generalize (lg_sl ([.ref z, .ref vz]) ++ List.replicate (2 - (lg_sl ([.ref z, .ref vz])).length) Slot.unset).toArray = ls at hl ⊢
  have hl : lv_has ls 2 [(0, .ref z), (1, .ref vz)] := hl
  refine lv_aload_n hx hb eX7_wholeValues_0 rfl (lv_at hl 0 rfl) ?_
  refine lv_iconst (v := 1) hx hb eX7_wholeValues_1 (by decide) ?_
  refine lv_aload_n hx hb eX7_wholeValues_2 rfl (lv_at hl 1 rfl) ?_
  have hFc := pu_free hD hS hA
  refine va_calli (va_runS (As := [.ref z, .int 1, .ref vz]) (rest := []) ⟨hx, hb, hml, hown, hts⟩ (c_C_7_wholeFrom_1 l dC dI _ vz k_fv fv z zc zn k_fz fz hzn) (va_cwS 3 hts g_C_7_wholeValues_C_7_wholeFrom_1 rfl rfl rfl (by decide +kernel) ⟨Nat.le_of_ble_eq_true rfl, Nat.le_of_ble_eq_true rfl⟩) ⟨pu_bl, pu_in hP hK hD⟩ rfl rfl hl.1 rfl (lv_room (Nat.le_of_ble_eq_true rfl)) eX7_wholeValues_3 ⟨Nat.le_of_ble_eq_true rfl, Nat.le_of_ble_eq_true rfl⟩) hS (fun q _ h => hFc q h) hFc (fun r_1 u t H1 locs ht hvm hw hB hz1 hk1 hS => ?_)
  obtain ⟨z_fv_2, ⟨hP1, -, hD1⟩⟩ := hB
  rw [ht] at hP1
  have hP := hP1
  have hD := pu_all hFc hD1
  clear hP1 hD1 hFc
  clear hk1 hz1 ht hvm
  generalize H1 = H at hP hS ⊢
  exact W.iret (v := r_1) hx hb hr (fun t ht hW => ⟨⟨r_1, (), rfl, trivial, ⟨z_fv_2, ⟨by rw [ht]; exact hP, va_K.moved hW.alike hK, hD⟩⟩⟩, hS.F ht⟩) hS.2.2 eX7_wholeValues_6
