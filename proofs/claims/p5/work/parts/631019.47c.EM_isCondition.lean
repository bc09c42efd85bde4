theorem dX9_isCondition_0 : decode cX9_isCondition 0 = .ok (.iload_n 2, 1) := by decide +kernel
theorem dX9_isCondition_1 : decode cX9_isCondition 1 = .ok (.iconst 0, 1) := by decide +kernel
theorem dX9_isCondition_2 : decode cX9_isCondition 2 = .ok (.aload_n 0, 1) := by decide +kernel
theorem dX9_isCondition_3 : decode cX9_isCondition 3 = .ok (.iload_n 1, 1) := by decide +kernel
theorem dX9_isCondition_4 : decode cX9_isCondition 4 = .ok (.invokevirtual 295, 3) := by decide +kernel
theorem dX9_isCondition_7 : decode cX9_isCondition 7 = .ok (.iconst 1, 1) := by decide +kernel
theorem dX9_isCondition_8 : decode cX9_isCondition 8 = .ok (.isub, 1) := by decide +kernel
theorem dX9_isCondition_9 : decode cX9_isCondition 9 = .ok (.invokestatic 152, 3) := by decide +kernel
theorem dX9_isCondition_12 : decode cX9_isCondition 12 = .ok (.ireturn, 1) := by decide +kernel
abbrev vs_EM_isCondition : List Cond := .code yX9_isCondition cX9_isCondition 3 (some .boolean) :: VM
theorem g_EM_isCondition_X9_in : GoodIn vs_EM_isCondition (va_wsS RX9 152 yX9_in vs_X9_in) := gm_0 (fun w h => by
  rcases List.mem_cons.mp h with rfl | h
  · exact vm_137
  rcases List.mem_cons.mp h with rfl | h
  · exact vm_138
  rcases List.mem_cons.mp h with rfl | h
  · exact vm_19
  rcases List.mem_cons.mp h with rfl | h
  · exact vm_139
  exact absurd h (List.not_mem_nil))
theorem g_EM_isCondition_EM_manyOf_g : GoodIn vs_EM_isCondition (wsV RX9 295 RX9 yX9_manyOf vs_EM_manyOf_g) := gm_V vm_152 vm_153 vm_154 vm_19 vm_155
noncomputable def sp_EM_isCondition (x16 : Nat) (q4 : Nat → Nat) (q7 : Nat → Nat) (m13_0 : Nat) (m13_1 : Nat) (m14_0 : Nat) (m14_1 : Nat) (p0 : Int32) (p1 : Int32) : Nat := (slet (sp_EM_manyOf_g x16 q4 q7 m13_0 m13_1 m14_0 m14_1 p0) (fun u_2 => (if u_2 = 0 then (if (0 : Int32) ≤ p1 ∧ p1 ≤ (-2) then default else 0) else (if (p0 : Int32) < 100 then (slet ((p0 : Int32).toNatClampNeg) (fun n_3 => (slet (u_2 - 1) (fun u_4 => (if (0 : Int32) ≤ p1 ∧ p1 ≤ ((nI u_4) - 1) then (slet ((p1 : Int32).toNatClampNeg) (fun n_8 => 1)) else 0))))) else (slet (((p0 : Int32) - 100).toNatClampNeg) (fun n_3 => (slet (u_2 - 1) (fun u_4 => (if (0 : Int32) ≤ p1 ∧ p1 ≤ ((nI u_4) - 1) then (slet ((p1 : Int32).toNatClampNeg) (fun n_10 => 1)) else 0)))))))))
set_option maxHeartbeats 4000000 in
set_option maxRecDepth 100000 in
theorem c_EM_isCondition (l : Launch) (dC : Nat → ClassId) (dI : Nat → Nat → Nat) (sz : Nat) (ad : Nat → Nat) (ck : Nat → ClassId) (x0 : Int32) (x16 : Nat) (x18 : Nat) (x19 : Nat) (x20 : Int32) (x21 : Nat) (x22 : Nat) (x23 : Int32) (x24 : Int32) (x25 : Int32) (x26 : Nat) (x27 : Int32) (x28 : Nat) (x29 : Nat) (x30 : Nat) (x33 : Nat) (x45 : Int32) (x46 : Nat) (x52 : Nat) (x53 : Nat) (x61 : Nat) (x62 : Nat) (x63 : Nat) (x65 : Nat) (x66 : Int32) (f1 : Nat → Int32) (f2 : Nat → Int32) (f3 : Nat → Int32) (q4 : Nat → Nat) (q5 : Nat → Nat) (q6 : Nat → Nat) (q7 : Nat → Nat) (f8 : Nat → Int32) (q9 : Nat → Nat) (q10 : Nat → Nat) (f11 : Nat → Int32) (m12_0 m12_1 : Nat) (m13_0 m13_1 : Nat) (m14_0 m14_1 : Nat) (m15_0 m15_1 : Nat) (f17 : Nat → Int32) (q31 : Nat → Nat) (f32 : Nat → Int32) (f34 : Nat → Int32) (f35 : Nat → Int32) (f36 : Nat → Int32) (f37 : Nat → Int32) (q38 : Nat → Nat) (f39 : Nat → Int32) (f40 : Nat → Int32) (f41 : Nat → Int32) (m42_0 m42_1 : Nat) (f43 : Nat → Int32) (f44 : Nat → Int32) (f47 : Nat → Int32) (f48 : Nat → Int32) (f49 : Nat → Int32) (f50 : Nat → Int32) (f51 : Nat → Int32) (q54 : Nat → Nat) (q55 : Nat → Nat) (q56 : Nat → Nat) (f57 : Nat → Int32) (q58 : Nat → Nat) (f59 : Nat → Int32) (f60 : Nat → Int32) (f64 : Nat → Int32) (p0 : Int32) (p1 : Int32) (hx16 : x16 ≤ 1) (hx18 : x18 ≤ 900) (hx19 : x19 ≤ 900) (hx21 : x21 ≤ 900) (hx22 : x22 ≤ 4) (hx26 : x26 ≤ 6) (hx28 : x28 ≤ 1) (hx29 : x29 ≤ 1) (hx30 : x30 ≤ 1) (hx33 : x33 ≤ 20) (hx46 : x46 ≤ 5) (hx52 : x52 ≤ 2400) (hx53 : x53 ≤ 119) (hx61 : x61 ≤ 119) (hx62 : x62 ≤ 2000) (hx63 : x63 ≤ 1) (hx65 : x65 ≤ 7) (hm12_0 : m12_0 ≤ 3) (hm12_1 : m12_1 ≤ 3) (hm13_0 : m13_0 ≤ 8) (hm13_1 : m13_1 ≤ 8) (hm14_0 : m14_0 ≤ 14) (hm14_1 : m14_1 ≤ 14) (hm15_0 : m15_0 ≤ 8) (hm15_1 : m15_1 ≤ 8) (hm42_0 : m42_0 ≤ 120) (hm42_1 : m42_1 ≤ 400) : Met l yX9_isCondition vs_EM_isCondition ({ frames := 3, cells := 0, slots := 0, locals := 64 }) (va_Pc [.ref (ad 0), .int p0, .int p1] (pu_B (dC, dI) (mo_w ad ck x0 (nI x16) (nI x18) (nI x19) x20 (nI x21) (nI x22) x23 x24 x25 (nI x26) x27 (nI x28) (nI x29) (nI x30) (nI x33) x45 (nI x46) (nI x52) (nI x53) (nI x61) (nI x62) (nI x63) (nI x65) x66 f1 f2 f3 (bN 3 q4) (bN 7 q5) (bN 7 q6) (bN 4 q7) f8 (bN 2 q9) (bH q10) f11 (b2 m12_0 m12_1) (b2 m13_0 m13_1) (b2 m14_0 m14_1) (b2m m15_0 m15_1) f17 (bA 159 q31) f32 f34 f35 f36 f37 (bN 7 q38) f39 f40 f41 (b2 m42_0 m42_1) f43 f44 f47 f48 f49 f50 f51 (bN 13 q54) (bN 120 q55) (bN 120 q56) f57 (bN 120 q58) f59 f60 f64) (mo_t ck) sz)) (va_Qi (fun (r : Int32) (_ : Unit) => ∃ v : Nat, v ≤ 1 ∧ r = nI v ∧ (((v = 1 ∧ ((∃ q j : Nat, q ≤ 13 ∧ j ≤ 3 ∧ p0 = nI q ∧ p1 = nI j) ∨ (∃ q j : Nat, q ≤ 7 ∧ j ≤ 2 ∧ p0 = nI (100 + q) ∧ p1 = nI j))) ∨ v = 0) ∧ v = (sp_EM_isCondition x16 q4 q7 m13_0 m13_1 m14_0 m14_1 p0 p1))) (fun _ _ => True) (va_A [] sz)) 0 0 (va_A [] sz) := by
  refine Met.ofW (cc := cX9_isCondition) (maxL := 3) (ret := (some .boolean)) (by decide) rfl ?_
  intro p e s m args below meth c s₁ B hml hv
  obtain ⟨rfl, rfl, hP, hK, hD0⟩ := hv
  have hx := B.exec
  have hb := B.bytes
  have hr := B.returns
  have hts := atoms_spec (ws := vs_EM_isCondition) B.pre
  have hown : s.vm.findClass RX9 = some m.cls := findClass_of_methodNamed B.named
  have hlocks := B.notSynchronized
  have hD := hD0
  have hA : ∀ q : Nat, s.heap.size ≤ q → va_A [] s.heap.size q := fun _ h => Or.inr h
  have hS : va_S (va_A [] s.heap.size) s.heap s.heap [] := va_S.rf
  have hl := lv_entry ([.ref (ad 0), .int p0, .int p1]) (n := 3) (Nat.le_of_ble_eq_true rfl)
  rw [lg_entry_eq]
  generalize (lg_sl ([.ref (ad 0), .int p0, .int p1]) ++ List.replicate (3 - (lg_sl ([.ref (ad 0), .int p0, .int p1])).length) Slot.unset).toArray = ls at hl ⊢
  have hl : lv_has ls 3 [(0, .ref (ad 0)), (1, .int p0), (2, .int p1)] := hl
  obtain ⟨RR, hRR⟩ : ∃ x, x = (sp_EM_isCondition x16 q4 q7 m13_0 m13_1 m14_0 m14_1 p0 p1) := ⟨_, rfl⟩
  have hsp := hRR
  refine lv_iload_n hx hb dX9_isCondition_0 rfl (lv_at hl 2 rfl) ?_
  refine lv_iconst (v := 0) hx hb dX9_isCondition_1 (by decide) ?_
  refine lv_aload_n hx hb dX9_isCondition_2 rfl (lv_at hl 0 rfl) ?_
  refine lv_iload_n hx hb dX9_isCondition_3 rfl (lv_at hl 1 rfl) ?_
  refine va_calli (va_runV (As := [.int p0]) (rest := [.int 0, .int p1]) ⟨hx, hb, hml, hown, hts⟩ (c_EM_manyOf_g l dC dI _ ad ck x0 x16 x18 x19 x20 x21 x22 x23 x24 x25 x26 x27 x28 x29 x30 x33 x45 x46 x52 x53 x61 x62 x63 x65 x66 f1 f2 f3 q4 q5 q6 q7 f8 q9 q10 f11 m12_0 m12_1 m13_0 m13_1 m14_0 m14_1 m15_0 m15_1 f17 q31 f32 f34 f35 f36 f37 q38 f39 f40 f41 m42_0 m42_1 f43 f44 f47 f48 f49 f50 f51 q54 q55 q56 f57 q58 f59 f60 f64 p0 hx16 hx18 hx19 hx21 hx22 hx26 hx28 hx29 hx30 hx33 hx46 hx52 hx53 hx61 hx62 hx63 hx65 hm12_0 hm12_1 hm13_0 hm13_1 hm14_0 hm14_1 hm15_0 hm15_1 hm42_0 hm42_1) (cwV 1 hts g_EM_isCondition_EM_manyOf_g rfl rfl rfl (by decide +kernel) ⟨Nat.le_of_ble_eq_true rfl, Nat.le_of_ble_eq_true rfl⟩) ⟨pu_bl, va_recv hK hP (ci := 9) (q0 := 0) rfl rfl, pu_in hP hK hD⟩ rfl rfl hl.1 rfl (lv_room (Nat.le_of_ble_eq_true rfl)) dX9_isCondition_4 ⟨Nat.le_of_ble_eq_true rfl, Nat.le_of_ble_eq_true rfl⟩) hS (fun q _ h => pu_fr hS hA q h) (pu_fr hS hA) (fun r_1 u t H1 locs ht hvm hw hB hz1 hk1 hS => ?_)
  have hP := pu_keep hP hk1
  clear hk1 hz1 ht hvm
  generalize H1 = H at hP hS ⊢
  obtain ⟨u_2, hu_2, mu_2, ju_2, iu_2⟩ := hw
  replace hsp := hsp.trans (slet_eq iu_2)
  rcases ju_2 with zu_2 | ⟨n_3, u_4, hn_3, hu_4, en_3, zu_2⟩ | ⟨n_3, u_4, hn_3, hu_4, en_3, zu_2⟩
  · obtain rfl : r_1 = -1 := by rw [mu_2, zu_2]; rfl
    replace hsp := hsp.trans (if_pos zu_2)
    refine lv_iconst (v := 1) hx hb dX9_isCondition_7 (by decide) ?_
    refine lv_isub hx hb dX9_isCondition_8 ?_
    refine lv_topi (fun y_5 ey_5 => ?_)
    obtain rfl : y_5 = (-2) := ey_5.trans (by decide)
    refine va_calli (va_runS (As := [.int p1, .int 0, .int (-2)]) (rest := []) ⟨hx, hb, hml, hown, hts⟩ (c_X9_in l dC dI _ p1 0 (-2)) (va_cwS 3 hts g_EM_isCondition_X9_in rfl rfl rfl (by decide +kernel) ⟨Nat.le_of_ble_eq_true rfl, Nat.le_of_ble_eq_true rfl⟩) ⟨pu_bl, pu_in (hP.sub [] rfl) (hK.sub [] rfl) (hD.sub [] (by decide) rfl)⟩ rfl rfl hl.1 rfl (lv_room (Nat.le_of_ble_eq_true rfl)) dX9_isCondition_9 ⟨Nat.le_of_ble_eq_true rfl, Nat.le_of_ble_eq_true rfl⟩) hS (fun q _ h => pu_fr hS hA q h) (pu_fr hS hA) (fun r_6 u t H1 locs ht hvm hw hB hz1 hk1 hS => ?_)
    have hP := pu_keep hP hk1
    clear hk1 hz1 ht hvm
    generalize H1 = H at hP hS ⊢
    rcases hw with ⟨rfl, hi1, hi2⟩ | ⟨rfl, hi3⟩
    · replace hsp := hsp.trans (if_pos ⟨hi1, hi2⟩)
      exact absurd (Int32.le_trans hi1 hi2) (by decide)
    · replace hsp := hsp.trans (if_neg hi3)
      exact W.zret (v := 0) (ty := .boolean) hx hb hr (rfl) (fun t ht hW => ⟨⟨0, (), rfl, ⟨0, by omega, rfl, Or.inr rfl, (hsp.symm.trans hRR)⟩, trivial⟩, hS.F ht⟩) hS.2.2 dX9_isCondition_12
  · obtain rfl : r_1 = nI u_4 := by rw [mu_2, zu_2]; rfl
    replace hsp := hsp.trans (if_neg (by omega))
    subst en_3
    replace hsp := hsp.trans (if_pos (nI_lt (a := n_3) (b := 100) (by omega) (by decide)))
    replace hsp := hsp.trans (slet_eq (nI_cl (n := n_3) (by omega)))
    replace hsp := hsp.trans (slet_eq (by omega : u_4 = u_2 - 1))
    refine lv_iconst (v := 1) hx hb dX9_isCondition_7 (by decide) ?_
    refine lv_isub hx hb dX9_isCondition_8 ?_
    refine va_calli (va_runS (As := [.int p1, .int 0, .int ((nI u_4) - 1)]) (rest := []) ⟨hx, hb, hml, hown, hts⟩ (c_X9_in l dC dI _ p1 0 ((nI u_4) - 1)) (va_cwS 3 hts g_EM_isCondition_X9_in rfl rfl rfl (by decide +kernel) ⟨Nat.le_of_ble_eq_true rfl, Nat.le_of_ble_eq_true rfl⟩) ⟨pu_bl, pu_in (hP.sub [] rfl) (hK.sub [] rfl) (hD.sub [] (by decide) rfl)⟩ rfl rfl hl.1 rfl (lv_room (Nat.le_of_ble_eq_true rfl)) dX9_isCondition_9 ⟨Nat.le_of_ble_eq_true rfl, Nat.le_of_ble_eq_true rfl⟩) hS (fun q _ h => pu_fr hS hA q h) (pu_fr hS hA) (fun r_7 u t H1 locs ht hvm hw hB hz1 hk1 hS => ?_)
    have hP := pu_keep hP hk1
    clear hk1 hz1 ht hvm
    generalize H1 = H at hP hS ⊢
    rcases hw with ⟨rfl, hi1, hi2⟩ | ⟨rfl, hi3⟩
    · replace hsp := hsp.trans (if_pos ⟨hi1, hi2⟩)
      obtain ⟨n_8, hn_8, rfl⟩ := pu_in1 (n := u_4) (by omega) hi1 hi2
      replace hsp := hsp.trans (slet_eq (nI_cl (n := n_8) (by omega)))
      exact W.zret (v := 1) (ty := .boolean) hx hb hr (rfl) (fun t ht hW => ⟨⟨1, (), rfl, ⟨1, by omega, rfl, Or.inl ⟨rfl, Or.inl ⟨n_3, n_8, by omega, by omega, rfl, rfl⟩⟩, (hsp.symm.trans hRR)⟩, trivial⟩, hS.F ht⟩) hS.2.2 dX9_isCondition_12
    · replace hsp := hsp.trans (if_neg hi3)
      exact W.zret (v := 0) (ty := .boolean) hx hb hr (rfl) (fun t ht hW => ⟨⟨0, (), rfl, ⟨0, by omega, rfl, Or.inr rfl, (hsp.symm.trans hRR)⟩, trivial⟩, hS.F ht⟩) hS.2.2 dX9_isCondition_12
  · obtain rfl : r_1 = nI u_4 := by rw [mu_2, zu_2]; rfl
    replace hsp := hsp.trans (if_neg (by omega))
    subst en_3
    replace hsp := hsp.trans (if_neg (Int32.not_lt.mpr (nI_le (a := 100) (b := 100 + n_3) (by omega) (by omega))))
    replace hsp := hsp.trans (slet_eq (cl_100 (n := n_3) (by omega)))
    replace hsp := hsp.trans (slet_eq (by omega : u_4 = u_2 - 1))
    refine lv_iconst (v := 1) hx hb dX9_isCondition_7 (by decide) ?_
    refine lv_isub hx hb dX9_isCondition_8 ?_
    refine va_calli (va_runS (As := [.int p1, .int 0, .int ((nI u_4) - 1)]) (rest := []) ⟨hx, hb, hml, hown, hts⟩ (c_X9_in l dC dI _ p1 0 ((nI u_4) - 1)) (va_cwS 3 hts g_EM_isCondition_X9_in rfl rfl rfl (by decide +kernel) ⟨Nat.le_of_ble_eq_true rfl, Nat.le_of_ble_eq_true rfl⟩) ⟨pu_bl, pu_in (hP.sub [] rfl) (hK.sub [] rfl) (hD.sub [] (by decide) rfl)⟩ rfl rfl hl.1 rfl (lv_room (Nat.le_of_ble_eq_true rfl)) dX9_isCondition_9 ⟨Nat.le_of_ble_eq_true rfl, Nat.le_of_ble_eq_true rfl⟩) hS (fun q _ h => pu_fr hS hA q h) (pu_fr hS hA) (fun r_9 u t H1 locs ht hvm hw hB hz1 hk1 hS => ?_)
    have hP := pu_keep hP hk1
    clear hk1 hz1 ht hvm
    generalize H1 = H at hP hS ⊢
    rcases hw with ⟨rfl, hi1, hi2⟩ | ⟨rfl, hi3⟩
    · replace hsp := hsp.trans (if_pos ⟨hi1, hi2⟩)
      obtain ⟨n_10, hn_10, rfl⟩ := pu_in1 (n := u_4) (by omega) hi1 hi2
      replace hsp := hsp.trans (slet_eq (nI_cl (n := n_10) (by omega)))
      exact W.zret (v := 1) (ty := .boolean) hx hb hr (rfl) (fun t ht hW => ⟨⟨1, (), rfl, ⟨1, by omega, rfl, Or.inl ⟨rfl, Or.inr ⟨n_3, n_10, by omega, by omega, rfl, rfl⟩⟩, (hsp.symm.trans hRR)⟩, trivial⟩, hS.F ht⟩) hS.2.2 dX9_isCondition_12
    · replace hsp := hsp.trans (if_neg hi3)
      exact W.zret (v := 0) (ty := .boolean) hx hb hr (rfl) (fun t ht hW => ⟨⟨0, (), rfl, ⟨0, by omega, rfl, Or.inr rfl, (hsp.symm.trans hRR)⟩, trivial⟩, hS.F ht⟩) hS.2.2 dX9_isCondition_12
