abbrev vs_EM_together : List Cond := .code yX9_together cX9_together 2 (some .int) :: VM
noncomputable def sp_EM_together (p0 : Int32) (p1 : Int32) : Int32 := (if (1048576 : Int32) ≤ p0 then 1048576 else (if (p1 : Int32) < 1048576 then (slet ((p0 : Int32) + p1) (fun y_3 => (slet ((p0 : Int32) ||| (p1 : Int32)) (fun y_4 => (slet ((y_4 : Int32) &&& (1 : Int32)) (fun y_5 => (slet ((y_3 : Int32) - y_5) (fun y_6 => y_6)))))))) else 1048576))
set_option maxHeartbeats 4000000 in
set_option maxRecDepth 100000 in
theorem c_EM_together (l : Launch) (dC : Nat → ClassId) (dI : Nat → Nat → Nat) (sz : Nat) (ad : Nat → Nat) (ck : Nat → ClassId) (x0 : Int32) (x16 : Nat) (x18 : Nat) (x19 : Nat) (x20 : Int32) (x21 : Nat) (x22 : Nat) (x23 : Int32) (x24 : Int32) (x25 : Int32) (x26 : Nat) (x27 : Int32) (x28 : Nat) (x29 : Nat) (x30 : Nat) (x33 : Nat) (x45 : Int32) (x46 : Nat) (x52 : Nat) (x53 : Nat) (x61 : Nat) (x62 : Nat) (x63 : Nat) (x65 : Nat) (x66 : Int32) (f1 : Nat → Int32) (f2 : Nat → Int32) (f3 : Nat → Int32) (q4 : Nat → Nat) (q5 : Nat → Nat) (q6 : Nat → Nat) (q7 : Nat → Nat) (f8 : Nat → Int32) (q9 : Nat → Nat) (q10 : Nat → Nat) (f11 : Nat → Int32) (m12_0 m12_1 : Nat) (m13_0 m13_1 : Nat) (m14_0 m14_1 : Nat) (m15_0 m15_1 : Nat) (f17 : Nat → Int32) (q31 : Nat → Nat) (f32 : Nat → Int32) (f34 : Nat → Int32) (f35 : Nat → Int32) (f36 : Nat → Int32) (f37 : Nat → Int32) (q38 : Nat → Nat) (f39 : Nat → Int32) (f40 : Nat → Int32) (f41 : Nat → Int32) (m42_0 m42_1 : Nat) (f43 : Nat → Int32) (f44 : Nat → Int32) (f47 : Nat → Int32) (f48 : Nat → Int32) (f49 : Nat → Int32) (f50 : Nat → Int32) (f51 : Nat → Int32) (q54 : Nat → Nat) (q55 : Nat → Nat) (q56 : Nat → Nat) (f57 : Nat → Int32) (q58 : Nat → Nat) (f59 : Nat → Int32) (f60 : Nat → Int32) (f64 : Nat → Int32) (p0 : Int32) (p1 : Int32) (hx16 : x16 ≤ 1) (hx18 : x18 ≤ 900) (hx19 : x19 ≤ 900) (hx21 : x21 ≤ 900) (hx22 : x22 ≤ 4) (hx26 : x26 ≤ 6) (hx28 : x28 ≤ 1) (hx29 : x29 ≤ 1) (hx30 : x30 ≤ 1) (hx33 : x33 ≤ 20) (hx46 : x46 ≤ 5) (hx52 : x52 ≤ 2400) (hx53 : x53 ≤ 119) (hx61 : x61 ≤ 119) (hx62 : x62 ≤ 2000) (hx63 : x63 ≤ 1) (hx65 : x65 ≤ 7) (hm12_0 : m12_0 ≤ 3) (hm12_1 : m12_1 ≤ 3) (hm13_0 : m13_0 ≤ 8) (hm13_1 : m13_1 ≤ 8) (hm14_0 : m14_0 ≤ 14) (hm14_1 : m14_1 ≤ 14) (hm15_0 : m15_0 ≤ 8) (hm15_1 : m15_1 ≤ 8) (hm42_0 : m42_0 ≤ 120) (hm42_1 : m42_1 ≤ 400) : Met l yX9_together vs_EM_together ({ frames := 0, cells := 0, slots := 0, locals := 0 }) (va_Pc [.int p0, .int p1] (pu_B (dC, dI) (mo_w ad ck x0 (nI x16) (nI x18) (nI x19) x20 (nI x21) (nI x22) x23 x24 x25 (nI x26) x27 (nI x28) (nI x29) (nI x30) (nI x33) x45 (nI x46) (nI x52) (nI x53) (nI x61) (nI x62) (nI x63) (nI x65) x66 f1 f2 f3 (bN 3 q4) (bN 7 q5) (bN 7 q6) (bN 4 q7) f8 (bN 2 q9) (bH q10) f11 (b2 m12_0 m12_1) (b2 m13_0 m13_1) (b2 m14_0 m14_1) (b2m m15_0 m15_1) f17 (bA 159 q31) f32 f34 f35 f36 f37 (bN 7 q38) f39 f40 f41 (b2 m42_0 m42_1) f43 f44 f47 f48 f49 f50 f51 (bN 13 q54) (bN 120 q55) (bN 120 q56) f57 (bN 120 q58) f59 f60 f64) (mo_t ck) sz)) (va_Qi (fun (r : Int32) (_ : Unit) => r = (sp_EM_together p0 p1)) (fun _ _ => True) (va_A [] sz)) 0 0 (va_A [] sz) := by
  refine Met.ofW (cc := cX9_together) (maxL := 2) (ret := (some .int)) (by decide) rfl ?_
  intro p e s m args below meth c s₁ B hml hv
  obtain ⟨rfl, rfl, hP, hK, hD0⟩ := hv
  have hx := B.exec
  have hb := B.bytes
  have hr := B.returns
  have hts := atoms_spec (ws := vs_EM_together) B.pre
  have v_1 := hts (.constant RX9 327 (1048576)) (List.mem_cons_of_mem _ vm_46)
  have hown : s.vm.findClass RX9 = some m.cls := findClass_of_methodNamed B.named
  have hlocks := B.notSynchronized
  have hD := hD0
  have hA : ∀ q : Nat, s.heap.size ≤ q → va_A [] s.heap.size q := fun _ h => Or.inr h
  have hS : va_S (va_A [] s.heap.size) s.heap s.heap [] := va_S.rf
  have hl := lv_entry ([.int p0, .int p1]) (n := 2) (Nat.le_of_ble_eq_true rfl)
  rw [lg_entry_eq]
  generalize (lg_sl ([.int p0, .int p1]) ++ List.replicate (2 - (lg_sl ([.int p0, .int p1])).length) Slot.unset).toArray = ls at hl ⊢
  have hl : lv_has ls 2 [(0, .int p0), (1, .int p1)] := hl
  obtain ⟨RR, hRR⟩ : ∃ x, x = (sp_EM_together p0 p1) := ⟨_, rfl⟩
  have hsp := hRR
  refine lv_iload_n hx hb dX9_together_0 rfl (lv_at hl 0 rfl) ?_
  refine lv_ldcw hx hb hown v_1 dX9_together_1 ?_
  refine lv_icmp_ge (tgt := 14) hx hb dX9_together_4 (by decide) (fun c_1 => ?_) (fun c_1 => ?_)
  · have hcc_1 := c_1
    have hsp := hsp.trans (if_pos c_1)
    refine lv_ldcw hx hb hown v_1 dX9_together_14 ?_
    refine lv_goto (tgt := 29) hx hb dX9_together_17 (by decide) ?_
    exact W.iret (v := 1048576) hx hb hr (fun t ht hW => ⟨⟨1048576, (), rfl, (hsp.symm.trans hRR), trivial⟩, hS.F ht⟩) hS.2.2 dX9_together_29
  · have hcc_1 := c_1
    have hsp := hsp.trans (if_neg c_1)
    refine lv_iload_n hx hb dX9_together_7 rfl (lv_at hl 1 rfl) ?_
    refine lv_ldcw hx hb hown v_1 dX9_together_8 ?_
    refine lv_icmp_lt (tgt := 20) hx hb dX9_together_11 (by decide) (fun c_2 => ?_) (fun c_2 => ?_)
    · have hcc_2 := c_2
      have hsp := hsp.trans (if_pos c_2)
      refine lv_iload_n hx hb dX9_together_20 rfl (lv_at hl 0 rfl) ?_
      refine lv_iload_n hx hb dX9_together_21 rfl (lv_at hl 1 rfl) ?_
      refine lv_iadd hx hb dX9_together_22 ?_
      refine lv_topi (fun y_3 ey_3 => ?_)
      have hsp := hsp.trans (slet_eq ey_3)
      refine lv_iload_n hx hb dX9_together_23 rfl (lv_at hl 0 rfl) ?_
      refine lv_iload_n hx hb dX9_together_24 rfl (lv_at hl 1 rfl) ?_
      refine lv_ior hx hb dX9_together_25 ?_
      refine lv_topi (fun y_4 ey_4 => ?_)
      have hsp := hsp.trans (slet_eq ey_4)
      refine lv_iconst (v := 1) hx hb dX9_together_26 (by decide) ?_
      refine lv_iand hx hb dX9_together_27 ?_
      refine lv_topi (fun y_5 ey_5 => ?_)
      have hsp := hsp.trans (slet_eq ey_5)
      refine lv_isub hx hb dX9_together_28 ?_
      refine lv_topi (fun y_6 ey_6 => ?_)
      have hsp := hsp.trans (slet_eq ey_6)
      exact W.iret (v := y_6) hx hb hr (fun t ht hW => ⟨⟨y_6, (), rfl, (hsp.symm.trans hRR), trivial⟩, hS.F ht⟩) hS.2.2 dX9_together_29
    · have hcc_2 := c_2
      have hsp := hsp.trans (if_neg c_2)
      refine lv_ldcw hx hb hown v_1 dX9_together_14 ?_
      refine lv_goto (tgt := 29) hx hb dX9_together_17 (by decide) ?_
      exact W.iret (v := 1048576) hx hb hr (fun t ht hW => ⟨⟨1048576, (), rfl, (hsp.symm.trans hRR), trivial⟩, hS.F ht⟩) hS.2.2 dX9_together_29
abbrev vs_EM_timesOf : List Cond := .code yX9_timesOf cX9_timesOf 1 (some .int) :: VM
noncomputable def sp_EM_timesOf (p0 : Int32) : Int32 := (slet ((p0 : Int32) >>> ((1 : Int32) &&& 31)) (fun y_1 => (slet ((256 : Int32) * y_1) (fun y_2 => (slet ((y_2 : Int32) - 1) (fun y_3 => (slet ((p0 : Int32) &&& (1 : Int32)) (fun y_4 => (slet ((y_3 : Int32) + y_4) (fun y_5 => y_5))))))))))
set_option maxHeartbeats 4000000 in
set_option maxRecDepth 100000 in
theorem c_EM_timesOf (l : Launch) (dC : Nat → ClassId) (dI : Nat → Nat → Nat) (sz : Nat) (ad : Nat → Nat) (ck : Nat → ClassId) (x0 : Int32) (x16 : Nat) (x18 : Nat) (x19 : Nat) (x20 : Int32) (x21 : Nat) (x22 : Nat) (x23 : Int32) (x24 : Int32) (x25 : Int32) (x26 : Nat) (x27 : Int32) (x28 : Nat) (x29 : Nat) (x30 : Nat) (x33 : Nat) (x45 : Int32) (x46 : Nat) (x52 : Nat) (x53 : Nat) (x61 : Nat) (x62 : Nat) (x63 : Nat) (x65 : Nat) (x66 : Int32) (f1 : Nat → Int32) (f2 : Nat → Int32) (f3 : Nat → Int32) (q4 : Nat → Nat) (q5 : Nat → Nat) (q6 : Nat → Nat) (q7 : Nat → Nat) (f8 : Nat → Int32) (q9 : Nat → Nat) (q10 : Nat → Nat) (f11 : Nat → Int32) (m12_0 m12_1 : Nat) (m13_0 m13_1 : Nat) (m14_0 m14_1 : Nat) (m15_0 m15_1 : Nat) (f17 : Nat → Int32) (q31 : Nat → Nat) (f32 : Nat → Int32) (f34 : Nat → Int32) (f35 : Nat → Int32) (f36 : Nat → Int32) (f37 : Nat → Int32) (q38 : Nat → Nat) (f39 : Nat → Int32) (f40 : Nat → Int32) (f41 : Nat → Int32) (m42_0 m42_1 : Nat) (f43 : Nat → Int32) (f44 : Nat → Int32) (f47 : Nat → Int32) (f48 : Nat → Int32) (f49 : Nat → Int32) (f50 : Nat → Int32) (f51 : Nat → Int32) (q54 : Nat → Nat) (q55 : Nat → Nat) (q56 : Nat → Nat) (f57 : Nat → Int32) (q58 : Nat → Nat) (f59 : Nat → Int32) (f60 : Nat → Int32) (f64 : Nat → Int32) (p0 : Int32) (hx16 : x16 ≤ 1) (hx18 : x18 ≤ 900) (hx19 : x19 ≤ 900) (hx21 : x21 ≤ 900) (hx22 : x22 ≤ 4) (hx26 : x26 ≤ 6) (hx28 : x28 ≤ 1) (hx29 : x29 ≤ 1) (hx30 : x30 ≤ 1) (hx33 : x33 ≤ 20) (hx46 : x46 ≤ 5) (hx52 : x52 ≤ 2400) (hx53 : x53 ≤ 119) (hx61 : x61 ≤ 119) (hx62 : x62 ≤ 2000) (hx63 : x63 ≤ 1) (hx65 : x65 ≤ 7) (hm12_0 : m12_0 ≤ 3) (hm12_1 : m12_1 ≤ 3) (hm13_0 : m13_0 ≤ 8) (hm13_1 : m13_1 ≤ 8) (hm14_0 : m14_0 ≤ 14) (hm14_1 : m14_1 ≤ 14) (hm15_0 : m15_0 ≤ 8) (hm15_1 : m15_1 ≤ 8) (hm42_0 : m42_0 ≤ 120) (hm42_1 : m42_1 ≤ 400) : Met l yX9_timesOf vs_EM_timesOf ({ frames := 0, cells := 0, slots := 0, locals := 0 }) (va_Pc [.int p0] (pu_B (dC, dI) (mo_w ad ck x0 (nI x16) (nI x18) (nI x19) x20 (nI x21) (nI x22) x23 x24 x25 (nI x26) x27 (nI x28) (nI x29) (nI x30) (nI x33) x45 (nI x46) (nI x52) (nI x53) (nI x61) (nI x62) (nI x63) (nI x65) x66 f1 f2 f3 (bN 3 q4) (bN 7 q5) (bN 7 q6) (bN 4 q7) f8 (bN 2 q9) (bH q10) f11 (b2 m12_0 m12_1) (b2 m13_0 m13_1) (b2 m14_0 m14_1) (b2m m15_0 m15_1) f17 (bA 159 q31) f32 f34 f35 f36 f37 (bN 7 q38) f39 f40 f41 (b2 m42_0 m42_1) f43 f44 f47 f48 f49 f50 f51 (bN 13 q54) (bN 120 q55) (bN 120 q56) f57 (bN 120 q58) f59 f60 f64) (mo_t ck) sz)) (va_Qi (fun (r : Int32) (_ : Unit) => r = (sp_EM_timesOf p0)) (fun _ _ => True) (va_A [] sz)) 0 0 (va_A [] sz) := by
  refine Met.ofW (cc := cX9_timesOf) (maxL := 1) (ret := (some .int)) (by decide) rfl ?_
  intro p e s m args below meth c s₁ B hml hv
  obtain ⟨rfl, rfl, hP, hK, hD0⟩ := hv
  have hx := B.exec
  have hb := B.bytes
  have hr := B.returns
  have hts := atoms_spec (ws := vs_EM_timesOf) B.pre
  have hown : s.vm.findClass RX9 = some m.cls := findClass_of_methodNamed B.named
  have hlocks := B.notSynchronized
  have hD := hD0
  have hA : ∀ q : Nat, s.heap.size ≤ q → va_A [] s.heap.size q := fun _ h => Or.inr h
  have hS : va_S (va_A [] s.heap.size) s.heap s.heap [] := va_S.rf
  have hl := lv_entry ([.int p0]) (n := 1) (Nat.le_of_ble_eq_true rfl)
  rw [lg_entry_eq]
  generalize (lg_sl ([.int p0]) ++ List.replicate (1 - (lg_sl ([.int p0])).length) Slot.unset).toArray = ls at hl ⊢
  have hl : lv_has ls 1 [(0, .int p0)] := hl
  obtain ⟨RR, hRR⟩ : ∃ x, x = (sp_EM_timesOf p0) := ⟨_, rfl⟩
  have hsp := hRR
  refine lv_sipush (v := 256) hx hb dX9_timesOf_0 (by decide) ?_
  refine lv_iload_n hx hb dX9_timesOf_3 rfl (lv_at hl 0 rfl) ?_
  refine lv_iconst (v := 1) hx hb dX9_timesOf_4 (by decide) ?_
  refine lv_ishr hx hb dX9_timesOf_5 ?_
  refine lv_topi (fun y_1 ey_1 => ?_)
  have hsp := hsp.trans (slet_eq ey_1)
  refine lv_imul hx hb dX9_timesOf_6 ?_
  refine lv_topi (fun y_2 ey_2 => ?_)
  have hsp := hsp.trans (slet_eq ey_2)
  refine lv_iconst (v := 1) hx hb dX9_timesOf_7 (by decide) ?_
  refine lv_isub hx hb dX9_timesOf_8 ?_
  refine lv_topi (fun y_3 ey_3 => ?_)
  have hsp := hsp.trans (slet_eq ey_3)
  refine lv_iload_n hx hb dX9_timesOf_9 rfl (lv_at hl 0 rfl) ?_
  refine lv_iconst (v := 1) hx hb dX9_timesOf_10 (by decide) ?_
  refine lv_iand hx hb dX9_timesOf_11 ?_
  refine lv_topi (fun y_4 ey_4 => ?_)
  have hsp := hsp.trans (slet_eq ey_4)
  refine lv_iadd hx hb dX9_timesOf_12 ?_
  refine lv_topi (fun y_5 ey_5 => ?_)
  have hsp := hsp.trans (slet_eq ey_5)
  exact W.iret (v := y_5) hx hb hr (fun t ht hW => ⟨⟨y_5, (), rfl, (hsp.symm.trans hRR), trivial⟩, hS.F ht⟩) hS.2.2 dX9_timesOf_13
