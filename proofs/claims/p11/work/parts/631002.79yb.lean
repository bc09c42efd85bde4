theorem dX9_byteAt_0 : decode cX9_byteAt 0 = .ok (.iload_n 1, 1) := by decide +kernel
theorem dX9_byteAt_1 : decode cX9_byteAt 1 = .ok (.aload_n 0, 1) := by decide +kernel
theorem dX9_byteAt_2 : decode cX9_byteAt 2 = .ok (.getfield 156, 3) := by decide +kernel
theorem dX9_byteAt_5 : decode cX9_byteAt 5 = .ok (.if_icmp .ge 12, 3) := by decide +kernel
theorem dX9_byteAt_8 : decode cX9_byteAt 8 = .ok (.aload_n 0, 1) := by decide +kernel
theorem dX9_byteAt_9 : decode cX9_byteAt 9 = .ok (.getfield 55, 3) := by decide +kernel
theorem dX9_byteAt_12 : decode cX9_byteAt 12 = .ok (.iload_n 1, 1) := by decide +kernel
theorem dX9_byteAt_13 : decode cX9_byteAt 13 = .ok (.iaload, 1) := by decide +kernel
theorem dX9_byteAt_14 : decode cX9_byteAt 14 = .ok (.goto 4, 3) := by decide +kernel
theorem dX9_byteAt_17 : decode cX9_byteAt 17 = .ok (.iconst (-1), 1) := by decide +kernel
theorem dX9_byteAt_18 : decode cX9_byteAt 18 = .ok (.ireturn, 1) := by decide +kernel
abbrev vs_EM_byteAt : List Cond := .code yX9_byteAt cX9_byteAt 2 (some .int) :: VM
noncomputable def sp_EM_byteAt (x19 : Nat) (f17 : Nat → Int32) (a0 : Nat) : Unit := (if x19 ≤ a0 then () else (slet (f17 a0) (fun y_2 => ())))
set_option maxHeartbeats 4000000 in
set_option maxRecDepth 100000 in
theorem c_EM_byteAt (l : Launch) (dC : Nat → ClassId) (dI : Nat → Nat → Nat) (sz : Nat) (ad : Nat → Nat) (ck : Nat → ClassId) (x0 : Int32) (x16 : Nat) (x18 : Nat) (x19 : Nat) (x20 : Int32) (x21 : Nat) (x22 : Nat) (x23 : Int32) (x24 : Int32) (x25 : Int32) (x26 : Nat) (x27 : Int32) (x28 : Nat) (x29 : Nat) (x30 : Nat) (x33 : Nat) (x45 : Int32) (x46 : Nat) (x52 : Nat) (x53 : Nat) (x61 : Nat) (x62 : Nat) (x63 : Nat) (x65 : Nat) (x66 : Int32) (f1 : Nat → Int32) (f2 : Nat → Int32) (f3 : Nat → Int32) (q4 : Nat → Nat) (q5 : Nat → Nat) (q6 : Nat → Nat) (q7 : Nat → Nat) (f8 : Nat → Int32) (q9 : Nat → Nat) (q10 : Nat → Nat) (f11 : Nat → Int32) (m12_0 m12_1 : Nat) (m13_0 m13_1 : Nat) (m14_0 m14_1 : Nat) (m15_0 m15_1 : Nat) (f17 : Nat → Int32) (q31 : Nat → Nat) (f32 : Nat → Int32) (f34 : Nat → Int32) (f35 : Nat → Int32) (f36 : Nat → Int32) (f37 : Nat → Int32) (q38 : Nat → Nat) (f39 : Nat → Int32) (f40 : Nat → Int32) (f41 : Nat → Int32) (m42_0 m42_1 : Nat) (f43 : Nat → Int32) (f44 : Nat → Int32) (f47 : Nat → Int32) (f48 : Nat → Int32) (f49 : Nat → Int32) (f50 : Nat → Int32) (f51 : Nat → Int32) (q54 : Nat → Nat) (q55 : Nat → Nat) (q56 : Nat → Nat) (f57 : Nat → Int32) (q58 : Nat → Nat) (f59 : Nat → Int32) (f60 : Nat → Int32) (f64 : Nat → Int32) (a0 : Nat) (hx16 : x16 ≤ 1) (hx18 : x18 ≤ 900) (hx19 : x19 ≤ 900) (hx21 : x21 ≤ 900) (hx22 : x22 ≤ 4) (hx26 : x26 ≤ 6) (hx28 : x28 ≤ 1) (hx29 : x29 ≤ 1) (hx30 : x30 ≤ 1) (hx33 : x33 ≤ 20) (hx46 : x46 ≤ 5) (hx52 : x52 ≤ 2400) (hx53 : x53 ≤ 119) (hx61 : x61 ≤ 119) (hx62 : x62 ≤ 2000) (hx63 : x63 ≤ 1) (hx65 : x65 ≤ 7) (hm12_0 : m12_0 ≤ 3) (hm12_1 : m12_1 ≤ 3) (hm13_0 : m13_0 ≤ 8) (hm13_1 : m13_1 ≤ 8) (hm14_0 : m14_0 ≤ 14) (hm14_1 : m14_1 ≤ 14) (hm15_0 : m15_0 ≤ 8) (hm15_1 : m15_1 ≤ 8) (hm42_0 : m42_0 ≤ 120) (hm42_1 : m42_1 ≤ 400) (ha0 : a0 ≤ 900) : Met l yX9_byteAt vs_EM_byteAt ({ frames := 0, cells := 0, slots := 0, locals := 0 }) (va_Pc [.ref (ad 0), .int (nI a0)] (pu_B (dC, dI) (mo_w ad ck x0 (nI x16) (nI x18) (nI x19) x20 (nI x21) (nI x22) x23 x24 x25 (nI x26) x27 (nI x28) (nI x29) (nI x30) (nI x33) x45 (nI x46) (nI x52) (nI x53) (nI x61) (nI x62) (nI x63) (nI x65) x66 f1 f2 f3 (bN 3 q4) (bN 7 q5) (bN 7 q6) (bN 4 q7) f8 (bN 2 q9) (bH q10) f11 (b2 m12_0 m12_1) (b2 m13_0 m13_1) (b2 m14_0 m14_1) (b2m m15_0 m15_1) f17 (bA 159 q31) f32 f34 f35 f36 f37 (bN 7 q38) f39 f40 f41 (b2 m42_0 m42_1) f43 f44 f47 f48 f49 f50 f51 (bN 13 q54) (bN 120 q55) (bN 120 q56) f57 (bN 120 q58) f59 f60 f64) (mo_t ck) sz)) (va_Qi (fun (r : Int32) (_ : Unit) => (r = -1 ∧ x19 ≤ a0) ∨ (a0 < x19 ∧ r = f17 a0)) (fun _ _ => True) (va_A [] sz)) 0 0 (va_A [] sz) := by
  refine Met.ofW (cc := cX9_byteAt) (maxL := 2) (ret := (some .int)) (by decide) rfl ?_
  intro p e s m args below meth c s₁ B hml hv
  obtain ⟨rfl, rfl, hP, hK, hD0⟩ := hv
  have hx := B.exec
  have hb := B.bytes
  have hr := B.returns
  have hts := atoms_spec (ws := vs_EM_byteAt) B.pre
  have v_1 := hts (.fieldLink RX9 156 "ClockReachModel" "size" "I") (List.mem_cons_of_mem _ vm_47)
  have v_2 := hts (.fieldLink RX9 55 "ClockReachModel" "tape" "[I") (List.mem_cons_of_mem _ vm_48)
  have hown : s.vm.findClass RX9 = some m.cls := findClass_of_methodNamed B.named
  have hlocks := B.notSynchronized
  have hiX9 : ∀ w ∈ wsX90, w ∈ vs_EM_byteAt := fun _ h => List.mem_cons_of_mem _ (vmi_L h)
  have hD := hD0
  have hA : ∀ q : Nat, s.heap.size ≤ q → va_A [] s.heap.size q := fun _ h => Or.inr h
  have hS : va_S (va_A [] s.heap.size) s.heap s.heap [] := va_S.rf
  have hl := lv_entry ([.ref (ad 0), .int (nI a0)]) (n := 2) (Nat.le_of_ble_eq_true rfl)
  rw [lg_entry_eq]
  generalize (lg_sl ([.ref (ad 0), .int (nI a0)]) ++ List.replicate (2 - (lg_sl ([.ref (ad 0), .int (nI a0)])).length) Slot.unset).toArray = ls at hl ⊢
  have hl : lv_has ls 2 [(0, .ref (ad 0)), (1, .int (nI a0))] := hl
  obtain ⟨RR, hRR⟩ : ∃ x, x = (sp_EM_byteAt x19 f17 a0) := ⟨_, rfl⟩
  have hsp := hRR
  refine lv_iload_n hx hb dX9_byteAt_0 rfl (lv_at hl 1 rfl) ?_
  refine lv_aload_n hx hb dX9_byteAt_1 rfl (lv_at hl 0 rfl) ?_
  refine va_get (D := (dC, dI)) (ci := 9) (v := .int (nI x19)) (C := RX9) (T := TX9) (N := 67) hx hb hts hiX9 hown hK hP 0 rfl rfl 19 (by decide) v_1 (fun _ h9 => h9) rfl dX9_byteAt_2 ?_
  refine lv_icmp_ge (tgt := 17) hx hb dX9_byteAt_5 (by decide) (fun c_1 => ?_) (fun c_1 => ?_)
  · have c_1 : x19 ≤ a0 := (nI_leI (a := x19) (b := a0) (Nat.lt_of_le_of_lt hx19 (Nat.le_of_ble_eq_true rfl)) (Nat.lt_of_le_of_lt ha0 (Nat.le_of_ble_eq_true rfl))).mp c_1
    have hsp := hsp.trans (if_pos c_1)
    refine lv_iconst (v := (-1)) hx hb dX9_byteAt_17 (by decide) ?_
    exact W.iret (v := (-1)) hx hb hr (fun t ht hW => ⟨⟨(-1), (), rfl, Or.inl ⟨rfl, by omega⟩, trivial⟩, hS.F ht⟩) hS.2.2 dX9_byteAt_18
  · have c_1 : ¬ x19 ≤ a0 := fun z => c_1 ((nI_leI (a := x19) (b := a0) (Nat.lt_of_le_of_lt hx19 (Nat.le_of_ble_eq_true rfl)) (Nat.lt_of_le_of_lt ha0 (Nat.le_of_ble_eq_true rfl))).mpr z)
    have hsp := hsp.trans (if_neg c_1)
    refine lv_aload_n hx hb dX9_byteAt_8 rfl (lv_at hl 0 rfl) ?_
    refine va_get (D := (dC, dI)) (ci := 9) (v := .ref (ad 17)) (C := RX9) (T := TX9) (N := 67) hx hb hts hiX9 hown hK hP 0 rfl rfl 17 (by decide) v_2 (fun _ h9 => h9) rfl dX9_byteAt_9 ?_
    refine lv_iload_n hx hb dX9_byteAt_12 rfl (lv_at hl 1 rfl) ?_
    refine va_iald hx hb hK hP 16 15 rfl rfl (vp_in_nI (n := a0) (by omega) (Nat.le_of_ble_eq_true rfl)) dX9_byteAt_13 ?_
    refine lv_topi (fun y_2 ey_2 => ?_)
    have ey_2 : y_2 = f17 a0 := ey_2.trans (congrArg f17 (nI_clamp (n := a0) (Nat.lt_of_le_of_lt ha0 (Nat.le_of_ble_eq_true rfl))))
    have hsp := hsp.trans (slet_eq ey_2)
    refine lv_goto (tgt := 18) hx hb dX9_byteAt_14 (by decide) ?_
    exact W.iret (v := y_2) hx hb hr (fun t ht hW => ⟨⟨y_2, (), rfl, Or.inr ⟨by omega, ey_2⟩, trivial⟩, hS.F ht⟩) hS.2.2 dX9_byteAt_18
theorem dX9_next_0 : decode cX9_next 0 = .ok (.aload_n 0, 1) := by decide +kernel
theorem dX9_next_1 : decode cX9_next 1 = .ok (.aload_n 0, 1) := by decide +kernel
theorem dX9_next_2 : decode cX9_next 2 = .ok (.getfield 159, 3) := by decide +kernel
theorem dX9_next_5 : decode cX9_next 5 = .ok (.invokevirtual 162, 3) := by decide +kernel
theorem dX9_next_8 : decode cX9_next 8 = .ok (.bipush 32, 2) := by decide +kernel
theorem dX9_next_10 : decode cX9_next 10 = .ok (.if_icmp .eq 16, 3) := by decide +kernel
theorem dX9_next_13 : decode cX9_next 13 = .ok (.aload_n 0, 1) := by decide +kernel
theorem dX9_next_14 : decode cX9_next 14 = .ok (.aload_n 0, 1) := by decide +kernel
theorem dX9_next_15 : decode cX9_next 15 = .ok (.getfield 159, 3) := by decide +kernel
theorem dX9_next_18 : decode cX9_next 18 = .ok (.invokevirtual 162, 3) := by decide +kernel
theorem dX9_next_21 : decode cX9_next 21 = .ok (.bipush 10, 2) := by decide +kernel
theorem dX9_next_23 : decode cX9_next 23 = .ok (.if_icmp .ne 16, 3) := by decide +kernel
theorem dX9_next_26 : decode cX9_next 26 = .ok (.aload_n 0, 1) := by decide +kernel
theorem dX9_next_27 : decode cX9_next 27 = .ok (.dup, 1) := by decide +kernel
theorem dX9_next_28 : decode cX9_next 28 = .ok (.getfield 159, 3) := by decide +kernel
theorem dX9_next_31 : decode cX9_next 31 = .ok (.iconst 1, 1) := by decide +kernel
theorem dX9_next_32 : decode cX9_next 32 = .ok (.iadd, 1) := by decide +kernel
theorem dX9_next_33 : decode cX9_next 33 = .ok (.putfield 159, 3) := by decide +kernel
theorem dX9_next_36 : decode cX9_next 36 = .ok (.goto (-36), 3) := by decide +kernel
theorem dX9_next_39 : decode cX9_next 39 = .ok (.aload_n 0, 1) := by decide +kernel
theorem dX9_next_40 : decode cX9_next 40 = .ok (.aload_n 0, 1) := by decide +kernel
theorem dX9_next_41 : decode cX9_next 41 = .ok (.getfield 159, 3) := by decide +kernel
theorem dX9_next_44 : decode cX9_next 44 = .ok (.putfield 166, 3) := by decide +kernel
theorem dX9_next_47 : decode cX9_next 47 = .ok (.aload_n 0, 1) := by decide +kernel
theorem dX9_next_48 : decode cX9_next 48 = .ok (.aload_n 0, 1) := by decide +kernel
theorem dX9_next_49 : decode cX9_next 49 = .ok (.getfield 166, 3) := by decide +kernel
theorem dX9_next_52 : decode cX9_next 52 = .ok (.invokevirtual 162, 3) := by decide +kernel
theorem dX9_next_55 : decode cX9_next 55 = .ok (.istore_n 1, 1) := by decide +kernel
theorem dX9_next_56 : decode cX9_next 56 = .ok (.aload_n 0, 1) := by decide +kernel
theorem dX9_next_57 : decode cX9_next 57 = .ok (.iconst 0, 1) := by decide +kernel
theorem dX9_next_58 : decode cX9_next 58 = .ok (.putfield 169, 3) := by decide +kernel
theorem dX9_next_61 : decode cX9_next 61 = .ok (.iload_n 1, 1) := by decide +kernel
theorem dX9_next_62 : decode cX9_next 62 = .ok (.iconst (-1), 1) := by decide +kernel
theorem dX9_next_63 : decode cX9_next 63 = .ok (.if_icmp .ne 11, 3) := by decide +kernel
theorem dX9_next_66 : decode cX9_next 66 = .ok (.aload_n 0, 1) := by decide +kernel
theorem dX9_next_67 : decode cX9_next 67 = .ok (.iconst 0, 1) := by decide +kernel
theorem dX9_next_68 : decode cX9_next 68 = .ok (.putfield 172, 3) := by decide +kernel
theorem dX9_next_71 : decode cX9_next 71 = .ok (.goto 254, 3) := by decide +kernel
theorem dX9_next_74 : decode cX9_next 74 = .ok (.iload_n 1, 1) := by decide +kernel
theorem dX9_next_75 : decode cX9_next 75 = .ok (.invokestatic 175, 3) := by decide +kernel
theorem dX9_next_78 : decode cX9_next 78 = .ok (.ifCond .eq 97, 3) := by decide +kernel
theorem dX9_next_81 : decode cX9_next 81 = .ok (.aload_n 0, 1) := by decide +kernel
theorem dX9_next_82 : decode cX9_next 82 = .ok (.aload_n 0, 1) := by decide +kernel
theorem dX9_next_83 : decode cX9_next 83 = .ok (.getfield 159, 3) := by decide +kernel
theorem dX9_next_86 : decode cX9_next 86 = .ok (.invokevirtual 162, 3) := by decide +kernel
theorem dX9_next_89 : decode cX9_next 89 = .ok (.invokestatic 175, 3) := by decide +kernel
theorem dX9_next_92 : decode cX9_next 92 = .ok (.ifCond .eq 57, 3) := by decide +kernel
theorem dX9_next_95 : decode cX9_next 95 = .ok (.aload_n 0, 1) := by decide +kernel
theorem dX9_next_96 : decode cX9_next 96 = .ok (.aload_n 0, 1) := by decide +kernel
theorem dX9_next_97 : decode cX9_next 97 = .ok (.getfield 159, 3) := by decide +kernel
theorem dX9_next_100 : decode cX9_next 100 = .ok (.aload_n 0, 1) := by decide +kernel
theorem dX9_next_101 : decode cX9_next 101 = .ok (.getfield 166, 3) := by decide +kernel
theorem dX9_next_104 : decode cX9_next 104 = .ok (.isub, 1) := by decide +kernel
theorem dX9_next_105 : decode cX9_next 105 = .ok (.bipush 6, 2) := by decide +kernel
theorem dX9_next_107 : decode cX9_next 107 = .ok (.if_icmp .ge 25, 3) := by decide +kernel
theorem dX9_next_110 : decode cX9_next 110 = .ok (.aload_n 0, 1) := by decide +kernel
theorem dX9_next_111 : decode cX9_next 111 = .ok (.getfield 169, 3) := by decide +kernel
theorem dX9_next_114 : decode cX9_next 114 = .ok (.bipush 32, 2) := by decide +kernel
theorem dX9_next_116 : decode cX9_next 116 = .ok (.imul, 1) := by decide +kernel
theorem dX9_next_117 : decode cX9_next 117 = .ok (.aload_n 0, 1) := by decide +kernel
theorem dX9_next_118 : decode cX9_next 118 = .ok (.aload_n 0, 1) := by decide +kernel
theorem dX9_next_119 : decode cX9_next 119 = .ok (.getfield 159, 3) := by decide +kernel
theorem dX9_next_122 : decode cX9_next 122 = .ok (.invokevirtual 162, 3) := by decide +kernel
theorem dX9_next_125 : decode cX9_next 125 = .ok (.iadd, 1) := by decide +kernel
theorem dX9_next_126 : decode cX9_next 126 = .ok (.bipush 96, 2) := by decide +kernel
theorem dX9_next_128 : decode cX9_next 128 = .ok (.isub, 1) := by decide +kernel
theorem dX9_next_129 : decode cX9_next 129 = .ok (.goto 4, 3) := by decide +kernel
theorem dX9_next_132 : decode cX9_next 132 = .ok (.iconst (-1), 1) := by decide +kernel
theorem dX9_next_133 : decode cX9_next 133 = .ok (.putfield 169, 3) := by decide +kernel
theorem dX9_next_136 : decode cX9_next 136 = .ok (.aload_n 0, 1) := by decide +kernel
theorem dX9_next_137 : decode cX9_next 137 = .ok (.dup, 1) := by decide +kernel
theorem dX9_next_138 : decode cX9_next 138 = .ok (.getfield 159, 3) := by decide +kernel
theorem dX9_next_141 : decode cX9_next 141 = .ok (.iconst 1, 1) := by decide +kernel
theorem dX9_next_142 : decode cX9_next 142 = .ok (.iadd, 1) := by decide +kernel
theorem dX9_next_143 : decode cX9_next 143 = .ok (.putfield 159, 3) := by decide +kernel
theorem dX9_next_146 : decode cX9_next 146 = .ok (.goto (-65), 3) := by decide +kernel
theorem dX9_next_149 : decode cX9_next 149 = .ok (.aload_n 0, 1) := by decide +kernel
theorem dX9_next_150 : decode cX9_next 150 = .ok (.aload_n 0, 1) := by decide +kernel
theorem dX9_next_151 : decode cX9_next 151 = .ok (.getfield 159, 3) := by decide +kernel
theorem dX9_next_154 : decode cX9_next 154 = .ok (.aload_n 0, 1) := by decide +kernel
theorem dX9_next_155 : decode cX9_next 155 = .ok (.getfield 166, 3) := by decide +kernel
theorem dX9_next_158 : decode cX9_next 158 = .ok (.isub, 1) := by decide +kernel
theorem dX9_next_159 : decode cX9_next 159 = .ok (.bipush 6, 2) := by decide +kernel
theorem dX9_next_161 : decode cX9_next 161 = .ok (.if_icmp .le 7, 3) := by decide +kernel
theorem dX9_next_164 : decode cX9_next 164 = .ok (.iconst 4, 1) := by decide +kernel
theorem dX9_next_165 : decode cX9_next 165 = .ok (.goto 4, 3) := by decide +kernel
theorem dX9_next_168 : decode cX9_next 168 = .ok (.iconst 1, 1) := by decide +kernel
theorem dX9_next_169 : decode cX9_next 169 = .ok (.putfield 172, 3) := by decide +kernel
theorem dX9_next_172 : decode cX9_next 172 = .ok (.goto 153, 3) := by decide +kernel
theorem dX9_next_175 : decode cX9_next 175 = .ok (.iload_n 1, 1) := by decide +kernel
theorem dX9_next_176 : decode cX9_next 176 = .ok (.invokestatic 179, 3) := by decide +kernel
theorem dX9_next_179 : decode cX9_next 179 = .ok (.ifCond .eq 98, 3) := by decide +kernel
theorem dX9_next_182 : decode cX9_next 182 = .ok (.aload_n 0, 1) := by decide +kernel
theorem dX9_next_183 : decode cX9_next 183 = .ok (.aload_n 0, 1) := by decide +kernel
theorem dX9_next_184 : decode cX9_next 184 = .ok (.getfield 159, 3) := by decide +kernel
theorem dX9_next_187 : decode cX9_next 187 = .ok (.invokevirtual 162, 3) := by decide +kernel
theorem dX9_next_190 : decode cX9_next 190 = .ok (.invokestatic 179, 3) := by decide +kernel
theorem dX9_next_193 : decode cX9_next 193 = .ok (.ifCond .eq 45, 3) := by decide +kernel
theorem dX9_next_196 : decode cX9_next 196 = .ok (.aload_n 0, 1) := by decide +kernel
theorem dX9_next_197 : decode cX9_next 197 = .ok (.sipush 10000, 3) := by decide +kernel
theorem dX9_next_200 : decode cX9_next 200 = .ok (.aload_n 0, 1) := by decide +kernel
theorem dX9_next_201 : decode cX9_next 201 = .ok (.getfield 169, 3) := by decide +kernel
theorem dX9_next_204 : decode cX9_next 204 = .ok (.bipush 10, 2) := by decide +kernel
theorem dX9_next_206 : decode cX9_next 206 = .ok (.imul, 1) := by decide +kernel
theorem dX9_next_207 : decode cX9_next 207 = .ok (.aload_n 0, 1) := by decide +kernel
theorem dX9_next_208 : decode cX9_next 208 = .ok (.aload_n 0, 1) := by decide +kernel
theorem dX9_next_209 : decode cX9_next 209 = .ok (.getfield 159, 3) := by decide +kernel
theorem dX9_next_212 : decode cX9_next 212 = .ok (.invokevirtual 162, 3) := by decide +kernel
theorem dX9_next_215 : decode cX9_next 215 = .ok (.iadd, 1) := by decide +kernel
theorem dX9_next_216 : decode cX9_next 216 = .ok (.bipush 48, 2) := by decide +kernel
theorem dX9_next_218 : decode cX9_next 218 = .ok (.isub, 1) := by decide +kernel
theorem dX9_next_219 : decode cX9_next 219 = .ok (.invokestatic 182, 3) := by decide +kernel
theorem dX9_next_222 : decode cX9_next 222 = .ok (.putfield 169, 3) := by decide +kernel
theorem dX9_next_225 : decode cX9_next 225 = .ok (.aload_n 0, 1) := by decide +kernel
theorem dX9_next_226 : decode cX9_next 226 = .ok (.dup, 1) := by decide +kernel
theorem dX9_next_227 : decode cX9_next 227 = .ok (.getfield 159, 3) := by decide +kernel
theorem dX9_next_230 : decode cX9_next 230 = .ok (.iconst 1, 1) := by decide +kernel
theorem dX9_next_231 : decode cX9_next 231 = .ok (.iadd, 1) := by decide +kernel
theorem dX9_next_232 : decode cX9_next 232 = .ok (.putfield 159, 3) := by decide +kernel
theorem dX9_next_235 : decode cX9_next 235 = .ok (.goto (-53), 3) := by decide +kernel
theorem dX9_next_238 : decode cX9_next 238 = .ok (.aload_n 0, 1) := by decide +kernel
theorem dX9_next_239 : decode cX9_next 239 = .ok (.aload_n 0, 1) := by decide +kernel
theorem dX9_next_240 : decode cX9_next 240 = .ok (.getfield 159, 3) := by decide +kernel
theorem dX9_next_243 : decode cX9_next 243 = .ok (.aload_n 0, 1) := by decide +kernel
theorem dX9_next_244 : decode cX9_next 244 = .ok (.getfield 166, 3) := by decide +kernel
theorem dX9_next_247 : decode cX9_next 247 = .ok (.isub, 1) := by decide +kernel
theorem dX9_next_248 : decode cX9_next 248 = .ok (.iconst 3, 1) := by decide +kernel
theorem dX9_next_249 : decode cX9_next 249 = .ok (.if_icmp .gt 17, 3) := by decide +kernel
theorem dX9_next_252 : decode cX9_next 252 = .ok (.aload_n 0, 1) := by decide +kernel
theorem dX9_next_253 : decode cX9_next 253 = .ok (.aload_n 0, 1) := by decide +kernel
theorem dX9_next_254 : decode cX9_next 254 = .ok (.getfield 159, 3) := by decide +kernel
theorem dX9_next_257 : decode cX9_next 257 = .ok (.invokevirtual 162, 3) := by decide +kernel
theorem dX9_next_260 : decode cX9_next 260 = .ok (.invokestatic 175, 3) := by decide +kernel
theorem dX9_next_263 : decode cX9_next 263 = .ok (.ifCond .eq 7, 3) := by decide +kernel
theorem dX9_next_266 : decode cX9_next 266 = .ok (.iconst 4, 1) := by decide +kernel
theorem dX9_next_267 : decode cX9_next 267 = .ok (.goto 4, 3) := by decide +kernel
theorem dX9_next_270 : decode cX9_next 270 = .ok (.iconst 2, 1) := by decide +kernel
theorem dX9_next_271 : decode cX9_next 271 = .ok (.putfield 172, 3) := by decide +kernel
theorem dX9_next_274 : decode cX9_next 274 = .ok (.goto 51, 3) := by decide +kernel
theorem dX9_next_277 : decode cX9_next 277 = .ok (.aload_n 0, 1) := by decide +kernel
theorem dX9_next_278 : decode cX9_next 278 = .ok (.dup, 1) := by decide +kernel
theorem dX9_next_279 : decode cX9_next 279 = .ok (.getfield 159, 3) := by decide +kernel
theorem dX9_next_282 : decode cX9_next 282 = .ok (.iconst 1, 1) := by decide +kernel
theorem dX9_next_283 : decode cX9_next 283 = .ok (.iadd, 1) := by decide +kernel
theorem dX9_next_284 : decode cX9_next 284 = .ok (.putfield 159, 3) := by decide +kernel
theorem dX9_next_287 : decode cX9_next 287 = .ok (.aload_n 0, 1) := by decide +kernel
theorem dX9_next_288 : decode cX9_next 288 = .ok (.iload_n 1, 1) := by decide +kernel
theorem dX9_next_289 : decode cX9_next 289 = .ok (.putfield 169, 3) := by decide +kernel
theorem dX9_next_292 : decode cX9_next 292 = .ok (.aload_n 0, 1) := by decide +kernel
theorem dX9_next_293 : decode cX9_next 293 = .ok (.iload_n 1, 1) := by decide +kernel
theorem dX9_next_294 : decode cX9_next 294 = .ok (.bipush 60, 2) := by decide +kernel
theorem dX9_next_296 : decode cX9_next 296 = .ok (.if_icmp .eq 21, 3) := by decide +kernel
theorem dX9_next_299 : decode cX9_next 299 = .ok (.iload_n 1, 1) := by decide +kernel
theorem dX9_next_300 : decode cX9_next 300 = .ok (.bipush 61, 2) := by decide +kernel
theorem dX9_next_302 : decode cX9_next 302 = .ok (.if_icmp .eq 15, 3) := by decide +kernel
theorem dX9_next_305 : decode cX9_next 305 = .ok (.iload_n 1, 1) := by decide +kernel
theorem dX9_next_306 : decode cX9_next 306 = .ok (.bipush 62, 2) := by decide +kernel
theorem dX9_next_308 : decode cX9_next 308 = .ok (.if_icmp .eq 9, 3) := by decide +kernel
theorem dX9_next_311 : decode cX9_next 311 = .ok (.iload_n 1, 1) := by decide +kernel
theorem dX9_next_312 : decode cX9_next 312 = .ok (.bipush 59, 2) := by decide +kernel
theorem dX9_next_314 : decode cX9_next 314 = .ok (.if_icmp .ne 7, 3) := by decide +kernel
theorem dX9_next_317 : decode cX9_next 317 = .ok (.iconst 3, 1) := by decide +kernel
theorem dX9_next_318 : decode cX9_next 318 = .ok (.goto 4, 3) := by decide +kernel
theorem dX9_next_321 : decode cX9_next 321 = .ok (.iconst 4, 1) := by decide +kernel
theorem dX9_next_322 : decode cX9_next 322 = .ok (.putfield 172, 3) := by decide +kernel
theorem dX9_next_325 : decode cX9_next 325 = .ok (.return_, 1) := by decide +kernel
abbrev vs_EM_next : List Cond := .code yX9_next cX9_next 2 none :: VM
theorem g_EM_next_EM_byteAt : GoodIn vs_EM_next (wsV RX9 162 RX9 yX9_byteAt vs_EM_byteAt) := gm_V vm_49 vm_50 vm_51 vm_19 vm_52
theorem g_EM_next_EM_isSmall : GoodIn vs_EM_next (va_wsS RX9 175 yX9_isSmall vs_EM_isSmall) := gm_S vm_53 vm_54 vm_19 vm_55
theorem g_EM_next_EM_isDigit : GoodIn vs_EM_next (va_wsS RX9 179 yX9_isDigit vs_EM_isDigit) := gm_S vm_56 vm_57 vm_19 vm_58
theorem g_EM_next_EM_isSmall_n : GoodIn vs_EM_next (va_wsS RX9 175 yX9_isSmall vs_EM_isSmall_n) := gm_S vm_53 vm_54 vm_19 vm_55
theorem g_EM_next_EM_isDigit_n : GoodIn vs_EM_next (va_wsS RX9 179 yX9_isDigit vs_EM_isDigit_n) := gm_S vm_56 vm_57 vm_19 vm_58
theorem g_EM_next_EM_lesser : GoodIn vs_EM_next (va_wsS RX9 182 yX9_lesser vs_EM_lesser) := gm_S vm_59 vm_60 vm_19 vm_61
noncomputable def sp_EM_next_L1 (x19 : Nat) (f17 : Nat → Int32) : (Nat) → (Nat) ⊕ (Nat) := fun g_106 => (if g_106 < x19 then (slet (f17 g_106) (fun r_114 => (if (r_114 : Int32) = 32 then (Sum.inl (g_106 + 1)) else (if g_106 < x19 then (slet (f17 g_106) (fun r_120 => (if (r_120 : Int32) = 10 then (Sum.inl (g_106 + 1)) else (Sum.inr g_106)))) else (Sum.inr g_106))))) else (if g_106 < x19 then (slet (f17 g_106) (fun r_115 => (if (r_115 : Int32) = 10 then (Sum.inl (g_106 + 1)) else (Sum.inr g_106)))) else (Sum.inr g_106)))
noncomputable def sp_EM_next_L2 (x19 : Nat) (f17 : Nat → Int32) : (Nat × Int32) → (Nat × Int32) ⊕ (Nat × Int32) := fun (g_37, g_38) => (if g_37 < x19 then (slet (f17 g_37) (fun r_47 => (slet (sp_EM_isDigit r_47) (fun u_50 => (if u_50 = 0 then (Sum.inr (g_37, g_38)) else (slet ((g_38 : Int32) * 10) (fun y_52 => (if g_37 < x19 then (slet (f17 g_37) (fun r_53 => (slet ((y_52 : Int32) + r_53) (fun y_58 => (slet ((y_58 : Int32) - 48) (fun y_59 => (slet (sp_EM_lesser 10000 y_59) (fun r_60 => (Sum.inl ((g_37 + 1), r_60)))))))))) else (slet ((y_52 : Int32) + (-1)) (fun y_54 => (slet ((y_54 : Int32) - 48) (fun y_55 => (slet (sp_EM_lesser 10000 y_55) (fun r_56 => (Sum.inl ((g_37 + 1), r_56)))))))))))))))) else (Sum.inr (g_37, g_38)))
noncomputable def sp_EM_next_L3 (x19 : Nat) (f17 : Nat → Int32) (g_1 : Nat) : (Nat × Int32) → (Nat × Int32) ⊕ (Nat × Int32) := fun (g_75, g_76) => (if g_75 < x19 then (slet (f17 g_75) (fun r_85 => (slet (sp_EM_isSmall r_85) (fun u_88 => (if u_88 = 0 then (Sum.inr (g_75, g_76)) else (slet (((nI g_75) : Int32) - (nI g_1)) (fun y_90 => (slet (α := Int32) (if (6 : Int32) ≤ y_90 then (-1) else (slet ((g_76 : Int32) * 32) (fun y_98 => (if g_75 < x19 then (slet (f17 g_75) (fun r_99 => (slet ((y_98 : Int32) + r_99) (fun y_102 => (slet ((y_102 : Int32) - 96) (fun y_103 => y_103)))))) else (slet ((y_98 : Int32) + (-1)) (fun y_100 => (slet ((y_100 : Int32) - 96) (fun y_101 => y_101)))))))) (fun g_91 => (Sum.inl ((g_75 + 1), g_91))))))))))) else (Sum.inr (g_75, g_76)))
noncomputable def sp_EM_next (x19 : Nat) (x21 : Nat) (f17 : Nat → Int32) : Int32 × Nat × Nat × Int32 := (slet (α := Nat) (itrv (α := Nat) (β := (Nat)) default (sp_EM_next_L1 x19 f17) x21) (fun g_1 => (if g_1 < x19 then (slet (f17 g_1) (fun r_6 => (if (r_6 : Int32) = (-1) then ((nI g_1), g_1, 0, 0) else (slet (sp_EM_isSmall r_6) (fun u_9 => (if u_9 = 0 then (slet (sp_EM_isDigit r_6) (fun u_12 => (if u_12 = 0 then (if (r_6 : Int32) = 60 then ((nI g_1), (g_1 + 1), 3, r_6) else (if (r_6 : Int32) = 61 then ((nI g_1), (g_1 + 1), 3, r_6) else (if (r_6 : Int32) = 62 then ((nI g_1), (g_1 + 1), 3, r_6) else (if (r_6 : Int32) = 59 then ((nI g_1), (g_1 + 1), 3, r_6) else ((nI g_1), (g_1 + 1), 4, r_6))))) else (slet (α := Nat × Int32) (itrv (α := Nat × Int32) (β := (Nat × Int32)) default (sp_EM_next_L2 x19 f17) (g_1, 0)) (fun (g_19, g_20) => (slet (((nI g_19) : Int32) - (nI g_1)) (fun y_26 => (if (3 : Int32) < y_26 then ((nI g_1), g_19, 4, g_20) else (if g_19 < x19 then (slet (f17 g_19) (fun r_28 => (slet (sp_EM_isSmall r_28) (fun u_31 => (if u_31 = 0 then ((nI g_1), g_19, 2, g_20) else ((nI g_1), g_19, 4, g_20)))))) else ((nI g_1), g_19, 2, g_20)))))))))) else (slet (α := Nat × Int32) (itrv (α := Nat × Int32) (β := (Nat × Int32)) default (sp_EM_next_L3 x19 f17 g_1) (g_1, 0)) (fun (g_62, g_63) => (slet (((nI g_62) : Int32) - (nI g_1)) (fun y_69 => (if (y_69 : Int32) ≤ 6 then ((nI g_1), g_62, 1, g_63) else ((nI g_1), g_62, 4, g_63)))))))))))) else ((nI g_1), g_1, 0, 0))))
set_option maxHeartbeats 4000000 in
set_option maxRecDepth 100000 in
theorem c_EM_next (l : Launch) (dC : Nat → ClassId) (dI : Nat → Nat → Nat) (sz : Nat) (ad : Nat → Nat) (ck : Nat → ClassId) (x0 : Int32) (x16 : Nat) (x18 : Nat) (x19 : Nat) (x20 : Int32) (x21 : Nat) (x22 : Nat) (x23 : Int32) (x24 : Int32) (x25 : Int32) (x26 : Nat) (x27 : Int32) (x28 : Nat) (x29 : Nat) (x30 : Nat) (x33 : Nat) (x45 : Int32) (x46 : Nat) (x52 : Nat) (x53 : Nat) (x61 : Nat) (x62 : Nat) (x63 : Nat) (x65 : Nat) (x66 : Int32) (f1 : Nat → Int32) (f2 : Nat → Int32) (f3 : Nat → Int32) (q4 : Nat → Nat) (q5 : Nat → Nat) (q6 : Nat → Nat) (q7 : Nat → Nat) (f8 : Nat → Int32) (q9 : Nat → Nat) (q10 : Nat → Nat) (f11 : Nat → Int32) (m12_0 m12_1 : Nat) (m13_0 m13_1 : Nat) (m14_0 m14_1 : Nat) (m15_0 m15_1 : Nat) (f17 : Nat → Int32) (q31 : Nat → Nat) (f32 : Nat → Int32) (f34 : Nat → Int32) (f35 : Nat → Int32) (f36 : Nat → Int32) (f37 : Nat → Int32) (q38 : Nat → Nat) (f39 : Nat → Int32) (f40 : Nat → Int32) (f41 : Nat → Int32) (m42_0 m42_1 : Nat) (f43 : Nat → Int32) (f44 : Nat → Int32) (f47 : Nat → Int32) (f48 : Nat → Int32) (f49 : Nat → Int32) (f50 : Nat → Int32) (f51 : Nat → Int32) (q54 : Nat → Nat) (q55 : Nat → Nat) (q56 : Nat → Nat) (f57 : Nat → Int32) (q58 : Nat → Nat) (f59 : Nat → Int32) (f60 : Nat → Int32) (f64 : Nat → Int32) (hx16 : x16 ≤ 1) (hx18 : x18 ≤ 900) (hx19 : x19 ≤ 900) (hx21 : x21 ≤ 900) (hx22 : x22 ≤ 4) (hx26 : x26 ≤ 6) (hx28 : x28 ≤ 1) (hx29 : x29 ≤ 1) (hx30 : x30 ≤ 1) (hx33 : x33 ≤ 20) (hx46 : x46 ≤ 5) (hx52 : x52 ≤ 2400) (hx53 : x53 ≤ 119) (hx61 : x61 ≤ 119) (hx62 : x62 ≤ 2000) (hx63 : x63 ≤ 1) (hx65 : x65 ≤ 7) (hm12_0 : m12_0 ≤ 3) (hm12_1 : m12_1 ≤ 3) (hm13_0 : m13_0 ≤ 8) (hm13_1 : m13_1 ≤ 8) (hm14_0 : m14_0 ≤ 14) (hm14_1 : m14_1 ≤ 14) (hm15_0 : m15_0 ≤ 8) (hm15_1 : m15_1 ≤ 8) (hm42_0 : m42_0 ≤ 120) (hm42_1 : m42_1 ≤ 400) : Met l yX9_next vs_EM_next ({ frames := 1, cells := 0, slots := 0, locals := 21 }) (va_Pc [.ref (ad 0)] (pu_B (dC, dI) (mo_w ad ck x0 (nI x16) (nI x18) (nI x19) x20 (nI x21) (nI x22) x23 x24 x25 (nI x26) x27 (nI x28) (nI x29) (nI x30) (nI x33) x45 (nI x46) (nI x52) (nI x53) (nI x61) (nI x62) (nI x63) (nI x65) x66 f1 f2 f3 (bN 3 q4) (bN 7 q5) (bN 7 q6) (bN 4 q7) f8 (bN 2 q9) (bH q10) f11 (b2 m12_0 m12_1) (b2 m13_0 m13_1) (b2 m14_0 m14_1) (b2m m15_0 m15_1) f17 (bA 159 q31) f32 f34 f35 f36 f37 (bN 7 q38) f39 f40 f41 (b2 m42_0 m42_1) f43 f44 f47 f48 f49 f50 f51 (bN 13 q54) (bN 120 q55) (bN 120 q56) f57 (bN 120 q58) f59 f60 f64) (mo_t ck) sz)) (va_Qv (fun (_ : Unit) => True) (fun _ t => ∃ (z20 : Int32) (z21 : Nat) (z22 : Nat) (z23 : Int32), pu_E (dC, dI) (mo_w ad ck x0 (nI x16) (nI x18) (nI x19) z20 (nI z21) (nI z22) z23 x24 x25 (nI x26) x27 (nI x28) (nI x29) (nI x30) (nI x33) x45 (nI x46) (nI x52) (nI x53) (nI x61) (nI x62) (nI x63) (nI x65) x66 f1 f2 f3 (bN 3 q4) (bN 7 q5) (bN 7 q6) (bN 4 q7) f8 (bN 2 q9) (bH q10) f11 (b2 m12_0 m12_1) (b2 m13_0 m13_1) (b2 m14_0 m14_1) (b2m m15_0 m15_1) f17 (bA 159 q31) f32 f34 f35 f36 f37 (bN 7 q38) f39 f40 f41 (b2 m42_0 m42_1) f43 f44 f47 f48 f49 f50 f51 (bN 13 q54) (bN 120 q55) (bN 120 q56) f57 (bN 120 q58) f59 f60 f64) (mo_t ck) (va_A ((mo_w ad ck x0 (nI x16) (nI x18) (nI x19) x20 (nI x21) (nI x22) x23 x24 x25 (nI x26) x27 (nI x28) (nI x29) (nI x30) (nI x33) x45 (nI x46) (nI x52) (nI x53) (nI x61) (nI x62) (nI x63) (nI x65) x66 f1 f2 f3 (bN 3 q4) (bN 7 q5) (bN 7 q6) (bN 4 q7) f8 (bN 2 q9) (bH q10) f11 (b2 m12_0 m12_1) (b2 m13_0 m13_1) (b2 m14_0 m14_1) (b2m m15_0 m15_1) f17 (bA 159 q31) f32 f34 f35 f36 f37 (bN 7 q38) f39 f40 f41 (b2 m42_0 m42_1) f43 f44 f47 f48 f49 f50 f51 (bN 13 q54) (bN 120 q55) (bN 120 q56) f57 (bN 120 q58) f59 f60 f64)) sz) t ∧ (z21 ≤ 900) ∧ (z22 ≤ 4) ∧ (mu z21 z22 ≤ mu x21 x22) ∧ (x22 = 0 ∨ mu z21 z22 < mu x21 x22) ∧ ((z20, z21, z22, z23) = (sp_EM_next x19 x21 f17))) (va_A ((mo_w ad ck x0 (nI x16) (nI x18) (nI x19) x20 (nI x21) (nI x22) x23 x24 x25 (nI x26) x27 (nI x28) (nI x29) (nI x30) (nI x33) x45 (nI x46) (nI x52) (nI x53) (nI x61) (nI x62) (nI x63) (nI x65) x66 f1 f2 f3 (bN 3 q4) (bN 7 q5) (bN 7 q6) (bN 4 q7) f8 (bN 2 q9) (bH q10) f11 (b2 m12_0 m12_1) (b2 m13_0 m13_1) (b2 m14_0 m14_1) (b2m m15_0 m15_1) f17 (bA 159 q31) f32 f34 f35 f36 f37 (bN 7 q38) f39 f40 f41 (b2 m42_0 m42_1) f43 f44 f47 f48 f49 f50 f51 (bN 13 q54) (bN 120 q55) (bN 120 q56) f57 (bN 120 q58) f59 f60 f64)) sz)) 0 0 (va_A ((mo_w ad ck x0 (nI x16) (nI x18) (nI x19) x20 (nI x21) (nI x22) x23 x24 x25 (nI x26) x27 (nI x28) (nI x29) (nI x30) (nI x33) x45 (nI x46) (nI x52) (nI x53) (nI x61) (nI x62) (nI x63) (nI x65) x66 f1 f2 f3 (bN 3 q4) (bN 7 q5) (bN 7 q6) (bN 4 q7) f8 (bN 2 q9) (bH q10) f11 (b2 m12_0 m12_1) (b2 m13_0 m13_1) (b2 m14_0 m14_1) (b2m m15_0 m15_1) f17 (bA 159 q31) f32 f34 f35 f36 f37 (bN 7 q38) f39 f40 f41 (b2 m42_0 m42_1) f43 f44 f47 f48 f49 f50 f51 (bN 13 q54) (bN 120 q55) (bN 120 q56) f57 (bN 120 q58) f59 f60 f64)) sz) := by
  refine Met.ofW (cc := cX9_next) (maxL := 2) (ret := none) (by decide) rfl ?_
  intro p e s m args below meth c s₁ B hml hv
  obtain ⟨rfl, rfl, hP, hK, hD0⟩ := hv
  have hx := B.exec
  have hb := B.bytes
  have hr := B.returns
  have hts := atoms_spec (ws := vs_EM_next) B.pre
  have v_1 := hts (.fieldLink RX9 159 "ClockReachModel" "behind" "I") (List.mem_cons_of_mem _ vm_62)
  have v_7 := hts (.fieldLink RX9 166 "ClockReachModel" "at" "I") (List.mem_cons_of_mem _ vm_14)
  have v_8 := hts (.fieldLink RX9 169 "ClockReachModel" "value" "I") (List.mem_cons_of_mem _ vm_13)
  have v_9 := hts (.fieldLink RX9 172 "ClockReachModel" "token" "I") (List.mem_cons_of_mem _ vm_12)
  have hown : s.vm.findClass RX9 = some m.cls := findClass_of_methodNamed B.named
  have hlocks := B.notSynchronized
  have hiX9 : ∀ w ∈ wsX90, w ∈ vs_EM_next := fun _ h => List.mem_cons_of_mem _ (vmi_L h)
  have hD := hD0.self (sz := s.heap.size)
  generalize hAe : va_A ((mo_w ad ck x0 (nI x16) (nI x18) (nI x19) x20 (nI x21) (nI x22) x23 x24 x25 (nI x26) x27 (nI x28) (nI x29) (nI x30) (nI x33) x45 (nI x46) (nI x52) (nI x53) (nI x61) (nI x62) (nI x63) (nI x65) x66 f1 f2 f3 (bN 3 q4) (bN 7 q5) (bN 7 q6) (bN 4 q7) f8 (bN 2 q9) (bH q10) f11 (b2 m12_0 m12_1) (b2 m13_0 m13_1) (b2 m14_0 m14_1) (b2m m15_0 m15_1) f17 (bA 159 q31) f32 f34 f35 f36 f37 (bN 7 q38) f39 f40 f41 (b2 m42_0 m42_1) f43 f44 f47 f48 f49 f50 f51 (bN 13 q54) (bN 120 q55) (bN 120 q56) f57 (bN 120 q58) f59 f60 f64)) s.heap.size = A at hD ⊢
  have hA : ∀ q : Nat, s.heap.size ≤ q → A q := fun q h => by rw [← hAe]; exact Or.inr h
  have hS : va_S A s.heap s.heap [] := va_S.rf
  have hl := lv_entry ([.ref (ad 0)]) (n := 2) (Nat.le_of_ble_eq_true rfl)
  rw [lg_entry_eq]
  generalize (lg_sl ([.ref (ad 0)]) ++ List.replicate (2 - (lg_sl ([.ref (ad 0)])).length) Slot.unset).toArray = ls at hl ⊢
  have hl : lv_has ls 2 [(0, .ref (ad 0))] := hl
  obtain ⟨RR, hRR⟩ : ∃ x, x = (sp_EM_next x19 x21 f17) := ⟨_, rfl⟩
  have hsp := hRR
  obtain ⟨JR_4, hJR_4, hsp⟩ := slet_ex hsp
  refine pu_join (fun H locs ls st => ∃ (g_1 : Nat), st = [] ∧ g_1 ≤ 900 ∧ x21 ≤ g_1 ∧ g_1 = JR_4 ∧ va_P (dC, dI) vwCl (mo_w ad ck x0 (nI x16) (nI x18) (nI x19) x20 (nI g_1) (nI x22) x23 x24 x25 (nI x26) x27 (nI x28) (nI x29) (nI x30) (nI x33) x45 (nI x46) (nI x52) (nI x53) (nI x61) (nI x62) (nI x63) (nI x65) x66 f1 f2 f3 (bN 3 q4) (bN 7 q5) (bN 7 q6) (bN 4 q7) f8 (bN 2 q9) (bH q10) f11 (b2 m12_0 m12_1) (b2 m13_0 m13_1) (b2 m14_0 m14_1) (b2m m15_0 m15_1) f17 (bA 159 q31) f32 f34 f35 f36 f37 (bN 7 q38) f39 f40 f41 (b2 m42_0 m42_1) f43 f44 f47 f48 f49 f50 f51 (bN 13 q54) (bN 120 q55) (bN 120 q56) f57 (bN 120 q58) f59 f60 f64) H ∧ va_D A (mo_w ad ck x0 (nI x16) (nI x18) (nI x19) x20 (nI g_1) (nI x22) x23 x24 x25 (nI x26) x27 (nI x28) (nI x29) (nI x30) (nI x33) x45 (nI x46) (nI x52) (nI x53) (nI x61) (nI x62) (nI x63) (nI x65) x66 f1 f2 f3 (bN 3 q4) (bN 7 q5) (bN 7 q6) (bN 4 q7) f8 (bN 2 q9) (bH q10) f11 (b2 m12_0 m12_1) (b2 m13_0 m13_1) (b2 m14_0 m14_1) (b2m m15_0 m15_1) f17 (bA 159 q31) f32 f34 f35 f36 f37 (bN 7 q38) f39 f40 f41 (b2 m42_0 m42_1) f43 f44 f47 f48 f49 f50 f51 (bN 13 q54) (bN 120 q55) (bN 120 q56) f57 (bN 120 q58) f59 f60 f64) ∧ va_S A s.heap H locs ∧ lv_has ls 2 [(0, .ref (ad 0))]) 39 ?_ (fun j_3 => ?_)
  · rintro H locs ls st ⟨g_1, rfl, hg_1, he_2, he_5, hP, hD, hS, hl⟩
    rw [← he_5] at hsp
    refine lv_aload_n hx hb dX9_next_39 rfl (lv_at hl 0 rfl) ?_
    refine lv_aload_n hx hb dX9_next_40 rfl (lv_at hl 0 rfl) ?_
    refine va_get (D := (dC, dI)) (ci := 9) (v := .int (nI g_1)) (C := RX9) (T := TX9) (N := 67) hx hb hts hiX9 hown hK hP 0 rfl rfl 21 (by decide) v_1 (fun _ h9 => h9) rfl dX9_next_41 ?_
    refine va_put (D := (dC, dI)) (ci := 9) (v := .int (nI g_1)) (ty := .int) (C := RX9) (T := TX9) (N := 67) hx hb hts hiX9 tyX9 tyX9_ok nmX9 hown hK hP hD hS 0 rfl rfl 20 (by decide) v_7 (fun _ h9 => h9) rfl (by decide +kernel) rfl rfl (Nat.le_of_ble_eq_true rfl) dX9_next_44 (fun H locs hP hD hS => ?_)
    have hP : va_P (dC, dI) vwCl (mo_w ad ck x0 (nI x16) (nI x18) (nI x19) (nI g_1) (nI g_1) (nI x22) x23 x24 x25 (nI x26) x27 (nI x28) (nI x29) (nI x30) (nI x33) x45 (nI x46) (nI x52) (nI x53) (nI x61) (nI x62) (nI x63) (nI x65) x66 f1 f2 f3 (bN 3 q4) (bN 7 q5) (bN 7 q6) (bN 4 q7) f8 (bN 2 q9) (bH q10) f11 (b2 m12_0 m12_1) (b2 m13_0 m13_1) (b2 m14_0 m14_1) (b2m m15_0 m15_1) f17 (bA 159 q31) f32 f34 f35 f36 f37 (bN 7 q38) f39 f40 f41 (b2 m42_0 m42_1) f43 f44 f47 f48 f49 f50 f51 (bN 13 q54) (bN 120 q55) (bN 120 q56) f57 (bN 120 q58) f59 f60 f64) H := hP
    have hD : va_D A (mo_w ad ck x0 (nI x16) (nI x18) (nI x19) (nI g_1) (nI g_1) (nI x22) x23 x24 x25 (nI x26) x27 (nI x28) (nI x29) (nI x30) (nI x33) x45 (nI x46) (nI x52) (nI x53) (nI x61) (nI x62) (nI x63) (nI x65) x66 f1 f2 f3 (bN 3 q4) (bN 7 q5) (bN 7 q6) (bN 4 q7) f8 (bN 2 q9) (bH q10) f11 (b2 m12_0 m12_1) (b2 m13_0 m13_1) (b2 m14_0 m14_1) (b2m m15_0 m15_1) f17 (bA 159 q31) f32 f34 f35 f36 f37 (bN 7 q38) f39 f40 f41 (b2 m42_0 m42_1) f43 f44 f47 f48 f49 f50 f51 (bN 13 q54) (bN 120 q55) (bN 120 q56) f57 (bN 120 q58) f59 f60 f64) := hD
    refine lv_aload_n hx hb dX9_next_47 rfl (lv_at hl 0 rfl) ?_
    refine lv_aload_n hx hb dX9_next_48 rfl (lv_at hl 0 rfl) ?_
    refine va_get (D := (dC, dI)) (ci := 9) (v := .int (nI g_1)) (C := RX9) (T := TX9) (N := 67) hx hb hts hiX9 hown hK hP 0 rfl rfl 20 (by decide) v_7 (fun _ h9 => h9) rfl dX9_next_49 ?_
    refine va_calli (va_runV (As := [.int (nI g_1)]) (rest := []) ⟨hx, hb, hml, hown, hts⟩ (c_EM_byteAt l dC dI _ ad ck x0 x16 x18 x19 (nI g_1) g_1 x22 x23 x24 x25 x26 x27 x28 x29 x30 x33 x45 x46 x52 x53 x61 x62 x63 x65 x66 f1 f2 f3 q4 q5 q6 q7 f8 q9 q10 f11 m12_0 m12_1 m13_0 m13_1 m14_0 m14_1 m15_0 m15_1 f17 q31 f32 f34 f35 f36 f37 q38 f39 f40 f41 m42_0 m42_1 f43 f44 f47 f48 f49 f50 f51 q54 q55 q56 f57 q58 f59 f60 f64 g_1 hx16 hx18 hx19 hg_1 hx22 hx26 hx28 hx29 hx30 hx33 hx46 hx52 hx53 hx61 hx62 hx63 hx65 hm12_0 hm12_1 hm13_0 hm13_1 hm14_0 hm14_1 hm15_0 hm15_1 hm42_0 hm42_1 hg_1) (cwV 1 hts g_EM_next_EM_byteAt rfl rfl rfl (by decide +kernel) ⟨Nat.le_of_ble_eq_true rfl, Nat.le_of_ble_eq_true rfl⟩) ⟨pu_bl, va_recv hK hP (ci := 9) (q0 := 0) rfl rfl, pu_in hP hK hD⟩ rfl rfl hl.1 rfl (lv_room (Nat.le_of_ble_eq_true rfl)) dX9_next_52 ⟨Nat.le_of_ble_eq_true rfl, Nat.le_of_ble_eq_true rfl⟩) hS (fun q _ h => pu_fr hS hA q h) (pu_fr hS hA) (fun r_6 u t H1 locs ht hvm hw hB hz1 hk1 hS => ?_)
    have hP := pu_keep hP hk1
    clear hk1 hz1 ht hvm
    generalize H1 = H at hP hS ⊢
    rcases hw with ⟨rfl, hw⟩ | ⟨hw, hvr_6⟩
    · have hsp := hsp.trans (if_neg (Nat.not_lt.mpr hw))
      refine lv_istore_n (lv' := [(1, .int (-1)), (0, .ref (ad 0))]) hx hb dX9_next_55 rfl hl (by decide) rfl (fun ls hl => ?_)
      refine lv_aload_n hx hb dX9_next_56 rfl (lv_at hl 1 rfl) ?_
      refine lv_iconst (v := 0) hx hb dX9_next_57 (by decide) ?_
      refine va_put (D := (dC, dI)) (ci := 9) (v := .int 0) (ty := .int) (C := RX9) (T := TX9) (N := 67) hx hb hts hiX9 tyX9 tyX9_ok nmX9 hown hK hP hD hS 0 rfl rfl 23 (by decide) v_8 (fun _ h9 => h9) rfl (by decide +kernel) rfl rfl (Nat.le_of_ble_eq_true rfl) dX9_next_58 (fun H locs hP hD hS => ?_)
      have hP : va_P (dC, dI) vwCl (mo_w ad ck x0 (nI x16) (nI x18) (nI x19) (nI g_1) (nI g_1) (nI x22) 0 x24 x25 (nI x26) x27 (nI x28) (nI x29) (nI x30) (nI x33) x45 (nI x46) (nI x52) (nI x53) (nI x61) (nI x62) (nI x63) (nI x65) x66 f1 f2 f3 (bN 3 q4) (bN 7 q5) (bN 7 q6) (bN 4 q7) f8 (bN 2 q9) (bH q10) f11 (b2 m12_0 m12_1) (b2 m13_0 m13_1) (b2 m14_0 m14_1) (b2m m15_0 m15_1) f17 (bA 159 q31) f32 f34 f35 f36 f37 (bN 7 q38) f39 f40 f41 (b2 m42_0 m42_1) f43 f44 f47 f48 f49 f50 f51 (bN 13 q54) (bN 120 q55) (bN 120 q56) f57 (bN 120 q58) f59 f60 f64) H := hP
      have hD : va_D A (mo_w ad ck x0 (nI x16) (nI x18) (nI x19) (nI g_1) (nI g_1) (nI x22) 0 x24 x25 (nI x26) x27 (nI x28) (nI x29) (nI x30) (nI x33) x45 (nI x46) (nI x52) (nI x53) (nI x61) (nI x62) (nI x63) (nI x65) x66 f1 f2 f3 (bN 3 q4) (bN 7 q5) (bN 7 q6) (bN 4 q7) f8 (bN 2 q9) (bH q10) f11 (b2 m12_0 m12_1) (b2 m13_0 m13_1) (b2 m14_0 m14_1) (b2m m15_0 m15_1) f17 (bA 159 q31) f32 f34 f35 f36 f37 (bN 7 q38) f39 f40 f41 (b2 m42_0 m42_1) f43 f44 f47 f48 f49 f50 f51 (bN 13 q54) (bN 120 q55) (bN 120 q56) f57 (bN 120 q58) f59 f60 f64) := hD
      refine lv_iload_n hx hb dX9_next_61 rfl (lv_at hl 0 rfl) ?_
      refine lv_iconst (v := (-1)) hx hb dX9_next_62 (by decide) ?_
      refine lv_icmp_ne (tgt := 74) hx hb dX9_next_63 (by decide) (fun z => absurd z (by decide)) (fun _ => ?_)
      refine lv_aload_n hx hb dX9_next_66 rfl (lv_at hl 1 rfl) ?_
      refine lv_iconst (v := 0) hx hb dX9_next_67 (by decide) ?_
      refine va_put (D := (dC, dI)) (ci := 9) (v := .int 0) (ty := .int) (C := RX9) (T := TX9) (N := 67) hx hb hts hiX9 tyX9 tyX9_ok nmX9 hown hK hP hD hS 0 rfl rfl 22 (by decide) v_9 (fun _ h9 => h9) rfl (by decide +kernel) rfl rfl (Nat.le_of_ble_eq_true rfl) dX9_next_68 (fun H locs hP hD hS => ?_)
      have hP : va_P (dC, dI) vwCl (mo_w ad ck x0 (nI x16) (nI x18) (nI x19) (nI g_1) (nI g_1) 0 0 x24 x25 (nI x26) x27 (nI x28) (nI x29) (nI x30) (nI x33) x45 (nI x46) (nI x52) (nI x53) (nI x61) (nI x62) (nI x63) (nI x65) x66 f1 f2 f3 (bN 3 q4) (bN 7 q5) (bN 7 q6) (bN 4 q7) f8 (bN 2 q9) (bH q10) f11 (b2 m12_0 m12_1) (b2 m13_0 m13_1) (b2 m14_0 m14_1) (b2m m15_0 m15_1) f17 (bA 159 q31) f32 f34 f35 f36 f37 (bN 7 q38) f39 f40 f41 (b2 m42_0 m42_1) f43 f44 f47 f48 f49 f50 f51 (bN 13 q54) (bN 120 q55) (bN 120 q56) f57 (bN 120 q58) f59 f60 f64) H := hP
      have hD : va_D A (mo_w ad ck x0 (nI x16) (nI x18) (nI x19) (nI g_1) (nI g_1) 0 0 x24 x25 (nI x26) x27 (nI x28) (nI x29) (nI x30) (nI x33) x45 (nI x46) (nI x52) (nI x53) (nI x61) (nI x62) (nI x63) (nI x65) x66 f1 f2 f3 (bN 3 q4) (bN 7 q5) (bN 7 q6) (bN 4 q7) f8 (bN 2 q9) (bH q10) f11 (b2 m12_0 m12_1) (b2 m13_0 m13_1) (b2 m14_0 m14_1) (b2m m15_0 m15_1) f17 (bA 159 q31) f32 f34 f35 f36 f37 (bN 7 q38) f39 f40 f41 (b2 m42_0 m42_1) f43 f44 f47 f48 f49 f50 f51 (bN 13 q54) (bN 120 q55) (bN 120 q56) f57 (bN 120 q58) f59 f60 f64) := hD
      refine lv_goto (tgt := 325) hx hb dX9_next_71 (by decide) ?_
      exact W.vret hx hb hr (fun t ht hW => ⟨⟨(), rfl, trivial, ⟨(nI g_1), g_1, 0, 0, ⟨by rw [ht]; exact hP, va_K.moved hW.alike hK, hD⟩, hg_1, (Nat.le_of_ble_eq_true rfl), by first | exact mu_le (by omega) | exact Nat.le_of_lt (mu_lt (by omega) (by omega)), by first | exact Or.inr (mu_lt (by omega) (by omega)) | (by_cases hz : x22 = 0; exact Or.inl hz; exact Or.inr (mu_e (by omega) hz)), (hsp.symm.trans hRR)⟩⟩, hS.F ht⟩) hS.2.2 dX9_next_325
    · have hcl : cl r_6 = cl (f17 g_1) := congrArg cl hvr_6
      have hsp := hsp.trans (if_pos hw)
      have hsp := hsp.trans (slet_eq hvr_6)
      refine lv_istore_n (lv' := [(1, .int r_6), (0, .ref (ad 0))]) hx hb dX9_next_55 rfl hl (by decide) rfl (fun ls hl => ?_)
      refine lv_aload_n hx hb dX9_next_56 rfl (lv_at hl 1 rfl) ?_
      refine lv_iconst (v := 0) hx hb dX9_next_57 (by decide) ?_
      refine va_put (D := (dC, dI)) (ci := 9) (v := .int 0) (ty := .int) (C := RX9) (T := TX9) (N := 67) hx hb hts hiX9 tyX9 tyX9_ok nmX9 hown hK hP hD hS 0 rfl rfl 23 (by decide) v_8 (fun _ h9 => h9) rfl (by decide +kernel) rfl rfl (Nat.le_of_ble_eq_true rfl) dX9_next_58 (fun H locs hP hD hS => ?_)
      have hP : va_P (dC, dI) vwCl (mo_w ad ck x0 (nI x16) (nI x18) (nI x19) (nI g_1) (nI g_1) (nI x22) 0 x24 x25 (nI x26) x27 (nI x28) (nI x29) (nI x30) (nI x33) x45 (nI x46) (nI x52) (nI x53) (nI x61) (nI x62) (nI x63) (nI x65) x66 f1 f2 f3 (bN 3 q4) (bN 7 q5) (bN 7 q6) (bN 4 q7) f8 (bN 2 q9) (bH q10) f11 (b2 m12_0 m12_1) (b2 m13_0 m13_1) (b2 m14_0 m14_1) (b2m m15_0 m15_1) f17 (bA 159 q31) f32 f34 f35 f36 f37 (bN 7 q38) f39 f40 f41 (b2 m42_0 m42_1) f43 f44 f47 f48 f49 f50 f51 (bN 13 q54) (bN 120 q55) (bN 120 q56) f57 (bN 120 q58) f59 f60 f64) H := hP
      have hD : va_D A (mo_w ad ck x0 (nI x16) (nI x18) (nI x19) (nI g_1) (nI g_1) (nI x22) 0 x24 x25 (nI x26) x27 (nI x28) (nI x29) (nI x30) (nI x33) x45 (nI x46) (nI x52) (nI x53) (nI x61) (nI x62) (nI x63) (nI x65) x66 f1 f2 f3 (bN 3 q4) (bN 7 q5) (bN 7 q6) (bN 4 q7) f8 (bN 2 q9) (bH q10) f11 (b2 m12_0 m12_1) (b2 m13_0 m13_1) (b2 m14_0 m14_1) (b2m m15_0 m15_1) f17 (bA 159 q31) f32 f34 f35 f36 f37 (bN 7 q38) f39 f40 f41 (b2 m42_0 m42_1) f43 f44 f47 f48 f49 f50 f51 (bN 13 q54) (bN 120 q55) (bN 120 q56) f57 (bN 120 q58) f59 f60 f64) := hD
      refine lv_iload_n hx hb dX9_next_61 rfl (lv_at hl 0 rfl) ?_
      refine lv_iconst (v := (-1)) hx hb dX9_next_62 (by decide) ?_
      refine lv_icmp_ne (tgt := 74) hx hb dX9_next_63 (by decide) (fun c_7 => ?_) (fun c_7 => ?_)
      · have hcc_7 := c_7
        have hsp := hsp.trans (if_neg c_7)
        refine lv_iload_n hx hb dX9_next_74 rfl (lv_at hl 0 rfl) ?_
        refine va_calli (va_runS (As := [.int r_6]) (rest := []) ⟨hx, hb, hml, hown, hts⟩ (c_EM_isSmall l dC dI _ ad ck x0 x16 x18 x19 (nI g_1) g_1 x22 0 x24 x25 x26 x27 x28 x29 x30 x33 x45 x46 x52 x53 x61 x62 x63 x65 x66 f1 f2 f3 q4 q5 q6 q7 f8 q9 q10 f11 m12_0 m12_1 m13_0 m13_1 m14_0 m14_1 m15_0 m15_1 f17 q31 f32 f34 f35 f36 f37 q38 f39 f40 f41 m42_0 m42_1 f43 f44 f47 f48 f49 f50 f51 q54 q55 q56 f57 q58 f59 f60 f64 r_6 hx16 hx18 hx19 hg_1 hx22 hx26 hx28 hx29 hx30 hx33 hx46 hx52 hx53 hx61 hx62 hx63 hx65 hm12_0 hm12_1 hm13_0 hm13_1 hm14_0 hm14_1 hm15_0 hm15_1 hm42_0 hm42_1) (va_cwS 1 hts g_EM_next_EM_isSmall rfl rfl rfl (by decide +kernel) ⟨Nat.le_of_ble_eq_true rfl, Nat.le_of_ble_eq_true rfl⟩) ⟨pu_bl, pu_in hP hK hD⟩ rfl rfl hl.1 rfl (lv_room (Nat.le_of_ble_eq_true rfl)) dX9_next_75 ⟨Nat.le_of_ble_eq_true rfl, Nat.le_of_ble_eq_true rfl⟩) hS (fun q _ h => pu_fr hS hA q h) (pu_fr hS hA) (fun r_8 u t H1 locs ht hvm hw hB hz1 hk1 hS => ?_)
        have hP := pu_keep hP hk1
        clear hk1 hz1 ht hvm
        generalize H1 = H at hP hS ⊢
        obtain ⟨u_9, hu_9, rfl, ju_9, iu_9⟩ := hw
        have hsp := hsp.trans (slet_eq iu_9)
        refine lv_if_eq (tgt := 175) hx hb dX9_next_78 (by decide) (fun c_10 => ?_) (fun c_10 => ?_)
        · have c_10 : u_9 = 0 := (nI_eq (a := u_9) (b := 0) (Nat.lt_of_le_of_lt hu_9 (Nat.le_of_ble_eq_true rfl)) (Nat.le_of_ble_eq_true rfl)).mp c_10
          have hsp := hsp.trans (if_pos c_10)
          refine lv_iload_n hx hb dX9_next_175 rfl (lv_at hl 0 rfl) ?_
          refine va_calli (va_runS (As := [.int r_6]) (rest := []) ⟨hx, hb, hml, hown, hts⟩ (c_EM_isDigit l dC dI _ ad ck x0 x16 x18 x19 (nI g_1) g_1 x22 0 x24 x25 x26 x27 x28 x29 x30 x33 x45 x46 x52 x53 x61 x62 x63 x65 x66 f1 f2 f3 q4 q5 q6 q7 f8 q9 q10 f11 m12_0 m12_1 m13_0 m13_1 m14_0 m14_1 m15_0 m15_1 f17 q31 f32 f34 f35 f36 f37 q38 f39 f40 f41 m42_0 m42_1 f43 f44 f47 f48 f49 f50 f51 q54 q55 q56 f57 q58 f59 f60 f64 r_6 hx16 hx18 hx19 hg_1 hx22 hx26 hx28 hx29 hx30 hx33 hx46 hx52 hx53 hx61 hx62 hx63 hx65 hm12_0 hm12_1 hm13_0 hm13_1 hm14_0 hm14_1 hm15_0 hm15_1 hm42_0 hm42_1) (va_cwS 1 hts g_EM_next_EM_isDigit rfl rfl rfl (by decide +kernel) ⟨Nat.le_of_ble_eq_true rfl, Nat.le_of_ble_eq_true rfl⟩) ⟨pu_bl, pu_in hP hK hD⟩ rfl rfl hl.1 rfl (lv_room (Nat.le_of_ble_eq_true rfl)) dX9_next_176 ⟨Nat.le_of_ble_eq_true rfl, Nat.le_of_ble_eq_true rfl⟩) hS (fun q _ h => pu_fr hS hA q h) (pu_fr hS hA) (fun r_11 u t H1 locs ht hvm hw hB hz1 hk1 hS => ?_)
          have hP := pu_keep hP hk1
          clear hk1 hz1 ht hvm
          generalize H1 = H at hP hS ⊢
          obtain ⟨u_12, hu_12, rfl, ju_12, iu_12⟩ := hw
          have hsp := hsp.trans (slet_eq iu_12)
          refine lv_if_eq (tgt := 277) hx hb dX9_next_179 (by decide) (fun c_13 => ?_) (fun c_13 => ?_)
          · have c_13 : u_12 = 0 := (nI_eq (a := u_12) (b := 0) (Nat.lt_of_le_of_lt hu_12 (Nat.le_of_ble_eq_true rfl)) (Nat.le_of_ble_eq_true rfl)).mp c_13
            have hsp := hsp.trans (if_pos c_13)
            refine lv_aload_n hx hb dX9_next_277 rfl (lv_at hl 1 rfl) ?_
            refine lv_dup hx hb dX9_next_278 rfl ?_
            refine va_get (D := (dC, dI)) (ci := 9) (v := .int (nI g_1)) (C := RX9) (T := TX9) (N := 67) hx hb hts hiX9 hown hK hP 0 rfl rfl 21 (by decide) v_1 (fun _ h9 => h9) rfl dX9_next_279 ?_
            refine lv_iconst (v := 1) hx hb dX9_next_282 (by decide) ?_
            refine lv_iadd hx hb dX9_next_283 ?_
            refine lv_topi (fun y_14 ey_14 => ?_)
            obtain rfl : y_14 = (nI (g_1 + 1)) := ey_14.trans (nI_add g_1 1)
            refine va_put (D := (dC, dI)) (ci := 9) (v := .int (nI (g_1 + 1))) (ty := .int) (C := RX9) (T := TX9) (N := 67) hx hb hts hiX9 tyX9 tyX9_ok nmX9 hown hK hP hD hS 0 rfl rfl 21 (by decide) v_1 (fun _ h9 => h9) rfl (by decide +kernel) rfl rfl (Nat.le_of_ble_eq_true rfl) dX9_next_284 (fun H locs hP hD hS => ?_)
            have hP : va_P (dC, dI) vwCl (mo_w ad ck x0 (nI x16) (nI x18) (nI x19) (nI g_1) (nI (g_1 + 1)) (nI x22) 0 x24 x25 (nI x26) x27 (nI x28) (nI x29) (nI x30) (nI x33) x45 (nI x46) (nI x52) (nI x53) (nI x61) (nI x62) (nI x63) (nI x65) x66 f1 f2 f3 (bN 3 q4) (bN 7 q5) (bN 7 q6) (bN 4 q7) f8 (bN 2 q9) (bH q10) f11 (b2 m12_0 m12_1) (b2 m13_0 m13_1) (b2 m14_0 m14_1) (b2m m15_0 m15_1) f17 (bA 159 q31) f32 f34 f35 f36 f37 (bN 7 q38) f39 f40 f41 (b2 m42_0 m42_1) f43 f44 f47 f48 f49 f50 f51 (bN 13 q54) (bN 120 q55) (bN 120 q56) f57 (bN 120 q58) f59 f60 f64) H := hP
            have hD : va_D A (mo_w ad ck x0 (nI x16) (nI x18) (nI x19) (nI g_1) (nI (g_1 + 1)) (nI x22) 0 x24 x25 (nI x26) x27 (nI x28) (nI x29) (nI x30) (nI x33) x45 (nI x46) (nI x52) (nI x53) (nI x61) (nI x62) (nI x63) (nI x65) x66 f1 f2 f3 (bN 3 q4) (bN 7 q5) (bN 7 q6) (bN 4 q7) f8 (bN 2 q9) (bH q10) f11 (b2 m12_0 m12_1) (b2 m13_0 m13_1) (b2 m14_0 m14_1) (b2m m15_0 m15_1) f17 (bA 159 q31) f32 f34 f35 f36 f37 (bN 7 q38) f39 f40 f41 (b2 m42_0 m42_1) f43 f44 f47 f48 f49 f50 f51 (bN 13 q54) (bN 120 q55) (bN 120 q56) f57 (bN 120 q58) f59 f60 f64) := hD
            refine lv_aload_n hx hb dX9_next_287 rfl (lv_at hl 1 rfl) ?_
            refine lv_iload_n hx hb dX9_next_288 rfl (lv_at hl 0 rfl) ?_
            refine va_put (D := (dC, dI)) (ci := 9) (v := .int r_6) (ty := .int) (C := RX9) (T := TX9) (N := 67) hx hb hts hiX9 tyX9 tyX9_ok nmX9 hown hK hP hD hS 0 rfl rfl 23 (by decide) v_8 (fun _ h9 => h9) rfl (by decide +kernel) rfl rfl (Nat.le_of_ble_eq_true rfl) dX9_next_289 (fun H locs hP hD hS => ?_)
            have hP : va_P (dC, dI) vwCl (mo_w ad ck x0 (nI x16) (nI x18) (nI x19) (nI g_1) (nI (g_1 + 1)) (nI x22) r_6 x24 x25 (nI x26) x27 (nI x28) (nI x29) (nI x30) (nI x33) x45 (nI x46) (nI x52) (nI x53) (nI x61) (nI x62) (nI x63) (nI x65) x66 f1 f2 f3 (bN 3 q4) (bN 7 q5) (bN 7 q6) (bN 4 q7) f8 (bN 2 q9) (bH q10) f11 (b2 m12_0 m12_1) (b2 m13_0 m13_1) (b2 m14_0 m14_1) (b2m m15_0 m15_1) f17 (bA 159 q31) f32 f34 f35 f36 f37 (bN 7 q38) f39 f40 f41 (b2 m42_0 m42_1) f43 f44 f47 f48 f49 f50 f51 (bN 13 q54) (bN 120 q55) (bN 120 q56) f57 (bN 120 q58) f59 f60 f64) H := hP
            have hD : va_D A (mo_w ad ck x0 (nI x16) (nI x18) (nI x19) (nI g_1) (nI (g_1 + 1)) (nI x22) r_6 x24 x25 (nI x26) x27 (nI x28) (nI x29) (nI x30) (nI x33) x45 (nI x46) (nI x52) (nI x53) (nI x61) (nI x62) (nI x63) (nI x65) x66 f1 f2 f3 (bN 3 q4) (bN 7 q5) (bN 7 q6) (bN 4 q7) f8 (bN 2 q9) (bH q10) f11 (b2 m12_0 m12_1) (b2 m13_0 m13_1) (b2 m14_0 m14_1) (b2m m15_0 m15_1) f17 (bA 159 q31) f32 f34 f35 f36 f37 (bN 7 q38) f39 f40 f41 (b2 m42_0 m42_1) f43 f44 f47 f48 f49 f50 f51 (bN 13 q54) (bN 120 q55) (bN 120 q56) f57 (bN 120 q58) f59 f60 f64) := hD
            refine lv_aload_n hx hb dX9_next_292 rfl (lv_at hl 1 rfl) ?_
            refine lv_iload_n hx hb dX9_next_293 rfl (lv_at hl 0 rfl) ?_
            refine lv_bipush (v := 60) hx hb dX9_next_294 (by decide) ?_
            refine lv_icmp_eq (tgt := 317) hx hb dX9_next_296 (by decide) (fun c_15 => ?_) (fun c_15 => ?_)
            · have hcc_15 := c_15
              have hsp := hsp.trans (if_pos c_15)
              refine lv_iconst (v := 3) hx hb dX9_next_317 (by decide) ?_
              refine lv_goto (tgt := 322) hx hb dX9_next_318 (by decide) ?_
              refine va_put (D := (dC, dI)) (ci := 9) (v := .int 3) (ty := .int) (C := RX9) (T := TX9) (N := 67) hx hb hts hiX9 tyX9 tyX9_ok nmX9 hown hK hP hD hS 0 rfl rfl 22 (by decide) v_9 (fun _ h9 => h9) rfl (by decide +kernel) rfl rfl (Nat.le_of_ble_eq_true rfl) dX9_next_322 (fun H locs hP hD hS => ?_)
              have hP : va_P (dC, dI) vwCl (mo_w ad ck x0 (nI x16) (nI x18) (nI x19) (nI g_1) (nI (g_1 + 1)) 3 r_6 x24 x25 (nI x26) x27 (nI x28) (nI x29) (nI x30) (nI x33) x45 (nI x46) (nI x52) (nI x53) (nI x61) (nI x62) (nI x63) (nI x65) x66 f1 f2 f3 (bN 3 q4) (bN 7 q5) (bN 7 q6) (bN 4 q7) f8 (bN 2 q9) (bH q10) f11 (b2 m12_0 m12_1) (b2 m13_0 m13_1) (b2 m14_0 m14_1) (b2m m15_0 m15_1) f17 (bA 159 q31) f32 f34 f35 f36 f37 (bN 7 q38) f39 f40 f41 (b2 m42_0 m42_1) f43 f44 f47 f48 f49 f50 f51 (bN 13 q54) (bN 120 q55) (bN 120 q56) f57 (bN 120 q58) f59 f60 f64) H := hP
              have hD : va_D A (mo_w ad ck x0 (nI x16) (nI x18) (nI x19) (nI g_1) (nI (g_1 + 1)) 3 r_6 x24 x25 (nI x26) x27 (nI x28) (nI x29) (nI x30) (nI x33) x45 (nI x46) (nI x52) (nI x53) (nI x61) (nI x62) (nI x63) (nI x65) x66 f1 f2 f3 (bN 3 q4) (bN 7 q5) (bN 7 q6) (bN 4 q7) f8 (bN 2 q9) (bH q10) f11 (b2 m12_0 m12_1) (b2 m13_0 m13_1) (b2 m14_0 m14_1) (b2m m15_0 m15_1) f17 (bA 159 q31) f32 f34 f35 f36 f37 (bN 7 q38) f39 f40 f41 (b2 m42_0 m42_1) f43 f44 f47 f48 f49 f50 f51 (bN 13 q54) (bN 120 q55) (bN 120 q56) f57 (bN 120 q58) f59 f60 f64) := hD
              exact W.vret hx hb hr (fun t ht hW => ⟨⟨(), rfl, trivial, ⟨(nI g_1), (g_1 + 1), 3, r_6, ⟨by rw [ht]; exact hP, va_K.moved hW.alike hK, hD⟩, (by omega), (Nat.le_of_ble_eq_true rfl), by first | exact mu_le (by omega) | exact Nat.le_of_lt (mu_lt (by omega) (by omega)), by first | exact Or.inr (mu_lt (by omega) (by omega)) | (by_cases hz : x22 = 0; exact Or.inl hz; exact Or.inr (mu_e (by omega) hz)), (hsp.symm.trans hRR)⟩⟩, hS.F ht⟩) hS.2.2 dX9_next_325
            · have hcc_15 := c_15
              have hsp := hsp.trans (if_neg c_15)
              refine lv_iload_n hx hb dX9_next_299 rfl (lv_at hl 0 rfl) ?_
              refine lv_bipush (v := 61) hx hb dX9_next_300 (by decide) ?_
              refine lv_icmp_eq (tgt := 317) hx hb dX9_next_302 (by decide) (fun c_16 => ?_) (fun c_16 => ?_)
              · have hcc_16 := c_16
                have hsp := hsp.trans (if_pos c_16)
                refine lv_iconst (v := 3) hx hb dX9_next_317 (by decide) ?_
                refine lv_goto (tgt := 322) hx hb dX9_next_318 (by decide) ?_
                refine va_put (D := (dC, dI)) (ci := 9) (v := .int 3) (ty := .int) (C := RX9) (T := TX9) (N := 67) hx hb hts hiX9 tyX9 tyX9_ok nmX9 hown hK hP hD hS 0 rfl rfl 22 (by decide) v_9 (fun _ h9 => h9) rfl (by decide +kernel) rfl rfl (Nat.le_of_ble_eq_true rfl) dX9_next_322 (fun H locs hP hD hS => ?_)
                have hP : va_P (dC, dI) vwCl (mo_w ad ck x0 (nI x16) (nI x18) (nI x19) (nI g_1) (nI (g_1 + 1)) 3 r_6 x24 x25 (nI x26) x27 (nI x28) (nI x29) (nI x30) (nI x33) x45 (nI x46) (nI x52) (nI x53) (nI x61) (nI x62) (nI x63) (nI x65) x66 f1 f2 f3 (bN 3 q4) (bN 7 q5) (bN 7 q6) (bN 4 q7) f8 (bN 2 q9) (bH q10) f11 (b2 m12_0 m12_1) (b2 m13_0 m13_1) (b2 m14_0 m14_1) (b2m m15_0 m15_1) f17 (bA 159 q31) f32 f34 f35 f36 f37 (bN 7 q38) f39 f40 f41 (b2 m42_0 m42_1) f43 f44 f47 f48 f49 f50 f51 (bN 13 q54) (bN 120 q55) (bN 120 q56) f57 (bN 120 q58) f59 f60 f64) H := hP
                have hD : va_D A (mo_w ad ck x0 (nI x16) (nI x18) (nI x19) (nI g_1) (nI (g_1 + 1)) 3 r_6 x24 x25 (nI x26) x27 (nI x28) (nI x29) (nI x30) (nI x33) x45 (nI x46) (nI x52) (nI x53) (nI x61) (nI x62) (nI x63) (nI x65) x66 f1 f2 f3 (bN 3 q4) (bN 7 q5) (bN 7 q6) (bN 4 q7) f8 (bN 2 q9) (bH q10) f11 (b2 m12_0 m12_1) (b2 m13_0 m13_1) (b2 m14_0 m14_1) (b2m m15_0 m15_1) f17 (bA 159 q31) f32 f34 f35 f36 f37 (bN 7 q38) f39 f40 f41 (b2 m42_0 m42_1) f43 f44 f47 f48 f49 f50 f51 (bN 13 q54) (bN 120 q55) (bN 120 q56) f57 (bN 120 q58) f59 f60 f64) := hD
                exact W.vret hx hb hr (fun t ht hW => ⟨⟨(), rfl, trivial, ⟨(nI g_1), (g_1 + 1), 3, r_6, ⟨by rw [ht]; exact hP, va_K.moved hW.alike hK, hD⟩, (by omega), (Nat.le_of_ble_eq_true rfl), by first | exact mu_le (by omega) | exact Nat.le_of_lt (mu_lt (by omega) (by omega)), by first | exact Or.inr (mu_lt (by omega) (by omega)) | (by_cases hz : x22 = 0; exact Or.inl hz; exact Or.inr (mu_e (by omega) hz)), (hsp.symm.trans hRR)⟩⟩, hS.F ht⟩) hS.2.2 dX9_next_325
              · have hcc_16 := c_16
                have hsp := hsp.trans (if_neg c_16)
                refine lv_iload_n hx hb dX9_next_305 rfl (lv_at hl 0 rfl) ?_
                refine lv_bipush (v := 62) hx hb dX9_next_306 (by decide) ?_
                refine lv_icmp_eq (tgt := 317) hx hb dX9_next_308 (by decide) (fun c_17 => ?_) (fun c_17 => ?_)
                · have hcc_17 := c_17
                  have hsp := hsp.trans (if_pos c_17)
                  refine lv_iconst (v := 3) hx hb dX9_next_317 (by decide) ?_
                  refine lv_goto (tgt := 322) hx hb dX9_next_318 (by decide) ?_
                  refine va_put (D := (dC, dI)) (ci := 9) (v := .int 3) (ty := .int) (C := RX9) (T := TX9) (N := 67) hx hb hts hiX9 tyX9 tyX9_ok nmX9 hown hK hP hD hS 0 rfl rfl 22 (by decide) v_9 (fun _ h9 => h9) rfl (by decide +kernel) rfl rfl (Nat.le_of_ble_eq_true rfl) dX9_next_322 (fun H locs hP hD hS => ?_)
                  have hP : va_P (dC, dI) vwCl (mo_w ad ck x0 (nI x16) (nI x18) (nI x19) (nI g_1) (nI (g_1 + 1)) 3 r_6 x24 x25 (nI x26) x27 (nI x28) (nI x29) (nI x30) (nI x33) x45 (nI x46) (nI x52) (nI x53) (nI x61) (nI x62) (nI x63) (nI x65) x66 f1 f2 f3 (bN 3 q4) (bN 7 q5) (bN 7 q6) (bN 4 q7) f8 (bN 2 q9) (bH q10) f11 (b2 m12_0 m12_1) (b2 m13_0 m13_1) (b2 m14_0 m14_1) (b2m m15_0 m15_1) f17 (bA 159 q31) f32 f34 f35 f36 f37 (bN 7 q38) f39 f40 f41 (b2 m42_0 m42_1) f43 f44 f47 f48 f49 f50 f51 (bN 13 q54) (bN 120 q55) (bN 120 q56) f57 (bN 120 q58) f59 f60 f64) H := hP
                  have hD : va_D A (mo_w ad ck x0 (nI x16) (nI x18) (nI x19) (nI g_1) (nI (g_1 + 1)) 3 r_6 x24 x25 (nI x26) x27 (nI x28) (nI x29) (nI x30) (nI x33) x45 (nI x46) (nI x52) (nI x53) (nI x61) (nI x62) (nI x63) (nI x65) x66 f1 f2 f3 (bN 3 q4) (bN 7 q5) (bN 7 q6) (bN 4 q7) f8 (bN 2 q9) (bH q10) f11 (b2 m12_0 m12_1) (b2 m13_0 m13_1) (b2 m14_0 m14_1) (b2m m15_0 m15_1) f17 (bA 159 q31) f32 f34 f35 f36 f37 (bN 7 q38) f39 f40 f41 (b2 m42_0 m42_1) f43 f44 f47 f48 f49 f50 f51 (bN 13 q54) (bN 120 q55) (bN 120 q56) f57 (bN 120 q58) f59 f60 f64) := hD
                  exact W.vret hx hb hr (fun t ht hW => ⟨⟨(), rfl, trivial, ⟨(nI g_1), (g_1 + 1), 3, r_6, ⟨by rw [ht]; exact hP, va_K.moved hW.alike hK, hD⟩, (by omega), (Nat.le_of_ble_eq_true rfl), by first | exact mu_le (by omega) | exact Nat.le_of_lt (mu_lt (by omega) (by omega)), by first | exact Or.inr (mu_lt (by omega) (by omega)) | (by_cases hz : x22 = 0; exact Or.inl hz; exact Or.inr (mu_e (by omega) hz)), (hsp.symm.trans hRR)⟩⟩, hS.F ht⟩) hS.2.2 dX9_next_325
                · have hcc_17 := c_17
                  have hsp := hsp.trans (if_neg c_17)
                  refine lv_iload_n hx hb dX9_next_311 rfl (lv_at hl 0 rfl) ?_
                  refine lv_bipush (v := 59) hx hb dX9_next_312 (by decide) ?_
                  refine lv_icmp_ne (tgt := 321) hx hb dX9_next_314 (by decide) (fun c_18 => ?_) (fun c_18 => ?_)
                  · have hcc_18 := c_18
                    have hsp := hsp.trans (if_neg c_18)
                    refine lv_iconst (v := 4) hx hb dX9_next_321 (by decide) ?_
                    refine va_put (D := (dC, dI)) (ci := 9) (v := .int 4) (ty := .int) (C := RX9) (T := TX9) (N := 67) hx hb hts hiX9 tyX9 tyX9_ok nmX9 hown hK hP hD hS 0 rfl rfl 22 (by decide) v_9 (fun _ h9 => h9) rfl (by decide +kernel) rfl rfl (Nat.le_of_ble_eq_true rfl) dX9_next_322 (fun H locs hP hD hS => ?_)
                    have hP : va_P (dC, dI) vwCl (mo_w ad ck x0 (nI x16) (nI x18) (nI x19) (nI g_1) (nI (g_1 + 1)) 4 r_6 x24 x25 (nI x26) x27 (nI x28) (nI x29) (nI x30) (nI x33) x45 (nI x46) (nI x52) (nI x53) (nI x61) (nI x62) (nI x63) (nI x65) x66 f1 f2 f3 (bN 3 q4) (bN 7 q5) (bN 7 q6) (bN 4 q7) f8 (bN 2 q9) (bH q10) f11 (b2 m12_0 m12_1) (b2 m13_0 m13_1) (b2 m14_0 m14_1) (b2m m15_0 m15_1) f17 (bA 159 q31) f32 f34 f35 f36 f37 (bN 7 q38) f39 f40 f41 (b2 m42_0 m42_1) f43 f44 f47 f48 f49 f50 f51 (bN 13 q54) (bN 120 q55) (bN 120 q56) f57 (bN 120 q58) f59 f60 f64) H := hP
                    have hD : va_D A (mo_w ad ck x0 (nI x16) (nI x18) (nI x19) (nI g_1) (nI (g_1 + 1)) 4 r_6 x24 x25 (nI x26) x27 (nI x28) (nI x29) (nI x30) (nI x33) x45 (nI x46) (nI x52) (nI x53) (nI x61) (nI x62) (nI x63) (nI x65) x66 f1 f2 f3 (bN 3 q4) (bN 7 q5) (bN 7 q6) (bN 4 q7) f8 (bN 2 q9) (bH q10) f11 (b2 m12_0 m12_1) (b2 m13_0 m13_1) (b2 m14_0 m14_1) (b2m m15_0 m15_1) f17 (bA 159 q31) f32 f34 f35 f36 f37 (bN 7 q38) f39 f40 f41 (b2 m42_0 m42_1) f43 f44 f47 f48 f49 f50 f51 (bN 13 q54) (bN 120 q55) (bN 120 q56) f57 (bN 120 q58) f59 f60 f64) := hD
                    exact W.vret hx hb hr (fun t ht hW => ⟨⟨(), rfl, trivial, ⟨(nI g_1), (g_1 + 1), 4, r_6, ⟨by rw [ht]; exact hP, va_K.moved hW.alike hK, hD⟩, (by omega), (Nat.le_of_ble_eq_true rfl), by first | exact mu_le (by omega) | exact Nat.le_of_lt (mu_lt (by omega) (by omega)), by first | exact Or.inr (mu_lt (by omega) (by omega)) | (by_cases hz : x22 = 0; exact Or.inl hz; exact Or.inr (mu_e (by omega) hz)), (hsp.symm.trans hRR)⟩⟩, hS.F ht⟩) hS.2.2 dX9_next_325
                  · have hcc_18 := c_18
                    have hsp := hsp.trans (if_pos c_18)
                    refine lv_iconst (v := 3) hx hb dX9_next_317 (by decide) ?_
                    refine lv_goto (tgt := 322) hx hb dX9_next_318 (by decide) ?_
                    refine va_put (D := (dC, dI)) (ci := 9) (v := .int 3) (ty := .int) (C := RX9) (T := TX9) (N := 67) hx hb hts hiX9 tyX9 tyX9_ok nmX9 hown hK hP hD hS 0 rfl rfl 22 (by decide) v_9 (fun _ h9 => h9) rfl (by decide +kernel) rfl rfl (Nat.le_of_ble_eq_true rfl) dX9_next_322 (fun H locs hP hD hS => ?_)
                    have hP : va_P (dC, dI) vwCl (mo_w ad ck x0 (nI x16) (nI x18) (nI x19) (nI g_1) (nI (g_1 + 1)) 3 r_6 x24 x25 (nI x26) x27 (nI x28) (nI x29) (nI x30) (nI x33) x45 (nI x46) (nI x52) (nI x53) (nI x61) (nI x62) (nI x63) (nI x65) x66 f1 f2 f3 (bN 3 q4) (bN 7 q5) (bN 7 q6) (bN 4 q7) f8 (bN 2 q9) (bH q10) f11 (b2 m12_0 m12_1) (b2 m13_0 m13_1) (b2 m14_0 m14_1) (b2m m15_0 m15_1) f17 (bA 159 q31) f32 f34 f35 f36 f37 (bN 7 q38) f39 f40 f41 (b2 m42_0 m42_1) f43 f44 f47 f48 f49 f50 f51 (bN 13 q54) (bN 120 q55) (bN 120 q56) f57 (bN 120 q58) f59 f60 f64) H := hP
                    have hD : va_D A (mo_w ad ck x0 (nI x16) (nI x18) (nI x19) (nI g_1) (nI (g_1 + 1)) 3 r_6 x24 x25 (nI x26) x27 (nI x28) (nI x29) (nI x30) (nI x33) x45 (nI x46) (nI x52) (nI x53) (nI x61) (nI x62) (nI x63) (nI x65) x66 f1 f2 f3 (bN 3 q4) (bN 7 q5) (bN 7 q6) (bN 4 q7) f8 (bN 2 q9) (bH q10) f11 (b2 m12_0 m12_1) (b2 m13_0 m13_1) (b2 m14_0 m14_1) (b2m m15_0 m15_1) f17 (bA 159 q31) f32 f34 f35 f36 f37 (bN 7 q38) f39 f40 f41 (b2 m42_0 m42_1) f43 f44 f47 f48 f49 f50 f51 (bN 13 q54) (bN 120 q55) (bN 120 q56) f57 (bN 120 q58) f59 f60 f64) := hD
                    exact W.vret hx hb hr (fun t ht hW => ⟨⟨(), rfl, trivial, ⟨(nI g_1), (g_1 + 1), 3, r_6, ⟨by rw [ht]; exact hP, va_K.moved hW.alike hK, hD⟩, (by omega), (Nat.le_of_ble_eq_true rfl), by first | exact mu_le (by omega) | exact Nat.le_of_lt (mu_lt (by omega) (by omega)), by first | exact Or.inr (mu_lt (by omega) (by omega)) | (by_cases hz : x22 = 0; exact Or.inl hz; exact Or.inr (mu_e (by omega) hz)), (hsp.symm.trans hRR)⟩⟩, hS.F ht⟩) hS.2.2 dX9_next_325
          · have c_13 : ¬ u_12 = 0 := fun z => c_13 ((nI_eq (a := u_12) (b := 0) (Nat.lt_of_le_of_lt hu_12 (Nat.le_of_ble_eq_true rfl)) (Nat.le_of_ble_eq_true rfl)).mpr z)
            have hsp := hsp.trans (if_neg c_13)
            obtain ⟨JR_24, hJR_24, hsp⟩ := slet_ex hsp
            refine pu_join (fun H locs ls st => ∃ (g_19 : Nat) (g_20 : Int32), st = [] ∧ g_19 ≤ 900 ∧ x21 ≤ g_19 ∧ g_1 < g_19 ∧ (g_19, g_20) = JR_24 ∧ va_P (dC, dI) vwCl (mo_w ad ck x0 (nI x16) (nI x18) (nI x19) (nI g_1) (nI g_19) (nI x22) g_20 x24 x25 (nI x26) x27 (nI x28) (nI x29) (nI x30) (nI x33) x45 (nI x46) (nI x52) (nI x53) (nI x61) (nI x62) (nI x63) (nI x65) x66 f1 f2 f3 (bN 3 q4) (bN 7 q5) (bN 7 q6) (bN 4 q7) f8 (bN 2 q9) (bH q10) f11 (b2 m12_0 m12_1) (b2 m13_0 m13_1) (b2 m14_0 m14_1) (b2m m15_0 m15_1) f17 (bA 159 q31) f32 f34 f35 f36 f37 (bN 7 q38) f39 f40 f41 (b2 m42_0 m42_1) f43 f44 f47 f48 f49 f50 f51 (bN 13 q54) (bN 120 q55) (bN 120 q56) f57 (bN 120 q58) f59 f60 f64) H ∧ va_D A (mo_w ad ck x0 (nI x16) (nI x18) (nI x19) (nI g_1) (nI g_19) (nI x22) g_20 x24 x25 (nI x26) x27 (nI x28) (nI x29) (nI x30) (nI x33) x45 (nI x46) (nI x52) (nI x53) (nI x61) (nI x62) (nI x63) (nI x65) x66 f1 f2 f3 (bN 3 q4) (bN 7 q5) (bN 7 q6) (bN 4 q7) f8 (bN 2 q9) (bH q10) f11 (b2 m12_0 m12_1) (b2 m13_0 m13_1) (b2 m14_0 m14_1) (b2m m15_0 m15_1) f17 (bA 159 q31) f32 f34 f35 f36 f37 (bN 7 q38) f39 f40 f41 (b2 m42_0 m42_1) f43 f44 f47 f48 f49 f50 f51 (bN 13 q54) (bN 120 q55) (bN 120 q56) f57 (bN 120 q58) f59 f60 f64) ∧ va_S A s.heap H locs ∧ lv_has ls 2 [(0, .ref (ad 0)), (1, .int r_6)]) 238 ?_ (fun j_23 => ?_)
            · rintro H locs ls st ⟨g_19, g_20, rfl, hg_19, he_21, he_22, he_25, hP, hD, hS, hl⟩
              rw [← he_25] at hsp
              refine lv_aload_n hx hb dX9_next_238 rfl (lv_at hl 0 rfl) ?_
              refine lv_aload_n hx hb dX9_next_239 rfl (lv_at hl 0 rfl) ?_
              refine va_get (D := (dC, dI)) (ci := 9) (v := .int (nI g_19)) (C := RX9) (T := TX9) (N := 67) hx hb hts hiX9 hown hK hP 0 rfl rfl 21 (by decide) v_1 (fun _ h9 => h9) rfl dX9_next_240 ?_
              refine lv_aload_n hx hb dX9_next_243 rfl (lv_at hl 0 rfl) ?_
              refine va_get (D := (dC, dI)) (ci := 9) (v := .int (nI g_1)) (C := RX9) (T := TX9) (N := 67) hx hb hts hiX9 hown hK hP 0 rfl rfl 20 (by decide) v_7 (fun _ h9 => h9) rfl dX9_next_244 ?_
              refine lv_isub hx hb dX9_next_247 ?_
              refine lv_topi (fun y_26 ey_26 => ?_)
              have hsp := hsp.trans (slet_eq ey_26)
              refine lv_iconst (v := 3) hx hb dX9_next_248 (by decide) ?_
              refine lv_icmp_gt (tgt := 266) hx hb dX9_next_249 (by decide) (fun c_27 => ?_) (fun c_27 => ?_)
              · have hcc_27 := c_27
                have hsp := hsp.trans (if_pos c_27)
                refine lv_iconst (v := 4) hx hb dX9_next_266 (by decide) ?_
                refine lv_goto (tgt := 271) hx hb dX9_next_267 (by decide) ?_
                refine va_put (D := (dC, dI)) (ci := 9) (v := .int 4) (ty := .int) (C := RX9) (T := TX9) (N := 67) hx hb hts hiX9 tyX9 tyX9_ok nmX9 hown hK hP hD hS 0 rfl rfl 22 (by decide) v_9 (fun _ h9 => h9) rfl (by decide +kernel) rfl rfl (Nat.le_of_ble_eq_true rfl) dX9_next_271 (fun H locs hP hD hS => ?_)
                have hP : va_P (dC, dI) vwCl (mo_w ad ck x0 (nI x16) (nI x18) (nI x19) (nI g_1) (nI g_19) 4 g_20 x24 x25 (nI x26) x27 (nI x28) (nI x29) (nI x30) (nI x33) x45 (nI x46) (nI x52) (nI x53) (nI x61) (nI x62) (nI x63) (nI x65) x66 f1 f2 f3 (bN 3 q4) (bN 7 q5) (bN 7 q6) (bN 4 q7) f8 (bN 2 q9) (bH q10) f11 (b2 m12_0 m12_1) (b2 m13_0 m13_1) (b2 m14_0 m14_1) (b2m m15_0 m15_1) f17 (bA 159 q31) f32 f34 f35 f36 f37 (bN 7 q38) f39 f40 f41 (b2 m42_0 m42_1) f43 f44 f47 f48 f49 f50 f51 (bN 13 q54) (bN 120 q55) (bN 120 q56) f57 (bN 120 q58) f59 f60 f64) H := hP
                have hD : va_D A (mo_w ad ck x0 (nI x16) (nI x18) (nI x19) (nI g_1) (nI g_19) 4 g_20 x24 x25 (nI x26) x27 (nI x28) (nI x29) (nI x30) (nI x33) x45 (nI x46) (nI x52) (nI x53) (nI x61) (nI x62) (nI x63) (nI x65) x66 f1 f2 f3 (bN 3 q4) (bN 7 q5) (bN 7 q6) (bN 4 q7) f8 (bN 2 q9) (bH q10) f11 (b2 m12_0 m12_1) (b2 m13_0 m13_1) (b2 m14_0 m14_1) (b2m m15_0 m15_1) f17 (bA 159 q31) f32 f34 f35 f36 f37 (bN 7 q38) f39 f40 f41 (b2 m42_0 m42_1) f43 f44 f47 f48 f49 f50 f51 (bN 13 q54) (bN 120 q55) (bN 120 q56) f57 (bN 120 q58) f59 f60 f64) := hD
                refine lv_goto (tgt := 325) hx hb dX9_next_274 (by decide) ?_
                exact W.vret hx hb hr (fun t ht hW => ⟨⟨(), rfl, trivial, ⟨(nI g_1), g_19, 4, g_20, ⟨by rw [ht]; exact hP, va_K.moved hW.alike hK, hD⟩, hg_19, (Nat.le_of_ble_eq_true rfl), by first | exact mu_le (by omega) | exact Nat.le_of_lt (mu_lt (by omega) (by omega)), by first | exact Or.inr (mu_lt (by omega) (by omega)) | (by_cases hz : x22 = 0; exact Or.inl hz; exact Or.inr (mu_e (by omega) hz)), (hsp.symm.trans hRR)⟩⟩, hS.F ht⟩) hS.2.2 dX9_next_325
              · have hcc_27 := c_27
                have hsp := hsp.trans (if_neg c_27)
                refine lv_aload_n hx hb dX9_next_252 rfl (lv_at hl 0 rfl) ?_
                refine lv_aload_n hx hb dX9_next_253 rfl (lv_at hl 0 rfl) ?_
                refine va_get (D := (dC, dI)) (ci := 9) (v := .int (nI g_19)) (C := RX9) (T := TX9) (N := 67) hx hb hts hiX9 hown hK hP 0 rfl rfl 21 (by decide) v_1 (fun _ h9 => h9) rfl dX9_next_254 ?_
                refine va_calli (va_runV (As := [.int (nI g_19)]) (rest := [.ref (ad 0)]) ⟨hx, hb, hml, hown, hts⟩ (c_EM_byteAt l dC dI _ ad ck x0 x16 x18 x19 (nI g_1) g_19 x22 g_20 x24 x25 x26 x27 x28 x29 x30 x33 x45 x46 x52 x53 x61 x62 x63 x65 x66 f1 f2 f3 q4 q5 q6 q7 f8 q9 q10 f11 m12_0 m12_1 m13_0 m13_1 m14_0 m14_1 m15_0 m15_1 f17 q31 f32 f34 f35 f36 f37 q38 f39 f40 f41 m42_0 m42_1 f43 f44 f47 f48 f49 f50 f51 q54 q55 q56 f57 q58 f59 f60 f64 g_19 hx16 hx18 hx19 hg_19 hx22 hx26 hx28 hx29 hx30 hx33 hx46 hx52 hx53 hx61 hx62 hx63 hx65 hm12_0 hm12_1 hm13_0 hm13_1 hm14_0 hm14_1 hm15_0 hm15_1 hm42_0 hm42_1 hg_19) (cwV 1 hts g_EM_next_EM_byteAt rfl rfl rfl (by decide +kernel) ⟨Nat.le_of_ble_eq_true rfl, Nat.le_of_ble_eq_true rfl⟩) ⟨pu_bl, va_recv hK hP (ci := 9) (q0 := 0) rfl rfl, pu_in hP hK hD⟩ rfl rfl hl.1 rfl (lv_room (Nat.le_of_ble_eq_true rfl)) dX9_next_257 ⟨Nat.le_of_ble_eq_true rfl, Nat.le_of_ble_eq_true rfl⟩) hS (fun q _ h => pu_fr hS hA q h) (pu_fr hS hA) (fun r_28 u t H1 locs ht hvm hw hB hz1 hk1 hS => ?_)
                have hP := pu_keep hP hk1
                clear hk1 hz1 ht hvm
                generalize H1 = H at hP hS ⊢
                rcases hw with ⟨rfl, hw⟩ | ⟨hw, hvr_28⟩
                · have hsp := hsp.trans (if_neg (Nat.not_lt.mpr hw))
                  refine va_calli (va_runS (As := [.int (-1)]) (rest := [.ref (ad 0)]) ⟨hx, hb, hml, hown, hts⟩ (c_EM_isSmall_n l dC dI _ ad ck x0 x16 x18 x19 (nI g_1) g_19 x22 g_20 x24 x25 x26 x27 x28 x29 x30 x33 x45 x46 x52 x53 x61 x62 x63 x65 x66 f1 f2 f3 q4 q5 q6 q7 f8 q9 q10 f11 m12_0 m12_1 m13_0 m13_1 m14_0 m14_1 m15_0 m15_1 f17 q31 f32 f34 f35 f36 f37 q38 f39 f40 f41 m42_0 m42_1 f43 f44 f47 f48 f49 f50 f51 q54 q55 q56 f57 q58 f59 f60 f64 hx16 hx18 hx19 hg_19 hx22 hx26 hx28 hx29 hx30 hx33 hx46 hx52 hx53 hx61 hx62 hx63 hx65 hm12_0 hm12_1 hm13_0 hm13_1 hm14_0 hm14_1 hm15_0 hm15_1 hm42_0 hm42_1) (va_cwS 1 hts g_EM_next_EM_isSmall_n rfl rfl rfl (by decide +kernel) ⟨Nat.le_of_ble_eq_true rfl, Nat.le_of_ble_eq_true rfl⟩) ⟨pu_bl, pu_in hP hK hD⟩ rfl rfl hl.1 rfl (lv_room (Nat.le_of_ble_eq_true rfl)) dX9_next_260 ⟨Nat.le_of_ble_eq_true rfl, Nat.le_of_ble_eq_true rfl⟩) hS (fun q _ h => pu_fr hS hA q h) (pu_fr hS hA) (fun r_29 u t H1 locs ht hvm hw hB hz1 hk1 hS => ?_)
                  have hP := pu_keep hP hk1
                  clear hk1 hz1 ht hvm
                  generalize H1 = H at hP hS ⊢
                  obtain rfl : r_29 = 0 := hw
                  refine lv_if_eq (tgt := 270) hx hb dX9_next_263 (by decide) (fun _ => ?_) (fun z => absurd z (by decide))
                  refine lv_iconst (v := 2) hx hb dX9_next_270 (by decide) ?_
                  refine va_put (D := (dC, dI)) (ci := 9) (v := .int 2) (ty := .int) (C := RX9) (T := TX9) (N := 67) hx hb hts hiX9 tyX9 tyX9_ok nmX9 hown hK hP hD hS 0 rfl rfl 22 (by decide) v_9 (fun _ h9 => h9) rfl (by decide +kernel) rfl rfl (Nat.le_of_ble_eq_true rfl) dX9_next_271 (fun H locs hP hD hS => ?_)
                  have hP : va_P (dC, dI) vwCl (mo_w ad ck x0 (nI x16) (nI x18) (nI x19) (nI g_1) (nI g_19) 2 g_20 x24 x25 (nI x26) x27 (nI x28) (nI x29) (nI x30) (nI x33) x45 (nI x46) (nI x52) (nI x53) (nI x61) (nI x62) (nI x63) (nI x65) x66 f1 f2 f3 (bN 3 q4) (bN 7 q5) (bN 7 q6) (bN 4 q7) f8 (bN 2 q9) (bH q10) f11 (b2 m12_0 m12_1) (b2 m13_0 m13_1) (b2 m14_0 m14_1) (b2m m15_0 m15_1) f17 (bA 159 q31) f32 f34 f35 f36 f37 (bN 7 q38) f39 f40 f41 (b2 m42_0 m42_1) f43 f44 f47 f48 f49 f50 f51 (bN 13 q54) (bN 120 q55) (bN 120 q56) f57 (bN 120 q58) f59 f60 f64) H := hP
                  have hD : va_D A (mo_w ad ck x0 (nI x16) (nI x18) (nI x19) (nI g_1) (nI g_19) 2 g_20 x24 x25 (nI x26) x27 (nI x28) (nI x29) (nI x30) (nI x33) x45 (nI x46) (nI x52) (nI x53) (nI x61) (nI x62) (nI x63) (nI x65) x66 f1 f2 f3 (bN 3 q4) (bN 7 q5) (bN 7 q6) (bN 4 q7) f8 (bN 2 q9) (bH q10) f11 (b2 m12_0 m12_1) (b2 m13_0 m13_1) (b2 m14_0 m14_1) (b2m m15_0 m15_1) f17 (bA 159 q31) f32 f34 f35 f36 f37 (bN 7 q38) f39 f40 f41 (b2 m42_0 m42_1) f43 f44 f47 f48 f49 f50 f51 (bN 13 q54) (bN 120 q55) (bN 120 q56) f57 (bN 120 q58) f59 f60 f64) := hD
                  refine lv_goto (tgt := 325) hx hb dX9_next_274 (by decide) ?_
                  exact W.vret hx hb hr (fun t ht hW => ⟨⟨(), rfl, trivial, ⟨(nI g_1), g_19, 2, g_20, ⟨by rw [ht]; exact hP, va_K.moved hW.alike hK, hD⟩, hg_19, (Nat.le_of_ble_eq_true rfl), by first | exact mu_le (by omega) | exact Nat.le_of_lt (mu_lt (by omega) (by omega)), by first | exact Or.inr (mu_lt (by omega) (by omega)) | (by_cases hz : x22 = 0; exact Or.inl hz; exact Or.inr (mu_e (by omega) hz)), (hsp.symm.trans hRR)⟩⟩, hS.F ht⟩) hS.2.2 dX9_next_325
                · have hcl : cl r_28 = cl (f17 g_19) := congrArg cl hvr_28
                  have hsp := hsp.trans (if_pos hw)
                  have hsp := hsp.trans (slet_eq hvr_28)
                  refine va_calli (va_runS (As := [.int r_28]) (rest := [.ref (ad 0)]) ⟨hx, hb, hml, hown, hts⟩ (c_EM_isSmall l dC dI _ ad ck x0 x16 x18 x19 (nI g_1) g_19 x22 g_20 x24 x25 x26 x27 x28 x29 x30 x33 x45 x46 x52 x53 x61 x62 x63 x65 x66 f1 f2 f3 q4 q5 q6 q7 f8 q9 q10 f11 m12_0 m12_1 m13_0 m13_1 m14_0 m14_1 m15_0 m15_1 f17 q31 f32 f34 f35 f36 f37 q38 f39 f40 f41 m42_0 m42_1 f43 f44 f47 f48 f49 f50 f51 q54 q55 q56 f57 q58 f59 f60 f64 r_28 hx16 hx18 hx19 hg_19 hx22 hx26 hx28 hx29 hx30 hx33 hx46 hx52 hx53 hx61 hx62 hx63 hx65 hm12_0 hm12_1 hm13_0 hm13_1 hm14_0 hm14_1 hm15_0 hm15_1 hm42_0 hm42_1) (va_cwS 1 hts g_EM_next_EM_isSmall rfl rfl rfl (by decide +kernel) ⟨Nat.le_of_ble_eq_true rfl, Nat.le_of_ble_eq_true rfl⟩) ⟨pu_bl, pu_in hP hK hD⟩ rfl rfl hl.1 rfl (lv_room (Nat.le_of_ble_eq_true rfl)) dX9_next_260 ⟨Nat.le_of_ble_eq_true rfl, Nat.le_of_ble_eq_true rfl⟩) hS (fun q _ h => pu_fr hS hA q h) (pu_fr hS hA) (fun r_30 u t H1 locs ht hvm hw hB hz1 hk1 hS => ?_)
                  have hP := pu_keep hP hk1
                  clear hk1 hz1 ht hvm
                  generalize H1 = H at hP hS ⊢
                  obtain ⟨u_31, hu_31, rfl, ju_31, iu_31⟩ := hw
                  have hsp := hsp.trans (slet_eq iu_31)
                  refine lv_if_eq (tgt := 270) hx hb dX9_next_263 (by decide) (fun c_32 => ?_) (fun c_32 => ?_)
                  · have c_32 : u_31 = 0 := (nI_eq (a := u_31) (b := 0) (Nat.lt_of_le_of_lt hu_31 (Nat.le_of_ble_eq_true rfl)) (Nat.le_of_ble_eq_true rfl)).mp c_32
                    have hsp := hsp.trans (if_pos c_32)
                    refine lv_iconst (v := 2) hx hb dX9_next_270 (by decide) ?_
                    refine va_put (D := (dC, dI)) (ci := 9) (v := .int 2) (ty := .int) (C := RX9) (T := TX9) (N := 67) hx hb hts hiX9 tyX9 tyX9_ok nmX9 hown hK hP hD hS 0 rfl rfl 22 (by decide) v_9 (fun _ h9 => h9) rfl (by decide +kernel) rfl rfl (Nat.le_of_ble_eq_true rfl) dX9_next_271 (fun H locs hP hD hS => ?_)
                    have hP : va_P (dC, dI) vwCl (mo_w ad ck x0 (nI x16) (nI x18) (nI x19) (nI g_1) (nI g_19) 2 g_20 x24 x25 (nI x26) x27 (nI x28) (nI x29) (nI x30) (nI x33) x45 (nI x46) (nI x52) (nI x53) (nI x61) (nI x62) (nI x63) (nI x65) x66 f1 f2 f3 (bN 3 q4) (bN 7 q5) (bN 7 q6) (bN 4 q7) f8 (bN 2 q9) (bH q10) f11 (b2 m12_0 m12_1) (b2 m13_0 m13_1) (b2 m14_0 m14_1) (b2m m15_0 m15_1) f17 (bA 159 q31) f32 f34 f35 f36 f37 (bN 7 q38) f39 f40 f41 (b2 m42_0 m42_1) f43 f44 f47 f48 f49 f50 f51 (bN 13 q54) (bN 120 q55) (bN 120 q56) f57 (bN 120 q58) f59 f60 f64) H := hP
                    have hD : va_D A (mo_w ad ck x0 (nI x16) (nI x18) (nI x19) (nI g_1) (nI g_19) 2 g_20 x24 x25 (nI x26) x27 (nI x28) (nI x29) (nI x30) (nI x33) x45 (nI x46) (nI x52) (nI x53) (nI x61) (nI x62) (nI x63) (nI x65) x66 f1 f2 f3 (bN 3 q4) (bN 7 q5) (bN 7 q6) (bN 4 q7) f8 (bN 2 q9) (bH q10) f11 (b2 m12_0 m12_1) (b2 m13_0 m13_1) (b2 m14_0 m14_1) (b2m m15_0 m15_1) f17 (bA 159 q31) f32 f34 f35 f36 f37 (bN 7 q38) f39 f40 f41 (b2 m42_0 m42_1) f43 f44 f47 f48 f49 f50 f51 (bN 13 q54) (bN 120 q55) (bN 120 q56) f57 (bN 120 q58) f59 f60 f64) := hD
                    refine lv_goto (tgt := 325) hx hb dX9_next_274 (by decide) ?_
                    exact W.vret hx hb hr (fun t ht hW => ⟨⟨(), rfl, trivial, ⟨(nI g_1), g_19, 2, g_20, ⟨by rw [ht]; exact hP, va_K.moved hW.alike hK, hD⟩, hg_19, (Nat.le_of_ble_eq_true rfl), by first | exact mu_le (by omega) | exact Nat.le_of_lt (mu_lt (by omega) (by omega)), by first | exact Or.inr (mu_lt (by omega) (by omega)) | (by_cases hz : x22 = 0; exact Or.inl hz; exact Or.inr (mu_e (by omega) hz)), (hsp.symm.trans hRR)⟩⟩, hS.F ht⟩) hS.2.2 dX9_next_325
                  · have c_32 : ¬ u_31 = 0 := fun z => c_32 ((nI_eq (a := u_31) (b := 0) (Nat.lt_of_le_of_lt hu_31 (Nat.le_of_ble_eq_true rfl)) (Nat.le_of_ble_eq_true rfl)).mpr z)
                    have hsp := hsp.trans (if_neg c_32)
                    refine lv_iconst (v := 4) hx hb dX9_next_266 (by decide) ?_
                    refine lv_goto (tgt := 271) hx hb dX9_next_267 (by decide) ?_
                    refine va_put (D := (dC, dI)) (ci := 9) (v := .int 4) (ty := .int) (C := RX9) (T := TX9) (N := 67) hx hb hts hiX9 tyX9 tyX9_ok nmX9 hown hK hP hD hS 0 rfl rfl 22 (by decide) v_9 (fun _ h9 => h9) rfl (by decide +kernel) rfl rfl (Nat.le_of_ble_eq_true rfl) dX9_next_271 (fun H locs hP hD hS => ?_)
                    have hP : va_P (dC, dI) vwCl (mo_w ad ck x0 (nI x16) (nI x18) (nI x19) (nI g_1) (nI g_19) 4 g_20 x24 x25 (nI x26) x27 (nI x28) (nI x29) (nI x30) (nI x33) x45 (nI x46) (nI x52) (nI x53) (nI x61) (nI x62) (nI x63) (nI x65) x66 f1 f2 f3 (bN 3 q4) (bN 7 q5) (bN 7 q6) (bN 4 q7) f8 (bN 2 q9) (bH q10) f11 (b2 m12_0 m12_1) (b2 m13_0 m13_1) (b2 m14_0 m14_1) (b2m m15_0 m15_1) f17 (bA 159 q31) f32 f34 f35 f36 f37 (bN 7 q38) f39 f40 f41 (b2 m42_0 m42_1) f43 f44 f47 f48 f49 f50 f51 (bN 13 q54) (bN 120 q55) (bN 120 q56) f57 (bN 120 q58) f59 f60 f64) H := hP
                    have hD : va_D A (mo_w ad ck x0 (nI x16) (nI x18) (nI x19) (nI g_1) (nI g_19) 4 g_20 x24 x25 (nI x26) x27 (nI x28) (nI x29) (nI x30) (nI x33) x45 (nI x46) (nI x52) (nI x53) (nI x61) (nI x62) (nI x63) (nI x65) x66 f1 f2 f3 (bN 3 q4) (bN 7 q5) (bN 7 q6) (bN 4 q7) f8 (bN 2 q9) (bH q10) f11 (b2 m12_0 m12_1) (b2 m13_0 m13_1) (b2 m14_0 m14_1) (b2m m15_0 m15_1) f17 (bA 159 q31) f32 f34 f35 f36 f37 (bN 7 q38) f39 f40 f41 (b2 m42_0 m42_1) f43 f44 f47 f48 f49 f50 f51 (bN 13 q54) (bN 120 q55) (bN 120 q56) f57 (bN 120 q58) f59 f60 f64) := hD
                    refine lv_goto (tgt := 325) hx hb dX9_next_274 (by decide) ?_
                    exact W.vret hx hb hr (fun t ht hW => ⟨⟨(), rfl, trivial, ⟨(nI g_1), g_19, 4, g_20, ⟨by rw [ht]; exact hP, va_K.moved hW.alike hK, hD⟩, hg_19, (Nat.le_of_ble_eq_true rfl), by first | exact mu_le (by omega) | exact Nat.le_of_lt (mu_lt (by omega) (by omega)), by first | exact Or.inr (mu_lt (by omega) (by omega)) | (by_cases hz : x22 = 0; exact Or.inl hz; exact Or.inr (mu_e (by omega) hz)), (hsp.symm.trans hRR)⟩⟩, hS.F ht⟩) hS.2.2 dX9_next_325
            have hsp := hJR_24
            obtain ⟨lf_42, dlf_42, hlf_42, hsp⟩ := itr_ex hsp
            delta sp_EM_next_L2 at hlf_42
            refine pu_while (fun nn H locs ls => ∃ (g_37 : Nat) (g_38 : Int32), nn = 900 - g_37 ∧ g_37 ≤ 900 ∧ x21 ≤ g_37 ∧ (g_1 < g_37 ∨ (g_1 = g_37 ∧ cl (f17 g_37) = 2)) ∧ JR_24 = itrv dlf_42 lf_42 (g_37, g_38) ∧ va_P (dC, dI) vwCl (mo_w ad ck x0 (nI x16) (nI x18) (nI x19) (nI g_1) (nI g_37) (nI x22) g_38 x24 x25 (nI x26) x27 (nI x28) (nI x29) (nI x30) (nI x33) x45 (nI x46) (nI x52) (nI x53) (nI x61) (nI x62) (nI x63) (nI x65) x66 f1 f2 f3 (bN 3 q4) (bN 7 q5) (bN 7 q6) (bN 4 q7) f8 (bN 2 q9) (bH q10) f11 (b2 m12_0 m12_1) (b2 m13_0 m13_1) (b2 m14_0 m14_1) (b2m m15_0 m15_1) f17 (bA 159 q31) f32 f34 f35 f36 f37 (bN 7 q38) f39 f40 f41 (b2 m42_0 m42_1) f43 f44 f47 f48 f49 f50 f51 (bN 13 q54) (bN 120 q55) (bN 120 q56) f57 (bN 120 q58) f59 f60 f64) H ∧ va_D A (mo_w ad ck x0 (nI x16) (nI x18) (nI x19) (nI g_1) (nI g_37) (nI x22) g_38 x24 x25 (nI x26) x27 (nI x28) (nI x29) (nI x30) (nI x33) x45 (nI x46) (nI x52) (nI x53) (nI x61) (nI x62) (nI x63) (nI x65) x66 f1 f2 f3 (bN 3 q4) (bN 7 q5) (bN 7 q6) (bN 4 q7) f8 (bN 2 q9) (bH q10) f11 (b2 m12_0 m12_1) (b2 m13_0 m13_1) (b2 m14_0 m14_1) (b2m m15_0 m15_1) f17 (bA 159 q31) f32 f34 f35 f36 f37 (bN 7 q38) f39 f40 f41 (b2 m42_0 m42_1) f43 f44 f47 f48 f49 f50 f51 (bN 13 q54) (bN 120 q55) (bN 120 q56) f57 (bN 120 q58) f59 f60 f64) ∧ va_S A s.heap H locs ∧ lv_has ls 2 [(0, .ref (ad 0)), (1, .int r_6)]) 182 ?_ _ _ _ _ ⟨g_1, 0, rfl, hg_1, by omega, by omega, hsp, hP, hD, hS, lv_sub hl [1, 0] rfl⟩
            rintro nn ih_41 H locs ls ⟨g_37, g_38, rfl, hg_37, he_39, he_40, he_44, hP, hD, hS, hl⟩
            obtain ⟨S_43, hsp, hin_45, hout_46⟩ := itr_step hlf_42 he_44
            refine lv_aload_n hx hb dX9_next_182 rfl (lv_at hl 0 rfl) ?_
            refine lv_aload_n hx hb dX9_next_183 rfl (lv_at hl 0 rfl) ?_
            refine va_get (D := (dC, dI)) (ci := 9) (v := .int (nI g_37)) (C := RX9) (T := TX9) (N := 67) hx hb hts hiX9 hown hK hP 0 rfl rfl 21 (by decide) v_1 (fun _ h9 => h9) rfl dX9_next_184 ?_
            refine va_calli (va_runV (As := [.int (nI g_37)]) (rest := []) ⟨hx, hb, hml, hown, hts⟩ (c_EM_byteAt l dC dI _ ad ck x0 x16 x18 x19 (nI g_1) g_37 x22 g_38 x24 x25 x26 x27 x28 x29 x30 x33 x45 x46 x52 x53 x61 x62 x63 x65 x66 f1 f2 f3 q4 q5 q6 q7 f8 q9 q10 f11 m12_0 m12_1 m13_0 m13_1 m14_0 m14_1 m15_0 m15_1 f17 q31 f32 f34 f35 f36 f37 q38 f39 f40 f41 m42_0 m42_1 f43 f44 f47 f48 f49 f50 f51 q54 q55 q56 f57 q58 f59 f60 f64 g_37 hx16 hx18 hx19 hg_37 hx22 hx26 hx28 hx29 hx30 hx33 hx46 hx52 hx53 hx61 hx62 hx63 hx65 hm12_0 hm12_1 hm13_0 hm13_1 hm14_0 hm14_1 hm15_0 hm15_1 hm42_0 hm42_1 hg_37) (cwV 1 hts g_EM_next_EM_byteAt rfl rfl rfl (by decide +kernel) ⟨Nat.le_of_ble_eq_true rfl, Nat.le_of_ble_eq_true rfl⟩) ⟨pu_bl, va_recv hK hP (ci := 9) (q0 := 0) rfl rfl, pu_in hP hK hD⟩ rfl rfl hl.1 rfl (lv_room (Nat.le_of_ble_eq_true rfl)) dX9_next_187 ⟨Nat.le_of_ble_eq_true rfl, Nat.le_of_ble_eq_true rfl⟩) hS (fun q _ h => pu_fr hS hA q h) (pu_fr hS hA) (fun r_47 u t H1 locs ht hvm hw hB hz1 hk1 hS => ?_)
            have hP := pu_keep hP hk1
            clear hk1 hz1 ht hvm
            generalize H1 = H at hP hS ⊢
            rcases hw with ⟨rfl, hw⟩ | ⟨hw, hvr_47⟩
            · have hsp := hsp.trans (if_neg (Nat.not_lt.mpr hw))
              refine va_calli (va_runS (As := [.int (-1)]) (rest := []) ⟨hx, hb, hml, hown, hts⟩ (c_EM_isDigit_n l dC dI _ ad ck x0 x16 x18 x19 (nI g_1) g_37 x22 g_38 x24 x25 x26 x27 x28 x29 x30 x33 x45 x46 x52 x53 x61 x62 x63 x65 x66 f1 f2 f3 q4 q5 q6 q7 f8 q9 q10 f11 m12_0 m12_1 m13_0 m13_1 m14_0 m14_1 m15_0 m15_1 f17 q31 f32 f34 f35 f36 f37 q38 f39 f40 f41 m42_0 m42_1 f43 f44 f47 f48 f49 f50 f51 q54 q55 q56 f57 q58 f59 f60 f64 hx16 hx18 hx19 hg_37 hx22 hx26 hx28 hx29 hx30 hx33 hx46 hx52 hx53 hx61 hx62 hx63 hx65 hm12_0 hm12_1 hm13_0 hm13_1 hm14_0 hm14_1 hm15_0 hm15_1 hm42_0 hm42_1) (va_cwS 1 hts g_EM_next_EM_isDigit_n rfl rfl rfl (by decide +kernel) ⟨Nat.le_of_ble_eq_true rfl, Nat.le_of_ble_eq_true rfl⟩) ⟨pu_bl, pu_in hP hK hD⟩ rfl rfl hl.1 rfl (lv_room (Nat.le_of_ble_eq_true rfl)) dX9_next_190 ⟨Nat.le_of_ble_eq_true rfl, Nat.le_of_ble_eq_true rfl⟩) hS (fun q _ h => pu_fr hS hA q h) (pu_fr hS hA) (fun r_48 u t H1 locs ht hvm hw hB hz1 hk1 hS => ?_)
              have hP := pu_keep hP hk1
              clear hk1 hz1 ht hvm
              generalize H1 = H at hP hS ⊢
              obtain rfl : r_48 = 0 := hw
              refine lv_if_eq (tgt := 238) hx hb dX9_next_193 (by decide) (fun _ => ?_) (fun z => absurd z (by decide))
              have hsp := hout_46 _ hsp
              exact j_23 _ _ _ _ ⟨g_37, g_38, rfl, hg_37, by omega, by omega, hsp.symm, hP, hD, hS, lv_sub hl [0, 1] rfl⟩
            · have hcl : cl r_47 = cl (f17 g_37) := congrArg cl hvr_47
              have hsp := hsp.trans (if_pos hw)
              have hsp := hsp.trans (slet_eq hvr_47)
              refine va_calli (va_runS (As := [.int r_47]) (rest := []) ⟨hx, hb, hml, hown, hts⟩ (c_EM_isDigit l dC dI _ ad ck x0 x16 x18 x19 (nI g_1) g_37 x22 g_38 x24 x25 x26 x27 x28 x29 x30 x33 x45 x46 x52 x53 x61 x62 x63 x65 x66 f1 f2 f3 q4 q5 q6 q7 f8 q9 q10 f11 m12_0 m12_1 m13_0 m13_1 m14_0 m14_1 m15_0 m15_1 f17 q31 f32 f34 f35 f36 f37 q38 f39 f40 f41 m42_0 m42_1 f43 f44 f47 f48 f49 f50 f51 q54 q55 q56 f57 q58 f59 f60 f64 r_47 hx16 hx18 hx19 hg_37 hx22 hx26 hx28 hx29 hx30 hx33 hx46 hx52 hx53 hx61 hx62 hx63 hx65 hm12_0 hm12_1 hm13_0 hm13_1 hm14_0 hm14_1 hm15_0 hm15_1 hm42_0 hm42_1) (va_cwS 1 hts g_EM_next_EM_isDigit rfl rfl rfl (by decide +kernel) ⟨Nat.le_of_ble_eq_true rfl, Nat.le_of_ble_eq_true rfl⟩) ⟨pu_bl, pu_in hP hK hD⟩ rfl rfl hl.1 rfl (lv_room (Nat.le_of_ble_eq_true rfl)) dX9_next_190 ⟨Nat.le_of_ble_eq_true rfl, Nat.le_of_ble_eq_true rfl⟩) hS (fun q _ h => pu_fr hS hA q h) (pu_fr hS hA) (fun r_49 u t H1 locs ht hvm hw hB hz1 hk1 hS => ?_)
              have hP := pu_keep hP hk1
              clear hk1 hz1 ht hvm
              generalize H1 = H at hP hS ⊢
              obtain ⟨u_50, hu_50, rfl, ju_50, iu_50⟩ := hw
              have hsp := hsp.trans (slet_eq iu_50)
              refine lv_if_eq (tgt := 238) hx hb dX9_next_193 (by decide) (fun c_51 => ?_) (fun c_51 => ?_)
              · have c_51 : u_50 = 0 := (nI_eq (a := u_50) (b := 0) (Nat.lt_of_le_of_lt hu_50 (Nat.le_of_ble_eq_true rfl)) (Nat.le_of_ble_eq_true rfl)).mp c_51
                have hsp := hsp.trans (if_pos c_51)
                have hsp := hout_46 _ hsp
                exact j_23 _ _ _ _ ⟨g_37, g_38, rfl, hg_37, by omega, by omega, hsp.symm, hP, hD, hS, lv_sub hl [0, 1] rfl⟩
              · have c_51 : ¬ u_50 = 0 := fun z => c_51 ((nI_eq (a := u_50) (b := 0) (Nat.lt_of_le_of_lt hu_50 (Nat.le_of_ble_eq_true rfl)) (Nat.le_of_ble_eq_true rfl)).mpr z)
                have hsp := hsp.trans (if_neg c_51)
                refine lv_aload_n hx hb dX9_next_196 rfl (lv_at hl 0 rfl) ?_
                refine lv_sipush (v := 10000) hx hb dX9_next_197 (by decide) ?_
                refine lv_aload_n hx hb dX9_next_200 rfl (lv_at hl 0 rfl) ?_
                refine va_get (D := (dC, dI)) (ci := 9) (v := .int g_38) (C := RX9) (T := TX9) (N := 67) hx hb hts hiX9 hown hK hP 0 rfl rfl 23 (by decide) v_8 (fun _ h9 => h9) rfl dX9_next_201 ?_
                refine lv_bipush (v := 10) hx hb dX9_next_204 (by decide) ?_
                refine lv_imul hx hb dX9_next_206 ?_
                refine lv_topi (fun y_52 ey_52 => ?_)
                have hsp := hsp.trans (slet_eq ey_52)
                refine lv_aload_n hx hb dX9_next_207 rfl (lv_at hl 0 rfl) ?_
                refine lv_aload_n hx hb dX9_next_208 rfl (lv_at hl 0 rfl) ?_
                refine va_get (D := (dC, dI)) (ci := 9) (v := .int (nI g_37)) (C := RX9) (T := TX9) (N := 67) hx hb hts hiX9 hown hK hP 0 rfl rfl 21 (by decide) v_1 (fun _ h9 => h9) rfl dX9_next_209 ?_
                refine va_calli (va_runV (As := [.int (nI g_37)]) (rest := [.int y_52, .int 10000, .ref (ad 0)]) ⟨hx, hb, hml, hown, hts⟩ (c_EM_byteAt l dC dI _ ad ck x0 x16 x18 x19 (nI g_1) g_37 x22 g_38 x24 x25 x26 x27 x28 x29 x30 x33 x45 x46 x52 x53 x61 x62 x63 x65 x66 f1 f2 f3 q4 q5 q6 q7 f8 q9 q10 f11 m12_0 m12_1 m13_0 m13_1 m14_0 m14_1 m15_0 m15_1 f17 q31 f32 f34 f35 f36 f37 q38 f39 f40 f41 m42_0 m42_1 f43 f44 f47 f48 f49 f50 f51 q54 q55 q56 f57 q58 f59 f60 f64 g_37 hx16 hx18 hx19 hg_37 hx22 hx26 hx28 hx29 hx30 hx33 hx46 hx52 hx53 hx61 hx62 hx63 hx65 hm12_0 hm12_1 hm13_0 hm13_1 hm14_0 hm14_1 hm15_0 hm15_1 hm42_0 hm42_1 hg_37) (cwV 1 hts g_EM_next_EM_byteAt rfl rfl rfl (by decide +kernel) ⟨Nat.le_of_ble_eq_true rfl, Nat.le_of_ble_eq_true rfl⟩) ⟨pu_bl, va_recv hK hP (ci := 9) (q0 := 0) rfl rfl, pu_in hP hK hD⟩ rfl rfl hl.1 rfl (lv_room (Nat.le_of_ble_eq_true rfl)) dX9_next_212 ⟨Nat.le_of_ble_eq_true rfl, Nat.le_of_ble_eq_true rfl⟩) hS (fun q _ h => pu_fr hS hA q h) (pu_fr hS hA) (fun r_53 u t H1 locs ht hvm hw hB hz1 hk1 hS => ?_)
                have hP := pu_keep hP hk1
                clear hk1 hz1 ht hvm
                generalize H1 = H at hP hS ⊢
                rcases hw with ⟨rfl, hw⟩ | ⟨hw, hvr_53⟩
                · have hsp := hsp.trans (if_neg (Nat.not_lt.mpr hw))
                  refine lv_iadd hx hb dX9_next_215 ?_
                  refine lv_topi (fun y_54 ey_54 => ?_)
                  have hsp := hsp.trans (slet_eq ey_54)
                  refine lv_bipush (v := 48) hx hb dX9_next_216 (by decide) ?_
                  refine lv_isub hx hb dX9_next_218 ?_
                  refine lv_topi (fun y_55 ey_55 => ?_)
                  have hsp := hsp.trans (slet_eq ey_55)
                  refine va_calli (va_runS (As := [.int 10000, .int y_55]) (rest := [.ref (ad 0)]) ⟨hx, hb, hml, hown, hts⟩ (c_EM_lesser l dC dI _ ad ck x0 x16 x18 x19 (nI g_1) g_37 x22 g_38 x24 x25 x26 x27 x28 x29 x30 x33 x45 x46 x52 x53 x61 x62 x63 x65 x66 f1 f2 f3 q4 q5 q6 q7 f8 q9 q10 f11 m12_0 m12_1 m13_0 m13_1 m14_0 m14_1 m15_0 m15_1 f17 q31 f32 f34 f35 f36 f37 q38 f39 f40 f41 m42_0 m42_1 f43 f44 f47 f48 f49 f50 f51 q54 q55 q56 f57 q58 f59 f60 f64 10000 y_55 hx16 hx18 hx19 hg_37 hx22 hx26 hx28 hx29 hx30 hx33 hx46 hx52 hx53 hx61 hx62 hx63 hx65 hm12_0 hm12_1 hm13_0 hm13_1 hm14_0 hm14_1 hm15_0 hm15_1 hm42_0 hm42_1) (va_cwS 2 hts g_EM_next_EM_lesser rfl rfl rfl (by decide +kernel) ⟨Nat.le_of_ble_eq_true rfl, Nat.le_of_ble_eq_true rfl⟩) ⟨pu_bl, pu_in hP hK hD⟩ rfl rfl hl.1 rfl (lv_room (Nat.le_of_ble_eq_true rfl)) dX9_next_219 ⟨Nat.le_of_ble_eq_true rfl, Nat.le_of_ble_eq_true rfl⟩) hS (fun q _ h => pu_fr hS hA q h) (pu_fr hS hA) (fun r_56 u t H1 locs ht hvm hw hB hz1 hk1 hS => ?_)
                  have hP := pu_keep hP hk1
                  clear hk1 hz1 ht hvm
                  generalize H1 = H at hP hS ⊢
                  have ir_56 := hw
                  have hsp := hsp.trans (slet_eq ir_56)
                  refine va_put (D := (dC, dI)) (ci := 9) (v := .int r_56) (ty := .int) (C := RX9) (T := TX9) (N := 67) hx hb hts hiX9 tyX9 tyX9_ok nmX9 hown hK hP hD hS 0 rfl rfl 23 (by decide) v_8 (fun _ h9 => h9) rfl (by decide +kernel) rfl rfl (Nat.le_of_ble_eq_true rfl) dX9_next_222 (fun H locs hP hD hS => ?_)
                  have hP : va_P (dC, dI) vwCl (mo_w ad ck x0 (nI x16) (nI x18) (nI x19) (nI g_1) (nI g_37) (nI x22) r_56 x24 x25 (nI x26) x27 (nI x28) (nI x29) (nI x30) (nI x33) x45 (nI x46) (nI x52) (nI x53) (nI x61) (nI x62) (nI x63) (nI x65) x66 f1 f2 f3 (bN 3 q4) (bN 7 q5) (bN 7 q6) (bN 4 q7) f8 (bN 2 q9) (bH q10) f11 (b2 m12_0 m12_1) (b2 m13_0 m13_1) (b2 m14_0 m14_1) (b2m m15_0 m15_1) f17 (bA 159 q31) f32 f34 f35 f36 f37 (bN 7 q38) f39 f40 f41 (b2 m42_0 m42_1) f43 f44 f47 f48 f49 f50 f51 (bN 13 q54) (bN 120 q55) (bN 120 q56) f57 (bN 120 q58) f59 f60 f64) H := hP
                  have hD : va_D A (mo_w ad ck x0 (nI x16) (nI x18) (nI x19) (nI g_1) (nI g_37) (nI x22) r_56 x24 x25 (nI x26) x27 (nI x28) (nI x29) (nI x30) (nI x33) x45 (nI x46) (nI x52) (nI x53) (nI x61) (nI x62) (nI x63) (nI x65) x66 f1 f2 f3 (bN 3 q4) (bN 7 q5) (bN 7 q6) (bN 4 q7) f8 (bN 2 q9) (bH q10) f11 (b2 m12_0 m12_1) (b2 m13_0 m13_1) (b2 m14_0 m14_1) (b2m m15_0 m15_1) f17 (bA 159 q31) f32 f34 f35 f36 f37 (bN 7 q38) f39 f40 f41 (b2 m42_0 m42_1) f43 f44 f47 f48 f49 f50 f51 (bN 13 q54) (bN 120 q55) (bN 120 q56) f57 (bN 120 q58) f59 f60 f64) := hD
                  refine lv_aload_n hx hb dX9_next_225 rfl (lv_at hl 0 rfl) ?_
                  refine lv_dup hx hb dX9_next_226 rfl ?_
                  refine va_get (D := (dC, dI)) (ci := 9) (v := .int (nI g_37)) (C := RX9) (T := TX9) (N := 67) hx hb hts hiX9 hown hK hP 0 rfl rfl 21 (by decide) v_1 (fun _ h9 => h9) rfl dX9_next_227 ?_
                  refine lv_iconst (v := 1) hx hb dX9_next_230 (by decide) ?_
                  refine lv_iadd hx hb dX9_next_231 ?_
                  refine lv_topi (fun y_57 ey_57 => ?_)
                  obtain rfl : y_57 = (nI (g_37 + 1)) := ey_57.trans (nI_add g_37 1)
                  refine va_put (D := (dC, dI)) (ci := 9) (v := .int (nI (g_37 + 1))) (ty := .int) (C := RX9) (T := TX9) (N := 67) hx hb hts hiX9 tyX9 tyX9_ok nmX9 hown hK hP hD hS 0 rfl rfl 21 (by decide) v_1 (fun _ h9 => h9) rfl (by decide +kernel) rfl rfl (Nat.le_of_ble_eq_true rfl) dX9_next_232 (fun H locs hP hD hS => ?_)
                  have hP : va_P (dC, dI) vwCl (mo_w ad ck x0 (nI x16) (nI x18) (nI x19) (nI g_1) (nI (g_37 + 1)) (nI x22) r_56 x24 x25 (nI x26) x27 (nI x28) (nI x29) (nI x30) (nI x33) x45 (nI x46) (nI x52) (nI x53) (nI x61) (nI x62) (nI x63) (nI x65) x66 f1 f2 f3 (bN 3 q4) (bN 7 q5) (bN 7 q6) (bN 4 q7) f8 (bN 2 q9) (bH q10) f11 (b2 m12_0 m12_1) (b2 m13_0 m13_1) (b2 m14_0 m14_1) (b2m m15_0 m15_1) f17 (bA 159 q31) f32 f34 f35 f36 f37 (bN 7 q38) f39 f40 f41 (b2 m42_0 m42_1) f43 f44 f47 f48 f49 f50 f51 (bN 13 q54) (bN 120 q55) (bN 120 q56) f57 (bN 120 q58) f59 f60 f64) H := hP
                  have hD : va_D A (mo_w ad ck x0 (nI x16) (nI x18) (nI x19) (nI g_1) (nI (g_37 + 1)) (nI x22) r_56 x24 x25 (nI x26) x27 (nI x28) (nI x29) (nI x30) (nI x33) x45 (nI x46) (nI x52) (nI x53) (nI x61) (nI x62) (nI x63) (nI x65) x66 f1 f2 f3 (bN 3 q4) (bN 7 q5) (bN 7 q6) (bN 4 q7) f8 (bN 2 q9) (bH q10) f11 (b2 m12_0 m12_1) (b2 m13_0 m13_1) (b2 m14_0 m14_1) (b2m m15_0 m15_1) f17 (bA 159 q31) f32 f34 f35 f36 f37 (bN 7 q38) f39 f40 f41 (b2 m42_0 m42_1) f43 f44 f47 f48 f49 f50 f51 (bN 13 q54) (bN 120 q55) (bN 120 q56) f57 (bN 120 q58) f59 f60 f64) := hD
                  refine lv_goto (tgt := 182) hx hb dX9_next_235 (by decide) ?_
                  exact ih_41 (900 - (g_37 + 1)) (by omega) _ _ _ ⟨(g_37 + 1), r_56, rfl, (by omega), by omega, by omega, hin_45 _ hsp, hP, hD, hS, lv_sub hl [0, 1] rfl⟩
                · have hcl : cl r_53 = cl (f17 g_37) := congrArg cl hvr_53
                  have hsp := hsp.trans (if_pos hw)
                  have hsp := hsp.trans (slet_eq hvr_53)
                  refine lv_iadd hx hb dX9_next_215 ?_
                  refine lv_topi (fun y_58 ey_58 => ?_)
                  have hsp := hsp.trans (slet_eq ey_58)
                  refine lv_bipush (v := 48) hx hb dX9_next_216 (by decide) ?_
                  refine lv_isub hx hb dX9_next_218 ?_
                  refine lv_topi (fun y_59 ey_59 => ?_)
                  have hsp := hsp.trans (slet_eq ey_59)
                  refine va_calli (va_runS (As := [.int 10000, .int y_59]) (rest := [.ref (ad 0)]) ⟨hx, hb, hml, hown, hts⟩ (c_EM_lesser l dC dI _ ad ck x0 x16 x18 x19 (nI g_1) g_37 x22 g_38 x24 x25 x26 x27 x28 x29 x30 x33 x45 x46 x52 x53 x61 x62 x63 x65 x66 f1 f2 f3 q4 q5 q6 q7 f8 q9 q10 f11 m12_0 m12_1 m13_0 m13_1 m14_0 m14_1 m15_0 m15_1 f17 q31 f32 f34 f35 f36 f37 q38 f39 f40 f41 m42_0 m42_1 f43 f44 f47 f48 f49 f50 f51 q54 q55 q56 f57 q58 f59 f60 f64 10000 y_59 hx16 hx18 hx19 hg_37 hx22 hx26 hx28 hx29 hx30 hx33 hx46 hx52 hx53 hx61 hx62 hx63 hx65 hm12_0 hm12_1 hm13_0 hm13_1 hm14_0 hm14_1 hm15_0 hm15_1 hm42_0 hm42_1) (va_cwS 2 hts g_EM_next_EM_lesser rfl rfl rfl (by decide +kernel) ⟨Nat.le_of_ble_eq_true rfl, Nat.le_of_ble_eq_true rfl⟩) ⟨pu_bl, pu_in hP hK hD⟩ rfl rfl hl.1 rfl (lv_room (Nat.le_of_ble_eq_true rfl)) dX9_next_219 ⟨Nat.le_of_ble_eq_true rfl, Nat.le_of_ble_eq_true rfl⟩) hS (fun q _ h => pu_fr hS hA q h) (pu_fr hS hA) (fun r_60 u t H1 locs ht hvm hw hB hz1 hk1 hS => ?_)
                  have hP := pu_keep hP hk1
                  clear hk1 hz1 ht hvm
                  generalize H1 = H at hP hS ⊢
                  have ir_60 := hw
                  have hsp := hsp.trans (slet_eq ir_60)
                  refine va_put (D := (dC, dI)) (ci := 9) (v := .int r_60) (ty := .int) (C := RX9) (T := TX9) (N := 67) hx hb hts hiX9 tyX9 tyX9_ok nmX9 hown hK hP hD hS 0 rfl rfl 23 (by decide) v_8 (fun _ h9 => h9) rfl (by decide +kernel) rfl rfl (Nat.le_of_ble_eq_true rfl) dX9_next_222 (fun H locs hP hD hS => ?_)
                  have hP : va_P (dC, dI) vwCl (mo_w ad ck x0 (nI x16) (nI x18) (nI x19) (nI g_1) (nI g_37) (nI x22) r_60 x24 x25 (nI x26) x27 (nI x28) (nI x29) (nI x30) (nI x33) x45 (nI x46) (nI x52) (nI x53) (nI x61) (nI x62) (nI x63) (nI x65) x66 f1 f2 f3 (bN 3 q4) (bN 7 q5) (bN 7 q6) (bN 4 q7) f8 (bN 2 q9) (bH q10) f11 (b2 m12_0 m12_1) (b2 m13_0 m13_1) (b2 m14_0 m14_1) (b2m m15_0 m15_1) f17 (bA 159 q31) f32 f34 f35 f36 f37 (bN 7 q38) f39 f40 f41 (b2 m42_0 m42_1) f43 f44 f47 f48 f49 f50 f51 (bN 13 q54) (bN 120 q55) (bN 120 q56) f57 (bN 120 q58) f59 f60 f64) H := hP
                  have hD : va_D A (mo_w ad ck x0 (nI x16) (nI x18) (nI x19) (nI g_1) (nI g_37) (nI x22) r_60 x24 x25 (nI x26) x27 (nI x28) (nI x29) (nI x30) (nI x33) x45 (nI x46) (nI x52) (nI x53) (nI x61) (nI x62) (nI x63) (nI x65) x66 f1 f2 f3 (bN 3 q4) (bN 7 q5) (bN 7 q6) (bN 4 q7) f8 (bN 2 q9) (bH q10) f11 (b2 m12_0 m12_1) (b2 m13_0 m13_1) (b2 m14_0 m14_1) (b2m m15_0 m15_1) f17 (bA 159 q31) f32 f34 f35 f36 f37 (bN 7 q38) f39 f40 f41 (b2 m42_0 m42_1) f43 f44 f47 f48 f49 f50 f51 (bN 13 q54) (bN 120 q55) (bN 120 q56) f57 (bN 120 q58) f59 f60 f64) := hD
                  refine lv_aload_n hx hb dX9_next_225 rfl (lv_at hl 0 rfl) ?_
                  refine lv_dup hx hb dX9_next_226 rfl ?_
                  refine va_get (D := (dC, dI)) (ci := 9) (v := .int (nI g_37)) (C := RX9) (T := TX9) (N := 67) hx hb hts hiX9 hown hK hP 0 rfl rfl 21 (by decide) v_1 (fun _ h9 => h9) rfl dX9_next_227 ?_
                  refine lv_iconst (v := 1) hx hb dX9_next_230 (by decide) ?_
                  refine lv_iadd hx hb dX9_next_231 ?_
                  refine lv_topi (fun y_61 ey_61 => ?_)
                  obtain rfl : y_61 = (nI (g_37 + 1)) := ey_61.trans (nI_add g_37 1)
                  refine va_put (D := (dC, dI)) (ci := 9) (v := .int (nI (g_37 + 1))) (ty := .int) (C := RX9) (T := TX9) (N := 67) hx hb hts hiX9 tyX9 tyX9_ok nmX9 hown hK hP hD hS 0 rfl rfl 21 (by decide) v_1 (fun _ h9 => h9) rfl (by decide +kernel) rfl rfl (Nat.le_of_ble_eq_true rfl) dX9_next_232 (fun H locs hP hD hS => ?_)
                  have hP : va_P (dC, dI) vwCl (mo_w ad ck x0 (nI x16) (nI x18) (nI x19) (nI g_1) (nI (g_37 + 1)) (nI x22) r_60 x24 x25 (nI x26) x27 (nI x28) (nI x29) (nI x30) (nI x33) x45 (nI x46) (nI x52) (nI x53) (nI x61) (nI x62) (nI x63) (nI x65) x66 f1 f2 f3 (bN 3 q4) (bN 7 q5) (bN 7 q6) (bN 4 q7) f8 (bN 2 q9) (bH q10) f11 (b2 m12_0 m12_1) (b2 m13_0 m13_1) (b2 m14_0 m14_1) (b2m m15_0 m15_1) f17 (bA 159 q31) f32 f34 f35 f36 f37 (bN 7 q38) f39 f40 f41 (b2 m42_0 m42_1) f43 f44 f47 f48 f49 f50 f51 (bN 13 q54) (bN 120 q55) (bN 120 q56) f57 (bN 120 q58) f59 f60 f64) H := hP
                  have hD : va_D A (mo_w ad ck x0 (nI x16) (nI x18) (nI x19) (nI g_1) (nI (g_37 + 1)) (nI x22) r_60 x24 x25 (nI x26) x27 (nI x28) (nI x29) (nI x30) (nI x33) x45 (nI x46) (nI x52) (nI x53) (nI x61) (nI x62) (nI x63) (nI x65) x66 f1 f2 f3 (bN 3 q4) (bN 7 q5) (bN 7 q6) (bN 4 q7) f8 (bN 2 q9) (bH q10) f11 (b2 m12_0 m12_1) (b2 m13_0 m13_1) (b2 m14_0 m14_1) (b2m m15_0 m15_1) f17 (bA 159 q31) f32 f34 f35 f36 f37 (bN 7 q38) f39 f40 f41 (b2 m42_0 m42_1) f43 f44 f47 f48 f49 f50 f51 (bN 13 q54) (bN 120 q55) (bN 120 q56) f57 (bN 120 q58) f59 f60 f64) := hD
                  refine lv_goto (tgt := 182) hx hb dX9_next_235 (by decide) ?_
                  exact ih_41 (900 - (g_37 + 1)) (by omega) _ _ _ ⟨(g_37 + 1), r_60, rfl, (by omega), by omega, by omega, hin_45 _ hsp, hP, hD, hS, lv_sub hl [0, 1] rfl⟩
        · have c_10 : ¬ u_9 = 0 := fun z => c_10 ((nI_eq (a := u_9) (b := 0) (Nat.lt_of_le_of_lt hu_9 (Nat.le_of_ble_eq_true rfl)) (Nat.le_of_ble_eq_true rfl)).mpr z)
          have hsp := hsp.trans (if_neg c_10)
          obtain ⟨JR_67, hJR_67, hsp⟩ := slet_ex hsp
          refine pu_join (fun H locs ls st => ∃ (g_62 : Nat) (g_63 : Int32), st = [] ∧ g_62 ≤ 900 ∧ x21 ≤ g_62 ∧ g_1 < g_62 ∧ (g_62, g_63) = JR_67 ∧ va_P (dC, dI) vwCl (mo_w ad ck x0 (nI x16) (nI x18) (nI x19) (nI g_1) (nI g_62) (nI x22) g_63 x24 x25 (nI x26) x27 (nI x28) (nI x29) (nI x30) (nI x33) x45 (nI x46) (nI x52) (nI x53) (nI x61) (nI x62) (nI x63) (nI x65) x66 f1 f2 f3 (bN 3 q4) (bN 7 q5) (bN 7 q6) (bN 4 q7) f8 (bN 2 q9) (bH q10) f11 (b2 m12_0 m12_1) (b2 m13_0 m13_1) (b2 m14_0 m14_1) (b2m m15_0 m15_1) f17 (bA 159 q31) f32 f34 f35 f36 f37 (bN 7 q38) f39 f40 f41 (b2 m42_0 m42_1) f43 f44 f47 f48 f49 f50 f51 (bN 13 q54) (bN 120 q55) (bN 120 q56) f57 (bN 120 q58) f59 f60 f64) H ∧ va_D A (mo_w ad ck x0 (nI x16) (nI x18) (nI x19) (nI g_1) (nI g_62) (nI x22) g_63 x24 x25 (nI x26) x27 (nI x28) (nI x29) (nI x30) (nI x33) x45 (nI x46) (nI x52) (nI x53) (nI x61) (nI x62) (nI x63) (nI x65) x66 f1 f2 f3 (bN 3 q4) (bN 7 q5) (bN 7 q6) (bN 4 q7) f8 (bN 2 q9) (bH q10) f11 (b2 m12_0 m12_1) (b2 m13_0 m13_1) (b2 m14_0 m14_1) (b2m m15_0 m15_1) f17 (bA 159 q31) f32 f34 f35 f36 f37 (bN 7 q38) f39 f40 f41 (b2 m42_0 m42_1) f43 f44 f47 f48 f49 f50 f51 (bN 13 q54) (bN 120 q55) (bN 120 q56) f57 (bN 120 q58) f59 f60 f64) ∧ va_S A s.heap H locs ∧ lv_has ls 2 [(0, .ref (ad 0)), (1, .int r_6)]) 149 ?_ (fun j_66 => ?_)
          · rintro H locs ls st ⟨g_62, g_63, rfl, hg_62, he_64, he_65, he_68, hP, hD, hS, hl⟩
            rw [← he_68] at hsp
            refine lv_aload_n hx hb dX9_next_149 rfl (lv_at hl 0 rfl) ?_
            refine lv_aload_n hx hb dX9_next_150 rfl (lv_at hl 0 rfl) ?_
            refine va_get (D := (dC, dI)) (ci := 9) (v := .int (nI g_62)) (C := RX9) (T := TX9) (N := 67) hx hb hts hiX9 hown hK hP 0 rfl rfl 21 (by decide) v_1 (fun _ h9 => h9) rfl dX9_next_151 ?_
            refine lv_aload_n hx hb dX9_next_154 rfl (lv_at hl 0 rfl) ?_
            refine va_get (D := (dC, dI)) (ci := 9) (v := .int (nI g_1)) (C := RX9) (T := TX9) (N := 67) hx hb hts hiX9 hown hK hP 0 rfl rfl 20 (by decide) v_7 (fun _ h9 => h9) rfl dX9_next_155 ?_
            refine lv_isub hx hb dX9_next_158 ?_
            refine lv_topi (fun y_69 ey_69 => ?_)
            have hsp := hsp.trans (slet_eq ey_69)
            refine lv_bipush (v := 6) hx hb dX9_next_159 (by decide) ?_
            refine lv_icmp_le (tgt := 168) hx hb dX9_next_161 (by decide) (fun c_70 => ?_) (fun c_70 => ?_)
            · have hcc_70 := c_70
              have hsp := hsp.trans (if_pos c_70)
              refine lv_iconst (v := 1) hx hb dX9_next_168 (by decide) ?_
              refine va_put (D := (dC, dI)) (ci := 9) (v := .int 1) (ty := .int) (C := RX9) (T := TX9) (N := 67) hx hb hts hiX9 tyX9 tyX9_ok nmX9 hown hK hP hD hS 0 rfl rfl 22 (by decide) v_9 (fun _ h9 => h9) rfl (by decide +kernel) rfl rfl (Nat.le_of_ble_eq_true rfl) dX9_next_169 (fun H locs hP hD hS => ?_)
              have hP : va_P (dC, dI) vwCl (mo_w ad ck x0 (nI x16) (nI x18) (nI x19) (nI g_1) (nI g_62) 1 g_63 x24 x25 (nI x26) x27 (nI x28) (nI x29) (nI x30) (nI x33) x45 (nI x46) (nI x52) (nI x53) (nI x61) (nI x62) (nI x63) (nI x65) x66 f1 f2 f3 (bN 3 q4) (bN 7 q5) (bN 7 q6) (bN 4 q7) f8 (bN 2 q9) (bH q10) f11 (b2 m12_0 m12_1) (b2 m13_0 m13_1) (b2 m14_0 m14_1) (b2m m15_0 m15_1) f17 (bA 159 q31) f32 f34 f35 f36 f37 (bN 7 q38) f39 f40 f41 (b2 m42_0 m42_1) f43 f44 f47 f48 f49 f50 f51 (bN 13 q54) (bN 120 q55) (bN 120 q56) f57 (bN 120 q58) f59 f60 f64) H := hP
              have hD : va_D A (mo_w ad ck x0 (nI x16) (nI x18) (nI x19) (nI g_1) (nI g_62) 1 g_63 x24 x25 (nI x26) x27 (nI x28) (nI x29) (nI x30) (nI x33) x45 (nI x46) (nI x52) (nI x53) (nI x61) (nI x62) (nI x63) (nI x65) x66 f1 f2 f3 (bN 3 q4) (bN 7 q5) (bN 7 q6) (bN 4 q7) f8 (bN 2 q9) (bH q10) f11 (b2 m12_0 m12_1) (b2 m13_0 m13_1) (b2 m14_0 m14_1) (b2m m15_0 m15_1) f17 (bA 159 q31) f32 f34 f35 f36 f37 (bN 7 q38) f39 f40 f41 (b2 m42_0 m42_1) f43 f44 f47 f48 f49 f50 f51 (bN 13 q54) (bN 120 q55) (bN 120 q56) f57 (bN 120 q58) f59 f60 f64) := hD
              refine lv_goto (tgt := 325) hx hb dX9_next_172 (by decide) ?_
              exact W.vret hx hb hr (fun t ht hW => ⟨⟨(), rfl, trivial, ⟨(nI g_1), g_62, 1, g_63, ⟨by rw [ht]; exact hP, va_K.moved hW.alike hK, hD⟩, hg_62, (Nat.le_of_ble_eq_true rfl), by first | exact mu_le (by omega) | exact Nat.le_of_lt (mu_lt (by omega) (by omega)), by first | exact Or.inr (mu_lt (by omega) (by omega)) | (by_cases hz : x22 = 0; exact Or.inl hz; exact Or.inr (mu_e (by omega) hz)), (hsp.symm.trans hRR)⟩⟩, hS.F ht⟩) hS.2.2 dX9_next_325
            · have hcc_70 := c_70
              have hsp := hsp.trans (if_neg c_70)
              refine lv_iconst (v := 4) hx hb dX9_next_164 (by decide) ?_
              refine lv_goto (tgt := 169) hx hb dX9_next_165 (by decide) ?_
              refine va_put (D := (dC, dI)) (ci := 9) (v := .int 4) (ty := .int) (C := RX9) (T := TX9) (N := 67) hx hb hts hiX9 tyX9 tyX9_ok nmX9 hown hK hP hD hS 0 rfl rfl 22 (by decide) v_9 (fun _ h9 => h9) rfl (by decide +kernel) rfl rfl (Nat.le_of_ble_eq_true rfl) dX9_next_169 (fun H locs hP hD hS => ?_)
              have hP : va_P (dC, dI) vwCl (mo_w ad ck x0 (nI x16) (nI x18) (nI x19) (nI g_1) (nI g_62) 4 g_63 x24 x25 (nI x26) x27 (nI x28) (nI x29) (nI x30) (nI x33) x45 (nI x46) (nI x52) (nI x53) (nI x61) (nI x62) (nI x63) (nI x65) x66 f1 f2 f3 (bN 3 q4) (bN 7 q5) (bN 7 q6) (bN 4 q7) f8 (bN 2 q9) (bH q10) f11 (b2 m12_0 m12_1) (b2 m13_0 m13_1) (b2 m14_0 m14_1) (b2m m15_0 m15_1) f17 (bA 159 q31) f32 f34 f35 f36 f37 (bN 7 q38) f39 f40 f41 (b2 m42_0 m42_1) f43 f44 f47 f48 f49 f50 f51 (bN 13 q54) (bN 120 q55) (bN 120 q56) f57 (bN 120 q58) f59 f60 f64) H := hP
              have hD : va_D A (mo_w ad ck x0 (nI x16) (nI x18) (nI x19) (nI g_1) (nI g_62) 4 g_63 x24 x25 (nI x26) x27 (nI x28) (nI x29) (nI x30) (nI x33) x45 (nI x46) (nI x52) (nI x53) (nI x61) (nI x62) (nI x63) (nI x65) x66 f1 f2 f3 (bN 3 q4) (bN 7 q5) (bN 7 q6) (bN 4 q7) f8 (bN 2 q9) (bH q10) f11 (b2 m12_0 m12_1) (b2 m13_0 m13_1) (b2 m14_0 m14_1) (b2m m15_0 m15_1) f17 (bA 159 q31) f32 f34 f35 f36 f37 (bN 7 q38) f39 f40 f41 (b2 m42_0 m42_1) f43 f44 f47 f48 f49 f50 f51 (bN 13 q54) (bN 120 q55) (bN 120 q56) f57 (bN 120 q58) f59 f60 f64) := hD
              refine lv_goto (tgt := 325) hx hb dX9_next_172 (by decide) ?_
              exact W.vret hx hb hr (fun t ht hW => ⟨⟨(), rfl, trivial, ⟨(nI g_1), g_62, 4, g_63, ⟨by rw [ht]; exact hP, va_K.moved hW.alike hK, hD⟩, hg_62, (Nat.le_of_ble_eq_true rfl), by first | exact mu_le (by omega) | exact Nat.le_of_lt (mu_lt (by omega) (by omega)), by first | exact Or.inr (mu_lt (by omega) (by omega)) | (by_cases hz : x22 = 0; exact Or.inl hz; exact Or.inr (mu_e (by omega) hz)), (hsp.symm.trans hRR)⟩⟩, hS.F ht⟩) hS.2.2 dX9_next_325
          have hsp := hJR_67
          obtain ⟨lf_80, dlf_80, hlf_80, hsp⟩ := itr_ex hsp
          delta sp_EM_next_L3 at hlf_80
          refine pu_while (fun nn H locs ls => ∃ (g_75 : Nat) (g_76 : Int32), nn = 900 - g_75 ∧ g_75 ≤ 900 ∧ x21 ≤ g_75 ∧ (g_1 < g_75 ∨ (g_1 = g_75 ∧ cl (f17 g_75) = 1)) ∧ JR_67 = itrv dlf_80 lf_80 (g_75, g_76) ∧ va_P (dC, dI) vwCl (mo_w ad ck x0 (nI x16) (nI x18) (nI x19) (nI g_1) (nI g_75) (nI x22) g_76 x24 x25 (nI x26) x27 (nI x28) (nI x29) (nI x30) (nI x33) x45 (nI x46) (nI x52) (nI x53) (nI x61) (nI x62) (nI x63) (nI x65) x66 f1 f2 f3 (bN 3 q4) (bN 7 q5) (bN 7 q6) (bN 4 q7) f8 (bN 2 q9) (bH q10) f11 (b2 m12_0 m12_1) (b2 m13_0 m13_1) (b2 m14_0 m14_1) (b2m m15_0 m15_1) f17 (bA 159 q31) f32 f34 f35 f36 f37 (bN 7 q38) f39 f40 f41 (b2 m42_0 m42_1) f43 f44 f47 f48 f49 f50 f51 (bN 13 q54) (bN 120 q55) (bN 120 q56) f57 (bN 120 q58) f59 f60 f64) H ∧ va_D A (mo_w ad ck x0 (nI x16) (nI x18) (nI x19) (nI g_1) (nI g_75) (nI x22) g_76 x24 x25 (nI x26) x27 (nI x28) (nI x29) (nI x30) (nI x33) x45 (nI x46) (nI x52) (nI x53) (nI x61) (nI x62) (nI x63) (nI x65) x66 f1 f2 f3 (bN 3 q4) (bN 7 q5) (bN 7 q6) (bN 4 q7) f8 (bN 2 q9) (bH q10) f11 (b2 m12_0 m12_1) (b2 m13_0 m13_1) (b2 m14_0 m14_1) (b2m m15_0 m15_1) f17 (bA 159 q31) f32 f34 f35 f36 f37 (bN 7 q38) f39 f40 f41 (b2 m42_0 m42_1) f43 f44 f47 f48 f49 f50 f51 (bN 13 q54) (bN 120 q55) (bN 120 q56) f57 (bN 120 q58) f59 f60 f64) ∧ va_S A s.heap H locs ∧ lv_has ls 2 [(0, .ref (ad 0)), (1, .int r_6)]) 81 ?_ _ _ _ _ ⟨g_1, 0, rfl, hg_1, by omega, by omega, hsp, hP, hD, hS, lv_sub hl [1, 0] rfl⟩
          rintro nn ih_79 H locs ls ⟨g_75, g_76, rfl, hg_75, he_77, he_78, he_82, hP, hD, hS, hl⟩
          obtain ⟨S_81, hsp, hin_83, hout_84⟩ := itr_step hlf_80 he_82
          refine lv_aload_n hx hb dX9_next_81 rfl (lv_at hl 0 rfl) ?_
          refine lv_aload_n hx hb dX9_next_82 rfl (lv_at hl 0 rfl) ?_
          refine va_get (D := (dC, dI)) (ci := 9) (v := .int (nI g_75)) (C := RX9) (T := TX9) (N := 67) hx hb hts hiX9 hown hK hP 0 rfl rfl 21 (by decide) v_1 (fun _ h9 => h9) rfl dX9_next_83 ?_
          refine va_calli (va_runV (As := [.int (nI g_75)]) (rest := []) ⟨hx, hb, hml, hown, hts⟩ (c_EM_byteAt l dC dI _ ad ck x0 x16 x18 x19 (nI g_1) g_75 x22 g_76 x24 x25 x26 x27 x28 x29 x30 x33 x45 x46 x52 x53 x61 x62 x63 x65 x66 f1 f2 f3 q4 q5 q6 q7 f8 q9 q10 f11 m12_0 m12_1 m13_0 m13_1 m14_0 m14_1 m15_0 m15_1 f17 q31 f32 f34 f35 f36 f37 q38 f39 f40 f41 m42_0 m42_1 f43 f44 f47 f48 f49 f50 f51 q54 q55 q56 f57 q58 f59 f60 f64 g_75 hx16 hx18 hx19 hg_75 hx22 hx26 hx28 hx29 hx30 hx33 hx46 hx52 hx53 hx61 hx62 hx63 hx65 hm12_0 hm12_1 hm13_0 hm13_1 hm14_0 hm14_1 hm15_0 hm15_1 hm42_0 hm42_1 hg_75) (cwV 1 hts g_EM_next_EM_byteAt rfl rfl rfl (by decide +kernel) ⟨Nat.le_of_ble_eq_true rfl, Nat.le_of_ble_eq_true rfl⟩) ⟨pu_bl, va_recv hK hP (ci := 9) (q0 := 0) rfl rfl, pu_in hP hK hD⟩ rfl rfl hl.1 rfl (lv_room (Nat.le_of_ble_eq_true rfl)) dX9_next_86 ⟨Nat.le_of_ble_eq_true rfl, Nat.le_of_ble_eq_true rfl⟩) hS (fun q _ h => pu_fr hS hA q h) (pu_fr hS hA) (fun r_85 u t H1 locs ht hvm hw hB hz1 hk1 hS => ?_)
          have hP := pu_keep hP hk1
          clear hk1 hz1 ht hvm
          generalize H1 = H at hP hS ⊢
          rcases hw with ⟨rfl, hw⟩ | ⟨hw, hvr_85⟩
          · have hsp := hsp.trans (if_neg (Nat.not_lt.mpr hw))
            refine va_calli (va_runS (As := [.int (-1)]) (rest := []) ⟨hx, hb, hml, hown, hts⟩ (c_EM_isSmall_n l dC dI _ ad ck x0 x16 x18 x19 (nI g_1) g_75 x22 g_76 x24 x25 x26 x27 x28 x29 x30 x33 x45 x46 x52 x53 x61 x62 x63 x65 x66 f1 f2 f3 q4 q5 q6 q7 f8 q9 q10 f11 m12_0 m12_1 m13_0 m13_1 m14_0 m14_1 m15_0 m15_1 f17 q31 f32 f34 f35 f36 f37 q38 f39 f40 f41 m42_0 m42_1 f43 f44 f47 f48 f49 f50 f51 q54 q55 q56 f57 q58 f59 f60 f64 hx16 hx18 hx19 hg_75 hx22 hx26 hx28 hx29 hx30 hx33 hx46 hx52 hx53 hx61 hx62 hx63 hx65 hm12_0 hm12_1 hm13_0 hm13_1 hm14_0 hm14_1 hm15_0 hm15_1 hm42_0 hm42_1) (va_cwS 1 hts g_EM_next_EM_isSmall_n rfl rfl rfl (by decide +kernel) ⟨Nat.le_of_ble_eq_true rfl, Nat.le_of_ble_eq_true rfl⟩) ⟨pu_bl, pu_in hP hK hD⟩ rfl rfl hl.1 rfl (lv_room (Nat.le_of_ble_eq_true rfl)) dX9_next_89 ⟨Nat.le_of_ble_eq_true rfl, Nat.le_of_ble_eq_true rfl⟩) hS (fun q _ h => pu_fr hS hA q h) (pu_fr hS hA) (fun r_86 u t H1 locs ht hvm hw hB hz1 hk1 hS => ?_)
            have hP := pu_keep hP hk1
            clear hk1 hz1 ht hvm
            generalize H1 = H at hP hS ⊢
            obtain rfl : r_86 = 0 := hw
            refine lv_if_eq (tgt := 149) hx hb dX9_next_92 (by decide) (fun _ => ?_) (fun z => absurd z (by decide))
            have hsp := hout_84 _ hsp
            exact j_66 _ _ _ _ ⟨g_75, g_76, rfl, hg_75, by omega, by omega, hsp.symm, hP, hD, hS, lv_sub hl [0, 1] rfl⟩
          · have hcl : cl r_85 = cl (f17 g_75) := congrArg cl hvr_85
            have hsp := hsp.trans (if_pos hw)
            have hsp := hsp.trans (slet_eq hvr_85)
            refine va_calli (va_runS (As := [.int r_85]) (rest := []) ⟨hx, hb, hml, hown, hts⟩ (c_EM_isSmall l dC dI _ ad ck x0 x16 x18 x19 (nI g_1) g_75 x22 g_76 x24 x25 x26 x27 x28 x29 x30 x33 x45 x46 x52 x53 x61 x62 x63 x65 x66 f1 f2 f3 q4 q5 q6 q7 f8 q9 q10 f11 m12_0 m12_1 m13_0 m13_1 m14_0 m14_1 m15_0 m15_1 f17 q31 f32 f34 f35 f36 f37 q38 f39 f40 f41 m42_0 m42_1 f43 f44 f47 f48 f49 f50 f51 q54 q55 q56 f57 q58 f59 f60 f64 r_85 hx16 hx18 hx19 hg_75 hx22 hx26 hx28 hx29 hx30 hx33 hx46 hx52 hx53 hx61 hx62 hx63 hx65 hm12_0 hm12_1 hm13_0 hm13_1 hm14_0 hm14_1 hm15_0 hm15_1 hm42_0 hm42_1) (va_cwS 1 hts g_EM_next_EM_isSmall rfl rfl rfl (by decide +kernel) ⟨Nat.le_of_ble_eq_true rfl, Nat.le_of_ble_eq_true rfl⟩) ⟨pu_bl, pu_in hP hK hD⟩ rfl rfl hl.1 rfl (lv_room (Nat.le_of_ble_eq_true rfl)) dX9_next_89 ⟨Nat.le_of_ble_eq_true rfl, Nat.le_of_ble_eq_true rfl⟩) hS (fun q _ h => pu_fr hS hA q h) (pu_fr hS hA) (fun r_87 u t H1 locs ht hvm hw hB hz1 hk1 hS => ?_)
            have hP := pu_keep hP hk1
            clear hk1 hz1 ht hvm
            generalize H1 = H at hP hS ⊢
            obtain ⟨u_88, hu_88, rfl, ju_88, iu_88⟩ := hw
            have hsp := hsp.trans (slet_eq iu_88)
            refine lv_if_eq (tgt := 149) hx hb dX9_next_92 (by decide) (fun c_89 => ?_) (fun c_89 => ?_)
            · have c_89 : u_88 = 0 := (nI_eq (a := u_88) (b := 0) (Nat.lt_of_le_of_lt hu_88 (Nat.le_of_ble_eq_true rfl)) (Nat.le_of_ble_eq_true rfl)).mp c_89
              have hsp := hsp.trans (if_pos c_89)
              have hsp := hout_84 _ hsp
              exact j_66 _ _ _ _ ⟨g_75, g_76, rfl, hg_75, by omega, by omega, hsp.symm, hP, hD, hS, lv_sub hl [0, 1] rfl⟩
            · have c_89 : ¬ u_88 = 0 := fun z => c_89 ((nI_eq (a := u_88) (b := 0) (Nat.lt_of_le_of_lt hu_88 (Nat.le_of_ble_eq_true rfl)) (Nat.le_of_ble_eq_true rfl)).mpr z)
              have hsp := hsp.trans (if_neg c_89)
              refine lv_aload_n hx hb dX9_next_95 rfl (lv_at hl 0 rfl) ?_
              refine lv_aload_n hx hb dX9_next_96 rfl (lv_at hl 0 rfl) ?_
              refine va_get (D := (dC, dI)) (ci := 9) (v := .int (nI g_75)) (C := RX9) (T := TX9) (N := 67) hx hb hts hiX9 hown hK hP 0 rfl rfl 21 (by decide) v_1 (fun _ h9 => h9) rfl dX9_next_97 ?_
              refine lv_aload_n hx hb dX9_next_100 rfl (lv_at hl 0 rfl) ?_
              refine va_get (D := (dC, dI)) (ci := 9) (v := .int (nI g_1)) (C := RX9) (T := TX9) (N := 67) hx hb hts hiX9 hown hK hP 0 rfl rfl 20 (by decide) v_7 (fun _ h9 => h9) rfl dX9_next_101 ?_
              refine lv_isub hx hb dX9_next_104 ?_
              refine lv_topi (fun y_90 ey_90 => ?_)
              have hsp := hsp.trans (slet_eq ey_90)
              refine lv_bipush (v := 6) hx hb dX9_next_105 (by decide) ?_
              obtain ⟨JR_94, hJR_94, hsp⟩ := slet_ex hsp
              refine pu_join (fun H locs ls st => ∃ (g_91 : Int32), st = [.int g_91, .ref (ad 0)] ∧ x21 ≤ g_75 ∧ g_91 = JR_94 ∧ va_P (dC, dI) vwCl (mo_w ad ck x0 (nI x16) (nI x18) (nI x19) (nI g_1) (nI g_75) (nI x22) g_76 x24 x25 (nI x26) x27 (nI x28) (nI x29) (nI x30) (nI x33) x45 (nI x46) (nI x52) (nI x53) (nI x61) (nI x62) (nI x63) (nI x65) x66 f1 f2 f3 (bN 3 q4) (bN 7 q5) (bN 7 q6) (bN 4 q7) f8 (bN 2 q9) (bH q10) f11 (b2 m12_0 m12_1) (b2 m13_0 m13_1) (b2 m14_0 m14_1) (b2m m15_0 m15_1) f17 (bA 159 q31) f32 f34 f35 f36 f37 (bN 7 q38) f39 f40 f41 (b2 m42_0 m42_1) f43 f44 f47 f48 f49 f50 f51 (bN 13 q54) (bN 120 q55) (bN 120 q56) f57 (bN 120 q58) f59 f60 f64) H ∧ va_D A (mo_w ad ck x0 (nI x16) (nI x18) (nI x19) (nI g_1) (nI g_75) (nI x22) g_76 x24 x25 (nI x26) x27 (nI x28) (nI x29) (nI x30) (nI x33) x45 (nI x46) (nI x52) (nI x53) (nI x61) (nI x62) (nI x63) (nI x65) x66 f1 f2 f3 (bN 3 q4) (bN 7 q5) (bN 7 q6) (bN 4 q7) f8 (bN 2 q9) (bH q10) f11 (b2 m12_0 m12_1) (b2 m13_0 m13_1) (b2 m14_0 m14_1) (b2m m15_0 m15_1) f17 (bA 159 q31) f32 f34 f35 f36 f37 (bN 7 q38) f39 f40 f41 (b2 m42_0 m42_1) f43 f44 f47 f48 f49 f50 f51 (bN 13 q54) (bN 120 q55) (bN 120 q56) f57 (bN 120 q58) f59 f60 f64) ∧ va_S A s.heap H locs ∧ lv_has ls 2 [(0, .ref (ad 0)), (1, .int r_6)]) 133 ?_ (fun j_93 => ?_)
              · rintro H locs ls st ⟨g_91, rfl, he_92, he_95, hP, hD, hS, hl⟩
                rw [← he_95] at hsp
                refine va_put (D := (dC, dI)) (ci := 9) (v := .int g_91) (ty := .int) (C := RX9) (T := TX9) (N := 67) hx hb hts hiX9 tyX9 tyX9_ok nmX9 hown hK hP hD hS 0 rfl rfl 23 (by decide) v_8 (fun _ h9 => h9) rfl (by decide +kernel) rfl rfl (Nat.le_of_ble_eq_true rfl) dX9_next_133 (fun H locs hP hD hS => ?_)
                have hP : va_P (dC, dI) vwCl (mo_w ad ck x0 (nI x16) (nI x18) (nI x19) (nI g_1) (nI g_75) (nI x22) g_91 x24 x25 (nI x26) x27 (nI x28) (nI x29) (nI x30) (nI x33) x45 (nI x46) (nI x52) (nI x53) (nI x61) (nI x62) (nI x63) (nI x65) x66 f1 f2 f3 (bN 3 q4) (bN 7 q5) (bN 7 q6) (bN 4 q7) f8 (bN 2 q9) (bH q10) f11 (b2 m12_0 m12_1) (b2 m13_0 m13_1) (b2 m14_0 m14_1) (b2m m15_0 m15_1) f17 (bA 159 q31) f32 f34 f35 f36 f37 (bN 7 q38) f39 f40 f41 (b2 m42_0 m42_1) f43 f44 f47 f48 f49 f50 f51 (bN 13 q54) (bN 120 q55) (bN 120 q56) f57 (bN 120 q58) f59 f60 f64) H := hP
                have hD : va_D A (mo_w ad ck x0 (nI x16) (nI x18) (nI x19) (nI g_1) (nI g_75) (nI x22) g_91 x24 x25 (nI x26) x27 (nI x28) (nI x29) (nI x30) (nI x33) x45 (nI x46) (nI x52) (nI x53) (nI x61) (nI x62) (nI x63) (nI x65) x66 f1 f2 f3 (bN 3 q4) (bN 7 q5) (bN 7 q6) (bN 4 q7) f8 (bN 2 q9) (bH q10) f11 (b2 m12_0 m12_1) (b2 m13_0 m13_1) (b2 m14_0 m14_1) (b2m m15_0 m15_1) f17 (bA 159 q31) f32 f34 f35 f36 f37 (bN 7 q38) f39 f40 f41 (b2 m42_0 m42_1) f43 f44 f47 f48 f49 f50 f51 (bN 13 q54) (bN 120 q55) (bN 120 q56) f57 (bN 120 q58) f59 f60 f64) := hD
                refine lv_aload_n hx hb dX9_next_136 rfl (lv_at hl 0 rfl) ?_
                refine lv_dup hx hb dX9_next_137 rfl ?_
                refine va_get (D := (dC, dI)) (ci := 9) (v := .int (nI g_75)) (C := RX9) (T := TX9) (N := 67) hx hb hts hiX9 hown hK hP 0 rfl rfl 21 (by decide) v_1 (fun _ h9 => h9) rfl dX9_next_138 ?_
                refine lv_iconst (v := 1) hx hb dX9_next_141 (by decide) ?_
                refine lv_iadd hx hb dX9_next_142 ?_
                refine lv_topi (fun y_96 ey_96 => ?_)
                obtain rfl : y_96 = (nI (g_75 + 1)) := ey_96.trans (nI_add g_75 1)
                refine va_put (D := (dC, dI)) (ci := 9) (v := .int (nI (g_75 + 1))) (ty := .int) (C := RX9) (T := TX9) (N := 67) hx hb hts hiX9 tyX9 tyX9_ok nmX9 hown hK hP hD hS 0 rfl rfl 21 (by decide) v_1 (fun _ h9 => h9) rfl (by decide +kernel) rfl rfl (Nat.le_of_ble_eq_true rfl) dX9_next_143 (fun H locs hP hD hS => ?_)
                have hP : va_P (dC, dI) vwCl (mo_w ad ck x0 (nI x16) (nI x18) (nI x19) (nI g_1) (nI (g_75 + 1)) (nI x22) g_91 x24 x25 (nI x26) x27 (nI x28) (nI x29) (nI x30) (nI x33) x45 (nI x46) (nI x52) (nI x53) (nI x61) (nI x62) (nI x63) (nI x65) x66 f1 f2 f3 (bN 3 q4) (bN 7 q5) (bN 7 q6) (bN 4 q7) f8 (bN 2 q9) (bH q10) f11 (b2 m12_0 m12_1) (b2 m13_0 m13_1) (b2 m14_0 m14_1) (b2m m15_0 m15_1) f17 (bA 159 q31) f32 f34 f35 f36 f37 (bN 7 q38) f39 f40 f41 (b2 m42_0 m42_1) f43 f44 f47 f48 f49 f50 f51 (bN 13 q54) (bN 120 q55) (bN 120 q56) f57 (bN 120 q58) f59 f60 f64) H := hP
                have hD : va_D A (mo_w ad ck x0 (nI x16) (nI x18) (nI x19) (nI g_1) (nI (g_75 + 1)) (nI x22) g_91 x24 x25 (nI x26) x27 (nI x28) (nI x29) (nI x30) (nI x33) x45 (nI x46) (nI x52) (nI x53) (nI x61) (nI x62) (nI x63) (nI x65) x66 f1 f2 f3 (bN 3 q4) (bN 7 q5) (bN 7 q6) (bN 4 q7) f8 (bN 2 q9) (bH q10) f11 (b2 m12_0 m12_1) (b2 m13_0 m13_1) (b2 m14_0 m14_1) (b2m m15_0 m15_1) f17 (bA 159 q31) f32 f34 f35 f36 f37 (bN 7 q38) f39 f40 f41 (b2 m42_0 m42_1) f43 f44 f47 f48 f49 f50 f51 (bN 13 q54) (bN 120 q55) (bN 120 q56) f57 (bN 120 q58) f59 f60 f64) := hD
                refine lv_goto (tgt := 81) hx hb dX9_next_146 (by decide) ?_
                exact ih_79 (900 - (g_75 + 1)) (by omega) _ _ _ ⟨(g_75 + 1), g_91, rfl, (by omega), by omega, by omega, hin_83 _ hsp, hP, hD, hS, lv_sub hl [0, 1] rfl⟩
              have hsp := hJR_94
              refine lv_icmp_ge (tgt := 132) hx hb dX9_next_107 (by decide) (fun c_97 => ?_) (fun c_97 => ?_)
              · have hcc_97 := c_97
                have hsp := hsp.trans (if_pos c_97)
                refine lv_iconst (v := (-1)) hx hb dX9_next_132 (by decide) ?_
                exact j_93 _ _ _ _ ⟨(-1), rfl, by omega, hsp.symm, hP, hD, hS, lv_sub hl [0, 1] rfl⟩
              · have hcc_97 := c_97
                have hsp := hsp.trans (if_neg c_97)
                refine lv_aload_n hx hb dX9_next_110 rfl (lv_at hl 0 rfl) ?_
                refine va_get (D := (dC, dI)) (ci := 9) (v := .int g_76) (C := RX9) (T := TX9) (N := 67) hx hb hts hiX9 hown hK hP 0 rfl rfl 23 (by decide) v_8 (fun _ h9 => h9) rfl dX9_next_111 ?_
                refine lv_bipush (v := 32) hx hb dX9_next_114 (by decide) ?_
                refine lv_imul hx hb dX9_next_116 ?_
                refine lv_topi (fun y_98 ey_98 => ?_)
                have hsp := hsp.trans (slet_eq ey_98)
                refine lv_aload_n hx hb dX9_next_117 rfl (lv_at hl 0 rfl) ?_
                refine lv_aload_n hx hb dX9_next_118 rfl (lv_at hl 0 rfl) ?_
                refine va_get (D := (dC, dI)) (ci := 9) (v := .int (nI g_75)) (C := RX9) (T := TX9) (N := 67) hx hb hts hiX9 hown hK hP 0 rfl rfl 21 (by decide) v_1 (fun _ h9 => h9) rfl dX9_next_119 ?_
                refine va_calli (va_runV (As := [.int (nI g_75)]) (rest := [.int y_98, .ref (ad 0)]) ⟨hx, hb, hml, hown, hts⟩ (c_EM_byteAt l dC dI _ ad ck x0 x16 x18 x19 (nI g_1) g_75 x22 g_76 x24 x25 x26 x27 x28 x29 x30 x33 x45 x46 x52 x53 x61 x62 x63 x65 x66 f1 f2 f3 q4 q5 q6 q7 f8 q9 q10 f11 m12_0 m12_1 m13_0 m13_1 m14_0 m14_1 m15_0 m15_1 f17 q31 f32 f34 f35 f36 f37 q38 f39 f40 f41 m42_0 m42_1 f43 f44 f47 f48 f49 f50 f51 q54 q55 q56 f57 q58 f59 f60 f64 g_75 hx16 hx18 hx19 hg_75 hx22 hx26 hx28 hx29 hx30 hx33 hx46 hx52 hx53 hx61 hx62 hx63 hx65 hm12_0 hm12_1 hm13_0 hm13_1 hm14_0 hm14_1 hm15_0 hm15_1 hm42_0 hm42_1 hg_75) (cwV 1 hts g_EM_next_EM_byteAt rfl rfl rfl (by decide +kernel) ⟨Nat.le_of_ble_eq_true rfl, Nat.le_of_ble_eq_true rfl⟩) ⟨pu_bl, va_recv hK hP (ci := 9) (q0 := 0) rfl rfl, pu_in hP hK hD⟩ rfl rfl hl.1 rfl (lv_room (Nat.le_of_ble_eq_true rfl)) dX9_next_122 ⟨Nat.le_of_ble_eq_true rfl, Nat.le_of_ble_eq_true rfl⟩) hS (fun q _ h => pu_fr hS hA q h) (pu_fr hS hA) (fun r_99 u t H1 locs ht hvm hw hB hz1 hk1 hS => ?_)
                have hP := pu_keep hP hk1
                clear hk1 hz1 ht hvm
                generalize H1 = H at hP hS ⊢
                rcases hw with ⟨rfl, hw⟩ | ⟨hw, hvr_99⟩
                · have hsp := hsp.trans (if_neg (Nat.not_lt.mpr hw))
                  refine lv_iadd hx hb dX9_next_125 ?_
                  refine lv_topi (fun y_100 ey_100 => ?_)
                  have hsp := hsp.trans (slet_eq ey_100)
                  refine lv_bipush (v := 96) hx hb dX9_next_126 (by decide) ?_
                  refine lv_isub hx hb dX9_next_128 ?_
                  refine lv_topi (fun y_101 ey_101 => ?_)
                  have hsp := hsp.trans (slet_eq ey_101)
                  refine lv_goto (tgt := 133) hx hb dX9_next_129 (by decide) ?_
                  exact j_93 _ _ _ _ ⟨y_101, rfl, by omega, hsp.symm, hP, hD, hS, lv_sub hl [0, 1] rfl⟩
                · have hcl : cl r_99 = cl (f17 g_75) := congrArg cl hvr_99
                  have hsp := hsp.trans (if_pos hw)
                  have hsp := hsp.trans (slet_eq hvr_99)
                  refine lv_iadd hx hb dX9_next_125 ?_
                  refine lv_topi (fun y_102 ey_102 => ?_)
                  have hsp := hsp.trans (slet_eq ey_102)
                  refine lv_bipush (v := 96) hx hb dX9_next_126 (by decide) ?_
                  refine lv_isub hx hb dX9_next_128 ?_
                  refine lv_topi (fun y_103 ey_103 => ?_)
                  have hsp := hsp.trans (slet_eq ey_103)
                  refine lv_goto (tgt := 133) hx hb dX9_next_129 (by decide) ?_
                  exact j_93 _ _ _ _ ⟨y_103, rfl, by omega, hsp.symm, hP, hD, hS, lv_sub hl [0, 1] rfl⟩
      · have hcc_7 := c_7
        have hsp := hsp.trans (if_pos c_7)
        refine lv_aload_n hx hb dX9_next_66 rfl (lv_at hl 1 rfl) ?_
        refine lv_iconst (v := 0) hx hb dX9_next_67 (by decide) ?_
        refine va_put (D := (dC, dI)) (ci := 9) (v := .int 0) (ty := .int) (C := RX9) (T := TX9) (N := 67) hx hb hts hiX9 tyX9 tyX9_ok nmX9 hown hK hP hD hS 0 rfl rfl 22 (by decide) v_9 (fun _ h9 => h9) rfl (by decide +kernel) rfl rfl (Nat.le_of_ble_eq_true rfl) dX9_next_68 (fun H locs hP hD hS => ?_)
        have hP : va_P (dC, dI) vwCl (mo_w ad ck x0 (nI x16) (nI x18) (nI x19) (nI g_1) (nI g_1) 0 0 x24 x25 (nI x26) x27 (nI x28) (nI x29) (nI x30) (nI x33) x45 (nI x46) (nI x52) (nI x53) (nI x61) (nI x62) (nI x63) (nI x65) x66 f1 f2 f3 (bN 3 q4) (bN 7 q5) (bN 7 q6) (bN 4 q7) f8 (bN 2 q9) (bH q10) f11 (b2 m12_0 m12_1) (b2 m13_0 m13_1) (b2 m14_0 m14_1) (b2m m15_0 m15_1) f17 (bA 159 q31) f32 f34 f35 f36 f37 (bN 7 q38) f39 f40 f41 (b2 m42_0 m42_1) f43 f44 f47 f48 f49 f50 f51 (bN 13 q54) (bN 120 q55) (bN 120 q56) f57 (bN 120 q58) f59 f60 f64) H := hP
        have hD : va_D A (mo_w ad ck x0 (nI x16) (nI x18) (nI x19) (nI g_1) (nI g_1) 0 0 x24 x25 (nI x26) x27 (nI x28) (nI x29) (nI x30) (nI x33) x45 (nI x46) (nI x52) (nI x53) (nI x61) (nI x62) (nI x63) (nI x65) x66 f1 f2 f3 (bN 3 q4) (bN 7 q5) (bN 7 q6) (bN 4 q7) f8 (bN 2 q9) (bH q10) f11 (b2 m12_0 m12_1) (b2 m13_0 m13_1) (b2 m14_0 m14_1) (b2m m15_0 m15_1) f17 (bA 159 q31) f32 f34 f35 f36 f37 (bN 7 q38) f39 f40 f41 (b2 m42_0 m42_1) f43 f44 f47 f48 f49 f50 f51 (bN 13 q54) (bN 120 q55) (bN 120 q56) f57 (bN 120 q58) f59 f60 f64) := hD
        refine lv_goto (tgt := 325) hx hb dX9_next_71 (by decide) ?_
        exact W.vret hx hb hr (fun t ht hW => ⟨⟨(), rfl, trivial, ⟨(nI g_1), g_1, 0, 0, ⟨by rw [ht]; exact hP, va_K.moved hW.alike hK, hD⟩, hg_1, (Nat.le_of_ble_eq_true rfl), by first | exact mu_le (by omega) | exact Nat.le_of_lt (mu_lt (by omega) (by omega)), by first | exact Or.inr (mu_lt (by omega) (by omega)) | (by_cases hz : x22 = 0; exact Or.inl hz; exact Or.inr (mu_e (by omega) hz)), (hsp.symm.trans hRR)⟩⟩, hS.F ht⟩) hS.2.2 dX9_next_325
  have hsp := hJR_4
  obtain ⟨lf_109, dlf_109, hlf_109, hsp⟩ := itr_ex hsp
  delta sp_EM_next_L1 at hlf_109
  refine pu_while (fun nn H locs ls => ∃ (g_106 : Nat), nn = 900 - g_106 ∧ g_106 ≤ 900 ∧ x21 ≤ g_106 ∧ JR_4 = itrv dlf_109 lf_109 g_106 ∧ va_P (dC, dI) vwCl (mo_w ad ck x0 (nI x16) (nI x18) (nI x19) x20 (nI g_106) (nI x22) x23 x24 x25 (nI x26) x27 (nI x28) (nI x29) (nI x30) (nI x33) x45 (nI x46) (nI x52) (nI x53) (nI x61) (nI x62) (nI x63) (nI x65) x66 f1 f2 f3 (bN 3 q4) (bN 7 q5) (bN 7 q6) (bN 4 q7) f8 (bN 2 q9) (bH q10) f11 (b2 m12_0 m12_1) (b2 m13_0 m13_1) (b2 m14_0 m14_1) (b2m m15_0 m15_1) f17 (bA 159 q31) f32 f34 f35 f36 f37 (bN 7 q38) f39 f40 f41 (b2 m42_0 m42_1) f43 f44 f47 f48 f49 f50 f51 (bN 13 q54) (bN 120 q55) (bN 120 q56) f57 (bN 120 q58) f59 f60 f64) H ∧ va_D A (mo_w ad ck x0 (nI x16) (nI x18) (nI x19) x20 (nI g_106) (nI x22) x23 x24 x25 (nI x26) x27 (nI x28) (nI x29) (nI x30) (nI x33) x45 (nI x46) (nI x52) (nI x53) (nI x61) (nI x62) (nI x63) (nI x65) x66 f1 f2 f3 (bN 3 q4) (bN 7 q5) (bN 7 q6) (bN 4 q7) f8 (bN 2 q9) (bH q10) f11 (b2 m12_0 m12_1) (b2 m13_0 m13_1) (b2 m14_0 m14_1) (b2m m15_0 m15_1) f17 (bA 159 q31) f32 f34 f35 f36 f37 (bN 7 q38) f39 f40 f41 (b2 m42_0 m42_1) f43 f44 f47 f48 f49 f50 f51 (bN 13 q54) (bN 120 q55) (bN 120 q56) f57 (bN 120 q58) f59 f60 f64) ∧ va_S A s.heap H locs ∧ lv_has ls 2 [(0, .ref (ad 0))]) 0 ?_ _ _ _ _ ⟨x21, rfl, hx21, by omega, hsp, hP, hD, hS, lv_sub hl [0] rfl⟩
  rintro nn ih_108 H locs ls ⟨g_106, rfl, hg_106, he_107, he_111, hP, hD, hS, hl⟩
  obtain ⟨S_110, hsp, hin_112, hout_113⟩ := itr_step hlf_109 he_111
  refine lv_aload_n hx hb dX9_next_0 rfl (lv_at hl 0 rfl) ?_
  refine lv_aload_n hx hb dX9_next_1 rfl (lv_at hl 0 rfl) ?_
  refine va_get (D := (dC, dI)) (ci := 9) (v := .int (nI g_106)) (C := RX9) (T := TX9) (N := 67) hx hb hts hiX9 hown hK hP 0 rfl rfl 21 (by decide) v_1 (fun _ h9 => h9) rfl dX9_next_2 ?_
  refine va_calli (va_runV (As := [.int (nI g_106)]) (rest := []) ⟨hx, hb, hml, hown, hts⟩ (c_EM_byteAt l dC dI _ ad ck x0 x16 x18 x19 x20 g_106 x22 x23 x24 x25 x26 x27 x28 x29 x30 x33 x45 x46 x52 x53 x61 x62 x63 x65 x66 f1 f2 f3 q4 q5 q6 q7 f8 q9 q10 f11 m12_0 m12_1 m13_0 m13_1 m14_0 m14_1 m15_0 m15_1 f17 q31 f32 f34 f35 f36 f37 q38 f39 f40 f41 m42_0 m42_1 f43 f44 f47 f48 f49 f50 f51 q54 q55 q56 f57 q58 f59 f60 f64 g_106 hx16 hx18 hx19 hg_106 hx22 hx26 hx28 hx29 hx30 hx33 hx46 hx52 hx53 hx61 hx62 hx63 hx65 hm12_0 hm12_1 hm13_0 hm13_1 hm14_0 hm14_1 hm15_0 hm15_1 hm42_0 hm42_1 hg_106) (cwV 1 hts g_EM_next_EM_byteAt rfl rfl rfl (by decide +kernel) ⟨Nat.le_of_ble_eq_true rfl, Nat.le_of_ble_eq_true rfl⟩) ⟨pu_bl, va_recv hK hP (ci := 9) (q0 := 0) rfl rfl, pu_in hP hK hD⟩ rfl rfl hl.1 rfl (lv_room (Nat.le_of_ble_eq_true rfl)) dX9_next_5 ⟨Nat.le_of_ble_eq_true rfl, Nat.le_of_ble_eq_true rfl⟩) hS (fun q _ h => pu_fr hS hA q h) (pu_fr hS hA) (fun r_114 u t H1 locs ht hvm hw hB hz1 hk1 hS => ?_)
  have hP := pu_keep hP hk1
  clear hk1 hz1 ht hvm
  generalize H1 = H at hP hS ⊢
  rcases hw with ⟨rfl, hw⟩ | ⟨hw, hvr_114⟩
  · have hsp := hsp.trans (if_neg (Nat.not_lt.mpr hw))
    refine lv_bipush (v := 32) hx hb dX9_next_8 (by decide) ?_
    refine lv_icmp_eq (tgt := 26) hx hb dX9_next_10 (by decide) (fun z => absurd z (by decide)) (fun _ => ?_)
    refine lv_aload_n hx hb dX9_next_13 rfl (lv_at hl 0 rfl) ?_
    refine lv_aload_n hx hb dX9_next_14 rfl (lv_at hl 0 rfl) ?_
    refine va_get (D := (dC, dI)) (ci := 9) (v := .int (nI g_106)) (C := RX9) (T := TX9) (N := 67) hx hb hts hiX9 hown hK hP 0 rfl rfl 21 (by decide) v_1 (fun _ h9 => h9) rfl dX9_next_15 ?_
    refine va_calli (va_runV (As := [.int (nI g_106)]) (rest := []) ⟨hx, hb, hml, hown, hts⟩ (c_EM_byteAt l dC dI _ ad ck x0 x16 x18 x19 x20 g_106 x22 x23 x24 x25 x26 x27 x28 x29 x30 x33 x45 x46 x52 x53 x61 x62 x63 x65 x66 f1 f2 f3 q4 q5 q6 q7 f8 q9 q10 f11 m12_0 m12_1 m13_0 m13_1 m14_0 m14_1 m15_0 m15_1 f17 q31 f32 f34 f35 f36 f37 q38 f39 f40 f41 m42_0 m42_1 f43 f44 f47 f48 f49 f50 f51 q54 q55 q56 f57 q58 f59 f60 f64 g_106 hx16 hx18 hx19 hg_106 hx22 hx26 hx28 hx29 hx30 hx33 hx46 hx52 hx53 hx61 hx62 hx63 hx65 hm12_0 hm12_1 hm13_0 hm13_1 hm14_0 hm14_1 hm15_0 hm15_1 hm42_0 hm42_1 hg_106) (cwV 1 hts g_EM_next_EM_byteAt rfl rfl rfl (by decide +kernel) ⟨Nat.le_of_ble_eq_true rfl, Nat.le_of_ble_eq_true rfl⟩) ⟨pu_bl, va_recv hK hP (ci := 9) (q0 := 0) rfl rfl, pu_in hP hK hD⟩ rfl rfl hl.1 rfl (lv_room (Nat.le_of_ble_eq_true rfl)) dX9_next_18 ⟨Nat.le_of_ble_eq_true rfl, Nat.le_of_ble_eq_true rfl⟩) hS (fun q _ h => pu_fr hS hA q h) (pu_fr hS hA) (fun r_115 u t H1 locs ht hvm hw hB hz1 hk1 hS => ?_)
    have hP := pu_keep hP hk1
    clear hk1 hz1 ht hvm
    generalize H1 = H at hP hS ⊢
    rcases hw with ⟨rfl, hw⟩ | ⟨hw, hvr_115⟩
    · have hsp := hsp.trans (if_neg (Nat.not_lt.mpr hw))
      refine lv_bipush (v := 10) hx hb dX9_next_21 (by decide) ?_
      refine lv_icmp_ne (tgt := 39) hx hb dX9_next_23 (by decide) (fun _ => ?_) (fun z => absurd z (by decide))
      have hsp := hout_113 _ hsp
      exact j_3 _ _ _ _ ⟨g_106, rfl, hg_106, by omega, hsp.symm, hP, hD, hS, lv_sub hl [0] rfl⟩
    · have hcl : cl r_115 = cl (f17 g_106) := congrArg cl hvr_115
      have hsp := hsp.trans (if_pos hw)
      have hsp := hsp.trans (slet_eq hvr_115)
      refine lv_bipush (v := 10) hx hb dX9_next_21 (by decide) ?_
      refine lv_icmp_ne (tgt := 39) hx hb dX9_next_23 (by decide) (fun c_116 => ?_) (fun c_116 => ?_)
      · have hcc_116 := c_116
        have hsp := hsp.trans (if_neg c_116)
        have hsp := hout_113 _ hsp
        exact j_3 _ _ _ _ ⟨g_106, rfl, hg_106, by omega, hsp.symm, hP, hD, hS, lv_sub hl [0] rfl⟩
      · have hcc_116 := c_116
        have hsp := hsp.trans (if_pos c_116)
        refine lv_aload_n hx hb dX9_next_26 rfl (lv_at hl 0 rfl) ?_
        refine lv_dup hx hb dX9_next_27 rfl ?_
        refine va_get (D := (dC, dI)) (ci := 9) (v := .int (nI g_106)) (C := RX9) (T := TX9) (N := 67) hx hb hts hiX9 hown hK hP 0 rfl rfl 21 (by decide) v_1 (fun _ h9 => h9) rfl dX9_next_28 ?_
        refine lv_iconst (v := 1) hx hb dX9_next_31 (by decide) ?_
        refine lv_iadd hx hb dX9_next_32 ?_
        refine lv_topi (fun y_117 ey_117 => ?_)
        obtain rfl : y_117 = (nI (g_106 + 1)) := ey_117.trans (nI_add g_106 1)
        refine va_put (D := (dC, dI)) (ci := 9) (v := .int (nI (g_106 + 1))) (ty := .int) (C := RX9) (T := TX9) (N := 67) hx hb hts hiX9 tyX9 tyX9_ok nmX9 hown hK hP hD hS 0 rfl rfl 21 (by decide) v_1 (fun _ h9 => h9) rfl (by decide +kernel) rfl rfl (Nat.le_of_ble_eq_true rfl) dX9_next_33 (fun H locs hP hD hS => ?_)
        have hP : va_P (dC, dI) vwCl (mo_w ad ck x0 (nI x16) (nI x18) (nI x19) x20 (nI (g_106 + 1)) (nI x22) x23 x24 x25 (nI x26) x27 (nI x28) (nI x29) (nI x30) (nI x33) x45 (nI x46) (nI x52) (nI x53) (nI x61) (nI x62) (nI x63) (nI x65) x66 f1 f2 f3 (bN 3 q4) (bN 7 q5) (bN 7 q6) (bN 4 q7) f8 (bN 2 q9) (bH q10) f11 (b2 m12_0 m12_1) (b2 m13_0 m13_1) (b2 m14_0 m14_1) (b2m m15_0 m15_1) f17 (bA 159 q31) f32 f34 f35 f36 f37 (bN 7 q38) f39 f40 f41 (b2 m42_0 m42_1) f43 f44 f47 f48 f49 f50 f51 (bN 13 q54) (bN 120 q55) (bN 120 q56) f57 (bN 120 q58) f59 f60 f64) H := hP
        have hD : va_D A (mo_w ad ck x0 (nI x16) (nI x18) (nI x19) x20 (nI (g_106 + 1)) (nI x22) x23 x24 x25 (nI x26) x27 (nI x28) (nI x29) (nI x30) (nI x33) x45 (nI x46) (nI x52) (nI x53) (nI x61) (nI x62) (nI x63) (nI x65) x66 f1 f2 f3 (bN 3 q4) (bN 7 q5) (bN 7 q6) (bN 4 q7) f8 (bN 2 q9) (bH q10) f11 (b2 m12_0 m12_1) (b2 m13_0 m13_1) (b2 m14_0 m14_1) (b2m m15_0 m15_1) f17 (bA 159 q31) f32 f34 f35 f36 f37 (bN 7 q38) f39 f40 f41 (b2 m42_0 m42_1) f43 f44 f47 f48 f49 f50 f51 (bN 13 q54) (bN 120 q55) (bN 120 q56) f57 (bN 120 q58) f59 f60 f64) := hD
        refine lv_goto (tgt := 0) hx hb dX9_next_36 (by decide) ?_
        exact ih_108 (900 - (g_106 + 1)) (by omega) _ _ _ ⟨(g_106 + 1), rfl, (by omega), by omega, hin_112 _ hsp, hP, hD, hS, lv_sub hl [0] rfl⟩
  · have hcl : cl r_114 = cl (f17 g_106) := congrArg cl hvr_114
    have hsp := hsp.trans (if_pos hw)
    have hsp := hsp.trans (slet_eq hvr_114)
    refine lv_bipush (v := 32) hx hb dX9_next_8 (by decide) ?_
    refine lv_icmp_eq (tgt := 26) hx hb dX9_next_10 (by decide) (fun c_118 => ?_) (fun c_118 => ?_)
    · have hcc_118 := c_118
      have hsp := hsp.trans (if_pos c_118)
      refine lv_aload_n hx hb dX9_next_26 rfl (lv_at hl 0 rfl) ?_
      refine lv_dup hx hb dX9_next_27 rfl ?_
      refine va_get (D := (dC, dI)) (ci := 9) (v := .int (nI g_106)) (C := RX9) (T := TX9) (N := 67) hx hb hts hiX9 hown hK hP 0 rfl rfl 21 (by decide) v_1 (fun _ h9 => h9) rfl dX9_next_28 ?_
      refine lv_iconst (v := 1) hx hb dX9_next_31 (by decide) ?_
      refine lv_iadd hx hb dX9_next_32 ?_
      refine lv_topi (fun y_119 ey_119 => ?_)
      obtain rfl : y_119 = (nI (g_106 + 1)) := ey_119.trans (nI_add g_106 1)
      refine va_put (D := (dC, dI)) (ci := 9) (v := .int (nI (g_106 + 1))) (ty := .int) (C := RX9) (T := TX9) (N := 67) hx hb hts hiX9 tyX9 tyX9_ok nmX9 hown hK hP hD hS 0 rfl rfl 21 (by decide) v_1 (fun _ h9 => h9) rfl (by decide +kernel) rfl rfl (Nat.le_of_ble_eq_true rfl) dX9_next_33 (fun H locs hP hD hS => ?_)
      have hP : va_P (dC, dI) vwCl (mo_w ad ck x0 (nI x16) (nI x18) (nI x19) x20 (nI (g_106 + 1)) (nI x22) x23 x24 x25 (nI x26) x27 (nI x28) (nI x29) (nI x30) (nI x33) x45 (nI x46) (nI x52) (nI x53) (nI x61) (nI x62) (nI x63) (nI x65) x66 f1 f2 f3 (bN 3 q4) (bN 7 q5) (bN 7 q6) (bN 4 q7) f8 (bN 2 q9) (bH q10) f11 (b2 m12_0 m12_1) (b2 m13_0 m13_1) (b2 m14_0 m14_1) (b2m m15_0 m15_1) f17 (bA 159 q31) f32 f34 f35 f36 f37 (bN 7 q38) f39 f40 f41 (b2 m42_0 m42_1) f43 f44 f47 f48 f49 f50 f51 (bN 13 q54) (bN 120 q55) (bN 120 q56) f57 (bN 120 q58) f59 f60 f64) H := hP
      have hD : va_D A (mo_w ad ck x0 (nI x16) (nI x18) (nI x19) x20 (nI (g_106 + 1)) (nI x22) x23 x24 x25 (nI x26) x27 (nI x28) (nI x29) (nI x30) (nI x33) x45 (nI x46) (nI x52) (nI x53) (nI x61) (nI x62) (nI x63) (nI x65) x66 f1 f2 f3 (bN 3 q4) (bN 7 q5) (bN 7 q6) (bN 4 q7) f8 (bN 2 q9) (bH q10) f11 (b2 m12_0 m12_1) (b2 m13_0 m13_1) (b2 m14_0 m14_1) (b2m m15_0 m15_1) f17 (bA 159 q31) f32 f34 f35 f36 f37 (bN 7 q38) f39 f40 f41 (b2 m42_0 m42_1) f43 f44 f47 f48 f49 f50 f51 (bN 13 q54) (bN 120 q55) (bN 120 q56) f57 (bN 120 q58) f59 f60 f64) := hD
      refine lv_goto (tgt := 0) hx hb dX9_next_36 (by decide) ?_
      exact ih_108 (900 - (g_106 + 1)) (by omega) _ _ _ ⟨(g_106 + 1), rfl, (by omega), by omega, hin_112 _ hsp, hP, hD, hS, lv_sub hl [0] rfl⟩
    · have hcc_118 := c_118
      have hsp := hsp.trans (if_neg c_118)
      refine lv_aload_n hx hb dX9_next_13 rfl (lv_at hl 0 rfl) ?_
      refine lv_aload_n hx hb dX9_next_14 rfl (lv_at hl 0 rfl) ?_
      refine va_get (D := (dC, dI)) (ci := 9) (v := .int (nI g_106)) (C := RX9) (T := TX9) (N := 67) hx hb hts hiX9 hown hK hP 0 rfl rfl 21 (by decide) v_1 (fun _ h9 => h9) rfl dX9_next_15 ?_
      refine va_calli (va_runV (As := [.int (nI g_106)]) (rest := []) ⟨hx, hb, hml, hown, hts⟩ (c_EM_byteAt l dC dI _ ad ck x0 x16 x18 x19 x20 g_106 x22 x23 x24 x25 x26 x27 x28 x29 x30 x33 x45 x46 x52 x53 x61 x62 x63 x65 x66 f1 f2 f3 q4 q5 q6 q7 f8 q9 q10 f11 m12_0 m12_1 m13_0 m13_1 m14_0 m14_1 m15_0 m15_1 f17 q31 f32 f34 f35 f36 f37 q38 f39 f40 f41 m42_0 m42_1 f43 f44 f47 f48 f49 f50 f51 q54 q55 q56 f57 q58 f59 f60 f64 g_106 hx16 hx18 hx19 hg_106 hx22 hx26 hx28 hx29 hx30 hx33 hx46 hx52 hx53 hx61 hx62 hx63 hx65 hm12_0 hm12_1 hm13_0 hm13_1 hm14_0 hm14_1 hm15_0 hm15_1 hm42_0 hm42_1 hg_106) (cwV 1 hts g_EM_next_EM_byteAt rfl rfl rfl (by decide +kernel) ⟨Nat.le_of_ble_eq_true rfl, Nat.le_of_ble_eq_true rfl⟩) ⟨pu_bl, va_recv hK hP (ci := 9) (q0 := 0) rfl rfl, pu_in hP hK hD⟩ rfl rfl hl.1 rfl (lv_room (Nat.le_of_ble_eq_true rfl)) dX9_next_18 ⟨Nat.le_of_ble_eq_true rfl, Nat.le_of_ble_eq_true rfl⟩) hS (fun q _ h => pu_fr hS hA q h) (pu_fr hS hA) (fun r_120 u t H1 locs ht hvm hw hB hz1 hk1 hS => ?_)
      have hP := pu_keep hP hk1
      clear hk1 hz1 ht hvm
      generalize H1 = H at hP hS ⊢
      rcases hw with ⟨rfl, hw⟩ | ⟨hw, hvr_120⟩
      · have hsp := hsp.trans (if_neg (Nat.not_lt.mpr hw))
        refine lv_bipush (v := 10) hx hb dX9_next_21 (by decide) ?_
        refine lv_icmp_ne (tgt := 39) hx hb dX9_next_23 (by decide) (fun _ => ?_) (fun z => absurd z (by decide))
        have hsp := hout_113 _ hsp
        exact j_3 _ _ _ _ ⟨g_106, rfl, hg_106, by omega, hsp.symm, hP, hD, hS, lv_sub hl [0] rfl⟩
      · have hcl : cl r_120 = cl (f17 g_106) := congrArg cl hvr_120
        have hsp := hsp.trans (if_pos hw)
        have hsp := hsp.trans (slet_eq hvr_120)
        refine lv_bipush (v := 10) hx hb dX9_next_21 (by decide) ?_
        refine lv_icmp_ne (tgt := 39) hx hb dX9_next_23 (by decide) (fun c_121 => ?_) (fun c_121 => ?_)
        · have hcc_121 := c_121
          have hsp := hsp.trans (if_neg c_121)
          have hsp := hout_113 _ hsp
          exact j_3 _ _ _ _ ⟨g_106, rfl, hg_106, by omega, hsp.symm, hP, hD, hS, lv_sub hl [0] rfl⟩
        · have hcc_121 := c_121
          have hsp := hsp.trans (if_pos c_121)
          refine lv_aload_n hx hb dX9_next_26 rfl (lv_at hl 0 rfl) ?_
          refine lv_dup hx hb dX9_next_27 rfl ?_
          refine va_get (D := (dC, dI)) (ci := 9) (v := .int (nI g_106)) (C := RX9) (T := TX9) (N := 67) hx hb hts hiX9 hown hK hP 0 rfl rfl 21 (by decide) v_1 (fun _ h9 => h9) rfl dX9_next_28 ?_
          refine lv_iconst (v := 1) hx hb dX9_next_31 (by decide) ?_
          refine lv_iadd hx hb dX9_next_32 ?_
          refine lv_topi (fun y_122 ey_122 => ?_)
          obtain rfl : y_122 = (nI (g_106 + 1)) := ey_122.trans (nI_add g_106 1)
          refine va_put (D := (dC, dI)) (ci := 9) (v := .int (nI (g_106 + 1))) (ty := .int) (C := RX9) (T := TX9) (N := 67) hx hb hts hiX9 tyX9 tyX9_ok nmX9 hown hK hP hD hS 0 rfl rfl 21 (by decide) v_1 (fun _ h9 => h9) rfl (by decide +kernel) rfl rfl (Nat.le_of_ble_eq_true rfl) dX9_next_33 (fun H locs hP hD hS => ?_)
          have hP : va_P (dC, dI) vwCl (mo_w ad ck x0 (nI x16) (nI x18) (nI x19) x20 (nI (g_106 + 1)) (nI x22) x23 x24 x25 (nI x26) x27 (nI x28) (nI x29) (nI x30) (nI x33) x45 (nI x46) (nI x52) (nI x53) (nI x61) (nI x62) (nI x63) (nI x65) x66 f1 f2 f3 (bN 3 q4) (bN 7 q5) (bN 7 q6) (bN 4 q7) f8 (bN 2 q9) (bH q10) f11 (b2 m12_0 m12_1) (b2 m13_0 m13_1) (b2 m14_0 m14_1) (b2m m15_0 m15_1) f17 (bA 159 q31) f32 f34 f35 f36 f37 (bN 7 q38) f39 f40 f41 (b2 m42_0 m42_1) f43 f44 f47 f48 f49 f50 f51 (bN 13 q54) (bN 120 q55) (bN 120 q56) f57 (bN 120 q58) f59 f60 f64) H := hP
          have hD : va_D A (mo_w ad ck x0 (nI x16) (nI x18) (nI x19) x20 (nI (g_106 + 1)) (nI x22) x23 x24 x25 (nI x26) x27 (nI x28) (nI x29) (nI x30) (nI x33) x45 (nI x46) (nI x52) (nI x53) (nI x61) (nI x62) (nI x63) (nI x65) x66 f1 f2 f3 (bN 3 q4) (bN 7 q5) (bN 7 q6) (bN 4 q7) f8 (bN 2 q9) (bH q10) f11 (b2 m12_0 m12_1) (b2 m13_0 m13_1) (b2 m14_0 m14_1) (b2m m15_0 m15_1) f17 (bA 159 q31) f32 f34 f35 f36 f37 (bN 7 q38) f39 f40 f41 (b2 m42_0 m42_1) f43 f44 f47 f48 f49 f50 f51 (bN 13 q54) (bN 120 q55) (bN 120 q56) f57 (bN 120 q58) f59 f60 f64) := hD
          refine lv_goto (tgt := 0) hx hb dX9_next_36 (by decide) ?_
          exact ih_108 (900 - (g_106 + 1)) (by omega) _ _ _ ⟨(g_106 + 1), rfl, (by omega), by omega, hin_112 _ hsp, hP, hD, hS, lv_sub hl [0] rfl⟩
