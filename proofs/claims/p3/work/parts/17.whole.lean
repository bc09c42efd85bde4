theorem mn_21 {a b : Int32} (h : b ≤ 21) : (if a < b then a else b) ≤ 21 := by
  split
  · rename_i q
    rw [fa_le] at h ⊢
    rw [fa_lt] at q
    omega
  · exact h
theorem mx_0 {a b : Int32} (h : 0 ≤ b) : 0 ≤ (if b < a then a else b) := by
  split
  · rename_i q
    rw [fa_le] at h ⊢
    rw [fa_lt] at q
    omega
  · exact h
theorem mx_lt {m : Int32} {k : Nat} (h : m ≤ 21) (hk : 22 ≤ k) (hk2 : k < 2 ^ 31) : m < nI k := by
  rw [fa_le] at h
  rw [fa_lt, nI_toInt hk2]
  have y : (21 : Int32).toInt = 21 := by decide
  omega
theorem le_0 {x : Int32} (h : 0 ≤ x) : ¬ x < 0 := by
  rw [fa_le] at h
  rw [fa_lt]
  omega
theorem dX7_wholeFrom_0 : decode cX7_wholeFrom 0 = .ok (.aload_n 0, 1) := by decide +kernel
theorem dX7_wholeFrom_1 : decode cX7_wholeFrom 1 = .ok (.getfield 18, 3) := by decide +kernel
theorem dX7_wholeFrom_4 : decode cX7_wholeFrom 4 = .ok (.istore_n 3, 1) := by decide +kernel
theorem dX7_wholeFrom_5 : decode cX7_wholeFrom 5 = .ok (.iload_n 1, 1) := by decide +kernel
theorem dX7_wholeFrom_6 : decode cX7_wholeFrom 6 = .ok (.iload_n 3, 1) := by decide +kernel
theorem dX7_wholeFrom_7 : decode cX7_wholeFrom 7 = .ok (.if_icmp .ge 9, 3) := by decide +kernel
theorem dX7_wholeFrom_10 : decode cX7_wholeFrom 10 = .ok (.iload_n 1, 1) := by decide +kernel
theorem dX7_wholeFrom_11 : decode cX7_wholeFrom 11 = .ok (.aload_n 2, 1) := by decide +kernel
theorem dX7_wholeFrom_12 : decode cX7_wholeFrom 12 = .ok (.arraylength, 1) := by decide +kernel
theorem dX7_wholeFrom_13 : decode cX7_wholeFrom 13 = .ok (.if_icmp .lt 5, 3) := by decide +kernel
theorem dX7_wholeFrom_16 : decode cX7_wholeFrom 16 = .ok (.iconst 1, 1) := by decide +kernel
theorem dX7_wholeFrom_17 : decode cX7_wholeFrom 17 = .ok (.ireturn, 1) := by decide +kernel
def vs_X7_wholeFrom_4 : List Cond := .code yX7_wholeFrom cX7_wholeFrom 9 (some .int) :: ([.fieldLink RX7 18 "ClockReach$Zone" "size" "I"] ++ wsX70)
set_option maxHeartbeats 4000000 in
set_option maxRecDepth 100000 in
theorem c_X7_wholeFrom_4 (l : Launch) (dC : Nat → ClassId) (dI : Nat → Nat → Nat) (sz : Nat) (z zc : Nat) (cI : ClassId) (n N : Nat) (f : Nat → Int32) (hn : n * n ≤ N) (hN : N ≤ 25) (hn4 : n ≤ 4) (ch : Nat) (kc : ClassId) (fc : Nat → Int32) : Met l yX7_wholeFrom vs_X7_wholeFrom_4 ({ frames := 0, cells := 0, slots := 0, locals := 0 }) (va_Pc [.ref z, .int 4, .ref ch] (pu_B (dC, dI) [(z, .inr (7, [.ref zc, .int (nI n)])), (zc, .inl (cI, N, .inl f)), (ch, .inl (kc, 4, .inl fc))] [(cI, .int), (kc, .int)] sz)) (va_Qi (fun (r : Int32) (_ : Unit) => True) (fun _ t => ∃ (g : Nat → Int32), pu_E (dC, dI) [(z, .inr (7, [.ref zc, .int (nI n)])), (zc, .inl (cI, N, .inl f)), (ch, .inl (kc, 4, .inl g))] [(cI, .int), (kc, .int)] (va_A ([(z, .inr (7, [.ref zc, .int (nI n)])), (zc, .inl (cI, N, .inl f)), (ch, .inl (kc, 4, .inl fc))]) sz) t) (va_A ([(z, .inr (7, [.ref zc, .int (nI n)])), (zc, .inl (cI, N, .inl f)), (ch, .inl (kc, 4, .inl fc))]) sz)) 0 0 (va_A ([(z, .inr (7, [.ref zc, .int (nI n)])), (zc, .inl (cI, N, .inl f)), (ch, .inl (kc, 4, .inl fc))]) sz) := by
  refine Met.ofW (cc := cX7_wholeFrom) (maxL := 9) (ret := (some .int)) (by decide) rfl ?_
  intro p e s m args below meth c s₁ B hml hv
  obtain ⟨rfl, rfl, hP, hK, hD0⟩ := hv
  have hx := B.exec
  have hb := B.bytes
  have hr := B.returns
  have hts := atoms_spec (ws := vs_X7_wholeFrom_4) B.pre
  have v_1 := hts (.fieldLink RX7 18 "ClockReach$Zone" "size" "I") (List.mem_of_getElem? (i := 1) rfl)
  have hown : s.vm.findClass RX7 = some m.cls := findClass_of_methodNamed B.named
  have hlocks := B.notSynchronized
  have hiX7 : ∀ w ∈ wsX70, w ∈ vs_X7_wholeFrom_4 := fun _ h => List.mem_cons_of_mem _ (List.mem_append_right _ h)
  have hD := hD0.self (sz := s.heap.size)
  generalize hAe : va_A ([(z, .inr (7, [.ref zc, .int (nI n)])), (zc, .inl (cI, N, .inl f)), (ch, .inl (kc, 4, .inl fc))]) s.heap.size = A at hD ⊢
  have hA : ∀ q : Nat, s.heap.size ≤ q → A q := fun q h => by rw [← hAe]; exact Or.inr h
  have hS : va_S A s.heap s.heap [] := va_S.rf
  have hl := lv_entry ([.ref z, .int 4, .ref ch]) (n := 9) (Nat.le_of_ble_eq_true rfl)
  rw [lg_entry_eq]
  generalize (lg_sl ([.ref z, .int 4, .ref ch]) ++ List.replicate (9 - (lg_sl ([.ref z, .int 4, .ref ch])).length) Slot.unset).toArray = ls at hl ⊢
  have hl : lv_has ls 9 [(0, .ref z), (1, .int 4), (2, .ref ch)] := hl
  have hn5 := zn_5 hn hN
  have hnq := zn_q hn hN
  refine lv_aload_n hx hb dX7_wholeFrom_0 rfl (lv_at hl 0 rfl) ?_
  refine va_get (D := (dC, dI)) (ci := 7) (v := .int (nI n)) (C := RX7) (T := TX7) (N := 2) hx hb hts hiX7 hown hK hP 0 rfl rfl 1 (by decide) v_1 (fun _ h9 => h9) rfl dX7_wholeFrom_1 ?_
  refine lv_istore_n (lv' := [(3, .int (nI n)), (0, .ref z), (1, .int 4), (2, .ref ch)]) hx hb dX7_wholeFrom_4 rfl hl (by decide) rfl (fun ls hl => ?_)
  refine lv_iload_n hx hb dX7_wholeFrom_5 rfl (lv_at hl 2 rfl) ?_
  refine lv_iload_n hx hb dX7_wholeFrom_6 rfl (lv_at hl 0 rfl) ?_
  refine lv_icmp_ge (tgt := 16) hx hb dX7_wholeFrom_7 (by decide) (fun c_1 => ?_) (fun c_1 => ?_)
  · have c_1 : n ≤ 4 := (nI_leI (a := n) (b := 4) (by omega) (by omega)).mp c_1
    refine lv_iconst (v := 1) hx hb dX7_wholeFrom_16 (by decide) ?_
    have hP9 := hP.sub (ws' := [(z, .inr (7, [.ref zc, .int (nI n)])), (zc, .inl (cI, N, .inl f)), (ch, .inl (kc, 4, .inl fc))]) [0, 1, 2] rfl
    have hD9 := hD.sub (ws' := [(z, .inr (7, [.ref zc, .int (nI n)])), (zc, .inl (cI, N, .inl f)), (ch, .inl (kc, 4, .inl fc))]) [0, 1, 2] (by decide) rfl
    have hK9 := hK.sub (tys' := [(cI, .int), (kc, .int)]) [0, 1] rfl
    exact W.iret (v := 1) hx hb hr (fun t ht hW => ⟨⟨1, (), rfl, trivial, ⟨fc, by rw [ht]; exact hP9, va_K.moved hW.alike hK9, hD9⟩⟩, hS.F ht⟩) hS.2.2 dX7_wholeFrom_17
  · have c_1 : ¬ n ≤ 4 := fun z => c_1 ((nI_leI (a := n) (b := 4) (by omega) (by omega)).mpr z)
    refine lv_iload_n hx hb dX7_wholeFrom_10 rfl (lv_at hl 2 rfl) ?_
    refine lv_aload_n hx hb dX7_wholeFrom_11 rfl (lv_at hl 3 rfl) ?_
    refine va_alen (v := 4) hx hb hK hP 2 1 rfl rfl rfl dX7_wholeFrom_12 ?_
    refine lv_icmp_lt (tgt := 18) hx hb dX7_wholeFrom_13 (by decide) (fun z => absurd z (by decide)) (fun _ => ?_)
    refine lv_iconst (v := 1) hx hb dX7_wholeFrom_16 (by decide) ?_
    have hP9 := hP.sub (ws' := [(z, .inr (7, [.ref zc, .int (nI n)])), (zc, .inl (cI, N, .inl f)), (ch, .inl (kc, 4, .inl fc))]) [0, 1, 2] rfl
    have hD9 := hD.sub (ws' := [(z, .inr (7, [.ref zc, .int (nI n)])), (zc, .inl (cI, N, .inl f)), (ch, .inl (kc, 4, .inl fc))]) [0, 1, 2] (by decide) rfl
    have hK9 := hK.sub (tys' := [(cI, .int), (kc, .int)]) [0, 1] rfl
    exact W.iret (v := 1) hx hb hr (fun t ht hW => ⟨⟨1, (), rfl, trivial, ⟨fc, by rw [ht]; exact hP9, va_K.moved hW.alike hK9, hD9⟩⟩, hS.F ht⟩) hS.2.2 dX7_wholeFrom_17
theorem dX7_wholeFrom_18 : decode cX7_wholeFrom 18 = .ok (.iconst 0, 1) := by decide +kernel
theorem dX7_wholeFrom_19 : decode cX7_wholeFrom 19 = .ok (.istore 4, 2) := by decide +kernel
theorem dX7_wholeFrom_21 : decode cX7_wholeFrom 21 = .ok (.bipush 21, 2) := by decide +kernel
theorem dX7_wholeFrom_23 : decode cX7_wholeFrom 23 = .ok (.istore 5, 2) := by decide +kernel
theorem dX7_wholeFrom_25 : decode cX7_wholeFrom 25 = .ok (.iconst 0, 1) := by decide +kernel
theorem dX7_wholeFrom_26 : decode cX7_wholeFrom 26 = .ok (.istore 6, 2) := by decide +kernel
theorem dX7_wholeFrom_28 : decode cX7_wholeFrom 28 = .ok (.iload 6, 2) := by decide +kernel
theorem dX7_wholeFrom_30 : decode cX7_wholeFrom 30 = .ok (.iload_n 1, 1) := by decide +kernel
theorem dX7_wholeFrom_31 : decode cX7_wholeFrom 31 = .ok (.if_icmp .ge 83, 3) := by decide +kernel
theorem dX7_wholeFrom_34 : decode cX7_wholeFrom 34 = .ok (.aload_n 0, 1) := by decide +kernel
theorem dX7_wholeFrom_35 : decode cX7_wholeFrom 35 = .ok (.getfield 11, 3) := by decide +kernel
theorem dX7_wholeFrom_38 : decode cX7_wholeFrom 38 = .ok (.iload_n 1, 1) := by decide +kernel
theorem dX7_wholeFrom_39 : decode cX7_wholeFrom 39 = .ok (.iload_n 3, 1) := by decide +kernel
theorem dX7_wholeFrom_40 : decode cX7_wholeFrom 40 = .ok (.imul, 1) := by decide +kernel
theorem dX7_wholeFrom_41 : decode cX7_wholeFrom 41 = .ok (.iload 6, 2) := by decide +kernel
theorem dX7_wholeFrom_43 : decode cX7_wholeFrom 43 = .ok (.iadd, 1) := by decide +kernel
theorem dX7_wholeFrom_44 : decode cX7_wholeFrom 44 = .ok (.iaload, 1) := by decide +kernel
theorem dX7_wholeFrom_45 : decode cX7_wholeFrom 45 = .ok (.istore 7, 2) := by decide +kernel
theorem dX7_wholeFrom_47 : decode cX7_wholeFrom 47 = .ok (.aload_n 0, 1) := by decide +kernel
theorem dX7_wholeFrom_48 : decode cX7_wholeFrom 48 = .ok (.getfield 11, 3) := by decide +kernel
theorem dX7_wholeFrom_51 : decode cX7_wholeFrom 51 = .ok (.iload 6, 2) := by decide +kernel
theorem dX7_wholeFrom_53 : decode cX7_wholeFrom 53 = .ok (.iload_n 3, 1) := by decide +kernel
theorem dX7_wholeFrom_54 : decode cX7_wholeFrom 54 = .ok (.imul, 1) := by decide +kernel
theorem dX7_wholeFrom_55 : decode cX7_wholeFrom 55 = .ok (.iload_n 1, 1) := by decide +kernel
theorem dX7_wholeFrom_56 : decode cX7_wholeFrom 56 = .ok (.iadd, 1) := by decide +kernel
theorem dX7_wholeFrom_57 : decode cX7_wholeFrom 57 = .ok (.iaload, 1) := by decide +kernel
theorem dX7_wholeFrom_58 : decode cX7_wholeFrom 58 = .ok (.istore 8, 2) := by decide +kernel
theorem dX7_wholeFrom_60 : decode cX7_wholeFrom 60 = .ok (.iload 7, 2) := by decide +kernel
theorem dX7_wholeFrom_62 : decode cX7_wholeFrom 62 = .ok (.ldc 17, 2) := by decide +kernel
theorem dX7_wholeFrom_64 : decode cX7_wholeFrom 64 = .ok (.if_icmp .eq 20, 3) := by decide +kernel
theorem dX7_wholeFrom_67 : decode cX7_wholeFrom 67 = .ok (.iload 5, 2) := by decide +kernel
theorem dX7_wholeFrom_69 : decode cX7_wholeFrom 69 = .ok (.aload_n 2, 1) := by decide +kernel
theorem dX7_wholeFrom_70 : decode cX7_wholeFrom 70 = .ok (.iload 6, 2) := by decide +kernel
theorem dX7_wholeFrom_72 : decode cX7_wholeFrom 72 = .ok (.iaload, 1) := by decide +kernel
theorem dX7_wholeFrom_73 : decode cX7_wholeFrom 73 = .ok (.iload 7, 2) := by decide +kernel
theorem dX7_wholeFrom_75 : decode cX7_wholeFrom 75 = .ok (.invokestatic 39, 3) := by decide +kernel
theorem dX7_wholeFrom_78 : decode cX7_wholeFrom 78 = .ok (.iadd, 1) := by decide +kernel
theorem dX7_wholeFrom_79 : decode cX7_wholeFrom 79 = .ok (.invokestatic 22, 3) := by decide +kernel
theorem dX7_wholeFrom_82 : decode cX7_wholeFrom 82 = .ok (.istore 5, 2) := by decide +kernel
theorem dX7_wholeFrom_84 : decode cX7_wholeFrom 84 = .ok (.iload 8, 2) := by decide +kernel
theorem dX7_wholeFrom_86 : decode cX7_wholeFrom 86 = .ok (.ldc 17, 2) := by decide +kernel
theorem dX7_wholeFrom_88 : decode cX7_wholeFrom 88 = .ok (.if_icmp .eq 20, 3) := by decide +kernel
theorem dX7_wholeFrom_91 : decode cX7_wholeFrom 91 = .ok (.iload 4, 2) := by decide +kernel
theorem dX7_wholeFrom_93 : decode cX7_wholeFrom 93 = .ok (.aload_n 2, 1) := by decide +kernel
theorem dX7_wholeFrom_94 : decode cX7_wholeFrom 94 = .ok (.iload 6, 2) := by decide +kernel
theorem dX7_wholeFrom_96 : decode cX7_wholeFrom 96 = .ok (.iaload, 1) := by decide +kernel
theorem dX7_wholeFrom_97 : decode cX7_wholeFrom 97 = .ok (.iload 8, 2) := by decide +kernel
theorem dX7_wholeFrom_99 : decode cX7_wholeFrom 99 = .ok (.invokestatic 39, 3) := by decide +kernel
theorem dX7_wholeFrom_102 : decode cX7_wholeFrom 102 = .ok (.isub, 1) := by decide +kernel
theorem dX7_wholeFrom_103 : decode cX7_wholeFrom 103 = .ok (.invokestatic 42, 3) := by decide +kernel
theorem dX7_wholeFrom_106 : decode cX7_wholeFrom 106 = .ok (.istore 4, 2) := by decide +kernel
theorem dX7_wholeFrom_108 : decode cX7_wholeFrom 108 = .ok (.iinc 6 1, 3) := by decide +kernel
theorem dX7_wholeFrom_111 : decode cX7_wholeFrom 111 = .ok (.goto (-83), 3) := by decide +kernel
theorem dX7_wholeFrom_114 : decode cX7_wholeFrom 114 = .ok (.iload_n 1, 1) := by decide +kernel
theorem dX7_wholeFrom_115 : decode cX7_wholeFrom 115 = .ok (.iload_n 3, 1) := by decide +kernel
theorem dX7_wholeFrom_116 : decode cX7_wholeFrom 116 = .ok (.iconst 1, 1) := by decide +kernel
theorem dX7_wholeFrom_117 : decode cX7_wholeFrom 117 = .ok (.isub, 1) := by decide +kernel
theorem dX7_wholeFrom_118 : decode cX7_wholeFrom 118 = .ok (.if_icmp .ne 15, 3) := by decide +kernel
theorem dX7_wholeFrom_121 : decode cX7_wholeFrom 121 = .ok (.iconst 0, 1) := by decide +kernel
theorem dX7_wholeFrom_122 : decode cX7_wholeFrom 122 = .ok (.iload 5, 2) := by decide +kernel
theorem dX7_wholeFrom_124 : decode cX7_wholeFrom 124 = .ok (.iload 4, 2) := by decide +kernel
theorem dX7_wholeFrom_126 : decode cX7_wholeFrom 126 = .ok (.isub, 1) := by decide +kernel
theorem dX7_wholeFrom_127 : decode cX7_wholeFrom 127 = .ok (.iconst 1, 1) := by decide +kernel
theorem dX7_wholeFrom_128 : decode cX7_wholeFrom 128 = .ok (.iadd, 1) := by decide +kernel
theorem dX7_wholeFrom_129 : decode cX7_wholeFrom 129 = .ok (.invokestatic 42, 3) := by decide +kernel
theorem dX7_wholeFrom_132 : decode cX7_wholeFrom 132 = .ok (.ireturn, 1) := by decide +kernel
theorem dX7_wholeFrom_133 : decode cX7_wholeFrom 133 = .ok (.iconst 0, 1) := by decide +kernel
theorem dX7_wholeFrom_134 : decode cX7_wholeFrom 134 = .ok (.istore 6, 2) := by decide +kernel
theorem dX7_wholeFrom_136 : decode cX7_wholeFrom 136 = .ok (.iload 4, 2) := by decide +kernel
theorem dX7_wholeFrom_138 : decode cX7_wholeFrom 138 = .ok (.istore 7, 2) := by decide +kernel
theorem dX7_wholeFrom_140 : decode cX7_wholeFrom 140 = .ok (.iload 7, 2) := by decide +kernel
theorem dX7_wholeFrom_142 : decode cX7_wholeFrom 142 = .ok (.iload 5, 2) := by decide +kernel
theorem dX7_wholeFrom_144 : decode cX7_wholeFrom 144 = .ok (.if_icmp .gt 27, 3) := by decide +kernel
theorem dX7_wholeFrom_147 : decode cX7_wholeFrom 147 = .ok (.aload_n 2, 1) := by decide +kernel
theorem dX7_wholeFrom_148 : decode cX7_wholeFrom 148 = .ok (.iload_n 1, 1) := by decide +kernel
theorem dX7_wholeFrom_149 : decode cX7_wholeFrom 149 = .ok (.iload 7, 2) := by decide +kernel
theorem dX7_wholeFrom_151 : decode cX7_wholeFrom 151 = .ok (.iastore, 1) := by decide +kernel
theorem dX7_wholeFrom_152 : decode cX7_wholeFrom 152 = .ok (.iload 6, 2) := by decide +kernel
theorem dX7_wholeFrom_154 : decode cX7_wholeFrom 154 = .ok (.aload_n 0, 1) := by decide +kernel
theorem dX7_wholeFrom_155 : decode cX7_wholeFrom 155 = .ok (.iload_n 1, 1) := by decide +kernel
theorem dX7_wholeFrom_156 : decode cX7_wholeFrom 156 = .ok (.iconst 1, 1) := by decide +kernel
theorem dX7_wholeFrom_157 : decode cX7_wholeFrom 157 = .ok (.iadd, 1) := by decide +kernel
theorem dX7_wholeFrom_158 : decode cX7_wholeFrom 158 = .ok (.aload_n 2, 1) := by decide +kernel
theorem dX7_wholeFrom_159 : decode cX7_wholeFrom 159 = .ok (.invokestatic 35, 3) := by decide +kernel
theorem dX7_wholeFrom_162 : decode cX7_wholeFrom 162 = .ok (.iadd, 1) := by decide +kernel
theorem dX7_wholeFrom_163 : decode cX7_wholeFrom 163 = .ok (.istore 6, 2) := by decide +kernel
theorem dX7_wholeFrom_165 : decode cX7_wholeFrom 165 = .ok (.iinc 7 1, 3) := by decide +kernel
theorem dX7_wholeFrom_168 : decode cX7_wholeFrom 168 = .ok (.goto (-28), 3) := by decide +kernel
theorem dX7_wholeFrom_171 : decode cX7_wholeFrom 171 = .ok (.iload 6, 2) := by decide +kernel
theorem dX7_wholeFrom_173 : decode cX7_wholeFrom 173 = .ok (.ireturn, 1) := by decide +kernel
def vs_X7_wholeFrom_3 : List Cond := .code yX7_wholeFrom cX7_wholeFrom 9 (some .int) :: ([.fieldLink RX7 18 "ClockReach$Zone" "size" "I", .methodLink RX7 35 yX7_wholeFrom, .static yX7_wholeFrom, .initialized RX7, .code yX7_wholeFrom cX7_wholeFrom 9 (some .int), .methodLink RX7 42 Lib.Math.max.name, .static Lib.Math.max.name, .initialized "java/lang/Math", .code Lib.Math.max.name Lib.Math.max.code 2 (some .int), .fieldLink RX7 11 "ClockReach$Zone" "cells" "[I", .constant RX7 17 (2147483647), .methodLink RX7 39 yX7_wholePart, .static yX7_wholePart, .code yX7_wholePart cX7_wholePart 1 (some .int), .methodLink RX7 22 Lib.Math.min.name, .static Lib.Math.min.name, .code Lib.Math.min.name Lib.Math.min.code 2 (some .int)] ++ wsX70)
theorem g_X7_wholeFrom_3_X7_wholeFrom_4 : GoodIn vs_X7_wholeFrom_3 (va_wsS RX7 35 yX7_wholeFrom vs_X7_wholeFrom_4) := goodIn_r _ [2, 3, 4, 0, 1, 18, 19] (by decide +kernel) (by decide +kernel)
theorem g_X7_wholeFrom_3_X7_wholePart : GoodIn vs_X7_wholeFrom_3 (va_wsS RX7 39 yX7_wholePart vs_X7_wholePart) := goodIn_r _ [12, 13, 4, 14] (by decide +kernel) (by decide +kernel)
set_option maxHeartbeats 4000000 in
set_option maxRecDepth 100000 in
theorem c_X7_wholeFrom_3 (l : Launch) (dC : Nat → ClassId) (dI : Nat → Nat → Nat) (sz : Nat) (z zc : Nat) (cI : ClassId) (n N : Nat) (f : Nat → Int32) (hn : n * n ≤ N) (hN : N ≤ 25) (hn4 : n ≤ 4) (ch : Nat) (kc : ClassId) (fc : Nat → Int32) : Met l yX7_wholeFrom vs_X7_wholeFrom_3 ({ frames := 1, cells := 0, slots := 0, locals := 28 }) (va_Pc [.ref z, .int 3, .ref ch] (pu_B (dC, dI) [(z, .inr (7, [.ref zc, .int (nI n)])), (zc, .inl (cI, N, .inl f)), (ch, .inl (kc, 4, .inl fc))] [(cI, .int), (kc, .int)] sz)) (va_Qi (fun (r : Int32) (_ : Unit) => True) (fun _ t => ∃ (g : Nat → Int32), pu_E (dC, dI) [(z, .inr (7, [.ref zc, .int (nI n)])), (zc, .inl (cI, N, .inl f)), (ch, .inl (kc, 4, .inl g))] [(cI, .int), (kc, .int)] (va_A ([(z, .inr (7, [.ref zc, .int (nI n)])), (zc, .inl (cI, N, .inl f)), (ch, .inl (kc, 4, .inl fc))]) sz) t) (va_A ([(z, .inr (7, [.ref zc, .int (nI n)])), (zc, .inl (cI, N, .inl f)), (ch, .inl (kc, 4, .inl fc))]) sz)) 0 0 (va_A ([(z, .inr (7, [.ref zc, .int (nI n)])), (zc, .inl (cI, N, .inl f)), (ch, .inl (kc, 4, .inl fc))]) sz) := by
  refine Met.ofW (cc := cX7_wholeFrom) (maxL := 9) (ret := (some .int)) (by decide) rfl ?_
  intro p e s m args below meth c s₁ B hml hv
  obtain ⟨rfl, rfl, hP, hK, hD0⟩ := hv
  have hx := B.exec
  have hb := B.bytes
  have hr := B.returns
  have hts := atoms_spec (ws := vs_X7_wholeFrom_3) B.pre
  have v_1 := hts (.fieldLink RX7 18 "ClockReach$Zone" "size" "I") (List.mem_of_getElem? (i := 1) rfl)
  have v_6 := hts (.methodLink RX7 42 Lib.Math.max.name) (List.mem_of_getElem? (i := 6) rfl)
  have v_7 := hts (.static Lib.Math.max.name) (List.mem_of_getElem? (i := 7) rfl)
  have v_8 := hts (.initialized "java/lang/Math") (List.mem_of_getElem? (i := 8) rfl)
  have v_9 := hts (.code Lib.Math.max.name Lib.Math.max.code 2 (some .int)) (List.mem_of_getElem? (i := 9) rfl)
  have v_10 := hts (.fieldLink RX7 11 "ClockReach$Zone" "cells" "[I") (List.mem_of_getElem? (i := 10) rfl)
  have v_11 := hts (.constant RX7 17 (2147483647)) (List.mem_of_getElem? (i := 11) rfl)
  have v_15 := hts (.methodLink RX7 22 Lib.Math.min.name) (List.mem_of_getElem? (i := 15) rfl)
  have v_16 := hts (.static Lib.Math.min.name) (List.mem_of_getElem? (i := 16) rfl)
  have v_17 := hts (.code Lib.Math.min.name Lib.Math.min.code 2 (some .int)) (List.mem_of_getElem? (i := 17) rfl)
  have hown : s.vm.findClass RX7 = some m.cls := findClass_of_methodNamed B.named
  have hlocks := B.notSynchronized
  have hiX7 : ∀ w ∈ wsX70, w ∈ vs_X7_wholeFrom_3 := fun _ h => List.mem_cons_of_mem _ (List.mem_append_right _ h)
  have hD := hD0.self (sz := s.heap.size)
  generalize hAe : va_A ([(z, .inr (7, [.ref zc, .int (nI n)])), (zc, .inl (cI, N, .inl f)), (ch, .inl (kc, 4, .inl fc))]) s.heap.size = A at hD ⊢
  have hA : ∀ q : Nat, s.heap.size ≤ q → A q := fun q h => by rw [← hAe]; exact Or.inr h
  have hS : va_S A s.heap s.heap [] := va_S.rf
  have hl := lv_entry ([.ref z, .int 3, .ref ch]) (n := 9) (Nat.le_of_ble_eq_true rfl)
  rw [lg_entry_eq]
  generalize (lg_sl ([.ref z, .int 3, .ref ch]) ++ List.replicate (9 - (lg_sl ([.ref z, .int 3, .ref ch])).length) Slot.unset).toArray = ls at hl ⊢
  have hl : lv_has ls 9 [(0, .ref z), (1, .int 3), (2, .ref ch)] := hl
  have hn5 := zn_5 hn hN
  have hnq := zn_q hn hN
  refine lv_aload_n hx hb dX7_wholeFrom_0 rfl (lv_at hl 0 rfl) ?_
  refine va_get (D := (dC, dI)) (ci := 7) (v := .int (nI n)) (C := RX7) (T := TX7) (N := 2) hx hb hts hiX7 hown hK hP 0 rfl rfl 1 (by decide) v_1 (fun _ h9 => h9) rfl dX7_wholeFrom_1 ?_
  refine lv_istore_n (lv' := [(3, .int (nI n)), (0, .ref z), (1, .int 3), (2, .ref ch)]) hx hb dX7_wholeFrom_4 rfl hl (by decide) rfl (fun ls hl => ?_)
  refine lv_iload_n hx hb dX7_wholeFrom_5 rfl (lv_at hl 2 rfl) ?_
  refine lv_iload_n hx hb dX7_wholeFrom_6 rfl (lv_at hl 0 rfl) ?_
  refine lv_icmp_ge (tgt := 16) hx hb dX7_wholeFrom_7 (by decide) (fun c_1 => ?_) (fun c_1 => ?_)
  · have c_1 : n ≤ 3 := (nI_leI (a := n) (b := 3) (by omega) (by omega)).mp c_1
    refine lv_iconst (v := 1) hx hb dX7_wholeFrom_16 (by decide) ?_
    have hP9 := hP.sub (ws' := [(z, .inr (7, [.ref zc, .int (nI n)])), (zc, .inl (cI, N, .inl f)), (ch, .inl (kc, 4, .inl fc))]) [0, 1, 2] rfl
    have hD9 := hD.sub (ws' := [(z, .inr (7, [.ref zc, .int (nI n)])), (zc, .inl (cI, N, .inl f)), (ch, .inl (kc, 4, .inl fc))]) [0, 1, 2] (by decide) rfl
    have hK9 := hK.sub (tys' := [(cI, .int), (kc, .int)]) [0, 1] rfl
    exact W.iret (v := 1) hx hb hr (fun t ht hW => ⟨⟨1, (), rfl, trivial, ⟨fc, by rw [ht]; exact hP9, va_K.moved hW.alike hK9, hD9⟩⟩, hS.F ht⟩) hS.2.2 dX7_wholeFrom_17
  · have c_1 : ¬ n ≤ 3 := fun z => c_1 ((nI_leI (a := n) (b := 3) (by omega) (by omega)).mpr z)
    refine lv_iload_n hx hb dX7_wholeFrom_10 rfl (lv_at hl 2 rfl) ?_
    refine lv_aload_n hx hb dX7_wholeFrom_11 rfl (lv_at hl 3 rfl) ?_
    refine va_alen (v := 4) hx hb hK hP 2 1 rfl rfl rfl dX7_wholeFrom_12 ?_
    refine lv_icmp_lt (tgt := 18) hx hb dX7_wholeFrom_13 (by decide) (fun _ => ?_) (fun z => absurd z (by decide))
    refine lv_iconst (v := 0) hx hb dX7_wholeFrom_18 (by decide) ?_
    refine lv_istore (lv' := [(4, .int 0), (3, .int (nI n)), (0, .ref z), (1, .int 3), (2, .ref ch)]) hx hb dX7_wholeFrom_19 hl (by decide) rfl (fun ls hl => ?_)
    refine lv_bipush (v := 21) hx hb dX7_wholeFrom_21 (by decide) ?_
    refine lv_istore (lv' := [(5, .int 21), (4, .int 0), (3, .int (nI n)), (0, .ref z), (1, .int 3), (2, .ref ch)]) hx hb dX7_wholeFrom_23 hl (by decide) rfl (fun ls hl => ?_)
    refine lv_iconst (v := 0) hx hb dX7_wholeFrom_25 (by decide) ?_
    refine lv_istore (lv' := [(6, .int 0), (5, .int 21), (4, .int 0), (3, .int (nI n)), (0, .ref z), (1, .int 3), (2, .ref ch)]) hx hb dX7_wholeFrom_26 hl (by decide) rfl (fun ls hl => ?_)
    refine pu_loop (3) (fun ii H locs ls => ∃ v0 : Int32, ∃ v1 : Int32, va_P (dC, dI) vwCl [(z, .inr (7, [.ref zc, .int (nI n)])), (zc, .inl (cI, N, .inl f)), (ch, .inl (kc, 4, .inl fc))] H ∧ va_D A [(z, .inr (7, [.ref zc, .int (nI n)])), (zc, .inl (cI, N, .inl f)), (ch, .inl (kc, 4, .inl fc))] ∧ va_S A s.heap H locs ∧ lv_has ls 9 [(0, .ref z), (1, .int 3), (2, .ref ch), (3, .int (nI n)), (4, .int v0), (5, .int v1), (6, .int (nI ii))] ∧ (0 ≤ v0 ∧ v1 ≤ 21)) (fun _ => 0) (fun _ => 0) 28 [] ?_ ?_ _ _ _ ⟨_, _, hP, hD, hS, lv_sub hl [4, 5, 6, 3, 2, 1, 0] rfl, ⟨by decide, by decide⟩⟩
    · rintro H locs ls ⟨vl_2, vl_3, hP, hD, hS, hl, hpr_7⟩
      refine lv_iload hx hb dX7_wholeFrom_28 (lv_at hl 6 rfl) ?_
      refine lv_iload_n hx hb dX7_wholeFrom_30 rfl (lv_at hl 1 rfl) ?_
      refine lv_icmp_ge (tgt := 114) hx hb dX7_wholeFrom_31 (by decide) (fun _ => ?_) (fun z => absurd (nI_le (a := 3) (b := 3) (by omega) (by omega)) z)
      refine lv_iload_n hx hb dX7_wholeFrom_114 rfl (lv_at hl 1 rfl) ?_
      refine lv_iload_n hx hb dX7_wholeFrom_115 rfl (lv_at hl 3 rfl) ?_
      refine lv_iconst (v := 1) hx hb dX7_wholeFrom_116 (by decide) ?_
      refine lv_isub hx hb dX7_wholeFrom_117 ?_
      refine lv_icmp_ne (tgt := 133) hx hb dX7_wholeFrom_118 (by decide) (fun c_8 => ?_) (fun c_8 => ?_)
      · refine lv_iconst (v := 0) hx hb dX7_wholeFrom_133 (by decide) ?_
        refine lv_istore (lv' := [(6, .int 0), (0, .ref z), (1, .int 3), (2, .ref ch), (3, .int (nI n)), (4, .int vl_2), (5, .int vl_3)]) hx hb dX7_wholeFrom_134 hl (by decide) rfl (fun ls hl => ?_)
        refine lv_iload hx hb dX7_wholeFrom_136 (lv_at hl 5 rfl) ?_
        refine lv_istore (lv' := [(7, .int vl_2), (6, .int 0), (0, .ref z), (1, .int 3), (2, .ref ch), (3, .int (nI n)), (4, .int vl_2), (5, .int vl_3)]) hx hb dX7_wholeFrom_138 hl (by decide) rfl (fun ls hl => ?_)
        obtain ⟨lw_9, hlw_10, rfl⟩ := nI_of (le_0 hpr_7.1)
        refine pu_loop (22 - lw_9) (fun ii H locs ls => ∃ f0 : Nat → Int32, ∃ v0 : Int32, va_P (dC, dI) vwCl [(z, .inr (7, [.ref zc, .int (nI n)])), (zc, .inl (cI, N, .inl f)), (ch, .inl (kc, 4, .inl f0))] H ∧ va_D A [(z, .inr (7, [.ref zc, .int (nI n)])), (zc, .inl (cI, N, .inl f)), (ch, .inl (kc, 4, .inl f0))] ∧ va_S A s.heap H locs ∧ lv_has ls 9 [(0, .ref z), (1, .int 3), (2, .ref ch), (3, .int (nI n)), (4, .int (nI lw_9)), (5, .int vl_3), (6, .int v0), (7, .int (nI (lw_9 + ii)))]) (fun _ => 0) (fun _ => 0) 140 [] ?_ ?_ _ _ _ ⟨_, _, hP, hD, hS, lv_sub hl [2, 3, 4, 5, 6, 7, 1, 0] rfl⟩
        · rintro H locs ls ⟨f_11, vl_12, hP, hD, hS, hl⟩
          refine lv_iload hx hb dX7_wholeFrom_140 (lv_at hl 7 rfl) ?_
          refine lv_iload hx hb dX7_wholeFrom_142 (lv_at hl 5 rfl) ?_
          refine lv_icmp_gt (tgt := 171) hx hb dX7_wholeFrom_144 (by decide) (fun _ => ?_) (fun z => absurd (mx_lt hpr_7.2 (by omega) (by omega)) z)
          refine lv_iload hx hb dX7_wholeFrom_171 (lv_at hl 6 rfl) ?_
          have hP9 := hP.sub (ws' := [(z, .inr (7, [.ref zc, .int (nI n)])), (zc, .inl (cI, N, .inl f)), (ch, .inl (kc, 4, .inl f_11))]) [0, 1, 2] rfl
          have hD9 := hD.sub (ws' := [(z, .inr (7, [.ref zc, .int (nI n)])), (zc, .inl (cI, N, .inl f)), (ch, .inl (kc, 4, .inl f_11))]) [0, 1, 2] (by decide) rfl
          have hK9 := hK.sub (tys' := [(cI, .int), (kc, .int)]) [0, 1] rfl
          exact W.iret (v := vl_12) hx hb hr (fun t ht hW => ⟨⟨vl_12, (), rfl, trivial, ⟨f_11, by rw [ht]; exact hP9, va_K.moved hW.alike hK9, hD9⟩⟩, hS.F ht⟩) hS.2.2 dX7_wholeFrom_173
        · rintro i_13 h_14 ih_15 H locs ls ⟨f_11, vl_12, hP, hD, hS, hl⟩
          refine lv_iload hx hb dX7_wholeFrom_140 (lv_at hl 7 rfl) ?_
          refine lv_iload hx hb dX7_wholeFrom_142 (lv_at hl 5 rfl) ?_
          refine lv_icmp_gt (tgt := 171) hx hb dX7_wholeFrom_144 (by decide) (fun c_16 => ?_) (fun c_16 => ?_)
          · refine lv_iload hx hb dX7_wholeFrom_171 (lv_at hl 6 rfl) ?_
            have hP9 := hP.sub (ws' := [(z, .inr (7, [.ref zc, .int (nI n)])), (zc, .inl (cI, N, .inl f)), (ch, .inl (kc, 4, .inl f_11))]) [0, 1, 2] rfl
            have hD9 := hD.sub (ws' := [(z, .inr (7, [.ref zc, .int (nI n)])), (zc, .inl (cI, N, .inl f)), (ch, .inl (kc, 4, .inl f_11))]) [0, 1, 2] (by decide) rfl
            have hK9 := hK.sub (tys' := [(cI, .int), (kc, .int)]) [0, 1] rfl
            exact W.iret (v := vl_12) hx hb hr (fun t ht hW => ⟨⟨vl_12, (), rfl, trivial, ⟨f_11, by rw [ht]; exact hP9, va_K.moved hW.alike hK9, hD9⟩⟩, hS.F ht⟩) hS.2.2 dX7_wholeFrom_173
          · refine lv_aload_n hx hb dX7_wholeFrom_147 rfl (lv_at hl 2 rfl) ?_
            refine lv_iload_n hx hb dX7_wholeFrom_148 rfl (lv_at hl 1 rfl) ?_
            refine lv_iload hx hb dX7_wholeFrom_149 (lv_at hl 7 rfl) ?_
            refine va_iast hx hb hK hP hD hS 2 1 rfl rfl (show ¬ (_ ∨ _) by decide) dX7_wholeFrom_151 (fun H locs hP hD hS => ?_)
            have hP : va_P (dC, dI) vwCl [(z, .inr (7, [.ref zc, .int (nI n)])), (zc, .inl (cI, N, .inl f)), (ch, .inl (kc, 4, .inl (upd f_11 (3 : Int32).toNatClampNeg (nI (lw_9 + i_13)))))] H := hP
            have hD : va_D A [(z, .inr (7, [.ref zc, .int (nI n)])), (zc, .inl (cI, N, .inl f)), (ch, .inl (kc, 4, .inl (upd f_11 (3 : Int32).toNatClampNeg (nI (lw_9 + i_13)))))] := hD
            refine lv_iload hx hb dX7_wholeFrom_152 (lv_at hl 6 rfl) ?_
            refine lv_aload_n hx hb dX7_wholeFrom_154 rfl (lv_at hl 0 rfl) ?_
            refine lv_iload_n hx hb dX7_wholeFrom_155 rfl (lv_at hl 1 rfl) ?_
            refine lv_iconst (v := 1) hx hb dX7_wholeFrom_156 (by decide) ?_
            refine lv_iadd hx hb dX7_wholeFrom_157 ?_
            refine lv_topi (fun y_17 ey_17 => ?_)
            obtain rfl : y_17 = 4 := ey_17.trans (by decide)
            refine lv_aload_n hx hb dX7_wholeFrom_158 rfl (lv_at hl 2 rfl) ?_
            have hFc := va_free (wc := [(z, .inr (7, [.ref zc, .int (nI n)])), (zc, .inl (cI, N, .inl f)), (ch, .inl (kc, 4, .inl (upd f_11 (3 : Int32).toNatClampNeg (nI (lw_9 + i_13)))))]) hD hS hA [0, 1, 2] rfl
            refine va_calli (va_runS (As := [.ref z, .int 4, .ref ch]) (rest := [.int vl_12]) ⟨hx, hb, hml, hown, hts⟩ (c_X7_wholeFrom_4 l dC dI _ z zc cI n N f hn hN hn4 ch kc (upd f_11 (3 : Int32).toNatClampNeg (nI (lw_9 + i_13)))) (va_cwS 3 hts g_X7_wholeFrom_3_X7_wholeFrom_4 rfl rfl rfl (by decide +kernel) ⟨Nat.le_of_ble_eq_true rfl, Nat.le_of_ble_eq_true rfl⟩) ⟨pu_bl, pu_in hP hK hD⟩ rfl rfl hl.1 rfl (lv_room (Nat.le_of_ble_eq_true rfl)) dX7_wholeFrom_159 ⟨Nat.le_of_ble_eq_true rfl, Nat.le_of_ble_eq_true rfl⟩) hS (fun q _ h => hFc q h) hFc (fun r_18 u t H1 locs ht hvm hw hB hz1 hk1 hS => ?_)
            obtain ⟨g_19, ⟨hP1, hK1, hD1⟩⟩ := hB
            rw [ht] at hP1
            have hK1 := va_K.moved hvm.symm hK1
            obtain ⟨hP, hD⟩ := va_join (wr := []) (w1 := [(z, .inr (7, [.ref zc, .int (nI n)])), (zc, .inl (cI, N, .inl f)), (ch, .inl (kc, 4, .inl g_19))]) hP hD [0, 1, 2] [] rfl rfl (by decide) (by decide) hk1 hFc hP1 hD1
            have hK := hK.app hK1
            clear hk1 hz1 ht hvm
            generalize H1 = H at hP hS ⊢
            have hP : va_P (dC, dI) vwCl [(z, .inr (7, [.ref zc, .int (nI n)])), (zc, .inl (cI, N, .inl f)), (ch, .inl (kc, 4, .inl g_19))] H := hP
            have hD : va_D A [(z, .inr (7, [.ref zc, .int (nI n)])), (zc, .inl (cI, N, .inl f)), (ch, .inl (kc, 4, .inl g_19))] := hD
            have hK : va_K (dC, dI) vwCl [(cI, .int), (kc, .int), (cI, .int), (kc, .int)] s := hK
            refine lv_iadd hx hb dX7_wholeFrom_162 ?_
            refine lv_istore (lv' := [(6, .int (vl_12 + r_18)), (0, .ref z), (1, .int 3), (2, .ref ch), (3, .int (nI n)), (4, .int (nI lw_9)), (5, .int vl_3), (7, .int (nI (lw_9 + i_13)))]) hx hb dX7_wholeFrom_163 hl (by decide) rfl (fun ls hl => ?_)
            refine lv_iinc (v := (nI ((lw_9 + i_13) + 1))) (lv' := [(7, .int (nI ((lw_9 + i_13) + 1))), (6, .int (vl_12 + r_18)), (0, .ref z), (1, .int 3), (2, .ref ch), (3, .int (nI n)), (4, .int (nI lw_9)), (5, .int vl_3)]) hx hb dX7_wholeFrom_165 hl (k := 7) rfl (nI_1 _) (by decide) rfl (fun ls hl => ?_)
            refine lv_goto (tgt := 140) hx hb dX7_wholeFrom_168 (by decide) ?_
            exact ih_15 _ _ _ ⟨_, _, hP, hD, hS, lv_sub hl [2, 3, 4, 5, 6, 7, 1, 0] rfl⟩
      · refine lv_iconst (v := 0) hx hb dX7_wholeFrom_121 (by decide) ?_
        refine lv_iload hx hb dX7_wholeFrom_122 (lv_at hl 5 rfl) ?_
        refine lv_iload hx hb dX7_wholeFrom_124 (lv_at hl 4 rfl) ?_
        refine lv_isub hx hb dX7_wholeFrom_126 ?_
        refine lv_iconst (v := 1) hx hb dX7_wholeFrom_127 (by decide) ?_
        refine lv_iadd hx hb dX7_wholeFrom_128 ?_
        refine va_mmax hx hb (hml.trans hl.1.symm) hown v_6 v_7 v_8 v_9 (Nat.le_of_ble_eq_true rfl) (Nat.le_of_ble_eq_true rfl) (Nat.le_of_ble_eq_true rfl) (Nat.le_of_ble_eq_true rfl) dX7_wholeFrom_129 ?_
        refine lv_topi (fun y_20 ey_20 => ?_)
        have hP9 := hP.sub (ws' := [(z, .inr (7, [.ref zc, .int (nI n)])), (zc, .inl (cI, N, .inl f)), (ch, .inl (kc, 4, .inl fc))]) [0, 1, 2] rfl
        have hD9 := hD.sub (ws' := [(z, .inr (7, [.ref zc, .int (nI n)])), (zc, .inl (cI, N, .inl f)), (ch, .inl (kc, 4, .inl fc))]) [0, 1, 2] (by decide) rfl
        have hK9 := hK.sub (tys' := [(cI, .int), (kc, .int)]) [0, 1] rfl
        exact W.iret (v := y_20) hx hb hr (fun t ht hW => ⟨⟨y_20, (), rfl, trivial, ⟨fc, by rw [ht]; exact hP9, va_K.moved hW.alike hK9, hD9⟩⟩, hS.F ht⟩) hS.2.2 dX7_wholeFrom_132
    · rintro i_4 h_5 ih_6 H locs ls ⟨vl_2, vl_3, hP, hD, hS, hl, hpr_7⟩
      refine lv_iload hx hb dX7_wholeFrom_28 (lv_at hl 6 rfl) ?_
      refine lv_iload_n hx hb dX7_wholeFrom_30 rfl (lv_at hl 1 rfl) ?_
      refine lv_icmp_ge (tgt := 114) hx hb dX7_wholeFrom_31 (by decide) (fun z => absurd z (nI_ge (a := i_4) (b := 3) (by omega) (by omega))) (fun _ => ?_)
      refine lv_aload_n hx hb dX7_wholeFrom_34 rfl (lv_at hl 0 rfl) ?_
      refine va_get (D := (dC, dI)) (ci := 7) (v := .ref zc) (C := RX7) (T := TX7) (N := 2) hx hb hts hiX7 hown hK hP 0 rfl rfl 0 (by decide) v_10 (fun _ h9 => h9) rfl dX7_wholeFrom_35 ?_
      refine lv_iload_n hx hb dX7_wholeFrom_38 rfl (lv_at hl 1 rfl) ?_
      refine lv_iload_n hx hb dX7_wholeFrom_39 rfl (lv_at hl 3 rfl) ?_
      refine lv_imul hx hb dX7_wholeFrom_40 ?_
      refine lv_topi (fun y_21 ey_21 => ?_)
      obtain rfl : y_21 = (nI (3 * n)) := ey_21.trans (pk_mul 3 n)
      refine lv_iload hx hb dX7_wholeFrom_41 (lv_at hl 6 rfl) ?_
      refine lv_iadd hx hb dX7_wholeFrom_43 ?_
      refine lv_topi (fun y_22 ey_22 => ?_)
      obtain rfl : y_22 = (nI ((3 * n) + i_4)) := ey_22.trans (nI_add (3 * n) i_4)
      refine va_iald hx hb hK hP 1 0 rfl rfl (vp_in_nI (n := ((3 * n) + i_4)) (by first | omega | exact ix_lt (by omega) (by omega) hn | exact ix_lt0 (by omega) hn | exact ix_ltq (by omega) hn | exact ix_lt1 (by omega) hn) (by omega)) dX7_wholeFrom_44 ?_
      refine lv_istore (lv' := [(7, .int (f ((nI ((3 * n) + i_4))).toNatClampNeg)), (0, .ref z), (1, .int 3), (2, .ref ch), (3, .int (nI n)), (4, .int vl_2), (5, .int vl_3), (6, .int (nI i_4))]) hx hb dX7_wholeFrom_45 hl (by decide) rfl (fun ls hl => ?_)
      refine lv_aload_n hx hb dX7_wholeFrom_47 rfl (lv_at hl 1 rfl) ?_
      refine va_get (D := (dC, dI)) (ci := 7) (v := .ref zc) (C := RX7) (T := TX7) (N := 2) hx hb hts hiX7 hown hK hP 0 rfl rfl 0 (by decide) v_10 (fun _ h9 => h9) rfl dX7_wholeFrom_48 ?_
      refine lv_iload hx hb dX7_wholeFrom_51 (lv_at hl 7 rfl) ?_
      refine lv_iload_n hx hb dX7_wholeFrom_53 rfl (lv_at hl 4 rfl) ?_
      refine lv_imul hx hb dX7_wholeFrom_54 ?_
      refine lv_topi (fun y_23 ey_23 => ?_)
      obtain rfl : y_23 = (nI (i_4 * n)) := ey_23.trans (pk_mul i_4 n)
      refine lv_iload_n hx hb dX7_wholeFrom_55 rfl (lv_at hl 2 rfl) ?_
      refine lv_iadd hx hb dX7_wholeFrom_56 ?_
      refine lv_topi (fun y_24 ey_24 => ?_)
      obtain rfl : y_24 = (nI ((i_4 * n) + 3)) := ey_24.trans (nI_add (i_4 * n) 3)
      refine va_iald hx hb hK hP 1 0 rfl rfl (vp_in_nI (n := ((i_4 * n) + 3)) (by first | omega | exact ix_lt (by omega) (by omega) hn | exact ix_lt0 (by omega) hn | exact ix_ltq (by omega) hn | exact ix_lt1 (by omega) hn) (by omega)) dX7_wholeFrom_57 ?_
      refine lv_istore (lv' := [(8, .int (f ((nI ((i_4 * n) + 3))).toNatClampNeg)), (7, .int (f ((nI ((3 * n) + i_4))).toNatClampNeg)), (0, .ref z), (1, .int 3), (2, .ref ch), (3, .int (nI n)), (4, .int vl_2), (5, .int vl_3), (6, .int (nI i_4))]) hx hb dX7_wholeFrom_58 hl (by decide) rfl (fun ls hl => ?_)
      refine lv_iload hx hb dX7_wholeFrom_60 (lv_at hl 1 rfl) ?_
      refine lv_ldc hx hb hown v_11 dX7_wholeFrom_62 ?_
      refine lv_icmp_eq (tgt := 84) hx hb dX7_wholeFrom_64 (by decide) (fun c_25 => ?_) (fun c_25 => ?_)
      · refine lv_iload hx hb dX7_wholeFrom_84 (lv_at hl 0 rfl) ?_
        refine lv_ldc hx hb hown v_11 dX7_wholeFrom_86 ?_
        refine lv_icmp_eq (tgt := 108) hx hb dX7_wholeFrom_88 (by decide) (fun c_26 => ?_) (fun c_26 => ?_)
        · refine lv_iinc (v := (nI (i_4 + 1))) (lv' := [(6, .int (nI (i_4 + 1))), (8, .int (f ((nI ((i_4 * n) + 3))).toNatClampNeg)), (7, .int (f ((nI ((3 * n) + i_4))).toNatClampNeg)), (0, .ref z), (1, .int 3), (2, .ref ch), (3, .int (nI n)), (4, .int vl_2), (5, .int vl_3)]) hx hb dX7_wholeFrom_108 hl (k := 8) rfl (nI_1 _) (by decide) rfl (fun ls hl => ?_)
          refine lv_goto (tgt := 28) hx hb dX7_wholeFrom_111 (by decide) ?_
          exact ih_6 _ _ _ ⟨_, _, hP, hD, hS, lv_sub hl [3, 4, 5, 6, 7, 8, 0] rfl, ⟨hpr_7.1, hpr_7.2⟩⟩
        · refine lv_iload hx hb dX7_wholeFrom_91 (lv_at hl 6 rfl) ?_
          refine lv_aload_n hx hb dX7_wholeFrom_93 rfl (lv_at hl 4 rfl) ?_
          refine lv_iload hx hb dX7_wholeFrom_94 (lv_at hl 8 rfl) ?_
          refine va_iald hx hb hK hP 2 1 rfl rfl (vp_in_nI (n := i_4) (by first | omega | exact ix_lt (by omega) (by omega) hn | exact ix_lt0 (by omega) hn | exact ix_ltq (by omega) hn | exact ix_lt1 (by omega) hn) (by omega)) dX7_wholeFrom_96 ?_
          refine lv_iload hx hb dX7_wholeFrom_97 (lv_at hl 0 rfl) ?_
          refine va_calli (va_runS (As := [.int (f ((nI ((i_4 * n) + 3))).toNatClampNeg)]) (rest := [.int (fc ((nI i_4)).toNatClampNeg), .int vl_2]) ⟨hx, hb, hml, hown, hts⟩ (c_X7_wholePart l dC dI _ (f ((nI ((i_4 * n) + 3))).toNatClampNeg)) (va_cwS 1 hts g_X7_wholeFrom_3_X7_wholePart rfl rfl rfl (by decide +kernel) ⟨Nat.le_of_ble_eq_true rfl, Nat.le_of_ble_eq_true rfl⟩) ⟨pu_bl, pu_in (hP.sub [] rfl) (hK.sub [] rfl) (hD.sub [] (by decide) rfl)⟩ rfl rfl hl.1 rfl (lv_room (Nat.le_of_ble_eq_true rfl)) dX7_wholeFrom_99 ⟨Nat.le_of_ble_eq_true rfl, Nat.le_of_ble_eq_true rfl⟩) hS (fun q _ h => pu_fr hS hA q h) (pu_fr hS hA) (fun r_27 u t H1 locs ht hvm hw hB hz1 hk1 hS => ?_)
          have hP := pu_keep hP hk1
          clear hk1 hz1 ht hvm
          generalize H1 = H at hP hS ⊢
          refine lv_isub hx hb dX7_wholeFrom_102 ?_
          refine va_mmax hx hb (hml.trans hl.1.symm) hown v_6 v_7 v_8 v_9 (Nat.le_of_ble_eq_true rfl) (Nat.le_of_ble_eq_true rfl) (Nat.le_of_ble_eq_true rfl) (Nat.le_of_ble_eq_true rfl) dX7_wholeFrom_103 ?_
          refine lv_topi (fun y_28 ey_28 => ?_)
          refine lv_istore (lv' := [(4, .int y_28), (8, .int (f ((nI ((i_4 * n) + 3))).toNatClampNeg)), (7, .int (f ((nI ((3 * n) + i_4))).toNatClampNeg)), (0, .ref z), (1, .int 3), (2, .ref ch), (3, .int (nI n)), (5, .int vl_3), (6, .int (nI i_4))]) hx hb dX7_wholeFrom_106 hl (by decide) rfl (fun ls hl => ?_)
          refine lv_iinc (v := (nI (i_4 + 1))) (lv' := [(6, .int (nI (i_4 + 1))), (4, .int y_28), (8, .int (f ((nI ((i_4 * n) + 3))).toNatClampNeg)), (7, .int (f ((nI ((3 * n) + i_4))).toNatClampNeg)), (0, .ref z), (1, .int 3), (2, .ref ch), (3, .int (nI n)), (5, .int vl_3)]) hx hb dX7_wholeFrom_108 hl (k := 8) rfl (nI_1 _) (by decide) rfl (fun ls hl => ?_)
          refine lv_goto (tgt := 28) hx hb dX7_wholeFrom_111 (by decide) ?_
          exact ih_6 _ _ _ ⟨_, _, hP, hD, hS, lv_sub hl [4, 5, 6, 7, 1, 8, 0] rfl, ⟨by rw [ey_28]; exact mx_0 hpr_7.1, hpr_7.2⟩⟩
      · refine lv_iload hx hb dX7_wholeFrom_67 (lv_at hl 7 rfl) ?_
        refine lv_aload_n hx hb dX7_wholeFrom_69 rfl (lv_at hl 4 rfl) ?_
        refine lv_iload hx hb dX7_wholeFrom_70 (lv_at hl 8 rfl) ?_
        refine va_iald hx hb hK hP 2 1 rfl rfl (vp_in_nI (n := i_4) (by first | omega | exact ix_lt (by omega) (by omega) hn | exact ix_lt0 (by omega) hn | exact ix_ltq (by omega) hn | exact ix_lt1 (by omega) hn) (by omega)) dX7_wholeFrom_72 ?_
        refine lv_iload hx hb dX7_wholeFrom_73 (lv_at hl 1 rfl) ?_
        refine va_calli (va_runS (As := [.int (f ((nI ((3 * n) + i_4))).toNatClampNeg)]) (rest := [.int (fc ((nI i_4)).toNatClampNeg), .int vl_3]) ⟨hx, hb, hml, hown, hts⟩ (c_X7_wholePart l dC dI _ (f ((nI ((3 * n) + i_4))).toNatClampNeg)) (va_cwS 1 hts g_X7_wholeFrom_3_X7_wholePart rfl rfl rfl (by decide +kernel) ⟨Nat.le_of_ble_eq_true rfl, Nat.le_of_ble_eq_true rfl⟩) ⟨pu_bl, pu_in (hP.sub [] rfl) (hK.sub [] rfl) (hD.sub [] (by decide) rfl)⟩ rfl rfl hl.1 rfl (lv_room (Nat.le_of_ble_eq_true rfl)) dX7_wholeFrom_75 ⟨Nat.le_of_ble_eq_true rfl, Nat.le_of_ble_eq_true rfl⟩) hS (fun q _ h => pu_fr hS hA q h) (pu_fr hS hA) (fun r_29 u t H1 locs ht hvm hw hB hz1 hk1 hS => ?_)
        have hP := pu_keep hP hk1
        clear hk1 hz1 ht hvm
        generalize H1 = H at hP hS ⊢
        refine lv_iadd hx hb dX7_wholeFrom_78 ?_
        refine va_mmin hx hb (hml.trans hl.1.symm) hown v_15 v_16 v_8 v_17 (Nat.le_of_ble_eq_true rfl) (Nat.le_of_ble_eq_true rfl) (Nat.le_of_ble_eq_true rfl) (Nat.le_of_ble_eq_true rfl) dX7_wholeFrom_79 ?_
        refine lv_topi (fun y_30 ey_30 => ?_)
        refine lv_istore (lv' := [(5, .int y_30), (8, .int (f ((nI ((i_4 * n) + 3))).toNatClampNeg)), (7, .int (f ((nI ((3 * n) + i_4))).toNatClampNeg)), (0, .ref z), (1, .int 3), (2, .ref ch), (3, .int (nI n)), (4, .int vl_2), (6, .int (nI i_4))]) hx hb dX7_wholeFrom_82 hl (by decide) rfl (fun ls hl => ?_)
        refine lv_iload hx hb dX7_wholeFrom_84 (lv_at hl 1 rfl) ?_
        refine lv_ldc hx hb hown v_11 dX7_wholeFrom_86 ?_
        refine lv_icmp_eq (tgt := 108) hx hb dX7_wholeFrom_88 (by decide) (fun c_31 => ?_) (fun c_31 => ?_)
        · refine lv_iinc (v := (nI (i_4 + 1))) (lv' := [(6, .int (nI (i_4 + 1))), (5, .int y_30), (8, .int (f ((nI ((i_4 * n) + 3))).toNatClampNeg)), (7, .int (f ((nI ((3 * n) + i_4))).toNatClampNeg)), (0, .ref z), (1, .int 3), (2, .ref ch), (3, .int (nI n)), (4, .int vl_2)]) hx hb dX7_wholeFrom_108 hl (k := 8) rfl (nI_1 _) (by decide) rfl (fun ls hl => ?_)
          refine lv_goto (tgt := 28) hx hb dX7_wholeFrom_111 (by decide) ?_
          exact ih_6 _ _ _ ⟨_, _, hP, hD, hS, lv_sub hl [4, 5, 6, 7, 8, 1, 0] rfl, ⟨hpr_7.1, by rw [ey_30]; exact mn_21 hpr_7.2⟩⟩
        · refine lv_iload hx hb dX7_wholeFrom_91 (lv_at hl 7 rfl) ?_
          refine lv_aload_n hx hb dX7_wholeFrom_93 rfl (lv_at hl 5 rfl) ?_
          refine lv_iload hx hb dX7_wholeFrom_94 (lv_at hl 8 rfl) ?_
          refine va_iald hx hb hK hP 2 1 rfl rfl (vp_in_nI (n := i_4) (by first | omega | exact ix_lt (by omega) (by omega) hn | exact ix_lt0 (by omega) hn | exact ix_ltq (by omega) hn | exact ix_lt1 (by omega) hn) (by omega)) dX7_wholeFrom_96 ?_
          refine lv_iload hx hb dX7_wholeFrom_97 (lv_at hl 1 rfl) ?_
          refine va_calli (va_runS (As := [.int (f ((nI ((i_4 * n) + 3))).toNatClampNeg)]) (rest := [.int (fc ((nI i_4)).toNatClampNeg), .int vl_2]) ⟨hx, hb, hml, hown, hts⟩ (c_X7_wholePart l dC dI _ (f ((nI ((i_4 * n) + 3))).toNatClampNeg)) (va_cwS 1 hts g_X7_wholeFrom_3_X7_wholePart rfl rfl rfl (by decide +kernel) ⟨Nat.le_of_ble_eq_true rfl, Nat.le_of_ble_eq_true rfl⟩) ⟨pu_bl, pu_in (hP.sub [] rfl) (hK.sub [] rfl) (hD.sub [] (by decide) rfl)⟩ rfl rfl hl.1 rfl (lv_room (Nat.le_of_ble_eq_true rfl)) dX7_wholeFrom_99 ⟨Nat.le_of_ble_eq_true rfl, Nat.le_of_ble_eq_true rfl⟩) hS (fun q _ h => pu_fr hS hA q h) (pu_fr hS hA) (fun r_32 u t H1 locs ht hvm hw hB hz1 hk1 hS => ?_)
          have hP := pu_keep hP hk1
          clear hk1 hz1 ht hvm
          generalize H1 = H at hP hS ⊢
          refine lv_isub hx hb dX7_wholeFrom_102 ?_
          refine va_mmax hx hb (hml.trans hl.1.symm) hown v_6 v_7 v_8 v_9 (Nat.le_of_ble_eq_true rfl) (Nat.le_of_ble_eq_true rfl) (Nat.le_of_ble_eq_true rfl) (Nat.le_of_ble_eq_true rfl) dX7_wholeFrom_103 ?_
          refine lv_topi (fun y_33 ey_33 => ?_)
          refine lv_istore (lv' := [(4, .int y_33), (5, .int y_30), (8, .int (f ((nI ((i_4 * n) + 3))).toNatClampNeg)), (7, .int (f ((nI ((3 * n) + i_4))).toNatClampNeg)), (0, .ref z), (1, .int 3), (2, .ref ch), (3, .int (nI n)), (6, .int (nI i_4))]) hx hb dX7_wholeFrom_106 hl (by decide) rfl (fun ls hl => ?_)
          refine lv_iinc (v := (nI (i_4 + 1))) (lv' := [(6, .int (nI (i_4 + 1))), (4, .int y_33), (5, .int y_30), (8, .int (f ((nI ((i_4 * n) + 3))).toNatClampNeg)), (7, .int (f ((nI ((3 * n) + i_4))).toNatClampNeg)), (0, .ref z), (1, .int 3), (2, .ref ch), (3, .int (nI n))]) hx hb dX7_wholeFrom_108 hl (k := 8) rfl (nI_1 _) (by decide) rfl (fun ls hl => ?_)
          refine lv_goto (tgt := 28) hx hb dX7_wholeFrom_111 (by decide) ?_
          exact ih_6 _ _ _ ⟨_, _, hP, hD, hS, lv_sub hl [5, 6, 7, 8, 1, 2, 0] rfl, ⟨by rw [ey_33]; exact mx_0 hpr_7.1, by rw [ey_30]; exact mn_21 hpr_7.2⟩⟩
def vs_X7_wholeFrom_2 : List Cond := .code yX7_wholeFrom cX7_wholeFrom 9 (some .int) :: ([.fieldLink RX7 18 "ClockReach$Zone" "size" "I", .methodLink RX7 35 yX7_wholeFrom, .static yX7_wholeFrom, .initialized RX7, .code yX7_wholeFrom cX7_wholeFrom 9 (some .int), .methodLink RX7 42 Lib.Math.max.name, .static Lib.Math.max.name, .initialized "java/lang/Math", .code Lib.Math.max.name Lib.Math.max.code 2 (some .int), .fieldLink RX7 11 "ClockReach$Zone" "cells" "[I", .constant RX7 17 (2147483647), .methodLink RX7 39 yX7_wholePart, .static yX7_wholePart, .code yX7_wholePart cX7_wholePart 1 (some .int), .methodLink RX7 22 Lib.Math.min.name, .static Lib.Math.min.name, .code Lib.Math.min.name Lib.Math.min.code 2 (some .int)] ++ wsX70)
theorem g_X7_wholeFrom_2_X7_wholeFrom_3 : GoodIn vs_X7_wholeFrom_2 (va_wsS RX7 35 yX7_wholeFrom vs_X7_wholeFrom_3) := goodIn_r _ [2, 3, 4, 0, 1, 2, 3, 4, 0, 6, 7, 8, 9, 10, 11, 12, 13, 14, 15, 16, 17, 18, 19] (by decide +kernel) (by decide +kernel)
theorem g_X7_wholeFrom_2_X7_wholePart : GoodIn vs_X7_wholeFrom_2 (va_wsS RX7 39 yX7_wholePart vs_X7_wholePart) := goodIn_r _ [12, 13, 4, 14] (by decide +kernel) (by decide +kernel)
set_option maxHeartbeats 4000000 in
set_option maxRecDepth 100000 in
theorem c_X7_wholeFrom_2 (l : Launch) (dC : Nat → ClassId) (dI : Nat → Nat → Nat) (sz : Nat) (z zc : Nat) (cI : ClassId) (n N : Nat) (f : Nat → Int32) (hn : n * n ≤ N) (hN : N ≤ 25) (hn4 : n ≤ 4) (ch : Nat) (kc : ClassId) (fc : Nat → Int32) : Met l yX7_wholeFrom vs_X7_wholeFrom_2 ({ frames := 2, cells := 0, slots := 0, locals := 56 }) (va_Pc [.ref z, .int 2, .ref ch] (pu_B (dC, dI) [(z, .inr (7, [.ref zc, .int (nI n)])), (zc, .inl (cI, N, .inl f)), (ch, .inl (kc, 4, .inl fc))] [(cI, .int), (kc, .int)] sz)) (va_Qi (fun (r : Int32) (_ : Unit) => True) (fun _ t => ∃ (g : Nat → Int32), pu_E (dC, dI) [(z, .inr (7, [.ref zc, .int (nI n)])), (zc, .inl (cI, N, .inl f)), (ch, .inl (kc, 4, .inl g))] [(cI, .int), (kc, .int)] (va_A ([(z, .inr (7, [.ref zc, .int (nI n)])), (zc, .inl (cI, N, .inl f)), (ch, .inl (kc, 4, .inl fc))]) sz) t) (va_A ([(z, .inr (7, [.ref zc, .int (nI n)])), (zc, .inl (cI, N, .inl f)), (ch, .inl (kc, 4, .inl fc))]) sz)) 0 0 (va_A ([(z, .inr (7, [.ref zc, .int (nI n)])), (zc, .inl (cI, N, .inl f)), (ch, .inl (kc, 4, .inl fc))]) sz) := by
  refine Met.ofW (cc := cX7_wholeFrom) (maxL := 9) (ret := (some .int)) (by decide) rfl ?_
  intro p e s m args below meth c s₁ B hml hv
  obtain ⟨rfl, rfl, hP, hK, hD0⟩ := hv
  have hx := B.exec
  have hb := B.bytes
  have hr := B.returns
  have hts := atoms_spec (ws := vs_X7_wholeFrom_2) B.pre
  have v_1 := hts (.fieldLink RX7 18 "ClockReach$Zone" "size" "I") (List.mem_of_getElem? (i := 1) rfl)
  have v_6 := hts (.methodLink RX7 42 Lib.Math.max.name) (List.mem_of_getElem? (i := 6) rfl)
  have v_7 := hts (.static Lib.Math.max.name) (List.mem_of_getElem? (i := 7) rfl)
  have v_8 := hts (.initialized "java/lang/Math") (List.mem_of_getElem? (i := 8) rfl)
  have v_9 := hts (.code Lib.Math.max.name Lib.Math.max.code 2 (some .int)) (List.mem_of_getElem? (i := 9) rfl)
  have v_10 := hts (.fieldLink RX7 11 "ClockReach$Zone" "cells" "[I") (List.mem_of_getElem? (i := 10) rfl)
  have v_11 := hts (.constant RX7 17 (2147483647)) (List.mem_of_getElem? (i := 11) rfl)
  have v_15 := hts (.methodLink RX7 22 Lib.Math.min.name) (List.mem_of_getElem? (i := 15) rfl)
  have v_16 := hts (.static Lib.Math.min.name) (List.mem_of_getElem? (i := 16) rfl)
  have v_17 := hts (.code Lib.Math.min.name Lib.Math.min.code 2 (some .int)) (List.mem_of_getElem? (i := 17) rfl)
  have hown : s.vm.findClass RX7 = some m.cls := findClass_of_methodNamed B.named
  have hlocks := B.notSynchronized
  have hiX7 : ∀ w ∈ wsX70, w ∈ vs_X7_wholeFrom_2 := fun _ h => List.mem_cons_of_mem _ (List.mem_append_right _ h)
  have hD := hD0.self (sz := s.heap.size)
  generalize hAe : va_A ([(z, .inr (7, [.ref zc, .int (nI n)])), (zc, .inl (cI, N, .inl f)), (ch, .inl (kc, 4, .inl fc))]) s.heap.size = A at hD ⊢
  have hA : ∀ q : Nat, s.heap.size ≤ q → A q := fun q h => by rw [← hAe]; exact Or.inr h
  have hS : va_S A s.heap s.heap [] := va_S.rf
  have hl := lv_entry ([.ref z, .int 2, .ref ch]) (n := 9) (Nat.le_of_ble_eq_true rfl)
  rw [lg_entry_eq]
  generalize (lg_sl ([.ref z, .int 2, .ref ch]) ++ List.replicate (9 - (lg_sl ([.ref z, .int 2, .ref ch])).length) Slot.unset).toArray = ls at hl ⊢
  have hl : lv_has ls 9 [(0, .ref z), (1, .int 2), (2, .ref ch)] := hl
  have hn5 := zn_5 hn hN
  have hnq := zn_q hn hN
  refine lv_aload_n hx hb dX7_wholeFrom_0 rfl (lv_at hl 0 rfl) ?_
  refine va_get (D := (dC, dI)) (ci := 7) (v := .int (nI n)) (C := RX7) (T := TX7) (N := 2) hx hb hts hiX7 hown hK hP 0 rfl rfl 1 (by decide) v_1 (fun _ h9 => h9) rfl dX7_wholeFrom_1 ?_
  refine lv_istore_n (lv' := [(3, .int (nI n)), (0, .ref z), (1, .int 2), (2, .ref ch)]) hx hb dX7_wholeFrom_4 rfl hl (by decide) rfl (fun ls hl => ?_)
  refine lv_iload_n hx hb dX7_wholeFrom_5 rfl (lv_at hl 2 rfl) ?_
  refine lv_iload_n hx hb dX7_wholeFrom_6 rfl (lv_at hl 0 rfl) ?_
  refine lv_icmp_ge (tgt := 16) hx hb dX7_wholeFrom_7 (by decide) (fun c_1 => ?_) (fun c_1 => ?_)
  · have c_1 : n ≤ 2 := (nI_leI (a := n) (b := 2) (by omega) (by omega)).mp c_1
    refine lv_iconst (v := 1) hx hb dX7_wholeFrom_16 (by decide) ?_
    have hP9 := hP.sub (ws' := [(z, .inr (7, [.ref zc, .int (nI n)])), (zc, .inl (cI, N, .inl f)), (ch, .inl (kc, 4, .inl fc))]) [0, 1, 2] rfl
    have hD9 := hD.sub (ws' := [(z, .inr (7, [.ref zc, .int (nI n)])), (zc, .inl (cI, N, .inl f)), (ch, .inl (kc, 4, .inl fc))]) [0, 1, 2] (by decide) rfl
    have hK9 := hK.sub (tys' := [(cI, .int), (kc, .int)]) [0, 1] rfl
    exact W.iret (v := 1) hx hb hr (fun t ht hW => ⟨⟨1, (), rfl, trivial, ⟨fc, by rw [ht]; exact hP9, va_K.moved hW.alike hK9, hD9⟩⟩, hS.F ht⟩) hS.2.2 dX7_wholeFrom_17
  · have c_1 : ¬ n ≤ 2 := fun z => c_1 ((nI_leI (a := n) (b := 2) (by omega) (by omega)).mpr z)
    refine lv_iload_n hx hb dX7_wholeFrom_10 rfl (lv_at hl 2 rfl) ?_
    refine lv_aload_n hx hb dX7_wholeFrom_11 rfl (lv_at hl 3 rfl) ?_
    refine va_alen (v := 4) hx hb hK hP 2 1 rfl rfl rfl dX7_wholeFrom_12 ?_
    refine lv_icmp_lt (tgt := 18) hx hb dX7_wholeFrom_13 (by decide) (fun _ => ?_) (fun z => absurd z (by decide))
    refine lv_iconst (v := 0) hx hb dX7_wholeFrom_18 (by decide) ?_
    refine lv_istore (lv' := [(4, .int 0), (3, .int (nI n)), (0, .ref z), (1, .int 2), (2, .ref ch)]) hx hb dX7_wholeFrom_19 hl (by decide) rfl (fun ls hl => ?_)
    refine lv_bipush (v := 21) hx hb dX7_wholeFrom_21 (by decide) ?_
    refine lv_istore (lv' := [(5, .int 21), (4, .int 0), (3, .int (nI n)), (0, .ref z), (1, .int 2), (2, .ref ch)]) hx hb dX7_wholeFrom_23 hl (by decide) rfl (fun ls hl => ?_)
    refine lv_iconst (v := 0) hx hb dX7_wholeFrom_25 (by decide) ?_
    refine lv_istore (lv' := [(6, .int 0), (5, .int 21), (4, .int 0), (3, .int (nI n)), (0, .ref z), (1, .int 2), (2, .ref ch)]) hx hb dX7_wholeFrom_26 hl (by decide) rfl (fun ls hl => ?_)
    refine pu_loop (2) (fun ii H locs ls => ∃ v0 : Int32, ∃ v1 : Int32, va_P (dC, dI) vwCl [(z, .inr (7, [.ref zc, .int (nI n)])), (zc, .inl (cI, N, .inl f)), (ch, .inl (kc, 4, .inl fc))] H ∧ va_D A [(z, .inr (7, [.ref zc, .int (nI n)])), (zc, .inl (cI, N, .inl f)), (ch, .inl (kc, 4, .inl fc))] ∧ va_S A s.heap H locs ∧ lv_has ls 9 [(0, .ref z), (1, .int 2), (2, .ref ch), (3, .int (nI n)), (4, .int v0), (5, .int v1), (6, .int (nI ii))] ∧ (0 ≤ v0 ∧ v1 ≤ 21)) (fun _ => 0) (fun _ => 0) 28 [] ?_ ?_ _ _ _ ⟨_, _, hP, hD, hS, lv_sub hl [4, 5, 6, 3, 2, 1, 0] rfl, ⟨by decide, by decide⟩⟩
    · rintro H locs ls ⟨vl_2, vl_3, hP, hD, hS, hl, hpr_7⟩
      refine lv_iload hx hb dX7_wholeFrom_28 (lv_at hl 6 rfl) ?_
      refine lv_iload_n hx hb dX7_wholeFrom_30 rfl (lv_at hl 1 rfl) ?_
      refine lv_icmp_ge (tgt := 114) hx hb dX7_wholeFrom_31 (by decide) (fun _ => ?_) (fun z => absurd (nI_le (a := 2) (b := 2) (by omega) (by omega)) z)
      refine lv_iload_n hx hb dX7_wholeFrom_114 rfl (lv_at hl 1 rfl) ?_
      refine lv_iload_n hx hb dX7_wholeFrom_115 rfl (lv_at hl 3 rfl) ?_
      refine lv_iconst (v := 1) hx hb dX7_wholeFrom_116 (by decide) ?_
      refine lv_isub hx hb dX7_wholeFrom_117 ?_
      refine lv_icmp_ne (tgt := 133) hx hb dX7_wholeFrom_118 (by decide) (fun c_8 => ?_) (fun c_8 => ?_)
      · refine lv_iconst (v := 0) hx hb dX7_wholeFrom_133 (by decide) ?_
        refine lv_istore (lv' := [(6, .int 0), (0, .ref z), (1, .int 2), (2, .ref ch), (3, .int (nI n)), (4, .int vl_2), (5, .int vl_3)]) hx hb dX7_wholeFrom_134 hl (by decide) rfl (fun ls hl => ?_)
        refine lv_iload hx hb dX7_wholeFrom_136 (lv_at hl 5 rfl) ?_
        refine lv_istore (lv' := [(7, .int vl_2), (6, .int 0), (0, .ref z), (1, .int 2), (2, .ref ch), (3, .int (nI n)), (4, .int vl_2), (5, .int vl_3)]) hx hb dX7_wholeFrom_138 hl (by decide) rfl (fun ls hl => ?_)
        obtain ⟨lw_9, hlw_10, rfl⟩ := nI_of (le_0 hpr_7.1)
        refine pu_loop (22 - lw_9) (fun ii H locs ls => ∃ f0 : Nat → Int32, ∃ v0 : Int32, va_P (dC, dI) vwCl [(z, .inr (7, [.ref zc, .int (nI n)])), (zc, .inl (cI, N, .inl f)), (ch, .inl (kc, 4, .inl f0))] H ∧ va_D A [(z, .inr (7, [.ref zc, .int (nI n)])), (zc, .inl (cI, N, .inl f)), (ch, .inl (kc, 4, .inl f0))] ∧ va_S A s.heap H locs ∧ lv_has ls 9 [(0, .ref z), (1, .int 2), (2, .ref ch), (3, .int (nI n)), (4, .int (nI lw_9)), (5, .int vl_3), (6, .int v0), (7, .int (nI (lw_9 + ii)))]) (fun _ => 0) (fun _ => 0) 140 [] ?_ ?_ _ _ _ ⟨_, _, hP, hD, hS, lv_sub hl [2, 3, 4, 5, 6, 7, 1, 0] rfl⟩
        · rintro H locs ls ⟨f_11, vl_12, hP, hD, hS, hl⟩
          refine lv_iload hx hb dX7_wholeFrom_140 (lv_at hl 7 rfl) ?_
          refine lv_iload hx hb dX7_wholeFrom_142 (lv_at hl 5 rfl) ?_
          refine lv_icmp_gt (tgt := 171) hx hb dX7_wholeFrom_144 (by decide) (fun _ => ?_) (fun z => absurd (mx_lt hpr_7.2 (by omega) (by omega)) z)
          refine lv_iload hx hb dX7_wholeFrom_171 (lv_at hl 6 rfl) ?_
          have hP9 := hP.sub (ws' := [(z, .inr (7, [.ref zc, .int (nI n)])), (zc, .inl (cI, N, .inl f)), (ch, .inl (kc, 4, .inl f_11))]) [0, 1, 2] rfl
          have hD9 := hD.sub (ws' := [(z, .inr (7, [.ref zc, .int (nI n)])), (zc, .inl (cI, N, .inl f)), (ch, .inl (kc, 4, .inl f_11))]) [0, 1, 2] (by decide) rfl
          have hK9 := hK.sub (tys' := [(cI, .int), (kc, .int)]) [0, 1] rfl
          exact W.iret (v := vl_12) hx hb hr (fun t ht hW => ⟨⟨vl_12, (), rfl, trivial, ⟨f_11, by rw [ht]; exact hP9, va_K.moved hW.alike hK9, hD9⟩⟩, hS.F ht⟩) hS.2.2 dX7_wholeFrom_173
        · rintro i_13 h_14 ih_15 H locs ls ⟨f_11, vl_12, hP, hD, hS, hl⟩
          refine lv_iload hx hb dX7_wholeFrom_140 (lv_at hl 7 rfl) ?_
          refine lv_iload hx hb dX7_wholeFrom_142 (lv_at hl 5 rfl) ?_
          refine lv_icmp_gt (tgt := 171) hx hb dX7_wholeFrom_144 (by decide) (fun c_16 => ?_) (fun c_16 => ?_)
          · refine lv_iload hx hb dX7_wholeFrom_171 (lv_at hl 6 rfl) ?_
            have hP9 := hP.sub (ws' := [(z, .inr (7, [.ref zc, .int (nI n)])), (zc, .inl (cI, N, .inl f)), (ch, .inl (kc, 4, .inl f_11))]) [0, 1, 2] rfl
            have hD9 := hD.sub (ws' := [(z, .inr (7, [.ref zc, .int (nI n)])), (zc, .inl (cI, N, .inl f)), (ch, .inl (kc, 4, .inl f_11))]) [0, 1, 2] (by decide) rfl
            have hK9 := hK.sub (tys' := [(cI, .int), (kc, .int)]) [0, 1] rfl
            exact W.iret (v := vl_12) hx hb hr (fun t ht hW => ⟨⟨vl_12, (), rfl, trivial, ⟨f_11, by rw [ht]; exact hP9, va_K.moved hW.alike hK9, hD9⟩⟩, hS.F ht⟩) hS.2.2 dX7_wholeFrom_173
          · refine lv_aload_n hx hb dX7_wholeFrom_147 rfl (lv_at hl 2 rfl) ?_
            refine lv_iload_n hx hb dX7_wholeFrom_148 rfl (lv_at hl 1 rfl) ?_
            refine lv_iload hx hb dX7_wholeFrom_149 (lv_at hl 7 rfl) ?_
            refine va_iast hx hb hK hP hD hS 2 1 rfl rfl (show ¬ (_ ∨ _) by decide) dX7_wholeFrom_151 (fun H locs hP hD hS => ?_)
            have hP : va_P (dC, dI) vwCl [(z, .inr (7, [.ref zc, .int (nI n)])), (zc, .inl (cI, N, .inl f)), (ch, .inl (kc, 4, .inl (upd f_11 (2 : Int32).toNatClampNeg (nI (lw_9 + i_13)))))] H := hP
            have hD : va_D A [(z, .inr (7, [.ref zc, .int (nI n)])), (zc, .inl (cI, N, .inl f)), (ch, .inl (kc, 4, .inl (upd f_11 (2 : Int32).toNatClampNeg (nI (lw_9 + i_13)))))] := hD
            refine lv_iload hx hb dX7_wholeFrom_152 (lv_at hl 6 rfl) ?_
            refine lv_aload_n hx hb dX7_wholeFrom_154 rfl (lv_at hl 0 rfl) ?_
            refine lv_iload_n hx hb dX7_wholeFrom_155 rfl (lv_at hl 1 rfl) ?_
            refine lv_iconst (v := 1) hx hb dX7_wholeFrom_156 (by decide) ?_
            refine lv_iadd hx hb dX7_wholeFrom_157 ?_
            refine lv_topi (fun y_17 ey_17 => ?_)
            obtain rfl : y_17 = 3 := ey_17.trans (by decide)
            refine lv_aload_n hx hb dX7_wholeFrom_158 rfl (lv_at hl 2 rfl) ?_
            have hFc := va_free (wc := [(z, .inr (7, [.ref zc, .int (nI n)])), (zc, .inl (cI, N, .inl f)), (ch, .inl (kc, 4, .inl (upd f_11 (2 : Int32).toNatClampNeg (nI (lw_9 + i_13)))))]) hD hS hA [0, 1, 2] rfl
            refine va_calli (va_runS (As := [.ref z, .int 3, .ref ch]) (rest := [.int vl_12]) ⟨hx, hb, hml, hown, hts⟩ (c_X7_wholeFrom_3 l dC dI _ z zc cI n N f hn hN hn4 ch kc (upd f_11 (2 : Int32).toNatClampNeg (nI (lw_9 + i_13)))) (va_cwS 3 hts g_X7_wholeFrom_2_X7_wholeFrom_3 rfl rfl rfl (by decide +kernel) ⟨Nat.le_of_ble_eq_true rfl, Nat.le_of_ble_eq_true rfl⟩) ⟨pu_bl, pu_in hP hK hD⟩ rfl rfl hl.1 rfl (lv_room (Nat.le_of_ble_eq_true rfl)) dX7_wholeFrom_159 ⟨Nat.le_of_ble_eq_true rfl, Nat.le_of_ble_eq_true rfl⟩) hS (fun q _ h => hFc q h) hFc (fun r_18 u t H1 locs ht hvm hw hB hz1 hk1 hS => ?_)
            obtain ⟨g_19, ⟨hP1, hK1, hD1⟩⟩ := hB
            rw [ht] at hP1
            have hK1 := va_K.moved hvm.symm hK1
            obtain ⟨hP, hD⟩ := va_join (wr := []) (w1 := [(z, .inr (7, [.ref zc, .int (nI n)])), (zc, .inl (cI, N, .inl f)), (ch, .inl (kc, 4, .inl g_19))]) hP hD [0, 1, 2] [] rfl rfl (by decide) (by decide) hk1 hFc hP1 hD1
            have hK := hK.app hK1
            clear hk1 hz1 ht hvm
            generalize H1 = H at hP hS ⊢
            have hP : va_P (dC, dI) vwCl [(z, .inr (7, [.ref zc, .int (nI n)])), (zc, .inl (cI, N, .inl f)), (ch, .inl (kc, 4, .inl g_19))] H := hP
            have hD : va_D A [(z, .inr (7, [.ref zc, .int (nI n)])), (zc, .inl (cI, N, .inl f)), (ch, .inl (kc, 4, .inl g_19))] := hD
            have hK : va_K (dC, dI) vwCl [(cI, .int), (kc, .int), (cI, .int), (kc, .int)] s := hK
            refine lv_iadd hx hb dX7_wholeFrom_162 ?_
            refine lv_istore (lv' := [(6, .int (vl_12 + r_18)), (0, .ref z), (1, .int 2), (2, .ref ch), (3, .int (nI n)), (4, .int (nI lw_9)), (5, .int vl_3), (7, .int (nI (lw_9 + i_13)))]) hx hb dX7_wholeFrom_163 hl (by decide) rfl (fun ls hl => ?_)
            refine lv_iinc (v := (nI ((lw_9 + i_13) + 1))) (lv' := [(7, .int (nI ((lw_9 + i_13) + 1))), (6, .int (vl_12 + r_18)), (0, .ref z), (1, .int 2), (2, .ref ch), (3, .int (nI n)), (4, .int (nI lw_9)), (5, .int vl_3)]) hx hb dX7_wholeFrom_165 hl (k := 7) rfl (nI_1 _) (by decide) rfl (fun ls hl => ?_)
            refine lv_goto (tgt := 140) hx hb dX7_wholeFrom_168 (by decide) ?_
            exact ih_15 _ _ _ ⟨_, _, hP, hD, hS, lv_sub hl [2, 3, 4, 5, 6, 7, 1, 0] rfl⟩
      · refine lv_iconst (v := 0) hx hb dX7_wholeFrom_121 (by decide) ?_
        refine lv_iload hx hb dX7_wholeFrom_122 (lv_at hl 5 rfl) ?_
        refine lv_iload hx hb dX7_wholeFrom_124 (lv_at hl 4 rfl) ?_
        refine lv_isub hx hb dX7_wholeFrom_126 ?_
        refine lv_iconst (v := 1) hx hb dX7_wholeFrom_127 (by decide) ?_
        refine lv_iadd hx hb dX7_wholeFrom_128 ?_
        refine va_mmax hx hb (hml.trans hl.1.symm) hown v_6 v_7 v_8 v_9 (Nat.le_of_ble_eq_true rfl) (Nat.le_of_ble_eq_true rfl) (Nat.le_of_ble_eq_true rfl) (Nat.le_of_ble_eq_true rfl) dX7_wholeFrom_129 ?_
        refine lv_topi (fun y_20 ey_20 => ?_)
        have hP9 := hP.sub (ws' := [(z, .inr (7, [.ref zc, .int (nI n)])), (zc, .inl (cI, N, .inl f)), (ch, .inl (kc, 4, .inl fc))]) [0, 1, 2] rfl
        have hD9 := hD.sub (ws' := [(z, .inr (7, [.ref zc, .int (nI n)])), (zc, .inl (cI, N, .inl f)), (ch, .inl (kc, 4, .inl fc))]) [0, 1, 2] (by decide) rfl
        have hK9 := hK.sub (tys' := [(cI, .int), (kc, .int)]) [0, 1] rfl
        exact W.iret (v := y_20) hx hb hr (fun t ht hW => ⟨⟨y_20, (), rfl, trivial, ⟨fc, by rw [ht]; exact hP9, va_K.moved hW.alike hK9, hD9⟩⟩, hS.F ht⟩) hS.2.2 dX7_wholeFrom_132
    · rintro i_4 h_5 ih_6 H locs ls ⟨vl_2, vl_3, hP, hD, hS, hl, hpr_7⟩
      refine lv_iload hx hb dX7_wholeFrom_28 (lv_at hl 6 rfl) ?_
      refine lv_iload_n hx hb dX7_wholeFrom_30 rfl (lv_at hl 1 rfl) ?_
      refine lv_icmp_ge (tgt := 114) hx hb dX7_wholeFrom_31 (by decide) (fun z => absurd z (nI_ge (a := i_4) (b := 2) (by omega) (by omega))) (fun _ => ?_)
      refine lv_aload_n hx hb dX7_wholeFrom_34 rfl (lv_at hl 0 rfl) ?_
      refine va_get (D := (dC, dI)) (ci := 7) (v := .ref zc) (C := RX7) (T := TX7) (N := 2) hx hb hts hiX7 hown hK hP 0 rfl rfl 0 (by decide) v_10 (fun _ h9 => h9) rfl dX7_wholeFrom_35 ?_
      refine lv_iload_n hx hb dX7_wholeFrom_38 rfl (lv_at hl 1 rfl) ?_
      refine lv_iload_n hx hb dX7_wholeFrom_39 rfl (lv_at hl 3 rfl) ?_
      refine lv_imul hx hb dX7_wholeFrom_40 ?_
      refine lv_topi (fun y_21 ey_21 => ?_)
      obtain rfl : y_21 = (nI (2 * n)) := ey_21.trans (pk_mul 2 n)
      refine lv_iload hx hb dX7_wholeFrom_41 (lv_at hl 6 rfl) ?_
      refine lv_iadd hx hb dX7_wholeFrom_43 ?_
      refine lv_topi (fun y_22 ey_22 => ?_)
      obtain rfl : y_22 = (nI ((2 * n) + i_4)) := ey_22.trans (nI_add (2 * n) i_4)
      refine va_iald hx hb hK hP 1 0 rfl rfl (vp_in_nI (n := ((2 * n) + i_4)) (by first | omega | exact ix_lt (by omega) (by omega) hn | exact ix_lt0 (by omega) hn | exact ix_ltq (by omega) hn | exact ix_lt1 (by omega) hn) (by omega)) dX7_wholeFrom_44 ?_
      refine lv_istore (lv' := [(7, .int (f ((nI ((2 * n) + i_4))).toNatClampNeg)), (0, .ref z), (1, .int 2), (2, .ref ch), (3, .int (nI n)), (4, .int vl_2), (5, .int vl_3), (6, .int (nI i_4))]) hx hb dX7_wholeFrom_45 hl (by decide) rfl (fun ls hl => ?_)
      refine lv_aload_n hx hb dX7_wholeFrom_47 rfl (lv_at hl 1 rfl) ?_
      refine va_get (D := (dC, dI)) (ci := 7) (v := .ref zc) (C := RX7) (T := TX7) (N := 2) hx hb hts hiX7 hown hK hP 0 rfl rfl 0 (by decide) v_10 (fun _ h9 => h9) rfl dX7_wholeFrom_48 ?_
      refine lv_iload hx hb dX7_wholeFrom_51 (lv_at hl 7 rfl) ?_
      refine lv_iload_n hx hb dX7_wholeFrom_53 rfl (lv_at hl 4 rfl) ?_
      refine lv_imul hx hb dX7_wholeFrom_54 ?_
      refine lv_topi (fun y_23 ey_23 => ?_)
      obtain rfl : y_23 = (nI (i_4 * n)) := ey_23.trans (pk_mul i_4 n)
      refine lv_iload_n hx hb dX7_wholeFrom_55 rfl (lv_at hl 2 rfl) ?_
      refine lv_iadd hx hb dX7_wholeFrom_56 ?_
      refine lv_topi (fun y_24 ey_24 => ?_)
      obtain rfl : y_24 = (nI ((i_4 * n) + 2)) := ey_24.trans (nI_add (i_4 * n) 2)
      refine va_iald hx hb hK hP 1 0 rfl rfl (vp_in_nI (n := ((i_4 * n) + 2)) (by first | omega | exact ix_lt (by omega) (by omega) hn | exact ix_lt0 (by omega) hn | exact ix_ltq (by omega) hn | exact ix_lt1 (by omega) hn) (by omega)) dX7_wholeFrom_57 ?_
      refine lv_istore (lv' := [(8, .int (f ((nI ((i_4 * n) + 2))).toNatClampNeg)), (7, .int (f ((nI ((2 * n) + i_4))).toNatClampNeg)), (0, .ref z), (1, .int 2), (2, .ref ch), (3, .int (nI n)), (4, .int vl_2), (5, .int vl_3), (6, .int (nI i_4))]) hx hb dX7_wholeFrom_58 hl (by decide) rfl (fun ls hl => ?_)
      refine lv_iload hx hb dX7_wholeFrom_60 (lv_at hl 1 rfl) ?_
      refine lv_ldc hx hb hown v_11 dX7_wholeFrom_62 ?_
      refine lv_icmp_eq (tgt := 84) hx hb dX7_wholeFrom_64 (by decide) (fun c_25 => ?_) (fun c_25 => ?_)
      · refine lv_iload hx hb dX7_wholeFrom_84 (lv_at hl 0 rfl) ?_
        refine lv_ldc hx hb hown v_11 dX7_wholeFrom_86 ?_
        refine lv_icmp_eq (tgt := 108) hx hb dX7_wholeFrom_88 (by decide) (fun c_26 => ?_) (fun c_26 => ?_)
        · refine lv_iinc (v := (nI (i_4 + 1))) (lv' := [(6, .int (nI (i_4 + 1))), (8, .int (f ((nI ((i_4 * n) + 2))).toNatClampNeg)), (7, .int (f ((nI ((2 * n) + i_4))).toNatClampNeg)), (0, .ref z), (1, .int 2), (2, .ref ch), (3, .int (nI n)), (4, .int vl_2), (5, .int vl_3)]) hx hb dX7_wholeFrom_108 hl (k := 8) rfl (nI_1 _) (by decide) rfl (fun ls hl => ?_)
          refine lv_goto (tgt := 28) hx hb dX7_wholeFrom_111 (by decide) ?_
          exact ih_6 _ _ _ ⟨_, _, hP, hD, hS, lv_sub hl [3, 4, 5, 6, 7, 8, 0] rfl, ⟨hpr_7.1, hpr_7.2⟩⟩
        · refine lv_iload hx hb dX7_wholeFrom_91 (lv_at hl 6 rfl) ?_
          refine lv_aload_n hx hb dX7_wholeFrom_93 rfl (lv_at hl 4 rfl) ?_
          refine lv_iload hx hb dX7_wholeFrom_94 (lv_at hl 8 rfl) ?_
          refine va_iald hx hb hK hP 2 1 rfl rfl (vp_in_nI (n := i_4) (by first | omega | exact ix_lt (by omega) (by omega) hn | exact ix_lt0 (by omega) hn | exact ix_ltq (by omega) hn | exact ix_lt1 (by omega) hn) (by omega)) dX7_wholeFrom_96 ?_
          refine lv_iload hx hb dX7_wholeFrom_97 (lv_at hl 0 rfl) ?_
          refine va_calli (va_runS (As := [.int (f ((nI ((i_4 * n) + 2))).toNatClampNeg)]) (rest := [.int (fc ((nI i_4)).toNatClampNeg), .int vl_2]) ⟨hx, hb, hml, hown, hts⟩ (c_X7_wholePart l dC dI _ (f ((nI ((i_4 * n) + 2))).toNatClampNeg)) (va_cwS 1 hts g_X7_wholeFrom_2_X7_wholePart rfl rfl rfl (by decide +kernel) ⟨Nat.le_of_ble_eq_true rfl, Nat.le_of_ble_eq_true rfl⟩) ⟨pu_bl, pu_in (hP.sub [] rfl) (hK.sub [] rfl) (hD.sub [] (by decide) rfl)⟩ rfl rfl hl.1 rfl (lv_room (Nat.le_of_ble_eq_true rfl)) dX7_wholeFrom_99 ⟨Nat.le_of_ble_eq_true rfl, Nat.le_of_ble_eq_true rfl⟩) hS (fun q _ h => pu_fr hS hA q h) (pu_fr hS hA) (fun r_27 u t H1 locs ht hvm hw hB hz1 hk1 hS => ?_)
          have hP := pu_keep hP hk1
          clear hk1 hz1 ht hvm
          generalize H1 = H at hP hS ⊢
          refine lv_isub hx hb dX7_wholeFrom_102 ?_
          refine va_mmax hx hb (hml.trans hl.1.symm) hown v_6 v_7 v_8 v_9 (Nat.le_of_ble_eq_true rfl) (Nat.le_of_ble_eq_true rfl) (Nat.le_of_ble_eq_true rfl) (Nat.le_of_ble_eq_true rfl) dX7_wholeFrom_103 ?_
          refine lv_topi (fun y_28 ey_28 => ?_)
          refine lv_istore (lv' := [(4, .int y_28), (8, .int (f ((nI ((i_4 * n) + 2))).toNatClampNeg)), (7, .int (f ((nI ((2 * n) + i_4))).toNatClampNeg)), (0, .ref z), (1, .int 2), (2, .ref ch), (3, .int (nI n)), (5, .int vl_3), (6, .int (nI i_4))]) hx hb dX7_wholeFrom_106 hl (by decide) rfl (fun ls hl => ?_)
          refine lv_iinc (v := (nI (i_4 + 1))) (lv' := [(6, .int (nI (i_4 + 1))), (4, .int y_28), (8, .int (f ((nI ((i_4 * n) + 2))).toNatClampNeg)), (7, .int (f ((nI ((2 * n) + i_4))).toNatClampNeg)), (0, .ref z), (1, .int 2), (2, .ref ch), (3, .int (nI n)), (5, .int vl_3)]) hx hb dX7_wholeFrom_108 hl (k := 8) rfl (nI_1 _) (by decide) rfl (fun ls hl => ?_)
          refine lv_goto (tgt := 28) hx hb dX7_wholeFrom_111 (by decide) ?_
          exact ih_6 _ _ _ ⟨_, _, hP, hD, hS, lv_sub hl [4, 5, 6, 7, 1, 8, 0] rfl, ⟨by rw [ey_28]; exact mx_0 hpr_7.1, hpr_7.2⟩⟩
      · refine lv_iload hx hb dX7_wholeFrom_67 (lv_at hl 7 rfl) ?_
        refine lv_aload_n hx hb dX7_wholeFrom_69 rfl (lv_at hl 4 rfl) ?_
        refine lv_iload hx hb dX7_wholeFrom_70 (lv_at hl 8 rfl) ?_
        refine va_iald hx hb hK hP 2 1 rfl rfl (vp_in_nI (n := i_4) (by first | omega | exact ix_lt (by omega) (by omega) hn | exact ix_lt0 (by omega) hn | exact ix_ltq (by omega) hn | exact ix_lt1 (by omega) hn) (by omega)) dX7_wholeFrom_72 ?_
        refine lv_iload hx hb dX7_wholeFrom_73 (lv_at hl 1 rfl) ?_
        refine va_calli (va_runS (As := [.int (f ((nI ((2 * n) + i_4))).toNatClampNeg)]) (rest := [.int (fc ((nI i_4)).toNatClampNeg), .int vl_3]) ⟨hx, hb, hml, hown, hts⟩ (c_X7_wholePart l dC dI _ (f ((nI ((2 * n) + i_4))).toNatClampNeg)) (va_cwS 1 hts g_X7_wholeFrom_2_X7_wholePart rfl rfl rfl (by decide +kernel) ⟨Nat.le_of_ble_eq_true rfl, Nat.le_of_ble_eq_true rfl⟩) ⟨pu_bl, pu_in (hP.sub [] rfl) (hK.sub [] rfl) (hD.sub [] (by decide) rfl)⟩ rfl rfl hl.1 rfl (lv_room (Nat.le_of_ble_eq_true rfl)) dX7_wholeFrom_75 ⟨Nat.le_of_ble_eq_true rfl, Nat.le_of_ble_eq_true rfl⟩) hS (fun q _ h => pu_fr hS hA q h) (pu_fr hS hA) (fun r_29 u t H1 locs ht hvm hw hB hz1 hk1 hS => ?_)
        have hP := pu_keep hP hk1
        clear hk1 hz1 ht hvm
        generalize H1 = H at hP hS ⊢
        refine lv_iadd hx hb dX7_wholeFrom_78 ?_
        refine va_mmin hx hb (hml.trans hl.1.symm) hown v_15 v_16 v_8 v_17 (Nat.le_of_ble_eq_true rfl) (Nat.le_of_ble_eq_true rfl) (Nat.le_of_ble_eq_true rfl) (Nat.le_of_ble_eq_true rfl) dX7_wholeFrom_79 ?_
        refine lv_topi (fun y_30 ey_30 => ?_)
        refine lv_istore (lv' := [(5, .int y_30), (8, .int (f ((nI ((i_4 * n) + 2))).toNatClampNeg)), (7, .int (f ((nI ((2 * n) + i_4))).toNatClampNeg)), (0, .ref z), (1, .int 2), (2, .ref ch), (3, .int (nI n)), (4, .int vl_2), (6, .int (nI i_4))]) hx hb dX7_wholeFrom_82 hl (by decide) rfl (fun ls hl => ?_)
        refine lv_iload hx hb dX7_wholeFrom_84 (lv_at hl 1 rfl) ?_
        refine lv_ldc hx hb hown v_11 dX7_wholeFrom_86 ?_
        refine lv_icmp_eq (tgt := 108) hx hb dX7_wholeFrom_88 (by decide) (fun c_31 => ?_) (fun c_31 => ?_)
        · refine lv_iinc (v := (nI (i_4 + 1))) (lv' := [(6, .int (nI (i_4 + 1))), (5, .int y_30), (8, .int (f ((nI ((i_4 * n) + 2))).toNatClampNeg)), (7, .int (f ((nI ((2 * n) + i_4))).toNatClampNeg)), (0, .ref z), (1, .int 2), (2, .ref ch), (3, .int (nI n)), (4, .int vl_2)]) hx hb dX7_wholeFrom_108 hl (k := 8) rfl (nI_1 _) (by decide) rfl (fun ls hl => ?_)
          refine lv_goto (tgt := 28) hx hb dX7_wholeFrom_111 (by decide) ?_
          exact ih_6 _ _ _ ⟨_, _, hP, hD, hS, lv_sub hl [4, 5, 6, 7, 8, 1, 0] rfl, ⟨hpr_7.1, by rw [ey_30]; exact mn_21 hpr_7.2⟩⟩
        · refine lv_iload hx hb dX7_wholeFrom_91 (lv_at hl 7 rfl) ?_
          refine lv_aload_n hx hb dX7_wholeFrom_93 rfl (lv_at hl 5 rfl) ?_
          refine lv_iload hx hb dX7_wholeFrom_94 (lv_at hl 8 rfl) ?_
          refine va_iald hx hb hK hP 2 1 rfl rfl (vp_in_nI (n := i_4) (by first | omega | exact ix_lt (by omega) (by omega) hn | exact ix_lt0 (by omega) hn | exact ix_ltq (by omega) hn | exact ix_lt1 (by omega) hn) (by omega)) dX7_wholeFrom_96 ?_
          refine lv_iload hx hb dX7_wholeFrom_97 (lv_at hl 1 rfl) ?_
          refine va_calli (va_runS (As := [.int (f ((nI ((i_4 * n) + 2))).toNatClampNeg)]) (rest := [.int (fc ((nI i_4)).toNatClampNeg), .int vl_2]) ⟨hx, hb, hml, hown, hts⟩ (c_X7_wholePart l dC dI _ (f ((nI ((i_4 * n) + 2))).toNatClampNeg)) (va_cwS 1 hts g_X7_wholeFrom_2_X7_wholePart rfl rfl rfl (by decide +kernel) ⟨Nat.le_of_ble_eq_true rfl, Nat.le_of_ble_eq_true rfl⟩) ⟨pu_bl, pu_in (hP.sub [] rfl) (hK.sub [] rfl) (hD.sub [] (by decide) rfl)⟩ rfl rfl hl.1 rfl (lv_room (Nat.le_of_ble_eq_true rfl)) dX7_wholeFrom_99 ⟨Nat.le_of_ble_eq_true rfl, Nat.le_of_ble_eq_true rfl⟩) hS (fun q _ h => pu_fr hS hA q h) (pu_fr hS hA) (fun r_32 u t H1 locs ht hvm hw hB hz1 hk1 hS => ?_)
          have hP := pu_keep hP hk1
          clear hk1 hz1 ht hvm
          generalize H1 = H at hP hS ⊢
          refine lv_isub hx hb dX7_wholeFrom_102 ?_
          refine va_mmax hx hb (hml.trans hl.1.symm) hown v_6 v_7 v_8 v_9 (Nat.le_of_ble_eq_true rfl) (Nat.le_of_ble_eq_true rfl) (Nat.le_of_ble_eq_true rfl) (Nat.le_of_ble_eq_true rfl) dX7_wholeFrom_103 ?_
          refine lv_topi (fun y_33 ey_33 => ?_)
          refine lv_istore (lv' := [(4, .int y_33), (5, .int y_30), (8, .int (f ((nI ((i_4 * n) + 2))).toNatClampNeg)), (7, .int (f ((nI ((2 * n) + i_4))).toNatClampNeg)), (0, .ref z), (1, .int 2), (2, .ref ch), (3, .int (nI n)), (6, .int (nI i_4))]) hx hb dX7_wholeFrom_106 hl (by decide) rfl (fun ls hl => ?_)
          refine lv_iinc (v := (nI (i_4 + 1))) (lv' := [(6, .int (nI (i_4 + 1))), (4, .int y_33), (5, .int y_30), (8, .int (f ((nI ((i_4 * n) + 2))).toNatClampNeg)), (7, .int (f ((nI ((2 * n) + i_4))).toNatClampNeg)), (0, .ref z), (1, .int 2), (2, .ref ch), (3, .int (nI n))]) hx hb dX7_wholeFrom_108 hl (k := 8) rfl (nI_1 _) (by decide) rfl (fun ls hl => ?_)
          refine lv_goto (tgt := 28) hx hb dX7_wholeFrom_111 (by decide) ?_
          exact ih_6 _ _ _ ⟨_, _, hP, hD, hS, lv_sub hl [5, 6, 7, 8, 1, 2, 0] rfl, ⟨by rw [ey_33]; exact mx_0 hpr_7.1, by rw [ey_30]; exact mn_21 hpr_7.2⟩⟩
def vs_X7_wholeFrom_1 : List Cond := .code yX7_wholeFrom cX7_wholeFrom 9 (some .int) :: ([.fieldLink RX7 18 "ClockReach$Zone" "size" "I", .methodLink RX7 35 yX7_wholeFrom, .static yX7_wholeFrom, .initialized RX7, .code yX7_wholeFrom cX7_wholeFrom 9 (some .int), .methodLink RX7 42 Lib.Math.max.name, .static Lib.Math.max.name, .initialized "java/lang/Math", .code Lib.Math.max.name Lib.Math.max.code 2 (some .int), .fieldLink RX7 11 "ClockReach$Zone" "cells" "[I", .constant RX7 17 (2147483647), .methodLink RX7 39 yX7_wholePart, .static yX7_wholePart, .code yX7_wholePart cX7_wholePart 1 (some .int), .methodLink RX7 22 Lib.Math.min.name, .static Lib.Math.min.name, .code Lib.Math.min.name Lib.Math.min.code 2 (some .int)] ++ wsX70)
theorem g_X7_wholeFrom_1_X7_wholeFrom_2 : GoodIn vs_X7_wholeFrom_1 (va_wsS RX7 35 yX7_wholeFrom vs_X7_wholeFrom_2) := goodIn_r _ [2, 3, 4, 0, 1, 2, 3, 4, 0, 6, 7, 8, 9, 10, 11, 12, 13, 14, 15, 16, 17, 18, 19] (by decide +kernel) (by decide +kernel)
theorem g_X7_wholeFrom_1_X7_wholePart : GoodIn vs_X7_wholeFrom_1 (va_wsS RX7 39 yX7_wholePart vs_X7_wholePart) := goodIn_r _ [12, 13, 4, 14] (by decide +kernel) (by decide +kernel)
set_option maxHeartbeats 4000000 in
set_option maxRecDepth 100000 in
theorem c_X7_wholeFrom_1 (l : Launch) (dC : Nat → ClassId) (dI : Nat → Nat → Nat) (sz : Nat) (z zc : Nat) (cI : ClassId) (n N : Nat) (f : Nat → Int32) (hn : n * n ≤ N) (hN : N ≤ 25) (hn4 : n ≤ 4) (ch : Nat) (kc : ClassId) (fc : Nat → Int32) : Met l yX7_wholeFrom vs_X7_wholeFrom_1 ({ frames := 3, cells := 0, slots := 0, locals := 84 }) (va_Pc [.ref z, .int 1, .ref ch] (pu_B (dC, dI) [(z, .inr (7, [.ref zc, .int (nI n)])), (zc, .inl (cI, N, .inl f)), (ch, .inl (kc, 4, .inl fc))] [(cI, .int), (kc, .int)] sz)) (va_Qi (fun (r : Int32) (_ : Unit) => True) (fun _ t => ∃ (g : Nat → Int32), pu_E (dC, dI) [(z, .inr (7, [.ref zc, .int (nI n)])), (zc, .inl (cI, N, .inl f)), (ch, .inl (kc, 4, .inl g))] [(cI, .int), (kc, .int)] (va_A ([(z, .inr (7, [.ref zc, .int (nI n)])), (zc, .inl (cI, N, .inl f)), (ch, .inl (kc, 4, .inl fc))]) sz) t) (va_A ([(z, .inr (7, [.ref zc, .int (nI n)])), (zc, .inl (cI, N, .inl f)), (ch, .inl (kc, 4, .inl fc))]) sz)) 0 0 (va_A ([(z, .inr (7, [.ref zc, .int (nI n)])), (zc, .inl (cI, N, .inl f)), (ch, .inl (kc, 4, .inl fc))]) sz) := by
  refine Met.ofW (cc := cX7_wholeFrom) (maxL := 9) (ret := (some .int)) (by decide) rfl ?_
  intro p e s m args below meth c s₁ B hml hv
  obtain ⟨rfl, rfl, hP, hK, hD0⟩ := hv
  have hx := B.exec
  have hb := B.bytes
  have hr := B.returns
  have hts := atoms_spec (ws := vs_X7_wholeFrom_1) B.pre
  have v_1 := hts (.fieldLink RX7 18 "ClockReach$Zone" "size" "I") (List.mem_of_getElem? (i := 1) rfl)
  have v_6 := hts (.methodLink RX7 42 Lib.Math.max.name) (List.mem_of_getElem? (i := 6) rfl)
  have v_7 := hts (.static Lib.Math.max.name) (List.mem_of_getElem? (i := 7) rfl)
  have v_8 := hts (.initialized "java/lang/Math") (List.mem_of_getElem? (i := 8) rfl)
  have v_9 := hts (.code Lib.Math.max.name Lib.Math.max.code 2 (some .int)) (List.mem_of_getElem? (i := 9) rfl)
  have v_10 := hts (.fieldLink RX7 11 "ClockReach$Zone" "cells" "[I") (List.mem_of_getElem? (i := 10) rfl)
  have v_11 := hts (.constant RX7 17 (2147483647)) (List.mem_of_getElem? (i := 11) rfl)
  have v_15 := hts (.methodLink RX7 22 Lib.Math.min.name) (List.mem_of_getElem? (i := 15) rfl)
  have v_16 := hts (.static Lib.Math.min.name) (List.mem_of_getElem? (i := 16) rfl)
  have v_17 := hts (.code Lib.Math.min.name Lib.Math.min.code 2 (some .int)) (List.mem_of_getElem? (i := 17) rfl)
  have hown : s.vm.findClass RX7 = some m.cls := findClass_of_methodNamed B.named
  have hlocks := B.notSynchronized
  have hiX7 : ∀ w ∈ wsX70, w ∈ vs_X7_wholeFrom_1 := fun _ h => List.mem_cons_of_mem _ (List.mem_append_right _ h)
  have hD := hD0.self (sz := s.heap.size)
  generalize hAe : va_A ([(z, .inr (7, [.ref zc, .int (nI n)])), (zc, .inl (cI, N, .inl f)), (ch, .inl (kc, 4, .inl fc))]) s.heap.size = A at hD ⊢
  have hA : ∀ q : Nat, s.heap.size ≤ q → A q := fun q h => by rw [← hAe]; exact Or.inr h
  have hS : va_S A s.heap s.heap [] := va_S.rf
  have hl := lv_entry ([.ref z, .int 1, .ref ch]) (n := 9) (Nat.le_of_ble_eq_true rfl)
  rw [lg_entry_eq]
  generalize (lg_sl ([.ref z, .int 1, .ref ch]) ++ List.replicate (9 - (lg_sl ([.ref z, .int 1, .ref ch])).length) Slot.unset).toArray = ls at hl ⊢
  have hl : lv_has ls 9 [(0, .ref z), (1, .int 1), (2, .ref ch)] := hl
  have hn5 := zn_5 hn hN
  have hnq := zn_q hn hN
  refine lv_aload_n hx hb dX7_wholeFrom_0 rfl (lv_at hl 0 rfl) ?_
  refine va_get (D := (dC, dI)) (ci := 7) (v := .int (nI n)) (C := RX7) (T := TX7) (N := 2) hx hb hts hiX7 hown hK hP 0 rfl rfl 1 (by decide) v_1 (fun _ h9 => h9) rfl dX7_wholeFrom_1 ?_
  refine lv_istore_n (lv' := [(3, .int (nI n)), (0, .ref z), (1, .int 1), (2, .ref ch)]) hx hb dX7_wholeFrom_4 rfl hl (by decide) rfl (fun ls hl => ?_)
  refine lv_iload_n hx hb dX7_wholeFrom_5 rfl (lv_at hl 2 rfl) ?_
  refine lv_iload_n hx hb dX7_wholeFrom_6 rfl (lv_at hl 0 rfl) ?_
  refine lv_icmp_ge (tgt := 16) hx hb dX7_wholeFrom_7 (by decide) (fun c_1 => ?_) (fun c_1 => ?_)
  · have c_1 : n ≤ 1 := (nI_leI (a := n) (b := 1) (by omega) (by omega)).mp c_1
    refine lv_iconst (v := 1) hx hb dX7_wholeFrom_16 (by decide) ?_
    have hP9 := hP.sub (ws' := [(z, .inr (7, [.ref zc, .int (nI n)])), (zc, .inl (cI, N, .inl f)), (ch, .inl (kc, 4, .inl fc))]) [0, 1, 2] rfl
    have hD9 := hD.sub (ws' := [(z, .inr (7, [.ref zc, .int (nI n)])), (zc, .inl (cI, N, .inl f)), (ch, .inl (kc, 4, .inl fc))]) [0, 1, 2] (by decide) rfl
    have hK9 := hK.sub (tys' := [(cI, .int), (kc, .int)]) [0, 1] rfl
    exact W.iret (v := 1) hx hb hr (fun t ht hW => ⟨⟨1, (), rfl, trivial, ⟨fc, by rw [ht]; exact hP9, va_K.moved hW.alike hK9, hD9⟩⟩, hS.F ht⟩) hS.2.2 dX7_wholeFrom_17
  · have c_1 : ¬ n ≤ 1 := fun z => c_1 ((nI_leI (a := n) (b := 1) (by omega) (by omega)).mpr z)
    refine lv_iload_n hx hb dX7_wholeFrom_10 rfl (lv_at hl 2 rfl) ?_
    refine lv_aload_n hx hb dX7_wholeFrom_11 rfl (lv_at hl 3 rfl) ?_
    refine va_alen (v := 4) hx hb hK hP 2 1 rfl rfl rfl dX7_wholeFrom_12 ?_
    refine lv_icmp_lt (tgt := 18) hx hb dX7_wholeFrom_13 (by decide) (fun _ => ?_) (fun z => absurd z (by decide))
    refine lv_iconst (v := 0) hx hb dX7_wholeFrom_18 (by decide) ?_
    refine lv_istore (lv' := [(4, .int 0), (3, .int (nI n)), (0, .ref z), (1, .int 1), (2, .ref ch)]) hx hb dX7_wholeFrom_19 hl (by decide) rfl (fun ls hl => ?_)
    refine lv_bipush (v := 21) hx hb dX7_wholeFrom_21 (by decide) ?_
    refine lv_istore (lv' := [(5, .int 21), (4, .int 0), (3, .int (nI n)), (0, .ref z), (1, .int 1), (2, .ref ch)]) hx hb dX7_wholeFrom_23 hl (by decide) rfl (fun ls hl => ?_)
    refine lv_iconst (v := 0) hx hb dX7_wholeFrom_25 (by decide) ?_
    refine lv_istore (lv' := [(6, .int 0), (5, .int 21), (4, .int 0), (3, .int (nI n)), (0, .ref z), (1, .int 1), (2, .ref ch)]) hx hb dX7_wholeFrom_26 hl (by decide) rfl (fun ls hl => ?_)
    refine pu_loop (1) (fun ii H locs ls => ∃ v0 : Int32, ∃ v1 : Int32, va_P (dC, dI) vwCl [(z, .inr (7, [.ref zc, .int (nI n)])), (zc, .inl (cI, N, .inl f)), (ch, .inl (kc, 4, .inl fc))] H ∧ va_D A [(z, .inr (7, [.ref zc, .int (nI n)])), (zc, .inl (cI, N, .inl f)), (ch, .inl (kc, 4, .inl fc))] ∧ va_S A s.heap H locs ∧ lv_has ls 9 [(0, .ref z), (1, .int 1), (2, .ref ch), (3, .int (nI n)), (4, .int v0), (5, .int v1), (6, .int (nI ii))] ∧ (0 ≤ v0 ∧ v1 ≤ 21)) (fun _ => 0) (fun _ => 0) 28 [] ?_ ?_ _ _ _ ⟨_, _, hP, hD, hS, lv_sub hl [4, 5, 6, 3, 2, 1, 0] rfl, ⟨by decide, by decide⟩⟩
    · rintro H locs ls ⟨vl_2, vl_3, hP, hD, hS, hl, hpr_7⟩
      refine lv_iload hx hb dX7_wholeFrom_28 (lv_at hl 6 rfl) ?_
      refine lv_iload_n hx hb dX7_wholeFrom_30 rfl (lv_at hl 1 rfl) ?_
      refine lv_icmp_ge (tgt := 114) hx hb dX7_wholeFrom_31 (by decide) (fun _ => ?_) (fun z => absurd (nI_le (a := 1) (b := 1) (by omega) (by omega)) z)
      refine lv_iload_n hx hb dX7_wholeFrom_114 rfl (lv_at hl 1 rfl) ?_
      refine lv_iload_n hx hb dX7_wholeFrom_115 rfl (lv_at hl 3 rfl) ?_
      refine lv_iconst (v := 1) hx hb dX7_wholeFrom_116 (by decide) ?_
      refine lv_isub hx hb dX7_wholeFrom_117 ?_
      refine lv_icmp_ne (tgt := 133) hx hb dX7_wholeFrom_118 (by decide) (fun c_8 => ?_) (fun c_8 => ?_)
      · refine lv_iconst (v := 0) hx hb dX7_wholeFrom_133 (by decide) ?_
        refine lv_istore (lv' := [(6, .int 0), (0, .ref z), (1, .int 1), (2, .ref ch), (3, .int (nI n)), (4, .int vl_2), (5, .int vl_3)]) hx hb dX7_wholeFrom_134 hl (by decide) rfl (fun ls hl => ?_)
        refine lv_iload hx hb dX7_wholeFrom_136 (lv_at hl 5 rfl) ?_
        refine lv_istore (lv' := [(7, .int vl_2), (6, .int 0), (0, .ref z), (1, .int 1), (2, .ref ch), (3, .int (nI n)), (4, .int vl_2), (5, .int vl_3)]) hx hb dX7_wholeFrom_138 hl (by decide) rfl (fun ls hl => ?_)
        obtain ⟨lw_9, hlw_10, rfl⟩ := nI_of (le_0 hpr_7.1)
        refine pu_loop (22 - lw_9) (fun ii H locs ls => ∃ f0 : Nat → Int32, ∃ v0 : Int32, va_P (dC, dI) vwCl [(z, .inr (7, [.ref zc, .int (nI n)])), (zc, .inl (cI, N, .inl f)), (ch, .inl (kc, 4, .inl f0))] H ∧ va_D A [(z, .inr (7, [.ref zc, .int (nI n)])), (zc, .inl (cI, N, .inl f)), (ch, .inl (kc, 4, .inl f0))] ∧ va_S A s.heap H locs ∧ lv_has ls 9 [(0, .ref z), (1, .int 1), (2, .ref ch), (3, .int (nI n)), (4, .int (nI lw_9)), (5, .int vl_3), (6, .int v0), (7, .int (nI (lw_9 + ii)))]) (fun _ => 0) (fun _ => 0) 140 [] ?_ ?_ _ _ _ ⟨_, _, hP, hD, hS, lv_sub hl [2, 3, 4, 5, 6, 7, 1, 0] rfl⟩
        · rintro H locs ls ⟨f_11, vl_12, hP, hD, hS, hl⟩
          refine lv_iload hx hb dX7_wholeFrom_140 (lv_at hl 7 rfl) ?_
          refine lv_iload hx hb dX7_wholeFrom_142 (lv_at hl 5 rfl) ?_
          refine lv_icmp_gt (tgt := 171) hx hb dX7_wholeFrom_144 (by decide) (fun _ => ?_) (fun z => absurd (mx_lt hpr_7.2 (by omega) (by omega)) z)
          refine lv_iload hx hb dX7_wholeFrom_171 (lv_at hl 6 rfl) ?_
          have hP9 := hP.sub (ws' := [(z, .inr (7, [.ref zc, .int (nI n)])), (zc, .inl (cI, N, .inl f)), (ch, .inl (kc, 4, .inl f_11))]) [0, 1, 2] rfl
          have hD9 := hD.sub (ws' := [(z, .inr (7, [.ref zc, .int (nI n)])), (zc, .inl (cI, N, .inl f)), (ch, .inl (kc, 4, .inl f_11))]) [0, 1, 2] (by decide) rfl
          have hK9 := hK.sub (tys' := [(cI, .int), (kc, .int)]) [0, 1] rfl
          exact W.iret (v := vl_12) hx hb hr (fun t ht hW => ⟨⟨vl_12, (), rfl, trivial, ⟨f_11, by rw [ht]; exact hP9, va_K.moved hW.alike hK9, hD9⟩⟩, hS.F ht⟩) hS.2.2 dX7_wholeFrom_173
        · rintro i_13 h_14 ih_15 H locs ls ⟨f_11, vl_12, hP, hD, hS, hl⟩
          refine lv_iload hx hb dX7_wholeFrom_140 (lv_at hl 7 rfl) ?_
          refine lv_iload hx hb dX7_wholeFrom_142 (lv_at hl 5 rfl) ?_
          refine lv_icmp_gt (tgt := 171) hx hb dX7_wholeFrom_144 (by decide) (fun c_16 => ?_) (fun c_16 => ?_)
          · refine lv_iload hx hb dX7_wholeFrom_171 (lv_at hl 6 rfl) ?_
            have hP9 := hP.sub (ws' := [(z, .inr (7, [.ref zc, .int (nI n)])), (zc, .inl (cI, N, .inl f)), (ch, .inl (kc, 4, .inl f_11))]) [0, 1, 2] rfl
            have hD9 := hD.sub (ws' := [(z, .inr (7, [.ref zc, .int (nI n)])), (zc, .inl (cI, N, .inl f)), (ch, .inl (kc, 4, .inl f_11))]) [0, 1, 2] (by decide) rfl
            have hK9 := hK.sub (tys' := [(cI, .int), (kc, .int)]) [0, 1] rfl
            exact W.iret (v := vl_12) hx hb hr (fun t ht hW => ⟨⟨vl_12, (), rfl, trivial, ⟨f_11, by rw [ht]; exact hP9, va_K.moved hW.alike hK9, hD9⟩⟩, hS.F ht⟩) hS.2.2 dX7_wholeFrom_173
          · refine lv_aload_n hx hb dX7_wholeFrom_147 rfl (lv_at hl 2 rfl) ?_
            refine lv_iload_n hx hb dX7_wholeFrom_148 rfl (lv_at hl 1 rfl) ?_
            refine lv_iload hx hb dX7_wholeFrom_149 (lv_at hl 7 rfl) ?_
            refine va_iast hx hb hK hP hD hS 2 1 rfl rfl (show ¬ (_ ∨ _) by decide) dX7_wholeFrom_151 (fun H locs hP hD hS => ?_)
            have hP : va_P (dC, dI) vwCl [(z, .inr (7, [.ref zc, .int (nI n)])), (zc, .inl (cI, N, .inl f)), (ch, .inl (kc, 4, .inl (upd f_11 (1 : Int32).toNatClampNeg (nI (lw_9 + i_13)))))] H := hP
            have hD : va_D A [(z, .inr (7, [.ref zc, .int (nI n)])), (zc, .inl (cI, N, .inl f)), (ch, .inl (kc, 4, .inl (upd f_11 (1 : Int32).toNatClampNeg (nI (lw_9 + i_13)))))] := hD
            refine lv_iload hx hb dX7_wholeFrom_152 (lv_at hl 6 rfl) ?_
            refine lv_aload_n hx hb dX7_wholeFrom_154 rfl (lv_at hl 0 rfl) ?_
            refine lv_iload_n hx hb dX7_wholeFrom_155 rfl (lv_at hl 1 rfl) ?_
            refine lv_iconst (v := 1) hx hb dX7_wholeFrom_156 (by decide) ?_
            refine lv_iadd hx hb dX7_wholeFrom_157 ?_
            refine lv_topi (fun y_17 ey_17 => ?_)
            obtain rfl : y_17 = 2 := ey_17.trans (by decide)
            refine lv_aload_n hx hb dX7_wholeFrom_158 rfl (lv_at hl 2 rfl) ?_
            have hFc := va_free (wc := [(z, .inr (7, [.ref zc, .int (nI n)])), (zc, .inl (cI, N, .inl f)), (ch, .inl (kc, 4, .inl (upd f_11 (1 : Int32).toNatClampNeg (nI (lw_9 + i_13)))))]) hD hS hA [0, 1, 2] rfl
            refine va_calli (va_runS (As := [.ref z, .int 2, .ref ch]) (rest := [.int vl_12]) ⟨hx, hb, hml, hown, hts⟩ (c_X7_wholeFrom_2 l dC dI _ z zc cI n N f hn hN hn4 ch kc (upd f_11 (1 : Int32).toNatClampNeg (nI (lw_9 + i_13)))) (va_cwS 3 hts g_X7_wholeFrom_1_X7_wholeFrom_2 rfl rfl rfl (by decide +kernel) ⟨Nat.le_of_ble_eq_true rfl, Nat.le_of_ble_eq_true rfl⟩) ⟨pu_bl, pu_in hP hK hD⟩ rfl rfl hl.1 rfl (lv_room (Nat.le_of_ble_eq_true rfl)) dX7_wholeFrom_159 ⟨Nat.le_of_ble_eq_true rfl, Nat.le_of_ble_eq_true rfl⟩) hS (fun q _ h => hFc q h) hFc (fun r_18 u t H1 locs ht hvm hw hB hz1 hk1 hS => ?_)
            obtain ⟨g_19, ⟨hP1, hK1, hD1⟩⟩ := hB
            rw [ht] at hP1
            have hK1 := va_K.moved hvm.symm hK1
            obtain ⟨hP, hD⟩ := va_join (wr := []) (w1 := [(z, .inr (7, [.ref zc, .int (nI n)])), (zc, .inl (cI, N, .inl f)), (ch, .inl (kc, 4, .inl g_19))]) hP hD [0, 1, 2] [] rfl rfl (by decide) (by decide) hk1 hFc hP1 hD1
            have hK := hK.app hK1
            clear hk1 hz1 ht hvm
            generalize H1 = H at hP hS ⊢
            have hP : va_P (dC, dI) vwCl [(z, .inr (7, [.ref zc, .int (nI n)])), (zc, .inl (cI, N, .inl f)), (ch, .inl (kc, 4, .inl g_19))] H := hP
            have hD : va_D A [(z, .inr (7, [.ref zc, .int (nI n)])), (zc, .inl (cI, N, .inl f)), (ch, .inl (kc, 4, .inl g_19))] := hD
            have hK : va_K (dC, dI) vwCl [(cI, .int), (kc, .int), (cI, .int), (kc, .int)] s := hK
            refine lv_iadd hx hb dX7_wholeFrom_162 ?_
            refine lv_istore (lv' := [(6, .int (vl_12 + r_18)), (0, .ref z), (1, .int 1), (2, .ref ch), (3, .int (nI n)), (4, .int (nI lw_9)), (5, .int vl_3), (7, .int (nI (lw_9 + i_13)))]) hx hb dX7_wholeFrom_163 hl (by decide) rfl (fun ls hl => ?_)
            refine lv_iinc (v := (nI ((lw_9 + i_13) + 1))) (lv' := [(7, .int (nI ((lw_9 + i_13) + 1))), (6, .int (vl_12 + r_18)), (0, .ref z), (1, .int 1), (2, .ref ch), (3, .int (nI n)), (4, .int (nI lw_9)), (5, .int vl_3)]) hx hb dX7_wholeFrom_165 hl (k := 7) rfl (nI_1 _) (by decide) rfl (fun ls hl => ?_)
            refine lv_goto (tgt := 140) hx hb dX7_wholeFrom_168 (by decide) ?_
            exact ih_15 _ _ _ ⟨_, _, hP, hD, hS, lv_sub hl [2, 3, 4, 5, 6, 7, 1, 0] rfl⟩
      · refine lv_iconst (v := 0) hx hb dX7_wholeFrom_121 (by decide) ?_
        refine lv_iload hx hb dX7_wholeFrom_122 (lv_at hl 5 rfl) ?_
        refine lv_iload hx hb dX7_wholeFrom_124 (lv_at hl 4 rfl) ?_
        refine lv_isub hx hb dX7_wholeFrom_126 ?_
        refine lv_iconst (v := 1) hx hb dX7_wholeFrom_127 (by decide) ?_
        refine lv_iadd hx hb dX7_wholeFrom_128 ?_
        refine va_mmax hx hb (hml.trans hl.1.symm) hown v_6 v_7 v_8 v_9 (Nat.le_of_ble_eq_true rfl) (Nat.le_of_ble_eq_true rfl) (Nat.le_of_ble_eq_true rfl) (Nat.le_of_ble_eq_true rfl) dX7_wholeFrom_129 ?_
        refine lv_topi (fun y_20 ey_20 => ?_)
        have hP9 := hP.sub (ws' := [(z, .inr (7, [.ref zc, .int (nI n)])), (zc, .inl (cI, N, .inl f)), (ch, .inl (kc, 4, .inl fc))]) [0, 1, 2] rfl
        have hD9 := hD.sub (ws' := [(z, .inr (7, [.ref zc, .int (nI n)])), (zc, .inl (cI, N, .inl f)), (ch, .inl (kc, 4, .inl fc))]) [0, 1, 2] (by decide) rfl
        have hK9 := hK.sub (tys' := [(cI, .int), (kc, .int)]) [0, 1] rfl
        exact W.iret (v := y_20) hx hb hr (fun t ht hW => ⟨⟨y_20, (), rfl, trivial, ⟨fc, by rw [ht]; exact hP9, va_K.moved hW.alike hK9, hD9⟩⟩, hS.F ht⟩) hS.2.2 dX7_wholeFrom_132
    · rintro i_4 h_5 ih_6 H locs ls ⟨vl_2, vl_3, hP, hD, hS, hl, hpr_7⟩
      refine lv_iload hx hb dX7_wholeFrom_28 (lv_at hl 6 rfl) ?_
      refine lv_iload_n hx hb dX7_wholeFrom_30 rfl (lv_at hl 1 rfl) ?_
      refine lv_icmp_ge (tgt := 114) hx hb dX7_wholeFrom_31 (by decide) (fun z => absurd z (nI_ge (a := i_4) (b := 1) (by omega) (by omega))) (fun _ => ?_)
      refine lv_aload_n hx hb dX7_wholeFrom_34 rfl (lv_at hl 0 rfl) ?_
      refine va_get (D := (dC, dI)) (ci := 7) (v := .ref zc) (C := RX7) (T := TX7) (N := 2) hx hb hts hiX7 hown hK hP 0 rfl rfl 0 (by decide) v_10 (fun _ h9 => h9) rfl dX7_wholeFrom_35 ?_
      refine lv_iload_n hx hb dX7_wholeFrom_38 rfl (lv_at hl 1 rfl) ?_
      refine lv_iload_n hx hb dX7_wholeFrom_39 rfl (lv_at hl 3 rfl) ?_
      refine lv_imul hx hb dX7_wholeFrom_40 ?_
      refine lv_topi (fun y_21 ey_21 => ?_)
      obtain rfl : y_21 = (nI (1 * n)) := ey_21.trans (pk_mul 1 n)
      refine lv_iload hx hb dX7_wholeFrom_41 (lv_at hl 6 rfl) ?_
      refine lv_iadd hx hb dX7_wholeFrom_43 ?_
      refine lv_topi (fun y_22 ey_22 => ?_)
      obtain rfl : y_22 = (nI ((1 * n) + i_4)) := ey_22.trans (nI_add (1 * n) i_4)
      refine va_iald hx hb hK hP 1 0 rfl rfl (vp_in_nI (n := ((1 * n) + i_4)) (by first | omega | exact ix_lt (by omega) (by omega) hn | exact ix_lt0 (by omega) hn | exact ix_ltq (by omega) hn | exact ix_lt1 (by omega) hn) (by omega)) dX7_wholeFrom_44 ?_
      refine lv_istore (lv' := [(7, .int (f ((nI ((1 * n) + i_4))).toNatClampNeg)), (0, .ref z), (1, .int 1), (2, .ref ch), (3, .int (nI n)), (4, .int vl_2), (5, .int vl_3), (6, .int (nI i_4))]) hx hb dX7_wholeFrom_45 hl (by decide) rfl (fun ls hl => ?_)
      refine lv_aload_n hx hb dX7_wholeFrom_47 rfl (lv_at hl 1 rfl) ?_
      refine va_get (D := (dC, dI)) (ci := 7) (v := .ref zc) (C := RX7) (T := TX7) (N := 2) hx hb hts hiX7 hown hK hP 0 rfl rfl 0 (by decide) v_10 (fun _ h9 => h9) rfl dX7_wholeFrom_48 ?_
      refine lv_iload hx hb dX7_wholeFrom_51 (lv_at hl 7 rfl) ?_
      refine lv_iload_n hx hb dX7_wholeFrom_53 rfl (lv_at hl 4 rfl) ?_
      refine lv_imul hx hb dX7_wholeFrom_54 ?_
      refine lv_topi (fun y_23 ey_23 => ?_)
      obtain rfl : y_23 = (nI (i_4 * n)) := ey_23.trans (pk_mul i_4 n)
      refine lv_iload_n hx hb dX7_wholeFrom_55 rfl (lv_at hl 2 rfl) ?_
      refine lv_iadd hx hb dX7_wholeFrom_56 ?_
      refine lv_topi (fun y_24 ey_24 => ?_)
      obtain rfl : y_24 = (nI ((i_4 * n) + 1)) := ey_24.trans (nI_add (i_4 * n) 1)
      refine va_iald hx hb hK hP 1 0 rfl rfl (vp_in_nI (n := ((i_4 * n) + 1)) (by first | omega | exact ix_lt (by omega) (by omega) hn | exact ix_lt0 (by omega) hn | exact ix_ltq (by omega) hn | exact ix_lt1 (by omega) hn) (by omega)) dX7_wholeFrom_57 ?_
      refine lv_istore (lv' := [(8, .int (f ((nI ((i_4 * n) + 1))).toNatClampNeg)), (7, .int (f ((nI ((1 * n) + i_4))).toNatClampNeg)), (0, .ref z), (1, .int 1), (2, .ref ch), (3, .int (nI n)), (4, .int vl_2), (5, .int vl_3), (6, .int (nI i_4))]) hx hb dX7_wholeFrom_58 hl (by decide) rfl (fun ls hl => ?_)
      refine lv_iload hx hb dX7_wholeFrom_60 (lv_at hl 1 rfl) ?_
      refine lv_ldc hx hb hown v_11 dX7_wholeFrom_62 ?_
      refine lv_icmp_eq (tgt := 84) hx hb dX7_wholeFrom_64 (by decide) (fun c_25 => ?_) (fun c_25 => ?_)
      · refine lv_iload hx hb dX7_wholeFrom_84 (lv_at hl 0 rfl) ?_
        refine lv_ldc hx hb hown v_11 dX7_wholeFrom_86 ?_
        refine lv_icmp_eq (tgt := 108) hx hb dX7_wholeFrom_88 (by decide) (fun c_26 => ?_) (fun c_26 => ?_)
        · refine lv_iinc (v := (nI (i_4 + 1))) (lv' := [(6, .int (nI (i_4 + 1))), (8, .int (f ((nI ((i_4 * n) + 1))).toNatClampNeg)), (7, .int (f ((nI ((1 * n) + i_4))).toNatClampNeg)), (0, .ref z), (1, .int 1), (2, .ref ch), (3, .int (nI n)), (4, .int vl_2), (5, .int vl_3)]) hx hb dX7_wholeFrom_108 hl (k := 8) rfl (nI_1 _) (by decide) rfl (fun ls hl => ?_)
          refine lv_goto (tgt := 28) hx hb dX7_wholeFrom_111 (by decide) ?_
          exact ih_6 _ _ _ ⟨_, _, hP, hD, hS, lv_sub hl [3, 4, 5, 6, 7, 8, 0] rfl, ⟨hpr_7.1, hpr_7.2⟩⟩
        · refine lv_iload hx hb dX7_wholeFrom_91 (lv_at hl 6 rfl) ?_
          refine lv_aload_n hx hb dX7_wholeFrom_93 rfl (lv_at hl 4 rfl) ?_
          refine lv_iload hx hb dX7_wholeFrom_94 (lv_at hl 8 rfl) ?_
          refine va_iald hx hb hK hP 2 1 rfl rfl (vp_in_nI (n := i_4) (by first | omega | exact ix_lt (by omega) (by omega) hn | exact ix_lt0 (by omega) hn | exact ix_ltq (by omega) hn | exact ix_lt1 (by omega) hn) (by omega)) dX7_wholeFrom_96 ?_
          refine lv_iload hx hb dX7_wholeFrom_97 (lv_at hl 0 rfl) ?_
          refine va_calli (va_runS (As := [.int (f ((nI ((i_4 * n) + 1))).toNatClampNeg)]) (rest := [.int (fc ((nI i_4)).toNatClampNeg), .int vl_2]) ⟨hx, hb, hml, hown, hts⟩ (c_X7_wholePart l dC dI _ (f ((nI ((i_4 * n) + 1))).toNatClampNeg)) (va_cwS 1 hts g_X7_wholeFrom_1_X7_wholePart rfl rfl rfl (by decide +kernel) ⟨Nat.le_of_ble_eq_true rfl, Nat.le_of_ble_eq_true rfl⟩) ⟨pu_bl, pu_in (hP.sub [] rfl) (hK.sub [] rfl) (hD.sub [] (by decide) rfl)⟩ rfl rfl hl.1 rfl (lv_room (Nat.le_of_ble_eq_true rfl)) dX7_wholeFrom_99 ⟨Nat.le_of_ble_eq_true rfl, Nat.le_of_ble_eq_true rfl⟩) hS (fun q _ h => pu_fr hS hA q h) (pu_fr hS hA) (fun r_27 u t H1 locs ht hvm hw hB hz1 hk1 hS => ?_)
          have hP := pu_keep hP hk1
          clear hk1 hz1 ht hvm
          generalize H1 = H at hP hS ⊢
          refine lv_isub hx hb dX7_wholeFrom_102 ?_
          refine va_mmax hx hb (hml.trans hl.1.symm) hown v_6 v_7 v_8 v_9 (Nat.le_of_ble_eq_true rfl) (Nat.le_of_ble_eq_true rfl) (Nat.le_of_ble_eq_true rfl) (Nat.le_of_ble_eq_true rfl) dX7_wholeFrom_103 ?_
          refine lv_topi (fun y_28 ey_28 => ?_)
          refine lv_istore (lv' := [(4, .int y_28), (8, .int (f ((nI ((i_4 * n) + 1))).toNatClampNeg)), (7, .int (f ((nI ((1 * n) + i_4))).toNatClampNeg)), (0, .ref z), (1, .int 1), (2, .ref ch), (3, .int (nI n)), (5, .int vl_3), (6, .int (nI i_4))]) hx hb dX7_wholeFrom_106 hl (by decide) rfl (fun ls hl => ?_)
          refine lv_iinc (v := (nI (i_4 + 1))) (lv' := [(6, .int (nI (i_4 + 1))), (4, .int y_28), (8, .int (f ((nI ((i_4 * n) + 1))).toNatClampNeg)), (7, .int (f ((nI ((1 * n) + i_4))).toNatClampNeg)), (0, .ref z), (1, .int 1), (2, .ref ch), (3, .int (nI n)), (5, .int vl_3)]) hx hb dX7_wholeFrom_108 hl (k := 8) rfl (nI_1 _) (by decide) rfl (fun ls hl => ?_)
          refine lv_goto (tgt := 28) hx hb dX7_wholeFrom_111 (by decide) ?_
          exact ih_6 _ _ _ ⟨_, _, hP, hD, hS, lv_sub hl [4, 5, 6, 7, 1, 8, 0] rfl, ⟨by rw [ey_28]; exact mx_0 hpr_7.1, hpr_7.2⟩⟩
      · refine lv_iload hx hb dX7_wholeFrom_67 (lv_at hl 7 rfl) ?_
        refine lv_aload_n hx hb dX7_wholeFrom_69 rfl (lv_at hl 4 rfl) ?_
        refine lv_iload hx hb dX7_wholeFrom_70 (lv_at hl 8 rfl) ?_
        refine va_iald hx hb hK hP 2 1 rfl rfl (vp_in_nI (n := i_4) (by first | omega | exact ix_lt (by omega) (by omega) hn | exact ix_lt0 (by omega) hn | exact ix_ltq (by omega) hn | exact ix_lt1 (by omega) hn) (by omega)) dX7_wholeFrom_72 ?_
        refine lv_iload hx hb dX7_wholeFrom_73 (lv_at hl 1 rfl) ?_
        refine va_calli (va_runS (As := [.int (f ((nI ((1 * n) + i_4))).toNatClampNeg)]) (rest := [.int (fc ((nI i_4)).toNatClampNeg), .int vl_3]) ⟨hx, hb, hml, hown, hts⟩ (c_X7_wholePart l dC dI _ (f ((nI ((1 * n) + i_4))).toNatClampNeg)) (va_cwS 1 hts g_X7_wholeFrom_1_X7_wholePart rfl rfl rfl (by decide +kernel) ⟨Nat.le_of_ble_eq_true rfl, Nat.le_of_ble_eq_true rfl⟩) ⟨pu_bl, pu_in (hP.sub [] rfl) (hK.sub [] rfl) (hD.sub [] (by decide) rfl)⟩ rfl rfl hl.1 rfl (lv_room (Nat.le_of_ble_eq_true rfl)) dX7_wholeFrom_75 ⟨Nat.le_of_ble_eq_true rfl, Nat.le_of_ble_eq_true rfl⟩) hS (fun q _ h => pu_fr hS hA q h) (pu_fr hS hA) (fun r_29 u t H1 locs ht hvm hw hB hz1 hk1 hS => ?_)
        have hP := pu_keep hP hk1
        clear hk1 hz1 ht hvm
        generalize H1 = H at hP hS ⊢
        refine lv_iadd hx hb dX7_wholeFrom_78 ?_
        refine va_mmin hx hb (hml.trans hl.1.symm) hown v_15 v_16 v_8 v_17 (Nat.le_of_ble_eq_true rfl) (Nat.le_of_ble_eq_true rfl) (Nat.le_of_ble_eq_true rfl) (Nat.le_of_ble_eq_true rfl) dX7_wholeFrom_79 ?_
        refine lv_topi (fun y_30 ey_30 => ?_)
        refine lv_istore (lv' := [(5, .int y_30), (8, .int (f ((nI ((i_4 * n) + 1))).toNatClampNeg)), (7, .int (f ((nI ((1 * n) + i_4))).toNatClampNeg)), (0, .ref z), (1, .int 1), (2, .ref ch), (3, .int (nI n)), (4, .int vl_2), (6, .int (nI i_4))]) hx hb dX7_wholeFrom_82 hl (by decide) rfl (fun ls hl => ?_)
        refine lv_iload hx hb dX7_wholeFrom_84 (lv_at hl 1 rfl) ?_
        refine lv_ldc hx hb hown v_11 dX7_wholeFrom_86 ?_
        refine lv_icmp_eq (tgt := 108) hx hb dX7_wholeFrom_88 (by decide) (fun c_31 => ?_) (fun c_31 => ?_)
        · refine lv_iinc (v := (nI (i_4 + 1))) (lv' := [(6, .int (nI (i_4 + 1))), (5, .int y_30), (8, .int (f ((nI ((i_4 * n) + 1))).toNatClampNeg)), (7, .int (f ((nI ((1 * n) + i_4))).toNatClampNeg)), (0, .ref z), (1, .int 1), (2, .ref ch), (3, .int (nI n)), (4, .int vl_2)]) hx hb dX7_wholeFrom_108 hl (k := 8) rfl (nI_1 _) (by decide) rfl (fun ls hl => ?_)
          refine lv_goto (tgt := 28) hx hb dX7_wholeFrom_111 (by decide) ?_
          exact ih_6 _ _ _ ⟨_, _, hP, hD, hS, lv_sub hl [4, 5, 6, 7, 8, 1, 0] rfl, ⟨hpr_7.1, by rw [ey_30]; exact mn_21 hpr_7.2⟩⟩
        · refine lv_iload hx hb dX7_wholeFrom_91 (lv_at hl 7 rfl) ?_
          refine lv_aload_n hx hb dX7_wholeFrom_93 rfl (lv_at hl 5 rfl) ?_
          refine lv_iload hx hb dX7_wholeFrom_94 (lv_at hl 8 rfl) ?_
          refine va_iald hx hb hK hP 2 1 rfl rfl (vp_in_nI (n := i_4) (by first | omega | exact ix_lt (by omega) (by omega) hn | exact ix_lt0 (by omega) hn | exact ix_ltq (by omega) hn | exact ix_lt1 (by omega) hn) (by omega)) dX7_wholeFrom_96 ?_
          refine lv_iload hx hb dX7_wholeFrom_97 (lv_at hl 1 rfl) ?_
          refine va_calli (va_runS (As := [.int (f ((nI ((i_4 * n) + 1))).toNatClampNeg)]) (rest := [.int (fc ((nI i_4)).toNatClampNeg), .int vl_2]) ⟨hx, hb, hml, hown, hts⟩ (c_X7_wholePart l dC dI _ (f ((nI ((i_4 * n) + 1))).toNatClampNeg)) (va_cwS 1 hts g_X7_wholeFrom_1_X7_wholePart rfl rfl rfl (by decide +kernel) ⟨Nat.le_of_ble_eq_true rfl, Nat.le_of_ble_eq_true rfl⟩) ⟨pu_bl, pu_in (hP.sub [] rfl) (hK.sub [] rfl) (hD.sub [] (by decide) rfl)⟩ rfl rfl hl.1 rfl (lv_room (Nat.le_of_ble_eq_true rfl)) dX7_wholeFrom_99 ⟨Nat.le_of_ble_eq_true rfl, Nat.le_of_ble_eq_true rfl⟩) hS (fun q _ h => pu_fr hS hA q h) (pu_fr hS hA) (fun r_32 u t H1 locs ht hvm hw hB hz1 hk1 hS => ?_)
          have hP := pu_keep hP hk1
          clear hk1 hz1 ht hvm
          generalize H1 = H at hP hS ⊢
          refine lv_isub hx hb dX7_wholeFrom_102 ?_
          refine va_mmax hx hb (hml.trans hl.1.symm) hown v_6 v_7 v_8 v_9 (Nat.le_of_ble_eq_true rfl) (Nat.le_of_ble_eq_true rfl) (Nat.le_of_ble_eq_true rfl) (Nat.le_of_ble_eq_true rfl) dX7_wholeFrom_103 ?_
          refine lv_topi (fun y_33 ey_33 => ?_)
          refine lv_istore (lv' := [(4, .int y_33), (5, .int y_30), (8, .int (f ((nI ((i_4 * n) + 1))).toNatClampNeg)), (7, .int (f ((nI ((1 * n) + i_4))).toNatClampNeg)), (0, .ref z), (1, .int 1), (2, .ref ch), (3, .int (nI n)), (6, .int (nI i_4))]) hx hb dX7_wholeFrom_106 hl (by decide) rfl (fun ls hl => ?_)
          refine lv_iinc (v := (nI (i_4 + 1))) (lv' := [(6, .int (nI (i_4 + 1))), (4, .int y_33), (5, .int y_30), (8, .int (f ((nI ((i_4 * n) + 1))).toNatClampNeg)), (7, .int (f ((nI ((1 * n) + i_4))).toNatClampNeg)), (0, .ref z), (1, .int 1), (2, .ref ch), (3, .int (nI n))]) hx hb dX7_wholeFrom_108 hl (k := 8) rfl (nI_1 _) (by decide) rfl (fun ls hl => ?_)
          refine lv_goto (tgt := 28) hx hb dX7_wholeFrom_111 (by decide) ?_
          exact ih_6 _ _ _ ⟨_, _, hP, hD, hS, lv_sub hl [5, 6, 7, 8, 1, 2, 0] rfl, ⟨by rw [ey_33]; exact mx_0 hpr_7.1, by rw [ey_30]; exact mn_21 hpr_7.2⟩⟩
theorem dX7_wholeValues_0 : decode cX7_wholeValues 0 = .ok (.aload_n 0, 1) := by decide +kernel
theorem dX7_wholeValues_1 : decode cX7_wholeValues 1 = .ok (.iconst 1, 1) := by decide +kernel
theorem dX7_wholeValues_2 : decode cX7_wholeValues 2 = .ok (.aload_n 1, 1) := by decide +kernel
theorem dX7_wholeValues_3 : decode cX7_wholeValues 3 = .ok (.invokestatic 35, 3) := by decide +kernel
theorem dX7_wholeValues_6 : decode cX7_wholeValues 6 = .ok (.ireturn, 1) := by decide +kernel
def vs_X7_wholeValues : List Cond := .code yX7_wholeValues cX7_wholeValues 2 (some .int) :: ([.methodLink RX7 35 yX7_wholeFrom, .static yX7_wholeFrom, .initialized RX7, .code yX7_wholeFrom cX7_wholeFrom 9 (some .int), .fieldLink RX7 18 "ClockReach$Zone" "size" "I", .methodLink RX7 42 Lib.Math.max.name, .static Lib.Math.max.name, .initialized "java/lang/Math", .code Lib.Math.max.name Lib.Math.max.code 2 (some .int), .fieldLink RX7 11 "ClockReach$Zone" "cells" "[I", .constant RX7 17 (2147483647), .methodLink RX7 39 yX7_wholePart, .static yX7_wholePart, .code yX7_wholePart cX7_wholePart 1 (some .int), .methodLink RX7 22 Lib.Math.min.name, .static Lib.Math.min.name, .code Lib.Math.min.name Lib.Math.min.code 2 (some .int)] ++ wsX70)
theorem g_X7_wholeValues_X7_wholeFrom_1 : GoodIn vs_X7_wholeValues (va_wsS RX7 35 yX7_wholeFrom vs_X7_wholeFrom_1) := goodIn_r _ [1, 2, 3, 4, 5, 1, 2, 3, 4, 6, 7, 8, 9, 10, 11, 12, 13, 14, 15, 16, 17, 18, 19] (by decide +kernel) (by decide +kernel)
set_option maxHeartbeats 4000000 in
set_option maxRecDepth 100000 in
theorem c_X7_wholeValues (l : Launch) (dC : Nat → ClassId) (dI : Nat → Nat → Nat) (sz : Nat) (z zc : Nat) (cI : ClassId) (n N : Nat) (f : Nat → Int32) (hn : n * n ≤ N) (hN : N ≤ 25) (hn4 : n ≤ 4) (ch : Nat) (kc : ClassId) (fc : Nat → Int32) : Met l yX7_wholeValues vs_X7_wholeValues ({ frames := 4, cells := 0, slots := 0, locals := 112 }) (va_Pc [.ref z, .ref ch] (pu_B (dC, dI) [(z, .inr (7, [.ref zc, .int (nI n)])), (zc, .inl (cI, N, .inl f)), (ch, .inl (kc, 4, .inl fc))] [(cI, .int), (kc, .int)] sz)) (va_Qi (fun (r : Int32) (_ : Unit) => True) (fun _ t => ∃ (g : Nat → Int32), pu_E (dC, dI) [(z, .inr (7, [.ref zc, .int (nI n)])), (zc, .inl (cI, N, .inl f)), (ch, .inl (kc, 4, .inl g))] [(cI, .int), (kc, .int)] (va_A ([(z, .inr (7, [.ref zc, .int (nI n)])), (zc, .inl (cI, N, .inl f)), (ch, .inl (kc, 4, .inl fc))]) sz) t) (va_A ([(z, .inr (7, [.ref zc, .int (nI n)])), (zc, .inl (cI, N, .inl f)), (ch, .inl (kc, 4, .inl fc))]) sz)) 0 0 (va_A ([(z, .inr (7, [.ref zc, .int (nI n)])), (zc, .inl (cI, N, .inl f)), (ch, .inl (kc, 4, .inl fc))]) sz) := by
  refine Met.ofW (cc := cX7_wholeValues) (maxL := 2) (ret := (some .int)) (by decide) rfl ?_
  intro p e s m args below meth c s₁ B hml hv
  obtain ⟨rfl, rfl, hP, hK, hD0⟩ := hv
  have hx := B.exec
  have hb := B.bytes
  have hr := B.returns
  have hts := atoms_spec (ws := vs_X7_wholeValues) B.pre
  have hown : s.vm.findClass RX7 = some m.cls := findClass_of_methodNamed B.named
  have hlocks := B.notSynchronized
  have hD := hD0.self (sz := s.heap.size)
  generalize hAe : va_A ([(z, .inr (7, [.ref zc, .int (nI n)])), (zc, .inl (cI, N, .inl f)), (ch, .inl (kc, 4, .inl fc))]) s.heap.size = A at hD ⊢
  have hA : ∀ q : Nat, s.heap.size ≤ q → A q := fun q h => by rw [← hAe]; exact Or.inr h
  have hS : va_S A s.heap s.heap [] := va_S.rf
  have hl := lv_entry ([.ref z, .ref ch]) (n := 2) (Nat.le_of_ble_eq_true rfl)
  rw [lg_entry_eq]
  generalize (lg_sl ([.ref z, .ref ch]) ++ List.replicate (2 - (lg_sl ([.ref z, .ref ch])).length) Slot.unset).toArray = ls at hl ⊢
  have hl : lv_has ls 2 [(0, .ref z), (1, .ref ch)] := hl
  have hn5 := zn_5 hn hN
  have hnq := zn_q hn hN
  refine lv_aload_n hx hb dX7_wholeValues_0 rfl (lv_at hl 0 rfl) ?_
  refine lv_iconst (v := 1) hx hb dX7_wholeValues_1 (by decide) ?_
  refine lv_aload_n hx hb dX7_wholeValues_2 rfl (lv_at hl 1 rfl) ?_
  have hFc := va_free (wc := [(z, .inr (7, [.ref zc, .int (nI n)])), (zc, .inl (cI, N, .inl f)), (ch, .inl (kc, 4, .inl fc))]) hD hS hA [0, 1, 2] rfl
  refine va_calli (va_runS (As := [.ref z, .int 1, .ref ch]) (rest := []) ⟨hx, hb, hml, hown, hts⟩ (c_X7_wholeFrom_1 l dC dI _ z zc cI n N f hn hN hn4 ch kc fc) (va_cwS 3 hts g_X7_wholeValues_X7_wholeFrom_1 rfl rfl rfl (by decide +kernel) ⟨Nat.le_of_ble_eq_true rfl, Nat.le_of_ble_eq_true rfl⟩) ⟨pu_bl, pu_in hP hK hD⟩ rfl rfl hl.1 rfl (lv_room (Nat.le_of_ble_eq_true rfl)) dX7_wholeValues_3 ⟨Nat.le_of_ble_eq_true rfl, Nat.le_of_ble_eq_true rfl⟩) hS (fun q _ h => hFc q h) hFc (fun r_1 u t H1 locs ht hvm hw hB hz1 hk1 hS => ?_)
  obtain ⟨g_2, ⟨hP1, hK1, hD1⟩⟩ := hB
  rw [ht] at hP1
  have hK1 := va_K.moved hvm.symm hK1
  obtain ⟨hP, hD⟩ := va_join (wr := []) (w1 := [(z, .inr (7, [.ref zc, .int (nI n)])), (zc, .inl (cI, N, .inl f)), (ch, .inl (kc, 4, .inl g_2))]) hP hD [0, 1, 2] [] rfl rfl (by decide) (by decide) hk1 hFc hP1 hD1
  have hK := hK.app hK1
  clear hk1 hz1 ht hvm
  generalize H1 = H at hP hS ⊢
  have hP : va_P (dC, dI) vwCl [(z, .inr (7, [.ref zc, .int (nI n)])), (zc, .inl (cI, N, .inl f)), (ch, .inl (kc, 4, .inl g_2))] H := hP
  have hD : va_D A [(z, .inr (7, [.ref zc, .int (nI n)])), (zc, .inl (cI, N, .inl f)), (ch, .inl (kc, 4, .inl g_2))] := hD
  have hK : va_K (dC, dI) vwCl [(cI, .int), (kc, .int), (cI, .int), (kc, .int)] s := hK
  have hP9 := hP.sub (ws' := [(z, .inr (7, [.ref zc, .int (nI n)])), (zc, .inl (cI, N, .inl f)), (ch, .inl (kc, 4, .inl g_2))]) [0, 1, 2] rfl
  have hD9 := hD.sub (ws' := [(z, .inr (7, [.ref zc, .int (nI n)])), (zc, .inl (cI, N, .inl f)), (ch, .inl (kc, 4, .inl g_2))]) [0, 1, 2] (by decide) rfl
  have hK9 := hK.sub (tys' := [(cI, .int), (kc, .int)]) [0, 1] rfl
  exact W.iret (v := r_1) hx hb hr (fun t ht hW => ⟨⟨r_1, (), rfl, trivial, ⟨g_2, by rw [ht]; exact hP9, va_K.moved hW.alike hK9, hD9⟩⟩, hS.F ht⟩) hS.2.2 dX7_wholeValues_6
