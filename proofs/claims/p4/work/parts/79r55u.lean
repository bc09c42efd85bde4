theorem dX9_hasTimes_0 : decode cX9_hasTimes 0 = .ok (.iconst (-1), 1) := by decide +kernel
theorem dX9_hasTimes_1 : decode cX9_hasTimes 1 = .ok (.istore 5, 2) := by decide +kernel
theorem dX9_hasTimes_3 : decode cX9_hasTimes 3 = .ok (.iload 5, 2) := by decide +kernel
theorem dX9_hasTimes_5 : decode cX9_hasTimes 5 = .ok (.aload_n 0, 1) := by decide +kernel
theorem dX9_hasTimes_6 : decode cX9_hasTimes 6 = .ok (.invokevirtual 280, 3) := by decide +kernel
theorem dX9_hasTimes_9 : decode cX9_hasTimes 9 = .ok (.if_icmp .ge 146, 3) := by decide +kernel
theorem dX9_hasTimes_12 : decode cX9_hasTimes 12 = .ok (.iconst (-1), 1) := by decide +kernel
theorem dX9_hasTimes_13 : decode cX9_hasTimes 13 = .ok (.istore 6, 2) := by decide +kernel
theorem dX9_hasTimes_15 : decode cX9_hasTimes 15 = .ok (.iload 6, 2) := by decide +kernel
theorem dX9_hasTimes_17 : decode cX9_hasTimes 17 = .ok (.aload_n 0, 1) := by decide +kernel
theorem dX9_hasTimes_18 : decode cX9_hasTimes 18 = .ok (.invokevirtual 280, 3) := by decide +kernel
theorem dX9_hasTimes_21 : decode cX9_hasTimes 21 = .ok (.if_icmp .ge 128, 3) := by decide +kernel
theorem dX9_hasTimes_24 : decode cX9_hasTimes 24 = .ok (.iload 5, 2) := by decide +kernel
theorem dX9_hasTimes_26 : decode cX9_hasTimes 26 = .ok (.ifCond .ne 8, 3) := by decide +kernel
theorem dX9_hasTimes_29 : decode cX9_hasTimes 29 = .ok (.iload_n 2, 1) := by decide +kernel
theorem dX9_hasTimes_30 : decode cX9_hasTimes 30 = .ok (.i2l, 1) := by decide +kernel
theorem dX9_hasTimes_31 : decode cX9_hasTimes 31 = .ok (.goto 27, 3) := by decide +kernel
theorem dX9_hasTimes_34 : decode cX9_hasTimes 34 = .ok (.iload 5, 2) := by decide +kernel
theorem dX9_hasTimes_36 : decode cX9_hasTimes 36 = .ok (.iconst 1, 1) := by decide +kernel
theorem dX9_hasTimes_37 : decode cX9_hasTimes 37 = .ok (.if_icmp .ne 8, 3) := by decide +kernel
theorem dX9_hasTimes_40 : decode cX9_hasTimes 40 = .ok (.iload_n 3, 1) := by decide +kernel
theorem dX9_hasTimes_41 : decode cX9_hasTimes 41 = .ok (.i2l, 1) := by decide +kernel
theorem dX9_hasTimes_42 : decode cX9_hasTimes 42 = .ok (.goto 16, 3) := by decide +kernel
theorem dX9_hasTimes_45 : decode cX9_hasTimes 45 = .ok (.iload 5, 2) := by decide +kernel
theorem dX9_hasTimes_47 : decode cX9_hasTimes 47 = .ok (.iconst 2, 1) := by decide +kernel
theorem dX9_hasTimes_48 : decode cX9_hasTimes 48 = .ok (.if_icmp .ne 9, 3) := by decide +kernel
theorem dX9_hasTimes_51 : decode cX9_hasTimes 51 = .ok (.iload 4, 2) := by decide +kernel
theorem dX9_hasTimes_53 : decode cX9_hasTimes 53 = .ok (.i2l, 1) := by decide +kernel
theorem dX9_hasTimes_54 : decode cX9_hasTimes 54 = .ok (.goto 4, 3) := by decide +kernel
theorem dX9_hasTimes_57 : decode cX9_hasTimes 57 = .ok (.lconst 0, 1) := by decide +kernel
theorem dX9_hasTimes_58 : decode cX9_hasTimes 58 = .ok (.lstore 7, 2) := by decide +kernel
theorem dX9_hasTimes_60 : decode cX9_hasTimes 60 = .ok (.iload 6, 2) := by decide +kernel
theorem dX9_hasTimes_62 : decode cX9_hasTimes 62 = .ok (.ifCond .ne 8, 3) := by decide +kernel
theorem dX9_hasTimes_65 : decode cX9_hasTimes 65 = .ok (.iload_n 2, 1) := by decide +kernel
theorem dX9_hasTimes_66 : decode cX9_hasTimes 66 = .ok (.i2l, 1) := by decide +kernel
theorem dX9_hasTimes_67 : decode cX9_hasTimes 67 = .ok (.goto 27, 3) := by decide +kernel
theorem dX9_hasTimes_70 : decode cX9_hasTimes 70 = .ok (.iload 6, 2) := by decide +kernel
theorem dX9_hasTimes_72 : decode cX9_hasTimes 72 = .ok (.iconst 1, 1) := by decide +kernel
theorem dX9_hasTimes_73 : decode cX9_hasTimes 73 = .ok (.if_icmp .ne 8, 3) := by decide +kernel
theorem dX9_hasTimes_76 : decode cX9_hasTimes 76 = .ok (.iload_n 3, 1) := by decide +kernel
theorem dX9_hasTimes_77 : decode cX9_hasTimes 77 = .ok (.i2l, 1) := by decide +kernel
theorem dX9_hasTimes_78 : decode cX9_hasTimes 78 = .ok (.goto 16, 3) := by decide +kernel
theorem dX9_hasTimes_81 : decode cX9_hasTimes 81 = .ok (.iload 6, 2) := by decide +kernel
theorem dX9_hasTimes_83 : decode cX9_hasTimes 83 = .ok (.iconst 2, 1) := by decide +kernel
theorem dX9_hasTimes_84 : decode cX9_hasTimes 84 = .ok (.if_icmp .ne 9, 3) := by decide +kernel
theorem dX9_hasTimes_87 : decode cX9_hasTimes 87 = .ok (.iload 4, 2) := by decide +kernel
theorem dX9_hasTimes_89 : decode cX9_hasTimes 89 = .ok (.i2l, 1) := by decide +kernel
theorem dX9_hasTimes_90 : decode cX9_hasTimes 90 = .ok (.goto 4, 3) := by decide +kernel
theorem dX9_hasTimes_93 : decode cX9_hasTimes 93 = .ok (.lconst 0, 1) := by decide +kernel
theorem dX9_hasTimes_94 : decode cX9_hasTimes 94 = .ok (.lstore 9, 2) := by decide +kernel
theorem dX9_hasTimes_96 : decode cX9_hasTimes 96 = .ok (.aload_n 0, 1) := by decide +kernel
theorem dX9_hasTimes_97 : decode cX9_hasTimes 97 = .ok (.iload_n 1, 1) := by decide +kernel
theorem dX9_hasTimes_98 : decode cX9_hasTimes 98 = .ok (.iload 5, 2) := by decide +kernel
theorem dX9_hasTimes_100 : decode cX9_hasTimes 100 = .ok (.iload 6, 2) := by decide +kernel
theorem dX9_hasTimes_102 : decode cX9_hasTimes 102 = .ok (.invokevirtual 394, 3) := by decide +kernel
theorem dX9_hasTimes_105 : decode cX9_hasTimes 105 = .ok (.istore 11, 2) := by decide +kernel
theorem dX9_hasTimes_107 : decode cX9_hasTimes 107 = .ok (.iload 11, 2) := by decide +kernel
theorem dX9_hasTimes_109 : decode cX9_hasTimes 109 = .ok (.ldc_w 327, 3) := by decide +kernel
theorem dX9_hasTimes_112 : decode cX9_hasTimes 112 = .ok (.if_icmp .ge 31, 3) := by decide +kernel
theorem dX9_hasTimes_115 : decode cX9_hasTimes 115 = .ok (.lload 7, 2) := by decide +kernel
theorem dX9_hasTimes_117 : decode cX9_hasTimes 117 = .ok (.lload 9, 2) := by decide +kernel
theorem dX9_hasTimes_119 : decode cX9_hasTimes 119 = .ok (.lsub, 1) := by decide +kernel
theorem dX9_hasTimes_120 : decode cX9_hasTimes 120 = .ok (.iload 11, 2) := by decide +kernel
theorem dX9_hasTimes_122 : decode cX9_hasTimes 122 = .ok (.iconst 1, 1) := by decide +kernel
theorem dX9_hasTimes_123 : decode cX9_hasTimes 123 = .ok (.ishr, 1) := by decide +kernel
theorem dX9_hasTimes_124 : decode cX9_hasTimes 124 = .ok (.i2l, 1) := by decide +kernel
theorem dX9_hasTimes_125 : decode cX9_hasTimes 125 = .ok (.ldc2_w 399, 3) := by decide +kernel
theorem dX9_hasTimes_128 : decode cX9_hasTimes 128 = .ok (.lmul, 1) := by decide +kernel
theorem dX9_hasTimes_129 : decode cX9_hasTimes 129 = .ok (.lconst 1, 1) := by decide +kernel
theorem dX9_hasTimes_130 : decode cX9_hasTimes 130 = .ok (.lsub, 1) := by decide +kernel
theorem dX9_hasTimes_131 : decode cX9_hasTimes 131 = .ok (.iload 11, 2) := by decide +kernel
theorem dX9_hasTimes_133 : decode cX9_hasTimes 133 = .ok (.iconst 1, 1) := by decide +kernel
theorem dX9_hasTimes_134 : decode cX9_hasTimes 134 = .ok (.iand, 1) := by decide +kernel
theorem dX9_hasTimes_135 : decode cX9_hasTimes 135 = .ok (.i2l, 1) := by decide +kernel
theorem dX9_hasTimes_136 : decode cX9_hasTimes 136 = .ok (.ladd, 1) := by decide +kernel
theorem dX9_hasTimes_137 : decode cX9_hasTimes 137 = .ok (.lcmp, 1) := by decide +kernel
theorem dX9_hasTimes_138 : decode cX9_hasTimes 138 = .ok (.ifCond .le 5, 3) := by decide +kernel
theorem dX9_hasTimes_141 : decode cX9_hasTimes 141 = .ok (.iconst 0, 1) := by decide +kernel
theorem dX9_hasTimes_142 : decode cX9_hasTimes 142 = .ok (.ireturn, 1) := by decide +kernel
theorem dX9_hasTimes_143 : decode cX9_hasTimes 143 = .ok (.iinc 6 1, 3) := by decide +kernel
theorem dX9_hasTimes_146 : decode cX9_hasTimes 146 = .ok (.goto (-131), 3) := by decide +kernel
theorem dX9_hasTimes_149 : decode cX9_hasTimes 149 = .ok (.iinc 5 1, 3) := by decide +kernel
theorem dX9_hasTimes_152 : decode cX9_hasTimes 152 = .ok (.goto (-149), 3) := by decide +kernel
theorem dX9_hasTimes_155 : decode cX9_hasTimes 155 = .ok (.iconst 1, 1) := by decide +kernel
theorem dX9_hasTimes_156 : decode cX9_hasTimes 156 = .ok (.ireturn, 1) := by decide +kernel
abbrev vs_M_hasTimes : List Cond := .code yX9_hasTimes cX9_hasTimes 12 (some .boolean) :: VM
theorem g_M_hasTimes_M_clocks : GoodIn vs_M_hasTimes (wsV RX9 280 RX9 yX9_clocks vs_M_clocks) := gm_V vm_150 vm_151 vm_152 vm_12 vm_20
theorem g_M_hasTimes_M_boundOf_10 : GoodIn vs_M_hasTimes (wsV RX9 394 RX9 yX9_boundOf vs_M_boundOf_10) := gm_V vm_282 vm_283 vm_284 vm_12 vm_277
theorem g_M_hasTimes_M_boundOf_11 : GoodIn vs_M_hasTimes (wsV RX9 394 RX9 yX9_boundOf vs_M_boundOf_11) := gm_V vm_282 vm_283 vm_284 vm_12 vm_277
theorem g_M_hasTimes_M_boundOf_00 : GoodIn vs_M_hasTimes (wsV RX9 394 RX9 yX9_boundOf vs_M_boundOf_00) := gm_V vm_282 vm_283 vm_284 vm_12 vm_277
theorem g_M_hasTimes_M_boundOf_01 : GoodIn vs_M_hasTimes (wsV RX9 394 RX9 yX9_boundOf vs_M_boundOf_01) := gm_V vm_282 vm_283 vm_284 vm_12 vm_277
set_option maxHeartbeats 4000000 in
set_option maxRecDepth 100000 in
theorem c_M_hasTimes (l : Launch) (dC : Nat → ClassId) (dI : Nat → Nat → Nat) (sz : Nat) (ad : Nat → Nat) (ck : Nat → ClassId) (x0 : Int32) (x16 : Nat) (x18 : Nat) (x19 : Nat) (x20 : Int32) (x21 : Nat) (x22 : Nat) (x23 : Int32) (x24 : Int32) (x25 : Int32) (x26 : Nat) (x27 : Int32) (x28 : Nat) (x29 : Nat) (x30 : Nat) (x33 : Nat) (x45 : Int32) (x46 : Nat) (x52 : Nat) (x53 : Nat) (x61 : Nat) (x62 : Nat) (x63 : Nat) (x65 : Nat) (x66 : Int32) (f1 : Nat → Int32) (f2 : Nat → Int32) (f3 : Nat → Int32) (q4 : Nat → Nat) (q5 : Nat → Nat) (q6 : Nat → Nat) (q7 : Nat → Nat) (f8 : Nat → Int32) (q9 : Nat → Nat) (q10 : Nat → Nat) (f11 : Nat → Int32) (m12_0 m12_1 : Nat) (m13_0 m13_1 : Nat) (m14_0 m14_1 : Nat) (m15_0 m15_1 : Nat) (f17 : Nat → Int32) (q31 : Nat → Nat) (f32 : Nat → Int32) (f34 : Nat → Int32) (f35 : Nat → Int32) (f36 : Nat → Int32) (f37 : Nat → Int32) (q38 : Nat → Nat) (f39 : Nat → Int32) (f40 : Nat → Int32) (f41 : Nat → Int32) (m42_0 m42_1 : Nat) (f43 : Nat → Int32) (f44 : Nat → Int32) (f47 : Nat → Int32) (f48 : Nat → Int32) (f49 : Nat → Int32) (f50 : Nat → Int32) (f51 : Nat → Int32) (q54 : Nat → Nat) (q55 : Nat → Nat) (q56 : Nat → Nat) (f57 : Nat → Int32) (q58 : Nat → Nat) (f59 : Nat → Int32) (f60 : Nat → Int32) (f64 : Nat → Int32) (a0 : Nat) (p1 : Int32) (p2 : Int32) (p3 : Int32) (hx16 : x16 ≤ 1) (hx18 : x18 ≤ 900) (hx19 : x19 ≤ 900) (hx21 : x21 ≤ 900) (hx22 : x22 ≤ 4) (hx26 : x26 ≤ 6) (hx28 : x28 ≤ 1) (hx29 : x29 ≤ 1) (hx30 : x30 ≤ 1) (hx33 : x33 ≤ 20) (hx46 : x46 ≤ 5) (hx52 : x52 ≤ 2400) (hx53 : x53 ≤ 119) (hx61 : x61 ≤ 119) (hx62 : x62 ≤ 2000) (hx63 : x63 ≤ 1) (hx65 : x65 ≤ 7) (hm12_0 : m12_0 ≤ 3) (hm12_1 : m12_1 ≤ 3) (hm13_0 : m13_0 ≤ 8) (hm13_1 : m13_1 ≤ 8) (hm14_0 : m14_0 ≤ 14) (hm14_1 : m14_1 ≤ 14) (hm15_0 : m15_0 ≤ 8) (hm15_1 : m15_1 ≤ 8) (hm42_0 : m42_0 ≤ 120) (hm42_1 : m42_1 ≤ 400) (ha0 : a0 ≤ 519) : Met l yX9_hasTimes vs_M_hasTimes ({ frames := 1, cells := 0, slots := 0, locals := 23 }) (va_Pc [.ref (ad 0), .int (nI a0), .int p1, .int p2, .int p3] (pu_B (dC, dI) (mo_w ad ck x0 (nI x16) (nI x18) (nI x19) x20 (nI x21) (nI x22) x23 x24 x25 (nI x26) x27 (nI x28) (nI x29) (nI x30) (nI x33) x45 (nI x46) (nI x52) (nI x53) (nI x61) (nI x62) (nI x63) (nI x65) x66 f1 f2 f3 (bN 3 q4) (bN 7 q5) (bN 7 q6) (bN 4 q7) f8 (bN 2 q9) (bH q10) f11 (b2 m12_0 m12_1) (b2 m13_0 m13_1) (b2 m14_0 m14_1) (b2m m15_0 m15_1) f17 (bA 159 q31) f32 f34 f35 f36 f37 (bN 7 q38) f39 f40 f41 (b2 m42_0 m42_1) f43 f44 f47 f48 f49 f50 f51 (bN 13 q54) (bN 120 q55) (bN 120 q56) f57 (bN 120 q58) f59 f60 f64) (mo_t ck) sz)) (va_Qi (fun (r : Int32) (_ : Unit) => ∃ v : Nat, v ≤ 1 ∧ r = nI v) (fun _ _ => True) (va_A [] sz)) 0 0 (va_A [] sz) := by
  refine Met.ofW (cc := cX9_hasTimes) (maxL := 12) (ret := (some .boolean)) (by decide) rfl ?_
  intro p e s m args below meth c s₁ B hml hv
  obtain ⟨rfl, rfl, hP, hK, hD0⟩ := hv
  have hx := B.exec
  have hb := B.bytes
  have hr := B.returns
  have hts := atoms_spec (ws := vs_M_hasTimes) B.pre
  have v_10 := hts (.constant RX9 327 (1048576)) (List.mem_cons_of_mem _ vm_6)
  have v_11 := hts (.constantLong RX9 399 (256)) (List.mem_cons_of_mem _ vm_377)
  have hown : s.vm.findClass RX9 = some m.cls := findClass_of_methodNamed B.named
  have hlocks := B.notSynchronized
  have hD := hD0
  have hA : ∀ q : Nat, s.heap.size ≤ q → va_A [] s.heap.size q := fun _ h => Or.inr h
  have hS : va_S (va_A [] s.heap.size) s.heap s.heap [] := va_S.rf
  have hl := lv_entry ([.ref (ad 0), .int (nI a0), .int p1, .int p2, .int p3]) (n := 12) (Nat.le_of_ble_eq_true rfl)
  rw [lg_entry_eq]
  generalize (lg_sl ([.ref (ad 0), .int (nI a0), .int p1, .int p2, .int p3]) ++ List.replicate (12 - (lg_sl ([.ref (ad 0), .int (nI a0), .int p1, .int p2, .int p3])).length) Slot.unset).toArray = ls at hl ⊢
  have hl : lv_has ls 12 [(0, .ref (ad 0)), (1, .int (nI a0)), (2, .int p1), (3, .int p2), (4, .int p3)] := hl
  refine lv_iconst (v := (-1)) hx hb dX9_hasTimes_0 (by decide) ?_
  refine lv_istore (lv' := [(5, .int (-1)), (0, .ref (ad 0)), (1, .int (nI a0)), (2, .int p1), (3, .int p2), (4, .int p3)]) hx hb dX9_hasTimes_1 hl (by decide) rfl (fun ls hl => ?_)
  refine lv_iload hx hb dX9_hasTimes_3 (lv_at hl 0 rfl) ?_
  refine lv_aload_n hx hb dX9_hasTimes_5 rfl (lv_at hl 1 rfl) ?_
  refine va_calli (va_runV (As := []) (rest := [.int (-1)]) ⟨hx, hb, hml, hown, hts⟩ (c_M_clocks l dC dI _ ad ck x0 x16 x18 x19 x20 x21 x22 x23 x24 x25 x26 x27 x28 x29 x30 x33 x45 x46 x52 x53 x61 x62 x63 x65 x66 f1 f2 f3 q4 q5 q6 q7 f8 q9 q10 f11 m12_0 m12_1 m13_0 m13_1 m14_0 m14_1 m15_0 m15_1 f17 q31 f32 f34 f35 f36 f37 q38 f39 f40 f41 m42_0 m42_1 f43 f44 f47 f48 f49 f50 f51 q54 q55 q56 f57 q58 f59 f60 f64 hx16 hx18 hx19 hx21 hx22 hx26 hx28 hx29 hx30 hx33 hx46 hx52 hx53 hx61 hx62 hx63 hx65 hm12_0 hm12_1 hm13_0 hm13_1 hm14_0 hm14_1 hm15_0 hm15_1 hm42_0 hm42_1) (cwV 0 hts g_M_hasTimes_M_clocks rfl rfl rfl (by decide +kernel) ⟨Nat.le_of_ble_eq_true rfl, Nat.le_of_ble_eq_true rfl⟩) ⟨pu_bl, va_recv hK hP (ci := 9) (q0 := 0) rfl rfl, pu_in hP hK hD⟩ rfl rfl hl.1 rfl (lv_room (Nat.le_of_ble_eq_true rfl)) dX9_hasTimes_6 ⟨Nat.le_of_ble_eq_true rfl, Nat.le_of_ble_eq_true rfl⟩) hS (fun q _ h => pu_fr hS hA q h) (pu_fr hS hA) (fun r_1 u t H1 locs ht hvm hw hB hz1 hk1 hS => ?_)
  have hP := pu_keep hP hk1
  clear hk1 hz1 ht hvm
  generalize H1 = H at hP hS ⊢
  obtain ⟨u_2, hu_2, rfl⟩ := hw
  refine lv_icmp_ge (tgt := 155) hx hb dX9_hasTimes_9 (by decide) (fun c_3 => ?_) (fun c_3 => ?_)
  · refine lv_iconst (v := 1) hx hb dX9_hasTimes_155 (by decide) ?_
    exact W.zret (v := 1) (ty := .boolean) hx hb hr (rfl) (fun t ht hW => ⟨⟨1, (), rfl, ⟨1, (Nat.le_of_ble_eq_true rfl), rfl⟩, trivial⟩, hS.F ht⟩) hS.2.2 dX9_hasTimes_156
  · refine lv_iconst (v := (-1)) hx hb dX9_hasTimes_12 (by decide) ?_
    refine lv_istore (lv' := [(6, .int (-1)), (5, .int (-1)), (0, .ref (ad 0)), (1, .int (nI a0)), (2, .int p1), (3, .int p2), (4, .int p3)]) hx hb dX9_hasTimes_13 hl (by decide) rfl (fun ls hl => ?_)
    refine lv_iload hx hb dX9_hasTimes_15 (lv_at hl 0 rfl) ?_
    refine lv_aload_n hx hb dX9_hasTimes_17 rfl (lv_at hl 2 rfl) ?_
    refine va_calli (va_runV (As := []) (rest := [.int (-1)]) ⟨hx, hb, hml, hown, hts⟩ (c_M_clocks l dC dI _ ad ck x0 x16 x18 x19 x20 x21 x22 x23 x24 x25 x26 x27 x28 x29 x30 x33 x45 x46 x52 x53 x61 x62 x63 x65 x66 f1 f2 f3 q4 q5 q6 q7 f8 q9 q10 f11 m12_0 m12_1 m13_0 m13_1 m14_0 m14_1 m15_0 m15_1 f17 q31 f32 f34 f35 f36 f37 q38 f39 f40 f41 m42_0 m42_1 f43 f44 f47 f48 f49 f50 f51 q54 q55 q56 f57 q58 f59 f60 f64 hx16 hx18 hx19 hx21 hx22 hx26 hx28 hx29 hx30 hx33 hx46 hx52 hx53 hx61 hx62 hx63 hx65 hm12_0 hm12_1 hm13_0 hm13_1 hm14_0 hm14_1 hm15_0 hm15_1 hm42_0 hm42_1) (cwV 0 hts g_M_hasTimes_M_clocks rfl rfl rfl (by decide +kernel) ⟨Nat.le_of_ble_eq_true rfl, Nat.le_of_ble_eq_true rfl⟩) ⟨pu_bl, va_recv hK hP (ci := 9) (q0 := 0) rfl rfl, pu_in hP hK hD⟩ rfl rfl hl.1 rfl (lv_room (Nat.le_of_ble_eq_true rfl)) dX9_hasTimes_18 ⟨Nat.le_of_ble_eq_true rfl, Nat.le_of_ble_eq_true rfl⟩) hS (fun q _ h => pu_fr hS hA q h) (pu_fr hS hA) (fun r_4 u t H1 locs ht hvm hw hB hz1 hk1 hS => ?_)
    have hP := pu_keep hP hk1
    clear hk1 hz1 ht hvm
    generalize H1 = H at hP hS ⊢
    obtain ⟨u_5, hu_5, rfl⟩ := hw
    refine lv_icmp_ge (tgt := 149) hx hb dX9_hasTimes_21 (by decide) (fun c_6 => ?_) (fun c_6 => ?_)
    · refine lv_iinc (v := 0) (lv' := [(5, .int 0), (6, .int (-1)), (0, .ref (ad 0)), (1, .int (nI a0)), (2, .int p1), (3, .int p2), (4, .int p3)]) hx hb dX9_hasTimes_149 hl (k := 1) rfl (by decide) (by decide) rfl (fun ls hl => ?_)
      refine lv_goto (tgt := 3) hx hb dX9_hasTimes_152 (by decide) ?_
      refine pu_while (fun nn H locs ls => ∃ (g_12 : Nat) (g_13 : Int32), nn = 3 - g_12 ∧ g_12 ≤ 3 ∧ va_P (dC, dI) vwCl (mo_w ad ck x0 (nI x16) (nI x18) (nI x19) x20 (nI x21) (nI x22) x23 x24 x25 (nI x26) x27 (nI x28) (nI x29) (nI x30) (nI x33) x45 (nI x46) (nI x52) (nI x53) (nI x61) (nI x62) (nI x63) (nI x65) x66 f1 f2 f3 (bN 3 q4) (bN 7 q5) (bN 7 q6) (bN 4 q7) f8 (bN 2 q9) (bH q10) f11 (b2 m12_0 m12_1) (b2 m13_0 m13_1) (b2 m14_0 m14_1) (b2m m15_0 m15_1) f17 (bA 159 q31) f32 f34 f35 f36 f37 (bN 7 q38) f39 f40 f41 (b2 m42_0 m42_1) f43 f44 f47 f48 f49 f50 f51 (bN 13 q54) (bN 120 q55) (bN 120 q56) f57 (bN 120 q58) f59 f60 f64) H ∧ va_D (fun _ => True) (mo_w ad ck x0 (nI x16) (nI x18) (nI x19) x20 (nI x21) (nI x22) x23 x24 x25 (nI x26) x27 (nI x28) (nI x29) (nI x30) (nI x33) x45 (nI x46) (nI x52) (nI x53) (nI x61) (nI x62) (nI x63) (nI x65) x66 f1 f2 f3 (bN 3 q4) (bN 7 q5) (bN 7 q6) (bN 4 q7) f8 (bN 2 q9) (bH q10) f11 (b2 m12_0 m12_1) (b2 m13_0 m13_1) (b2 m14_0 m14_1) (b2m m15_0 m15_1) f17 (bA 159 q31) f32 f34 f35 f36 f37 (bN 7 q38) f39 f40 f41 (b2 m42_0 m42_1) f43 f44 f47 f48 f49 f50 f51 (bN 13 q54) (bN 120 q55) (bN 120 q56) f57 (bN 120 q58) f59 f60 f64) ∧ va_S (va_A [] s.heap.size) s.heap H locs ∧ lv_has ls 12 [(0, .ref (ad 0)), (1, .int (nI a0)), (2, .int p1), (3, .int p2), (4, .int p3), (5, .int (nI g_12)), (6, .int g_13)]) 3 ?_ _ _ _ _ ⟨0, (-1), rfl, (Nat.le_of_ble_eq_true rfl), hP, hD, hS, lv_sub hl [2, 3, 4, 5, 6, 0, 1] rfl⟩
      rintro nn ih_14 H locs ls ⟨g_12, g_13, rfl, hg_12, hP, hD, hS, hl⟩
      refine lv_iload hx hb dX9_hasTimes_3 (lv_at hl 5 rfl) ?_
      refine lv_aload_n hx hb dX9_hasTimes_5 rfl (lv_at hl 0 rfl) ?_
      refine va_calli (va_runV (As := []) (rest := [.int (nI g_12)]) ⟨hx, hb, hml, hown, hts⟩ (c_M_clocks l dC dI _ ad ck x0 x16 x18 x19 x20 x21 x22 x23 x24 x25 x26 x27 x28 x29 x30 x33 x45 x46 x52 x53 x61 x62 x63 x65 x66 f1 f2 f3 q4 q5 q6 q7 f8 q9 q10 f11 m12_0 m12_1 m13_0 m13_1 m14_0 m14_1 m15_0 m15_1 f17 q31 f32 f34 f35 f36 f37 q38 f39 f40 f41 m42_0 m42_1 f43 f44 f47 f48 f49 f50 f51 q54 q55 q56 f57 q58 f59 f60 f64 hx16 hx18 hx19 hx21 hx22 hx26 hx28 hx29 hx30 hx33 hx46 hx52 hx53 hx61 hx62 hx63 hx65 hm12_0 hm12_1 hm13_0 hm13_1 hm14_0 hm14_1 hm15_0 hm15_1 hm42_0 hm42_1) (cwV 0 hts g_M_hasTimes_M_clocks rfl rfl rfl (by decide +kernel) ⟨Nat.le_of_ble_eq_true rfl, Nat.le_of_ble_eq_true rfl⟩) ⟨pu_bl, va_recv hK hP (ci := 9) (q0 := 0) rfl rfl, pu_in hP hK hD⟩ rfl rfl hl.1 rfl (lv_room (Nat.le_of_ble_eq_true rfl)) dX9_hasTimes_6 ⟨Nat.le_of_ble_eq_true rfl, Nat.le_of_ble_eq_true rfl⟩) hS (fun q _ h => pu_fr hS hA q h) (pu_fr hS hA) (fun r_15 u t H1 locs ht hvm hw hB hz1 hk1 hS => ?_)
      have hP := pu_keep hP hk1
      clear hk1 hz1 ht hvm
      generalize H1 = H at hP hS ⊢
      obtain ⟨u_16, hu_16, rfl⟩ := hw
      refine lv_icmp_ge (tgt := 155) hx hb dX9_hasTimes_9 (by decide) (fun c_17 => ?_) (fun c_17 => ?_)
      · have c_17 : u_16 ≤ g_12 := (nI_leI (a := u_16) (b := g_12) (Nat.lt_of_le_of_lt hu_16 (Nat.le_of_ble_eq_true rfl)) (Nat.lt_of_le_of_lt hg_12 (Nat.le_of_ble_eq_true rfl))).mp c_17
        refine lv_iconst (v := 1) hx hb dX9_hasTimes_155 (by decide) ?_
        exact W.zret (v := 1) (ty := .boolean) hx hb hr (rfl) (fun t ht hW => ⟨⟨1, (), rfl, ⟨1, (Nat.le_of_ble_eq_true rfl), rfl⟩, trivial⟩, hS.F ht⟩) hS.2.2 dX9_hasTimes_156
      · have c_17 : ¬ u_16 ≤ g_12 := fun z => c_17 ((nI_leI (a := u_16) (b := g_12) (Nat.lt_of_le_of_lt hu_16 (Nat.le_of_ble_eq_true rfl)) (Nat.lt_of_le_of_lt hg_12 (Nat.le_of_ble_eq_true rfl))).mpr z)
        refine lv_iconst (v := (-1)) hx hb dX9_hasTimes_12 (by decide) ?_
        refine lv_istore (lv' := [(6, .int (-1)), (0, .ref (ad 0)), (1, .int (nI a0)), (2, .int p1), (3, .int p2), (4, .int p3), (5, .int (nI g_12))]) hx hb dX9_hasTimes_13 hl (by decide) rfl (fun ls hl => ?_)
        refine lv_iload hx hb dX9_hasTimes_15 (lv_at hl 0 rfl) ?_
        refine lv_aload_n hx hb dX9_hasTimes_17 rfl (lv_at hl 1 rfl) ?_
        refine va_calli (va_runV (As := []) (rest := [.int (-1)]) ⟨hx, hb, hml, hown, hts⟩ (c_M_clocks l dC dI _ ad ck x0 x16 x18 x19 x20 x21 x22 x23 x24 x25 x26 x27 x28 x29 x30 x33 x45 x46 x52 x53 x61 x62 x63 x65 x66 f1 f2 f3 q4 q5 q6 q7 f8 q9 q10 f11 m12_0 m12_1 m13_0 m13_1 m14_0 m14_1 m15_0 m15_1 f17 q31 f32 f34 f35 f36 f37 q38 f39 f40 f41 m42_0 m42_1 f43 f44 f47 f48 f49 f50 f51 q54 q55 q56 f57 q58 f59 f60 f64 hx16 hx18 hx19 hx21 hx22 hx26 hx28 hx29 hx30 hx33 hx46 hx52 hx53 hx61 hx62 hx63 hx65 hm12_0 hm12_1 hm13_0 hm13_1 hm14_0 hm14_1 hm15_0 hm15_1 hm42_0 hm42_1) (cwV 0 hts g_M_hasTimes_M_clocks rfl rfl rfl (by decide +kernel) ⟨Nat.le_of_ble_eq_true rfl, Nat.le_of_ble_eq_true rfl⟩) ⟨pu_bl, va_recv hK hP (ci := 9) (q0 := 0) rfl rfl, pu_in hP hK hD⟩ rfl rfl hl.1 rfl (lv_room (Nat.le_of_ble_eq_true rfl)) dX9_hasTimes_18 ⟨Nat.le_of_ble_eq_true rfl, Nat.le_of_ble_eq_true rfl⟩) hS (fun q _ h => pu_fr hS hA q h) (pu_fr hS hA) (fun r_18 u t H1 locs ht hvm hw hB hz1 hk1 hS => ?_)
        have hP := pu_keep hP hk1
        clear hk1 hz1 ht hvm
        generalize H1 = H at hP hS ⊢
        obtain ⟨u_19, hu_19, rfl⟩ := hw
        refine lv_icmp_ge (tgt := 149) hx hb dX9_hasTimes_21 (by decide) (fun c_20 => ?_) (fun c_20 => ?_)
        · refine lv_iinc (v := (nI (g_12 + 1))) (lv' := [(5, .int (nI (g_12 + 1))), (6, .int (-1)), (0, .ref (ad 0)), (1, .int (nI a0)), (2, .int p1), (3, .int p2), (4, .int p3)]) hx hb dX9_hasTimes_149 hl (k := 6) rfl (nI_1 _) (by decide) rfl (fun ls hl => ?_)
          refine lv_goto (tgt := 3) hx hb dX9_hasTimes_152 (by decide) ?_
          exact ih_14 (3 - (g_12 + 1)) (by omega) _ _ _ ⟨(g_12 + 1), (-1), rfl, (by omega), hP, hD, hS, lv_sub hl [2, 3, 4, 5, 6, 0, 1] rfl⟩
        · refine lv_iload hx hb dX9_hasTimes_24 (lv_at hl 6 rfl) ?_
          refine pu_join (fun H locs ls st => ∃ (g_21 : Int64), st = [.long g_21] ∧ va_P (dC, dI) vwCl (mo_w ad ck x0 (nI x16) (nI x18) (nI x19) x20 (nI x21) (nI x22) x23 x24 x25 (nI x26) x27 (nI x28) (nI x29) (nI x30) (nI x33) x45 (nI x46) (nI x52) (nI x53) (nI x61) (nI x62) (nI x63) (nI x65) x66 f1 f2 f3 (bN 3 q4) (bN 7 q5) (bN 7 q6) (bN 4 q7) f8 (bN 2 q9) (bH q10) f11 (b2 m12_0 m12_1) (b2 m13_0 m13_1) (b2 m14_0 m14_1) (b2m m15_0 m15_1) f17 (bA 159 q31) f32 f34 f35 f36 f37 (bN 7 q38) f39 f40 f41 (b2 m42_0 m42_1) f43 f44 f47 f48 f49 f50 f51 (bN 13 q54) (bN 120 q55) (bN 120 q56) f57 (bN 120 q58) f59 f60 f64) H ∧ va_D (fun _ => True) (mo_w ad ck x0 (nI x16) (nI x18) (nI x19) x20 (nI x21) (nI x22) x23 x24 x25 (nI x26) x27 (nI x28) (nI x29) (nI x30) (nI x33) x45 (nI x46) (nI x52) (nI x53) (nI x61) (nI x62) (nI x63) (nI x65) x66 f1 f2 f3 (bN 3 q4) (bN 7 q5) (bN 7 q6) (bN 4 q7) f8 (bN 2 q9) (bH q10) f11 (b2 m12_0 m12_1) (b2 m13_0 m13_1) (b2 m14_0 m14_1) (b2m m15_0 m15_1) f17 (bA 159 q31) f32 f34 f35 f36 f37 (bN 7 q38) f39 f40 f41 (b2 m42_0 m42_1) f43 f44 f47 f48 f49 f50 f51 (bN 13 q54) (bN 120 q55) (bN 120 q56) f57 (bN 120 q58) f59 f60 f64) ∧ va_S (va_A [] s.heap.size) s.heap H locs ∧ lv_has ls 12 [(0, .ref (ad 0)), (1, .int (nI a0)), (2, .int p1), (3, .int p2), (4, .int p3), (5, .int (nI g_12)), (6, .int (-1))]) 58 ?_ (fun j_22 => ?_)
          · rintro H locs ls st ⟨g_21, rfl, hP, hD, hS, hl⟩
            refine lv_lstore (lv' := [(7, .long g_21), (0, .ref (ad 0)), (1, .int (nI a0)), (2, .int p1), (3, .int p2), (4, .int p3), (5, .int (nI g_12)), (6, .int (-1))]) hx hb dX9_hasTimes_58 hl (by decide) rfl (fun ls hl => ?_)
            refine lv_iload hx hb dX9_hasTimes_60 (lv_at hl 7 rfl) ?_
            refine lv_if_ne (tgt := 70) hx hb dX9_hasTimes_62 (by decide) (fun _ => ?_) (fun z => absurd z (by decide))
            refine lv_iload hx hb dX9_hasTimes_70 (lv_at hl 7 rfl) ?_
            refine lv_iconst (v := 1) hx hb dX9_hasTimes_72 (by decide) ?_
            refine lv_icmp_ne (tgt := 81) hx hb dX9_hasTimes_73 (by decide) (fun _ => ?_) (fun z => absurd z (by decide))
            refine lv_iload hx hb dX9_hasTimes_81 (lv_at hl 7 rfl) ?_
            refine lv_iconst (v := 2) hx hb dX9_hasTimes_83 (by decide) ?_
            refine lv_icmp_ne (tgt := 93) hx hb dX9_hasTimes_84 (by decide) (fun _ => ?_) (fun z => absurd z (by decide))
            refine lv_lconst (v := (0 : Int64)) hx hb dX9_hasTimes_93 rfl ?_
            refine lv_lstore (lv' := [(9, .long (0 : Int64)), (7, .long g_21), (0, .ref (ad 0)), (1, .int (nI a0)), (2, .int p1), (3, .int p2), (4, .int p3), (5, .int (nI g_12)), (6, .int (-1))]) hx hb dX9_hasTimes_94 hl (by decide) rfl (fun ls hl => ?_)
            refine lv_aload_n hx hb dX9_hasTimes_96 rfl (lv_at hl 2 rfl) ?_
            refine lv_iload_n hx hb dX9_hasTimes_97 rfl (lv_at hl 3 rfl) ?_
            refine lv_iload hx hb dX9_hasTimes_98 (lv_at hl 7 rfl) ?_
            refine lv_iload hx hb dX9_hasTimes_100 (lv_at hl 8 rfl) ?_
            refine va_calli (va_runV (As := [.int (nI a0), .int (nI g_12), .int (-1)]) (rest := []) ⟨hx, hb, hml, hown, hts⟩ (c_M_boundOf_10 l dC dI _ ad ck x0 x16 x18 x19 x20 x21 x22 x23 x24 x25 x26 x27 x28 x29 x30 x33 x45 x46 x52 x53 x61 x62 x63 x65 x66 f1 f2 f3 q4 q5 q6 q7 f8 q9 q10 f11 m12_0 m12_1 m13_0 m13_1 m14_0 m14_1 m15_0 m15_1 f17 q31 f32 f34 f35 f36 f37 q38 f39 f40 f41 m42_0 m42_1 f43 f44 f47 f48 f49 f50 f51 q54 q55 q56 f57 q58 f59 f60 f64 a0 g_12 hx16 hx18 hx19 hx21 hx22 hx26 hx28 hx29 hx30 hx33 hx46 hx52 hx53 hx61 hx62 hx63 hx65 hm12_0 hm12_1 hm13_0 hm13_1 hm14_0 hm14_1 hm15_0 hm15_1 hm42_0 hm42_1 ha0 hg_12) (cwV 3 hts g_M_hasTimes_M_boundOf_10 rfl rfl rfl (by decide +kernel) ⟨Nat.le_of_ble_eq_true rfl, Nat.le_of_ble_eq_true rfl⟩) ⟨pu_bl, va_recv hK hP (ci := 9) (q0 := 0) rfl rfl, pu_in hP hK hD⟩ rfl rfl hl.1 rfl (lv_room (Nat.le_of_ble_eq_true rfl)) dX9_hasTimes_102 ⟨Nat.le_of_ble_eq_true rfl, Nat.le_of_ble_eq_true rfl⟩) hS (fun q _ h => pu_fr hS hA q h) (pu_fr hS hA) (fun r_23 u t H1 locs ht hvm hw hB hz1 hk1 hS => ?_)
            have hP := pu_keep hP hk1
            clear hk1 hz1 ht hvm
            generalize H1 = H at hP hS ⊢
            refine lv_istore (lv' := [(11, .int r_23), (9, .long (0 : Int64)), (7, .long g_21), (0, .ref (ad 0)), (1, .int (nI a0)), (2, .int p1), (3, .int p2), (4, .int p3), (5, .int (nI g_12)), (6, .int (-1))]) hx hb dX9_hasTimes_105 hl (by decide) rfl (fun ls hl => ?_)
            refine lv_iload hx hb dX9_hasTimes_107 (lv_at hl 0 rfl) ?_
            refine lv_ldcw hx hb hown v_10 dX9_hasTimes_109 ?_
            refine lv_icmp_ge (tgt := 143) hx hb dX9_hasTimes_112 (by decide) (fun c_24 => ?_) (fun c_24 => ?_)
            · refine lv_iinc (v := 0) (lv' := [(6, .int 0), (11, .int r_23), (9, .long (0 : Int64)), (7, .long g_21), (0, .ref (ad 0)), (1, .int (nI a0)), (2, .int p1), (3, .int p2), (4, .int p3), (5, .int (nI g_12))]) hx hb dX9_hasTimes_143 hl (k := 9) rfl (by decide) (by decide) rfl (fun ls hl => ?_)
              refine lv_goto (tgt := 15) hx hb dX9_hasTimes_146 (by decide) ?_
              refine pu_while (fun nn H locs ls => ∃ (g_29 : Int32) (g_30 : Nat) (g_31 : Int64) (g_32 : Int64), nn = 3 - g_30 ∧ g_30 ≤ 3 ∧ va_P (dC, dI) vwCl (mo_w ad ck x0 (nI x16) (nI x18) (nI x19) x20 (nI x21) (nI x22) x23 x24 x25 (nI x26) x27 (nI x28) (nI x29) (nI x30) (nI x33) x45 (nI x46) (nI x52) (nI x53) (nI x61) (nI x62) (nI x63) (nI x65) x66 f1 f2 f3 (bN 3 q4) (bN 7 q5) (bN 7 q6) (bN 4 q7) f8 (bN 2 q9) (bH q10) f11 (b2 m12_0 m12_1) (b2 m13_0 m13_1) (b2 m14_0 m14_1) (b2m m15_0 m15_1) f17 (bA 159 q31) f32 f34 f35 f36 f37 (bN 7 q38) f39 f40 f41 (b2 m42_0 m42_1) f43 f44 f47 f48 f49 f50 f51 (bN 13 q54) (bN 120 q55) (bN 120 q56) f57 (bN 120 q58) f59 f60 f64) H ∧ va_D (fun _ => True) (mo_w ad ck x0 (nI x16) (nI x18) (nI x19) x20 (nI x21) (nI x22) x23 x24 x25 (nI x26) x27 (nI x28) (nI x29) (nI x30) (nI x33) x45 (nI x46) (nI x52) (nI x53) (nI x61) (nI x62) (nI x63) (nI x65) x66 f1 f2 f3 (bN 3 q4) (bN 7 q5) (bN 7 q6) (bN 4 q7) f8 (bN 2 q9) (bH q10) f11 (b2 m12_0 m12_1) (b2 m13_0 m13_1) (b2 m14_0 m14_1) (b2m m15_0 m15_1) f17 (bA 159 q31) f32 f34 f35 f36 f37 (bN 7 q38) f39 f40 f41 (b2 m42_0 m42_1) f43 f44 f47 f48 f49 f50 f51 (bN 13 q54) (bN 120 q55) (bN 120 q56) f57 (bN 120 q58) f59 f60 f64) ∧ va_S (va_A [] s.heap.size) s.heap H locs ∧ lv_has ls 12 [(0, .ref (ad 0)), (1, .int (nI a0)), (2, .int p1), (3, .int p2), (4, .int p3), (5, .int (nI g_12)), (6, .int (nI g_30)), (7, .long g_31), (9, .long g_32), (11, .int g_29)]) 15 ?_ _ _ _ _ ⟨r_23, 0, g_21, (0 : Int64), rfl, (Nat.le_of_ble_eq_true rfl), hP, hD, hS, lv_sub hl [4, 5, 6, 7, 8, 9, 0, 3, 2, 1] rfl⟩
              rintro nn ih_33 H locs ls ⟨g_29, g_30, g_31, g_32, rfl, hg_30, hP, hD, hS, hl⟩
              refine lv_iload hx hb dX9_hasTimes_15 (lv_at hl 6 rfl) ?_
              refine lv_aload_n hx hb dX9_hasTimes_17 rfl (lv_at hl 0 rfl) ?_
              refine va_calli (va_runV (As := []) (rest := [.int (nI g_30)]) ⟨hx, hb, hml, hown, hts⟩ (c_M_clocks l dC dI _ ad ck x0 x16 x18 x19 x20 x21 x22 x23 x24 x25 x26 x27 x28 x29 x30 x33 x45 x46 x52 x53 x61 x62 x63 x65 x66 f1 f2 f3 q4 q5 q6 q7 f8 q9 q10 f11 m12_0 m12_1 m13_0 m13_1 m14_0 m14_1 m15_0 m15_1 f17 q31 f32 f34 f35 f36 f37 q38 f39 f40 f41 m42_0 m42_1 f43 f44 f47 f48 f49 f50 f51 q54 q55 q56 f57 q58 f59 f60 f64 hx16 hx18 hx19 hx21 hx22 hx26 hx28 hx29 hx30 hx33 hx46 hx52 hx53 hx61 hx62 hx63 hx65 hm12_0 hm12_1 hm13_0 hm13_1 hm14_0 hm14_1 hm15_0 hm15_1 hm42_0 hm42_1) (cwV 0 hts g_M_hasTimes_M_clocks rfl rfl rfl (by decide +kernel) ⟨Nat.le_of_ble_eq_true rfl, Nat.le_of_ble_eq_true rfl⟩) ⟨pu_bl, va_recv hK hP (ci := 9) (q0 := 0) rfl rfl, pu_in hP hK hD⟩ rfl rfl hl.1 rfl (lv_room (Nat.le_of_ble_eq_true rfl)) dX9_hasTimes_18 ⟨Nat.le_of_ble_eq_true rfl, Nat.le_of_ble_eq_true rfl⟩) hS (fun q _ h => pu_fr hS hA q h) (pu_fr hS hA) (fun r_34 u t H1 locs ht hvm hw hB hz1 hk1 hS => ?_)
              have hP := pu_keep hP hk1
              clear hk1 hz1 ht hvm
              generalize H1 = H at hP hS ⊢
              obtain ⟨u_35, hu_35, rfl⟩ := hw
              refine lv_icmp_ge (tgt := 149) hx hb dX9_hasTimes_21 (by decide) (fun c_36 => ?_) (fun c_36 => ?_)
              · have c_36 : u_35 ≤ g_30 := (nI_leI (a := u_35) (b := g_30) (Nat.lt_of_le_of_lt hu_35 (Nat.le_of_ble_eq_true rfl)) (Nat.lt_of_le_of_lt hg_30 (Nat.le_of_ble_eq_true rfl))).mp c_36
                refine lv_iinc (v := (nI (g_12 + 1))) (lv' := [(5, .int (nI (g_12 + 1))), (0, .ref (ad 0)), (1, .int (nI a0)), (2, .int p1), (3, .int p2), (4, .int p3), (6, .int (nI g_30)), (7, .long g_31), (9, .long g_32), (11, .int g_29)]) hx hb dX9_hasTimes_149 hl (k := 5) rfl (nI_1 _) (by decide) rfl (fun ls hl => ?_)
                refine lv_goto (tgt := 3) hx hb dX9_hasTimes_152 (by decide) ?_
                exact ih_14 (3 - (g_12 + 1)) (by omega) _ _ _ ⟨(g_12 + 1), (nI g_30), rfl, (by omega), hP, hD, hS, lv_sub hl [1, 2, 3, 4, 5, 0, 6] rfl⟩
              · have c_36 : ¬ u_35 ≤ g_30 := fun z => c_36 ((nI_leI (a := u_35) (b := g_30) (Nat.lt_of_le_of_lt hu_35 (Nat.le_of_ble_eq_true rfl)) (Nat.lt_of_le_of_lt hg_30 (Nat.le_of_ble_eq_true rfl))).mpr z)
                refine lv_iload hx hb dX9_hasTimes_24 (lv_at hl 5 rfl) ?_
                refine pu_join (fun H locs ls st => ∃ (g_37 : Int64), st = [.long g_37] ∧ va_P (dC, dI) vwCl (mo_w ad ck x0 (nI x16) (nI x18) (nI x19) x20 (nI x21) (nI x22) x23 x24 x25 (nI x26) x27 (nI x28) (nI x29) (nI x30) (nI x33) x45 (nI x46) (nI x52) (nI x53) (nI x61) (nI x62) (nI x63) (nI x65) x66 f1 f2 f3 (bN 3 q4) (bN 7 q5) (bN 7 q6) (bN 4 q7) f8 (bN 2 q9) (bH q10) f11 (b2 m12_0 m12_1) (b2 m13_0 m13_1) (b2 m14_0 m14_1) (b2m m15_0 m15_1) f17 (bA 159 q31) f32 f34 f35 f36 f37 (bN 7 q38) f39 f40 f41 (b2 m42_0 m42_1) f43 f44 f47 f48 f49 f50 f51 (bN 13 q54) (bN 120 q55) (bN 120 q56) f57 (bN 120 q58) f59 f60 f64) H ∧ va_D (fun _ => True) (mo_w ad ck x0 (nI x16) (nI x18) (nI x19) x20 (nI x21) (nI x22) x23 x24 x25 (nI x26) x27 (nI x28) (nI x29) (nI x30) (nI x33) x45 (nI x46) (nI x52) (nI x53) (nI x61) (nI x62) (nI x63) (nI x65) x66 f1 f2 f3 (bN 3 q4) (bN 7 q5) (bN 7 q6) (bN 4 q7) f8 (bN 2 q9) (bH q10) f11 (b2 m12_0 m12_1) (b2 m13_0 m13_1) (b2 m14_0 m14_1) (b2m m15_0 m15_1) f17 (bA 159 q31) f32 f34 f35 f36 f37 (bN 7 q38) f39 f40 f41 (b2 m42_0 m42_1) f43 f44 f47 f48 f49 f50 f51 (bN 13 q54) (bN 120 q55) (bN 120 q56) f57 (bN 120 q58) f59 f60 f64) ∧ va_S (va_A [] s.heap.size) s.heap H locs ∧ lv_has ls 12 [(0, .ref (ad 0)), (1, .int (nI a0)), (2, .int p1), (3, .int p2), (4, .int p3), (5, .int (nI g_12)), (6, .int (nI g_30)), (7, .long g_31), (9, .long g_32), (11, .int g_29)]) 58 ?_ (fun j_38 => ?_)
                · rintro H locs ls st ⟨g_37, rfl, hP, hD, hS, hl⟩
                  refine lv_lstore (lv' := [(7, .long g_37), (0, .ref (ad 0)), (1, .int (nI a0)), (2, .int p1), (3, .int p2), (4, .int p3), (5, .int (nI g_12)), (6, .int (nI g_30)), (9, .long g_32), (11, .int g_29)]) hx hb dX9_hasTimes_58 hl (by decide) rfl (fun ls hl => ?_)
                  refine lv_iload hx hb dX9_hasTimes_60 (lv_at hl 7 rfl) ?_
                  refine pu_join (fun H locs ls st => ∃ (g_39 : Int64), st = [.long g_39] ∧ va_P (dC, dI) vwCl (mo_w ad ck x0 (nI x16) (nI x18) (nI x19) x20 (nI x21) (nI x22) x23 x24 x25 (nI x26) x27 (nI x28) (nI x29) (nI x30) (nI x33) x45 (nI x46) (nI x52) (nI x53) (nI x61) (nI x62) (nI x63) (nI x65) x66 f1 f2 f3 (bN 3 q4) (bN 7 q5) (bN 7 q6) (bN 4 q7) f8 (bN 2 q9) (bH q10) f11 (b2 m12_0 m12_1) (b2 m13_0 m13_1) (b2 m14_0 m14_1) (b2m m15_0 m15_1) f17 (bA 159 q31) f32 f34 f35 f36 f37 (bN 7 q38) f39 f40 f41 (b2 m42_0 m42_1) f43 f44 f47 f48 f49 f50 f51 (bN 13 q54) (bN 120 q55) (bN 120 q56) f57 (bN 120 q58) f59 f60 f64) H ∧ va_D (fun _ => True) (mo_w ad ck x0 (nI x16) (nI x18) (nI x19) x20 (nI x21) (nI x22) x23 x24 x25 (nI x26) x27 (nI x28) (nI x29) (nI x30) (nI x33) x45 (nI x46) (nI x52) (nI x53) (nI x61) (nI x62) (nI x63) (nI x65) x66 f1 f2 f3 (bN 3 q4) (bN 7 q5) (bN 7 q6) (bN 4 q7) f8 (bN 2 q9) (bH q10) f11 (b2 m12_0 m12_1) (b2 m13_0 m13_1) (b2 m14_0 m14_1) (b2m m15_0 m15_1) f17 (bA 159 q31) f32 f34 f35 f36 f37 (bN 7 q38) f39 f40 f41 (b2 m42_0 m42_1) f43 f44 f47 f48 f49 f50 f51 (bN 13 q54) (bN 120 q55) (bN 120 q56) f57 (bN 120 q58) f59 f60 f64) ∧ va_S (va_A [] s.heap.size) s.heap H locs ∧ lv_has ls 12 [(0, .ref (ad 0)), (1, .int (nI a0)), (2, .int p1), (3, .int p2), (4, .int p3), (5, .int (nI g_12)), (6, .int (nI g_30)), (7, .long g_37), (9, .long g_32), (11, .int g_29)]) 94 ?_ (fun j_40 => ?_)
                  · rintro H locs ls st ⟨g_39, rfl, hP, hD, hS, hl⟩
                    refine lv_lstore (lv' := [(9, .long g_39), (0, .ref (ad 0)), (1, .int (nI a0)), (2, .int p1), (3, .int p2), (4, .int p3), (5, .int (nI g_12)), (6, .int (nI g_30)), (7, .long g_37), (11, .int g_29)]) hx hb dX9_hasTimes_94 hl (by decide) rfl (fun ls hl => ?_)
                    refine lv_aload_n hx hb dX9_hasTimes_96 rfl (lv_at hl 1 rfl) ?_
                    refine lv_iload_n hx hb dX9_hasTimes_97 rfl (lv_at hl 2 rfl) ?_
                    refine lv_iload hx hb dX9_hasTimes_98 (lv_at hl 6 rfl) ?_
                    refine lv_iload hx hb dX9_hasTimes_100 (lv_at hl 7 rfl) ?_
                    refine va_calli (va_runV (As := [.int (nI a0), .int (nI g_12), .int (nI g_30)]) (rest := []) ⟨hx, hb, hml, hown, hts⟩ (c_M_boundOf_11 l dC dI _ ad ck x0 x16 x18 x19 x20 x21 x22 x23 x24 x25 x26 x27 x28 x29 x30 x33 x45 x46 x52 x53 x61 x62 x63 x65 x66 f1 f2 f3 q4 q5 q6 q7 f8 q9 q10 f11 m12_0 m12_1 m13_0 m13_1 m14_0 m14_1 m15_0 m15_1 f17 q31 f32 f34 f35 f36 f37 q38 f39 f40 f41 m42_0 m42_1 f43 f44 f47 f48 f49 f50 f51 q54 q55 q56 f57 q58 f59 f60 f64 a0 g_12 g_30 hx16 hx18 hx19 hx21 hx22 hx26 hx28 hx29 hx30 hx33 hx46 hx52 hx53 hx61 hx62 hx63 hx65 hm12_0 hm12_1 hm13_0 hm13_1 hm14_0 hm14_1 hm15_0 hm15_1 hm42_0 hm42_1 ha0 hg_12 hg_30) (cwV 3 hts g_M_hasTimes_M_boundOf_11 rfl rfl rfl (by decide +kernel) ⟨Nat.le_of_ble_eq_true rfl, Nat.le_of_ble_eq_true rfl⟩) ⟨pu_bl, va_recv hK hP (ci := 9) (q0 := 0) rfl rfl, pu_in hP hK hD⟩ rfl rfl hl.1 rfl (lv_room (Nat.le_of_ble_eq_true rfl)) dX9_hasTimes_102 ⟨Nat.le_of_ble_eq_true rfl, Nat.le_of_ble_eq_true rfl⟩) hS (fun q _ h => pu_fr hS hA q h) (pu_fr hS hA) (fun r_41 u t H1 locs ht hvm hw hB hz1 hk1 hS => ?_)
                    have hP := pu_keep hP hk1
                    clear hk1 hz1 ht hvm
                    generalize H1 = H at hP hS ⊢
                    refine lv_istore (lv' := [(11, .int r_41), (9, .long g_39), (0, .ref (ad 0)), (1, .int (nI a0)), (2, .int p1), (3, .int p2), (4, .int p3), (5, .int (nI g_12)), (6, .int (nI g_30)), (7, .long g_37)]) hx hb dX9_hasTimes_105 hl (by decide) rfl (fun ls hl => ?_)
                    refine lv_iload hx hb dX9_hasTimes_107 (lv_at hl 0 rfl) ?_
                    refine lv_ldcw hx hb hown v_10 dX9_hasTimes_109 ?_
                    refine lv_icmp_ge (tgt := 143) hx hb dX9_hasTimes_112 (by decide) (fun c_42 => ?_) (fun c_42 => ?_)
                    · refine lv_iinc (v := (nI (g_30 + 1))) (lv' := [(6, .int (nI (g_30 + 1))), (11, .int r_41), (9, .long g_39), (0, .ref (ad 0)), (1, .int (nI a0)), (2, .int p1), (3, .int p2), (4, .int p3), (5, .int (nI g_12)), (7, .long g_37)]) hx hb dX9_hasTimes_143 hl (k := 8) rfl (nI_1 _) (by decide) rfl (fun ls hl => ?_)
                      refine lv_goto (tgt := 15) hx hb dX9_hasTimes_146 (by decide) ?_
                      exact ih_33 (3 - (g_30 + 1)) (by omega) _ _ _ ⟨r_41, (g_30 + 1), g_37, g_39, rfl, (by omega), hP, hD, hS, lv_sub hl [3, 4, 5, 6, 7, 8, 0, 9, 2, 1] rfl⟩
                    · refine lv_lload hx hb dX9_hasTimes_115 (lv_at hl 9 rfl) ?_
                      refine lv_lload hx hb dX9_hasTimes_117 (lv_at hl 1 rfl) ?_
                      refine lv_lsub hx hb dX9_hasTimes_119 ?_
                      refine lv_topl (fun y_43 ey_43 => ?_)
                      refine lv_iload hx hb dX9_hasTimes_120 (lv_at hl 0 rfl) ?_
                      refine lv_iconst (v := 1) hx hb dX9_hasTimes_122 (by decide) ?_
                      refine lv_ishr hx hb dX9_hasTimes_123 ?_
                      refine lv_topi (fun y_44 ey_44 => ?_)
                      refine lv_i2l (v := y_44.toInt64) hx hb dX9_hasTimes_124 rfl ?_
                      refine lv_topl (fun y_45 ey_45 => ?_)
                      refine lv_ldc2 (v := (256)) hx hb hown v_11 dX9_hasTimes_125 ?_
                      refine lv_lmul hx hb dX9_hasTimes_128 ?_
                      refine lv_topl (fun y_46 ey_46 => ?_)
                      refine lv_lconst (v := (1 : Int64)) hx hb dX9_hasTimes_129 rfl ?_
                      refine lv_lsub hx hb dX9_hasTimes_130 ?_
                      refine lv_topl (fun y_47 ey_47 => ?_)
                      refine lv_iload hx hb dX9_hasTimes_131 (lv_at hl 0 rfl) ?_
                      refine lv_iconst (v := 1) hx hb dX9_hasTimes_133 (by decide) ?_
                      refine lv_iand hx hb dX9_hasTimes_134 ?_
                      refine lv_topi (fun y_48 ey_48 => ?_)
                      refine lv_i2l (v := y_48.toInt64) hx hb dX9_hasTimes_135 rfl ?_
                      refine lv_topl (fun y_49 ey_49 => ?_)
                      refine lv_ladd hx hb dX9_hasTimes_136 ?_
                      refine lv_topl (fun y_50 ey_50 => ?_)
                      refine W.lcmp hx hb dX9_hasTimes_137 ?_
                      refine lv_topi (fun y_51 ey_51 => ?_)
                      refine lv_if_le (tgt := 143) hx hb dX9_hasTimes_138 (by decide) (fun c_52 => ?_) (fun c_52 => ?_)
                      · refine lv_iinc (v := (nI (g_30 + 1))) (lv' := [(6, .int (nI (g_30 + 1))), (11, .int r_41), (9, .long g_39), (0, .ref (ad 0)), (1, .int (nI a0)), (2, .int p1), (3, .int p2), (4, .int p3), (5, .int (nI g_12)), (7, .long g_37)]) hx hb dX9_hasTimes_143 hl (k := 8) rfl (nI_1 _) (by decide) rfl (fun ls hl => ?_)
                        refine lv_goto (tgt := 15) hx hb dX9_hasTimes_146 (by decide) ?_
                        exact ih_33 (3 - (g_30 + 1)) (by omega) _ _ _ ⟨r_41, (g_30 + 1), g_37, g_39, rfl, (by omega), hP, hD, hS, lv_sub hl [3, 4, 5, 6, 7, 8, 0, 9, 2, 1] rfl⟩
                      · refine lv_iconst (v := 0) hx hb dX9_hasTimes_141 (by decide) ?_
                        exact W.zret (v := 0) (ty := .boolean) hx hb hr (rfl) (fun t ht hW => ⟨⟨0, (), rfl, ⟨0, (Nat.le_of_ble_eq_true rfl), rfl⟩, trivial⟩, hS.F ht⟩) hS.2.2 dX9_hasTimes_142
                  refine lv_if_ne (tgt := 70) hx hb dX9_hasTimes_62 (by decide) (fun c_53 => ?_) (fun c_53 => ?_)
                  · have c_53 : ¬ g_30 = 0 := fun z => c_53 ((nI_eq (a := g_30) (b := 0) (Nat.lt_of_le_of_lt hg_30 (Nat.le_of_ble_eq_true rfl)) (Nat.le_of_ble_eq_true rfl)).mpr z)
                    refine lv_iload hx hb dX9_hasTimes_70 (lv_at hl 7 rfl) ?_
                    refine lv_iconst (v := 1) hx hb dX9_hasTimes_72 (by decide) ?_
                    refine lv_icmp_ne (tgt := 81) hx hb dX9_hasTimes_73 (by decide) (fun c_54 => ?_) (fun c_54 => ?_)
                    · have c_54 : ¬ g_30 = 1 := fun z => c_54 ((nI_eq (a := g_30) (b := 1) (Nat.lt_of_le_of_lt hg_30 (Nat.le_of_ble_eq_true rfl)) (Nat.le_of_ble_eq_true rfl)).mpr z)
                      refine lv_iload hx hb dX9_hasTimes_81 (lv_at hl 7 rfl) ?_
                      refine lv_iconst (v := 2) hx hb dX9_hasTimes_83 (by decide) ?_
                      refine lv_icmp_ne (tgt := 93) hx hb dX9_hasTimes_84 (by decide) (fun c_55 => ?_) (fun c_55 => ?_)
                      · have c_55 : ¬ g_30 = 2 := fun z => c_55 ((nI_eq (a := g_30) (b := 2) (Nat.lt_of_le_of_lt hg_30 (Nat.le_of_ble_eq_true rfl)) (Nat.le_of_ble_eq_true rfl)).mpr z)
                        exfalso
                        omega
                      · have c_55 : g_30 = 2 := (nI_eq (a := g_30) (b := 2) (Nat.lt_of_le_of_lt hg_30 (Nat.le_of_ble_eq_true rfl)) (Nat.le_of_ble_eq_true rfl)).mp c_55
                        refine lv_iload hx hb dX9_hasTimes_87 (lv_at hl 5 rfl) ?_
                        refine lv_i2l (v := p3.toInt64) hx hb dX9_hasTimes_89 rfl ?_
                        refine lv_topl (fun y_56 ey_56 => ?_)
                        refine lv_goto (tgt := 94) hx hb dX9_hasTimes_90 (by decide) ?_
                        exact j_40 _ _ _ _ ⟨y_56, rfl, hP, hD, hS, lv_sub hl [1, 2, 3, 4, 5, 6, 7, 0, 8, 9] rfl⟩
                    · have c_54 : g_30 = 1 := (nI_eq (a := g_30) (b := 1) (Nat.lt_of_le_of_lt hg_30 (Nat.le_of_ble_eq_true rfl)) (Nat.le_of_ble_eq_true rfl)).mp c_54
                      refine lv_iload_n hx hb dX9_hasTimes_76 rfl (lv_at hl 4 rfl) ?_
                      refine lv_i2l (v := p2.toInt64) hx hb dX9_hasTimes_77 rfl ?_
                      refine lv_topl (fun y_57 ey_57 => ?_)
                      refine lv_goto (tgt := 94) hx hb dX9_hasTimes_78 (by decide) ?_
                      exact j_40 _ _ _ _ ⟨y_57, rfl, hP, hD, hS, lv_sub hl [1, 2, 3, 4, 5, 6, 7, 0, 8, 9] rfl⟩
                  · have c_53 : g_30 = 0 := (nI_eq (a := g_30) (b := 0) (Nat.lt_of_le_of_lt hg_30 (Nat.le_of_ble_eq_true rfl)) (Nat.le_of_ble_eq_true rfl)).mp c_53
                    refine lv_iload_n hx hb dX9_hasTimes_65 rfl (lv_at hl 3 rfl) ?_
                    refine lv_i2l (v := p1.toInt64) hx hb dX9_hasTimes_66 rfl ?_
                    refine lv_topl (fun y_58 ey_58 => ?_)
                    refine lv_goto (tgt := 94) hx hb dX9_hasTimes_67 (by decide) ?_
                    exact j_40 _ _ _ _ ⟨y_58, rfl, hP, hD, hS, lv_sub hl [1, 2, 3, 4, 5, 6, 7, 0, 8, 9] rfl⟩
                refine lv_if_ne (tgt := 34) hx hb dX9_hasTimes_26 (by decide) (fun c_59 => ?_) (fun c_59 => ?_)
                · have c_59 : ¬ g_12 = 0 := fun z => c_59 ((nI_eq (a := g_12) (b := 0) (Nat.lt_of_le_of_lt hg_12 (Nat.le_of_ble_eq_true rfl)) (Nat.le_of_ble_eq_true rfl)).mpr z)
                  refine lv_iload hx hb dX9_hasTimes_34 (lv_at hl 5 rfl) ?_
                  refine lv_iconst (v := 1) hx hb dX9_hasTimes_36 (by decide) ?_
                  refine lv_icmp_ne (tgt := 45) hx hb dX9_hasTimes_37 (by decide) (fun c_60 => ?_) (fun c_60 => ?_)
                  · have c_60 : ¬ g_12 = 1 := fun z => c_60 ((nI_eq (a := g_12) (b := 1) (Nat.lt_of_le_of_lt hg_12 (Nat.le_of_ble_eq_true rfl)) (Nat.le_of_ble_eq_true rfl)).mpr z)
                    refine lv_iload hx hb dX9_hasTimes_45 (lv_at hl 5 rfl) ?_
                    refine lv_iconst (v := 2) hx hb dX9_hasTimes_47 (by decide) ?_
                    refine lv_icmp_ne (tgt := 57) hx hb dX9_hasTimes_48 (by decide) (fun c_61 => ?_) (fun c_61 => ?_)
                    · have c_61 : ¬ g_12 = 2 := fun z => c_61 ((nI_eq (a := g_12) (b := 2) (Nat.lt_of_le_of_lt hg_12 (Nat.le_of_ble_eq_true rfl)) (Nat.le_of_ble_eq_true rfl)).mpr z)
                      exfalso
                      omega
                    · have c_61 : g_12 = 2 := (nI_eq (a := g_12) (b := 2) (Nat.lt_of_le_of_lt hg_12 (Nat.le_of_ble_eq_true rfl)) (Nat.le_of_ble_eq_true rfl)).mp c_61
                      refine lv_iload hx hb dX9_hasTimes_51 (lv_at hl 4 rfl) ?_
                      refine lv_i2l (v := p3.toInt64) hx hb dX9_hasTimes_53 rfl ?_
                      refine lv_topl (fun y_62 ey_62 => ?_)
                      refine lv_goto (tgt := 58) hx hb dX9_hasTimes_54 (by decide) ?_
                      exact j_38 _ _ _ _ ⟨y_62, rfl, hP, hD, hS, lv_sub hl [0, 1, 2, 3, 4, 5, 6, 7, 8, 9] rfl⟩
                  · have c_60 : g_12 = 1 := (nI_eq (a := g_12) (b := 1) (Nat.lt_of_le_of_lt hg_12 (Nat.le_of_ble_eq_true rfl)) (Nat.le_of_ble_eq_true rfl)).mp c_60
                    refine lv_iload_n hx hb dX9_hasTimes_40 rfl (lv_at hl 3 rfl) ?_
                    refine lv_i2l (v := p2.toInt64) hx hb dX9_hasTimes_41 rfl ?_
                    refine lv_topl (fun y_63 ey_63 => ?_)
                    refine lv_goto (tgt := 58) hx hb dX9_hasTimes_42 (by decide) ?_
                    exact j_38 _ _ _ _ ⟨y_63, rfl, hP, hD, hS, lv_sub hl [0, 1, 2, 3, 4, 5, 6, 7, 8, 9] rfl⟩
                · have c_59 : g_12 = 0 := (nI_eq (a := g_12) (b := 0) (Nat.lt_of_le_of_lt hg_12 (Nat.le_of_ble_eq_true rfl)) (Nat.le_of_ble_eq_true rfl)).mp c_59
                  refine lv_iload_n hx hb dX9_hasTimes_29 rfl (lv_at hl 2 rfl) ?_
                  refine lv_i2l (v := p1.toInt64) hx hb dX9_hasTimes_30 rfl ?_
                  refine lv_topl (fun y_64 ey_64 => ?_)
                  refine lv_goto (tgt := 58) hx hb dX9_hasTimes_31 (by decide) ?_
                  exact j_38 _ _ _ _ ⟨y_64, rfl, hP, hD, hS, lv_sub hl [0, 1, 2, 3, 4, 5, 6, 7, 8, 9] rfl⟩
            · refine lv_lload hx hb dX9_hasTimes_115 (lv_at hl 2 rfl) ?_
              refine lv_lload hx hb dX9_hasTimes_117 (lv_at hl 1 rfl) ?_
              refine lv_lsub hx hb dX9_hasTimes_119 ?_
              refine lv_topl (fun y_65 ey_65 => ?_)
              refine lv_iload hx hb dX9_hasTimes_120 (lv_at hl 0 rfl) ?_
              refine lv_iconst (v := 1) hx hb dX9_hasTimes_122 (by decide) ?_
              refine lv_ishr hx hb dX9_hasTimes_123 ?_
              refine lv_topi (fun y_66 ey_66 => ?_)
              refine lv_i2l (v := y_66.toInt64) hx hb dX9_hasTimes_124 rfl ?_
              refine lv_topl (fun y_67 ey_67 => ?_)
              refine lv_ldc2 (v := (256)) hx hb hown v_11 dX9_hasTimes_125 ?_
              refine lv_lmul hx hb dX9_hasTimes_128 ?_
              refine lv_topl (fun y_68 ey_68 => ?_)
              refine lv_lconst (v := (1 : Int64)) hx hb dX9_hasTimes_129 rfl ?_
              refine lv_lsub hx hb dX9_hasTimes_130 ?_
              refine lv_topl (fun y_69 ey_69 => ?_)
              refine lv_iload hx hb dX9_hasTimes_131 (lv_at hl 0 rfl) ?_
              refine lv_iconst (v := 1) hx hb dX9_hasTimes_133 (by decide) ?_
              refine lv_iand hx hb dX9_hasTimes_134 ?_
              refine lv_topi (fun y_70 ey_70 => ?_)
              refine lv_i2l (v := y_70.toInt64) hx hb dX9_hasTimes_135 rfl ?_
              refine lv_topl (fun y_71 ey_71 => ?_)
              refine lv_ladd hx hb dX9_hasTimes_136 ?_
              refine lv_topl (fun y_72 ey_72 => ?_)
              refine W.lcmp hx hb dX9_hasTimes_137 ?_
              refine lv_topi (fun y_73 ey_73 => ?_)
              refine lv_if_le (tgt := 143) hx hb dX9_hasTimes_138 (by decide) (fun c_74 => ?_) (fun c_74 => ?_)
              · refine lv_iinc (v := 0) (lv' := [(6, .int 0), (11, .int r_23), (9, .long (0 : Int64)), (7, .long g_21), (0, .ref (ad 0)), (1, .int (nI a0)), (2, .int p1), (3, .int p2), (4, .int p3), (5, .int (nI g_12))]) hx hb dX9_hasTimes_143 hl (k := 9) rfl (by decide) (by decide) rfl (fun ls hl => ?_)
                refine lv_goto (tgt := 15) hx hb dX9_hasTimes_146 (by decide) ?_
                refine pu_while (fun nn H locs ls => ∃ (g_79 : Int32) (g_80 : Nat) (g_81 : Int64) (g_82 : Int64), nn = 3 - g_80 ∧ g_80 ≤ 3 ∧ va_P (dC, dI) vwCl (mo_w ad ck x0 (nI x16) (nI x18) (nI x19) x20 (nI x21) (nI x22) x23 x24 x25 (nI x26) x27 (nI x28) (nI x29) (nI x30) (nI x33) x45 (nI x46) (nI x52) (nI x53) (nI x61) (nI x62) (nI x63) (nI x65) x66 f1 f2 f3 (bN 3 q4) (bN 7 q5) (bN 7 q6) (bN 4 q7) f8 (bN 2 q9) (bH q10) f11 (b2 m12_0 m12_1) (b2 m13_0 m13_1) (b2 m14_0 m14_1) (b2m m15_0 m15_1) f17 (bA 159 q31) f32 f34 f35 f36 f37 (bN 7 q38) f39 f40 f41 (b2 m42_0 m42_1) f43 f44 f47 f48 f49 f50 f51 (bN 13 q54) (bN 120 q55) (bN 120 q56) f57 (bN 120 q58) f59 f60 f64) H ∧ va_D (fun _ => True) (mo_w ad ck x0 (nI x16) (nI x18) (nI x19) x20 (nI x21) (nI x22) x23 x24 x25 (nI x26) x27 (nI x28) (nI x29) (nI x30) (nI x33) x45 (nI x46) (nI x52) (nI x53) (nI x61) (nI x62) (nI x63) (nI x65) x66 f1 f2 f3 (bN 3 q4) (bN 7 q5) (bN 7 q6) (bN 4 q7) f8 (bN 2 q9) (bH q10) f11 (b2 m12_0 m12_1) (b2 m13_0 m13_1) (b2 m14_0 m14_1) (b2m m15_0 m15_1) f17 (bA 159 q31) f32 f34 f35 f36 f37 (bN 7 q38) f39 f40 f41 (b2 m42_0 m42_1) f43 f44 f47 f48 f49 f50 f51 (bN 13 q54) (bN 120 q55) (bN 120 q56) f57 (bN 120 q58) f59 f60 f64) ∧ va_S (va_A [] s.heap.size) s.heap H locs ∧ lv_has ls 12 [(0, .ref (ad 0)), (1, .int (nI a0)), (2, .int p1), (3, .int p2), (4, .int p3), (5, .int (nI g_12)), (6, .int (nI g_80)), (7, .long g_81), (9, .long g_82), (11, .int g_79)]) 15 ?_ _ _ _ _ ⟨r_23, 0, g_21, (0 : Int64), rfl, (Nat.le_of_ble_eq_true rfl), hP, hD, hS, lv_sub hl [4, 5, 6, 7, 8, 9, 0, 3, 2, 1] rfl⟩
                rintro nn ih_83 H locs ls ⟨g_79, g_80, g_81, g_82, rfl, hg_80, hP, hD, hS, hl⟩
                refine lv_iload hx hb dX9_hasTimes_15 (lv_at hl 6 rfl) ?_
                refine lv_aload_n hx hb dX9_hasTimes_17 rfl (lv_at hl 0 rfl) ?_
                refine va_calli (va_runV (As := []) (rest := [.int (nI g_80)]) ⟨hx, hb, hml, hown, hts⟩ (c_M_clocks l dC dI _ ad ck x0 x16 x18 x19 x20 x21 x22 x23 x24 x25 x26 x27 x28 x29 x30 x33 x45 x46 x52 x53 x61 x62 x63 x65 x66 f1 f2 f3 q4 q5 q6 q7 f8 q9 q10 f11 m12_0 m12_1 m13_0 m13_1 m14_0 m14_1 m15_0 m15_1 f17 q31 f32 f34 f35 f36 f37 q38 f39 f40 f41 m42_0 m42_1 f43 f44 f47 f48 f49 f50 f51 q54 q55 q56 f57 q58 f59 f60 f64 hx16 hx18 hx19 hx21 hx22 hx26 hx28 hx29 hx30 hx33 hx46 hx52 hx53 hx61 hx62 hx63 hx65 hm12_0 hm12_1 hm13_0 hm13_1 hm14_0 hm14_1 hm15_0 hm15_1 hm42_0 hm42_1) (cwV 0 hts g_M_hasTimes_M_clocks rfl rfl rfl (by decide +kernel) ⟨Nat.le_of_ble_eq_true rfl, Nat.le_of_ble_eq_true rfl⟩) ⟨pu_bl, va_recv hK hP (ci := 9) (q0 := 0) rfl rfl, pu_in hP hK hD⟩ rfl rfl hl.1 rfl (lv_room (Nat.le_of_ble_eq_true rfl)) dX9_hasTimes_18 ⟨Nat.le_of_ble_eq_true rfl, Nat.le_of_ble_eq_true rfl⟩) hS (fun q _ h => pu_fr hS hA q h) (pu_fr hS hA) (fun r_84 u t H1 locs ht hvm hw hB hz1 hk1 hS => ?_)
                have hP := pu_keep hP hk1
                clear hk1 hz1 ht hvm
                generalize H1 = H at hP hS ⊢
                obtain ⟨u_85, hu_85, rfl⟩ := hw
                refine lv_icmp_ge (tgt := 149) hx hb dX9_hasTimes_21 (by decide) (fun c_86 => ?_) (fun c_86 => ?_)
                · have c_86 : u_85 ≤ g_80 := (nI_leI (a := u_85) (b := g_80) (Nat.lt_of_le_of_lt hu_85 (Nat.le_of_ble_eq_true rfl)) (Nat.lt_of_le_of_lt hg_80 (Nat.le_of_ble_eq_true rfl))).mp c_86
                  refine lv_iinc (v := (nI (g_12 + 1))) (lv' := [(5, .int (nI (g_12 + 1))), (0, .ref (ad 0)), (1, .int (nI a0)), (2, .int p1), (3, .int p2), (4, .int p3), (6, .int (nI g_80)), (7, .long g_81), (9, .long g_82), (11, .int g_79)]) hx hb dX9_hasTimes_149 hl (k := 5) rfl (nI_1 _) (by decide) rfl (fun ls hl => ?_)
                  refine lv_goto (tgt := 3) hx hb dX9_hasTimes_152 (by decide) ?_
                  exact ih_14 (3 - (g_12 + 1)) (by omega) _ _ _ ⟨(g_12 + 1), (nI g_80), rfl, (by omega), hP, hD, hS, lv_sub hl [1, 2, 3, 4, 5, 0, 6] rfl⟩
                · have c_86 : ¬ u_85 ≤ g_80 := fun z => c_86 ((nI_leI (a := u_85) (b := g_80) (Nat.lt_of_le_of_lt hu_85 (Nat.le_of_ble_eq_true rfl)) (Nat.lt_of_le_of_lt hg_80 (Nat.le_of_ble_eq_true rfl))).mpr z)
                  refine lv_iload hx hb dX9_hasTimes_24 (lv_at hl 5 rfl) ?_
                  refine pu_join (fun H locs ls st => ∃ (g_87 : Int64), st = [.long g_87] ∧ va_P (dC, dI) vwCl (mo_w ad ck x0 (nI x16) (nI x18) (nI x19) x20 (nI x21) (nI x22) x23 x24 x25 (nI x26) x27 (nI x28) (nI x29) (nI x30) (nI x33) x45 (nI x46) (nI x52) (nI x53) (nI x61) (nI x62) (nI x63) (nI x65) x66 f1 f2 f3 (bN 3 q4) (bN 7 q5) (bN 7 q6) (bN 4 q7) f8 (bN 2 q9) (bH q10) f11 (b2 m12_0 m12_1) (b2 m13_0 m13_1) (b2 m14_0 m14_1) (b2m m15_0 m15_1) f17 (bA 159 q31) f32 f34 f35 f36 f37 (bN 7 q38) f39 f40 f41 (b2 m42_0 m42_1) f43 f44 f47 f48 f49 f50 f51 (bN 13 q54) (bN 120 q55) (bN 120 q56) f57 (bN 120 q58) f59 f60 f64) H ∧ va_D (fun _ => True) (mo_w ad ck x0 (nI x16) (nI x18) (nI x19) x20 (nI x21) (nI x22) x23 x24 x25 (nI x26) x27 (nI x28) (nI x29) (nI x30) (nI x33) x45 (nI x46) (nI x52) (nI x53) (nI x61) (nI x62) (nI x63) (nI x65) x66 f1 f2 f3 (bN 3 q4) (bN 7 q5) (bN 7 q6) (bN 4 q7) f8 (bN 2 q9) (bH q10) f11 (b2 m12_0 m12_1) (b2 m13_0 m13_1) (b2 m14_0 m14_1) (b2m m15_0 m15_1) f17 (bA 159 q31) f32 f34 f35 f36 f37 (bN 7 q38) f39 f40 f41 (b2 m42_0 m42_1) f43 f44 f47 f48 f49 f50 f51 (bN 13 q54) (bN 120 q55) (bN 120 q56) f57 (bN 120 q58) f59 f60 f64) ∧ va_S (va_A [] s.heap.size) s.heap H locs ∧ lv_has ls 12 [(0, .ref (ad 0)), (1, .int (nI a0)), (2, .int p1), (3, .int p2), (4, .int p3), (5, .int (nI g_12)), (6, .int (nI g_80)), (7, .long g_81), (9, .long g_82), (11, .int g_79)]) 58 ?_ (fun j_88 => ?_)
                  · rintro H locs ls st ⟨g_87, rfl, hP, hD, hS, hl⟩
                    refine lv_lstore (lv' := [(7, .long g_87), (0, .ref (ad 0)), (1, .int (nI a0)), (2, .int p1), (3, .int p2), (4, .int p3), (5, .int (nI g_12)), (6, .int (nI g_80)), (9, .long g_82), (11, .int g_79)]) hx hb dX9_hasTimes_58 hl (by decide) rfl (fun ls hl => ?_)
                    refine lv_iload hx hb dX9_hasTimes_60 (lv_at hl 7 rfl) ?_
                    refine pu_join (fun H locs ls st => ∃ (g_89 : Int64), st = [.long g_89] ∧ va_P (dC, dI) vwCl (mo_w ad ck x0 (nI x16) (nI x18) (nI x19) x20 (nI x21) (nI x22) x23 x24 x25 (nI x26) x27 (nI x28) (nI x29) (nI x30) (nI x33) x45 (nI x46) (nI x52) (nI x53) (nI x61) (nI x62) (nI x63) (nI x65) x66 f1 f2 f3 (bN 3 q4) (bN 7 q5) (bN 7 q6) (bN 4 q7) f8 (bN 2 q9) (bH q10) f11 (b2 m12_0 m12_1) (b2 m13_0 m13_1) (b2 m14_0 m14_1) (b2m m15_0 m15_1) f17 (bA 159 q31) f32 f34 f35 f36 f37 (bN 7 q38) f39 f40 f41 (b2 m42_0 m42_1) f43 f44 f47 f48 f49 f50 f51 (bN 13 q54) (bN 120 q55) (bN 120 q56) f57 (bN 120 q58) f59 f60 f64) H ∧ va_D (fun _ => True) (mo_w ad ck x0 (nI x16) (nI x18) (nI x19) x20 (nI x21) (nI x22) x23 x24 x25 (nI x26) x27 (nI x28) (nI x29) (nI x30) (nI x33) x45 (nI x46) (nI x52) (nI x53) (nI x61) (nI x62) (nI x63) (nI x65) x66 f1 f2 f3 (bN 3 q4) (bN 7 q5) (bN 7 q6) (bN 4 q7) f8 (bN 2 q9) (bH q10) f11 (b2 m12_0 m12_1) (b2 m13_0 m13_1) (b2 m14_0 m14_1) (b2m m15_0 m15_1) f17 (bA 159 q31) f32 f34 f35 f36 f37 (bN 7 q38) f39 f40 f41 (b2 m42_0 m42_1) f43 f44 f47 f48 f49 f50 f51 (bN 13 q54) (bN 120 q55) (bN 120 q56) f57 (bN 120 q58) f59 f60 f64) ∧ va_S (va_A [] s.heap.size) s.heap H locs ∧ lv_has ls 12 [(0, .ref (ad 0)), (1, .int (nI a0)), (2, .int p1), (3, .int p2), (4, .int p3), (5, .int (nI g_12)), (6, .int (nI g_80)), (7, .long g_87), (9, .long g_82), (11, .int g_79)]) 94 ?_ (fun j_90 => ?_)
                    · rintro H locs ls st ⟨g_89, rfl, hP, hD, hS, hl⟩
                      refine lv_lstore (lv' := [(9, .long g_89), (0, .ref (ad 0)), (1, .int (nI a0)), (2, .int p1), (3, .int p2), (4, .int p3), (5, .int (nI g_12)), (6, .int (nI g_80)), (7, .long g_87), (11, .int g_79)]) hx hb dX9_hasTimes_94 hl (by decide) rfl (fun ls hl => ?_)
                      refine lv_aload_n hx hb dX9_hasTimes_96 rfl (lv_at hl 1 rfl) ?_
                      refine lv_iload_n hx hb dX9_hasTimes_97 rfl (lv_at hl 2 rfl) ?_
                      refine lv_iload hx hb dX9_hasTimes_98 (lv_at hl 6 rfl) ?_
                      refine lv_iload hx hb dX9_hasTimes_100 (lv_at hl 7 rfl) ?_
                      refine va_calli (va_runV (As := [.int (nI a0), .int (nI g_12), .int (nI g_80)]) (rest := []) ⟨hx, hb, hml, hown, hts⟩ (c_M_boundOf_11 l dC dI _ ad ck x0 x16 x18 x19 x20 x21 x22 x23 x24 x25 x26 x27 x28 x29 x30 x33 x45 x46 x52 x53 x61 x62 x63 x65 x66 f1 f2 f3 q4 q5 q6 q7 f8 q9 q10 f11 m12_0 m12_1 m13_0 m13_1 m14_0 m14_1 m15_0 m15_1 f17 q31 f32 f34 f35 f36 f37 q38 f39 f40 f41 m42_0 m42_1 f43 f44 f47 f48 f49 f50 f51 q54 q55 q56 f57 q58 f59 f60 f64 a0 g_12 g_80 hx16 hx18 hx19 hx21 hx22 hx26 hx28 hx29 hx30 hx33 hx46 hx52 hx53 hx61 hx62 hx63 hx65 hm12_0 hm12_1 hm13_0 hm13_1 hm14_0 hm14_1 hm15_0 hm15_1 hm42_0 hm42_1 ha0 hg_12 hg_80) (cwV 3 hts g_M_hasTimes_M_boundOf_11 rfl rfl rfl (by decide +kernel) ⟨Nat.le_of_ble_eq_true rfl, Nat.le_of_ble_eq_true rfl⟩) ⟨pu_bl, va_recv hK hP (ci := 9) (q0 := 0) rfl rfl, pu_in hP hK hD⟩ rfl rfl hl.1 rfl (lv_room (Nat.le_of_ble_eq_true rfl)) dX9_hasTimes_102 ⟨Nat.le_of_ble_eq_true rfl, Nat.le_of_ble_eq_true rfl⟩) hS (fun q _ h => pu_fr hS hA q h) (pu_fr hS hA) (fun r_91 u t H1 locs ht hvm hw hB hz1 hk1 hS => ?_)
                      have hP := pu_keep hP hk1
                      clear hk1 hz1 ht hvm
                      generalize H1 = H at hP hS ⊢
                      refine lv_istore (lv' := [(11, .int r_91), (9, .long g_89), (0, .ref (ad 0)), (1, .int (nI a0)), (2, .int p1), (3, .int p2), (4, .int p3), (5, .int (nI g_12)), (6, .int (nI g_80)), (7, .long g_87)]) hx hb dX9_hasTimes_105 hl (by decide) rfl (fun ls hl => ?_)
                      refine lv_iload hx hb dX9_hasTimes_107 (lv_at hl 0 rfl) ?_
                      refine lv_ldcw hx hb hown v_10 dX9_hasTimes_109 ?_
                      refine lv_icmp_ge (tgt := 143) hx hb dX9_hasTimes_112 (by decide) (fun c_92 => ?_) (fun c_92 => ?_)
                      · refine lv_iinc (v := (nI (g_80 + 1))) (lv' := [(6, .int (nI (g_80 + 1))), (11, .int r_91), (9, .long g_89), (0, .ref (ad 0)), (1, .int (nI a0)), (2, .int p1), (3, .int p2), (4, .int p3), (5, .int (nI g_12)), (7, .long g_87)]) hx hb dX9_hasTimes_143 hl (k := 8) rfl (nI_1 _) (by decide) rfl (fun ls hl => ?_)
                        refine lv_goto (tgt := 15) hx hb dX9_hasTimes_146 (by decide) ?_
                        exact ih_83 (3 - (g_80 + 1)) (by omega) _ _ _ ⟨r_91, (g_80 + 1), g_87, g_89, rfl, (by omega), hP, hD, hS, lv_sub hl [3, 4, 5, 6, 7, 8, 0, 9, 2, 1] rfl⟩
                      · refine lv_lload hx hb dX9_hasTimes_115 (lv_at hl 9 rfl) ?_
                        refine lv_lload hx hb dX9_hasTimes_117 (lv_at hl 1 rfl) ?_
                        refine lv_lsub hx hb dX9_hasTimes_119 ?_
                        refine lv_topl (fun y_93 ey_93 => ?_)
                        refine lv_iload hx hb dX9_hasTimes_120 (lv_at hl 0 rfl) ?_
                        refine lv_iconst (v := 1) hx hb dX9_hasTimes_122 (by decide) ?_
                        refine lv_ishr hx hb dX9_hasTimes_123 ?_
                        refine lv_topi (fun y_94 ey_94 => ?_)
                        refine lv_i2l (v := y_94.toInt64) hx hb dX9_hasTimes_124 rfl ?_
                        refine lv_topl (fun y_95 ey_95 => ?_)
                        refine lv_ldc2 (v := (256)) hx hb hown v_11 dX9_hasTimes_125 ?_
                        refine lv_lmul hx hb dX9_hasTimes_128 ?_
                        refine lv_topl (fun y_96 ey_96 => ?_)
                        refine lv_lconst (v := (1 : Int64)) hx hb dX9_hasTimes_129 rfl ?_
                        refine lv_lsub hx hb dX9_hasTimes_130 ?_
                        refine lv_topl (fun y_97 ey_97 => ?_)
                        refine lv_iload hx hb dX9_hasTimes_131 (lv_at hl 0 rfl) ?_
                        refine lv_iconst (v := 1) hx hb dX9_hasTimes_133 (by decide) ?_
                        refine lv_iand hx hb dX9_hasTimes_134 ?_
                        refine lv_topi (fun y_98 ey_98 => ?_)
                        refine lv_i2l (v := y_98.toInt64) hx hb dX9_hasTimes_135 rfl ?_
                        refine lv_topl (fun y_99 ey_99 => ?_)
                        refine lv_ladd hx hb dX9_hasTimes_136 ?_
                        refine lv_topl (fun y_100 ey_100 => ?_)
                        refine W.lcmp hx hb dX9_hasTimes_137 ?_
                        refine lv_topi (fun y_101 ey_101 => ?_)
                        refine lv_if_le (tgt := 143) hx hb dX9_hasTimes_138 (by decide) (fun c_102 => ?_) (fun c_102 => ?_)
                        · refine lv_iinc (v := (nI (g_80 + 1))) (lv' := [(6, .int (nI (g_80 + 1))), (11, .int r_91), (9, .long g_89), (0, .ref (ad 0)), (1, .int (nI a0)), (2, .int p1), (3, .int p2), (4, .int p3), (5, .int (nI g_12)), (7, .long g_87)]) hx hb dX9_hasTimes_143 hl (k := 8) rfl (nI_1 _) (by decide) rfl (fun ls hl => ?_)
                          refine lv_goto (tgt := 15) hx hb dX9_hasTimes_146 (by decide) ?_
                          exact ih_83 (3 - (g_80 + 1)) (by omega) _ _ _ ⟨r_91, (g_80 + 1), g_87, g_89, rfl, (by omega), hP, hD, hS, lv_sub hl [3, 4, 5, 6, 7, 8, 0, 9, 2, 1] rfl⟩
                        · refine lv_iconst (v := 0) hx hb dX9_hasTimes_141 (by decide) ?_
                          exact W.zret (v := 0) (ty := .boolean) hx hb hr (rfl) (fun t ht hW => ⟨⟨0, (), rfl, ⟨0, (Nat.le_of_ble_eq_true rfl), rfl⟩, trivial⟩, hS.F ht⟩) hS.2.2 dX9_hasTimes_142
                    refine lv_if_ne (tgt := 70) hx hb dX9_hasTimes_62 (by decide) (fun c_103 => ?_) (fun c_103 => ?_)
                    · have c_103 : ¬ g_80 = 0 := fun z => c_103 ((nI_eq (a := g_80) (b := 0) (Nat.lt_of_le_of_lt hg_80 (Nat.le_of_ble_eq_true rfl)) (Nat.le_of_ble_eq_true rfl)).mpr z)
                      refine lv_iload hx hb dX9_hasTimes_70 (lv_at hl 7 rfl) ?_
                      refine lv_iconst (v := 1) hx hb dX9_hasTimes_72 (by decide) ?_
                      refine lv_icmp_ne (tgt := 81) hx hb dX9_hasTimes_73 (by decide) (fun c_104 => ?_) (fun c_104 => ?_)
                      · have c_104 : ¬ g_80 = 1 := fun z => c_104 ((nI_eq (a := g_80) (b := 1) (Nat.lt_of_le_of_lt hg_80 (Nat.le_of_ble_eq_true rfl)) (Nat.le_of_ble_eq_true rfl)).mpr z)
                        refine lv_iload hx hb dX9_hasTimes_81 (lv_at hl 7 rfl) ?_
                        refine lv_iconst (v := 2) hx hb dX9_hasTimes_83 (by decide) ?_
                        refine lv_icmp_ne (tgt := 93) hx hb dX9_hasTimes_84 (by decide) (fun c_105 => ?_) (fun c_105 => ?_)
                        · have c_105 : ¬ g_80 = 2 := fun z => c_105 ((nI_eq (a := g_80) (b := 2) (Nat.lt_of_le_of_lt hg_80 (Nat.le_of_ble_eq_true rfl)) (Nat.le_of_ble_eq_true rfl)).mpr z)
                          exfalso
                          omega
                        · have c_105 : g_80 = 2 := (nI_eq (a := g_80) (b := 2) (Nat.lt_of_le_of_lt hg_80 (Nat.le_of_ble_eq_true rfl)) (Nat.le_of_ble_eq_true rfl)).mp c_105
                          refine lv_iload hx hb dX9_hasTimes_87 (lv_at hl 5 rfl) ?_
                          refine lv_i2l (v := p3.toInt64) hx hb dX9_hasTimes_89 rfl ?_
                          refine lv_topl (fun y_106 ey_106 => ?_)
                          refine lv_goto (tgt := 94) hx hb dX9_hasTimes_90 (by decide) ?_
                          exact j_90 _ _ _ _ ⟨y_106, rfl, hP, hD, hS, lv_sub hl [1, 2, 3, 4, 5, 6, 7, 0, 8, 9] rfl⟩
                      · have c_104 : g_80 = 1 := (nI_eq (a := g_80) (b := 1) (Nat.lt_of_le_of_lt hg_80 (Nat.le_of_ble_eq_true rfl)) (Nat.le_of_ble_eq_true rfl)).mp c_104
                        refine lv_iload_n hx hb dX9_hasTimes_76 rfl (lv_at hl 4 rfl) ?_
                        refine lv_i2l (v := p2.toInt64) hx hb dX9_hasTimes_77 rfl ?_
                        refine lv_topl (fun y_107 ey_107 => ?_)
                        refine lv_goto (tgt := 94) hx hb dX9_hasTimes_78 (by decide) ?_
                        exact j_90 _ _ _ _ ⟨y_107, rfl, hP, hD, hS, lv_sub hl [1, 2, 3, 4, 5, 6, 7, 0, 8, 9] rfl⟩
                    · have c_103 : g_80 = 0 := (nI_eq (a := g_80) (b := 0) (Nat.lt_of_le_of_lt hg_80 (Nat.le_of_ble_eq_true rfl)) (Nat.le_of_ble_eq_true rfl)).mp c_103
                      refine lv_iload_n hx hb dX9_hasTimes_65 rfl (lv_at hl 3 rfl) ?_
                      refine lv_i2l (v := p1.toInt64) hx hb dX9_hasTimes_66 rfl ?_
                      refine lv_topl (fun y_108 ey_108 => ?_)
                      refine lv_goto (tgt := 94) hx hb dX9_hasTimes_67 (by decide) ?_
                      exact j_90 _ _ _ _ ⟨y_108, rfl, hP, hD, hS, lv_sub hl [1, 2, 3, 4, 5, 6, 7, 0, 8, 9] rfl⟩
                  refine lv_if_ne (tgt := 34) hx hb dX9_hasTimes_26 (by decide) (fun c_109 => ?_) (fun c_109 => ?_)
                  · have c_109 : ¬ g_12 = 0 := fun z => c_109 ((nI_eq (a := g_12) (b := 0) (Nat.lt_of_le_of_lt hg_12 (Nat.le_of_ble_eq_true rfl)) (Nat.le_of_ble_eq_true rfl)).mpr z)
                    refine lv_iload hx hb dX9_hasTimes_34 (lv_at hl 5 rfl) ?_
                    refine lv_iconst (v := 1) hx hb dX9_hasTimes_36 (by decide) ?_
                    refine lv_icmp_ne (tgt := 45) hx hb dX9_hasTimes_37 (by decide) (fun c_110 => ?_) (fun c_110 => ?_)
                    · have c_110 : ¬ g_12 = 1 := fun z => c_110 ((nI_eq (a := g_12) (b := 1) (Nat.lt_of_le_of_lt hg_12 (Nat.le_of_ble_eq_true rfl)) (Nat.le_of_ble_eq_true rfl)).mpr z)
                      refine lv_iload hx hb dX9_hasTimes_45 (lv_at hl 5 rfl) ?_
                      refine lv_iconst (v := 2) hx hb dX9_hasTimes_47 (by decide) ?_
                      refine lv_icmp_ne (tgt := 57) hx hb dX9_hasTimes_48 (by decide) (fun c_111 => ?_) (fun c_111 => ?_)
                      · have c_111 : ¬ g_12 = 2 := fun z => c_111 ((nI_eq (a := g_12) (b := 2) (Nat.lt_of_le_of_lt hg_12 (Nat.le_of_ble_eq_true rfl)) (Nat.le_of_ble_eq_true rfl)).mpr z)
                        exfalso
                        omega
                      · have c_111 : g_12 = 2 := (nI_eq (a := g_12) (b := 2) (Nat.lt_of_le_of_lt hg_12 (Nat.le_of_ble_eq_true rfl)) (Nat.le_of_ble_eq_true rfl)).mp c_111
                        refine lv_iload hx hb dX9_hasTimes_51 (lv_at hl 4 rfl) ?_
                        refine lv_i2l (v := p3.toInt64) hx hb dX9_hasTimes_53 rfl ?_
                        refine lv_topl (fun y_112 ey_112 => ?_)
                        refine lv_goto (tgt := 58) hx hb dX9_hasTimes_54 (by decide) ?_
                        exact j_88 _ _ _ _ ⟨y_112, rfl, hP, hD, hS, lv_sub hl [0, 1, 2, 3, 4, 5, 6, 7, 8, 9] rfl⟩
                    · have c_110 : g_12 = 1 := (nI_eq (a := g_12) (b := 1) (Nat.lt_of_le_of_lt hg_12 (Nat.le_of_ble_eq_true rfl)) (Nat.le_of_ble_eq_true rfl)).mp c_110
                      refine lv_iload_n hx hb dX9_hasTimes_40 rfl (lv_at hl 3 rfl) ?_
                      refine lv_i2l (v := p2.toInt64) hx hb dX9_hasTimes_41 rfl ?_
                      refine lv_topl (fun y_113 ey_113 => ?_)
                      refine lv_goto (tgt := 58) hx hb dX9_hasTimes_42 (by decide) ?_
                      exact j_88 _ _ _ _ ⟨y_113, rfl, hP, hD, hS, lv_sub hl [0, 1, 2, 3, 4, 5, 6, 7, 8, 9] rfl⟩
                  · have c_109 : g_12 = 0 := (nI_eq (a := g_12) (b := 0) (Nat.lt_of_le_of_lt hg_12 (Nat.le_of_ble_eq_true rfl)) (Nat.le_of_ble_eq_true rfl)).mp c_109
                    refine lv_iload_n hx hb dX9_hasTimes_29 rfl (lv_at hl 2 rfl) ?_
                    refine lv_i2l (v := p1.toInt64) hx hb dX9_hasTimes_30 rfl ?_
                    refine lv_topl (fun y_114 ey_114 => ?_)
                    refine lv_goto (tgt := 58) hx hb dX9_hasTimes_31 (by decide) ?_
                    exact j_88 _ _ _ _ ⟨y_114, rfl, hP, hD, hS, lv_sub hl [0, 1, 2, 3, 4, 5, 6, 7, 8, 9] rfl⟩
              · refine lv_iconst (v := 0) hx hb dX9_hasTimes_141 (by decide) ?_
                exact W.zret (v := 0) (ty := .boolean) hx hb hr (rfl) (fun t ht hW => ⟨⟨0, (), rfl, ⟨0, (Nat.le_of_ble_eq_true rfl), rfl⟩, trivial⟩, hS.F ht⟩) hS.2.2 dX9_hasTimes_142
          refine lv_if_ne (tgt := 34) hx hb dX9_hasTimes_26 (by decide) (fun c_115 => ?_) (fun c_115 => ?_)
          · have c_115 : ¬ g_12 = 0 := fun z => c_115 ((nI_eq (a := g_12) (b := 0) (Nat.lt_of_le_of_lt hg_12 (Nat.le_of_ble_eq_true rfl)) (Nat.le_of_ble_eq_true rfl)).mpr z)
            refine lv_iload hx hb dX9_hasTimes_34 (lv_at hl 6 rfl) ?_
            refine lv_iconst (v := 1) hx hb dX9_hasTimes_36 (by decide) ?_
            refine lv_icmp_ne (tgt := 45) hx hb dX9_hasTimes_37 (by decide) (fun c_116 => ?_) (fun c_116 => ?_)
            · have c_116 : ¬ g_12 = 1 := fun z => c_116 ((nI_eq (a := g_12) (b := 1) (Nat.lt_of_le_of_lt hg_12 (Nat.le_of_ble_eq_true rfl)) (Nat.le_of_ble_eq_true rfl)).mpr z)
              refine lv_iload hx hb dX9_hasTimes_45 (lv_at hl 6 rfl) ?_
              refine lv_iconst (v := 2) hx hb dX9_hasTimes_47 (by decide) ?_
              refine lv_icmp_ne (tgt := 57) hx hb dX9_hasTimes_48 (by decide) (fun c_117 => ?_) (fun c_117 => ?_)
              · have c_117 : ¬ g_12 = 2 := fun z => c_117 ((nI_eq (a := g_12) (b := 2) (Nat.lt_of_le_of_lt hg_12 (Nat.le_of_ble_eq_true rfl)) (Nat.le_of_ble_eq_true rfl)).mpr z)
                exfalso
                omega
              · have c_117 : g_12 = 2 := (nI_eq (a := g_12) (b := 2) (Nat.lt_of_le_of_lt hg_12 (Nat.le_of_ble_eq_true rfl)) (Nat.le_of_ble_eq_true rfl)).mp c_117
                refine lv_iload hx hb dX9_hasTimes_51 (lv_at hl 5 rfl) ?_
                refine lv_i2l (v := p3.toInt64) hx hb dX9_hasTimes_53 rfl ?_
                refine lv_topl (fun y_118 ey_118 => ?_)
                refine lv_goto (tgt := 58) hx hb dX9_hasTimes_54 (by decide) ?_
                exact j_22 _ _ _ _ ⟨y_118, rfl, hP, hD, hS, lv_sub hl [1, 2, 3, 4, 5, 6, 0] rfl⟩
            · have c_116 : g_12 = 1 := (nI_eq (a := g_12) (b := 1) (Nat.lt_of_le_of_lt hg_12 (Nat.le_of_ble_eq_true rfl)) (Nat.le_of_ble_eq_true rfl)).mp c_116
              refine lv_iload_n hx hb dX9_hasTimes_40 rfl (lv_at hl 4 rfl) ?_
              refine lv_i2l (v := p2.toInt64) hx hb dX9_hasTimes_41 rfl ?_
              refine lv_topl (fun y_119 ey_119 => ?_)
              refine lv_goto (tgt := 58) hx hb dX9_hasTimes_42 (by decide) ?_
              exact j_22 _ _ _ _ ⟨y_119, rfl, hP, hD, hS, lv_sub hl [1, 2, 3, 4, 5, 6, 0] rfl⟩
          · have c_115 : g_12 = 0 := (nI_eq (a := g_12) (b := 0) (Nat.lt_of_le_of_lt hg_12 (Nat.le_of_ble_eq_true rfl)) (Nat.le_of_ble_eq_true rfl)).mp c_115
            refine lv_iload_n hx hb dX9_hasTimes_29 rfl (lv_at hl 3 rfl) ?_
            refine lv_i2l (v := p1.toInt64) hx hb dX9_hasTimes_30 rfl ?_
            refine lv_topl (fun y_120 ey_120 => ?_)
            refine lv_goto (tgt := 58) hx hb dX9_hasTimes_31 (by decide) ?_
            exact j_22 _ _ _ _ ⟨y_120, rfl, hP, hD, hS, lv_sub hl [1, 2, 3, 4, 5, 6, 0] rfl⟩
    · refine lv_iload hx hb dX9_hasTimes_24 (lv_at hl 1 rfl) ?_
      refine lv_if_ne (tgt := 34) hx hb dX9_hasTimes_26 (by decide) (fun _ => ?_) (fun z => absurd z (by decide))
      refine lv_iload hx hb dX9_hasTimes_34 (lv_at hl 1 rfl) ?_
      refine lv_iconst (v := 1) hx hb dX9_hasTimes_36 (by decide) ?_
      refine lv_icmp_ne (tgt := 45) hx hb dX9_hasTimes_37 (by decide) (fun _ => ?_) (fun z => absurd z (by decide))
      refine lv_iload hx hb dX9_hasTimes_45 (lv_at hl 1 rfl) ?_
      refine lv_iconst (v := 2) hx hb dX9_hasTimes_47 (by decide) ?_
      refine lv_icmp_ne (tgt := 57) hx hb dX9_hasTimes_48 (by decide) (fun _ => ?_) (fun z => absurd z (by decide))
      refine lv_lconst (v := (0 : Int64)) hx hb dX9_hasTimes_57 rfl ?_
      refine lv_lstore (lv' := [(7, .long (0 : Int64)), (6, .int (-1)), (5, .int (-1)), (0, .ref (ad 0)), (1, .int (nI a0)), (2, .int p1), (3, .int p2), (4, .int p3)]) hx hb dX9_hasTimes_58 hl (by decide) rfl (fun ls hl => ?_)
      refine lv_iload hx hb dX9_hasTimes_60 (lv_at hl 1 rfl) ?_
      refine lv_if_ne (tgt := 70) hx hb dX9_hasTimes_62 (by decide) (fun _ => ?_) (fun z => absurd z (by decide))
      refine lv_iload hx hb dX9_hasTimes_70 (lv_at hl 1 rfl) ?_
      refine lv_iconst (v := 1) hx hb dX9_hasTimes_72 (by decide) ?_
      refine lv_icmp_ne (tgt := 81) hx hb dX9_hasTimes_73 (by decide) (fun _ => ?_) (fun z => absurd z (by decide))
      refine lv_iload hx hb dX9_hasTimes_81 (lv_at hl 1 rfl) ?_
      refine lv_iconst (v := 2) hx hb dX9_hasTimes_83 (by decide) ?_
      refine lv_icmp_ne (tgt := 93) hx hb dX9_hasTimes_84 (by decide) (fun _ => ?_) (fun z => absurd z (by decide))
      refine lv_lconst (v := (0 : Int64)) hx hb dX9_hasTimes_93 rfl ?_
      refine lv_lstore (lv' := [(9, .long (0 : Int64)), (7, .long (0 : Int64)), (6, .int (-1)), (5, .int (-1)), (0, .ref (ad 0)), (1, .int (nI a0)), (2, .int p1), (3, .int p2), (4, .int p3)]) hx hb dX9_hasTimes_94 hl (by decide) rfl (fun ls hl => ?_)
      refine lv_aload_n hx hb dX9_hasTimes_96 rfl (lv_at hl 4 rfl) ?_
      refine lv_iload_n hx hb dX9_hasTimes_97 rfl (lv_at hl 5 rfl) ?_
      refine lv_iload hx hb dX9_hasTimes_98 (lv_at hl 3 rfl) ?_
      refine lv_iload hx hb dX9_hasTimes_100 (lv_at hl 2 rfl) ?_
      refine va_calli (va_runV (As := [.int (nI a0), .int (-1), .int (-1)]) (rest := []) ⟨hx, hb, hml, hown, hts⟩ (c_M_boundOf_00 l dC dI _ ad ck x0 x16 x18 x19 x20 x21 x22 x23 x24 x25 x26 x27 x28 x29 x30 x33 x45 x46 x52 x53 x61 x62 x63 x65 x66 f1 f2 f3 q4 q5 q6 q7 f8 q9 q10 f11 m12_0 m12_1 m13_0 m13_1 m14_0 m14_1 m15_0 m15_1 f17 q31 f32 f34 f35 f36 f37 q38 f39 f40 f41 m42_0 m42_1 f43 f44 f47 f48 f49 f50 f51 q54 q55 q56 f57 q58 f59 f60 f64 a0 hx16 hx18 hx19 hx21 hx22 hx26 hx28 hx29 hx30 hx33 hx46 hx52 hx53 hx61 hx62 hx63 hx65 hm12_0 hm12_1 hm13_0 hm13_1 hm14_0 hm14_1 hm15_0 hm15_1 hm42_0 hm42_1 ha0) (cwV 3 hts g_M_hasTimes_M_boundOf_00 rfl rfl rfl (by decide +kernel) ⟨Nat.le_of_ble_eq_true rfl, Nat.le_of_ble_eq_true rfl⟩) ⟨pu_bl, va_recv hK hP (ci := 9) (q0 := 0) rfl rfl, pu_in hP hK hD⟩ rfl rfl hl.1 rfl (lv_room (Nat.le_of_ble_eq_true rfl)) dX9_hasTimes_102 ⟨Nat.le_of_ble_eq_true rfl, Nat.le_of_ble_eq_true rfl⟩) hS (fun q _ h => pu_fr hS hA q h) (pu_fr hS hA) (fun r_121 u t H1 locs ht hvm hw hB hz1 hk1 hS => ?_)
      have hP := pu_keep hP hk1
      clear hk1 hz1 ht hvm
      generalize H1 = H at hP hS ⊢
      refine lv_istore (lv' := [(11, .int r_121), (9, .long (0 : Int64)), (7, .long (0 : Int64)), (6, .int (-1)), (5, .int (-1)), (0, .ref (ad 0)), (1, .int (nI a0)), (2, .int p1), (3, .int p2), (4, .int p3)]) hx hb dX9_hasTimes_105 hl (by decide) rfl (fun ls hl => ?_)
      refine lv_iload hx hb dX9_hasTimes_107 (lv_at hl 0 rfl) ?_
      refine lv_ldcw hx hb hown v_10 dX9_hasTimes_109 ?_
      refine lv_icmp_ge (tgt := 143) hx hb dX9_hasTimes_112 (by decide) (fun c_122 => ?_) (fun c_122 => ?_)
      · refine lv_iinc (v := 0) (lv' := [(6, .int 0), (11, .int r_121), (9, .long (0 : Int64)), (7, .long (0 : Int64)), (5, .int (-1)), (0, .ref (ad 0)), (1, .int (nI a0)), (2, .int p1), (3, .int p2), (4, .int p3)]) hx hb dX9_hasTimes_143 hl (k := 3) rfl (by decide) (by decide) rfl (fun ls hl => ?_)
        refine lv_goto (tgt := 15) hx hb dX9_hasTimes_146 (by decide) ?_
        refine pu_while (fun nn H locs ls => ∃ (g_127 : Int32) (g_128 : Nat) (g_129 : Int64) (g_130 : Int64), nn = 3 - g_128 ∧ g_128 ≤ 3 ∧ va_P (dC, dI) vwCl (mo_w ad ck x0 (nI x16) (nI x18) (nI x19) x20 (nI x21) (nI x22) x23 x24 x25 (nI x26) x27 (nI x28) (nI x29) (nI x30) (nI x33) x45 (nI x46) (nI x52) (nI x53) (nI x61) (nI x62) (nI x63) (nI x65) x66 f1 f2 f3 (bN 3 q4) (bN 7 q5) (bN 7 q6) (bN 4 q7) f8 (bN 2 q9) (bH q10) f11 (b2 m12_0 m12_1) (b2 m13_0 m13_1) (b2 m14_0 m14_1) (b2m m15_0 m15_1) f17 (bA 159 q31) f32 f34 f35 f36 f37 (bN 7 q38) f39 f40 f41 (b2 m42_0 m42_1) f43 f44 f47 f48 f49 f50 f51 (bN 13 q54) (bN 120 q55) (bN 120 q56) f57 (bN 120 q58) f59 f60 f64) H ∧ va_D (fun _ => True) (mo_w ad ck x0 (nI x16) (nI x18) (nI x19) x20 (nI x21) (nI x22) x23 x24 x25 (nI x26) x27 (nI x28) (nI x29) (nI x30) (nI x33) x45 (nI x46) (nI x52) (nI x53) (nI x61) (nI x62) (nI x63) (nI x65) x66 f1 f2 f3 (bN 3 q4) (bN 7 q5) (bN 7 q6) (bN 4 q7) f8 (bN 2 q9) (bH q10) f11 (b2 m12_0 m12_1) (b2 m13_0 m13_1) (b2 m14_0 m14_1) (b2m m15_0 m15_1) f17 (bA 159 q31) f32 f34 f35 f36 f37 (bN 7 q38) f39 f40 f41 (b2 m42_0 m42_1) f43 f44 f47 f48 f49 f50 f51 (bN 13 q54) (bN 120 q55) (bN 120 q56) f57 (bN 120 q58) f59 f60 f64) ∧ va_S (va_A [] s.heap.size) s.heap H locs ∧ lv_has ls 12 [(0, .ref (ad 0)), (1, .int (nI a0)), (2, .int p1), (3, .int p2), (4, .int p3), (5, .int (-1)), (6, .int (nI g_128)), (7, .long g_129), (9, .long g_130), (11, .int g_127)]) 15 ?_ _ _ _ _ ⟨r_121, 0, (0 : Int64), (0 : Int64), rfl, (Nat.le_of_ble_eq_true rfl), hP, hD, hS, lv_sub hl [5, 6, 7, 8, 9, 4, 0, 3, 2, 1] rfl⟩
        rintro nn ih_131 H locs ls ⟨g_127, g_128, g_129, g_130, rfl, hg_128, hP, hD, hS, hl⟩
        refine lv_iload hx hb dX9_hasTimes_15 (lv_at hl 6 rfl) ?_
        refine lv_aload_n hx hb dX9_hasTimes_17 rfl (lv_at hl 0 rfl) ?_
        refine va_calli (va_runV (As := []) (rest := [.int (nI g_128)]) ⟨hx, hb, hml, hown, hts⟩ (c_M_clocks l dC dI _ ad ck x0 x16 x18 x19 x20 x21 x22 x23 x24 x25 x26 x27 x28 x29 x30 x33 x45 x46 x52 x53 x61 x62 x63 x65 x66 f1 f2 f3 q4 q5 q6 q7 f8 q9 q10 f11 m12_0 m12_1 m13_0 m13_1 m14_0 m14_1 m15_0 m15_1 f17 q31 f32 f34 f35 f36 f37 q38 f39 f40 f41 m42_0 m42_1 f43 f44 f47 f48 f49 f50 f51 q54 q55 q56 f57 q58 f59 f60 f64 hx16 hx18 hx19 hx21 hx22 hx26 hx28 hx29 hx30 hx33 hx46 hx52 hx53 hx61 hx62 hx63 hx65 hm12_0 hm12_1 hm13_0 hm13_1 hm14_0 hm14_1 hm15_0 hm15_1 hm42_0 hm42_1) (cwV 0 hts g_M_hasTimes_M_clocks rfl rfl rfl (by decide +kernel) ⟨Nat.le_of_ble_eq_true rfl, Nat.le_of_ble_eq_true rfl⟩) ⟨pu_bl, va_recv hK hP (ci := 9) (q0 := 0) rfl rfl, pu_in hP hK hD⟩ rfl rfl hl.1 rfl (lv_room (Nat.le_of_ble_eq_true rfl)) dX9_hasTimes_18 ⟨Nat.le_of_ble_eq_true rfl, Nat.le_of_ble_eq_true rfl⟩) hS (fun q _ h => pu_fr hS hA q h) (pu_fr hS hA) (fun r_132 u t H1 locs ht hvm hw hB hz1 hk1 hS => ?_)
        have hP := pu_keep hP hk1
        clear hk1 hz1 ht hvm
        generalize H1 = H at hP hS ⊢
        obtain ⟨u_133, hu_133, rfl⟩ := hw
        refine lv_icmp_ge (tgt := 149) hx hb dX9_hasTimes_21 (by decide) (fun c_134 => ?_) (fun c_134 => ?_)
        · have c_134 : u_133 ≤ g_128 := (nI_leI (a := u_133) (b := g_128) (Nat.lt_of_le_of_lt hu_133 (Nat.le_of_ble_eq_true rfl)) (Nat.lt_of_le_of_lt hg_128 (Nat.le_of_ble_eq_true rfl))).mp c_134
          refine lv_iinc (v := 0) (lv' := [(5, .int 0), (0, .ref (ad 0)), (1, .int (nI a0)), (2, .int p1), (3, .int p2), (4, .int p3), (6, .int (nI g_128)), (7, .long g_129), (9, .long g_130), (11, .int g_127)]) hx hb dX9_hasTimes_149 hl (k := 5) rfl (by decide) (by decide) rfl (fun ls hl => ?_)
          refine lv_goto (tgt := 3) hx hb dX9_hasTimes_152 (by decide) ?_
          refine pu_while (fun nn H locs ls => ∃ (g_140 : Int32) (g_141 : Nat) (g_142 : Int32) (g_143 : Int64) (g_144 : Int64), nn = 3 - g_141 ∧ g_141 ≤ 3 ∧ va_P (dC, dI) vwCl (mo_w ad ck x0 (nI x16) (nI x18) (nI x19) x20 (nI x21) (nI x22) x23 x24 x25 (nI x26) x27 (nI x28) (nI x29) (nI x30) (nI x33) x45 (nI x46) (nI x52) (nI x53) (nI x61) (nI x62) (nI x63) (nI x65) x66 f1 f2 f3 (bN 3 q4) (bN 7 q5) (bN 7 q6) (bN 4 q7) f8 (bN 2 q9) (bH q10) f11 (b2 m12_0 m12_1) (b2 m13_0 m13_1) (b2 m14_0 m14_1) (b2m m15_0 m15_1) f17 (bA 159 q31) f32 f34 f35 f36 f37 (bN 7 q38) f39 f40 f41 (b2 m42_0 m42_1) f43 f44 f47 f48 f49 f50 f51 (bN 13 q54) (bN 120 q55) (bN 120 q56) f57 (bN 120 q58) f59 f60 f64) H ∧ va_D (fun _ => True) (mo_w ad ck x0 (nI x16) (nI x18) (nI x19) x20 (nI x21) (nI x22) x23 x24 x25 (nI x26) x27 (nI x28) (nI x29) (nI x30) (nI x33) x45 (nI x46) (nI x52) (nI x53) (nI x61) (nI x62) (nI x63) (nI x65) x66 f1 f2 f3 (bN 3 q4) (bN 7 q5) (bN 7 q6) (bN 4 q7) f8 (bN 2 q9) (bH q10) f11 (b2 m12_0 m12_1) (b2 m13_0 m13_1) (b2 m14_0 m14_1) (b2m m15_0 m15_1) f17 (bA 159 q31) f32 f34 f35 f36 f37 (bN 7 q38) f39 f40 f41 (b2 m42_0 m42_1) f43 f44 f47 f48 f49 f50 f51 (bN 13 q54) (bN 120 q55) (bN 120 q56) f57 (bN 120 q58) f59 f60 f64) ∧ va_S (va_A [] s.heap.size) s.heap H locs ∧ lv_has ls 12 [(0, .ref (ad 0)), (1, .int (nI a0)), (2, .int p1), (3, .int p2), (4, .int p3), (5, .int (nI g_141)), (6, .int g_142), (7, .long g_143), (9, .long g_144), (11, .int g_140)]) 3 ?_ _ _ _ _ ⟨g_127, 0, (nI g_128), g_129, g_130, rfl, (Nat.le_of_ble_eq_true rfl), hP, hD, hS, lv_sub hl [1, 2, 3, 4, 5, 0, 6, 7, 8, 9] rfl⟩
          rintro nn ih_145 H locs ls ⟨g_140, g_141, g_142, g_143, g_144, rfl, hg_141, hP, hD, hS, hl⟩
          refine lv_iload hx hb dX9_hasTimes_3 (lv_at hl 5 rfl) ?_
          refine lv_aload_n hx hb dX9_hasTimes_5 rfl (lv_at hl 0 rfl) ?_
          refine va_calli (va_runV (As := []) (rest := [.int (nI g_141)]) ⟨hx, hb, hml, hown, hts⟩ (c_M_clocks l dC dI _ ad ck x0 x16 x18 x19 x20 x21 x22 x23 x24 x25 x26 x27 x28 x29 x30 x33 x45 x46 x52 x53 x61 x62 x63 x65 x66 f1 f2 f3 q4 q5 q6 q7 f8 q9 q10 f11 m12_0 m12_1 m13_0 m13_1 m14_0 m14_1 m15_0 m15_1 f17 q31 f32 f34 f35 f36 f37 q38 f39 f40 f41 m42_0 m42_1 f43 f44 f47 f48 f49 f50 f51 q54 q55 q56 f57 q58 f59 f60 f64 hx16 hx18 hx19 hx21 hx22 hx26 hx28 hx29 hx30 hx33 hx46 hx52 hx53 hx61 hx62 hx63 hx65 hm12_0 hm12_1 hm13_0 hm13_1 hm14_0 hm14_1 hm15_0 hm15_1 hm42_0 hm42_1) (cwV 0 hts g_M_hasTimes_M_clocks rfl rfl rfl (by decide +kernel) ⟨Nat.le_of_ble_eq_true rfl, Nat.le_of_ble_eq_true rfl⟩) ⟨pu_bl, va_recv hK hP (ci := 9) (q0 := 0) rfl rfl, pu_in hP hK hD⟩ rfl rfl hl.1 rfl (lv_room (Nat.le_of_ble_eq_true rfl)) dX9_hasTimes_6 ⟨Nat.le_of_ble_eq_true rfl, Nat.le_of_ble_eq_true rfl⟩) hS (fun q _ h => pu_fr hS hA q h) (pu_fr hS hA) (fun r_146 u t H1 locs ht hvm hw hB hz1 hk1 hS => ?_)
          have hP := pu_keep hP hk1
          clear hk1 hz1 ht hvm
          generalize H1 = H at hP hS ⊢
          obtain ⟨u_147, hu_147, rfl⟩ := hw
          refine lv_icmp_ge (tgt := 155) hx hb dX9_hasTimes_9 (by decide) (fun c_148 => ?_) (fun c_148 => ?_)
          · have c_148 : u_147 ≤ g_141 := (nI_leI (a := u_147) (b := g_141) (Nat.lt_of_le_of_lt hu_147 (Nat.le_of_ble_eq_true rfl)) (Nat.lt_of_le_of_lt hg_141 (Nat.le_of_ble_eq_true rfl))).mp c_148
            refine lv_iconst (v := 1) hx hb dX9_hasTimes_155 (by decide) ?_
            exact W.zret (v := 1) (ty := .boolean) hx hb hr (rfl) (fun t ht hW => ⟨⟨1, (), rfl, ⟨1, (Nat.le_of_ble_eq_true rfl), rfl⟩, trivial⟩, hS.F ht⟩) hS.2.2 dX9_hasTimes_156
          · have c_148 : ¬ u_147 ≤ g_141 := fun z => c_148 ((nI_leI (a := u_147) (b := g_141) (Nat.lt_of_le_of_lt hu_147 (Nat.le_of_ble_eq_true rfl)) (Nat.lt_of_le_of_lt hg_141 (Nat.le_of_ble_eq_true rfl))).mpr z)
            refine lv_iconst (v := (-1)) hx hb dX9_hasTimes_12 (by decide) ?_
            refine lv_istore (lv' := [(6, .int (-1)), (0, .ref (ad 0)), (1, .int (nI a0)), (2, .int p1), (3, .int p2), (4, .int p3), (5, .int (nI g_141)), (7, .long g_143), (9, .long g_144), (11, .int g_140)]) hx hb dX9_hasTimes_13 hl (by decide) rfl (fun ls hl => ?_)
            refine lv_iload hx hb dX9_hasTimes_15 (lv_at hl 0 rfl) ?_
            refine lv_aload_n hx hb dX9_hasTimes_17 rfl (lv_at hl 1 rfl) ?_
            refine va_calli (va_runV (As := []) (rest := [.int (-1)]) ⟨hx, hb, hml, hown, hts⟩ (c_M_clocks l dC dI _ ad ck x0 x16 x18 x19 x20 x21 x22 x23 x24 x25 x26 x27 x28 x29 x30 x33 x45 x46 x52 x53 x61 x62 x63 x65 x66 f1 f2 f3 q4 q5 q6 q7 f8 q9 q10 f11 m12_0 m12_1 m13_0 m13_1 m14_0 m14_1 m15_0 m15_1 f17 q31 f32 f34 f35 f36 f37 q38 f39 f40 f41 m42_0 m42_1 f43 f44 f47 f48 f49 f50 f51 q54 q55 q56 f57 q58 f59 f60 f64 hx16 hx18 hx19 hx21 hx22 hx26 hx28 hx29 hx30 hx33 hx46 hx52 hx53 hx61 hx62 hx63 hx65 hm12_0 hm12_1 hm13_0 hm13_1 hm14_0 hm14_1 hm15_0 hm15_1 hm42_0 hm42_1) (cwV 0 hts g_M_hasTimes_M_clocks rfl rfl rfl (by decide +kernel) ⟨Nat.le_of_ble_eq_true rfl, Nat.le_of_ble_eq_true rfl⟩) ⟨pu_bl, va_recv hK hP (ci := 9) (q0 := 0) rfl rfl, pu_in hP hK hD⟩ rfl rfl hl.1 rfl (lv_room (Nat.le_of_ble_eq_true rfl)) dX9_hasTimes_18 ⟨Nat.le_of_ble_eq_true rfl, Nat.le_of_ble_eq_true rfl⟩) hS (fun q _ h => pu_fr hS hA q h) (pu_fr hS hA) (fun r_149 u t H1 locs ht hvm hw hB hz1 hk1 hS => ?_)
            have hP := pu_keep hP hk1
            clear hk1 hz1 ht hvm
            generalize H1 = H at hP hS ⊢
            obtain ⟨u_150, hu_150, rfl⟩ := hw
            refine lv_icmp_ge (tgt := 149) hx hb dX9_hasTimes_21 (by decide) (fun c_151 => ?_) (fun c_151 => ?_)
            · refine lv_iinc (v := (nI (g_141 + 1))) (lv' := [(5, .int (nI (g_141 + 1))), (6, .int (-1)), (0, .ref (ad 0)), (1, .int (nI a0)), (2, .int p1), (3, .int p2), (4, .int p3), (7, .long g_143), (9, .long g_144), (11, .int g_140)]) hx hb dX9_hasTimes_149 hl (k := 6) rfl (nI_1 _) (by decide) rfl (fun ls hl => ?_)
              refine lv_goto (tgt := 3) hx hb dX9_hasTimes_152 (by decide) ?_
              exact ih_145 (3 - (g_141 + 1)) (by omega) _ _ _ ⟨g_140, (g_141 + 1), (-1), g_143, g_144, rfl, (by omega), hP, hD, hS, lv_sub hl [2, 3, 4, 5, 6, 0, 1, 7, 8, 9] rfl⟩
            · refine lv_iload hx hb dX9_hasTimes_24 (lv_at hl 6 rfl) ?_
              refine pu_join (fun H locs ls st => ∃ (g_152 : Int64), st = [.long g_152] ∧ va_P (dC, dI) vwCl (mo_w ad ck x0 (nI x16) (nI x18) (nI x19) x20 (nI x21) (nI x22) x23 x24 x25 (nI x26) x27 (nI x28) (nI x29) (nI x30) (nI x33) x45 (nI x46) (nI x52) (nI x53) (nI x61) (nI x62) (nI x63) (nI x65) x66 f1 f2 f3 (bN 3 q4) (bN 7 q5) (bN 7 q6) (bN 4 q7) f8 (bN 2 q9) (bH q10) f11 (b2 m12_0 m12_1) (b2 m13_0 m13_1) (b2 m14_0 m14_1) (b2m m15_0 m15_1) f17 (bA 159 q31) f32 f34 f35 f36 f37 (bN 7 q38) f39 f40 f41 (b2 m42_0 m42_1) f43 f44 f47 f48 f49 f50 f51 (bN 13 q54) (bN 120 q55) (bN 120 q56) f57 (bN 120 q58) f59 f60 f64) H ∧ va_D (fun _ => True) (mo_w ad ck x0 (nI x16) (nI x18) (nI x19) x20 (nI x21) (nI x22) x23 x24 x25 (nI x26) x27 (nI x28) (nI x29) (nI x30) (nI x33) x45 (nI x46) (nI x52) (nI x53) (nI x61) (nI x62) (nI x63) (nI x65) x66 f1 f2 f3 (bN 3 q4) (bN 7 q5) (bN 7 q6) (bN 4 q7) f8 (bN 2 q9) (bH q10) f11 (b2 m12_0 m12_1) (b2 m13_0 m13_1) (b2 m14_0 m14_1) (b2m m15_0 m15_1) f17 (bA 159 q31) f32 f34 f35 f36 f37 (bN 7 q38) f39 f40 f41 (b2 m42_0 m42_1) f43 f44 f47 f48 f49 f50 f51 (bN 13 q54) (bN 120 q55) (bN 120 q56) f57 (bN 120 q58) f59 f60 f64) ∧ va_S (va_A [] s.heap.size) s.heap H locs ∧ lv_has ls 12 [(0, .ref (ad 0)), (1, .int (nI a0)), (2, .int p1), (3, .int p2), (4, .int p3), (5, .int (nI g_141)), (6, .int (-1)), (7, .long g_143), (9, .long g_144), (11, .int g_140)]) 58 ?_ (fun j_153 => ?_)
              · rintro H locs ls st ⟨g_152, rfl, hP, hD, hS, hl⟩
                refine lv_lstore (lv' := [(7, .long g_152), (0, .ref (ad 0)), (1, .int (nI a0)), (2, .int p1), (3, .int p2), (4, .int p3), (5, .int (nI g_141)), (6, .int (-1)), (9, .long g_144), (11, .int g_140)]) hx hb dX9_hasTimes_58 hl (by decide) rfl (fun ls hl => ?_)
                refine lv_iload hx hb dX9_hasTimes_60 (lv_at hl 7 rfl) ?_
                refine lv_if_ne (tgt := 70) hx hb dX9_hasTimes_62 (by decide) (fun _ => ?_) (fun z => absurd z (by decide))
                refine lv_iload hx hb dX9_hasTimes_70 (lv_at hl 7 rfl) ?_
                refine lv_iconst (v := 1) hx hb dX9_hasTimes_72 (by decide) ?_
                refine lv_icmp_ne (tgt := 81) hx hb dX9_hasTimes_73 (by decide) (fun _ => ?_) (fun z => absurd z (by decide))
                refine lv_iload hx hb dX9_hasTimes_81 (lv_at hl 7 rfl) ?_
                refine lv_iconst (v := 2) hx hb dX9_hasTimes_83 (by decide) ?_
                refine lv_icmp_ne (tgt := 93) hx hb dX9_hasTimes_84 (by decide) (fun _ => ?_) (fun z => absurd z (by decide))
                refine lv_lconst (v := (0 : Int64)) hx hb dX9_hasTimes_93 rfl ?_
                refine lv_lstore (lv' := [(9, .long (0 : Int64)), (7, .long g_152), (0, .ref (ad 0)), (1, .int (nI a0)), (2, .int p1), (3, .int p2), (4, .int p3), (5, .int (nI g_141)), (6, .int (-1)), (11, .int g_140)]) hx hb dX9_hasTimes_94 hl (by decide) rfl (fun ls hl => ?_)
                refine lv_aload_n hx hb dX9_hasTimes_96 rfl (lv_at hl 2 rfl) ?_
                refine lv_iload_n hx hb dX9_hasTimes_97 rfl (lv_at hl 3 rfl) ?_
                refine lv_iload hx hb dX9_hasTimes_98 (lv_at hl 7 rfl) ?_
                refine lv_iload hx hb dX9_hasTimes_100 (lv_at hl 8 rfl) ?_
                refine va_calli (va_runV (As := [.int (nI a0), .int (nI g_141), .int (-1)]) (rest := []) ⟨hx, hb, hml, hown, hts⟩ (c_M_boundOf_10 l dC dI _ ad ck x0 x16 x18 x19 x20 x21 x22 x23 x24 x25 x26 x27 x28 x29 x30 x33 x45 x46 x52 x53 x61 x62 x63 x65 x66 f1 f2 f3 q4 q5 q6 q7 f8 q9 q10 f11 m12_0 m12_1 m13_0 m13_1 m14_0 m14_1 m15_0 m15_1 f17 q31 f32 f34 f35 f36 f37 q38 f39 f40 f41 m42_0 m42_1 f43 f44 f47 f48 f49 f50 f51 q54 q55 q56 f57 q58 f59 f60 f64 a0 g_141 hx16 hx18 hx19 hx21 hx22 hx26 hx28 hx29 hx30 hx33 hx46 hx52 hx53 hx61 hx62 hx63 hx65 hm12_0 hm12_1 hm13_0 hm13_1 hm14_0 hm14_1 hm15_0 hm15_1 hm42_0 hm42_1 ha0 hg_141) (cwV 3 hts g_M_hasTimes_M_boundOf_10 rfl rfl rfl (by decide +kernel) ⟨Nat.le_of_ble_eq_true rfl, Nat.le_of_ble_eq_true rfl⟩) ⟨pu_bl, va_recv hK hP (ci := 9) (q0 := 0) rfl rfl, pu_in hP hK hD⟩ rfl rfl hl.1 rfl (lv_room (Nat.le_of_ble_eq_true rfl)) dX9_hasTimes_102 ⟨Nat.le_of_ble_eq_true rfl, Nat.le_of_ble_eq_true rfl⟩) hS (fun q _ h => pu_fr hS hA q h) (pu_fr hS hA) (fun r_154 u t H1 locs ht hvm hw hB hz1 hk1 hS => ?_)
                have hP := pu_keep hP hk1
                clear hk1 hz1 ht hvm
                generalize H1 = H at hP hS ⊢
                refine lv_istore (lv' := [(11, .int r_154), (9, .long (0 : Int64)), (7, .long g_152), (0, .ref (ad 0)), (1, .int (nI a0)), (2, .int p1), (3, .int p2), (4, .int p3), (5, .int (nI g_141)), (6, .int (-1))]) hx hb dX9_hasTimes_105 hl (by decide) rfl (fun ls hl => ?_)
                refine lv_iload hx hb dX9_hasTimes_107 (lv_at hl 0 rfl) ?_
                refine lv_ldcw hx hb hown v_10 dX9_hasTimes_109 ?_
                refine lv_icmp_ge (tgt := 143) hx hb dX9_hasTimes_112 (by decide) (fun c_155 => ?_) (fun c_155 => ?_)
                · refine lv_iinc (v := 0) (lv' := [(6, .int 0), (11, .int r_154), (9, .long (0 : Int64)), (7, .long g_152), (0, .ref (ad 0)), (1, .int (nI a0)), (2, .int p1), (3, .int p2), (4, .int p3), (5, .int (nI g_141))]) hx hb dX9_hasTimes_143 hl (k := 9) rfl (by decide) (by decide) rfl (fun ls hl => ?_)
                  refine lv_goto (tgt := 15) hx hb dX9_hasTimes_146 (by decide) ?_
                  refine pu_while (fun nn H locs ls => ∃ (g_160 : Int32) (g_161 : Nat) (g_162 : Int64) (g_163 : Int64), nn = 3 - g_161 ∧ g_161 ≤ 3 ∧ va_P (dC, dI) vwCl (mo_w ad ck x0 (nI x16) (nI x18) (nI x19) x20 (nI x21) (nI x22) x23 x24 x25 (nI x26) x27 (nI x28) (nI x29) (nI x30) (nI x33) x45 (nI x46) (nI x52) (nI x53) (nI x61) (nI x62) (nI x63) (nI x65) x66 f1 f2 f3 (bN 3 q4) (bN 7 q5) (bN 7 q6) (bN 4 q7) f8 (bN 2 q9) (bH q10) f11 (b2 m12_0 m12_1) (b2 m13_0 m13_1) (b2 m14_0 m14_1) (b2m m15_0 m15_1) f17 (bA 159 q31) f32 f34 f35 f36 f37 (bN 7 q38) f39 f40 f41 (b2 m42_0 m42_1) f43 f44 f47 f48 f49 f50 f51 (bN 13 q54) (bN 120 q55) (bN 120 q56) f57 (bN 120 q58) f59 f60 f64) H ∧ va_D (fun _ => True) (mo_w ad ck x0 (nI x16) (nI x18) (nI x19) x20 (nI x21) (nI x22) x23 x24 x25 (nI x26) x27 (nI x28) (nI x29) (nI x30) (nI x33) x45 (nI x46) (nI x52) (nI x53) (nI x61) (nI x62) (nI x63) (nI x65) x66 f1 f2 f3 (bN 3 q4) (bN 7 q5) (bN 7 q6) (bN 4 q7) f8 (bN 2 q9) (bH q10) f11 (b2 m12_0 m12_1) (b2 m13_0 m13_1) (b2 m14_0 m14_1) (b2m m15_0 m15_1) f17 (bA 159 q31) f32 f34 f35 f36 f37 (bN 7 q38) f39 f40 f41 (b2 m42_0 m42_1) f43 f44 f47 f48 f49 f50 f51 (bN 13 q54) (bN 120 q55) (bN 120 q56) f57 (bN 120 q58) f59 f60 f64) ∧ va_S (va_A [] s.heap.size) s.heap H locs ∧ lv_has ls 12 [(0, .ref (ad 0)), (1, .int (nI a0)), (2, .int p1), (3, .int p2), (4, .int p3), (5, .int (nI g_141)), (6, .int (nI g_161)), (7, .long g_162), (9, .long g_163), (11, .int g_160)]) 15 ?_ _ _ _ _ ⟨r_154, 0, g_152, (0 : Int64), rfl, (Nat.le_of_ble_eq_true rfl), hP, hD, hS, lv_sub hl [4, 5, 6, 7, 8, 9, 0, 3, 2, 1] rfl⟩
                  rintro nn ih_164 H locs ls ⟨g_160, g_161, g_162, g_163, rfl, hg_161, hP, hD, hS, hl⟩
                  refine lv_iload hx hb dX9_hasTimes_15 (lv_at hl 6 rfl) ?_
                  refine lv_aload_n hx hb dX9_hasTimes_17 rfl (lv_at hl 0 rfl) ?_
                  refine va_calli (va_runV (As := []) (rest := [.int (nI g_161)]) ⟨hx, hb, hml, hown, hts⟩ (c_M_clocks l dC dI _ ad ck x0 x16 x18 x19 x20 x21 x22 x23 x24 x25 x26 x27 x28 x29 x30 x33 x45 x46 x52 x53 x61 x62 x63 x65 x66 f1 f2 f3 q4 q5 q6 q7 f8 q9 q10 f11 m12_0 m12_1 m13_0 m13_1 m14_0 m14_1 m15_0 m15_1 f17 q31 f32 f34 f35 f36 f37 q38 f39 f40 f41 m42_0 m42_1 f43 f44 f47 f48 f49 f50 f51 q54 q55 q56 f57 q58 f59 f60 f64 hx16 hx18 hx19 hx21 hx22 hx26 hx28 hx29 hx30 hx33 hx46 hx52 hx53 hx61 hx62 hx63 hx65 hm12_0 hm12_1 hm13_0 hm13_1 hm14_0 hm14_1 hm15_0 hm15_1 hm42_0 hm42_1) (cwV 0 hts g_M_hasTimes_M_clocks rfl rfl rfl (by decide +kernel) ⟨Nat.le_of_ble_eq_true rfl, Nat.le_of_ble_eq_true rfl⟩) ⟨pu_bl, va_recv hK hP (ci := 9) (q0 := 0) rfl rfl, pu_in hP hK hD⟩ rfl rfl hl.1 rfl (lv_room (Nat.le_of_ble_eq_true rfl)) dX9_hasTimes_18 ⟨Nat.le_of_ble_eq_true rfl, Nat.le_of_ble_eq_true rfl⟩) hS (fun q _ h => pu_fr hS hA q h) (pu_fr hS hA) (fun r_165 u t H1 locs ht hvm hw hB hz1 hk1 hS => ?_)
                  have hP := pu_keep hP hk1
                  clear hk1 hz1 ht hvm
                  generalize H1 = H at hP hS ⊢
                  obtain ⟨u_166, hu_166, rfl⟩ := hw
                  refine lv_icmp_ge (tgt := 149) hx hb dX9_hasTimes_21 (by decide) (fun c_167 => ?_) (fun c_167 => ?_)
                  · have c_167 : u_166 ≤ g_161 := (nI_leI (a := u_166) (b := g_161) (Nat.lt_of_le_of_lt hu_166 (Nat.le_of_ble_eq_true rfl)) (Nat.lt_of_le_of_lt hg_161 (Nat.le_of_ble_eq_true rfl))).mp c_167
                    refine lv_iinc (v := (nI (g_141 + 1))) (lv' := [(5, .int (nI (g_141 + 1))), (0, .ref (ad 0)), (1, .int (nI a0)), (2, .int p1), (3, .int p2), (4, .int p3), (6, .int (nI g_161)), (7, .long g_162), (9, .long g_163), (11, .int g_160)]) hx hb dX9_hasTimes_149 hl (k := 5) rfl (nI_1 _) (by decide) rfl (fun ls hl => ?_)
                    refine lv_goto (tgt := 3) hx hb dX9_hasTimes_152 (by decide) ?_
                    exact ih_145 (3 - (g_141 + 1)) (by omega) _ _ _ ⟨g_160, (g_141 + 1), (nI g_161), g_162, g_163, rfl, (by omega), hP, hD, hS, lv_sub hl [1, 2, 3, 4, 5, 0, 6, 7, 8, 9] rfl⟩
                  · have c_167 : ¬ u_166 ≤ g_161 := fun z => c_167 ((nI_leI (a := u_166) (b := g_161) (Nat.lt_of_le_of_lt hu_166 (Nat.le_of_ble_eq_true rfl)) (Nat.lt_of_le_of_lt hg_161 (Nat.le_of_ble_eq_true rfl))).mpr z)
                    refine lv_iload hx hb dX9_hasTimes_24 (lv_at hl 5 rfl) ?_
                    refine pu_join (fun H locs ls st => ∃ (g_168 : Int64), st = [.long g_168] ∧ va_P (dC, dI) vwCl (mo_w ad ck x0 (nI x16) (nI x18) (nI x19) x20 (nI x21) (nI x22) x23 x24 x25 (nI x26) x27 (nI x28) (nI x29) (nI x30) (nI x33) x45 (nI x46) (nI x52) (nI x53) (nI x61) (nI x62) (nI x63) (nI x65) x66 f1 f2 f3 (bN 3 q4) (bN 7 q5) (bN 7 q6) (bN 4 q7) f8 (bN 2 q9) (bH q10) f11 (b2 m12_0 m12_1) (b2 m13_0 m13_1) (b2 m14_0 m14_1) (b2m m15_0 m15_1) f17 (bA 159 q31) f32 f34 f35 f36 f37 (bN 7 q38) f39 f40 f41 (b2 m42_0 m42_1) f43 f44 f47 f48 f49 f50 f51 (bN 13 q54) (bN 120 q55) (bN 120 q56) f57 (bN 120 q58) f59 f60 f64) H ∧ va_D (fun _ => True) (mo_w ad ck x0 (nI x16) (nI x18) (nI x19) x20 (nI x21) (nI x22) x23 x24 x25 (nI x26) x27 (nI x28) (nI x29) (nI x30) (nI x33) x45 (nI x46) (nI x52) (nI x53) (nI x61) (nI x62) (nI x63) (nI x65) x66 f1 f2 f3 (bN 3 q4) (bN 7 q5) (bN 7 q6) (bN 4 q7) f8 (bN 2 q9) (bH q10) f11 (b2 m12_0 m12_1) (b2 m13_0 m13_1) (b2 m14_0 m14_1) (b2m m15_0 m15_1) f17 (bA 159 q31) f32 f34 f35 f36 f37 (bN 7 q38) f39 f40 f41 (b2 m42_0 m42_1) f43 f44 f47 f48 f49 f50 f51 (bN 13 q54) (bN 120 q55) (bN 120 q56) f57 (bN 120 q58) f59 f60 f64) ∧ va_S (va_A [] s.heap.size) s.heap H locs ∧ lv_has ls 12 [(0, .ref (ad 0)), (1, .int (nI a0)), (2, .int p1), (3, .int p2), (4, .int p3), (5, .int (nI g_141)), (6, .int (nI g_161)), (7, .long g_162), (9, .long g_163), (11, .int g_160)]) 58 ?_ (fun j_169 => ?_)
                    · rintro H locs ls st ⟨g_168, rfl, hP, hD, hS, hl⟩
                      refine lv_lstore (lv' := [(7, .long g_168), (0, .ref (ad 0)), (1, .int (nI a0)), (2, .int p1), (3, .int p2), (4, .int p3), (5, .int (nI g_141)), (6, .int (nI g_161)), (9, .long g_163), (11, .int g_160)]) hx hb dX9_hasTimes_58 hl (by decide) rfl (fun ls hl => ?_)
                      refine lv_iload hx hb dX9_hasTimes_60 (lv_at hl 7 rfl) ?_
                      refine pu_join (fun H locs ls st => ∃ (g_170 : Int64), st = [.long g_170] ∧ va_P (dC, dI) vwCl (mo_w ad ck x0 (nI x16) (nI x18) (nI x19) x20 (nI x21) (nI x22) x23 x24 x25 (nI x26) x27 (nI x28) (nI x29) (nI x30) (nI x33) x45 (nI x46) (nI x52) (nI x53) (nI x61) (nI x62) (nI x63) (nI x65) x66 f1 f2 f3 (bN 3 q4) (bN 7 q5) (bN 7 q6) (bN 4 q7) f8 (bN 2 q9) (bH q10) f11 (b2 m12_0 m12_1) (b2 m13_0 m13_1) (b2 m14_0 m14_1) (b2m m15_0 m15_1) f17 (bA 159 q31) f32 f34 f35 f36 f37 (bN 7 q38) f39 f40 f41 (b2 m42_0 m42_1) f43 f44 f47 f48 f49 f50 f51 (bN 13 q54) (bN 120 q55) (bN 120 q56) f57 (bN 120 q58) f59 f60 f64) H ∧ va_D (fun _ => True) (mo_w ad ck x0 (nI x16) (nI x18) (nI x19) x20 (nI x21) (nI x22) x23 x24 x25 (nI x26) x27 (nI x28) (nI x29) (nI x30) (nI x33) x45 (nI x46) (nI x52) (nI x53) (nI x61) (nI x62) (nI x63) (nI x65) x66 f1 f2 f3 (bN 3 q4) (bN 7 q5) (bN 7 q6) (bN 4 q7) f8 (bN 2 q9) (bH q10) f11 (b2 m12_0 m12_1) (b2 m13_0 m13_1) (b2 m14_0 m14_1) (b2m m15_0 m15_1) f17 (bA 159 q31) f32 f34 f35 f36 f37 (bN 7 q38) f39 f40 f41 (b2 m42_0 m42_1) f43 f44 f47 f48 f49 f50 f51 (bN 13 q54) (bN 120 q55) (bN 120 q56) f57 (bN 120 q58) f59 f60 f64) ∧ va_S (va_A [] s.heap.size) s.heap H locs ∧ lv_has ls 12 [(0, .ref (ad 0)), (1, .int (nI a0)), (2, .int p1), (3, .int p2), (4, .int p3), (5, .int (nI g_141)), (6, .int (nI g_161)), (7, .long g_168), (9, .long g_163), (11, .int g_160)]) 94 ?_ (fun j_171 => ?_)
                      · rintro H locs ls st ⟨g_170, rfl, hP, hD, hS, hl⟩
                        refine lv_lstore (lv' := [(9, .long g_170), (0, .ref (ad 0)), (1, .int (nI a0)), (2, .int p1), (3, .int p2), (4, .int p3), (5, .int (nI g_141)), (6, .int (nI g_161)), (7, .long g_168), (11, .int g_160)]) hx hb dX9_hasTimes_94 hl (by decide) rfl (fun ls hl => ?_)
                        refine lv_aload_n hx hb dX9_hasTimes_96 rfl (lv_at hl 1 rfl) ?_
                        refine lv_iload_n hx hb dX9_hasTimes_97 rfl (lv_at hl 2 rfl) ?_
                        refine lv_iload hx hb dX9_hasTimes_98 (lv_at hl 6 rfl) ?_
                        refine lv_iload hx hb dX9_hasTimes_100 (lv_at hl 7 rfl) ?_
                        refine va_calli (va_runV (As := [.int (nI a0), .int (nI g_141), .int (nI g_161)]) (rest := []) ⟨hx, hb, hml, hown, hts⟩ (c_M_boundOf_11 l dC dI _ ad ck x0 x16 x18 x19 x20 x21 x22 x23 x24 x25 x26 x27 x28 x29 x30 x33 x45 x46 x52 x53 x61 x62 x63 x65 x66 f1 f2 f3 q4 q5 q6 q7 f8 q9 q10 f11 m12_0 m12_1 m13_0 m13_1 m14_0 m14_1 m15_0 m15_1 f17 q31 f32 f34 f35 f36 f37 q38 f39 f40 f41 m42_0 m42_1 f43 f44 f47 f48 f49 f50 f51 q54 q55 q56 f57 q58 f59 f60 f64 a0 g_141 g_161 hx16 hx18 hx19 hx21 hx22 hx26 hx28 hx29 hx30 hx33 hx46 hx52 hx53 hx61 hx62 hx63 hx65 hm12_0 hm12_1 hm13_0 hm13_1 hm14_0 hm14_1 hm15_0 hm15_1 hm42_0 hm42_1 ha0 hg_141 hg_161) (cwV 3 hts g_M_hasTimes_M_boundOf_11 rfl rfl rfl (by decide +kernel) ⟨Nat.le_of_ble_eq_true rfl, Nat.le_of_ble_eq_true rfl⟩) ⟨pu_bl, va_recv hK hP (ci := 9) (q0 := 0) rfl rfl, pu_in hP hK hD⟩ rfl rfl hl.1 rfl (lv_room (Nat.le_of_ble_eq_true rfl)) dX9_hasTimes_102 ⟨Nat.le_of_ble_eq_true rfl, Nat.le_of_ble_eq_true rfl⟩) hS (fun q _ h => pu_fr hS hA q h) (pu_fr hS hA) (fun r_172 u t H1 locs ht hvm hw hB hz1 hk1 hS => ?_)
                        have hP := pu_keep hP hk1
                        clear hk1 hz1 ht hvm
                        generalize H1 = H at hP hS ⊢
                        refine lv_istore (lv' := [(11, .int r_172), (9, .long g_170), (0, .ref (ad 0)), (1, .int (nI a0)), (2, .int p1), (3, .int p2), (4, .int p3), (5, .int (nI g_141)), (6, .int (nI g_161)), (7, .long g_168)]) hx hb dX9_hasTimes_105 hl (by decide) rfl (fun ls hl => ?_)
                        refine lv_iload hx hb dX9_hasTimes_107 (lv_at hl 0 rfl) ?_
                        refine lv_ldcw hx hb hown v_10 dX9_hasTimes_109 ?_
                        refine lv_icmp_ge (tgt := 143) hx hb dX9_hasTimes_112 (by decide) (fun c_173 => ?_) (fun c_173 => ?_)
                        · refine lv_iinc (v := (nI (g_161 + 1))) (lv' := [(6, .int (nI (g_161 + 1))), (11, .int r_172), (9, .long g_170), (0, .ref (ad 0)), (1, .int (nI a0)), (2, .int p1), (3, .int p2), (4, .int p3), (5, .int (nI g_141)), (7, .long g_168)]) hx hb dX9_hasTimes_143 hl (k := 8) rfl (nI_1 _) (by decide) rfl (fun ls hl => ?_)
                          refine lv_goto (tgt := 15) hx hb dX9_hasTimes_146 (by decide) ?_
                          exact ih_164 (3 - (g_161 + 1)) (by omega) _ _ _ ⟨r_172, (g_161 + 1), g_168, g_170, rfl, (by omega), hP, hD, hS, lv_sub hl [3, 4, 5, 6, 7, 8, 0, 9, 2, 1] rfl⟩
                        · refine lv_lload hx hb dX9_hasTimes_115 (lv_at hl 9 rfl) ?_
                          refine lv_lload hx hb dX9_hasTimes_117 (lv_at hl 1 rfl) ?_
                          refine lv_lsub hx hb dX9_hasTimes_119 ?_
                          refine lv_topl (fun y_174 ey_174 => ?_)
                          refine lv_iload hx hb dX9_hasTimes_120 (lv_at hl 0 rfl) ?_
                          refine lv_iconst (v := 1) hx hb dX9_hasTimes_122 (by decide) ?_
                          refine lv_ishr hx hb dX9_hasTimes_123 ?_
                          refine lv_topi (fun y_175 ey_175 => ?_)
                          refine lv_i2l (v := y_175.toInt64) hx hb dX9_hasTimes_124 rfl ?_
                          refine lv_topl (fun y_176 ey_176 => ?_)
                          refine lv_ldc2 (v := (256)) hx hb hown v_11 dX9_hasTimes_125 ?_
                          refine lv_lmul hx hb dX9_hasTimes_128 ?_
                          refine lv_topl (fun y_177 ey_177 => ?_)
                          refine lv_lconst (v := (1 : Int64)) hx hb dX9_hasTimes_129 rfl ?_
                          refine lv_lsub hx hb dX9_hasTimes_130 ?_
                          refine lv_topl (fun y_178 ey_178 => ?_)
                          refine lv_iload hx hb dX9_hasTimes_131 (lv_at hl 0 rfl) ?_
                          refine lv_iconst (v := 1) hx hb dX9_hasTimes_133 (by decide) ?_
                          refine lv_iand hx hb dX9_hasTimes_134 ?_
                          refine lv_topi (fun y_179 ey_179 => ?_)
                          refine lv_i2l (v := y_179.toInt64) hx hb dX9_hasTimes_135 rfl ?_
                          refine lv_topl (fun y_180 ey_180 => ?_)
                          refine lv_ladd hx hb dX9_hasTimes_136 ?_
                          refine lv_topl (fun y_181 ey_181 => ?_)
                          refine W.lcmp hx hb dX9_hasTimes_137 ?_
                          refine lv_topi (fun y_182 ey_182 => ?_)
                          refine lv_if_le (tgt := 143) hx hb dX9_hasTimes_138 (by decide) (fun c_183 => ?_) (fun c_183 => ?_)
                          · refine lv_iinc (v := (nI (g_161 + 1))) (lv' := [(6, .int (nI (g_161 + 1))), (11, .int r_172), (9, .long g_170), (0, .ref (ad 0)), (1, .int (nI a0)), (2, .int p1), (3, .int p2), (4, .int p3), (5, .int (nI g_141)), (7, .long g_168)]) hx hb dX9_hasTimes_143 hl (k := 8) rfl (nI_1 _) (by decide) rfl (fun ls hl => ?_)
                            refine lv_goto (tgt := 15) hx hb dX9_hasTimes_146 (by decide) ?_
                            exact ih_164 (3 - (g_161 + 1)) (by omega) _ _ _ ⟨r_172, (g_161 + 1), g_168, g_170, rfl, (by omega), hP, hD, hS, lv_sub hl [3, 4, 5, 6, 7, 8, 0, 9, 2, 1] rfl⟩
                          · refine lv_iconst (v := 0) hx hb dX9_hasTimes_141 (by decide) ?_
                            exact W.zret (v := 0) (ty := .boolean) hx hb hr (rfl) (fun t ht hW => ⟨⟨0, (), rfl, ⟨0, (Nat.le_of_ble_eq_true rfl), rfl⟩, trivial⟩, hS.F ht⟩) hS.2.2 dX9_hasTimes_142
                      refine lv_if_ne (tgt := 70) hx hb dX9_hasTimes_62 (by decide) (fun c_184 => ?_) (fun c_184 => ?_)
                      · have c_184 : ¬ g_161 = 0 := fun z => c_184 ((nI_eq (a := g_161) (b := 0) (Nat.lt_of_le_of_lt hg_161 (Nat.le_of_ble_eq_true rfl)) (Nat.le_of_ble_eq_true rfl)).mpr z)
                        refine lv_iload hx hb dX9_hasTimes_70 (lv_at hl 7 rfl) ?_
                        refine lv_iconst (v := 1) hx hb dX9_hasTimes_72 (by decide) ?_
                        refine lv_icmp_ne (tgt := 81) hx hb dX9_hasTimes_73 (by decide) (fun c_185 => ?_) (fun c_185 => ?_)
                        · have c_185 : ¬ g_161 = 1 := fun z => c_185 ((nI_eq (a := g_161) (b := 1) (Nat.lt_of_le_of_lt hg_161 (Nat.le_of_ble_eq_true rfl)) (Nat.le_of_ble_eq_true rfl)).mpr z)
                          refine lv_iload hx hb dX9_hasTimes_81 (lv_at hl 7 rfl) ?_
                          refine lv_iconst (v := 2) hx hb dX9_hasTimes_83 (by decide) ?_
                          refine lv_icmp_ne (tgt := 93) hx hb dX9_hasTimes_84 (by decide) (fun c_186 => ?_) (fun c_186 => ?_)
                          · have c_186 : ¬ g_161 = 2 := fun z => c_186 ((nI_eq (a := g_161) (b := 2) (Nat.lt_of_le_of_lt hg_161 (Nat.le_of_ble_eq_true rfl)) (Nat.le_of_ble_eq_true rfl)).mpr z)
                            exfalso
                            omega
                          · have c_186 : g_161 = 2 := (nI_eq (a := g_161) (b := 2) (Nat.lt_of_le_of_lt hg_161 (Nat.le_of_ble_eq_true rfl)) (Nat.le_of_ble_eq_true rfl)).mp c_186
                            refine lv_iload hx hb dX9_hasTimes_87 (lv_at hl 5 rfl) ?_
                            refine lv_i2l (v := p3.toInt64) hx hb dX9_hasTimes_89 rfl ?_
                            refine lv_topl (fun y_187 ey_187 => ?_)
                            refine lv_goto (tgt := 94) hx hb dX9_hasTimes_90 (by decide) ?_
                            exact j_171 _ _ _ _ ⟨y_187, rfl, hP, hD, hS, lv_sub hl [1, 2, 3, 4, 5, 6, 7, 0, 8, 9] rfl⟩
                        · have c_185 : g_161 = 1 := (nI_eq (a := g_161) (b := 1) (Nat.lt_of_le_of_lt hg_161 (Nat.le_of_ble_eq_true rfl)) (Nat.le_of_ble_eq_true rfl)).mp c_185
                          refine lv_iload_n hx hb dX9_hasTimes_76 rfl (lv_at hl 4 rfl) ?_
                          refine lv_i2l (v := p2.toInt64) hx hb dX9_hasTimes_77 rfl ?_
                          refine lv_topl (fun y_188 ey_188 => ?_)
                          refine lv_goto (tgt := 94) hx hb dX9_hasTimes_78 (by decide) ?_
                          exact j_171 _ _ _ _ ⟨y_188, rfl, hP, hD, hS, lv_sub hl [1, 2, 3, 4, 5, 6, 7, 0, 8, 9] rfl⟩
                      · have c_184 : g_161 = 0 := (nI_eq (a := g_161) (b := 0) (Nat.lt_of_le_of_lt hg_161 (Nat.le_of_ble_eq_true rfl)) (Nat.le_of_ble_eq_true rfl)).mp c_184
                        refine lv_iload_n hx hb dX9_hasTimes_65 rfl (lv_at hl 3 rfl) ?_
                        refine lv_i2l (v := p1.toInt64) hx hb dX9_hasTimes_66 rfl ?_
                        refine lv_topl (fun y_189 ey_189 => ?_)
                        refine lv_goto (tgt := 94) hx hb dX9_hasTimes_67 (by decide) ?_
                        exact j_171 _ _ _ _ ⟨y_189, rfl, hP, hD, hS, lv_sub hl [1, 2, 3, 4, 5, 6, 7, 0, 8, 9] rfl⟩
                    refine lv_if_ne (tgt := 34) hx hb dX9_hasTimes_26 (by decide) (fun c_190 => ?_) (fun c_190 => ?_)
                    · have c_190 : ¬ g_141 = 0 := fun z => c_190 ((nI_eq (a := g_141) (b := 0) (Nat.lt_of_le_of_lt hg_141 (Nat.le_of_ble_eq_true rfl)) (Nat.le_of_ble_eq_true rfl)).mpr z)
                      refine lv_iload hx hb dX9_hasTimes_34 (lv_at hl 5 rfl) ?_
                      refine lv_iconst (v := 1) hx hb dX9_hasTimes_36 (by decide) ?_
                      refine lv_icmp_ne (tgt := 45) hx hb dX9_hasTimes_37 (by decide) (fun c_191 => ?_) (fun c_191 => ?_)
                      · have c_191 : ¬ g_141 = 1 := fun z => c_191 ((nI_eq (a := g_141) (b := 1) (Nat.lt_of_le_of_lt hg_141 (Nat.le_of_ble_eq_true rfl)) (Nat.le_of_ble_eq_true rfl)).mpr z)
                        refine lv_iload hx hb dX9_hasTimes_45 (lv_at hl 5 rfl) ?_
                        refine lv_iconst (v := 2) hx hb dX9_hasTimes_47 (by decide) ?_
                        refine lv_icmp_ne (tgt := 57) hx hb dX9_hasTimes_48 (by decide) (fun c_192 => ?_) (fun c_192 => ?_)
                        · have c_192 : ¬ g_141 = 2 := fun z => c_192 ((nI_eq (a := g_141) (b := 2) (Nat.lt_of_le_of_lt hg_141 (Nat.le_of_ble_eq_true rfl)) (Nat.le_of_ble_eq_true rfl)).mpr z)
                          exfalso
                          omega
                        · have c_192 : g_141 = 2 := (nI_eq (a := g_141) (b := 2) (Nat.lt_of_le_of_lt hg_141 (Nat.le_of_ble_eq_true rfl)) (Nat.le_of_ble_eq_true rfl)).mp c_192
                          refine lv_iload hx hb dX9_hasTimes_51 (lv_at hl 4 rfl) ?_
                          refine lv_i2l (v := p3.toInt64) hx hb dX9_hasTimes_53 rfl ?_
                          refine lv_topl (fun y_193 ey_193 => ?_)
                          refine lv_goto (tgt := 58) hx hb dX9_hasTimes_54 (by decide) ?_
                          exact j_169 _ _ _ _ ⟨y_193, rfl, hP, hD, hS, lv_sub hl [0, 1, 2, 3, 4, 5, 6, 7, 8, 9] rfl⟩
                      · have c_191 : g_141 = 1 := (nI_eq (a := g_141) (b := 1) (Nat.lt_of_le_of_lt hg_141 (Nat.le_of_ble_eq_true rfl)) (Nat.le_of_ble_eq_true rfl)).mp c_191
                        refine lv_iload_n hx hb dX9_hasTimes_40 rfl (lv_at hl 3 rfl) ?_
                        refine lv_i2l (v := p2.toInt64) hx hb dX9_hasTimes_41 rfl ?_
                        refine lv_topl (fun y_194 ey_194 => ?_)
                        refine lv_goto (tgt := 58) hx hb dX9_hasTimes_42 (by decide) ?_
                        exact j_169 _ _ _ _ ⟨y_194, rfl, hP, hD, hS, lv_sub hl [0, 1, 2, 3, 4, 5, 6, 7, 8, 9] rfl⟩
                    · have c_190 : g_141 = 0 := (nI_eq (a := g_141) (b := 0) (Nat.lt_of_le_of_lt hg_141 (Nat.le_of_ble_eq_true rfl)) (Nat.le_of_ble_eq_true rfl)).mp c_190
                      refine lv_iload_n hx hb dX9_hasTimes_29 rfl (lv_at hl 2 rfl) ?_
                      refine lv_i2l (v := p1.toInt64) hx hb dX9_hasTimes_30 rfl ?_
                      refine lv_topl (fun y_195 ey_195 => ?_)
                      refine lv_goto (tgt := 58) hx hb dX9_hasTimes_31 (by decide) ?_
                      exact j_169 _ _ _ _ ⟨y_195, rfl, hP, hD, hS, lv_sub hl [0, 1, 2, 3, 4, 5, 6, 7, 8, 9] rfl⟩
                · refine lv_lload hx hb dX9_hasTimes_115 (lv_at hl 2 rfl) ?_
                  refine lv_lload hx hb dX9_hasTimes_117 (lv_at hl 1 rfl) ?_
                  refine lv_lsub hx hb dX9_hasTimes_119 ?_
                  refine lv_topl (fun y_196 ey_196 => ?_)
                  refine lv_iload hx hb dX9_hasTimes_120 (lv_at hl 0 rfl) ?_
                  refine lv_iconst (v := 1) hx hb dX9_hasTimes_122 (by decide) ?_
                  refine lv_ishr hx hb dX9_hasTimes_123 ?_
                  refine lv_topi (fun y_197 ey_197 => ?_)
                  refine lv_i2l (v := y_197.toInt64) hx hb dX9_hasTimes_124 rfl ?_
                  refine lv_topl (fun y_198 ey_198 => ?_)
                  refine lv_ldc2 (v := (256)) hx hb hown v_11 dX9_hasTimes_125 ?_
                  refine lv_lmul hx hb dX9_hasTimes_128 ?_
                  refine lv_topl (fun y_199 ey_199 => ?_)
                  refine lv_lconst (v := (1 : Int64)) hx hb dX9_hasTimes_129 rfl ?_
                  refine lv_lsub hx hb dX9_hasTimes_130 ?_
                  refine lv_topl (fun y_200 ey_200 => ?_)
                  refine lv_iload hx hb dX9_hasTimes_131 (lv_at hl 0 rfl) ?_
                  refine lv_iconst (v := 1) hx hb dX9_hasTimes_133 (by decide) ?_
                  refine lv_iand hx hb dX9_hasTimes_134 ?_
                  refine lv_topi (fun y_201 ey_201 => ?_)
                  refine lv_i2l (v := y_201.toInt64) hx hb dX9_hasTimes_135 rfl ?_
                  refine lv_topl (fun y_202 ey_202 => ?_)
                  refine lv_ladd hx hb dX9_hasTimes_136 ?_
                  refine lv_topl (fun y_203 ey_203 => ?_)
                  refine W.lcmp hx hb dX9_hasTimes_137 ?_
                  refine lv_topi (fun y_204 ey_204 => ?_)
                  refine lv_if_le (tgt := 143) hx hb dX9_hasTimes_138 (by decide) (fun c_205 => ?_) (fun c_205 => ?_)
                  · refine lv_iinc (v := 0) (lv' := [(6, .int 0), (11, .int r_154), (9, .long (0 : Int64)), (7, .long g_152), (0, .ref (ad 0)), (1, .int (nI a0)), (2, .int p1), (3, .int p2), (4, .int p3), (5, .int (nI g_141))]) hx hb dX9_hasTimes_143 hl (k := 9) rfl (by decide) (by decide) rfl (fun ls hl => ?_)
                    refine lv_goto (tgt := 15) hx hb dX9_hasTimes_146 (by decide) ?_
                    refine pu_while (fun nn H locs ls => ∃ (g_210 : Int32) (g_211 : Nat) (g_212 : Int64) (g_213 : Int64), nn = 3 - g_211 ∧ g_211 ≤ 3 ∧ va_P (dC, dI) vwCl (mo_w ad ck x0 (nI x16) (nI x18) (nI x19) x20 (nI x21) (nI x22) x23 x24 x25 (nI x26) x27 (nI x28) (nI x29) (nI x30) (nI x33) x45 (nI x46) (nI x52) (nI x53) (nI x61) (nI x62) (nI x63) (nI x65) x66 f1 f2 f3 (bN 3 q4) (bN 7 q5) (bN 7 q6) (bN 4 q7) f8 (bN 2 q9) (bH q10) f11 (b2 m12_0 m12_1) (b2 m13_0 m13_1) (b2 m14_0 m14_1) (b2m m15_0 m15_1) f17 (bA 159 q31) f32 f34 f35 f36 f37 (bN 7 q38) f39 f40 f41 (b2 m42_0 m42_1) f43 f44 f47 f48 f49 f50 f51 (bN 13 q54) (bN 120 q55) (bN 120 q56) f57 (bN 120 q58) f59 f60 f64) H ∧ va_D (fun _ => True) (mo_w ad ck x0 (nI x16) (nI x18) (nI x19) x20 (nI x21) (nI x22) x23 x24 x25 (nI x26) x27 (nI x28) (nI x29) (nI x30) (nI x33) x45 (nI x46) (nI x52) (nI x53) (nI x61) (nI x62) (nI x63) (nI x65) x66 f1 f2 f3 (bN 3 q4) (bN 7 q5) (bN 7 q6) (bN 4 q7) f8 (bN 2 q9) (bH q10) f11 (b2 m12_0 m12_1) (b2 m13_0 m13_1) (b2 m14_0 m14_1) (b2m m15_0 m15_1) f17 (bA 159 q31) f32 f34 f35 f36 f37 (bN 7 q38) f39 f40 f41 (b2 m42_0 m42_1) f43 f44 f47 f48 f49 f50 f51 (bN 13 q54) (bN 120 q55) (bN 120 q56) f57 (bN 120 q58) f59 f60 f64) ∧ va_S (va_A [] s.heap.size) s.heap H locs ∧ lv_has ls 12 [(0, .ref (ad 0)), (1, .int (nI a0)), (2, .int p1), (3, .int p2), (4, .int p3), (5, .int (nI g_141)), (6, .int (nI g_211)), (7, .long g_212), (9, .long g_213), (11, .int g_210)]) 15 ?_ _ _ _ _ ⟨r_154, 0, g_152, (0 : Int64), rfl, (Nat.le_of_ble_eq_true rfl), hP, hD, hS, lv_sub hl [4, 5, 6, 7, 8, 9, 0, 3, 2, 1] rfl⟩
                    rintro nn ih_214 H locs ls ⟨g_210, g_211, g_212, g_213, rfl, hg_211, hP, hD, hS, hl⟩
                    refine lv_iload hx hb dX9_hasTimes_15 (lv_at hl 6 rfl) ?_
                    refine lv_aload_n hx hb dX9_hasTimes_17 rfl (lv_at hl 0 rfl) ?_
                    refine va_calli (va_runV (As := []) (rest := [.int (nI g_211)]) ⟨hx, hb, hml, hown, hts⟩ (c_M_clocks l dC dI _ ad ck x0 x16 x18 x19 x20 x21 x22 x23 x24 x25 x26 x27 x28 x29 x30 x33 x45 x46 x52 x53 x61 x62 x63 x65 x66 f1 f2 f3 q4 q5 q6 q7 f8 q9 q10 f11 m12_0 m12_1 m13_0 m13_1 m14_0 m14_1 m15_0 m15_1 f17 q31 f32 f34 f35 f36 f37 q38 f39 f40 f41 m42_0 m42_1 f43 f44 f47 f48 f49 f50 f51 q54 q55 q56 f57 q58 f59 f60 f64 hx16 hx18 hx19 hx21 hx22 hx26 hx28 hx29 hx30 hx33 hx46 hx52 hx53 hx61 hx62 hx63 hx65 hm12_0 hm12_1 hm13_0 hm13_1 hm14_0 hm14_1 hm15_0 hm15_1 hm42_0 hm42_1) (cwV 0 hts g_M_hasTimes_M_clocks rfl rfl rfl (by decide +kernel) ⟨Nat.le_of_ble_eq_true rfl, Nat.le_of_ble_eq_true rfl⟩) ⟨pu_bl, va_recv hK hP (ci := 9) (q0 := 0) rfl rfl, pu_in hP hK hD⟩ rfl rfl hl.1 rfl (lv_room (Nat.le_of_ble_eq_true rfl)) dX9_hasTimes_18 ⟨Nat.le_of_ble_eq_true rfl, Nat.le_of_ble_eq_true rfl⟩) hS (fun q _ h => pu_fr hS hA q h) (pu_fr hS hA) (fun r_215 u t H1 locs ht hvm hw hB hz1 hk1 hS => ?_)
                    have hP := pu_keep hP hk1
                    clear hk1 hz1 ht hvm
                    generalize H1 = H at hP hS ⊢
                    obtain ⟨u_216, hu_216, rfl⟩ := hw
                    refine lv_icmp_ge (tgt := 149) hx hb dX9_hasTimes_21 (by decide) (fun c_217 => ?_) (fun c_217 => ?_)
                    · have c_217 : u_216 ≤ g_211 := (nI_leI (a := u_216) (b := g_211) (Nat.lt_of_le_of_lt hu_216 (Nat.le_of_ble_eq_true rfl)) (Nat.lt_of_le_of_lt hg_211 (Nat.le_of_ble_eq_true rfl))).mp c_217
                      refine lv_iinc (v := (nI (g_141 + 1))) (lv' := [(5, .int (nI (g_141 + 1))), (0, .ref (ad 0)), (1, .int (nI a0)), (2, .int p1), (3, .int p2), (4, .int p3), (6, .int (nI g_211)), (7, .long g_212), (9, .long g_213), (11, .int g_210)]) hx hb dX9_hasTimes_149 hl (k := 5) rfl (nI_1 _) (by decide) rfl (fun ls hl => ?_)
                      refine lv_goto (tgt := 3) hx hb dX9_hasTimes_152 (by decide) ?_
                      exact ih_145 (3 - (g_141 + 1)) (by omega) _ _ _ ⟨g_210, (g_141 + 1), (nI g_211), g_212, g_213, rfl, (by omega), hP, hD, hS, lv_sub hl [1, 2, 3, 4, 5, 0, 6, 7, 8, 9] rfl⟩
                    · have c_217 : ¬ u_216 ≤ g_211 := fun z => c_217 ((nI_leI (a := u_216) (b := g_211) (Nat.lt_of_le_of_lt hu_216 (Nat.le_of_ble_eq_true rfl)) (Nat.lt_of_le_of_lt hg_211 (Nat.le_of_ble_eq_true rfl))).mpr z)
                      refine lv_iload hx hb dX9_hasTimes_24 (lv_at hl 5 rfl) ?_
                      refine pu_join (fun H locs ls st => ∃ (g_218 : Int64), st = [.long g_218] ∧ va_P (dC, dI) vwCl (mo_w ad ck x0 (nI x16) (nI x18) (nI x19) x20 (nI x21) (nI x22) x23 x24 x25 (nI x26) x27 (nI x28) (nI x29) (nI x30) (nI x33) x45 (nI x46) (nI x52) (nI x53) (nI x61) (nI x62) (nI x63) (nI x65) x66 f1 f2 f3 (bN 3 q4) (bN 7 q5) (bN 7 q6) (bN 4 q7) f8 (bN 2 q9) (bH q10) f11 (b2 m12_0 m12_1) (b2 m13_0 m13_1) (b2 m14_0 m14_1) (b2m m15_0 m15_1) f17 (bA 159 q31) f32 f34 f35 f36 f37 (bN 7 q38) f39 f40 f41 (b2 m42_0 m42_1) f43 f44 f47 f48 f49 f50 f51 (bN 13 q54) (bN 120 q55) (bN 120 q56) f57 (bN 120 q58) f59 f60 f64) H ∧ va_D (fun _ => True) (mo_w ad ck x0 (nI x16) (nI x18) (nI x19) x20 (nI x21) (nI x22) x23 x24 x25 (nI x26) x27 (nI x28) (nI x29) (nI x30) (nI x33) x45 (nI x46) (nI x52) (nI x53) (nI x61) (nI x62) (nI x63) (nI x65) x66 f1 f2 f3 (bN 3 q4) (bN 7 q5) (bN 7 q6) (bN 4 q7) f8 (bN 2 q9) (bH q10) f11 (b2 m12_0 m12_1) (b2 m13_0 m13_1) (b2 m14_0 m14_1) (b2m m15_0 m15_1) f17 (bA 159 q31) f32 f34 f35 f36 f37 (bN 7 q38) f39 f40 f41 (b2 m42_0 m42_1) f43 f44 f47 f48 f49 f50 f51 (bN 13 q54) (bN 120 q55) (bN 120 q56) f57 (bN 120 q58) f59 f60 f64) ∧ va_S (va_A [] s.heap.size) s.heap H locs ∧ lv_has ls 12 [(0, .ref (ad 0)), (1, .int (nI a0)), (2, .int p1), (3, .int p2), (4, .int p3), (5, .int (nI g_141)), (6, .int (nI g_211)), (7, .long g_212), (9, .long g_213), (11, .int g_210)]) 58 ?_ (fun j_219 => ?_)
                      · rintro H locs ls st ⟨g_218, rfl, hP, hD, hS, hl⟩
                        refine lv_lstore (lv' := [(7, .long g_218), (0, .ref (ad 0)), (1, .int (nI a0)), (2, .int p1), (3, .int p2), (4, .int p3), (5, .int (nI g_141)), (6, .int (nI g_211)), (9, .long g_213), (11, .int g_210)]) hx hb dX9_hasTimes_58 hl (by decide) rfl (fun ls hl => ?_)
                        refine lv_iload hx hb dX9_hasTimes_60 (lv_at hl 7 rfl) ?_
                        refine pu_join (fun H locs ls st => ∃ (g_220 : Int64), st = [.long g_220] ∧ va_P (dC, dI) vwCl (mo_w ad ck x0 (nI x16) (nI x18) (nI x19) x20 (nI x21) (nI x22) x23 x24 x25 (nI x26) x27 (nI x28) (nI x29) (nI x30) (nI x33) x45 (nI x46) (nI x52) (nI x53) (nI x61) (nI x62) (nI x63) (nI x65) x66 f1 f2 f3 (bN 3 q4) (bN 7 q5) (bN 7 q6) (bN 4 q7) f8 (bN 2 q9) (bH q10) f11 (b2 m12_0 m12_1) (b2 m13_0 m13_1) (b2 m14_0 m14_1) (b2m m15_0 m15_1) f17 (bA 159 q31) f32 f34 f35 f36 f37 (bN 7 q38) f39 f40 f41 (b2 m42_0 m42_1) f43 f44 f47 f48 f49 f50 f51 (bN 13 q54) (bN 120 q55) (bN 120 q56) f57 (bN 120 q58) f59 f60 f64) H ∧ va_D (fun _ => True) (mo_w ad ck x0 (nI x16) (nI x18) (nI x19) x20 (nI x21) (nI x22) x23 x24 x25 (nI x26) x27 (nI x28) (nI x29) (nI x30) (nI x33) x45 (nI x46) (nI x52) (nI x53) (nI x61) (nI x62) (nI x63) (nI x65) x66 f1 f2 f3 (bN 3 q4) (bN 7 q5) (bN 7 q6) (bN 4 q7) f8 (bN 2 q9) (bH q10) f11 (b2 m12_0 m12_1) (b2 m13_0 m13_1) (b2 m14_0 m14_1) (b2m m15_0 m15_1) f17 (bA 159 q31) f32 f34 f35 f36 f37 (bN 7 q38) f39 f40 f41 (b2 m42_0 m42_1) f43 f44 f47 f48 f49 f50 f51 (bN 13 q54) (bN 120 q55) (bN 120 q56) f57 (bN 120 q58) f59 f60 f64) ∧ va_S (va_A [] s.heap.size) s.heap H locs ∧ lv_has ls 12 [(0, .ref (ad 0)), (1, .int (nI a0)), (2, .int p1), (3, .int p2), (4, .int p3), (5, .int (nI g_141)), (6, .int (nI g_211)), (7, .long g_218), (9, .long g_213), (11, .int g_210)]) 94 ?_ (fun j_221 => ?_)
                        · rintro H locs ls st ⟨g_220, rfl, hP, hD, hS, hl⟩
                          refine lv_lstore (lv' := [(9, .long g_220), (0, .ref (ad 0)), (1, .int (nI a0)), (2, .int p1), (3, .int p2), (4, .int p3), (5, .int (nI g_141)), (6, .int (nI g_211)), (7, .long g_218), (11, .int g_210)]) hx hb dX9_hasTimes_94 hl (by decide) rfl (fun ls hl => ?_)
                          refine lv_aload_n hx hb dX9_hasTimes_96 rfl (lv_at hl 1 rfl) ?_
                          refine lv_iload_n hx hb dX9_hasTimes_97 rfl (lv_at hl 2 rfl) ?_
                          refine lv_iload hx hb dX9_hasTimes_98 (lv_at hl 6 rfl) ?_
                          refine lv_iload hx hb dX9_hasTimes_100 (lv_at hl 7 rfl) ?_
                          refine va_calli (va_runV (As := [.int (nI a0), .int (nI g_141), .int (nI g_211)]) (rest := []) ⟨hx, hb, hml, hown, hts⟩ (c_M_boundOf_11 l dC dI _ ad ck x0 x16 x18 x19 x20 x21 x22 x23 x24 x25 x26 x27 x28 x29 x30 x33 x45 x46 x52 x53 x61 x62 x63 x65 x66 f1 f2 f3 q4 q5 q6 q7 f8 q9 q10 f11 m12_0 m12_1 m13_0 m13_1 m14_0 m14_1 m15_0 m15_1 f17 q31 f32 f34 f35 f36 f37 q38 f39 f40 f41 m42_0 m42_1 f43 f44 f47 f48 f49 f50 f51 q54 q55 q56 f57 q58 f59 f60 f64 a0 g_141 g_211 hx16 hx18 hx19 hx21 hx22 hx26 hx28 hx29 hx30 hx33 hx46 hx52 hx53 hx61 hx62 hx63 hx65 hm12_0 hm12_1 hm13_0 hm13_1 hm14_0 hm14_1 hm15_0 hm15_1 hm42_0 hm42_1 ha0 hg_141 hg_211) (cwV 3 hts g_M_hasTimes_M_boundOf_11 rfl rfl rfl (by decide +kernel) ⟨Nat.le_of_ble_eq_true rfl, Nat.le_of_ble_eq_true rfl⟩) ⟨pu_bl, va_recv hK hP (ci := 9) (q0 := 0) rfl rfl, pu_in hP hK hD⟩ rfl rfl hl.1 rfl (lv_room (Nat.le_of_ble_eq_true rfl)) dX9_hasTimes_102 ⟨Nat.le_of_ble_eq_true rfl, Nat.le_of_ble_eq_true rfl⟩) hS (fun q _ h => pu_fr hS hA q h) (pu_fr hS hA) (fun r_222 u t H1 locs ht hvm hw hB hz1 hk1 hS => ?_)
                          have hP := pu_keep hP hk1
                          clear hk1 hz1 ht hvm
                          generalize H1 = H at hP hS ⊢
                          refine lv_istore (lv' := [(11, .int r_222), (9, .long g_220), (0, .ref (ad 0)), (1, .int (nI a0)), (2, .int p1), (3, .int p2), (4, .int p3), (5, .int (nI g_141)), (6, .int (nI g_211)), (7, .long g_218)]) hx hb dX9_hasTimes_105 hl (by decide) rfl (fun ls hl => ?_)
                          refine lv_iload hx hb dX9_hasTimes_107 (lv_at hl 0 rfl) ?_
                          refine lv_ldcw hx hb hown v_10 dX9_hasTimes_109 ?_
                          refine lv_icmp_ge (tgt := 143) hx hb dX9_hasTimes_112 (by decide) (fun c_223 => ?_) (fun c_223 => ?_)
                          · refine lv_iinc (v := (nI (g_211 + 1))) (lv' := [(6, .int (nI (g_211 + 1))), (11, .int r_222), (9, .long g_220), (0, .ref (ad 0)), (1, .int (nI a0)), (2, .int p1), (3, .int p2), (4, .int p3), (5, .int (nI g_141)), (7, .long g_218)]) hx hb dX9_hasTimes_143 hl (k := 8) rfl (nI_1 _) (by decide) rfl (fun ls hl => ?_)
                            refine lv_goto (tgt := 15) hx hb dX9_hasTimes_146 (by decide) ?_
                            exact ih_214 (3 - (g_211 + 1)) (by omega) _ _ _ ⟨r_222, (g_211 + 1), g_218, g_220, rfl, (by omega), hP, hD, hS, lv_sub hl [3, 4, 5, 6, 7, 8, 0, 9, 2, 1] rfl⟩
                          · refine lv_lload hx hb dX9_hasTimes_115 (lv_at hl 9 rfl) ?_
                            refine lv_lload hx hb dX9_hasTimes_117 (lv_at hl 1 rfl) ?_
                            refine lv_lsub hx hb dX9_hasTimes_119 ?_
                            refine lv_topl (fun y_224 ey_224 => ?_)
                            refine lv_iload hx hb dX9_hasTimes_120 (lv_at hl 0 rfl) ?_
                            refine lv_iconst (v := 1) hx hb dX9_hasTimes_122 (by decide) ?_
                            refine lv_ishr hx hb dX9_hasTimes_123 ?_
                            refine lv_topi (fun y_225 ey_225 => ?_)
                            refine lv_i2l (v := y_225.toInt64) hx hb dX9_hasTimes_124 rfl ?_
                            refine lv_topl (fun y_226 ey_226 => ?_)
                            refine lv_ldc2 (v := (256)) hx hb hown v_11 dX9_hasTimes_125 ?_
                            refine lv_lmul hx hb dX9_hasTimes_128 ?_
                            refine lv_topl (fun y_227 ey_227 => ?_)
                            refine lv_lconst (v := (1 : Int64)) hx hb dX9_hasTimes_129 rfl ?_
                            refine lv_lsub hx hb dX9_hasTimes_130 ?_
                            refine lv_topl (fun y_228 ey_228 => ?_)
                            refine lv_iload hx hb dX9_hasTimes_131 (lv_at hl 0 rfl) ?_
                            refine lv_iconst (v := 1) hx hb dX9_hasTimes_133 (by decide) ?_
                            refine lv_iand hx hb dX9_hasTimes_134 ?_
                            refine lv_topi (fun y_229 ey_229 => ?_)
                            refine lv_i2l (v := y_229.toInt64) hx hb dX9_hasTimes_135 rfl ?_
                            refine lv_topl (fun y_230 ey_230 => ?_)
                            refine lv_ladd hx hb dX9_hasTimes_136 ?_
                            refine lv_topl (fun y_231 ey_231 => ?_)
                            refine W.lcmp hx hb dX9_hasTimes_137 ?_
                            refine lv_topi (fun y_232 ey_232 => ?_)
                            refine lv_if_le (tgt := 143) hx hb dX9_hasTimes_138 (by decide) (fun c_233 => ?_) (fun c_233 => ?_)
                            · refine lv_iinc (v := (nI (g_211 + 1))) (lv' := [(6, .int (nI (g_211 + 1))), (11, .int r_222), (9, .long g_220), (0, .ref (ad 0)), (1, .int (nI a0)), (2, .int p1), (3, .int p2), (4, .int p3), (5, .int (nI g_141)), (7, .long g_218)]) hx hb dX9_hasTimes_143 hl (k := 8) rfl (nI_1 _) (by decide) rfl (fun ls hl => ?_)
                              refine lv_goto (tgt := 15) hx hb dX9_hasTimes_146 (by decide) ?_
                              exact ih_214 (3 - (g_211 + 1)) (by omega) _ _ _ ⟨r_222, (g_211 + 1), g_218, g_220, rfl, (by omega), hP, hD, hS, lv_sub hl [3, 4, 5, 6, 7, 8, 0, 9, 2, 1] rfl⟩
                            · refine lv_iconst (v := 0) hx hb dX9_hasTimes_141 (by decide) ?_
                              exact W.zret (v := 0) (ty := .boolean) hx hb hr (rfl) (fun t ht hW => ⟨⟨0, (), rfl, ⟨0, (Nat.le_of_ble_eq_true rfl), rfl⟩, trivial⟩, hS.F ht⟩) hS.2.2 dX9_hasTimes_142
                        refine lv_if_ne (tgt := 70) hx hb dX9_hasTimes_62 (by decide) (fun c_234 => ?_) (fun c_234 => ?_)
                        · have c_234 : ¬ g_211 = 0 := fun z => c_234 ((nI_eq (a := g_211) (b := 0) (Nat.lt_of_le_of_lt hg_211 (Nat.le_of_ble_eq_true rfl)) (Nat.le_of_ble_eq_true rfl)).mpr z)
                          refine lv_iload hx hb dX9_hasTimes_70 (lv_at hl 7 rfl) ?_
                          refine lv_iconst (v := 1) hx hb dX9_hasTimes_72 (by decide) ?_
                          refine lv_icmp_ne (tgt := 81) hx hb dX9_hasTimes_73 (by decide) (fun c_235 => ?_) (fun c_235 => ?_)
                          · have c_235 : ¬ g_211 = 1 := fun z => c_235 ((nI_eq (a := g_211) (b := 1) (Nat.lt_of_le_of_lt hg_211 (Nat.le_of_ble_eq_true rfl)) (Nat.le_of_ble_eq_true rfl)).mpr z)
                            refine lv_iload hx hb dX9_hasTimes_81 (lv_at hl 7 rfl) ?_
                            refine lv_iconst (v := 2) hx hb dX9_hasTimes_83 (by decide) ?_
                            refine lv_icmp_ne (tgt := 93) hx hb dX9_hasTimes_84 (by decide) (fun c_236 => ?_) (fun c_236 => ?_)
                            · have c_236 : ¬ g_211 = 2 := fun z => c_236 ((nI_eq (a := g_211) (b := 2) (Nat.lt_of_le_of_lt hg_211 (Nat.le_of_ble_eq_true rfl)) (Nat.le_of_ble_eq_true rfl)).mpr z)
                              exfalso
                              omega
                            · have c_236 : g_211 = 2 := (nI_eq (a := g_211) (b := 2) (Nat.lt_of_le_of_lt hg_211 (Nat.le_of_ble_eq_true rfl)) (Nat.le_of_ble_eq_true rfl)).mp c_236
                              refine lv_iload hx hb dX9_hasTimes_87 (lv_at hl 5 rfl) ?_
                              refine lv_i2l (v := p3.toInt64) hx hb dX9_hasTimes_89 rfl ?_
                              refine lv_topl (fun y_237 ey_237 => ?_)
                              refine lv_goto (tgt := 94) hx hb dX9_hasTimes_90 (by decide) ?_
                              exact j_221 _ _ _ _ ⟨y_237, rfl, hP, hD, hS, lv_sub hl [1, 2, 3, 4, 5, 6, 7, 0, 8, 9] rfl⟩
                          · have c_235 : g_211 = 1 := (nI_eq (a := g_211) (b := 1) (Nat.lt_of_le_of_lt hg_211 (Nat.le_of_ble_eq_true rfl)) (Nat.le_of_ble_eq_true rfl)).mp c_235
                            refine lv_iload_n hx hb dX9_hasTimes_76 rfl (lv_at hl 4 rfl) ?_
                            refine lv_i2l (v := p2.toInt64) hx hb dX9_hasTimes_77 rfl ?_
                            refine lv_topl (fun y_238 ey_238 => ?_)
                            refine lv_goto (tgt := 94) hx hb dX9_hasTimes_78 (by decide) ?_
                            exact j_221 _ _ _ _ ⟨y_238, rfl, hP, hD, hS, lv_sub hl [1, 2, 3, 4, 5, 6, 7, 0, 8, 9] rfl⟩
                        · have c_234 : g_211 = 0 := (nI_eq (a := g_211) (b := 0) (Nat.lt_of_le_of_lt hg_211 (Nat.le_of_ble_eq_true rfl)) (Nat.le_of_ble_eq_true rfl)).mp c_234
                          refine lv_iload_n hx hb dX9_hasTimes_65 rfl (lv_at hl 3 rfl) ?_
                          refine lv_i2l (v := p1.toInt64) hx hb dX9_hasTimes_66 rfl ?_
                          refine lv_topl (fun y_239 ey_239 => ?_)
                          refine lv_goto (tgt := 94) hx hb dX9_hasTimes_67 (by decide) ?_
                          exact j_221 _ _ _ _ ⟨y_239, rfl, hP, hD, hS, lv_sub hl [1, 2, 3, 4, 5, 6, 7, 0, 8, 9] rfl⟩
                      refine lv_if_ne (tgt := 34) hx hb dX9_hasTimes_26 (by decide) (fun c_240 => ?_) (fun c_240 => ?_)
                      · have c_240 : ¬ g_141 = 0 := fun z => c_240 ((nI_eq (a := g_141) (b := 0) (Nat.lt_of_le_of_lt hg_141 (Nat.le_of_ble_eq_true rfl)) (Nat.le_of_ble_eq_true rfl)).mpr z)
                        refine lv_iload hx hb dX9_hasTimes_34 (lv_at hl 5 rfl) ?_
                        refine lv_iconst (v := 1) hx hb dX9_hasTimes_36 (by decide) ?_
                        refine lv_icmp_ne (tgt := 45) hx hb dX9_hasTimes_37 (by decide) (fun c_241 => ?_) (fun c_241 => ?_)
                        · have c_241 : ¬ g_141 = 1 := fun z => c_241 ((nI_eq (a := g_141) (b := 1) (Nat.lt_of_le_of_lt hg_141 (Nat.le_of_ble_eq_true rfl)) (Nat.le_of_ble_eq_true rfl)).mpr z)
                          refine lv_iload hx hb dX9_hasTimes_45 (lv_at hl 5 rfl) ?_
                          refine lv_iconst (v := 2) hx hb dX9_hasTimes_47 (by decide) ?_
                          refine lv_icmp_ne (tgt := 57) hx hb dX9_hasTimes_48 (by decide) (fun c_242 => ?_) (fun c_242 => ?_)
                          · have c_242 : ¬ g_141 = 2 := fun z => c_242 ((nI_eq (a := g_141) (b := 2) (Nat.lt_of_le_of_lt hg_141 (Nat.le_of_ble_eq_true rfl)) (Nat.le_of_ble_eq_true rfl)).mpr z)
                            exfalso
                            omega
                          · have c_242 : g_141 = 2 := (nI_eq (a := g_141) (b := 2) (Nat.lt_of_le_of_lt hg_141 (Nat.le_of_ble_eq_true rfl)) (Nat.le_of_ble_eq_true rfl)).mp c_242
                            refine lv_iload hx hb dX9_hasTimes_51 (lv_at hl 4 rfl) ?_
                            refine lv_i2l (v := p3.toInt64) hx hb dX9_hasTimes_53 rfl ?_
                            refine lv_topl (fun y_243 ey_243 => ?_)
                            refine lv_goto (tgt := 58) hx hb dX9_hasTimes_54 (by decide) ?_
                            exact j_219 _ _ _ _ ⟨y_243, rfl, hP, hD, hS, lv_sub hl [0, 1, 2, 3, 4, 5, 6, 7, 8, 9] rfl⟩
                        · have c_241 : g_141 = 1 := (nI_eq (a := g_141) (b := 1) (Nat.lt_of_le_of_lt hg_141 (Nat.le_of_ble_eq_true rfl)) (Nat.le_of_ble_eq_true rfl)).mp c_241
                          refine lv_iload_n hx hb dX9_hasTimes_40 rfl (lv_at hl 3 rfl) ?_
                          refine lv_i2l (v := p2.toInt64) hx hb dX9_hasTimes_41 rfl ?_
                          refine lv_topl (fun y_244 ey_244 => ?_)
                          refine lv_goto (tgt := 58) hx hb dX9_hasTimes_42 (by decide) ?_
                          exact j_219 _ _ _ _ ⟨y_244, rfl, hP, hD, hS, lv_sub hl [0, 1, 2, 3, 4, 5, 6, 7, 8, 9] rfl⟩
                      · have c_240 : g_141 = 0 := (nI_eq (a := g_141) (b := 0) (Nat.lt_of_le_of_lt hg_141 (Nat.le_of_ble_eq_true rfl)) (Nat.le_of_ble_eq_true rfl)).mp c_240
                        refine lv_iload_n hx hb dX9_hasTimes_29 rfl (lv_at hl 2 rfl) ?_
                        refine lv_i2l (v := p1.toInt64) hx hb dX9_hasTimes_30 rfl ?_
                        refine lv_topl (fun y_245 ey_245 => ?_)
                        refine lv_goto (tgt := 58) hx hb dX9_hasTimes_31 (by decide) ?_
                        exact j_219 _ _ _ _ ⟨y_245, rfl, hP, hD, hS, lv_sub hl [0, 1, 2, 3, 4, 5, 6, 7, 8, 9] rfl⟩
                  · refine lv_iconst (v := 0) hx hb dX9_hasTimes_141 (by decide) ?_
                    exact W.zret (v := 0) (ty := .boolean) hx hb hr (rfl) (fun t ht hW => ⟨⟨0, (), rfl, ⟨0, (Nat.le_of_ble_eq_true rfl), rfl⟩, trivial⟩, hS.F ht⟩) hS.2.2 dX9_hasTimes_142
              refine lv_if_ne (tgt := 34) hx hb dX9_hasTimes_26 (by decide) (fun c_246 => ?_) (fun c_246 => ?_)
              · have c_246 : ¬ g_141 = 0 := fun z => c_246 ((nI_eq (a := g_141) (b := 0) (Nat.lt_of_le_of_lt hg_141 (Nat.le_of_ble_eq_true rfl)) (Nat.le_of_ble_eq_true rfl)).mpr z)
                refine lv_iload hx hb dX9_hasTimes_34 (lv_at hl 6 rfl) ?_
                refine lv_iconst (v := 1) hx hb dX9_hasTimes_36 (by decide) ?_
                refine lv_icmp_ne (tgt := 45) hx hb dX9_hasTimes_37 (by decide) (fun c_247 => ?_) (fun c_247 => ?_)
                · have c_247 : ¬ g_141 = 1 := fun z => c_247 ((nI_eq (a := g_141) (b := 1) (Nat.lt_of_le_of_lt hg_141 (Nat.le_of_ble_eq_true rfl)) (Nat.le_of_ble_eq_true rfl)).mpr z)
                  refine lv_iload hx hb dX9_hasTimes_45 (lv_at hl 6 rfl) ?_
                  refine lv_iconst (v := 2) hx hb dX9_hasTimes_47 (by decide) ?_
                  refine lv_icmp_ne (tgt := 57) hx hb dX9_hasTimes_48 (by decide) (fun c_248 => ?_) (fun c_248 => ?_)
                  · have c_248 : ¬ g_141 = 2 := fun z => c_248 ((nI_eq (a := g_141) (b := 2) (Nat.lt_of_le_of_lt hg_141 (Nat.le_of_ble_eq_true rfl)) (Nat.le_of_ble_eq_true rfl)).mpr z)
                    exfalso
                    omega
                  · have c_248 : g_141 = 2 := (nI_eq (a := g_141) (b := 2) (Nat.lt_of_le_of_lt hg_141 (Nat.le_of_ble_eq_true rfl)) (Nat.le_of_ble_eq_true rfl)).mp c_248
                    refine lv_iload hx hb dX9_hasTimes_51 (lv_at hl 5 rfl) ?_
                    refine lv_i2l (v := p3.toInt64) hx hb dX9_hasTimes_53 rfl ?_
                    refine lv_topl (fun y_249 ey_249 => ?_)
                    refine lv_goto (tgt := 58) hx hb dX9_hasTimes_54 (by decide) ?_
                    exact j_153 _ _ _ _ ⟨y_249, rfl, hP, hD, hS, lv_sub hl [1, 2, 3, 4, 5, 6, 0, 7, 8, 9] rfl⟩
                · have c_247 : g_141 = 1 := (nI_eq (a := g_141) (b := 1) (Nat.lt_of_le_of_lt hg_141 (Nat.le_of_ble_eq_true rfl)) (Nat.le_of_ble_eq_true rfl)).mp c_247
                  refine lv_iload_n hx hb dX9_hasTimes_40 rfl (lv_at hl 4 rfl) ?_
                  refine lv_i2l (v := p2.toInt64) hx hb dX9_hasTimes_41 rfl ?_
                  refine lv_topl (fun y_250 ey_250 => ?_)
                  refine lv_goto (tgt := 58) hx hb dX9_hasTimes_42 (by decide) ?_
                  exact j_153 _ _ _ _ ⟨y_250, rfl, hP, hD, hS, lv_sub hl [1, 2, 3, 4, 5, 6, 0, 7, 8, 9] rfl⟩
              · have c_246 : g_141 = 0 := (nI_eq (a := g_141) (b := 0) (Nat.lt_of_le_of_lt hg_141 (Nat.le_of_ble_eq_true rfl)) (Nat.le_of_ble_eq_true rfl)).mp c_246
                refine lv_iload_n hx hb dX9_hasTimes_29 rfl (lv_at hl 3 rfl) ?_
                refine lv_i2l (v := p1.toInt64) hx hb dX9_hasTimes_30 rfl ?_
                refine lv_topl (fun y_251 ey_251 => ?_)
                refine lv_goto (tgt := 58) hx hb dX9_hasTimes_31 (by decide) ?_
                exact j_153 _ _ _ _ ⟨y_251, rfl, hP, hD, hS, lv_sub hl [1, 2, 3, 4, 5, 6, 0, 7, 8, 9] rfl⟩
        · have c_134 : ¬ u_133 ≤ g_128 := fun z => c_134 ((nI_leI (a := u_133) (b := g_128) (Nat.lt_of_le_of_lt hu_133 (Nat.le_of_ble_eq_true rfl)) (Nat.lt_of_le_of_lt hg_128 (Nat.le_of_ble_eq_true rfl))).mpr z)
          refine lv_iload hx hb dX9_hasTimes_24 (lv_at hl 5 rfl) ?_
          refine lv_if_ne (tgt := 34) hx hb dX9_hasTimes_26 (by decide) (fun _ => ?_) (fun z => absurd z (by decide))
          refine lv_iload hx hb dX9_hasTimes_34 (lv_at hl 5 rfl) ?_
          refine lv_iconst (v := 1) hx hb dX9_hasTimes_36 (by decide) ?_
          refine lv_icmp_ne (tgt := 45) hx hb dX9_hasTimes_37 (by decide) (fun _ => ?_) (fun z => absurd z (by decide))
          refine lv_iload hx hb dX9_hasTimes_45 (lv_at hl 5 rfl) ?_
          refine lv_iconst (v := 2) hx hb dX9_hasTimes_47 (by decide) ?_
          refine lv_icmp_ne (tgt := 57) hx hb dX9_hasTimes_48 (by decide) (fun _ => ?_) (fun z => absurd z (by decide))
          refine lv_lconst (v := (0 : Int64)) hx hb dX9_hasTimes_57 rfl ?_
          refine lv_lstore (lv' := [(7, .long (0 : Int64)), (0, .ref (ad 0)), (1, .int (nI a0)), (2, .int p1), (3, .int p2), (4, .int p3), (5, .int (-1)), (6, .int (nI g_128)), (9, .long g_130), (11, .int g_127)]) hx hb dX9_hasTimes_58 hl (by decide) rfl (fun ls hl => ?_)
          refine lv_iload hx hb dX9_hasTimes_60 (lv_at hl 7 rfl) ?_
          refine pu_join (fun H locs ls st => ∃ (g_252 : Int64), st = [.long g_252] ∧ va_P (dC, dI) vwCl (mo_w ad ck x0 (nI x16) (nI x18) (nI x19) x20 (nI x21) (nI x22) x23 x24 x25 (nI x26) x27 (nI x28) (nI x29) (nI x30) (nI x33) x45 (nI x46) (nI x52) (nI x53) (nI x61) (nI x62) (nI x63) (nI x65) x66 f1 f2 f3 (bN 3 q4) (bN 7 q5) (bN 7 q6) (bN 4 q7) f8 (bN 2 q9) (bH q10) f11 (b2 m12_0 m12_1) (b2 m13_0 m13_1) (b2 m14_0 m14_1) (b2m m15_0 m15_1) f17 (bA 159 q31) f32 f34 f35 f36 f37 (bN 7 q38) f39 f40 f41 (b2 m42_0 m42_1) f43 f44 f47 f48 f49 f50 f51 (bN 13 q54) (bN 120 q55) (bN 120 q56) f57 (bN 120 q58) f59 f60 f64) H ∧ va_D (fun _ => True) (mo_w ad ck x0 (nI x16) (nI x18) (nI x19) x20 (nI x21) (nI x22) x23 x24 x25 (nI x26) x27 (nI x28) (nI x29) (nI x30) (nI x33) x45 (nI x46) (nI x52) (nI x53) (nI x61) (nI x62) (nI x63) (nI x65) x66 f1 f2 f3 (bN 3 q4) (bN 7 q5) (bN 7 q6) (bN 4 q7) f8 (bN 2 q9) (bH q10) f11 (b2 m12_0 m12_1) (b2 m13_0 m13_1) (b2 m14_0 m14_1) (b2m m15_0 m15_1) f17 (bA 159 q31) f32 f34 f35 f36 f37 (bN 7 q38) f39 f40 f41 (b2 m42_0 m42_1) f43 f44 f47 f48 f49 f50 f51 (bN 13 q54) (bN 120 q55) (bN 120 q56) f57 (bN 120 q58) f59 f60 f64) ∧ va_S (va_A [] s.heap.size) s.heap H locs ∧ lv_has ls 12 [(0, .ref (ad 0)), (1, .int (nI a0)), (2, .int p1), (3, .int p2), (4, .int p3), (5, .int (-1)), (6, .int (nI g_128)), (7, .long (0 : Int64)), (9, .long g_130), (11, .int g_127)]) 94 ?_ (fun j_253 => ?_)
          · rintro H locs ls st ⟨g_252, rfl, hP, hD, hS, hl⟩
            refine lv_lstore (lv' := [(9, .long g_252), (0, .ref (ad 0)), (1, .int (nI a0)), (2, .int p1), (3, .int p2), (4, .int p3), (5, .int (-1)), (6, .int (nI g_128)), (7, .long (0 : Int64)), (11, .int g_127)]) hx hb dX9_hasTimes_94 hl (by decide) rfl (fun ls hl => ?_)
            refine lv_aload_n hx hb dX9_hasTimes_96 rfl (lv_at hl 1 rfl) ?_
            refine lv_iload_n hx hb dX9_hasTimes_97 rfl (lv_at hl 2 rfl) ?_
            refine lv_iload hx hb dX9_hasTimes_98 (lv_at hl 6 rfl) ?_
            refine lv_iload hx hb dX9_hasTimes_100 (lv_at hl 7 rfl) ?_
            refine va_calli (va_runV (As := [.int (nI a0), .int (-1), .int (nI g_128)]) (rest := []) ⟨hx, hb, hml, hown, hts⟩ (c_M_boundOf_01 l dC dI _ ad ck x0 x16 x18 x19 x20 x21 x22 x23 x24 x25 x26 x27 x28 x29 x30 x33 x45 x46 x52 x53 x61 x62 x63 x65 x66 f1 f2 f3 q4 q5 q6 q7 f8 q9 q10 f11 m12_0 m12_1 m13_0 m13_1 m14_0 m14_1 m15_0 m15_1 f17 q31 f32 f34 f35 f36 f37 q38 f39 f40 f41 m42_0 m42_1 f43 f44 f47 f48 f49 f50 f51 q54 q55 q56 f57 q58 f59 f60 f64 a0 g_128 hx16 hx18 hx19 hx21 hx22 hx26 hx28 hx29 hx30 hx33 hx46 hx52 hx53 hx61 hx62 hx63 hx65 hm12_0 hm12_1 hm13_0 hm13_1 hm14_0 hm14_1 hm15_0 hm15_1 hm42_0 hm42_1 ha0 hg_128) (cwV 3 hts g_M_hasTimes_M_boundOf_01 rfl rfl rfl (by decide +kernel) ⟨Nat.le_of_ble_eq_true rfl, Nat.le_of_ble_eq_true rfl⟩) ⟨pu_bl, va_recv hK hP (ci := 9) (q0 := 0) rfl rfl, pu_in hP hK hD⟩ rfl rfl hl.1 rfl (lv_room (Nat.le_of_ble_eq_true rfl)) dX9_hasTimes_102 ⟨Nat.le_of_ble_eq_true rfl, Nat.le_of_ble_eq_true rfl⟩) hS (fun q _ h => pu_fr hS hA q h) (pu_fr hS hA) (fun r_254 u t H1 locs ht hvm hw hB hz1 hk1 hS => ?_)
            have hP := pu_keep hP hk1
            clear hk1 hz1 ht hvm
            generalize H1 = H at hP hS ⊢
            refine lv_istore (lv' := [(11, .int r_254), (9, .long g_252), (0, .ref (ad 0)), (1, .int (nI a0)), (2, .int p1), (3, .int p2), (4, .int p3), (5, .int (-1)), (6, .int (nI g_128)), (7, .long (0 : Int64))]) hx hb dX9_hasTimes_105 hl (by decide) rfl (fun ls hl => ?_)
            refine lv_iload hx hb dX9_hasTimes_107 (lv_at hl 0 rfl) ?_
            refine lv_ldcw hx hb hown v_10 dX9_hasTimes_109 ?_
            refine lv_icmp_ge (tgt := 143) hx hb dX9_hasTimes_112 (by decide) (fun c_255 => ?_) (fun c_255 => ?_)
            · refine lv_iinc (v := (nI (g_128 + 1))) (lv' := [(6, .int (nI (g_128 + 1))), (11, .int r_254), (9, .long g_252), (0, .ref (ad 0)), (1, .int (nI a0)), (2, .int p1), (3, .int p2), (4, .int p3), (5, .int (-1)), (7, .long (0 : Int64))]) hx hb dX9_hasTimes_143 hl (k := 8) rfl (nI_1 _) (by decide) rfl (fun ls hl => ?_)
              refine lv_goto (tgt := 15) hx hb dX9_hasTimes_146 (by decide) ?_
              exact ih_131 (3 - (g_128 + 1)) (by omega) _ _ _ ⟨r_254, (g_128 + 1), (0 : Int64), g_252, rfl, (by omega), hP, hD, hS, lv_sub hl [3, 4, 5, 6, 7, 8, 0, 9, 2, 1] rfl⟩
            · refine lv_lload hx hb dX9_hasTimes_115 (lv_at hl 9 rfl) ?_
              refine lv_lload hx hb dX9_hasTimes_117 (lv_at hl 1 rfl) ?_
              refine lv_lsub hx hb dX9_hasTimes_119 ?_
              refine lv_topl (fun y_256 ey_256 => ?_)
              refine lv_iload hx hb dX9_hasTimes_120 (lv_at hl 0 rfl) ?_
              refine lv_iconst (v := 1) hx hb dX9_hasTimes_122 (by decide) ?_
              refine lv_ishr hx hb dX9_hasTimes_123 ?_
              refine lv_topi (fun y_257 ey_257 => ?_)
              refine lv_i2l (v := y_257.toInt64) hx hb dX9_hasTimes_124 rfl ?_
              refine lv_topl (fun y_258 ey_258 => ?_)
              refine lv_ldc2 (v := (256)) hx hb hown v_11 dX9_hasTimes_125 ?_
              refine lv_lmul hx hb dX9_hasTimes_128 ?_
              refine lv_topl (fun y_259 ey_259 => ?_)
              refine lv_lconst (v := (1 : Int64)) hx hb dX9_hasTimes_129 rfl ?_
              refine lv_lsub hx hb dX9_hasTimes_130 ?_
              refine lv_topl (fun y_260 ey_260 => ?_)
              refine lv_iload hx hb dX9_hasTimes_131 (lv_at hl 0 rfl) ?_
              refine lv_iconst (v := 1) hx hb dX9_hasTimes_133 (by decide) ?_
              refine lv_iand hx hb dX9_hasTimes_134 ?_
              refine lv_topi (fun y_261 ey_261 => ?_)
              refine lv_i2l (v := y_261.toInt64) hx hb dX9_hasTimes_135 rfl ?_
              refine lv_topl (fun y_262 ey_262 => ?_)
              refine lv_ladd hx hb dX9_hasTimes_136 ?_
              refine lv_topl (fun y_263 ey_263 => ?_)
              refine W.lcmp hx hb dX9_hasTimes_137 ?_
              refine lv_topi (fun y_264 ey_264 => ?_)
              refine lv_if_le (tgt := 143) hx hb dX9_hasTimes_138 (by decide) (fun c_265 => ?_) (fun c_265 => ?_)
              · refine lv_iinc (v := (nI (g_128 + 1))) (lv' := [(6, .int (nI (g_128 + 1))), (11, .int r_254), (9, .long g_252), (0, .ref (ad 0)), (1, .int (nI a0)), (2, .int p1), (3, .int p2), (4, .int p3), (5, .int (-1)), (7, .long (0 : Int64))]) hx hb dX9_hasTimes_143 hl (k := 8) rfl (nI_1 _) (by decide) rfl (fun ls hl => ?_)
                refine lv_goto (tgt := 15) hx hb dX9_hasTimes_146 (by decide) ?_
                exact ih_131 (3 - (g_128 + 1)) (by omega) _ _ _ ⟨r_254, (g_128 + 1), (0 : Int64), g_252, rfl, (by omega), hP, hD, hS, lv_sub hl [3, 4, 5, 6, 7, 8, 0, 9, 2, 1] rfl⟩
              · refine lv_iconst (v := 0) hx hb dX9_hasTimes_141 (by decide) ?_
                exact W.zret (v := 0) (ty := .boolean) hx hb hr (rfl) (fun t ht hW => ⟨⟨0, (), rfl, ⟨0, (Nat.le_of_ble_eq_true rfl), rfl⟩, trivial⟩, hS.F ht⟩) hS.2.2 dX9_hasTimes_142
          refine lv_if_ne (tgt := 70) hx hb dX9_hasTimes_62 (by decide) (fun c_266 => ?_) (fun c_266 => ?_)
          · have c_266 : ¬ g_128 = 0 := fun z => c_266 ((nI_eq (a := g_128) (b := 0) (Nat.lt_of_le_of_lt hg_128 (Nat.le_of_ble_eq_true rfl)) (Nat.le_of_ble_eq_true rfl)).mpr z)
            refine lv_iload hx hb dX9_hasTimes_70 (lv_at hl 7 rfl) ?_
            refine lv_iconst (v := 1) hx hb dX9_hasTimes_72 (by decide) ?_
            refine lv_icmp_ne (tgt := 81) hx hb dX9_hasTimes_73 (by decide) (fun c_267 => ?_) (fun c_267 => ?_)
            · have c_267 : ¬ g_128 = 1 := fun z => c_267 ((nI_eq (a := g_128) (b := 1) (Nat.lt_of_le_of_lt hg_128 (Nat.le_of_ble_eq_true rfl)) (Nat.le_of_ble_eq_true rfl)).mpr z)
              refine lv_iload hx hb dX9_hasTimes_81 (lv_at hl 7 rfl) ?_
              refine lv_iconst (v := 2) hx hb dX9_hasTimes_83 (by decide) ?_
              refine lv_icmp_ne (tgt := 93) hx hb dX9_hasTimes_84 (by decide) (fun c_268 => ?_) (fun c_268 => ?_)
              · have c_268 : ¬ g_128 = 2 := fun z => c_268 ((nI_eq (a := g_128) (b := 2) (Nat.lt_of_le_of_lt hg_128 (Nat.le_of_ble_eq_true rfl)) (Nat.le_of_ble_eq_true rfl)).mpr z)
                exfalso
                omega
              · have c_268 : g_128 = 2 := (nI_eq (a := g_128) (b := 2) (Nat.lt_of_le_of_lt hg_128 (Nat.le_of_ble_eq_true rfl)) (Nat.le_of_ble_eq_true rfl)).mp c_268
                refine lv_iload hx hb dX9_hasTimes_87 (lv_at hl 5 rfl) ?_
                refine lv_i2l (v := p3.toInt64) hx hb dX9_hasTimes_89 rfl ?_
                refine lv_topl (fun y_269 ey_269 => ?_)
                refine lv_goto (tgt := 94) hx hb dX9_hasTimes_90 (by decide) ?_
                exact j_253 _ _ _ _ ⟨y_269, rfl, hP, hD, hS, lv_sub hl [1, 2, 3, 4, 5, 6, 7, 0, 8, 9] rfl⟩
            · have c_267 : g_128 = 1 := (nI_eq (a := g_128) (b := 1) (Nat.lt_of_le_of_lt hg_128 (Nat.le_of_ble_eq_true rfl)) (Nat.le_of_ble_eq_true rfl)).mp c_267
              refine lv_iload_n hx hb dX9_hasTimes_76 rfl (lv_at hl 4 rfl) ?_
              refine lv_i2l (v := p2.toInt64) hx hb dX9_hasTimes_77 rfl ?_
              refine lv_topl (fun y_270 ey_270 => ?_)
              refine lv_goto (tgt := 94) hx hb dX9_hasTimes_78 (by decide) ?_
              exact j_253 _ _ _ _ ⟨y_270, rfl, hP, hD, hS, lv_sub hl [1, 2, 3, 4, 5, 6, 7, 0, 8, 9] rfl⟩
          · have c_266 : g_128 = 0 := (nI_eq (a := g_128) (b := 0) (Nat.lt_of_le_of_lt hg_128 (Nat.le_of_ble_eq_true rfl)) (Nat.le_of_ble_eq_true rfl)).mp c_266
            refine lv_iload_n hx hb dX9_hasTimes_65 rfl (lv_at hl 3 rfl) ?_
            refine lv_i2l (v := p1.toInt64) hx hb dX9_hasTimes_66 rfl ?_
            refine lv_topl (fun y_271 ey_271 => ?_)
            refine lv_goto (tgt := 94) hx hb dX9_hasTimes_67 (by decide) ?_
            exact j_253 _ _ _ _ ⟨y_271, rfl, hP, hD, hS, lv_sub hl [1, 2, 3, 4, 5, 6, 7, 0, 8, 9] rfl⟩
      · refine lv_lload hx hb dX9_hasTimes_115 (lv_at hl 2 rfl) ?_
        refine lv_lload hx hb dX9_hasTimes_117 (lv_at hl 1 rfl) ?_
        refine lv_lsub hx hb dX9_hasTimes_119 ?_
        refine lv_topl (fun y_272 ey_272 => ?_)
        refine lv_iload hx hb dX9_hasTimes_120 (lv_at hl 0 rfl) ?_
        refine lv_iconst (v := 1) hx hb dX9_hasTimes_122 (by decide) ?_
        refine lv_ishr hx hb dX9_hasTimes_123 ?_
        refine lv_topi (fun y_273 ey_273 => ?_)
        refine lv_i2l (v := y_273.toInt64) hx hb dX9_hasTimes_124 rfl ?_
        refine lv_topl (fun y_274 ey_274 => ?_)
        refine lv_ldc2 (v := (256)) hx hb hown v_11 dX9_hasTimes_125 ?_
        refine lv_lmul hx hb dX9_hasTimes_128 ?_
        refine lv_topl (fun y_275 ey_275 => ?_)
        refine lv_lconst (v := (1 : Int64)) hx hb dX9_hasTimes_129 rfl ?_
        refine lv_lsub hx hb dX9_hasTimes_130 ?_
        refine lv_topl (fun y_276 ey_276 => ?_)
        refine lv_iload hx hb dX9_hasTimes_131 (lv_at hl 0 rfl) ?_
        refine lv_iconst (v := 1) hx hb dX9_hasTimes_133 (by decide) ?_
        refine lv_iand hx hb dX9_hasTimes_134 ?_
        refine lv_topi (fun y_277 ey_277 => ?_)
        refine lv_i2l (v := y_277.toInt64) hx hb dX9_hasTimes_135 rfl ?_
        refine lv_topl (fun y_278 ey_278 => ?_)
        refine lv_ladd hx hb dX9_hasTimes_136 ?_
        refine lv_topl (fun y_279 ey_279 => ?_)
        refine W.lcmp hx hb dX9_hasTimes_137 ?_
        refine lv_topi (fun y_280 ey_280 => ?_)
        refine lv_if_le (tgt := 143) hx hb dX9_hasTimes_138 (by decide) (fun c_281 => ?_) (fun c_281 => ?_)
        · refine lv_iinc (v := 0) (lv' := [(6, .int 0), (11, .int r_121), (9, .long (0 : Int64)), (7, .long (0 : Int64)), (5, .int (-1)), (0, .ref (ad 0)), (1, .int (nI a0)), (2, .int p1), (3, .int p2), (4, .int p3)]) hx hb dX9_hasTimes_143 hl (k := 3) rfl (by decide) (by decide) rfl (fun ls hl => ?_)
          refine lv_goto (tgt := 15) hx hb dX9_hasTimes_146 (by decide) ?_
          refine pu_while (fun nn H locs ls => ∃ (g_286 : Int32) (g_287 : Nat) (g_288 : Int64) (g_289 : Int64), nn = 3 - g_287 ∧ g_287 ≤ 3 ∧ va_P (dC, dI) vwCl (mo_w ad ck x0 (nI x16) (nI x18) (nI x19) x20 (nI x21) (nI x22) x23 x24 x25 (nI x26) x27 (nI x28) (nI x29) (nI x30) (nI x33) x45 (nI x46) (nI x52) (nI x53) (nI x61) (nI x62) (nI x63) (nI x65) x66 f1 f2 f3 (bN 3 q4) (bN 7 q5) (bN 7 q6) (bN 4 q7) f8 (bN 2 q9) (bH q10) f11 (b2 m12_0 m12_1) (b2 m13_0 m13_1) (b2 m14_0 m14_1) (b2m m15_0 m15_1) f17 (bA 159 q31) f32 f34 f35 f36 f37 (bN 7 q38) f39 f40 f41 (b2 m42_0 m42_1) f43 f44 f47 f48 f49 f50 f51 (bN 13 q54) (bN 120 q55) (bN 120 q56) f57 (bN 120 q58) f59 f60 f64) H ∧ va_D (fun _ => True) (mo_w ad ck x0 (nI x16) (nI x18) (nI x19) x20 (nI x21) (nI x22) x23 x24 x25 (nI x26) x27 (nI x28) (nI x29) (nI x30) (nI x33) x45 (nI x46) (nI x52) (nI x53) (nI x61) (nI x62) (nI x63) (nI x65) x66 f1 f2 f3 (bN 3 q4) (bN 7 q5) (bN 7 q6) (bN 4 q7) f8 (bN 2 q9) (bH q10) f11 (b2 m12_0 m12_1) (b2 m13_0 m13_1) (b2 m14_0 m14_1) (b2m m15_0 m15_1) f17 (bA 159 q31) f32 f34 f35 f36 f37 (bN 7 q38) f39 f40 f41 (b2 m42_0 m42_1) f43 f44 f47 f48 f49 f50 f51 (bN 13 q54) (bN 120 q55) (bN 120 q56) f57 (bN 120 q58) f59 f60 f64) ∧ va_S (va_A [] s.heap.size) s.heap H locs ∧ lv_has ls 12 [(0, .ref (ad 0)), (1, .int (nI a0)), (2, .int p1), (3, .int p2), (4, .int p3), (5, .int (-1)), (6, .int (nI g_287)), (7, .long g_288), (9, .long g_289), (11, .int g_286)]) 15 ?_ _ _ _ _ ⟨r_121, 0, (0 : Int64), (0 : Int64), rfl, (Nat.le_of_ble_eq_true rfl), hP, hD, hS, lv_sub hl [5, 6, 7, 8, 9, 4, 0, 3, 2, 1] rfl⟩
          rintro nn ih_290 H locs ls ⟨g_286, g_287, g_288, g_289, rfl, hg_287, hP, hD, hS, hl⟩
          refine lv_iload hx hb dX9_hasTimes_15 (lv_at hl 6 rfl) ?_
          refine lv_aload_n hx hb dX9_hasTimes_17 rfl (lv_at hl 0 rfl) ?_
          refine va_calli (va_runV (As := []) (rest := [.int (nI g_287)]) ⟨hx, hb, hml, hown, hts⟩ (c_M_clocks l dC dI _ ad ck x0 x16 x18 x19 x20 x21 x22 x23 x24 x25 x26 x27 x28 x29 x30 x33 x45 x46 x52 x53 x61 x62 x63 x65 x66 f1 f2 f3 q4 q5 q6 q7 f8 q9 q10 f11 m12_0 m12_1 m13_0 m13_1 m14_0 m14_1 m15_0 m15_1 f17 q31 f32 f34 f35 f36 f37 q38 f39 f40 f41 m42_0 m42_1 f43 f44 f47 f48 f49 f50 f51 q54 q55 q56 f57 q58 f59 f60 f64 hx16 hx18 hx19 hx21 hx22 hx26 hx28 hx29 hx30 hx33 hx46 hx52 hx53 hx61 hx62 hx63 hx65 hm12_0 hm12_1 hm13_0 hm13_1 hm14_0 hm14_1 hm15_0 hm15_1 hm42_0 hm42_1) (cwV 0 hts g_M_hasTimes_M_clocks rfl rfl rfl (by decide +kernel) ⟨Nat.le_of_ble_eq_true rfl, Nat.le_of_ble_eq_true rfl⟩) ⟨pu_bl, va_recv hK hP (ci := 9) (q0 := 0) rfl rfl, pu_in hP hK hD⟩ rfl rfl hl.1 rfl (lv_room (Nat.le_of_ble_eq_true rfl)) dX9_hasTimes_18 ⟨Nat.le_of_ble_eq_true rfl, Nat.le_of_ble_eq_true rfl⟩) hS (fun q _ h => pu_fr hS hA q h) (pu_fr hS hA) (fun r_291 u t H1 locs ht hvm hw hB hz1 hk1 hS => ?_)
          have hP := pu_keep hP hk1
          clear hk1 hz1 ht hvm
          generalize H1 = H at hP hS ⊢
          obtain ⟨u_292, hu_292, rfl⟩ := hw
          refine lv_icmp_ge (tgt := 149) hx hb dX9_hasTimes_21 (by decide) (fun c_293 => ?_) (fun c_293 => ?_)
          · have c_293 : u_292 ≤ g_287 := (nI_leI (a := u_292) (b := g_287) (Nat.lt_of_le_of_lt hu_292 (Nat.le_of_ble_eq_true rfl)) (Nat.lt_of_le_of_lt hg_287 (Nat.le_of_ble_eq_true rfl))).mp c_293
            refine lv_iinc (v := 0) (lv' := [(5, .int 0), (0, .ref (ad 0)), (1, .int (nI a0)), (2, .int p1), (3, .int p2), (4, .int p3), (6, .int (nI g_287)), (7, .long g_288), (9, .long g_289), (11, .int g_286)]) hx hb dX9_hasTimes_149 hl (k := 5) rfl (by decide) (by decide) rfl (fun ls hl => ?_)
            refine lv_goto (tgt := 3) hx hb dX9_hasTimes_152 (by decide) ?_
            refine pu_while (fun nn H locs ls => ∃ (g_299 : Int32) (g_300 : Nat) (g_301 : Int32) (g_302 : Int64) (g_303 : Int64), nn = 3 - g_300 ∧ g_300 ≤ 3 ∧ va_P (dC, dI) vwCl (mo_w ad ck x0 (nI x16) (nI x18) (nI x19) x20 (nI x21) (nI x22) x23 x24 x25 (nI x26) x27 (nI x28) (nI x29) (nI x30) (nI x33) x45 (nI x46) (nI x52) (nI x53) (nI x61) (nI x62) (nI x63) (nI x65) x66 f1 f2 f3 (bN 3 q4) (bN 7 q5) (bN 7 q6) (bN 4 q7) f8 (bN 2 q9) (bH q10) f11 (b2 m12_0 m12_1) (b2 m13_0 m13_1) (b2 m14_0 m14_1) (b2m m15_0 m15_1) f17 (bA 159 q31) f32 f34 f35 f36 f37 (bN 7 q38) f39 f40 f41 (b2 m42_0 m42_1) f43 f44 f47 f48 f49 f50 f51 (bN 13 q54) (bN 120 q55) (bN 120 q56) f57 (bN 120 q58) f59 f60 f64) H ∧ va_D (fun _ => True) (mo_w ad ck x0 (nI x16) (nI x18) (nI x19) x20 (nI x21) (nI x22) x23 x24 x25 (nI x26) x27 (nI x28) (nI x29) (nI x30) (nI x33) x45 (nI x46) (nI x52) (nI x53) (nI x61) (nI x62) (nI x63) (nI x65) x66 f1 f2 f3 (bN 3 q4) (bN 7 q5) (bN 7 q6) (bN 4 q7) f8 (bN 2 q9) (bH q10) f11 (b2 m12_0 m12_1) (b2 m13_0 m13_1) (b2 m14_0 m14_1) (b2m m15_0 m15_1) f17 (bA 159 q31) f32 f34 f35 f36 f37 (bN 7 q38) f39 f40 f41 (b2 m42_0 m42_1) f43 f44 f47 f48 f49 f50 f51 (bN 13 q54) (bN 120 q55) (bN 120 q56) f57 (bN 120 q58) f59 f60 f64) ∧ va_S (va_A [] s.heap.size) s.heap H locs ∧ lv_has ls 12 [(0, .ref (ad 0)), (1, .int (nI a0)), (2, .int p1), (3, .int p2), (4, .int p3), (5, .int (nI g_300)), (6, .int g_301), (7, .long g_302), (9, .long g_303), (11, .int g_299)]) 3 ?_ _ _ _ _ ⟨g_286, 0, (nI g_287), g_288, g_289, rfl, (Nat.le_of_ble_eq_true rfl), hP, hD, hS, lv_sub hl [1, 2, 3, 4, 5, 0, 6, 7, 8, 9] rfl⟩
            rintro nn ih_304 H locs ls ⟨g_299, g_300, g_301, g_302, g_303, rfl, hg_300, hP, hD, hS, hl⟩
            refine lv_iload hx hb dX9_hasTimes_3 (lv_at hl 5 rfl) ?_
            refine lv_aload_n hx hb dX9_hasTimes_5 rfl (lv_at hl 0 rfl) ?_
            refine va_calli (va_runV (As := []) (rest := [.int (nI g_300)]) ⟨hx, hb, hml, hown, hts⟩ (c_M_clocks l dC dI _ ad ck x0 x16 x18 x19 x20 x21 x22 x23 x24 x25 x26 x27 x28 x29 x30 x33 x45 x46 x52 x53 x61 x62 x63 x65 x66 f1 f2 f3 q4 q5 q6 q7 f8 q9 q10 f11 m12_0 m12_1 m13_0 m13_1 m14_0 m14_1 m15_0 m15_1 f17 q31 f32 f34 f35 f36 f37 q38 f39 f40 f41 m42_0 m42_1 f43 f44 f47 f48 f49 f50 f51 q54 q55 q56 f57 q58 f59 f60 f64 hx16 hx18 hx19 hx21 hx22 hx26 hx28 hx29 hx30 hx33 hx46 hx52 hx53 hx61 hx62 hx63 hx65 hm12_0 hm12_1 hm13_0 hm13_1 hm14_0 hm14_1 hm15_0 hm15_1 hm42_0 hm42_1) (cwV 0 hts g_M_hasTimes_M_clocks rfl rfl rfl (by decide +kernel) ⟨Nat.le_of_ble_eq_true rfl, Nat.le_of_ble_eq_true rfl⟩) ⟨pu_bl, va_recv hK hP (ci := 9) (q0 := 0) rfl rfl, pu_in hP hK hD⟩ rfl rfl hl.1 rfl (lv_room (Nat.le_of_ble_eq_true rfl)) dX9_hasTimes_6 ⟨Nat.le_of_ble_eq_true rfl, Nat.le_of_ble_eq_true rfl⟩) hS (fun q _ h => pu_fr hS hA q h) (pu_fr hS hA) (fun r_305 u t H1 locs ht hvm hw hB hz1 hk1 hS => ?_)
            have hP := pu_keep hP hk1
            clear hk1 hz1 ht hvm
            generalize H1 = H at hP hS ⊢
            obtain ⟨u_306, hu_306, rfl⟩ := hw
            refine lv_icmp_ge (tgt := 155) hx hb dX9_hasTimes_9 (by decide) (fun c_307 => ?_) (fun c_307 => ?_)
            · have c_307 : u_306 ≤ g_300 := (nI_leI (a := u_306) (b := g_300) (Nat.lt_of_le_of_lt hu_306 (Nat.le_of_ble_eq_true rfl)) (Nat.lt_of_le_of_lt hg_300 (Nat.le_of_ble_eq_true rfl))).mp c_307
              refine lv_iconst (v := 1) hx hb dX9_hasTimes_155 (by decide) ?_
              exact W.zret (v := 1) (ty := .boolean) hx hb hr (rfl) (fun t ht hW => ⟨⟨1, (), rfl, ⟨1, (Nat.le_of_ble_eq_true rfl), rfl⟩, trivial⟩, hS.F ht⟩) hS.2.2 dX9_hasTimes_156
            · have c_307 : ¬ u_306 ≤ g_300 := fun z => c_307 ((nI_leI (a := u_306) (b := g_300) (Nat.lt_of_le_of_lt hu_306 (Nat.le_of_ble_eq_true rfl)) (Nat.lt_of_le_of_lt hg_300 (Nat.le_of_ble_eq_true rfl))).mpr z)
              refine lv_iconst (v := (-1)) hx hb dX9_hasTimes_12 (by decide) ?_
              refine lv_istore (lv' := [(6, .int (-1)), (0, .ref (ad 0)), (1, .int (nI a0)), (2, .int p1), (3, .int p2), (4, .int p3), (5, .int (nI g_300)), (7, .long g_302), (9, .long g_303), (11, .int g_299)]) hx hb dX9_hasTimes_13 hl (by decide) rfl (fun ls hl => ?_)
              refine lv_iload hx hb dX9_hasTimes_15 (lv_at hl 0 rfl) ?_
              refine lv_aload_n hx hb dX9_hasTimes_17 rfl (lv_at hl 1 rfl) ?_
              refine va_calli (va_runV (As := []) (rest := [.int (-1)]) ⟨hx, hb, hml, hown, hts⟩ (c_M_clocks l dC dI _ ad ck x0 x16 x18 x19 x20 x21 x22 x23 x24 x25 x26 x27 x28 x29 x30 x33 x45 x46 x52 x53 x61 x62 x63 x65 x66 f1 f2 f3 q4 q5 q6 q7 f8 q9 q10 f11 m12_0 m12_1 m13_0 m13_1 m14_0 m14_1 m15_0 m15_1 f17 q31 f32 f34 f35 f36 f37 q38 f39 f40 f41 m42_0 m42_1 f43 f44 f47 f48 f49 f50 f51 q54 q55 q56 f57 q58 f59 f60 f64 hx16 hx18 hx19 hx21 hx22 hx26 hx28 hx29 hx30 hx33 hx46 hx52 hx53 hx61 hx62 hx63 hx65 hm12_0 hm12_1 hm13_0 hm13_1 hm14_0 hm14_1 hm15_0 hm15_1 hm42_0 hm42_1) (cwV 0 hts g_M_hasTimes_M_clocks rfl rfl rfl (by decide +kernel) ⟨Nat.le_of_ble_eq_true rfl, Nat.le_of_ble_eq_true rfl⟩) ⟨pu_bl, va_recv hK hP (ci := 9) (q0 := 0) rfl rfl, pu_in hP hK hD⟩ rfl rfl hl.1 rfl (lv_room (Nat.le_of_ble_eq_true rfl)) dX9_hasTimes_18 ⟨Nat.le_of_ble_eq_true rfl, Nat.le_of_ble_eq_true rfl⟩) hS (fun q _ h => pu_fr hS hA q h) (pu_fr hS hA) (fun r_308 u t H1 locs ht hvm hw hB hz1 hk1 hS => ?_)
              have hP := pu_keep hP hk1
              clear hk1 hz1 ht hvm
              generalize H1 = H at hP hS ⊢
              obtain ⟨u_309, hu_309, rfl⟩ := hw
              refine lv_icmp_ge (tgt := 149) hx hb dX9_hasTimes_21 (by decide) (fun c_310 => ?_) (fun c_310 => ?_)
              · refine lv_iinc (v := (nI (g_300 + 1))) (lv' := [(5, .int (nI (g_300 + 1))), (6, .int (-1)), (0, .ref (ad 0)), (1, .int (nI a0)), (2, .int p1), (3, .int p2), (4, .int p3), (7, .long g_302), (9, .long g_303), (11, .int g_299)]) hx hb dX9_hasTimes_149 hl (k := 6) rfl (nI_1 _) (by decide) rfl (fun ls hl => ?_)
                refine lv_goto (tgt := 3) hx hb dX9_hasTimes_152 (by decide) ?_
                exact ih_304 (3 - (g_300 + 1)) (by omega) _ _ _ ⟨g_299, (g_300 + 1), (-1), g_302, g_303, rfl, (by omega), hP, hD, hS, lv_sub hl [2, 3, 4, 5, 6, 0, 1, 7, 8, 9] rfl⟩
              · refine lv_iload hx hb dX9_hasTimes_24 (lv_at hl 6 rfl) ?_
                refine pu_join (fun H locs ls st => ∃ (g_311 : Int64), st = [.long g_311] ∧ va_P (dC, dI) vwCl (mo_w ad ck x0 (nI x16) (nI x18) (nI x19) x20 (nI x21) (nI x22) x23 x24 x25 (nI x26) x27 (nI x28) (nI x29) (nI x30) (nI x33) x45 (nI x46) (nI x52) (nI x53) (nI x61) (nI x62) (nI x63) (nI x65) x66 f1 f2 f3 (bN 3 q4) (bN 7 q5) (bN 7 q6) (bN 4 q7) f8 (bN 2 q9) (bH q10) f11 (b2 m12_0 m12_1) (b2 m13_0 m13_1) (b2 m14_0 m14_1) (b2m m15_0 m15_1) f17 (bA 159 q31) f32 f34 f35 f36 f37 (bN 7 q38) f39 f40 f41 (b2 m42_0 m42_1) f43 f44 f47 f48 f49 f50 f51 (bN 13 q54) (bN 120 q55) (bN 120 q56) f57 (bN 120 q58) f59 f60 f64) H ∧ va_D (fun _ => True) (mo_w ad ck x0 (nI x16) (nI x18) (nI x19) x20 (nI x21) (nI x22) x23 x24 x25 (nI x26) x27 (nI x28) (nI x29) (nI x30) (nI x33) x45 (nI x46) (nI x52) (nI x53) (nI x61) (nI x62) (nI x63) (nI x65) x66 f1 f2 f3 (bN 3 q4) (bN 7 q5) (bN 7 q6) (bN 4 q7) f8 (bN 2 q9) (bH q10) f11 (b2 m12_0 m12_1) (b2 m13_0 m13_1) (b2 m14_0 m14_1) (b2m m15_0 m15_1) f17 (bA 159 q31) f32 f34 f35 f36 f37 (bN 7 q38) f39 f40 f41 (b2 m42_0 m42_1) f43 f44 f47 f48 f49 f50 f51 (bN 13 q54) (bN 120 q55) (bN 120 q56) f57 (bN 120 q58) f59 f60 f64) ∧ va_S (va_A [] s.heap.size) s.heap H locs ∧ lv_has ls 12 [(0, .ref (ad 0)), (1, .int (nI a0)), (2, .int p1), (3, .int p2), (4, .int p3), (5, .int (nI g_300)), (6, .int (-1)), (7, .long g_302), (9, .long g_303), (11, .int g_299)]) 58 ?_ (fun j_312 => ?_)
                · rintro H locs ls st ⟨g_311, rfl, hP, hD, hS, hl⟩
                  refine lv_lstore (lv' := [(7, .long g_311), (0, .ref (ad 0)), (1, .int (nI a0)), (2, .int p1), (3, .int p2), (4, .int p3), (5, .int (nI g_300)), (6, .int (-1)), (9, .long g_303), (11, .int g_299)]) hx hb dX9_hasTimes_58 hl (by decide) rfl (fun ls hl => ?_)
                  refine lv_iload hx hb dX9_hasTimes_60 (lv_at hl 7 rfl) ?_
                  refine lv_if_ne (tgt := 70) hx hb dX9_hasTimes_62 (by decide) (fun _ => ?_) (fun z => absurd z (by decide))
                  refine lv_iload hx hb dX9_hasTimes_70 (lv_at hl 7 rfl) ?_
                  refine lv_iconst (v := 1) hx hb dX9_hasTimes_72 (by decide) ?_
                  refine lv_icmp_ne (tgt := 81) hx hb dX9_hasTimes_73 (by decide) (fun _ => ?_) (fun z => absurd z (by decide))
                  refine lv_iload hx hb dX9_hasTimes_81 (lv_at hl 7 rfl) ?_
                  refine lv_iconst (v := 2) hx hb dX9_hasTimes_83 (by decide) ?_
                  refine lv_icmp_ne (tgt := 93) hx hb dX9_hasTimes_84 (by decide) (fun _ => ?_) (fun z => absurd z (by decide))
                  refine lv_lconst (v := (0 : Int64)) hx hb dX9_hasTimes_93 rfl ?_
                  refine lv_lstore (lv' := [(9, .long (0 : Int64)), (7, .long g_311), (0, .ref (ad 0)), (1, .int (nI a0)), (2, .int p1), (3, .int p2), (4, .int p3), (5, .int (nI g_300)), (6, .int (-1)), (11, .int g_299)]) hx hb dX9_hasTimes_94 hl (by decide) rfl (fun ls hl => ?_)
                  refine lv_aload_n hx hb dX9_hasTimes_96 rfl (lv_at hl 2 rfl) ?_
                  refine lv_iload_n hx hb dX9_hasTimes_97 rfl (lv_at hl 3 rfl) ?_
                  refine lv_iload hx hb dX9_hasTimes_98 (lv_at hl 7 rfl) ?_
                  refine lv_iload hx hb dX9_hasTimes_100 (lv_at hl 8 rfl) ?_
                  refine va_calli (va_runV (As := [.int (nI a0), .int (nI g_300), .int (-1)]) (rest := []) ⟨hx, hb, hml, hown, hts⟩ (c_M_boundOf_10 l dC dI _ ad ck x0 x16 x18 x19 x20 x21 x22 x23 x24 x25 x26 x27 x28 x29 x30 x33 x45 x46 x52 x53 x61 x62 x63 x65 x66 f1 f2 f3 q4 q5 q6 q7 f8 q9 q10 f11 m12_0 m12_1 m13_0 m13_1 m14_0 m14_1 m15_0 m15_1 f17 q31 f32 f34 f35 f36 f37 q38 f39 f40 f41 m42_0 m42_1 f43 f44 f47 f48 f49 f50 f51 q54 q55 q56 f57 q58 f59 f60 f64 a0 g_300 hx16 hx18 hx19 hx21 hx22 hx26 hx28 hx29 hx30 hx33 hx46 hx52 hx53 hx61 hx62 hx63 hx65 hm12_0 hm12_1 hm13_0 hm13_1 hm14_0 hm14_1 hm15_0 hm15_1 hm42_0 hm42_1 ha0 hg_300) (cwV 3 hts g_M_hasTimes_M_boundOf_10 rfl rfl rfl (by decide +kernel) ⟨Nat.le_of_ble_eq_true rfl, Nat.le_of_ble_eq_true rfl⟩) ⟨pu_bl, va_recv hK hP (ci := 9) (q0 := 0) rfl rfl, pu_in hP hK hD⟩ rfl rfl hl.1 rfl (lv_room (Nat.le_of_ble_eq_true rfl)) dX9_hasTimes_102 ⟨Nat.le_of_ble_eq_true rfl, Nat.le_of_ble_eq_true rfl⟩) hS (fun q _ h => pu_fr hS hA q h) (pu_fr hS hA) (fun r_313 u t H1 locs ht hvm hw hB hz1 hk1 hS => ?_)
                  have hP := pu_keep hP hk1
                  clear hk1 hz1 ht hvm
                  generalize H1 = H at hP hS ⊢
                  refine lv_istore (lv' := [(11, .int r_313), (9, .long (0 : Int64)), (7, .long g_311), (0, .ref (ad 0)), (1, .int (nI a0)), (2, .int p1), (3, .int p2), (4, .int p3), (5, .int (nI g_300)), (6, .int (-1))]) hx hb dX9_hasTimes_105 hl (by decide) rfl (fun ls hl => ?_)
                  refine lv_iload hx hb dX9_hasTimes_107 (lv_at hl 0 rfl) ?_
                  refine lv_ldcw hx hb hown v_10 dX9_hasTimes_109 ?_
                  refine lv_icmp_ge (tgt := 143) hx hb dX9_hasTimes_112 (by decide) (fun c_314 => ?_) (fun c_314 => ?_)
                  · refine lv_iinc (v := 0) (lv' := [(6, .int 0), (11, .int r_313), (9, .long (0 : Int64)), (7, .long g_311), (0, .ref (ad 0)), (1, .int (nI a0)), (2, .int p1), (3, .int p2), (4, .int p3), (5, .int (nI g_300))]) hx hb dX9_hasTimes_143 hl (k := 9) rfl (by decide) (by decide) rfl (fun ls hl => ?_)
                    refine lv_goto (tgt := 15) hx hb dX9_hasTimes_146 (by decide) ?_
                    refine pu_while (fun nn H locs ls => ∃ (g_319 : Int32) (g_320 : Nat) (g_321 : Int64) (g_322 : Int64), nn = 3 - g_320 ∧ g_320 ≤ 3 ∧ va_P (dC, dI) vwCl (mo_w ad ck x0 (nI x16) (nI x18) (nI x19) x20 (nI x21) (nI x22) x23 x24 x25 (nI x26) x27 (nI x28) (nI x29) (nI x30) (nI x33) x45 (nI x46) (nI x52) (nI x53) (nI x61) (nI x62) (nI x63) (nI x65) x66 f1 f2 f3 (bN 3 q4) (bN 7 q5) (bN 7 q6) (bN 4 q7) f8 (bN 2 q9) (bH q10) f11 (b2 m12_0 m12_1) (b2 m13_0 m13_1) (b2 m14_0 m14_1) (b2m m15_0 m15_1) f17 (bA 159 q31) f32 f34 f35 f36 f37 (bN 7 q38) f39 f40 f41 (b2 m42_0 m42_1) f43 f44 f47 f48 f49 f50 f51 (bN 13 q54) (bN 120 q55) (bN 120 q56) f57 (bN 120 q58) f59 f60 f64) H ∧ va_D (fun _ => True) (mo_w ad ck x0 (nI x16) (nI x18) (nI x19) x20 (nI x21) (nI x22) x23 x24 x25 (nI x26) x27 (nI x28) (nI x29) (nI x30) (nI x33) x45 (nI x46) (nI x52) (nI x53) (nI x61) (nI x62) (nI x63) (nI x65) x66 f1 f2 f3 (bN 3 q4) (bN 7 q5) (bN 7 q6) (bN 4 q7) f8 (bN 2 q9) (bH q10) f11 (b2 m12_0 m12_1) (b2 m13_0 m13_1) (b2 m14_0 m14_1) (b2m m15_0 m15_1) f17 (bA 159 q31) f32 f34 f35 f36 f37 (bN 7 q38) f39 f40 f41 (b2 m42_0 m42_1) f43 f44 f47 f48 f49 f50 f51 (bN 13 q54) (bN 120 q55) (bN 120 q56) f57 (bN 120 q58) f59 f60 f64) ∧ va_S (va_A [] s.heap.size) s.heap H locs ∧ lv_has ls 12 [(0, .ref (ad 0)), (1, .int (nI a0)), (2, .int p1), (3, .int p2), (4, .int p3), (5, .int (nI g_300)), (6, .int (nI g_320)), (7, .long g_321), (9, .long g_322), (11, .int g_319)]) 15 ?_ _ _ _ _ ⟨r_313, 0, g_311, (0 : Int64), rfl, (Nat.le_of_ble_eq_true rfl), hP, hD, hS, lv_sub hl [4, 5, 6, 7, 8, 9, 0, 3, 2, 1] rfl⟩
                    rintro nn ih_323 H locs ls ⟨g_319, g_320, g_321, g_322, rfl, hg_320, hP, hD, hS, hl⟩
                    refine lv_iload hx hb dX9_hasTimes_15 (lv_at hl 6 rfl) ?_
                    refine lv_aload_n hx hb dX9_hasTimes_17 rfl (lv_at hl 0 rfl) ?_
                    refine va_calli (va_runV (As := []) (rest := [.int (nI g_320)]) ⟨hx, hb, hml, hown, hts⟩ (c_M_clocks l dC dI _ ad ck x0 x16 x18 x19 x20 x21 x22 x23 x24 x25 x26 x27 x28 x29 x30 x33 x45 x46 x52 x53 x61 x62 x63 x65 x66 f1 f2 f3 q4 q5 q6 q7 f8 q9 q10 f11 m12_0 m12_1 m13_0 m13_1 m14_0 m14_1 m15_0 m15_1 f17 q31 f32 f34 f35 f36 f37 q38 f39 f40 f41 m42_0 m42_1 f43 f44 f47 f48 f49 f50 f51 q54 q55 q56 f57 q58 f59 f60 f64 hx16 hx18 hx19 hx21 hx22 hx26 hx28 hx29 hx30 hx33 hx46 hx52 hx53 hx61 hx62 hx63 hx65 hm12_0 hm12_1 hm13_0 hm13_1 hm14_0 hm14_1 hm15_0 hm15_1 hm42_0 hm42_1) (cwV 0 hts g_M_hasTimes_M_clocks rfl rfl rfl (by decide +kernel) ⟨Nat.le_of_ble_eq_true rfl, Nat.le_of_ble_eq_true rfl⟩) ⟨pu_bl, va_recv hK hP (ci := 9) (q0 := 0) rfl rfl, pu_in hP hK hD⟩ rfl rfl hl.1 rfl (lv_room (Nat.le_of_ble_eq_true rfl)) dX9_hasTimes_18 ⟨Nat.le_of_ble_eq_true rfl, Nat.le_of_ble_eq_true rfl⟩) hS (fun q _ h => pu_fr hS hA q h) (pu_fr hS hA) (fun r_324 u t H1 locs ht hvm hw hB hz1 hk1 hS => ?_)
                    have hP := pu_keep hP hk1
                    clear hk1 hz1 ht hvm
                    generalize H1 = H at hP hS ⊢
                    obtain ⟨u_325, hu_325, rfl⟩ := hw
                    refine lv_icmp_ge (tgt := 149) hx hb dX9_hasTimes_21 (by decide) (fun c_326 => ?_) (fun c_326 => ?_)
                    · have c_326 : u_325 ≤ g_320 := (nI_leI (a := u_325) (b := g_320) (Nat.lt_of_le_of_lt hu_325 (Nat.le_of_ble_eq_true rfl)) (Nat.lt_of_le_of_lt hg_320 (Nat.le_of_ble_eq_true rfl))).mp c_326
                      refine lv_iinc (v := (nI (g_300 + 1))) (lv' := [(5, .int (nI (g_300 + 1))), (0, .ref (ad 0)), (1, .int (nI a0)), (2, .int p1), (3, .int p2), (4, .int p3), (6, .int (nI g_320)), (7, .long g_321), (9, .long g_322), (11, .int g_319)]) hx hb dX9_hasTimes_149 hl (k := 5) rfl (nI_1 _) (by decide) rfl (fun ls hl => ?_)
                      refine lv_goto (tgt := 3) hx hb dX9_hasTimes_152 (by decide) ?_
                      exact ih_304 (3 - (g_300 + 1)) (by omega) _ _ _ ⟨g_319, (g_300 + 1), (nI g_320), g_321, g_322, rfl, (by omega), hP, hD, hS, lv_sub hl [1, 2, 3, 4, 5, 0, 6, 7, 8, 9] rfl⟩
                    · have c_326 : ¬ u_325 ≤ g_320 := fun z => c_326 ((nI_leI (a := u_325) (b := g_320) (Nat.lt_of_le_of_lt hu_325 (Nat.le_of_ble_eq_true rfl)) (Nat.lt_of_le_of_lt hg_320 (Nat.le_of_ble_eq_true rfl))).mpr z)
                      refine lv_iload hx hb dX9_hasTimes_24 (lv_at hl 5 rfl) ?_
                      refine pu_join (fun H locs ls st => ∃ (g_327 : Int64), st = [.long g_327] ∧ va_P (dC, dI) vwCl (mo_w ad ck x0 (nI x16) (nI x18) (nI x19) x20 (nI x21) (nI x22) x23 x24 x25 (nI x26) x27 (nI x28) (nI x29) (nI x30) (nI x33) x45 (nI x46) (nI x52) (nI x53) (nI x61) (nI x62) (nI x63) (nI x65) x66 f1 f2 f3 (bN 3 q4) (bN 7 q5) (bN 7 q6) (bN 4 q7) f8 (bN 2 q9) (bH q10) f11 (b2 m12_0 m12_1) (b2 m13_0 m13_1) (b2 m14_0 m14_1) (b2m m15_0 m15_1) f17 (bA 159 q31) f32 f34 f35 f36 f37 (bN 7 q38) f39 f40 f41 (b2 m42_0 m42_1) f43 f44 f47 f48 f49 f50 f51 (bN 13 q54) (bN 120 q55) (bN 120 q56) f57 (bN 120 q58) f59 f60 f64) H ∧ va_D (fun _ => True) (mo_w ad ck x0 (nI x16) (nI x18) (nI x19) x20 (nI x21) (nI x22) x23 x24 x25 (nI x26) x27 (nI x28) (nI x29) (nI x30) (nI x33) x45 (nI x46) (nI x52) (nI x53) (nI x61) (nI x62) (nI x63) (nI x65) x66 f1 f2 f3 (bN 3 q4) (bN 7 q5) (bN 7 q6) (bN 4 q7) f8 (bN 2 q9) (bH q10) f11 (b2 m12_0 m12_1) (b2 m13_0 m13_1) (b2 m14_0 m14_1) (b2m m15_0 m15_1) f17 (bA 159 q31) f32 f34 f35 f36 f37 (bN 7 q38) f39 f40 f41 (b2 m42_0 m42_1) f43 f44 f47 f48 f49 f50 f51 (bN 13 q54) (bN 120 q55) (bN 120 q56) f57 (bN 120 q58) f59 f60 f64) ∧ va_S (va_A [] s.heap.size) s.heap H locs ∧ lv_has ls 12 [(0, .ref (ad 0)), (1, .int (nI a0)), (2, .int p1), (3, .int p2), (4, .int p3), (5, .int (nI g_300)), (6, .int (nI g_320)), (7, .long g_321), (9, .long g_322), (11, .int g_319)]) 58 ?_ (fun j_328 => ?_)
                      · rintro H locs ls st ⟨g_327, rfl, hP, hD, hS, hl⟩
                        refine lv_lstore (lv' := [(7, .long g_327), (0, .ref (ad 0)), (1, .int (nI a0)), (2, .int p1), (3, .int p2), (4, .int p3), (5, .int (nI g_300)), (6, .int (nI g_320)), (9, .long g_322), (11, .int g_319)]) hx hb dX9_hasTimes_58 hl (by decide) rfl (fun ls hl => ?_)
                        refine lv_iload hx hb dX9_hasTimes_60 (lv_at hl 7 rfl) ?_
                        refine pu_join (fun H locs ls st => ∃ (g_329 : Int64), st = [.long g_329] ∧ va_P (dC, dI) vwCl (mo_w ad ck x0 (nI x16) (nI x18) (nI x19) x20 (nI x21) (nI x22) x23 x24 x25 (nI x26) x27 (nI x28) (nI x29) (nI x30) (nI x33) x45 (nI x46) (nI x52) (nI x53) (nI x61) (nI x62) (nI x63) (nI x65) x66 f1 f2 f3 (bN 3 q4) (bN 7 q5) (bN 7 q6) (bN 4 q7) f8 (bN 2 q9) (bH q10) f11 (b2 m12_0 m12_1) (b2 m13_0 m13_1) (b2 m14_0 m14_1) (b2m m15_0 m15_1) f17 (bA 159 q31) f32 f34 f35 f36 f37 (bN 7 q38) f39 f40 f41 (b2 m42_0 m42_1) f43 f44 f47 f48 f49 f50 f51 (bN 13 q54) (bN 120 q55) (bN 120 q56) f57 (bN 120 q58) f59 f60 f64) H ∧ va_D (fun _ => True) (mo_w ad ck x0 (nI x16) (nI x18) (nI x19) x20 (nI x21) (nI x22) x23 x24 x25 (nI x26) x27 (nI x28) (nI x29) (nI x30) (nI x33) x45 (nI x46) (nI x52) (nI x53) (nI x61) (nI x62) (nI x63) (nI x65) x66 f1 f2 f3 (bN 3 q4) (bN 7 q5) (bN 7 q6) (bN 4 q7) f8 (bN 2 q9) (bH q10) f11 (b2 m12_0 m12_1) (b2 m13_0 m13_1) (b2 m14_0 m14_1) (b2m m15_0 m15_1) f17 (bA 159 q31) f32 f34 f35 f36 f37 (bN 7 q38) f39 f40 f41 (b2 m42_0 m42_1) f43 f44 f47 f48 f49 f50 f51 (bN 13 q54) (bN 120 q55) (bN 120 q56) f57 (bN 120 q58) f59 f60 f64) ∧ va_S (va_A [] s.heap.size) s.heap H locs ∧ lv_has ls 12 [(0, .ref (ad 0)), (1, .int (nI a0)), (2, .int p1), (3, .int p2), (4, .int p3), (5, .int (nI g_300)), (6, .int (nI g_320)), (7, .long g_327), (9, .long g_322), (11, .int g_319)]) 94 ?_ (fun j_330 => ?_)
                        · rintro H locs ls st ⟨g_329, rfl, hP, hD, hS, hl⟩
                          refine lv_lstore (lv' := [(9, .long g_329), (0, .ref (ad 0)), (1, .int (nI a0)), (2, .int p1), (3, .int p2), (4, .int p3), (5, .int (nI g_300)), (6, .int (nI g_320)), (7, .long g_327), (11, .int g_319)]) hx hb dX9_hasTimes_94 hl (by decide) rfl (fun ls hl => ?_)
                          refine lv_aload_n hx hb dX9_hasTimes_96 rfl (lv_at hl 1 rfl) ?_
                          refine lv_iload_n hx hb dX9_hasTimes_97 rfl (lv_at hl 2 rfl) ?_
                          refine lv_iload hx hb dX9_hasTimes_98 (lv_at hl 6 rfl) ?_
                          refine lv_iload hx hb dX9_hasTimes_100 (lv_at hl 7 rfl) ?_
                          refine va_calli (va_runV (As := [.int (nI a0), .int (nI g_300), .int (nI g_320)]) (rest := []) ⟨hx, hb, hml, hown, hts⟩ (c_M_boundOf_11 l dC dI _ ad ck x0 x16 x18 x19 x20 x21 x22 x23 x24 x25 x26 x27 x28 x29 x30 x33 x45 x46 x52 x53 x61 x62 x63 x65 x66 f1 f2 f3 q4 q5 q6 q7 f8 q9 q10 f11 m12_0 m12_1 m13_0 m13_1 m14_0 m14_1 m15_0 m15_1 f17 q31 f32 f34 f35 f36 f37 q38 f39 f40 f41 m42_0 m42_1 f43 f44 f47 f48 f49 f50 f51 q54 q55 q56 f57 q58 f59 f60 f64 a0 g_300 g_320 hx16 hx18 hx19 hx21 hx22 hx26 hx28 hx29 hx30 hx33 hx46 hx52 hx53 hx61 hx62 hx63 hx65 hm12_0 hm12_1 hm13_0 hm13_1 hm14_0 hm14_1 hm15_0 hm15_1 hm42_0 hm42_1 ha0 hg_300 hg_320) (cwV 3 hts g_M_hasTimes_M_boundOf_11 rfl rfl rfl (by decide +kernel) ⟨Nat.le_of_ble_eq_true rfl, Nat.le_of_ble_eq_true rfl⟩) ⟨pu_bl, va_recv hK hP (ci := 9) (q0 := 0) rfl rfl, pu_in hP hK hD⟩ rfl rfl hl.1 rfl (lv_room (Nat.le_of_ble_eq_true rfl)) dX9_hasTimes_102 ⟨Nat.le_of_ble_eq_true rfl, Nat.le_of_ble_eq_true rfl⟩) hS (fun q _ h => pu_fr hS hA q h) (pu_fr hS hA) (fun r_331 u t H1 locs ht hvm hw hB hz1 hk1 hS => ?_)
                          have hP := pu_keep hP hk1
                          clear hk1 hz1 ht hvm
                          generalize H1 = H at hP hS ⊢
                          refine lv_istore (lv' := [(11, .int r_331), (9, .long g_329), (0, .ref (ad 0)), (1, .int (nI a0)), (2, .int p1), (3, .int p2), (4, .int p3), (5, .int (nI g_300)), (6, .int (nI g_320)), (7, .long g_327)]) hx hb dX9_hasTimes_105 hl (by decide) rfl (fun ls hl => ?_)
                          refine lv_iload hx hb dX9_hasTimes_107 (lv_at hl 0 rfl) ?_
                          refine lv_ldcw hx hb hown v_10 dX9_hasTimes_109 ?_
                          refine lv_icmp_ge (tgt := 143) hx hb dX9_hasTimes_112 (by decide) (fun c_332 => ?_) (fun c_332 => ?_)
                          · refine lv_iinc (v := (nI (g_320 + 1))) (lv' := [(6, .int (nI (g_320 + 1))), (11, .int r_331), (9, .long g_329), (0, .ref (ad 0)), (1, .int (nI a0)), (2, .int p1), (3, .int p2), (4, .int p3), (5, .int (nI g_300)), (7, .long g_327)]) hx hb dX9_hasTimes_143 hl (k := 8) rfl (nI_1 _) (by decide) rfl (fun ls hl => ?_)
                            refine lv_goto (tgt := 15) hx hb dX9_hasTimes_146 (by decide) ?_
                            exact ih_323 (3 - (g_320 + 1)) (by omega) _ _ _ ⟨r_331, (g_320 + 1), g_327, g_329, rfl, (by omega), hP, hD, hS, lv_sub hl [3, 4, 5, 6, 7, 8, 0, 9, 2, 1] rfl⟩
                          · refine lv_lload hx hb dX9_hasTimes_115 (lv_at hl 9 rfl) ?_
                            refine lv_lload hx hb dX9_hasTimes_117 (lv_at hl 1 rfl) ?_
                            refine lv_lsub hx hb dX9_hasTimes_119 ?_
                            refine lv_topl (fun y_333 ey_333 => ?_)
                            refine lv_iload hx hb dX9_hasTimes_120 (lv_at hl 0 rfl) ?_
                            refine lv_iconst (v := 1) hx hb dX9_hasTimes_122 (by decide) ?_
                            refine lv_ishr hx hb dX9_hasTimes_123 ?_
                            refine lv_topi (fun y_334 ey_334 => ?_)
                            refine lv_i2l (v := y_334.toInt64) hx hb dX9_hasTimes_124 rfl ?_
                            refine lv_topl (fun y_335 ey_335 => ?_)
                            refine lv_ldc2 (v := (256)) hx hb hown v_11 dX9_hasTimes_125 ?_
                            refine lv_lmul hx hb dX9_hasTimes_128 ?_
                            refine lv_topl (fun y_336 ey_336 => ?_)
                            refine lv_lconst (v := (1 : Int64)) hx hb dX9_hasTimes_129 rfl ?_
                            refine lv_lsub hx hb dX9_hasTimes_130 ?_
                            refine lv_topl (fun y_337 ey_337 => ?_)
                            refine lv_iload hx hb dX9_hasTimes_131 (lv_at hl 0 rfl) ?_
                            refine lv_iconst (v := 1) hx hb dX9_hasTimes_133 (by decide) ?_
                            refine lv_iand hx hb dX9_hasTimes_134 ?_
                            refine lv_topi (fun y_338 ey_338 => ?_)
                            refine lv_i2l (v := y_338.toInt64) hx hb dX9_hasTimes_135 rfl ?_
                            refine lv_topl (fun y_339 ey_339 => ?_)
                            refine lv_ladd hx hb dX9_hasTimes_136 ?_
                            refine lv_topl (fun y_340 ey_340 => ?_)
                            refine W.lcmp hx hb dX9_hasTimes_137 ?_
                            refine lv_topi (fun y_341 ey_341 => ?_)
                            refine lv_if_le (tgt := 143) hx hb dX9_hasTimes_138 (by decide) (fun c_342 => ?_) (fun c_342 => ?_)
                            · refine lv_iinc (v := (nI (g_320 + 1))) (lv' := [(6, .int (nI (g_320 + 1))), (11, .int r_331), (9, .long g_329), (0, .ref (ad 0)), (1, .int (nI a0)), (2, .int p1), (3, .int p2), (4, .int p3), (5, .int (nI g_300)), (7, .long g_327)]) hx hb dX9_hasTimes_143 hl (k := 8) rfl (nI_1 _) (by decide) rfl (fun ls hl => ?_)
                              refine lv_goto (tgt := 15) hx hb dX9_hasTimes_146 (by decide) ?_
                              exact ih_323 (3 - (g_320 + 1)) (by omega) _ _ _ ⟨r_331, (g_320 + 1), g_327, g_329, rfl, (by omega), hP, hD, hS, lv_sub hl [3, 4, 5, 6, 7, 8, 0, 9, 2, 1] rfl⟩
                            · refine lv_iconst (v := 0) hx hb dX9_hasTimes_141 (by decide) ?_
                              exact W.zret (v := 0) (ty := .boolean) hx hb hr (rfl) (fun t ht hW => ⟨⟨0, (), rfl, ⟨0, (Nat.le_of_ble_eq_true rfl), rfl⟩, trivial⟩, hS.F ht⟩) hS.2.2 dX9_hasTimes_142
                        refine lv_if_ne (tgt := 70) hx hb dX9_hasTimes_62 (by decide) (fun c_343 => ?_) (fun c_343 => ?_)
                        · have c_343 : ¬ g_320 = 0 := fun z => c_343 ((nI_eq (a := g_320) (b := 0) (Nat.lt_of_le_of_lt hg_320 (Nat.le_of_ble_eq_true rfl)) (Nat.le_of_ble_eq_true rfl)).mpr z)
                          refine lv_iload hx hb dX9_hasTimes_70 (lv_at hl 7 rfl) ?_
                          refine lv_iconst (v := 1) hx hb dX9_hasTimes_72 (by decide) ?_
                          refine lv_icmp_ne (tgt := 81) hx hb dX9_hasTimes_73 (by decide) (fun c_344 => ?_) (fun c_344 => ?_)
                          · have c_344 : ¬ g_320 = 1 := fun z => c_344 ((nI_eq (a := g_320) (b := 1) (Nat.lt_of_le_of_lt hg_320 (Nat.le_of_ble_eq_true rfl)) (Nat.le_of_ble_eq_true rfl)).mpr z)
                            refine lv_iload hx hb dX9_hasTimes_81 (lv_at hl 7 rfl) ?_
                            refine lv_iconst (v := 2) hx hb dX9_hasTimes_83 (by decide) ?_
                            refine lv_icmp_ne (tgt := 93) hx hb dX9_hasTimes_84 (by decide) (fun c_345 => ?_) (fun c_345 => ?_)
                            · have c_345 : ¬ g_320 = 2 := fun z => c_345 ((nI_eq (a := g_320) (b := 2) (Nat.lt_of_le_of_lt hg_320 (Nat.le_of_ble_eq_true rfl)) (Nat.le_of_ble_eq_true rfl)).mpr z)
                              exfalso
                              omega
                            · have c_345 : g_320 = 2 := (nI_eq (a := g_320) (b := 2) (Nat.lt_of_le_of_lt hg_320 (Nat.le_of_ble_eq_true rfl)) (Nat.le_of_ble_eq_true rfl)).mp c_345
                              refine lv_iload hx hb dX9_hasTimes_87 (lv_at hl 5 rfl) ?_
                              refine lv_i2l (v := p3.toInt64) hx hb dX9_hasTimes_89 rfl ?_
                              refine lv_topl (fun y_346 ey_346 => ?_)
                              refine lv_goto (tgt := 94) hx hb dX9_hasTimes_90 (by decide) ?_
                              exact j_330 _ _ _ _ ⟨y_346, rfl, hP, hD, hS, lv_sub hl [1, 2, 3, 4, 5, 6, 7, 0, 8, 9] rfl⟩
                          · have c_344 : g_320 = 1 := (nI_eq (a := g_320) (b := 1) (Nat.lt_of_le_of_lt hg_320 (Nat.le_of_ble_eq_true rfl)) (Nat.le_of_ble_eq_true rfl)).mp c_344
                            refine lv_iload_n hx hb dX9_hasTimes_76 rfl (lv_at hl 4 rfl) ?_
                            refine lv_i2l (v := p2.toInt64) hx hb dX9_hasTimes_77 rfl ?_
                            refine lv_topl (fun y_347 ey_347 => ?_)
                            refine lv_goto (tgt := 94) hx hb dX9_hasTimes_78 (by decide) ?_
                            exact j_330 _ _ _ _ ⟨y_347, rfl, hP, hD, hS, lv_sub hl [1, 2, 3, 4, 5, 6, 7, 0, 8, 9] rfl⟩
                        · have c_343 : g_320 = 0 := (nI_eq (a := g_320) (b := 0) (Nat.lt_of_le_of_lt hg_320 (Nat.le_of_ble_eq_true rfl)) (Nat.le_of_ble_eq_true rfl)).mp c_343
                          refine lv_iload_n hx hb dX9_hasTimes_65 rfl (lv_at hl 3 rfl) ?_
                          refine lv_i2l (v := p1.toInt64) hx hb dX9_hasTimes_66 rfl ?_
                          refine lv_topl (fun y_348 ey_348 => ?_)
                          refine lv_goto (tgt := 94) hx hb dX9_hasTimes_67 (by decide) ?_
                          exact j_330 _ _ _ _ ⟨y_348, rfl, hP, hD, hS, lv_sub hl [1, 2, 3, 4, 5, 6, 7, 0, 8, 9] rfl⟩
                      refine lv_if_ne (tgt := 34) hx hb dX9_hasTimes_26 (by decide) (fun c_349 => ?_) (fun c_349 => ?_)
                      · have c_349 : ¬ g_300 = 0 := fun z => c_349 ((nI_eq (a := g_300) (b := 0) (Nat.lt_of_le_of_lt hg_300 (Nat.le_of_ble_eq_true rfl)) (Nat.le_of_ble_eq_true rfl)).mpr z)
                        refine lv_iload hx hb dX9_hasTimes_34 (lv_at hl 5 rfl) ?_
                        refine lv_iconst (v := 1) hx hb dX9_hasTimes_36 (by decide) ?_
                        refine lv_icmp_ne (tgt := 45) hx hb dX9_hasTimes_37 (by decide) (fun c_350 => ?_) (fun c_350 => ?_)
                        · have c_350 : ¬ g_300 = 1 := fun z => c_350 ((nI_eq (a := g_300) (b := 1) (Nat.lt_of_le_of_lt hg_300 (Nat.le_of_ble_eq_true rfl)) (Nat.le_of_ble_eq_true rfl)).mpr z)
                          refine lv_iload hx hb dX9_hasTimes_45 (lv_at hl 5 rfl) ?_
                          refine lv_iconst (v := 2) hx hb dX9_hasTimes_47 (by decide) ?_
                          refine lv_icmp_ne (tgt := 57) hx hb dX9_hasTimes_48 (by decide) (fun c_351 => ?_) (fun c_351 => ?_)
                          · have c_351 : ¬ g_300 = 2 := fun z => c_351 ((nI_eq (a := g_300) (b := 2) (Nat.lt_of_le_of_lt hg_300 (Nat.le_of_ble_eq_true rfl)) (Nat.le_of_ble_eq_true rfl)).mpr z)
                            exfalso
                            omega
                          · have c_351 : g_300 = 2 := (nI_eq (a := g_300) (b := 2) (Nat.lt_of_le_of_lt hg_300 (Nat.le_of_ble_eq_true rfl)) (Nat.le_of_ble_eq_true rfl)).mp c_351
                            refine lv_iload hx hb dX9_hasTimes_51 (lv_at hl 4 rfl) ?_
                            refine lv_i2l (v := p3.toInt64) hx hb dX9_hasTimes_53 rfl ?_
                            refine lv_topl (fun y_352 ey_352 => ?_)
                            refine lv_goto (tgt := 58) hx hb dX9_hasTimes_54 (by decide) ?_
                            exact j_328 _ _ _ _ ⟨y_352, rfl, hP, hD, hS, lv_sub hl [0, 1, 2, 3, 4, 5, 6, 7, 8, 9] rfl⟩
                        · have c_350 : g_300 = 1 := (nI_eq (a := g_300) (b := 1) (Nat.lt_of_le_of_lt hg_300 (Nat.le_of_ble_eq_true rfl)) (Nat.le_of_ble_eq_true rfl)).mp c_350
                          refine lv_iload_n hx hb dX9_hasTimes_40 rfl (lv_at hl 3 rfl) ?_
                          refine lv_i2l (v := p2.toInt64) hx hb dX9_hasTimes_41 rfl ?_
                          refine lv_topl (fun y_353 ey_353 => ?_)
                          refine lv_goto (tgt := 58) hx hb dX9_hasTimes_42 (by decide) ?_
                          exact j_328 _ _ _ _ ⟨y_353, rfl, hP, hD, hS, lv_sub hl [0, 1, 2, 3, 4, 5, 6, 7, 8, 9] rfl⟩
                      · have c_349 : g_300 = 0 := (nI_eq (a := g_300) (b := 0) (Nat.lt_of_le_of_lt hg_300 (Nat.le_of_ble_eq_true rfl)) (Nat.le_of_ble_eq_true rfl)).mp c_349
                        refine lv_iload_n hx hb dX9_hasTimes_29 rfl (lv_at hl 2 rfl) ?_
                        refine lv_i2l (v := p1.toInt64) hx hb dX9_hasTimes_30 rfl ?_
                        refine lv_topl (fun y_354 ey_354 => ?_)
                        refine lv_goto (tgt := 58) hx hb dX9_hasTimes_31 (by decide) ?_
                        exact j_328 _ _ _ _ ⟨y_354, rfl, hP, hD, hS, lv_sub hl [0, 1, 2, 3, 4, 5, 6, 7, 8, 9] rfl⟩
                  · refine lv_lload hx hb dX9_hasTimes_115 (lv_at hl 2 rfl) ?_
                    refine lv_lload hx hb dX9_hasTimes_117 (lv_at hl 1 rfl) ?_
                    refine lv_lsub hx hb dX9_hasTimes_119 ?_
                    refine lv_topl (fun y_355 ey_355 => ?_)
                    refine lv_iload hx hb dX9_hasTimes_120 (lv_at hl 0 rfl) ?_
                    refine lv_iconst (v := 1) hx hb dX9_hasTimes_122 (by decide) ?_
                    refine lv_ishr hx hb dX9_hasTimes_123 ?_
                    refine lv_topi (fun y_356 ey_356 => ?_)
                    refine lv_i2l (v := y_356.toInt64) hx hb dX9_hasTimes_124 rfl ?_
                    refine lv_topl (fun y_357 ey_357 => ?_)
                    refine lv_ldc2 (v := (256)) hx hb hown v_11 dX9_hasTimes_125 ?_
                    refine lv_lmul hx hb dX9_hasTimes_128 ?_
                    refine lv_topl (fun y_358 ey_358 => ?_)
                    refine lv_lconst (v := (1 : Int64)) hx hb dX9_hasTimes_129 rfl ?_
                    refine lv_lsub hx hb dX9_hasTimes_130 ?_
                    refine lv_topl (fun y_359 ey_359 => ?_)
                    refine lv_iload hx hb dX9_hasTimes_131 (lv_at hl 0 rfl) ?_
                    refine lv_iconst (v := 1) hx hb dX9_hasTimes_133 (by decide) ?_
                    refine lv_iand hx hb dX9_hasTimes_134 ?_
                    refine lv_topi (fun y_360 ey_360 => ?_)
                    refine lv_i2l (v := y_360.toInt64) hx hb dX9_hasTimes_135 rfl ?_
                    refine lv_topl (fun y_361 ey_361 => ?_)
                    refine lv_ladd hx hb dX9_hasTimes_136 ?_
                    refine lv_topl (fun y_362 ey_362 => ?_)
                    refine W.lcmp hx hb dX9_hasTimes_137 ?_
                    refine lv_topi (fun y_363 ey_363 => ?_)
                    refine lv_if_le (tgt := 143) hx hb dX9_hasTimes_138 (by decide) (fun c_364 => ?_) (fun c_364 => ?_)
                    · refine lv_iinc (v := 0) (lv' := [(6, .int 0), (11, .int r_313), (9, .long (0 : Int64)), (7, .long g_311), (0, .ref (ad 0)), (1, .int (nI a0)), (2, .int p1), (3, .int p2), (4, .int p3), (5, .int (nI g_300))]) hx hb dX9_hasTimes_143 hl (k := 9) rfl (by decide) (by decide) rfl (fun ls hl => ?_)
                      refine lv_goto (tgt := 15) hx hb dX9_hasTimes_146 (by decide) ?_
                      refine pu_while (fun nn H locs ls => ∃ (g_369 : Int32) (g_370 : Nat) (g_371 : Int64) (g_372 : Int64), nn = 3 - g_370 ∧ g_370 ≤ 3 ∧ va_P (dC, dI) vwCl (mo_w ad ck x0 (nI x16) (nI x18) (nI x19) x20 (nI x21) (nI x22) x23 x24 x25 (nI x26) x27 (nI x28) (nI x29) (nI x30) (nI x33) x45 (nI x46) (nI x52) (nI x53) (nI x61) (nI x62) (nI x63) (nI x65) x66 f1 f2 f3 (bN 3 q4) (bN 7 q5) (bN 7 q6) (bN 4 q7) f8 (bN 2 q9) (bH q10) f11 (b2 m12_0 m12_1) (b2 m13_0 m13_1) (b2 m14_0 m14_1) (b2m m15_0 m15_1) f17 (bA 159 q31) f32 f34 f35 f36 f37 (bN 7 q38) f39 f40 f41 (b2 m42_0 m42_1) f43 f44 f47 f48 f49 f50 f51 (bN 13 q54) (bN 120 q55) (bN 120 q56) f57 (bN 120 q58) f59 f60 f64) H ∧ va_D (fun _ => True) (mo_w ad ck x0 (nI x16) (nI x18) (nI x19) x20 (nI x21) (nI x22) x23 x24 x25 (nI x26) x27 (nI x28) (nI x29) (nI x30) (nI x33) x45 (nI x46) (nI x52) (nI x53) (nI x61) (nI x62) (nI x63) (nI x65) x66 f1 f2 f3 (bN 3 q4) (bN 7 q5) (bN 7 q6) (bN 4 q7) f8 (bN 2 q9) (bH q10) f11 (b2 m12_0 m12_1) (b2 m13_0 m13_1) (b2 m14_0 m14_1) (b2m m15_0 m15_1) f17 (bA 159 q31) f32 f34 f35 f36 f37 (bN 7 q38) f39 f40 f41 (b2 m42_0 m42_1) f43 f44 f47 f48 f49 f50 f51 (bN 13 q54) (bN 120 q55) (bN 120 q56) f57 (bN 120 q58) f59 f60 f64) ∧ va_S (va_A [] s.heap.size) s.heap H locs ∧ lv_has ls 12 [(0, .ref (ad 0)), (1, .int (nI a0)), (2, .int p1), (3, .int p2), (4, .int p3), (5, .int (nI g_300)), (6, .int (nI g_370)), (7, .long g_371), (9, .long g_372), (11, .int g_369)]) 15 ?_ _ _ _ _ ⟨r_313, 0, g_311, (0 : Int64), rfl, (Nat.le_of_ble_eq_true rfl), hP, hD, hS, lv_sub hl [4, 5, 6, 7, 8, 9, 0, 3, 2, 1] rfl⟩
                      rintro nn ih_373 H locs ls ⟨g_369, g_370, g_371, g_372, rfl, hg_370, hP, hD, hS, hl⟩
                      refine lv_iload hx hb dX9_hasTimes_15 (lv_at hl 6 rfl) ?_
                      refine lv_aload_n hx hb dX9_hasTimes_17 rfl (lv_at hl 0 rfl) ?_
                      refine va_calli (va_runV (As := []) (rest := [.int (nI g_370)]) ⟨hx, hb, hml, hown, hts⟩ (c_M_clocks l dC dI _ ad ck x0 x16 x18 x19 x20 x21 x22 x23 x24 x25 x26 x27 x28 x29 x30 x33 x45 x46 x52 x53 x61 x62 x63 x65 x66 f1 f2 f3 q4 q5 q6 q7 f8 q9 q10 f11 m12_0 m12_1 m13_0 m13_1 m14_0 m14_1 m15_0 m15_1 f17 q31 f32 f34 f35 f36 f37 q38 f39 f40 f41 m42_0 m42_1 f43 f44 f47 f48 f49 f50 f51 q54 q55 q56 f57 q58 f59 f60 f64 hx16 hx18 hx19 hx21 hx22 hx26 hx28 hx29 hx30 hx33 hx46 hx52 hx53 hx61 hx62 hx63 hx65 hm12_0 hm12_1 hm13_0 hm13_1 hm14_0 hm14_1 hm15_0 hm15_1 hm42_0 hm42_1) (cwV 0 hts g_M_hasTimes_M_clocks rfl rfl rfl (by decide +kernel) ⟨Nat.le_of_ble_eq_true rfl, Nat.le_of_ble_eq_true rfl⟩) ⟨pu_bl, va_recv hK hP (ci := 9) (q0 := 0) rfl rfl, pu_in hP hK hD⟩ rfl rfl hl.1 rfl (lv_room (Nat.le_of_ble_eq_true rfl)) dX9_hasTimes_18 ⟨Nat.le_of_ble_eq_true rfl, Nat.le_of_ble_eq_true rfl⟩) hS (fun q _ h => pu_fr hS hA q h) (pu_fr hS hA) (fun r_374 u t H1 locs ht hvm hw hB hz1 hk1 hS => ?_)
                      have hP := pu_keep hP hk1
                      clear hk1 hz1 ht hvm
                      generalize H1 = H at hP hS ⊢
                      obtain ⟨u_375, hu_375, rfl⟩ := hw
                      refine lv_icmp_ge (tgt := 149) hx hb dX9_hasTimes_21 (by decide) (fun c_376 => ?_) (fun c_376 => ?_)
                      · have c_376 : u_375 ≤ g_370 := (nI_leI (a := u_375) (b := g_370) (Nat.lt_of_le_of_lt hu_375 (Nat.le_of_ble_eq_true rfl)) (Nat.lt_of_le_of_lt hg_370 (Nat.le_of_ble_eq_true rfl))).mp c_376
                        refine lv_iinc (v := (nI (g_300 + 1))) (lv' := [(5, .int (nI (g_300 + 1))), (0, .ref (ad 0)), (1, .int (nI a0)), (2, .int p1), (3, .int p2), (4, .int p3), (6, .int (nI g_370)), (7, .long g_371), (9, .long g_372), (11, .int g_369)]) hx hb dX9_hasTimes_149 hl (k := 5) rfl (nI_1 _) (by decide) rfl (fun ls hl => ?_)
                        refine lv_goto (tgt := 3) hx hb dX9_hasTimes_152 (by decide) ?_
                        exact ih_304 (3 - (g_300 + 1)) (by omega) _ _ _ ⟨g_369, (g_300 + 1), (nI g_370), g_371, g_372, rfl, (by omega), hP, hD, hS, lv_sub hl [1, 2, 3, 4, 5, 0, 6, 7, 8, 9] rfl⟩
                      · have c_376 : ¬ u_375 ≤ g_370 := fun z => c_376 ((nI_leI (a := u_375) (b := g_370) (Nat.lt_of_le_of_lt hu_375 (Nat.le_of_ble_eq_true rfl)) (Nat.lt_of_le_of_lt hg_370 (Nat.le_of_ble_eq_true rfl))).mpr z)
                        refine lv_iload hx hb dX9_hasTimes_24 (lv_at hl 5 rfl) ?_
                        refine pu_join (fun H locs ls st => ∃ (g_377 : Int64), st = [.long g_377] ∧ va_P (dC, dI) vwCl (mo_w ad ck x0 (nI x16) (nI x18) (nI x19) x20 (nI x21) (nI x22) x23 x24 x25 (nI x26) x27 (nI x28) (nI x29) (nI x30) (nI x33) x45 (nI x46) (nI x52) (nI x53) (nI x61) (nI x62) (nI x63) (nI x65) x66 f1 f2 f3 (bN 3 q4) (bN 7 q5) (bN 7 q6) (bN 4 q7) f8 (bN 2 q9) (bH q10) f11 (b2 m12_0 m12_1) (b2 m13_0 m13_1) (b2 m14_0 m14_1) (b2m m15_0 m15_1) f17 (bA 159 q31) f32 f34 f35 f36 f37 (bN 7 q38) f39 f40 f41 (b2 m42_0 m42_1) f43 f44 f47 f48 f49 f50 f51 (bN 13 q54) (bN 120 q55) (bN 120 q56) f57 (bN 120 q58) f59 f60 f64) H ∧ va_D (fun _ => True) (mo_w ad ck x0 (nI x16) (nI x18) (nI x19) x20 (nI x21) (nI x22) x23 x24 x25 (nI x26) x27 (nI x28) (nI x29) (nI x30) (nI x33) x45 (nI x46) (nI x52) (nI x53) (nI x61) (nI x62) (nI x63) (nI x65) x66 f1 f2 f3 (bN 3 q4) (bN 7 q5) (bN 7 q6) (bN 4 q7) f8 (bN 2 q9) (bH q10) f11 (b2 m12_0 m12_1) (b2 m13_0 m13_1) (b2 m14_0 m14_1) (b2m m15_0 m15_1) f17 (bA 159 q31) f32 f34 f35 f36 f37 (bN 7 q38) f39 f40 f41 (b2 m42_0 m42_1) f43 f44 f47 f48 f49 f50 f51 (bN 13 q54) (bN 120 q55) (bN 120 q56) f57 (bN 120 q58) f59 f60 f64) ∧ va_S (va_A [] s.heap.size) s.heap H locs ∧ lv_has ls 12 [(0, .ref (ad 0)), (1, .int (nI a0)), (2, .int p1), (3, .int p2), (4, .int p3), (5, .int (nI g_300)), (6, .int (nI g_370)), (7, .long g_371), (9, .long g_372), (11, .int g_369)]) 58 ?_ (fun j_378 => ?_)
                        · rintro H locs ls st ⟨g_377, rfl, hP, hD, hS, hl⟩
                          refine lv_lstore (lv' := [(7, .long g_377), (0, .ref (ad 0)), (1, .int (nI a0)), (2, .int p1), (3, .int p2), (4, .int p3), (5, .int (nI g_300)), (6, .int (nI g_370)), (9, .long g_372), (11, .int g_369)]) hx hb dX9_hasTimes_58 hl (by decide) rfl (fun ls hl => ?_)
                          refine lv_iload hx hb dX9_hasTimes_60 (lv_at hl 7 rfl) ?_
                          refine pu_join (fun H locs ls st => ∃ (g_379 : Int64), st = [.long g_379] ∧ va_P (dC, dI) vwCl (mo_w ad ck x0 (nI x16) (nI x18) (nI x19) x20 (nI x21) (nI x22) x23 x24 x25 (nI x26) x27 (nI x28) (nI x29) (nI x30) (nI x33) x45 (nI x46) (nI x52) (nI x53) (nI x61) (nI x62) (nI x63) (nI x65) x66 f1 f2 f3 (bN 3 q4) (bN 7 q5) (bN 7 q6) (bN 4 q7) f8 (bN 2 q9) (bH q10) f11 (b2 m12_0 m12_1) (b2 m13_0 m13_1) (b2 m14_0 m14_1) (b2m m15_0 m15_1) f17 (bA 159 q31) f32 f34 f35 f36 f37 (bN 7 q38) f39 f40 f41 (b2 m42_0 m42_1) f43 f44 f47 f48 f49 f50 f51 (bN 13 q54) (bN 120 q55) (bN 120 q56) f57 (bN 120 q58) f59 f60 f64) H ∧ va_D (fun _ => True) (mo_w ad ck x0 (nI x16) (nI x18) (nI x19) x20 (nI x21) (nI x22) x23 x24 x25 (nI x26) x27 (nI x28) (nI x29) (nI x30) (nI x33) x45 (nI x46) (nI x52) (nI x53) (nI x61) (nI x62) (nI x63) (nI x65) x66 f1 f2 f3 (bN 3 q4) (bN 7 q5) (bN 7 q6) (bN 4 q7) f8 (bN 2 q9) (bH q10) f11 (b2 m12_0 m12_1) (b2 m13_0 m13_1) (b2 m14_0 m14_1) (b2m m15_0 m15_1) f17 (bA 159 q31) f32 f34 f35 f36 f37 (bN 7 q38) f39 f40 f41 (b2 m42_0 m42_1) f43 f44 f47 f48 f49 f50 f51 (bN 13 q54) (bN 120 q55) (bN 120 q56) f57 (bN 120 q58) f59 f60 f64) ∧ va_S (va_A [] s.heap.size) s.heap H locs ∧ lv_has ls 12 [(0, .ref (ad 0)), (1, .int (nI a0)), (2, .int p1), (3, .int p2), (4, .int p3), (5, .int (nI g_300)), (6, .int (nI g_370)), (7, .long g_377), (9, .long g_372), (11, .int g_369)]) 94 ?_ (fun j_380 => ?_)
                          · rintro H locs ls st ⟨g_379, rfl, hP, hD, hS, hl⟩
                            refine lv_lstore (lv' := [(9, .long g_379), (0, .ref (ad 0)), (1, .int (nI a0)), (2, .int p1), (3, .int p2), (4, .int p3), (5, .int (nI g_300)), (6, .int (nI g_370)), (7, .long g_377), (11, .int g_369)]) hx hb dX9_hasTimes_94 hl (by decide) rfl (fun ls hl => ?_)
                            refine lv_aload_n hx hb dX9_hasTimes_96 rfl (lv_at hl 1 rfl) ?_
                            refine lv_iload_n hx hb dX9_hasTimes_97 rfl (lv_at hl 2 rfl) ?_
                            refine lv_iload hx hb dX9_hasTimes_98 (lv_at hl 6 rfl) ?_
                            refine lv_iload hx hb dX9_hasTimes_100 (lv_at hl 7 rfl) ?_
                            refine va_calli (va_runV (As := [.int (nI a0), .int (nI g_300), .int (nI g_370)]) (rest := []) ⟨hx, hb, hml, hown, hts⟩ (c_M_boundOf_11 l dC dI _ ad ck x0 x16 x18 x19 x20 x21 x22 x23 x24 x25 x26 x27 x28 x29 x30 x33 x45 x46 x52 x53 x61 x62 x63 x65 x66 f1 f2 f3 q4 q5 q6 q7 f8 q9 q10 f11 m12_0 m12_1 m13_0 m13_1 m14_0 m14_1 m15_0 m15_1 f17 q31 f32 f34 f35 f36 f37 q38 f39 f40 f41 m42_0 m42_1 f43 f44 f47 f48 f49 f50 f51 q54 q55 q56 f57 q58 f59 f60 f64 a0 g_300 g_370 hx16 hx18 hx19 hx21 hx22 hx26 hx28 hx29 hx30 hx33 hx46 hx52 hx53 hx61 hx62 hx63 hx65 hm12_0 hm12_1 hm13_0 hm13_1 hm14_0 hm14_1 hm15_0 hm15_1 hm42_0 hm42_1 ha0 hg_300 hg_370) (cwV 3 hts g_M_hasTimes_M_boundOf_11 rfl rfl rfl (by decide +kernel) ⟨Nat.le_of_ble_eq_true rfl, Nat.le_of_ble_eq_true rfl⟩) ⟨pu_bl, va_recv hK hP (ci := 9) (q0 := 0) rfl rfl, pu_in hP hK hD⟩ rfl rfl hl.1 rfl (lv_room (Nat.le_of_ble_eq_true rfl)) dX9_hasTimes_102 ⟨Nat.le_of_ble_eq_true rfl, Nat.le_of_ble_eq_true rfl⟩) hS (fun q _ h => pu_fr hS hA q h) (pu_fr hS hA) (fun r_381 u t H1 locs ht hvm hw hB hz1 hk1 hS => ?_)
                            have hP := pu_keep hP hk1
                            clear hk1 hz1 ht hvm
                            generalize H1 = H at hP hS ⊢
                            refine lv_istore (lv' := [(11, .int r_381), (9, .long g_379), (0, .ref (ad 0)), (1, .int (nI a0)), (2, .int p1), (3, .int p2), (4, .int p3), (5, .int (nI g_300)), (6, .int (nI g_370)), (7, .long g_377)]) hx hb dX9_hasTimes_105 hl (by decide) rfl (fun ls hl => ?_)
                            refine lv_iload hx hb dX9_hasTimes_107 (lv_at hl 0 rfl) ?_
                            refine lv_ldcw hx hb hown v_10 dX9_hasTimes_109 ?_
                            refine lv_icmp_ge (tgt := 143) hx hb dX9_hasTimes_112 (by decide) (fun c_382 => ?_) (fun c_382 => ?_)
                            · refine lv_iinc (v := (nI (g_370 + 1))) (lv' := [(6, .int (nI (g_370 + 1))), (11, .int r_381), (9, .long g_379), (0, .ref (ad 0)), (1, .int (nI a0)), (2, .int p1), (3, .int p2), (4, .int p3), (5, .int (nI g_300)), (7, .long g_377)]) hx hb dX9_hasTimes_143 hl (k := 8) rfl (nI_1 _) (by decide) rfl (fun ls hl => ?_)
                              refine lv_goto (tgt := 15) hx hb dX9_hasTimes_146 (by decide) ?_
                              exact ih_373 (3 - (g_370 + 1)) (by omega) _ _ _ ⟨r_381, (g_370 + 1), g_377, g_379, rfl, (by omega), hP, hD, hS, lv_sub hl [3, 4, 5, 6, 7, 8, 0, 9, 2, 1] rfl⟩
                            · refine lv_lload hx hb dX9_hasTimes_115 (lv_at hl 9 rfl) ?_
                              refine lv_lload hx hb dX9_hasTimes_117 (lv_at hl 1 rfl) ?_
                              refine lv_lsub hx hb dX9_hasTimes_119 ?_
                              refine lv_topl (fun y_383 ey_383 => ?_)
                              refine lv_iload hx hb dX9_hasTimes_120 (lv_at hl 0 rfl) ?_
                              refine lv_iconst (v := 1) hx hb dX9_hasTimes_122 (by decide) ?_
                              refine lv_ishr hx hb dX9_hasTimes_123 ?_
                              refine lv_topi (fun y_384 ey_384 => ?_)
                              refine lv_i2l (v := y_384.toInt64) hx hb dX9_hasTimes_124 rfl ?_
                              refine lv_topl (fun y_385 ey_385 => ?_)
                              refine lv_ldc2 (v := (256)) hx hb hown v_11 dX9_hasTimes_125 ?_
                              refine lv_lmul hx hb dX9_hasTimes_128 ?_
                              refine lv_topl (fun y_386 ey_386 => ?_)
                              refine lv_lconst (v := (1 : Int64)) hx hb dX9_hasTimes_129 rfl ?_
                              refine lv_lsub hx hb dX9_hasTimes_130 ?_
                              refine lv_topl (fun y_387 ey_387 => ?_)
                              refine lv_iload hx hb dX9_hasTimes_131 (lv_at hl 0 rfl) ?_
                              refine lv_iconst (v := 1) hx hb dX9_hasTimes_133 (by decide) ?_
                              refine lv_iand hx hb dX9_hasTimes_134 ?_
                              refine lv_topi (fun y_388 ey_388 => ?_)
                              refine lv_i2l (v := y_388.toInt64) hx hb dX9_hasTimes_135 rfl ?_
                              refine lv_topl (fun y_389 ey_389 => ?_)
                              refine lv_ladd hx hb dX9_hasTimes_136 ?_
                              refine lv_topl (fun y_390 ey_390 => ?_)
                              refine W.lcmp hx hb dX9_hasTimes_137 ?_
                              refine lv_topi (fun y_391 ey_391 => ?_)
                              refine lv_if_le (tgt := 143) hx hb dX9_hasTimes_138 (by decide) (fun c_392 => ?_) (fun c_392 => ?_)
                              · refine lv_iinc (v := (nI (g_370 + 1))) (lv' := [(6, .int (nI (g_370 + 1))), (11, .int r_381), (9, .long g_379), (0, .ref (ad 0)), (1, .int (nI a0)), (2, .int p1), (3, .int p2), (4, .int p3), (5, .int (nI g_300)), (7, .long g_377)]) hx hb dX9_hasTimes_143 hl (k := 8) rfl (nI_1 _) (by decide) rfl (fun ls hl => ?_)
                                refine lv_goto (tgt := 15) hx hb dX9_hasTimes_146 (by decide) ?_
                                exact ih_373 (3 - (g_370 + 1)) (by omega) _ _ _ ⟨r_381, (g_370 + 1), g_377, g_379, rfl, (by omega), hP, hD, hS, lv_sub hl [3, 4, 5, 6, 7, 8, 0, 9, 2, 1] rfl⟩
                              · refine lv_iconst (v := 0) hx hb dX9_hasTimes_141 (by decide) ?_
                                exact W.zret (v := 0) (ty := .boolean) hx hb hr (rfl) (fun t ht hW => ⟨⟨0, (), rfl, ⟨0, (Nat.le_of_ble_eq_true rfl), rfl⟩, trivial⟩, hS.F ht⟩) hS.2.2 dX9_hasTimes_142
                          refine lv_if_ne (tgt := 70) hx hb dX9_hasTimes_62 (by decide) (fun c_393 => ?_) (fun c_393 => ?_)
                          · have c_393 : ¬ g_370 = 0 := fun z => c_393 ((nI_eq (a := g_370) (b := 0) (Nat.lt_of_le_of_lt hg_370 (Nat.le_of_ble_eq_true rfl)) (Nat.le_of_ble_eq_true rfl)).mpr z)
                            refine lv_iload hx hb dX9_hasTimes_70 (lv_at hl 7 rfl) ?_
                            refine lv_iconst (v := 1) hx hb dX9_hasTimes_72 (by decide) ?_
                            refine lv_icmp_ne (tgt := 81) hx hb dX9_hasTimes_73 (by decide) (fun c_394 => ?_) (fun c_394 => ?_)
                            · have c_394 : ¬ g_370 = 1 := fun z => c_394 ((nI_eq (a := g_370) (b := 1) (Nat.lt_of_le_of_lt hg_370 (Nat.le_of_ble_eq_true rfl)) (Nat.le_of_ble_eq_true rfl)).mpr z)
                              refine lv_iload hx hb dX9_hasTimes_81 (lv_at hl 7 rfl) ?_
                              refine lv_iconst (v := 2) hx hb dX9_hasTimes_83 (by decide) ?_
                              refine lv_icmp_ne (tgt := 93) hx hb dX9_hasTimes_84 (by decide) (fun c_395 => ?_) (fun c_395 => ?_)
                              · have c_395 : ¬ g_370 = 2 := fun z => c_395 ((nI_eq (a := g_370) (b := 2) (Nat.lt_of_le_of_lt hg_370 (Nat.le_of_ble_eq_true rfl)) (Nat.le_of_ble_eq_true rfl)).mpr z)
                                exfalso
                                omega
                              · have c_395 : g_370 = 2 := (nI_eq (a := g_370) (b := 2) (Nat.lt_of_le_of_lt hg_370 (Nat.le_of_ble_eq_true rfl)) (Nat.le_of_ble_eq_true rfl)).mp c_395
                                refine lv_iload hx hb dX9_hasTimes_87 (lv_at hl 5 rfl) ?_
                                refine lv_i2l (v := p3.toInt64) hx hb dX9_hasTimes_89 rfl ?_
                                refine lv_topl (fun y_396 ey_396 => ?_)
                                refine lv_goto (tgt := 94) hx hb dX9_hasTimes_90 (by decide) ?_
                                exact j_380 _ _ _ _ ⟨y_396, rfl, hP, hD, hS, lv_sub hl [1, 2, 3, 4, 5, 6, 7, 0, 8, 9] rfl⟩
                            · have c_394 : g_370 = 1 := (nI_eq (a := g_370) (b := 1) (Nat.lt_of_le_of_lt hg_370 (Nat.le_of_ble_eq_true rfl)) (Nat.le_of_ble_eq_true rfl)).mp c_394
                              refine lv_iload_n hx hb dX9_hasTimes_76 rfl (lv_at hl 4 rfl) ?_
                              refine lv_i2l (v := p2.toInt64) hx hb dX9_hasTimes_77 rfl ?_
                              refine lv_topl (fun y_397 ey_397 => ?_)
                              refine lv_goto (tgt := 94) hx hb dX9_hasTimes_78 (by decide) ?_
                              exact j_380 _ _ _ _ ⟨y_397, rfl, hP, hD, hS, lv_sub hl [1, 2, 3, 4, 5, 6, 7, 0, 8, 9] rfl⟩
                          · have c_393 : g_370 = 0 := (nI_eq (a := g_370) (b := 0) (Nat.lt_of_le_of_lt hg_370 (Nat.le_of_ble_eq_true rfl)) (Nat.le_of_ble_eq_true rfl)).mp c_393
                            refine lv_iload_n hx hb dX9_hasTimes_65 rfl (lv_at hl 3 rfl) ?_
                            refine lv_i2l (v := p1.toInt64) hx hb dX9_hasTimes_66 rfl ?_
                            refine lv_topl (fun y_398 ey_398 => ?_)
                            refine lv_goto (tgt := 94) hx hb dX9_hasTimes_67 (by decide) ?_
                            exact j_380 _ _ _ _ ⟨y_398, rfl, hP, hD, hS, lv_sub hl [1, 2, 3, 4, 5, 6, 7, 0, 8, 9] rfl⟩
                        refine lv_if_ne (tgt := 34) hx hb dX9_hasTimes_26 (by decide) (fun c_399 => ?_) (fun c_399 => ?_)
                        · have c_399 : ¬ g_300 = 0 := fun z => c_399 ((nI_eq (a := g_300) (b := 0) (Nat.lt_of_le_of_lt hg_300 (Nat.le_of_ble_eq_true rfl)) (Nat.le_of_ble_eq_true rfl)).mpr z)
                          refine lv_iload hx hb dX9_hasTimes_34 (lv_at hl 5 rfl) ?_
                          refine lv_iconst (v := 1) hx hb dX9_hasTimes_36 (by decide) ?_
                          refine lv_icmp_ne (tgt := 45) hx hb dX9_hasTimes_37 (by decide) (fun c_400 => ?_) (fun c_400 => ?_)
                          · have c_400 : ¬ g_300 = 1 := fun z => c_400 ((nI_eq (a := g_300) (b := 1) (Nat.lt_of_le_of_lt hg_300 (Nat.le_of_ble_eq_true rfl)) (Nat.le_of_ble_eq_true rfl)).mpr z)
                            refine lv_iload hx hb dX9_hasTimes_45 (lv_at hl 5 rfl) ?_
                            refine lv_iconst (v := 2) hx hb dX9_hasTimes_47 (by decide) ?_
                            refine lv_icmp_ne (tgt := 57) hx hb dX9_hasTimes_48 (by decide) (fun c_401 => ?_) (fun c_401 => ?_)
                            · have c_401 : ¬ g_300 = 2 := fun z => c_401 ((nI_eq (a := g_300) (b := 2) (Nat.lt_of_le_of_lt hg_300 (Nat.le_of_ble_eq_true rfl)) (Nat.le_of_ble_eq_true rfl)).mpr z)
                              exfalso
                              omega
                            · have c_401 : g_300 = 2 := (nI_eq (a := g_300) (b := 2) (Nat.lt_of_le_of_lt hg_300 (Nat.le_of_ble_eq_true rfl)) (Nat.le_of_ble_eq_true rfl)).mp c_401
                              refine lv_iload hx hb dX9_hasTimes_51 (lv_at hl 4 rfl) ?_
                              refine lv_i2l (v := p3.toInt64) hx hb dX9_hasTimes_53 rfl ?_
                              refine lv_topl (fun y_402 ey_402 => ?_)
                              refine lv_goto (tgt := 58) hx hb dX9_hasTimes_54 (by decide) ?_
                              exact j_378 _ _ _ _ ⟨y_402, rfl, hP, hD, hS, lv_sub hl [0, 1, 2, 3, 4, 5, 6, 7, 8, 9] rfl⟩
                          · have c_400 : g_300 = 1 := (nI_eq (a := g_300) (b := 1) (Nat.lt_of_le_of_lt hg_300 (Nat.le_of_ble_eq_true rfl)) (Nat.le_of_ble_eq_true rfl)).mp c_400
                            refine lv_iload_n hx hb dX9_hasTimes_40 rfl (lv_at hl 3 rfl) ?_
                            refine lv_i2l (v := p2.toInt64) hx hb dX9_hasTimes_41 rfl ?_
                            refine lv_topl (fun y_403 ey_403 => ?_)
                            refine lv_goto (tgt := 58) hx hb dX9_hasTimes_42 (by decide) ?_
                            exact j_378 _ _ _ _ ⟨y_403, rfl, hP, hD, hS, lv_sub hl [0, 1, 2, 3, 4, 5, 6, 7, 8, 9] rfl⟩
                        · have c_399 : g_300 = 0 := (nI_eq (a := g_300) (b := 0) (Nat.lt_of_le_of_lt hg_300 (Nat.le_of_ble_eq_true rfl)) (Nat.le_of_ble_eq_true rfl)).mp c_399
                          refine lv_iload_n hx hb dX9_hasTimes_29 rfl (lv_at hl 2 rfl) ?_
                          refine lv_i2l (v := p1.toInt64) hx hb dX9_hasTimes_30 rfl ?_
                          refine lv_topl (fun y_404 ey_404 => ?_)
                          refine lv_goto (tgt := 58) hx hb dX9_hasTimes_31 (by decide) ?_
                          exact j_378 _ _ _ _ ⟨y_404, rfl, hP, hD, hS, lv_sub hl [0, 1, 2, 3, 4, 5, 6, 7, 8, 9] rfl⟩
                    · refine lv_iconst (v := 0) hx hb dX9_hasTimes_141 (by decide) ?_
                      exact W.zret (v := 0) (ty := .boolean) hx hb hr (rfl) (fun t ht hW => ⟨⟨0, (), rfl, ⟨0, (Nat.le_of_ble_eq_true rfl), rfl⟩, trivial⟩, hS.F ht⟩) hS.2.2 dX9_hasTimes_142
                refine lv_if_ne (tgt := 34) hx hb dX9_hasTimes_26 (by decide) (fun c_405 => ?_) (fun c_405 => ?_)
                · have c_405 : ¬ g_300 = 0 := fun z => c_405 ((nI_eq (a := g_300) (b := 0) (Nat.lt_of_le_of_lt hg_300 (Nat.le_of_ble_eq_true rfl)) (Nat.le_of_ble_eq_true rfl)).mpr z)
                  refine lv_iload hx hb dX9_hasTimes_34 (lv_at hl 6 rfl) ?_
                  refine lv_iconst (v := 1) hx hb dX9_hasTimes_36 (by decide) ?_
                  refine lv_icmp_ne (tgt := 45) hx hb dX9_hasTimes_37 (by decide) (fun c_406 => ?_) (fun c_406 => ?_)
                  · have c_406 : ¬ g_300 = 1 := fun z => c_406 ((nI_eq (a := g_300) (b := 1) (Nat.lt_of_le_of_lt hg_300 (Nat.le_of_ble_eq_true rfl)) (Nat.le_of_ble_eq_true rfl)).mpr z)
                    refine lv_iload hx hb dX9_hasTimes_45 (lv_at hl 6 rfl) ?_
                    refine lv_iconst (v := 2) hx hb dX9_hasTimes_47 (by decide) ?_
                    refine lv_icmp_ne (tgt := 57) hx hb dX9_hasTimes_48 (by decide) (fun c_407 => ?_) (fun c_407 => ?_)
                    · have c_407 : ¬ g_300 = 2 := fun z => c_407 ((nI_eq (a := g_300) (b := 2) (Nat.lt_of_le_of_lt hg_300 (Nat.le_of_ble_eq_true rfl)) (Nat.le_of_ble_eq_true rfl)).mpr z)
                      exfalso
                      omega
                    · have c_407 : g_300 = 2 := (nI_eq (a := g_300) (b := 2) (Nat.lt_of_le_of_lt hg_300 (Nat.le_of_ble_eq_true rfl)) (Nat.le_of_ble_eq_true rfl)).mp c_407
                      refine lv_iload hx hb dX9_hasTimes_51 (lv_at hl 5 rfl) ?_
                      refine lv_i2l (v := p3.toInt64) hx hb dX9_hasTimes_53 rfl ?_
                      refine lv_topl (fun y_408 ey_408 => ?_)
                      refine lv_goto (tgt := 58) hx hb dX9_hasTimes_54 (by decide) ?_
                      exact j_312 _ _ _ _ ⟨y_408, rfl, hP, hD, hS, lv_sub hl [1, 2, 3, 4, 5, 6, 0, 7, 8, 9] rfl⟩
                  · have c_406 : g_300 = 1 := (nI_eq (a := g_300) (b := 1) (Nat.lt_of_le_of_lt hg_300 (Nat.le_of_ble_eq_true rfl)) (Nat.le_of_ble_eq_true rfl)).mp c_406
                    refine lv_iload_n hx hb dX9_hasTimes_40 rfl (lv_at hl 4 rfl) ?_
                    refine lv_i2l (v := p2.toInt64) hx hb dX9_hasTimes_41 rfl ?_
                    refine lv_topl (fun y_409 ey_409 => ?_)
                    refine lv_goto (tgt := 58) hx hb dX9_hasTimes_42 (by decide) ?_
                    exact j_312 _ _ _ _ ⟨y_409, rfl, hP, hD, hS, lv_sub hl [1, 2, 3, 4, 5, 6, 0, 7, 8, 9] rfl⟩
                · have c_405 : g_300 = 0 := (nI_eq (a := g_300) (b := 0) (Nat.lt_of_le_of_lt hg_300 (Nat.le_of_ble_eq_true rfl)) (Nat.le_of_ble_eq_true rfl)).mp c_405
                  refine lv_iload_n hx hb dX9_hasTimes_29 rfl (lv_at hl 3 rfl) ?_
                  refine lv_i2l (v := p1.toInt64) hx hb dX9_hasTimes_30 rfl ?_
                  refine lv_topl (fun y_410 ey_410 => ?_)
                  refine lv_goto (tgt := 58) hx hb dX9_hasTimes_31 (by decide) ?_
                  exact j_312 _ _ _ _ ⟨y_410, rfl, hP, hD, hS, lv_sub hl [1, 2, 3, 4, 5, 6, 0, 7, 8, 9] rfl⟩
          · have c_293 : ¬ u_292 ≤ g_287 := fun z => c_293 ((nI_leI (a := u_292) (b := g_287) (Nat.lt_of_le_of_lt hu_292 (Nat.le_of_ble_eq_true rfl)) (Nat.lt_of_le_of_lt hg_287 (Nat.le_of_ble_eq_true rfl))).mpr z)
            refine lv_iload hx hb dX9_hasTimes_24 (lv_at hl 5 rfl) ?_
            refine lv_if_ne (tgt := 34) hx hb dX9_hasTimes_26 (by decide) (fun _ => ?_) (fun z => absurd z (by decide))
            refine lv_iload hx hb dX9_hasTimes_34 (lv_at hl 5 rfl) ?_
            refine lv_iconst (v := 1) hx hb dX9_hasTimes_36 (by decide) ?_
            refine lv_icmp_ne (tgt := 45) hx hb dX9_hasTimes_37 (by decide) (fun _ => ?_) (fun z => absurd z (by decide))
            refine lv_iload hx hb dX9_hasTimes_45 (lv_at hl 5 rfl) ?_
            refine lv_iconst (v := 2) hx hb dX9_hasTimes_47 (by decide) ?_
            refine lv_icmp_ne (tgt := 57) hx hb dX9_hasTimes_48 (by decide) (fun _ => ?_) (fun z => absurd z (by decide))
            refine lv_lconst (v := (0 : Int64)) hx hb dX9_hasTimes_57 rfl ?_
            refine lv_lstore (lv' := [(7, .long (0 : Int64)), (0, .ref (ad 0)), (1, .int (nI a0)), (2, .int p1), (3, .int p2), (4, .int p3), (5, .int (-1)), (6, .int (nI g_287)), (9, .long g_289), (11, .int g_286)]) hx hb dX9_hasTimes_58 hl (by decide) rfl (fun ls hl => ?_)
            refine lv_iload hx hb dX9_hasTimes_60 (lv_at hl 7 rfl) ?_
            refine pu_join (fun H locs ls st => ∃ (g_411 : Int64), st = [.long g_411] ∧ va_P (dC, dI) vwCl (mo_w ad ck x0 (nI x16) (nI x18) (nI x19) x20 (nI x21) (nI x22) x23 x24 x25 (nI x26) x27 (nI x28) (nI x29) (nI x30) (nI x33) x45 (nI x46) (nI x52) (nI x53) (nI x61) (nI x62) (nI x63) (nI x65) x66 f1 f2 f3 (bN 3 q4) (bN 7 q5) (bN 7 q6) (bN 4 q7) f8 (bN 2 q9) (bH q10) f11 (b2 m12_0 m12_1) (b2 m13_0 m13_1) (b2 m14_0 m14_1) (b2m m15_0 m15_1) f17 (bA 159 q31) f32 f34 f35 f36 f37 (bN 7 q38) f39 f40 f41 (b2 m42_0 m42_1) f43 f44 f47 f48 f49 f50 f51 (bN 13 q54) (bN 120 q55) (bN 120 q56) f57 (bN 120 q58) f59 f60 f64) H ∧ va_D (fun _ => True) (mo_w ad ck x0 (nI x16) (nI x18) (nI x19) x20 (nI x21) (nI x22) x23 x24 x25 (nI x26) x27 (nI x28) (nI x29) (nI x30) (nI x33) x45 (nI x46) (nI x52) (nI x53) (nI x61) (nI x62) (nI x63) (nI x65) x66 f1 f2 f3 (bN 3 q4) (bN 7 q5) (bN 7 q6) (bN 4 q7) f8 (bN 2 q9) (bH q10) f11 (b2 m12_0 m12_1) (b2 m13_0 m13_1) (b2 m14_0 m14_1) (b2m m15_0 m15_1) f17 (bA 159 q31) f32 f34 f35 f36 f37 (bN 7 q38) f39 f40 f41 (b2 m42_0 m42_1) f43 f44 f47 f48 f49 f50 f51 (bN 13 q54) (bN 120 q55) (bN 120 q56) f57 (bN 120 q58) f59 f60 f64) ∧ va_S (va_A [] s.heap.size) s.heap H locs ∧ lv_has ls 12 [(0, .ref (ad 0)), (1, .int (nI a0)), (2, .int p1), (3, .int p2), (4, .int p3), (5, .int (-1)), (6, .int (nI g_287)), (7, .long (0 : Int64)), (9, .long g_289), (11, .int g_286)]) 94 ?_ (fun j_412 => ?_)
            · rintro H locs ls st ⟨g_411, rfl, hP, hD, hS, hl⟩
              refine lv_lstore (lv' := [(9, .long g_411), (0, .ref (ad 0)), (1, .int (nI a0)), (2, .int p1), (3, .int p2), (4, .int p3), (5, .int (-1)), (6, .int (nI g_287)), (7, .long (0 : Int64)), (11, .int g_286)]) hx hb dX9_hasTimes_94 hl (by decide) rfl (fun ls hl => ?_)
              refine lv_aload_n hx hb dX9_hasTimes_96 rfl (lv_at hl 1 rfl) ?_
              refine lv_iload_n hx hb dX9_hasTimes_97 rfl (lv_at hl 2 rfl) ?_
              refine lv_iload hx hb dX9_hasTimes_98 (lv_at hl 6 rfl) ?_
              refine lv_iload hx hb dX9_hasTimes_100 (lv_at hl 7 rfl) ?_
              refine va_calli (va_runV (As := [.int (nI a0), .int (-1), .int (nI g_287)]) (rest := []) ⟨hx, hb, hml, hown, hts⟩ (c_M_boundOf_01 l dC dI _ ad ck x0 x16 x18 x19 x20 x21 x22 x23 x24 x25 x26 x27 x28 x29 x30 x33 x45 x46 x52 x53 x61 x62 x63 x65 x66 f1 f2 f3 q4 q5 q6 q7 f8 q9 q10 f11 m12_0 m12_1 m13_0 m13_1 m14_0 m14_1 m15_0 m15_1 f17 q31 f32 f34 f35 f36 f37 q38 f39 f40 f41 m42_0 m42_1 f43 f44 f47 f48 f49 f50 f51 q54 q55 q56 f57 q58 f59 f60 f64 a0 g_287 hx16 hx18 hx19 hx21 hx22 hx26 hx28 hx29 hx30 hx33 hx46 hx52 hx53 hx61 hx62 hx63 hx65 hm12_0 hm12_1 hm13_0 hm13_1 hm14_0 hm14_1 hm15_0 hm15_1 hm42_0 hm42_1 ha0 hg_287) (cwV 3 hts g_M_hasTimes_M_boundOf_01 rfl rfl rfl (by decide +kernel) ⟨Nat.le_of_ble_eq_true rfl, Nat.le_of_ble_eq_true rfl⟩) ⟨pu_bl, va_recv hK hP (ci := 9) (q0 := 0) rfl rfl, pu_in hP hK hD⟩ rfl rfl hl.1 rfl (lv_room (Nat.le_of_ble_eq_true rfl)) dX9_hasTimes_102 ⟨Nat.le_of_ble_eq_true rfl, Nat.le_of_ble_eq_true rfl⟩) hS (fun q _ h => pu_fr hS hA q h) (pu_fr hS hA) (fun r_413 u t H1 locs ht hvm hw hB hz1 hk1 hS => ?_)
              have hP := pu_keep hP hk1
              clear hk1 hz1 ht hvm
              generalize H1 = H at hP hS ⊢
              refine lv_istore (lv' := [(11, .int r_413), (9, .long g_411), (0, .ref (ad 0)), (1, .int (nI a0)), (2, .int p1), (3, .int p2), (4, .int p3), (5, .int (-1)), (6, .int (nI g_287)), (7, .long (0 : Int64))]) hx hb dX9_hasTimes_105 hl (by decide) rfl (fun ls hl => ?_)
              refine lv_iload hx hb dX9_hasTimes_107 (lv_at hl 0 rfl) ?_
              refine lv_ldcw hx hb hown v_10 dX9_hasTimes_109 ?_
              refine lv_icmp_ge (tgt := 143) hx hb dX9_hasTimes_112 (by decide) (fun c_414 => ?_) (fun c_414 => ?_)
              · refine lv_iinc (v := (nI (g_287 + 1))) (lv' := [(6, .int (nI (g_287 + 1))), (11, .int r_413), (9, .long g_411), (0, .ref (ad 0)), (1, .int (nI a0)), (2, .int p1), (3, .int p2), (4, .int p3), (5, .int (-1)), (7, .long (0 : Int64))]) hx hb dX9_hasTimes_143 hl (k := 8) rfl (nI_1 _) (by decide) rfl (fun ls hl => ?_)
                refine lv_goto (tgt := 15) hx hb dX9_hasTimes_146 (by decide) ?_
                exact ih_290 (3 - (g_287 + 1)) (by omega) _ _ _ ⟨r_413, (g_287 + 1), (0 : Int64), g_411, rfl, (by omega), hP, hD, hS, lv_sub hl [3, 4, 5, 6, 7, 8, 0, 9, 2, 1] rfl⟩
              · refine lv_lload hx hb dX9_hasTimes_115 (lv_at hl 9 rfl) ?_
                refine lv_lload hx hb dX9_hasTimes_117 (lv_at hl 1 rfl) ?_
                refine lv_lsub hx hb dX9_hasTimes_119 ?_
                refine lv_topl (fun y_415 ey_415 => ?_)
                refine lv_iload hx hb dX9_hasTimes_120 (lv_at hl 0 rfl) ?_
                refine lv_iconst (v := 1) hx hb dX9_hasTimes_122 (by decide) ?_
                refine lv_ishr hx hb dX9_hasTimes_123 ?_
                refine lv_topi (fun y_416 ey_416 => ?_)
                refine lv_i2l (v := y_416.toInt64) hx hb dX9_hasTimes_124 rfl ?_
                refine lv_topl (fun y_417 ey_417 => ?_)
                refine lv_ldc2 (v := (256)) hx hb hown v_11 dX9_hasTimes_125 ?_
                refine lv_lmul hx hb dX9_hasTimes_128 ?_
                refine lv_topl (fun y_418 ey_418 => ?_)
                refine lv_lconst (v := (1 : Int64)) hx hb dX9_hasTimes_129 rfl ?_
                refine lv_lsub hx hb dX9_hasTimes_130 ?_
                refine lv_topl (fun y_419 ey_419 => ?_)
                refine lv_iload hx hb dX9_hasTimes_131 (lv_at hl 0 rfl) ?_
                refine lv_iconst (v := 1) hx hb dX9_hasTimes_133 (by decide) ?_
                refine lv_iand hx hb dX9_hasTimes_134 ?_
                refine lv_topi (fun y_420 ey_420 => ?_)
                refine lv_i2l (v := y_420.toInt64) hx hb dX9_hasTimes_135 rfl ?_
                refine lv_topl (fun y_421 ey_421 => ?_)
                refine lv_ladd hx hb dX9_hasTimes_136 ?_
                refine lv_topl (fun y_422 ey_422 => ?_)
                refine W.lcmp hx hb dX9_hasTimes_137 ?_
                refine lv_topi (fun y_423 ey_423 => ?_)
                refine lv_if_le (tgt := 143) hx hb dX9_hasTimes_138 (by decide) (fun c_424 => ?_) (fun c_424 => ?_)
                · refine lv_iinc (v := (nI (g_287 + 1))) (lv' := [(6, .int (nI (g_287 + 1))), (11, .int r_413), (9, .long g_411), (0, .ref (ad 0)), (1, .int (nI a0)), (2, .int p1), (3, .int p2), (4, .int p3), (5, .int (-1)), (7, .long (0 : Int64))]) hx hb dX9_hasTimes_143 hl (k := 8) rfl (nI_1 _) (by decide) rfl (fun ls hl => ?_)
                  refine lv_goto (tgt := 15) hx hb dX9_hasTimes_146 (by decide) ?_
                  exact ih_290 (3 - (g_287 + 1)) (by omega) _ _ _ ⟨r_413, (g_287 + 1), (0 : Int64), g_411, rfl, (by omega), hP, hD, hS, lv_sub hl [3, 4, 5, 6, 7, 8, 0, 9, 2, 1] rfl⟩
                · refine lv_iconst (v := 0) hx hb dX9_hasTimes_141 (by decide) ?_
                  exact W.zret (v := 0) (ty := .boolean) hx hb hr (rfl) (fun t ht hW => ⟨⟨0, (), rfl, ⟨0, (Nat.le_of_ble_eq_true rfl), rfl⟩, trivial⟩, hS.F ht⟩) hS.2.2 dX9_hasTimes_142
            refine lv_if_ne (tgt := 70) hx hb dX9_hasTimes_62 (by decide) (fun c_425 => ?_) (fun c_425 => ?_)
            · have c_425 : ¬ g_287 = 0 := fun z => c_425 ((nI_eq (a := g_287) (b := 0) (Nat.lt_of_le_of_lt hg_287 (Nat.le_of_ble_eq_true rfl)) (Nat.le_of_ble_eq_true rfl)).mpr z)
              refine lv_iload hx hb dX9_hasTimes_70 (lv_at hl 7 rfl) ?_
              refine lv_iconst (v := 1) hx hb dX9_hasTimes_72 (by decide) ?_
              refine lv_icmp_ne (tgt := 81) hx hb dX9_hasTimes_73 (by decide) (fun c_426 => ?_) (fun c_426 => ?_)
              · have c_426 : ¬ g_287 = 1 := fun z => c_426 ((nI_eq (a := g_287) (b := 1) (Nat.lt_of_le_of_lt hg_287 (Nat.le_of_ble_eq_true rfl)) (Nat.le_of_ble_eq_true rfl)).mpr z)
                refine lv_iload hx hb dX9_hasTimes_81 (lv_at hl 7 rfl) ?_
                refine lv_iconst (v := 2) hx hb dX9_hasTimes_83 (by decide) ?_
                refine lv_icmp_ne (tgt := 93) hx hb dX9_hasTimes_84 (by decide) (fun c_427 => ?_) (fun c_427 => ?_)
                · have c_427 : ¬ g_287 = 2 := fun z => c_427 ((nI_eq (a := g_287) (b := 2) (Nat.lt_of_le_of_lt hg_287 (Nat.le_of_ble_eq_true rfl)) (Nat.le_of_ble_eq_true rfl)).mpr z)
                  exfalso
                  omega
                · have c_427 : g_287 = 2 := (nI_eq (a := g_287) (b := 2) (Nat.lt_of_le_of_lt hg_287 (Nat.le_of_ble_eq_true rfl)) (Nat.le_of_ble_eq_true rfl)).mp c_427
                  refine lv_iload hx hb dX9_hasTimes_87 (lv_at hl 5 rfl) ?_
                  refine lv_i2l (v := p3.toInt64) hx hb dX9_hasTimes_89 rfl ?_
                  refine lv_topl (fun y_428 ey_428 => ?_)
                  refine lv_goto (tgt := 94) hx hb dX9_hasTimes_90 (by decide) ?_
                  exact j_412 _ _ _ _ ⟨y_428, rfl, hP, hD, hS, lv_sub hl [1, 2, 3, 4, 5, 6, 7, 0, 8, 9] rfl⟩
              · have c_426 : g_287 = 1 := (nI_eq (a := g_287) (b := 1) (Nat.lt_of_le_of_lt hg_287 (Nat.le_of_ble_eq_true rfl)) (Nat.le_of_ble_eq_true rfl)).mp c_426
                refine lv_iload_n hx hb dX9_hasTimes_76 rfl (lv_at hl 4 rfl) ?_
                refine lv_i2l (v := p2.toInt64) hx hb dX9_hasTimes_77 rfl ?_
                refine lv_topl (fun y_429 ey_429 => ?_)
                refine lv_goto (tgt := 94) hx hb dX9_hasTimes_78 (by decide) ?_
                exact j_412 _ _ _ _ ⟨y_429, rfl, hP, hD, hS, lv_sub hl [1, 2, 3, 4, 5, 6, 7, 0, 8, 9] rfl⟩
            · have c_425 : g_287 = 0 := (nI_eq (a := g_287) (b := 0) (Nat.lt_of_le_of_lt hg_287 (Nat.le_of_ble_eq_true rfl)) (Nat.le_of_ble_eq_true rfl)).mp c_425
              refine lv_iload_n hx hb dX9_hasTimes_65 rfl (lv_at hl 3 rfl) ?_
              refine lv_i2l (v := p1.toInt64) hx hb dX9_hasTimes_66 rfl ?_
              refine lv_topl (fun y_430 ey_430 => ?_)
              refine lv_goto (tgt := 94) hx hb dX9_hasTimes_67 (by decide) ?_
              exact j_412 _ _ _ _ ⟨y_430, rfl, hP, hD, hS, lv_sub hl [1, 2, 3, 4, 5, 6, 7, 0, 8, 9] rfl⟩
        · refine lv_iconst (v := 0) hx hb dX9_hasTimes_141 (by decide) ?_
          exact W.zret (v := 0) (ty := .boolean) hx hb hr (rfl) (fun t ht hW => ⟨⟨0, (), rfl, ⟨0, (Nat.le_of_ble_eq_true rfl), rfl⟩, trivial⟩, hS.F ht⟩) hS.2.2 dX9_hasTimes_142
theorem dX9_has_0 : decode cX9_has 0 = .ok (.aload_n 0, 1) := by decide +kernel
theorem dX9_has_1 : decode cX9_has 1 = .ok (.iconst 0, 1) := by decide +kernel
theorem dX9_has_2 : decode cX9_has 2 = .ok (.putfield 142, 3) := by decide +kernel
theorem dX9_has_5 : decode cX9_has 5 = .ok (.aload_n 0, 1) := by decide +kernel
theorem dX9_has_6 : decode cX9_has 6 = .ok (.iload_n 1, 1) := by decide +kernel
theorem dX9_has_7 : decode cX9_has 7 = .ok (.invokevirtual 387, 3) := by decide +kernel
theorem dX9_has_10 : decode cX9_has 10 = .ok (.ifCond .ne 5, 3) := by decide +kernel
theorem dX9_has_13 : decode cX9_has 13 = .ok (.iconst (-1), 1) := by decide +kernel
theorem dX9_has_14 : decode cX9_has 14 = .ok (.ireturn, 1) := by decide +kernel
theorem dX9_has_15 : decode cX9_has 15 = .ok (.aload_n 0, 1) := by decide +kernel
theorem dX9_has_16 : decode cX9_has 16 = .ok (.iload_n 1, 1) := by decide +kernel
theorem dX9_has_17 : decode cX9_has 17 = .ok (.iload_n 2, 1) := by decide +kernel
theorem dX9_has_18 : decode cX9_has 18 = .ok (.iload_n 3, 1) := by decide +kernel
theorem dX9_has_19 : decode cX9_has 19 = .ok (.iload 4, 2) := by decide +kernel
theorem dX9_has_21 : decode cX9_has 21 = .ok (.invokevirtual 401, 3) := by decide +kernel
theorem dX9_has_24 : decode cX9_has 24 = .ok (.ifCond .eq 7, 3) := by decide +kernel
theorem dX9_has_27 : decode cX9_has 27 = .ok (.iconst 1, 1) := by decide +kernel
theorem dX9_has_28 : decode cX9_has 28 = .ok (.goto 4, 3) := by decide +kernel
theorem dX9_has_31 : decode cX9_has 31 = .ok (.iconst 0, 1) := by decide +kernel
theorem dX9_has_32 : decode cX9_has 32 = .ok (.ireturn, 1) := by decide +kernel
abbrev vs_M_has : List Cond := .code yX9_has cX9_has 5 (some .int) :: VM
theorem g_M_has_M_isState : GoodIn vs_M_has (wsV RX9 387 RX9 yX9_isState vs_M_isState) := gm_V vm_279 vm_280 vm_281 vm_12 vm_276
theorem g_M_has_M_hasTimes : GoodIn vs_M_has (wsV RX9 401 RX9 yX9_hasTimes vs_M_hasTimes) := gm_V vm_379 vm_380 vm_381 vm_12 vm_376
set_option maxHeartbeats 4000000 in
set_option maxRecDepth 100000 in
theorem c_M_has (l : Launch) (dC : Nat → ClassId) (dI : Nat → Nat → Nat) (sz : Nat) (ad : Nat → Nat) (ck : Nat → ClassId) (x0 : Int32) (x16 : Nat) (x18 : Nat) (x19 : Nat) (x20 : Int32) (x21 : Nat) (x22 : Nat) (x23 : Int32) (x24 : Int32) (x25 : Int32) (x26 : Nat) (x27 : Int32) (x28 : Nat) (x29 : Nat) (x30 : Nat) (x33 : Nat) (x45 : Int32) (x46 : Nat) (x52 : Nat) (x53 : Nat) (x61 : Nat) (x62 : Nat) (x63 : Nat) (x65 : Nat) (x66 : Int32) (f1 : Nat → Int32) (f2 : Nat → Int32) (f3 : Nat → Int32) (q4 : Nat → Nat) (q5 : Nat → Nat) (q6 : Nat → Nat) (q7 : Nat → Nat) (f8 : Nat → Int32) (q9 : Nat → Nat) (q10 : Nat → Nat) (f11 : Nat → Int32) (m12_0 m12_1 : Nat) (m13_0 m13_1 : Nat) (m14_0 m14_1 : Nat) (m15_0 m15_1 : Nat) (f17 : Nat → Int32) (q31 : Nat → Nat) (f32 : Nat → Int32) (f34 : Nat → Int32) (f35 : Nat → Int32) (f36 : Nat → Int32) (f37 : Nat → Int32) (q38 : Nat → Nat) (f39 : Nat → Int32) (f40 : Nat → Int32) (f41 : Nat → Int32) (m42_0 m42_1 : Nat) (f43 : Nat → Int32) (f44 : Nat → Int32) (f47 : Nat → Int32) (f48 : Nat → Int32) (f49 : Nat → Int32) (f50 : Nat → Int32) (f51 : Nat → Int32) (q54 : Nat → Nat) (q55 : Nat → Nat) (q56 : Nat → Nat) (f57 : Nat → Int32) (q58 : Nat → Nat) (f59 : Nat → Int32) (f60 : Nat → Int32) (f64 : Nat → Int32) (p0 : Int32) (p1 : Int32) (p2 : Int32) (p3 : Int32) (hx16 : x16 ≤ 1) (hx18 : x18 ≤ 900) (hx19 : x19 ≤ 900) (hx21 : x21 ≤ 900) (hx22 : x22 ≤ 4) (hx26 : x26 ≤ 6) (hx28 : x28 ≤ 1) (hx29 : x29 ≤ 1) (hx30 : x30 ≤ 1) (hx33 : x33 ≤ 20) (hx46 : x46 ≤ 5) (hx52 : x52 ≤ 2400) (hx53 : x53 ≤ 119) (hx61 : x61 ≤ 119) (hx62 : x62 ≤ 2000) (hx63 : x63 ≤ 1) (hx65 : x65 ≤ 7) (hm12_0 : m12_0 ≤ 3) (hm12_1 : m12_1 ≤ 3) (hm13_0 : m13_0 ≤ 8) (hm13_1 : m13_1 ≤ 8) (hm14_0 : m14_0 ≤ 14) (hm14_1 : m14_1 ≤ 14) (hm15_0 : m15_0 ≤ 8) (hm15_1 : m15_1 ≤ 8) (hm42_0 : m42_0 ≤ 120) (hm42_1 : m42_1 ≤ 400) : Met l yX9_has vs_M_has ({ frames := 2, cells := 0, slots := 0, locals := 54 }) (va_Pc [.ref (ad 0), .int p0, .int p1, .int p2, .int p3] (pu_B (dC, dI) (mo_w ad ck x0 (nI x16) (nI x18) (nI x19) x20 (nI x21) (nI x22) x23 x24 x25 (nI x26) x27 (nI x28) (nI x29) (nI x30) (nI x33) x45 (nI x46) (nI x52) (nI x53) (nI x61) (nI x62) (nI x63) (nI x65) x66 f1 f2 f3 (bN 3 q4) (bN 7 q5) (bN 7 q6) (bN 4 q7) f8 (bN 2 q9) (bH q10) f11 (b2 m12_0 m12_1) (b2 m13_0 m13_1) (b2 m14_0 m14_1) (b2m m15_0 m15_1) f17 (bA 159 q31) f32 f34 f35 f36 f37 (bN 7 q38) f39 f40 f41 (b2 m42_0 m42_1) f43 f44 f47 f48 f49 f50 f51 (bN 13 q54) (bN 120 q55) (bN 120 q56) f57 (bN 120 q58) f59 f60 f64) (mo_t ck) sz)) (va_Qi (fun (r : Int32) (_ : Unit) => True) (fun _ t => ∃ (z0 : Int32) (z46 : Nat), pu_E (dC, dI) (mo_w ad ck z0 (nI x16) (nI x18) (nI x19) x20 (nI x21) (nI x22) x23 x24 x25 (nI x26) x27 (nI x28) (nI x29) (nI x30) (nI x33) x45 (nI z46) (nI x52) (nI x53) (nI x61) (nI x62) (nI x63) (nI x65) x66 f1 f2 f3 (bN 3 q4) (bN 7 q5) (bN 7 q6) (bN 4 q7) f8 (bN 2 q9) (bH q10) f11 (b2 m12_0 m12_1) (b2 m13_0 m13_1) (b2 m14_0 m14_1) (b2m m15_0 m15_1) f17 (bA 159 q31) f32 f34 f35 f36 f37 (bN 7 q38) f39 f40 f41 (b2 m42_0 m42_1) f43 f44 f47 f48 f49 f50 f51 (bN 13 q54) (bN 120 q55) (bN 120 q56) f57 (bN 120 q58) f59 f60 f64) (mo_t ck) (va_A ((mo_w ad ck x0 (nI x16) (nI x18) (nI x19) x20 (nI x21) (nI x22) x23 x24 x25 (nI x26) x27 (nI x28) (nI x29) (nI x30) (nI x33) x45 (nI x46) (nI x52) (nI x53) (nI x61) (nI x62) (nI x63) (nI x65) x66 f1 f2 f3 (bN 3 q4) (bN 7 q5) (bN 7 q6) (bN 4 q7) f8 (bN 2 q9) (bH q10) f11 (b2 m12_0 m12_1) (b2 m13_0 m13_1) (b2 m14_0 m14_1) (b2m m15_0 m15_1) f17 (bA 159 q31) f32 f34 f35 f36 f37 (bN 7 q38) f39 f40 f41 (b2 m42_0 m42_1) f43 f44 f47 f48 f49 f50 f51 (bN 13 q54) (bN 120 q55) (bN 120 q56) f57 (bN 120 q58) f59 f60 f64)) sz) t ∧ (z46 ≤ 5)) (va_A ((mo_w ad ck x0 (nI x16) (nI x18) (nI x19) x20 (nI x21) (nI x22) x23 x24 x25 (nI x26) x27 (nI x28) (nI x29) (nI x30) (nI x33) x45 (nI x46) (nI x52) (nI x53) (nI x61) (nI x62) (nI x63) (nI x65) x66 f1 f2 f3 (bN 3 q4) (bN 7 q5) (bN 7 q6) (bN 4 q7) f8 (bN 2 q9) (bH q10) f11 (b2 m12_0 m12_1) (b2 m13_0 m13_1) (b2 m14_0 m14_1) (b2m m15_0 m15_1) f17 (bA 159 q31) f32 f34 f35 f36 f37 (bN 7 q38) f39 f40 f41 (b2 m42_0 m42_1) f43 f44 f47 f48 f49 f50 f51 (bN 13 q54) (bN 120 q55) (bN 120 q56) f57 (bN 120 q58) f59 f60 f64)) sz)) 0 0 (va_A ((mo_w ad ck x0 (nI x16) (nI x18) (nI x19) x20 (nI x21) (nI x22) x23 x24 x25 (nI x26) x27 (nI x28) (nI x29) (nI x30) (nI x33) x45 (nI x46) (nI x52) (nI x53) (nI x61) (nI x62) (nI x63) (nI x65) x66 f1 f2 f3 (bN 3 q4) (bN 7 q5) (bN 7 q6) (bN 4 q7) f8 (bN 2 q9) (bH q10) f11 (b2 m12_0 m12_1) (b2 m13_0 m13_1) (b2 m14_0 m14_1) (b2m m15_0 m15_1) f17 (bA 159 q31) f32 f34 f35 f36 f37 (bN 7 q38) f39 f40 f41 (b2 m42_0 m42_1) f43 f44 f47 f48 f49 f50 f51 (bN 13 q54) (bN 120 q55) (bN 120 q56) f57 (bN 120 q58) f59 f60 f64)) sz) := by
  refine Met.ofW (cc := cX9_has) (maxL := 5) (ret := (some .int)) (by decide) rfl ?_
  intro p e s m args below meth c s₁ B hml hv
  obtain ⟨rfl, rfl, hP, hK, hD0⟩ := hv
  have hx := B.exec
  have hb := B.bytes
  have hr := B.returns
  have hts := atoms_spec (ws := vs_M_has) B.pre
  have v_1 := hts (.fieldLink RX9 142 "ClockReachModel" "thrown" "I") (List.mem_cons_of_mem _ vm_24)
  have hown : s.vm.findClass RX9 = some m.cls := findClass_of_methodNamed B.named
  have hlocks := B.notSynchronized
  have hiX9 : ∀ w ∈ wsX90, w ∈ vs_M_has := fun _ h => List.mem_cons_of_mem _ (List.mem_append_right _ h)
  have hD := hD0.self (sz := s.heap.size)
  generalize hAe : va_A ((mo_w ad ck x0 (nI x16) (nI x18) (nI x19) x20 (nI x21) (nI x22) x23 x24 x25 (nI x26) x27 (nI x28) (nI x29) (nI x30) (nI x33) x45 (nI x46) (nI x52) (nI x53) (nI x61) (nI x62) (nI x63) (nI x65) x66 f1 f2 f3 (bN 3 q4) (bN 7 q5) (bN 7 q6) (bN 4 q7) f8 (bN 2 q9) (bH q10) f11 (b2 m12_0 m12_1) (b2 m13_0 m13_1) (b2 m14_0 m14_1) (b2m m15_0 m15_1) f17 (bA 159 q31) f32 f34 f35 f36 f37 (bN 7 q38) f39 f40 f41 (b2 m42_0 m42_1) f43 f44 f47 f48 f49 f50 f51 (bN 13 q54) (bN 120 q55) (bN 120 q56) f57 (bN 120 q58) f59 f60 f64)) s.heap.size = A at hD ⊢
  have hA : ∀ q : Nat, s.heap.size ≤ q → A q := fun q h => by rw [← hAe]; exact Or.inr h
  have hS : va_S A s.heap s.heap [] := va_S.rf
  have hl := lv_entry ([.ref (ad 0), .int p0, .int p1, .int p2, .int p3]) (n := 5) (Nat.le_of_ble_eq_true rfl)
  rw [lg_entry_eq]
  generalize (lg_sl ([.ref (ad 0), .int p0, .int p1, .int p2, .int p3]) ++ List.replicate (5 - (lg_sl ([.ref (ad 0), .int p0, .int p1, .int p2, .int p3])).length) Slot.unset).toArray = ls at hl ⊢
  have hl : lv_has ls 5 [(0, .ref (ad 0)), (1, .int p0), (2, .int p1), (3, .int p2), (4, .int p3)] := hl
  refine lv_aload_n hx hb dX9_has_0 rfl (lv_at hl 0 rfl) ?_
  refine lv_iconst (v := 0) hx hb dX9_has_1 (by decide) ?_
  refine va_put (D := (dC, dI)) (ci := 9) (v := .int 0) (ty := .int) (C := RX9) (T := TX9) (N := 67) hx hb hts hiX9 tyX9 tyX9_ok nmX9 hown hK hP hD hS 0 rfl rfl 0 (by decide) v_1 (fun _ h9 => h9) rfl (by decide +kernel) rfl rfl (Nat.le_of_ble_eq_true rfl) dX9_has_2 (fun H locs hP hD hS => ?_)
  have hP : va_P (dC, dI) vwCl (mo_w ad ck 0 (nI x16) (nI x18) (nI x19) x20 (nI x21) (nI x22) x23 x24 x25 (nI x26) x27 (nI x28) (nI x29) (nI x30) (nI x33) x45 (nI x46) (nI x52) (nI x53) (nI x61) (nI x62) (nI x63) (nI x65) x66 f1 f2 f3 (bN 3 q4) (bN 7 q5) (bN 7 q6) (bN 4 q7) f8 (bN 2 q9) (bH q10) f11 (b2 m12_0 m12_1) (b2 m13_0 m13_1) (b2 m14_0 m14_1) (b2m m15_0 m15_1) f17 (bA 159 q31) f32 f34 f35 f36 f37 (bN 7 q38) f39 f40 f41 (b2 m42_0 m42_1) f43 f44 f47 f48 f49 f50 f51 (bN 13 q54) (bN 120 q55) (bN 120 q56) f57 (bN 120 q58) f59 f60 f64) H := hP
  have hD : va_D A (mo_w ad ck 0 (nI x16) (nI x18) (nI x19) x20 (nI x21) (nI x22) x23 x24 x25 (nI x26) x27 (nI x28) (nI x29) (nI x30) (nI x33) x45 (nI x46) (nI x52) (nI x53) (nI x61) (nI x62) (nI x63) (nI x65) x66 f1 f2 f3 (bN 3 q4) (bN 7 q5) (bN 7 q6) (bN 4 q7) f8 (bN 2 q9) (bH q10) f11 (b2 m12_0 m12_1) (b2 m13_0 m13_1) (b2 m14_0 m14_1) (b2m m15_0 m15_1) f17 (bA 159 q31) f32 f34 f35 f36 f37 (bN 7 q38) f39 f40 f41 (b2 m42_0 m42_1) f43 f44 f47 f48 f49 f50 f51 (bN 13 q54) (bN 120 q55) (bN 120 q56) f57 (bN 120 q58) f59 f60 f64) := hD
  refine lv_aload_n hx hb dX9_has_5 rfl (lv_at hl 0 rfl) ?_
  refine lv_iload_n hx hb dX9_has_6 rfl (lv_at hl 1 rfl) ?_
  have hFc := pu_free hD hS hA
  refine va_calli (va_runV (As := [.int p0]) (rest := []) ⟨hx, hb, hml, hown, hts⟩ (c_M_isState l dC dI _ ad ck 0 x16 x18 x19 x20 x21 x22 x23 x24 x25 x26 x27 x28 x29 x30 x33 x45 x46 x52 x53 x61 x62 x63 x65 x66 f1 f2 f3 q4 q5 q6 q7 f8 q9 q10 f11 m12_0 m12_1 m13_0 m13_1 m14_0 m14_1 m15_0 m15_1 f17 q31 f32 f34 f35 f36 f37 q38 f39 f40 f41 m42_0 m42_1 f43 f44 f47 f48 f49 f50 f51 q54 q55 q56 f57 q58 f59 f60 f64 p0 hx16 hx18 hx19 hx21 hx22 hx26 hx28 hx29 hx30 hx33 hx46 hx52 hx53 hx61 hx62 hx63 hx65 hm12_0 hm12_1 hm13_0 hm13_1 hm14_0 hm14_1 hm15_0 hm15_1 hm42_0 hm42_1) (cwV 1 hts g_M_has_M_isState rfl rfl rfl (by decide +kernel) ⟨Nat.le_of_ble_eq_true rfl, Nat.le_of_ble_eq_true rfl⟩) ⟨pu_bl, va_recv hK hP (ci := 9) (q0 := 0) rfl rfl, pu_in hP hK hD⟩ rfl rfl hl.1 rfl (lv_room (Nat.le_of_ble_eq_true rfl)) dX9_has_7 ⟨Nat.le_of_ble_eq_true rfl, Nat.le_of_ble_eq_true rfl⟩) hS (fun q _ h => hFc q h) hFc (fun r_1 u t H1 locs ht hvm hw hB hz1 hk1 hS => ?_)
  obtain ⟨z46_2, ⟨hP1, -, hD1⟩, hz46_2⟩ := hB
  rw [ht] at hP1
  have hP := hP1
  have hD := pu_all hFc hD1
  clear hP1 hD1 hFc
  clear hk1 hz1 ht hvm
  generalize H1 = H at hP hS ⊢
  rcases hw with ⟨rfl, hw⟩ | rfl
  · obtain ⟨n_3, hn_3, rfl⟩ := hw
    refine lv_if_ne (tgt := 15) hx hb dX9_has_10 (by decide) (fun _ => ?_) (fun z => absurd z (by decide))
    refine lv_aload_n hx hb dX9_has_15 rfl (lv_at hl 0 rfl) ?_
    refine lv_iload_n hx hb dX9_has_16 rfl (lv_at hl 1 rfl) ?_
    refine lv_iload_n hx hb dX9_has_17 rfl (lv_at hl 2 rfl) ?_
    refine lv_iload_n hx hb dX9_has_18 rfl (lv_at hl 3 rfl) ?_
    refine lv_iload hx hb dX9_has_19 (lv_at hl 4 rfl) ?_
    refine va_calli (va_runV (As := [.int (nI n_3), .int p1, .int p2, .int p3]) (rest := []) ⟨hx, hb, hml, hown, hts⟩ (c_M_hasTimes l dC dI _ ad ck 0 x16 x18 x19 x20 x21 x22 x23 x24 x25 x26 x27 x28 x29 x30 x33 x45 z46_2 x52 x53 x61 x62 x63 x65 x66 f1 f2 f3 q4 q5 q6 q7 f8 q9 q10 f11 m12_0 m12_1 m13_0 m13_1 m14_0 m14_1 m15_0 m15_1 f17 q31 f32 f34 f35 f36 f37 q38 f39 f40 f41 m42_0 m42_1 f43 f44 f47 f48 f49 f50 f51 q54 q55 q56 f57 q58 f59 f60 f64 n_3 p1 p2 p3 hx16 hx18 hx19 hx21 hx22 hx26 hx28 hx29 hx30 hx33 (Nat.le_trans hz46_2 (Nat.le_of_ble_eq_true rfl)) hx52 hx53 hx61 hx62 hx63 hx65 hm12_0 hm12_1 hm13_0 hm13_1 hm14_0 hm14_1 hm15_0 hm15_1 hm42_0 hm42_1 (by omega)) (cwV 4 hts g_M_has_M_hasTimes rfl rfl rfl (by decide +kernel) ⟨Nat.le_of_ble_eq_true rfl, Nat.le_of_ble_eq_true rfl⟩) ⟨pu_bl, va_recv hK hP (ci := 9) (q0 := 0) rfl rfl, pu_in hP hK hD⟩ rfl rfl hl.1 rfl (lv_room (Nat.le_of_ble_eq_true rfl)) dX9_has_21 ⟨Nat.le_of_ble_eq_true rfl, Nat.le_of_ble_eq_true rfl⟩) hS (fun q _ h => pu_fr hS hA q h) (pu_fr hS hA) (fun r_4 u t H1 locs ht hvm hw hB hz1 hk1 hS => ?_)
    have hP := pu_keep hP hk1
    clear hk1 hz1 ht hvm
    generalize H1 = H at hP hS ⊢
    obtain ⟨u_5, hu_5, rfl⟩ := hw
    refine lv_if_eq (tgt := 31) hx hb dX9_has_24 (by decide) (fun c_6 => ?_) (fun c_6 => ?_)
    · have c_6 : u_5 = 0 := (nI_eq (a := u_5) (b := 0) (Nat.lt_of_le_of_lt hu_5 (Nat.le_of_ble_eq_true rfl)) (Nat.le_of_ble_eq_true rfl)).mp c_6
      refine lv_iconst (v := 0) hx hb dX9_has_31 (by decide) ?_
      exact W.iret (v := 0) hx hb hr (fun t ht hW => ⟨⟨0, (), rfl, trivial, ⟨0, z46_2, ⟨by rw [ht]; exact hP, va_K.moved hW.alike hK, hD⟩, (Nat.le_trans hz46_2 (Nat.le_of_ble_eq_true rfl))⟩⟩, hS.F ht⟩) hS.2.2 dX9_has_32
    · have c_6 : ¬ u_5 = 0 := fun z => c_6 ((nI_eq (a := u_5) (b := 0) (Nat.lt_of_le_of_lt hu_5 (Nat.le_of_ble_eq_true rfl)) (Nat.le_of_ble_eq_true rfl)).mpr z)
      refine lv_iconst (v := 1) hx hb dX9_has_27 (by decide) ?_
      refine lv_goto (tgt := 32) hx hb dX9_has_28 (by decide) ?_
      exact W.iret (v := 1) hx hb hr (fun t ht hW => ⟨⟨1, (), rfl, trivial, ⟨0, z46_2, ⟨by rw [ht]; exact hP, va_K.moved hW.alike hK, hD⟩, (Nat.le_trans hz46_2 (Nat.le_of_ble_eq_true rfl))⟩⟩, hS.F ht⟩) hS.2.2 dX9_has_32
  · refine lv_if_ne (tgt := 15) hx hb dX9_has_10 (by decide) (fun z => absurd z (by decide)) (fun _ => ?_)
    refine lv_iconst (v := (-1)) hx hb dX9_has_13 (by decide) ?_
    exact W.iret (v := (-1)) hx hb hr (fun t ht hW => ⟨⟨(-1), (), rfl, trivial, ⟨0, z46_2, ⟨by rw [ht]; exact hP, va_K.moved hW.alike hK, hD⟩, (Nat.le_trans hz46_2 (Nat.le_of_ble_eq_true rfl))⟩⟩, hS.F ht⟩) hS.2.2 dX9_has_14
theorem dX9_points_0 : decode cX9_points 0 = .ok (.aload_n 0, 1) := by decide +kernel
theorem dX9_points_1 : decode cX9_points 1 = .ok (.iconst 0, 1) := by decide +kernel
theorem dX9_points_2 : decode cX9_points 2 = .ok (.putfield 142, 3) := by decide +kernel
theorem dX9_points_5 : decode cX9_points 5 = .ok (.aload_n 0, 1) := by decide +kernel
theorem dX9_points_6 : decode cX9_points 6 = .ok (.iload_n 1, 1) := by decide +kernel
theorem dX9_points_7 : decode cX9_points 7 = .ok (.invokevirtual 387, 3) := by decide +kernel
theorem dX9_points_10 : decode cX9_points 10 = .ok (.ifCond .ne 5, 3) := by decide +kernel
theorem dX9_points_13 : decode cX9_points 13 = .ok (.iconst (-1), 1) := by decide +kernel
theorem dX9_points_14 : decode cX9_points 14 = .ok (.ireturn, 1) := by decide +kernel
theorem dX9_points_15 : decode cX9_points 15 = .ok (.iconst 0, 1) := by decide +kernel
theorem dX9_points_16 : decode cX9_points 16 = .ok (.istore_n 2, 1) := by decide +kernel
theorem dX9_points_17 : decode cX9_points 17 = .ok (.iconst 0, 1) := by decide +kernel
theorem dX9_points_18 : decode cX9_points 18 = .ok (.istore_n 3, 1) := by decide +kernel
theorem dX9_points_19 : decode cX9_points 19 = .ok (.iload_n 3, 1) := by decide +kernel
theorem dX9_points_20 : decode cX9_points 20 = .ok (.aload_n 0, 1) := by decide +kernel
theorem dX9_points_21 : decode cX9_points 21 = .ok (.invokevirtual 280, 3) := by decide +kernel
theorem dX9_points_24 : decode cX9_points 24 = .ok (.ifCond .le 8, 3) := by decide +kernel
theorem dX9_points_27 : decode cX9_points 27 = .ok (.bipush 22, 2) := by decide +kernel
theorem dX9_points_29 : decode cX9_points 29 = .ok (.goto 4, 3) := by decide +kernel
theorem dX9_points_32 : decode cX9_points 32 = .ok (.iconst 1, 1) := by decide +kernel
theorem dX9_points_33 : decode cX9_points 33 = .ok (.if_icmp .ge 98, 3) := by decide +kernel
theorem dX9_points_36 : decode cX9_points 36 = .ok (.iconst 0, 1) := by decide +kernel
theorem dX9_points_37 : decode cX9_points 37 = .ok (.istore 4, 2) := by decide +kernel
theorem dX9_points_39 : decode cX9_points 39 = .ok (.iload 4, 2) := by decide +kernel
theorem dX9_points_41 : decode cX9_points 41 = .ok (.aload_n 0, 1) := by decide +kernel
theorem dX9_points_42 : decode cX9_points 42 = .ok (.invokevirtual 280, 3) := by decide +kernel
theorem dX9_points_45 : decode cX9_points 45 = .ok (.iconst 1, 1) := by decide +kernel
theorem dX9_points_46 : decode cX9_points 46 = .ok (.if_icmp .le 8, 3) := by decide +kernel
theorem dX9_points_49 : decode cX9_points 49 = .ok (.bipush 22, 2) := by decide +kernel
theorem dX9_points_51 : decode cX9_points 51 = .ok (.goto 4, 3) := by decide +kernel
theorem dX9_points_54 : decode cX9_points 54 = .ok (.iconst 1, 1) := by decide +kernel
theorem dX9_points_55 : decode cX9_points 55 = .ok (.if_icmp .ge 70, 3) := by decide +kernel
theorem dX9_points_58 : decode cX9_points 58 = .ok (.iconst 0, 1) := by decide +kernel
theorem dX9_points_59 : decode cX9_points 59 = .ok (.istore 5, 2) := by decide +kernel
theorem dX9_points_61 : decode cX9_points 61 = .ok (.iload 5, 2) := by decide +kernel
theorem dX9_points_63 : decode cX9_points 63 = .ok (.aload_n 0, 1) := by decide +kernel
theorem dX9_points_64 : decode cX9_points 64 = .ok (.invokevirtual 280, 3) := by decide +kernel
theorem dX9_points_67 : decode cX9_points 67 = .ok (.iconst 2, 1) := by decide +kernel
theorem dX9_points_68 : decode cX9_points 68 = .ok (.if_icmp .le 8, 3) := by decide +kernel
theorem dX9_points_71 : decode cX9_points 71 = .ok (.bipush 22, 2) := by decide +kernel
theorem dX9_points_73 : decode cX9_points 73 = .ok (.goto 4, 3) := by decide +kernel
theorem dX9_points_76 : decode cX9_points 76 = .ok (.iconst 1, 1) := by decide +kernel
theorem dX9_points_77 : decode cX9_points 77 = .ok (.if_icmp .ge 42, 3) := by decide +kernel
theorem dX9_points_80 : decode cX9_points 80 = .ok (.iload_n 2, 1) := by decide +kernel
theorem dX9_points_81 : decode cX9_points 81 = .ok (.aload_n 0, 1) := by decide +kernel
theorem dX9_points_82 : decode cX9_points 82 = .ok (.iload_n 1, 1) := by decide +kernel
theorem dX9_points_83 : decode cX9_points 83 = .ok (.sipush 256, 3) := by decide +kernel
theorem dX9_points_86 : decode cX9_points 86 = .ok (.iload_n 3, 1) := by decide +kernel
theorem dX9_points_87 : decode cX9_points 87 = .ok (.imul, 1) := by decide +kernel
theorem dX9_points_88 : decode cX9_points 88 = .ok (.sipush 256, 3) := by decide +kernel
theorem dX9_points_91 : decode cX9_points 91 = .ok (.iload 4, 2) := by decide +kernel
theorem dX9_points_93 : decode cX9_points 93 = .ok (.imul, 1) := by decide +kernel
theorem dX9_points_94 : decode cX9_points 94 = .ok (.sipush 256, 3) := by decide +kernel
theorem dX9_points_97 : decode cX9_points 97 = .ok (.iload 5, 2) := by decide +kernel
theorem dX9_points_99 : decode cX9_points 99 = .ok (.imul, 1) := by decide +kernel
theorem dX9_points_100 : decode cX9_points 100 = .ok (.invokevirtual 401, 3) := by decide +kernel
theorem dX9_points_103 : decode cX9_points 103 = .ok (.ifCond .eq 7, 3) := by decide +kernel
theorem dX9_points_106 : decode cX9_points 106 = .ok (.iconst 1, 1) := by decide +kernel
theorem dX9_points_107 : decode cX9_points 107 = .ok (.goto 4, 3) := by decide +kernel
theorem dX9_points_110 : decode cX9_points 110 = .ok (.iconst 0, 1) := by decide +kernel
theorem dX9_points_111 : decode cX9_points 111 = .ok (.iadd, 1) := by decide +kernel
theorem dX9_points_112 : decode cX9_points 112 = .ok (.istore_n 2, 1) := by decide +kernel
theorem dX9_points_113 : decode cX9_points 113 = .ok (.iinc 5 1, 3) := by decide +kernel
theorem dX9_points_116 : decode cX9_points 116 = .ok (.goto (-55), 3) := by decide +kernel
theorem dX9_points_119 : decode cX9_points 119 = .ok (.iinc 4 1, 3) := by decide +kernel
theorem dX9_points_122 : decode cX9_points 122 = .ok (.goto (-83), 3) := by decide +kernel
theorem dX9_points_125 : decode cX9_points 125 = .ok (.iinc 3 1, 3) := by decide +kernel
theorem dX9_points_128 : decode cX9_points 128 = .ok (.goto (-109), 3) := by decide +kernel
theorem dX9_points_131 : decode cX9_points 131 = .ok (.iload_n 2, 1) := by decide +kernel
theorem dX9_points_132 : decode cX9_points 132 = .ok (.ireturn, 1) := by decide +kernel
abbrev vs_M_points : List Cond := .code yX9_points cX9_points 6 (some .int) :: VM
theorem g_M_points_M_isState : GoodIn vs_M_points (wsV RX9 387 RX9 yX9_isState vs_M_isState) := gm_V vm_279 vm_280 vm_281 vm_12 vm_276
theorem g_M_points_M_clocks : GoodIn vs_M_points (wsV RX9 280 RX9 yX9_clocks vs_M_clocks) := gm_V vm_150 vm_151 vm_152 vm_12 vm_20
theorem g_M_points_M_hasTimes : GoodIn vs_M_points (wsV RX9 401 RX9 yX9_hasTimes vs_M_hasTimes) := gm_V vm_379 vm_380 vm_381 vm_12 vm_376
set_option maxHeartbeats 4000000 in
set_option maxRecDepth 100000 in
theorem c_M_points (l : Launch) (dC : Nat → ClassId) (dI : Nat → Nat → Nat) (sz : Nat) (ad : Nat → Nat) (ck : Nat → ClassId) (x0 : Int32) (x16 : Nat) (x18 : Nat) (x19 : Nat) (x20 : Int32) (x21 : Nat) (x22 : Nat) (x23 : Int32) (x24 : Int32) (x25 : Int32) (x26 : Nat) (x27 : Int32) (x28 : Nat) (x29 : Nat) (x30 : Nat) (x33 : Nat) (x45 : Int32) (x46 : Nat) (x52 : Nat) (x53 : Nat) (x61 : Nat) (x62 : Nat) (x63 : Nat) (x65 : Nat) (x66 : Int32) (f1 : Nat → Int32) (f2 : Nat → Int32) (f3 : Nat → Int32) (q4 : Nat → Nat) (q5 : Nat → Nat) (q6 : Nat → Nat) (q7 : Nat → Nat) (f8 : Nat → Int32) (q9 : Nat → Nat) (q10 : Nat → Nat) (f11 : Nat → Int32) (m12_0 m12_1 : Nat) (m13_0 m13_1 : Nat) (m14_0 m14_1 : Nat) (m15_0 m15_1 : Nat) (f17 : Nat → Int32) (q31 : Nat → Nat) (f32 : Nat → Int32) (f34 : Nat → Int32) (f35 : Nat → Int32) (f36 : Nat → Int32) (f37 : Nat → Int32) (q38 : Nat → Nat) (f39 : Nat → Int32) (f40 : Nat → Int32) (f41 : Nat → Int32) (m42_0 m42_1 : Nat) (f43 : Nat → Int32) (f44 : Nat → Int32) (f47 : Nat → Int32) (f48 : Nat → Int32) (f49 : Nat → Int32) (f50 : Nat → Int32) (f51 : Nat → Int32) (q54 : Nat → Nat) (q55 : Nat → Nat) (q56 : Nat → Nat) (f57 : Nat → Int32) (q58 : Nat → Nat) (f59 : Nat → Int32) (f60 : Nat → Int32) (f64 : Nat → Int32) (p0 : Int32) (hx16 : x16 ≤ 1) (hx18 : x18 ≤ 900) (hx19 : x19 ≤ 900) (hx21 : x21 ≤ 900) (hx22 : x22 ≤ 4) (hx26 : x26 ≤ 6) (hx28 : x28 ≤ 1) (hx29 : x29 ≤ 1) (hx30 : x30 ≤ 1) (hx33 : x33 ≤ 20) (hx46 : x46 ≤ 5) (hx52 : x52 ≤ 2400) (hx53 : x53 ≤ 119) (hx61 : x61 ≤ 119) (hx62 : x62 ≤ 2000) (hx63 : x63 ≤ 1) (hx65 : x65 ≤ 7) (hm12_0 : m12_0 ≤ 3) (hm12_1 : m12_1 ≤ 3) (hm13_0 : m13_0 ≤ 8) (hm13_1 : m13_1 ≤ 8) (hm14_0 : m14_0 ≤ 14) (hm14_1 : m14_1 ≤ 14) (hm15_0 : m15_0 ≤ 8) (hm15_1 : m15_1 ≤ 8) (hm42_0 : m42_0 ≤ 120) (hm42_1 : m42_1 ≤ 400) : Met l yX9_points vs_M_points ({ frames := 2, cells := 0, slots := 0, locals := 54 }) (va_Pc [.ref (ad 0), .int p0] (pu_B (dC, dI) (mo_w ad ck x0 (nI x16) (nI x18) (nI x19) x20 (nI x21) (nI x22) x23 x24 x25 (nI x26) x27 (nI x28) (nI x29) (nI x30) (nI x33) x45 (nI x46) (nI x52) (nI x53) (nI x61) (nI x62) (nI x63) (nI x65) x66 f1 f2 f3 (bN 3 q4) (bN 7 q5) (bN 7 q6) (bN 4 q7) f8 (bN 2 q9) (bH q10) f11 (b2 m12_0 m12_1) (b2 m13_0 m13_1) (b2 m14_0 m14_1) (b2m m15_0 m15_1) f17 (bA 159 q31) f32 f34 f35 f36 f37 (bN 7 q38) f39 f40 f41 (b2 m42_0 m42_1) f43 f44 f47 f48 f49 f50 f51 (bN 13 q54) (bN 120 q55) (bN 120 q56) f57 (bN 120 q58) f59 f60 f64) (mo_t ck) sz)) (va_Qi (fun (r : Int32) (_ : Unit) => True) (fun _ t => ∃ (z0 : Int32) (z46 : Nat), pu_E (dC, dI) (mo_w ad ck z0 (nI x16) (nI x18) (nI x19) x20 (nI x21) (nI x22) x23 x24 x25 (nI x26) x27 (nI x28) (nI x29) (nI x30) (nI x33) x45 (nI z46) (nI x52) (nI x53) (nI x61) (nI x62) (nI x63) (nI x65) x66 f1 f2 f3 (bN 3 q4) (bN 7 q5) (bN 7 q6) (bN 4 q7) f8 (bN 2 q9) (bH q10) f11 (b2 m12_0 m12_1) (b2 m13_0 m13_1) (b2 m14_0 m14_1) (b2m m15_0 m15_1) f17 (bA 159 q31) f32 f34 f35 f36 f37 (bN 7 q38) f39 f40 f41 (b2 m42_0 m42_1) f43 f44 f47 f48 f49 f50 f51 (bN 13 q54) (bN 120 q55) (bN 120 q56) f57 (bN 120 q58) f59 f60 f64) (mo_t ck) (va_A ((mo_w ad ck x0 (nI x16) (nI x18) (nI x19) x20 (nI x21) (nI x22) x23 x24 x25 (nI x26) x27 (nI x28) (nI x29) (nI x30) (nI x33) x45 (nI x46) (nI x52) (nI x53) (nI x61) (nI x62) (nI x63) (nI x65) x66 f1 f2 f3 (bN 3 q4) (bN 7 q5) (bN 7 q6) (bN 4 q7) f8 (bN 2 q9) (bH q10) f11 (b2 m12_0 m12_1) (b2 m13_0 m13_1) (b2 m14_0 m14_1) (b2m m15_0 m15_1) f17 (bA 159 q31) f32 f34 f35 f36 f37 (bN 7 q38) f39 f40 f41 (b2 m42_0 m42_1) f43 f44 f47 f48 f49 f50 f51 (bN 13 q54) (bN 120 q55) (bN 120 q56) f57 (bN 120 q58) f59 f60 f64)) sz) t ∧ (z46 ≤ 5)) (va_A ((mo_w ad ck x0 (nI x16) (nI x18) (nI x19) x20 (nI x21) (nI x22) x23 x24 x25 (nI x26) x27 (nI x28) (nI x29) (nI x30) (nI x33) x45 (nI x46) (nI x52) (nI x53) (nI x61) (nI x62) (nI x63) (nI x65) x66 f1 f2 f3 (bN 3 q4) (bN 7 q5) (bN 7 q6) (bN 4 q7) f8 (bN 2 q9) (bH q10) f11 (b2 m12_0 m12_1) (b2 m13_0 m13_1) (b2 m14_0 m14_1) (b2m m15_0 m15_1) f17 (bA 159 q31) f32 f34 f35 f36 f37 (bN 7 q38) f39 f40 f41 (b2 m42_0 m42_1) f43 f44 f47 f48 f49 f50 f51 (bN 13 q54) (bN 120 q55) (bN 120 q56) f57 (bN 120 q58) f59 f60 f64)) sz)) 0 0 (va_A ((mo_w ad ck x0 (nI x16) (nI x18) (nI x19) x20 (nI x21) (nI x22) x23 x24 x25 (nI x26) x27 (nI x28) (nI x29) (nI x30) (nI x33) x45 (nI x46) (nI x52) (nI x53) (nI x61) (nI x62) (nI x63) (nI x65) x66 f1 f2 f3 (bN 3 q4) (bN 7 q5) (bN 7 q6) (bN 4 q7) f8 (bN 2 q9) (bH q10) f11 (b2 m12_0 m12_1) (b2 m13_0 m13_1) (b2 m14_0 m14_1) (b2m m15_0 m15_1) f17 (bA 159 q31) f32 f34 f35 f36 f37 (bN 7 q38) f39 f40 f41 (b2 m42_0 m42_1) f43 f44 f47 f48 f49 f50 f51 (bN 13 q54) (bN 120 q55) (bN 120 q56) f57 (bN 120 q58) f59 f60 f64)) sz) := by
  refine Met.ofW (cc := cX9_points) (maxL := 6) (ret := (some .int)) (by decide) rfl ?_
  intro p e s m args below meth c s₁ B hml hv
  obtain ⟨rfl, rfl, hP, hK, hD0⟩ := hv
  have hx := B.exec
  have hb := B.bytes
  have hr := B.returns
  have hts := atoms_spec (ws := vs_M_points) B.pre
  have v_1 := hts (.fieldLink RX9 142 "ClockReachModel" "thrown" "I") (List.mem_cons_of_mem _ vm_24)
  have hown : s.vm.findClass RX9 = some m.cls := findClass_of_methodNamed B.named
  have hlocks := B.notSynchronized
  have hiX9 : ∀ w ∈ wsX90, w ∈ vs_M_points := fun _ h => List.mem_cons_of_mem _ (List.mem_append_right _ h)
  have hD := hD0.self (sz := s.heap.size)
  generalize hAe : va_A ((mo_w ad ck x0 (nI x16) (nI x18) (nI x19) x20 (nI x21) (nI x22) x23 x24 x25 (nI x26) x27 (nI x28) (nI x29) (nI x30) (nI x33) x45 (nI x46) (nI x52) (nI x53) (nI x61) (nI x62) (nI x63) (nI x65) x66 f1 f2 f3 (bN 3 q4) (bN 7 q5) (bN 7 q6) (bN 4 q7) f8 (bN 2 q9) (bH q10) f11 (b2 m12_0 m12_1) (b2 m13_0 m13_1) (b2 m14_0 m14_1) (b2m m15_0 m15_1) f17 (bA 159 q31) f32 f34 f35 f36 f37 (bN 7 q38) f39 f40 f41 (b2 m42_0 m42_1) f43 f44 f47 f48 f49 f50 f51 (bN 13 q54) (bN 120 q55) (bN 120 q56) f57 (bN 120 q58) f59 f60 f64)) s.heap.size = A at hD ⊢
  have hA : ∀ q : Nat, s.heap.size ≤ q → A q := fun q h => by rw [← hAe]; exact Or.inr h
  have hS : va_S A s.heap s.heap [] := va_S.rf
  have hl := lv_entry ([.ref (ad 0), .int p0]) (n := 6) (Nat.le_of_ble_eq_true rfl)
  rw [lg_entry_eq]
  generalize (lg_sl ([.ref (ad 0), .int p0]) ++ List.replicate (6 - (lg_sl ([.ref (ad 0), .int p0])).length) Slot.unset).toArray = ls at hl ⊢
  have hl : lv_has ls 6 [(0, .ref (ad 0)), (1, .int p0)] := hl
  refine lv_aload_n hx hb dX9_points_0 rfl (lv_at hl 0 rfl) ?_
  refine lv_iconst (v := 0) hx hb dX9_points_1 (by decide) ?_
  refine va_put (D := (dC, dI)) (ci := 9) (v := .int 0) (ty := .int) (C := RX9) (T := TX9) (N := 67) hx hb hts hiX9 tyX9 tyX9_ok nmX9 hown hK hP hD hS 0 rfl rfl 0 (by decide) v_1 (fun _ h9 => h9) rfl (by decide +kernel) rfl rfl (Nat.le_of_ble_eq_true rfl) dX9_points_2 (fun H locs hP hD hS => ?_)
  have hP : va_P (dC, dI) vwCl (mo_w ad ck 0 (nI x16) (nI x18) (nI x19) x20 (nI x21) (nI x22) x23 x24 x25 (nI x26) x27 (nI x28) (nI x29) (nI x30) (nI x33) x45 (nI x46) (nI x52) (nI x53) (nI x61) (nI x62) (nI x63) (nI x65) x66 f1 f2 f3 (bN 3 q4) (bN 7 q5) (bN 7 q6) (bN 4 q7) f8 (bN 2 q9) (bH q10) f11 (b2 m12_0 m12_1) (b2 m13_0 m13_1) (b2 m14_0 m14_1) (b2m m15_0 m15_1) f17 (bA 159 q31) f32 f34 f35 f36 f37 (bN 7 q38) f39 f40 f41 (b2 m42_0 m42_1) f43 f44 f47 f48 f49 f50 f51 (bN 13 q54) (bN 120 q55) (bN 120 q56) f57 (bN 120 q58) f59 f60 f64) H := hP
  have hD : va_D A (mo_w ad ck 0 (nI x16) (nI x18) (nI x19) x20 (nI x21) (nI x22) x23 x24 x25 (nI x26) x27 (nI x28) (nI x29) (nI x30) (nI x33) x45 (nI x46) (nI x52) (nI x53) (nI x61) (nI x62) (nI x63) (nI x65) x66 f1 f2 f3 (bN 3 q4) (bN 7 q5) (bN 7 q6) (bN 4 q7) f8 (bN 2 q9) (bH q10) f11 (b2 m12_0 m12_1) (b2 m13_0 m13_1) (b2 m14_0 m14_1) (b2m m15_0 m15_1) f17 (bA 159 q31) f32 f34 f35 f36 f37 (bN 7 q38) f39 f40 f41 (b2 m42_0 m42_1) f43 f44 f47 f48 f49 f50 f51 (bN 13 q54) (bN 120 q55) (bN 120 q56) f57 (bN 120 q58) f59 f60 f64) := hD
  refine lv_aload_n hx hb dX9_points_5 rfl (lv_at hl 0 rfl) ?_
  refine lv_iload_n hx hb dX9_points_6 rfl (lv_at hl 1 rfl) ?_
  have hFc := pu_free hD hS hA
  refine va_calli (va_runV (As := [.int p0]) (rest := []) ⟨hx, hb, hml, hown, hts⟩ (c_M_isState l dC dI _ ad ck 0 x16 x18 x19 x20 x21 x22 x23 x24 x25 x26 x27 x28 x29 x30 x33 x45 x46 x52 x53 x61 x62 x63 x65 x66 f1 f2 f3 q4 q5 q6 q7 f8 q9 q10 f11 m12_0 m12_1 m13_0 m13_1 m14_0 m14_1 m15_0 m15_1 f17 q31 f32 f34 f35 f36 f37 q38 f39 f40 f41 m42_0 m42_1 f43 f44 f47 f48 f49 f50 f51 q54 q55 q56 f57 q58 f59 f60 f64 p0 hx16 hx18 hx19 hx21 hx22 hx26 hx28 hx29 hx30 hx33 hx46 hx52 hx53 hx61 hx62 hx63 hx65 hm12_0 hm12_1 hm13_0 hm13_1 hm14_0 hm14_1 hm15_0 hm15_1 hm42_0 hm42_1) (cwV 1 hts g_M_points_M_isState rfl rfl rfl (by decide +kernel) ⟨Nat.le_of_ble_eq_true rfl, Nat.le_of_ble_eq_true rfl⟩) ⟨pu_bl, va_recv hK hP (ci := 9) (q0 := 0) rfl rfl, pu_in hP hK hD⟩ rfl rfl hl.1 rfl (lv_room (Nat.le_of_ble_eq_true rfl)) dX9_points_7 ⟨Nat.le_of_ble_eq_true rfl, Nat.le_of_ble_eq_true rfl⟩) hS (fun q _ h => hFc q h) hFc (fun r_1 u t H1 locs ht hvm hw hB hz1 hk1 hS => ?_)
  obtain ⟨z46_2, ⟨hP1, -, hD1⟩, hz46_2⟩ := hB
  rw [ht] at hP1
  have hP := hP1
  have hD := pu_all hFc hD1
  clear hP1 hD1 hFc
  clear hk1 hz1 ht hvm
  generalize H1 = H at hP hS ⊢
  rcases hw with ⟨rfl, hw⟩ | rfl
  · obtain ⟨n_3, hn_3, rfl⟩ := hw
    refine lv_if_ne (tgt := 15) hx hb dX9_points_10 (by decide) (fun _ => ?_) (fun z => absurd z (by decide))
    refine lv_iconst (v := 0) hx hb dX9_points_15 (by decide) ?_
    refine lv_istore_n (lv' := [(2, .int 0), (0, .ref (ad 0)), (1, .int (nI n_3))]) hx hb dX9_points_16 rfl hl (by decide) rfl (fun ls hl => ?_)
    refine lv_iconst (v := 0) hx hb dX9_points_17 (by decide) ?_
    refine lv_istore_n (lv' := [(3, .int 0), (2, .int 0), (0, .ref (ad 0)), (1, .int (nI n_3))]) hx hb dX9_points_18 rfl hl (by decide) rfl (fun ls hl => ?_)
    refine pu_while (fun nn H locs ls => ∃ (g_6 : Int32) (g_7 : Nat), nn = 22 - g_7 ∧ g_7 ≤ 22 ∧ va_P (dC, dI) vwCl (mo_w ad ck 0 (nI x16) (nI x18) (nI x19) x20 (nI x21) (nI x22) x23 x24 x25 (nI x26) x27 (nI x28) (nI x29) (nI x30) (nI x33) x45 (nI z46_2) (nI x52) (nI x53) (nI x61) (nI x62) (nI x63) (nI x65) x66 f1 f2 f3 (bN 3 q4) (bN 7 q5) (bN 7 q6) (bN 4 q7) f8 (bN 2 q9) (bH q10) f11 (b2 m12_0 m12_1) (b2 m13_0 m13_1) (b2 m14_0 m14_1) (b2m m15_0 m15_1) f17 (bA 159 q31) f32 f34 f35 f36 f37 (bN 7 q38) f39 f40 f41 (b2 m42_0 m42_1) f43 f44 f47 f48 f49 f50 f51 (bN 13 q54) (bN 120 q55) (bN 120 q56) f57 (bN 120 q58) f59 f60 f64) H ∧ va_D A (mo_w ad ck 0 (nI x16) (nI x18) (nI x19) x20 (nI x21) (nI x22) x23 x24 x25 (nI x26) x27 (nI x28) (nI x29) (nI x30) (nI x33) x45 (nI z46_2) (nI x52) (nI x53) (nI x61) (nI x62) (nI x63) (nI x65) x66 f1 f2 f3 (bN 3 q4) (bN 7 q5) (bN 7 q6) (bN 4 q7) f8 (bN 2 q9) (bH q10) f11 (b2 m12_0 m12_1) (b2 m13_0 m13_1) (b2 m14_0 m14_1) (b2m m15_0 m15_1) f17 (bA 159 q31) f32 f34 f35 f36 f37 (bN 7 q38) f39 f40 f41 (b2 m42_0 m42_1) f43 f44 f47 f48 f49 f50 f51 (bN 13 q54) (bN 120 q55) (bN 120 q56) f57 (bN 120 q58) f59 f60 f64) ∧ va_S A s.heap H locs ∧ lv_has ls 6 [(0, .ref (ad 0)), (1, .int (nI n_3)), (2, .int g_6), (3, .int (nI g_7))]) 19 ?_ _ _ _ _ ⟨0, 0, rfl, (Nat.le_of_ble_eq_true rfl), hP, hD, hS, lv_sub hl [2, 3, 1, 0] rfl⟩
    rintro nn ih_8 H locs ls ⟨g_6, g_7, rfl, hg_7, hP, hD, hS, hl⟩
    refine lv_iload_n hx hb dX9_points_19 rfl (lv_at hl 3 rfl) ?_
    refine lv_aload_n hx hb dX9_points_20 rfl (lv_at hl 0 rfl) ?_
    refine va_calli (va_runV (As := []) (rest := [.int (nI g_7)]) ⟨hx, hb, hml, hown, hts⟩ (c_M_clocks l dC dI _ ad ck 0 x16 x18 x19 x20 x21 x22 x23 x24 x25 x26 x27 x28 x29 x30 x33 x45 z46_2 x52 x53 x61 x62 x63 x65 x66 f1 f2 f3 q4 q5 q6 q7 f8 q9 q10 f11 m12_0 m12_1 m13_0 m13_1 m14_0 m14_1 m15_0 m15_1 f17 q31 f32 f34 f35 f36 f37 q38 f39 f40 f41 m42_0 m42_1 f43 f44 f47 f48 f49 f50 f51 q54 q55 q56 f57 q58 f59 f60 f64 hx16 hx18 hx19 hx21 hx22 hx26 hx28 hx29 hx30 hx33 (Nat.le_trans hz46_2 (Nat.le_of_ble_eq_true rfl)) hx52 hx53 hx61 hx62 hx63 hx65 hm12_0 hm12_1 hm13_0 hm13_1 hm14_0 hm14_1 hm15_0 hm15_1 hm42_0 hm42_1) (cwV 0 hts g_M_points_M_clocks rfl rfl rfl (by decide +kernel) ⟨Nat.le_of_ble_eq_true rfl, Nat.le_of_ble_eq_true rfl⟩) ⟨pu_bl, va_recv hK hP (ci := 9) (q0 := 0) rfl rfl, pu_in hP hK hD⟩ rfl rfl hl.1 rfl (lv_room (Nat.le_of_ble_eq_true rfl)) dX9_points_21 ⟨Nat.le_of_ble_eq_true rfl, Nat.le_of_ble_eq_true rfl⟩) hS (fun q _ h => pu_fr hS hA q h) (pu_fr hS hA) (fun r_9 u t H1 locs ht hvm hw hB hz1 hk1 hS => ?_)
    have hP := pu_keep hP hk1
    clear hk1 hz1 ht hvm
    generalize H1 = H at hP hS ⊢
    obtain ⟨u_10, hu_10, rfl⟩ := hw
    refine pu_join (fun H locs ls st => ∃ (g_11 : Nat), st = [.int (nI g_11), .int (nI g_7)] ∧ (1 ≤ g_11 ∧ g_11 ≤ 22) ∧ va_P (dC, dI) vwCl (mo_w ad ck 0 (nI x16) (nI x18) (nI x19) x20 (nI x21) (nI x22) x23 x24 x25 (nI x26) x27 (nI x28) (nI x29) (nI x30) (nI x33) x45 (nI z46_2) (nI x52) (nI x53) (nI x61) (nI x62) (nI x63) (nI x65) x66 f1 f2 f3 (bN 3 q4) (bN 7 q5) (bN 7 q6) (bN 4 q7) f8 (bN 2 q9) (bH q10) f11 (b2 m12_0 m12_1) (b2 m13_0 m13_1) (b2 m14_0 m14_1) (b2m m15_0 m15_1) f17 (bA 159 q31) f32 f34 f35 f36 f37 (bN 7 q38) f39 f40 f41 (b2 m42_0 m42_1) f43 f44 f47 f48 f49 f50 f51 (bN 13 q54) (bN 120 q55) (bN 120 q56) f57 (bN 120 q58) f59 f60 f64) H ∧ va_D A (mo_w ad ck 0 (nI x16) (nI x18) (nI x19) x20 (nI x21) (nI x22) x23 x24 x25 (nI x26) x27 (nI x28) (nI x29) (nI x30) (nI x33) x45 (nI z46_2) (nI x52) (nI x53) (nI x61) (nI x62) (nI x63) (nI x65) x66 f1 f2 f3 (bN 3 q4) (bN 7 q5) (bN 7 q6) (bN 4 q7) f8 (bN 2 q9) (bH q10) f11 (b2 m12_0 m12_1) (b2 m13_0 m13_1) (b2 m14_0 m14_1) (b2m m15_0 m15_1) f17 (bA 159 q31) f32 f34 f35 f36 f37 (bN 7 q38) f39 f40 f41 (b2 m42_0 m42_1) f43 f44 f47 f48 f49 f50 f51 (bN 13 q54) (bN 120 q55) (bN 120 q56) f57 (bN 120 q58) f59 f60 f64) ∧ va_S A s.heap H locs ∧ lv_has ls 6 [(0, .ref (ad 0)), (1, .int (nI n_3)), (2, .int g_6), (3, .int (nI g_7))]) 33 ?_ (fun j_12 => ?_)
    · rintro H locs ls st ⟨g_11, rfl, hg_11, hP, hD, hS, hl⟩
      refine lv_icmp_ge (tgt := 131) hx hb dX9_points_33 (by decide) (fun c_13 => ?_) (fun c_13 => ?_)
      · have c_13 : g_11 ≤ g_7 := (nI_leI (a := g_11) (b := g_7) (Nat.lt_of_le_of_lt hg_11.2 (Nat.le_of_ble_eq_true rfl)) (Nat.lt_of_le_of_lt hg_7 (Nat.le_of_ble_eq_true rfl))).mp c_13
        refine lv_iload_n hx hb dX9_points_131 rfl (lv_at hl 2 rfl) ?_
        exact W.iret (v := g_6) hx hb hr (fun t ht hW => ⟨⟨g_6, (), rfl, trivial, ⟨0, z46_2, ⟨by rw [ht]; exact hP, va_K.moved hW.alike hK, hD⟩, (Nat.le_trans hz46_2 (Nat.le_of_ble_eq_true rfl))⟩⟩, hS.F ht⟩) hS.2.2 dX9_points_132
      · have c_13 : ¬ g_11 ≤ g_7 := fun z => c_13 ((nI_leI (a := g_11) (b := g_7) (Nat.lt_of_le_of_lt hg_11.2 (Nat.le_of_ble_eq_true rfl)) (Nat.lt_of_le_of_lt hg_7 (Nat.le_of_ble_eq_true rfl))).mpr z)
        refine lv_iconst (v := 0) hx hb dX9_points_36 (by decide) ?_
        refine lv_istore (lv' := [(4, .int 0), (0, .ref (ad 0)), (1, .int (nI n_3)), (2, .int g_6), (3, .int (nI g_7))]) hx hb dX9_points_37 hl (by decide) rfl (fun ls hl => ?_)
        refine pu_while (fun nn H locs ls => ∃ (g_16 : Int32) (g_17 : Nat), nn = 22 - g_17 ∧ g_17 ≤ 22 ∧ va_P (dC, dI) vwCl (mo_w ad ck 0 (nI x16) (nI x18) (nI x19) x20 (nI x21) (nI x22) x23 x24 x25 (nI x26) x27 (nI x28) (nI x29) (nI x30) (nI x33) x45 (nI z46_2) (nI x52) (nI x53) (nI x61) (nI x62) (nI x63) (nI x65) x66 f1 f2 f3 (bN 3 q4) (bN 7 q5) (bN 7 q6) (bN 4 q7) f8 (bN 2 q9) (bH q10) f11 (b2 m12_0 m12_1) (b2 m13_0 m13_1) (b2 m14_0 m14_1) (b2m m15_0 m15_1) f17 (bA 159 q31) f32 f34 f35 f36 f37 (bN 7 q38) f39 f40 f41 (b2 m42_0 m42_1) f43 f44 f47 f48 f49 f50 f51 (bN 13 q54) (bN 120 q55) (bN 120 q56) f57 (bN 120 q58) f59 f60 f64) H ∧ va_D A (mo_w ad ck 0 (nI x16) (nI x18) (nI x19) x20 (nI x21) (nI x22) x23 x24 x25 (nI x26) x27 (nI x28) (nI x29) (nI x30) (nI x33) x45 (nI z46_2) (nI x52) (nI x53) (nI x61) (nI x62) (nI x63) (nI x65) x66 f1 f2 f3 (bN 3 q4) (bN 7 q5) (bN 7 q6) (bN 4 q7) f8 (bN 2 q9) (bH q10) f11 (b2 m12_0 m12_1) (b2 m13_0 m13_1) (b2 m14_0 m14_1) (b2m m15_0 m15_1) f17 (bA 159 q31) f32 f34 f35 f36 f37 (bN 7 q38) f39 f40 f41 (b2 m42_0 m42_1) f43 f44 f47 f48 f49 f50 f51 (bN 13 q54) (bN 120 q55) (bN 120 q56) f57 (bN 120 q58) f59 f60 f64) ∧ va_S A s.heap H locs ∧ lv_has ls 6 [(0, .ref (ad 0)), (1, .int (nI n_3)), (2, .int g_16), (3, .int (nI g_7)), (4, .int (nI g_17))]) 39 ?_ _ _ _ _ ⟨g_6, 0, rfl, (Nat.le_of_ble_eq_true rfl), hP, hD, hS, lv_sub hl [1, 2, 3, 4, 0] rfl⟩
        rintro nn ih_18 H locs ls ⟨g_16, g_17, rfl, hg_17, hP, hD, hS, hl⟩
        refine lv_iload hx hb dX9_points_39 (lv_at hl 4 rfl) ?_
        refine lv_aload_n hx hb dX9_points_41 rfl (lv_at hl 0 rfl) ?_
        refine va_calli (va_runV (As := []) (rest := [.int (nI g_17)]) ⟨hx, hb, hml, hown, hts⟩ (c_M_clocks l dC dI _ ad ck 0 x16 x18 x19 x20 x21 x22 x23 x24 x25 x26 x27 x28 x29 x30 x33 x45 z46_2 x52 x53 x61 x62 x63 x65 x66 f1 f2 f3 q4 q5 q6 q7 f8 q9 q10 f11 m12_0 m12_1 m13_0 m13_1 m14_0 m14_1 m15_0 m15_1 f17 q31 f32 f34 f35 f36 f37 q38 f39 f40 f41 m42_0 m42_1 f43 f44 f47 f48 f49 f50 f51 q54 q55 q56 f57 q58 f59 f60 f64 hx16 hx18 hx19 hx21 hx22 hx26 hx28 hx29 hx30 hx33 (Nat.le_trans hz46_2 (Nat.le_of_ble_eq_true rfl)) hx52 hx53 hx61 hx62 hx63 hx65 hm12_0 hm12_1 hm13_0 hm13_1 hm14_0 hm14_1 hm15_0 hm15_1 hm42_0 hm42_1) (cwV 0 hts g_M_points_M_clocks rfl rfl rfl (by decide +kernel) ⟨Nat.le_of_ble_eq_true rfl, Nat.le_of_ble_eq_true rfl⟩) ⟨pu_bl, va_recv hK hP (ci := 9) (q0 := 0) rfl rfl, pu_in hP hK hD⟩ rfl rfl hl.1 rfl (lv_room (Nat.le_of_ble_eq_true rfl)) dX9_points_42 ⟨Nat.le_of_ble_eq_true rfl, Nat.le_of_ble_eq_true rfl⟩) hS (fun q _ h => pu_fr hS hA q h) (pu_fr hS hA) (fun r_19 u t H1 locs ht hvm hw hB hz1 hk1 hS => ?_)
        have hP := pu_keep hP hk1
        clear hk1 hz1 ht hvm
        generalize H1 = H at hP hS ⊢
        obtain ⟨u_20, hu_20, rfl⟩ := hw
        refine lv_iconst (v := 1) hx hb dX9_points_45 (by decide) ?_
        refine pu_join (fun H locs ls st => ∃ (g_21 : Nat), st = [.int (nI g_21), .int (nI g_17)] ∧ (1 ≤ g_21 ∧ g_21 ≤ 22) ∧ va_P (dC, dI) vwCl (mo_w ad ck 0 (nI x16) (nI x18) (nI x19) x20 (nI x21) (nI x22) x23 x24 x25 (nI x26) x27 (nI x28) (nI x29) (nI x30) (nI x33) x45 (nI z46_2) (nI x52) (nI x53) (nI x61) (nI x62) (nI x63) (nI x65) x66 f1 f2 f3 (bN 3 q4) (bN 7 q5) (bN 7 q6) (bN 4 q7) f8 (bN 2 q9) (bH q10) f11 (b2 m12_0 m12_1) (b2 m13_0 m13_1) (b2 m14_0 m14_1) (b2m m15_0 m15_1) f17 (bA 159 q31) f32 f34 f35 f36 f37 (bN 7 q38) f39 f40 f41 (b2 m42_0 m42_1) f43 f44 f47 f48 f49 f50 f51 (bN 13 q54) (bN 120 q55) (bN 120 q56) f57 (bN 120 q58) f59 f60 f64) H ∧ va_D A (mo_w ad ck 0 (nI x16) (nI x18) (nI x19) x20 (nI x21) (nI x22) x23 x24 x25 (nI x26) x27 (nI x28) (nI x29) (nI x30) (nI x33) x45 (nI z46_2) (nI x52) (nI x53) (nI x61) (nI x62) (nI x63) (nI x65) x66 f1 f2 f3 (bN 3 q4) (bN 7 q5) (bN 7 q6) (bN 4 q7) f8 (bN 2 q9) (bH q10) f11 (b2 m12_0 m12_1) (b2 m13_0 m13_1) (b2 m14_0 m14_1) (b2m m15_0 m15_1) f17 (bA 159 q31) f32 f34 f35 f36 f37 (bN 7 q38) f39 f40 f41 (b2 m42_0 m42_1) f43 f44 f47 f48 f49 f50 f51 (bN 13 q54) (bN 120 q55) (bN 120 q56) f57 (bN 120 q58) f59 f60 f64) ∧ va_S A s.heap H locs ∧ lv_has ls 6 [(0, .ref (ad 0)), (1, .int (nI n_3)), (2, .int g_16), (3, .int (nI g_7)), (4, .int (nI g_17))]) 55 ?_ (fun j_22 => ?_)
        · rintro H locs ls st ⟨g_21, rfl, hg_21, hP, hD, hS, hl⟩
          refine lv_icmp_ge (tgt := 125) hx hb dX9_points_55 (by decide) (fun c_23 => ?_) (fun c_23 => ?_)
          · have c_23 : g_21 ≤ g_17 := (nI_leI (a := g_21) (b := g_17) (Nat.lt_of_le_of_lt hg_21.2 (Nat.le_of_ble_eq_true rfl)) (Nat.lt_of_le_of_lt hg_17 (Nat.le_of_ble_eq_true rfl))).mp c_23
            refine lv_iinc (v := (nI (g_7 + 1))) (lv' := [(3, .int (nI (g_7 + 1))), (0, .ref (ad 0)), (1, .int (nI n_3)), (2, .int g_16), (4, .int (nI g_17))]) hx hb dX9_points_125 hl (k := 3) rfl (nI_1 _) (by decide) rfl (fun ls hl => ?_)
            refine lv_goto (tgt := 19) hx hb dX9_points_128 (by decide) ?_
            exact ih_8 (22 - (g_7 + 1)) (by omega) _ _ _ ⟨g_16, (g_7 + 1), rfl, (by omega), hP, hD, hS, lv_sub hl [1, 2, 3, 0] rfl⟩
          · have c_23 : ¬ g_21 ≤ g_17 := fun z => c_23 ((nI_leI (a := g_21) (b := g_17) (Nat.lt_of_le_of_lt hg_21.2 (Nat.le_of_ble_eq_true rfl)) (Nat.lt_of_le_of_lt hg_17 (Nat.le_of_ble_eq_true rfl))).mpr z)
            refine lv_iconst (v := 0) hx hb dX9_points_58 (by decide) ?_
            refine lv_istore (lv' := [(5, .int 0), (0, .ref (ad 0)), (1, .int (nI n_3)), (2, .int g_16), (3, .int (nI g_7)), (4, .int (nI g_17))]) hx hb dX9_points_59 hl (by decide) rfl (fun ls hl => ?_)
            refine pu_while (fun nn H locs ls => ∃ (g_26 : Int32) (g_27 : Nat), nn = 22 - g_27 ∧ g_27 ≤ 22 ∧ va_P (dC, dI) vwCl (mo_w ad ck 0 (nI x16) (nI x18) (nI x19) x20 (nI x21) (nI x22) x23 x24 x25 (nI x26) x27 (nI x28) (nI x29) (nI x30) (nI x33) x45 (nI z46_2) (nI x52) (nI x53) (nI x61) (nI x62) (nI x63) (nI x65) x66 f1 f2 f3 (bN 3 q4) (bN 7 q5) (bN 7 q6) (bN 4 q7) f8 (bN 2 q9) (bH q10) f11 (b2 m12_0 m12_1) (b2 m13_0 m13_1) (b2 m14_0 m14_1) (b2m m15_0 m15_1) f17 (bA 159 q31) f32 f34 f35 f36 f37 (bN 7 q38) f39 f40 f41 (b2 m42_0 m42_1) f43 f44 f47 f48 f49 f50 f51 (bN 13 q54) (bN 120 q55) (bN 120 q56) f57 (bN 120 q58) f59 f60 f64) H ∧ va_D A (mo_w ad ck 0 (nI x16) (nI x18) (nI x19) x20 (nI x21) (nI x22) x23 x24 x25 (nI x26) x27 (nI x28) (nI x29) (nI x30) (nI x33) x45 (nI z46_2) (nI x52) (nI x53) (nI x61) (nI x62) (nI x63) (nI x65) x66 f1 f2 f3 (bN 3 q4) (bN 7 q5) (bN 7 q6) (bN 4 q7) f8 (bN 2 q9) (bH q10) f11 (b2 m12_0 m12_1) (b2 m13_0 m13_1) (b2 m14_0 m14_1) (b2m m15_0 m15_1) f17 (bA 159 q31) f32 f34 f35 f36 f37 (bN 7 q38) f39 f40 f41 (b2 m42_0 m42_1) f43 f44 f47 f48 f49 f50 f51 (bN 13 q54) (bN 120 q55) (bN 120 q56) f57 (bN 120 q58) f59 f60 f64) ∧ va_S A s.heap H locs ∧ lv_has ls 6 [(0, .ref (ad 0)), (1, .int (nI n_3)), (2, .int g_26), (3, .int (nI g_7)), (4, .int (nI g_17)), (5, .int (nI g_27))]) 61 ?_ _ _ _ _ ⟨g_16, 0, rfl, (Nat.le_of_ble_eq_true rfl), hP, hD, hS, lv_sub hl [1, 2, 3, 4, 5, 0] rfl⟩
            rintro nn ih_28 H locs ls ⟨g_26, g_27, rfl, hg_27, hP, hD, hS, hl⟩
            refine lv_iload hx hb dX9_points_61 (lv_at hl 5 rfl) ?_
            refine lv_aload_n hx hb dX9_points_63 rfl (lv_at hl 0 rfl) ?_
            refine va_calli (va_runV (As := []) (rest := [.int (nI g_27)]) ⟨hx, hb, hml, hown, hts⟩ (c_M_clocks l dC dI _ ad ck 0 x16 x18 x19 x20 x21 x22 x23 x24 x25 x26 x27 x28 x29 x30 x33 x45 z46_2 x52 x53 x61 x62 x63 x65 x66 f1 f2 f3 q4 q5 q6 q7 f8 q9 q10 f11 m12_0 m12_1 m13_0 m13_1 m14_0 m14_1 m15_0 m15_1 f17 q31 f32 f34 f35 f36 f37 q38 f39 f40 f41 m42_0 m42_1 f43 f44 f47 f48 f49 f50 f51 q54 q55 q56 f57 q58 f59 f60 f64 hx16 hx18 hx19 hx21 hx22 hx26 hx28 hx29 hx30 hx33 (Nat.le_trans hz46_2 (Nat.le_of_ble_eq_true rfl)) hx52 hx53 hx61 hx62 hx63 hx65 hm12_0 hm12_1 hm13_0 hm13_1 hm14_0 hm14_1 hm15_0 hm15_1 hm42_0 hm42_1) (cwV 0 hts g_M_points_M_clocks rfl rfl rfl (by decide +kernel) ⟨Nat.le_of_ble_eq_true rfl, Nat.le_of_ble_eq_true rfl⟩) ⟨pu_bl, va_recv hK hP (ci := 9) (q0 := 0) rfl rfl, pu_in hP hK hD⟩ rfl rfl hl.1 rfl (lv_room (Nat.le_of_ble_eq_true rfl)) dX9_points_64 ⟨Nat.le_of_ble_eq_true rfl, Nat.le_of_ble_eq_true rfl⟩) hS (fun q _ h => pu_fr hS hA q h) (pu_fr hS hA) (fun r_29 u t H1 locs ht hvm hw hB hz1 hk1 hS => ?_)
            have hP := pu_keep hP hk1
            clear hk1 hz1 ht hvm
            generalize H1 = H at hP hS ⊢
            obtain ⟨u_30, hu_30, rfl⟩ := hw
            refine lv_iconst (v := 2) hx hb dX9_points_67 (by decide) ?_
            refine pu_join (fun H locs ls st => ∃ (g_31 : Nat), st = [.int (nI g_31), .int (nI g_27)] ∧ (1 ≤ g_31 ∧ g_31 ≤ 22) ∧ va_P (dC, dI) vwCl (mo_w ad ck 0 (nI x16) (nI x18) (nI x19) x20 (nI x21) (nI x22) x23 x24 x25 (nI x26) x27 (nI x28) (nI x29) (nI x30) (nI x33) x45 (nI z46_2) (nI x52) (nI x53) (nI x61) (nI x62) (nI x63) (nI x65) x66 f1 f2 f3 (bN 3 q4) (bN 7 q5) (bN 7 q6) (bN 4 q7) f8 (bN 2 q9) (bH q10) f11 (b2 m12_0 m12_1) (b2 m13_0 m13_1) (b2 m14_0 m14_1) (b2m m15_0 m15_1) f17 (bA 159 q31) f32 f34 f35 f36 f37 (bN 7 q38) f39 f40 f41 (b2 m42_0 m42_1) f43 f44 f47 f48 f49 f50 f51 (bN 13 q54) (bN 120 q55) (bN 120 q56) f57 (bN 120 q58) f59 f60 f64) H ∧ va_D A (mo_w ad ck 0 (nI x16) (nI x18) (nI x19) x20 (nI x21) (nI x22) x23 x24 x25 (nI x26) x27 (nI x28) (nI x29) (nI x30) (nI x33) x45 (nI z46_2) (nI x52) (nI x53) (nI x61) (nI x62) (nI x63) (nI x65) x66 f1 f2 f3 (bN 3 q4) (bN 7 q5) (bN 7 q6) (bN 4 q7) f8 (bN 2 q9) (bH q10) f11 (b2 m12_0 m12_1) (b2 m13_0 m13_1) (b2 m14_0 m14_1) (b2m m15_0 m15_1) f17 (bA 159 q31) f32 f34 f35 f36 f37 (bN 7 q38) f39 f40 f41 (b2 m42_0 m42_1) f43 f44 f47 f48 f49 f50 f51 (bN 13 q54) (bN 120 q55) (bN 120 q56) f57 (bN 120 q58) f59 f60 f64) ∧ va_S A s.heap H locs ∧ lv_has ls 6 [(0, .ref (ad 0)), (1, .int (nI n_3)), (2, .int g_26), (3, .int (nI g_7)), (4, .int (nI g_17)), (5, .int (nI g_27))]) 77 ?_ (fun j_32 => ?_)
            · rintro H locs ls st ⟨g_31, rfl, hg_31, hP, hD, hS, hl⟩
              refine lv_icmp_ge (tgt := 119) hx hb dX9_points_77 (by decide) (fun c_33 => ?_) (fun c_33 => ?_)
              · have c_33 : g_31 ≤ g_27 := (nI_leI (a := g_31) (b := g_27) (Nat.lt_of_le_of_lt hg_31.2 (Nat.le_of_ble_eq_true rfl)) (Nat.lt_of_le_of_lt hg_27 (Nat.le_of_ble_eq_true rfl))).mp c_33
                refine lv_iinc (v := (nI (g_17 + 1))) (lv' := [(4, .int (nI (g_17 + 1))), (0, .ref (ad 0)), (1, .int (nI n_3)), (2, .int g_26), (3, .int (nI g_7)), (5, .int (nI g_27))]) hx hb dX9_points_119 hl (k := 4) rfl (nI_1 _) (by decide) rfl (fun ls hl => ?_)
                refine lv_goto (tgt := 39) hx hb dX9_points_122 (by decide) ?_
                exact ih_18 (22 - (g_17 + 1)) (by omega) _ _ _ ⟨g_26, (g_17 + 1), rfl, (by omega), hP, hD, hS, lv_sub hl [1, 2, 3, 4, 0] rfl⟩
              · have c_33 : ¬ g_31 ≤ g_27 := fun z => c_33 ((nI_leI (a := g_31) (b := g_27) (Nat.lt_of_le_of_lt hg_31.2 (Nat.le_of_ble_eq_true rfl)) (Nat.lt_of_le_of_lt hg_27 (Nat.le_of_ble_eq_true rfl))).mpr z)
                refine lv_iload_n hx hb dX9_points_80 rfl (lv_at hl 2 rfl) ?_
                refine lv_aload_n hx hb dX9_points_81 rfl (lv_at hl 0 rfl) ?_
                refine lv_iload_n hx hb dX9_points_82 rfl (lv_at hl 1 rfl) ?_
                refine lv_sipush (v := 256) hx hb dX9_points_83 (by decide) ?_
                refine lv_iload_n hx hb dX9_points_86 rfl (lv_at hl 3 rfl) ?_
                refine lv_imul hx hb dX9_points_87 ?_
                refine lv_topi (fun y_34 ey_34 => ?_)
                obtain rfl : y_34 = (nI (256 * g_7)) := ey_34.trans (pk_mul 256 g_7)
                refine lv_sipush (v := 256) hx hb dX9_points_88 (by decide) ?_
                refine lv_iload hx hb dX9_points_91 (lv_at hl 4 rfl) ?_
                refine lv_imul hx hb dX9_points_93 ?_
                refine lv_topi (fun y_35 ey_35 => ?_)
                obtain rfl : y_35 = (nI (256 * g_17)) := ey_35.trans (pk_mul 256 g_17)
                refine lv_sipush (v := 256) hx hb dX9_points_94 (by decide) ?_
                refine lv_iload hx hb dX9_points_97 (lv_at hl 5 rfl) ?_
                refine lv_imul hx hb dX9_points_99 ?_
                refine lv_topi (fun y_36 ey_36 => ?_)
                obtain rfl : y_36 = (nI (256 * g_27)) := ey_36.trans (pk_mul 256 g_27)
                refine va_calli (va_runV (As := [.int (nI n_3), .int (nI (256 * g_7)), .int (nI (256 * g_17)), .int (nI (256 * g_27))]) (rest := [.int g_26]) ⟨hx, hb, hml, hown, hts⟩ (c_M_hasTimes l dC dI _ ad ck 0 x16 x18 x19 x20 x21 x22 x23 x24 x25 x26 x27 x28 x29 x30 x33 x45 z46_2 x52 x53 x61 x62 x63 x65 x66 f1 f2 f3 q4 q5 q6 q7 f8 q9 q10 f11 m12_0 m12_1 m13_0 m13_1 m14_0 m14_1 m15_0 m15_1 f17 q31 f32 f34 f35 f36 f37 q38 f39 f40 f41 m42_0 m42_1 f43 f44 f47 f48 f49 f50 f51 q54 q55 q56 f57 q58 f59 f60 f64 n_3 (nI (256 * g_7)) (nI (256 * g_17)) (nI (256 * g_27)) hx16 hx18 hx19 hx21 hx22 hx26 hx28 hx29 hx30 hx33 (Nat.le_trans hz46_2 (Nat.le_of_ble_eq_true rfl)) hx52 hx53 hx61 hx62 hx63 hx65 hm12_0 hm12_1 hm13_0 hm13_1 hm14_0 hm14_1 hm15_0 hm15_1 hm42_0 hm42_1 (by omega)) (cwV 4 hts g_M_points_M_hasTimes rfl rfl rfl (by decide +kernel) ⟨Nat.le_of_ble_eq_true rfl, Nat.le_of_ble_eq_true rfl⟩) ⟨pu_bl, va_recv hK hP (ci := 9) (q0 := 0) rfl rfl, pu_in hP hK hD⟩ rfl rfl hl.1 rfl (lv_room (Nat.le_of_ble_eq_true rfl)) dX9_points_100 ⟨Nat.le_of_ble_eq_true rfl, Nat.le_of_ble_eq_true rfl⟩) hS (fun q _ h => pu_fr hS hA q h) (pu_fr hS hA) (fun r_37 u t H1 locs ht hvm hw hB hz1 hk1 hS => ?_)
                have hP := pu_keep hP hk1
                clear hk1 hz1 ht hvm
                generalize H1 = H at hP hS ⊢
                obtain ⟨u_38, hu_38, rfl⟩ := hw
                refine pu_join (fun H locs ls st => ∃ (g_39 : Nat), st = [.int (nI g_39), .int g_26] ∧ g_39 ≤ 1 ∧ va_P (dC, dI) vwCl (mo_w ad ck 0 (nI x16) (nI x18) (nI x19) x20 (nI x21) (nI x22) x23 x24 x25 (nI x26) x27 (nI x28) (nI x29) (nI x30) (nI x33) x45 (nI z46_2) (nI x52) (nI x53) (nI x61) (nI x62) (nI x63) (nI x65) x66 f1 f2 f3 (bN 3 q4) (bN 7 q5) (bN 7 q6) (bN 4 q7) f8 (bN 2 q9) (bH q10) f11 (b2 m12_0 m12_1) (b2 m13_0 m13_1) (b2 m14_0 m14_1) (b2m m15_0 m15_1) f17 (bA 159 q31) f32 f34 f35 f36 f37 (bN 7 q38) f39 f40 f41 (b2 m42_0 m42_1) f43 f44 f47 f48 f49 f50 f51 (bN 13 q54) (bN 120 q55) (bN 120 q56) f57 (bN 120 q58) f59 f60 f64) H ∧ va_D A (mo_w ad ck 0 (nI x16) (nI x18) (nI x19) x20 (nI x21) (nI x22) x23 x24 x25 (nI x26) x27 (nI x28) (nI x29) (nI x30) (nI x33) x45 (nI z46_2) (nI x52) (nI x53) (nI x61) (nI x62) (nI x63) (nI x65) x66 f1 f2 f3 (bN 3 q4) (bN 7 q5) (bN 7 q6) (bN 4 q7) f8 (bN 2 q9) (bH q10) f11 (b2 m12_0 m12_1) (b2 m13_0 m13_1) (b2 m14_0 m14_1) (b2m m15_0 m15_1) f17 (bA 159 q31) f32 f34 f35 f36 f37 (bN 7 q38) f39 f40 f41 (b2 m42_0 m42_1) f43 f44 f47 f48 f49 f50 f51 (bN 13 q54) (bN 120 q55) (bN 120 q56) f57 (bN 120 q58) f59 f60 f64) ∧ va_S A s.heap H locs ∧ lv_has ls 6 [(0, .ref (ad 0)), (1, .int (nI n_3)), (2, .int g_26), (3, .int (nI g_7)), (4, .int (nI g_17)), (5, .int (nI g_27))]) 111 ?_ (fun j_40 => ?_)
                · rintro H locs ls st ⟨g_39, rfl, hg_39, hP, hD, hS, hl⟩
                  refine lv_iadd hx hb dX9_points_111 ?_
                  refine lv_topi (fun y_41 ey_41 => ?_)
                  refine lv_istore_n (lv' := [(2, .int y_41), (0, .ref (ad 0)), (1, .int (nI n_3)), (3, .int (nI g_7)), (4, .int (nI g_17)), (5, .int (nI g_27))]) hx hb dX9_points_112 rfl hl (by decide) rfl (fun ls hl => ?_)
                  refine lv_iinc (v := (nI (g_27 + 1))) (lv' := [(5, .int (nI (g_27 + 1))), (2, .int y_41), (0, .ref (ad 0)), (1, .int (nI n_3)), (3, .int (nI g_7)), (4, .int (nI g_17))]) hx hb dX9_points_113 hl (k := 5) rfl (nI_1 _) (by decide) rfl (fun ls hl => ?_)
                  refine lv_goto (tgt := 61) hx hb dX9_points_116 (by decide) ?_
                  exact ih_28 (22 - (g_27 + 1)) (by omega) _ _ _ ⟨y_41, (g_27 + 1), rfl, (by omega), hP, hD, hS, lv_sub hl [2, 3, 1, 4, 5, 0] rfl⟩
                refine lv_if_eq (tgt := 110) hx hb dX9_points_103 (by decide) (fun c_42 => ?_) (fun c_42 => ?_)
                · have c_42 : u_38 = 0 := (nI_eq (a := u_38) (b := 0) (Nat.lt_of_le_of_lt hu_38 (Nat.le_of_ble_eq_true rfl)) (Nat.le_of_ble_eq_true rfl)).mp c_42
                  refine lv_iconst (v := 0) hx hb dX9_points_110 (by decide) ?_
                  exact j_40 _ _ _ _ ⟨0, rfl, (Nat.le_of_ble_eq_true rfl), hP, hD, hS, lv_sub hl [0, 1, 2, 3, 4, 5] rfl⟩
                · have c_42 : ¬ u_38 = 0 := fun z => c_42 ((nI_eq (a := u_38) (b := 0) (Nat.lt_of_le_of_lt hu_38 (Nat.le_of_ble_eq_true rfl)) (Nat.le_of_ble_eq_true rfl)).mpr z)
                  refine lv_iconst (v := 1) hx hb dX9_points_106 (by decide) ?_
                  refine lv_goto (tgt := 111) hx hb dX9_points_107 (by decide) ?_
                  exact j_40 _ _ _ _ ⟨1, rfl, (Nat.le_of_ble_eq_true rfl), hP, hD, hS, lv_sub hl [0, 1, 2, 3, 4, 5] rfl⟩
            refine lv_icmp_le (tgt := 76) hx hb dX9_points_68 (by decide) (fun c_43 => ?_) (fun c_43 => ?_)
            · have c_43 : u_30 ≤ 2 := (nI_leI (a := u_30) (b := 2) (Nat.lt_of_le_of_lt hu_30 (Nat.le_of_ble_eq_true rfl)) (Nat.le_of_ble_eq_true rfl)).mp c_43
              refine lv_iconst (v := 1) hx hb dX9_points_76 (by decide) ?_
              exact j_32 _ _ _ _ ⟨1, rfl, ⟨by omega, by omega⟩, hP, hD, hS, lv_sub hl [0, 1, 2, 3, 4, 5] rfl⟩
            · have c_43 : ¬ u_30 ≤ 2 := fun z => c_43 ((nI_leI (a := u_30) (b := 2) (Nat.lt_of_le_of_lt hu_30 (Nat.le_of_ble_eq_true rfl)) (Nat.le_of_ble_eq_true rfl)).mpr z)
              refine lv_bipush (v := 22) hx hb dX9_points_71 (by decide) ?_
              refine lv_goto (tgt := 77) hx hb dX9_points_73 (by decide) ?_
              exact j_32 _ _ _ _ ⟨22, rfl, ⟨by omega, by omega⟩, hP, hD, hS, lv_sub hl [0, 1, 2, 3, 4, 5] rfl⟩
        refine lv_icmp_le (tgt := 54) hx hb dX9_points_46 (by decide) (fun c_44 => ?_) (fun c_44 => ?_)
        · have c_44 : u_20 ≤ 1 := (nI_leI (a := u_20) (b := 1) (Nat.lt_of_le_of_lt hu_20 (Nat.le_of_ble_eq_true rfl)) (Nat.le_of_ble_eq_true rfl)).mp c_44
          refine lv_iconst (v := 1) hx hb dX9_points_54 (by decide) ?_
          exact j_22 _ _ _ _ ⟨1, rfl, ⟨by omega, by omega⟩, hP, hD, hS, lv_sub hl [0, 1, 2, 3, 4] rfl⟩
        · have c_44 : ¬ u_20 ≤ 1 := fun z => c_44 ((nI_leI (a := u_20) (b := 1) (Nat.lt_of_le_of_lt hu_20 (Nat.le_of_ble_eq_true rfl)) (Nat.le_of_ble_eq_true rfl)).mpr z)
          refine lv_bipush (v := 22) hx hb dX9_points_49 (by decide) ?_
          refine lv_goto (tgt := 55) hx hb dX9_points_51 (by decide) ?_
          exact j_22 _ _ _ _ ⟨22, rfl, ⟨by omega, by omega⟩, hP, hD, hS, lv_sub hl [0, 1, 2, 3, 4] rfl⟩
    refine lv_if_le (tgt := 32) hx hb dX9_points_24 (by decide) (fun c_45 => ?_) (fun c_45 => ?_)
    · have c_45 : u_10 ≤ 0 := (nI_leI (a := u_10) (b := 0) (Nat.lt_of_le_of_lt hu_10 (Nat.le_of_ble_eq_true rfl)) (Nat.le_of_ble_eq_true rfl)).mp c_45
      refine lv_iconst (v := 1) hx hb dX9_points_32 (by decide) ?_
      exact j_12 _ _ _ _ ⟨1, rfl, ⟨by omega, by omega⟩, hP, hD, hS, lv_sub hl [0, 1, 2, 3] rfl⟩
    · have c_45 : ¬ u_10 ≤ 0 := fun z => c_45 ((nI_leI (a := u_10) (b := 0) (Nat.lt_of_le_of_lt hu_10 (Nat.le_of_ble_eq_true rfl)) (Nat.le_of_ble_eq_true rfl)).mpr z)
      refine lv_bipush (v := 22) hx hb dX9_points_27 (by decide) ?_
      refine lv_goto (tgt := 33) hx hb dX9_points_29 (by decide) ?_
      exact j_12 _ _ _ _ ⟨22, rfl, ⟨by omega, by omega⟩, hP, hD, hS, lv_sub hl [0, 1, 2, 3] rfl⟩
  · refine lv_if_ne (tgt := 15) hx hb dX9_points_10 (by decide) (fun z => absurd z (by decide)) (fun _ => ?_)
    refine lv_iconst (v := (-1)) hx hb dX9_points_13 (by decide) ?_
    exact W.iret (v := (-1)) hx hb hr (fun t ht hW => ⟨⟨(-1), (), rfl, trivial, ⟨0, z46_2, ⟨by rw [ht]; exact hP, va_K.moved hW.alike hK, hD⟩, (Nat.le_trans hz46_2 (Nat.le_of_ble_eq_true rfl))⟩⟩, hS.F ht⟩) hS.2.2 dX9_points_14
theorem dX9_from_0 : decode cX9_from 0 = .ok (.aload_n 0, 1) := by decide +kernel
theorem dX9_from_1 : decode cX9_from 1 = .ok (.iconst 0, 1) := by decide +kernel
theorem dX9_from_2 : decode cX9_from 2 = .ok (.putfield 142, 3) := by decide +kernel
theorem dX9_from_5 : decode cX9_from 5 = .ok (.aload_n 0, 1) := by decide +kernel
theorem dX9_from_6 : decode cX9_from 6 = .ok (.iload_n 1, 1) := by decide +kernel
theorem dX9_from_7 : decode cX9_from 7 = .ok (.invokevirtual 286, 3) := by decide +kernel
theorem dX9_from_10 : decode cX9_from 10 = .ok (.ifCond .eq 16, 3) := by decide +kernel
theorem dX9_from_13 : decode cX9_from 13 = .ok (.aload_n 0, 1) := by decide +kernel
theorem dX9_from_14 : decode cX9_from 14 = .ok (.iload 5, 2) := by decide +kernel
theorem dX9_from_16 : decode cX9_from 16 = .ok (.invokevirtual 286, 3) := by decide +kernel
theorem dX9_from_19 : decode cX9_from 19 = .ok (.ifCond .eq 7, 3) := by decide +kernel
theorem dX9_from_22 : decode cX9_from 22 = .ok (.iconst 1, 1) := by decide +kernel
theorem dX9_from_23 : decode cX9_from 23 = .ok (.goto 4, 3) := by decide +kernel
theorem dX9_from_26 : decode cX9_from 26 = .ok (.iconst 0, 1) := by decide +kernel
theorem dX9_from_27 : decode cX9_from 27 = .ok (.istore 6, 2) := by decide +kernel
theorem dX9_from_29 : decode cX9_from 29 = .ok (.iload 6, 2) := by decide +kernel
theorem dX9_from_31 : decode cX9_from 31 = .ok (.ifCond .eq 62, 3) := by decide +kernel
theorem dX9_from_34 : decode cX9_from 34 = .ok (.aload_n 0, 1) := by decide +kernel
theorem dX9_from_35 : decode cX9_from 35 = .ok (.invokevirtual 280, 3) := by decide +kernel
theorem dX9_from_38 : decode cX9_from 38 = .ok (.iconst 1, 1) := by decide +kernel
theorem dX9_from_39 : decode cX9_from 39 = .ok (.if_icmp .lt 13, 3) := by decide +kernel
theorem dX9_from_42 : decode cX9_from 42 = .ok (.iload_n 2, 1) := by decide +kernel
theorem dX9_from_43 : decode cX9_from 43 = .ok (.iconst 0, 1) := by decide +kernel
theorem dX9_from_44 : decode cX9_from 44 = .ok (.bipush 60, 2) := by decide +kernel
theorem dX9_from_46 : decode cX9_from 46 = .ok (.invokestatic 152, 3) := by decide +kernel
theorem dX9_from_49 : decode cX9_from 49 = .ok (.ifCond .eq 44, 3) := by decide +kernel
theorem dX9_from_52 : decode cX9_from 52 = .ok (.aload_n 0, 1) := by decide +kernel
theorem dX9_from_53 : decode cX9_from 53 = .ok (.invokevirtual 280, 3) := by decide +kernel
theorem dX9_from_56 : decode cX9_from 56 = .ok (.iconst 2, 1) := by decide +kernel
theorem dX9_from_57 : decode cX9_from 57 = .ok (.if_icmp .lt 13, 3) := by decide +kernel
theorem dX9_from_60 : decode cX9_from 60 = .ok (.iload_n 3, 1) := by decide +kernel
theorem dX9_from_61 : decode cX9_from 61 = .ok (.iconst 0, 1) := by decide +kernel
theorem dX9_from_62 : decode cX9_from 62 = .ok (.bipush 60, 2) := by decide +kernel
theorem dX9_from_64 : decode cX9_from 64 = .ok (.invokestatic 152, 3) := by decide +kernel
theorem dX9_from_67 : decode cX9_from 67 = .ok (.ifCond .eq 26, 3) := by decide +kernel
theorem dX9_from_70 : decode cX9_from 70 = .ok (.aload_n 0, 1) := by decide +kernel
theorem dX9_from_71 : decode cX9_from 71 = .ok (.invokevirtual 280, 3) := by decide +kernel
theorem dX9_from_74 : decode cX9_from 74 = .ok (.iconst 3, 1) := by decide +kernel
theorem dX9_from_75 : decode cX9_from 75 = .ok (.if_icmp .lt 14, 3) := by decide +kernel
theorem dX9_from_78 : decode cX9_from 78 = .ok (.iload 4, 2) := by decide +kernel
theorem dX9_from_80 : decode cX9_from 80 = .ok (.iconst 0, 1) := by decide +kernel
theorem dX9_from_81 : decode cX9_from 81 = .ok (.bipush 60, 2) := by decide +kernel
theorem dX9_from_83 : decode cX9_from 83 = .ok (.invokestatic 152, 3) := by decide +kernel
theorem dX9_from_86 : decode cX9_from 86 = .ok (.ifCond .eq 7, 3) := by decide +kernel
theorem dX9_from_89 : decode cX9_from 89 = .ok (.iconst 1, 1) := by decide +kernel
theorem dX9_from_90 : decode cX9_from 90 = .ok (.goto 4, 3) := by decide +kernel
theorem dX9_from_93 : decode cX9_from 93 = .ok (.iconst 0, 1) := by decide +kernel
theorem dX9_from_94 : decode cX9_from 94 = .ok (.istore 6, 2) := by decide +kernel
theorem dX9_from_96 : decode cX9_from 96 = .ok (.iload 6, 2) := by decide +kernel
theorem dX9_from_98 : decode cX9_from 98 = .ok (.ifCond .ne 5, 3) := by decide +kernel
theorem dX9_from_101 : decode cX9_from 101 = .ok (.iconst (-1), 1) := by decide +kernel
theorem dX9_from_102 : decode cX9_from 102 = .ok (.ireturn, 1) := by decide +kernel
theorem dX9_from_103 : decode cX9_from 103 = .ok (.aload_n 0, 1) := by decide +kernel
theorem dX9_from_104 : decode cX9_from 104 = .ok (.aload_n 0, 1) := by decide +kernel
theorem dX9_from_105 : decode cX9_from 105 = .ok (.invokevirtual 280, 3) := by decide +kernel
theorem dX9_from_108 : decode cX9_from 108 = .ok (.iconst 1, 1) := by decide +kernel
theorem dX9_from_109 : decode cX9_from 109 = .ok (.iadd, 1) := by decide +kernel
theorem dX9_from_110 : decode cX9_from 110 = .ok (.putfield 328, 3) := by decide +kernel
theorem dX9_from_113 : decode cX9_from 113 = .ok (.aload_n 0, 1) := by decide +kernel
theorem dX9_from_114 : decode cX9_from 114 = .ok (.iload_n 2, 1) := by decide +kernel
theorem dX9_from_115 : decode cX9_from 115 = .ok (.iload_n 3, 1) := by decide +kernel
theorem dX9_from_116 : decode cX9_from 116 = .ok (.iload 4, 2) := by decide +kernel
theorem dX9_from_118 : decode cX9_from 118 = .ok (.invokevirtual 379, 3) := by decide +kernel
theorem dX9_from_121 : decode cX9_from 121 = .ok (.aload_n 0, 1) := by decide +kernel
theorem dX9_from_122 : decode cX9_from 122 = .ok (.iconst 1, 1) := by decide +kernel
theorem dX9_from_123 : decode cX9_from 123 = .ok (.iload_n 1, 1) := by decide +kernel
theorem dX9_from_124 : decode cX9_from 124 = .ok (.iconst 2, 1) := by decide +kernel
theorem dX9_from_125 : decode cX9_from 125 = .ok (.iconst 1, 1) := by decide +kernel
theorem dX9_from_126 : decode cX9_from 126 = .ok (.bipush 120, 2) := by decide +kernel
theorem dX9_from_128 : decode cX9_from 128 = .ok (.iconst (-1), 1) := by decide +kernel
theorem dX9_from_129 : decode cX9_from 129 = .ok (.invokevirtual 383, 3) := by decide +kernel
theorem dX9_from_132 : decode cX9_from 132 = .ok (.aload_n 0, 1) := by decide +kernel
theorem dX9_from_133 : decode cX9_from 133 = .ok (.iconst 1, 1) := by decide +kernel
theorem dX9_from_134 : decode cX9_from 134 = .ok (.iload 5, 2) := by decide +kernel
theorem dX9_from_136 : decode cX9_from 136 = .ok (.invokevirtual 426, 3) := by decide +kernel
theorem dX9_from_139 : decode cX9_from 139 = .ok (.ifCond .eq 7, 3) := by decide +kernel
theorem dX9_from_142 : decode cX9_from 142 = .ok (.iconst 1, 1) := by decide +kernel
theorem dX9_from_143 : decode cX9_from 143 = .ok (.goto 4, 3) := by decide +kernel
theorem dX9_from_146 : decode cX9_from 146 = .ok (.iconst 0, 1) := by decide +kernel
theorem dX9_from_147 : decode cX9_from 147 = .ok (.ireturn, 1) := by decide +kernel
abbrev vs_M_from : List Cond := .code yX9_from cX9_from 7 (some .int) :: VM
theorem g_M_from_X9_in : GoodIn vs_M_from (va_wsS RX9 152 yX9_in vs_X9_in) := gm_0 (fun w h => by
  rcases List.mem_cons.mp h with rfl | h
  · exact vm_153
  rcases List.mem_cons.mp h with rfl | h
  · exact vm_154
  rcases List.mem_cons.mp h with rfl | h
  · exact vm_12
  rcases List.mem_cons.mp h with rfl | h
  · exact vm_14
  exact absurd h (List.not_mem_nil))
theorem g_M_from_M_isPlace : GoodIn vs_M_from (wsV RX9 286 RX9 yX9_isPlace vs_M_isPlace) := gm_V vm_161 vm_162 vm_163 vm_12 vm_155
theorem g_M_from_M_clocks : GoodIn vs_M_from (wsV RX9 280 RX9 yX9_clocks vs_M_clocks) := gm_V vm_150 vm_151 vm_152 vm_12 vm_20
theorem g_M_from_M_layPoint : GoodIn vs_M_from (wsV RX9 379 RX9 yX9_layPoint vs_M_layPoint) := gm_V vm_270 vm_271 vm_272 vm_12 vm_238
theorem g_M_from_M_explores_1_120 : GoodIn vs_M_from (wsV RX9 383 RX9 yX9_explores vs_M_explores_1_120) := gm_V vm_273 vm_274 vm_275 vm_12 vm_258
theorem g_M_from_M_hasPlace_1 : GoodIn vs_M_from (wsV RX9 426 RX9 yX9_hasPlace vs_M_hasPlace_1) := gm_V vm_384 vm_385 vm_386 vm_12 vm_239
set_option maxHeartbeats 4000000 in
set_option maxRecDepth 100000 in
theorem c_M_from (l : Launch) (dC : Nat → ClassId) (dI : Nat → Nat → Nat) (sz : Nat) (ad : Nat → Nat) (ck : Nat → ClassId) (x0 : Int32) (x16 : Nat) (x18 : Nat) (x19 : Nat) (x20 : Int32) (x21 : Nat) (x22 : Nat) (x23 : Int32) (x24 : Int32) (x25 : Int32) (x26 : Nat) (x27 : Int32) (x28 : Nat) (x29 : Nat) (x30 : Nat) (x33 : Nat) (x45 : Int32) (x46 : Nat) (x52 : Nat) (x53 : Nat) (x61 : Nat) (x62 : Nat) (x63 : Nat) (x65 : Nat) (x66 : Int32) (f1 : Nat → Int32) (f2 : Nat → Int32) (f3 : Nat → Int32) (q4 : Nat → Nat) (q5 : Nat → Nat) (q6 : Nat → Nat) (q7 : Nat → Nat) (f8 : Nat → Int32) (q9 : Nat → Nat) (q10 : Nat → Nat) (f11 : Nat → Int32) (m12_0 m12_1 : Nat) (m13_0 m13_1 : Nat) (m14_0 m14_1 : Nat) (m15_0 m15_1 : Nat) (f17 : Nat → Int32) (q31 : Nat → Nat) (f32 : Nat → Int32) (f34 : Nat → Int32) (f35 : Nat → Int32) (f36 : Nat → Int32) (f37 : Nat → Int32) (q38 : Nat → Nat) (f39 : Nat → Int32) (f40 : Nat → Int32) (f41 : Nat → Int32) (m42_0 m42_1 : Nat) (f43 : Nat → Int32) (f44 : Nat → Int32) (f47 : Nat → Int32) (f48 : Nat → Int32) (f49 : Nat → Int32) (f50 : Nat → Int32) (f51 : Nat → Int32) (q54 : Nat → Nat) (q55 : Nat → Nat) (q56 : Nat → Nat) (f57 : Nat → Int32) (q58 : Nat → Nat) (f59 : Nat → Int32) (f60 : Nat → Int32) (f64 : Nat → Int32) (p0 : Int32) (p1 : Int32) (p2 : Int32) (p3 : Int32) (p4 : Int32) (hx16 : x16 ≤ 1) (hx18 : x18 ≤ 900) (hx19 : x19 ≤ 900) (hx21 : x21 ≤ 900) (hx22 : x22 ≤ 4) (hx26 : x26 ≤ 6) (hx28 : x28 ≤ 1) (hx29 : x29 ≤ 1) (hx30 : x30 ≤ 1) (hx33 : x33 ≤ 20) (hx46 : x46 ≤ 5) (hx52 : x52 ≤ 2400) (hx53 : x53 ≤ 119) (hx61 : x61 ≤ 119) (hx62 : x62 ≤ 2000) (hx63 : x63 ≤ 1) (hx65 : x65 ≤ 7) (hm12_0 : m12_0 ≤ 3) (hm12_1 : m12_1 ≤ 3) (hm13_0 : m13_0 ≤ 8) (hm13_1 : m13_1 ≤ 8) (hm14_0 : m14_0 ≤ 14) (hm14_1 : m14_1 ≤ 14) (hm15_0 : m15_0 ≤ 8) (hm15_1 : m15_1 ≤ 8) (hm42_0 : m42_0 ≤ 120) (hm42_1 : m42_1 ≤ 400) (hbg : (x16 = 0 ∧ (m13_0 = 0 ∨ 1 ≤ m15_0)) ∨ (x16 = 1 ∧ (m13_1 = 0 ∨ 1 ≤ m15_1))) (hgr : gz_ok m42_0 f39 f40 f41) : Met l yX9_from vs_M_from ({ frames := 7, cells := 0, slots := 0, locals := 171 }) (va_Pc [.ref (ad 0), .int p0, .int p1, .int p2, .int p3, .int p4] (pu_B (dC, dI) (mo_w ad ck x0 (nI x16) (nI x18) (nI x19) x20 (nI x21) (nI x22) x23 x24 x25 (nI x26) x27 (nI x28) (nI x29) (nI x30) (nI x33) x45 (nI x46) (nI x52) (nI x53) (nI x61) (nI x62) (nI x63) (nI x65) x66 f1 f2 f3 (bN 3 q4) (bN 7 q5) (bN 7 q6) (bN 4 q7) f8 (bN 2 q9) (bH q10) f11 (b2 m12_0 m12_1) (b2 m13_0 m13_1) (b2 m14_0 m14_1) (b2m m15_0 m15_1) f17 (bA 159 q31) f32 f34 f35 f36 f37 (bN 7 q38) f39 f40 f41 (b2 m42_0 m42_1) f43 f44 f47 f48 f49 f50 f51 (bN 13 q54) (bN 120 q55) (bN 120 q56) f57 (bN 120 q58) f59 f60 f64) (mo_t ck) sz)) (va_Qi (fun (r : Int32) (_ : Unit) => True) (fun _ t => ∃ (z34 : Nat → Int32) (z35 : Nat → Int32) (z38 : Nat → Nat) (z39 : Nat → Int32) (z40 : Nat → Int32) (z41 : Nat → Int32) (z43 : Nat → Int32) (z44 : Nat → Int32) (z47 : Nat → Int32) (z48 : Nat → Int32) (z42_1 : Nat) (z0 : Int32) (z46 : Nat), pu_E (dC, dI) (mo_w ad ck z0 (nI x16) (nI x18) (nI x19) x20 (nI x21) (nI x22) x23 x24 x25 (nI x26) x27 (nI x28) (nI x29) (nI x30) (nI x33) x45 (nI z46) (nI x52) (nI x53) (nI x61) (nI x62) (nI x63) (nI x65) x66 f1 f2 f3 (bN 3 q4) (bN 7 q5) (bN 7 q6) (bN 4 q7) f8 (bN 2 q9) (bH q10) f11 (b2 m12_0 m12_1) (b2 m13_0 m13_1) (b2 m14_0 m14_1) (b2m m15_0 m15_1) f17 (bA 159 q31) f32 z34 z35 f36 f37 (bN 7 z38) z39 z40 z41 (b2 m42_0 z42_1) z43 z44 z47 z48 f49 f50 f51 (bN 13 q54) (bN 120 q55) (bN 120 q56) f57 (bN 120 q58) f59 f60 f64) (mo_t ck) (va_A ((mo_w ad ck x0 (nI x16) (nI x18) (nI x19) x20 (nI x21) (nI x22) x23 x24 x25 (nI x26) x27 (nI x28) (nI x29) (nI x30) (nI x33) x45 (nI x46) (nI x52) (nI x53) (nI x61) (nI x62) (nI x63) (nI x65) x66 f1 f2 f3 (bN 3 q4) (bN 7 q5) (bN 7 q6) (bN 4 q7) f8 (bN 2 q9) (bH q10) f11 (b2 m12_0 m12_1) (b2 m13_0 m13_1) (b2 m14_0 m14_1) (b2m m15_0 m15_1) f17 (bA 159 q31) f32 f34 f35 f36 f37 (bN 7 q38) f39 f40 f41 (b2 m42_0 m42_1) f43 f44 f47 f48 f49 f50 f51 (bN 13 q54) (bN 120 q55) (bN 120 q56) f57 (bN 120 q58) f59 f60 f64)) sz) t ∧ (z42_1 ≤ 400) ∧ (z46 ≤ 5) ∧ (gz_ok m42_0 z39 z40 z41)) (va_A ((mo_w ad ck x0 (nI x16) (nI x18) (nI x19) x20 (nI x21) (nI x22) x23 x24 x25 (nI x26) x27 (nI x28) (nI x29) (nI x30) (nI x33) x45 (nI x46) (nI x52) (nI x53) (nI x61) (nI x62) (nI x63) (nI x65) x66 f1 f2 f3 (bN 3 q4) (bN 7 q5) (bN 7 q6) (bN 4 q7) f8 (bN 2 q9) (bH q10) f11 (b2 m12_0 m12_1) (b2 m13_0 m13_1) (b2 m14_0 m14_1) (b2m m15_0 m15_1) f17 (bA 159 q31) f32 f34 f35 f36 f37 (bN 7 q38) f39 f40 f41 (b2 m42_0 m42_1) f43 f44 f47 f48 f49 f50 f51 (bN 13 q54) (bN 120 q55) (bN 120 q56) f57 (bN 120 q58) f59 f60 f64)) sz)) 0 0 (va_A ((mo_w ad ck x0 (nI x16) (nI x18) (nI x19) x20 (nI x21) (nI x22) x23 x24 x25 (nI x26) x27 (nI x28) (nI x29) (nI x30) (nI x33) x45 (nI x46) (nI x52) (nI x53) (nI x61) (nI x62) (nI x63) (nI x65) x66 f1 f2 f3 (bN 3 q4) (bN 7 q5) (bN 7 q6) (bN 4 q7) f8 (bN 2 q9) (bH q10) f11 (b2 m12_0 m12_1) (b2 m13_0 m13_1) (b2 m14_0 m14_1) (b2m m15_0 m15_1) f17 (bA 159 q31) f32 f34 f35 f36 f37 (bN 7 q38) f39 f40 f41 (b2 m42_0 m42_1) f43 f44 f47 f48 f49 f50 f51 (bN 13 q54) (bN 120 q55) (bN 120 q56) f57 (bN 120 q58) f59 f60 f64)) sz) := by
  refine Met.ofW (cc := cX9_from) (maxL := 7) (ret := (some .int)) (by decide) rfl ?_
  intro p e s m args below meth c s₁ B hml hv
  obtain ⟨rfl, rfl, hP, hK, hD0⟩ := hv
  have hx := B.exec
  have hb := B.bytes
  have hr := B.returns
  have hts := atoms_spec (ws := vs_M_from) B.pre
  have v_1 := hts (.fieldLink RX9 142 "ClockReachModel" "thrown" "I") (List.mem_cons_of_mem _ vm_24)
  have v_11 := hts (.fieldLink RX9 328 "ClockReachModel" "side" "I") (List.mem_cons_of_mem _ vm_209)
  have hown : s.vm.findClass RX9 = some m.cls := findClass_of_methodNamed B.named
  have hlocks := B.notSynchronized
  have hiX9 : ∀ w ∈ wsX90, w ∈ vs_M_from := fun _ h => List.mem_cons_of_mem _ (List.mem_append_right _ h)
  have hD := hD0.self (sz := s.heap.size)
  generalize hAe : va_A ((mo_w ad ck x0 (nI x16) (nI x18) (nI x19) x20 (nI x21) (nI x22) x23 x24 x25 (nI x26) x27 (nI x28) (nI x29) (nI x30) (nI x33) x45 (nI x46) (nI x52) (nI x53) (nI x61) (nI x62) (nI x63) (nI x65) x66 f1 f2 f3 (bN 3 q4) (bN 7 q5) (bN 7 q6) (bN 4 q7) f8 (bN 2 q9) (bH q10) f11 (b2 m12_0 m12_1) (b2 m13_0 m13_1) (b2 m14_0 m14_1) (b2m m15_0 m15_1) f17 (bA 159 q31) f32 f34 f35 f36 f37 (bN 7 q38) f39 f40 f41 (b2 m42_0 m42_1) f43 f44 f47 f48 f49 f50 f51 (bN 13 q54) (bN 120 q55) (bN 120 q56) f57 (bN 120 q58) f59 f60 f64)) s.heap.size = A at hD ⊢
  have hA : ∀ q : Nat, s.heap.size ≤ q → A q := fun q h => by rw [← hAe]; exact Or.inr h
  have hS : va_S A s.heap s.heap [] := va_S.rf
  have hl := lv_entry ([.ref (ad 0), .int p0, .int p1, .int p2, .int p3, .int p4]) (n := 7) (Nat.le_of_ble_eq_true rfl)
  rw [lg_entry_eq]
  generalize (lg_sl ([.ref (ad 0), .int p0, .int p1, .int p2, .int p3, .int p4]) ++ List.replicate (7 - (lg_sl ([.ref (ad 0), .int p0, .int p1, .int p2, .int p3, .int p4])).length) Slot.unset).toArray = ls at hl ⊢
  have hl : lv_has ls 7 [(0, .ref (ad 0)), (1, .int p0), (2, .int p1), (3, .int p2), (4, .int p3), (5, .int p4)] := hl
  refine lv_aload_n hx hb dX9_from_0 rfl (lv_at hl 0 rfl) ?_
  refine lv_iconst (v := 0) hx hb dX9_from_1 (by decide) ?_
  refine va_put (D := (dC, dI)) (ci := 9) (v := .int 0) (ty := .int) (C := RX9) (T := TX9) (N := 67) hx hb hts hiX9 tyX9 tyX9_ok nmX9 hown hK hP hD hS 0 rfl rfl 0 (by decide) v_1 (fun _ h9 => h9) rfl (by decide +kernel) rfl rfl (Nat.le_of_ble_eq_true rfl) dX9_from_2 (fun H locs hP hD hS => ?_)
  have hP : va_P (dC, dI) vwCl (mo_w ad ck 0 (nI x16) (nI x18) (nI x19) x20 (nI x21) (nI x22) x23 x24 x25 (nI x26) x27 (nI x28) (nI x29) (nI x30) (nI x33) x45 (nI x46) (nI x52) (nI x53) (nI x61) (nI x62) (nI x63) (nI x65) x66 f1 f2 f3 (bN 3 q4) (bN 7 q5) (bN 7 q6) (bN 4 q7) f8 (bN 2 q9) (bH q10) f11 (b2 m12_0 m12_1) (b2 m13_0 m13_1) (b2 m14_0 m14_1) (b2m m15_0 m15_1) f17 (bA 159 q31) f32 f34 f35 f36 f37 (bN 7 q38) f39 f40 f41 (b2 m42_0 m42_1) f43 f44 f47 f48 f49 f50 f51 (bN 13 q54) (bN 120 q55) (bN 120 q56) f57 (bN 120 q58) f59 f60 f64) H := hP
  have hD : va_D A (mo_w ad ck 0 (nI x16) (nI x18) (nI x19) x20 (nI x21) (nI x22) x23 x24 x25 (nI x26) x27 (nI x28) (nI x29) (nI x30) (nI x33) x45 (nI x46) (nI x52) (nI x53) (nI x61) (nI x62) (nI x63) (nI x65) x66 f1 f2 f3 (bN 3 q4) (bN 7 q5) (bN 7 q6) (bN 4 q7) f8 (bN 2 q9) (bH q10) f11 (b2 m12_0 m12_1) (b2 m13_0 m13_1) (b2 m14_0 m14_1) (b2m m15_0 m15_1) f17 (bA 159 q31) f32 f34 f35 f36 f37 (bN 7 q38) f39 f40 f41 (b2 m42_0 m42_1) f43 f44 f47 f48 f49 f50 f51 (bN 13 q54) (bN 120 q55) (bN 120 q56) f57 (bN 120 q58) f59 f60 f64) := hD
  refine lv_aload_n hx hb dX9_from_5 rfl (lv_at hl 0 rfl) ?_
  refine lv_iload_n hx hb dX9_from_6 rfl (lv_at hl 1 rfl) ?_
  refine va_calli (va_runV (As := [.int p0]) (rest := []) ⟨hx, hb, hml, hown, hts⟩ (c_M_isPlace l dC dI _ ad ck 0 x16 x18 x19 x20 x21 x22 x23 x24 x25 x26 x27 x28 x29 x30 x33 x45 x46 x52 x53 x61 x62 x63 x65 x66 f1 f2 f3 q4 q5 q6 q7 f8 q9 q10 f11 m12_0 m12_1 m13_0 m13_1 m14_0 m14_1 m15_0 m15_1 f17 q31 f32 f34 f35 f36 f37 q38 f39 f40 f41 m42_0 m42_1 f43 f44 f47 f48 f49 f50 f51 q54 q55 q56 f57 q58 f59 f60 f64 p0 hx16 hx18 hx19 hx21 hx22 hx26 hx28 hx29 hx30 hx33 hx46 hx52 hx53 hx61 hx62 hx63 hx65 hm12_0 hm12_1 hm13_0 hm13_1 hm14_0 hm14_1 hm15_0 hm15_1 hm42_0 hm42_1) (cwV 1 hts g_M_from_M_isPlace rfl rfl rfl (by decide +kernel) ⟨Nat.le_of_ble_eq_true rfl, Nat.le_of_ble_eq_true rfl⟩) ⟨pu_bl, va_recv hK hP (ci := 9) (q0 := 0) rfl rfl, pu_in hP hK hD⟩ rfl rfl hl.1 rfl (lv_room (Nat.le_of_ble_eq_true rfl)) dX9_from_7 ⟨Nat.le_of_ble_eq_true rfl, Nat.le_of_ble_eq_true rfl⟩) hS (fun q _ h => pu_fr hS hA q h) (pu_fr hS hA) (fun r_1 u t H1 locs ht hvm hw hB hz1 hk1 hS => ?_)
  have hP := pu_keep hP hk1
  clear hk1 hz1 ht hvm
  generalize H1 = H at hP hS ⊢
  rcases hw with ⟨rfl, hw⟩ | rfl
  · obtain ⟨n_2, hn_2, rfl⟩ := hw
    refine lv_if_eq (tgt := 26) hx hb dX9_from_10 (by decide) (fun z => absurd z (by decide)) (fun _ => ?_)
    refine lv_aload_n hx hb dX9_from_13 rfl (lv_at hl 0 rfl) ?_
    refine lv_iload hx hb dX9_from_14 (lv_at hl 5 rfl) ?_
    refine va_calli (va_runV (As := [.int p4]) (rest := []) ⟨hx, hb, hml, hown, hts⟩ (c_M_isPlace l dC dI _ ad ck 0 x16 x18 x19 x20 x21 x22 x23 x24 x25 x26 x27 x28 x29 x30 x33 x45 x46 x52 x53 x61 x62 x63 x65 x66 f1 f2 f3 q4 q5 q6 q7 f8 q9 q10 f11 m12_0 m12_1 m13_0 m13_1 m14_0 m14_1 m15_0 m15_1 f17 q31 f32 f34 f35 f36 f37 q38 f39 f40 f41 m42_0 m42_1 f43 f44 f47 f48 f49 f50 f51 q54 q55 q56 f57 q58 f59 f60 f64 p4 hx16 hx18 hx19 hx21 hx22 hx26 hx28 hx29 hx30 hx33 hx46 hx52 hx53 hx61 hx62 hx63 hx65 hm12_0 hm12_1 hm13_0 hm13_1 hm14_0 hm14_1 hm15_0 hm15_1 hm42_0 hm42_1) (cwV 1 hts g_M_from_M_isPlace rfl rfl rfl (by decide +kernel) ⟨Nat.le_of_ble_eq_true rfl, Nat.le_of_ble_eq_true rfl⟩) ⟨pu_bl, va_recv hK hP (ci := 9) (q0 := 0) rfl rfl, pu_in hP hK hD⟩ rfl rfl hl.1 rfl (lv_room (Nat.le_of_ble_eq_true rfl)) dX9_from_16 ⟨Nat.le_of_ble_eq_true rfl, Nat.le_of_ble_eq_true rfl⟩) hS (fun q _ h => pu_fr hS hA q h) (pu_fr hS hA) (fun r_3 u t H1 locs ht hvm hw hB hz1 hk1 hS => ?_)
    have hP := pu_keep hP hk1
    clear hk1 hz1 ht hvm
    generalize H1 = H at hP hS ⊢
    rcases hw with ⟨rfl, hw⟩ | rfl
    · obtain ⟨n_4, hn_4, rfl⟩ := hw
      refine lv_if_eq (tgt := 26) hx hb dX9_from_19 (by decide) (fun z => absurd z (by decide)) (fun _ => ?_)
      refine lv_iconst (v := 1) hx hb dX9_from_22 (by decide) ?_
      refine lv_goto (tgt := 27) hx hb dX9_from_23 (by decide) ?_
      refine lv_istore (lv' := [(6, .int 1), (0, .ref (ad 0)), (1, .int (nI n_2)), (2, .int p1), (3, .int p2), (4, .int p3), (5, .int (nI n_4))]) hx hb dX9_from_27 hl (by decide) rfl (fun ls hl => ?_)
      refine lv_iload hx hb dX9_from_29 (lv_at hl 0 rfl) ?_
      refine lv_if_eq (tgt := 93) hx hb dX9_from_31 (by decide) (fun z => absurd z (by decide)) (fun _ => ?_)
      refine lv_aload_n hx hb dX9_from_34 rfl (lv_at hl 1 rfl) ?_
      refine va_calli (va_runV (As := []) (rest := []) ⟨hx, hb, hml, hown, hts⟩ (c_M_clocks l dC dI _ ad ck 0 x16 x18 x19 x20 x21 x22 x23 x24 x25 x26 x27 x28 x29 x30 x33 x45 x46 x52 x53 x61 x62 x63 x65 x66 f1 f2 f3 q4 q5 q6 q7 f8 q9 q10 f11 m12_0 m12_1 m13_0 m13_1 m14_0 m14_1 m15_0 m15_1 f17 q31 f32 f34 f35 f36 f37 q38 f39 f40 f41 m42_0 m42_1 f43 f44 f47 f48 f49 f50 f51 q54 q55 q56 f57 q58 f59 f60 f64 hx16 hx18 hx19 hx21 hx22 hx26 hx28 hx29 hx30 hx33 hx46 hx52 hx53 hx61 hx62 hx63 hx65 hm12_0 hm12_1 hm13_0 hm13_1 hm14_0 hm14_1 hm15_0 hm15_1 hm42_0 hm42_1) (cwV 0 hts g_M_from_M_clocks rfl rfl rfl (by decide +kernel) ⟨Nat.le_of_ble_eq_true rfl, Nat.le_of_ble_eq_true rfl⟩) ⟨pu_bl, va_recv hK hP (ci := 9) (q0 := 0) rfl rfl, pu_in hP hK hD⟩ rfl rfl hl.1 rfl (lv_room (Nat.le_of_ble_eq_true rfl)) dX9_from_35 ⟨Nat.le_of_ble_eq_true rfl, Nat.le_of_ble_eq_true rfl⟩) hS (fun q _ h => pu_fr hS hA q h) (pu_fr hS hA) (fun r_5 u t H1 locs ht hvm hw hB hz1 hk1 hS => ?_)
      have hP := pu_keep hP hk1
      clear hk1 hz1 ht hvm
      generalize H1 = H at hP hS ⊢
      obtain ⟨u_6, hu_6, rfl⟩ := hw
      refine lv_iconst (v := 1) hx hb dX9_from_38 (by decide) ?_
      refine lv_icmp_lt (tgt := 52) hx hb dX9_from_39 (by decide) (fun c_7 => ?_) (fun c_7 => ?_)
      · have c_7 : u_6 < 1 := (nI_ltI (a := u_6) (b := 1) (Nat.lt_of_le_of_lt hu_6 (Nat.le_of_ble_eq_true rfl)) (Nat.le_of_ble_eq_true rfl)).mp c_7
        refine lv_aload_n hx hb dX9_from_52 rfl (lv_at hl 1 rfl) ?_
        refine va_calli (va_runV (As := []) (rest := []) ⟨hx, hb, hml, hown, hts⟩ (c_M_clocks l dC dI _ ad ck 0 x16 x18 x19 x20 x21 x22 x23 x24 x25 x26 x27 x28 x29 x30 x33 x45 x46 x52 x53 x61 x62 x63 x65 x66 f1 f2 f3 q4 q5 q6 q7 f8 q9 q10 f11 m12_0 m12_1 m13_0 m13_1 m14_0 m14_1 m15_0 m15_1 f17 q31 f32 f34 f35 f36 f37 q38 f39 f40 f41 m42_0 m42_1 f43 f44 f47 f48 f49 f50 f51 q54 q55 q56 f57 q58 f59 f60 f64 hx16 hx18 hx19 hx21 hx22 hx26 hx28 hx29 hx30 hx33 hx46 hx52 hx53 hx61 hx62 hx63 hx65 hm12_0 hm12_1 hm13_0 hm13_1 hm14_0 hm14_1 hm15_0 hm15_1 hm42_0 hm42_1) (cwV 0 hts g_M_from_M_clocks rfl rfl rfl (by decide +kernel) ⟨Nat.le_of_ble_eq_true rfl, Nat.le_of_ble_eq_true rfl⟩) ⟨pu_bl, va_recv hK hP (ci := 9) (q0 := 0) rfl rfl, pu_in hP hK hD⟩ rfl rfl hl.1 rfl (lv_room (Nat.le_of_ble_eq_true rfl)) dX9_from_53 ⟨Nat.le_of_ble_eq_true rfl, Nat.le_of_ble_eq_true rfl⟩) hS (fun q _ h => pu_fr hS hA q h) (pu_fr hS hA) (fun r_8 u t H1 locs ht hvm hw hB hz1 hk1 hS => ?_)
        have hP := pu_keep hP hk1
        clear hk1 hz1 ht hvm
        generalize H1 = H at hP hS ⊢
        obtain ⟨u_9, hu_9, rfl⟩ := hw
        refine lv_iconst (v := 2) hx hb dX9_from_56 (by decide) ?_
        refine lv_icmp_lt (tgt := 70) hx hb dX9_from_57 (by decide) (fun c_10 => ?_) (fun c_10 => ?_)
        · have c_10 : u_9 < 2 := (nI_ltI (a := u_9) (b := 2) (Nat.lt_of_le_of_lt hu_9 (Nat.le_of_ble_eq_true rfl)) (Nat.le_of_ble_eq_true rfl)).mp c_10
          refine lv_aload_n hx hb dX9_from_70 rfl (lv_at hl 1 rfl) ?_
          refine va_calli (va_runV (As := []) (rest := []) ⟨hx, hb, hml, hown, hts⟩ (c_M_clocks l dC dI _ ad ck 0 x16 x18 x19 x20 x21 x22 x23 x24 x25 x26 x27 x28 x29 x30 x33 x45 x46 x52 x53 x61 x62 x63 x65 x66 f1 f2 f3 q4 q5 q6 q7 f8 q9 q10 f11 m12_0 m12_1 m13_0 m13_1 m14_0 m14_1 m15_0 m15_1 f17 q31 f32 f34 f35 f36 f37 q38 f39 f40 f41 m42_0 m42_1 f43 f44 f47 f48 f49 f50 f51 q54 q55 q56 f57 q58 f59 f60 f64 hx16 hx18 hx19 hx21 hx22 hx26 hx28 hx29 hx30 hx33 hx46 hx52 hx53 hx61 hx62 hx63 hx65 hm12_0 hm12_1 hm13_0 hm13_1 hm14_0 hm14_1 hm15_0 hm15_1 hm42_0 hm42_1) (cwV 0 hts g_M_from_M_clocks rfl rfl rfl (by decide +kernel) ⟨Nat.le_of_ble_eq_true rfl, Nat.le_of_ble_eq_true rfl⟩) ⟨pu_bl, va_recv hK hP (ci := 9) (q0 := 0) rfl rfl, pu_in hP hK hD⟩ rfl rfl hl.1 rfl (lv_room (Nat.le_of_ble_eq_true rfl)) dX9_from_71 ⟨Nat.le_of_ble_eq_true rfl, Nat.le_of_ble_eq_true rfl⟩) hS (fun q _ h => pu_fr hS hA q h) (pu_fr hS hA) (fun r_11 u t H1 locs ht hvm hw hB hz1 hk1 hS => ?_)
          have hP := pu_keep hP hk1
          clear hk1 hz1 ht hvm
          generalize H1 = H at hP hS ⊢
          obtain ⟨u_12, hu_12, rfl⟩ := hw
          refine lv_iconst (v := 3) hx hb dX9_from_74 (by decide) ?_
          refine lv_icmp_lt (tgt := 89) hx hb dX9_from_75 (by decide) (fun c_13 => ?_) (fun c_13 => ?_)
          · have c_13 : u_12 < 3 := (nI_ltI (a := u_12) (b := 3) (Nat.lt_of_le_of_lt hu_12 (Nat.le_of_ble_eq_true rfl)) (Nat.le_of_ble_eq_true rfl)).mp c_13
            refine lv_iconst (v := 1) hx hb dX9_from_89 (by decide) ?_
            refine lv_goto (tgt := 94) hx hb dX9_from_90 (by decide) ?_
            refine lv_istore (lv' := [(6, .int 1), (0, .ref (ad 0)), (1, .int (nI n_2)), (2, .int p1), (3, .int p2), (4, .int p3), (5, .int (nI n_4))]) hx hb dX9_from_94 hl (by decide) rfl (fun ls hl => ?_)
            refine lv_iload hx hb dX9_from_96 (lv_at hl 0 rfl) ?_
            refine lv_if_ne (tgt := 103) hx hb dX9_from_98 (by decide) (fun _ => ?_) (fun z => absurd z (by decide))
            refine lv_aload_n hx hb dX9_from_103 rfl (lv_at hl 1 rfl) ?_
            refine lv_aload_n hx hb dX9_from_104 rfl (lv_at hl 1 rfl) ?_
            refine va_calli (va_runV (As := []) (rest := [.ref (ad 0)]) ⟨hx, hb, hml, hown, hts⟩ (c_M_clocks l dC dI _ ad ck 0 x16 x18 x19 x20 x21 x22 x23 x24 x25 x26 x27 x28 x29 x30 x33 x45 x46 x52 x53 x61 x62 x63 x65 x66 f1 f2 f3 q4 q5 q6 q7 f8 q9 q10 f11 m12_0 m12_1 m13_0 m13_1 m14_0 m14_1 m15_0 m15_1 f17 q31 f32 f34 f35 f36 f37 q38 f39 f40 f41 m42_0 m42_1 f43 f44 f47 f48 f49 f50 f51 q54 q55 q56 f57 q58 f59 f60 f64 hx16 hx18 hx19 hx21 hx22 hx26 hx28 hx29 hx30 hx33 hx46 hx52 hx53 hx61 hx62 hx63 hx65 hm12_0 hm12_1 hm13_0 hm13_1 hm14_0 hm14_1 hm15_0 hm15_1 hm42_0 hm42_1) (cwV 0 hts g_M_from_M_clocks rfl rfl rfl (by decide +kernel) ⟨Nat.le_of_ble_eq_true rfl, Nat.le_of_ble_eq_true rfl⟩) ⟨pu_bl, va_recv hK hP (ci := 9) (q0 := 0) rfl rfl, pu_in hP hK hD⟩ rfl rfl hl.1 rfl (lv_room (Nat.le_of_ble_eq_true rfl)) dX9_from_105 ⟨Nat.le_of_ble_eq_true rfl, Nat.le_of_ble_eq_true rfl⟩) hS (fun q _ h => pu_fr hS hA q h) (pu_fr hS hA) (fun r_14 u t H1 locs ht hvm hw hB hz1 hk1 hS => ?_)
            have hP := pu_keep hP hk1
            clear hk1 hz1 ht hvm
            generalize H1 = H at hP hS ⊢
            obtain ⟨u_15, hu_15, rfl⟩ := hw
            refine lv_iconst (v := 1) hx hb dX9_from_108 (by decide) ?_
            refine lv_iadd hx hb dX9_from_109 ?_
            refine lv_topi (fun y_16 ey_16 => ?_)
            obtain rfl : y_16 = (nI (u_15 + 1)) := ey_16.trans (nI_add u_15 1)
            refine va_put (D := (dC, dI)) (ci := 9) (v := .int (nI (u_15 + 1))) (ty := .int) (C := RX9) (T := TX9) (N := 67) hx hb hts hiX9 tyX9 tyX9_ok nmX9 hown hK hP hD hS 0 rfl rfl 46 (by decide) v_11 (fun _ h9 => h9) rfl (by decide +kernel) rfl rfl (Nat.le_of_ble_eq_true rfl) dX9_from_110 (fun H locs hP hD hS => ?_)
            have hP : va_P (dC, dI) vwCl (mo_w ad ck 0 (nI x16) (nI x18) (nI x19) x20 (nI x21) (nI x22) x23 x24 x25 (nI x26) x27 (nI x28) (nI x29) (nI x30) (nI x33) x45 (nI (u_15 + 1)) (nI x52) (nI x53) (nI x61) (nI x62) (nI x63) (nI x65) x66 f1 f2 f3 (bN 3 q4) (bN 7 q5) (bN 7 q6) (bN 4 q7) f8 (bN 2 q9) (bH q10) f11 (b2 m12_0 m12_1) (b2 m13_0 m13_1) (b2 m14_0 m14_1) (b2m m15_0 m15_1) f17 (bA 159 q31) f32 f34 f35 f36 f37 (bN 7 q38) f39 f40 f41 (b2 m42_0 m42_1) f43 f44 f47 f48 f49 f50 f51 (bN 13 q54) (bN 120 q55) (bN 120 q56) f57 (bN 120 q58) f59 f60 f64) H := hP
            have hD : va_D A (mo_w ad ck 0 (nI x16) (nI x18) (nI x19) x20 (nI x21) (nI x22) x23 x24 x25 (nI x26) x27 (nI x28) (nI x29) (nI x30) (nI x33) x45 (nI (u_15 + 1)) (nI x52) (nI x53) (nI x61) (nI x62) (nI x63) (nI x65) x66 f1 f2 f3 (bN 3 q4) (bN 7 q5) (bN 7 q6) (bN 4 q7) f8 (bN 2 q9) (bH q10) f11 (b2 m12_0 m12_1) (b2 m13_0 m13_1) (b2 m14_0 m14_1) (b2m m15_0 m15_1) f17 (bA 159 q31) f32 f34 f35 f36 f37 (bN 7 q38) f39 f40 f41 (b2 m42_0 m42_1) f43 f44 f47 f48 f49 f50 f51 (bN 13 q54) (bN 120 q55) (bN 120 q56) f57 (bN 120 q58) f59 f60 f64) := hD
            refine lv_aload_n hx hb dX9_from_113 rfl (lv_at hl 1 rfl) ?_
            refine lv_iload_n hx hb dX9_from_114 rfl (lv_at hl 3 rfl) ?_
            refine lv_iload_n hx hb dX9_from_115 rfl (lv_at hl 4 rfl) ?_
            refine lv_iload hx hb dX9_from_116 (lv_at hl 5 rfl) ?_
            have hFc := pu_free hD hS hA
            refine va_callv (va_runV (As := [.int p1, .int p2, .int p3]) (rest := []) ⟨hx, hb, hml, hown, hts⟩ (c_M_layPoint l dC dI _ ad ck 0 x16 x18 x19 x20 x21 x22 x23 x24 x25 x26 x27 x28 x29 x30 x33 x45 (u_15 + 1) x52 x53 x61 x62 x63 x65 x66 f1 f2 f3 q4 q5 q6 q7 f8 q9 q10 f11 m12_0 m12_1 m13_0 m13_1 m14_0 m14_1 m15_0 m15_1 f17 q31 f32 f34 f35 f36 f37 q38 f39 f40 f41 m42_0 m42_1 f43 f44 f47 f48 f49 f50 f51 q54 q55 q56 f57 q58 f59 f60 f64 p1 p2 p3 hx16 hx18 hx19 hx21 hx22 hx26 hx28 hx29 hx30 hx33 (by omega) hx52 hx53 hx61 hx62 hx63 hx65 hm12_0 hm12_1 hm13_0 hm13_1 hm14_0 hm14_1 hm15_0 hm15_1 hm42_0 hm42_1) (cwV 3 hts g_M_from_M_layPoint rfl rfl rfl (by decide +kernel) ⟨Nat.le_of_ble_eq_true rfl, Nat.le_of_ble_eq_true rfl⟩) ⟨pu_bl, va_recv hK hP (ci := 9) (q0 := 0) rfl rfl, pu_in hP hK hD⟩ rfl rfl hl.1 rfl (lv_room (Nat.le_of_ble_eq_true rfl)) dX9_from_118 ⟨Nat.le_of_ble_eq_true rfl, Nat.le_of_ble_eq_true rfl⟩) hS (fun q _ h => hFc q h) hFc (fun u t H1 locs ht hvm hw hB hz1 hk1 hS => ?_)
            obtain ⟨z35_18, ⟨hP1, -, hD1⟩⟩ := hB
            rw [ht] at hP1
            have hP := hP1
            have hD := pu_all hFc hD1
            clear hP1 hD1 hFc
            clear hk1 hz1 ht hvm
            generalize H1 = H at hP hS ⊢
            refine lv_aload_n hx hb dX9_from_121 rfl (lv_at hl 1 rfl) ?_
            refine lv_iconst (v := 1) hx hb dX9_from_122 (by decide) ?_
            refine lv_iload_n hx hb dX9_from_123 rfl (lv_at hl 2 rfl) ?_
            refine lv_iconst (v := 2) hx hb dX9_from_124 (by decide) ?_
            refine lv_iconst (v := 1) hx hb dX9_from_125 (by decide) ?_
            refine lv_bipush (v := 120) hx hb dX9_from_126 (by decide) ?_
            refine lv_iconst (v := (-1)) hx hb dX9_from_128 (by decide) ?_
            have hFc := pu_free hD hS hA
            refine va_callv (va_runV (As := [.int 1, .int (nI n_2), .int 2, .int 1, .int 120, .int (-1)]) (rest := []) ⟨hx, hb, hml, hown, hts⟩ (c_M_explores_1_120 l dC dI _ ad ck 0 x16 x18 x19 x20 x21 x22 x23 x24 x25 x26 x27 x28 x29 x30 x33 x45 (u_15 + 1) x52 x53 x61 x62 x63 x65 x66 f1 f2 f3 q4 q5 q6 q7 f8 q9 q10 f11 m12_0 m12_1 m13_0 m13_1 m14_0 m14_1 m15_0 m15_1 f17 q31 f32 f34 z35_18 f36 f37 q38 f39 f40 f41 m42_0 m42_1 f43 f44 f47 f48 f49 f50 f51 q54 q55 q56 f57 q58 f59 f60 f64 n_2 2 1 (-1) hx16 hx18 hx19 hx21 hx22 hx26 hx28 hx29 hx30 hx33 (by omega) hx52 hx53 hx61 hx62 hx63 hx65 hm12_0 hm12_1 hm13_0 hm13_1 hm14_0 hm14_1 hm15_0 hm15_1 hm42_0 hm42_1 (by omega) (Nat.le_of_ble_eq_true rfl) (by first | assumption | exact gz_0)) (cwV 6 hts g_M_from_M_explores_1_120 rfl rfl rfl (by decide +kernel) ⟨Nat.le_of_ble_eq_true rfl, Nat.le_of_ble_eq_true rfl⟩) ⟨pu_bl, va_recv hK hP (ci := 9) (q0 := 0) rfl rfl, pu_in hP hK hD⟩ rfl rfl hl.1 rfl (lv_room (Nat.le_of_ble_eq_true rfl)) dX9_from_129 ⟨Nat.le_of_ble_eq_true rfl, Nat.le_of_ble_eq_true rfl⟩) hS (fun q _ h => hFc q h) hFc (fun u t H1 locs ht hvm hw hB hz1 hk1 hS => ?_)
            obtain ⟨z34_20, z35_21, z38_22, z39_23, z40_24, z41_25, z43_26, z44_27, z47_28, z48_29, z42_1_30, ⟨hP1, -, hD1⟩, hz42_1_30, xr_19_0⟩ := hB
            rw [ht] at hP1
            have hP := hP1
            have hD := pu_all hFc hD1
            clear hP1 hD1 hFc
            clear hk1 hz1 ht hvm
            generalize H1 = H at hP hS ⊢
            refine lv_aload_n hx hb dX9_from_132 rfl (lv_at hl 1 rfl) ?_
            refine lv_iconst (v := 1) hx hb dX9_from_133 (by decide) ?_
            refine lv_iload hx hb dX9_from_134 (lv_at hl 6 rfl) ?_
            refine va_calli (va_runV (As := [.int 1, .int (nI n_4)]) (rest := []) ⟨hx, hb, hml, hown, hts⟩ (c_M_hasPlace_1 l dC dI _ ad ck 0 x16 x18 x19 x20 x21 x22 x23 x24 x25 x26 x27 x28 x29 x30 x33 x45 (u_15 + 1) x52 x53 x61 x62 x63 x65 x66 f1 f2 f3 q4 q5 q6 q7 f8 q9 q10 f11 m12_0 m12_1 m13_0 m13_1 m14_0 m14_1 m15_0 m15_1 f17 q31 f32 z34_20 z35_21 f36 f37 z38_22 z39_23 z40_24 z41_25 m42_0 z42_1_30 z43_26 z44_27 z47_28 z48_29 f49 f50 f51 q54 q55 q56 f57 q58 f59 f60 f64 (nI n_4) hx16 hx18 hx19 hx21 hx22 hx26 hx28 hx29 hx30 hx33 (by omega) hx52 hx53 hx61 hx62 hx63 hx65 hm12_0 hm12_1 hm13_0 hm13_1 hm14_0 hm14_1 hm15_0 hm15_1 hm42_0 (Nat.le_trans hz42_1_30 (Nat.le_of_ble_eq_true rfl))) (cwV 2 hts g_M_from_M_hasPlace_1 rfl rfl rfl (by decide +kernel) ⟨Nat.le_of_ble_eq_true rfl, Nat.le_of_ble_eq_true rfl⟩) ⟨pu_bl, va_recv hK hP (ci := 9) (q0 := 0) rfl rfl, pu_in hP hK hD⟩ rfl rfl hl.1 rfl (lv_room (Nat.le_of_ble_eq_true rfl)) dX9_from_136 ⟨Nat.le_of_ble_eq_true rfl, Nat.le_of_ble_eq_true rfl⟩) hS (fun q _ h => pu_fr hS hA q h) (pu_fr hS hA) (fun r_31 u t H1 locs ht hvm hw hB hz1 hk1 hS => ?_)
            have hP := pu_keep hP hk1
            clear hk1 hz1 ht hvm
            generalize H1 = H at hP hS ⊢
            obtain ⟨u_32, hu_32, rfl⟩ := hw
            refine lv_if_eq (tgt := 146) hx hb dX9_from_139 (by decide) (fun c_33 => ?_) (fun c_33 => ?_)
            · have c_33 : u_32 = 0 := (nI_eq (a := u_32) (b := 0) (Nat.lt_of_le_of_lt hu_32 (Nat.le_of_ble_eq_true rfl)) (Nat.le_of_ble_eq_true rfl)).mp c_33
              refine lv_iconst (v := 0) hx hb dX9_from_146 (by decide) ?_
              exact W.iret (v := 0) hx hb hr (fun t ht hW => ⟨⟨0, (), rfl, trivial, ⟨z34_20, z35_21, z38_22, z39_23, z40_24, z41_25, z43_26, z44_27, z47_28, z48_29, z42_1_30, 0, (u_15 + 1), ⟨by rw [ht]; exact hP, va_K.moved hW.alike hK, hD⟩, (Nat.le_trans hz42_1_30 (Nat.le_of_ble_eq_true rfl)), (by omega), by first | assumption | exact gz_0⟩⟩, hS.F ht⟩) hS.2.2 dX9_from_147
            · have c_33 : ¬ u_32 = 0 := fun z => c_33 ((nI_eq (a := u_32) (b := 0) (Nat.lt_of_le_of_lt hu_32 (Nat.le_of_ble_eq_true rfl)) (Nat.le_of_ble_eq_true rfl)).mpr z)
              refine lv_iconst (v := 1) hx hb dX9_from_142 (by decide) ?_
              refine lv_goto (tgt := 147) hx hb dX9_from_143 (by decide) ?_
              exact W.iret (v := 1) hx hb hr (fun t ht hW => ⟨⟨1, (), rfl, trivial, ⟨z34_20, z35_21, z38_22, z39_23, z40_24, z41_25, z43_26, z44_27, z47_28, z48_29, z42_1_30, 0, (u_15 + 1), ⟨by rw [ht]; exact hP, va_K.moved hW.alike hK, hD⟩, (Nat.le_trans hz42_1_30 (Nat.le_of_ble_eq_true rfl)), (by omega), by first | assumption | exact gz_0⟩⟩, hS.F ht⟩) hS.2.2 dX9_from_147
          · have c_13 : ¬ u_12 < 3 := fun z => c_13 ((nI_ltI (a := u_12) (b := 3) (Nat.lt_of_le_of_lt hu_12 (Nat.le_of_ble_eq_true rfl)) (Nat.le_of_ble_eq_true rfl)).mpr z)
            refine lv_iload hx hb dX9_from_78 (lv_at hl 5 rfl) ?_
            refine lv_iconst (v := 0) hx hb dX9_from_80 (by decide) ?_
            refine lv_bipush (v := 60) hx hb dX9_from_81 (by decide) ?_
            refine va_calli (va_runS (As := [.int p3, .int 0, .int 60]) (rest := []) ⟨hx, hb, hml, hown, hts⟩ (c_X9_in l dC dI _ p3 0 60) (va_cwS 3 hts g_M_from_X9_in rfl rfl rfl (by decide +kernel) ⟨Nat.le_of_ble_eq_true rfl, Nat.le_of_ble_eq_true rfl⟩) ⟨pu_bl, pu_in (hP.sub [] rfl) (hK.sub [] rfl) (hD.sub [] (by decide) rfl)⟩ rfl rfl hl.1 rfl (lv_room (Nat.le_of_ble_eq_true rfl)) dX9_from_83 ⟨Nat.le_of_ble_eq_true rfl, Nat.le_of_ble_eq_true rfl⟩) hS (fun q _ h => pu_fr hS hA q h) (pu_fr hS hA) (fun r_34 u t H1 locs ht hvm hw hB hz1 hk1 hS => ?_)
            have hP := pu_keep hP hk1
            clear hk1 hz1 ht hvm
            generalize H1 = H at hP hS ⊢
            rcases hw with ⟨rfl, hi1, hi2⟩ | ⟨rfl, hi3⟩
            · obtain ⟨n_35, hn_35, rfl⟩ := pu_in0 (n := 60) (by omega) hi1 hi2
              refine lv_if_eq (tgt := 93) hx hb dX9_from_86 (by decide) (fun z => absurd z (by decide)) (fun _ => ?_)
              refine lv_iconst (v := 1) hx hb dX9_from_89 (by decide) ?_
              refine lv_goto (tgt := 94) hx hb dX9_from_90 (by decide) ?_
              refine lv_istore (lv' := [(6, .int 1), (0, .ref (ad 0)), (1, .int (nI n_2)), (2, .int p1), (3, .int p2), (4, .int (nI n_35)), (5, .int (nI n_4))]) hx hb dX9_from_94 hl (by decide) rfl (fun ls hl => ?_)
              refine lv_iload hx hb dX9_from_96 (lv_at hl 0 rfl) ?_
              refine lv_if_ne (tgt := 103) hx hb dX9_from_98 (by decide) (fun _ => ?_) (fun z => absurd z (by decide))
              refine lv_aload_n hx hb dX9_from_103 rfl (lv_at hl 1 rfl) ?_
              refine lv_aload_n hx hb dX9_from_104 rfl (lv_at hl 1 rfl) ?_
              refine va_calli (va_runV (As := []) (rest := [.ref (ad 0)]) ⟨hx, hb, hml, hown, hts⟩ (c_M_clocks l dC dI _ ad ck 0 x16 x18 x19 x20 x21 x22 x23 x24 x25 x26 x27 x28 x29 x30 x33 x45 x46 x52 x53 x61 x62 x63 x65 x66 f1 f2 f3 q4 q5 q6 q7 f8 q9 q10 f11 m12_0 m12_1 m13_0 m13_1 m14_0 m14_1 m15_0 m15_1 f17 q31 f32 f34 f35 f36 f37 q38 f39 f40 f41 m42_0 m42_1 f43 f44 f47 f48 f49 f50 f51 q54 q55 q56 f57 q58 f59 f60 f64 hx16 hx18 hx19 hx21 hx22 hx26 hx28 hx29 hx30 hx33 hx46 hx52 hx53 hx61 hx62 hx63 hx65 hm12_0 hm12_1 hm13_0 hm13_1 hm14_0 hm14_1 hm15_0 hm15_1 hm42_0 hm42_1) (cwV 0 hts g_M_from_M_clocks rfl rfl rfl (by decide +kernel) ⟨Nat.le_of_ble_eq_true rfl, Nat.le_of_ble_eq_true rfl⟩) ⟨pu_bl, va_recv hK hP (ci := 9) (q0 := 0) rfl rfl, pu_in hP hK hD⟩ rfl rfl hl.1 rfl (lv_room (Nat.le_of_ble_eq_true rfl)) dX9_from_105 ⟨Nat.le_of_ble_eq_true rfl, Nat.le_of_ble_eq_true rfl⟩) hS (fun q _ h => pu_fr hS hA q h) (pu_fr hS hA) (fun r_36 u t H1 locs ht hvm hw hB hz1 hk1 hS => ?_)
              have hP := pu_keep hP hk1
              clear hk1 hz1 ht hvm
              generalize H1 = H at hP hS ⊢
              obtain ⟨u_37, hu_37, rfl⟩ := hw
              refine lv_iconst (v := 1) hx hb dX9_from_108 (by decide) ?_
              refine lv_iadd hx hb dX9_from_109 ?_
              refine lv_topi (fun y_38 ey_38 => ?_)
              obtain rfl : y_38 = (nI (u_37 + 1)) := ey_38.trans (nI_add u_37 1)
              refine va_put (D := (dC, dI)) (ci := 9) (v := .int (nI (u_37 + 1))) (ty := .int) (C := RX9) (T := TX9) (N := 67) hx hb hts hiX9 tyX9 tyX9_ok nmX9 hown hK hP hD hS 0 rfl rfl 46 (by decide) v_11 (fun _ h9 => h9) rfl (by decide +kernel) rfl rfl (Nat.le_of_ble_eq_true rfl) dX9_from_110 (fun H locs hP hD hS => ?_)
              have hP : va_P (dC, dI) vwCl (mo_w ad ck 0 (nI x16) (nI x18) (nI x19) x20 (nI x21) (nI x22) x23 x24 x25 (nI x26) x27 (nI x28) (nI x29) (nI x30) (nI x33) x45 (nI (u_37 + 1)) (nI x52) (nI x53) (nI x61) (nI x62) (nI x63) (nI x65) x66 f1 f2 f3 (bN 3 q4) (bN 7 q5) (bN 7 q6) (bN 4 q7) f8 (bN 2 q9) (bH q10) f11 (b2 m12_0 m12_1) (b2 m13_0 m13_1) (b2 m14_0 m14_1) (b2m m15_0 m15_1) f17 (bA 159 q31) f32 f34 f35 f36 f37 (bN 7 q38) f39 f40 f41 (b2 m42_0 m42_1) f43 f44 f47 f48 f49 f50 f51 (bN 13 q54) (bN 120 q55) (bN 120 q56) f57 (bN 120 q58) f59 f60 f64) H := hP
              have hD : va_D A (mo_w ad ck 0 (nI x16) (nI x18) (nI x19) x20 (nI x21) (nI x22) x23 x24 x25 (nI x26) x27 (nI x28) (nI x29) (nI x30) (nI x33) x45 (nI (u_37 + 1)) (nI x52) (nI x53) (nI x61) (nI x62) (nI x63) (nI x65) x66 f1 f2 f3 (bN 3 q4) (bN 7 q5) (bN 7 q6) (bN 4 q7) f8 (bN 2 q9) (bH q10) f11 (b2 m12_0 m12_1) (b2 m13_0 m13_1) (b2 m14_0 m14_1) (b2m m15_0 m15_1) f17 (bA 159 q31) f32 f34 f35 f36 f37 (bN 7 q38) f39 f40 f41 (b2 m42_0 m42_1) f43 f44 f47 f48 f49 f50 f51 (bN 13 q54) (bN 120 q55) (bN 120 q56) f57 (bN 120 q58) f59 f60 f64) := hD
              refine lv_aload_n hx hb dX9_from_113 rfl (lv_at hl 1 rfl) ?_
              refine lv_iload_n hx hb dX9_from_114 rfl (lv_at hl 3 rfl) ?_
              refine lv_iload_n hx hb dX9_from_115 rfl (lv_at hl 4 rfl) ?_
              refine lv_iload hx hb dX9_from_116 (lv_at hl 5 rfl) ?_
              have hFc := pu_free hD hS hA
              refine va_callv (va_runV (As := [.int p1, .int p2, .int (nI n_35)]) (rest := []) ⟨hx, hb, hml, hown, hts⟩ (c_M_layPoint l dC dI _ ad ck 0 x16 x18 x19 x20 x21 x22 x23 x24 x25 x26 x27 x28 x29 x30 x33 x45 (u_37 + 1) x52 x53 x61 x62 x63 x65 x66 f1 f2 f3 q4 q5 q6 q7 f8 q9 q10 f11 m12_0 m12_1 m13_0 m13_1 m14_0 m14_1 m15_0 m15_1 f17 q31 f32 f34 f35 f36 f37 q38 f39 f40 f41 m42_0 m42_1 f43 f44 f47 f48 f49 f50 f51 q54 q55 q56 f57 q58 f59 f60 f64 p1 p2 (nI n_35) hx16 hx18 hx19 hx21 hx22 hx26 hx28 hx29 hx30 hx33 (by omega) hx52 hx53 hx61 hx62 hx63 hx65 hm12_0 hm12_1 hm13_0 hm13_1 hm14_0 hm14_1 hm15_0 hm15_1 hm42_0 hm42_1) (cwV 3 hts g_M_from_M_layPoint rfl rfl rfl (by decide +kernel) ⟨Nat.le_of_ble_eq_true rfl, Nat.le_of_ble_eq_true rfl⟩) ⟨pu_bl, va_recv hK hP (ci := 9) (q0 := 0) rfl rfl, pu_in hP hK hD⟩ rfl rfl hl.1 rfl (lv_room (Nat.le_of_ble_eq_true rfl)) dX9_from_118 ⟨Nat.le_of_ble_eq_true rfl, Nat.le_of_ble_eq_true rfl⟩) hS (fun q _ h => hFc q h) hFc (fun u t H1 locs ht hvm hw hB hz1 hk1 hS => ?_)
              obtain ⟨z35_40, ⟨hP1, -, hD1⟩⟩ := hB
              rw [ht] at hP1
              have hP := hP1
              have hD := pu_all hFc hD1
              clear hP1 hD1 hFc
              clear hk1 hz1 ht hvm
              generalize H1 = H at hP hS ⊢
              refine lv_aload_n hx hb dX9_from_121 rfl (lv_at hl 1 rfl) ?_
              refine lv_iconst (v := 1) hx hb dX9_from_122 (by decide) ?_
              refine lv_iload_n hx hb dX9_from_123 rfl (lv_at hl 2 rfl) ?_
              refine lv_iconst (v := 2) hx hb dX9_from_124 (by decide) ?_
              refine lv_iconst (v := 1) hx hb dX9_from_125 (by decide) ?_
              refine lv_bipush (v := 120) hx hb dX9_from_126 (by decide) ?_
              refine lv_iconst (v := (-1)) hx hb dX9_from_128 (by decide) ?_
              have hFc := pu_free hD hS hA
              refine va_callv (va_runV (As := [.int 1, .int (nI n_2), .int 2, .int 1, .int 120, .int (-1)]) (rest := []) ⟨hx, hb, hml, hown, hts⟩ (c_M_explores_1_120 l dC dI _ ad ck 0 x16 x18 x19 x20 x21 x22 x23 x24 x25 x26 x27 x28 x29 x30 x33 x45 (u_37 + 1) x52 x53 x61 x62 x63 x65 x66 f1 f2 f3 q4 q5 q6 q7 f8 q9 q10 f11 m12_0 m12_1 m13_0 m13_1 m14_0 m14_1 m15_0 m15_1 f17 q31 f32 f34 z35_40 f36 f37 q38 f39 f40 f41 m42_0 m42_1 f43 f44 f47 f48 f49 f50 f51 q54 q55 q56 f57 q58 f59 f60 f64 n_2 2 1 (-1) hx16 hx18 hx19 hx21 hx22 hx26 hx28 hx29 hx30 hx33 (by omega) hx52 hx53 hx61 hx62 hx63 hx65 hm12_0 hm12_1 hm13_0 hm13_1 hm14_0 hm14_1 hm15_0 hm15_1 hm42_0 hm42_1 (by omega) (Nat.le_of_ble_eq_true rfl) (by first | assumption | exact gz_0)) (cwV 6 hts g_M_from_M_explores_1_120 rfl rfl rfl (by decide +kernel) ⟨Nat.le_of_ble_eq_true rfl, Nat.le_of_ble_eq_true rfl⟩) ⟨pu_bl, va_recv hK hP (ci := 9) (q0 := 0) rfl rfl, pu_in hP hK hD⟩ rfl rfl hl.1 rfl (lv_room (Nat.le_of_ble_eq_true rfl)) dX9_from_129 ⟨Nat.le_of_ble_eq_true rfl, Nat.le_of_ble_eq_true rfl⟩) hS (fun q _ h => hFc q h) hFc (fun u t H1 locs ht hvm hw hB hz1 hk1 hS => ?_)
              obtain ⟨z34_42, z35_43, z38_44, z39_45, z40_46, z41_47, z43_48, z44_49, z47_50, z48_51, z42_1_52, ⟨hP1, -, hD1⟩, hz42_1_52, xr_41_0⟩ := hB
              rw [ht] at hP1
              have hP := hP1
              have hD := pu_all hFc hD1
              clear hP1 hD1 hFc
              clear hk1 hz1 ht hvm
              generalize H1 = H at hP hS ⊢
              refine lv_aload_n hx hb dX9_from_132 rfl (lv_at hl 1 rfl) ?_
              refine lv_iconst (v := 1) hx hb dX9_from_133 (by decide) ?_
              refine lv_iload hx hb dX9_from_134 (lv_at hl 6 rfl) ?_
              refine va_calli (va_runV (As := [.int 1, .int (nI n_4)]) (rest := []) ⟨hx, hb, hml, hown, hts⟩ (c_M_hasPlace_1 l dC dI _ ad ck 0 x16 x18 x19 x20 x21 x22 x23 x24 x25 x26 x27 x28 x29 x30 x33 x45 (u_37 + 1) x52 x53 x61 x62 x63 x65 x66 f1 f2 f3 q4 q5 q6 q7 f8 q9 q10 f11 m12_0 m12_1 m13_0 m13_1 m14_0 m14_1 m15_0 m15_1 f17 q31 f32 z34_42 z35_43 f36 f37 z38_44 z39_45 z40_46 z41_47 m42_0 z42_1_52 z43_48 z44_49 z47_50 z48_51 f49 f50 f51 q54 q55 q56 f57 q58 f59 f60 f64 (nI n_4) hx16 hx18 hx19 hx21 hx22 hx26 hx28 hx29 hx30 hx33 (by omega) hx52 hx53 hx61 hx62 hx63 hx65 hm12_0 hm12_1 hm13_0 hm13_1 hm14_0 hm14_1 hm15_0 hm15_1 hm42_0 (Nat.le_trans hz42_1_52 (Nat.le_of_ble_eq_true rfl))) (cwV 2 hts g_M_from_M_hasPlace_1 rfl rfl rfl (by decide +kernel) ⟨Nat.le_of_ble_eq_true rfl, Nat.le_of_ble_eq_true rfl⟩) ⟨pu_bl, va_recv hK hP (ci := 9) (q0 := 0) rfl rfl, pu_in hP hK hD⟩ rfl rfl hl.1 rfl (lv_room (Nat.le_of_ble_eq_true rfl)) dX9_from_136 ⟨Nat.le_of_ble_eq_true rfl, Nat.le_of_ble_eq_true rfl⟩) hS (fun q _ h => pu_fr hS hA q h) (pu_fr hS hA) (fun r_53 u t H1 locs ht hvm hw hB hz1 hk1 hS => ?_)
              have hP := pu_keep hP hk1
              clear hk1 hz1 ht hvm
              generalize H1 = H at hP hS ⊢
              obtain ⟨u_54, hu_54, rfl⟩ := hw
              refine lv_if_eq (tgt := 146) hx hb dX9_from_139 (by decide) (fun c_55 => ?_) (fun c_55 => ?_)
              · have c_55 : u_54 = 0 := (nI_eq (a := u_54) (b := 0) (Nat.lt_of_le_of_lt hu_54 (Nat.le_of_ble_eq_true rfl)) (Nat.le_of_ble_eq_true rfl)).mp c_55
                refine lv_iconst (v := 0) hx hb dX9_from_146 (by decide) ?_
                exact W.iret (v := 0) hx hb hr (fun t ht hW => ⟨⟨0, (), rfl, trivial, ⟨z34_42, z35_43, z38_44, z39_45, z40_46, z41_47, z43_48, z44_49, z47_50, z48_51, z42_1_52, 0, (u_37 + 1), ⟨by rw [ht]; exact hP, va_K.moved hW.alike hK, hD⟩, (Nat.le_trans hz42_1_52 (Nat.le_of_ble_eq_true rfl)), (by omega), by first | assumption | exact gz_0⟩⟩, hS.F ht⟩) hS.2.2 dX9_from_147
              · have c_55 : ¬ u_54 = 0 := fun z => c_55 ((nI_eq (a := u_54) (b := 0) (Nat.lt_of_le_of_lt hu_54 (Nat.le_of_ble_eq_true rfl)) (Nat.le_of_ble_eq_true rfl)).mpr z)
                refine lv_iconst (v := 1) hx hb dX9_from_142 (by decide) ?_
                refine lv_goto (tgt := 147) hx hb dX9_from_143 (by decide) ?_
                exact W.iret (v := 1) hx hb hr (fun t ht hW => ⟨⟨1, (), rfl, trivial, ⟨z34_42, z35_43, z38_44, z39_45, z40_46, z41_47, z43_48, z44_49, z47_50, z48_51, z42_1_52, 0, (u_37 + 1), ⟨by rw [ht]; exact hP, va_K.moved hW.alike hK, hD⟩, (Nat.le_trans hz42_1_52 (Nat.le_of_ble_eq_true rfl)), (by omega), by first | assumption | exact gz_0⟩⟩, hS.F ht⟩) hS.2.2 dX9_from_147
            · refine lv_if_eq (tgt := 93) hx hb dX9_from_86 (by decide) (fun _ => ?_) (fun z => absurd z (by decide))
              refine lv_iconst (v := 0) hx hb dX9_from_93 (by decide) ?_
              refine lv_istore (lv' := [(6, .int 0), (0, .ref (ad 0)), (1, .int (nI n_2)), (2, .int p1), (3, .int p2), (4, .int p3), (5, .int (nI n_4))]) hx hb dX9_from_94 hl (by decide) rfl (fun ls hl => ?_)
              refine lv_iload hx hb dX9_from_96 (lv_at hl 0 rfl) ?_
              refine lv_if_ne (tgt := 103) hx hb dX9_from_98 (by decide) (fun z => absurd z (by decide)) (fun _ => ?_)
              refine lv_iconst (v := (-1)) hx hb dX9_from_101 (by decide) ?_
              exact W.iret (v := (-1)) hx hb hr (fun t ht hW => ⟨⟨(-1), (), rfl, trivial, ⟨f34, f35, q38, f39, f40, f41, f43, f44, f47, f48, m42_1, 0, x46, ⟨by rw [ht]; exact hP, va_K.moved hW.alike hK, hD⟩, hm42_1, hx46, by first | assumption | exact gz_0⟩⟩, hS.F ht⟩) hS.2.2 dX9_from_102
        · have c_10 : ¬ u_9 < 2 := fun z => c_10 ((nI_ltI (a := u_9) (b := 2) (Nat.lt_of_le_of_lt hu_9 (Nat.le_of_ble_eq_true rfl)) (Nat.le_of_ble_eq_true rfl)).mpr z)
          refine lv_iload_n hx hb dX9_from_60 rfl (lv_at hl 4 rfl) ?_
          refine lv_iconst (v := 0) hx hb dX9_from_61 (by decide) ?_
          refine lv_bipush (v := 60) hx hb dX9_from_62 (by decide) ?_
          refine va_calli (va_runS (As := [.int p2, .int 0, .int 60]) (rest := []) ⟨hx, hb, hml, hown, hts⟩ (c_X9_in l dC dI _ p2 0 60) (va_cwS 3 hts g_M_from_X9_in rfl rfl rfl (by decide +kernel) ⟨Nat.le_of_ble_eq_true rfl, Nat.le_of_ble_eq_true rfl⟩) ⟨pu_bl, pu_in (hP.sub [] rfl) (hK.sub [] rfl) (hD.sub [] (by decide) rfl)⟩ rfl rfl hl.1 rfl (lv_room (Nat.le_of_ble_eq_true rfl)) dX9_from_64 ⟨Nat.le_of_ble_eq_true rfl, Nat.le_of_ble_eq_true rfl⟩) hS (fun q _ h => pu_fr hS hA q h) (pu_fr hS hA) (fun r_56 u t H1 locs ht hvm hw hB hz1 hk1 hS => ?_)
          have hP := pu_keep hP hk1
          clear hk1 hz1 ht hvm
          generalize H1 = H at hP hS ⊢
          rcases hw with ⟨rfl, hi1, hi2⟩ | ⟨rfl, hi3⟩
          · obtain ⟨n_57, hn_57, rfl⟩ := pu_in0 (n := 60) (by omega) hi1 hi2
            refine lv_if_eq (tgt := 93) hx hb dX9_from_67 (by decide) (fun z => absurd z (by decide)) (fun _ => ?_)
            refine lv_aload_n hx hb dX9_from_70 rfl (lv_at hl 1 rfl) ?_
            refine va_calli (va_runV (As := []) (rest := []) ⟨hx, hb, hml, hown, hts⟩ (c_M_clocks l dC dI _ ad ck 0 x16 x18 x19 x20 x21 x22 x23 x24 x25 x26 x27 x28 x29 x30 x33 x45 x46 x52 x53 x61 x62 x63 x65 x66 f1 f2 f3 q4 q5 q6 q7 f8 q9 q10 f11 m12_0 m12_1 m13_0 m13_1 m14_0 m14_1 m15_0 m15_1 f17 q31 f32 f34 f35 f36 f37 q38 f39 f40 f41 m42_0 m42_1 f43 f44 f47 f48 f49 f50 f51 q54 q55 q56 f57 q58 f59 f60 f64 hx16 hx18 hx19 hx21 hx22 hx26 hx28 hx29 hx30 hx33 hx46 hx52 hx53 hx61 hx62 hx63 hx65 hm12_0 hm12_1 hm13_0 hm13_1 hm14_0 hm14_1 hm15_0 hm15_1 hm42_0 hm42_1) (cwV 0 hts g_M_from_M_clocks rfl rfl rfl (by decide +kernel) ⟨Nat.le_of_ble_eq_true rfl, Nat.le_of_ble_eq_true rfl⟩) ⟨pu_bl, va_recv hK hP (ci := 9) (q0 := 0) rfl rfl, pu_in hP hK hD⟩ rfl rfl hl.1 rfl (lv_room (Nat.le_of_ble_eq_true rfl)) dX9_from_71 ⟨Nat.le_of_ble_eq_true rfl, Nat.le_of_ble_eq_true rfl⟩) hS (fun q _ h => pu_fr hS hA q h) (pu_fr hS hA) (fun r_58 u t H1 locs ht hvm hw hB hz1 hk1 hS => ?_)
            have hP := pu_keep hP hk1
            clear hk1 hz1 ht hvm
            generalize H1 = H at hP hS ⊢
            obtain ⟨u_59, hu_59, rfl⟩ := hw
            refine lv_iconst (v := 3) hx hb dX9_from_74 (by decide) ?_
            refine lv_icmp_lt (tgt := 89) hx hb dX9_from_75 (by decide) (fun c_60 => ?_) (fun c_60 => ?_)
            · have c_60 : u_59 < 3 := (nI_ltI (a := u_59) (b := 3) (Nat.lt_of_le_of_lt hu_59 (Nat.le_of_ble_eq_true rfl)) (Nat.le_of_ble_eq_true rfl)).mp c_60
              refine lv_iconst (v := 1) hx hb dX9_from_89 (by decide) ?_
              refine lv_goto (tgt := 94) hx hb dX9_from_90 (by decide) ?_
              refine lv_istore (lv' := [(6, .int 1), (0, .ref (ad 0)), (1, .int (nI n_2)), (2, .int p1), (3, .int (nI n_57)), (4, .int p3), (5, .int (nI n_4))]) hx hb dX9_from_94 hl (by decide) rfl (fun ls hl => ?_)
              refine lv_iload hx hb dX9_from_96 (lv_at hl 0 rfl) ?_
              refine lv_if_ne (tgt := 103) hx hb dX9_from_98 (by decide) (fun _ => ?_) (fun z => absurd z (by decide))
              refine lv_aload_n hx hb dX9_from_103 rfl (lv_at hl 1 rfl) ?_
              refine lv_aload_n hx hb dX9_from_104 rfl (lv_at hl 1 rfl) ?_
              refine va_calli (va_runV (As := []) (rest := [.ref (ad 0)]) ⟨hx, hb, hml, hown, hts⟩ (c_M_clocks l dC dI _ ad ck 0 x16 x18 x19 x20 x21 x22 x23 x24 x25 x26 x27 x28 x29 x30 x33 x45 x46 x52 x53 x61 x62 x63 x65 x66 f1 f2 f3 q4 q5 q6 q7 f8 q9 q10 f11 m12_0 m12_1 m13_0 m13_1 m14_0 m14_1 m15_0 m15_1 f17 q31 f32 f34 f35 f36 f37 q38 f39 f40 f41 m42_0 m42_1 f43 f44 f47 f48 f49 f50 f51 q54 q55 q56 f57 q58 f59 f60 f64 hx16 hx18 hx19 hx21 hx22 hx26 hx28 hx29 hx30 hx33 hx46 hx52 hx53 hx61 hx62 hx63 hx65 hm12_0 hm12_1 hm13_0 hm13_1 hm14_0 hm14_1 hm15_0 hm15_1 hm42_0 hm42_1) (cwV 0 hts g_M_from_M_clocks rfl rfl rfl (by decide +kernel) ⟨Nat.le_of_ble_eq_true rfl, Nat.le_of_ble_eq_true rfl⟩) ⟨pu_bl, va_recv hK hP (ci := 9) (q0 := 0) rfl rfl, pu_in hP hK hD⟩ rfl rfl hl.1 rfl (lv_room (Nat.le_of_ble_eq_true rfl)) dX9_from_105 ⟨Nat.le_of_ble_eq_true rfl, Nat.le_of_ble_eq_true rfl⟩) hS (fun q _ h => pu_fr hS hA q h) (pu_fr hS hA) (fun r_61 u t H1 locs ht hvm hw hB hz1 hk1 hS => ?_)
              have hP := pu_keep hP hk1
              clear hk1 hz1 ht hvm
              generalize H1 = H at hP hS ⊢
              obtain ⟨u_62, hu_62, rfl⟩ := hw
              refine lv_iconst (v := 1) hx hb dX9_from_108 (by decide) ?_
              refine lv_iadd hx hb dX9_from_109 ?_
              refine lv_topi (fun y_63 ey_63 => ?_)
              obtain rfl : y_63 = (nI (u_62 + 1)) := ey_63.trans (nI_add u_62 1)
              refine va_put (D := (dC, dI)) (ci := 9) (v := .int (nI (u_62 + 1))) (ty := .int) (C := RX9) (T := TX9) (N := 67) hx hb hts hiX9 tyX9 tyX9_ok nmX9 hown hK hP hD hS 0 rfl rfl 46 (by decide) v_11 (fun _ h9 => h9) rfl (by decide +kernel) rfl rfl (Nat.le_of_ble_eq_true rfl) dX9_from_110 (fun H locs hP hD hS => ?_)
              have hP : va_P (dC, dI) vwCl (mo_w ad ck 0 (nI x16) (nI x18) (nI x19) x20 (nI x21) (nI x22) x23 x24 x25 (nI x26) x27 (nI x28) (nI x29) (nI x30) (nI x33) x45 (nI (u_62 + 1)) (nI x52) (nI x53) (nI x61) (nI x62) (nI x63) (nI x65) x66 f1 f2 f3 (bN 3 q4) (bN 7 q5) (bN 7 q6) (bN 4 q7) f8 (bN 2 q9) (bH q10) f11 (b2 m12_0 m12_1) (b2 m13_0 m13_1) (b2 m14_0 m14_1) (b2m m15_0 m15_1) f17 (bA 159 q31) f32 f34 f35 f36 f37 (bN 7 q38) f39 f40 f41 (b2 m42_0 m42_1) f43 f44 f47 f48 f49 f50 f51 (bN 13 q54) (bN 120 q55) (bN 120 q56) f57 (bN 120 q58) f59 f60 f64) H := hP
              have hD : va_D A (mo_w ad ck 0 (nI x16) (nI x18) (nI x19) x20 (nI x21) (nI x22) x23 x24 x25 (nI x26) x27 (nI x28) (nI x29) (nI x30) (nI x33) x45 (nI (u_62 + 1)) (nI x52) (nI x53) (nI x61) (nI x62) (nI x63) (nI x65) x66 f1 f2 f3 (bN 3 q4) (bN 7 q5) (bN 7 q6) (bN 4 q7) f8 (bN 2 q9) (bH q10) f11 (b2 m12_0 m12_1) (b2 m13_0 m13_1) (b2 m14_0 m14_1) (b2m m15_0 m15_1) f17 (bA 159 q31) f32 f34 f35 f36 f37 (bN 7 q38) f39 f40 f41 (b2 m42_0 m42_1) f43 f44 f47 f48 f49 f50 f51 (bN 13 q54) (bN 120 q55) (bN 120 q56) f57 (bN 120 q58) f59 f60 f64) := hD
              refine lv_aload_n hx hb dX9_from_113 rfl (lv_at hl 1 rfl) ?_
              refine lv_iload_n hx hb dX9_from_114 rfl (lv_at hl 3 rfl) ?_
              refine lv_iload_n hx hb dX9_from_115 rfl (lv_at hl 4 rfl) ?_
              refine lv_iload hx hb dX9_from_116 (lv_at hl 5 rfl) ?_
              have hFc := pu_free hD hS hA
              refine va_callv (va_runV (As := [.int p1, .int (nI n_57), .int p3]) (rest := []) ⟨hx, hb, hml, hown, hts⟩ (c_M_layPoint l dC dI _ ad ck 0 x16 x18 x19 x20 x21 x22 x23 x24 x25 x26 x27 x28 x29 x30 x33 x45 (u_62 + 1) x52 x53 x61 x62 x63 x65 x66 f1 f2 f3 q4 q5 q6 q7 f8 q9 q10 f11 m12_0 m12_1 m13_0 m13_1 m14_0 m14_1 m15_0 m15_1 f17 q31 f32 f34 f35 f36 f37 q38 f39 f40 f41 m42_0 m42_1 f43 f44 f47 f48 f49 f50 f51 q54 q55 q56 f57 q58 f59 f60 f64 p1 (nI n_57) p3 hx16 hx18 hx19 hx21 hx22 hx26 hx28 hx29 hx30 hx33 (by omega) hx52 hx53 hx61 hx62 hx63 hx65 hm12_0 hm12_1 hm13_0 hm13_1 hm14_0 hm14_1 hm15_0 hm15_1 hm42_0 hm42_1) (cwV 3 hts g_M_from_M_layPoint rfl rfl rfl (by decide +kernel) ⟨Nat.le_of_ble_eq_true rfl, Nat.le_of_ble_eq_true rfl⟩) ⟨pu_bl, va_recv hK hP (ci := 9) (q0 := 0) rfl rfl, pu_in hP hK hD⟩ rfl rfl hl.1 rfl (lv_room (Nat.le_of_ble_eq_true rfl)) dX9_from_118 ⟨Nat.le_of_ble_eq_true rfl, Nat.le_of_ble_eq_true rfl⟩) hS (fun q _ h => hFc q h) hFc (fun u t H1 locs ht hvm hw hB hz1 hk1 hS => ?_)
              obtain ⟨z35_65, ⟨hP1, -, hD1⟩⟩ := hB
              rw [ht] at hP1
              have hP := hP1
              have hD := pu_all hFc hD1
              clear hP1 hD1 hFc
              clear hk1 hz1 ht hvm
              generalize H1 = H at hP hS ⊢
              refine lv_aload_n hx hb dX9_from_121 rfl (lv_at hl 1 rfl) ?_
              refine lv_iconst (v := 1) hx hb dX9_from_122 (by decide) ?_
              refine lv_iload_n hx hb dX9_from_123 rfl (lv_at hl 2 rfl) ?_
              refine lv_iconst (v := 2) hx hb dX9_from_124 (by decide) ?_
              refine lv_iconst (v := 1) hx hb dX9_from_125 (by decide) ?_
              refine lv_bipush (v := 120) hx hb dX9_from_126 (by decide) ?_
              refine lv_iconst (v := (-1)) hx hb dX9_from_128 (by decide) ?_
              have hFc := pu_free hD hS hA
              refine va_callv (va_runV (As := [.int 1, .int (nI n_2), .int 2, .int 1, .int 120, .int (-1)]) (rest := []) ⟨hx, hb, hml, hown, hts⟩ (c_M_explores_1_120 l dC dI _ ad ck 0 x16 x18 x19 x20 x21 x22 x23 x24 x25 x26 x27 x28 x29 x30 x33 x45 (u_62 + 1) x52 x53 x61 x62 x63 x65 x66 f1 f2 f3 q4 q5 q6 q7 f8 q9 q10 f11 m12_0 m12_1 m13_0 m13_1 m14_0 m14_1 m15_0 m15_1 f17 q31 f32 f34 z35_65 f36 f37 q38 f39 f40 f41 m42_0 m42_1 f43 f44 f47 f48 f49 f50 f51 q54 q55 q56 f57 q58 f59 f60 f64 n_2 2 1 (-1) hx16 hx18 hx19 hx21 hx22 hx26 hx28 hx29 hx30 hx33 (by omega) hx52 hx53 hx61 hx62 hx63 hx65 hm12_0 hm12_1 hm13_0 hm13_1 hm14_0 hm14_1 hm15_0 hm15_1 hm42_0 hm42_1 (by omega) (Nat.le_of_ble_eq_true rfl) (by first | assumption | exact gz_0)) (cwV 6 hts g_M_from_M_explores_1_120 rfl rfl rfl (by decide +kernel) ⟨Nat.le_of_ble_eq_true rfl, Nat.le_of_ble_eq_true rfl⟩) ⟨pu_bl, va_recv hK hP (ci := 9) (q0 := 0) rfl rfl, pu_in hP hK hD⟩ rfl rfl hl.1 rfl (lv_room (Nat.le_of_ble_eq_true rfl)) dX9_from_129 ⟨Nat.le_of_ble_eq_true rfl, Nat.le_of_ble_eq_true rfl⟩) hS (fun q _ h => hFc q h) hFc (fun u t H1 locs ht hvm hw hB hz1 hk1 hS => ?_)
              obtain ⟨z34_67, z35_68, z38_69, z39_70, z40_71, z41_72, z43_73, z44_74, z47_75, z48_76, z42_1_77, ⟨hP1, -, hD1⟩, hz42_1_77, xr_66_0⟩ := hB
              rw [ht] at hP1
              have hP := hP1
              have hD := pu_all hFc hD1
              clear hP1 hD1 hFc
              clear hk1 hz1 ht hvm
              generalize H1 = H at hP hS ⊢
              refine lv_aload_n hx hb dX9_from_132 rfl (lv_at hl 1 rfl) ?_
              refine lv_iconst (v := 1) hx hb dX9_from_133 (by decide) ?_
              refine lv_iload hx hb dX9_from_134 (lv_at hl 6 rfl) ?_
              refine va_calli (va_runV (As := [.int 1, .int (nI n_4)]) (rest := []) ⟨hx, hb, hml, hown, hts⟩ (c_M_hasPlace_1 l dC dI _ ad ck 0 x16 x18 x19 x20 x21 x22 x23 x24 x25 x26 x27 x28 x29 x30 x33 x45 (u_62 + 1) x52 x53 x61 x62 x63 x65 x66 f1 f2 f3 q4 q5 q6 q7 f8 q9 q10 f11 m12_0 m12_1 m13_0 m13_1 m14_0 m14_1 m15_0 m15_1 f17 q31 f32 z34_67 z35_68 f36 f37 z38_69 z39_70 z40_71 z41_72 m42_0 z42_1_77 z43_73 z44_74 z47_75 z48_76 f49 f50 f51 q54 q55 q56 f57 q58 f59 f60 f64 (nI n_4) hx16 hx18 hx19 hx21 hx22 hx26 hx28 hx29 hx30 hx33 (by omega) hx52 hx53 hx61 hx62 hx63 hx65 hm12_0 hm12_1 hm13_0 hm13_1 hm14_0 hm14_1 hm15_0 hm15_1 hm42_0 (Nat.le_trans hz42_1_77 (Nat.le_of_ble_eq_true rfl))) (cwV 2 hts g_M_from_M_hasPlace_1 rfl rfl rfl (by decide +kernel) ⟨Nat.le_of_ble_eq_true rfl, Nat.le_of_ble_eq_true rfl⟩) ⟨pu_bl, va_recv hK hP (ci := 9) (q0 := 0) rfl rfl, pu_in hP hK hD⟩ rfl rfl hl.1 rfl (lv_room (Nat.le_of_ble_eq_true rfl)) dX9_from_136 ⟨Nat.le_of_ble_eq_true rfl, Nat.le_of_ble_eq_true rfl⟩) hS (fun q _ h => pu_fr hS hA q h) (pu_fr hS hA) (fun r_78 u t H1 locs ht hvm hw hB hz1 hk1 hS => ?_)
              have hP := pu_keep hP hk1
              clear hk1 hz1 ht hvm
              generalize H1 = H at hP hS ⊢
              obtain ⟨u_79, hu_79, rfl⟩ := hw
              refine lv_if_eq (tgt := 146) hx hb dX9_from_139 (by decide) (fun c_80 => ?_) (fun c_80 => ?_)
              · have c_80 : u_79 = 0 := (nI_eq (a := u_79) (b := 0) (Nat.lt_of_le_of_lt hu_79 (Nat.le_of_ble_eq_true rfl)) (Nat.le_of_ble_eq_true rfl)).mp c_80
                refine lv_iconst (v := 0) hx hb dX9_from_146 (by decide) ?_
                exact W.iret (v := 0) hx hb hr (fun t ht hW => ⟨⟨0, (), rfl, trivial, ⟨z34_67, z35_68, z38_69, z39_70, z40_71, z41_72, z43_73, z44_74, z47_75, z48_76, z42_1_77, 0, (u_62 + 1), ⟨by rw [ht]; exact hP, va_K.moved hW.alike hK, hD⟩, (Nat.le_trans hz42_1_77 (Nat.le_of_ble_eq_true rfl)), (by omega), by first | assumption | exact gz_0⟩⟩, hS.F ht⟩) hS.2.2 dX9_from_147
              · have c_80 : ¬ u_79 = 0 := fun z => c_80 ((nI_eq (a := u_79) (b := 0) (Nat.lt_of_le_of_lt hu_79 (Nat.le_of_ble_eq_true rfl)) (Nat.le_of_ble_eq_true rfl)).mpr z)
                refine lv_iconst (v := 1) hx hb dX9_from_142 (by decide) ?_
                refine lv_goto (tgt := 147) hx hb dX9_from_143 (by decide) ?_
                exact W.iret (v := 1) hx hb hr (fun t ht hW => ⟨⟨1, (), rfl, trivial, ⟨z34_67, z35_68, z38_69, z39_70, z40_71, z41_72, z43_73, z44_74, z47_75, z48_76, z42_1_77, 0, (u_62 + 1), ⟨by rw [ht]; exact hP, va_K.moved hW.alike hK, hD⟩, (Nat.le_trans hz42_1_77 (Nat.le_of_ble_eq_true rfl)), (by omega), by first | assumption | exact gz_0⟩⟩, hS.F ht⟩) hS.2.2 dX9_from_147
            · have c_60 : ¬ u_59 < 3 := fun z => c_60 ((nI_ltI (a := u_59) (b := 3) (Nat.lt_of_le_of_lt hu_59 (Nat.le_of_ble_eq_true rfl)) (Nat.le_of_ble_eq_true rfl)).mpr z)
              refine lv_iload hx hb dX9_from_78 (lv_at hl 5 rfl) ?_
              refine lv_iconst (v := 0) hx hb dX9_from_80 (by decide) ?_
              refine lv_bipush (v := 60) hx hb dX9_from_81 (by decide) ?_
              refine va_calli (va_runS (As := [.int p3, .int 0, .int 60]) (rest := []) ⟨hx, hb, hml, hown, hts⟩ (c_X9_in l dC dI _ p3 0 60) (va_cwS 3 hts g_M_from_X9_in rfl rfl rfl (by decide +kernel) ⟨Nat.le_of_ble_eq_true rfl, Nat.le_of_ble_eq_true rfl⟩) ⟨pu_bl, pu_in (hP.sub [] rfl) (hK.sub [] rfl) (hD.sub [] (by decide) rfl)⟩ rfl rfl hl.1 rfl (lv_room (Nat.le_of_ble_eq_true rfl)) dX9_from_83 ⟨Nat.le_of_ble_eq_true rfl, Nat.le_of_ble_eq_true rfl⟩) hS (fun q _ h => pu_fr hS hA q h) (pu_fr hS hA) (fun r_81 u t H1 locs ht hvm hw hB hz1 hk1 hS => ?_)
              have hP := pu_keep hP hk1
              clear hk1 hz1 ht hvm
              generalize H1 = H at hP hS ⊢
              rcases hw with ⟨rfl, hi1, hi2⟩ | ⟨rfl, hi3⟩
              · obtain ⟨n_82, hn_82, rfl⟩ := pu_in0 (n := 60) (by omega) hi1 hi2
                refine lv_if_eq (tgt := 93) hx hb dX9_from_86 (by decide) (fun z => absurd z (by decide)) (fun _ => ?_)
                refine lv_iconst (v := 1) hx hb dX9_from_89 (by decide) ?_
                refine lv_goto (tgt := 94) hx hb dX9_from_90 (by decide) ?_
                refine lv_istore (lv' := [(6, .int 1), (0, .ref (ad 0)), (1, .int (nI n_2)), (2, .int p1), (3, .int (nI n_57)), (4, .int (nI n_82)), (5, .int (nI n_4))]) hx hb dX9_from_94 hl (by decide) rfl (fun ls hl => ?_)
                refine lv_iload hx hb dX9_from_96 (lv_at hl 0 rfl) ?_
                refine lv_if_ne (tgt := 103) hx hb dX9_from_98 (by decide) (fun _ => ?_) (fun z => absurd z (by decide))
                refine lv_aload_n hx hb dX9_from_103 rfl (lv_at hl 1 rfl) ?_
                refine lv_aload_n hx hb dX9_from_104 rfl (lv_at hl 1 rfl) ?_
                refine va_calli (va_runV (As := []) (rest := [.ref (ad 0)]) ⟨hx, hb, hml, hown, hts⟩ (c_M_clocks l dC dI _ ad ck 0 x16 x18 x19 x20 x21 x22 x23 x24 x25 x26 x27 x28 x29 x30 x33 x45 x46 x52 x53 x61 x62 x63 x65 x66 f1 f2 f3 q4 q5 q6 q7 f8 q9 q10 f11 m12_0 m12_1 m13_0 m13_1 m14_0 m14_1 m15_0 m15_1 f17 q31 f32 f34 f35 f36 f37 q38 f39 f40 f41 m42_0 m42_1 f43 f44 f47 f48 f49 f50 f51 q54 q55 q56 f57 q58 f59 f60 f64 hx16 hx18 hx19 hx21 hx22 hx26 hx28 hx29 hx30 hx33 hx46 hx52 hx53 hx61 hx62 hx63 hx65 hm12_0 hm12_1 hm13_0 hm13_1 hm14_0 hm14_1 hm15_0 hm15_1 hm42_0 hm42_1) (cwV 0 hts g_M_from_M_clocks rfl rfl rfl (by decide +kernel) ⟨Nat.le_of_ble_eq_true rfl, Nat.le_of_ble_eq_true rfl⟩) ⟨pu_bl, va_recv hK hP (ci := 9) (q0 := 0) rfl rfl, pu_in hP hK hD⟩ rfl rfl hl.1 rfl (lv_room (Nat.le_of_ble_eq_true rfl)) dX9_from_105 ⟨Nat.le_of_ble_eq_true rfl, Nat.le_of_ble_eq_true rfl⟩) hS (fun q _ h => pu_fr hS hA q h) (pu_fr hS hA) (fun r_83 u t H1 locs ht hvm hw hB hz1 hk1 hS => ?_)
                have hP := pu_keep hP hk1
                clear hk1 hz1 ht hvm
                generalize H1 = H at hP hS ⊢
                obtain ⟨u_84, hu_84, rfl⟩ := hw
                refine lv_iconst (v := 1) hx hb dX9_from_108 (by decide) ?_
                refine lv_iadd hx hb dX9_from_109 ?_
                refine lv_topi (fun y_85 ey_85 => ?_)
                obtain rfl : y_85 = (nI (u_84 + 1)) := ey_85.trans (nI_add u_84 1)
                refine va_put (D := (dC, dI)) (ci := 9) (v := .int (nI (u_84 + 1))) (ty := .int) (C := RX9) (T := TX9) (N := 67) hx hb hts hiX9 tyX9 tyX9_ok nmX9 hown hK hP hD hS 0 rfl rfl 46 (by decide) v_11 (fun _ h9 => h9) rfl (by decide +kernel) rfl rfl (Nat.le_of_ble_eq_true rfl) dX9_from_110 (fun H locs hP hD hS => ?_)
                have hP : va_P (dC, dI) vwCl (mo_w ad ck 0 (nI x16) (nI x18) (nI x19) x20 (nI x21) (nI x22) x23 x24 x25 (nI x26) x27 (nI x28) (nI x29) (nI x30) (nI x33) x45 (nI (u_84 + 1)) (nI x52) (nI x53) (nI x61) (nI x62) (nI x63) (nI x65) x66 f1 f2 f3 (bN 3 q4) (bN 7 q5) (bN 7 q6) (bN 4 q7) f8 (bN 2 q9) (bH q10) f11 (b2 m12_0 m12_1) (b2 m13_0 m13_1) (b2 m14_0 m14_1) (b2m m15_0 m15_1) f17 (bA 159 q31) f32 f34 f35 f36 f37 (bN 7 q38) f39 f40 f41 (b2 m42_0 m42_1) f43 f44 f47 f48 f49 f50 f51 (bN 13 q54) (bN 120 q55) (bN 120 q56) f57 (bN 120 q58) f59 f60 f64) H := hP
                have hD : va_D A (mo_w ad ck 0 (nI x16) (nI x18) (nI x19) x20 (nI x21) (nI x22) x23 x24 x25 (nI x26) x27 (nI x28) (nI x29) (nI x30) (nI x33) x45 (nI (u_84 + 1)) (nI x52) (nI x53) (nI x61) (nI x62) (nI x63) (nI x65) x66 f1 f2 f3 (bN 3 q4) (bN 7 q5) (bN 7 q6) (bN 4 q7) f8 (bN 2 q9) (bH q10) f11 (b2 m12_0 m12_1) (b2 m13_0 m13_1) (b2 m14_0 m14_1) (b2m m15_0 m15_1) f17 (bA 159 q31) f32 f34 f35 f36 f37 (bN 7 q38) f39 f40 f41 (b2 m42_0 m42_1) f43 f44 f47 f48 f49 f50 f51 (bN 13 q54) (bN 120 q55) (bN 120 q56) f57 (bN 120 q58) f59 f60 f64) := hD
                refine lv_aload_n hx hb dX9_from_113 rfl (lv_at hl 1 rfl) ?_
                refine lv_iload_n hx hb dX9_from_114 rfl (lv_at hl 3 rfl) ?_
                refine lv_iload_n hx hb dX9_from_115 rfl (lv_at hl 4 rfl) ?_
                refine lv_iload hx hb dX9_from_116 (lv_at hl 5 rfl) ?_
                have hFc := pu_free hD hS hA
                refine va_callv (va_runV (As := [.int p1, .int (nI n_57), .int (nI n_82)]) (rest := []) ⟨hx, hb, hml, hown, hts⟩ (c_M_layPoint l dC dI _ ad ck 0 x16 x18 x19 x20 x21 x22 x23 x24 x25 x26 x27 x28 x29 x30 x33 x45 (u_84 + 1) x52 x53 x61 x62 x63 x65 x66 f1 f2 f3 q4 q5 q6 q7 f8 q9 q10 f11 m12_0 m12_1 m13_0 m13_1 m14_0 m14_1 m15_0 m15_1 f17 q31 f32 f34 f35 f36 f37 q38 f39 f40 f41 m42_0 m42_1 f43 f44 f47 f48 f49 f50 f51 q54 q55 q56 f57 q58 f59 f60 f64 p1 (nI n_57) (nI n_82) hx16 hx18 hx19 hx21 hx22 hx26 hx28 hx29 hx30 hx33 (by omega) hx52 hx53 hx61 hx62 hx63 hx65 hm12_0 hm12_1 hm13_0 hm13_1 hm14_0 hm14_1 hm15_0 hm15_1 hm42_0 hm42_1) (cwV 3 hts g_M_from_M_layPoint rfl rfl rfl (by decide +kernel) ⟨Nat.le_of_ble_eq_true rfl, Nat.le_of_ble_eq_true rfl⟩) ⟨pu_bl, va_recv hK hP (ci := 9) (q0 := 0) rfl rfl, pu_in hP hK hD⟩ rfl rfl hl.1 rfl (lv_room (Nat.le_of_ble_eq_true rfl)) dX9_from_118 ⟨Nat.le_of_ble_eq_true rfl, Nat.le_of_ble_eq_true rfl⟩) hS (fun q _ h => hFc q h) hFc (fun u t H1 locs ht hvm hw hB hz1 hk1 hS => ?_)
                obtain ⟨z35_87, ⟨hP1, -, hD1⟩⟩ := hB
                rw [ht] at hP1
                have hP := hP1
                have hD := pu_all hFc hD1
                clear hP1 hD1 hFc
                clear hk1 hz1 ht hvm
                generalize H1 = H at hP hS ⊢
                refine lv_aload_n hx hb dX9_from_121 rfl (lv_at hl 1 rfl) ?_
                refine lv_iconst (v := 1) hx hb dX9_from_122 (by decide) ?_
                refine lv_iload_n hx hb dX9_from_123 rfl (lv_at hl 2 rfl) ?_
                refine lv_iconst (v := 2) hx hb dX9_from_124 (by decide) ?_
                refine lv_iconst (v := 1) hx hb dX9_from_125 (by decide) ?_
                refine lv_bipush (v := 120) hx hb dX9_from_126 (by decide) ?_
                refine lv_iconst (v := (-1)) hx hb dX9_from_128 (by decide) ?_
                have hFc := pu_free hD hS hA
                refine va_callv (va_runV (As := [.int 1, .int (nI n_2), .int 2, .int 1, .int 120, .int (-1)]) (rest := []) ⟨hx, hb, hml, hown, hts⟩ (c_M_explores_1_120 l dC dI _ ad ck 0 x16 x18 x19 x20 x21 x22 x23 x24 x25 x26 x27 x28 x29 x30 x33 x45 (u_84 + 1) x52 x53 x61 x62 x63 x65 x66 f1 f2 f3 q4 q5 q6 q7 f8 q9 q10 f11 m12_0 m12_1 m13_0 m13_1 m14_0 m14_1 m15_0 m15_1 f17 q31 f32 f34 z35_87 f36 f37 q38 f39 f40 f41 m42_0 m42_1 f43 f44 f47 f48 f49 f50 f51 q54 q55 q56 f57 q58 f59 f60 f64 n_2 2 1 (-1) hx16 hx18 hx19 hx21 hx22 hx26 hx28 hx29 hx30 hx33 (by omega) hx52 hx53 hx61 hx62 hx63 hx65 hm12_0 hm12_1 hm13_0 hm13_1 hm14_0 hm14_1 hm15_0 hm15_1 hm42_0 hm42_1 (by omega) (Nat.le_of_ble_eq_true rfl) (by first | assumption | exact gz_0)) (cwV 6 hts g_M_from_M_explores_1_120 rfl rfl rfl (by decide +kernel) ⟨Nat.le_of_ble_eq_true rfl, Nat.le_of_ble_eq_true rfl⟩) ⟨pu_bl, va_recv hK hP (ci := 9) (q0 := 0) rfl rfl, pu_in hP hK hD⟩ rfl rfl hl.1 rfl (lv_room (Nat.le_of_ble_eq_true rfl)) dX9_from_129 ⟨Nat.le_of_ble_eq_true rfl, Nat.le_of_ble_eq_true rfl⟩) hS (fun q _ h => hFc q h) hFc (fun u t H1 locs ht hvm hw hB hz1 hk1 hS => ?_)
                obtain ⟨z34_89, z35_90, z38_91, z39_92, z40_93, z41_94, z43_95, z44_96, z47_97, z48_98, z42_1_99, ⟨hP1, -, hD1⟩, hz42_1_99, xr_88_0⟩ := hB
                rw [ht] at hP1
                have hP := hP1
                have hD := pu_all hFc hD1
                clear hP1 hD1 hFc
                clear hk1 hz1 ht hvm
                generalize H1 = H at hP hS ⊢
                refine lv_aload_n hx hb dX9_from_132 rfl (lv_at hl 1 rfl) ?_
                refine lv_iconst (v := 1) hx hb dX9_from_133 (by decide) ?_
                refine lv_iload hx hb dX9_from_134 (lv_at hl 6 rfl) ?_
                refine va_calli (va_runV (As := [.int 1, .int (nI n_4)]) (rest := []) ⟨hx, hb, hml, hown, hts⟩ (c_M_hasPlace_1 l dC dI _ ad ck 0 x16 x18 x19 x20 x21 x22 x23 x24 x25 x26 x27 x28 x29 x30 x33 x45 (u_84 + 1) x52 x53 x61 x62 x63 x65 x66 f1 f2 f3 q4 q5 q6 q7 f8 q9 q10 f11 m12_0 m12_1 m13_0 m13_1 m14_0 m14_1 m15_0 m15_1 f17 q31 f32 z34_89 z35_90 f36 f37 z38_91 z39_92 z40_93 z41_94 m42_0 z42_1_99 z43_95 z44_96 z47_97 z48_98 f49 f50 f51 q54 q55 q56 f57 q58 f59 f60 f64 (nI n_4) hx16 hx18 hx19 hx21 hx22 hx26 hx28 hx29 hx30 hx33 (by omega) hx52 hx53 hx61 hx62 hx63 hx65 hm12_0 hm12_1 hm13_0 hm13_1 hm14_0 hm14_1 hm15_0 hm15_1 hm42_0 (Nat.le_trans hz42_1_99 (Nat.le_of_ble_eq_true rfl))) (cwV 2 hts g_M_from_M_hasPlace_1 rfl rfl rfl (by decide +kernel) ⟨Nat.le_of_ble_eq_true rfl, Nat.le_of_ble_eq_true rfl⟩) ⟨pu_bl, va_recv hK hP (ci := 9) (q0 := 0) rfl rfl, pu_in hP hK hD⟩ rfl rfl hl.1 rfl (lv_room (Nat.le_of_ble_eq_true rfl)) dX9_from_136 ⟨Nat.le_of_ble_eq_true rfl, Nat.le_of_ble_eq_true rfl⟩) hS (fun q _ h => pu_fr hS hA q h) (pu_fr hS hA) (fun r_100 u t H1 locs ht hvm hw hB hz1 hk1 hS => ?_)
                have hP := pu_keep hP hk1
                clear hk1 hz1 ht hvm
                generalize H1 = H at hP hS ⊢
                obtain ⟨u_101, hu_101, rfl⟩ := hw
                refine lv_if_eq (tgt := 146) hx hb dX9_from_139 (by decide) (fun c_102 => ?_) (fun c_102 => ?_)
                · have c_102 : u_101 = 0 := (nI_eq (a := u_101) (b := 0) (Nat.lt_of_le_of_lt hu_101 (Nat.le_of_ble_eq_true rfl)) (Nat.le_of_ble_eq_true rfl)).mp c_102
                  refine lv_iconst (v := 0) hx hb dX9_from_146 (by decide) ?_
                  exact W.iret (v := 0) hx hb hr (fun t ht hW => ⟨⟨0, (), rfl, trivial, ⟨z34_89, z35_90, z38_91, z39_92, z40_93, z41_94, z43_95, z44_96, z47_97, z48_98, z42_1_99, 0, (u_84 + 1), ⟨by rw [ht]; exact hP, va_K.moved hW.alike hK, hD⟩, (Nat.le_trans hz42_1_99 (Nat.le_of_ble_eq_true rfl)), (by omega), by first | assumption | exact gz_0⟩⟩, hS.F ht⟩) hS.2.2 dX9_from_147
                · have c_102 : ¬ u_101 = 0 := fun z => c_102 ((nI_eq (a := u_101) (b := 0) (Nat.lt_of_le_of_lt hu_101 (Nat.le_of_ble_eq_true rfl)) (Nat.le_of_ble_eq_true rfl)).mpr z)
                  refine lv_iconst (v := 1) hx hb dX9_from_142 (by decide) ?_
                  refine lv_goto (tgt := 147) hx hb dX9_from_143 (by decide) ?_
                  exact W.iret (v := 1) hx hb hr (fun t ht hW => ⟨⟨1, (), rfl, trivial, ⟨z34_89, z35_90, z38_91, z39_92, z40_93, z41_94, z43_95, z44_96, z47_97, z48_98, z42_1_99, 0, (u_84 + 1), ⟨by rw [ht]; exact hP, va_K.moved hW.alike hK, hD⟩, (Nat.le_trans hz42_1_99 (Nat.le_of_ble_eq_true rfl)), (by omega), by first | assumption | exact gz_0⟩⟩, hS.F ht⟩) hS.2.2 dX9_from_147
              · refine lv_if_eq (tgt := 93) hx hb dX9_from_86 (by decide) (fun _ => ?_) (fun z => absurd z (by decide))
                refine lv_iconst (v := 0) hx hb dX9_from_93 (by decide) ?_
                refine lv_istore (lv' := [(6, .int 0), (0, .ref (ad 0)), (1, .int (nI n_2)), (2, .int p1), (3, .int (nI n_57)), (4, .int p3), (5, .int (nI n_4))]) hx hb dX9_from_94 hl (by decide) rfl (fun ls hl => ?_)
                refine lv_iload hx hb dX9_from_96 (lv_at hl 0 rfl) ?_
                refine lv_if_ne (tgt := 103) hx hb dX9_from_98 (by decide) (fun z => absurd z (by decide)) (fun _ => ?_)
                refine lv_iconst (v := (-1)) hx hb dX9_from_101 (by decide) ?_
                exact W.iret (v := (-1)) hx hb hr (fun t ht hW => ⟨⟨(-1), (), rfl, trivial, ⟨f34, f35, q38, f39, f40, f41, f43, f44, f47, f48, m42_1, 0, x46, ⟨by rw [ht]; exact hP, va_K.moved hW.alike hK, hD⟩, hm42_1, hx46, by first | assumption | exact gz_0⟩⟩, hS.F ht⟩) hS.2.2 dX9_from_102
          · refine lv_if_eq (tgt := 93) hx hb dX9_from_67 (by decide) (fun _ => ?_) (fun z => absurd z (by decide))
            refine lv_iconst (v := 0) hx hb dX9_from_93 (by decide) ?_
            refine lv_istore (lv' := [(6, .int 0), (0, .ref (ad 0)), (1, .int (nI n_2)), (2, .int p1), (3, .int p2), (4, .int p3), (5, .int (nI n_4))]) hx hb dX9_from_94 hl (by decide) rfl (fun ls hl => ?_)
            refine lv_iload hx hb dX9_from_96 (lv_at hl 0 rfl) ?_
            refine lv_if_ne (tgt := 103) hx hb dX9_from_98 (by decide) (fun z => absurd z (by decide)) (fun _ => ?_)
            refine lv_iconst (v := (-1)) hx hb dX9_from_101 (by decide) ?_
            exact W.iret (v := (-1)) hx hb hr (fun t ht hW => ⟨⟨(-1), (), rfl, trivial, ⟨f34, f35, q38, f39, f40, f41, f43, f44, f47, f48, m42_1, 0, x46, ⟨by rw [ht]; exact hP, va_K.moved hW.alike hK, hD⟩, hm42_1, hx46, by first | assumption | exact gz_0⟩⟩, hS.F ht⟩) hS.2.2 dX9_from_102
      · have c_7 : ¬ u_6 < 1 := fun z => c_7 ((nI_ltI (a := u_6) (b := 1) (Nat.lt_of_le_of_lt hu_6 (Nat.le_of_ble_eq_true rfl)) (Nat.le_of_ble_eq_true rfl)).mpr z)
        refine lv_iload_n hx hb dX9_from_42 rfl (lv_at hl 3 rfl) ?_
        refine lv_iconst (v := 0) hx hb dX9_from_43 (by decide) ?_
        refine lv_bipush (v := 60) hx hb dX9_from_44 (by decide) ?_
        refine va_calli (va_runS (As := [.int p1, .int 0, .int 60]) (rest := []) ⟨hx, hb, hml, hown, hts⟩ (c_X9_in l dC dI _ p1 0 60) (va_cwS 3 hts g_M_from_X9_in rfl rfl rfl (by decide +kernel) ⟨Nat.le_of_ble_eq_true rfl, Nat.le_of_ble_eq_true rfl⟩) ⟨pu_bl, pu_in (hP.sub [] rfl) (hK.sub [] rfl) (hD.sub [] (by decide) rfl)⟩ rfl rfl hl.1 rfl (lv_room (Nat.le_of_ble_eq_true rfl)) dX9_from_46 ⟨Nat.le_of_ble_eq_true rfl, Nat.le_of_ble_eq_true rfl⟩) hS (fun q _ h => pu_fr hS hA q h) (pu_fr hS hA) (fun r_103 u t H1 locs ht hvm hw hB hz1 hk1 hS => ?_)
        have hP := pu_keep hP hk1
        clear hk1 hz1 ht hvm
        generalize H1 = H at hP hS ⊢
        rcases hw with ⟨rfl, hi1, hi2⟩ | ⟨rfl, hi3⟩
        · obtain ⟨n_104, hn_104, rfl⟩ := pu_in0 (n := 60) (by omega) hi1 hi2
          refine lv_if_eq (tgt := 93) hx hb dX9_from_49 (by decide) (fun z => absurd z (by decide)) (fun _ => ?_)
          refine lv_aload_n hx hb dX9_from_52 rfl (lv_at hl 1 rfl) ?_
          refine va_calli (va_runV (As := []) (rest := []) ⟨hx, hb, hml, hown, hts⟩ (c_M_clocks l dC dI _ ad ck 0 x16 x18 x19 x20 x21 x22 x23 x24 x25 x26 x27 x28 x29 x30 x33 x45 x46 x52 x53 x61 x62 x63 x65 x66 f1 f2 f3 q4 q5 q6 q7 f8 q9 q10 f11 m12_0 m12_1 m13_0 m13_1 m14_0 m14_1 m15_0 m15_1 f17 q31 f32 f34 f35 f36 f37 q38 f39 f40 f41 m42_0 m42_1 f43 f44 f47 f48 f49 f50 f51 q54 q55 q56 f57 q58 f59 f60 f64 hx16 hx18 hx19 hx21 hx22 hx26 hx28 hx29 hx30 hx33 hx46 hx52 hx53 hx61 hx62 hx63 hx65 hm12_0 hm12_1 hm13_0 hm13_1 hm14_0 hm14_1 hm15_0 hm15_1 hm42_0 hm42_1) (cwV 0 hts g_M_from_M_clocks rfl rfl rfl (by decide +kernel) ⟨Nat.le_of_ble_eq_true rfl, Nat.le_of_ble_eq_true rfl⟩) ⟨pu_bl, va_recv hK hP (ci := 9) (q0 := 0) rfl rfl, pu_in hP hK hD⟩ rfl rfl hl.1 rfl (lv_room (Nat.le_of_ble_eq_true rfl)) dX9_from_53 ⟨Nat.le_of_ble_eq_true rfl, Nat.le_of_ble_eq_true rfl⟩) hS (fun q _ h => pu_fr hS hA q h) (pu_fr hS hA) (fun r_105 u t H1 locs ht hvm hw hB hz1 hk1 hS => ?_)
          have hP := pu_keep hP hk1
          clear hk1 hz1 ht hvm
          generalize H1 = H at hP hS ⊢
          obtain ⟨u_106, hu_106, rfl⟩ := hw
          refine lv_iconst (v := 2) hx hb dX9_from_56 (by decide) ?_
          refine lv_icmp_lt (tgt := 70) hx hb dX9_from_57 (by decide) (fun c_107 => ?_) (fun c_107 => ?_)
          · have c_107 : u_106 < 2 := (nI_ltI (a := u_106) (b := 2) (Nat.lt_of_le_of_lt hu_106 (Nat.le_of_ble_eq_true rfl)) (Nat.le_of_ble_eq_true rfl)).mp c_107
            refine lv_aload_n hx hb dX9_from_70 rfl (lv_at hl 1 rfl) ?_
            refine va_calli (va_runV (As := []) (rest := []) ⟨hx, hb, hml, hown, hts⟩ (c_M_clocks l dC dI _ ad ck 0 x16 x18 x19 x20 x21 x22 x23 x24 x25 x26 x27 x28 x29 x30 x33 x45 x46 x52 x53 x61 x62 x63 x65 x66 f1 f2 f3 q4 q5 q6 q7 f8 q9 q10 f11 m12_0 m12_1 m13_0 m13_1 m14_0 m14_1 m15_0 m15_1 f17 q31 f32 f34 f35 f36 f37 q38 f39 f40 f41 m42_0 m42_1 f43 f44 f47 f48 f49 f50 f51 q54 q55 q56 f57 q58 f59 f60 f64 hx16 hx18 hx19 hx21 hx22 hx26 hx28 hx29 hx30 hx33 hx46 hx52 hx53 hx61 hx62 hx63 hx65 hm12_0 hm12_1 hm13_0 hm13_1 hm14_0 hm14_1 hm15_0 hm15_1 hm42_0 hm42_1) (cwV 0 hts g_M_from_M_clocks rfl rfl rfl (by decide +kernel) ⟨Nat.le_of_ble_eq_true rfl, Nat.le_of_ble_eq_true rfl⟩) ⟨pu_bl, va_recv hK hP (ci := 9) (q0 := 0) rfl rfl, pu_in hP hK hD⟩ rfl rfl hl.1 rfl (lv_room (Nat.le_of_ble_eq_true rfl)) dX9_from_71 ⟨Nat.le_of_ble_eq_true rfl, Nat.le_of_ble_eq_true rfl⟩) hS (fun q _ h => pu_fr hS hA q h) (pu_fr hS hA) (fun r_108 u t H1 locs ht hvm hw hB hz1 hk1 hS => ?_)
            have hP := pu_keep hP hk1
            clear hk1 hz1 ht hvm
            generalize H1 = H at hP hS ⊢
            obtain ⟨u_109, hu_109, rfl⟩ := hw
            refine lv_iconst (v := 3) hx hb dX9_from_74 (by decide) ?_
            refine lv_icmp_lt (tgt := 89) hx hb dX9_from_75 (by decide) (fun c_110 => ?_) (fun c_110 => ?_)
            · have c_110 : u_109 < 3 := (nI_ltI (a := u_109) (b := 3) (Nat.lt_of_le_of_lt hu_109 (Nat.le_of_ble_eq_true rfl)) (Nat.le_of_ble_eq_true rfl)).mp c_110
              refine lv_iconst (v := 1) hx hb dX9_from_89 (by decide) ?_
              refine lv_goto (tgt := 94) hx hb dX9_from_90 (by decide) ?_
              refine lv_istore (lv' := [(6, .int 1), (0, .ref (ad 0)), (1, .int (nI n_2)), (2, .int (nI n_104)), (3, .int p2), (4, .int p3), (5, .int (nI n_4))]) hx hb dX9_from_94 hl (by decide) rfl (fun ls hl => ?_)
              refine lv_iload hx hb dX9_from_96 (lv_at hl 0 rfl) ?_
              refine lv_if_ne (tgt := 103) hx hb dX9_from_98 (by decide) (fun _ => ?_) (fun z => absurd z (by decide))
              refine lv_aload_n hx hb dX9_from_103 rfl (lv_at hl 1 rfl) ?_
              refine lv_aload_n hx hb dX9_from_104 rfl (lv_at hl 1 rfl) ?_
              refine va_calli (va_runV (As := []) (rest := [.ref (ad 0)]) ⟨hx, hb, hml, hown, hts⟩ (c_M_clocks l dC dI _ ad ck 0 x16 x18 x19 x20 x21 x22 x23 x24 x25 x26 x27 x28 x29 x30 x33 x45 x46 x52 x53 x61 x62 x63 x65 x66 f1 f2 f3 q4 q5 q6 q7 f8 q9 q10 f11 m12_0 m12_1 m13_0 m13_1 m14_0 m14_1 m15_0 m15_1 f17 q31 f32 f34 f35 f36 f37 q38 f39 f40 f41 m42_0 m42_1 f43 f44 f47 f48 f49 f50 f51 q54 q55 q56 f57 q58 f59 f60 f64 hx16 hx18 hx19 hx21 hx22 hx26 hx28 hx29 hx30 hx33 hx46 hx52 hx53 hx61 hx62 hx63 hx65 hm12_0 hm12_1 hm13_0 hm13_1 hm14_0 hm14_1 hm15_0 hm15_1 hm42_0 hm42_1) (cwV 0 hts g_M_from_M_clocks rfl rfl rfl (by decide +kernel) ⟨Nat.le_of_ble_eq_true rfl, Nat.le_of_ble_eq_true rfl⟩) ⟨pu_bl, va_recv hK hP (ci := 9) (q0 := 0) rfl rfl, pu_in hP hK hD⟩ rfl rfl hl.1 rfl (lv_room (Nat.le_of_ble_eq_true rfl)) dX9_from_105 ⟨Nat.le_of_ble_eq_true rfl, Nat.le_of_ble_eq_true rfl⟩) hS (fun q _ h => pu_fr hS hA q h) (pu_fr hS hA) (fun r_111 u t H1 locs ht hvm hw hB hz1 hk1 hS => ?_)
              have hP := pu_keep hP hk1
              clear hk1 hz1 ht hvm
              generalize H1 = H at hP hS ⊢
              obtain ⟨u_112, hu_112, rfl⟩ := hw
              refine lv_iconst (v := 1) hx hb dX9_from_108 (by decide) ?_
              refine lv_iadd hx hb dX9_from_109 ?_
              refine lv_topi (fun y_113 ey_113 => ?_)
              obtain rfl : y_113 = (nI (u_112 + 1)) := ey_113.trans (nI_add u_112 1)
              refine va_put (D := (dC, dI)) (ci := 9) (v := .int (nI (u_112 + 1))) (ty := .int) (C := RX9) (T := TX9) (N := 67) hx hb hts hiX9 tyX9 tyX9_ok nmX9 hown hK hP hD hS 0 rfl rfl 46 (by decide) v_11 (fun _ h9 => h9) rfl (by decide +kernel) rfl rfl (Nat.le_of_ble_eq_true rfl) dX9_from_110 (fun H locs hP hD hS => ?_)
              have hP : va_P (dC, dI) vwCl (mo_w ad ck 0 (nI x16) (nI x18) (nI x19) x20 (nI x21) (nI x22) x23 x24 x25 (nI x26) x27 (nI x28) (nI x29) (nI x30) (nI x33) x45 (nI (u_112 + 1)) (nI x52) (nI x53) (nI x61) (nI x62) (nI x63) (nI x65) x66 f1 f2 f3 (bN 3 q4) (bN 7 q5) (bN 7 q6) (bN 4 q7) f8 (bN 2 q9) (bH q10) f11 (b2 m12_0 m12_1) (b2 m13_0 m13_1) (b2 m14_0 m14_1) (b2m m15_0 m15_1) f17 (bA 159 q31) f32 f34 f35 f36 f37 (bN 7 q38) f39 f40 f41 (b2 m42_0 m42_1) f43 f44 f47 f48 f49 f50 f51 (bN 13 q54) (bN 120 q55) (bN 120 q56) f57 (bN 120 q58) f59 f60 f64) H := hP
              have hD : va_D A (mo_w ad ck 0 (nI x16) (nI x18) (nI x19) x20 (nI x21) (nI x22) x23 x24 x25 (nI x26) x27 (nI x28) (nI x29) (nI x30) (nI x33) x45 (nI (u_112 + 1)) (nI x52) (nI x53) (nI x61) (nI x62) (nI x63) (nI x65) x66 f1 f2 f3 (bN 3 q4) (bN 7 q5) (bN 7 q6) (bN 4 q7) f8 (bN 2 q9) (bH q10) f11 (b2 m12_0 m12_1) (b2 m13_0 m13_1) (b2 m14_0 m14_1) (b2m m15_0 m15_1) f17 (bA 159 q31) f32 f34 f35 f36 f37 (bN 7 q38) f39 f40 f41 (b2 m42_0 m42_1) f43 f44 f47 f48 f49 f50 f51 (bN 13 q54) (bN 120 q55) (bN 120 q56) f57 (bN 120 q58) f59 f60 f64) := hD
              refine lv_aload_n hx hb dX9_from_113 rfl (lv_at hl 1 rfl) ?_
              refine lv_iload_n hx hb dX9_from_114 rfl (lv_at hl 3 rfl) ?_
              refine lv_iload_n hx hb dX9_from_115 rfl (lv_at hl 4 rfl) ?_
              refine lv_iload hx hb dX9_from_116 (lv_at hl 5 rfl) ?_
              have hFc := pu_free hD hS hA
              refine va_callv (va_runV (As := [.int (nI n_104), .int p2, .int p3]) (rest := []) ⟨hx, hb, hml, hown, hts⟩ (c_M_layPoint l dC dI _ ad ck 0 x16 x18 x19 x20 x21 x22 x23 x24 x25 x26 x27 x28 x29 x30 x33 x45 (u_112 + 1) x52 x53 x61 x62 x63 x65 x66 f1 f2 f3 q4 q5 q6 q7 f8 q9 q10 f11 m12_0 m12_1 m13_0 m13_1 m14_0 m14_1 m15_0 m15_1 f17 q31 f32 f34 f35 f36 f37 q38 f39 f40 f41 m42_0 m42_1 f43 f44 f47 f48 f49 f50 f51 q54 q55 q56 f57 q58 f59 f60 f64 (nI n_104) p2 p3 hx16 hx18 hx19 hx21 hx22 hx26 hx28 hx29 hx30 hx33 (by omega) hx52 hx53 hx61 hx62 hx63 hx65 hm12_0 hm12_1 hm13_0 hm13_1 hm14_0 hm14_1 hm15_0 hm15_1 hm42_0 hm42_1) (cwV 3 hts g_M_from_M_layPoint rfl rfl rfl (by decide +kernel) ⟨Nat.le_of_ble_eq_true rfl, Nat.le_of_ble_eq_true rfl⟩) ⟨pu_bl, va_recv hK hP (ci := 9) (q0 := 0) rfl rfl, pu_in hP hK hD⟩ rfl rfl hl.1 rfl (lv_room (Nat.le_of_ble_eq_true rfl)) dX9_from_118 ⟨Nat.le_of_ble_eq_true rfl, Nat.le_of_ble_eq_true rfl⟩) hS (fun q _ h => hFc q h) hFc (fun u t H1 locs ht hvm hw hB hz1 hk1 hS => ?_)
              obtain ⟨z35_115, ⟨hP1, -, hD1⟩⟩ := hB
              rw [ht] at hP1
              have hP := hP1
              have hD := pu_all hFc hD1
              clear hP1 hD1 hFc
              clear hk1 hz1 ht hvm
              generalize H1 = H at hP hS ⊢
              refine lv_aload_n hx hb dX9_from_121 rfl (lv_at hl 1 rfl) ?_
              refine lv_iconst (v := 1) hx hb dX9_from_122 (by decide) ?_
              refine lv_iload_n hx hb dX9_from_123 rfl (lv_at hl 2 rfl) ?_
              refine lv_iconst (v := 2) hx hb dX9_from_124 (by decide) ?_
              refine lv_iconst (v := 1) hx hb dX9_from_125 (by decide) ?_
              refine lv_bipush (v := 120) hx hb dX9_from_126 (by decide) ?_
              refine lv_iconst (v := (-1)) hx hb dX9_from_128 (by decide) ?_
              have hFc := pu_free hD hS hA
              refine va_callv (va_runV (As := [.int 1, .int (nI n_2), .int 2, .int 1, .int 120, .int (-1)]) (rest := []) ⟨hx, hb, hml, hown, hts⟩ (c_M_explores_1_120 l dC dI _ ad ck 0 x16 x18 x19 x20 x21 x22 x23 x24 x25 x26 x27 x28 x29 x30 x33 x45 (u_112 + 1) x52 x53 x61 x62 x63 x65 x66 f1 f2 f3 q4 q5 q6 q7 f8 q9 q10 f11 m12_0 m12_1 m13_0 m13_1 m14_0 m14_1 m15_0 m15_1 f17 q31 f32 f34 z35_115 f36 f37 q38 f39 f40 f41 m42_0 m42_1 f43 f44 f47 f48 f49 f50 f51 q54 q55 q56 f57 q58 f59 f60 f64 n_2 2 1 (-1) hx16 hx18 hx19 hx21 hx22 hx26 hx28 hx29 hx30 hx33 (by omega) hx52 hx53 hx61 hx62 hx63 hx65 hm12_0 hm12_1 hm13_0 hm13_1 hm14_0 hm14_1 hm15_0 hm15_1 hm42_0 hm42_1 (by omega) (Nat.le_of_ble_eq_true rfl) (by first | assumption | exact gz_0)) (cwV 6 hts g_M_from_M_explores_1_120 rfl rfl rfl (by decide +kernel) ⟨Nat.le_of_ble_eq_true rfl, Nat.le_of_ble_eq_true rfl⟩) ⟨pu_bl, va_recv hK hP (ci := 9) (q0 := 0) rfl rfl, pu_in hP hK hD⟩ rfl rfl hl.1 rfl (lv_room (Nat.le_of_ble_eq_true rfl)) dX9_from_129 ⟨Nat.le_of_ble_eq_true rfl, Nat.le_of_ble_eq_true rfl⟩) hS (fun q _ h => hFc q h) hFc (fun u t H1 locs ht hvm hw hB hz1 hk1 hS => ?_)
              obtain ⟨z34_117, z35_118, z38_119, z39_120, z40_121, z41_122, z43_123, z44_124, z47_125, z48_126, z42_1_127, ⟨hP1, -, hD1⟩, hz42_1_127, xr_116_0⟩ := hB
              rw [ht] at hP1
              have hP := hP1
              have hD := pu_all hFc hD1
              clear hP1 hD1 hFc
              clear hk1 hz1 ht hvm
              generalize H1 = H at hP hS ⊢
              refine lv_aload_n hx hb dX9_from_132 rfl (lv_at hl 1 rfl) ?_
              refine lv_iconst (v := 1) hx hb dX9_from_133 (by decide) ?_
              refine lv_iload hx hb dX9_from_134 (lv_at hl 6 rfl) ?_
              refine va_calli (va_runV (As := [.int 1, .int (nI n_4)]) (rest := []) ⟨hx, hb, hml, hown, hts⟩ (c_M_hasPlace_1 l dC dI _ ad ck 0 x16 x18 x19 x20 x21 x22 x23 x24 x25 x26 x27 x28 x29 x30 x33 x45 (u_112 + 1) x52 x53 x61 x62 x63 x65 x66 f1 f2 f3 q4 q5 q6 q7 f8 q9 q10 f11 m12_0 m12_1 m13_0 m13_1 m14_0 m14_1 m15_0 m15_1 f17 q31 f32 z34_117 z35_118 f36 f37 z38_119 z39_120 z40_121 z41_122 m42_0 z42_1_127 z43_123 z44_124 z47_125 z48_126 f49 f50 f51 q54 q55 q56 f57 q58 f59 f60 f64 (nI n_4) hx16 hx18 hx19 hx21 hx22 hx26 hx28 hx29 hx30 hx33 (by omega) hx52 hx53 hx61 hx62 hx63 hx65 hm12_0 hm12_1 hm13_0 hm13_1 hm14_0 hm14_1 hm15_0 hm15_1 hm42_0 (Nat.le_trans hz42_1_127 (Nat.le_of_ble_eq_true rfl))) (cwV 2 hts g_M_from_M_hasPlace_1 rfl rfl rfl (by decide +kernel) ⟨Nat.le_of_ble_eq_true rfl, Nat.le_of_ble_eq_true rfl⟩) ⟨pu_bl, va_recv hK hP (ci := 9) (q0 := 0) rfl rfl, pu_in hP hK hD⟩ rfl rfl hl.1 rfl (lv_room (Nat.le_of_ble_eq_true rfl)) dX9_from_136 ⟨Nat.le_of_ble_eq_true rfl, Nat.le_of_ble_eq_true rfl⟩) hS (fun q _ h => pu_fr hS hA q h) (pu_fr hS hA) (fun r_128 u t H1 locs ht hvm hw hB hz1 hk1 hS => ?_)
              have hP := pu_keep hP hk1
              clear hk1 hz1 ht hvm
              generalize H1 = H at hP hS ⊢
              obtain ⟨u_129, hu_129, rfl⟩ := hw
              refine lv_if_eq (tgt := 146) hx hb dX9_from_139 (by decide) (fun c_130 => ?_) (fun c_130 => ?_)
              · have c_130 : u_129 = 0 := (nI_eq (a := u_129) (b := 0) (Nat.lt_of_le_of_lt hu_129 (Nat.le_of_ble_eq_true rfl)) (Nat.le_of_ble_eq_true rfl)).mp c_130
                refine lv_iconst (v := 0) hx hb dX9_from_146 (by decide) ?_
                exact W.iret (v := 0) hx hb hr (fun t ht hW => ⟨⟨0, (), rfl, trivial, ⟨z34_117, z35_118, z38_119, z39_120, z40_121, z41_122, z43_123, z44_124, z47_125, z48_126, z42_1_127, 0, (u_112 + 1), ⟨by rw [ht]; exact hP, va_K.moved hW.alike hK, hD⟩, (Nat.le_trans hz42_1_127 (Nat.le_of_ble_eq_true rfl)), (by omega), by first | assumption | exact gz_0⟩⟩, hS.F ht⟩) hS.2.2 dX9_from_147
              · have c_130 : ¬ u_129 = 0 := fun z => c_130 ((nI_eq (a := u_129) (b := 0) (Nat.lt_of_le_of_lt hu_129 (Nat.le_of_ble_eq_true rfl)) (Nat.le_of_ble_eq_true rfl)).mpr z)
                refine lv_iconst (v := 1) hx hb dX9_from_142 (by decide) ?_
                refine lv_goto (tgt := 147) hx hb dX9_from_143 (by decide) ?_
                exact W.iret (v := 1) hx hb hr (fun t ht hW => ⟨⟨1, (), rfl, trivial, ⟨z34_117, z35_118, z38_119, z39_120, z40_121, z41_122, z43_123, z44_124, z47_125, z48_126, z42_1_127, 0, (u_112 + 1), ⟨by rw [ht]; exact hP, va_K.moved hW.alike hK, hD⟩, (Nat.le_trans hz42_1_127 (Nat.le_of_ble_eq_true rfl)), (by omega), by first | assumption | exact gz_0⟩⟩, hS.F ht⟩) hS.2.2 dX9_from_147
            · have c_110 : ¬ u_109 < 3 := fun z => c_110 ((nI_ltI (a := u_109) (b := 3) (Nat.lt_of_le_of_lt hu_109 (Nat.le_of_ble_eq_true rfl)) (Nat.le_of_ble_eq_true rfl)).mpr z)
              refine lv_iload hx hb dX9_from_78 (lv_at hl 5 rfl) ?_
              refine lv_iconst (v := 0) hx hb dX9_from_80 (by decide) ?_
              refine lv_bipush (v := 60) hx hb dX9_from_81 (by decide) ?_
              refine va_calli (va_runS (As := [.int p3, .int 0, .int 60]) (rest := []) ⟨hx, hb, hml, hown, hts⟩ (c_X9_in l dC dI _ p3 0 60) (va_cwS 3 hts g_M_from_X9_in rfl rfl rfl (by decide +kernel) ⟨Nat.le_of_ble_eq_true rfl, Nat.le_of_ble_eq_true rfl⟩) ⟨pu_bl, pu_in (hP.sub [] rfl) (hK.sub [] rfl) (hD.sub [] (by decide) rfl)⟩ rfl rfl hl.1 rfl (lv_room (Nat.le_of_ble_eq_true rfl)) dX9_from_83 ⟨Nat.le_of_ble_eq_true rfl, Nat.le_of_ble_eq_true rfl⟩) hS (fun q _ h => pu_fr hS hA q h) (pu_fr hS hA) (fun r_131 u t H1 locs ht hvm hw hB hz1 hk1 hS => ?_)
              have hP := pu_keep hP hk1
              clear hk1 hz1 ht hvm
              generalize H1 = H at hP hS ⊢
              rcases hw with ⟨rfl, hi1, hi2⟩ | ⟨rfl, hi3⟩
              · obtain ⟨n_132, hn_132, rfl⟩ := pu_in0 (n := 60) (by omega) hi1 hi2
                refine lv_if_eq (tgt := 93) hx hb dX9_from_86 (by decide) (fun z => absurd z (by decide)) (fun _ => ?_)
                refine lv_iconst (v := 1) hx hb dX9_from_89 (by decide) ?_
                refine lv_goto (tgt := 94) hx hb dX9_from_90 (by decide) ?_
                refine lv_istore (lv' := [(6, .int 1), (0, .ref (ad 0)), (1, .int (nI n_2)), (2, .int (nI n_104)), (3, .int p2), (4, .int (nI n_132)), (5, .int (nI n_4))]) hx hb dX9_from_94 hl (by decide) rfl (fun ls hl => ?_)
                refine lv_iload hx hb dX9_from_96 (lv_at hl 0 rfl) ?_
                refine lv_if_ne (tgt := 103) hx hb dX9_from_98 (by decide) (fun _ => ?_) (fun z => absurd z (by decide))
                refine lv_aload_n hx hb dX9_from_103 rfl (lv_at hl 1 rfl) ?_
                refine lv_aload_n hx hb dX9_from_104 rfl (lv_at hl 1 rfl) ?_
                refine va_calli (va_runV (As := []) (rest := [.ref (ad 0)]) ⟨hx, hb, hml, hown, hts⟩ (c_M_clocks l dC dI _ ad ck 0 x16 x18 x19 x20 x21 x22 x23 x24 x25 x26 x27 x28 x29 x30 x33 x45 x46 x52 x53 x61 x62 x63 x65 x66 f1 f2 f3 q4 q5 q6 q7 f8 q9 q10 f11 m12_0 m12_1 m13_0 m13_1 m14_0 m14_1 m15_0 m15_1 f17 q31 f32 f34 f35 f36 f37 q38 f39 f40 f41 m42_0 m42_1 f43 f44 f47 f48 f49 f50 f51 q54 q55 q56 f57 q58 f59 f60 f64 hx16 hx18 hx19 hx21 hx22 hx26 hx28 hx29 hx30 hx33 hx46 hx52 hx53 hx61 hx62 hx63 hx65 hm12_0 hm12_1 hm13_0 hm13_1 hm14_0 hm14_1 hm15_0 hm15_1 hm42_0 hm42_1) (cwV 0 hts g_M_from_M_clocks rfl rfl rfl (by decide +kernel) ⟨Nat.le_of_ble_eq_true rfl, Nat.le_of_ble_eq_true rfl⟩) ⟨pu_bl, va_recv hK hP (ci := 9) (q0 := 0) rfl rfl, pu_in hP hK hD⟩ rfl rfl hl.1 rfl (lv_room (Nat.le_of_ble_eq_true rfl)) dX9_from_105 ⟨Nat.le_of_ble_eq_true rfl, Nat.le_of_ble_eq_true rfl⟩) hS (fun q _ h => pu_fr hS hA q h) (pu_fr hS hA) (fun r_133 u t H1 locs ht hvm hw hB hz1 hk1 hS => ?_)
                have hP := pu_keep hP hk1
                clear hk1 hz1 ht hvm
                generalize H1 = H at hP hS ⊢
                obtain ⟨u_134, hu_134, rfl⟩ := hw
                refine lv_iconst (v := 1) hx hb dX9_from_108 (by decide) ?_
                refine lv_iadd hx hb dX9_from_109 ?_
                refine lv_topi (fun y_135 ey_135 => ?_)
                obtain rfl : y_135 = (nI (u_134 + 1)) := ey_135.trans (nI_add u_134 1)
                refine va_put (D := (dC, dI)) (ci := 9) (v := .int (nI (u_134 + 1))) (ty := .int) (C := RX9) (T := TX9) (N := 67) hx hb hts hiX9 tyX9 tyX9_ok nmX9 hown hK hP hD hS 0 rfl rfl 46 (by decide) v_11 (fun _ h9 => h9) rfl (by decide +kernel) rfl rfl (Nat.le_of_ble_eq_true rfl) dX9_from_110 (fun H locs hP hD hS => ?_)
                have hP : va_P (dC, dI) vwCl (mo_w ad ck 0 (nI x16) (nI x18) (nI x19) x20 (nI x21) (nI x22) x23 x24 x25 (nI x26) x27 (nI x28) (nI x29) (nI x30) (nI x33) x45 (nI (u_134 + 1)) (nI x52) (nI x53) (nI x61) (nI x62) (nI x63) (nI x65) x66 f1 f2 f3 (bN 3 q4) (bN 7 q5) (bN 7 q6) (bN 4 q7) f8 (bN 2 q9) (bH q10) f11 (b2 m12_0 m12_1) (b2 m13_0 m13_1) (b2 m14_0 m14_1) (b2m m15_0 m15_1) f17 (bA 159 q31) f32 f34 f35 f36 f37 (bN 7 q38) f39 f40 f41 (b2 m42_0 m42_1) f43 f44 f47 f48 f49 f50 f51 (bN 13 q54) (bN 120 q55) (bN 120 q56) f57 (bN 120 q58) f59 f60 f64) H := hP
                have hD : va_D A (mo_w ad ck 0 (nI x16) (nI x18) (nI x19) x20 (nI x21) (nI x22) x23 x24 x25 (nI x26) x27 (nI x28) (nI x29) (nI x30) (nI x33) x45 (nI (u_134 + 1)) (nI x52) (nI x53) (nI x61) (nI x62) (nI x63) (nI x65) x66 f1 f2 f3 (bN 3 q4) (bN 7 q5) (bN 7 q6) (bN 4 q7) f8 (bN 2 q9) (bH q10) f11 (b2 m12_0 m12_1) (b2 m13_0 m13_1) (b2 m14_0 m14_1) (b2m m15_0 m15_1) f17 (bA 159 q31) f32 f34 f35 f36 f37 (bN 7 q38) f39 f40 f41 (b2 m42_0 m42_1) f43 f44 f47 f48 f49 f50 f51 (bN 13 q54) (bN 120 q55) (bN 120 q56) f57 (bN 120 q58) f59 f60 f64) := hD
                refine lv_aload_n hx hb dX9_from_113 rfl (lv_at hl 1 rfl) ?_
                refine lv_iload_n hx hb dX9_from_114 rfl (lv_at hl 3 rfl) ?_
                refine lv_iload_n hx hb dX9_from_115 rfl (lv_at hl 4 rfl) ?_
                refine lv_iload hx hb dX9_from_116 (lv_at hl 5 rfl) ?_
                have hFc := pu_free hD hS hA
                refine va_callv (va_runV (As := [.int (nI n_104), .int p2, .int (nI n_132)]) (rest := []) ⟨hx, hb, hml, hown, hts⟩ (c_M_layPoint l dC dI _ ad ck 0 x16 x18 x19 x20 x21 x22 x23 x24 x25 x26 x27 x28 x29 x30 x33 x45 (u_134 + 1) x52 x53 x61 x62 x63 x65 x66 f1 f2 f3 q4 q5 q6 q7 f8 q9 q10 f11 m12_0 m12_1 m13_0 m13_1 m14_0 m14_1 m15_0 m15_1 f17 q31 f32 f34 f35 f36 f37 q38 f39 f40 f41 m42_0 m42_1 f43 f44 f47 f48 f49 f50 f51 q54 q55 q56 f57 q58 f59 f60 f64 (nI n_104) p2 (nI n_132) hx16 hx18 hx19 hx21 hx22 hx26 hx28 hx29 hx30 hx33 (by omega) hx52 hx53 hx61 hx62 hx63 hx65 hm12_0 hm12_1 hm13_0 hm13_1 hm14_0 hm14_1 hm15_0 hm15_1 hm42_0 hm42_1) (cwV 3 hts g_M_from_M_layPoint rfl rfl rfl (by decide +kernel) ⟨Nat.le_of_ble_eq_true rfl, Nat.le_of_ble_eq_true rfl⟩) ⟨pu_bl, va_recv hK hP (ci := 9) (q0 := 0) rfl rfl, pu_in hP hK hD⟩ rfl rfl hl.1 rfl (lv_room (Nat.le_of_ble_eq_true rfl)) dX9_from_118 ⟨Nat.le_of_ble_eq_true rfl, Nat.le_of_ble_eq_true rfl⟩) hS (fun q _ h => hFc q h) hFc (fun u t H1 locs ht hvm hw hB hz1 hk1 hS => ?_)
                obtain ⟨z35_137, ⟨hP1, -, hD1⟩⟩ := hB
                rw [ht] at hP1
                have hP := hP1
                have hD := pu_all hFc hD1
                clear hP1 hD1 hFc
                clear hk1 hz1 ht hvm
                generalize H1 = H at hP hS ⊢
                refine lv_aload_n hx hb dX9_from_121 rfl (lv_at hl 1 rfl) ?_
                refine lv_iconst (v := 1) hx hb dX9_from_122 (by decide) ?_
                refine lv_iload_n hx hb dX9_from_123 rfl (lv_at hl 2 rfl) ?_
                refine lv_iconst (v := 2) hx hb dX9_from_124 (by decide) ?_
                refine lv_iconst (v := 1) hx hb dX9_from_125 (by decide) ?_
                refine lv_bipush (v := 120) hx hb dX9_from_126 (by decide) ?_
                refine lv_iconst (v := (-1)) hx hb dX9_from_128 (by decide) ?_
                have hFc := pu_free hD hS hA
                refine va_callv (va_runV (As := [.int 1, .int (nI n_2), .int 2, .int 1, .int 120, .int (-1)]) (rest := []) ⟨hx, hb, hml, hown, hts⟩ (c_M_explores_1_120 l dC dI _ ad ck 0 x16 x18 x19 x20 x21 x22 x23 x24 x25 x26 x27 x28 x29 x30 x33 x45 (u_134 + 1) x52 x53 x61 x62 x63 x65 x66 f1 f2 f3 q4 q5 q6 q7 f8 q9 q10 f11 m12_0 m12_1 m13_0 m13_1 m14_0 m14_1 m15_0 m15_1 f17 q31 f32 f34 z35_137 f36 f37 q38 f39 f40 f41 m42_0 m42_1 f43 f44 f47 f48 f49 f50 f51 q54 q55 q56 f57 q58 f59 f60 f64 n_2 2 1 (-1) hx16 hx18 hx19 hx21 hx22 hx26 hx28 hx29 hx30 hx33 (by omega) hx52 hx53 hx61 hx62 hx63 hx65 hm12_0 hm12_1 hm13_0 hm13_1 hm14_0 hm14_1 hm15_0 hm15_1 hm42_0 hm42_1 (by omega) (Nat.le_of_ble_eq_true rfl) (by first | assumption | exact gz_0)) (cwV 6 hts g_M_from_M_explores_1_120 rfl rfl rfl (by decide +kernel) ⟨Nat.le_of_ble_eq_true rfl, Nat.le_of_ble_eq_true rfl⟩) ⟨pu_bl, va_recv hK hP (ci := 9) (q0 := 0) rfl rfl, pu_in hP hK hD⟩ rfl rfl hl.1 rfl (lv_room (Nat.le_of_ble_eq_true rfl)) dX9_from_129 ⟨Nat.le_of_ble_eq_true rfl, Nat.le_of_ble_eq_true rfl⟩) hS (fun q _ h => hFc q h) hFc (fun u t H1 locs ht hvm hw hB hz1 hk1 hS => ?_)
                obtain ⟨z34_139, z35_140, z38_141, z39_142, z40_143, z41_144, z43_145, z44_146, z47_147, z48_148, z42_1_149, ⟨hP1, -, hD1⟩, hz42_1_149, xr_138_0⟩ := hB
                rw [ht] at hP1
                have hP := hP1
                have hD := pu_all hFc hD1
                clear hP1 hD1 hFc
                clear hk1 hz1 ht hvm
                generalize H1 = H at hP hS ⊢
                refine lv_aload_n hx hb dX9_from_132 rfl (lv_at hl 1 rfl) ?_
                refine lv_iconst (v := 1) hx hb dX9_from_133 (by decide) ?_
                refine lv_iload hx hb dX9_from_134 (lv_at hl 6 rfl) ?_
                refine va_calli (va_runV (As := [.int 1, .int (nI n_4)]) (rest := []) ⟨hx, hb, hml, hown, hts⟩ (c_M_hasPlace_1 l dC dI _ ad ck 0 x16 x18 x19 x20 x21 x22 x23 x24 x25 x26 x27 x28 x29 x30 x33 x45 (u_134 + 1) x52 x53 x61 x62 x63 x65 x66 f1 f2 f3 q4 q5 q6 q7 f8 q9 q10 f11 m12_0 m12_1 m13_0 m13_1 m14_0 m14_1 m15_0 m15_1 f17 q31 f32 z34_139 z35_140 f36 f37 z38_141 z39_142 z40_143 z41_144 m42_0 z42_1_149 z43_145 z44_146 z47_147 z48_148 f49 f50 f51 q54 q55 q56 f57 q58 f59 f60 f64 (nI n_4) hx16 hx18 hx19 hx21 hx22 hx26 hx28 hx29 hx30 hx33 (by omega) hx52 hx53 hx61 hx62 hx63 hx65 hm12_0 hm12_1 hm13_0 hm13_1 hm14_0 hm14_1 hm15_0 hm15_1 hm42_0 (Nat.le_trans hz42_1_149 (Nat.le_of_ble_eq_true rfl))) (cwV 2 hts g_M_from_M_hasPlace_1 rfl rfl rfl (by decide +kernel) ⟨Nat.le_of_ble_eq_true rfl, Nat.le_of_ble_eq_true rfl⟩) ⟨pu_bl, va_recv hK hP (ci := 9) (q0 := 0) rfl rfl, pu_in hP hK hD⟩ rfl rfl hl.1 rfl (lv_room (Nat.le_of_ble_eq_true rfl)) dX9_from_136 ⟨Nat.le_of_ble_eq_true rfl, Nat.le_of_ble_eq_true rfl⟩) hS (fun q _ h => pu_fr hS hA q h) (pu_fr hS hA) (fun r_150 u t H1 locs ht hvm hw hB hz1 hk1 hS => ?_)
                have hP := pu_keep hP hk1
                clear hk1 hz1 ht hvm
                generalize H1 = H at hP hS ⊢
                obtain ⟨u_151, hu_151, rfl⟩ := hw
                refine lv_if_eq (tgt := 146) hx hb dX9_from_139 (by decide) (fun c_152 => ?_) (fun c_152 => ?_)
                · have c_152 : u_151 = 0 := (nI_eq (a := u_151) (b := 0) (Nat.lt_of_le_of_lt hu_151 (Nat.le_of_ble_eq_true rfl)) (Nat.le_of_ble_eq_true rfl)).mp c_152
                  refine lv_iconst (v := 0) hx hb dX9_from_146 (by decide) ?_
                  exact W.iret (v := 0) hx hb hr (fun t ht hW => ⟨⟨0, (), rfl, trivial, ⟨z34_139, z35_140, z38_141, z39_142, z40_143, z41_144, z43_145, z44_146, z47_147, z48_148, z42_1_149, 0, (u_134 + 1), ⟨by rw [ht]; exact hP, va_K.moved hW.alike hK, hD⟩, (Nat.le_trans hz42_1_149 (Nat.le_of_ble_eq_true rfl)), (by omega), by first | assumption | exact gz_0⟩⟩, hS.F ht⟩) hS.2.2 dX9_from_147
                · have c_152 : ¬ u_151 = 0 := fun z => c_152 ((nI_eq (a := u_151) (b := 0) (Nat.lt_of_le_of_lt hu_151 (Nat.le_of_ble_eq_true rfl)) (Nat.le_of_ble_eq_true rfl)).mpr z)
                  refine lv_iconst (v := 1) hx hb dX9_from_142 (by decide) ?_
                  refine lv_goto (tgt := 147) hx hb dX9_from_143 (by decide) ?_
                  exact W.iret (v := 1) hx hb hr (fun t ht hW => ⟨⟨1, (), rfl, trivial, ⟨z34_139, z35_140, z38_141, z39_142, z40_143, z41_144, z43_145, z44_146, z47_147, z48_148, z42_1_149, 0, (u_134 + 1), ⟨by rw [ht]; exact hP, va_K.moved hW.alike hK, hD⟩, (Nat.le_trans hz42_1_149 (Nat.le_of_ble_eq_true rfl)), (by omega), by first | assumption | exact gz_0⟩⟩, hS.F ht⟩) hS.2.2 dX9_from_147
              · refine lv_if_eq (tgt := 93) hx hb dX9_from_86 (by decide) (fun _ => ?_) (fun z => absurd z (by decide))
                refine lv_iconst (v := 0) hx hb dX9_from_93 (by decide) ?_
                refine lv_istore (lv' := [(6, .int 0), (0, .ref (ad 0)), (1, .int (nI n_2)), (2, .int (nI n_104)), (3, .int p2), (4, .int p3), (5, .int (nI n_4))]) hx hb dX9_from_94 hl (by decide) rfl (fun ls hl => ?_)
                refine lv_iload hx hb dX9_from_96 (lv_at hl 0 rfl) ?_
                refine lv_if_ne (tgt := 103) hx hb dX9_from_98 (by decide) (fun z => absurd z (by decide)) (fun _ => ?_)
                refine lv_iconst (v := (-1)) hx hb dX9_from_101 (by decide) ?_
                exact W.iret (v := (-1)) hx hb hr (fun t ht hW => ⟨⟨(-1), (), rfl, trivial, ⟨f34, f35, q38, f39, f40, f41, f43, f44, f47, f48, m42_1, 0, x46, ⟨by rw [ht]; exact hP, va_K.moved hW.alike hK, hD⟩, hm42_1, hx46, by first | assumption | exact gz_0⟩⟩, hS.F ht⟩) hS.2.2 dX9_from_102
          · have c_107 : ¬ u_106 < 2 := fun z => c_107 ((nI_ltI (a := u_106) (b := 2) (Nat.lt_of_le_of_lt hu_106 (Nat.le_of_ble_eq_true rfl)) (Nat.le_of_ble_eq_true rfl)).mpr z)
            refine lv_iload_n hx hb dX9_from_60 rfl (lv_at hl 4 rfl) ?_
            refine lv_iconst (v := 0) hx hb dX9_from_61 (by decide) ?_
            refine lv_bipush (v := 60) hx hb dX9_from_62 (by decide) ?_
            refine va_calli (va_runS (As := [.int p2, .int 0, .int 60]) (rest := []) ⟨hx, hb, hml, hown, hts⟩ (c_X9_in l dC dI _ p2 0 60) (va_cwS 3 hts g_M_from_X9_in rfl rfl rfl (by decide +kernel) ⟨Nat.le_of_ble_eq_true rfl, Nat.le_of_ble_eq_true rfl⟩) ⟨pu_bl, pu_in (hP.sub [] rfl) (hK.sub [] rfl) (hD.sub [] (by decide) rfl)⟩ rfl rfl hl.1 rfl (lv_room (Nat.le_of_ble_eq_true rfl)) dX9_from_64 ⟨Nat.le_of_ble_eq_true rfl, Nat.le_of_ble_eq_true rfl⟩) hS (fun q _ h => pu_fr hS hA q h) (pu_fr hS hA) (fun r_153 u t H1 locs ht hvm hw hB hz1 hk1 hS => ?_)
            have hP := pu_keep hP hk1
            clear hk1 hz1 ht hvm
            generalize H1 = H at hP hS ⊢
            rcases hw with ⟨rfl, hi1, hi2⟩ | ⟨rfl, hi3⟩
            · obtain ⟨n_154, hn_154, rfl⟩ := pu_in0 (n := 60) (by omega) hi1 hi2
              refine lv_if_eq (tgt := 93) hx hb dX9_from_67 (by decide) (fun z => absurd z (by decide)) (fun _ => ?_)
              refine lv_aload_n hx hb dX9_from_70 rfl (lv_at hl 1 rfl) ?_
              refine va_calli (va_runV (As := []) (rest := []) ⟨hx, hb, hml, hown, hts⟩ (c_M_clocks l dC dI _ ad ck 0 x16 x18 x19 x20 x21 x22 x23 x24 x25 x26 x27 x28 x29 x30 x33 x45 x46 x52 x53 x61 x62 x63 x65 x66 f1 f2 f3 q4 q5 q6 q7 f8 q9 q10 f11 m12_0 m12_1 m13_0 m13_1 m14_0 m14_1 m15_0 m15_1 f17 q31 f32 f34 f35 f36 f37 q38 f39 f40 f41 m42_0 m42_1 f43 f44 f47 f48 f49 f50 f51 q54 q55 q56 f57 q58 f59 f60 f64 hx16 hx18 hx19 hx21 hx22 hx26 hx28 hx29 hx30 hx33 hx46 hx52 hx53 hx61 hx62 hx63 hx65 hm12_0 hm12_1 hm13_0 hm13_1 hm14_0 hm14_1 hm15_0 hm15_1 hm42_0 hm42_1) (cwV 0 hts g_M_from_M_clocks rfl rfl rfl (by decide +kernel) ⟨Nat.le_of_ble_eq_true rfl, Nat.le_of_ble_eq_true rfl⟩) ⟨pu_bl, va_recv hK hP (ci := 9) (q0 := 0) rfl rfl, pu_in hP hK hD⟩ rfl rfl hl.1 rfl (lv_room (Nat.le_of_ble_eq_true rfl)) dX9_from_71 ⟨Nat.le_of_ble_eq_true rfl, Nat.le_of_ble_eq_true rfl⟩) hS (fun q _ h => pu_fr hS hA q h) (pu_fr hS hA) (fun r_155 u t H1 locs ht hvm hw hB hz1 hk1 hS => ?_)
              have hP := pu_keep hP hk1
              clear hk1 hz1 ht hvm
              generalize H1 = H at hP hS ⊢
              obtain ⟨u_156, hu_156, rfl⟩ := hw
              refine lv_iconst (v := 3) hx hb dX9_from_74 (by decide) ?_
              refine lv_icmp_lt (tgt := 89) hx hb dX9_from_75 (by decide) (fun c_157 => ?_) (fun c_157 => ?_)
              · have c_157 : u_156 < 3 := (nI_ltI (a := u_156) (b := 3) (Nat.lt_of_le_of_lt hu_156 (Nat.le_of_ble_eq_true rfl)) (Nat.le_of_ble_eq_true rfl)).mp c_157
                refine lv_iconst (v := 1) hx hb dX9_from_89 (by decide) ?_
                refine lv_goto (tgt := 94) hx hb dX9_from_90 (by decide) ?_
                refine lv_istore (lv' := [(6, .int 1), (0, .ref (ad 0)), (1, .int (nI n_2)), (2, .int (nI n_104)), (3, .int (nI n_154)), (4, .int p3), (5, .int (nI n_4))]) hx hb dX9_from_94 hl (by decide) rfl (fun ls hl => ?_)
                refine lv_iload hx hb dX9_from_96 (lv_at hl 0 rfl) ?_
                refine lv_if_ne (tgt := 103) hx hb dX9_from_98 (by decide) (fun _ => ?_) (fun z => absurd z (by decide))
                refine lv_aload_n hx hb dX9_from_103 rfl (lv_at hl 1 rfl) ?_
                refine lv_aload_n hx hb dX9_from_104 rfl (lv_at hl 1 rfl) ?_
                refine va_calli (va_runV (As := []) (rest := [.ref (ad 0)]) ⟨hx, hb, hml, hown, hts⟩ (c_M_clocks l dC dI _ ad ck 0 x16 x18 x19 x20 x21 x22 x23 x24 x25 x26 x27 x28 x29 x30 x33 x45 x46 x52 x53 x61 x62 x63 x65 x66 f1 f2 f3 q4 q5 q6 q7 f8 q9 q10 f11 m12_0 m12_1 m13_0 m13_1 m14_0 m14_1 m15_0 m15_1 f17 q31 f32 f34 f35 f36 f37 q38 f39 f40 f41 m42_0 m42_1 f43 f44 f47 f48 f49 f50 f51 q54 q55 q56 f57 q58 f59 f60 f64 hx16 hx18 hx19 hx21 hx22 hx26 hx28 hx29 hx30 hx33 hx46 hx52 hx53 hx61 hx62 hx63 hx65 hm12_0 hm12_1 hm13_0 hm13_1 hm14_0 hm14_1 hm15_0 hm15_1 hm42_0 hm42_1) (cwV 0 hts g_M_from_M_clocks rfl rfl rfl (by decide +kernel) ⟨Nat.le_of_ble_eq_true rfl, Nat.le_of_ble_eq_true rfl⟩) ⟨pu_bl, va_recv hK hP (ci := 9) (q0 := 0) rfl rfl, pu_in hP hK hD⟩ rfl rfl hl.1 rfl (lv_room (Nat.le_of_ble_eq_true rfl)) dX9_from_105 ⟨Nat.le_of_ble_eq_true rfl, Nat.le_of_ble_eq_true rfl⟩) hS (fun q _ h => pu_fr hS hA q h) (pu_fr hS hA) (fun r_158 u t H1 locs ht hvm hw hB hz1 hk1 hS => ?_)
                have hP := pu_keep hP hk1
                clear hk1 hz1 ht hvm
                generalize H1 = H at hP hS ⊢
                obtain ⟨u_159, hu_159, rfl⟩ := hw
                refine lv_iconst (v := 1) hx hb dX9_from_108 (by decide) ?_
                refine lv_iadd hx hb dX9_from_109 ?_
                refine lv_topi (fun y_160 ey_160 => ?_)
                obtain rfl : y_160 = (nI (u_159 + 1)) := ey_160.trans (nI_add u_159 1)
                refine va_put (D := (dC, dI)) (ci := 9) (v := .int (nI (u_159 + 1))) (ty := .int) (C := RX9) (T := TX9) (N := 67) hx hb hts hiX9 tyX9 tyX9_ok nmX9 hown hK hP hD hS 0 rfl rfl 46 (by decide) v_11 (fun _ h9 => h9) rfl (by decide +kernel) rfl rfl (Nat.le_of_ble_eq_true rfl) dX9_from_110 (fun H locs hP hD hS => ?_)
                have hP : va_P (dC, dI) vwCl (mo_w ad ck 0 (nI x16) (nI x18) (nI x19) x20 (nI x21) (nI x22) x23 x24 x25 (nI x26) x27 (nI x28) (nI x29) (nI x30) (nI x33) x45 (nI (u_159 + 1)) (nI x52) (nI x53) (nI x61) (nI x62) (nI x63) (nI x65) x66 f1 f2 f3 (bN 3 q4) (bN 7 q5) (bN 7 q6) (bN 4 q7) f8 (bN 2 q9) (bH q10) f11 (b2 m12_0 m12_1) (b2 m13_0 m13_1) (b2 m14_0 m14_1) (b2m m15_0 m15_1) f17 (bA 159 q31) f32 f34 f35 f36 f37 (bN 7 q38) f39 f40 f41 (b2 m42_0 m42_1) f43 f44 f47 f48 f49 f50 f51 (bN 13 q54) (bN 120 q55) (bN 120 q56) f57 (bN 120 q58) f59 f60 f64) H := hP
                have hD : va_D A (mo_w ad ck 0 (nI x16) (nI x18) (nI x19) x20 (nI x21) (nI x22) x23 x24 x25 (nI x26) x27 (nI x28) (nI x29) (nI x30) (nI x33) x45 (nI (u_159 + 1)) (nI x52) (nI x53) (nI x61) (nI x62) (nI x63) (nI x65) x66 f1 f2 f3 (bN 3 q4) (bN 7 q5) (bN 7 q6) (bN 4 q7) f8 (bN 2 q9) (bH q10) f11 (b2 m12_0 m12_1) (b2 m13_0 m13_1) (b2 m14_0 m14_1) (b2m m15_0 m15_1) f17 (bA 159 q31) f32 f34 f35 f36 f37 (bN 7 q38) f39 f40 f41 (b2 m42_0 m42_1) f43 f44 f47 f48 f49 f50 f51 (bN 13 q54) (bN 120 q55) (bN 120 q56) f57 (bN 120 q58) f59 f60 f64) := hD
                refine lv_aload_n hx hb dX9_from_113 rfl (lv_at hl 1 rfl) ?_
                refine lv_iload_n hx hb dX9_from_114 rfl (lv_at hl 3 rfl) ?_
                refine lv_iload_n hx hb dX9_from_115 rfl (lv_at hl 4 rfl) ?_
                refine lv_iload hx hb dX9_from_116 (lv_at hl 5 rfl) ?_
                have hFc := pu_free hD hS hA
                refine va_callv (va_runV (As := [.int (nI n_104), .int (nI n_154), .int p3]) (rest := []) ⟨hx, hb, hml, hown, hts⟩ (c_M_layPoint l dC dI _ ad ck 0 x16 x18 x19 x20 x21 x22 x23 x24 x25 x26 x27 x28 x29 x30 x33 x45 (u_159 + 1) x52 x53 x61 x62 x63 x65 x66 f1 f2 f3 q4 q5 q6 q7 f8 q9 q10 f11 m12_0 m12_1 m13_0 m13_1 m14_0 m14_1 m15_0 m15_1 f17 q31 f32 f34 f35 f36 f37 q38 f39 f40 f41 m42_0 m42_1 f43 f44 f47 f48 f49 f50 f51 q54 q55 q56 f57 q58 f59 f60 f64 (nI n_104) (nI n_154) p3 hx16 hx18 hx19 hx21 hx22 hx26 hx28 hx29 hx30 hx33 (by omega) hx52 hx53 hx61 hx62 hx63 hx65 hm12_0 hm12_1 hm13_0 hm13_1 hm14_0 hm14_1 hm15_0 hm15_1 hm42_0 hm42_1) (cwV 3 hts g_M_from_M_layPoint rfl rfl rfl (by decide +kernel) ⟨Nat.le_of_ble_eq_true rfl, Nat.le_of_ble_eq_true rfl⟩) ⟨pu_bl, va_recv hK hP (ci := 9) (q0 := 0) rfl rfl, pu_in hP hK hD⟩ rfl rfl hl.1 rfl (lv_room (Nat.le_of_ble_eq_true rfl)) dX9_from_118 ⟨Nat.le_of_ble_eq_true rfl, Nat.le_of_ble_eq_true rfl⟩) hS (fun q _ h => hFc q h) hFc (fun u t H1 locs ht hvm hw hB hz1 hk1 hS => ?_)
                obtain ⟨z35_162, ⟨hP1, -, hD1⟩⟩ := hB
                rw [ht] at hP1
                have hP := hP1
                have hD := pu_all hFc hD1
                clear hP1 hD1 hFc
                clear hk1 hz1 ht hvm
                generalize H1 = H at hP hS ⊢
                refine lv_aload_n hx hb dX9_from_121 rfl (lv_at hl 1 rfl) ?_
                refine lv_iconst (v := 1) hx hb dX9_from_122 (by decide) ?_
                refine lv_iload_n hx hb dX9_from_123 rfl (lv_at hl 2 rfl) ?_
                refine lv_iconst (v := 2) hx hb dX9_from_124 (by decide) ?_
                refine lv_iconst (v := 1) hx hb dX9_from_125 (by decide) ?_
                refine lv_bipush (v := 120) hx hb dX9_from_126 (by decide) ?_
                refine lv_iconst (v := (-1)) hx hb dX9_from_128 (by decide) ?_
                have hFc := pu_free hD hS hA
                refine va_callv (va_runV (As := [.int 1, .int (nI n_2), .int 2, .int 1, .int 120, .int (-1)]) (rest := []) ⟨hx, hb, hml, hown, hts⟩ (c_M_explores_1_120 l dC dI _ ad ck 0 x16 x18 x19 x20 x21 x22 x23 x24 x25 x26 x27 x28 x29 x30 x33 x45 (u_159 + 1) x52 x53 x61 x62 x63 x65 x66 f1 f2 f3 q4 q5 q6 q7 f8 q9 q10 f11 m12_0 m12_1 m13_0 m13_1 m14_0 m14_1 m15_0 m15_1 f17 q31 f32 f34 z35_162 f36 f37 q38 f39 f40 f41 m42_0 m42_1 f43 f44 f47 f48 f49 f50 f51 q54 q55 q56 f57 q58 f59 f60 f64 n_2 2 1 (-1) hx16 hx18 hx19 hx21 hx22 hx26 hx28 hx29 hx30 hx33 (by omega) hx52 hx53 hx61 hx62 hx63 hx65 hm12_0 hm12_1 hm13_0 hm13_1 hm14_0 hm14_1 hm15_0 hm15_1 hm42_0 hm42_1 (by omega) (Nat.le_of_ble_eq_true rfl) (by first | assumption | exact gz_0)) (cwV 6 hts g_M_from_M_explores_1_120 rfl rfl rfl (by decide +kernel) ⟨Nat.le_of_ble_eq_true rfl, Nat.le_of_ble_eq_true rfl⟩) ⟨pu_bl, va_recv hK hP (ci := 9) (q0 := 0) rfl rfl, pu_in hP hK hD⟩ rfl rfl hl.1 rfl (lv_room (Nat.le_of_ble_eq_true rfl)) dX9_from_129 ⟨Nat.le_of_ble_eq_true rfl, Nat.le_of_ble_eq_true rfl⟩) hS (fun q _ h => hFc q h) hFc (fun u t H1 locs ht hvm hw hB hz1 hk1 hS => ?_)
                obtain ⟨z34_164, z35_165, z38_166, z39_167, z40_168, z41_169, z43_170, z44_171, z47_172, z48_173, z42_1_174, ⟨hP1, -, hD1⟩, hz42_1_174, xr_163_0⟩ := hB
                rw [ht] at hP1
                have hP := hP1
                have hD := pu_all hFc hD1
                clear hP1 hD1 hFc
                clear hk1 hz1 ht hvm
                generalize H1 = H at hP hS ⊢
                refine lv_aload_n hx hb dX9_from_132 rfl (lv_at hl 1 rfl) ?_
                refine lv_iconst (v := 1) hx hb dX9_from_133 (by decide) ?_
                refine lv_iload hx hb dX9_from_134 (lv_at hl 6 rfl) ?_
                refine va_calli (va_runV (As := [.int 1, .int (nI n_4)]) (rest := []) ⟨hx, hb, hml, hown, hts⟩ (c_M_hasPlace_1 l dC dI _ ad ck 0 x16 x18 x19 x20 x21 x22 x23 x24 x25 x26 x27 x28 x29 x30 x33 x45 (u_159 + 1) x52 x53 x61 x62 x63 x65 x66 f1 f2 f3 q4 q5 q6 q7 f8 q9 q10 f11 m12_0 m12_1 m13_0 m13_1 m14_0 m14_1 m15_0 m15_1 f17 q31 f32 z34_164 z35_165 f36 f37 z38_166 z39_167 z40_168 z41_169 m42_0 z42_1_174 z43_170 z44_171 z47_172 z48_173 f49 f50 f51 q54 q55 q56 f57 q58 f59 f60 f64 (nI n_4) hx16 hx18 hx19 hx21 hx22 hx26 hx28 hx29 hx30 hx33 (by omega) hx52 hx53 hx61 hx62 hx63 hx65 hm12_0 hm12_1 hm13_0 hm13_1 hm14_0 hm14_1 hm15_0 hm15_1 hm42_0 (Nat.le_trans hz42_1_174 (Nat.le_of_ble_eq_true rfl))) (cwV 2 hts g_M_from_M_hasPlace_1 rfl rfl rfl (by decide +kernel) ⟨Nat.le_of_ble_eq_true rfl, Nat.le_of_ble_eq_true rfl⟩) ⟨pu_bl, va_recv hK hP (ci := 9) (q0 := 0) rfl rfl, pu_in hP hK hD⟩ rfl rfl hl.1 rfl (lv_room (Nat.le_of_ble_eq_true rfl)) dX9_from_136 ⟨Nat.le_of_ble_eq_true rfl, Nat.le_of_ble_eq_true rfl⟩) hS (fun q _ h => pu_fr hS hA q h) (pu_fr hS hA) (fun r_175 u t H1 locs ht hvm hw hB hz1 hk1 hS => ?_)
                have hP := pu_keep hP hk1
                clear hk1 hz1 ht hvm
                generalize H1 = H at hP hS ⊢
                obtain ⟨u_176, hu_176, rfl⟩ := hw
                refine lv_if_eq (tgt := 146) hx hb dX9_from_139 (by decide) (fun c_177 => ?_) (fun c_177 => ?_)
                · have c_177 : u_176 = 0 := (nI_eq (a := u_176) (b := 0) (Nat.lt_of_le_of_lt hu_176 (Nat.le_of_ble_eq_true rfl)) (Nat.le_of_ble_eq_true rfl)).mp c_177
                  refine lv_iconst (v := 0) hx hb dX9_from_146 (by decide) ?_
                  exact W.iret (v := 0) hx hb hr (fun t ht hW => ⟨⟨0, (), rfl, trivial, ⟨z34_164, z35_165, z38_166, z39_167, z40_168, z41_169, z43_170, z44_171, z47_172, z48_173, z42_1_174, 0, (u_159 + 1), ⟨by rw [ht]; exact hP, va_K.moved hW.alike hK, hD⟩, (Nat.le_trans hz42_1_174 (Nat.le_of_ble_eq_true rfl)), (by omega), by first | assumption | exact gz_0⟩⟩, hS.F ht⟩) hS.2.2 dX9_from_147
                · have c_177 : ¬ u_176 = 0 := fun z => c_177 ((nI_eq (a := u_176) (b := 0) (Nat.lt_of_le_of_lt hu_176 (Nat.le_of_ble_eq_true rfl)) (Nat.le_of_ble_eq_true rfl)).mpr z)
                  refine lv_iconst (v := 1) hx hb dX9_from_142 (by decide) ?_
                  refine lv_goto (tgt := 147) hx hb dX9_from_143 (by decide) ?_
                  exact W.iret (v := 1) hx hb hr (fun t ht hW => ⟨⟨1, (), rfl, trivial, ⟨z34_164, z35_165, z38_166, z39_167, z40_168, z41_169, z43_170, z44_171, z47_172, z48_173, z42_1_174, 0, (u_159 + 1), ⟨by rw [ht]; exact hP, va_K.moved hW.alike hK, hD⟩, (Nat.le_trans hz42_1_174 (Nat.le_of_ble_eq_true rfl)), (by omega), by first | assumption | exact gz_0⟩⟩, hS.F ht⟩) hS.2.2 dX9_from_147
              · have c_157 : ¬ u_156 < 3 := fun z => c_157 ((nI_ltI (a := u_156) (b := 3) (Nat.lt_of_le_of_lt hu_156 (Nat.le_of_ble_eq_true rfl)) (Nat.le_of_ble_eq_true rfl)).mpr z)
                refine lv_iload hx hb dX9_from_78 (lv_at hl 5 rfl) ?_
                refine lv_iconst (v := 0) hx hb dX9_from_80 (by decide) ?_
                refine lv_bipush (v := 60) hx hb dX9_from_81 (by decide) ?_
                refine va_calli (va_runS (As := [.int p3, .int 0, .int 60]) (rest := []) ⟨hx, hb, hml, hown, hts⟩ (c_X9_in l dC dI _ p3 0 60) (va_cwS 3 hts g_M_from_X9_in rfl rfl rfl (by decide +kernel) ⟨Nat.le_of_ble_eq_true rfl, Nat.le_of_ble_eq_true rfl⟩) ⟨pu_bl, pu_in (hP.sub [] rfl) (hK.sub [] rfl) (hD.sub [] (by decide) rfl)⟩ rfl rfl hl.1 rfl (lv_room (Nat.le_of_ble_eq_true rfl)) dX9_from_83 ⟨Nat.le_of_ble_eq_true rfl, Nat.le_of_ble_eq_true rfl⟩) hS (fun q _ h => pu_fr hS hA q h) (pu_fr hS hA) (fun r_178 u t H1 locs ht hvm hw hB hz1 hk1 hS => ?_)
                have hP := pu_keep hP hk1
                clear hk1 hz1 ht hvm
                generalize H1 = H at hP hS ⊢
                rcases hw with ⟨rfl, hi1, hi2⟩ | ⟨rfl, hi3⟩
                · obtain ⟨n_179, hn_179, rfl⟩ := pu_in0 (n := 60) (by omega) hi1 hi2
                  refine lv_if_eq (tgt := 93) hx hb dX9_from_86 (by decide) (fun z => absurd z (by decide)) (fun _ => ?_)
                  refine lv_iconst (v := 1) hx hb dX9_from_89 (by decide) ?_
                  refine lv_goto (tgt := 94) hx hb dX9_from_90 (by decide) ?_
                  refine lv_istore (lv' := [(6, .int 1), (0, .ref (ad 0)), (1, .int (nI n_2)), (2, .int (nI n_104)), (3, .int (nI n_154)), (4, .int (nI n_179)), (5, .int (nI n_4))]) hx hb dX9_from_94 hl (by decide) rfl (fun ls hl => ?_)
                  refine lv_iload hx hb dX9_from_96 (lv_at hl 0 rfl) ?_
                  refine lv_if_ne (tgt := 103) hx hb dX9_from_98 (by decide) (fun _ => ?_) (fun z => absurd z (by decide))
                  refine lv_aload_n hx hb dX9_from_103 rfl (lv_at hl 1 rfl) ?_
                  refine lv_aload_n hx hb dX9_from_104 rfl (lv_at hl 1 rfl) ?_
                  refine va_calli (va_runV (As := []) (rest := [.ref (ad 0)]) ⟨hx, hb, hml, hown, hts⟩ (c_M_clocks l dC dI _ ad ck 0 x16 x18 x19 x20 x21 x22 x23 x24 x25 x26 x27 x28 x29 x30 x33 x45 x46 x52 x53 x61 x62 x63 x65 x66 f1 f2 f3 q4 q5 q6 q7 f8 q9 q10 f11 m12_0 m12_1 m13_0 m13_1 m14_0 m14_1 m15_0 m15_1 f17 q31 f32 f34 f35 f36 f37 q38 f39 f40 f41 m42_0 m42_1 f43 f44 f47 f48 f49 f50 f51 q54 q55 q56 f57 q58 f59 f60 f64 hx16 hx18 hx19 hx21 hx22 hx26 hx28 hx29 hx30 hx33 hx46 hx52 hx53 hx61 hx62 hx63 hx65 hm12_0 hm12_1 hm13_0 hm13_1 hm14_0 hm14_1 hm15_0 hm15_1 hm42_0 hm42_1) (cwV 0 hts g_M_from_M_clocks rfl rfl rfl (by decide +kernel) ⟨Nat.le_of_ble_eq_true rfl, Nat.le_of_ble_eq_true rfl⟩) ⟨pu_bl, va_recv hK hP (ci := 9) (q0 := 0) rfl rfl, pu_in hP hK hD⟩ rfl rfl hl.1 rfl (lv_room (Nat.le_of_ble_eq_true rfl)) dX9_from_105 ⟨Nat.le_of_ble_eq_true rfl, Nat.le_of_ble_eq_true rfl⟩) hS (fun q _ h => pu_fr hS hA q h) (pu_fr hS hA) (fun r_180 u t H1 locs ht hvm hw hB hz1 hk1 hS => ?_)
                  have hP := pu_keep hP hk1
                  clear hk1 hz1 ht hvm
                  generalize H1 = H at hP hS ⊢
                  obtain ⟨u_181, hu_181, rfl⟩ := hw
                  refine lv_iconst (v := 1) hx hb dX9_from_108 (by decide) ?_
                  refine lv_iadd hx hb dX9_from_109 ?_
                  refine lv_topi (fun y_182 ey_182 => ?_)
                  obtain rfl : y_182 = (nI (u_181 + 1)) := ey_182.trans (nI_add u_181 1)
                  refine va_put (D := (dC, dI)) (ci := 9) (v := .int (nI (u_181 + 1))) (ty := .int) (C := RX9) (T := TX9) (N := 67) hx hb hts hiX9 tyX9 tyX9_ok nmX9 hown hK hP hD hS 0 rfl rfl 46 (by decide) v_11 (fun _ h9 => h9) rfl (by decide +kernel) rfl rfl (Nat.le_of_ble_eq_true rfl) dX9_from_110 (fun H locs hP hD hS => ?_)
                  have hP : va_P (dC, dI) vwCl (mo_w ad ck 0 (nI x16) (nI x18) (nI x19) x20 (nI x21) (nI x22) x23 x24 x25 (nI x26) x27 (nI x28) (nI x29) (nI x30) (nI x33) x45 (nI (u_181 + 1)) (nI x52) (nI x53) (nI x61) (nI x62) (nI x63) (nI x65) x66 f1 f2 f3 (bN 3 q4) (bN 7 q5) (bN 7 q6) (bN 4 q7) f8 (bN 2 q9) (bH q10) f11 (b2 m12_0 m12_1) (b2 m13_0 m13_1) (b2 m14_0 m14_1) (b2m m15_0 m15_1) f17 (bA 159 q31) f32 f34 f35 f36 f37 (bN 7 q38) f39 f40 f41 (b2 m42_0 m42_1) f43 f44 f47 f48 f49 f50 f51 (bN 13 q54) (bN 120 q55) (bN 120 q56) f57 (bN 120 q58) f59 f60 f64) H := hP
                  have hD : va_D A (mo_w ad ck 0 (nI x16) (nI x18) (nI x19) x20 (nI x21) (nI x22) x23 x24 x25 (nI x26) x27 (nI x28) (nI x29) (nI x30) (nI x33) x45 (nI (u_181 + 1)) (nI x52) (nI x53) (nI x61) (nI x62) (nI x63) (nI x65) x66 f1 f2 f3 (bN 3 q4) (bN 7 q5) (bN 7 q6) (bN 4 q7) f8 (bN 2 q9) (bH q10) f11 (b2 m12_0 m12_1) (b2 m13_0 m13_1) (b2 m14_0 m14_1) (b2m m15_0 m15_1) f17 (bA 159 q31) f32 f34 f35 f36 f37 (bN 7 q38) f39 f40 f41 (b2 m42_0 m42_1) f43 f44 f47 f48 f49 f50 f51 (bN 13 q54) (bN 120 q55) (bN 120 q56) f57 (bN 120 q58) f59 f60 f64) := hD
                  refine lv_aload_n hx hb dX9_from_113 rfl (lv_at hl 1 rfl) ?_
                  refine lv_iload_n hx hb dX9_from_114 rfl (lv_at hl 3 rfl) ?_
                  refine lv_iload_n hx hb dX9_from_115 rfl (lv_at hl 4 rfl) ?_
                  refine lv_iload hx hb dX9_from_116 (lv_at hl 5 rfl) ?_
                  have hFc := pu_free hD hS hA
                  refine va_callv (va_runV (As := [.int (nI n_104), .int (nI n_154), .int (nI n_179)]) (rest := []) ⟨hx, hb, hml, hown, hts⟩ (c_M_layPoint l dC dI _ ad ck 0 x16 x18 x19 x20 x21 x22 x23 x24 x25 x26 x27 x28 x29 x30 x33 x45 (u_181 + 1) x52 x53 x61 x62 x63 x65 x66 f1 f2 f3 q4 q5 q6 q7 f8 q9 q10 f11 m12_0 m12_1 m13_0 m13_1 m14_0 m14_1 m15_0 m15_1 f17 q31 f32 f34 f35 f36 f37 q38 f39 f40 f41 m42_0 m42_1 f43 f44 f47 f48 f49 f50 f51 q54 q55 q56 f57 q58 f59 f60 f64 (nI n_104) (nI n_154) (nI n_179) hx16 hx18 hx19 hx21 hx22 hx26 hx28 hx29 hx30 hx33 (by omega) hx52 hx53 hx61 hx62 hx63 hx65 hm12_0 hm12_1 hm13_0 hm13_1 hm14_0 hm14_1 hm15_0 hm15_1 hm42_0 hm42_1) (cwV 3 hts g_M_from_M_layPoint rfl rfl rfl (by decide +kernel) ⟨Nat.le_of_ble_eq_true rfl, Nat.le_of_ble_eq_true rfl⟩) ⟨pu_bl, va_recv hK hP (ci := 9) (q0 := 0) rfl rfl, pu_in hP hK hD⟩ rfl rfl hl.1 rfl (lv_room (Nat.le_of_ble_eq_true rfl)) dX9_from_118 ⟨Nat.le_of_ble_eq_true rfl, Nat.le_of_ble_eq_true rfl⟩) hS (fun q _ h => hFc q h) hFc (fun u t H1 locs ht hvm hw hB hz1 hk1 hS => ?_)
                  obtain ⟨z35_184, ⟨hP1, -, hD1⟩⟩ := hB
                  rw [ht] at hP1
                  have hP := hP1
                  have hD := pu_all hFc hD1
                  clear hP1 hD1 hFc
                  clear hk1 hz1 ht hvm
                  generalize H1 = H at hP hS ⊢
                  refine lv_aload_n hx hb dX9_from_121 rfl (lv_at hl 1 rfl) ?_
                  refine lv_iconst (v := 1) hx hb dX9_from_122 (by decide) ?_
                  refine lv_iload_n hx hb dX9_from_123 rfl (lv_at hl 2 rfl) ?_
                  refine lv_iconst (v := 2) hx hb dX9_from_124 (by decide) ?_
                  refine lv_iconst (v := 1) hx hb dX9_from_125 (by decide) ?_
                  refine lv_bipush (v := 120) hx hb dX9_from_126 (by decide) ?_
                  refine lv_iconst (v := (-1)) hx hb dX9_from_128 (by decide) ?_
                  have hFc := pu_free hD hS hA
                  refine va_callv (va_runV (As := [.int 1, .int (nI n_2), .int 2, .int 1, .int 120, .int (-1)]) (rest := []) ⟨hx, hb, hml, hown, hts⟩ (c_M_explores_1_120 l dC dI _ ad ck 0 x16 x18 x19 x20 x21 x22 x23 x24 x25 x26 x27 x28 x29 x30 x33 x45 (u_181 + 1) x52 x53 x61 x62 x63 x65 x66 f1 f2 f3 q4 q5 q6 q7 f8 q9 q10 f11 m12_0 m12_1 m13_0 m13_1 m14_0 m14_1 m15_0 m15_1 f17 q31 f32 f34 z35_184 f36 f37 q38 f39 f40 f41 m42_0 m42_1 f43 f44 f47 f48 f49 f50 f51 q54 q55 q56 f57 q58 f59 f60 f64 n_2 2 1 (-1) hx16 hx18 hx19 hx21 hx22 hx26 hx28 hx29 hx30 hx33 (by omega) hx52 hx53 hx61 hx62 hx63 hx65 hm12_0 hm12_1 hm13_0 hm13_1 hm14_0 hm14_1 hm15_0 hm15_1 hm42_0 hm42_1 (by omega) (Nat.le_of_ble_eq_true rfl) (by first | assumption | exact gz_0)) (cwV 6 hts g_M_from_M_explores_1_120 rfl rfl rfl (by decide +kernel) ⟨Nat.le_of_ble_eq_true rfl, Nat.le_of_ble_eq_true rfl⟩) ⟨pu_bl, va_recv hK hP (ci := 9) (q0 := 0) rfl rfl, pu_in hP hK hD⟩ rfl rfl hl.1 rfl (lv_room (Nat.le_of_ble_eq_true rfl)) dX9_from_129 ⟨Nat.le_of_ble_eq_true rfl, Nat.le_of_ble_eq_true rfl⟩) hS (fun q _ h => hFc q h) hFc (fun u t H1 locs ht hvm hw hB hz1 hk1 hS => ?_)
                  obtain ⟨z34_186, z35_187, z38_188, z39_189, z40_190, z41_191, z43_192, z44_193, z47_194, z48_195, z42_1_196, ⟨hP1, -, hD1⟩, hz42_1_196, xr_185_0⟩ := hB
                  rw [ht] at hP1
                  have hP := hP1
                  have hD := pu_all hFc hD1
                  clear hP1 hD1 hFc
                  clear hk1 hz1 ht hvm
                  generalize H1 = H at hP hS ⊢
                  refine lv_aload_n hx hb dX9_from_132 rfl (lv_at hl 1 rfl) ?_
                  refine lv_iconst (v := 1) hx hb dX9_from_133 (by decide) ?_
                  refine lv_iload hx hb dX9_from_134 (lv_at hl 6 rfl) ?_
                  refine va_calli (va_runV (As := [.int 1, .int (nI n_4)]) (rest := []) ⟨hx, hb, hml, hown, hts⟩ (c_M_hasPlace_1 l dC dI _ ad ck 0 x16 x18 x19 x20 x21 x22 x23 x24 x25 x26 x27 x28 x29 x30 x33 x45 (u_181 + 1) x52 x53 x61 x62 x63 x65 x66 f1 f2 f3 q4 q5 q6 q7 f8 q9 q10 f11 m12_0 m12_1 m13_0 m13_1 m14_0 m14_1 m15_0 m15_1 f17 q31 f32 z34_186 z35_187 f36 f37 z38_188 z39_189 z40_190 z41_191 m42_0 z42_1_196 z43_192 z44_193 z47_194 z48_195 f49 f50 f51 q54 q55 q56 f57 q58 f59 f60 f64 (nI n_4) hx16 hx18 hx19 hx21 hx22 hx26 hx28 hx29 hx30 hx33 (by omega) hx52 hx53 hx61 hx62 hx63 hx65 hm12_0 hm12_1 hm13_0 hm13_1 hm14_0 hm14_1 hm15_0 hm15_1 hm42_0 (Nat.le_trans hz42_1_196 (Nat.le_of_ble_eq_true rfl))) (cwV 2 hts g_M_from_M_hasPlace_1 rfl rfl rfl (by decide +kernel) ⟨Nat.le_of_ble_eq_true rfl, Nat.le_of_ble_eq_true rfl⟩) ⟨pu_bl, va_recv hK hP (ci := 9) (q0 := 0) rfl rfl, pu_in hP hK hD⟩ rfl rfl hl.1 rfl (lv_room (Nat.le_of_ble_eq_true rfl)) dX9_from_136 ⟨Nat.le_of_ble_eq_true rfl, Nat.le_of_ble_eq_true rfl⟩) hS (fun q _ h => pu_fr hS hA q h) (pu_fr hS hA) (fun r_197 u t H1 locs ht hvm hw hB hz1 hk1 hS => ?_)
                  have hP := pu_keep hP hk1
                  clear hk1 hz1 ht hvm
                  generalize H1 = H at hP hS ⊢
                  obtain ⟨u_198, hu_198, rfl⟩ := hw
                  refine lv_if_eq (tgt := 146) hx hb dX9_from_139 (by decide) (fun c_199 => ?_) (fun c_199 => ?_)
                  · have c_199 : u_198 = 0 := (nI_eq (a := u_198) (b := 0) (Nat.lt_of_le_of_lt hu_198 (Nat.le_of_ble_eq_true rfl)) (Nat.le_of_ble_eq_true rfl)).mp c_199
                    refine lv_iconst (v := 0) hx hb dX9_from_146 (by decide) ?_
                    exact W.iret (v := 0) hx hb hr (fun t ht hW => ⟨⟨0, (), rfl, trivial, ⟨z34_186, z35_187, z38_188, z39_189, z40_190, z41_191, z43_192, z44_193, z47_194, z48_195, z42_1_196, 0, (u_181 + 1), ⟨by rw [ht]; exact hP, va_K.moved hW.alike hK, hD⟩, (Nat.le_trans hz42_1_196 (Nat.le_of_ble_eq_true rfl)), (by omega), by first | assumption | exact gz_0⟩⟩, hS.F ht⟩) hS.2.2 dX9_from_147
                  · have c_199 : ¬ u_198 = 0 := fun z => c_199 ((nI_eq (a := u_198) (b := 0) (Nat.lt_of_le_of_lt hu_198 (Nat.le_of_ble_eq_true rfl)) (Nat.le_of_ble_eq_true rfl)).mpr z)
                    refine lv_iconst (v := 1) hx hb dX9_from_142 (by decide) ?_
                    refine lv_goto (tgt := 147) hx hb dX9_from_143 (by decide) ?_
                    exact W.iret (v := 1) hx hb hr (fun t ht hW => ⟨⟨1, (), rfl, trivial, ⟨z34_186, z35_187, z38_188, z39_189, z40_190, z41_191, z43_192, z44_193, z47_194, z48_195, z42_1_196, 0, (u_181 + 1), ⟨by rw [ht]; exact hP, va_K.moved hW.alike hK, hD⟩, (Nat.le_trans hz42_1_196 (Nat.le_of_ble_eq_true rfl)), (by omega), by first | assumption | exact gz_0⟩⟩, hS.F ht⟩) hS.2.2 dX9_from_147
                · refine lv_if_eq (tgt := 93) hx hb dX9_from_86 (by decide) (fun _ => ?_) (fun z => absurd z (by decide))
                  refine lv_iconst (v := 0) hx hb dX9_from_93 (by decide) ?_
                  refine lv_istore (lv' := [(6, .int 0), (0, .ref (ad 0)), (1, .int (nI n_2)), (2, .int (nI n_104)), (3, .int (nI n_154)), (4, .int p3), (5, .int (nI n_4))]) hx hb dX9_from_94 hl (by decide) rfl (fun ls hl => ?_)
                  refine lv_iload hx hb dX9_from_96 (lv_at hl 0 rfl) ?_
                  refine lv_if_ne (tgt := 103) hx hb dX9_from_98 (by decide) (fun z => absurd z (by decide)) (fun _ => ?_)
                  refine lv_iconst (v := (-1)) hx hb dX9_from_101 (by decide) ?_
                  exact W.iret (v := (-1)) hx hb hr (fun t ht hW => ⟨⟨(-1), (), rfl, trivial, ⟨f34, f35, q38, f39, f40, f41, f43, f44, f47, f48, m42_1, 0, x46, ⟨by rw [ht]; exact hP, va_K.moved hW.alike hK, hD⟩, hm42_1, hx46, by first | assumption | exact gz_0⟩⟩, hS.F ht⟩) hS.2.2 dX9_from_102
            · refine lv_if_eq (tgt := 93) hx hb dX9_from_67 (by decide) (fun _ => ?_) (fun z => absurd z (by decide))
              refine lv_iconst (v := 0) hx hb dX9_from_93 (by decide) ?_
              refine lv_istore (lv' := [(6, .int 0), (0, .ref (ad 0)), (1, .int (nI n_2)), (2, .int (nI n_104)), (3, .int p2), (4, .int p3), (5, .int (nI n_4))]) hx hb dX9_from_94 hl (by decide) rfl (fun ls hl => ?_)
              refine lv_iload hx hb dX9_from_96 (lv_at hl 0 rfl) ?_
              refine lv_if_ne (tgt := 103) hx hb dX9_from_98 (by decide) (fun z => absurd z (by decide)) (fun _ => ?_)
              refine lv_iconst (v := (-1)) hx hb dX9_from_101 (by decide) ?_
              exact W.iret (v := (-1)) hx hb hr (fun t ht hW => ⟨⟨(-1), (), rfl, trivial, ⟨f34, f35, q38, f39, f40, f41, f43, f44, f47, f48, m42_1, 0, x46, ⟨by rw [ht]; exact hP, va_K.moved hW.alike hK, hD⟩, hm42_1, hx46, by first | assumption | exact gz_0⟩⟩, hS.F ht⟩) hS.2.2 dX9_from_102
        · refine lv_if_eq (tgt := 93) hx hb dX9_from_49 (by decide) (fun _ => ?_) (fun z => absurd z (by decide))
          refine lv_iconst (v := 0) hx hb dX9_from_93 (by decide) ?_
          refine lv_istore (lv' := [(6, .int 0), (0, .ref (ad 0)), (1, .int (nI n_2)), (2, .int p1), (3, .int p2), (4, .int p3), (5, .int (nI n_4))]) hx hb dX9_from_94 hl (by decide) rfl (fun ls hl => ?_)
          refine lv_iload hx hb dX9_from_96 (lv_at hl 0 rfl) ?_
          refine lv_if_ne (tgt := 103) hx hb dX9_from_98 (by decide) (fun z => absurd z (by decide)) (fun _ => ?_)
          refine lv_iconst (v := (-1)) hx hb dX9_from_101 (by decide) ?_
          exact W.iret (v := (-1)) hx hb hr (fun t ht hW => ⟨⟨(-1), (), rfl, trivial, ⟨f34, f35, q38, f39, f40, f41, f43, f44, f47, f48, m42_1, 0, x46, ⟨by rw [ht]; exact hP, va_K.moved hW.alike hK, hD⟩, hm42_1, hx46, by first | assumption | exact gz_0⟩⟩, hS.F ht⟩) hS.2.2 dX9_from_102
    · refine lv_if_eq (tgt := 26) hx hb dX9_from_19 (by decide) (fun _ => ?_) (fun z => absurd z (by decide))
      refine lv_iconst (v := 0) hx hb dX9_from_26 (by decide) ?_
      refine lv_istore (lv' := [(6, .int 0), (0, .ref (ad 0)), (1, .int (nI n_2)), (2, .int p1), (3, .int p2), (4, .int p3), (5, .int p4)]) hx hb dX9_from_27 hl (by decide) rfl (fun ls hl => ?_)
      refine lv_iload hx hb dX9_from_29 (lv_at hl 0 rfl) ?_
      refine lv_if_eq (tgt := 93) hx hb dX9_from_31 (by decide) (fun _ => ?_) (fun z => absurd z (by decide))
      refine lv_iconst (v := 0) hx hb dX9_from_93 (by decide) ?_
      refine lv_istore (lv' := [(6, .int 0), (0, .ref (ad 0)), (1, .int (nI n_2)), (2, .int p1), (3, .int p2), (4, .int p3), (5, .int p4)]) hx hb dX9_from_94 hl (by decide) rfl (fun ls hl => ?_)
      refine lv_iload hx hb dX9_from_96 (lv_at hl 0 rfl) ?_
      refine lv_if_ne (tgt := 103) hx hb dX9_from_98 (by decide) (fun z => absurd z (by decide)) (fun _ => ?_)
      refine lv_iconst (v := (-1)) hx hb dX9_from_101 (by decide) ?_
      exact W.iret (v := (-1)) hx hb hr (fun t ht hW => ⟨⟨(-1), (), rfl, trivial, ⟨f34, f35, q38, f39, f40, f41, f43, f44, f47, f48, m42_1, 0, x46, ⟨by rw [ht]; exact hP, va_K.moved hW.alike hK, hD⟩, hm42_1, hx46, by first | assumption | exact gz_0⟩⟩, hS.F ht⟩) hS.2.2 dX9_from_102
  · refine lv_if_eq (tgt := 26) hx hb dX9_from_10 (by decide) (fun _ => ?_) (fun z => absurd z (by decide))
    refine lv_iconst (v := 0) hx hb dX9_from_26 (by decide) ?_
    refine lv_istore (lv' := [(6, .int 0), (0, .ref (ad 0)), (1, .int p0), (2, .int p1), (3, .int p2), (4, .int p3), (5, .int p4)]) hx hb dX9_from_27 hl (by decide) rfl (fun ls hl => ?_)
    refine lv_iload hx hb dX9_from_29 (lv_at hl 0 rfl) ?_
    refine lv_if_eq (tgt := 93) hx hb dX9_from_31 (by decide) (fun _ => ?_) (fun z => absurd z (by decide))
    refine lv_iconst (v := 0) hx hb dX9_from_93 (by decide) ?_
    refine lv_istore (lv' := [(6, .int 0), (0, .ref (ad 0)), (1, .int p0), (2, .int p1), (3, .int p2), (4, .int p3), (5, .int p4)]) hx hb dX9_from_94 hl (by decide) rfl (fun ls hl => ?_)
    refine lv_iload hx hb dX9_from_96 (lv_at hl 0 rfl) ?_
    refine lv_if_ne (tgt := 103) hx hb dX9_from_98 (by decide) (fun z => absurd z (by decide)) (fun _ => ?_)
    refine lv_iconst (v := (-1)) hx hb dX9_from_101 (by decide) ?_
    exact W.iret (v := (-1)) hx hb hr (fun t ht hW => ⟨⟨(-1), (), rfl, trivial, ⟨f34, f35, q38, f39, f40, f41, f43, f44, f47, f48, m42_1, 0, x46, ⟨by rw [ht]; exact hP, va_K.moved hW.alike hK, hD⟩, hm42_1, hx46, by first | assumption | exact gz_0⟩⟩, hS.F ht⟩) hS.2.2 dX9_from_102
theorem dX9_avoids_0 : decode cX9_avoids 0 = .ok (.aload_n 0, 1) := by decide +kernel
theorem dX9_avoids_1 : decode cX9_avoids 1 = .ok (.iconst 0, 1) := by decide +kernel
theorem dX9_avoids_2 : decode cX9_avoids 2 = .ok (.putfield 142, 3) := by decide +kernel
theorem dX9_avoids_5 : decode cX9_avoids 5 = .ok (.aload_n 0, 1) := by decide +kernel
theorem dX9_avoids_6 : decode cX9_avoids 6 = .ok (.iload_n 1, 1) := by decide +kernel
theorem dX9_avoids_7 : decode cX9_avoids 7 = .ok (.invokevirtual 286, 3) := by decide +kernel
theorem dX9_avoids_10 : decode cX9_avoids 10 = .ok (.ifCond .eq 11, 3) := by decide +kernel
theorem dX9_avoids_13 : decode cX9_avoids 13 = .ok (.aload_n 0, 1) := by decide +kernel
theorem dX9_avoids_14 : decode cX9_avoids 14 = .ok (.iload_n 2, 1) := by decide +kernel
theorem dX9_avoids_15 : decode cX9_avoids 15 = .ok (.invokevirtual 286, 3) := by decide +kernel
theorem dX9_avoids_18 : decode cX9_avoids 18 = .ok (.ifCond .ne 5, 3) := by decide +kernel
theorem dX9_avoids_21 : decode cX9_avoids 21 = .ok (.iconst (-1), 1) := by decide +kernel
theorem dX9_avoids_22 : decode cX9_avoids 22 = .ok (.ireturn, 1) := by decide +kernel
theorem dX9_avoids_23 : decode cX9_avoids 23 = .ok (.iload_n 1, 1) := by decide +kernel
theorem dX9_avoids_24 : decode cX9_avoids 24 = .ok (.iload_n 2, 1) := by decide +kernel
theorem dX9_avoids_25 : decode cX9_avoids 25 = .ok (.if_icmp .eq 16, 3) := by decide +kernel
theorem dX9_avoids_28 : decode cX9_avoids 28 = .ok (.iload_n 1, 1) := by decide +kernel
theorem dX9_avoids_29 : decode cX9_avoids 29 = .ok (.aload_n 0, 1) := by decide +kernel
theorem dX9_avoids_30 : decode cX9_avoids 30 = .ok (.getfield 52, 3) := by decide +kernel
theorem dX9_avoids_33 : decode cX9_avoids 33 = .ok (.aload_n 0, 1) := by decide +kernel
theorem dX9_avoids_34 : decode cX9_avoids 34 = .ok (.getfield 258, 3) := by decide +kernel
theorem dX9_avoids_37 : decode cX9_avoids 37 = .ok (.iaload, 1) := by decide +kernel
theorem dX9_avoids_38 : decode cX9_avoids 38 = .ok (.if_icmp .ne 5, 3) := by decide +kernel
theorem dX9_avoids_41 : decode cX9_avoids 41 = .ok (.iconst 0, 1) := by decide +kernel
theorem dX9_avoids_42 : decode cX9_avoids 42 = .ok (.ireturn, 1) := by decide +kernel
theorem dX9_avoids_43 : decode cX9_avoids 43 = .ok (.aload_n 0, 1) := by decide +kernel
theorem dX9_avoids_44 : decode cX9_avoids 44 = .ok (.aload_n 0, 1) := by decide +kernel
theorem dX9_avoids_45 : decode cX9_avoids 45 = .ok (.invokevirtual 280, 3) := by decide +kernel
theorem dX9_avoids_48 : decode cX9_avoids 48 = .ok (.iconst 1, 1) := by decide +kernel
theorem dX9_avoids_49 : decode cX9_avoids 49 = .ok (.iadd, 1) := by decide +kernel
theorem dX9_avoids_50 : decode cX9_avoids 50 = .ok (.putfield 328, 3) := by decide +kernel
theorem dX9_avoids_53 : decode cX9_avoids 53 = .ok (.aload_n 0, 1) := by decide +kernel
theorem dX9_avoids_54 : decode cX9_avoids 54 = .ok (.iconst 0, 1) := by decide +kernel
theorem dX9_avoids_55 : decode cX9_avoids 55 = .ok (.iconst 0, 1) := by decide +kernel
theorem dX9_avoids_56 : decode cX9_avoids 56 = .ok (.iconst 0, 1) := by decide +kernel
theorem dX9_avoids_57 : decode cX9_avoids 57 = .ok (.invokevirtual 379, 3) := by decide +kernel
theorem dX9_avoids_60 : decode cX9_avoids 60 = .ok (.aload_n 0, 1) := by decide +kernel
theorem dX9_avoids_61 : decode cX9_avoids 61 = .ok (.iconst 1, 1) := by decide +kernel
theorem dX9_avoids_62 : decode cX9_avoids 62 = .ok (.aload_n 0, 1) := by decide +kernel
theorem dX9_avoids_63 : decode cX9_avoids 63 = .ok (.getfield 52, 3) := by decide +kernel
theorem dX9_avoids_66 : decode cX9_avoids 66 = .ok (.aload_n 0, 1) := by decide +kernel
theorem dX9_avoids_67 : decode cX9_avoids 67 = .ok (.getfield 258, 3) := by decide +kernel
theorem dX9_avoids_70 : decode cX9_avoids 70 = .ok (.iaload, 1) := by decide +kernel
theorem dX9_avoids_71 : decode cX9_avoids 71 = .ok (.iconst 2, 1) := by decide +kernel
theorem dX9_avoids_72 : decode cX9_avoids 72 = .ok (.iconst 1, 1) := by decide +kernel
theorem dX9_avoids_73 : decode cX9_avoids 73 = .ok (.bipush 120, 2) := by decide +kernel
theorem dX9_avoids_75 : decode cX9_avoids 75 = .ok (.iload_n 1, 1) := by decide +kernel
theorem dX9_avoids_76 : decode cX9_avoids 76 = .ok (.invokevirtual 383, 3) := by decide +kernel
theorem dX9_avoids_79 : decode cX9_avoids 79 = .ok (.aload_n 0, 1) := by decide +kernel
theorem dX9_avoids_80 : decode cX9_avoids 80 = .ok (.iconst 1, 1) := by decide +kernel
theorem dX9_avoids_81 : decode cX9_avoids 81 = .ok (.iload_n 2, 1) := by decide +kernel
theorem dX9_avoids_82 : decode cX9_avoids 82 = .ok (.invokevirtual 426, 3) := by decide +kernel
theorem dX9_avoids_85 : decode cX9_avoids 85 = .ok (.ifCond .eq 7, 3) := by decide +kernel
theorem dX9_avoids_88 : decode cX9_avoids 88 = .ok (.iconst 1, 1) := by decide +kernel
theorem dX9_avoids_89 : decode cX9_avoids 89 = .ok (.goto 4, 3) := by decide +kernel
theorem dX9_avoids_92 : decode cX9_avoids 92 = .ok (.iconst 0, 1) := by decide +kernel
theorem dX9_avoids_93 : decode cX9_avoids 93 = .ok (.ireturn, 1) := by decide +kernel
abbrev vs_M_avoids : List Cond := .code yX9_avoids cX9_avoids 3 (some .int) :: VM
theorem g_M_avoids_M_isPlace : GoodIn vs_M_avoids (wsV RX9 286 RX9 yX9_isPlace vs_M_isPlace) := gm_V vm_161 vm_162 vm_163 vm_12 vm_155
theorem g_M_avoids_M_clocks : GoodIn vs_M_avoids (wsV RX9 280 RX9 yX9_clocks vs_M_clocks) := gm_V vm_150 vm_151 vm_152 vm_12 vm_20
theorem g_M_avoids_M_layPoint : GoodIn vs_M_avoids (wsV RX9 379 RX9 yX9_layPoint vs_M_layPoint) := gm_V vm_270 vm_271 vm_272 vm_12 vm_238
theorem g_M_avoids_M_explores_1_120 : GoodIn vs_M_avoids (wsV RX9 383 RX9 yX9_explores vs_M_explores_1_120) := gm_V vm_273 vm_274 vm_275 vm_12 vm_258
theorem g_M_avoids_M_hasPlace_1 : GoodIn vs_M_avoids (wsV RX9 426 RX9 yX9_hasPlace vs_M_hasPlace_1) := gm_V vm_384 vm_385 vm_386 vm_12 vm_239
set_option maxHeartbeats 4000000 in
set_option maxRecDepth 100000 in
theorem c_M_avoids (l : Launch) (dC : Nat → ClassId) (dI : Nat → Nat → Nat) (sz : Nat) (ad : Nat → Nat) (ck : Nat → ClassId) (x0 : Int32) (x16 : Nat) (x18 : Nat) (x19 : Nat) (x20 : Int32) (x21 : Nat) (x22 : Nat) (x23 : Int32) (x24 : Int32) (x25 : Int32) (x26 : Nat) (x27 : Int32) (x28 : Nat) (x29 : Nat) (x30 : Nat) (x33 : Nat) (x45 : Int32) (x46 : Nat) (x52 : Nat) (x53 : Nat) (x61 : Nat) (x62 : Nat) (x63 : Nat) (x65 : Nat) (x66 : Int32) (f1 : Nat → Int32) (f2 : Nat → Int32) (f3 : Nat → Int32) (q4 : Nat → Nat) (q5 : Nat → Nat) (q6 : Nat → Nat) (q7 : Nat → Nat) (f8 : Nat → Int32) (q9 : Nat → Nat) (q10 : Nat → Nat) (f11 : Nat → Int32) (m12_0 m12_1 : Nat) (m13_0 m13_1 : Nat) (m14_0 m14_1 : Nat) (m15_0 m15_1 : Nat) (f17 : Nat → Int32) (q31 : Nat → Nat) (f32 : Nat → Int32) (f34 : Nat → Int32) (f35 : Nat → Int32) (f36 : Nat → Int32) (f37 : Nat → Int32) (q38 : Nat → Nat) (f39 : Nat → Int32) (f40 : Nat → Int32) (f41 : Nat → Int32) (m42_0 m42_1 : Nat) (f43 : Nat → Int32) (f44 : Nat → Int32) (f47 : Nat → Int32) (f48 : Nat → Int32) (f49 : Nat → Int32) (f50 : Nat → Int32) (f51 : Nat → Int32) (q54 : Nat → Nat) (q55 : Nat → Nat) (q56 : Nat → Nat) (f57 : Nat → Int32) (q58 : Nat → Nat) (f59 : Nat → Int32) (f60 : Nat → Int32) (f64 : Nat → Int32) (p0 : Int32) (p1 : Int32) (hx16 : x16 ≤ 1) (hx18 : x18 ≤ 900) (hx19 : x19 ≤ 900) (hx21 : x21 ≤ 900) (hx22 : x22 ≤ 4) (hx26 : x26 ≤ 6) (hx28 : x28 ≤ 1) (hx29 : x29 ≤ 1) (hx30 : x30 ≤ 1) (hx33 : x33 ≤ 20) (hx46 : x46 ≤ 5) (hx52 : x52 ≤ 2400) (hx53 : x53 ≤ 119) (hx61 : x61 ≤ 119) (hx62 : x62 ≤ 2000) (hx63 : x63 ≤ 1) (hx65 : x65 ≤ 7) (hm12_0 : m12_0 ≤ 3) (hm12_1 : m12_1 ≤ 3) (hm13_0 : m13_0 ≤ 8) (hm13_1 : m13_1 ≤ 8) (hm14_0 : m14_0 ≤ 14) (hm14_1 : m14_1 ≤ 14) (hm15_0 : m15_0 ≤ 8) (hm15_1 : m15_1 ≤ 8) (hm42_0 : m42_0 ≤ 120) (hm42_1 : m42_1 ≤ 400) (hbg : (x16 = 0 ∧ (m13_0 = 0 ∨ 1 ≤ m15_0)) ∨ (x16 = 1 ∧ (m13_1 = 0 ∨ 1 ≤ m15_1))) (hgr : gz_ok m42_0 f39 f40 f41) : Met l yX9_avoids vs_M_avoids ({ frames := 7, cells := 0, slots := 0, locals := 171 }) (va_Pc [.ref (ad 0), .int p0, .int p1] (pu_B (dC, dI) (mo_w ad ck x0 (nI x16) (nI x18) (nI x19) x20 (nI x21) (nI x22) x23 x24 x25 (nI x26) x27 (nI x28) (nI x29) (nI x30) (nI x33) x45 (nI x46) (nI x52) (nI x53) (nI x61) (nI x62) (nI x63) (nI x65) x66 f1 f2 f3 (bN 3 q4) (bN 7 q5) (bN 7 q6) (bN 4 q7) f8 (bN 2 q9) (bH q10) f11 (b2 m12_0 m12_1) (b2 m13_0 m13_1) (b2 m14_0 m14_1) (b2m m15_0 m15_1) f17 (bA 159 q31) f32 f34 f35 f36 f37 (bN 7 q38) f39 f40 f41 (b2 m42_0 m42_1) f43 f44 f47 f48 f49 f50 f51 (bN 13 q54) (bN 120 q55) (bN 120 q56) f57 (bN 120 q58) f59 f60 f64) (mo_t ck) sz)) (va_Qi (fun (r : Int32) (_ : Unit) => True) (fun _ t => ∃ (z34 : Nat → Int32) (z35 : Nat → Int32) (z38 : Nat → Nat) (z39 : Nat → Int32) (z40 : Nat → Int32) (z41 : Nat → Int32) (z43 : Nat → Int32) (z44 : Nat → Int32) (z47 : Nat → Int32) (z48 : Nat → Int32) (z42_1 : Nat) (z0 : Int32) (z46 : Nat), pu_E (dC, dI) (mo_w ad ck z0 (nI x16) (nI x18) (nI x19) x20 (nI x21) (nI x22) x23 x24 x25 (nI x26) x27 (nI x28) (nI x29) (nI x30) (nI x33) x45 (nI z46) (nI x52) (nI x53) (nI x61) (nI x62) (nI x63) (nI x65) x66 f1 f2 f3 (bN 3 q4) (bN 7 q5) (bN 7 q6) (bN 4 q7) f8 (bN 2 q9) (bH q10) f11 (b2 m12_0 m12_1) (b2 m13_0 m13_1) (b2 m14_0 m14_1) (b2m m15_0 m15_1) f17 (bA 159 q31) f32 z34 z35 f36 f37 (bN 7 z38) z39 z40 z41 (b2 m42_0 z42_1) z43 z44 z47 z48 f49 f50 f51 (bN 13 q54) (bN 120 q55) (bN 120 q56) f57 (bN 120 q58) f59 f60 f64) (mo_t ck) (va_A ((mo_w ad ck x0 (nI x16) (nI x18) (nI x19) x20 (nI x21) (nI x22) x23 x24 x25 (nI x26) x27 (nI x28) (nI x29) (nI x30) (nI x33) x45 (nI x46) (nI x52) (nI x53) (nI x61) (nI x62) (nI x63) (nI x65) x66 f1 f2 f3 (bN 3 q4) (bN 7 q5) (bN 7 q6) (bN 4 q7) f8 (bN 2 q9) (bH q10) f11 (b2 m12_0 m12_1) (b2 m13_0 m13_1) (b2 m14_0 m14_1) (b2m m15_0 m15_1) f17 (bA 159 q31) f32 f34 f35 f36 f37 (bN 7 q38) f39 f40 f41 (b2 m42_0 m42_1) f43 f44 f47 f48 f49 f50 f51 (bN 13 q54) (bN 120 q55) (bN 120 q56) f57 (bN 120 q58) f59 f60 f64)) sz) t ∧ (z42_1 ≤ 400) ∧ (z46 ≤ 5) ∧ (gz_ok m42_0 z39 z40 z41)) (va_A ((mo_w ad ck x0 (nI x16) (nI x18) (nI x19) x20 (nI x21) (nI x22) x23 x24 x25 (nI x26) x27 (nI x28) (nI x29) (nI x30) (nI x33) x45 (nI x46) (nI x52) (nI x53) (nI x61) (nI x62) (nI x63) (nI x65) x66 f1 f2 f3 (bN 3 q4) (bN 7 q5) (bN 7 q6) (bN 4 q7) f8 (bN 2 q9) (bH q10) f11 (b2 m12_0 m12_1) (b2 m13_0 m13_1) (b2 m14_0 m14_1) (b2m m15_0 m15_1) f17 (bA 159 q31) f32 f34 f35 f36 f37 (bN 7 q38) f39 f40 f41 (b2 m42_0 m42_1) f43 f44 f47 f48 f49 f50 f51 (bN 13 q54) (bN 120 q55) (bN 120 q56) f57 (bN 120 q58) f59 f60 f64)) sz)) 0 0 (va_A ((mo_w ad ck x0 (nI x16) (nI x18) (nI x19) x20 (nI x21) (nI x22) x23 x24 x25 (nI x26) x27 (nI x28) (nI x29) (nI x30) (nI x33) x45 (nI x46) (nI x52) (nI x53) (nI x61) (nI x62) (nI x63) (nI x65) x66 f1 f2 f3 (bN 3 q4) (bN 7 q5) (bN 7 q6) (bN 4 q7) f8 (bN 2 q9) (bH q10) f11 (b2 m12_0 m12_1) (b2 m13_0 m13_1) (b2 m14_0 m14_1) (b2m m15_0 m15_1) f17 (bA 159 q31) f32 f34 f35 f36 f37 (bN 7 q38) f39 f40 f41 (b2 m42_0 m42_1) f43 f44 f47 f48 f49 f50 f51 (bN 13 q54) (bN 120 q55) (bN 120 q56) f57 (bN 120 q58) f59 f60 f64)) sz) := by
  refine Met.ofW (cc := cX9_avoids) (maxL := 3) (ret := (some .int)) (by decide) rfl ?_
  intro p e s m args below meth c s₁ B hml hv
  obtain ⟨rfl, rfl, hP, hK, hD0⟩ := hv
  have hx := B.exec
  have hb := B.bytes
  have hr := B.returns
  have hts := atoms_spec (ws := vs_M_avoids) B.pre
  have v_1 := hts (.fieldLink RX9 142 "ClockReachModel" "thrown" "I") (List.mem_cons_of_mem _ vm_24)
  have v_7 := hts (.fieldLink RX9 52 "ClockReachModel" "begins" "[I") (List.mem_cons_of_mem _ vm_133)
  have v_8 := hts (.fieldLink RX9 258 "ClockReachModel" "bank" "I") (List.mem_cons_of_mem _ vm_22)
  have v_13 := hts (.fieldLink RX9 328 "ClockReachModel" "side" "I") (List.mem_cons_of_mem _ vm_209)
  have hown : s.vm.findClass RX9 = some m.cls := findClass_of_methodNamed B.named
  have hlocks := B.notSynchronized
  have hiX9 : ∀ w ∈ wsX90, w ∈ vs_M_avoids := fun _ h => List.mem_cons_of_mem _ (List.mem_append_right _ h)
  have hD := hD0.self (sz := s.heap.size)
  generalize hAe : va_A ((mo_w ad ck x0 (nI x16) (nI x18) (nI x19) x20 (nI x21) (nI x22) x23 x24 x25 (nI x26) x27 (nI x28) (nI x29) (nI x30) (nI x33) x45 (nI x46) (nI x52) (nI x53) (nI x61) (nI x62) (nI x63) (nI x65) x66 f1 f2 f3 (bN 3 q4) (bN 7 q5) (bN 7 q6) (bN 4 q7) f8 (bN 2 q9) (bH q10) f11 (b2 m12_0 m12_1) (b2 m13_0 m13_1) (b2 m14_0 m14_1) (b2m m15_0 m15_1) f17 (bA 159 q31) f32 f34 f35 f36 f37 (bN 7 q38) f39 f40 f41 (b2 m42_0 m42_1) f43 f44 f47 f48 f49 f50 f51 (bN 13 q54) (bN 120 q55) (bN 120 q56) f57 (bN 120 q58) f59 f60 f64)) s.heap.size = A at hD ⊢
  have hA : ∀ q : Nat, s.heap.size ≤ q → A q := fun q h => by rw [← hAe]; exact Or.inr h
  have hS : va_S A s.heap s.heap [] := va_S.rf
  have hl := lv_entry ([.ref (ad 0), .int p0, .int p1]) (n := 3) (Nat.le_of_ble_eq_true rfl)
  rw [lg_entry_eq]
  generalize (lg_sl ([.ref (ad 0), .int p0, .int p1]) ++ List.replicate (3 - (lg_sl ([.ref (ad 0), .int p0, .int p1])).length) Slot.unset).toArray = ls at hl ⊢
  have hl : lv_has ls 3 [(0, .ref (ad 0)), (1, .int p0), (2, .int p1)] := hl
  refine lv_aload_n hx hb dX9_avoids_0 rfl (lv_at hl 0 rfl) ?_
  refine lv_iconst (v := 0) hx hb dX9_avoids_1 (by decide) ?_
  refine va_put (D := (dC, dI)) (ci := 9) (v := .int 0) (ty := .int) (C := RX9) (T := TX9) (N := 67) hx hb hts hiX9 tyX9 tyX9_ok nmX9 hown hK hP hD hS 0 rfl rfl 0 (by decide) v_1 (fun _ h9 => h9) rfl (by decide +kernel) rfl rfl (Nat.le_of_ble_eq_true rfl) dX9_avoids_2 (fun H locs hP hD hS => ?_)
  have hP : va_P (dC, dI) vwCl (mo_w ad ck 0 (nI x16) (nI x18) (nI x19) x20 (nI x21) (nI x22) x23 x24 x25 (nI x26) x27 (nI x28) (nI x29) (nI x30) (nI x33) x45 (nI x46) (nI x52) (nI x53) (nI x61) (nI x62) (nI x63) (nI x65) x66 f1 f2 f3 (bN 3 q4) (bN 7 q5) (bN 7 q6) (bN 4 q7) f8 (bN 2 q9) (bH q10) f11 (b2 m12_0 m12_1) (b2 m13_0 m13_1) (b2 m14_0 m14_1) (b2m m15_0 m15_1) f17 (bA 159 q31) f32 f34 f35 f36 f37 (bN 7 q38) f39 f40 f41 (b2 m42_0 m42_1) f43 f44 f47 f48 f49 f50 f51 (bN 13 q54) (bN 120 q55) (bN 120 q56) f57 (bN 120 q58) f59 f60 f64) H := hP
  have hD : va_D A (mo_w ad ck 0 (nI x16) (nI x18) (nI x19) x20 (nI x21) (nI x22) x23 x24 x25 (nI x26) x27 (nI x28) (nI x29) (nI x30) (nI x33) x45 (nI x46) (nI x52) (nI x53) (nI x61) (nI x62) (nI x63) (nI x65) x66 f1 f2 f3 (bN 3 q4) (bN 7 q5) (bN 7 q6) (bN 4 q7) f8 (bN 2 q9) (bH q10) f11 (b2 m12_0 m12_1) (b2 m13_0 m13_1) (b2 m14_0 m14_1) (b2m m15_0 m15_1) f17 (bA 159 q31) f32 f34 f35 f36 f37 (bN 7 q38) f39 f40 f41 (b2 m42_0 m42_1) f43 f44 f47 f48 f49 f50 f51 (bN 13 q54) (bN 120 q55) (bN 120 q56) f57 (bN 120 q58) f59 f60 f64) := hD
  refine lv_aload_n hx hb dX9_avoids_5 rfl (lv_at hl 0 rfl) ?_
  refine lv_iload_n hx hb dX9_avoids_6 rfl (lv_at hl 1 rfl) ?_
  refine va_calli (va_runV (As := [.int p0]) (rest := []) ⟨hx, hb, hml, hown, hts⟩ (c_M_isPlace l dC dI _ ad ck 0 x16 x18 x19 x20 x21 x22 x23 x24 x25 x26 x27 x28 x29 x30 x33 x45 x46 x52 x53 x61 x62 x63 x65 x66 f1 f2 f3 q4 q5 q6 q7 f8 q9 q10 f11 m12_0 m12_1 m13_0 m13_1 m14_0 m14_1 m15_0 m15_1 f17 q31 f32 f34 f35 f36 f37 q38 f39 f40 f41 m42_0 m42_1 f43 f44 f47 f48 f49 f50 f51 q54 q55 q56 f57 q58 f59 f60 f64 p0 hx16 hx18 hx19 hx21 hx22 hx26 hx28 hx29 hx30 hx33 hx46 hx52 hx53 hx61 hx62 hx63 hx65 hm12_0 hm12_1 hm13_0 hm13_1 hm14_0 hm14_1 hm15_0 hm15_1 hm42_0 hm42_1) (cwV 1 hts g_M_avoids_M_isPlace rfl rfl rfl (by decide +kernel) ⟨Nat.le_of_ble_eq_true rfl, Nat.le_of_ble_eq_true rfl⟩) ⟨pu_bl, va_recv hK hP (ci := 9) (q0 := 0) rfl rfl, pu_in hP hK hD⟩ rfl rfl hl.1 rfl (lv_room (Nat.le_of_ble_eq_true rfl)) dX9_avoids_7 ⟨Nat.le_of_ble_eq_true rfl, Nat.le_of_ble_eq_true rfl⟩) hS (fun q _ h => pu_fr hS hA q h) (pu_fr hS hA) (fun r_1 u t H1 locs ht hvm hw hB hz1 hk1 hS => ?_)
  have hP := pu_keep hP hk1
  clear hk1 hz1 ht hvm
  generalize H1 = H at hP hS ⊢
  rcases hw with ⟨rfl, hw⟩ | rfl
  · obtain ⟨n_2, hn_2, rfl⟩ := hw
    refine lv_if_eq (tgt := 21) hx hb dX9_avoids_10 (by decide) (fun z => absurd z (by decide)) (fun _ => ?_)
    refine lv_aload_n hx hb dX9_avoids_13 rfl (lv_at hl 0 rfl) ?_
    refine lv_iload_n hx hb dX9_avoids_14 rfl (lv_at hl 2 rfl) ?_
    refine va_calli (va_runV (As := [.int p1]) (rest := []) ⟨hx, hb, hml, hown, hts⟩ (c_M_isPlace l dC dI _ ad ck 0 x16 x18 x19 x20 x21 x22 x23 x24 x25 x26 x27 x28 x29 x30 x33 x45 x46 x52 x53 x61 x62 x63 x65 x66 f1 f2 f3 q4 q5 q6 q7 f8 q9 q10 f11 m12_0 m12_1 m13_0 m13_1 m14_0 m14_1 m15_0 m15_1 f17 q31 f32 f34 f35 f36 f37 q38 f39 f40 f41 m42_0 m42_1 f43 f44 f47 f48 f49 f50 f51 q54 q55 q56 f57 q58 f59 f60 f64 p1 hx16 hx18 hx19 hx21 hx22 hx26 hx28 hx29 hx30 hx33 hx46 hx52 hx53 hx61 hx62 hx63 hx65 hm12_0 hm12_1 hm13_0 hm13_1 hm14_0 hm14_1 hm15_0 hm15_1 hm42_0 hm42_1) (cwV 1 hts g_M_avoids_M_isPlace rfl rfl rfl (by decide +kernel) ⟨Nat.le_of_ble_eq_true rfl, Nat.le_of_ble_eq_true rfl⟩) ⟨pu_bl, va_recv hK hP (ci := 9) (q0 := 0) rfl rfl, pu_in hP hK hD⟩ rfl rfl hl.1 rfl (lv_room (Nat.le_of_ble_eq_true rfl)) dX9_avoids_15 ⟨Nat.le_of_ble_eq_true rfl, Nat.le_of_ble_eq_true rfl⟩) hS (fun q _ h => pu_fr hS hA q h) (pu_fr hS hA) (fun r_3 u t H1 locs ht hvm hw hB hz1 hk1 hS => ?_)
    have hP := pu_keep hP hk1
    clear hk1 hz1 ht hvm
    generalize H1 = H at hP hS ⊢
    rcases hw with ⟨rfl, hw⟩ | rfl
    · obtain ⟨n_4, hn_4, rfl⟩ := hw
      refine lv_if_ne (tgt := 23) hx hb dX9_avoids_18 (by decide) (fun _ => ?_) (fun z => absurd z (by decide))
      refine lv_iload_n hx hb dX9_avoids_23 rfl (lv_at hl 1 rfl) ?_
      refine lv_iload_n hx hb dX9_avoids_24 rfl (lv_at hl 2 rfl) ?_
      refine lv_icmp_eq (tgt := 41) hx hb dX9_avoids_25 (by decide) (fun c_5 => ?_) (fun c_5 => ?_)
      · have c_5 : n_2 = n_4 := (nI_eq (a := n_2) (b := n_4) (by omega) (by omega)).mp c_5
        refine lv_iconst (v := 0) hx hb dX9_avoids_41 (by decide) ?_
        exact W.iret (v := 0) hx hb hr (fun t ht hW => ⟨⟨0, (), rfl, trivial, ⟨f34, f35, q38, f39, f40, f41, f43, f44, f47, f48, m42_1, 0, x46, ⟨by rw [ht]; exact hP, va_K.moved hW.alike hK, hD⟩, hm42_1, hx46, by first | assumption | exact gz_0⟩⟩, hS.F ht⟩) hS.2.2 dX9_avoids_42
      · have c_5 : ¬ n_2 = n_4 := fun z => c_5 ((nI_eq (a := n_2) (b := n_4) (by omega) (by omega)).mpr z)
        refine lv_iload_n hx hb dX9_avoids_28 rfl (lv_at hl 1 rfl) ?_
        refine lv_aload_n hx hb dX9_avoids_29 rfl (lv_at hl 0 rfl) ?_
        refine va_get (D := (dC, dI)) (ci := 9) (v := .ref (ad 15)) (C := RX9) (T := TX9) (N := 67) hx hb hts hiX9 hown hK hP 0 rfl rfl 15 (by decide) v_7 (fun _ h9 => h9) rfl dX9_avoids_30 ?_
        refine lv_aload_n hx hb dX9_avoids_33 rfl (lv_at hl 0 rfl) ?_
        refine va_get (D := (dC, dI)) (ci := 9) (v := .int (nI x16)) (C := RX9) (T := TX9) (N := 67) hx hb hts hiX9 hown hK hP 0 rfl rfl 16 (by decide) v_8 (fun _ h9 => h9) rfl dX9_avoids_34 ?_
        refine va_iald hx hb hK hP 15 14 rfl rfl (vp_in_nI (n := x16) (Nat.lt_of_le_of_lt hx16 (Nat.le_of_ble_eq_true rfl)) (Nat.le_of_ble_eq_true rfl)) dX9_avoids_37 ?_
        refine lv_topi (fun y_6 ey_6 => ?_)
        obtain ⟨u_7, hu_7, fu_7⟩ := b2m_get (a := m15_0) (b := m15_1) (i := x16) (by omega)
        have qy_6 := ey_6.trans fu_7
        rcases mI_get u_7 with ⟨zy_6, wy_6⟩ | ⟨vy_6, zy_6, wy_6⟩
        · exfalso
          omega
        · obtain rfl : y_6 = nI vy_6 := qy_6.trans wy_6
          refine lv_icmp_ne (tgt := 43) hx hb dX9_avoids_38 (by decide) (fun c_8 => ?_) (fun c_8 => ?_)
          · have c_8 : ¬ n_2 = vy_6 := fun z => c_8 ((nI_eq (a := n_2) (b := vy_6) (by omega) (by omega)).mpr z)
            refine lv_aload_n hx hb dX9_avoids_43 rfl (lv_at hl 0 rfl) ?_
            refine lv_aload_n hx hb dX9_avoids_44 rfl (lv_at hl 0 rfl) ?_
            refine va_calli (va_runV (As := []) (rest := [.ref (ad 0)]) ⟨hx, hb, hml, hown, hts⟩ (c_M_clocks l dC dI _ ad ck 0 x16 x18 x19 x20 x21 x22 x23 x24 x25 x26 x27 x28 x29 x30 x33 x45 x46 x52 x53 x61 x62 x63 x65 x66 f1 f2 f3 q4 q5 q6 q7 f8 q9 q10 f11 m12_0 m12_1 m13_0 m13_1 m14_0 m14_1 m15_0 m15_1 f17 q31 f32 f34 f35 f36 f37 q38 f39 f40 f41 m42_0 m42_1 f43 f44 f47 f48 f49 f50 f51 q54 q55 q56 f57 q58 f59 f60 f64 hx16 hx18 hx19 hx21 hx22 hx26 hx28 hx29 hx30 hx33 hx46 hx52 hx53 hx61 hx62 hx63 hx65 hm12_0 hm12_1 hm13_0 hm13_1 hm14_0 hm14_1 hm15_0 hm15_1 hm42_0 hm42_1) (cwV 0 hts g_M_avoids_M_clocks rfl rfl rfl (by decide +kernel) ⟨Nat.le_of_ble_eq_true rfl, Nat.le_of_ble_eq_true rfl⟩) ⟨pu_bl, va_recv hK hP (ci := 9) (q0 := 0) rfl rfl, pu_in hP hK hD⟩ rfl rfl hl.1 rfl (lv_room (Nat.le_of_ble_eq_true rfl)) dX9_avoids_45 ⟨Nat.le_of_ble_eq_true rfl, Nat.le_of_ble_eq_true rfl⟩) hS (fun q _ h => pu_fr hS hA q h) (pu_fr hS hA) (fun r_9 u t H1 locs ht hvm hw hB hz1 hk1 hS => ?_)
            have hP := pu_keep hP hk1
            clear hk1 hz1 ht hvm
            generalize H1 = H at hP hS ⊢
            obtain ⟨u_10, hu_10, rfl⟩ := hw
            refine lv_iconst (v := 1) hx hb dX9_avoids_48 (by decide) ?_
            refine lv_iadd hx hb dX9_avoids_49 ?_
            refine lv_topi (fun y_11 ey_11 => ?_)
            obtain rfl : y_11 = (nI (u_10 + 1)) := ey_11.trans (nI_add u_10 1)
            refine va_put (D := (dC, dI)) (ci := 9) (v := .int (nI (u_10 + 1))) (ty := .int) (C := RX9) (T := TX9) (N := 67) hx hb hts hiX9 tyX9 tyX9_ok nmX9 hown hK hP hD hS 0 rfl rfl 46 (by decide) v_13 (fun _ h9 => h9) rfl (by decide +kernel) rfl rfl (Nat.le_of_ble_eq_true rfl) dX9_avoids_50 (fun H locs hP hD hS => ?_)
            have hP : va_P (dC, dI) vwCl (mo_w ad ck 0 (nI x16) (nI x18) (nI x19) x20 (nI x21) (nI x22) x23 x24 x25 (nI x26) x27 (nI x28) (nI x29) (nI x30) (nI x33) x45 (nI (u_10 + 1)) (nI x52) (nI x53) (nI x61) (nI x62) (nI x63) (nI x65) x66 f1 f2 f3 (bN 3 q4) (bN 7 q5) (bN 7 q6) (bN 4 q7) f8 (bN 2 q9) (bH q10) f11 (b2 m12_0 m12_1) (b2 m13_0 m13_1) (b2 m14_0 m14_1) (b2m m15_0 m15_1) f17 (bA 159 q31) f32 f34 f35 f36 f37 (bN 7 q38) f39 f40 f41 (b2 m42_0 m42_1) f43 f44 f47 f48 f49 f50 f51 (bN 13 q54) (bN 120 q55) (bN 120 q56) f57 (bN 120 q58) f59 f60 f64) H := hP
            have hD : va_D A (mo_w ad ck 0 (nI x16) (nI x18) (nI x19) x20 (nI x21) (nI x22) x23 x24 x25 (nI x26) x27 (nI x28) (nI x29) (nI x30) (nI x33) x45 (nI (u_10 + 1)) (nI x52) (nI x53) (nI x61) (nI x62) (nI x63) (nI x65) x66 f1 f2 f3 (bN 3 q4) (bN 7 q5) (bN 7 q6) (bN 4 q7) f8 (bN 2 q9) (bH q10) f11 (b2 m12_0 m12_1) (b2 m13_0 m13_1) (b2 m14_0 m14_1) (b2m m15_0 m15_1) f17 (bA 159 q31) f32 f34 f35 f36 f37 (bN 7 q38) f39 f40 f41 (b2 m42_0 m42_1) f43 f44 f47 f48 f49 f50 f51 (bN 13 q54) (bN 120 q55) (bN 120 q56) f57 (bN 120 q58) f59 f60 f64) := hD
            refine lv_aload_n hx hb dX9_avoids_53 rfl (lv_at hl 0 rfl) ?_
            refine lv_iconst (v := 0) hx hb dX9_avoids_54 (by decide) ?_
            refine lv_iconst (v := 0) hx hb dX9_avoids_55 (by decide) ?_
            refine lv_iconst (v := 0) hx hb dX9_avoids_56 (by decide) ?_
            have hFc := pu_free hD hS hA
            refine va_callv (va_runV (As := [.int 0, .int 0, .int 0]) (rest := []) ⟨hx, hb, hml, hown, hts⟩ (c_M_layPoint l dC dI _ ad ck 0 x16 x18 x19 x20 x21 x22 x23 x24 x25 x26 x27 x28 x29 x30 x33 x45 (u_10 + 1) x52 x53 x61 x62 x63 x65 x66 f1 f2 f3 q4 q5 q6 q7 f8 q9 q10 f11 m12_0 m12_1 m13_0 m13_1 m14_0 m14_1 m15_0 m15_1 f17 q31 f32 f34 f35 f36 f37 q38 f39 f40 f41 m42_0 m42_1 f43 f44 f47 f48 f49 f50 f51 q54 q55 q56 f57 q58 f59 f60 f64 0 0 0 hx16 hx18 hx19 hx21 hx22 hx26 hx28 hx29 hx30 hx33 (by omega) hx52 hx53 hx61 hx62 hx63 hx65 hm12_0 hm12_1 hm13_0 hm13_1 hm14_0 hm14_1 hm15_0 hm15_1 hm42_0 hm42_1) (cwV 3 hts g_M_avoids_M_layPoint rfl rfl rfl (by decide +kernel) ⟨Nat.le_of_ble_eq_true rfl, Nat.le_of_ble_eq_true rfl⟩) ⟨pu_bl, va_recv hK hP (ci := 9) (q0 := 0) rfl rfl, pu_in hP hK hD⟩ rfl rfl hl.1 rfl (lv_room (Nat.le_of_ble_eq_true rfl)) dX9_avoids_57 ⟨Nat.le_of_ble_eq_true rfl, Nat.le_of_ble_eq_true rfl⟩) hS (fun q _ h => hFc q h) hFc (fun u t H1 locs ht hvm hw hB hz1 hk1 hS => ?_)
            obtain ⟨z35_13, ⟨hP1, -, hD1⟩⟩ := hB
            rw [ht] at hP1
            have hP := hP1
            have hD := pu_all hFc hD1
            clear hP1 hD1 hFc
            clear hk1 hz1 ht hvm
            generalize H1 = H at hP hS ⊢
            refine lv_aload_n hx hb dX9_avoids_60 rfl (lv_at hl 0 rfl) ?_
            refine lv_iconst (v := 1) hx hb dX9_avoids_61 (by decide) ?_
            refine lv_aload_n hx hb dX9_avoids_62 rfl (lv_at hl 0 rfl) ?_
            refine va_get (D := (dC, dI)) (ci := 9) (v := .ref (ad 15)) (C := RX9) (T := TX9) (N := 67) hx hb hts hiX9 hown hK hP 0 rfl rfl 15 (by decide) v_7 (fun _ h9 => h9) rfl dX9_avoids_63 ?_
            refine lv_aload_n hx hb dX9_avoids_66 rfl (lv_at hl 0 rfl) ?_
            refine va_get (D := (dC, dI)) (ci := 9) (v := .int (nI x16)) (C := RX9) (T := TX9) (N := 67) hx hb hts hiX9 hown hK hP 0 rfl rfl 16 (by decide) v_8 (fun _ h9 => h9) rfl dX9_avoids_67 ?_
            refine va_iald hx hb hK hP 15 14 rfl rfl (vp_in_nI (n := x16) (Nat.lt_of_le_of_lt hx16 (Nat.le_of_ble_eq_true rfl)) (Nat.le_of_ble_eq_true rfl)) dX9_avoids_70 ?_
            refine lv_topi (fun y_14 ey_14 => ?_)
            have qy_14 := ey_14.trans fu_7
            rcases mI_get u_7 with ⟨zy_14, wy_14⟩ | ⟨vy_14, zy_14, wy_14⟩
            · exfalso
              omega
            · obtain rfl : y_14 = nI vy_14 := qy_14.trans wy_14
              refine lv_iconst (v := 2) hx hb dX9_avoids_71 (by decide) ?_
              refine lv_iconst (v := 1) hx hb dX9_avoids_72 (by decide) ?_
              refine lv_bipush (v := 120) hx hb dX9_avoids_73 (by decide) ?_
              refine lv_iload_n hx hb dX9_avoids_75 rfl (lv_at hl 1 rfl) ?_
              have hFc := pu_free hD hS hA
              refine va_callv (va_runV (As := [.int 1, .int (nI vy_14), .int 2, .int 1, .int 120, .int (nI n_2)]) (rest := []) ⟨hx, hb, hml, hown, hts⟩ (c_M_explores_1_120 l dC dI _ ad ck 0 x16 x18 x19 x20 x21 x22 x23 x24 x25 x26 x27 x28 x29 x30 x33 x45 (u_10 + 1) x52 x53 x61 x62 x63 x65 x66 f1 f2 f3 q4 q5 q6 q7 f8 q9 q10 f11 m12_0 m12_1 m13_0 m13_1 m14_0 m14_1 m15_0 m15_1 f17 q31 f32 f34 z35_13 f36 f37 q38 f39 f40 f41 m42_0 m42_1 f43 f44 f47 f48 f49 f50 f51 q54 q55 q56 f57 q58 f59 f60 f64 vy_14 2 1 (nI n_2) hx16 hx18 hx19 hx21 hx22 hx26 hx28 hx29 hx30 hx33 (by omega) hx52 hx53 hx61 hx62 hx63 hx65 hm12_0 hm12_1 hm13_0 hm13_1 hm14_0 hm14_1 hm15_0 hm15_1 hm42_0 hm42_1 (by omega) (Nat.le_of_ble_eq_true rfl) (by first | assumption | exact gz_0)) (cwV 6 hts g_M_avoids_M_explores_1_120 rfl rfl rfl (by decide +kernel) ⟨Nat.le_of_ble_eq_true rfl, Nat.le_of_ble_eq_true rfl⟩) ⟨pu_bl, va_recv hK hP (ci := 9) (q0 := 0) rfl rfl, pu_in hP hK hD⟩ rfl rfl hl.1 rfl (lv_room (Nat.le_of_ble_eq_true rfl)) dX9_avoids_76 ⟨Nat.le_of_ble_eq_true rfl, Nat.le_of_ble_eq_true rfl⟩) hS (fun q _ h => hFc q h) hFc (fun u t H1 locs ht hvm hw hB hz1 hk1 hS => ?_)
              obtain ⟨z34_16, z35_17, z38_18, z39_19, z40_20, z41_21, z43_22, z44_23, z47_24, z48_25, z42_1_26, ⟨hP1, -, hD1⟩, hz42_1_26, xr_15_0⟩ := hB
              rw [ht] at hP1
              have hP := hP1
              have hD := pu_all hFc hD1
              clear hP1 hD1 hFc
              clear hk1 hz1 ht hvm
              generalize H1 = H at hP hS ⊢
              refine lv_aload_n hx hb dX9_avoids_79 rfl (lv_at hl 0 rfl) ?_
              refine lv_iconst (v := 1) hx hb dX9_avoids_80 (by decide) ?_
              refine lv_iload_n hx hb dX9_avoids_81 rfl (lv_at hl 2 rfl) ?_
              refine va_calli (va_runV (As := [.int 1, .int (nI n_4)]) (rest := []) ⟨hx, hb, hml, hown, hts⟩ (c_M_hasPlace_1 l dC dI _ ad ck 0 x16 x18 x19 x20 x21 x22 x23 x24 x25 x26 x27 x28 x29 x30 x33 x45 (u_10 + 1) x52 x53 x61 x62 x63 x65 x66 f1 f2 f3 q4 q5 q6 q7 f8 q9 q10 f11 m12_0 m12_1 m13_0 m13_1 m14_0 m14_1 m15_0 m15_1 f17 q31 f32 z34_16 z35_17 f36 f37 z38_18 z39_19 z40_20 z41_21 m42_0 z42_1_26 z43_22 z44_23 z47_24 z48_25 f49 f50 f51 q54 q55 q56 f57 q58 f59 f60 f64 (nI n_4) hx16 hx18 hx19 hx21 hx22 hx26 hx28 hx29 hx30 hx33 (by omega) hx52 hx53 hx61 hx62 hx63 hx65 hm12_0 hm12_1 hm13_0 hm13_1 hm14_0 hm14_1 hm15_0 hm15_1 hm42_0 (Nat.le_trans hz42_1_26 (Nat.le_of_ble_eq_true rfl))) (cwV 2 hts g_M_avoids_M_hasPlace_1 rfl rfl rfl (by decide +kernel) ⟨Nat.le_of_ble_eq_true rfl, Nat.le_of_ble_eq_true rfl⟩) ⟨pu_bl, va_recv hK hP (ci := 9) (q0 := 0) rfl rfl, pu_in hP hK hD⟩ rfl rfl hl.1 rfl (lv_room (Nat.le_of_ble_eq_true rfl)) dX9_avoids_82 ⟨Nat.le_of_ble_eq_true rfl, Nat.le_of_ble_eq_true rfl⟩) hS (fun q _ h => pu_fr hS hA q h) (pu_fr hS hA) (fun r_27 u t H1 locs ht hvm hw hB hz1 hk1 hS => ?_)
              have hP := pu_keep hP hk1
              clear hk1 hz1 ht hvm
              generalize H1 = H at hP hS ⊢
              obtain ⟨u_28, hu_28, rfl⟩ := hw
              refine lv_if_eq (tgt := 92) hx hb dX9_avoids_85 (by decide) (fun c_29 => ?_) (fun c_29 => ?_)
              · have c_29 : u_28 = 0 := (nI_eq (a := u_28) (b := 0) (Nat.lt_of_le_of_lt hu_28 (Nat.le_of_ble_eq_true rfl)) (Nat.le_of_ble_eq_true rfl)).mp c_29
                refine lv_iconst (v := 0) hx hb dX9_avoids_92 (by decide) ?_
                exact W.iret (v := 0) hx hb hr (fun t ht hW => ⟨⟨0, (), rfl, trivial, ⟨z34_16, z35_17, z38_18, z39_19, z40_20, z41_21, z43_22, z44_23, z47_24, z48_25, z42_1_26, 0, (u_10 + 1), ⟨by rw [ht]; exact hP, va_K.moved hW.alike hK, hD⟩, (Nat.le_trans hz42_1_26 (Nat.le_of_ble_eq_true rfl)), (by omega), by first | assumption | exact gz_0⟩⟩, hS.F ht⟩) hS.2.2 dX9_avoids_93
              · have c_29 : ¬ u_28 = 0 := fun z => c_29 ((nI_eq (a := u_28) (b := 0) (Nat.lt_of_le_of_lt hu_28 (Nat.le_of_ble_eq_true rfl)) (Nat.le_of_ble_eq_true rfl)).mpr z)
                refine lv_iconst (v := 1) hx hb dX9_avoids_88 (by decide) ?_
                refine lv_goto (tgt := 93) hx hb dX9_avoids_89 (by decide) ?_
                exact W.iret (v := 1) hx hb hr (fun t ht hW => ⟨⟨1, (), rfl, trivial, ⟨z34_16, z35_17, z38_18, z39_19, z40_20, z41_21, z43_22, z44_23, z47_24, z48_25, z42_1_26, 0, (u_10 + 1), ⟨by rw [ht]; exact hP, va_K.moved hW.alike hK, hD⟩, (Nat.le_trans hz42_1_26 (Nat.le_of_ble_eq_true rfl)), (by omega), by first | assumption | exact gz_0⟩⟩, hS.F ht⟩) hS.2.2 dX9_avoids_93
          · have c_8 : n_2 = vy_6 := (nI_eq (a := n_2) (b := vy_6) (by omega) (by omega)).mp c_8
            refine lv_iconst (v := 0) hx hb dX9_avoids_41 (by decide) ?_
            exact W.iret (v := 0) hx hb hr (fun t ht hW => ⟨⟨0, (), rfl, trivial, ⟨f34, f35, q38, f39, f40, f41, f43, f44, f47, f48, m42_1, 0, x46, ⟨by rw [ht]; exact hP, va_K.moved hW.alike hK, hD⟩, hm42_1, hx46, by first | assumption | exact gz_0⟩⟩, hS.F ht⟩) hS.2.2 dX9_avoids_42
    · refine lv_if_ne (tgt := 23) hx hb dX9_avoids_18 (by decide) (fun z => absurd z (by decide)) (fun _ => ?_)
      refine lv_iconst (v := (-1)) hx hb dX9_avoids_21 (by decide) ?_
      exact W.iret (v := (-1)) hx hb hr (fun t ht hW => ⟨⟨(-1), (), rfl, trivial, ⟨f34, f35, q38, f39, f40, f41, f43, f44, f47, f48, m42_1, 0, x46, ⟨by rw [ht]; exact hP, va_K.moved hW.alike hK, hD⟩, hm42_1, hx46, by first | assumption | exact gz_0⟩⟩, hS.F ht⟩) hS.2.2 dX9_avoids_22
  · refine lv_if_eq (tgt := 21) hx hb dX9_avoids_10 (by decide) (fun _ => ?_) (fun z => absurd z (by decide))
    refine lv_iconst (v := (-1)) hx hb dX9_avoids_21 (by decide) ?_
    exact W.iret (v := (-1)) hx hb hr (fun t ht hW => ⟨⟨(-1), (), rfl, trivial, ⟨f34, f35, q38, f39, f40, f41, f43, f44, f47, f48, m42_1, 0, x46, ⟨by rw [ht]; exact hP, va_K.moved hW.alike hK, hD⟩, hm42_1, hx46, by first | assumption | exact gz_0⟩⟩, hS.F ht⟩) hS.2.2 dX9_avoids_22
theorem dX9_soonest_0 : decode cX9_soonest 0 = .ok (.aload_n 0, 1) := by decide +kernel
theorem dX9_soonest_1 : decode cX9_soonest 1 = .ok (.iconst 0, 1) := by decide +kernel
theorem dX9_soonest_2 : decode cX9_soonest 2 = .ok (.putfield 142, 3) := by decide +kernel
theorem dX9_soonest_5 : decode cX9_soonest 5 = .ok (.aload_n 0, 1) := by decide +kernel
theorem dX9_soonest_6 : decode cX9_soonest 6 = .ok (.iload_n 1, 1) := by decide +kernel
theorem dX9_soonest_7 : decode cX9_soonest 7 = .ok (.invokevirtual 286, 3) := by decide +kernel
theorem dX9_soonest_10 : decode cX9_soonest 10 = .ok (.ifCond .eq 12, 3) := by decide +kernel
theorem dX9_soonest_13 : decode cX9_soonest 13 = .ok (.iload_n 2, 1) := by decide +kernel
theorem dX9_soonest_14 : decode cX9_soonest 14 = .ok (.iconst 0, 1) := by decide +kernel
theorem dX9_soonest_15 : decode cX9_soonest 15 = .ok (.iconst 1, 1) := by decide +kernel
theorem dX9_soonest_16 : decode cX9_soonest 16 = .ok (.invokestatic 152, 3) := by decide +kernel
theorem dX9_soonest_19 : decode cX9_soonest 19 = .ok (.ifCond .ne 5, 3) := by decide +kernel
theorem dX9_soonest_22 : decode cX9_soonest 22 = .ok (.iconst (-1), 1) := by decide +kernel
theorem dX9_soonest_23 : decode cX9_soonest 23 = .ok (.ireturn, 1) := by decide +kernel
theorem dX9_soonest_24 : decode cX9_soonest 24 = .ok (.aload_n 0, 1) := by decide +kernel
theorem dX9_soonest_25 : decode cX9_soonest 25 = .ok (.aload_n 0, 1) := by decide +kernel
theorem dX9_soonest_26 : decode cX9_soonest 26 = .ok (.invokevirtual 280, 3) := by decide +kernel
theorem dX9_soonest_29 : decode cX9_soonest 29 = .ok (.iconst 2, 1) := by decide +kernel
theorem dX9_soonest_30 : decode cX9_soonest 30 = .ok (.iadd, 1) := by decide +kernel
theorem dX9_soonest_31 : decode cX9_soonest 31 = .ok (.putfield 328, 3) := by decide +kernel
theorem dX9_soonest_34 : decode cX9_soonest 34 = .ok (.aload_n 0, 1) := by decide +kernel
theorem dX9_soonest_35 : decode cX9_soonest 35 = .ok (.iconst 0, 1) := by decide +kernel
theorem dX9_soonest_36 : decode cX9_soonest 36 = .ok (.iconst 0, 1) := by decide +kernel
theorem dX9_soonest_37 : decode cX9_soonest 37 = .ok (.iconst 0, 1) := by decide +kernel
theorem dX9_soonest_38 : decode cX9_soonest 38 = .ok (.invokevirtual 379, 3) := by decide +kernel
theorem dX9_soonest_41 : decode cX9_soonest 41 = .ok (.aload_n 0, 1) := by decide +kernel
theorem dX9_soonest_42 : decode cX9_soonest 42 = .ok (.iconst 1, 1) := by decide +kernel
theorem dX9_soonest_43 : decode cX9_soonest 43 = .ok (.aload_n 0, 1) := by decide +kernel
theorem dX9_soonest_44 : decode cX9_soonest 44 = .ok (.getfield 52, 3) := by decide +kernel
theorem dX9_soonest_47 : decode cX9_soonest 47 = .ok (.aload_n 0, 1) := by decide +kernel
theorem dX9_soonest_48 : decode cX9_soonest 48 = .ok (.getfield 258, 3) := by decide +kernel
theorem dX9_soonest_51 : decode cX9_soonest 51 = .ok (.iaload, 1) := by decide +kernel
theorem dX9_soonest_52 : decode cX9_soonest 52 = .ok (.iconst 2, 1) := by decide +kernel
theorem dX9_soonest_53 : decode cX9_soonest 53 = .ok (.iconst 1, 1) := by decide +kernel
theorem dX9_soonest_54 : decode cX9_soonest 54 = .ok (.sipush 400, 3) := by decide +kernel
theorem dX9_soonest_57 : decode cX9_soonest 57 = .ok (.iconst (-1), 1) := by decide +kernel
theorem dX9_soonest_58 : decode cX9_soonest 58 = .ok (.invokevirtual 383, 3) := by decide +kernel
theorem dX9_soonest_61 : decode cX9_soonest 61 = .ok (.bipush (-120), 2) := by decide +kernel
theorem dX9_soonest_63 : decode cX9_soonest 63 = .ok (.istore_n 3, 1) := by decide +kernel
theorem dX9_soonest_64 : decode cX9_soonest 64 = .ok (.iconst 0, 1) := by decide +kernel
theorem dX9_soonest_65 : decode cX9_soonest 65 = .ok (.istore 4, 2) := by decide +kernel
theorem dX9_soonest_67 : decode cX9_soonest 67 = .ok (.iload 4, 2) := by decide +kernel
theorem dX9_soonest_69 : decode cX9_soonest 69 = .ok (.aload_n 0, 1) := by decide +kernel
theorem dX9_soonest_70 : decode cX9_soonest 70 = .ok (.getfield 92, 3) := by decide +kernel
theorem dX9_soonest_73 : decode cX9_soonest 73 = .ok (.iconst 1, 1) := by decide +kernel
theorem dX9_soonest_74 : decode cX9_soonest 74 = .ok (.iaload, 1) := by decide +kernel
theorem dX9_soonest_75 : decode cX9_soonest 75 = .ok (.if_icmp .ge 50, 3) := by decide +kernel
theorem dX9_soonest_78 : decode cX9_soonest 78 = .ok (.iconst 1, 1) := by decide +kernel
theorem dX9_soonest_79 : decode cX9_soonest 79 = .ok (.iload 4, 2) := by decide +kernel
theorem dX9_soonest_81 : decode cX9_soonest 81 = .ok (.invokestatic 355, 3) := by decide +kernel
theorem dX9_soonest_84 : decode cX9_soonest 84 = .ok (.istore 5, 2) := by decide +kernel
theorem dX9_soonest_86 : decode cX9_soonest 86 = .ok (.aload_n 0, 1) := by decide +kernel
theorem dX9_soonest_87 : decode cX9_soonest 87 = .ok (.getfield 80, 3) := by decide +kernel
theorem dX9_soonest_90 : decode cX9_soonest 90 = .ok (.iload 5, 2) := by decide +kernel
theorem dX9_soonest_92 : decode cX9_soonest 92 = .ok (.iaload, 1) := by decide +kernel
theorem dX9_soonest_93 : decode cX9_soonest 93 = .ok (.iload_n 1, 1) := by decide +kernel
theorem dX9_soonest_94 : decode cX9_soonest 94 = .ok (.if_icmp .ne 25, 3) := by decide +kernel
theorem dX9_soonest_97 : decode cX9_soonest 97 = .ok (.iload_n 3, 1) := by decide +kernel
theorem dX9_soonest_98 : decode cX9_soonest 98 = .ok (.aload_n 0, 1) := by decide +kernel
theorem dX9_soonest_99 : decode cX9_soonest 99 = .ok (.getfield 68, 3) := by decide +kernel
theorem dX9_soonest_102 : decode cX9_soonest 102 = .ok (.bipush 25, 2) := by decide +kernel
theorem dX9_soonest_104 : decode cX9_soonest 104 = .ok (.iload 5, 2) := by decide +kernel
theorem dX9_soonest_106 : decode cX9_soonest 106 = .ok (.imul, 1) := by decide +kernel
theorem dX9_soonest_107 : decode cX9_soonest 107 = .ok (.aload_n 0, 1) := by decide +kernel
theorem dX9_soonest_108 : decode cX9_soonest 108 = .ok (.getfield 328, 3) := by decide +kernel
theorem dX9_soonest_111 : decode cX9_soonest 111 = .ok (.iadd, 1) := by decide +kernel
theorem dX9_soonest_112 : decode cX9_soonest 112 = .ok (.iconst 1, 1) := by decide +kernel
theorem dX9_soonest_113 : decode cX9_soonest 113 = .ok (.isub, 1) := by decide +kernel
theorem dX9_soonest_114 : decode cX9_soonest 114 = .ok (.iaload, 1) := by decide +kernel
theorem dX9_soonest_115 : decode cX9_soonest 115 = .ok (.invokestatic 229, 3) := by decide +kernel
theorem dX9_soonest_118 : decode cX9_soonest 118 = .ok (.istore_n 3, 1) := by decide +kernel
theorem dX9_soonest_119 : decode cX9_soonest 119 = .ok (.iinc 4 1, 3) := by decide +kernel
theorem dX9_soonest_122 : decode cX9_soonest 122 = .ok (.goto (-55), 3) := by decide +kernel
theorem dX9_soonest_125 : decode cX9_soonest 125 = .ok (.aload_n 0, 1) := by decide +kernel
theorem dX9_soonest_126 : decode cX9_soonest 126 = .ok (.getfield 98, 3) := by decide +kernel
theorem dX9_soonest_129 : decode cX9_soonest 129 = .ok (.iconst 1, 1) := by decide +kernel
theorem dX9_soonest_130 : decode cX9_soonest 130 = .ok (.baload, 1) := by decide +kernel
theorem dX9_soonest_131 : decode cX9_soonest 131 = .ok (.ifCond .eq 6, 3) := by decide +kernel
theorem dX9_soonest_134 : decode cX9_soonest 134 = .ok (.bipush (-2), 2) := by decide +kernel
theorem dX9_soonest_136 : decode cX9_soonest 136 = .ok (.ireturn, 1) := by decide +kernel
theorem dX9_soonest_137 : decode cX9_soonest 137 = .ok (.iload_n 3, 1) := by decide +kernel
theorem dX9_soonest_138 : decode cX9_soonest 138 = .ok (.bipush (-120), 2) := by decide +kernel
theorem dX9_soonest_140 : decode cX9_soonest 140 = .ok (.if_icmp .ne 7, 3) := by decide +kernel
theorem dX9_soonest_143 : decode cX9_soonest 143 = .ok (.iconst (-1), 1) := by decide +kernel
theorem dX9_soonest_144 : decode cX9_soonest 144 = .ok (.goto 17, 3) := by decide +kernel
theorem dX9_soonest_147 : decode cX9_soonest 147 = .ok (.iload_n 2, 1) := by decide +kernel
theorem dX9_soonest_148 : decode cX9_soonest 148 = .ok (.ifCond .ne 10, 3) := by decide +kernel
theorem dX9_soonest_151 : decode cX9_soonest 151 = .ok (.iload_n 3, 1) := by decide +kernel
theorem dX9_soonest_152 : decode cX9_soonest 152 = .ok (.iconst 1, 1) := by decide +kernel
theorem dX9_soonest_153 : decode cX9_soonest 153 = .ok (.ishr, 1) := by decide +kernel
theorem dX9_soonest_154 : decode cX9_soonest 154 = .ok (.ineg, 1) := by decide +kernel
theorem dX9_soonest_155 : decode cX9_soonest 155 = .ok (.goto 6, 3) := by decide +kernel
theorem dX9_soonest_158 : decode cX9_soonest 158 = .ok (.iload_n 3, 1) := by decide +kernel
theorem dX9_soonest_159 : decode cX9_soonest 159 = .ok (.iconst 1, 1) := by decide +kernel
theorem dX9_soonest_160 : decode cX9_soonest 160 = .ok (.iand, 1) := by decide +kernel
theorem dX9_soonest_161 : decode cX9_soonest 161 = .ok (.ireturn, 1) := by decide +kernel
abbrev vs_M_soonest : List Cond := .code yX9_soonest cX9_soonest 6 (some .int) :: VM
theorem g_M_soonest_X9_in : GoodIn vs_M_soonest (va_wsS RX9 152 yX9_in vs_X9_in) := gm_0 (fun w h => by
  rcases List.mem_cons.mp h with rfl | h
  · exact vm_153
  rcases List.mem_cons.mp h with rfl | h
  · exact vm_154
  rcases List.mem_cons.mp h with rfl | h
  · exact vm_12
  rcases List.mem_cons.mp h with rfl | h
  · exact vm_14
  exact absurd h (List.not_mem_nil))
theorem g_M_soonest_X9_greater : GoodIn vs_M_soonest (va_wsS RX9 229 yX9_greater vs_X9_greater) := gm_0 (fun w h => by
  rcases List.mem_cons.mp h with rfl | h
  · exact vm_104
  rcases List.mem_cons.mp h with rfl | h
  · exact vm_105
  rcases List.mem_cons.mp h with rfl | h
  · exact vm_12
  rcases List.mem_cons.mp h with rfl | h
  · exact vm_4
  exact absurd h (List.not_mem_nil))
theorem g_M_soonest_M_isPlace : GoodIn vs_M_soonest (wsV RX9 286 RX9 yX9_isPlace vs_M_isPlace) := gm_V vm_161 vm_162 vm_163 vm_12 vm_155
theorem g_M_soonest_M_clocks : GoodIn vs_M_soonest (wsV RX9 280 RX9 yX9_clocks vs_M_clocks) := gm_V vm_150 vm_151 vm_152 vm_12 vm_20
theorem g_M_soonest_M_layPoint : GoodIn vs_M_soonest (wsV RX9 379 RX9 yX9_layPoint vs_M_layPoint) := gm_V vm_270 vm_271 vm_272 vm_12 vm_238
theorem g_M_soonest_M_explores_1_400 : GoodIn vs_M_soonest (wsV RX9 383 RX9 yX9_explores vs_M_explores_1_400) := gm_V vm_273 vm_274 vm_275 vm_12 vm_258
theorem g_M_soonest_M_spotOf_1 : GoodIn vs_M_soonest (va_wsS RX9 355 yX9_spotOf vs_M_spotOf_1) := gm_S vm_241 vm_242 vm_12 vm_13
set_option maxHeartbeats 4000000 in
set_option maxRecDepth 100000 in
theorem c_M_soonest (l : Launch) (dC : Nat → ClassId) (dI : Nat → Nat → Nat) (sz : Nat) (ad : Nat → Nat) (ck : Nat → ClassId) (x0 : Int32) (x16 : Nat) (x18 : Nat) (x19 : Nat) (x20 : Int32) (x21 : Nat) (x22 : Nat) (x23 : Int32) (x24 : Int32) (x25 : Int32) (x26 : Nat) (x27 : Int32) (x28 : Nat) (x29 : Nat) (x30 : Nat) (x33 : Nat) (x45 : Int32) (x46 : Nat) (x52 : Nat) (x53 : Nat) (x61 : Nat) (x62 : Nat) (x63 : Nat) (x65 : Nat) (x66 : Int32) (f1 : Nat → Int32) (f2 : Nat → Int32) (f3 : Nat → Int32) (q4 : Nat → Nat) (q5 : Nat → Nat) (q6 : Nat → Nat) (q7 : Nat → Nat) (f8 : Nat → Int32) (q9 : Nat → Nat) (q10 : Nat → Nat) (f11 : Nat → Int32) (m12_0 m12_1 : Nat) (m13_0 m13_1 : Nat) (m14_0 m14_1 : Nat) (m15_0 m15_1 : Nat) (f17 : Nat → Int32) (q31 : Nat → Nat) (f32 : Nat → Int32) (f34 : Nat → Int32) (f35 : Nat → Int32) (f36 : Nat → Int32) (f37 : Nat → Int32) (q38 : Nat → Nat) (f39 : Nat → Int32) (f40 : Nat → Int32) (f41 : Nat → Int32) (m42_0 m42_1 : Nat) (f43 : Nat → Int32) (f44 : Nat → Int32) (f47 : Nat → Int32) (f48 : Nat → Int32) (f49 : Nat → Int32) (f50 : Nat → Int32) (f51 : Nat → Int32) (q54 : Nat → Nat) (q55 : Nat → Nat) (q56 : Nat → Nat) (f57 : Nat → Int32) (q58 : Nat → Nat) (f59 : Nat → Int32) (f60 : Nat → Int32) (f64 : Nat → Int32) (p0 : Int32) (p1 : Int32) (hx16 : x16 ≤ 1) (hx18 : x18 ≤ 900) (hx19 : x19 ≤ 900) (hx21 : x21 ≤ 900) (hx22 : x22 ≤ 4) (hx26 : x26 ≤ 6) (hx28 : x28 ≤ 1) (hx29 : x29 ≤ 1) (hx30 : x30 ≤ 1) (hx33 : x33 ≤ 20) (hx46 : x46 ≤ 5) (hx52 : x52 ≤ 2400) (hx53 : x53 ≤ 119) (hx61 : x61 ≤ 119) (hx62 : x62 ≤ 2000) (hx63 : x63 ≤ 1) (hx65 : x65 ≤ 7) (hm12_0 : m12_0 ≤ 3) (hm12_1 : m12_1 ≤ 3) (hm13_0 : m13_0 ≤ 8) (hm13_1 : m13_1 ≤ 8) (hm14_0 : m14_0 ≤ 14) (hm14_1 : m14_1 ≤ 14) (hm15_0 : m15_0 ≤ 8) (hm15_1 : m15_1 ≤ 8) (hm42_0 : m42_0 ≤ 120) (hm42_1 : m42_1 ≤ 400) (hbg : (x16 = 0 ∧ (m13_0 = 0 ∨ 1 ≤ m15_0)) ∨ (x16 = 1 ∧ (m13_1 = 0 ∨ 1 ≤ m15_1))) (hgr : gz_ok m42_0 f39 f40 f41) : Met l yX9_soonest vs_M_soonest ({ frames := 7, cells := 0, slots := 0, locals := 171 }) (va_Pc [.ref (ad 0), .int p0, .int p1] (pu_B (dC, dI) (mo_w ad ck x0 (nI x16) (nI x18) (nI x19) x20 (nI x21) (nI x22) x23 x24 x25 (nI x26) x27 (nI x28) (nI x29) (nI x30) (nI x33) x45 (nI x46) (nI x52) (nI x53) (nI x61) (nI x62) (nI x63) (nI x65) x66 f1 f2 f3 (bN 3 q4) (bN 7 q5) (bN 7 q6) (bN 4 q7) f8 (bN 2 q9) (bH q10) f11 (b2 m12_0 m12_1) (b2 m13_0 m13_1) (b2 m14_0 m14_1) (b2m m15_0 m15_1) f17 (bA 159 q31) f32 f34 f35 f36 f37 (bN 7 q38) f39 f40 f41 (b2 m42_0 m42_1) f43 f44 f47 f48 f49 f50 f51 (bN 13 q54) (bN 120 q55) (bN 120 q56) f57 (bN 120 q58) f59 f60 f64) (mo_t ck) sz)) (va_Qi (fun (r : Int32) (_ : Unit) => True) (fun _ t => ∃ (z34 : Nat → Int32) (z35 : Nat → Int32) (z38 : Nat → Nat) (z39 : Nat → Int32) (z40 : Nat → Int32) (z41 : Nat → Int32) (z43 : Nat → Int32) (z44 : Nat → Int32) (z47 : Nat → Int32) (z48 : Nat → Int32) (z42_1 : Nat) (z0 : Int32) (z46 : Nat), pu_E (dC, dI) (mo_w ad ck z0 (nI x16) (nI x18) (nI x19) x20 (nI x21) (nI x22) x23 x24 x25 (nI x26) x27 (nI x28) (nI x29) (nI x30) (nI x33) x45 (nI z46) (nI x52) (nI x53) (nI x61) (nI x62) (nI x63) (nI x65) x66 f1 f2 f3 (bN 3 q4) (bN 7 q5) (bN 7 q6) (bN 4 q7) f8 (bN 2 q9) (bH q10) f11 (b2 m12_0 m12_1) (b2 m13_0 m13_1) (b2 m14_0 m14_1) (b2m m15_0 m15_1) f17 (bA 159 q31) f32 z34 z35 f36 f37 (bN 7 z38) z39 z40 z41 (b2 m42_0 z42_1) z43 z44 z47 z48 f49 f50 f51 (bN 13 q54) (bN 120 q55) (bN 120 q56) f57 (bN 120 q58) f59 f60 f64) (mo_t ck) (va_A ((mo_w ad ck x0 (nI x16) (nI x18) (nI x19) x20 (nI x21) (nI x22) x23 x24 x25 (nI x26) x27 (nI x28) (nI x29) (nI x30) (nI x33) x45 (nI x46) (nI x52) (nI x53) (nI x61) (nI x62) (nI x63) (nI x65) x66 f1 f2 f3 (bN 3 q4) (bN 7 q5) (bN 7 q6) (bN 4 q7) f8 (bN 2 q9) (bH q10) f11 (b2 m12_0 m12_1) (b2 m13_0 m13_1) (b2 m14_0 m14_1) (b2m m15_0 m15_1) f17 (bA 159 q31) f32 f34 f35 f36 f37 (bN 7 q38) f39 f40 f41 (b2 m42_0 m42_1) f43 f44 f47 f48 f49 f50 f51 (bN 13 q54) (bN 120 q55) (bN 120 q56) f57 (bN 120 q58) f59 f60 f64)) sz) t ∧ (z42_1 ≤ 400) ∧ (z46 ≤ 5) ∧ (gz_ok m42_0 z39 z40 z41)) (va_A ((mo_w ad ck x0 (nI x16) (nI x18) (nI x19) x20 (nI x21) (nI x22) x23 x24 x25 (nI x26) x27 (nI x28) (nI x29) (nI x30) (nI x33) x45 (nI x46) (nI x52) (nI x53) (nI x61) (nI x62) (nI x63) (nI x65) x66 f1 f2 f3 (bN 3 q4) (bN 7 q5) (bN 7 q6) (bN 4 q7) f8 (bN 2 q9) (bH q10) f11 (b2 m12_0 m12_1) (b2 m13_0 m13_1) (b2 m14_0 m14_1) (b2m m15_0 m15_1) f17 (bA 159 q31) f32 f34 f35 f36 f37 (bN 7 q38) f39 f40 f41 (b2 m42_0 m42_1) f43 f44 f47 f48 f49 f50 f51 (bN 13 q54) (bN 120 q55) (bN 120 q56) f57 (bN 120 q58) f59 f60 f64)) sz)) 0 0 (va_A ((mo_w ad ck x0 (nI x16) (nI x18) (nI x19) x20 (nI x21) (nI x22) x23 x24 x25 (nI x26) x27 (nI x28) (nI x29) (nI x30) (nI x33) x45 (nI x46) (nI x52) (nI x53) (nI x61) (nI x62) (nI x63) (nI x65) x66 f1 f2 f3 (bN 3 q4) (bN 7 q5) (bN 7 q6) (bN 4 q7) f8 (bN 2 q9) (bH q10) f11 (b2 m12_0 m12_1) (b2 m13_0 m13_1) (b2 m14_0 m14_1) (b2m m15_0 m15_1) f17 (bA 159 q31) f32 f34 f35 f36 f37 (bN 7 q38) f39 f40 f41 (b2 m42_0 m42_1) f43 f44 f47 f48 f49 f50 f51 (bN 13 q54) (bN 120 q55) (bN 120 q56) f57 (bN 120 q58) f59 f60 f64)) sz) := by
  refine Met.ofW (cc := cX9_soonest) (maxL := 6) (ret := (some .int)) (by decide) rfl ?_
  intro p e s m args below meth c s₁ B hml hv
  obtain ⟨rfl, rfl, hP, hK, hD0⟩ := hv
  have hx := B.exec
  have hb := B.bytes
  have hr := B.returns
  have hts := atoms_spec (ws := vs_M_soonest) B.pre
  have v_1 := hts (.fieldLink RX9 142 "ClockReachModel" "thrown" "I") (List.mem_cons_of_mem _ vm_24)
  have v_14 := hts (.fieldLink RX9 328 "ClockReachModel" "side" "I") (List.mem_cons_of_mem _ vm_209)
  have v_19 := hts (.fieldLink RX9 52 "ClockReachModel" "begins" "[I") (List.mem_cons_of_mem _ vm_133)
  have v_20 := hts (.fieldLink RX9 258 "ClockReachModel" "bank" "I") (List.mem_cons_of_mem _ vm_22)
  have v_25 := hts (.fieldLink RX9 92 "ClockReachModel" "stateMany" "[I") (List.mem_cons_of_mem _ vm_177)
  have v_29 := hts (.fieldLink RX9 80 "ClockReachModel" "statePlace" "[I") (List.mem_cons_of_mem _ vm_240)
  have v_30 := hts (.fieldLink RX9 68 "ClockReachModel" "zone" "[I") (List.mem_cons_of_mem _ vm_232)
  have v_34 := hts (.fieldLink RX9 98 "ClockReachModel" "isFull" "[Z") (List.mem_cons_of_mem _ vm_178)
  have hown : s.vm.findClass RX9 = some m.cls := findClass_of_methodNamed B.named
  have hlocks := B.notSynchronized
  have hiX9 : ∀ w ∈ wsX90, w ∈ vs_M_soonest := fun _ h => List.mem_cons_of_mem _ (List.mem_append_right _ h)
  have hD := hD0.self (sz := s.heap.size)
  generalize hAe : va_A ((mo_w ad ck x0 (nI x16) (nI x18) (nI x19) x20 (nI x21) (nI x22) x23 x24 x25 (nI x26) x27 (nI x28) (nI x29) (nI x30) (nI x33) x45 (nI x46) (nI x52) (nI x53) (nI x61) (nI x62) (nI x63) (nI x65) x66 f1 f2 f3 (bN 3 q4) (bN 7 q5) (bN 7 q6) (bN 4 q7) f8 (bN 2 q9) (bH q10) f11 (b2 m12_0 m12_1) (b2 m13_0 m13_1) (b2 m14_0 m14_1) (b2m m15_0 m15_1) f17 (bA 159 q31) f32 f34 f35 f36 f37 (bN 7 q38) f39 f40 f41 (b2 m42_0 m42_1) f43 f44 f47 f48 f49 f50 f51 (bN 13 q54) (bN 120 q55) (bN 120 q56) f57 (bN 120 q58) f59 f60 f64)) s.heap.size = A at hD ⊢
  have hA : ∀ q : Nat, s.heap.size ≤ q → A q := fun q h => by rw [← hAe]; exact Or.inr h
  have hS : va_S A s.heap s.heap [] := va_S.rf
  have hl := lv_entry ([.ref (ad 0), .int p0, .int p1]) (n := 6) (Nat.le_of_ble_eq_true rfl)
  rw [lg_entry_eq]
  generalize (lg_sl ([.ref (ad 0), .int p0, .int p1]) ++ List.replicate (6 - (lg_sl ([.ref (ad 0), .int p0, .int p1])).length) Slot.unset).toArray = ls at hl ⊢
  have hl : lv_has ls 6 [(0, .ref (ad 0)), (1, .int p0), (2, .int p1)] := hl
  refine lv_aload_n hx hb dX9_soonest_0 rfl (lv_at hl 0 rfl) ?_
  refine lv_iconst (v := 0) hx hb dX9_soonest_1 (by decide) ?_
  refine va_put (D := (dC, dI)) (ci := 9) (v := .int 0) (ty := .int) (C := RX9) (T := TX9) (N := 67) hx hb hts hiX9 tyX9 tyX9_ok nmX9 hown hK hP hD hS 0 rfl rfl 0 (by decide) v_1 (fun _ h9 => h9) rfl (by decide +kernel) rfl rfl (Nat.le_of_ble_eq_true rfl) dX9_soonest_2 (fun H locs hP hD hS => ?_)
  have hP : va_P (dC, dI) vwCl (mo_w ad ck 0 (nI x16) (nI x18) (nI x19) x20 (nI x21) (nI x22) x23 x24 x25 (nI x26) x27 (nI x28) (nI x29) (nI x30) (nI x33) x45 (nI x46) (nI x52) (nI x53) (nI x61) (nI x62) (nI x63) (nI x65) x66 f1 f2 f3 (bN 3 q4) (bN 7 q5) (bN 7 q6) (bN 4 q7) f8 (bN 2 q9) (bH q10) f11 (b2 m12_0 m12_1) (b2 m13_0 m13_1) (b2 m14_0 m14_1) (b2m m15_0 m15_1) f17 (bA 159 q31) f32 f34 f35 f36 f37 (bN 7 q38) f39 f40 f41 (b2 m42_0 m42_1) f43 f44 f47 f48 f49 f50 f51 (bN 13 q54) (bN 120 q55) (bN 120 q56) f57 (bN 120 q58) f59 f60 f64) H := hP
  have hD : va_D A (mo_w ad ck 0 (nI x16) (nI x18) (nI x19) x20 (nI x21) (nI x22) x23 x24 x25 (nI x26) x27 (nI x28) (nI x29) (nI x30) (nI x33) x45 (nI x46) (nI x52) (nI x53) (nI x61) (nI x62) (nI x63) (nI x65) x66 f1 f2 f3 (bN 3 q4) (bN 7 q5) (bN 7 q6) (bN 4 q7) f8 (bN 2 q9) (bH q10) f11 (b2 m12_0 m12_1) (b2 m13_0 m13_1) (b2 m14_0 m14_1) (b2m m15_0 m15_1) f17 (bA 159 q31) f32 f34 f35 f36 f37 (bN 7 q38) f39 f40 f41 (b2 m42_0 m42_1) f43 f44 f47 f48 f49 f50 f51 (bN 13 q54) (bN 120 q55) (bN 120 q56) f57 (bN 120 q58) f59 f60 f64) := hD
  refine lv_aload_n hx hb dX9_soonest_5 rfl (lv_at hl 0 rfl) ?_
  refine lv_iload_n hx hb dX9_soonest_6 rfl (lv_at hl 1 rfl) ?_
  refine va_calli (va_runV (As := [.int p0]) (rest := []) ⟨hx, hb, hml, hown, hts⟩ (c_M_isPlace l dC dI _ ad ck 0 x16 x18 x19 x20 x21 x22 x23 x24 x25 x26 x27 x28 x29 x30 x33 x45 x46 x52 x53 x61 x62 x63 x65 x66 f1 f2 f3 q4 q5 q6 q7 f8 q9 q10 f11 m12_0 m12_1 m13_0 m13_1 m14_0 m14_1 m15_0 m15_1 f17 q31 f32 f34 f35 f36 f37 q38 f39 f40 f41 m42_0 m42_1 f43 f44 f47 f48 f49 f50 f51 q54 q55 q56 f57 q58 f59 f60 f64 p0 hx16 hx18 hx19 hx21 hx22 hx26 hx28 hx29 hx30 hx33 hx46 hx52 hx53 hx61 hx62 hx63 hx65 hm12_0 hm12_1 hm13_0 hm13_1 hm14_0 hm14_1 hm15_0 hm15_1 hm42_0 hm42_1) (cwV 1 hts g_M_soonest_M_isPlace rfl rfl rfl (by decide +kernel) ⟨Nat.le_of_ble_eq_true rfl, Nat.le_of_ble_eq_true rfl⟩) ⟨pu_bl, va_recv hK hP (ci := 9) (q0 := 0) rfl rfl, pu_in hP hK hD⟩ rfl rfl hl.1 rfl (lv_room (Nat.le_of_ble_eq_true rfl)) dX9_soonest_7 ⟨Nat.le_of_ble_eq_true rfl, Nat.le_of_ble_eq_true rfl⟩) hS (fun q _ h => pu_fr hS hA q h) (pu_fr hS hA) (fun r_1 u t H1 locs ht hvm hw hB hz1 hk1 hS => ?_)
  have hP := pu_keep hP hk1
  clear hk1 hz1 ht hvm
  generalize H1 = H at hP hS ⊢
  rcases hw with ⟨rfl, hw⟩ | rfl
  · obtain ⟨n_2, hn_2, rfl⟩ := hw
    refine lv_if_eq (tgt := 22) hx hb dX9_soonest_10 (by decide) (fun z => absurd z (by decide)) (fun _ => ?_)
    refine lv_iload_n hx hb dX9_soonest_13 rfl (lv_at hl 2 rfl) ?_
    refine lv_iconst (v := 0) hx hb dX9_soonest_14 (by decide) ?_
    refine lv_iconst (v := 1) hx hb dX9_soonest_15 (by decide) ?_
    refine va_calli (va_runS (As := [.int p1, .int 0, .int 1]) (rest := []) ⟨hx, hb, hml, hown, hts⟩ (c_X9_in l dC dI _ p1 0 1) (va_cwS 3 hts g_M_soonest_X9_in rfl rfl rfl (by decide +kernel) ⟨Nat.le_of_ble_eq_true rfl, Nat.le_of_ble_eq_true rfl⟩) ⟨pu_bl, pu_in (hP.sub [] rfl) (hK.sub [] rfl) (hD.sub [] (by decide) rfl)⟩ rfl rfl hl.1 rfl (lv_room (Nat.le_of_ble_eq_true rfl)) dX9_soonest_16 ⟨Nat.le_of_ble_eq_true rfl, Nat.le_of_ble_eq_true rfl⟩) hS (fun q _ h => pu_fr hS hA q h) (pu_fr hS hA) (fun r_3 u t H1 locs ht hvm hw hB hz1 hk1 hS => ?_)
    have hP := pu_keep hP hk1
    clear hk1 hz1 ht hvm
    generalize H1 = H at hP hS ⊢
    rcases hw with ⟨rfl, hi1, hi2⟩ | ⟨rfl, hi3⟩
    · obtain ⟨n_4, hn_4, rfl⟩ := pu_in0 (n := 1) (by omega) hi1 hi2
      refine lv_if_ne (tgt := 24) hx hb dX9_soonest_19 (by decide) (fun _ => ?_) (fun z => absurd z (by decide))
      refine lv_aload_n hx hb dX9_soonest_24 rfl (lv_at hl 0 rfl) ?_
      refine lv_aload_n hx hb dX9_soonest_25 rfl (lv_at hl 0 rfl) ?_
      refine va_calli (va_runV (As := []) (rest := [.ref (ad 0)]) ⟨hx, hb, hml, hown, hts⟩ (c_M_clocks l dC dI _ ad ck 0 x16 x18 x19 x20 x21 x22 x23 x24 x25 x26 x27 x28 x29 x30 x33 x45 x46 x52 x53 x61 x62 x63 x65 x66 f1 f2 f3 q4 q5 q6 q7 f8 q9 q10 f11 m12_0 m12_1 m13_0 m13_1 m14_0 m14_1 m15_0 m15_1 f17 q31 f32 f34 f35 f36 f37 q38 f39 f40 f41 m42_0 m42_1 f43 f44 f47 f48 f49 f50 f51 q54 q55 q56 f57 q58 f59 f60 f64 hx16 hx18 hx19 hx21 hx22 hx26 hx28 hx29 hx30 hx33 hx46 hx52 hx53 hx61 hx62 hx63 hx65 hm12_0 hm12_1 hm13_0 hm13_1 hm14_0 hm14_1 hm15_0 hm15_1 hm42_0 hm42_1) (cwV 0 hts g_M_soonest_M_clocks rfl rfl rfl (by decide +kernel) ⟨Nat.le_of_ble_eq_true rfl, Nat.le_of_ble_eq_true rfl⟩) ⟨pu_bl, va_recv hK hP (ci := 9) (q0 := 0) rfl rfl, pu_in hP hK hD⟩ rfl rfl hl.1 rfl (lv_room (Nat.le_of_ble_eq_true rfl)) dX9_soonest_26 ⟨Nat.le_of_ble_eq_true rfl, Nat.le_of_ble_eq_true rfl⟩) hS (fun q _ h => pu_fr hS hA q h) (pu_fr hS hA) (fun r_5 u t H1 locs ht hvm hw hB hz1 hk1 hS => ?_)
      have hP := pu_keep hP hk1
      clear hk1 hz1 ht hvm
      generalize H1 = H at hP hS ⊢
      obtain ⟨u_6, hu_6, rfl⟩ := hw
      refine lv_iconst (v := 2) hx hb dX9_soonest_29 (by decide) ?_
      refine lv_iadd hx hb dX9_soonest_30 ?_
      refine lv_topi (fun y_7 ey_7 => ?_)
      obtain rfl : y_7 = (nI (u_6 + 2)) := ey_7.trans (nI_add u_6 2)
      refine va_put (D := (dC, dI)) (ci := 9) (v := .int (nI (u_6 + 2))) (ty := .int) (C := RX9) (T := TX9) (N := 67) hx hb hts hiX9 tyX9 tyX9_ok nmX9 hown hK hP hD hS 0 rfl rfl 46 (by decide) v_14 (fun _ h9 => h9) rfl (by decide +kernel) rfl rfl (Nat.le_of_ble_eq_true rfl) dX9_soonest_31 (fun H locs hP hD hS => ?_)
      have hP : va_P (dC, dI) vwCl (mo_w ad ck 0 (nI x16) (nI x18) (nI x19) x20 (nI x21) (nI x22) x23 x24 x25 (nI x26) x27 (nI x28) (nI x29) (nI x30) (nI x33) x45 (nI (u_6 + 2)) (nI x52) (nI x53) (nI x61) (nI x62) (nI x63) (nI x65) x66 f1 f2 f3 (bN 3 q4) (bN 7 q5) (bN 7 q6) (bN 4 q7) f8 (bN 2 q9) (bH q10) f11 (b2 m12_0 m12_1) (b2 m13_0 m13_1) (b2 m14_0 m14_1) (b2m m15_0 m15_1) f17 (bA 159 q31) f32 f34 f35 f36 f37 (bN 7 q38) f39 f40 f41 (b2 m42_0 m42_1) f43 f44 f47 f48 f49 f50 f51 (bN 13 q54) (bN 120 q55) (bN 120 q56) f57 (bN 120 q58) f59 f60 f64) H := hP
      have hD : va_D A (mo_w ad ck 0 (nI x16) (nI x18) (nI x19) x20 (nI x21) (nI x22) x23 x24 x25 (nI x26) x27 (nI x28) (nI x29) (nI x30) (nI x33) x45 (nI (u_6 + 2)) (nI x52) (nI x53) (nI x61) (nI x62) (nI x63) (nI x65) x66 f1 f2 f3 (bN 3 q4) (bN 7 q5) (bN 7 q6) (bN 4 q7) f8 (bN 2 q9) (bH q10) f11 (b2 m12_0 m12_1) (b2 m13_0 m13_1) (b2 m14_0 m14_1) (b2m m15_0 m15_1) f17 (bA 159 q31) f32 f34 f35 f36 f37 (bN 7 q38) f39 f40 f41 (b2 m42_0 m42_1) f43 f44 f47 f48 f49 f50 f51 (bN 13 q54) (bN 120 q55) (bN 120 q56) f57 (bN 120 q58) f59 f60 f64) := hD
      refine lv_aload_n hx hb dX9_soonest_34 rfl (lv_at hl 0 rfl) ?_
      refine lv_iconst (v := 0) hx hb dX9_soonest_35 (by decide) ?_
      refine lv_iconst (v := 0) hx hb dX9_soonest_36 (by decide) ?_
      refine lv_iconst (v := 0) hx hb dX9_soonest_37 (by decide) ?_
      have hFc := pu_free hD hS hA
      refine va_callv (va_runV (As := [.int 0, .int 0, .int 0]) (rest := []) ⟨hx, hb, hml, hown, hts⟩ (c_M_layPoint l dC dI _ ad ck 0 x16 x18 x19 x20 x21 x22 x23 x24 x25 x26 x27 x28 x29 x30 x33 x45 (u_6 + 2) x52 x53 x61 x62 x63 x65 x66 f1 f2 f3 q4 q5 q6 q7 f8 q9 q10 f11 m12_0 m12_1 m13_0 m13_1 m14_0 m14_1 m15_0 m15_1 f17 q31 f32 f34 f35 f36 f37 q38 f39 f40 f41 m42_0 m42_1 f43 f44 f47 f48 f49 f50 f51 q54 q55 q56 f57 q58 f59 f60 f64 0 0 0 hx16 hx18 hx19 hx21 hx22 hx26 hx28 hx29 hx30 hx33 (by omega) hx52 hx53 hx61 hx62 hx63 hx65 hm12_0 hm12_1 hm13_0 hm13_1 hm14_0 hm14_1 hm15_0 hm15_1 hm42_0 hm42_1) (cwV 3 hts g_M_soonest_M_layPoint rfl rfl rfl (by decide +kernel) ⟨Nat.le_of_ble_eq_true rfl, Nat.le_of_ble_eq_true rfl⟩) ⟨pu_bl, va_recv hK hP (ci := 9) (q0 := 0) rfl rfl, pu_in hP hK hD⟩ rfl rfl hl.1 rfl (lv_room (Nat.le_of_ble_eq_true rfl)) dX9_soonest_38 ⟨Nat.le_of_ble_eq_true rfl, Nat.le_of_ble_eq_true rfl⟩) hS (fun q _ h => hFc q h) hFc (fun u t H1 locs ht hvm hw hB hz1 hk1 hS => ?_)
      obtain ⟨z35_9, ⟨hP1, -, hD1⟩⟩ := hB
      rw [ht] at hP1
      have hP := hP1
      have hD := pu_all hFc hD1
      clear hP1 hD1 hFc
      clear hk1 hz1 ht hvm
      generalize H1 = H at hP hS ⊢
      refine lv_aload_n hx hb dX9_soonest_41 rfl (lv_at hl 0 rfl) ?_
      refine lv_iconst (v := 1) hx hb dX9_soonest_42 (by decide) ?_
      refine lv_aload_n hx hb dX9_soonest_43 rfl (lv_at hl 0 rfl) ?_
      refine va_get (D := (dC, dI)) (ci := 9) (v := .ref (ad 15)) (C := RX9) (T := TX9) (N := 67) hx hb hts hiX9 hown hK hP 0 rfl rfl 15 (by decide) v_19 (fun _ h9 => h9) rfl dX9_soonest_44 ?_
      refine lv_aload_n hx hb dX9_soonest_47 rfl (lv_at hl 0 rfl) ?_
      refine va_get (D := (dC, dI)) (ci := 9) (v := .int (nI x16)) (C := RX9) (T := TX9) (N := 67) hx hb hts hiX9 hown hK hP 0 rfl rfl 16 (by decide) v_20 (fun _ h9 => h9) rfl dX9_soonest_48 ?_
      refine va_iald hx hb hK hP 15 14 rfl rfl (vp_in_nI (n := x16) (Nat.lt_of_le_of_lt hx16 (Nat.le_of_ble_eq_true rfl)) (Nat.le_of_ble_eq_true rfl)) dX9_soonest_51 ?_
      refine lv_topi (fun y_10 ey_10 => ?_)
      obtain ⟨u_11, hu_11, fu_11⟩ := b2m_get (a := m15_0) (b := m15_1) (i := x16) (by omega)
      have qy_10 := ey_10.trans fu_11
      rcases mI_get u_11 with ⟨zy_10, wy_10⟩ | ⟨vy_10, zy_10, wy_10⟩
      · exfalso
        omega
      · obtain rfl : y_10 = nI vy_10 := qy_10.trans wy_10
        refine lv_iconst (v := 2) hx hb dX9_soonest_52 (by decide) ?_
        refine lv_iconst (v := 1) hx hb dX9_soonest_53 (by decide) ?_
        refine lv_sipush (v := 400) hx hb dX9_soonest_54 (by decide) ?_
        refine lv_iconst (v := (-1)) hx hb dX9_soonest_57 (by decide) ?_
        have hFc := pu_free hD hS hA
        refine va_callv (va_runV (As := [.int 1, .int (nI vy_10), .int 2, .int 1, .int 400, .int (-1)]) (rest := []) ⟨hx, hb, hml, hown, hts⟩ (c_M_explores_1_400 l dC dI _ ad ck 0 x16 x18 x19 x20 x21 x22 x23 x24 x25 x26 x27 x28 x29 x30 x33 x45 (u_6 + 2) x52 x53 x61 x62 x63 x65 x66 f1 f2 f3 q4 q5 q6 q7 f8 q9 q10 f11 m12_0 m12_1 m13_0 m13_1 m14_0 m14_1 m15_0 m15_1 f17 q31 f32 f34 z35_9 f36 f37 q38 f39 f40 f41 m42_0 m42_1 f43 f44 f47 f48 f49 f50 f51 q54 q55 q56 f57 q58 f59 f60 f64 vy_10 2 1 (-1) hx16 hx18 hx19 hx21 hx22 hx26 hx28 hx29 hx30 hx33 (by omega) hx52 hx53 hx61 hx62 hx63 hx65 hm12_0 hm12_1 hm13_0 hm13_1 hm14_0 hm14_1 hm15_0 hm15_1 hm42_0 hm42_1 (by omega) (Nat.le_of_ble_eq_true rfl) (by first | assumption | exact gz_0)) (cwV 6 hts g_M_soonest_M_explores_1_400 rfl rfl rfl (by decide +kernel) ⟨Nat.le_of_ble_eq_true rfl, Nat.le_of_ble_eq_true rfl⟩) ⟨pu_bl, va_recv hK hP (ci := 9) (q0 := 0) rfl rfl, pu_in hP hK hD⟩ rfl rfl hl.1 rfl (lv_room (Nat.le_of_ble_eq_true rfl)) dX9_soonest_58 ⟨Nat.le_of_ble_eq_true rfl, Nat.le_of_ble_eq_true rfl⟩) hS (fun q _ h => hFc q h) hFc (fun u t H1 locs ht hvm hw hB hz1 hk1 hS => ?_)
        obtain ⟨z34_13, z35_14, z38_15, z39_16, z40_17, z41_18, z43_19, z44_20, z47_21, z48_22, z42_1_23, ⟨hP1, -, hD1⟩, hz42_1_23, xr_12_0⟩ := hB
        rw [ht] at hP1
        have hP := hP1
        have hD := pu_all hFc hD1
        clear hP1 hD1 hFc
        clear hk1 hz1 ht hvm
        generalize H1 = H at hP hS ⊢
        refine lv_bipush (v := (-120)) hx hb dX9_soonest_61 (by decide) ?_
        refine lv_istore_n (lv' := [(3, .int (-120)), (0, .ref (ad 0)), (1, .int (nI n_2)), (2, .int (nI n_4))]) hx hb dX9_soonest_63 rfl hl (by decide) rfl (fun ls hl => ?_)
        refine lv_iconst (v := 0) hx hb dX9_soonest_64 (by decide) ?_
        refine lv_istore (lv' := [(4, .int 0), (3, .int (-120)), (0, .ref (ad 0)), (1, .int (nI n_2)), (2, .int (nI n_4))]) hx hb dX9_soonest_65 hl (by decide) rfl (fun ls hl => ?_)
        refine pu_while (fun nn H locs ls => ∃ (g_26 : Int32) (g_27 : Nat), nn = 400 - g_27 ∧ g_27 ≤ 400 ∧ va_P (dC, dI) vwCl (mo_w ad ck 0 (nI x16) (nI x18) (nI x19) x20 (nI x21) (nI x22) x23 x24 x25 (nI x26) x27 (nI x28) (nI x29) (nI x30) (nI x33) x45 (nI (u_6 + 2)) (nI x52) (nI x53) (nI x61) (nI x62) (nI x63) (nI x65) x66 f1 f2 f3 (bN 3 q4) (bN 7 q5) (bN 7 q6) (bN 4 q7) f8 (bN 2 q9) (bH q10) f11 (b2 m12_0 m12_1) (b2 m13_0 m13_1) (b2 m14_0 m14_1) (b2m m15_0 m15_1) f17 (bA 159 q31) f32 z34_13 z35_14 f36 f37 (bN 7 z38_15) z39_16 z40_17 z41_18 (b2 m42_0 z42_1_23) z43_19 z44_20 z47_21 z48_22 f49 f50 f51 (bN 13 q54) (bN 120 q55) (bN 120 q56) f57 (bN 120 q58) f59 f60 f64) H ∧ va_D A (mo_w ad ck 0 (nI x16) (nI x18) (nI x19) x20 (nI x21) (nI x22) x23 x24 x25 (nI x26) x27 (nI x28) (nI x29) (nI x30) (nI x33) x45 (nI (u_6 + 2)) (nI x52) (nI x53) (nI x61) (nI x62) (nI x63) (nI x65) x66 f1 f2 f3 (bN 3 q4) (bN 7 q5) (bN 7 q6) (bN 4 q7) f8 (bN 2 q9) (bH q10) f11 (b2 m12_0 m12_1) (b2 m13_0 m13_1) (b2 m14_0 m14_1) (b2m m15_0 m15_1) f17 (bA 159 q31) f32 z34_13 z35_14 f36 f37 (bN 7 z38_15) z39_16 z40_17 z41_18 (b2 m42_0 z42_1_23) z43_19 z44_20 z47_21 z48_22 f49 f50 f51 (bN 13 q54) (bN 120 q55) (bN 120 q56) f57 (bN 120 q58) f59 f60 f64) ∧ va_S A s.heap H locs ∧ lv_has ls 6 [(0, .ref (ad 0)), (1, .int (nI n_2)), (2, .int (nI n_4)), (3, .int g_26), (4, .int (nI g_27))]) 67 ?_ _ _ _ _ ⟨(-120), 0, rfl, (Nat.le_of_ble_eq_true rfl), hP, hD, hS, lv_sub hl [2, 3, 4, 1, 0] rfl⟩
        rintro nn ih_28 H locs ls ⟨g_26, g_27, rfl, hg_27, hP, hD, hS, hl⟩
        refine lv_iload hx hb dX9_soonest_67 (lv_at hl 4 rfl) ?_
        refine lv_aload_n hx hb dX9_soonest_69 rfl (lv_at hl 0 rfl) ?_
        refine va_get (D := (dC, dI)) (ci := 9) (v := .ref (ad 42)) (C := RX9) (T := TX9) (N := 67) hx hb hts hiX9 hown hK hP 0 rfl rfl 42 (by decide) v_25 (fun _ h9 => h9) rfl dX9_soonest_70 ?_
        refine lv_iconst (v := 1) hx hb dX9_soonest_73 (by decide) ?_
        refine va_iald hx hb hK hP 27 26 rfl rfl (vp_in_nI (n := 1) (Nat.le_of_ble_eq_true rfl) (Nat.le_of_ble_eq_true rfl)) dX9_soonest_74 ?_
        refine lv_topi (fun y_29 ey_29 => ?_)
        have qy_29 := ey_29.trans b2_1
        clear ey_29
        obtain rfl : y_29 = nI z42_1_23 := qy_29
        refine lv_icmp_ge (tgt := 125) hx hb dX9_soonest_75 (by decide) (fun c_30 => ?_) (fun c_30 => ?_)
        · have c_30 : z42_1_23 ≤ g_27 := (nI_leI (a := z42_1_23) (b := g_27) (Nat.lt_of_le_of_lt hz42_1_23 (Nat.le_of_ble_eq_true rfl)) (Nat.lt_of_le_of_lt hg_27 (Nat.le_of_ble_eq_true rfl))).mp c_30
          refine lv_aload_n hx hb dX9_soonest_125 rfl (lv_at hl 0 rfl) ?_
          refine va_get (D := (dC, dI)) (ci := 9) (v := .ref (ad 44)) (C := RX9) (T := TX9) (N := 67) hx hb hts hiX9 hown hK hP 0 rfl rfl 44 (by decide) v_34 (fun _ h9 => h9) rfl dX9_soonest_126 ?_
          refine lv_iconst (v := 1) hx hb dX9_soonest_129 (by decide) ?_
          refine va_zald hx hb hK hP 29 28 rfl rfl (vp_in_nI (n := 1) (Nat.le_of_ble_eq_true rfl) (Nat.le_of_ble_eq_true rfl)) dX9_soonest_130 ?_
          refine lv_topi (fun y_31 ey_31 => ?_)
          refine lv_if_eq (tgt := 137) hx hb dX9_soonest_131 (by decide) (fun c_32 => ?_) (fun c_32 => ?_)
          · refine lv_iload_n hx hb dX9_soonest_137 rfl (lv_at hl 3 rfl) ?_
            refine lv_bipush (v := (-120)) hx hb dX9_soonest_138 (by decide) ?_
            refine lv_icmp_ne (tgt := 147) hx hb dX9_soonest_140 (by decide) (fun c_33 => ?_) (fun c_33 => ?_)
            · refine lv_iload_n hx hb dX9_soonest_147 rfl (lv_at hl 2 rfl) ?_
              refine lv_if_ne (tgt := 158) hx hb dX9_soonest_148 (by decide) (fun c_34 => ?_) (fun c_34 => ?_)
              · have c_34 : ¬ n_4 = 0 := fun z => c_34 ((nI_eq (a := n_4) (b := 0) (by omega) (Nat.le_of_ble_eq_true rfl)).mpr z)
                refine lv_iload_n hx hb dX9_soonest_158 rfl (lv_at hl 3 rfl) ?_
                refine lv_iconst (v := 1) hx hb dX9_soonest_159 (by decide) ?_
                refine lv_iand hx hb dX9_soonest_160 ?_
                refine lv_topi (fun y_35 ey_35 => ?_)
                exact W.iret (v := y_35) hx hb hr (fun t ht hW => ⟨⟨y_35, (), rfl, trivial, ⟨z34_13, z35_14, z38_15, z39_16, z40_17, z41_18, z43_19, z44_20, z47_21, z48_22, z42_1_23, 0, (u_6 + 2), ⟨by rw [ht]; exact hP, va_K.moved hW.alike hK, hD⟩, hz42_1_23, (by omega), by first | assumption | exact gz_0⟩⟩, hS.F ht⟩) hS.2.2 dX9_soonest_161
              · have c_34 : n_4 = 0 := (nI_eq (a := n_4) (b := 0) (by omega) (Nat.le_of_ble_eq_true rfl)).mp c_34
                refine lv_iload_n hx hb dX9_soonest_151 rfl (lv_at hl 3 rfl) ?_
                refine lv_iconst (v := 1) hx hb dX9_soonest_152 (by decide) ?_
                refine lv_ishr hx hb dX9_soonest_153 ?_
                refine lv_topi (fun y_36 ey_36 => ?_)
                refine lv_ineg hx hb dX9_soonest_154 ?_
                refine lv_topi (fun y_37 ey_37 => ?_)
                refine lv_goto (tgt := 161) hx hb dX9_soonest_155 (by decide) ?_
                exact W.iret (v := y_37) hx hb hr (fun t ht hW => ⟨⟨y_37, (), rfl, trivial, ⟨z34_13, z35_14, z38_15, z39_16, z40_17, z41_18, z43_19, z44_20, z47_21, z48_22, z42_1_23, 0, (u_6 + 2), ⟨by rw [ht]; exact hP, va_K.moved hW.alike hK, hD⟩, hz42_1_23, (by omega), by first | assumption | exact gz_0⟩⟩, hS.F ht⟩) hS.2.2 dX9_soonest_161
            · refine lv_iconst (v := (-1)) hx hb dX9_soonest_143 (by decide) ?_
              refine lv_goto (tgt := 161) hx hb dX9_soonest_144 (by decide) ?_
              exact W.iret (v := (-1)) hx hb hr (fun t ht hW => ⟨⟨(-1), (), rfl, trivial, ⟨z34_13, z35_14, z38_15, z39_16, z40_17, z41_18, z43_19, z44_20, z47_21, z48_22, z42_1_23, 0, (u_6 + 2), ⟨by rw [ht]; exact hP, va_K.moved hW.alike hK, hD⟩, hz42_1_23, (by omega), by first | assumption | exact gz_0⟩⟩, hS.F ht⟩) hS.2.2 dX9_soonest_161
          · refine lv_bipush (v := (-2)) hx hb dX9_soonest_134 (by decide) ?_
            exact W.iret (v := (-2)) hx hb hr (fun t ht hW => ⟨⟨(-2), (), rfl, trivial, ⟨z34_13, z35_14, z38_15, z39_16, z40_17, z41_18, z43_19, z44_20, z47_21, z48_22, z42_1_23, 0, (u_6 + 2), ⟨by rw [ht]; exact hP, va_K.moved hW.alike hK, hD⟩, hz42_1_23, (by omega), by first | assumption | exact gz_0⟩⟩, hS.F ht⟩) hS.2.2 dX9_soonest_136
        · have c_30 : ¬ z42_1_23 ≤ g_27 := fun z => c_30 ((nI_leI (a := z42_1_23) (b := g_27) (Nat.lt_of_le_of_lt hz42_1_23 (Nat.le_of_ble_eq_true rfl)) (Nat.lt_of_le_of_lt hg_27 (Nat.le_of_ble_eq_true rfl))).mpr z)
          refine lv_iconst (v := 1) hx hb dX9_soonest_78 (by decide) ?_
          refine lv_iload hx hb dX9_soonest_79 (lv_at hl 4 rfl) ?_
          refine va_calli (va_runS (As := [.int 1, .int (nI g_27)]) (rest := []) ⟨hx, hb, hml, hown, hts⟩ (c_M_spotOf_1 l dC dI _ ad ck 0 x16 x18 x19 x20 x21 x22 x23 x24 x25 x26 x27 x28 x29 x30 x33 x45 (u_6 + 2) x52 x53 x61 x62 x63 x65 x66 f1 f2 f3 q4 q5 q6 q7 f8 q9 q10 f11 m12_0 m12_1 m13_0 m13_1 m14_0 m14_1 m15_0 m15_1 f17 q31 f32 z34_13 z35_14 f36 f37 z38_15 z39_16 z40_17 z41_18 m42_0 z42_1_23 z43_19 z44_20 z47_21 z48_22 f49 f50 f51 q54 q55 q56 f57 q58 f59 f60 f64 g_27 hx16 hx18 hx19 hx21 hx22 hx26 hx28 hx29 hx30 hx33 (by omega) hx52 hx53 hx61 hx62 hx63 hx65 hm12_0 hm12_1 hm13_0 hm13_1 hm14_0 hm14_1 hm15_0 hm15_1 hm42_0 hz42_1_23 (by omega)) (va_cwS 2 hts g_M_soonest_M_spotOf_1 rfl rfl rfl (by decide +kernel) ⟨Nat.le_of_ble_eq_true rfl, Nat.le_of_ble_eq_true rfl⟩) ⟨pu_bl, pu_in hP hK hD⟩ rfl rfl hl.1 rfl (lv_room (Nat.le_of_ble_eq_true rfl)) dX9_soonest_81 ⟨Nat.le_of_ble_eq_true rfl, Nat.le_of_ble_eq_true rfl⟩) hS (fun q _ h => pu_fr hS hA q h) (pu_fr hS hA) (fun r_38 u t H1 locs ht hvm hw hB hz1 hk1 hS => ?_)
          have hP := pu_keep hP hk1
          clear hk1 hz1 ht hvm
          generalize H1 = H at hP hS ⊢
          obtain rfl : r_38 = nI (120 + g_27) := hw
          refine lv_istore (lv' := [(5, .int (nI (120 + g_27))), (0, .ref (ad 0)), (1, .int (nI n_2)), (2, .int (nI n_4)), (3, .int g_26), (4, .int (nI g_27))]) hx hb dX9_soonest_84 hl (by decide) rfl (fun ls hl => ?_)
          refine lv_aload_n hx hb dX9_soonest_86 rfl (lv_at hl 1 rfl) ?_
          refine va_get (D := (dC, dI)) (ci := 9) (v := .ref (ad 38)) (C := RX9) (T := TX9) (N := 67) hx hb hts hiX9 hown hK hP 0 rfl rfl 38 (by decide) v_29 (fun _ h9 => h9) rfl dX9_soonest_87 ?_
          refine lv_iload hx hb dX9_soonest_90 (lv_at hl 0 rfl) ?_
          refine va_iald hx hb hK hP 23 22 rfl rfl (vp_in_nI (n := (120 + g_27)) (by omega) (Nat.le_of_ble_eq_true rfl)) dX9_soonest_92 ?_
          refine lv_topi (fun y_39 ey_39 => ?_)
          obtain ⟨u_40, hu_40, qu_40⟩ := bN_get 7 z38_15 (((nI (120 + g_27)) : Int32).toNatClampNeg)
          obtain rfl : y_39 = nI u_40 := ey_39.trans qu_40
          refine lv_iload_n hx hb dX9_soonest_93 rfl (lv_at hl 2 rfl) ?_
          refine pu_join (fun H locs ls st => ∃ (g_41 : Int32), st = [] ∧ va_P (dC, dI) vwCl (mo_w ad ck 0 (nI x16) (nI x18) (nI x19) x20 (nI x21) (nI x22) x23 x24 x25 (nI x26) x27 (nI x28) (nI x29) (nI x30) (nI x33) x45 (nI (u_6 + 2)) (nI x52) (nI x53) (nI x61) (nI x62) (nI x63) (nI x65) x66 f1 f2 f3 (bN 3 q4) (bN 7 q5) (bN 7 q6) (bN 4 q7) f8 (bN 2 q9) (bH q10) f11 (b2 m12_0 m12_1) (b2 m13_0 m13_1) (b2 m14_0 m14_1) (b2m m15_0 m15_1) f17 (bA 159 q31) f32 z34_13 z35_14 f36 f37 (bN 7 z38_15) z39_16 z40_17 z41_18 (b2 m42_0 z42_1_23) z43_19 z44_20 z47_21 z48_22 f49 f50 f51 (bN 13 q54) (bN 120 q55) (bN 120 q56) f57 (bN 120 q58) f59 f60 f64) H ∧ va_D A (mo_w ad ck 0 (nI x16) (nI x18) (nI x19) x20 (nI x21) (nI x22) x23 x24 x25 (nI x26) x27 (nI x28) (nI x29) (nI x30) (nI x33) x45 (nI (u_6 + 2)) (nI x52) (nI x53) (nI x61) (nI x62) (nI x63) (nI x65) x66 f1 f2 f3 (bN 3 q4) (bN 7 q5) (bN 7 q6) (bN 4 q7) f8 (bN 2 q9) (bH q10) f11 (b2 m12_0 m12_1) (b2 m13_0 m13_1) (b2 m14_0 m14_1) (b2m m15_0 m15_1) f17 (bA 159 q31) f32 z34_13 z35_14 f36 f37 (bN 7 z38_15) z39_16 z40_17 z41_18 (b2 m42_0 z42_1_23) z43_19 z44_20 z47_21 z48_22 f49 f50 f51 (bN 13 q54) (bN 120 q55) (bN 120 q56) f57 (bN 120 q58) f59 f60 f64) ∧ va_S A s.heap H locs ∧ lv_has ls 6 [(0, .ref (ad 0)), (1, .int (nI n_2)), (2, .int (nI n_4)), (3, .int g_41), (4, .int (nI g_27)), (5, .int (nI (120 + g_27)))]) 119 ?_ (fun j_42 => ?_)
          · rintro H locs ls st ⟨g_41, rfl, hP, hD, hS, hl⟩
            refine lv_iinc (v := (nI (g_27 + 1))) (lv' := [(4, .int (nI (g_27 + 1))), (0, .ref (ad 0)), (1, .int (nI n_2)), (2, .int (nI n_4)), (3, .int g_41), (5, .int (nI (120 + g_27)))]) hx hb dX9_soonest_119 hl (k := 4) rfl (nI_1 _) (by decide) rfl (fun ls hl => ?_)
            refine lv_goto (tgt := 67) hx hb dX9_soonest_122 (by decide) ?_
            exact ih_28 (400 - (g_27 + 1)) (by omega) _ _ _ ⟨g_41, (g_27 + 1), rfl, (by omega), hP, hD, hS, lv_sub hl [1, 2, 3, 4, 0] rfl⟩
          refine lv_icmp_ne (tgt := 119) hx hb dX9_soonest_94 (by decide) (fun c_43 => ?_) (fun c_43 => ?_)
          · have c_43 : ¬ u_40 = n_2 := fun z => c_43 ((nI_eq (a := u_40) (b := n_2) (Nat.lt_of_le_of_lt hu_40 (Nat.le_of_ble_eq_true rfl)) (by omega)).mpr z)
            exact j_42 _ _ _ _ ⟨g_26, rfl, hP, hD, hS, lv_sub hl [1, 2, 3, 4, 5, 0] rfl⟩
          · have c_43 : u_40 = n_2 := (nI_eq (a := u_40) (b := n_2) (Nat.lt_of_le_of_lt hu_40 (Nat.le_of_ble_eq_true rfl)) (by omega)).mp c_43
            refine lv_iload_n hx hb dX9_soonest_97 rfl (lv_at hl 4 rfl) ?_
            refine lv_aload_n hx hb dX9_soonest_98 rfl (lv_at hl 1 rfl) ?_
            refine va_get (D := (dC, dI)) (ci := 9) (v := .ref (ad 34)) (C := RX9) (T := TX9) (N := 67) hx hb hts hiX9 hown hK hP 0 rfl rfl 34 (by decide) v_30 (fun _ h9 => h9) rfl dX9_soonest_99 ?_
            refine lv_bipush (v := 25) hx hb dX9_soonest_102 (by decide) ?_
            refine lv_iload hx hb dX9_soonest_104 (lv_at hl 0 rfl) ?_
            refine lv_imul hx hb dX9_soonest_106 ?_
            refine lv_topi (fun y_44 ey_44 => ?_)
            obtain rfl : y_44 = (nI (25 * (120 + g_27))) := ey_44.trans (pk_mul 25 (120 + g_27))
            refine lv_aload_n hx hb dX9_soonest_107 rfl (lv_at hl 1 rfl) ?_
            refine va_get (D := (dC, dI)) (ci := 9) (v := .int (nI (u_6 + 2))) (C := RX9) (T := TX9) (N := 67) hx hb hts hiX9 hown hK hP 0 rfl rfl 46 (by decide) v_14 (fun _ h9 => h9) rfl dX9_soonest_108 ?_
            refine lv_iadd hx hb dX9_soonest_111 ?_
            refine lv_topi (fun y_45 ey_45 => ?_)
            obtain rfl : y_45 = (nI ((25 * (120 + g_27)) + (u_6 + 2))) := ey_45.trans (nI_add (25 * (120 + g_27)) (u_6 + 2))
            refine lv_iconst (v := 1) hx hb dX9_soonest_112 (by decide) ?_
            refine lv_isub hx hb dX9_soonest_113 ?_
            refine lv_topi (fun y_46 ey_46 => ?_)
            obtain rfl : y_46 = (nI (((25 * (120 + g_27)) + (u_6 + 2)) - 1)) := ey_46.trans (pk_sub (a := ((25 * (120 + g_27)) + (u_6 + 2))) (b := 1) (by omega))
            refine va_iald hx hb hK hP 19 18 rfl rfl (vp_in_nI (n := (((25 * (120 + g_27)) + (u_6 + 2)) - 1)) (by omega) (Nat.le_of_ble_eq_true rfl)) dX9_soonest_114 ?_
            refine lv_topi (fun y_47 ey_47 => ?_)
            refine va_calli (va_runS (As := [.int g_26, .int y_47]) (rest := []) ⟨hx, hb, hml, hown, hts⟩ (c_X9_greater l dC dI _ g_26 y_47) (va_cwS 2 hts g_M_soonest_X9_greater rfl rfl rfl (by decide +kernel) ⟨Nat.le_of_ble_eq_true rfl, Nat.le_of_ble_eq_true rfl⟩) ⟨pu_bl, pu_in (hP.sub [] rfl) (hK.sub [] rfl) (hD.sub [] (by decide) rfl)⟩ rfl rfl hl.1 rfl (lv_room (Nat.le_of_ble_eq_true rfl)) dX9_soonest_115 ⟨Nat.le_of_ble_eq_true rfl, Nat.le_of_ble_eq_true rfl⟩) hS (fun q _ h => pu_fr hS hA q h) (pu_fr hS hA) (fun r_48 u t H1 locs ht hvm hw hB hz1 hk1 hS => ?_)
            have hP := pu_keep hP hk1
            clear hk1 hz1 ht hvm
            generalize H1 = H at hP hS ⊢
            clear hw
            refine lv_istore_n (lv' := [(3, .int r_48), (5, .int (nI (120 + g_27))), (0, .ref (ad 0)), (1, .int (nI n_2)), (2, .int (nI n_4)), (4, .int (nI g_27))]) hx hb dX9_soonest_118 rfl hl (by decide) rfl (fun ls hl => ?_)
            exact j_42 _ _ _ _ ⟨r_48, rfl, hP, hD, hS, lv_sub hl [2, 3, 4, 0, 5, 1] rfl⟩
    · refine lv_if_ne (tgt := 24) hx hb dX9_soonest_19 (by decide) (fun z => absurd z (by decide)) (fun _ => ?_)
      refine lv_iconst (v := (-1)) hx hb dX9_soonest_22 (by decide) ?_
      exact W.iret (v := (-1)) hx hb hr (fun t ht hW => ⟨⟨(-1), (), rfl, trivial, ⟨f34, f35, q38, f39, f40, f41, f43, f44, f47, f48, m42_1, 0, x46, ⟨by rw [ht]; exact hP, va_K.moved hW.alike hK, hD⟩, hm42_1, hx46, by first | assumption | exact gz_0⟩⟩, hS.F ht⟩) hS.2.2 dX9_soonest_23
  · refine lv_if_eq (tgt := 22) hx hb dX9_soonest_10 (by decide) (fun _ => ?_) (fun z => absurd z (by decide))
    refine lv_iconst (v := (-1)) hx hb dX9_soonest_22 (by decide) ?_
    exact W.iret (v := (-1)) hx hb hr (fun t ht hW => ⟨⟨(-1), (), rfl, trivial, ⟨f34, f35, q38, f39, f40, f41, f43, f44, f47, f48, m42_1, 0, x46, ⟨by rw [ht]; exact hP, va_K.moved hW.alike hK, hD⟩, hm42_1, hx46, by first | assumption | exact gz_0⟩⟩, hS.F ht⟩) hS.2.2 dX9_soonest_23
theorem dX9_lets_0 : decode cX9_lets 0 = .ok (.aload_n 0, 1) := by decide +kernel
theorem dX9_lets_1 : decode cX9_lets 1 = .ok (.iconst 0, 1) := by decide +kernel
theorem dX9_lets_2 : decode cX9_lets 2 = .ok (.putfield 142, 3) := by decide +kernel
theorem dX9_lets_5 : decode cX9_lets 5 = .ok (.aload_n 0, 1) := by decide +kernel
theorem dX9_lets_6 : decode cX9_lets 6 = .ok (.iload_n 1, 1) := by decide +kernel
theorem dX9_lets_7 : decode cX9_lets 7 = .ok (.iload_n 2, 1) := by decide +kernel
theorem dX9_lets_8 : decode cX9_lets 8 = .ok (.invokevirtual 308, 3) := by decide +kernel
theorem dX9_lets_11 : decode cX9_lets 11 = .ok (.ifCond .eq 21, 3) := by decide +kernel
theorem dX9_lets_14 : decode cX9_lets 14 = .ok (.aload_n 0, 1) := by decide +kernel
theorem dX9_lets_15 : decode cX9_lets 15 = .ok (.iload_n 3, 1) := by decide +kernel
theorem dX9_lets_16 : decode cX9_lets 16 = .ok (.invokevirtual 286, 3) := by decide +kernel
theorem dX9_lets_19 : decode cX9_lets 19 = .ok (.ifCond .eq 13, 3) := by decide +kernel
theorem dX9_lets_22 : decode cX9_lets 22 = .ok (.iload 4, 2) := by decide +kernel
theorem dX9_lets_24 : decode cX9_lets 24 = .ok (.iconst 0, 1) := by decide +kernel
theorem dX9_lets_25 : decode cX9_lets 25 = .ok (.iconst 1, 1) := by decide +kernel
theorem dX9_lets_26 : decode cX9_lets 26 = .ok (.invokestatic 152, 3) := by decide +kernel
theorem dX9_lets_29 : decode cX9_lets 29 = .ok (.ifCond .ne 5, 3) := by decide +kernel
theorem dX9_lets_32 : decode cX9_lets 32 = .ok (.iconst (-1), 1) := by decide +kernel
theorem dX9_lets_33 : decode cX9_lets 33 = .ok (.ireturn, 1) := by decide +kernel
theorem dX9_lets_34 : decode cX9_lets 34 = .ok (.aload_n 0, 1) := by decide +kernel
theorem dX9_lets_35 : decode cX9_lets 35 = .ok (.iload_n 1, 1) := by decide +kernel
theorem dX9_lets_36 : decode cX9_lets 36 = .ok (.iload_n 2, 1) := by decide +kernel
theorem dX9_lets_37 : decode cX9_lets 37 = .ok (.invokevirtual 311, 3) := by decide +kernel
theorem dX9_lets_40 : decode cX9_lets 40 = .ok (.istore 5, 2) := by decide +kernel
theorem dX9_lets_42 : decode cX9_lets 42 = .ok (.aload_n 0, 1) := by decide +kernel
theorem dX9_lets_43 : decode cX9_lets 43 = .ok (.getfield 40, 3) := by decide +kernel
theorem dX9_lets_46 : decode cX9_lets 46 = .ok (.iload 5, 2) := by decide +kernel
theorem dX9_lets_48 : decode cX9_lets 48 = .ok (.iaload, 1) := by decide +kernel
theorem dX9_lets_49 : decode cX9_lets 49 = .ok (.istore 6, 2) := by decide +kernel
theorem dX9_lets_51 : decode cX9_lets 51 = .ok (.bipush (-2), 2) := by decide +kernel
theorem dX9_lets_53 : decode cX9_lets 53 = .ok (.istore 7, 2) := by decide +kernel
theorem dX9_lets_55 : decode cX9_lets 55 = .ok (.iconst 0, 1) := by decide +kernel
theorem dX9_lets_56 : decode cX9_lets 56 = .ok (.istore 8, 2) := by decide +kernel
theorem dX9_lets_58 : decode cX9_lets 58 = .ok (.iload 8, 2) := by decide +kernel
theorem dX9_lets_60 : decode cX9_lets 60 = .ok (.bipush 20, 2) := by decide +kernel
theorem dX9_lets_62 : decode cX9_lets 62 = .ok (.if_icmp .gt 95, 3) := by decide +kernel
theorem dX9_lets_65 : decode cX9_lets 65 = .ok (.iload 7, 2) := by decide +kernel
theorem dX9_lets_67 : decode cX9_lets 67 = .ok (.ifCond .ge 90, 3) := by decide +kernel
theorem dX9_lets_70 : decode cX9_lets 70 = .ok (.aload_n 0, 1) := by decide +kernel
theorem dX9_lets_71 : decode cX9_lets 71 = .ok (.getfield 40, 3) := by decide +kernel
theorem dX9_lets_74 : decode cX9_lets 74 = .ok (.iload 5, 2) := by decide +kernel
theorem dX9_lets_76 : decode cX9_lets 76 = .ok (.iload 4, 2) := by decide +kernel
theorem dX9_lets_78 : decode cX9_lets 78 = .ok (.ifCond .ne 8, 3) := by decide +kernel
theorem dX9_lets_81 : decode cX9_lets 81 = .ok (.iload 8, 2) := by decide +kernel
theorem dX9_lets_83 : decode cX9_lets 83 = .ok (.goto 8, 3) := by decide +kernel
theorem dX9_lets_86 : decode cX9_lets 86 = .ok (.bipush 20, 2) := by decide +kernel
theorem dX9_lets_88 : decode cX9_lets 88 = .ok (.iload 8, 2) := by decide +kernel
theorem dX9_lets_90 : decode cX9_lets 90 = .ok (.isub, 1) := by decide +kernel
theorem dX9_lets_91 : decode cX9_lets 91 = .ok (.iastore, 1) := by decide +kernel
theorem dX9_lets_92 : decode cX9_lets 92 = .ok (.aload_n 0, 1) := by decide +kernel
theorem dX9_lets_93 : decode cX9_lets 93 = .ok (.aload_n 0, 1) := by decide +kernel
theorem dX9_lets_94 : decode cX9_lets 94 = .ok (.invokevirtual 280, 3) := by decide +kernel
theorem dX9_lets_97 : decode cX9_lets 97 = .ok (.iconst 1, 1) := by decide +kernel
theorem dX9_lets_98 : decode cX9_lets 98 = .ok (.iadd, 1) := by decide +kernel
theorem dX9_lets_99 : decode cX9_lets 99 = .ok (.putfield 328, 3) := by decide +kernel
theorem dX9_lets_102 : decode cX9_lets 102 = .ok (.aload_n 0, 1) := by decide +kernel
theorem dX9_lets_103 : decode cX9_lets 103 = .ok (.iconst 0, 1) := by decide +kernel
theorem dX9_lets_104 : decode cX9_lets 104 = .ok (.iconst 0, 1) := by decide +kernel
theorem dX9_lets_105 : decode cX9_lets 105 = .ok (.iconst 0, 1) := by decide +kernel
theorem dX9_lets_106 : decode cX9_lets 106 = .ok (.invokevirtual 379, 3) := by decide +kernel
theorem dX9_lets_109 : decode cX9_lets 109 = .ok (.aload_n 0, 1) := by decide +kernel
theorem dX9_lets_110 : decode cX9_lets 110 = .ok (.iconst 1, 1) := by decide +kernel
theorem dX9_lets_111 : decode cX9_lets 111 = .ok (.aload_n 0, 1) := by decide +kernel
theorem dX9_lets_112 : decode cX9_lets 112 = .ok (.getfield 52, 3) := by decide +kernel
theorem dX9_lets_115 : decode cX9_lets 115 = .ok (.aload_n 0, 1) := by decide +kernel
theorem dX9_lets_116 : decode cX9_lets 116 = .ok (.getfield 258, 3) := by decide +kernel
theorem dX9_lets_119 : decode cX9_lets 119 = .ok (.iaload, 1) := by decide +kernel
theorem dX9_lets_120 : decode cX9_lets 120 = .ok (.iconst 2, 1) := by decide +kernel
theorem dX9_lets_121 : decode cX9_lets 121 = .ok (.iconst 1, 1) := by decide +kernel
theorem dX9_lets_122 : decode cX9_lets 122 = .ok (.bipush 120, 2) := by decide +kernel
theorem dX9_lets_124 : decode cX9_lets 124 = .ok (.iconst (-1), 1) := by decide +kernel
theorem dX9_lets_125 : decode cX9_lets 125 = .ok (.invokevirtual 383, 3) := by decide +kernel
theorem dX9_lets_128 : decode cX9_lets 128 = .ok (.aload_n 0, 1) := by decide +kernel
theorem dX9_lets_129 : decode cX9_lets 129 = .ok (.iconst 1, 1) := by decide +kernel
theorem dX9_lets_130 : decode cX9_lets 130 = .ok (.iload_n 3, 1) := by decide +kernel
theorem dX9_lets_131 : decode cX9_lets 131 = .ok (.invokevirtual 426, 3) := by decide +kernel
theorem dX9_lets_134 : decode cX9_lets 134 = .ok (.ifCond .eq 13, 3) := by decide +kernel
theorem dX9_lets_137 : decode cX9_lets 137 = .ok (.aload_n 0, 1) := by decide +kernel
theorem dX9_lets_138 : decode cX9_lets 138 = .ok (.getfield 40, 3) := by decide +kernel
theorem dX9_lets_141 : decode cX9_lets 141 = .ok (.iload 5, 2) := by decide +kernel
theorem dX9_lets_143 : decode cX9_lets 143 = .ok (.iaload, 1) := by decide +kernel
theorem dX9_lets_144 : decode cX9_lets 144 = .ok (.goto 5, 3) := by decide +kernel
theorem dX9_lets_147 : decode cX9_lets 147 = .ok (.iload 7, 2) := by decide +kernel
theorem dX9_lets_149 : decode cX9_lets 149 = .ok (.istore 7, 2) := by decide +kernel
theorem dX9_lets_151 : decode cX9_lets 151 = .ok (.iinc 8 1, 3) := by decide +kernel
theorem dX9_lets_154 : decode cX9_lets 154 = .ok (.goto (-96), 3) := by decide +kernel
theorem dX9_lets_157 : decode cX9_lets 157 = .ok (.aload_n 0, 1) := by decide +kernel
theorem dX9_lets_158 : decode cX9_lets 158 = .ok (.getfield 40, 3) := by decide +kernel
theorem dX9_lets_161 : decode cX9_lets 161 = .ok (.iload 5, 2) := by decide +kernel
theorem dX9_lets_163 : decode cX9_lets 163 = .ok (.iload 6, 2) := by decide +kernel
theorem dX9_lets_165 : decode cX9_lets 165 = .ok (.iastore, 1) := by decide +kernel
theorem dX9_lets_166 : decode cX9_lets 166 = .ok (.iload 7, 2) := by decide +kernel
theorem dX9_lets_168 : decode cX9_lets 168 = .ok (.ireturn, 1) := by decide +kernel
abbrev vs_M_lets : List Cond := .code yX9_lets cX9_lets 9 (some .int) :: VM
theorem g_M_lets_X9_in : GoodIn vs_M_lets (va_wsS RX9 152 yX9_in vs_X9_in) := gm_0 (fun w h => by
  rcases List.mem_cons.mp h with rfl | h
  · exact vm_153
  rcases List.mem_cons.mp h with rfl | h
  · exact vm_154
  rcases List.mem_cons.mp h with rfl | h
  · exact vm_12
  rcases List.mem_cons.mp h with rfl | h
  · exact vm_14
  exact absurd h (List.not_mem_nil))
theorem g_M_lets_M_isCondition : GoodIn vs_M_lets (wsV RX9 308 RX9 yX9_isCondition vs_M_isCondition) := gm_V vm_170 vm_171 vm_172 vm_12 vm_165
theorem g_M_lets_M_isPlace : GoodIn vs_M_lets (wsV RX9 286 RX9 yX9_isPlace vs_M_isPlace) := gm_V vm_161 vm_162 vm_163 vm_12 vm_155
theorem g_M_lets_M_spot_e : GoodIn vs_M_lets (wsV RX9 311 RX9 yX9_spot vs_M_spot_e) := gm_V vm_173 vm_174 vm_175 vm_12 vm_164
theorem g_M_lets_M_clocks : GoodIn vs_M_lets (wsV RX9 280 RX9 yX9_clocks vs_M_clocks) := gm_V vm_150 vm_151 vm_152 vm_12 vm_20
theorem g_M_lets_M_layPoint : GoodIn vs_M_lets (wsV RX9 379 RX9 yX9_layPoint vs_M_layPoint) := gm_V vm_270 vm_271 vm_272 vm_12 vm_238
theorem g_M_lets_M_explores_1_120 : GoodIn vs_M_lets (wsV RX9 383 RX9 yX9_explores vs_M_explores_1_120) := gm_V vm_273 vm_274 vm_275 vm_12 vm_258
theorem g_M_lets_M_hasPlace_1 : GoodIn vs_M_lets (wsV RX9 426 RX9 yX9_hasPlace vs_M_hasPlace_1) := gm_V vm_384 vm_385 vm_386 vm_12 vm_239
theorem g_M_lets_M_spot_p : GoodIn vs_M_lets (wsV RX9 311 RX9 yX9_spot vs_M_spot_p) := gm_V vm_173 vm_174 vm_175 vm_12 vm_164
set_option maxHeartbeats 4000000 in
set_option maxRecDepth 100000 in
theorem c_M_lets (l : Launch) (dC : Nat → ClassId) (dI : Nat → Nat → Nat) (sz : Nat) (ad : Nat → Nat) (ck : Nat → ClassId) (x0 : Int32) (x16 : Nat) (x18 : Nat) (x19 : Nat) (x20 : Int32) (x21 : Nat) (x22 : Nat) (x23 : Int32) (x24 : Int32) (x25 : Int32) (x26 : Nat) (x27 : Int32) (x28 : Nat) (x29 : Nat) (x30 : Nat) (x33 : Nat) (x45 : Int32) (x46 : Nat) (x52 : Nat) (x53 : Nat) (x61 : Nat) (x62 : Nat) (x63 : Nat) (x65 : Nat) (x66 : Int32) (f1 : Nat → Int32) (f2 : Nat → Int32) (f3 : Nat → Int32) (q4 : Nat → Nat) (q5 : Nat → Nat) (q6 : Nat → Nat) (q7 : Nat → Nat) (f8 : Nat → Int32) (q9 : Nat → Nat) (q10 : Nat → Nat) (f11 : Nat → Int32) (m12_0 m12_1 : Nat) (m13_0 m13_1 : Nat) (m14_0 m14_1 : Nat) (m15_0 m15_1 : Nat) (f17 : Nat → Int32) (q31 : Nat → Nat) (f32 : Nat → Int32) (f34 : Nat → Int32) (f35 : Nat → Int32) (f36 : Nat → Int32) (f37 : Nat → Int32) (q38 : Nat → Nat) (f39 : Nat → Int32) (f40 : Nat → Int32) (f41 : Nat → Int32) (m42_0 m42_1 : Nat) (f43 : Nat → Int32) (f44 : Nat → Int32) (f47 : Nat → Int32) (f48 : Nat → Int32) (f49 : Nat → Int32) (f50 : Nat → Int32) (f51 : Nat → Int32) (q54 : Nat → Nat) (q55 : Nat → Nat) (q56 : Nat → Nat) (f57 : Nat → Int32) (q58 : Nat → Nat) (f59 : Nat → Int32) (f60 : Nat → Int32) (f64 : Nat → Int32) (p0 : Int32) (p1 : Int32) (p2 : Int32) (p3 : Int32) (hx16 : x16 ≤ 1) (hx18 : x18 ≤ 900) (hx19 : x19 ≤ 900) (hx21 : x21 ≤ 900) (hx22 : x22 ≤ 4) (hx26 : x26 ≤ 6) (hx28 : x28 ≤ 1) (hx29 : x29 ≤ 1) (hx30 : x30 ≤ 1) (hx33 : x33 ≤ 20) (hx46 : x46 ≤ 5) (hx52 : x52 ≤ 2400) (hx53 : x53 ≤ 119) (hx61 : x61 ≤ 119) (hx62 : x62 ≤ 2000) (hx63 : x63 ≤ 1) (hx65 : x65 ≤ 7) (hm12_0 : m12_0 ≤ 3) (hm12_1 : m12_1 ≤ 3) (hm13_0 : m13_0 ≤ 8) (hm13_1 : m13_1 ≤ 8) (hm14_0 : m14_0 ≤ 14) (hm14_1 : m14_1 ≤ 14) (hm15_0 : m15_0 ≤ 8) (hm15_1 : m15_1 ≤ 8) (hm42_0 : m42_0 ≤ 120) (hm42_1 : m42_1 ≤ 400) (hbg : (x16 = 0 ∧ (m13_0 = 0 ∨ 1 ≤ m15_0)) ∨ (x16 = 1 ∧ (m13_1 = 0 ∨ 1 ≤ m15_1))) (hgr : gz_ok m42_0 f39 f40 f41) : Met l yX9_lets vs_M_lets ({ frames := 7, cells := 0, slots := 0, locals := 171 }) (va_Pc [.ref (ad 0), .int p0, .int p1, .int p2, .int p3] (pu_B (dC, dI) (mo_w ad ck x0 (nI x16) (nI x18) (nI x19) x20 (nI x21) (nI x22) x23 x24 x25 (nI x26) x27 (nI x28) (nI x29) (nI x30) (nI x33) x45 (nI x46) (nI x52) (nI x53) (nI x61) (nI x62) (nI x63) (nI x65) x66 f1 f2 f3 (bN 3 q4) (bN 7 q5) (bN 7 q6) (bN 4 q7) f8 (bN 2 q9) (bH q10) f11 (b2 m12_0 m12_1) (b2 m13_0 m13_1) (b2 m14_0 m14_1) (b2m m15_0 m15_1) f17 (bA 159 q31) f32 f34 f35 f36 f37 (bN 7 q38) f39 f40 f41 (b2 m42_0 m42_1) f43 f44 f47 f48 f49 f50 f51 (bN 13 q54) (bN 120 q55) (bN 120 q56) f57 (bN 120 q58) f59 f60 f64) (mo_t ck) sz)) (va_Qi (fun (r : Int32) (_ : Unit) => True) (fun _ t => ∃ (z11 : Nat → Int32) (z34 : Nat → Int32) (z35 : Nat → Int32) (z38 : Nat → Nat) (z39 : Nat → Int32) (z40 : Nat → Int32) (z41 : Nat → Int32) (z43 : Nat → Int32) (z44 : Nat → Int32) (z47 : Nat → Int32) (z48 : Nat → Int32) (z42_1 : Nat) (z0 : Int32) (z46 : Nat), pu_E (dC, dI) (mo_w ad ck z0 (nI x16) (nI x18) (nI x19) x20 (nI x21) (nI x22) x23 x24 x25 (nI x26) x27 (nI x28) (nI x29) (nI x30) (nI x33) x45 (nI z46) (nI x52) (nI x53) (nI x61) (nI x62) (nI x63) (nI x65) x66 f1 f2 f3 (bN 3 q4) (bN 7 q5) (bN 7 q6) (bN 4 q7) f8 (bN 2 q9) (bH q10) z11 (b2 m12_0 m12_1) (b2 m13_0 m13_1) (b2 m14_0 m14_1) (b2m m15_0 m15_1) f17 (bA 159 q31) f32 z34 z35 f36 f37 (bN 7 z38) z39 z40 z41 (b2 m42_0 z42_1) z43 z44 z47 z48 f49 f50 f51 (bN 13 q54) (bN 120 q55) (bN 120 q56) f57 (bN 120 q58) f59 f60 f64) (mo_t ck) (va_A ((mo_w ad ck x0 (nI x16) (nI x18) (nI x19) x20 (nI x21) (nI x22) x23 x24 x25 (nI x26) x27 (nI x28) (nI x29) (nI x30) (nI x33) x45 (nI x46) (nI x52) (nI x53) (nI x61) (nI x62) (nI x63) (nI x65) x66 f1 f2 f3 (bN 3 q4) (bN 7 q5) (bN 7 q6) (bN 4 q7) f8 (bN 2 q9) (bH q10) f11 (b2 m12_0 m12_1) (b2 m13_0 m13_1) (b2 m14_0 m14_1) (b2m m15_0 m15_1) f17 (bA 159 q31) f32 f34 f35 f36 f37 (bN 7 q38) f39 f40 f41 (b2 m42_0 m42_1) f43 f44 f47 f48 f49 f50 f51 (bN 13 q54) (bN 120 q55) (bN 120 q56) f57 (bN 120 q58) f59 f60 f64)) sz) t ∧ (z42_1 ≤ 400) ∧ (z46 ≤ 5) ∧ (gz_ok m42_0 z39 z40 z41)) (va_A ((mo_w ad ck x0 (nI x16) (nI x18) (nI x19) x20 (nI x21) (nI x22) x23 x24 x25 (nI x26) x27 (nI x28) (nI x29) (nI x30) (nI x33) x45 (nI x46) (nI x52) (nI x53) (nI x61) (nI x62) (nI x63) (nI x65) x66 f1 f2 f3 (bN 3 q4) (bN 7 q5) (bN 7 q6) (bN 4 q7) f8 (bN 2 q9) (bH q10) f11 (b2 m12_0 m12_1) (b2 m13_0 m13_1) (b2 m14_0 m14_1) (b2m m15_0 m15_1) f17 (bA 159 q31) f32 f34 f35 f36 f37 (bN 7 q38) f39 f40 f41 (b2 m42_0 m42_1) f43 f44 f47 f48 f49 f50 f51 (bN 13 q54) (bN 120 q55) (bN 120 q56) f57 (bN 120 q58) f59 f60 f64)) sz)) 0 0 (va_A ((mo_w ad ck x0 (nI x16) (nI x18) (nI x19) x20 (nI x21) (nI x22) x23 x24 x25 (nI x26) x27 (nI x28) (nI x29) (nI x30) (nI x33) x45 (nI x46) (nI x52) (nI x53) (nI x61) (nI x62) (nI x63) (nI x65) x66 f1 f2 f3 (bN 3 q4) (bN 7 q5) (bN 7 q6) (bN 4 q7) f8 (bN 2 q9) (bH q10) f11 (b2 m12_0 m12_1) (b2 m13_0 m13_1) (b2 m14_0 m14_1) (b2m m15_0 m15_1) f17 (bA 159 q31) f32 f34 f35 f36 f37 (bN 7 q38) f39 f40 f41 (b2 m42_0 m42_1) f43 f44 f47 f48 f49 f50 f51 (bN 13 q54) (bN 120 q55) (bN 120 q56) f57 (bN 120 q58) f59 f60 f64)) sz) := by
  refine Met.ofW (cc := cX9_lets) (maxL := 9) (ret := (some .int)) (by decide) rfl ?_
  intro p e s m args below meth c s₁ B hml hv
  obtain ⟨rfl, rfl, hP, hK, hD0⟩ := hv
  have hx := B.exec
  have hb := B.bytes
  have hr := B.returns
  have hts := atoms_spec (ws := vs_M_lets) B.pre
  have v_1 := hts (.fieldLink RX9 142 "ClockReachModel" "thrown" "I") (List.mem_cons_of_mem _ vm_24)
  have v_18 := hts (.fieldLink RX9 40 "ClockReachModel" "limit" "[I") (List.mem_cons_of_mem _ vm_116)
  have v_23 := hts (.fieldLink RX9 328 "ClockReachModel" "side" "I") (List.mem_cons_of_mem _ vm_209)
  have v_28 := hts (.fieldLink RX9 52 "ClockReachModel" "begins" "[I") (List.mem_cons_of_mem _ vm_133)
  have v_29 := hts (.fieldLink RX9 258 "ClockReachModel" "bank" "I") (List.mem_cons_of_mem _ vm_22)
  have hown : s.vm.findClass RX9 = some m.cls := findClass_of_methodNamed B.named
  have hlocks := B.notSynchronized
  have hiX9 : ∀ w ∈ wsX90, w ∈ vs_M_lets := fun _ h => List.mem_cons_of_mem _ (List.mem_append_right _ h)
  have hD := hD0.self (sz := s.heap.size)
  generalize hAe : va_A ((mo_w ad ck x0 (nI x16) (nI x18) (nI x19) x20 (nI x21) (nI x22) x23 x24 x25 (nI x26) x27 (nI x28) (nI x29) (nI x30) (nI x33) x45 (nI x46) (nI x52) (nI x53) (nI x61) (nI x62) (nI x63) (nI x65) x66 f1 f2 f3 (bN 3 q4) (bN 7 q5) (bN 7 q6) (bN 4 q7) f8 (bN 2 q9) (bH q10) f11 (b2 m12_0 m12_1) (b2 m13_0 m13_1) (b2 m14_0 m14_1) (b2m m15_0 m15_1) f17 (bA 159 q31) f32 f34 f35 f36 f37 (bN 7 q38) f39 f40 f41 (b2 m42_0 m42_1) f43 f44 f47 f48 f49 f50 f51 (bN 13 q54) (bN 120 q55) (bN 120 q56) f57 (bN 120 q58) f59 f60 f64)) s.heap.size = A at hD ⊢
  have hA : ∀ q : Nat, s.heap.size ≤ q → A q := fun q h => by rw [← hAe]; exact Or.inr h
  have hS : va_S A s.heap s.heap [] := va_S.rf
  have hl := lv_entry ([.ref (ad 0), .int p0, .int p1, .int p2, .int p3]) (n := 9) (Nat.le_of_ble_eq_true rfl)
  rw [lg_entry_eq]
  generalize (lg_sl ([.ref (ad 0), .int p0, .int p1, .int p2, .int p3]) ++ List.replicate (9 - (lg_sl ([.ref (ad 0), .int p0, .int p1, .int p2, .int p3])).length) Slot.unset).toArray = ls at hl ⊢
  have hl : lv_has ls 9 [(0, .ref (ad 0)), (1, .int p0), (2, .int p1), (3, .int p2), (4, .int p3)] := hl
  refine lv_aload_n hx hb dX9_lets_0 rfl (lv_at hl 0 rfl) ?_
  refine lv_iconst (v := 0) hx hb dX9_lets_1 (by decide) ?_
  refine va_put (D := (dC, dI)) (ci := 9) (v := .int 0) (ty := .int) (C := RX9) (T := TX9) (N := 67) hx hb hts hiX9 tyX9 tyX9_ok nmX9 hown hK hP hD hS 0 rfl rfl 0 (by decide) v_1 (fun _ h9 => h9) rfl (by decide +kernel) rfl rfl (Nat.le_of_ble_eq_true rfl) dX9_lets_2 (fun H locs hP hD hS => ?_)
  have hP : va_P (dC, dI) vwCl (mo_w ad ck 0 (nI x16) (nI x18) (nI x19) x20 (nI x21) (nI x22) x23 x24 x25 (nI x26) x27 (nI x28) (nI x29) (nI x30) (nI x33) x45 (nI x46) (nI x52) (nI x53) (nI x61) (nI x62) (nI x63) (nI x65) x66 f1 f2 f3 (bN 3 q4) (bN 7 q5) (bN 7 q6) (bN 4 q7) f8 (bN 2 q9) (bH q10) f11 (b2 m12_0 m12_1) (b2 m13_0 m13_1) (b2 m14_0 m14_1) (b2m m15_0 m15_1) f17 (bA 159 q31) f32 f34 f35 f36 f37 (bN 7 q38) f39 f40 f41 (b2 m42_0 m42_1) f43 f44 f47 f48 f49 f50 f51 (bN 13 q54) (bN 120 q55) (bN 120 q56) f57 (bN 120 q58) f59 f60 f64) H := hP
  have hD : va_D A (mo_w ad ck 0 (nI x16) (nI x18) (nI x19) x20 (nI x21) (nI x22) x23 x24 x25 (nI x26) x27 (nI x28) (nI x29) (nI x30) (nI x33) x45 (nI x46) (nI x52) (nI x53) (nI x61) (nI x62) (nI x63) (nI x65) x66 f1 f2 f3 (bN 3 q4) (bN 7 q5) (bN 7 q6) (bN 4 q7) f8 (bN 2 q9) (bH q10) f11 (b2 m12_0 m12_1) (b2 m13_0 m13_1) (b2 m14_0 m14_1) (b2m m15_0 m15_1) f17 (bA 159 q31) f32 f34 f35 f36 f37 (bN 7 q38) f39 f40 f41 (b2 m42_0 m42_1) f43 f44 f47 f48 f49 f50 f51 (bN 13 q54) (bN 120 q55) (bN 120 q56) f57 (bN 120 q58) f59 f60 f64) := hD
  refine lv_aload_n hx hb dX9_lets_5 rfl (lv_at hl 0 rfl) ?_
  refine lv_iload_n hx hb dX9_lets_6 rfl (lv_at hl 1 rfl) ?_
  refine lv_iload_n hx hb dX9_lets_7 rfl (lv_at hl 2 rfl) ?_
  refine va_calli (va_runV (As := [.int p0, .int p1]) (rest := []) ⟨hx, hb, hml, hown, hts⟩ (c_M_isCondition l dC dI _ ad ck 0 x16 x18 x19 x20 x21 x22 x23 x24 x25 x26 x27 x28 x29 x30 x33 x45 x46 x52 x53 x61 x62 x63 x65 x66 f1 f2 f3 q4 q5 q6 q7 f8 q9 q10 f11 m12_0 m12_1 m13_0 m13_1 m14_0 m14_1 m15_0 m15_1 f17 q31 f32 f34 f35 f36 f37 q38 f39 f40 f41 m42_0 m42_1 f43 f44 f47 f48 f49 f50 f51 q54 q55 q56 f57 q58 f59 f60 f64 p0 p1 hx16 hx18 hx19 hx21 hx22 hx26 hx28 hx29 hx30 hx33 hx46 hx52 hx53 hx61 hx62 hx63 hx65 hm12_0 hm12_1 hm13_0 hm13_1 hm14_0 hm14_1 hm15_0 hm15_1 hm42_0 hm42_1) (cwV 2 hts g_M_lets_M_isCondition rfl rfl rfl (by decide +kernel) ⟨Nat.le_of_ble_eq_true rfl, Nat.le_of_ble_eq_true rfl⟩) ⟨pu_bl, va_recv hK hP (ci := 9) (q0 := 0) rfl rfl, pu_in hP hK hD⟩ rfl rfl hl.1 rfl (lv_room (Nat.le_of_ble_eq_true rfl)) dX9_lets_8 ⟨Nat.le_of_ble_eq_true rfl, Nat.le_of_ble_eq_true rfl⟩) hS (fun q _ h => pu_fr hS hA q h) (pu_fr hS hA) (fun r_1 u t H1 locs ht hvm hw hB hz1 hk1 hS => ?_)
  have hP := pu_keep hP hk1
  clear hk1 hz1 ht hvm
  generalize H1 = H at hP hS ⊢
  rcases hw with ⟨rfl, ⟨n_2, n_3, hn_2, hn_3, rfl, rfl⟩ | ⟨n_2, n_3, hn_2, hn_3, rfl, rfl⟩⟩ | rfl
  · refine lv_if_eq (tgt := 32) hx hb dX9_lets_11 (by decide) (fun z => absurd z (by decide)) (fun _ => ?_)
    refine lv_aload_n hx hb dX9_lets_14 rfl (lv_at hl 0 rfl) ?_
    refine lv_iload_n hx hb dX9_lets_15 rfl (lv_at hl 3 rfl) ?_
    refine va_calli (va_runV (As := [.int p2]) (rest := []) ⟨hx, hb, hml, hown, hts⟩ (c_M_isPlace l dC dI _ ad ck 0 x16 x18 x19 x20 x21 x22 x23 x24 x25 x26 x27 x28 x29 x30 x33 x45 x46 x52 x53 x61 x62 x63 x65 x66 f1 f2 f3 q4 q5 q6 q7 f8 q9 q10 f11 m12_0 m12_1 m13_0 m13_1 m14_0 m14_1 m15_0 m15_1 f17 q31 f32 f34 f35 f36 f37 q38 f39 f40 f41 m42_0 m42_1 f43 f44 f47 f48 f49 f50 f51 q54 q55 q56 f57 q58 f59 f60 f64 p2 hx16 hx18 hx19 hx21 hx22 hx26 hx28 hx29 hx30 hx33 hx46 hx52 hx53 hx61 hx62 hx63 hx65 hm12_0 hm12_1 hm13_0 hm13_1 hm14_0 hm14_1 hm15_0 hm15_1 hm42_0 hm42_1) (cwV 1 hts g_M_lets_M_isPlace rfl rfl rfl (by decide +kernel) ⟨Nat.le_of_ble_eq_true rfl, Nat.le_of_ble_eq_true rfl⟩) ⟨pu_bl, va_recv hK hP (ci := 9) (q0 := 0) rfl rfl, pu_in hP hK hD⟩ rfl rfl hl.1 rfl (lv_room (Nat.le_of_ble_eq_true rfl)) dX9_lets_16 ⟨Nat.le_of_ble_eq_true rfl, Nat.le_of_ble_eq_true rfl⟩) hS (fun q _ h => pu_fr hS hA q h) (pu_fr hS hA) (fun r_4 u t H1 locs ht hvm hw hB hz1 hk1 hS => ?_)
    have hP := pu_keep hP hk1
    clear hk1 hz1 ht hvm
    generalize H1 = H at hP hS ⊢
    rcases hw with ⟨rfl, hw⟩ | rfl
    · obtain ⟨n_5, hn_5, rfl⟩ := hw
      refine lv_if_eq (tgt := 32) hx hb dX9_lets_19 (by decide) (fun z => absurd z (by decide)) (fun _ => ?_)
      refine lv_iload hx hb dX9_lets_22 (lv_at hl 4 rfl) ?_
      refine lv_iconst (v := 0) hx hb dX9_lets_24 (by decide) ?_
      refine lv_iconst (v := 1) hx hb dX9_lets_25 (by decide) ?_
      refine va_calli (va_runS (As := [.int p3, .int 0, .int 1]) (rest := []) ⟨hx, hb, hml, hown, hts⟩ (c_X9_in l dC dI _ p3 0 1) (va_cwS 3 hts g_M_lets_X9_in rfl rfl rfl (by decide +kernel) ⟨Nat.le_of_ble_eq_true rfl, Nat.le_of_ble_eq_true rfl⟩) ⟨pu_bl, pu_in (hP.sub [] rfl) (hK.sub [] rfl) (hD.sub [] (by decide) rfl)⟩ rfl rfl hl.1 rfl (lv_room (Nat.le_of_ble_eq_true rfl)) dX9_lets_26 ⟨Nat.le_of_ble_eq_true rfl, Nat.le_of_ble_eq_true rfl⟩) hS (fun q _ h => pu_fr hS hA q h) (pu_fr hS hA) (fun r_6 u t H1 locs ht hvm hw hB hz1 hk1 hS => ?_)
      have hP := pu_keep hP hk1
      clear hk1 hz1 ht hvm
      generalize H1 = H at hP hS ⊢
      rcases hw with ⟨rfl, hi1, hi2⟩ | ⟨rfl, hi3⟩
      · obtain ⟨n_7, hn_7, rfl⟩ := pu_in0 (n := 1) (by omega) hi1 hi2
        refine lv_if_ne (tgt := 34) hx hb dX9_lets_29 (by decide) (fun _ => ?_) (fun z => absurd z (by decide))
        refine lv_aload_n hx hb dX9_lets_34 rfl (lv_at hl 0 rfl) ?_
        refine lv_iload_n hx hb dX9_lets_35 rfl (lv_at hl 1 rfl) ?_
        refine lv_iload_n hx hb dX9_lets_36 rfl (lv_at hl 2 rfl) ?_
        refine va_calli (va_runV (As := [.int (nI n_2), .int (nI n_3)]) (rest := []) ⟨hx, hb, hml, hown, hts⟩ (c_M_spot_e l dC dI _ ad ck 0 x16 x18 x19 x20 x21 x22 x23 x24 x25 x26 x27 x28 x29 x30 x33 x45 x46 x52 x53 x61 x62 x63 x65 x66 f1 f2 f3 q4 q5 q6 q7 f8 q9 q10 f11 m12_0 m12_1 m13_0 m13_1 m14_0 m14_1 m15_0 m15_1 f17 q31 f32 f34 f35 f36 f37 q38 f39 f40 f41 m42_0 m42_1 f43 f44 f47 f48 f49 f50 f51 q54 q55 q56 f57 q58 f59 f60 f64 n_2 n_3 hx16 hx18 hx19 hx21 hx22 hx26 hx28 hx29 hx30 hx33 hx46 hx52 hx53 hx61 hx62 hx63 hx65 hm12_0 hm12_1 hm13_0 hm13_1 hm14_0 hm14_1 hm15_0 hm15_1 hm42_0 hm42_1 (by omega) (by omega)) (cwV 2 hts g_M_lets_M_spot_e rfl rfl rfl (by decide +kernel) ⟨Nat.le_of_ble_eq_true rfl, Nat.le_of_ble_eq_true rfl⟩) ⟨pu_bl, va_recv hK hP (ci := 9) (q0 := 0) rfl rfl, pu_in hP hK hD⟩ rfl rfl hl.1 rfl (lv_room (Nat.le_of_ble_eq_true rfl)) dX9_lets_37 ⟨Nat.le_of_ble_eq_true rfl, Nat.le_of_ble_eq_true rfl⟩) hS (fun q _ h => pu_fr hS hA q h) (pu_fr hS hA) (fun r_8 u t H1 locs ht hvm hw hB hz1 hk1 hS => ?_)
        have hP := pu_keep hP hk1
        clear hk1 hz1 ht hvm
        generalize H1 = H at hP hS ⊢
        obtain rfl : r_8 = nI (80 * x16 + 4 * n_2 + n_3) := hw
        refine lv_istore (lv' := [(5, .int (nI (80 * x16 + 4 * n_2 + n_3))), (0, .ref (ad 0)), (1, .int (nI n_2)), (2, .int (nI n_3)), (3, .int (nI n_5)), (4, .int (nI n_7))]) hx hb dX9_lets_40 hl (by decide) rfl (fun ls hl => ?_)
        refine lv_aload_n hx hb dX9_lets_42 rfl (lv_at hl 1 rfl) ?_
        refine va_get (D := (dC, dI)) (ci := 9) (v := .ref (ad 11)) (C := RX9) (T := TX9) (N := 67) hx hb hts hiX9 hown hK hP 0 rfl rfl 11 (by decide) v_18 (fun _ h9 => h9) rfl dX9_lets_43 ?_
        refine lv_iload hx hb dX9_lets_46 (lv_at hl 0 rfl) ?_
        refine va_iald hx hb hK hP 11 10 rfl rfl (vp_in_nI (n := (80 * x16 + 4 * n_2 + n_3)) (by omega) (Nat.le_of_ble_eq_true rfl)) dX9_lets_48 ?_
        refine lv_topi (fun y_9 ey_9 => ?_)
        refine lv_istore (lv' := [(6, .int y_9), (5, .int (nI (80 * x16 + 4 * n_2 + n_3))), (0, .ref (ad 0)), (1, .int (nI n_2)), (2, .int (nI n_3)), (3, .int (nI n_5)), (4, .int (nI n_7))]) hx hb dX9_lets_49 hl (by decide) rfl (fun ls hl => ?_)
        refine lv_bipush (v := (-2)) hx hb dX9_lets_51 (by decide) ?_
        refine lv_istore (lv' := [(7, .int (-2)), (6, .int y_9), (5, .int (nI (80 * x16 + 4 * n_2 + n_3))), (0, .ref (ad 0)), (1, .int (nI n_2)), (2, .int (nI n_3)), (3, .int (nI n_5)), (4, .int (nI n_7))]) hx hb dX9_lets_53 hl (by decide) rfl (fun ls hl => ?_)
        refine lv_iconst (v := 0) hx hb dX9_lets_55 (by decide) ?_
        refine lv_istore (lv' := [(8, .int 0), (7, .int (-2)), (6, .int y_9), (5, .int (nI (80 * x16 + 4 * n_2 + n_3))), (0, .ref (ad 0)), (1, .int (nI n_2)), (2, .int (nI n_3)), (3, .int (nI n_5)), (4, .int (nI n_7))]) hx hb dX9_lets_56 hl (by decide) rfl (fun ls hl => ?_)
        refine pu_while (fun nn H locs ls => ∃ (g_26 : Nat → Int32) (g_27 : Nat → Int32) (g_28 : Nat → Int32) (g_29 : Nat → Nat) (g_30 : Nat → Int32) (g_31 : Nat → Int32) (g_32 : Nat → Int32) (g_33 : Nat → Int32) (g_34 : Nat → Int32) (g_35 : Nat → Int32) (g_36 : Nat → Int32) (g_37 : Nat) (g_38 : Nat) (g_39 : Int32) (g_40 : Nat), nn = 21 - g_40 ∧ g_37 ≤ 400 ∧ g_38 ≤ 5 ∧ g_40 ≤ 21 ∧ gz_ok m42_0 g_30 g_31 g_32 ∧ va_P (dC, dI) vwCl (mo_w ad ck 0 (nI x16) (nI x18) (nI x19) x20 (nI x21) (nI x22) x23 x24 x25 (nI x26) x27 (nI x28) (nI x29) (nI x30) (nI x33) x45 (nI g_38) (nI x52) (nI x53) (nI x61) (nI x62) (nI x63) (nI x65) x66 f1 f2 f3 (bN 3 q4) (bN 7 q5) (bN 7 q6) (bN 4 q7) f8 (bN 2 q9) (bH q10) g_26 (b2 m12_0 m12_1) (b2 m13_0 m13_1) (b2 m14_0 m14_1) (b2m m15_0 m15_1) f17 (bA 159 q31) f32 g_27 g_28 f36 f37 (bN 7 g_29) g_30 g_31 g_32 (b2 m42_0 g_37) g_33 g_34 g_35 g_36 f49 f50 f51 (bN 13 q54) (bN 120 q55) (bN 120 q56) f57 (bN 120 q58) f59 f60 f64) H ∧ va_D A (mo_w ad ck 0 (nI x16) (nI x18) (nI x19) x20 (nI x21) (nI x22) x23 x24 x25 (nI x26) x27 (nI x28) (nI x29) (nI x30) (nI x33) x45 (nI g_38) (nI x52) (nI x53) (nI x61) (nI x62) (nI x63) (nI x65) x66 f1 f2 f3 (bN 3 q4) (bN 7 q5) (bN 7 q6) (bN 4 q7) f8 (bN 2 q9) (bH q10) g_26 (b2 m12_0 m12_1) (b2 m13_0 m13_1) (b2 m14_0 m14_1) (b2m m15_0 m15_1) f17 (bA 159 q31) f32 g_27 g_28 f36 f37 (bN 7 g_29) g_30 g_31 g_32 (b2 m42_0 g_37) g_33 g_34 g_35 g_36 f49 f50 f51 (bN 13 q54) (bN 120 q55) (bN 120 q56) f57 (bN 120 q58) f59 f60 f64) ∧ va_S A s.heap H locs ∧ lv_has ls 9 [(0, .ref (ad 0)), (1, .int (nI n_2)), (2, .int (nI n_3)), (3, .int (nI n_5)), (4, .int (nI n_7)), (5, .int (nI (80 * x16 + 4 * n_2 + n_3))), (6, .int y_9), (7, .int g_39), (8, .int (nI g_40))]) 58 ?_ _ _ _ _ ⟨f11, f34, f35, q38, f39, f40, f41, f43, f44, f47, f48, m42_1, x46, (-2), 0, rfl, hm42_1, hx46, (Nat.le_of_ble_eq_true rfl), by first | assumption | exact gz_0, hP, hD, hS, lv_sub hl [4, 5, 6, 7, 8, 3, 2, 1, 0] rfl⟩
        rintro nn ih_42 H locs ls ⟨g_26, g_27, g_28, g_29, g_30, g_31, g_32, g_33, g_34, g_35, g_36, g_37, g_38, g_39, g_40, rfl, hg_37, hg_38, hg_40, he_41, hP, hD, hS, hl⟩
        refine lv_iload hx hb dX9_lets_58 (lv_at hl 8 rfl) ?_
        refine lv_bipush (v := 20) hx hb dX9_lets_60 (by decide) ?_
        refine pu_join (fun H locs ls st => st = [] ∧ gz_ok m42_0 g_30 g_31 g_32 ∧ va_P (dC, dI) vwCl (mo_w ad ck 0 (nI x16) (nI x18) (nI x19) x20 (nI x21) (nI x22) x23 x24 x25 (nI x26) x27 (nI x28) (nI x29) (nI x30) (nI x33) x45 (nI g_38) (nI x52) (nI x53) (nI x61) (nI x62) (nI x63) (nI x65) x66 f1 f2 f3 (bN 3 q4) (bN 7 q5) (bN 7 q6) (bN 4 q7) f8 (bN 2 q9) (bH q10) g_26 (b2 m12_0 m12_1) (b2 m13_0 m13_1) (b2 m14_0 m14_1) (b2m m15_0 m15_1) f17 (bA 159 q31) f32 g_27 g_28 f36 f37 (bN 7 g_29) g_30 g_31 g_32 (b2 m42_0 g_37) g_33 g_34 g_35 g_36 f49 f50 f51 (bN 13 q54) (bN 120 q55) (bN 120 q56) f57 (bN 120 q58) f59 f60 f64) H ∧ va_D A (mo_w ad ck 0 (nI x16) (nI x18) (nI x19) x20 (nI x21) (nI x22) x23 x24 x25 (nI x26) x27 (nI x28) (nI x29) (nI x30) (nI x33) x45 (nI g_38) (nI x52) (nI x53) (nI x61) (nI x62) (nI x63) (nI x65) x66 f1 f2 f3 (bN 3 q4) (bN 7 q5) (bN 7 q6) (bN 4 q7) f8 (bN 2 q9) (bH q10) g_26 (b2 m12_0 m12_1) (b2 m13_0 m13_1) (b2 m14_0 m14_1) (b2m m15_0 m15_1) f17 (bA 159 q31) f32 g_27 g_28 f36 f37 (bN 7 g_29) g_30 g_31 g_32 (b2 m42_0 g_37) g_33 g_34 g_35 g_36 f49 f50 f51 (bN 13 q54) (bN 120 q55) (bN 120 q56) f57 (bN 120 q58) f59 f60 f64) ∧ va_S A s.heap H locs ∧ lv_has ls 9 [(0, .ref (ad 0)), (1, .int (nI n_2)), (2, .int (nI n_3)), (3, .int (nI n_5)), (4, .int (nI n_7)), (5, .int (nI (80 * x16 + 4 * n_2 + n_3))), (6, .int y_9), (7, .int g_39), (8, .int (nI g_40))]) 157 ?_ (fun j_44 => ?_)
        · rintro H locs ls st ⟨rfl, he_43, hP, hD, hS, hl⟩
          refine lv_aload_n hx hb dX9_lets_157 rfl (lv_at hl 0 rfl) ?_
          refine va_get (D := (dC, dI)) (ci := 9) (v := .ref (ad 11)) (C := RX9) (T := TX9) (N := 67) hx hb hts hiX9 hown hK hP 0 rfl rfl 11 (by decide) v_18 (fun _ h9 => h9) rfl dX9_lets_158 ?_
          refine lv_iload hx hb dX9_lets_161 (lv_at hl 5 rfl) ?_
          refine lv_iload hx hb dX9_lets_163 (lv_at hl 6 rfl) ?_
          refine va_iast hx hb hK hP hD hS 11 10 rfl rfl (vp_in_nI (n := (80 * x16 + 4 * n_2 + n_3)) (by omega) (Nat.le_of_ble_eq_true rfl)) dX9_lets_165 (fun H locs hP hD hS => ?_)
          have hP : va_P (dC, dI) vwCl (mo_w ad ck 0 (nI x16) (nI x18) (nI x19) x20 (nI x21) (nI x22) x23 x24 x25 (nI x26) x27 (nI x28) (nI x29) (nI x30) (nI x33) x45 (nI g_38) (nI x52) (nI x53) (nI x61) (nI x62) (nI x63) (nI x65) x66 f1 f2 f3 (bN 3 q4) (bN 7 q5) (bN 7 q6) (bN 4 q7) f8 (bN 2 q9) (bH q10) (upd g_26 ((nI (80 * x16 + 4 * n_2 + n_3)) : Int32).toNatClampNeg y_9) (b2 m12_0 m12_1) (b2 m13_0 m13_1) (b2 m14_0 m14_1) (b2m m15_0 m15_1) f17 (bA 159 q31) f32 g_27 g_28 f36 f37 (bN 7 g_29) g_30 g_31 g_32 (b2 m42_0 g_37) g_33 g_34 g_35 g_36 f49 f50 f51 (bN 13 q54) (bN 120 q55) (bN 120 q56) f57 (bN 120 q58) f59 f60 f64) H := hP
          have hD : va_D A (mo_w ad ck 0 (nI x16) (nI x18) (nI x19) x20 (nI x21) (nI x22) x23 x24 x25 (nI x26) x27 (nI x28) (nI x29) (nI x30) (nI x33) x45 (nI g_38) (nI x52) (nI x53) (nI x61) (nI x62) (nI x63) (nI x65) x66 f1 f2 f3 (bN 3 q4) (bN 7 q5) (bN 7 q6) (bN 4 q7) f8 (bN 2 q9) (bH q10) (upd g_26 ((nI (80 * x16 + 4 * n_2 + n_3)) : Int32).toNatClampNeg y_9) (b2 m12_0 m12_1) (b2 m13_0 m13_1) (b2 m14_0 m14_1) (b2m m15_0 m15_1) f17 (bA 159 q31) f32 g_27 g_28 f36 f37 (bN 7 g_29) g_30 g_31 g_32 (b2 m42_0 g_37) g_33 g_34 g_35 g_36 f49 f50 f51 (bN 13 q54) (bN 120 q55) (bN 120 q56) f57 (bN 120 q58) f59 f60 f64) := hD
          refine lv_iload hx hb dX9_lets_166 (lv_at hl 7 rfl) ?_
          exact W.iret (v := g_39) hx hb hr (fun t ht hW => ⟨⟨g_39, (), rfl, trivial, ⟨(upd g_26 ((nI (80 * x16 + 4 * n_2 + n_3)) : Int32).toNatClampNeg y_9), g_27, g_28, g_29, g_30, g_31, g_32, g_33, g_34, g_35, g_36, g_37, 0, g_38, ⟨by rw [ht]; exact hP, va_K.moved hW.alike hK, hD⟩, hg_37, hg_38, by first | assumption | exact gz_0⟩⟩, hS.F ht⟩) hS.2.2 dX9_lets_168
        refine lv_icmp_gt (tgt := 157) hx hb dX9_lets_62 (by decide) (fun c_45 => ?_) (fun c_45 => ?_)
        · have c_45 : 20 < g_40 := (nI_ltI (a := 20) (b := g_40) (Nat.le_of_ble_eq_true rfl) (Nat.lt_of_le_of_lt hg_40 (Nat.le_of_ble_eq_true rfl))).mp c_45
          exact j_44 _ _ _ _ ⟨rfl, by first | assumption | exact gz_0, hP, hD, hS, lv_sub hl [0, 1, 2, 3, 4, 5, 6, 7, 8] rfl⟩
        · have c_45 : ¬ 20 < g_40 := fun z => c_45 ((nI_ltI (a := 20) (b := g_40) (Nat.le_of_ble_eq_true rfl) (Nat.lt_of_le_of_lt hg_40 (Nat.le_of_ble_eq_true rfl))).mpr z)
          refine lv_iload hx hb dX9_lets_65 (lv_at hl 7 rfl) ?_
          refine lv_if_ge (tgt := 157) hx hb dX9_lets_67 (by decide) (fun c_46 => ?_) (fun c_46 => ?_)
          · exact j_44 _ _ _ _ ⟨rfl, by first | assumption | exact gz_0, hP, hD, hS, lv_sub hl [0, 1, 2, 3, 4, 5, 6, 7, 8] rfl⟩
          · refine lv_aload_n hx hb dX9_lets_70 rfl (lv_at hl 0 rfl) ?_
            refine va_get (D := (dC, dI)) (ci := 9) (v := .ref (ad 11)) (C := RX9) (T := TX9) (N := 67) hx hb hts hiX9 hown hK hP 0 rfl rfl 11 (by decide) v_18 (fun _ h9 => h9) rfl dX9_lets_71 ?_
            refine lv_iload hx hb dX9_lets_74 (lv_at hl 5 rfl) ?_
            refine lv_iload hx hb dX9_lets_76 (lv_at hl 4 rfl) ?_
            refine pu_join (fun H locs ls st => ∃ (g_47 : Nat), st = [.int (nI g_47), .int (nI (80 * x16 + 4 * n_2 + n_3)), .ref (ad 11)] ∧ g_47 ≤ 20 ∧ gz_ok m42_0 g_30 g_31 g_32 ∧ va_P (dC, dI) vwCl (mo_w ad ck 0 (nI x16) (nI x18) (nI x19) x20 (nI x21) (nI x22) x23 x24 x25 (nI x26) x27 (nI x28) (nI x29) (nI x30) (nI x33) x45 (nI g_38) (nI x52) (nI x53) (nI x61) (nI x62) (nI x63) (nI x65) x66 f1 f2 f3 (bN 3 q4) (bN 7 q5) (bN 7 q6) (bN 4 q7) f8 (bN 2 q9) (bH q10) g_26 (b2 m12_0 m12_1) (b2 m13_0 m13_1) (b2 m14_0 m14_1) (b2m m15_0 m15_1) f17 (bA 159 q31) f32 g_27 g_28 f36 f37 (bN 7 g_29) g_30 g_31 g_32 (b2 m42_0 g_37) g_33 g_34 g_35 g_36 f49 f50 f51 (bN 13 q54) (bN 120 q55) (bN 120 q56) f57 (bN 120 q58) f59 f60 f64) H ∧ va_D A (mo_w ad ck 0 (nI x16) (nI x18) (nI x19) x20 (nI x21) (nI x22) x23 x24 x25 (nI x26) x27 (nI x28) (nI x29) (nI x30) (nI x33) x45 (nI g_38) (nI x52) (nI x53) (nI x61) (nI x62) (nI x63) (nI x65) x66 f1 f2 f3 (bN 3 q4) (bN 7 q5) (bN 7 q6) (bN 4 q7) f8 (bN 2 q9) (bH q10) g_26 (b2 m12_0 m12_1) (b2 m13_0 m13_1) (b2 m14_0 m14_1) (b2m m15_0 m15_1) f17 (bA 159 q31) f32 g_27 g_28 f36 f37 (bN 7 g_29) g_30 g_31 g_32 (b2 m42_0 g_37) g_33 g_34 g_35 g_36 f49 f50 f51 (bN 13 q54) (bN 120 q55) (bN 120 q56) f57 (bN 120 q58) f59 f60 f64) ∧ va_S A s.heap H locs ∧ lv_has ls 9 [(0, .ref (ad 0)), (1, .int (nI n_2)), (2, .int (nI n_3)), (3, .int (nI n_5)), (4, .int (nI n_7)), (5, .int (nI (80 * x16 + 4 * n_2 + n_3))), (6, .int y_9), (7, .int g_39), (8, .int (nI g_40))]) 91 ?_ (fun j_49 => ?_)
            · rintro H locs ls st ⟨g_47, rfl, hg_47, he_48, hP, hD, hS, hl⟩
              refine va_iast hx hb hK hP hD hS 11 10 rfl rfl (vp_in_nI (n := (80 * x16 + 4 * n_2 + n_3)) (by omega) (Nat.le_of_ble_eq_true rfl)) dX9_lets_91 (fun H locs hP hD hS => ?_)
              have hP : va_P (dC, dI) vwCl (mo_w ad ck 0 (nI x16) (nI x18) (nI x19) x20 (nI x21) (nI x22) x23 x24 x25 (nI x26) x27 (nI x28) (nI x29) (nI x30) (nI x33) x45 (nI g_38) (nI x52) (nI x53) (nI x61) (nI x62) (nI x63) (nI x65) x66 f1 f2 f3 (bN 3 q4) (bN 7 q5) (bN 7 q6) (bN 4 q7) f8 (bN 2 q9) (bH q10) (upd g_26 ((nI (80 * x16 + 4 * n_2 + n_3)) : Int32).toNatClampNeg (nI g_47)) (b2 m12_0 m12_1) (b2 m13_0 m13_1) (b2 m14_0 m14_1) (b2m m15_0 m15_1) f17 (bA 159 q31) f32 g_27 g_28 f36 f37 (bN 7 g_29) g_30 g_31 g_32 (b2 m42_0 g_37) g_33 g_34 g_35 g_36 f49 f50 f51 (bN 13 q54) (bN 120 q55) (bN 120 q56) f57 (bN 120 q58) f59 f60 f64) H := hP
              have hD : va_D A (mo_w ad ck 0 (nI x16) (nI x18) (nI x19) x20 (nI x21) (nI x22) x23 x24 x25 (nI x26) x27 (nI x28) (nI x29) (nI x30) (nI x33) x45 (nI g_38) (nI x52) (nI x53) (nI x61) (nI x62) (nI x63) (nI x65) x66 f1 f2 f3 (bN 3 q4) (bN 7 q5) (bN 7 q6) (bN 4 q7) f8 (bN 2 q9) (bH q10) (upd g_26 ((nI (80 * x16 + 4 * n_2 + n_3)) : Int32).toNatClampNeg (nI g_47)) (b2 m12_0 m12_1) (b2 m13_0 m13_1) (b2 m14_0 m14_1) (b2m m15_0 m15_1) f17 (bA 159 q31) f32 g_27 g_28 f36 f37 (bN 7 g_29) g_30 g_31 g_32 (b2 m42_0 g_37) g_33 g_34 g_35 g_36 f49 f50 f51 (bN 13 q54) (bN 120 q55) (bN 120 q56) f57 (bN 120 q58) f59 f60 f64) := hD
              refine lv_aload_n hx hb dX9_lets_92 rfl (lv_at hl 0 rfl) ?_
              refine lv_aload_n hx hb dX9_lets_93 rfl (lv_at hl 0 rfl) ?_
              refine va_calli (va_runV (As := []) (rest := [.ref (ad 0)]) ⟨hx, hb, hml, hown, hts⟩ (c_M_clocks l dC dI _ ad ck 0 x16 x18 x19 x20 x21 x22 x23 x24 x25 x26 x27 x28 x29 x30 x33 x45 g_38 x52 x53 x61 x62 x63 x65 x66 f1 f2 f3 q4 q5 q6 q7 f8 q9 q10 (upd g_26 ((nI (80 * x16 + 4 * n_2 + n_3)) : Int32).toNatClampNeg (nI g_47)) m12_0 m12_1 m13_0 m13_1 m14_0 m14_1 m15_0 m15_1 f17 q31 f32 g_27 g_28 f36 f37 g_29 g_30 g_31 g_32 m42_0 g_37 g_33 g_34 g_35 g_36 f49 f50 f51 q54 q55 q56 f57 q58 f59 f60 f64 hx16 hx18 hx19 hx21 hx22 hx26 hx28 hx29 hx30 hx33 hg_38 hx52 hx53 hx61 hx62 hx63 hx65 hm12_0 hm12_1 hm13_0 hm13_1 hm14_0 hm14_1 hm15_0 hm15_1 hm42_0 hg_37) (cwV 0 hts g_M_lets_M_clocks rfl rfl rfl (by decide +kernel) ⟨Nat.le_of_ble_eq_true rfl, Nat.le_of_ble_eq_true rfl⟩) ⟨pu_bl, va_recv hK hP (ci := 9) (q0 := 0) rfl rfl, pu_in hP hK hD⟩ rfl rfl hl.1 rfl (lv_room (Nat.le_of_ble_eq_true rfl)) dX9_lets_94 ⟨Nat.le_of_ble_eq_true rfl, Nat.le_of_ble_eq_true rfl⟩) hS (fun q _ h => pu_fr hS hA q h) (pu_fr hS hA) (fun r_50 u t H1 locs ht hvm hw hB hz1 hk1 hS => ?_)
              have hP := pu_keep hP hk1
              clear hk1 hz1 ht hvm
              generalize H1 = H at hP hS ⊢
              obtain ⟨u_51, hu_51, rfl⟩ := hw
              refine lv_iconst (v := 1) hx hb dX9_lets_97 (by decide) ?_
              refine lv_iadd hx hb dX9_lets_98 ?_
              refine lv_topi (fun y_52 ey_52 => ?_)
              obtain rfl : y_52 = (nI (u_51 + 1)) := ey_52.trans (nI_add u_51 1)
              refine va_put (D := (dC, dI)) (ci := 9) (v := .int (nI (u_51 + 1))) (ty := .int) (C := RX9) (T := TX9) (N := 67) hx hb hts hiX9 tyX9 tyX9_ok nmX9 hown hK hP hD hS 0 rfl rfl 46 (by decide) v_23 (fun _ h9 => h9) rfl (by decide +kernel) rfl rfl (Nat.le_of_ble_eq_true rfl) dX9_lets_99 (fun H locs hP hD hS => ?_)
              have hP : va_P (dC, dI) vwCl (mo_w ad ck 0 (nI x16) (nI x18) (nI x19) x20 (nI x21) (nI x22) x23 x24 x25 (nI x26) x27 (nI x28) (nI x29) (nI x30) (nI x33) x45 (nI (u_51 + 1)) (nI x52) (nI x53) (nI x61) (nI x62) (nI x63) (nI x65) x66 f1 f2 f3 (bN 3 q4) (bN 7 q5) (bN 7 q6) (bN 4 q7) f8 (bN 2 q9) (bH q10) (upd g_26 ((nI (80 * x16 + 4 * n_2 + n_3)) : Int32).toNatClampNeg (nI g_47)) (b2 m12_0 m12_1) (b2 m13_0 m13_1) (b2 m14_0 m14_1) (b2m m15_0 m15_1) f17 (bA 159 q31) f32 g_27 g_28 f36 f37 (bN 7 g_29) g_30 g_31 g_32 (b2 m42_0 g_37) g_33 g_34 g_35 g_36 f49 f50 f51 (bN 13 q54) (bN 120 q55) (bN 120 q56) f57 (bN 120 q58) f59 f60 f64) H := hP
              have hD : va_D A (mo_w ad ck 0 (nI x16) (nI x18) (nI x19) x20 (nI x21) (nI x22) x23 x24 x25 (nI x26) x27 (nI x28) (nI x29) (nI x30) (nI x33) x45 (nI (u_51 + 1)) (nI x52) (nI x53) (nI x61) (nI x62) (nI x63) (nI x65) x66 f1 f2 f3 (bN 3 q4) (bN 7 q5) (bN 7 q6) (bN 4 q7) f8 (bN 2 q9) (bH q10) (upd g_26 ((nI (80 * x16 + 4 * n_2 + n_3)) : Int32).toNatClampNeg (nI g_47)) (b2 m12_0 m12_1) (b2 m13_0 m13_1) (b2 m14_0 m14_1) (b2m m15_0 m15_1) f17 (bA 159 q31) f32 g_27 g_28 f36 f37 (bN 7 g_29) g_30 g_31 g_32 (b2 m42_0 g_37) g_33 g_34 g_35 g_36 f49 f50 f51 (bN 13 q54) (bN 120 q55) (bN 120 q56) f57 (bN 120 q58) f59 f60 f64) := hD
              refine lv_aload_n hx hb dX9_lets_102 rfl (lv_at hl 0 rfl) ?_
              refine lv_iconst (v := 0) hx hb dX9_lets_103 (by decide) ?_
              refine lv_iconst (v := 0) hx hb dX9_lets_104 (by decide) ?_
              refine lv_iconst (v := 0) hx hb dX9_lets_105 (by decide) ?_
              have hFc := pu_free hD hS hA
              refine va_callv (va_runV (As := [.int 0, .int 0, .int 0]) (rest := []) ⟨hx, hb, hml, hown, hts⟩ (c_M_layPoint l dC dI _ ad ck 0 x16 x18 x19 x20 x21 x22 x23 x24 x25 x26 x27 x28 x29 x30 x33 x45 (u_51 + 1) x52 x53 x61 x62 x63 x65 x66 f1 f2 f3 q4 q5 q6 q7 f8 q9 q10 (upd g_26 ((nI (80 * x16 + 4 * n_2 + n_3)) : Int32).toNatClampNeg (nI g_47)) m12_0 m12_1 m13_0 m13_1 m14_0 m14_1 m15_0 m15_1 f17 q31 f32 g_27 g_28 f36 f37 g_29 g_30 g_31 g_32 m42_0 g_37 g_33 g_34 g_35 g_36 f49 f50 f51 q54 q55 q56 f57 q58 f59 f60 f64 0 0 0 hx16 hx18 hx19 hx21 hx22 hx26 hx28 hx29 hx30 hx33 (by omega) hx52 hx53 hx61 hx62 hx63 hx65 hm12_0 hm12_1 hm13_0 hm13_1 hm14_0 hm14_1 hm15_0 hm15_1 hm42_0 hg_37) (cwV 3 hts g_M_lets_M_layPoint rfl rfl rfl (by decide +kernel) ⟨Nat.le_of_ble_eq_true rfl, Nat.le_of_ble_eq_true rfl⟩) ⟨pu_bl, va_recv hK hP (ci := 9) (q0 := 0) rfl rfl, pu_in hP hK hD⟩ rfl rfl hl.1 rfl (lv_room (Nat.le_of_ble_eq_true rfl)) dX9_lets_106 ⟨Nat.le_of_ble_eq_true rfl, Nat.le_of_ble_eq_true rfl⟩) hS (fun q _ h => hFc q h) hFc (fun u t H1 locs ht hvm hw hB hz1 hk1 hS => ?_)
              obtain ⟨z35_54, ⟨hP1, -, hD1⟩⟩ := hB
              rw [ht] at hP1
              have hP := hP1
              have hD := pu_all hFc hD1
              clear hP1 hD1 hFc
              clear hk1 hz1 ht hvm
              generalize H1 = H at hP hS ⊢
              refine lv_aload_n hx hb dX9_lets_109 rfl (lv_at hl 0 rfl) ?_
              refine lv_iconst (v := 1) hx hb dX9_lets_110 (by decide) ?_
              refine lv_aload_n hx hb dX9_lets_111 rfl (lv_at hl 0 rfl) ?_
              refine va_get (D := (dC, dI)) (ci := 9) (v := .ref (ad 15)) (C := RX9) (T := TX9) (N := 67) hx hb hts hiX9 hown hK hP 0 rfl rfl 15 (by decide) v_28 (fun _ h9 => h9) rfl dX9_lets_112 ?_
              refine lv_aload_n hx hb dX9_lets_115 rfl (lv_at hl 0 rfl) ?_
              refine va_get (D := (dC, dI)) (ci := 9) (v := .int (nI x16)) (C := RX9) (T := TX9) (N := 67) hx hb hts hiX9 hown hK hP 0 rfl rfl 16 (by decide) v_29 (fun _ h9 => h9) rfl dX9_lets_116 ?_
              refine va_iald hx hb hK hP 15 14 rfl rfl (vp_in_nI (n := x16) (Nat.lt_of_le_of_lt hx16 (Nat.le_of_ble_eq_true rfl)) (Nat.le_of_ble_eq_true rfl)) dX9_lets_119 ?_
              refine lv_topi (fun y_55 ey_55 => ?_)
              obtain ⟨u_56, hu_56, fu_56⟩ := b2m_get (a := m15_0) (b := m15_1) (i := x16) (by omega)
              have qy_55 := ey_55.trans fu_56
              rcases mI_get u_56 with ⟨zy_55, wy_55⟩ | ⟨vy_55, zy_55, wy_55⟩
              · exfalso
                omega
              · obtain rfl : y_55 = nI vy_55 := qy_55.trans wy_55
                refine lv_iconst (v := 2) hx hb dX9_lets_120 (by decide) ?_
                refine lv_iconst (v := 1) hx hb dX9_lets_121 (by decide) ?_
                refine lv_bipush (v := 120) hx hb dX9_lets_122 (by decide) ?_
                refine lv_iconst (v := (-1)) hx hb dX9_lets_124 (by decide) ?_
                have hFc := pu_free hD hS hA
                refine va_callv (va_runV (As := [.int 1, .int (nI vy_55), .int 2, .int 1, .int 120, .int (-1)]) (rest := []) ⟨hx, hb, hml, hown, hts⟩ (c_M_explores_1_120 l dC dI _ ad ck 0 x16 x18 x19 x20 x21 x22 x23 x24 x25 x26 x27 x28 x29 x30 x33 x45 (u_51 + 1) x52 x53 x61 x62 x63 x65 x66 f1 f2 f3 q4 q5 q6 q7 f8 q9 q10 (upd g_26 ((nI (80 * x16 + 4 * n_2 + n_3)) : Int32).toNatClampNeg (nI g_47)) m12_0 m12_1 m13_0 m13_1 m14_0 m14_1 m15_0 m15_1 f17 q31 f32 g_27 z35_54 f36 f37 g_29 g_30 g_31 g_32 m42_0 g_37 g_33 g_34 g_35 g_36 f49 f50 f51 q54 q55 q56 f57 q58 f59 f60 f64 vy_55 2 1 (-1) hx16 hx18 hx19 hx21 hx22 hx26 hx28 hx29 hx30 hx33 (by omega) hx52 hx53 hx61 hx62 hx63 hx65 hm12_0 hm12_1 hm13_0 hm13_1 hm14_0 hm14_1 hm15_0 hm15_1 hm42_0 hg_37 (by omega) (Nat.le_of_ble_eq_true rfl) (by first | assumption | exact gz_0)) (cwV 6 hts g_M_lets_M_explores_1_120 rfl rfl rfl (by decide +kernel) ⟨Nat.le_of_ble_eq_true rfl, Nat.le_of_ble_eq_true rfl⟩) ⟨pu_bl, va_recv hK hP (ci := 9) (q0 := 0) rfl rfl, pu_in hP hK hD⟩ rfl rfl hl.1 rfl (lv_room (Nat.le_of_ble_eq_true rfl)) dX9_lets_125 ⟨Nat.le_of_ble_eq_true rfl, Nat.le_of_ble_eq_true rfl⟩) hS (fun q _ h => hFc q h) hFc (fun u t H1 locs ht hvm hw hB hz1 hk1 hS => ?_)
                obtain ⟨z34_58, z35_59, z38_60, z39_61, z40_62, z41_63, z43_64, z44_65, z47_66, z48_67, z42_1_68, ⟨hP1, -, hD1⟩, hz42_1_68, xr_57_0⟩ := hB
                rw [ht] at hP1
                have hP := hP1
                have hD := pu_all hFc hD1
                clear hP1 hD1 hFc
                clear hk1 hz1 ht hvm
                generalize H1 = H at hP hS ⊢
                refine lv_aload_n hx hb dX9_lets_128 rfl (lv_at hl 0 rfl) ?_
                refine lv_iconst (v := 1) hx hb dX9_lets_129 (by decide) ?_
                refine lv_iload_n hx hb dX9_lets_130 rfl (lv_at hl 3 rfl) ?_
                refine va_calli (va_runV (As := [.int 1, .int (nI n_5)]) (rest := []) ⟨hx, hb, hml, hown, hts⟩ (c_M_hasPlace_1 l dC dI _ ad ck 0 x16 x18 x19 x20 x21 x22 x23 x24 x25 x26 x27 x28 x29 x30 x33 x45 (u_51 + 1) x52 x53 x61 x62 x63 x65 x66 f1 f2 f3 q4 q5 q6 q7 f8 q9 q10 (upd g_26 ((nI (80 * x16 + 4 * n_2 + n_3)) : Int32).toNatClampNeg (nI g_47)) m12_0 m12_1 m13_0 m13_1 m14_0 m14_1 m15_0 m15_1 f17 q31 f32 z34_58 z35_59 f36 f37 z38_60 z39_61 z40_62 z41_63 m42_0 z42_1_68 z43_64 z44_65 z47_66 z48_67 f49 f50 f51 q54 q55 q56 f57 q58 f59 f60 f64 (nI n_5) hx16 hx18 hx19 hx21 hx22 hx26 hx28 hx29 hx30 hx33 (by omega) hx52 hx53 hx61 hx62 hx63 hx65 hm12_0 hm12_1 hm13_0 hm13_1 hm14_0 hm14_1 hm15_0 hm15_1 hm42_0 (Nat.le_trans hz42_1_68 (Nat.le_of_ble_eq_true rfl))) (cwV 2 hts g_M_lets_M_hasPlace_1 rfl rfl rfl (by decide +kernel) ⟨Nat.le_of_ble_eq_true rfl, Nat.le_of_ble_eq_true rfl⟩) ⟨pu_bl, va_recv hK hP (ci := 9) (q0 := 0) rfl rfl, pu_in hP hK hD⟩ rfl rfl hl.1 rfl (lv_room (Nat.le_of_ble_eq_true rfl)) dX9_lets_131 ⟨Nat.le_of_ble_eq_true rfl, Nat.le_of_ble_eq_true rfl⟩) hS (fun q _ h => pu_fr hS hA q h) (pu_fr hS hA) (fun r_69 u t H1 locs ht hvm hw hB hz1 hk1 hS => ?_)
                have hP := pu_keep hP hk1
                clear hk1 hz1 ht hvm
                generalize H1 = H at hP hS ⊢
                obtain ⟨u_70, hu_70, rfl⟩ := hw
                refine pu_join (fun H locs ls st => ∃ (g_71 : Int32), st = [.int g_71] ∧ gz_ok m42_0 z39_61 z40_62 z41_63 ∧ va_P (dC, dI) vwCl (mo_w ad ck 0 (nI x16) (nI x18) (nI x19) x20 (nI x21) (nI x22) x23 x24 x25 (nI x26) x27 (nI x28) (nI x29) (nI x30) (nI x33) x45 (nI (u_51 + 1)) (nI x52) (nI x53) (nI x61) (nI x62) (nI x63) (nI x65) x66 f1 f2 f3 (bN 3 q4) (bN 7 q5) (bN 7 q6) (bN 4 q7) f8 (bN 2 q9) (bH q10) (upd g_26 ((nI (80 * x16 + 4 * n_2 + n_3)) : Int32).toNatClampNeg (nI g_47)) (b2 m12_0 m12_1) (b2 m13_0 m13_1) (b2 m14_0 m14_1) (b2m m15_0 m15_1) f17 (bA 159 q31) f32 z34_58 z35_59 f36 f37 (bN 7 z38_60) z39_61 z40_62 z41_63 (b2 m42_0 z42_1_68) z43_64 z44_65 z47_66 z48_67 f49 f50 f51 (bN 13 q54) (bN 120 q55) (bN 120 q56) f57 (bN 120 q58) f59 f60 f64) H ∧ va_D A (mo_w ad ck 0 (nI x16) (nI x18) (nI x19) x20 (nI x21) (nI x22) x23 x24 x25 (nI x26) x27 (nI x28) (nI x29) (nI x30) (nI x33) x45 (nI (u_51 + 1)) (nI x52) (nI x53) (nI x61) (nI x62) (nI x63) (nI x65) x66 f1 f2 f3 (bN 3 q4) (bN 7 q5) (bN 7 q6) (bN 4 q7) f8 (bN 2 q9) (bH q10) (upd g_26 ((nI (80 * x16 + 4 * n_2 + n_3)) : Int32).toNatClampNeg (nI g_47)) (b2 m12_0 m12_1) (b2 m13_0 m13_1) (b2 m14_0 m14_1) (b2m m15_0 m15_1) f17 (bA 159 q31) f32 z34_58 z35_59 f36 f37 (bN 7 z38_60) z39_61 z40_62 z41_63 (b2 m42_0 z42_1_68) z43_64 z44_65 z47_66 z48_67 f49 f50 f51 (bN 13 q54) (bN 120 q55) (bN 120 q56) f57 (bN 120 q58) f59 f60 f64) ∧ va_S A s.heap H locs ∧ lv_has ls 9 [(0, .ref (ad 0)), (1, .int (nI n_2)), (2, .int (nI n_3)), (3, .int (nI n_5)), (4, .int (nI n_7)), (5, .int (nI (80 * x16 + 4 * n_2 + n_3))), (6, .int y_9), (7, .int g_39), (8, .int (nI g_40))]) 149 ?_ (fun j_73 => ?_)
                · rintro H locs ls st ⟨g_71, rfl, he_72, hP, hD, hS, hl⟩
                  refine lv_istore (lv' := [(7, .int g_71), (0, .ref (ad 0)), (1, .int (nI n_2)), (2, .int (nI n_3)), (3, .int (nI n_5)), (4, .int (nI n_7)), (5, .int (nI (80 * x16 + 4 * n_2 + n_3))), (6, .int y_9), (8, .int (nI g_40))]) hx hb dX9_lets_149 hl (by decide) rfl (fun ls hl => ?_)
                  refine lv_iinc (v := (nI (g_40 + 1))) (lv' := [(8, .int (nI (g_40 + 1))), (7, .int g_71), (0, .ref (ad 0)), (1, .int (nI n_2)), (2, .int (nI n_3)), (3, .int (nI n_5)), (4, .int (nI n_7)), (5, .int (nI (80 * x16 + 4 * n_2 + n_3))), (6, .int y_9)]) hx hb dX9_lets_151 hl (k := 8) rfl (nI_1 _) (by decide) rfl (fun ls hl => ?_)
                  refine lv_goto (tgt := 58) hx hb dX9_lets_154 (by decide) ?_
                  exact ih_42 (21 - (g_40 + 1)) (by omega) _ _ _ ⟨(upd g_26 ((nI (80 * x16 + 4 * n_2 + n_3)) : Int32).toNatClampNeg (nI g_47)), z34_58, z35_59, z38_60, z39_61, z40_62, z41_63, z43_64, z44_65, z47_66, z48_67, z42_1_68, (u_51 + 1), g_71, (g_40 + 1), rfl, (Nat.le_trans hz42_1_68 (Nat.le_of_ble_eq_true rfl)), (by omega), (by omega), by first | assumption | exact gz_0, hP, hD, hS, lv_sub hl [2, 3, 4, 5, 6, 7, 8, 1, 0] rfl⟩
                refine lv_if_eq (tgt := 147) hx hb dX9_lets_134 (by decide) (fun c_74 => ?_) (fun c_74 => ?_)
                · have c_74 : u_70 = 0 := (nI_eq (a := u_70) (b := 0) (Nat.lt_of_le_of_lt hu_70 (Nat.le_of_ble_eq_true rfl)) (Nat.le_of_ble_eq_true rfl)).mp c_74
                  refine lv_iload hx hb dX9_lets_147 (lv_at hl 7 rfl) ?_
                  exact j_73 _ _ _ _ ⟨g_39, rfl, by first | assumption | exact gz_0, hP, hD, hS, lv_sub hl [0, 1, 2, 3, 4, 5, 6, 7, 8] rfl⟩
                · have c_74 : ¬ u_70 = 0 := fun z => c_74 ((nI_eq (a := u_70) (b := 0) (Nat.lt_of_le_of_lt hu_70 (Nat.le_of_ble_eq_true rfl)) (Nat.le_of_ble_eq_true rfl)).mpr z)
                  refine lv_aload_n hx hb dX9_lets_137 rfl (lv_at hl 0 rfl) ?_
                  refine va_get (D := (dC, dI)) (ci := 9) (v := .ref (ad 11)) (C := RX9) (T := TX9) (N := 67) hx hb hts hiX9 hown hK hP 0 rfl rfl 11 (by decide) v_18 (fun _ h9 => h9) rfl dX9_lets_138 ?_
                  refine lv_iload hx hb dX9_lets_141 (lv_at hl 5 rfl) ?_
                  refine va_iald hx hb hK hP 11 10 rfl rfl (vp_in_nI (n := (80 * x16 + 4 * n_2 + n_3)) (by omega) (Nat.le_of_ble_eq_true rfl)) dX9_lets_143 ?_
                  refine lv_topi (fun y_75 ey_75 => ?_)
                  refine lv_goto (tgt := 149) hx hb dX9_lets_144 (by decide) ?_
                  exact j_73 _ _ _ _ ⟨y_75, rfl, by first | assumption | exact gz_0, hP, hD, hS, lv_sub hl [0, 1, 2, 3, 4, 5, 6, 7, 8] rfl⟩
            refine lv_if_ne (tgt := 86) hx hb dX9_lets_78 (by decide) (fun c_76 => ?_) (fun c_76 => ?_)
            · have c_76 : ¬ n_7 = 0 := fun z => c_76 ((nI_eq (a := n_7) (b := 0) (by omega) (Nat.le_of_ble_eq_true rfl)).mpr z)
              refine lv_bipush (v := 20) hx hb dX9_lets_86 (by decide) ?_
              refine lv_iload hx hb dX9_lets_88 (lv_at hl 8 rfl) ?_
              refine lv_isub hx hb dX9_lets_90 ?_
              refine lv_topi (fun y_77 ey_77 => ?_)
              obtain rfl : y_77 = (nI (20 - g_40)) := ey_77.trans (pk_sub (a := 20) (b := g_40) (by omega))
              exact j_49 _ _ _ _ ⟨(20 - g_40), rfl, (by omega), by first | assumption | exact gz_0, hP, hD, hS, lv_sub hl [0, 1, 2, 3, 4, 5, 6, 7, 8] rfl⟩
            · have c_76 : n_7 = 0 := (nI_eq (a := n_7) (b := 0) (by omega) (Nat.le_of_ble_eq_true rfl)).mp c_76
              refine lv_iload hx hb dX9_lets_81 (lv_at hl 8 rfl) ?_
              refine lv_goto (tgt := 91) hx hb dX9_lets_83 (by decide) ?_
              exact j_49 _ _ _ _ ⟨g_40, rfl, (by omega), by first | assumption | exact gz_0, hP, hD, hS, lv_sub hl [0, 1, 2, 3, 4, 5, 6, 7, 8] rfl⟩
      · refine lv_if_ne (tgt := 34) hx hb dX9_lets_29 (by decide) (fun z => absurd z (by decide)) (fun _ => ?_)
        refine lv_iconst (v := (-1)) hx hb dX9_lets_32 (by decide) ?_
        exact W.iret (v := (-1)) hx hb hr (fun t ht hW => ⟨⟨(-1), (), rfl, trivial, ⟨f11, f34, f35, q38, f39, f40, f41, f43, f44, f47, f48, m42_1, 0, x46, ⟨by rw [ht]; exact hP, va_K.moved hW.alike hK, hD⟩, hm42_1, hx46, by first | assumption | exact gz_0⟩⟩, hS.F ht⟩) hS.2.2 dX9_lets_33
    · refine lv_if_eq (tgt := 32) hx hb dX9_lets_19 (by decide) (fun _ => ?_) (fun z => absurd z (by decide))
      refine lv_iconst (v := (-1)) hx hb dX9_lets_32 (by decide) ?_
      exact W.iret (v := (-1)) hx hb hr (fun t ht hW => ⟨⟨(-1), (), rfl, trivial, ⟨f11, f34, f35, q38, f39, f40, f41, f43, f44, f47, f48, m42_1, 0, x46, ⟨by rw [ht]; exact hP, va_K.moved hW.alike hK, hD⟩, hm42_1, hx46, by first | assumption | exact gz_0⟩⟩, hS.F ht⟩) hS.2.2 dX9_lets_33
  · refine lv_if_eq (tgt := 32) hx hb dX9_lets_11 (by decide) (fun z => absurd z (by decide)) (fun _ => ?_)
    refine lv_aload_n hx hb dX9_lets_14 rfl (lv_at hl 0 rfl) ?_
    refine lv_iload_n hx hb dX9_lets_15 rfl (lv_at hl 3 rfl) ?_
    refine va_calli (va_runV (As := [.int p2]) (rest := []) ⟨hx, hb, hml, hown, hts⟩ (c_M_isPlace l dC dI _ ad ck 0 x16 x18 x19 x20 x21 x22 x23 x24 x25 x26 x27 x28 x29 x30 x33 x45 x46 x52 x53 x61 x62 x63 x65 x66 f1 f2 f3 q4 q5 q6 q7 f8 q9 q10 f11 m12_0 m12_1 m13_0 m13_1 m14_0 m14_1 m15_0 m15_1 f17 q31 f32 f34 f35 f36 f37 q38 f39 f40 f41 m42_0 m42_1 f43 f44 f47 f48 f49 f50 f51 q54 q55 q56 f57 q58 f59 f60 f64 p2 hx16 hx18 hx19 hx21 hx22 hx26 hx28 hx29 hx30 hx33 hx46 hx52 hx53 hx61 hx62 hx63 hx65 hm12_0 hm12_1 hm13_0 hm13_1 hm14_0 hm14_1 hm15_0 hm15_1 hm42_0 hm42_1) (cwV 1 hts g_M_lets_M_isPlace rfl rfl rfl (by decide +kernel) ⟨Nat.le_of_ble_eq_true rfl, Nat.le_of_ble_eq_true rfl⟩) ⟨pu_bl, va_recv hK hP (ci := 9) (q0 := 0) rfl rfl, pu_in hP hK hD⟩ rfl rfl hl.1 rfl (lv_room (Nat.le_of_ble_eq_true rfl)) dX9_lets_16 ⟨Nat.le_of_ble_eq_true rfl, Nat.le_of_ble_eq_true rfl⟩) hS (fun q _ h => pu_fr hS hA q h) (pu_fr hS hA) (fun r_78 u t H1 locs ht hvm hw hB hz1 hk1 hS => ?_)
    have hP := pu_keep hP hk1
    clear hk1 hz1 ht hvm
    generalize H1 = H at hP hS ⊢
    rcases hw with ⟨rfl, hw⟩ | rfl
    · obtain ⟨n_79, hn_79, rfl⟩ := hw
      refine lv_if_eq (tgt := 32) hx hb dX9_lets_19 (by decide) (fun z => absurd z (by decide)) (fun _ => ?_)
      refine lv_iload hx hb dX9_lets_22 (lv_at hl 4 rfl) ?_
      refine lv_iconst (v := 0) hx hb dX9_lets_24 (by decide) ?_
      refine lv_iconst (v := 1) hx hb dX9_lets_25 (by decide) ?_
      refine va_calli (va_runS (As := [.int p3, .int 0, .int 1]) (rest := []) ⟨hx, hb, hml, hown, hts⟩ (c_X9_in l dC dI _ p3 0 1) (va_cwS 3 hts g_M_lets_X9_in rfl rfl rfl (by decide +kernel) ⟨Nat.le_of_ble_eq_true rfl, Nat.le_of_ble_eq_true rfl⟩) ⟨pu_bl, pu_in (hP.sub [] rfl) (hK.sub [] rfl) (hD.sub [] (by decide) rfl)⟩ rfl rfl hl.1 rfl (lv_room (Nat.le_of_ble_eq_true rfl)) dX9_lets_26 ⟨Nat.le_of_ble_eq_true rfl, Nat.le_of_ble_eq_true rfl⟩) hS (fun q _ h => pu_fr hS hA q h) (pu_fr hS hA) (fun r_80 u t H1 locs ht hvm hw hB hz1 hk1 hS => ?_)
      have hP := pu_keep hP hk1
      clear hk1 hz1 ht hvm
      generalize H1 = H at hP hS ⊢
      rcases hw with ⟨rfl, hi1, hi2⟩ | ⟨rfl, hi3⟩
      · obtain ⟨n_81, hn_81, rfl⟩ := pu_in0 (n := 1) (by omega) hi1 hi2
        refine lv_if_ne (tgt := 34) hx hb dX9_lets_29 (by decide) (fun _ => ?_) (fun z => absurd z (by decide))
        refine lv_aload_n hx hb dX9_lets_34 rfl (lv_at hl 0 rfl) ?_
        refine lv_iload_n hx hb dX9_lets_35 rfl (lv_at hl 1 rfl) ?_
        refine lv_iload_n hx hb dX9_lets_36 rfl (lv_at hl 2 rfl) ?_
        refine va_calli (va_runV (As := [.int (nI (100 + n_2)), .int (nI n_3)]) (rest := []) ⟨hx, hb, hml, hown, hts⟩ (c_M_spot_p l dC dI _ ad ck 0 x16 x18 x19 x20 x21 x22 x23 x24 x25 x26 x27 x28 x29 x30 x33 x45 x46 x52 x53 x61 x62 x63 x65 x66 f1 f2 f3 q4 q5 q6 q7 f8 q9 q10 f11 m12_0 m12_1 m13_0 m13_1 m14_0 m14_1 m15_0 m15_1 f17 q31 f32 f34 f35 f36 f37 q38 f39 f40 f41 m42_0 m42_1 f43 f44 f47 f48 f49 f50 f51 q54 q55 q56 f57 q58 f59 f60 f64 (100 + n_2) n_3 hx16 hx18 hx19 hx21 hx22 hx26 hx28 hx29 hx30 hx33 hx46 hx52 hx53 hx61 hx62 hx63 hx65 hm12_0 hm12_1 hm13_0 hm13_1 hm14_0 hm14_1 hm15_0 hm15_1 hm42_0 hm42_1 (by omega) (by omega) (by omega)) (cwV 2 hts g_M_lets_M_spot_p rfl rfl rfl (by decide +kernel) ⟨Nat.le_of_ble_eq_true rfl, Nat.le_of_ble_eq_true rfl⟩) ⟨pu_bl, va_recv hK hP (ci := 9) (q0 := 0) rfl rfl, pu_in hP hK hD⟩ rfl rfl hl.1 rfl (lv_room (Nat.le_of_ble_eq_true rfl)) dX9_lets_37 ⟨Nat.le_of_ble_eq_true rfl, Nat.le_of_ble_eq_true rfl⟩) hS (fun q _ h => pu_fr hS hA q h) (pu_fr hS hA) (fun r_82 u t H1 locs ht hvm hw hB hz1 hk1 hS => ?_)
        have hP := pu_keep hP hk1
        clear hk1 hz1 ht hvm
        generalize H1 = H at hP hS ⊢
        obtain rfl : r_82 = nI (80 * x16 + (56 + 3 * ((100 + n_2) - 100)) + n_3) := hw
        refine lv_istore (lv' := [(5, .int (nI (80 * x16 + (56 + 3 * ((100 + n_2) - 100)) + n_3))), (0, .ref (ad 0)), (1, .int (nI (100 + n_2))), (2, .int (nI n_3)), (3, .int (nI n_79)), (4, .int (nI n_81))]) hx hb dX9_lets_40 hl (by decide) rfl (fun ls hl => ?_)
        refine lv_aload_n hx hb dX9_lets_42 rfl (lv_at hl 1 rfl) ?_
        refine va_get (D := (dC, dI)) (ci := 9) (v := .ref (ad 11)) (C := RX9) (T := TX9) (N := 67) hx hb hts hiX9 hown hK hP 0 rfl rfl 11 (by decide) v_18 (fun _ h9 => h9) rfl dX9_lets_43 ?_
        refine lv_iload hx hb dX9_lets_46 (lv_at hl 0 rfl) ?_
        refine va_iald hx hb hK hP 11 10 rfl rfl (vp_in_nI (n := (80 * x16 + (56 + 3 * ((100 + n_2) - 100)) + n_3)) (by omega) (Nat.le_of_ble_eq_true rfl)) dX9_lets_48 ?_
        refine lv_topi (fun y_83 ey_83 => ?_)
        refine lv_istore (lv' := [(6, .int y_83), (5, .int (nI (80 * x16 + (56 + 3 * ((100 + n_2) - 100)) + n_3))), (0, .ref (ad 0)), (1, .int (nI (100 + n_2))), (2, .int (nI n_3)), (3, .int (nI n_79)), (4, .int (nI n_81))]) hx hb dX9_lets_49 hl (by decide) rfl (fun ls hl => ?_)
        refine lv_bipush (v := (-2)) hx hb dX9_lets_51 (by decide) ?_
        refine lv_istore (lv' := [(7, .int (-2)), (6, .int y_83), (5, .int (nI (80 * x16 + (56 + 3 * ((100 + n_2) - 100)) + n_3))), (0, .ref (ad 0)), (1, .int (nI (100 + n_2))), (2, .int (nI n_3)), (3, .int (nI n_79)), (4, .int (nI n_81))]) hx hb dX9_lets_53 hl (by decide) rfl (fun ls hl => ?_)
        refine lv_iconst (v := 0) hx hb dX9_lets_55 (by decide) ?_
        refine lv_istore (lv' := [(8, .int 0), (7, .int (-2)), (6, .int y_83), (5, .int (nI (80 * x16 + (56 + 3 * ((100 + n_2) - 100)) + n_3))), (0, .ref (ad 0)), (1, .int (nI (100 + n_2))), (2, .int (nI n_3)), (3, .int (nI n_79)), (4, .int (nI n_81))]) hx hb dX9_lets_56 hl (by decide) rfl (fun ls hl => ?_)
        refine pu_while (fun nn H locs ls => ∃ (g_100 : Nat → Int32) (g_101 : Nat → Int32) (g_102 : Nat → Int32) (g_103 : Nat → Nat) (g_104 : Nat → Int32) (g_105 : Nat → Int32) (g_106 : Nat → Int32) (g_107 : Nat → Int32) (g_108 : Nat → Int32) (g_109 : Nat → Int32) (g_110 : Nat → Int32) (g_111 : Nat) (g_112 : Nat) (g_113 : Int32) (g_114 : Nat), nn = 21 - g_114 ∧ g_111 ≤ 400 ∧ g_112 ≤ 5 ∧ g_114 ≤ 21 ∧ gz_ok m42_0 g_104 g_105 g_106 ∧ va_P (dC, dI) vwCl (mo_w ad ck 0 (nI x16) (nI x18) (nI x19) x20 (nI x21) (nI x22) x23 x24 x25 (nI x26) x27 (nI x28) (nI x29) (nI x30) (nI x33) x45 (nI g_112) (nI x52) (nI x53) (nI x61) (nI x62) (nI x63) (nI x65) x66 f1 f2 f3 (bN 3 q4) (bN 7 q5) (bN 7 q6) (bN 4 q7) f8 (bN 2 q9) (bH q10) g_100 (b2 m12_0 m12_1) (b2 m13_0 m13_1) (b2 m14_0 m14_1) (b2m m15_0 m15_1) f17 (bA 159 q31) f32 g_101 g_102 f36 f37 (bN 7 g_103) g_104 g_105 g_106 (b2 m42_0 g_111) g_107 g_108 g_109 g_110 f49 f50 f51 (bN 13 q54) (bN 120 q55) (bN 120 q56) f57 (bN 120 q58) f59 f60 f64) H ∧ va_D A (mo_w ad ck 0 (nI x16) (nI x18) (nI x19) x20 (nI x21) (nI x22) x23 x24 x25 (nI x26) x27 (nI x28) (nI x29) (nI x30) (nI x33) x45 (nI g_112) (nI x52) (nI x53) (nI x61) (nI x62) (nI x63) (nI x65) x66 f1 f2 f3 (bN 3 q4) (bN 7 q5) (bN 7 q6) (bN 4 q7) f8 (bN 2 q9) (bH q10) g_100 (b2 m12_0 m12_1) (b2 m13_0 m13_1) (b2 m14_0 m14_1) (b2m m15_0 m15_1) f17 (bA 159 q31) f32 g_101 g_102 f36 f37 (bN 7 g_103) g_104 g_105 g_106 (b2 m42_0 g_111) g_107 g_108 g_109 g_110 f49 f50 f51 (bN 13 q54) (bN 120 q55) (bN 120 q56) f57 (bN 120 q58) f59 f60 f64) ∧ va_S A s.heap H locs ∧ lv_has ls 9 [(0, .ref (ad 0)), (1, .int (nI (100 + n_2))), (2, .int (nI n_3)), (3, .int (nI n_79)), (4, .int (nI n_81)), (5, .int (nI (80 * x16 + (56 + 3 * ((100 + n_2) - 100)) + n_3))), (6, .int y_83), (7, .int g_113), (8, .int (nI g_114))]) 58 ?_ _ _ _ _ ⟨f11, f34, f35, q38, f39, f40, f41, f43, f44, f47, f48, m42_1, x46, (-2), 0, rfl, hm42_1, hx46, (Nat.le_of_ble_eq_true rfl), by first | assumption | exact gz_0, hP, hD, hS, lv_sub hl [4, 5, 6, 7, 8, 3, 2, 1, 0] rfl⟩
        rintro nn ih_116 H locs ls ⟨g_100, g_101, g_102, g_103, g_104, g_105, g_106, g_107, g_108, g_109, g_110, g_111, g_112, g_113, g_114, rfl, hg_111, hg_112, hg_114, he_115, hP, hD, hS, hl⟩
        refine lv_iload hx hb dX9_lets_58 (lv_at hl 8 rfl) ?_
        refine lv_bipush (v := 20) hx hb dX9_lets_60 (by decide) ?_
        refine pu_join (fun H locs ls st => st = [] ∧ gz_ok m42_0 g_104 g_105 g_106 ∧ va_P (dC, dI) vwCl (mo_w ad ck 0 (nI x16) (nI x18) (nI x19) x20 (nI x21) (nI x22) x23 x24 x25 (nI x26) x27 (nI x28) (nI x29) (nI x30) (nI x33) x45 (nI g_112) (nI x52) (nI x53) (nI x61) (nI x62) (nI x63) (nI x65) x66 f1 f2 f3 (bN 3 q4) (bN 7 q5) (bN 7 q6) (bN 4 q7) f8 (bN 2 q9) (bH q10) g_100 (b2 m12_0 m12_1) (b2 m13_0 m13_1) (b2 m14_0 m14_1) (b2m m15_0 m15_1) f17 (bA 159 q31) f32 g_101 g_102 f36 f37 (bN 7 g_103) g_104 g_105 g_106 (b2 m42_0 g_111) g_107 g_108 g_109 g_110 f49 f50 f51 (bN 13 q54) (bN 120 q55) (bN 120 q56) f57 (bN 120 q58) f59 f60 f64) H ∧ va_D A (mo_w ad ck 0 (nI x16) (nI x18) (nI x19) x20 (nI x21) (nI x22) x23 x24 x25 (nI x26) x27 (nI x28) (nI x29) (nI x30) (nI x33) x45 (nI g_112) (nI x52) (nI x53) (nI x61) (nI x62) (nI x63) (nI x65) x66 f1 f2 f3 (bN 3 q4) (bN 7 q5) (bN 7 q6) (bN 4 q7) f8 (bN 2 q9) (bH q10) g_100 (b2 m12_0 m12_1) (b2 m13_0 m13_1) (b2 m14_0 m14_1) (b2m m15_0 m15_1) f17 (bA 159 q31) f32 g_101 g_102 f36 f37 (bN 7 g_103) g_104 g_105 g_106 (b2 m42_0 g_111) g_107 g_108 g_109 g_110 f49 f50 f51 (bN 13 q54) (bN 120 q55) (bN 120 q56) f57 (bN 120 q58) f59 f60 f64) ∧ va_S A s.heap H locs ∧ lv_has ls 9 [(0, .ref (ad 0)), (1, .int (nI (100 + n_2))), (2, .int (nI n_3)), (3, .int (nI n_79)), (4, .int (nI n_81)), (5, .int (nI (80 * x16 + (56 + 3 * ((100 + n_2) - 100)) + n_3))), (6, .int y_83), (7, .int g_113), (8, .int (nI g_114))]) 157 ?_ (fun j_118 => ?_)
        · rintro H locs ls st ⟨rfl, he_117, hP, hD, hS, hl⟩
          refine lv_aload_n hx hb dX9_lets_157 rfl (lv_at hl 0 rfl) ?_
          refine va_get (D := (dC, dI)) (ci := 9) (v := .ref (ad 11)) (C := RX9) (T := TX9) (N := 67) hx hb hts hiX9 hown hK hP 0 rfl rfl 11 (by decide) v_18 (fun _ h9 => h9) rfl dX9_lets_158 ?_
          refine lv_iload hx hb dX9_lets_161 (lv_at hl 5 rfl) ?_
          refine lv_iload hx hb dX9_lets_163 (lv_at hl 6 rfl) ?_
          refine va_iast hx hb hK hP hD hS 11 10 rfl rfl (vp_in_nI (n := (80 * x16 + (56 + 3 * ((100 + n_2) - 100)) + n_3)) (by omega) (Nat.le_of_ble_eq_true rfl)) dX9_lets_165 (fun H locs hP hD hS => ?_)
          have hP : va_P (dC, dI) vwCl (mo_w ad ck 0 (nI x16) (nI x18) (nI x19) x20 (nI x21) (nI x22) x23 x24 x25 (nI x26) x27 (nI x28) (nI x29) (nI x30) (nI x33) x45 (nI g_112) (nI x52) (nI x53) (nI x61) (nI x62) (nI x63) (nI x65) x66 f1 f2 f3 (bN 3 q4) (bN 7 q5) (bN 7 q6) (bN 4 q7) f8 (bN 2 q9) (bH q10) (upd g_100 ((nI (80 * x16 + (56 + 3 * ((100 + n_2) - 100)) + n_3)) : Int32).toNatClampNeg y_83) (b2 m12_0 m12_1) (b2 m13_0 m13_1) (b2 m14_0 m14_1) (b2m m15_0 m15_1) f17 (bA 159 q31) f32 g_101 g_102 f36 f37 (bN 7 g_103) g_104 g_105 g_106 (b2 m42_0 g_111) g_107 g_108 g_109 g_110 f49 f50 f51 (bN 13 q54) (bN 120 q55) (bN 120 q56) f57 (bN 120 q58) f59 f60 f64) H := hP
          have hD : va_D A (mo_w ad ck 0 (nI x16) (nI x18) (nI x19) x20 (nI x21) (nI x22) x23 x24 x25 (nI x26) x27 (nI x28) (nI x29) (nI x30) (nI x33) x45 (nI g_112) (nI x52) (nI x53) (nI x61) (nI x62) (nI x63) (nI x65) x66 f1 f2 f3 (bN 3 q4) (bN 7 q5) (bN 7 q6) (bN 4 q7) f8 (bN 2 q9) (bH q10) (upd g_100 ((nI (80 * x16 + (56 + 3 * ((100 + n_2) - 100)) + n_3)) : Int32).toNatClampNeg y_83) (b2 m12_0 m12_1) (b2 m13_0 m13_1) (b2 m14_0 m14_1) (b2m m15_0 m15_1) f17 (bA 159 q31) f32 g_101 g_102 f36 f37 (bN 7 g_103) g_104 g_105 g_106 (b2 m42_0 g_111) g_107 g_108 g_109 g_110 f49 f50 f51 (bN 13 q54) (bN 120 q55) (bN 120 q56) f57 (bN 120 q58) f59 f60 f64) := hD
          refine lv_iload hx hb dX9_lets_166 (lv_at hl 7 rfl) ?_
          exact W.iret (v := g_113) hx hb hr (fun t ht hW => ⟨⟨g_113, (), rfl, trivial, ⟨(upd g_100 ((nI (80 * x16 + (56 + 3 * ((100 + n_2) - 100)) + n_3)) : Int32).toNatClampNeg y_83), g_101, g_102, g_103, g_104, g_105, g_106, g_107, g_108, g_109, g_110, g_111, 0, g_112, ⟨by rw [ht]; exact hP, va_K.moved hW.alike hK, hD⟩, hg_111, hg_112, by first | assumption | exact gz_0⟩⟩, hS.F ht⟩) hS.2.2 dX9_lets_168
        refine lv_icmp_gt (tgt := 157) hx hb dX9_lets_62 (by decide) (fun c_119 => ?_) (fun c_119 => ?_)
        · have c_119 : 20 < g_114 := (nI_ltI (a := 20) (b := g_114) (Nat.le_of_ble_eq_true rfl) (Nat.lt_of_le_of_lt hg_114 (Nat.le_of_ble_eq_true rfl))).mp c_119
          exact j_118 _ _ _ _ ⟨rfl, by first | assumption | exact gz_0, hP, hD, hS, lv_sub hl [0, 1, 2, 3, 4, 5, 6, 7, 8] rfl⟩
        · have c_119 : ¬ 20 < g_114 := fun z => c_119 ((nI_ltI (a := 20) (b := g_114) (Nat.le_of_ble_eq_true rfl) (Nat.lt_of_le_of_lt hg_114 (Nat.le_of_ble_eq_true rfl))).mpr z)
          refine lv_iload hx hb dX9_lets_65 (lv_at hl 7 rfl) ?_
          refine lv_if_ge (tgt := 157) hx hb dX9_lets_67 (by decide) (fun c_120 => ?_) (fun c_120 => ?_)
          · exact j_118 _ _ _ _ ⟨rfl, by first | assumption | exact gz_0, hP, hD, hS, lv_sub hl [0, 1, 2, 3, 4, 5, 6, 7, 8] rfl⟩
          · refine lv_aload_n hx hb dX9_lets_70 rfl (lv_at hl 0 rfl) ?_
            refine va_get (D := (dC, dI)) (ci := 9) (v := .ref (ad 11)) (C := RX9) (T := TX9) (N := 67) hx hb hts hiX9 hown hK hP 0 rfl rfl 11 (by decide) v_18 (fun _ h9 => h9) rfl dX9_lets_71 ?_
            refine lv_iload hx hb dX9_lets_74 (lv_at hl 5 rfl) ?_
            refine lv_iload hx hb dX9_lets_76 (lv_at hl 4 rfl) ?_
            refine pu_join (fun H locs ls st => ∃ (g_121 : Nat), st = [.int (nI g_121), .int (nI (80 * x16 + (56 + 3 * ((100 + n_2) - 100)) + n_3)), .ref (ad 11)] ∧ g_121 ≤ 20 ∧ gz_ok m42_0 g_104 g_105 g_106 ∧ va_P (dC, dI) vwCl (mo_w ad ck 0 (nI x16) (nI x18) (nI x19) x20 (nI x21) (nI x22) x23 x24 x25 (nI x26) x27 (nI x28) (nI x29) (nI x30) (nI x33) x45 (nI g_112) (nI x52) (nI x53) (nI x61) (nI x62) (nI x63) (nI x65) x66 f1 f2 f3 (bN 3 q4) (bN 7 q5) (bN 7 q6) (bN 4 q7) f8 (bN 2 q9) (bH q10) g_100 (b2 m12_0 m12_1) (b2 m13_0 m13_1) (b2 m14_0 m14_1) (b2m m15_0 m15_1) f17 (bA 159 q31) f32 g_101 g_102 f36 f37 (bN 7 g_103) g_104 g_105 g_106 (b2 m42_0 g_111) g_107 g_108 g_109 g_110 f49 f50 f51 (bN 13 q54) (bN 120 q55) (bN 120 q56) f57 (bN 120 q58) f59 f60 f64) H ∧ va_D A (mo_w ad ck 0 (nI x16) (nI x18) (nI x19) x20 (nI x21) (nI x22) x23 x24 x25 (nI x26) x27 (nI x28) (nI x29) (nI x30) (nI x33) x45 (nI g_112) (nI x52) (nI x53) (nI x61) (nI x62) (nI x63) (nI x65) x66 f1 f2 f3 (bN 3 q4) (bN 7 q5) (bN 7 q6) (bN 4 q7) f8 (bN 2 q9) (bH q10) g_100 (b2 m12_0 m12_1) (b2 m13_0 m13_1) (b2 m14_0 m14_1) (b2m m15_0 m15_1) f17 (bA 159 q31) f32 g_101 g_102 f36 f37 (bN 7 g_103) g_104 g_105 g_106 (b2 m42_0 g_111) g_107 g_108 g_109 g_110 f49 f50 f51 (bN 13 q54) (bN 120 q55) (bN 120 q56) f57 (bN 120 q58) f59 f60 f64) ∧ va_S A s.heap H locs ∧ lv_has ls 9 [(0, .ref (ad 0)), (1, .int (nI (100 + n_2))), (2, .int (nI n_3)), (3, .int (nI n_79)), (4, .int (nI n_81)), (5, .int (nI (80 * x16 + (56 + 3 * ((100 + n_2) - 100)) + n_3))), (6, .int y_83), (7, .int g_113), (8, .int (nI g_114))]) 91 ?_ (fun j_123 => ?_)
            · rintro H locs ls st ⟨g_121, rfl, hg_121, he_122, hP, hD, hS, hl⟩
              refine va_iast hx hb hK hP hD hS 11 10 rfl rfl (vp_in_nI (n := (80 * x16 + (56 + 3 * ((100 + n_2) - 100)) + n_3)) (by omega) (Nat.le_of_ble_eq_true rfl)) dX9_lets_91 (fun H locs hP hD hS => ?_)
              have hP : va_P (dC, dI) vwCl (mo_w ad ck 0 (nI x16) (nI x18) (nI x19) x20 (nI x21) (nI x22) x23 x24 x25 (nI x26) x27 (nI x28) (nI x29) (nI x30) (nI x33) x45 (nI g_112) (nI x52) (nI x53) (nI x61) (nI x62) (nI x63) (nI x65) x66 f1 f2 f3 (bN 3 q4) (bN 7 q5) (bN 7 q6) (bN 4 q7) f8 (bN 2 q9) (bH q10) (upd g_100 ((nI (80 * x16 + (56 + 3 * ((100 + n_2) - 100)) + n_3)) : Int32).toNatClampNeg (nI g_121)) (b2 m12_0 m12_1) (b2 m13_0 m13_1) (b2 m14_0 m14_1) (b2m m15_0 m15_1) f17 (bA 159 q31) f32 g_101 g_102 f36 f37 (bN 7 g_103) g_104 g_105 g_106 (b2 m42_0 g_111) g_107 g_108 g_109 g_110 f49 f50 f51 (bN 13 q54) (bN 120 q55) (bN 120 q56) f57 (bN 120 q58) f59 f60 f64) H := hP
              have hD : va_D A (mo_w ad ck 0 (nI x16) (nI x18) (nI x19) x20 (nI x21) (nI x22) x23 x24 x25 (nI x26) x27 (nI x28) (nI x29) (nI x30) (nI x33) x45 (nI g_112) (nI x52) (nI x53) (nI x61) (nI x62) (nI x63) (nI x65) x66 f1 f2 f3 (bN 3 q4) (bN 7 q5) (bN 7 q6) (bN 4 q7) f8 (bN 2 q9) (bH q10) (upd g_100 ((nI (80 * x16 + (56 + 3 * ((100 + n_2) - 100)) + n_3)) : Int32).toNatClampNeg (nI g_121)) (b2 m12_0 m12_1) (b2 m13_0 m13_1) (b2 m14_0 m14_1) (b2m m15_0 m15_1) f17 (bA 159 q31) f32 g_101 g_102 f36 f37 (bN 7 g_103) g_104 g_105 g_106 (b2 m42_0 g_111) g_107 g_108 g_109 g_110 f49 f50 f51 (bN 13 q54) (bN 120 q55) (bN 120 q56) f57 (bN 120 q58) f59 f60 f64) := hD
              refine lv_aload_n hx hb dX9_lets_92 rfl (lv_at hl 0 rfl) ?_
              refine lv_aload_n hx hb dX9_lets_93 rfl (lv_at hl 0 rfl) ?_
              refine va_calli (va_runV (As := []) (rest := [.ref (ad 0)]) ⟨hx, hb, hml, hown, hts⟩ (c_M_clocks l dC dI _ ad ck 0 x16 x18 x19 x20 x21 x22 x23 x24 x25 x26 x27 x28 x29 x30 x33 x45 g_112 x52 x53 x61 x62 x63 x65 x66 f1 f2 f3 q4 q5 q6 q7 f8 q9 q10 (upd g_100 ((nI (80 * x16 + (56 + 3 * ((100 + n_2) - 100)) + n_3)) : Int32).toNatClampNeg (nI g_121)) m12_0 m12_1 m13_0 m13_1 m14_0 m14_1 m15_0 m15_1 f17 q31 f32 g_101 g_102 f36 f37 g_103 g_104 g_105 g_106 m42_0 g_111 g_107 g_108 g_109 g_110 f49 f50 f51 q54 q55 q56 f57 q58 f59 f60 f64 hx16 hx18 hx19 hx21 hx22 hx26 hx28 hx29 hx30 hx33 hg_112 hx52 hx53 hx61 hx62 hx63 hx65 hm12_0 hm12_1 hm13_0 hm13_1 hm14_0 hm14_1 hm15_0 hm15_1 hm42_0 hg_111) (cwV 0 hts g_M_lets_M_clocks rfl rfl rfl (by decide +kernel) ⟨Nat.le_of_ble_eq_true rfl, Nat.le_of_ble_eq_true rfl⟩) ⟨pu_bl, va_recv hK hP (ci := 9) (q0 := 0) rfl rfl, pu_in hP hK hD⟩ rfl rfl hl.1 rfl (lv_room (Nat.le_of_ble_eq_true rfl)) dX9_lets_94 ⟨Nat.le_of_ble_eq_true rfl, Nat.le_of_ble_eq_true rfl⟩) hS (fun q _ h => pu_fr hS hA q h) (pu_fr hS hA) (fun r_124 u t H1 locs ht hvm hw hB hz1 hk1 hS => ?_)
              have hP := pu_keep hP hk1
              clear hk1 hz1 ht hvm
              generalize H1 = H at hP hS ⊢
              obtain ⟨u_125, hu_125, rfl⟩ := hw
              refine lv_iconst (v := 1) hx hb dX9_lets_97 (by decide) ?_
              refine lv_iadd hx hb dX9_lets_98 ?_
              refine lv_topi (fun y_126 ey_126 => ?_)
              obtain rfl : y_126 = (nI (u_125 + 1)) := ey_126.trans (nI_add u_125 1)
              refine va_put (D := (dC, dI)) (ci := 9) (v := .int (nI (u_125 + 1))) (ty := .int) (C := RX9) (T := TX9) (N := 67) hx hb hts hiX9 tyX9 tyX9_ok nmX9 hown hK hP hD hS 0 rfl rfl 46 (by decide) v_23 (fun _ h9 => h9) rfl (by decide +kernel) rfl rfl (Nat.le_of_ble_eq_true rfl) dX9_lets_99 (fun H locs hP hD hS => ?_)
              have hP : va_P (dC, dI) vwCl (mo_w ad ck 0 (nI x16) (nI x18) (nI x19) x20 (nI x21) (nI x22) x23 x24 x25 (nI x26) x27 (nI x28) (nI x29) (nI x30) (nI x33) x45 (nI (u_125 + 1)) (nI x52) (nI x53) (nI x61) (nI x62) (nI x63) (nI x65) x66 f1 f2 f3 (bN 3 q4) (bN 7 q5) (bN 7 q6) (bN 4 q7) f8 (bN 2 q9) (bH q10) (upd g_100 ((nI (80 * x16 + (56 + 3 * ((100 + n_2) - 100)) + n_3)) : Int32).toNatClampNeg (nI g_121)) (b2 m12_0 m12_1) (b2 m13_0 m13_1) (b2 m14_0 m14_1) (b2m m15_0 m15_1) f17 (bA 159 q31) f32 g_101 g_102 f36 f37 (bN 7 g_103) g_104 g_105 g_106 (b2 m42_0 g_111) g_107 g_108 g_109 g_110 f49 f50 f51 (bN 13 q54) (bN 120 q55) (bN 120 q56) f57 (bN 120 q58) f59 f60 f64) H := hP
              have hD : va_D A (mo_w ad ck 0 (nI x16) (nI x18) (nI x19) x20 (nI x21) (nI x22) x23 x24 x25 (nI x26) x27 (nI x28) (nI x29) (nI x30) (nI x33) x45 (nI (u_125 + 1)) (nI x52) (nI x53) (nI x61) (nI x62) (nI x63) (nI x65) x66 f1 f2 f3 (bN 3 q4) (bN 7 q5) (bN 7 q6) (bN 4 q7) f8 (bN 2 q9) (bH q10) (upd g_100 ((nI (80 * x16 + (56 + 3 * ((100 + n_2) - 100)) + n_3)) : Int32).toNatClampNeg (nI g_121)) (b2 m12_0 m12_1) (b2 m13_0 m13_1) (b2 m14_0 m14_1) (b2m m15_0 m15_1) f17 (bA 159 q31) f32 g_101 g_102 f36 f37 (bN 7 g_103) g_104 g_105 g_106 (b2 m42_0 g_111) g_107 g_108 g_109 g_110 f49 f50 f51 (bN 13 q54) (bN 120 q55) (bN 120 q56) f57 (bN 120 q58) f59 f60 f64) := hD
              refine lv_aload_n hx hb dX9_lets_102 rfl (lv_at hl 0 rfl) ?_
              refine lv_iconst (v := 0) hx hb dX9_lets_103 (by decide) ?_
              refine lv_iconst (v := 0) hx hb dX9_lets_104 (by decide) ?_
              refine lv_iconst (v := 0) hx hb dX9_lets_105 (by decide) ?_
              have hFc := pu_free hD hS hA
              refine va_callv (va_runV (As := [.int 0, .int 0, .int 0]) (rest := []) ⟨hx, hb, hml, hown, hts⟩ (c_M_layPoint l dC dI _ ad ck 0 x16 x18 x19 x20 x21 x22 x23 x24 x25 x26 x27 x28 x29 x30 x33 x45 (u_125 + 1) x52 x53 x61 x62 x63 x65 x66 f1 f2 f3 q4 q5 q6 q7 f8 q9 q10 (upd g_100 ((nI (80 * x16 + (56 + 3 * ((100 + n_2) - 100)) + n_3)) : Int32).toNatClampNeg (nI g_121)) m12_0 m12_1 m13_0 m13_1 m14_0 m14_1 m15_0 m15_1 f17 q31 f32 g_101 g_102 f36 f37 g_103 g_104 g_105 g_106 m42_0 g_111 g_107 g_108 g_109 g_110 f49 f50 f51 q54 q55 q56 f57 q58 f59 f60 f64 0 0 0 hx16 hx18 hx19 hx21 hx22 hx26 hx28 hx29 hx30 hx33 (by omega) hx52 hx53 hx61 hx62 hx63 hx65 hm12_0 hm12_1 hm13_0 hm13_1 hm14_0 hm14_1 hm15_0 hm15_1 hm42_0 hg_111) (cwV 3 hts g_M_lets_M_layPoint rfl rfl rfl (by decide +kernel) ⟨Nat.le_of_ble_eq_true rfl, Nat.le_of_ble_eq_true rfl⟩) ⟨pu_bl, va_recv hK hP (ci := 9) (q0 := 0) rfl rfl, pu_in hP hK hD⟩ rfl rfl hl.1 rfl (lv_room (Nat.le_of_ble_eq_true rfl)) dX9_lets_106 ⟨Nat.le_of_ble_eq_true rfl, Nat.le_of_ble_eq_true rfl⟩) hS (fun q _ h => hFc q h) hFc (fun u t H1 locs ht hvm hw hB hz1 hk1 hS => ?_)
              obtain ⟨z35_128, ⟨hP1, -, hD1⟩⟩ := hB
              rw [ht] at hP1
              have hP := hP1
              have hD := pu_all hFc hD1
              clear hP1 hD1 hFc
              clear hk1 hz1 ht hvm
              generalize H1 = H at hP hS ⊢
              refine lv_aload_n hx hb dX9_lets_109 rfl (lv_at hl 0 rfl) ?_
              refine lv_iconst (v := 1) hx hb dX9_lets_110 (by decide) ?_
              refine lv_aload_n hx hb dX9_lets_111 rfl (lv_at hl 0 rfl) ?_
              refine va_get (D := (dC, dI)) (ci := 9) (v := .ref (ad 15)) (C := RX9) (T := TX9) (N := 67) hx hb hts hiX9 hown hK hP 0 rfl rfl 15 (by decide) v_28 (fun _ h9 => h9) rfl dX9_lets_112 ?_
              refine lv_aload_n hx hb dX9_lets_115 rfl (lv_at hl 0 rfl) ?_
              refine va_get (D := (dC, dI)) (ci := 9) (v := .int (nI x16)) (C := RX9) (T := TX9) (N := 67) hx hb hts hiX9 hown hK hP 0 rfl rfl 16 (by decide) v_29 (fun _ h9 => h9) rfl dX9_lets_116 ?_
              refine va_iald hx hb hK hP 15 14 rfl rfl (vp_in_nI (n := x16) (Nat.lt_of_le_of_lt hx16 (Nat.le_of_ble_eq_true rfl)) (Nat.le_of_ble_eq_true rfl)) dX9_lets_119 ?_
              refine lv_topi (fun y_129 ey_129 => ?_)
              obtain ⟨u_130, hu_130, fu_130⟩ := b2m_get (a := m15_0) (b := m15_1) (i := x16) (by omega)
              have qy_129 := ey_129.trans fu_130
              rcases mI_get u_130 with ⟨zy_129, wy_129⟩ | ⟨vy_129, zy_129, wy_129⟩
              · exfalso
                omega
              · obtain rfl : y_129 = nI vy_129 := qy_129.trans wy_129
                refine lv_iconst (v := 2) hx hb dX9_lets_120 (by decide) ?_
                refine lv_iconst (v := 1) hx hb dX9_lets_121 (by decide) ?_
                refine lv_bipush (v := 120) hx hb dX9_lets_122 (by decide) ?_
                refine lv_iconst (v := (-1)) hx hb dX9_lets_124 (by decide) ?_
                have hFc := pu_free hD hS hA
                refine va_callv (va_runV (As := [.int 1, .int (nI vy_129), .int 2, .int 1, .int 120, .int (-1)]) (rest := []) ⟨hx, hb, hml, hown, hts⟩ (c_M_explores_1_120 l dC dI _ ad ck 0 x16 x18 x19 x20 x21 x22 x23 x24 x25 x26 x27 x28 x29 x30 x33 x45 (u_125 + 1) x52 x53 x61 x62 x63 x65 x66 f1 f2 f3 q4 q5 q6 q7 f8 q9 q10 (upd g_100 ((nI (80 * x16 + (56 + 3 * ((100 + n_2) - 100)) + n_3)) : Int32).toNatClampNeg (nI g_121)) m12_0 m12_1 m13_0 m13_1 m14_0 m14_1 m15_0 m15_1 f17 q31 f32 g_101 z35_128 f36 f37 g_103 g_104 g_105 g_106 m42_0 g_111 g_107 g_108 g_109 g_110 f49 f50 f51 q54 q55 q56 f57 q58 f59 f60 f64 vy_129 2 1 (-1) hx16 hx18 hx19 hx21 hx22 hx26 hx28 hx29 hx30 hx33 (by omega) hx52 hx53 hx61 hx62 hx63 hx65 hm12_0 hm12_1 hm13_0 hm13_1 hm14_0 hm14_1 hm15_0 hm15_1 hm42_0 hg_111 (by omega) (Nat.le_of_ble_eq_true rfl) (by first | assumption | exact gz_0)) (cwV 6 hts g_M_lets_M_explores_1_120 rfl rfl rfl (by decide +kernel) ⟨Nat.le_of_ble_eq_true rfl, Nat.le_of_ble_eq_true rfl⟩) ⟨pu_bl, va_recv hK hP (ci := 9) (q0 := 0) rfl rfl, pu_in hP hK hD⟩ rfl rfl hl.1 rfl (lv_room (Nat.le_of_ble_eq_true rfl)) dX9_lets_125 ⟨Nat.le_of_ble_eq_true rfl, Nat.le_of_ble_eq_true rfl⟩) hS (fun q _ h => hFc q h) hFc (fun u t H1 locs ht hvm hw hB hz1 hk1 hS => ?_)
                obtain ⟨z34_132, z35_133, z38_134, z39_135, z40_136, z41_137, z43_138, z44_139, z47_140, z48_141, z42_1_142, ⟨hP1, -, hD1⟩, hz42_1_142, xr_131_0⟩ := hB
                rw [ht] at hP1
                have hP := hP1
                have hD := pu_all hFc hD1
                clear hP1 hD1 hFc
                clear hk1 hz1 ht hvm
                generalize H1 = H at hP hS ⊢
                refine lv_aload_n hx hb dX9_lets_128 rfl (lv_at hl 0 rfl) ?_
                refine lv_iconst (v := 1) hx hb dX9_lets_129 (by decide) ?_
                refine lv_iload_n hx hb dX9_lets_130 rfl (lv_at hl 3 rfl) ?_
                refine va_calli (va_runV (As := [.int 1, .int (nI n_79)]) (rest := []) ⟨hx, hb, hml, hown, hts⟩ (c_M_hasPlace_1 l dC dI _ ad ck 0 x16 x18 x19 x20 x21 x22 x23 x24 x25 x26 x27 x28 x29 x30 x33 x45 (u_125 + 1) x52 x53 x61 x62 x63 x65 x66 f1 f2 f3 q4 q5 q6 q7 f8 q9 q10 (upd g_100 ((nI (80 * x16 + (56 + 3 * ((100 + n_2) - 100)) + n_3)) : Int32).toNatClampNeg (nI g_121)) m12_0 m12_1 m13_0 m13_1 m14_0 m14_1 m15_0 m15_1 f17 q31 f32 z34_132 z35_133 f36 f37 z38_134 z39_135 z40_136 z41_137 m42_0 z42_1_142 z43_138 z44_139 z47_140 z48_141 f49 f50 f51 q54 q55 q56 f57 q58 f59 f60 f64 (nI n_79) hx16 hx18 hx19 hx21 hx22 hx26 hx28 hx29 hx30 hx33 (by omega) hx52 hx53 hx61 hx62 hx63 hx65 hm12_0 hm12_1 hm13_0 hm13_1 hm14_0 hm14_1 hm15_0 hm15_1 hm42_0 (Nat.le_trans hz42_1_142 (Nat.le_of_ble_eq_true rfl))) (cwV 2 hts g_M_lets_M_hasPlace_1 rfl rfl rfl (by decide +kernel) ⟨Nat.le_of_ble_eq_true rfl, Nat.le_of_ble_eq_true rfl⟩) ⟨pu_bl, va_recv hK hP (ci := 9) (q0 := 0) rfl rfl, pu_in hP hK hD⟩ rfl rfl hl.1 rfl (lv_room (Nat.le_of_ble_eq_true rfl)) dX9_lets_131 ⟨Nat.le_of_ble_eq_true rfl, Nat.le_of_ble_eq_true rfl⟩) hS (fun q _ h => pu_fr hS hA q h) (pu_fr hS hA) (fun r_143 u t H1 locs ht hvm hw hB hz1 hk1 hS => ?_)
                have hP := pu_keep hP hk1
                clear hk1 hz1 ht hvm
                generalize H1 = H at hP hS ⊢
                obtain ⟨u_144, hu_144, rfl⟩ := hw
                refine pu_join (fun H locs ls st => ∃ (g_145 : Int32), st = [.int g_145] ∧ gz_ok m42_0 z39_135 z40_136 z41_137 ∧ va_P (dC, dI) vwCl (mo_w ad ck 0 (nI x16) (nI x18) (nI x19) x20 (nI x21) (nI x22) x23 x24 x25 (nI x26) x27 (nI x28) (nI x29) (nI x30) (nI x33) x45 (nI (u_125 + 1)) (nI x52) (nI x53) (nI x61) (nI x62) (nI x63) (nI x65) x66 f1 f2 f3 (bN 3 q4) (bN 7 q5) (bN 7 q6) (bN 4 q7) f8 (bN 2 q9) (bH q10) (upd g_100 ((nI (80 * x16 + (56 + 3 * ((100 + n_2) - 100)) + n_3)) : Int32).toNatClampNeg (nI g_121)) (b2 m12_0 m12_1) (b2 m13_0 m13_1) (b2 m14_0 m14_1) (b2m m15_0 m15_1) f17 (bA 159 q31) f32 z34_132 z35_133 f36 f37 (bN 7 z38_134) z39_135 z40_136 z41_137 (b2 m42_0 z42_1_142) z43_138 z44_139 z47_140 z48_141 f49 f50 f51 (bN 13 q54) (bN 120 q55) (bN 120 q56) f57 (bN 120 q58) f59 f60 f64) H ∧ va_D A (mo_w ad ck 0 (nI x16) (nI x18) (nI x19) x20 (nI x21) (nI x22) x23 x24 x25 (nI x26) x27 (nI x28) (nI x29) (nI x30) (nI x33) x45 (nI (u_125 + 1)) (nI x52) (nI x53) (nI x61) (nI x62) (nI x63) (nI x65) x66 f1 f2 f3 (bN 3 q4) (bN 7 q5) (bN 7 q6) (bN 4 q7) f8 (bN 2 q9) (bH q10) (upd g_100 ((nI (80 * x16 + (56 + 3 * ((100 + n_2) - 100)) + n_3)) : Int32).toNatClampNeg (nI g_121)) (b2 m12_0 m12_1) (b2 m13_0 m13_1) (b2 m14_0 m14_1) (b2m m15_0 m15_1) f17 (bA 159 q31) f32 z34_132 z35_133 f36 f37 (bN 7 z38_134) z39_135 z40_136 z41_137 (b2 m42_0 z42_1_142) z43_138 z44_139 z47_140 z48_141 f49 f50 f51 (bN 13 q54) (bN 120 q55) (bN 120 q56) f57 (bN 120 q58) f59 f60 f64) ∧ va_S A s.heap H locs ∧ lv_has ls 9 [(0, .ref (ad 0)), (1, .int (nI (100 + n_2))), (2, .int (nI n_3)), (3, .int (nI n_79)), (4, .int (nI n_81)), (5, .int (nI (80 * x16 + (56 + 3 * ((100 + n_2) - 100)) + n_3))), (6, .int y_83), (7, .int g_113), (8, .int (nI g_114))]) 149 ?_ (fun j_147 => ?_)
                · rintro H locs ls st ⟨g_145, rfl, he_146, hP, hD, hS, hl⟩
                  refine lv_istore (lv' := [(7, .int g_145), (0, .ref (ad 0)), (1, .int (nI (100 + n_2))), (2, .int (nI n_3)), (3, .int (nI n_79)), (4, .int (nI n_81)), (5, .int (nI (80 * x16 + (56 + 3 * ((100 + n_2) - 100)) + n_3))), (6, .int y_83), (8, .int (nI g_114))]) hx hb dX9_lets_149 hl (by decide) rfl (fun ls hl => ?_)
                  refine lv_iinc (v := (nI (g_114 + 1))) (lv' := [(8, .int (nI (g_114 + 1))), (7, .int g_145), (0, .ref (ad 0)), (1, .int (nI (100 + n_2))), (2, .int (nI n_3)), (3, .int (nI n_79)), (4, .int (nI n_81)), (5, .int (nI (80 * x16 + (56 + 3 * ((100 + n_2) - 100)) + n_3))), (6, .int y_83)]) hx hb dX9_lets_151 hl (k := 8) rfl (nI_1 _) (by decide) rfl (fun ls hl => ?_)
                  refine lv_goto (tgt := 58) hx hb dX9_lets_154 (by decide) ?_
                  exact ih_116 (21 - (g_114 + 1)) (by omega) _ _ _ ⟨(upd g_100 ((nI (80 * x16 + (56 + 3 * ((100 + n_2) - 100)) + n_3)) : Int32).toNatClampNeg (nI g_121)), z34_132, z35_133, z38_134, z39_135, z40_136, z41_137, z43_138, z44_139, z47_140, z48_141, z42_1_142, (u_125 + 1), g_145, (g_114 + 1), rfl, (Nat.le_trans hz42_1_142 (Nat.le_of_ble_eq_true rfl)), (by omega), (by omega), by first | assumption | exact gz_0, hP, hD, hS, lv_sub hl [2, 3, 4, 5, 6, 7, 8, 1, 0] rfl⟩
                refine lv_if_eq (tgt := 147) hx hb dX9_lets_134 (by decide) (fun c_148 => ?_) (fun c_148 => ?_)
                · have c_148 : u_144 = 0 := (nI_eq (a := u_144) (b := 0) (Nat.lt_of_le_of_lt hu_144 (Nat.le_of_ble_eq_true rfl)) (Nat.le_of_ble_eq_true rfl)).mp c_148
                  refine lv_iload hx hb dX9_lets_147 (lv_at hl 7 rfl) ?_
                  exact j_147 _ _ _ _ ⟨g_113, rfl, by first | assumption | exact gz_0, hP, hD, hS, lv_sub hl [0, 1, 2, 3, 4, 5, 6, 7, 8] rfl⟩
                · have c_148 : ¬ u_144 = 0 := fun z => c_148 ((nI_eq (a := u_144) (b := 0) (Nat.lt_of_le_of_lt hu_144 (Nat.le_of_ble_eq_true rfl)) (Nat.le_of_ble_eq_true rfl)).mpr z)
                  refine lv_aload_n hx hb dX9_lets_137 rfl (lv_at hl 0 rfl) ?_
                  refine va_get (D := (dC, dI)) (ci := 9) (v := .ref (ad 11)) (C := RX9) (T := TX9) (N := 67) hx hb hts hiX9 hown hK hP 0 rfl rfl 11 (by decide) v_18 (fun _ h9 => h9) rfl dX9_lets_138 ?_
                  refine lv_iload hx hb dX9_lets_141 (lv_at hl 5 rfl) ?_
                  refine va_iald hx hb hK hP 11 10 rfl rfl (vp_in_nI (n := (80 * x16 + (56 + 3 * ((100 + n_2) - 100)) + n_3)) (by omega) (Nat.le_of_ble_eq_true rfl)) dX9_lets_143 ?_
                  refine lv_topi (fun y_149 ey_149 => ?_)
                  refine lv_goto (tgt := 149) hx hb dX9_lets_144 (by decide) ?_
                  exact j_147 _ _ _ _ ⟨y_149, rfl, by first | assumption | exact gz_0, hP, hD, hS, lv_sub hl [0, 1, 2, 3, 4, 5, 6, 7, 8] rfl⟩
            refine lv_if_ne (tgt := 86) hx hb dX9_lets_78 (by decide) (fun c_150 => ?_) (fun c_150 => ?_)
            · have c_150 : ¬ n_81 = 0 := fun z => c_150 ((nI_eq (a := n_81) (b := 0) (by omega) (Nat.le_of_ble_eq_true rfl)).mpr z)
              refine lv_bipush (v := 20) hx hb dX9_lets_86 (by decide) ?_
              refine lv_iload hx hb dX9_lets_88 (lv_at hl 8 rfl) ?_
              refine lv_isub hx hb dX9_lets_90 ?_
              refine lv_topi (fun y_151 ey_151 => ?_)
              obtain rfl : y_151 = (nI (20 - g_114)) := ey_151.trans (pk_sub (a := 20) (b := g_114) (by omega))
              exact j_123 _ _ _ _ ⟨(20 - g_114), rfl, (by omega), by first | assumption | exact gz_0, hP, hD, hS, lv_sub hl [0, 1, 2, 3, 4, 5, 6, 7, 8] rfl⟩
            · have c_150 : n_81 = 0 := (nI_eq (a := n_81) (b := 0) (by omega) (Nat.le_of_ble_eq_true rfl)).mp c_150
              refine lv_iload hx hb dX9_lets_81 (lv_at hl 8 rfl) ?_
              refine lv_goto (tgt := 91) hx hb dX9_lets_83 (by decide) ?_
              exact j_123 _ _ _ _ ⟨g_114, rfl, (by omega), by first | assumption | exact gz_0, hP, hD, hS, lv_sub hl [0, 1, 2, 3, 4, 5, 6, 7, 8] rfl⟩
      · refine lv_if_ne (tgt := 34) hx hb dX9_lets_29 (by decide) (fun z => absurd z (by decide)) (fun _ => ?_)
        refine lv_iconst (v := (-1)) hx hb dX9_lets_32 (by decide) ?_
        exact W.iret (v := (-1)) hx hb hr (fun t ht hW => ⟨⟨(-1), (), rfl, trivial, ⟨f11, f34, f35, q38, f39, f40, f41, f43, f44, f47, f48, m42_1, 0, x46, ⟨by rw [ht]; exact hP, va_K.moved hW.alike hK, hD⟩, hm42_1, hx46, by first | assumption | exact gz_0⟩⟩, hS.F ht⟩) hS.2.2 dX9_lets_33
    · refine lv_if_eq (tgt := 32) hx hb dX9_lets_19 (by decide) (fun _ => ?_) (fun z => absurd z (by decide))
      refine lv_iconst (v := (-1)) hx hb dX9_lets_32 (by decide) ?_
      exact W.iret (v := (-1)) hx hb hr (fun t ht hW => ⟨⟨(-1), (), rfl, trivial, ⟨f11, f34, f35, q38, f39, f40, f41, f43, f44, f47, f48, m42_1, 0, x46, ⟨by rw [ht]; exact hP, va_K.moved hW.alike hK, hD⟩, hm42_1, hx46, by first | assumption | exact gz_0⟩⟩, hS.F ht⟩) hS.2.2 dX9_lets_33
  · refine lv_if_eq (tgt := 32) hx hb dX9_lets_11 (by decide) (fun _ => ?_) (fun z => absurd z (by decide))
    refine lv_iconst (v := (-1)) hx hb dX9_lets_32 (by decide) ?_
    exact W.iret (v := (-1)) hx hb hr (fun t ht hW => ⟨⟨(-1), (), rfl, trivial, ⟨f11, f34, f35, q38, f39, f40, f41, f43, f44, f47, f48, m42_1, 0, x46, ⟨by rw [ht]; exact hP, va_K.moved hW.alike hK, hD⟩, hm42_1, hx46, by first | assumption | exact gz_0⟩⟩, hS.F ht⟩) hS.2.2 dX9_lets_33
