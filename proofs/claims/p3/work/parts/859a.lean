set_option maxHeartbeats 4000000 in
set_option maxRecDepth 100000 in
theorem k_X9_feed (l : Launch) (dC : Nat → ClassId) (dI : Nat → Nat → Nat) (sz : Nat) (kI kB kQ : ClassId) (ma : Nat) (MA : Nat → Prop) (tp : Nat) (p0 : Int32) (p1 : Int32) (p2 : Int32) (p3 : Int32) (p4 : Int32) : Met l yX9_feed (.code yX9_feed cX9_feed 6 (some .int) :: VM) ({ frames := 1, cells := 0, slots := 0, locals := 22 }) (va_Pc [.ref ma, .int p0, .int p1, .int p2, .int p3, .int p4] (xB (dC, dI) kI kB kQ (MInv (dC, dI) kI kB ma MA tp) sz)) (va_Qi (fun (r : Int32) (_ : Unit) => r = (if tp + 20 ≤ 900 then nI (tp + 20) else -1)) (fun _ t => MInv (dC, dI) kI kB ma MA (if tp + 20 ≤ 900 then tp + 20 else tp) t.heap) (xA MA sz)) 0 0 (xA MA sz) := by
  refine met_by (fun a s h => ?_)
  obtain ⟨rfl, rfl, hJ, hK⟩ := h
  obtain ⟨ad, x0, x16, x19, x20, x21, x22, x23, x24, x25, x26, x27, x28, x29, x30, x33, x45, x46, x52, x53, x61, x62, x63, x65, x66, f1, f2, f3, q4, q5, q6, q7, f8, q9, q10, f11, m12_0, m12_1, m13_0, m13_1, m14_0, m14_1, m15_0, m15_1, f17, q31, f32, f34, f35, f36, f37, q38, f39, f40, f41, m42_0, m42_1, f43, f44, f47, f48, f49, f50, f51, q54, q55, q56, f57, q58, f59, f60, f64, rfl, hx16, hx18, hx19, hx21, hx22, hx26, hx28, hx29, hx30, hx33, hx46, hx52, hx53, hx61, hx62, hx63, hx65, hm12_0, hm12_1, hm13_0, hm13_1, hm14_0, hm14_1, hm15_0, hm15_1, hm42_0, hm42_1, hbg, hgr, hP, hD⟩ := hJ
  have hKc := mk_K hK
  refine ⟨_, _, _, c_M_feed l dC dI _ ad (mck kI kB) x0 x16 tp x19 x20 x21 x22 x23 x24 x25 x26 x27 x28 x29 x30 x33 x45 x46 x52 x53 x61 x62 x63 x65 x66 f1 f2 f3 q4 q5 q6 q7 f8 q9 q10 f11 m12_0 m12_1 m13_0 m13_1 m14_0 m14_1 m15_0 m15_1 f17 q31 f32 f34 f35 f36 f37 q38 f39 f40 f41 m42_0 m42_1 f43 f44 f47 f48 f49 f50 f51 q54 q55 q56 f57 q58 f59 f60 f64 p0 p1 p2 p3 p4 hx16 hx18 hx19 hx21 hx22 hx26 hx28 hx29 hx30 hx33 hx46 hx52 hx53 hx61 hx62 hx63 hx65 hm12_0 hm12_1 hm13_0 hm13_1 hm14_0 hm14_1 hm15_0 hm15_1 hm42_0 hm42_1, ⟨rfl, rfl, hP, hKc, hD.weaken (fun _ _ _ _ => trivial)⟩, fun o t hq => ?_, xA_of hD⟩
  obtain ⟨⟨r, u, ho, hw, hB⟩, hF⟩ := hq
  obtain ⟨z17, z0, z18, ⟨hP1, -, hD1⟩, hz18, xh_0⟩ := hB
  have hF2 := xF_of hD hF
  have hD2 := hD1
  subst xh_0
  have hD3 := vD_fst hD (ws' := _) (mo_fst (ad := ad) (ck := mck kI kB))
  exact ⟨⟨r, (), ho, hw, ⟨ad, z0, x16, x19, x20, x21, x22, x23, x24, x25, x26, x27, x28, x29, x30, x33, x45, x46, x52, x53, x61, x62, x63, x65, x66, f1, f2, f3, q4, q5, q6, q7, f8, q9, q10, f11, m12_0, m12_1, m13_0, m13_1, m14_0, m14_1, m15_0, m15_1, z17, q31, f32, f34, f35, f36, f37, q38, f39, f40, f41, m42_0, m42_1, f43, f44, f47, f48, f49, f50, f51, q54, q55, q56, f57, q58, f59, f60, f64, rfl, hx16, hz18, hx19, hx21, hx22, hx26, hx28, hx29, hx30, hx33, hx46, hx52, hx53, hx61, hx62, hx63, hx65, hm12_0, hm12_1, hm13_0, hm13_1, hm14_0, hm14_1, hm15_0, hm15_1, hm42_0, hm42_1, hbg, hgr, hP1, hD3⟩⟩, hF2⟩
set_option maxHeartbeats 4000000 in
set_option maxRecDepth 100000 in
theorem k_X9_end (l : Launch) (dC : Nat → ClassId) (dI : Nat → Nat → Nat) (sz : Nat) (kI kB kQ : ClassId) (ma : Nat) (MA : Nat → Prop) (tp : Nat) (p0 : Int32) : Met l yX9_end (.code yX9_end cX9_end 2 (some .int) :: VM) ({ frames := 1, cells := 0, slots := 0, locals := 22 }) (va_Pc [.ref ma, .int p0] (xB (dC, dI) kI kB kQ (MInv (dC, dI) kI kB ma MA tp) sz)) (va_Qi (fun (r : Int32) (_ : Unit) => r = (if 0 ≤ p0 ∧ p0 ≤ nI tp then p0 else -1)) (fun _ t => ∃ tq : Nat, (nI tq = (if 0 ≤ p0 ∧ p0 ≤ nI tp then p0 else nI tp) ∧ tq ≤ tp) ∧ MInv (dC, dI) kI kB ma MA tq t.heap) (xA MA sz)) 0 0 (xA MA sz) := by
  refine met_by (fun a s h => ?_)
  obtain ⟨rfl, rfl, hJ, hK⟩ := h
  obtain ⟨ad, x0, x16, x19, x20, x21, x22, x23, x24, x25, x26, x27, x28, x29, x30, x33, x45, x46, x52, x53, x61, x62, x63, x65, x66, f1, f2, f3, q4, q5, q6, q7, f8, q9, q10, f11, m12_0, m12_1, m13_0, m13_1, m14_0, m14_1, m15_0, m15_1, f17, q31, f32, f34, f35, f36, f37, q38, f39, f40, f41, m42_0, m42_1, f43, f44, f47, f48, f49, f50, f51, q54, q55, q56, f57, q58, f59, f60, f64, rfl, hx16, hx18, hx19, hx21, hx22, hx26, hx28, hx29, hx30, hx33, hx46, hx52, hx53, hx61, hx62, hx63, hx65, hm12_0, hm12_1, hm13_0, hm13_1, hm14_0, hm14_1, hm15_0, hm15_1, hm42_0, hm42_1, hbg, hgr, hP, hD⟩ := hJ
  have hKc := mk_K hK
  refine ⟨_, _, _, c_M_end l dC dI _ ad (mck kI kB) x0 x16 tp x19 x20 x21 x22 x23 x24 x25 x26 x27 x28 x29 x30 x33 x45 x46 x52 x53 x61 x62 x63 x65 x66 f1 f2 f3 q4 q5 q6 q7 f8 q9 q10 f11 m12_0 m12_1 m13_0 m13_1 m14_0 m14_1 m15_0 m15_1 f17 q31 f32 f34 f35 f36 f37 q38 f39 f40 f41 m42_0 m42_1 f43 f44 f47 f48 f49 f50 f51 q54 q55 q56 f57 q58 f59 f60 f64 p0 hx16 hx18 hx19 hx21 hx22 hx26 hx28 hx29 hx30 hx33 hx46 hx52 hx53 hx61 hx62 hx63 hx65 hm12_0 hm12_1 hm13_0 hm13_1 hm14_0 hm14_1 hm15_0 hm15_1 hm42_0 hm42_1, ⟨rfl, rfl, hP, hKc, hD.weaken (fun _ _ _ _ => trivial)⟩, fun o t hq => ?_, xA_of hD⟩
  obtain ⟨⟨r, u, ho, hw, hB⟩, hF⟩ := hq
  obtain ⟨z0, z18, ⟨hP1, -, hD1⟩, hz18, xh_0, xh_1⟩ := hB
  have hF2 := xF_of hD hF
  have hD2 := hD1
  have hD3 := vD_fst hD (ws' := _) (mo_fst (ad := ad) (ck := mck kI kB))
  exact ⟨⟨r, (), ho, hw, ⟨z18, ⟨xh_0, xh_1⟩, ⟨ad, z0, x16, x19, x20, x21, x22, x23, x24, x25, x26, x27, x28, x29, x30, x33, x45, x46, x52, x53, x61, x62, x63, x65, x66, f1, f2, f3, q4, q5, q6, q7, f8, q9, q10, f11, m12_0, m12_1, m13_0, m13_1, m14_0, m14_1, m15_0, m15_1, f17, q31, f32, f34, f35, f36, f37, q38, f39, f40, f41, m42_0, m42_1, f43, f44, f47, f48, f49, f50, f51, q54, q55, q56, f57, q58, f59, f60, f64, rfl, hx16, hz18, hx19, hx21, hx22, hx26, hx28, hx29, hx30, hx33, hx46, hx52, hx53, hx61, hx62, hx63, hx65, hm12_0, hm12_1, hm13_0, hm13_1, hm14_0, hm14_1, hm15_0, hm15_1, hm42_0, hm42_1, hbg, hgr, hP1, hD3⟩⟩⟩, hF2⟩
set_option maxHeartbeats 4000000 in
set_option maxRecDepth 100000 in
theorem k_X9_automaton (l : Launch) (dC : Nat → ClassId) (dI : Nat → Nat → Nat) (sz : Nat) (kI kB kQ : ClassId) (ma : Nat) (MA : Nat → Prop) (tp : Nat) : Met l yX9_automaton (.code yX9_automaton cX9_automaton 1 (some .int) :: VM) ({ frames := 7, cells := 0, slots := 0, locals := 154 }) (va_Pc [.ref ma] (xB (dC, dI) kI kB kQ (MInv (dC, dI) kI kB ma MA tp) sz)) (va_Qi (fun (r : Int32) (_ : Unit) => True) (fun _ t => MInv (dC, dI) kI kB ma MA 0 t.heap) (xA MA sz)) 0 0 (xA MA sz) := by
  refine met_by (fun a s h => ?_)
  obtain ⟨rfl, rfl, hJ, hK⟩ := h
  obtain ⟨ad, x0, x16, x19, x20, x21, x22, x23, x24, x25, x26, x27, x28, x29, x30, x33, x45, x46, x52, x53, x61, x62, x63, x65, x66, f1, f2, f3, q4, q5, q6, q7, f8, q9, q10, f11, m12_0, m12_1, m13_0, m13_1, m14_0, m14_1, m15_0, m15_1, f17, q31, f32, f34, f35, f36, f37, q38, f39, f40, f41, m42_0, m42_1, f43, f44, f47, f48, f49, f50, f51, q54, q55, q56, f57, q58, f59, f60, f64, rfl, hx16, hx18, hx19, hx21, hx22, hx26, hx28, hx29, hx30, hx33, hx46, hx52, hx53, hx61, hx62, hx63, hx65, hm12_0, hm12_1, hm13_0, hm13_1, hm14_0, hm14_1, hm15_0, hm15_1, hm42_0, hm42_1, hbg, hgr, hP, hD⟩ := hJ
  have hKc := mk_K hK
  refine ⟨_, _, _, c_M_automaton l dC dI _ ad (mck kI kB) x0 x16 tp x19 x20 x21 x22 x23 x24 x25 x26 x27 x28 x29 x30 x33 x45 x46 x52 x53 x61 x62 x63 x65 x66 f1 f2 f3 q4 q5 q6 q7 f8 q9 q10 f11 m12_0 m12_1 m13_0 m13_1 m14_0 m14_1 m15_0 m15_1 f17 q31 f32 f34 f35 f36 f37 q38 f39 f40 f41 m42_0 m42_1 f43 f44 f47 f48 f49 f50 f51 q54 q55 q56 f57 q58 f59 f60 f64 hx16 hx18 hx19 hx21 hx22 hx26 hx28 hx29 hx30 hx33 hx46 hx52 hx53 hx61 hx62 hx63 hx65 hm12_0 hm12_1 hm13_0 hm13_1 hm14_0 hm14_1 hm15_0 hm15_1 hm42_0 hm42_1 hbg, ⟨rfl, rfl, hP, hKc, hD.weaken (fun _ _ _ _ => trivial)⟩, fun o t hq => ?_, xA_of hD⟩
  obtain ⟨⟨r, u, ho, hw, hB⟩, hF⟩ := hq
  obtain ⟨z1, z10, z11, z2, z3, z4, z5, z6, z7, z8, z9, z12_0, z12_1, z13_0, z13_1, z14_0, z14_1, z15_0, z15_1, z0, z16, z19, z20, z21, z22, z23, z24, z25, z26, z27, z28, z29, z30, z33, ⟨hP1, -, hD1⟩, hz12_0, hz12_1, hz13_0, hz13_1, hz14_0, hz14_1, hz15_0, hz15_1, hz16, hz19, hz21, hz22, hz26, hz28, hz29, hz30, hz33, xh_0⟩ := hB
  have hF2 := xF_of hD hF
  have hD2 := hD1
  have hD3 := vD_fst hD (ws' := _) (mo_fst (ad := ad) (ck := mck kI kB))
  exact ⟨⟨r, (), ho, trivial, ⟨ad, z0, z16, z19, z20, z21, z22, z23, z24, z25, z26, z27, z28, z29, z30, z33, x45, x46, x52, x53, x61, x62, x63, x65, x66, z1, z2, z3, z4, z5, z6, z7, z8, z9, z10, z11, z12_0, z12_1, z13_0, z13_1, z14_0, z14_1, z15_0, z15_1, f17, q31, f32, f34, f35, f36, f37, q38, f39, f40, f41, m42_0, m42_1, f43, f44, f47, f48, f49, f50, f51, q54, q55, q56, f57, q58, f59, f60, f64, rfl, hz16, (Nat.le_of_ble_eq_true rfl), hz19, hz21, hz22, hz26, hz28, hz29, hz30, hz33, hx46, hx52, hx53, hx61, hx62, hx63, hx65, hz12_0, hz12_1, hz13_0, hz13_1, hz14_0, hz14_1, hz15_0, hz15_1, hm42_0, hm42_1, (by assumption), hgr, hP1, hD3⟩⟩, hF2⟩
set_option maxHeartbeats 4000000 in
set_option maxRecDepth 100000 in
theorem k_X9_fault (l : Launch) (dC : Nat → ClassId) (dI : Nat → Nat → Nat) (sz : Nat) (kI kB kQ : ClassId) (ma : Nat) (MA : Nat → Prop) (tp : Nat) (p0 : Int32) : Met l yX9_fault (.code yX9_fault cX9_fault 2 (some .int) :: VM) ({ frames := 0, cells := 0, slots := 0, locals := 0 }) (va_Pc [.ref ma, .int p0] (xB (dC, dI) kI kB kQ (MInv (dC, dI) kI kB ma MA tp) sz)) (va_Qi (fun (r : Int32) (_ : Unit) => True) (fun _ t => MInv (dC, dI) kI kB ma MA tp t.heap) (xA MA sz)) 0 0 (xA MA sz) := by
  refine met_by (fun a s h => ?_)
  obtain ⟨rfl, rfl, hJ, hK⟩ := h
  obtain ⟨ad, x0, x16, x19, x20, x21, x22, x23, x24, x25, x26, x27, x28, x29, x30, x33, x45, x46, x52, x53, x61, x62, x63, x65, x66, f1, f2, f3, q4, q5, q6, q7, f8, q9, q10, f11, m12_0, m12_1, m13_0, m13_1, m14_0, m14_1, m15_0, m15_1, f17, q31, f32, f34, f35, f36, f37, q38, f39, f40, f41, m42_0, m42_1, f43, f44, f47, f48, f49, f50, f51, q54, q55, q56, f57, q58, f59, f60, f64, rfl, hx16, hx18, hx19, hx21, hx22, hx26, hx28, hx29, hx30, hx33, hx46, hx52, hx53, hx61, hx62, hx63, hx65, hm12_0, hm12_1, hm13_0, hm13_1, hm14_0, hm14_1, hm15_0, hm15_1, hm42_0, hm42_1, hbg, hgr, hP, hD⟩ := hJ
  have hKc := mk_K hK
  refine ⟨_, _, _, c_M_fault l dC dI _ ad (mck kI kB) x0 x16 tp x19 x20 x21 x22 x23 x24 x25 x26 x27 x28 x29 x30 x33 x45 x46 x52 x53 x61 x62 x63 x65 x66 f1 f2 f3 q4 q5 q6 q7 f8 q9 q10 f11 m12_0 m12_1 m13_0 m13_1 m14_0 m14_1 m15_0 m15_1 f17 q31 f32 f34 f35 f36 f37 q38 f39 f40 f41 m42_0 m42_1 f43 f44 f47 f48 f49 f50 f51 q54 q55 q56 f57 q58 f59 f60 f64 p0 hx16 hx18 hx19 hx21 hx22 hx26 hx28 hx29 hx30 hx33 hx46 hx52 hx53 hx61 hx62 hx63 hx65 hm12_0 hm12_1 hm13_0 hm13_1 hm14_0 hm14_1 hm15_0 hm15_1 hm42_0 hm42_1, ⟨rfl, rfl, hP, hKc, hD.weaken (fun _ _ _ _ => trivial)⟩, fun o t hq => ?_, xA_of hD⟩
  obtain ⟨⟨r, u, ho, hw, hB⟩, hF⟩ := hq
  obtain ⟨z0, ⟨hP1, -, hD1⟩⟩ := hB
  have hF2 := xF_of hD hF
  have hD2 := hD1
  have hD3 := vD_fst hD (ws' := _) (mo_fst (ad := ad) (ck := mck kI kB))
  exact ⟨⟨r, (), ho, trivial, ⟨ad, z0, x16, x19, x20, x21, x22, x23, x24, x25, x26, x27, x28, x29, x30, x33, x45, x46, x52, x53, x61, x62, x63, x65, x66, f1, f2, f3, q4, q5, q6, q7, f8, q9, q10, f11, m12_0, m12_1, m13_0, m13_1, m14_0, m14_1, m15_0, m15_1, f17, q31, f32, f34, f35, f36, f37, q38, f39, f40, f41, m42_0, m42_1, f43, f44, f47, f48, f49, f50, f51, q54, q55, q56, f57, q58, f59, f60, f64, rfl, hx16, hx18, hx19, hx21, hx22, hx26, hx28, hx29, hx30, hx33, hx46, hx52, hx53, hx61, hx62, hx63, hx65, hm12_0, hm12_1, hm13_0, hm13_1, hm14_0, hm14_1, hm15_0, hm15_1, hm42_0, hm42_1, hbg, hgr, hP1, hD3⟩⟩, hF2⟩
set_option maxHeartbeats 4000000 in
set_option maxRecDepth 100000 in
theorem k_X9_about (l : Launch) (dC : Nat → ClassId) (dI : Nat → Nat → Nat) (sz : Nat) (kI kB kQ : ClassId) (ma : Nat) (MA : Nat → Prop) (tp : Nat) (p0 : Int32) : Met l yX9_about (.code yX9_about cX9_about 4 (some .int) :: VM) ({ frames := 3, cells := 0, slots := 0, locals := 64 }) (va_Pc [.ref ma, .int p0] (xB (dC, dI) kI kB kQ (MInv (dC, dI) kI kB ma MA tp) sz)) (va_Qi (fun (r : Int32) (_ : Unit) => True) (fun _ t => MInv (dC, dI) kI kB ma MA tp t.heap) (xA MA sz)) 0 0 (xA MA sz) := by
  refine met_by (fun a s h => ?_)
  obtain ⟨rfl, rfl, hJ, hK⟩ := h
  obtain ⟨ad, x0, x16, x19, x20, x21, x22, x23, x24, x25, x26, x27, x28, x29, x30, x33, x45, x46, x52, x53, x61, x62, x63, x65, x66, f1, f2, f3, q4, q5, q6, q7, f8, q9, q10, f11, m12_0, m12_1, m13_0, m13_1, m14_0, m14_1, m15_0, m15_1, f17, q31, f32, f34, f35, f36, f37, q38, f39, f40, f41, m42_0, m42_1, f43, f44, f47, f48, f49, f50, f51, q54, q55, q56, f57, q58, f59, f60, f64, rfl, hx16, hx18, hx19, hx21, hx22, hx26, hx28, hx29, hx30, hx33, hx46, hx52, hx53, hx61, hx62, hx63, hx65, hm12_0, hm12_1, hm13_0, hm13_1, hm14_0, hm14_1, hm15_0, hm15_1, hm42_0, hm42_1, hbg, hgr, hP, hD⟩ := hJ
  have hKc := mk_K hK
  refine ⟨_, _, _, c_M_about l dC dI _ ad (mck kI kB) x0 x16 tp x19 x20 x21 x22 x23 x24 x25 x26 x27 x28 x29 x30 x33 x45 x46 x52 x53 x61 x62 x63 x65 x66 f1 f2 f3 q4 q5 q6 q7 f8 q9 q10 f11 m12_0 m12_1 m13_0 m13_1 m14_0 m14_1 m15_0 m15_1 f17 q31 f32 f34 f35 f36 f37 q38 f39 f40 f41 m42_0 m42_1 f43 f44 f47 f48 f49 f50 f51 q54 q55 q56 f57 q58 f59 f60 f64 p0 hx16 hx18 hx19 hx21 hx22 hx26 hx28 hx29 hx30 hx33 hx46 hx52 hx53 hx61 hx62 hx63 hx65 hm12_0 hm12_1 hm13_0 hm13_1 hm14_0 hm14_1 hm15_0 hm15_1 hm42_0 hm42_1, ⟨rfl, rfl, hP, hKc, hD.weaken (fun _ _ _ _ => trivial)⟩, fun o t hq => ?_, xA_of hD⟩
  obtain ⟨⟨r, u, ho, hw, hB⟩, hF⟩ := hq
  obtain ⟨z0, ⟨hP1, -, hD1⟩⟩ := hB
  have hF2 := xF_of hD hF
  have hD2 := hD1
  have hD3 := vD_fst hD (ws' := _) (mo_fst (ad := ad) (ck := mck kI kB))
  exact ⟨⟨r, (), ho, trivial, ⟨ad, z0, x16, x19, x20, x21, x22, x23, x24, x25, x26, x27, x28, x29, x30, x33, x45, x46, x52, x53, x61, x62, x63, x65, x66, f1, f2, f3, q4, q5, q6, q7, f8, q9, q10, f11, m12_0, m12_1, m13_0, m13_1, m14_0, m14_1, m15_0, m15_1, f17, q31, f32, f34, f35, f36, f37, q38, f39, f40, f41, m42_0, m42_1, f43, f44, f47, f48, f49, f50, f51, q54, q55, q56, f57, q58, f59, f60, f64, rfl, hx16, hx18, hx19, hx21, hx22, hx26, hx28, hx29, hx30, hx33, hx46, hx52, hx53, hx61, hx62, hx63, hx65, hm12_0, hm12_1, hm13_0, hm13_1, hm14_0, hm14_1, hm15_0, hm15_1, hm42_0, hm42_1, hbg, hgr, hP1, hD3⟩⟩, hF2⟩
set_option maxHeartbeats 4000000 in
set_option maxRecDepth 100000 in
theorem k_X9_place (l : Launch) (dC : Nat → ClassId) (dI : Nat → Nat → Nat) (sz : Nat) (kI kB kQ : ClassId) (ma : Nat) (MA : Nat → Prop) (tp : Nat) (p0 : Int32) (p1 : Int32) : Met l yX9_place (.code yX9_place cX9_place 3 (some .int) :: VM) ({ frames := 3, cells := 0, slots := 0, locals := 64 }) (va_Pc [.ref ma, .int p0, .int p1] (xB (dC, dI) kI kB kQ (MInv (dC, dI) kI kB ma MA tp) sz)) (va_Qi (fun (r : Int32) (_ : Unit) => True) (fun _ t => MInv (dC, dI) kI kB ma MA tp t.heap) (xA MA sz)) 0 0 (xA MA sz) := by
  refine met_by (fun a s h => ?_)
  obtain ⟨rfl, rfl, hJ, hK⟩ := h
  obtain ⟨ad, x0, x16, x19, x20, x21, x22, x23, x24, x25, x26, x27, x28, x29, x30, x33, x45, x46, x52, x53, x61, x62, x63, x65, x66, f1, f2, f3, q4, q5, q6, q7, f8, q9, q10, f11, m12_0, m12_1, m13_0, m13_1, m14_0, m14_1, m15_0, m15_1, f17, q31, f32, f34, f35, f36, f37, q38, f39, f40, f41, m42_0, m42_1, f43, f44, f47, f48, f49, f50, f51, q54, q55, q56, f57, q58, f59, f60, f64, rfl, hx16, hx18, hx19, hx21, hx22, hx26, hx28, hx29, hx30, hx33, hx46, hx52, hx53, hx61, hx62, hx63, hx65, hm12_0, hm12_1, hm13_0, hm13_1, hm14_0, hm14_1, hm15_0, hm15_1, hm42_0, hm42_1, hbg, hgr, hP, hD⟩ := hJ
  have hKc := mk_K hK
  refine ⟨_, _, _, c_M_place l dC dI _ ad (mck kI kB) x0 x16 tp x19 x20 x21 x22 x23 x24 x25 x26 x27 x28 x29 x30 x33 x45 x46 x52 x53 x61 x62 x63 x65 x66 f1 f2 f3 q4 q5 q6 q7 f8 q9 q10 f11 m12_0 m12_1 m13_0 m13_1 m14_0 m14_1 m15_0 m15_1 f17 q31 f32 f34 f35 f36 f37 q38 f39 f40 f41 m42_0 m42_1 f43 f44 f47 f48 f49 f50 f51 q54 q55 q56 f57 q58 f59 f60 f64 p0 p1 hx16 hx18 hx19 hx21 hx22 hx26 hx28 hx29 hx30 hx33 hx46 hx52 hx53 hx61 hx62 hx63 hx65 hm12_0 hm12_1 hm13_0 hm13_1 hm14_0 hm14_1 hm15_0 hm15_1 hm42_0 hm42_1, ⟨rfl, rfl, hP, hKc, hD.weaken (fun _ _ _ _ => trivial)⟩, fun o t hq => ?_, xA_of hD⟩
  obtain ⟨⟨r, u, ho, hw, hB⟩, hF⟩ := hq
  obtain ⟨z0, ⟨hP1, -, hD1⟩⟩ := hB
  have hF2 := xF_of hD hF
  have hD2 := hD1
  have hD3 := vD_fst hD (ws' := _) (mo_fst (ad := ad) (ck := mck kI kB))
  exact ⟨⟨r, (), ho, trivial, ⟨ad, z0, x16, x19, x20, x21, x22, x23, x24, x25, x26, x27, x28, x29, x30, x33, x45, x46, x52, x53, x61, x62, x63, x65, x66, f1, f2, f3, q4, q5, q6, q7, f8, q9, q10, f11, m12_0, m12_1, m13_0, m13_1, m14_0, m14_1, m15_0, m15_1, f17, q31, f32, f34, f35, f36, f37, q38, f39, f40, f41, m42_0, m42_1, f43, f44, f47, f48, f49, f50, f51, q54, q55, q56, f57, q58, f59, f60, f64, rfl, hx16, hx18, hx19, hx21, hx22, hx26, hx28, hx29, hx30, hx33, hx46, hx52, hx53, hx61, hx62, hx63, hx65, hm12_0, hm12_1, hm13_0, hm13_1, hm14_0, hm14_1, hm15_0, hm15_1, hm42_0, hm42_1, hbg, hgr, hP1, hD3⟩⟩, hF2⟩
set_option maxHeartbeats 4000000 in
set_option maxRecDepth 100000 in
theorem k_X9_edge (l : Launch) (dC : Nat → ClassId) (dI : Nat → Nat → Nat) (sz : Nat) (kI kB kQ : ClassId) (ma : Nat) (MA : Nat → Prop) (tp : Nat) (p0 : Int32) (p1 : Int32) : Met l yX9_edge (.code yX9_edge cX9_edge 3 (some .int) :: VM) ({ frames := 3, cells := 0, slots := 0, locals := 64 }) (va_Pc [.ref ma, .int p0, .int p1] (xB (dC, dI) kI kB kQ (MInv (dC, dI) kI kB ma MA tp) sz)) (va_Qi (fun (r : Int32) (_ : Unit) => True) (fun _ t => MInv (dC, dI) kI kB ma MA tp t.heap) (xA MA sz)) 0 0 (xA MA sz) := by
  refine met_by (fun a s h => ?_)
  obtain ⟨rfl, rfl, hJ, hK⟩ := h
  obtain ⟨ad, x0, x16, x19, x20, x21, x22, x23, x24, x25, x26, x27, x28, x29, x30, x33, x45, x46, x52, x53, x61, x62, x63, x65, x66, f1, f2, f3, q4, q5, q6, q7, f8, q9, q10, f11, m12_0, m12_1, m13_0, m13_1, m14_0, m14_1, m15_0, m15_1, f17, q31, f32, f34, f35, f36, f37, q38, f39, f40, f41, m42_0, m42_1, f43, f44, f47, f48, f49, f50, f51, q54, q55, q56, f57, q58, f59, f60, f64, rfl, hx16, hx18, hx19, hx21, hx22, hx26, hx28, hx29, hx30, hx33, hx46, hx52, hx53, hx61, hx62, hx63, hx65, hm12_0, hm12_1, hm13_0, hm13_1, hm14_0, hm14_1, hm15_0, hm15_1, hm42_0, hm42_1, hbg, hgr, hP, hD⟩ := hJ
  have hKc := mk_K hK
  refine ⟨_, _, _, c_M_edge l dC dI _ ad (mck kI kB) x0 x16 tp x19 x20 x21 x22 x23 x24 x25 x26 x27 x28 x29 x30 x33 x45 x46 x52 x53 x61 x62 x63 x65 x66 f1 f2 f3 q4 q5 q6 q7 f8 q9 q10 f11 m12_0 m12_1 m13_0 m13_1 m14_0 m14_1 m15_0 m15_1 f17 q31 f32 f34 f35 f36 f37 q38 f39 f40 f41 m42_0 m42_1 f43 f44 f47 f48 f49 f50 f51 q54 q55 q56 f57 q58 f59 f60 f64 p0 p1 hx16 hx18 hx19 hx21 hx22 hx26 hx28 hx29 hx30 hx33 hx46 hx52 hx53 hx61 hx62 hx63 hx65 hm12_0 hm12_1 hm13_0 hm13_1 hm14_0 hm14_1 hm15_0 hm15_1 hm42_0 hm42_1, ⟨rfl, rfl, hP, hKc, hD.weaken (fun _ _ _ _ => trivial)⟩, fun o t hq => ?_, xA_of hD⟩
  obtain ⟨⟨r, u, ho, hw, hB⟩, hF⟩ := hq
  obtain ⟨z0, ⟨hP1, -, hD1⟩⟩ := hB
  have hF2 := xF_of hD hF
  have hD2 := hD1
  have hD3 := vD_fst hD (ws' := _) (mo_fst (ad := ad) (ck := mck kI kB))
  exact ⟨⟨r, (), ho, trivial, ⟨ad, z0, x16, x19, x20, x21, x22, x23, x24, x25, x26, x27, x28, x29, x30, x33, x45, x46, x52, x53, x61, x62, x63, x65, x66, f1, f2, f3, q4, q5, q6, q7, f8, q9, q10, f11, m12_0, m12_1, m13_0, m13_1, m14_0, m14_1, m15_0, m15_1, f17, q31, f32, f34, f35, f36, f37, q38, f39, f40, f41, m42_0, m42_1, f43, f44, f47, f48, f49, f50, f51, q54, q55, q56, f57, q58, f59, f60, f64, rfl, hx16, hx18, hx19, hx21, hx22, hx26, hx28, hx29, hx30, hx33, hx46, hx52, hx53, hx61, hx62, hx63, hx65, hm12_0, hm12_1, hm13_0, hm13_1, hm14_0, hm14_1, hm15_0, hm15_1, hm42_0, hm42_1, hbg, hgr, hP1, hD3⟩⟩, hF2⟩
set_option maxHeartbeats 4000000 in
set_option maxRecDepth 100000 in
theorem k_X9_condition (l : Launch) (dC : Nat → ClassId) (dI : Nat → Nat → Nat) (sz : Nat) (kI kB kQ : ClassId) (ma : Nat) (MA : Nat → Prop) (tp : Nat) (p0 : Int32) (p1 : Int32) (p2 : Int32) : Met l yX9_condition (.code yX9_condition cX9_condition 5 (some .int) :: VM) ({ frames := 4, cells := 0, slots := 0, locals := 86 }) (va_Pc [.ref ma, .int p0, .int p1, .int p2] (xB (dC, dI) kI kB kQ (MInv (dC, dI) kI kB ma MA tp) sz)) (va_Qi (fun (r : Int32) (_ : Unit) => True) (fun _ t => MInv (dC, dI) kI kB ma MA tp t.heap) (xA MA sz)) 0 0 (xA MA sz) := by
  refine met_by (fun a s h => ?_)
  obtain ⟨rfl, rfl, hJ, hK⟩ := h
  obtain ⟨ad, x0, x16, x19, x20, x21, x22, x23, x24, x25, x26, x27, x28, x29, x30, x33, x45, x46, x52, x53, x61, x62, x63, x65, x66, f1, f2, f3, q4, q5, q6, q7, f8, q9, q10, f11, m12_0, m12_1, m13_0, m13_1, m14_0, m14_1, m15_0, m15_1, f17, q31, f32, f34, f35, f36, f37, q38, f39, f40, f41, m42_0, m42_1, f43, f44, f47, f48, f49, f50, f51, q54, q55, q56, f57, q58, f59, f60, f64, rfl, hx16, hx18, hx19, hx21, hx22, hx26, hx28, hx29, hx30, hx33, hx46, hx52, hx53, hx61, hx62, hx63, hx65, hm12_0, hm12_1, hm13_0, hm13_1, hm14_0, hm14_1, hm15_0, hm15_1, hm42_0, hm42_1, hbg, hgr, hP, hD⟩ := hJ
  have hKc := mk_K hK
  refine ⟨_, _, _, c_M_condition l dC dI _ ad (mck kI kB) x0 x16 tp x19 x20 x21 x22 x23 x24 x25 x26 x27 x28 x29 x30 x33 x45 x46 x52 x53 x61 x62 x63 x65 x66 f1 f2 f3 q4 q5 q6 q7 f8 q9 q10 f11 m12_0 m12_1 m13_0 m13_1 m14_0 m14_1 m15_0 m15_1 f17 q31 f32 f34 f35 f36 f37 q38 f39 f40 f41 m42_0 m42_1 f43 f44 f47 f48 f49 f50 f51 q54 q55 q56 f57 q58 f59 f60 f64 p0 p1 p2 hx16 hx18 hx19 hx21 hx22 hx26 hx28 hx29 hx30 hx33 hx46 hx52 hx53 hx61 hx62 hx63 hx65 hm12_0 hm12_1 hm13_0 hm13_1 hm14_0 hm14_1 hm15_0 hm15_1 hm42_0 hm42_1, ⟨rfl, rfl, hP, hKc, hD.weaken (fun _ _ _ _ => trivial)⟩, fun o t hq => ?_, xA_of hD⟩
  obtain ⟨⟨r, u, ho, hw, hB⟩, hF⟩ := hq
  obtain ⟨z0, ⟨hP1, -, hD1⟩⟩ := hB
  have hF2 := xF_of hD hF
  have hD2 := hD1
  have hD3 := vD_fst hD (ws' := _) (mo_fst (ad := ad) (ck := mck kI kB))
  exact ⟨⟨r, (), ho, trivial, ⟨ad, z0, x16, x19, x20, x21, x22, x23, x24, x25, x26, x27, x28, x29, x30, x33, x45, x46, x52, x53, x61, x62, x63, x65, x66, f1, f2, f3, q4, q5, q6, q7, f8, q9, q10, f11, m12_0, m12_1, m13_0, m13_1, m14_0, m14_1, m15_0, m15_1, f17, q31, f32, f34, f35, f36, f37, q38, f39, f40, f41, m42_0, m42_1, f43, f44, f47, f48, f49, f50, f51, q54, q55, q56, f57, q58, f59, f60, f64, rfl, hx16, hx18, hx19, hx21, hx22, hx26, hx28, hx29, hx30, hx33, hx46, hx52, hx53, hx61, hx62, hx63, hx65, hm12_0, hm12_1, hm13_0, hm13_1, hm14_0, hm14_1, hm15_0, hm15_1, hm42_0, hm42_1, hbg, hgr, hP1, hD3⟩⟩, hF2⟩
set_option maxHeartbeats 4000000 in
set_option maxRecDepth 100000 in
theorem k_X9_limit (l : Launch) (dC : Nat → ClassId) (dI : Nat → Nat → Nat) (sz : Nat) (kI kB kQ : ClassId) (ma : Nat) (MA : Nat → Prop) (tp : Nat) (p0 : Int32) (p1 : Int32) : Met l yX9_limit (.code yX9_limit cX9_limit 3 (some .int) :: VM) ({ frames := 4, cells := 0, slots := 0, locals := 91 }) (va_Pc [.ref ma, .int p0, .int p1] (xB (dC, dI) kI kB kQ (MInv (dC, dI) kI kB ma MA tp) sz)) (va_Qi (fun (r : Int32) (_ : Unit) => True) (fun _ t => MInv (dC, dI) kI kB ma MA tp t.heap) (xA MA sz)) 0 0 (xA MA sz) := by
  refine met_by (fun a s h => ?_)
  obtain ⟨rfl, rfl, hJ, hK⟩ := h
  obtain ⟨ad, x0, x16, x19, x20, x21, x22, x23, x24, x25, x26, x27, x28, x29, x30, x33, x45, x46, x52, x53, x61, x62, x63, x65, x66, f1, f2, f3, q4, q5, q6, q7, f8, q9, q10, f11, m12_0, m12_1, m13_0, m13_1, m14_0, m14_1, m15_0, m15_1, f17, q31, f32, f34, f35, f36, f37, q38, f39, f40, f41, m42_0, m42_1, f43, f44, f47, f48, f49, f50, f51, q54, q55, q56, f57, q58, f59, f60, f64, rfl, hx16, hx18, hx19, hx21, hx22, hx26, hx28, hx29, hx30, hx33, hx46, hx52, hx53, hx61, hx62, hx63, hx65, hm12_0, hm12_1, hm13_0, hm13_1, hm14_0, hm14_1, hm15_0, hm15_1, hm42_0, hm42_1, hbg, hgr, hP, hD⟩ := hJ
  have hKc := mk_K hK
  refine ⟨_, _, _, c_M_limit l dC dI _ ad (mck kI kB) x0 x16 tp x19 x20 x21 x22 x23 x24 x25 x26 x27 x28 x29 x30 x33 x45 x46 x52 x53 x61 x62 x63 x65 x66 f1 f2 f3 q4 q5 q6 q7 f8 q9 q10 f11 m12_0 m12_1 m13_0 m13_1 m14_0 m14_1 m15_0 m15_1 f17 q31 f32 f34 f35 f36 f37 q38 f39 f40 f41 m42_0 m42_1 f43 f44 f47 f48 f49 f50 f51 q54 q55 q56 f57 q58 f59 f60 f64 p0 p1 hx16 hx18 hx19 hx21 hx22 hx26 hx28 hx29 hx30 hx33 hx46 hx52 hx53 hx61 hx62 hx63 hx65 hm12_0 hm12_1 hm13_0 hm13_1 hm14_0 hm14_1 hm15_0 hm15_1 hm42_0 hm42_1, ⟨rfl, rfl, hP, hKc, hD.weaken (fun _ _ _ _ => trivial)⟩, fun o t hq => ?_, xA_of hD⟩
  obtain ⟨⟨r, u, ho, hw, hB⟩, hF⟩ := hq
  obtain ⟨z0, ⟨hP1, -, hD1⟩⟩ := hB
  have hF2 := xF_of hD hF
  have hD2 := hD1
  have hD3 := vD_fst hD (ws' := _) (mo_fst (ad := ad) (ck := mck kI kB))
  exact ⟨⟨r, (), ho, trivial, ⟨ad, z0, x16, x19, x20, x21, x22, x23, x24, x25, x26, x27, x28, x29, x30, x33, x45, x46, x52, x53, x61, x62, x63, x65, x66, f1, f2, f3, q4, q5, q6, q7, f8, q9, q10, f11, m12_0, m12_1, m13_0, m13_1, m14_0, m14_1, m15_0, m15_1, f17, q31, f32, f34, f35, f36, f37, q38, f39, f40, f41, m42_0, m42_1, f43, f44, f47, f48, f49, f50, f51, q54, q55, q56, f57, q58, f59, f60, f64, rfl, hx16, hx18, hx19, hx21, hx22, hx26, hx28, hx29, hx30, hx33, hx46, hx52, hx53, hx61, hx62, hx63, hx65, hm12_0, hm12_1, hm13_0, hm13_1, hm14_0, hm14_1, hm15_0, hm15_1, hm42_0, hm42_1, hbg, hgr, hP1, hD3⟩⟩, hF2⟩
set_option maxHeartbeats 4000000 in
set_option maxRecDepth 100000 in
theorem k_X9_number (l : Launch) (dC : Nat → ClassId) (dI : Nat → Nat → Nat) (sz : Nat) (kI kB kQ : ClassId) (ma : Nat) (MA : Nat → Prop) (tp : Nat) (p0 : Int32) (p1 : Int32) (p2 : Int32) : Met l yX9_number (.code yX9_number cX9_number 5 (some .int) :: VM) ({ frames := 4, cells := 0, slots := 0, locals := 86 }) (va_Pc [.ref ma, .int p0, .int p1, .int p2] (xB (dC, dI) kI kB kQ (MInv (dC, dI) kI kB ma MA tp) sz)) (va_Qi (fun (r : Int32) (_ : Unit) => True) (fun _ t => MInv (dC, dI) kI kB ma MA tp t.heap) (xA MA sz)) 0 0 (xA MA sz) := by
  refine met_by (fun a s h => ?_)
  obtain ⟨rfl, rfl, hJ, hK⟩ := h
  obtain ⟨ad, x0, x16, x19, x20, x21, x22, x23, x24, x25, x26, x27, x28, x29, x30, x33, x45, x46, x52, x53, x61, x62, x63, x65, x66, f1, f2, f3, q4, q5, q6, q7, f8, q9, q10, f11, m12_0, m12_1, m13_0, m13_1, m14_0, m14_1, m15_0, m15_1, f17, q31, f32, f34, f35, f36, f37, q38, f39, f40, f41, m42_0, m42_1, f43, f44, f47, f48, f49, f50, f51, q54, q55, q56, f57, q58, f59, f60, f64, rfl, hx16, hx18, hx19, hx21, hx22, hx26, hx28, hx29, hx30, hx33, hx46, hx52, hx53, hx61, hx62, hx63, hx65, hm12_0, hm12_1, hm13_0, hm13_1, hm14_0, hm14_1, hm15_0, hm15_1, hm42_0, hm42_1, hbg, hgr, hP, hD⟩ := hJ
  have hKc := mk_K hK
  refine ⟨_, _, _, c_M_number l dC dI _ ad (mck kI kB) x0 x16 tp x19 x20 x21 x22 x23 x24 x25 x26 x27 x28 x29 x30 x33 x45 x46 x52 x53 x61 x62 x63 x65 x66 f1 f2 f3 q4 q5 q6 q7 f8 q9 q10 f11 m12_0 m12_1 m13_0 m13_1 m14_0 m14_1 m15_0 m15_1 f17 q31 f32 f34 f35 f36 f37 q38 f39 f40 f41 m42_0 m42_1 f43 f44 f47 f48 f49 f50 f51 q54 q55 q56 f57 q58 f59 f60 f64 p0 p1 p2 hx16 hx18 hx19 hx21 hx22 hx26 hx28 hx29 hx30 hx33 hx46 hx52 hx53 hx61 hx62 hx63 hx65 hm12_0 hm12_1 hm13_0 hm13_1 hm14_0 hm14_1 hm15_0 hm15_1 hm42_0 hm42_1, ⟨rfl, rfl, hP, hKc, hD.weaken (fun _ _ _ _ => trivial)⟩, fun o t hq => ?_, xA_of hD⟩
  obtain ⟨⟨r, u, ho, hw, hB⟩, hF⟩ := hq
  obtain ⟨z11, z31, z32, z0, z29, z30, z33, ⟨hP1, -, hD1⟩, hz29, hz30, hz33⟩ := hB
  have hF2 := xF_of hD hF
  have hD2 := hD1
  have hD3 := vD_fst hD (ws' := _) (mo_fst (ad := ad) (ck := mck kI kB))
  exact ⟨⟨r, (), ho, trivial, ⟨ad, z0, x16, x19, x20, x21, x22, x23, x24, x25, x26, x27, x28, z29, z30, z33, x45, x46, x52, x53, x61, x62, x63, x65, x66, f1, f2, f3, q4, q5, q6, q7, f8, q9, q10, z11, m12_0, m12_1, m13_0, m13_1, m14_0, m14_1, m15_0, m15_1, f17, z31, z32, f34, f35, f36, f37, q38, f39, f40, f41, m42_0, m42_1, f43, f44, f47, f48, f49, f50, f51, q54, q55, q56, f57, q58, f59, f60, f64, rfl, hx16, hx18, hx19, hx21, hx22, hx26, hx28, hz29, hz30, hz33, hx46, hx52, hx53, hx61, hx62, hx63, hx65, hm12_0, hm12_1, hm13_0, hm13_1, hm14_0, hm14_1, hm15_0, hm15_1, hm42_0, hm42_1, hbg, hgr, hP1, hD3⟩⟩, hF2⟩
set_option maxHeartbeats 4000000 in
set_option maxRecDepth 100000 in
theorem k_X9_urgent (l : Launch) (dC : Nat → ClassId) (dI : Nat → Nat → Nat) (sz : Nat) (kI kB kQ : ClassId) (ma : Nat) (MA : Nat → Prop) (tp : Nat) (p0 : Int32) (a1 : Nat) (ha1 : a1 ≤ 1) : Met l yX9_urgent (.code yX9_urgent cX9_urgent 3 (some .boolean) :: VM) ({ frames := 2, cells := 0, slots := 0, locals := 43 }) (va_Pc [.ref ma, .int p0, .int (nI a1)] (xB (dC, dI) kI kB kQ (MInv (dC, dI) kI kB ma MA tp) sz)) (va_Qi (fun (r : Int32) (_ : Unit) => True) (fun _ t => MInv (dC, dI) kI kB ma MA tp t.heap) (xA MA sz)) 0 0 (xA MA sz) := by
  refine met_by (fun a s h => ?_)
  obtain ⟨rfl, rfl, hJ, hK⟩ := h
  obtain ⟨ad, x0, x16, x19, x20, x21, x22, x23, x24, x25, x26, x27, x28, x29, x30, x33, x45, x46, x52, x53, x61, x62, x63, x65, x66, f1, f2, f3, q4, q5, q6, q7, f8, q9, q10, f11, m12_0, m12_1, m13_0, m13_1, m14_0, m14_1, m15_0, m15_1, f17, q31, f32, f34, f35, f36, f37, q38, f39, f40, f41, m42_0, m42_1, f43, f44, f47, f48, f49, f50, f51, q54, q55, q56, f57, q58, f59, f60, f64, rfl, hx16, hx18, hx19, hx21, hx22, hx26, hx28, hx29, hx30, hx33, hx46, hx52, hx53, hx61, hx62, hx63, hx65, hm12_0, hm12_1, hm13_0, hm13_1, hm14_0, hm14_1, hm15_0, hm15_1, hm42_0, hm42_1, hbg, hgr, hP, hD⟩ := hJ
  have hKc := mk_K hK
  refine ⟨_, _, _, c_M_urgent l dC dI _ ad (mck kI kB) x0 x16 tp x19 x20 x21 x22 x23 x24 x25 x26 x27 x28 x29 x30 x33 x45 x46 x52 x53 x61 x62 x63 x65 x66 f1 f2 f3 q4 q5 q6 q7 f8 q9 q10 f11 m12_0 m12_1 m13_0 m13_1 m14_0 m14_1 m15_0 m15_1 f17 q31 f32 f34 f35 f36 f37 q38 f39 f40 f41 m42_0 m42_1 f43 f44 f47 f48 f49 f50 f51 q54 q55 q56 f57 q58 f59 f60 f64 p0 a1 hx16 hx18 hx19 hx21 hx22 hx26 hx28 hx29 hx30 hx33 hx46 hx52 hx53 hx61 hx62 hx63 hx65 hm12_0 hm12_1 hm13_0 hm13_1 hm14_0 hm14_1 hm15_0 hm15_1 hm42_0 hm42_1 ha1, ⟨rfl, rfl, hP, hKc, hD.weaken (fun _ _ _ _ => trivial)⟩, fun o t hq => ?_, xA_of hD⟩
  obtain ⟨⟨r, u, ho, hw, hB⟩, hF⟩ := hq
  obtain ⟨z3, z31, z32, z0, z29, z30, z33, ⟨hP1, -, hD1⟩, hz29, hz30, hz33⟩ := hB
  have hF2 := xF_of hD hF
  have hD2 := hD1
  have hD3 := vD_fst hD (ws' := _) (mo_fst (ad := ad) (ck := mck kI kB))
  exact ⟨⟨r, (), ho, trivial, ⟨ad, z0, x16, x19, x20, x21, x22, x23, x24, x25, x26, x27, x28, z29, z30, z33, x45, x46, x52, x53, x61, x62, x63, x65, x66, f1, f2, z3, q4, q5, q6, q7, f8, q9, q10, f11, m12_0, m12_1, m13_0, m13_1, m14_0, m14_1, m15_0, m15_1, f17, z31, z32, f34, f35, f36, f37, q38, f39, f40, f41, m42_0, m42_1, f43, f44, f47, f48, f49, f50, f51, q54, q55, q56, f57, q58, f59, f60, f64, rfl, hx16, hx18, hx19, hx21, hx22, hx26, hx28, hz29, hz30, hz33, hx46, hx52, hx53, hx61, hx62, hx63, hx65, hm12_0, hm12_1, hm13_0, hm13_1, hm14_0, hm14_1, hm15_0, hm15_1, hm42_0, hm42_1, hbg, hgr, hP1, hD3⟩⟩, hF2⟩
set_option maxHeartbeats 4000000 in
set_option maxRecDepth 100000 in
theorem k_X9_undo (l : Launch) (dC : Nat → ClassId) (dI : Nat → Nat → Nat) (sz : Nat) (kI kB kQ : ClassId) (ma : Nat) (MA : Nat → Prop) (tp : Nat) : Met l yX9_undo (.code yX9_undo cX9_undo 1 (some .boolean) :: VM) ({ frames := 1, cells := 0, slots := 0, locals := 20 }) (va_Pc [.ref ma] (xB (dC, dI) kI kB kQ (MInv (dC, dI) kI kB ma MA tp) sz)) (va_Qi (fun (r : Int32) (_ : Unit) => True) (fun _ t => MInv (dC, dI) kI kB ma MA tp t.heap) (xA MA sz)) 0 0 (xA MA sz) := by
  refine met_by (fun a s h => ?_)
  obtain ⟨rfl, rfl, hJ, hK⟩ := h
  obtain ⟨ad, x0, x16, x19, x20, x21, x22, x23, x24, x25, x26, x27, x28, x29, x30, x33, x45, x46, x52, x53, x61, x62, x63, x65, x66, f1, f2, f3, q4, q5, q6, q7, f8, q9, q10, f11, m12_0, m12_1, m13_0, m13_1, m14_0, m14_1, m15_0, m15_1, f17, q31, f32, f34, f35, f36, f37, q38, f39, f40, f41, m42_0, m42_1, f43, f44, f47, f48, f49, f50, f51, q54, q55, q56, f57, q58, f59, f60, f64, rfl, hx16, hx18, hx19, hx21, hx22, hx26, hx28, hx29, hx30, hx33, hx46, hx52, hx53, hx61, hx62, hx63, hx65, hm12_0, hm12_1, hm13_0, hm13_1, hm14_0, hm14_1, hm15_0, hm15_1, hm42_0, hm42_1, hbg, hgr, hP, hD⟩ := hJ
  have hKc := mk_K hK
  refine ⟨_, _, _, c_M_undo l dC dI _ ad (mck kI kB) x0 x16 tp x19 x20 x21 x22 x23 x24 x25 x26 x27 x28 x29 x30 x33 x45 x46 x52 x53 x61 x62 x63 x65 x66 f1 f2 f3 q4 q5 q6 q7 f8 q9 q10 f11 m12_0 m12_1 m13_0 m13_1 m14_0 m14_1 m15_0 m15_1 f17 q31 f32 f34 f35 f36 f37 q38 f39 f40 f41 m42_0 m42_1 f43 f44 f47 f48 f49 f50 f51 q54 q55 q56 f57 q58 f59 f60 f64 hx16 hx18 hx19 hx21 hx22 hx26 hx28 hx29 hx30 hx33 hx46 hx52 hx53 hx61 hx62 hx63 hx65 hm12_0 hm12_1 hm13_0 hm13_1 hm14_0 hm14_1 hm15_0 hm15_1 hm42_0 hm42_1, ⟨rfl, rfl, hP, hKc, hD.weaken (fun _ _ _ _ => trivial)⟩, fun o t hq => ?_, xA_of hD⟩
  obtain ⟨⟨r, u, ho, hw, hB⟩, hF⟩ := hq
  obtain ⟨z11, z3, z0, z29, z30, z33, ⟨hP1, -, hD1⟩, hz29, hz30, hz33⟩ := hB
  have hF2 := xF_of hD hF
  have hD2 := hD1
  have hD3 := vD_fst hD (ws' := _) (mo_fst (ad := ad) (ck := mck kI kB))
  exact ⟨⟨r, (), ho, trivial, ⟨ad, z0, x16, x19, x20, x21, x22, x23, x24, x25, x26, x27, x28, z29, z30, z33, x45, x46, x52, x53, x61, x62, x63, x65, x66, f1, f2, z3, q4, q5, q6, q7, f8, q9, q10, z11, m12_0, m12_1, m13_0, m13_1, m14_0, m14_1, m15_0, m15_1, f17, q31, f32, f34, f35, f36, f37, q38, f39, f40, f41, m42_0, m42_1, f43, f44, f47, f48, f49, f50, f51, q54, q55, q56, f57, q58, f59, f60, f64, rfl, hx16, hx18, hx19, hx21, hx22, hx26, hx28, hz29, hz30, hz33, hx46, hx52, hx53, hx61, hx62, hx63, hx65, hm12_0, hm12_1, hm13_0, hm13_1, hm14_0, hm14_1, hm15_0, hm15_1, hm42_0, hm42_1, hbg, hgr, hP1, hD3⟩⟩, hF2⟩
