set_option maxHeartbeats 4000000 in
set_option maxRecDepth 100000 in
theorem k_X9_graph (l : Launch) (dC : Nat → ClassId) (dI : Nat → Nat → Nat) (sz : Nat) (kI kB kQ : ClassId) (ma : Nat) (MA : Nat → Prop) (tp : Nat) (p0 : Int32) (a1 : Nat) (ha1 : a1 ≤ 1) : Met l yX9_graph (.code yX9_graph cX9_graph 3 (some .int) :: VM) ({ frames := 7, cells := 0, slots := 0, locals := 171 }) (va_Pc [.ref ma, .int p0, .int (nI a1)] (xB (dC, dI) kI kB kQ (MInv (dC, dI) kI kB ma MA tp) sz)) (va_Qi (fun (r : Int32) (_ : Unit) => True) (fun _ t => MInv (dC, dI) kI kB ma MA tp t.heap) (xA MA sz)) 0 0 (xA MA sz) := by
  refine met_by (fun a s h => ?_)
  obtain ⟨rfl, rfl, hJ, hK⟩ := h
  obtain ⟨ad, x0, x16, x19, x20, x21, x22, x23, x24, x25, x26, x27, x28, x29, x30, x33, x45, x46, x52, x53, x61, x62, x63, x65, x66, f1, f2, f3, q4, q5, q6, q7, f8, q9, q10, f11, m12_0, m12_1, m13_0, m13_1, m14_0, m14_1, m15_0, m15_1, f17, q31, f32, f34, f35, f36, f37, q38, f39, f40, f41, m42_0, m42_1, f43, f44, f47, f48, f49, f50, f51, q54, q55, q56, f57, q58, f59, f60, f64, rfl, hx16, hx18, hx19, hx21, hx22, hx26, hx28, hx29, hx30, hx33, hx46, hx52, hx53, hx61, hx62, hx63, hx65, hm12_0, hm12_1, hm13_0, hm13_1, hm14_0, hm14_1, hm15_0, hm15_1, hm42_0, hm42_1, hbg, hgr, hP, hD⟩ := hJ
  have hKc := mk_K hK
  refine ⟨_, _, _, c_M_graph l dC dI _ ad (mck kI kB) x0 x16 tp x19 x20 x21 x22 x23 x24 x25 x26 x27 x28 x29 x30 x33 x45 x46 x52 x53 x61 x62 x63 x65 x66 f1 f2 f3 q4 q5 q6 q7 f8 q9 q10 f11 m12_0 m12_1 m13_0 m13_1 m14_0 m14_1 m15_0 m15_1 f17 q31 f32 f34 f35 f36 f37 q38 f39 f40 f41 m42_0 m42_1 f43 f44 f47 f48 f49 f50 f51 q54 q55 q56 f57 q58 f59 f60 f64 p0 a1 hx16 hx18 hx19 hx21 hx22 hx26 hx28 hx29 hx30 hx33 hx46 hx52 hx53 hx61 hx62 hx63 hx65 hm12_0 hm12_1 hm13_0 hm13_1 hm14_0 hm14_1 hm15_0 hm15_1 hm42_0 hm42_1 ha1 hbg hgr, ⟨rfl, rfl, hP, hKc, hD.weaken (fun _ _ _ _ => trivial)⟩, fun o t hq => ?_, xA_of hD⟩
  obtain ⟨⟨r, u, ho, hw, hB⟩, hF⟩ := hq
  obtain ⟨z34, z35, z38, z39, z40, z41, z43, z44, z47, z48, z42_0, z0, z29, z45, z46, ⟨hP1, -, hD1⟩, hz42_0, hz29, hz46, xh_0⟩ := hB
  have hF2 := xF_of hD hF
  have hD2 := hD1
  have hD3 := vD_fst hD (ws' := _) (mo_fst (ad := ad) (ck := mck kI kB))
  exact ⟨⟨r, (), ho, trivial, ⟨ad, z0, x16, x19, x20, x21, x22, x23, x24, x25, x26, x27, x28, z29, x30, x33, z45, z46, x52, x53, x61, x62, x63, x65, x66, f1, f2, f3, q4, q5, q6, q7, f8, q9, q10, f11, m12_0, m12_1, m13_0, m13_1, m14_0, m14_1, m15_0, m15_1, f17, q31, f32, z34, z35, f36, f37, z38, z39, z40, z41, z42_0, m42_1, z43, z44, z47, z48, f49, f50, f51, q54, q55, q56, f57, q58, f59, f60, f64, rfl, hx16, hx18, hx19, hx21, hx22, hx26, hx28, hz29, hx30, hx33, hz46, hx52, hx53, hx61, hx62, hx63, hx65, hm12_0, hm12_1, hm13_0, hm13_1, hm14_0, hm14_1, hm15_0, hm15_1, hz42_0, hm42_1, hbg, (by assumption), hP1, hD3⟩⟩, hF2⟩
set_option maxHeartbeats 4000000 in
set_option maxRecDepth 100000 in
theorem k_X9_state (l : Launch) (dC : Nat → ClassId) (dI : Nat → Nat → Nat) (sz : Nat) (kI kB kQ : ClassId) (ma : Nat) (MA : Nat → Prop) (tp : Nat) (p0 : Int32) (p1 : Int32) : Met l yX9_state (.code yX9_state cX9_state 5 (some .int) :: VM) ({ frames := 6, cells := 0, slots := 0, locals := 135 }) (va_Pc [.ref ma, .int p0, .int p1] (xB (dC, dI) kI kB kQ (MInv (dC, dI) kI kB ma MA tp) sz)) (va_Qi (fun (r : Int32) (_ : Unit) => True) (fun _ t => MInv (dC, dI) kI kB ma MA tp t.heap) (xA MA sz)) 0 0 (xA MA sz) := by
  refine met_by (fun a s h => ?_)
  obtain ⟨rfl, rfl, hJ, hK⟩ := h
  obtain ⟨ad, x0, x16, x19, x20, x21, x22, x23, x24, x25, x26, x27, x28, x29, x30, x33, x45, x46, x52, x53, x61, x62, x63, x65, x66, f1, f2, f3, q4, q5, q6, q7, f8, q9, q10, f11, m12_0, m12_1, m13_0, m13_1, m14_0, m14_1, m15_0, m15_1, f17, q31, f32, f34, f35, f36, f37, q38, f39, f40, f41, m42_0, m42_1, f43, f44, f47, f48, f49, f50, f51, q54, q55, q56, f57, q58, f59, f60, f64, rfl, hx16, hx18, hx19, hx21, hx22, hx26, hx28, hx29, hx30, hx33, hx46, hx52, hx53, hx61, hx62, hx63, hx65, hm12_0, hm12_1, hm13_0, hm13_1, hm14_0, hm14_1, hm15_0, hm15_1, hm42_0, hm42_1, hbg, hgr, hP, hD⟩ := hJ
  have hKc := mk_K hK
  refine ⟨_, _, _, c_M_state l dC dI _ ad (mck kI kB) x0 x16 tp x19 x20 x21 x22 x23 x24 x25 x26 x27 x28 x29 x30 x33 x45 x46 x52 x53 x61 x62 x63 x65 x66 f1 f2 f3 q4 q5 q6 q7 f8 q9 q10 f11 m12_0 m12_1 m13_0 m13_1 m14_0 m14_1 m15_0 m15_1 f17 q31 f32 f34 f35 f36 f37 q38 f39 f40 f41 m42_0 m42_1 f43 f44 f47 f48 f49 f50 f51 q54 q55 q56 f57 q58 f59 f60 f64 p0 p1 hx16 hx18 hx19 hx21 hx22 hx26 hx28 hx29 hx30 hx33 hx46 hx52 hx53 hx61 hx62 hx63 hx65 hm12_0 hm12_1 hm13_0 hm13_1 hm14_0 hm14_1 hm15_0 hm15_1 hm42_0 hm42_1, ⟨rfl, rfl, hP, hKc, hD.weaken (fun _ _ _ _ => trivial)⟩, fun o t hq => ?_, xA_of hD⟩
  obtain ⟨⟨r, u, ho, hw, hB⟩, hF⟩ := hq
  obtain ⟨z35, z36, z49, z50, z51, z0, z46, z52, z53, ⟨hP1, -, hD1⟩, hz46, hz52, hz53⟩ := hB
  have hF2 := xF_of hD hF
  have hD2 := hD1
  have hD3 := vD_fst hD (ws' := _) (mo_fst (ad := ad) (ck := mck kI kB))
  exact ⟨⟨r, (), ho, trivial, ⟨ad, z0, x16, x19, x20, x21, x22, x23, x24, x25, x26, x27, x28, x29, x30, x33, x45, z46, z52, z53, x61, x62, x63, x65, x66, f1, f2, f3, q4, q5, q6, q7, f8, q9, q10, f11, m12_0, m12_1, m13_0, m13_1, m14_0, m14_1, m15_0, m15_1, f17, q31, f32, f34, z35, z36, f37, q38, f39, f40, f41, m42_0, m42_1, f43, f44, f47, f48, z49, z50, z51, q54, q55, q56, f57, q58, f59, f60, f64, rfl, hx16, hx18, hx19, hx21, hx22, hx26, hx28, hx29, hx30, hx33, hz46, hz52, hz53, hx61, hx62, hx63, hx65, hm12_0, hm12_1, hm13_0, hm13_1, hm14_0, hm14_1, hm15_0, hm15_1, hm42_0, hm42_1, hbg, hgr, hP1, hD3⟩⟩, hF2⟩
set_option maxHeartbeats 4000000 in
set_option maxRecDepth 100000 in
theorem k_X9_bound (l : Launch) (dC : Nat → ClassId) (dI : Nat → Nat → Nat) (sz : Nat) (kI kB kQ : ClassId) (ma : Nat) (MA : Nat → Prop) (tp : Nat) (p0 : Int32) (p1 : Int32) (p2 : Int32) (p3 : Int32) : Met l yX9_bound (.code yX9_bound cX9_bound 6 (some .int) :: VM) ({ frames := 2, cells := 0, slots := 0, locals := 43 }) (va_Pc [.ref ma, .int p0, .int p1, .int p2, .int p3] (xB (dC, dI) kI kB kQ (MInv (dC, dI) kI kB ma MA tp) sz)) (va_Qi (fun (r : Int32) (_ : Unit) => True) (fun _ t => MInv (dC, dI) kI kB ma MA tp t.heap) (xA MA sz)) 0 0 (xA MA sz) := by
  refine met_by (fun a s h => ?_)
  obtain ⟨rfl, rfl, hJ, hK⟩ := h
  obtain ⟨ad, x0, x16, x19, x20, x21, x22, x23, x24, x25, x26, x27, x28, x29, x30, x33, x45, x46, x52, x53, x61, x62, x63, x65, x66, f1, f2, f3, q4, q5, q6, q7, f8, q9, q10, f11, m12_0, m12_1, m13_0, m13_1, m14_0, m14_1, m15_0, m15_1, f17, q31, f32, f34, f35, f36, f37, q38, f39, f40, f41, m42_0, m42_1, f43, f44, f47, f48, f49, f50, f51, q54, q55, q56, f57, q58, f59, f60, f64, rfl, hx16, hx18, hx19, hx21, hx22, hx26, hx28, hx29, hx30, hx33, hx46, hx52, hx53, hx61, hx62, hx63, hx65, hm12_0, hm12_1, hm13_0, hm13_1, hm14_0, hm14_1, hm15_0, hm15_1, hm42_0, hm42_1, hbg, hgr, hP, hD⟩ := hJ
  have hKc := mk_K hK
  refine ⟨_, _, _, c_M_bound l dC dI _ ad (mck kI kB) x0 x16 tp x19 x20 x21 x22 x23 x24 x25 x26 x27 x28 x29 x30 x33 x45 x46 x52 x53 x61 x62 x63 x65 x66 f1 f2 f3 q4 q5 q6 q7 f8 q9 q10 f11 m12_0 m12_1 m13_0 m13_1 m14_0 m14_1 m15_0 m15_1 f17 q31 f32 f34 f35 f36 f37 q38 f39 f40 f41 m42_0 m42_1 f43 f44 f47 f48 f49 f50 f51 q54 q55 q56 f57 q58 f59 f60 f64 p0 p1 p2 p3 hx16 hx18 hx19 hx21 hx22 hx26 hx28 hx29 hx30 hx33 hx46 hx52 hx53 hx61 hx62 hx63 hx65 hm12_0 hm12_1 hm13_0 hm13_1 hm14_0 hm14_1 hm15_0 hm15_1 hm42_0 hm42_1, ⟨rfl, rfl, hP, hKc, hD.weaken (fun _ _ _ _ => trivial)⟩, fun o t hq => ?_, xA_of hD⟩
  obtain ⟨⟨r, u, ho, hw, hB⟩, hF⟩ := hq
  obtain ⟨z0, z46, ⟨hP1, -, hD1⟩, hz46⟩ := hB
  have hF2 := xF_of hD hF
  have hD2 := hD1
  have hD3 := vD_fst hD (ws' := _) (mo_fst (ad := ad) (ck := mck kI kB))
  exact ⟨⟨r, (), ho, trivial, ⟨ad, z0, x16, x19, x20, x21, x22, x23, x24, x25, x26, x27, x28, x29, x30, x33, x45, z46, x52, x53, x61, x62, x63, x65, x66, f1, f2, f3, q4, q5, q6, q7, f8, q9, q10, f11, m12_0, m12_1, m13_0, m13_1, m14_0, m14_1, m15_0, m15_1, f17, q31, f32, f34, f35, f36, f37, q38, f39, f40, f41, m42_0, m42_1, f43, f44, f47, f48, f49, f50, f51, q54, q55, q56, f57, q58, f59, f60, f64, rfl, hx16, hx18, hx19, hx21, hx22, hx26, hx28, hx29, hx30, hx33, hz46, hx52, hx53, hx61, hx62, hx63, hx65, hm12_0, hm12_1, hm13_0, hm13_1, hm14_0, hm14_1, hm15_0, hm15_1, hm42_0, hm42_1, hbg, hgr, hP1, hD3⟩⟩, hF2⟩
set_option maxHeartbeats 4000000 in
set_option maxRecDepth 100000 in
theorem k_X9_within (l : Launch) (dC : Nat → ClassId) (dI : Nat → Nat → Nat) (sz : Nat) (kI kB kQ : ClassId) (ma : Nat) (MA : Nat → Prop) (tp : Nat) (p0 : Int32) (p1 : Int32) : Met l yX9_within (.code yX9_within cX9_within 3 (some .int) :: VM) ({ frames := 2, cells := 0, slots := 0, locals := 43 }) (va_Pc [.ref ma, .int p0, .int p1] (xB (dC, dI) kI kB kQ (MInv (dC, dI) kI kB ma MA tp) sz)) (va_Qi (fun (r : Int32) (_ : Unit) => True) (fun _ t => MInv (dC, dI) kI kB ma MA tp t.heap) (xA MA sz)) 0 0 (xA MA sz) := by
  refine met_by (fun a s h => ?_)
  obtain ⟨rfl, rfl, hJ, hK⟩ := h
  obtain ⟨ad, x0, x16, x19, x20, x21, x22, x23, x24, x25, x26, x27, x28, x29, x30, x33, x45, x46, x52, x53, x61, x62, x63, x65, x66, f1, f2, f3, q4, q5, q6, q7, f8, q9, q10, f11, m12_0, m12_1, m13_0, m13_1, m14_0, m14_1, m15_0, m15_1, f17, q31, f32, f34, f35, f36, f37, q38, f39, f40, f41, m42_0, m42_1, f43, f44, f47, f48, f49, f50, f51, q54, q55, q56, f57, q58, f59, f60, f64, rfl, hx16, hx18, hx19, hx21, hx22, hx26, hx28, hx29, hx30, hx33, hx46, hx52, hx53, hx61, hx62, hx63, hx65, hm12_0, hm12_1, hm13_0, hm13_1, hm14_0, hm14_1, hm15_0, hm15_1, hm42_0, hm42_1, hbg, hgr, hP, hD⟩ := hJ
  have hKc := mk_K hK
  refine ⟨_, _, _, c_M_within l dC dI _ ad (mck kI kB) x0 x16 tp x19 x20 x21 x22 x23 x24 x25 x26 x27 x28 x29 x30 x33 x45 x46 x52 x53 x61 x62 x63 x65 x66 f1 f2 f3 q4 q5 q6 q7 f8 q9 q10 f11 m12_0 m12_1 m13_0 m13_1 m14_0 m14_1 m15_0 m15_1 f17 q31 f32 f34 f35 f36 f37 q38 f39 f40 f41 m42_0 m42_1 f43 f44 f47 f48 f49 f50 f51 q54 q55 q56 f57 q58 f59 f60 f64 p0 p1 hx16 hx18 hx19 hx21 hx22 hx26 hx28 hx29 hx30 hx33 hx46 hx52 hx53 hx61 hx62 hx63 hx65 hm12_0 hm12_1 hm13_0 hm13_1 hm14_0 hm14_1 hm15_0 hm15_1 hm42_0 hm42_1, ⟨rfl, rfl, hP, hKc, hD.weaken (fun _ _ _ _ => trivial)⟩, fun o t hq => ?_, xA_of hD⟩
  obtain ⟨⟨r, u, ho, hw, hB⟩, hF⟩ := hq
  obtain ⟨z35, z0, z46, ⟨hP1, -, hD1⟩, hz46⟩ := hB
  have hF2 := xF_of hD hF
  have hD2 := hD1
  have hD3 := vD_fst hD (ws' := _) (mo_fst (ad := ad) (ck := mck kI kB))
  exact ⟨⟨r, (), ho, trivial, ⟨ad, z0, x16, x19, x20, x21, x22, x23, x24, x25, x26, x27, x28, x29, x30, x33, x45, z46, x52, x53, x61, x62, x63, x65, x66, f1, f2, f3, q4, q5, q6, q7, f8, q9, q10, f11, m12_0, m12_1, m13_0, m13_1, m14_0, m14_1, m15_0, m15_1, f17, q31, f32, f34, z35, f36, f37, q38, f39, f40, f41, m42_0, m42_1, f43, f44, f47, f48, f49, f50, f51, q54, q55, q56, f57, q58, f59, f60, f64, rfl, hx16, hx18, hx19, hx21, hx22, hx26, hx28, hx29, hx30, hx33, hz46, hx52, hx53, hx61, hx62, hx63, hx65, hm12_0, hm12_1, hm13_0, hm13_1, hm14_0, hm14_1, hm15_0, hm15_1, hm42_0, hm42_1, hbg, hgr, hP1, hD3⟩⟩, hF2⟩
set_option maxHeartbeats 4000000 in
set_option maxRecDepth 100000 in
theorem k_X9_has (l : Launch) (dC : Nat → ClassId) (dI : Nat → Nat → Nat) (sz : Nat) (kI kB kQ : ClassId) (ma : Nat) (MA : Nat → Prop) (tp : Nat) (p0 : Int32) (p1 : Int32) (p2 : Int32) (p3 : Int32) : Met l yX9_has (.code yX9_has cX9_has 5 (some .int) :: VM) ({ frames := 2, cells := 0, slots := 0, locals := 54 }) (va_Pc [.ref ma, .int p0, .int p1, .int p2, .int p3] (xB (dC, dI) kI kB kQ (MInv (dC, dI) kI kB ma MA tp) sz)) (va_Qi (fun (r : Int32) (_ : Unit) => True) (fun _ t => MInv (dC, dI) kI kB ma MA tp t.heap) (xA MA sz)) 0 0 (xA MA sz) := by
  refine met_by (fun a s h => ?_)
  obtain ⟨rfl, rfl, hJ, hK⟩ := h
  obtain ⟨ad, x0, x16, x19, x20, x21, x22, x23, x24, x25, x26, x27, x28, x29, x30, x33, x45, x46, x52, x53, x61, x62, x63, x65, x66, f1, f2, f3, q4, q5, q6, q7, f8, q9, q10, f11, m12_0, m12_1, m13_0, m13_1, m14_0, m14_1, m15_0, m15_1, f17, q31, f32, f34, f35, f36, f37, q38, f39, f40, f41, m42_0, m42_1, f43, f44, f47, f48, f49, f50, f51, q54, q55, q56, f57, q58, f59, f60, f64, rfl, hx16, hx18, hx19, hx21, hx22, hx26, hx28, hx29, hx30, hx33, hx46, hx52, hx53, hx61, hx62, hx63, hx65, hm12_0, hm12_1, hm13_0, hm13_1, hm14_0, hm14_1, hm15_0, hm15_1, hm42_0, hm42_1, hbg, hgr, hP, hD⟩ := hJ
  have hKc := mk_K hK
  refine ⟨_, _, _, c_M_has l dC dI _ ad (mck kI kB) x0 x16 tp x19 x20 x21 x22 x23 x24 x25 x26 x27 x28 x29 x30 x33 x45 x46 x52 x53 x61 x62 x63 x65 x66 f1 f2 f3 q4 q5 q6 q7 f8 q9 q10 f11 m12_0 m12_1 m13_0 m13_1 m14_0 m14_1 m15_0 m15_1 f17 q31 f32 f34 f35 f36 f37 q38 f39 f40 f41 m42_0 m42_1 f43 f44 f47 f48 f49 f50 f51 q54 q55 q56 f57 q58 f59 f60 f64 p0 p1 p2 p3 hx16 hx18 hx19 hx21 hx22 hx26 hx28 hx29 hx30 hx33 hx46 hx52 hx53 hx61 hx62 hx63 hx65 hm12_0 hm12_1 hm13_0 hm13_1 hm14_0 hm14_1 hm15_0 hm15_1 hm42_0 hm42_1, ⟨rfl, rfl, hP, hKc, hD.weaken (fun _ _ _ _ => trivial)⟩, fun o t hq => ?_, xA_of hD⟩
  obtain ⟨⟨r, u, ho, hw, hB⟩, hF⟩ := hq
  obtain ⟨z0, z46, ⟨hP1, -, hD1⟩, hz46⟩ := hB
  have hF2 := xF_of hD hF
  have hD2 := hD1
  have hD3 := vD_fst hD (ws' := _) (mo_fst (ad := ad) (ck := mck kI kB))
  exact ⟨⟨r, (), ho, trivial, ⟨ad, z0, x16, x19, x20, x21, x22, x23, x24, x25, x26, x27, x28, x29, x30, x33, x45, z46, x52, x53, x61, x62, x63, x65, x66, f1, f2, f3, q4, q5, q6, q7, f8, q9, q10, f11, m12_0, m12_1, m13_0, m13_1, m14_0, m14_1, m15_0, m15_1, f17, q31, f32, f34, f35, f36, f37, q38, f39, f40, f41, m42_0, m42_1, f43, f44, f47, f48, f49, f50, f51, q54, q55, q56, f57, q58, f59, f60, f64, rfl, hx16, hx18, hx19, hx21, hx22, hx26, hx28, hx29, hx30, hx33, hz46, hx52, hx53, hx61, hx62, hx63, hx65, hm12_0, hm12_1, hm13_0, hm13_1, hm14_0, hm14_1, hm15_0, hm15_1, hm42_0, hm42_1, hbg, hgr, hP1, hD3⟩⟩, hF2⟩
set_option maxHeartbeats 4000000 in
set_option maxRecDepth 100000 in
theorem k_X9_first (l : Launch) (dC : Nat → ClassId) (dI : Nat → Nat → Nat) (sz : Nat) (kI kB kQ : ClassId) (ma : Nat) (MA : Nat → Prop) (tp : Nat) (p0 : Int32) : Met l yX9_first (.code yX9_first cX9_first 3 (some .int) :: VM) ({ frames := 2, cells := 0, slots := 0, locals := 43 }) (va_Pc [.ref ma, .int p0] (xB (dC, dI) kI kB kQ (MInv (dC, dI) kI kB ma MA tp) sz)) (va_Qi (fun (r : Int32) (_ : Unit) => True) (fun _ t => MInv (dC, dI) kI kB ma MA tp t.heap) (xA MA sz)) 0 0 (xA MA sz) := by
  refine met_by (fun a s h => ?_)
  obtain ⟨rfl, rfl, hJ, hK⟩ := h
  obtain ⟨ad, x0, x16, x19, x20, x21, x22, x23, x24, x25, x26, x27, x28, x29, x30, x33, x45, x46, x52, x53, x61, x62, x63, x65, x66, f1, f2, f3, q4, q5, q6, q7, f8, q9, q10, f11, m12_0, m12_1, m13_0, m13_1, m14_0, m14_1, m15_0, m15_1, f17, q31, f32, f34, f35, f36, f37, q38, f39, f40, f41, m42_0, m42_1, f43, f44, f47, f48, f49, f50, f51, q54, q55, q56, f57, q58, f59, f60, f64, rfl, hx16, hx18, hx19, hx21, hx22, hx26, hx28, hx29, hx30, hx33, hx46, hx52, hx53, hx61, hx62, hx63, hx65, hm12_0, hm12_1, hm13_0, hm13_1, hm14_0, hm14_1, hm15_0, hm15_1, hm42_0, hm42_1, hbg, hgr, hP, hD⟩ := hJ
  have hKc := mk_K hK
  refine ⟨_, _, _, c_M_first l dC dI _ ad (mck kI kB) x0 x16 tp x19 x20 x21 x22 x23 x24 x25 x26 x27 x28 x29 x30 x33 x45 x46 x52 x53 x61 x62 x63 x65 x66 f1 f2 f3 q4 q5 q6 q7 f8 q9 q10 f11 m12_0 m12_1 m13_0 m13_1 m14_0 m14_1 m15_0 m15_1 f17 q31 f32 f34 f35 f36 f37 q38 f39 f40 f41 m42_0 m42_1 f43 f44 f47 f48 f49 f50 f51 q54 q55 q56 f57 q58 f59 f60 f64 p0 hx16 hx18 hx19 hx21 hx22 hx26 hx28 hx29 hx30 hx33 hx46 hx52 hx53 hx61 hx62 hx63 hx65 hm12_0 hm12_1 hm13_0 hm13_1 hm14_0 hm14_1 hm15_0 hm15_1 hm42_0 hm42_1, ⟨rfl, rfl, hP, hKc, hD.weaken (fun _ _ _ _ => trivial)⟩, fun o t hq => ?_, xA_of hD⟩
  obtain ⟨⟨r, u, ho, hw, hB⟩, hF⟩ := hq
  obtain ⟨z0, ⟨hP1, -, hD1⟩⟩ := hB
  have hF2 := xF_of hD hF
  have hD2 := hD1
  have hD3 := vD_fst hD (ws' := _) (mo_fst (ad := ad) (ck := mck kI kB))
  exact ⟨⟨r, (), ho, trivial, ⟨ad, z0, x16, x19, x20, x21, x22, x23, x24, x25, x26, x27, x28, x29, x30, x33, x45, x46, x52, x53, x61, x62, x63, x65, x66, f1, f2, f3, q4, q5, q6, q7, f8, q9, q10, f11, m12_0, m12_1, m13_0, m13_1, m14_0, m14_1, m15_0, m15_1, f17, q31, f32, f34, f35, f36, f37, q38, f39, f40, f41, m42_0, m42_1, f43, f44, f47, f48, f49, f50, f51, q54, q55, q56, f57, q58, f59, f60, f64, rfl, hx16, hx18, hx19, hx21, hx22, hx26, hx28, hx29, hx30, hx33, hx46, hx52, hx53, hx61, hx62, hx63, hx65, hm12_0, hm12_1, hm13_0, hm13_1, hm14_0, hm14_1, hm15_0, hm15_1, hm42_0, hm42_1, hbg, hgr, hP1, hD3⟩⟩, hF2⟩
set_option maxHeartbeats 4000000 in
set_option maxRecDepth 100000 in
theorem k_X9_reached (l : Launch) (dC : Nat → ClassId) (dI : Nat → Nat → Nat) (sz : Nat) (kI kB kQ : ClassId) (ma : Nat) (MA : Nat → Prop) (tp : Nat) : Met l yX9_reached (.code yX9_reached cX9_reached 3 (some .int) :: VM) ({ frames := 0, cells := 0, slots := 0, locals := 0 }) (va_Pc [.ref ma] (xB (dC, dI) kI kB kQ (MInv (dC, dI) kI kB ma MA tp) sz)) (va_Qi (fun (r : Int32) (_ : Unit) => True) (fun _ t => MInv (dC, dI) kI kB ma MA tp t.heap) (xA MA sz)) 0 0 (xA MA sz) := by
  refine met_by (fun a s h => ?_)
  obtain ⟨rfl, rfl, hJ, hK⟩ := h
  obtain ⟨ad, x0, x16, x19, x20, x21, x22, x23, x24, x25, x26, x27, x28, x29, x30, x33, x45, x46, x52, x53, x61, x62, x63, x65, x66, f1, f2, f3, q4, q5, q6, q7, f8, q9, q10, f11, m12_0, m12_1, m13_0, m13_1, m14_0, m14_1, m15_0, m15_1, f17, q31, f32, f34, f35, f36, f37, q38, f39, f40, f41, m42_0, m42_1, f43, f44, f47, f48, f49, f50, f51, q54, q55, q56, f57, q58, f59, f60, f64, rfl, hx16, hx18, hx19, hx21, hx22, hx26, hx28, hx29, hx30, hx33, hx46, hx52, hx53, hx61, hx62, hx63, hx65, hm12_0, hm12_1, hm13_0, hm13_1, hm14_0, hm14_1, hm15_0, hm15_1, hm42_0, hm42_1, hbg, hgr, hP, hD⟩ := hJ
  have hKc := mk_K hK
  refine ⟨_, _, _, c_M_reached l dC dI _ ad (mck kI kB) x0 x16 tp x19 x20 x21 x22 x23 x24 x25 x26 x27 x28 x29 x30 x33 x45 x46 x52 x53 x61 x62 x63 x65 x66 f1 f2 f3 q4 q5 q6 q7 f8 q9 q10 f11 m12_0 m12_1 m13_0 m13_1 m14_0 m14_1 m15_0 m15_1 f17 q31 f32 f34 f35 f36 f37 q38 f39 f40 f41 m42_0 m42_1 f43 f44 f47 f48 f49 f50 f51 q54 q55 q56 f57 q58 f59 f60 f64 hx16 hx18 hx19 hx21 hx22 hx26 hx28 hx29 hx30 hx33 hx46 hx52 hx53 hx61 hx62 hx63 hx65 hm12_0 hm12_1 hm13_0 hm13_1 hm14_0 hm14_1 hm15_0 hm15_1 hm42_0 hm42_1, ⟨rfl, rfl, hP, hKc, hD.weaken (fun _ _ _ _ => trivial)⟩, fun o t hq => ?_, xA_of hD⟩
  obtain ⟨⟨r, u, ho, hw, hB⟩, hF⟩ := hq
  obtain ⟨z0, ⟨hP1, -, hD1⟩⟩ := hB
  have hF2 := xF_of hD hF
  have hD2 := hD1
  have hD3 := vD_fst hD (ws' := _) (mo_fst (ad := ad) (ck := mck kI kB))
  exact ⟨⟨r, (), ho, trivial, ⟨ad, z0, x16, x19, x20, x21, x22, x23, x24, x25, x26, x27, x28, x29, x30, x33, x45, x46, x52, x53, x61, x62, x63, x65, x66, f1, f2, f3, q4, q5, q6, q7, f8, q9, q10, f11, m12_0, m12_1, m13_0, m13_1, m14_0, m14_1, m15_0, m15_1, f17, q31, f32, f34, f35, f36, f37, q38, f39, f40, f41, m42_0, m42_1, f43, f44, f47, f48, f49, f50, f51, q54, q55, q56, f57, q58, f59, f60, f64, rfl, hx16, hx18, hx19, hx21, hx22, hx26, hx28, hx29, hx30, hx33, hx46, hx52, hx53, hx61, hx62, hx63, hx65, hm12_0, hm12_1, hm13_0, hm13_1, hm14_0, hm14_1, hm15_0, hm15_1, hm42_0, hm42_1, hbg, hgr, hP1, hD3⟩⟩, hF2⟩
set_option maxHeartbeats 4000000 in
set_option maxRecDepth 100000 in
theorem k_X9_taken (l : Launch) (dC : Nat → ClassId) (dI : Nat → Nat → Nat) (sz : Nat) (kI kB kQ : ClassId) (ma : Nat) (MA : Nat → Prop) (tp : Nat) : Met l yX9_taken (.code yX9_taken cX9_taken 1 (some .int) :: VM) ({ frames := 0, cells := 0, slots := 0, locals := 0 }) (va_Pc [.ref ma] (xB (dC, dI) kI kB kQ (MInv (dC, dI) kI kB ma MA tp) sz)) (va_Qi (fun (r : Int32) (_ : Unit) => True) (fun _ t => MInv (dC, dI) kI kB ma MA tp t.heap) (xA MA sz)) 0 0 (xA MA sz) := by
  refine met_by (fun a s h => ?_)
  obtain ⟨rfl, rfl, hJ, hK⟩ := h
  obtain ⟨ad, x0, x16, x19, x20, x21, x22, x23, x24, x25, x26, x27, x28, x29, x30, x33, x45, x46, x52, x53, x61, x62, x63, x65, x66, f1, f2, f3, q4, q5, q6, q7, f8, q9, q10, f11, m12_0, m12_1, m13_0, m13_1, m14_0, m14_1, m15_0, m15_1, f17, q31, f32, f34, f35, f36, f37, q38, f39, f40, f41, m42_0, m42_1, f43, f44, f47, f48, f49, f50, f51, q54, q55, q56, f57, q58, f59, f60, f64, rfl, hx16, hx18, hx19, hx21, hx22, hx26, hx28, hx29, hx30, hx33, hx46, hx52, hx53, hx61, hx62, hx63, hx65, hm12_0, hm12_1, hm13_0, hm13_1, hm14_0, hm14_1, hm15_0, hm15_1, hm42_0, hm42_1, hbg, hgr, hP, hD⟩ := hJ
  have hKc := mk_K hK
  refine ⟨_, _, _, c_M_taken l dC dI _ ad (mck kI kB) x0 x16 tp x19 x20 x21 x22 x23 x24 x25 x26 x27 x28 x29 x30 x33 x45 x46 x52 x53 x61 x62 x63 x65 x66 f1 f2 f3 q4 q5 q6 q7 f8 q9 q10 f11 m12_0 m12_1 m13_0 m13_1 m14_0 m14_1 m15_0 m15_1 f17 q31 f32 f34 f35 f36 f37 q38 f39 f40 f41 m42_0 m42_1 f43 f44 f47 f48 f49 f50 f51 q54 q55 q56 f57 q58 f59 f60 f64 hx16 hx18 hx19 hx21 hx22 hx26 hx28 hx29 hx30 hx33 hx46 hx52 hx53 hx61 hx62 hx63 hx65 hm12_0 hm12_1 hm13_0 hm13_1 hm14_0 hm14_1 hm15_0 hm15_1 hm42_0 hm42_1, ⟨rfl, rfl, hP, hKc, hD.weaken (fun _ _ _ _ => trivial)⟩, fun o t hq => ?_, xA_of hD⟩
  obtain ⟨⟨r, u, ho, hw, hB⟩, hF⟩ := hq
  obtain ⟨z0, ⟨hP1, -, hD1⟩⟩ := hB
  have hF2 := xF_of hD hF
  have hD2 := hD1
  have hD3 := vD_fst hD (ws' := _) (mo_fst (ad := ad) (ck := mck kI kB))
  exact ⟨⟨r, (), ho, trivial, ⟨ad, z0, x16, x19, x20, x21, x22, x23, x24, x25, x26, x27, x28, x29, x30, x33, x45, x46, x52, x53, x61, x62, x63, x65, x66, f1, f2, f3, q4, q5, q6, q7, f8, q9, q10, f11, m12_0, m12_1, m13_0, m13_1, m14_0, m14_1, m15_0, m15_1, f17, q31, f32, f34, f35, f36, f37, q38, f39, f40, f41, m42_0, m42_1, f43, f44, f47, f48, f49, f50, f51, q54, q55, q56, f57, q58, f59, f60, f64, rfl, hx16, hx18, hx19, hx21, hx22, hx26, hx28, hx29, hx30, hx33, hx46, hx52, hx53, hx61, hx62, hx63, hx65, hm12_0, hm12_1, hm13_0, hm13_1, hm14_0, hm14_1, hm15_0, hm15_1, hm42_0, hm42_1, hbg, hgr, hP1, hD3⟩⟩, hF2⟩
set_option maxHeartbeats 4000000 in
set_option maxRecDepth 100000 in
theorem k_X9_overlap (l : Launch) (dC : Nat → ClassId) (dI : Nat → Nat → Nat) (sz : Nat) (kI kB kQ : ClassId) (ma : Nat) (MA : Nat → Prop) (tp : Nat) (p0 : Int32) (p1 : Int32) : Met l yX9_overlap (.code yX9_overlap cX9_overlap 4 (some .int) :: VM) ({ frames := 2, cells := 0, slots := 0, locals := 45 }) (va_Pc [.ref ma, .int p0, .int p1] (xB (dC, dI) kI kB kQ (MInv (dC, dI) kI kB ma MA tp) sz)) (va_Qi (fun (r : Int32) (_ : Unit) => True) (fun _ t => MInv (dC, dI) kI kB ma MA tp t.heap) (xA MA sz)) 0 0 (xA MA sz) := by
  refine met_by (fun a s h => ?_)
  obtain ⟨rfl, rfl, hJ, hK⟩ := h
  obtain ⟨ad, x0, x16, x19, x20, x21, x22, x23, x24, x25, x26, x27, x28, x29, x30, x33, x45, x46, x52, x53, x61, x62, x63, x65, x66, f1, f2, f3, q4, q5, q6, q7, f8, q9, q10, f11, m12_0, m12_1, m13_0, m13_1, m14_0, m14_1, m15_0, m15_1, f17, q31, f32, f34, f35, f36, f37, q38, f39, f40, f41, m42_0, m42_1, f43, f44, f47, f48, f49, f50, f51, q54, q55, q56, f57, q58, f59, f60, f64, rfl, hx16, hx18, hx19, hx21, hx22, hx26, hx28, hx29, hx30, hx33, hx46, hx52, hx53, hx61, hx62, hx63, hx65, hm12_0, hm12_1, hm13_0, hm13_1, hm14_0, hm14_1, hm15_0, hm15_1, hm42_0, hm42_1, hbg, hgr, hP, hD⟩ := hJ
  have hKc := mk_K hK
  refine ⟨_, _, _, c_M_overlap l dC dI _ ad (mck kI kB) x0 x16 tp x19 x20 x21 x22 x23 x24 x25 x26 x27 x28 x29 x30 x33 x45 x46 x52 x53 x61 x62 x63 x65 x66 f1 f2 f3 q4 q5 q6 q7 f8 q9 q10 f11 m12_0 m12_1 m13_0 m13_1 m14_0 m14_1 m15_0 m15_1 f17 q31 f32 f34 f35 f36 f37 q38 f39 f40 f41 m42_0 m42_1 f43 f44 f47 f48 f49 f50 f51 q54 q55 q56 f57 q58 f59 f60 f64 p0 p1 hx16 hx18 hx19 hx21 hx22 hx26 hx28 hx29 hx30 hx33 hx46 hx52 hx53 hx61 hx62 hx63 hx65 hm12_0 hm12_1 hm13_0 hm13_1 hm14_0 hm14_1 hm15_0 hm15_1 hm42_0 hm42_1, ⟨rfl, rfl, hP, hKc, hD.weaken (fun _ _ _ _ => trivial)⟩, fun o t hq => ?_, xA_of hD⟩
  obtain ⟨⟨r, u, ho, hw, hB⟩, hF⟩ := hq
  obtain ⟨z35, z0, z46, ⟨hP1, -, hD1⟩, hz46⟩ := hB
  have hF2 := xF_of hD hF
  have hD2 := hD1
  have hD3 := vD_fst hD (ws' := _) (mo_fst (ad := ad) (ck := mck kI kB))
  exact ⟨⟨r, (), ho, trivial, ⟨ad, z0, x16, x19, x20, x21, x22, x23, x24, x25, x26, x27, x28, x29, x30, x33, x45, z46, x52, x53, x61, x62, x63, x65, x66, f1, f2, f3, q4, q5, q6, q7, f8, q9, q10, f11, m12_0, m12_1, m13_0, m13_1, m14_0, m14_1, m15_0, m15_1, f17, q31, f32, f34, z35, f36, f37, q38, f39, f40, f41, m42_0, m42_1, f43, f44, f47, f48, f49, f50, f51, q54, q55, q56, f57, q58, f59, f60, f64, rfl, hx16, hx18, hx19, hx21, hx22, hx26, hx28, hx29, hx30, hx33, hz46, hx52, hx53, hx61, hx62, hx63, hx65, hm12_0, hm12_1, hm13_0, hm13_1, hm14_0, hm14_1, hm15_0, hm15_1, hm42_0, hm42_1, hbg, hgr, hP1, hD3⟩⟩, hF2⟩
set_option maxHeartbeats 4000000 in
set_option maxRecDepth 100000 in
theorem k_X9_covered (l : Launch) (dC : Nat → ClassId) (dI : Nat → Nat → Nat) (sz : Nat) (kI kB kQ : ClassId) (ma : Nat) (MA : Nat → Prop) (tp : Nat) (p0 : Int32) : Met l yX9_covered (.code yX9_covered cX9_covered 3 (some .int) :: VM) ({ frames := 4, cells := 0, slots := 0, locals := 89 }) (va_Pc [.ref ma, .int p0] (xB (dC, dI) kI kB kQ (MInv (dC, dI) kI kB ma MA tp) sz)) (va_Qi (fun (r : Int32) (_ : Unit) => True) (fun _ t => MInv (dC, dI) kI kB ma MA tp t.heap) (xA MA sz)) 0 0 (xA MA sz) := by
  refine met_by (fun a s h => ?_)
  obtain ⟨rfl, rfl, hJ, hK⟩ := h
  obtain ⟨ad, x0, x16, x19, x20, x21, x22, x23, x24, x25, x26, x27, x28, x29, x30, x33, x45, x46, x52, x53, x61, x62, x63, x65, x66, f1, f2, f3, q4, q5, q6, q7, f8, q9, q10, f11, m12_0, m12_1, m13_0, m13_1, m14_0, m14_1, m15_0, m15_1, f17, q31, f32, f34, f35, f36, f37, q38, f39, f40, f41, m42_0, m42_1, f43, f44, f47, f48, f49, f50, f51, q54, q55, q56, f57, q58, f59, f60, f64, rfl, hx16, hx18, hx19, hx21, hx22, hx26, hx28, hx29, hx30, hx33, hx46, hx52, hx53, hx61, hx62, hx63, hx65, hm12_0, hm12_1, hm13_0, hm13_1, hm14_0, hm14_1, hm15_0, hm15_1, hm42_0, hm42_1, hbg, hgr, hP, hD⟩ := hJ
  have hKc := mk_K hK
  refine ⟨_, _, _, c_M_covered l dC dI _ ad (mck kI kB) x0 x16 tp x19 x20 x21 x22 x23 x24 x25 x26 x27 x28 x29 x30 x33 x45 x46 x52 x53 x61 x62 x63 x65 x66 f1 f2 f3 q4 q5 q6 q7 f8 q9 q10 f11 m12_0 m12_1 m13_0 m13_1 m14_0 m14_1 m15_0 m15_1 f17 q31 f32 f34 f35 f36 f37 q38 f39 f40 f41 m42_0 m42_1 f43 f44 f47 f48 f49 f50 f51 q54 q55 q56 f57 q58 f59 f60 f64 p0 hx16 hx18 hx19 hx21 hx22 hx26 hx28 hx29 hx30 hx33 hx46 hx52 hx53 hx61 hx62 hx63 hx65 hm12_0 hm12_1 hm13_0 hm13_1 hm14_0 hm14_1 hm15_0 hm15_1 hm42_0 hm42_1, ⟨rfl, rfl, hP, hKc, hD.weaken (fun _ _ _ _ => trivial)⟩, fun o t hq => ?_, xA_of hD⟩
  obtain ⟨⟨r, u, ho, hw, hB⟩, hF⟩ := hq
  obtain ⟨z35, z36, z49, z50, z51, z0, z46, z52, z53, ⟨hP1, -, hD1⟩, hz46, hz52, hz53⟩ := hB
  have hF2 := xF_of hD hF
  have hD2 := hD1
  have hD3 := vD_fst hD (ws' := _) (mo_fst (ad := ad) (ck := mck kI kB))
  exact ⟨⟨r, (), ho, trivial, ⟨ad, z0, x16, x19, x20, x21, x22, x23, x24, x25, x26, x27, x28, x29, x30, x33, x45, z46, z52, z53, x61, x62, x63, x65, x66, f1, f2, f3, q4, q5, q6, q7, f8, q9, q10, f11, m12_0, m12_1, m13_0, m13_1, m14_0, m14_1, m15_0, m15_1, f17, q31, f32, f34, z35, z36, f37, q38, f39, f40, f41, m42_0, m42_1, f43, f44, f47, f48, z49, z50, z51, q54, q55, q56, f57, q58, f59, f60, f64, rfl, hx16, hx18, hx19, hx21, hx22, hx26, hx28, hx29, hx30, hx33, hz46, hz52, hz53, hx61, hx62, hx63, hx65, hm12_0, hm12_1, hm13_0, hm13_1, hm14_0, hm14_1, hm15_0, hm15_1, hm42_0, hm42_1, hbg, hgr, hP1, hD3⟩⟩, hF2⟩
set_option maxHeartbeats 4000000 in
set_option maxRecDepth 100000 in
theorem k_X9_points (l : Launch) (dC : Nat → ClassId) (dI : Nat → Nat → Nat) (sz : Nat) (kI kB kQ : ClassId) (ma : Nat) (MA : Nat → Prop) (tp : Nat) (p0 : Int32) : Met l yX9_points (.code yX9_points cX9_points 6 (some .int) :: VM) ({ frames := 2, cells := 0, slots := 0, locals := 54 }) (va_Pc [.ref ma, .int p0] (xB (dC, dI) kI kB kQ (MInv (dC, dI) kI kB ma MA tp) sz)) (va_Qi (fun (r : Int32) (_ : Unit) => True) (fun _ t => MInv (dC, dI) kI kB ma MA tp t.heap) (xA MA sz)) 0 0 (xA MA sz) := by
  refine met_by (fun a s h => ?_)
  obtain ⟨rfl, rfl, hJ, hK⟩ := h
  obtain ⟨ad, x0, x16, x19, x20, x21, x22, x23, x24, x25, x26, x27, x28, x29, x30, x33, x45, x46, x52, x53, x61, x62, x63, x65, x66, f1, f2, f3, q4, q5, q6, q7, f8, q9, q10, f11, m12_0, m12_1, m13_0, m13_1, m14_0, m14_1, m15_0, m15_1, f17, q31, f32, f34, f35, f36, f37, q38, f39, f40, f41, m42_0, m42_1, f43, f44, f47, f48, f49, f50, f51, q54, q55, q56, f57, q58, f59, f60, f64, rfl, hx16, hx18, hx19, hx21, hx22, hx26, hx28, hx29, hx30, hx33, hx46, hx52, hx53, hx61, hx62, hx63, hx65, hm12_0, hm12_1, hm13_0, hm13_1, hm14_0, hm14_1, hm15_0, hm15_1, hm42_0, hm42_1, hbg, hgr, hP, hD⟩ := hJ
  have hKc := mk_K hK
  refine ⟨_, _, _, c_M_points l dC dI _ ad (mck kI kB) x0 x16 tp x19 x20 x21 x22 x23 x24 x25 x26 x27 x28 x29 x30 x33 x45 x46 x52 x53 x61 x62 x63 x65 x66 f1 f2 f3 q4 q5 q6 q7 f8 q9 q10 f11 m12_0 m12_1 m13_0 m13_1 m14_0 m14_1 m15_0 m15_1 f17 q31 f32 f34 f35 f36 f37 q38 f39 f40 f41 m42_0 m42_1 f43 f44 f47 f48 f49 f50 f51 q54 q55 q56 f57 q58 f59 f60 f64 p0 hx16 hx18 hx19 hx21 hx22 hx26 hx28 hx29 hx30 hx33 hx46 hx52 hx53 hx61 hx62 hx63 hx65 hm12_0 hm12_1 hm13_0 hm13_1 hm14_0 hm14_1 hm15_0 hm15_1 hm42_0 hm42_1, ⟨rfl, rfl, hP, hKc, hD.weaken (fun _ _ _ _ => trivial)⟩, fun o t hq => ?_, xA_of hD⟩
  obtain ⟨⟨r, u, ho, hw, hB⟩, hF⟩ := hq
  obtain ⟨z0, z46, ⟨hP1, -, hD1⟩, hz46⟩ := hB
  have hF2 := xF_of hD hF
  have hD2 := hD1
  have hD3 := vD_fst hD (ws' := _) (mo_fst (ad := ad) (ck := mck kI kB))
  exact ⟨⟨r, (), ho, trivial, ⟨ad, z0, x16, x19, x20, x21, x22, x23, x24, x25, x26, x27, x28, x29, x30, x33, x45, z46, x52, x53, x61, x62, x63, x65, x66, f1, f2, f3, q4, q5, q6, q7, f8, q9, q10, f11, m12_0, m12_1, m13_0, m13_1, m14_0, m14_1, m15_0, m15_1, f17, q31, f32, f34, f35, f36, f37, q38, f39, f40, f41, m42_0, m42_1, f43, f44, f47, f48, f49, f50, f51, q54, q55, q56, f57, q58, f59, f60, f64, rfl, hx16, hx18, hx19, hx21, hx22, hx26, hx28, hx29, hx30, hx33, hz46, hx52, hx53, hx61, hx62, hx63, hx65, hm12_0, hm12_1, hm13_0, hm13_1, hm14_0, hm14_1, hm15_0, hm15_1, hm42_0, hm42_1, hbg, hgr, hP1, hD3⟩⟩, hF2⟩
set_option maxHeartbeats 4000000 in
set_option maxRecDepth 100000 in
theorem k_X9_rings (l : Launch) (dC : Nat → ClassId) (dI : Nat → Nat → Nat) (sz : Nat) (kI kB kQ : ClassId) (ma : Nat) (MA : Nat → Prop) (tp : Nat) : Met l yX9_rings (.code yX9_rings cX9_rings 3 (some .int) :: VM) ({ frames := 2, cells := 0, slots := 0, locals := 46 }) (va_Pc [.ref ma] (xB (dC, dI) kI kB kQ (MInv (dC, dI) kI kB ma MA tp) sz)) (va_Qi (fun (r : Int32) (_ : Unit) => True) (fun _ t => MInv (dC, dI) kI kB ma MA tp t.heap) (xA MA sz)) 0 0 (xA MA sz) := by
  refine met_by (fun a s h => ?_)
  obtain ⟨rfl, rfl, hJ, hK⟩ := h
  obtain ⟨ad, x0, x16, x19, x20, x21, x22, x23, x24, x25, x26, x27, x28, x29, x30, x33, x45, x46, x52, x53, x61, x62, x63, x65, x66, f1, f2, f3, q4, q5, q6, q7, f8, q9, q10, f11, m12_0, m12_1, m13_0, m13_1, m14_0, m14_1, m15_0, m15_1, f17, q31, f32, f34, f35, f36, f37, q38, f39, f40, f41, m42_0, m42_1, f43, f44, f47, f48, f49, f50, f51, q54, q55, q56, f57, q58, f59, f60, f64, rfl, hx16, hx18, hx19, hx21, hx22, hx26, hx28, hx29, hx30, hx33, hx46, hx52, hx53, hx61, hx62, hx63, hx65, hm12_0, hm12_1, hm13_0, hm13_1, hm14_0, hm14_1, hm15_0, hm15_1, hm42_0, hm42_1, hbg, hgr, hP, hD⟩ := hJ
  have hKc := mk_K hK
  refine ⟨_, _, _, c_M_rings l dC dI _ ad (mck kI kB) x0 x16 tp x19 x20 x21 x22 x23 x24 x25 x26 x27 x28 x29 x30 x33 x45 x46 x52 x53 x61 x62 x63 x65 x66 f1 f2 f3 q4 q5 q6 q7 f8 q9 q10 f11 m12_0 m12_1 m13_0 m13_1 m14_0 m14_1 m15_0 m15_1 f17 q31 f32 f34 f35 f36 f37 q38 f39 f40 f41 m42_0 m42_1 f43 f44 f47 f48 f49 f50 f51 q54 q55 q56 f57 q58 f59 f60 f64 hx16 hx18 hx19 hx21 hx22 hx26 hx28 hx29 hx30 hx33 hx46 hx52 hx53 hx61 hx62 hx63 hx65 hm12_0 hm12_1 hm13_0 hm13_1 hm14_0 hm14_1 hm15_0 hm15_1 hm42_0 hm42_1, ⟨rfl, rfl, hP, hKc, hD.weaken (fun _ _ _ _ => trivial)⟩, fun o t hq => ?_, xA_of hD⟩
  obtain ⟨⟨r, u, ho, hw, hB⟩, hF⟩ := hq
  obtain ⟨z0, ⟨hP1, -, hD1⟩⟩ := hB
  have hF2 := xF_of hD hF
  have hD2 := hD1
  have hD3 := vD_fst hD (ws' := _) (mo_fst (ad := ad) (ck := mck kI kB))
  exact ⟨⟨r, (), ho, trivial, ⟨ad, z0, x16, x19, x20, x21, x22, x23, x24, x25, x26, x27, x28, x29, x30, x33, x45, x46, x52, x53, x61, x62, x63, x65, x66, f1, f2, f3, q4, q5, q6, q7, f8, q9, q10, f11, m12_0, m12_1, m13_0, m13_1, m14_0, m14_1, m15_0, m15_1, f17, q31, f32, f34, f35, f36, f37, q38, f39, f40, f41, m42_0, m42_1, f43, f44, f47, f48, f49, f50, f51, q54, q55, q56, f57, q58, f59, f60, f64, rfl, hx16, hx18, hx19, hx21, hx22, hx26, hx28, hx29, hx30, hx33, hx46, hx52, hx53, hx61, hx62, hx63, hx65, hm12_0, hm12_1, hm13_0, hm13_1, hm14_0, hm14_1, hm15_0, hm15_1, hm42_0, hm42_1, hbg, hgr, hP1, hD3⟩⟩, hF2⟩
set_option maxHeartbeats 4000000 in
set_option maxRecDepth 100000 in
theorem k_X9_from (l : Launch) (dC : Nat → ClassId) (dI : Nat → Nat → Nat) (sz : Nat) (kI kB kQ : ClassId) (ma : Nat) (MA : Nat → Prop) (tp : Nat) (p0 : Int32) (p1 : Int32) (p2 : Int32) (p3 : Int32) (p4 : Int32) : Met l yX9_from (.code yX9_from cX9_from 7 (some .int) :: VM) ({ frames := 7, cells := 0, slots := 0, locals := 171 }) (va_Pc [.ref ma, .int p0, .int p1, .int p2, .int p3, .int p4] (xB (dC, dI) kI kB kQ (MInv (dC, dI) kI kB ma MA tp) sz)) (va_Qi (fun (r : Int32) (_ : Unit) => True) (fun _ t => MInv (dC, dI) kI kB ma MA tp t.heap) (xA MA sz)) 0 0 (xA MA sz) := by
  refine met_by (fun a s h => ?_)
  obtain ⟨rfl, rfl, hJ, hK⟩ := h
  obtain ⟨ad, x0, x16, x19, x20, x21, x22, x23, x24, x25, x26, x27, x28, x29, x30, x33, x45, x46, x52, x53, x61, x62, x63, x65, x66, f1, f2, f3, q4, q5, q6, q7, f8, q9, q10, f11, m12_0, m12_1, m13_0, m13_1, m14_0, m14_1, m15_0, m15_1, f17, q31, f32, f34, f35, f36, f37, q38, f39, f40, f41, m42_0, m42_1, f43, f44, f47, f48, f49, f50, f51, q54, q55, q56, f57, q58, f59, f60, f64, rfl, hx16, hx18, hx19, hx21, hx22, hx26, hx28, hx29, hx30, hx33, hx46, hx52, hx53, hx61, hx62, hx63, hx65, hm12_0, hm12_1, hm13_0, hm13_1, hm14_0, hm14_1, hm15_0, hm15_1, hm42_0, hm42_1, hbg, hgr, hP, hD⟩ := hJ
  have hKc := mk_K hK
  refine ⟨_, _, _, c_M_from l dC dI _ ad (mck kI kB) x0 x16 tp x19 x20 x21 x22 x23 x24 x25 x26 x27 x28 x29 x30 x33 x45 x46 x52 x53 x61 x62 x63 x65 x66 f1 f2 f3 q4 q5 q6 q7 f8 q9 q10 f11 m12_0 m12_1 m13_0 m13_1 m14_0 m14_1 m15_0 m15_1 f17 q31 f32 f34 f35 f36 f37 q38 f39 f40 f41 m42_0 m42_1 f43 f44 f47 f48 f49 f50 f51 q54 q55 q56 f57 q58 f59 f60 f64 p0 p1 p2 p3 p4 hx16 hx18 hx19 hx21 hx22 hx26 hx28 hx29 hx30 hx33 hx46 hx52 hx53 hx61 hx62 hx63 hx65 hm12_0 hm12_1 hm13_0 hm13_1 hm14_0 hm14_1 hm15_0 hm15_1 hm42_0 hm42_1 hbg hgr, ⟨rfl, rfl, hP, hKc, hD.weaken (fun _ _ _ _ => trivial)⟩, fun o t hq => ?_, xA_of hD⟩
  obtain ⟨⟨r, u, ho, hw, hB⟩, hF⟩ := hq
  obtain ⟨z34, z35, z38, z39, z40, z41, z43, z44, z47, z48, z42_1, z0, z46, ⟨hP1, -, hD1⟩, hz42_1, hz46, xh_0⟩ := hB
  have hF2 := xF_of hD hF
  have hD2 := hD1
  have hD3 := vD_fst hD (ws' := _) (mo_fst (ad := ad) (ck := mck kI kB))
  exact ⟨⟨r, (), ho, trivial, ⟨ad, z0, x16, x19, x20, x21, x22, x23, x24, x25, x26, x27, x28, x29, x30, x33, x45, z46, x52, x53, x61, x62, x63, x65, x66, f1, f2, f3, q4, q5, q6, q7, f8, q9, q10, f11, m12_0, m12_1, m13_0, m13_1, m14_0, m14_1, m15_0, m15_1, f17, q31, f32, z34, z35, f36, f37, z38, z39, z40, z41, m42_0, z42_1, z43, z44, z47, z48, f49, f50, f51, q54, q55, q56, f57, q58, f59, f60, f64, rfl, hx16, hx18, hx19, hx21, hx22, hx26, hx28, hx29, hx30, hx33, hz46, hx52, hx53, hx61, hx62, hx63, hx65, hm12_0, hm12_1, hm13_0, hm13_1, hm14_0, hm14_1, hm15_0, hm15_1, hm42_0, hz42_1, hbg, (by assumption), hP1, hD3⟩⟩, hF2⟩
set_option maxHeartbeats 4000000 in
set_option maxRecDepth 100000 in
theorem k_X9_avoids (l : Launch) (dC : Nat → ClassId) (dI : Nat → Nat → Nat) (sz : Nat) (kI kB kQ : ClassId) (ma : Nat) (MA : Nat → Prop) (tp : Nat) (p0 : Int32) (p1 : Int32) : Met l yX9_avoids (.code yX9_avoids cX9_avoids 3 (some .int) :: VM) ({ frames := 7, cells := 0, slots := 0, locals := 171 }) (va_Pc [.ref ma, .int p0, .int p1] (xB (dC, dI) kI kB kQ (MInv (dC, dI) kI kB ma MA tp) sz)) (va_Qi (fun (r : Int32) (_ : Unit) => True) (fun _ t => MInv (dC, dI) kI kB ma MA tp t.heap) (xA MA sz)) 0 0 (xA MA sz) := by
  refine met_by (fun a s h => ?_)
  obtain ⟨rfl, rfl, hJ, hK⟩ := h
  obtain ⟨ad, x0, x16, x19, x20, x21, x22, x23, x24, x25, x26, x27, x28, x29, x30, x33, x45, x46, x52, x53, x61, x62, x63, x65, x66, f1, f2, f3, q4, q5, q6, q7, f8, q9, q10, f11, m12_0, m12_1, m13_0, m13_1, m14_0, m14_1, m15_0, m15_1, f17, q31, f32, f34, f35, f36, f37, q38, f39, f40, f41, m42_0, m42_1, f43, f44, f47, f48, f49, f50, f51, q54, q55, q56, f57, q58, f59, f60, f64, rfl, hx16, hx18, hx19, hx21, hx22, hx26, hx28, hx29, hx30, hx33, hx46, hx52, hx53, hx61, hx62, hx63, hx65, hm12_0, hm12_1, hm13_0, hm13_1, hm14_0, hm14_1, hm15_0, hm15_1, hm42_0, hm42_1, hbg, hgr, hP, hD⟩ := hJ
  have hKc := mk_K hK
  refine ⟨_, _, _, c_M_avoids l dC dI _ ad (mck kI kB) x0 x16 tp x19 x20 x21 x22 x23 x24 x25 x26 x27 x28 x29 x30 x33 x45 x46 x52 x53 x61 x62 x63 x65 x66 f1 f2 f3 q4 q5 q6 q7 f8 q9 q10 f11 m12_0 m12_1 m13_0 m13_1 m14_0 m14_1 m15_0 m15_1 f17 q31 f32 f34 f35 f36 f37 q38 f39 f40 f41 m42_0 m42_1 f43 f44 f47 f48 f49 f50 f51 q54 q55 q56 f57 q58 f59 f60 f64 p0 p1 hx16 hx18 hx19 hx21 hx22 hx26 hx28 hx29 hx30 hx33 hx46 hx52 hx53 hx61 hx62 hx63 hx65 hm12_0 hm12_1 hm13_0 hm13_1 hm14_0 hm14_1 hm15_0 hm15_1 hm42_0 hm42_1 hbg hgr, ⟨rfl, rfl, hP, hKc, hD.weaken (fun _ _ _ _ => trivial)⟩, fun o t hq => ?_, xA_of hD⟩
  obtain ⟨⟨r, u, ho, hw, hB⟩, hF⟩ := hq
  obtain ⟨z34, z35, z38, z39, z40, z41, z43, z44, z47, z48, z42_1, z0, z46, ⟨hP1, -, hD1⟩, hz42_1, hz46, xh_0⟩ := hB
  have hF2 := xF_of hD hF
  have hD2 := hD1
  have hD3 := vD_fst hD (ws' := _) (mo_fst (ad := ad) (ck := mck kI kB))
  exact ⟨⟨r, (), ho, trivial, ⟨ad, z0, x16, x19, x20, x21, x22, x23, x24, x25, x26, x27, x28, x29, x30, x33, x45, z46, x52, x53, x61, x62, x63, x65, x66, f1, f2, f3, q4, q5, q6, q7, f8, q9, q10, f11, m12_0, m12_1, m13_0, m13_1, m14_0, m14_1, m15_0, m15_1, f17, q31, f32, z34, z35, f36, f37, z38, z39, z40, z41, m42_0, z42_1, z43, z44, z47, z48, f49, f50, f51, q54, q55, q56, f57, q58, f59, f60, f64, rfl, hx16, hx18, hx19, hx21, hx22, hx26, hx28, hx29, hx30, hx33, hz46, hx52, hx53, hx61, hx62, hx63, hx65, hm12_0, hm12_1, hm13_0, hm13_1, hm14_0, hm14_1, hm15_0, hm15_1, hm42_0, hz42_1, hbg, (by assumption), hP1, hD3⟩⟩, hF2⟩
