set_option maxHeartbeats 4000000 in
set_option maxRecDepth 100000 in
theorem k_X9_run (l : Launch) (dC : Nat → ClassId) (dI : Nat → Nat → Nat) (sz : Nat) (kI kB kQ : ClassId) (ma : Nat) (MA : Nat → Prop) (tp : Nat) (p0 : Int32) (p1 : Int32) : Met l yX9_run (.code yX9_run cX9_run 3 (some .int) :: VM) ({ frames := 3, cells := 0, slots := 0, locals := 65 }) (va_Pc [.ref ma, .int p0, .int p1] (xB (dC, dI) kI kB kQ (MInv (dC, dI) kI kB ma MA tp) sz)) (va_Qi (fun (r : Int32) (_ : Unit) => True) (fun _ t => MInv (dC, dI) kI kB ma MA tp t.heap) (xA MA sz)) 0 0 (xA MA sz) := by
  refine met_by (fun a s h => ?_)
  obtain ⟨rfl, rfl, hJ, hK⟩ := h
  obtain ⟨ad, x0, x16, x19, x20, x21, x22, x23, x24, x25, x26, x27, x28, x29, x30, x33, x45, x46, x52, x53, x61, x62, x63, x65, x66, f1, f2, f3, q4, q5, q6, q7, f8, q9, q10, f11, m12_0, m12_1, m13_0, m13_1, m14_0, m14_1, m15_0, m15_1, f17, q31, f32, f34, f35, f36, f37, q38, f39, f40, f41, m42_0, m42_1, f43, f44, f47, f48, f49, f50, f51, q54, q55, q56, f57, q58, f59, f60, f64, rfl, hx16, hx18, hx19, hx21, hx22, hx26, hx28, hx29, hx30, hx33, hx46, hx52, hx53, hx61, hx62, hx63, hx65, hm12_0, hm12_1, hm13_0, hm13_1, hm14_0, hm14_1, hm15_0, hm15_1, hm42_0, hm42_1, hbg, hgr, hP, hD⟩ := hJ
  have hKc := mk_K hK
  refine ⟨_, _, _, c_M_run l dC dI _ ad (mck kI kB) x0 x16 tp x19 x20 x21 x22 x23 x24 x25 x26 x27 x28 x29 x30 x33 x45 x46 x52 x53 x61 x62 x63 x65 x66 f1 f2 f3 q4 q5 q6 q7 f8 q9 q10 f11 m12_0 m12_1 m13_0 m13_1 m14_0 m14_1 m15_0 m15_1 f17 q31 f32 f34 f35 f36 f37 q38 f39 f40 f41 m42_0 m42_1 f43 f44 f47 f48 f49 f50 f51 q54 q55 q56 f57 q58 f59 f60 f64 p0 p1 hx16 hx18 hx19 hx21 hx22 hx26 hx28 hx29 hx30 hx33 hx46 hx52 hx53 hx61 hx62 hx63 hx65 hm12_0 hm12_1 hm13_0 hm13_1 hm14_0 hm14_1 hm15_0 hm15_1 hm42_0 hm42_1 hgr, ⟨rfl, rfl, hP, hKc, hD.weaken (fun _ _ _ _ => trivial)⟩, fun o t hq => ?_, xA_of hD⟩
  obtain ⟨⟨r, u, ho, hw, hB⟩, hF⟩ := hq
  obtain ⟨z54, z0, z46, z61, ⟨hP1, -, hD1⟩, hz46, hz61⟩ := hB
  have hF2 := xF_of hD hF
  have hD2 := hD1
  have hD3 := vD_fst hD (ws' := _) (mo_fst (ad := ad) (ck := mck kI kB))
  exact ⟨⟨r, (), ho, trivial, ⟨ad, z0, x16, x19, x20, x21, x22, x23, x24, x25, x26, x27, x28, x29, x30, x33, x45, z46, x52, x53, z61, x62, x63, x65, x66, f1, f2, f3, q4, q5, q6, q7, f8, q9, q10, f11, m12_0, m12_1, m13_0, m13_1, m14_0, m14_1, m15_0, m15_1, f17, q31, f32, f34, f35, f36, f37, q38, f39, f40, f41, m42_0, m42_1, f43, f44, f47, f48, f49, f50, f51, z54, q55, q56, f57, q58, f59, f60, f64, rfl, hx16, hx18, hx19, hx21, hx22, hx26, hx28, hx29, hx30, hx33, hz46, hx52, hx53, hz61, hx62, hx63, hx65, hm12_0, hm12_1, hm13_0, hm13_1, hm14_0, hm14_1, hm15_0, hm15_1, hm42_0, hm42_1, hbg, hgr, hP1, hD3⟩⟩, hF2⟩
set_option maxHeartbeats 4000000 in
set_option maxRecDepth 100000 in
theorem k_X9_when (l : Launch) (dC : Nat → ClassId) (dI : Nat → Nat → Nat) (sz : Nat) (kI kB kQ : ClassId) (ma : Nat) (MA : Nat → Prop) (tp : Nat) (p0 : Int32) (p1 : Int32) : Met l yX9_when (.code yX9_when cX9_when 3 (some .int) :: VM) ({ frames := 6, cells := 0, slots := 0, locals := 136 }) (va_Pc [.ref ma, .int p0, .int p1] (xB (dC, dI) kI kB kQ (MInv (dC, dI) kI kB ma MA tp) sz)) (va_Qi (fun (r : Int32) (_ : Unit) => True) (fun _ t => MInv (dC, dI) kI kB ma MA tp t.heap) (xA MA sz)) 0 0 (xA MA sz) := by
  refine met_by (fun a s h => ?_)
  obtain ⟨rfl, rfl, hJ, hK⟩ := h
  obtain ⟨ad, x0, x16, x19, x20, x21, x22, x23, x24, x25, x26, x27, x28, x29, x30, x33, x45, x46, x52, x53, x61, x62, x63, x65, x66, f1, f2, f3, q4, q5, q6, q7, f8, q9, q10, f11, m12_0, m12_1, m13_0, m13_1, m14_0, m14_1, m15_0, m15_1, f17, q31, f32, f34, f35, f36, f37, q38, f39, f40, f41, m42_0, m42_1, f43, f44, f47, f48, f49, f50, f51, q54, q55, q56, f57, q58, f59, f60, f64, rfl, hx16, hx18, hx19, hx21, hx22, hx26, hx28, hx29, hx30, hx33, hx46, hx52, hx53, hx61, hx62, hx63, hx65, hm12_0, hm12_1, hm13_0, hm13_1, hm14_0, hm14_1, hm15_0, hm15_1, hm42_0, hm42_1, hbg, hgr, hP, hD⟩ := hJ
  have hKc := mk_K hK
  refine ⟨_, _, _, c_M_when l dC dI _ ad (mck kI kB) x0 x16 tp x19 x20 x21 x22 x23 x24 x25 x26 x27 x28 x29 x30 x33 x45 x46 x52 x53 x61 x62 x63 x65 x66 f1 f2 f3 q4 q5 q6 q7 f8 q9 q10 f11 m12_0 m12_1 m13_0 m13_1 m14_0 m14_1 m15_0 m15_1 f17 q31 f32 f34 f35 f36 f37 q38 f39 f40 f41 m42_0 m42_1 f43 f44 f47 f48 f49 f50 f51 q54 q55 q56 f57 q58 f59 f60 f64 p0 p1 hx16 hx18 hx19 hx21 hx22 hx26 hx28 hx29 hx30 hx33 hx46 hx52 hx53 hx61 hx62 hx63 hx65 hm12_0 hm12_1 hm13_0 hm13_1 hm14_0 hm14_1 hm15_0 hm15_1 hm42_0 hm42_1 hbg hgr, ⟨rfl, rfl, hP, hKc, hD.weaken (fun _ _ _ _ => trivial)⟩, fun o t hq => ?_, xA_of hD⟩
  obtain ⟨⟨r, u, ho, hw, hB⟩, hF⟩ := hq
  obtain ⟨z54, z55, z56, z57, z58, z59, z0, z46, z61, z62, z63, ⟨hP1, -, hD1⟩, hz46, hz61, hz62, hz63⟩ := hB
  have hF2 := xF_of hD hF
  have hD2 := hD1
  have hD3 := vD_fst hD (ws' := _) (mo_fst (ad := ad) (ck := mck kI kB))
  exact ⟨⟨r, (), ho, trivial, ⟨ad, z0, x16, x19, x20, x21, x22, x23, x24, x25, x26, x27, x28, x29, x30, x33, x45, z46, x52, x53, z61, z62, z63, x65, x66, f1, f2, f3, q4, q5, q6, q7, f8, q9, q10, f11, m12_0, m12_1, m13_0, m13_1, m14_0, m14_1, m15_0, m15_1, f17, q31, f32, f34, f35, f36, f37, q38, f39, f40, f41, m42_0, m42_1, f43, f44, f47, f48, f49, f50, f51, z54, z55, z56, z57, z58, z59, f60, f64, rfl, hx16, hx18, hx19, hx21, hx22, hx26, hx28, hx29, hx30, hx33, hz46, hx52, hx53, hz61, hz62, hz63, hx65, hm12_0, hm12_1, hm13_0, hm13_1, hm14_0, hm14_1, hm15_0, hm15_1, hm42_0, hm42_1, hbg, hgr, hP1, hD3⟩⟩, hF2⟩
set_option maxHeartbeats 4000000 in
set_option maxRecDepth 100000 in
theorem k_X9_then (l : Launch) (dC : Nat → ClassId) (dI : Nat → Nat → Nat) (sz : Nat) (kI kB kQ : ClassId) (ma : Nat) (MA : Nat → Prop) (tp : Nat) (p0 : Int32) (p1 : Int32) (p2 : Int32) : Met l yX9_then (.code yX9_then cX9_then 6 (some .int) :: VM) ({ frames := 6, cells := 0, slots := 0, locals := 136 }) (va_Pc [.ref ma, .int p0, .int p1, .int p2] (xB (dC, dI) kI kB kQ (MInv (dC, dI) kI kB ma MA tp) sz)) (va_Qi (fun (r : Int32) (_ : Unit) => True) (fun _ t => MInv (dC, dI) kI kB ma MA tp t.heap) (xA MA sz)) 0 0 (xA MA sz) := by
  refine met_by (fun a s h => ?_)
  obtain ⟨rfl, rfl, hJ, hK⟩ := h
  obtain ⟨ad, x0, x16, x19, x20, x21, x22, x23, x24, x25, x26, x27, x28, x29, x30, x33, x45, x46, x52, x53, x61, x62, x63, x65, x66, f1, f2, f3, q4, q5, q6, q7, f8, q9, q10, f11, m12_0, m12_1, m13_0, m13_1, m14_0, m14_1, m15_0, m15_1, f17, q31, f32, f34, f35, f36, f37, q38, f39, f40, f41, m42_0, m42_1, f43, f44, f47, f48, f49, f50, f51, q54, q55, q56, f57, q58, f59, f60, f64, rfl, hx16, hx18, hx19, hx21, hx22, hx26, hx28, hx29, hx30, hx33, hx46, hx52, hx53, hx61, hx62, hx63, hx65, hm12_0, hm12_1, hm13_0, hm13_1, hm14_0, hm14_1, hm15_0, hm15_1, hm42_0, hm42_1, hbg, hgr, hP, hD⟩ := hJ
  have hKc := mk_K hK
  refine ⟨_, _, _, c_M_then l dC dI _ ad (mck kI kB) x0 x16 tp x19 x20 x21 x22 x23 x24 x25 x26 x27 x28 x29 x30 x33 x45 x46 x52 x53 x61 x62 x63 x65 x66 f1 f2 f3 q4 q5 q6 q7 f8 q9 q10 f11 m12_0 m12_1 m13_0 m13_1 m14_0 m14_1 m15_0 m15_1 f17 q31 f32 f34 f35 f36 f37 q38 f39 f40 f41 m42_0 m42_1 f43 f44 f47 f48 f49 f50 f51 q54 q55 q56 f57 q58 f59 f60 f64 p0 p1 p2 hx16 hx18 hx19 hx21 hx22 hx26 hx28 hx29 hx30 hx33 hx46 hx52 hx53 hx61 hx62 hx63 hx65 hm12_0 hm12_1 hm13_0 hm13_1 hm14_0 hm14_1 hm15_0 hm15_1 hm42_0 hm42_1 hbg hgr, ⟨rfl, rfl, hP, hKc, hD.weaken (fun _ _ _ _ => trivial)⟩, fun o t hq => ?_, xA_of hD⟩
  obtain ⟨⟨r, u, ho, hw, hB⟩, hF⟩ := hq
  obtain ⟨z54, z55, z56, z57, z58, z59, z0, z46, z61, z62, z63, ⟨hP1, -, hD1⟩, hz46, hz61, hz62, hz63⟩ := hB
  have hF2 := xF_of hD hF
  have hD2 := hD1
  have hD3 := vD_fst hD (ws' := _) (mo_fst (ad := ad) (ck := mck kI kB))
  exact ⟨⟨r, (), ho, trivial, ⟨ad, z0, x16, x19, x20, x21, x22, x23, x24, x25, x26, x27, x28, x29, x30, x33, x45, z46, x52, x53, z61, z62, z63, x65, x66, f1, f2, f3, q4, q5, q6, q7, f8, q9, q10, f11, m12_0, m12_1, m13_0, m13_1, m14_0, m14_1, m15_0, m15_1, f17, q31, f32, f34, f35, f36, f37, q38, f39, f40, f41, m42_0, m42_1, f43, f44, f47, f48, f49, f50, f51, z54, z55, z56, z57, z58, z59, f60, f64, rfl, hx16, hx18, hx19, hx21, hx22, hx26, hx28, hx29, hx30, hx33, hz46, hx52, hx53, hz61, hz62, hz63, hx65, hm12_0, hm12_1, hm13_0, hm13_1, hm14_0, hm14_1, hm15_0, hm15_1, hm42_0, hm42_1, hbg, hgr, hP1, hD3⟩⟩, hF2⟩
set_option maxHeartbeats 4000000 in
set_option maxRecDepth 100000 in
theorem k_X9_spans (l : Launch) (dC : Nat → ClassId) (dI : Nat → Nat → Nat) (sz : Nat) (kI kB kQ : ClassId) (ma : Nat) (MA : Nat → Prop) (tp : Nat) (p0 : Int32) (p1 : Int32) : Met l yX9_spans (.code yX9_spans cX9_spans 3 (some .int) :: VM) ({ frames := 6, cells := 0, slots := 0, locals := 138 }) (va_Pc [.ref ma, .int p0, .int p1] (xB (dC, dI) kI kB kQ (MInv (dC, dI) kI kB ma MA tp) sz)) (va_Qi (fun (r : Int32) (_ : Unit) => True) (fun _ t => MInv (dC, dI) kI kB ma MA tp t.heap) (xA MA sz)) 0 0 (xA MA sz) := by
  refine met_by (fun a s h => ?_)
  obtain ⟨rfl, rfl, hJ, hK⟩ := h
  obtain ⟨ad, x0, x16, x19, x20, x21, x22, x23, x24, x25, x26, x27, x28, x29, x30, x33, x45, x46, x52, x53, x61, x62, x63, x65, x66, f1, f2, f3, q4, q5, q6, q7, f8, q9, q10, f11, m12_0, m12_1, m13_0, m13_1, m14_0, m14_1, m15_0, m15_1, f17, q31, f32, f34, f35, f36, f37, q38, f39, f40, f41, m42_0, m42_1, f43, f44, f47, f48, f49, f50, f51, q54, q55, q56, f57, q58, f59, f60, f64, rfl, hx16, hx18, hx19, hx21, hx22, hx26, hx28, hx29, hx30, hx33, hx46, hx52, hx53, hx61, hx62, hx63, hx65, hm12_0, hm12_1, hm13_0, hm13_1, hm14_0, hm14_1, hm15_0, hm15_1, hm42_0, hm42_1, hbg, hgr, hP, hD⟩ := hJ
  have hKc := mk_K hK
  refine ⟨_, _, _, c_M_spans l dC dI _ ad (mck kI kB) x0 x16 tp x19 x20 x21 x22 x23 x24 x25 x26 x27 x28 x29 x30 x33 x45 x46 x52 x53 x61 x62 x63 x65 x66 f1 f2 f3 q4 q5 q6 q7 f8 q9 q10 f11 m12_0 m12_1 m13_0 m13_1 m14_0 m14_1 m15_0 m15_1 f17 q31 f32 f34 f35 f36 f37 q38 f39 f40 f41 m42_0 m42_1 f43 f44 f47 f48 f49 f50 f51 q54 q55 q56 f57 q58 f59 f60 f64 p0 p1 hx16 hx18 hx19 hx21 hx22 hx26 hx28 hx29 hx30 hx33 hx46 hx52 hx53 hx61 hx62 hx63 hx65 hm12_0 hm12_1 hm13_0 hm13_1 hm14_0 hm14_1 hm15_0 hm15_1 hm42_0 hm42_1 hbg hgr, ⟨rfl, rfl, hP, hKc, hD.weaken (fun _ _ _ _ => trivial)⟩, fun o t hq => ?_, xA_of hD⟩
  obtain ⟨⟨r, u, ho, hw, hB⟩, hF⟩ := hq
  obtain ⟨z54, z55, z56, z57, z58, z60, z0, z46, z61, z62, z63, ⟨hP1, -, hD1⟩, hz46, hz61, hz62, hz63⟩ := hB
  have hF2 := xF_of hD hF
  have hD2 := hD1
  have hD3 := vD_fst hD (ws' := _) (mo_fst (ad := ad) (ck := mck kI kB))
  exact ⟨⟨r, (), ho, trivial, ⟨ad, z0, x16, x19, x20, x21, x22, x23, x24, x25, x26, x27, x28, x29, x30, x33, x45, z46, x52, x53, z61, z62, z63, x65, x66, f1, f2, f3, q4, q5, q6, q7, f8, q9, q10, f11, m12_0, m12_1, m13_0, m13_1, m14_0, m14_1, m15_0, m15_1, f17, q31, f32, f34, f35, f36, f37, q38, f39, f40, f41, m42_0, m42_1, f43, f44, f47, f48, f49, f50, f51, z54, z55, z56, z57, z58, f59, z60, f64, rfl, hx16, hx18, hx19, hx21, hx22, hx26, hx28, hx29, hx30, hx33, hz46, hx52, hx53, hz61, hz62, hz63, hx65, hm12_0, hm12_1, hm13_0, hm13_1, hm14_0, hm14_1, hm15_0, hm15_1, hm42_0, hm42_1, hbg, hgr, hP1, hD3⟩⟩, hF2⟩
set_option maxHeartbeats 4000000 in
set_option maxRecDepth 100000 in
theorem k_X9_tells (l : Launch) (dC : Nat → ClassId) (dI : Nat → Nat → Nat) (sz : Nat) (kI kB kQ : ClassId) (ma : Nat) (MA : Nat → Prop) (tp : Nat) (p0 : Int32) (p1 : Int32) (p2 : Int32) (p3 : Int32) (p4 : Int32) (p5 : Int32) : Met l yX9_tells (.code yX9_tells cX9_tells 10 (some .int) :: VM) ({ frames := 6, cells := 0, slots := 0, locals := 138 }) (va_Pc [.ref ma, .int p0, .int p1, .int p2, .int p3, .int p4, .int p5] (xB (dC, dI) kI kB kQ (MInv (dC, dI) kI kB ma MA tp) sz)) (va_Qi (fun (r : Int32) (_ : Unit) => True) (fun _ t => MInv (dC, dI) kI kB ma MA tp t.heap) (xA MA sz)) 0 0 (xA MA sz) := by
  refine met_by (fun a s h => ?_)
  obtain ⟨rfl, rfl, hJ, hK⟩ := h
  obtain ⟨ad, x0, x16, x19, x20, x21, x22, x23, x24, x25, x26, x27, x28, x29, x30, x33, x45, x46, x52, x53, x61, x62, x63, x65, x66, f1, f2, f3, q4, q5, q6, q7, f8, q9, q10, f11, m12_0, m12_1, m13_0, m13_1, m14_0, m14_1, m15_0, m15_1, f17, q31, f32, f34, f35, f36, f37, q38, f39, f40, f41, m42_0, m42_1, f43, f44, f47, f48, f49, f50, f51, q54, q55, q56, f57, q58, f59, f60, f64, rfl, hx16, hx18, hx19, hx21, hx22, hx26, hx28, hx29, hx30, hx33, hx46, hx52, hx53, hx61, hx62, hx63, hx65, hm12_0, hm12_1, hm13_0, hm13_1, hm14_0, hm14_1, hm15_0, hm15_1, hm42_0, hm42_1, hbg, hgr, hP, hD⟩ := hJ
  have hKc := mk_K hK
  refine ⟨_, _, _, c_M_tells l dC dI _ ad (mck kI kB) x0 x16 tp x19 x20 x21 x22 x23 x24 x25 x26 x27 x28 x29 x30 x33 x45 x46 x52 x53 x61 x62 x63 x65 x66 f1 f2 f3 q4 q5 q6 q7 f8 q9 q10 f11 m12_0 m12_1 m13_0 m13_1 m14_0 m14_1 m15_0 m15_1 f17 q31 f32 f34 f35 f36 f37 q38 f39 f40 f41 m42_0 m42_1 f43 f44 f47 f48 f49 f50 f51 q54 q55 q56 f57 q58 f59 f60 f64 p0 p1 p2 p3 p4 p5 hx16 hx18 hx19 hx21 hx22 hx26 hx28 hx29 hx30 hx33 hx46 hx52 hx53 hx61 hx62 hx63 hx65 hm12_0 hm12_1 hm13_0 hm13_1 hm14_0 hm14_1 hm15_0 hm15_1 hm42_0 hm42_1 hbg, ⟨rfl, rfl, hP, hKc, hD.weaken (fun _ _ _ _ => trivial)⟩, fun o t hq => ?_, xA_of hD⟩
  obtain ⟨⟨r, u, ho, hw, hB⟩, hF⟩ := hq
  obtain ⟨z54, z55, z56, z57, z58, z60, z0, z61, z62, z63, ⟨hP1, -, hD1⟩, hz61, hz62, hz63⟩ := hB
  have hF2 := xF_of hD hF
  have hD2 := hD1
  have hD3 := vD_fst hD (ws' := _) (mo_fst (ad := ad) (ck := mck kI kB))
  exact ⟨⟨r, (), ho, trivial, ⟨ad, z0, x16, x19, x20, x21, x22, x23, x24, x25, x26, x27, x28, x29, x30, x33, x45, x46, x52, x53, z61, z62, z63, x65, x66, f1, f2, f3, q4, q5, q6, q7, f8, q9, q10, f11, m12_0, m12_1, m13_0, m13_1, m14_0, m14_1, m15_0, m15_1, f17, q31, f32, f34, f35, f36, f37, q38, f39, f40, f41, m42_0, m42_1, f43, f44, f47, f48, f49, f50, f51, z54, z55, z56, z57, z58, f59, z60, f64, rfl, hx16, hx18, hx19, hx21, hx22, hx26, hx28, hx29, hx30, hx33, hx46, hx52, hx53, hz61, hz62, hz63, hx65, hm12_0, hm12_1, hm13_0, hm13_1, hm14_0, hm14_1, hm15_0, hm15_1, hm42_0, hm42_1, hbg, hgr, hP1, hD3⟩⟩, hF2⟩
set_option maxHeartbeats 4000000 in
set_option maxRecDepth 100000 in
theorem k_X9_latest (l : Launch) (dC : Nat → ClassId) (dI : Nat → Nat → Nat) (sz : Nat) (kI kB kQ : ClassId) (ma : Nat) (MA : Nat → Prop) (tp : Nat) (p0 : Int32) (p1 : Int32) (p2 : Int32) : Met l yX9_latest (.code yX9_latest cX9_latest 4 (some .int) :: VM) ({ frames := 6, cells := 0, slots := 0, locals := 138 }) (va_Pc [.ref ma, .int p0, .int p1, .int p2] (xB (dC, dI) kI kB kQ (MInv (dC, dI) kI kB ma MA tp) sz)) (va_Qi (fun (r : Int32) (_ : Unit) => True) (fun _ t => MInv (dC, dI) kI kB ma MA tp t.heap) (xA MA sz)) 0 0 (xA MA sz) := by
  refine met_by (fun a s h => ?_)
  obtain ⟨rfl, rfl, hJ, hK⟩ := h
  obtain ⟨ad, x0, x16, x19, x20, x21, x22, x23, x24, x25, x26, x27, x28, x29, x30, x33, x45, x46, x52, x53, x61, x62, x63, x65, x66, f1, f2, f3, q4, q5, q6, q7, f8, q9, q10, f11, m12_0, m12_1, m13_0, m13_1, m14_0, m14_1, m15_0, m15_1, f17, q31, f32, f34, f35, f36, f37, q38, f39, f40, f41, m42_0, m42_1, f43, f44, f47, f48, f49, f50, f51, q54, q55, q56, f57, q58, f59, f60, f64, rfl, hx16, hx18, hx19, hx21, hx22, hx26, hx28, hx29, hx30, hx33, hx46, hx52, hx53, hx61, hx62, hx63, hx65, hm12_0, hm12_1, hm13_0, hm13_1, hm14_0, hm14_1, hm15_0, hm15_1, hm42_0, hm42_1, hbg, hgr, hP, hD⟩ := hJ
  have hKc := mk_K hK
  refine ⟨_, _, _, c_M_latest l dC dI _ ad (mck kI kB) x0 x16 tp x19 x20 x21 x22 x23 x24 x25 x26 x27 x28 x29 x30 x33 x45 x46 x52 x53 x61 x62 x63 x65 x66 f1 f2 f3 q4 q5 q6 q7 f8 q9 q10 f11 m12_0 m12_1 m13_0 m13_1 m14_0 m14_1 m15_0 m15_1 f17 q31 f32 f34 f35 f36 f37 q38 f39 f40 f41 m42_0 m42_1 f43 f44 f47 f48 f49 f50 f51 q54 q55 q56 f57 q58 f59 f60 f64 p0 p1 p2 hx16 hx18 hx19 hx21 hx22 hx26 hx28 hx29 hx30 hx33 hx46 hx52 hx53 hx61 hx62 hx63 hx65 hm12_0 hm12_1 hm13_0 hm13_1 hm14_0 hm14_1 hm15_0 hm15_1 hm42_0 hm42_1 hbg hgr, ⟨rfl, rfl, hP, hKc, hD.weaken (fun _ _ _ _ => trivial)⟩, fun o t hq => ?_, xA_of hD⟩
  obtain ⟨⟨r, u, ho, hw, hB⟩, hF⟩ := hq
  obtain ⟨z54, z55, z56, z57, z58, z59, z0, z46, z61, z62, z63, ⟨hP1, -, hD1⟩, hz46, hz61, hz62, hz63⟩ := hB
  have hF2 := xF_of hD hF
  have hD2 := hD1
  have hD3 := vD_fst hD (ws' := _) (mo_fst (ad := ad) (ck := mck kI kB))
  exact ⟨⟨r, (), ho, trivial, ⟨ad, z0, x16, x19, x20, x21, x22, x23, x24, x25, x26, x27, x28, x29, x30, x33, x45, z46, x52, x53, z61, z62, z63, x65, x66, f1, f2, f3, q4, q5, q6, q7, f8, q9, q10, f11, m12_0, m12_1, m13_0, m13_1, m14_0, m14_1, m15_0, m15_1, f17, q31, f32, f34, f35, f36, f37, q38, f39, f40, f41, m42_0, m42_1, f43, f44, f47, f48, f49, f50, f51, z54, z55, z56, z57, z58, z59, f60, f64, rfl, hx16, hx18, hx19, hx21, hx22, hx26, hx28, hx29, hx30, hx33, hz46, hx52, hx53, hz61, hz62, hz63, hx65, hm12_0, hm12_1, hm13_0, hm13_1, hm14_0, hm14_1, hm15_0, hm15_1, hm42_0, hm42_1, hbg, hgr, hP1, hD3⟩⟩, hF2⟩
set_option maxHeartbeats 4000000 in
set_option maxRecDepth 100000 in
theorem k_X9_soonest (l : Launch) (dC : Nat → ClassId) (dI : Nat → Nat → Nat) (sz : Nat) (kI kB kQ : ClassId) (ma : Nat) (MA : Nat → Prop) (tp : Nat) (p0 : Int32) (p1 : Int32) : Met l yX9_soonest (.code yX9_soonest cX9_soonest 6 (some .int) :: VM) ({ frames := 7, cells := 0, slots := 0, locals := 171 }) (va_Pc [.ref ma, .int p0, .int p1] (xB (dC, dI) kI kB kQ (MInv (dC, dI) kI kB ma MA tp) sz)) (va_Qi (fun (r : Int32) (_ : Unit) => True) (fun _ t => MInv (dC, dI) kI kB ma MA tp t.heap) (xA MA sz)) 0 0 (xA MA sz) := by
  refine met_by (fun a s h => ?_)
  obtain ⟨rfl, rfl, hJ, hK⟩ := h
  obtain ⟨ad, x0, x16, x19, x20, x21, x22, x23, x24, x25, x26, x27, x28, x29, x30, x33, x45, x46, x52, x53, x61, x62, x63, x65, x66, f1, f2, f3, q4, q5, q6, q7, f8, q9, q10, f11, m12_0, m12_1, m13_0, m13_1, m14_0, m14_1, m15_0, m15_1, f17, q31, f32, f34, f35, f36, f37, q38, f39, f40, f41, m42_0, m42_1, f43, f44, f47, f48, f49, f50, f51, q54, q55, q56, f57, q58, f59, f60, f64, rfl, hx16, hx18, hx19, hx21, hx22, hx26, hx28, hx29, hx30, hx33, hx46, hx52, hx53, hx61, hx62, hx63, hx65, hm12_0, hm12_1, hm13_0, hm13_1, hm14_0, hm14_1, hm15_0, hm15_1, hm42_0, hm42_1, hbg, hgr, hP, hD⟩ := hJ
  have hKc := mk_K hK
  refine ⟨_, _, _, c_M_soonest l dC dI _ ad (mck kI kB) x0 x16 tp x19 x20 x21 x22 x23 x24 x25 x26 x27 x28 x29 x30 x33 x45 x46 x52 x53 x61 x62 x63 x65 x66 f1 f2 f3 q4 q5 q6 q7 f8 q9 q10 f11 m12_0 m12_1 m13_0 m13_1 m14_0 m14_1 m15_0 m15_1 f17 q31 f32 f34 f35 f36 f37 q38 f39 f40 f41 m42_0 m42_1 f43 f44 f47 f48 f49 f50 f51 q54 q55 q56 f57 q58 f59 f60 f64 p0 p1 hx16 hx18 hx19 hx21 hx22 hx26 hx28 hx29 hx30 hx33 hx46 hx52 hx53 hx61 hx62 hx63 hx65 hm12_0 hm12_1 hm13_0 hm13_1 hm14_0 hm14_1 hm15_0 hm15_1 hm42_0 hm42_1 hbg hgr, ⟨rfl, rfl, hP, hKc, hD.weaken (fun _ _ _ _ => trivial)⟩, fun o t hq => ?_, xA_of hD⟩
  obtain ⟨⟨r, u, ho, hw, hB⟩, hF⟩ := hq
  obtain ⟨z34, z35, z38, z39, z40, z41, z43, z44, z47, z48, z42_1, z0, z46, ⟨hP1, -, hD1⟩, hz42_1, hz46, xh_0⟩ := hB
  have hF2 := xF_of hD hF
  have hD2 := hD1
  have hD3 := vD_fst hD (ws' := _) (mo_fst (ad := ad) (ck := mck kI kB))
  exact ⟨⟨r, (), ho, trivial, ⟨ad, z0, x16, x19, x20, x21, x22, x23, x24, x25, x26, x27, x28, x29, x30, x33, x45, z46, x52, x53, x61, x62, x63, x65, x66, f1, f2, f3, q4, q5, q6, q7, f8, q9, q10, f11, m12_0, m12_1, m13_0, m13_1, m14_0, m14_1, m15_0, m15_1, f17, q31, f32, z34, z35, f36, f37, z38, z39, z40, z41, m42_0, z42_1, z43, z44, z47, z48, f49, f50, f51, q54, q55, q56, f57, q58, f59, f60, f64, rfl, hx16, hx18, hx19, hx21, hx22, hx26, hx28, hx29, hx30, hx33, hz46, hx52, hx53, hx61, hx62, hx63, hx65, hm12_0, hm12_1, hm13_0, hm13_1, hm14_0, hm14_1, hm15_0, hm15_1, hm42_0, hz42_1, hbg, (by assumption), hP1, hD3⟩⟩, hF2⟩
set_option maxHeartbeats 4000000 in
set_option maxRecDepth 100000 in
theorem k_X9_lets (l : Launch) (dC : Nat → ClassId) (dI : Nat → Nat → Nat) (sz : Nat) (kI kB kQ : ClassId) (ma : Nat) (MA : Nat → Prop) (tp : Nat) (p0 : Int32) (p1 : Int32) (p2 : Int32) (p3 : Int32) : Met l yX9_lets (.code yX9_lets cX9_lets 9 (some .int) :: VM) ({ frames := 7, cells := 0, slots := 0, locals := 171 }) (va_Pc [.ref ma, .int p0, .int p1, .int p2, .int p3] (xB (dC, dI) kI kB kQ (MInv (dC, dI) kI kB ma MA tp) sz)) (va_Qi (fun (r : Int32) (_ : Unit) => True) (fun _ t => MInv (dC, dI) kI kB ma MA tp t.heap) (xA MA sz)) 0 0 (xA MA sz) := by
  refine met_by (fun a s h => ?_)
  obtain ⟨rfl, rfl, hJ, hK⟩ := h
  obtain ⟨ad, x0, x16, x19, x20, x21, x22, x23, x24, x25, x26, x27, x28, x29, x30, x33, x45, x46, x52, x53, x61, x62, x63, x65, x66, f1, f2, f3, q4, q5, q6, q7, f8, q9, q10, f11, m12_0, m12_1, m13_0, m13_1, m14_0, m14_1, m15_0, m15_1, f17, q31, f32, f34, f35, f36, f37, q38, f39, f40, f41, m42_0, m42_1, f43, f44, f47, f48, f49, f50, f51, q54, q55, q56, f57, q58, f59, f60, f64, rfl, hx16, hx18, hx19, hx21, hx22, hx26, hx28, hx29, hx30, hx33, hx46, hx52, hx53, hx61, hx62, hx63, hx65, hm12_0, hm12_1, hm13_0, hm13_1, hm14_0, hm14_1, hm15_0, hm15_1, hm42_0, hm42_1, hbg, hgr, hP, hD⟩ := hJ
  have hKc := mk_K hK
  refine ⟨_, _, _, c_M_lets l dC dI _ ad (mck kI kB) x0 x16 tp x19 x20 x21 x22 x23 x24 x25 x26 x27 x28 x29 x30 x33 x45 x46 x52 x53 x61 x62 x63 x65 x66 f1 f2 f3 q4 q5 q6 q7 f8 q9 q10 f11 m12_0 m12_1 m13_0 m13_1 m14_0 m14_1 m15_0 m15_1 f17 q31 f32 f34 f35 f36 f37 q38 f39 f40 f41 m42_0 m42_1 f43 f44 f47 f48 f49 f50 f51 q54 q55 q56 f57 q58 f59 f60 f64 p0 p1 p2 p3 hx16 hx18 hx19 hx21 hx22 hx26 hx28 hx29 hx30 hx33 hx46 hx52 hx53 hx61 hx62 hx63 hx65 hm12_0 hm12_1 hm13_0 hm13_1 hm14_0 hm14_1 hm15_0 hm15_1 hm42_0 hm42_1 hbg hgr, ⟨rfl, rfl, hP, hKc, hD.weaken (fun _ _ _ _ => trivial)⟩, fun o t hq => ?_, xA_of hD⟩
  obtain ⟨⟨r, u, ho, hw, hB⟩, hF⟩ := hq
  obtain ⟨z11, z34, z35, z38, z39, z40, z41, z43, z44, z47, z48, z42_1, z0, z46, ⟨hP1, -, hD1⟩, hz42_1, hz46, xh_0⟩ := hB
  have hF2 := xF_of hD hF
  have hD2 := hD1
  have hD3 := vD_fst hD (ws' := _) (mo_fst (ad := ad) (ck := mck kI kB))
  exact ⟨⟨r, (), ho, trivial, ⟨ad, z0, x16, x19, x20, x21, x22, x23, x24, x25, x26, x27, x28, x29, x30, x33, x45, z46, x52, x53, x61, x62, x63, x65, x66, f1, f2, f3, q4, q5, q6, q7, f8, q9, q10, z11, m12_0, m12_1, m13_0, m13_1, m14_0, m14_1, m15_0, m15_1, f17, q31, f32, z34, z35, f36, f37, z38, z39, z40, z41, m42_0, z42_1, z43, z44, z47, z48, f49, f50, f51, q54, q55, q56, f57, q58, f59, f60, f64, rfl, hx16, hx18, hx19, hx21, hx22, hx26, hx28, hx29, hx30, hx33, hz46, hx52, hx53, hx61, hx62, hx63, hx65, hm12_0, hm12_1, hm13_0, hm13_1, hm14_0, hm14_1, hm15_0, hm15_1, hm42_0, hz42_1, hbg, (by assumption), hP1, hD3⟩⟩, hF2⟩
set_option maxHeartbeats 4000000 in
set_option maxRecDepth 100000 in
theorem k_X9_begin (l : Launch) (dC : Nat → ClassId) (dI : Nat → Nat → Nat) (sz : Nat) (kI kB kQ : ClassId) (ma : Nat) (MA : Nat → Prop) (tp : Nat) : Met l yX9_begin (.code yX9_begin cX9_begin 1 (some .int) :: VM) ({ frames := 5, cells := 0, slots := 0, locals := 112 }) (va_Pc [.ref ma] (xB (dC, dI) kI kB kQ (MInv (dC, dI) kI kB ma MA tp) sz)) (va_Qi (fun (r : Int32) (_ : Unit) => True) (fun _ t => MInv (dC, dI) kI kB ma MA tp t.heap) (xA MA sz)) 0 0 (xA MA sz) := by
  refine met_by (fun a s h => ?_)
  obtain ⟨rfl, rfl, hJ, hK⟩ := h
  obtain ⟨ad, x0, x16, x19, x20, x21, x22, x23, x24, x25, x26, x27, x28, x29, x30, x33, x45, x46, x52, x53, x61, x62, x63, x65, x66, f1, f2, f3, q4, q5, q6, q7, f8, q9, q10, f11, m12_0, m12_1, m13_0, m13_1, m14_0, m14_1, m15_0, m15_1, f17, q31, f32, f34, f35, f36, f37, q38, f39, f40, f41, m42_0, m42_1, f43, f44, f47, f48, f49, f50, f51, q54, q55, q56, f57, q58, f59, f60, f64, rfl, hx16, hx18, hx19, hx21, hx22, hx26, hx28, hx29, hx30, hx33, hx46, hx52, hx53, hx61, hx62, hx63, hx65, hm12_0, hm12_1, hm13_0, hm13_1, hm14_0, hm14_1, hm15_0, hm15_1, hm42_0, hm42_1, hbg, hgr, hP, hD⟩ := hJ
  have hKc := mk_K hK
  refine ⟨_, _, _, c_M_begin l dC dI _ ad (mck kI kB) x0 x16 tp x19 x20 x21 x22 x23 x24 x25 x26 x27 x28 x29 x30 x33 x45 x46 x52 x53 x61 x62 x63 x65 x66 f1 f2 f3 q4 q5 q6 q7 f8 q9 q10 f11 m12_0 m12_1 m13_0 m13_1 m14_0 m14_1 m15_0 m15_1 f17 q31 f32 f34 f35 f36 f37 q38 f39 f40 f41 m42_0 m42_1 f43 f44 f47 f48 f49 f50 f51 q54 q55 q56 f57 q58 f59 f60 f64 hx16 hx18 hx19 hx21 hx22 hx26 hx28 hx29 hx30 hx33 hx46 hx52 hx53 hx61 hx62 hx63 hx65 hm12_0 hm12_1 hm13_0 hm13_1 hm14_0 hm14_1 hm15_0 hm15_1 hm42_0 hm42_1 hbg, ⟨rfl, rfl, hP, hKc, hD.weaken (fun _ _ _ _ => trivial)⟩, fun o t hq => ?_, xA_of hD⟩
  obtain ⟨⟨r, u, ho, hw, hB⟩, hF⟩ := hq
  obtain ⟨z64, z0, z30, z65, z66, ⟨hP1, -, hD1⟩, hz30, hz65⟩ := hB
  have hF2 := xF_of hD hF
  have hD2 := hD1
  have hD3 := vD_fst hD (ws' := _) (mo_fst (ad := ad) (ck := mck kI kB))
  exact ⟨⟨r, (), ho, trivial, ⟨ad, z0, x16, x19, x20, x21, x22, x23, x24, x25, x26, x27, x28, x29, z30, x33, x45, x46, x52, x53, x61, x62, x63, z65, z66, f1, f2, f3, q4, q5, q6, q7, f8, q9, q10, f11, m12_0, m12_1, m13_0, m13_1, m14_0, m14_1, m15_0, m15_1, f17, q31, f32, f34, f35, f36, f37, q38, f39, f40, f41, m42_0, m42_1, f43, f44, f47, f48, f49, f50, f51, q54, q55, q56, f57, q58, f59, f60, z64, rfl, hx16, hx18, hx19, hx21, hx22, hx26, hx28, hx29, hz30, hx33, hx46, hx52, hx53, hx61, hx62, hx63, hz65, hm12_0, hm12_1, hm13_0, hm13_1, hm14_0, hm14_1, hm15_0, hm15_1, hm42_0, hm42_1, hbg, hgr, hP1, hD3⟩⟩, hF2⟩
set_option maxHeartbeats 4000000 in
set_option maxRecDepth 100000 in
theorem k_X9_waits (l : Launch) (dC : Nat → ClassId) (dI : Nat → Nat → Nat) (sz : Nat) (kI kB kQ : ClassId) (ma : Nat) (MA : Nat → Prop) (tp : Nat) (p0 : Int32) : Met l yX9_waits (.code yX9_waits cX9_waits 2 (some .boolean) :: VM) ({ frames := 4, cells := 0, slots := 0, locals := 87 }) (va_Pc [.ref ma, .int p0] (xB (dC, dI) kI kB kQ (MInv (dC, dI) kI kB ma MA tp) sz)) (va_Qi (fun (r : Int32) (_ : Unit) => True) (fun _ t => MInv (dC, dI) kI kB ma MA tp t.heap) (xA MA sz)) 0 0 (xA MA sz) := by
  refine met_by (fun a s h => ?_)
  obtain ⟨rfl, rfl, hJ, hK⟩ := h
  obtain ⟨ad, x0, x16, x19, x20, x21, x22, x23, x24, x25, x26, x27, x28, x29, x30, x33, x45, x46, x52, x53, x61, x62, x63, x65, x66, f1, f2, f3, q4, q5, q6, q7, f8, q9, q10, f11, m12_0, m12_1, m13_0, m13_1, m14_0, m14_1, m15_0, m15_1, f17, q31, f32, f34, f35, f36, f37, q38, f39, f40, f41, m42_0, m42_1, f43, f44, f47, f48, f49, f50, f51, q54, q55, q56, f57, q58, f59, f60, f64, rfl, hx16, hx18, hx19, hx21, hx22, hx26, hx28, hx29, hx30, hx33, hx46, hx52, hx53, hx61, hx62, hx63, hx65, hm12_0, hm12_1, hm13_0, hm13_1, hm14_0, hm14_1, hm15_0, hm15_1, hm42_0, hm42_1, hbg, hgr, hP, hD⟩ := hJ
  have hKc := mk_K hK
  refine ⟨_, _, _, c_M_waits l dC dI _ ad (mck kI kB) x0 x16 tp x19 x20 x21 x22 x23 x24 x25 x26 x27 x28 x29 x30 x33 x45 x46 x52 x53 x61 x62 x63 x65 x66 f1 f2 f3 q4 q5 q6 q7 f8 q9 q10 f11 m12_0 m12_1 m13_0 m13_1 m14_0 m14_1 m15_0 m15_1 f17 q31 f32 f34 f35 f36 f37 q38 f39 f40 f41 m42_0 m42_1 f43 f44 f47 f48 f49 f50 f51 q54 q55 q56 f57 q58 f59 f60 f64 p0 hx16 hx18 hx19 hx21 hx22 hx26 hx28 hx29 hx30 hx33 hx46 hx52 hx53 hx61 hx62 hx63 hx65 hm12_0 hm12_1 hm13_0 hm13_1 hm14_0 hm14_1 hm15_0 hm15_1 hm42_0 hm42_1, ⟨rfl, rfl, hP, hKc, hD.weaken (fun _ _ _ _ => trivial)⟩, fun o t hq => ?_, xA_of hD⟩
  obtain ⟨⟨r, u, ho, hw, hB⟩, hF⟩ := hq
  obtain ⟨z64, z0, z66, ⟨hP1, -, hD1⟩⟩ := hB
  have hF2 := xF_of hD hF
  have hD2 := hD1
  have hD3 := vD_fst hD (ws' := _) (mo_fst (ad := ad) (ck := mck kI kB))
  exact ⟨⟨r, (), ho, trivial, ⟨ad, z0, x16, x19, x20, x21, x22, x23, x24, x25, x26, x27, x28, x29, x30, x33, x45, x46, x52, x53, x61, x62, x63, x65, z66, f1, f2, f3, q4, q5, q6, q7, f8, q9, q10, f11, m12_0, m12_1, m13_0, m13_1, m14_0, m14_1, m15_0, m15_1, f17, q31, f32, f34, f35, f36, f37, q38, f39, f40, f41, m42_0, m42_1, f43, f44, f47, f48, f49, f50, f51, q54, q55, q56, f57, q58, f59, f60, z64, rfl, hx16, hx18, hx19, hx21, hx22, hx26, hx28, hx29, hx30, hx33, hx46, hx52, hx53, hx61, hx62, hx63, hx65, hm12_0, hm12_1, hm13_0, hm13_1, hm14_0, hm14_1, hm15_0, hm15_1, hm42_0, hm42_1, hbg, hgr, hP1, hD3⟩⟩, hF2⟩
set_option maxHeartbeats 4000000 in
set_option maxRecDepth 100000 in
theorem k_X9_takes (l : Launch) (dC : Nat → ClassId) (dI : Nat → Nat → Nat) (sz : Nat) (kI kB kQ : ClassId) (ma : Nat) (MA : Nat → Prop) (tp : Nat) (p0 : Int32) : Met l yX9_takes (.code yX9_takes cX9_takes 2 (some .int) :: VM) ({ frames := 5, cells := 0, slots := 0, locals := 112 }) (va_Pc [.ref ma, .int p0] (xB (dC, dI) kI kB kQ (MInv (dC, dI) kI kB ma MA tp) sz)) (va_Qi (fun (r : Int32) (_ : Unit) => True) (fun _ t => MInv (dC, dI) kI kB ma MA tp t.heap) (xA MA sz)) 0 0 (xA MA sz) := by
  refine met_by (fun a s h => ?_)
  obtain ⟨rfl, rfl, hJ, hK⟩ := h
  obtain ⟨ad, x0, x16, x19, x20, x21, x22, x23, x24, x25, x26, x27, x28, x29, x30, x33, x45, x46, x52, x53, x61, x62, x63, x65, x66, f1, f2, f3, q4, q5, q6, q7, f8, q9, q10, f11, m12_0, m12_1, m13_0, m13_1, m14_0, m14_1, m15_0, m15_1, f17, q31, f32, f34, f35, f36, f37, q38, f39, f40, f41, m42_0, m42_1, f43, f44, f47, f48, f49, f50, f51, q54, q55, q56, f57, q58, f59, f60, f64, rfl, hx16, hx18, hx19, hx21, hx22, hx26, hx28, hx29, hx30, hx33, hx46, hx52, hx53, hx61, hx62, hx63, hx65, hm12_0, hm12_1, hm13_0, hm13_1, hm14_0, hm14_1, hm15_0, hm15_1, hm42_0, hm42_1, hbg, hgr, hP, hD⟩ := hJ
  have hKc := mk_K hK
  refine ⟨_, _, _, c_M_takes l dC dI _ ad (mck kI kB) x0 x16 tp x19 x20 x21 x22 x23 x24 x25 x26 x27 x28 x29 x30 x33 x45 x46 x52 x53 x61 x62 x63 x65 x66 f1 f2 f3 q4 q5 q6 q7 f8 q9 q10 f11 m12_0 m12_1 m13_0 m13_1 m14_0 m14_1 m15_0 m15_1 f17 q31 f32 f34 f35 f36 f37 q38 f39 f40 f41 m42_0 m42_1 f43 f44 f47 f48 f49 f50 f51 q54 q55 q56 f57 q58 f59 f60 f64 p0 hx16 hx18 hx19 hx21 hx22 hx26 hx28 hx29 hx30 hx33 hx46 hx52 hx53 hx61 hx62 hx63 hx65 hm12_0 hm12_1 hm13_0 hm13_1 hm14_0 hm14_1 hm15_0 hm15_1 hm42_0 hm42_1, ⟨rfl, rfl, hP, hKc, hD.weaken (fun _ _ _ _ => trivial)⟩, fun o t hq => ?_, xA_of hD⟩
  obtain ⟨⟨r, u, ho, hw, hB⟩, hF⟩ := hq
  obtain ⟨z64, z0, z65, ⟨hP1, -, hD1⟩, hz65⟩ := hB
  have hF2 := xF_of hD hF
  have hD2 := hD1
  have hD3 := vD_fst hD (ws' := _) (mo_fst (ad := ad) (ck := mck kI kB))
  exact ⟨⟨r, (), ho, trivial, ⟨ad, z0, x16, x19, x20, x21, x22, x23, x24, x25, x26, x27, x28, x29, x30, x33, x45, x46, x52, x53, x61, x62, x63, z65, x66, f1, f2, f3, q4, q5, q6, q7, f8, q9, q10, f11, m12_0, m12_1, m13_0, m13_1, m14_0, m14_1, m15_0, m15_1, f17, q31, f32, f34, f35, f36, f37, q38, f39, f40, f41, m42_0, m42_1, f43, f44, f47, f48, f49, f50, f51, q54, q55, q56, f57, q58, f59, f60, z64, rfl, hx16, hx18, hx19, hx21, hx22, hx26, hx28, hx29, hx30, hx33, hx46, hx52, hx53, hx61, hx62, hx63, hz65, hm12_0, hm12_1, hm13_0, hm13_1, hm14_0, hm14_1, hm15_0, hm15_1, hm42_0, hm42_1, hbg, hgr, hP1, hD3⟩⟩, hF2⟩
set_option maxHeartbeats 4000000 in
set_option maxRecDepth 100000 in
theorem k_X9_now (l : Launch) (dC : Nat → ClassId) (dI : Nat → Nat → Nat) (sz : Nat) (kI kB kQ : ClassId) (ma : Nat) (MA : Nat → Prop) (tp : Nat) (p0 : Int32) : Met l yX9_now (.code yX9_now cX9_now 4 (some .int) :: VM) ({ frames := 5, cells := 0, slots := 0, locals := 112 }) (va_Pc [.ref ma, .int p0] (xB (dC, dI) kI kB kQ (MInv (dC, dI) kI kB ma MA tp) sz)) (va_Qi (fun (r : Int32) (_ : Unit) => True) (fun _ t => MInv (dC, dI) kI kB ma MA tp t.heap) (xA MA sz)) 0 0 (xA MA sz) := by
  refine met_by (fun a s h => ?_)
  obtain ⟨rfl, rfl, hJ, hK⟩ := h
  obtain ⟨ad, x0, x16, x19, x20, x21, x22, x23, x24, x25, x26, x27, x28, x29, x30, x33, x45, x46, x52, x53, x61, x62, x63, x65, x66, f1, f2, f3, q4, q5, q6, q7, f8, q9, q10, f11, m12_0, m12_1, m13_0, m13_1, m14_0, m14_1, m15_0, m15_1, f17, q31, f32, f34, f35, f36, f37, q38, f39, f40, f41, m42_0, m42_1, f43, f44, f47, f48, f49, f50, f51, q54, q55, q56, f57, q58, f59, f60, f64, rfl, hx16, hx18, hx19, hx21, hx22, hx26, hx28, hx29, hx30, hx33, hx46, hx52, hx53, hx61, hx62, hx63, hx65, hm12_0, hm12_1, hm13_0, hm13_1, hm14_0, hm14_1, hm15_0, hm15_1, hm42_0, hm42_1, hbg, hgr, hP, hD⟩ := hJ
  have hKc := mk_K hK
  refine ⟨_, _, _, c_M_now l dC dI _ ad (mck kI kB) x0 x16 tp x19 x20 x21 x22 x23 x24 x25 x26 x27 x28 x29 x30 x33 x45 x46 x52 x53 x61 x62 x63 x65 x66 f1 f2 f3 q4 q5 q6 q7 f8 q9 q10 f11 m12_0 m12_1 m13_0 m13_1 m14_0 m14_1 m15_0 m15_1 f17 q31 f32 f34 f35 f36 f37 q38 f39 f40 f41 m42_0 m42_1 f43 f44 f47 f48 f49 f50 f51 q54 q55 q56 f57 q58 f59 f60 f64 p0 hx16 hx18 hx19 hx21 hx22 hx26 hx28 hx29 hx30 hx33 hx46 hx52 hx53 hx61 hx62 hx63 hx65 hm12_0 hm12_1 hm13_0 hm13_1 hm14_0 hm14_1 hm15_0 hm15_1 hm42_0 hm42_1, ⟨rfl, rfl, hP, hKc, hD.weaken (fun _ _ _ _ => trivial)⟩, fun o t hq => ?_, xA_of hD⟩
  obtain ⟨⟨r, u, ho, hw, hB⟩, hF⟩ := hq
  obtain ⟨z0, ⟨hP1, -, hD1⟩⟩ := hB
  have hF2 := xF_of hD hF
  have hD2 := hD1
  have hD3 := vD_fst hD (ws' := _) (mo_fst (ad := ad) (ck := mck kI kB))
  exact ⟨⟨r, (), ho, trivial, ⟨ad, z0, x16, x19, x20, x21, x22, x23, x24, x25, x26, x27, x28, x29, x30, x33, x45, x46, x52, x53, x61, x62, x63, x65, x66, f1, f2, f3, q4, q5, q6, q7, f8, q9, q10, f11, m12_0, m12_1, m13_0, m13_1, m14_0, m14_1, m15_0, m15_1, f17, q31, f32, f34, f35, f36, f37, q38, f39, f40, f41, m42_0, m42_1, f43, f44, f47, f48, f49, f50, f51, q54, q55, q56, f57, q58, f59, f60, f64, rfl, hx16, hx18, hx19, hx21, hx22, hx26, hx28, hx29, hx30, hx33, hx46, hx52, hx53, hx61, hx62, hx63, hx65, hm12_0, hm12_1, hm13_0, hm13_1, hm14_0, hm14_1, hm15_0, hm15_1, hm42_0, hm42_1, hbg, hgr, hP1, hD3⟩⟩, hF2⟩
set_option maxHeartbeats 4000000 in
set_option maxRecDepth 100000 in
theorem k_X9_clock (l : Launch) (dC : Nat → ClassId) (dI : Nat → Nat → Nat) (sz : Nat) (kI kB kQ : ClassId) (ma : Nat) (MA : Nat → Prop) (tp : Nat) (p0 : Int32) : Met l yX9_clock (.code yX9_clock cX9_clock 2 (some .int) :: VM) ({ frames := 2, cells := 0, slots := 0, locals := 43 }) (va_Pc [.ref ma, .int p0] (xB (dC, dI) kI kB kQ (MInv (dC, dI) kI kB ma MA tp) sz)) (va_Qi (fun (r : Int32) (_ : Unit) => True) (fun _ t => MInv (dC, dI) kI kB ma MA tp t.heap) (xA MA sz)) 0 0 (xA MA sz) := by
  refine met_by (fun a s h => ?_)
  obtain ⟨rfl, rfl, hJ, hK⟩ := h
  obtain ⟨ad, x0, x16, x19, x20, x21, x22, x23, x24, x25, x26, x27, x28, x29, x30, x33, x45, x46, x52, x53, x61, x62, x63, x65, x66, f1, f2, f3, q4, q5, q6, q7, f8, q9, q10, f11, m12_0, m12_1, m13_0, m13_1, m14_0, m14_1, m15_0, m15_1, f17, q31, f32, f34, f35, f36, f37, q38, f39, f40, f41, m42_0, m42_1, f43, f44, f47, f48, f49, f50, f51, q54, q55, q56, f57, q58, f59, f60, f64, rfl, hx16, hx18, hx19, hx21, hx22, hx26, hx28, hx29, hx30, hx33, hx46, hx52, hx53, hx61, hx62, hx63, hx65, hm12_0, hm12_1, hm13_0, hm13_1, hm14_0, hm14_1, hm15_0, hm15_1, hm42_0, hm42_1, hbg, hgr, hP, hD⟩ := hJ
  have hKc := mk_K hK
  refine ⟨_, _, _, c_M_clock l dC dI _ ad (mck kI kB) x0 x16 tp x19 x20 x21 x22 x23 x24 x25 x26 x27 x28 x29 x30 x33 x45 x46 x52 x53 x61 x62 x63 x65 x66 f1 f2 f3 q4 q5 q6 q7 f8 q9 q10 f11 m12_0 m12_1 m13_0 m13_1 m14_0 m14_1 m15_0 m15_1 f17 q31 f32 f34 f35 f36 f37 q38 f39 f40 f41 m42_0 m42_1 f43 f44 f47 f48 f49 f50 f51 q54 q55 q56 f57 q58 f59 f60 f64 p0 hx16 hx18 hx19 hx21 hx22 hx26 hx28 hx29 hx30 hx33 hx46 hx52 hx53 hx61 hx62 hx63 hx65 hm12_0 hm12_1 hm13_0 hm13_1 hm14_0 hm14_1 hm15_0 hm15_1 hm42_0 hm42_1, ⟨rfl, rfl, hP, hKc, hD.weaken (fun _ _ _ _ => trivial)⟩, fun o t hq => ?_, xA_of hD⟩
  obtain ⟨⟨r, u, ho, hw, hB⟩, hF⟩ := hq
  obtain ⟨z0, ⟨hP1, -, hD1⟩⟩ := hB
  have hF2 := xF_of hD hF
  have hD2 := hD1
  have hD3 := vD_fst hD (ws' := _) (mo_fst (ad := ad) (ck := mck kI kB))
  exact ⟨⟨r, (), ho, trivial, ⟨ad, z0, x16, x19, x20, x21, x22, x23, x24, x25, x26, x27, x28, x29, x30, x33, x45, x46, x52, x53, x61, x62, x63, x65, x66, f1, f2, f3, q4, q5, q6, q7, f8, q9, q10, f11, m12_0, m12_1, m13_0, m13_1, m14_0, m14_1, m15_0, m15_1, f17, q31, f32, f34, f35, f36, f37, q38, f39, f40, f41, m42_0, m42_1, f43, f44, f47, f48, f49, f50, f51, q54, q55, q56, f57, q58, f59, f60, f64, rfl, hx16, hx18, hx19, hx21, hx22, hx26, hx28, hx29, hx30, hx33, hx46, hx52, hx53, hx61, hx62, hx63, hx65, hm12_0, hm12_1, hm13_0, hm13_1, hm14_0, hm14_1, hm15_0, hm15_1, hm42_0, hm42_1, hbg, hgr, hP1, hD3⟩⟩, hF2⟩
set_option maxHeartbeats 4000000 in
set_option maxRecDepth 100000 in
theorem k_X9_replays (l : Launch) (dC : Nat → ClassId) (dI : Nat → Nat → Nat) (sz : Nat) (kI kB kQ : ClassId) (ma : Nat) (MA : Nat → Prop) (tp : Nat) (p0 : Int32) : Met l yX9_replays (.code yX9_replays cX9_replays 4 (some .boolean) :: VM) ({ frames := 6, cells := 0, slots := 0, locals := 136 }) (va_Pc [.ref ma, .int p0] (xB (dC, dI) kI kB kQ (MInv (dC, dI) kI kB ma MA tp) sz)) (va_Qi (fun (r : Int32) (_ : Unit) => True) (fun _ t => MInv (dC, dI) kI kB ma MA tp t.heap) (xA MA sz)) 0 0 (xA MA sz) := by
  refine met_by (fun a s h => ?_)
  obtain ⟨rfl, rfl, hJ, hK⟩ := h
  obtain ⟨ad, x0, x16, x19, x20, x21, x22, x23, x24, x25, x26, x27, x28, x29, x30, x33, x45, x46, x52, x53, x61, x62, x63, x65, x66, f1, f2, f3, q4, q5, q6, q7, f8, q9, q10, f11, m12_0, m12_1, m13_0, m13_1, m14_0, m14_1, m15_0, m15_1, f17, q31, f32, f34, f35, f36, f37, q38, f39, f40, f41, m42_0, m42_1, f43, f44, f47, f48, f49, f50, f51, q54, q55, q56, f57, q58, f59, f60, f64, rfl, hx16, hx18, hx19, hx21, hx22, hx26, hx28, hx29, hx30, hx33, hx46, hx52, hx53, hx61, hx62, hx63, hx65, hm12_0, hm12_1, hm13_0, hm13_1, hm14_0, hm14_1, hm15_0, hm15_1, hm42_0, hm42_1, hbg, hgr, hP, hD⟩ := hJ
  have hKc := mk_K hK
  refine ⟨_, _, _, c_M_replays l dC dI _ ad (mck kI kB) x0 x16 tp x19 x20 x21 x22 x23 x24 x25 x26 x27 x28 x29 x30 x33 x45 x46 x52 x53 x61 x62 x63 x65 x66 f1 f2 f3 q4 q5 q6 q7 f8 q9 q10 f11 m12_0 m12_1 m13_0 m13_1 m14_0 m14_1 m15_0 m15_1 f17 q31 f32 f34 f35 f36 f37 q38 f39 f40 f41 m42_0 m42_1 f43 f44 f47 f48 f49 f50 f51 q54 q55 q56 f57 q58 f59 f60 f64 p0 hx16 hx18 hx19 hx21 hx22 hx26 hx28 hx29 hx30 hx33 hx46 hx52 hx53 hx61 hx62 hx63 hx65 hm12_0 hm12_1 hm13_0 hm13_1 hm14_0 hm14_1 hm15_0 hm15_1 hm42_0 hm42_1 hbg hgr, ⟨rfl, rfl, hP, hKc, hD.weaken (fun _ _ _ _ => trivial)⟩, fun o t hq => ?_, xA_of hD⟩
  obtain ⟨⟨r, u, ho, hw, hB⟩, hF⟩ := hq
  obtain ⟨z54, z55, z56, z57, z58, z59, z64, z0, z30, z46, z61, z62, z63, z65, z66, ⟨hP1, -, hD1⟩, hz30, hz46, hz61, hz62, hz63, hz65⟩ := hB
  have hF2 := xF_of hD hF
  have hD2 := hD1
  have hD3 := vD_fst hD (ws' := _) (mo_fst (ad := ad) (ck := mck kI kB))
  exact ⟨⟨r, (), ho, trivial, ⟨ad, z0, x16, x19, x20, x21, x22, x23, x24, x25, x26, x27, x28, x29, z30, x33, x45, z46, x52, x53, z61, z62, z63, z65, z66, f1, f2, f3, q4, q5, q6, q7, f8, q9, q10, f11, m12_0, m12_1, m13_0, m13_1, m14_0, m14_1, m15_0, m15_1, f17, q31, f32, f34, f35, f36, f37, q38, f39, f40, f41, m42_0, m42_1, f43, f44, f47, f48, f49, f50, f51, z54, z55, z56, z57, z58, z59, f60, z64, rfl, hx16, hx18, hx19, hx21, hx22, hx26, hx28, hx29, hz30, hx33, hz46, hx52, hx53, hz61, hz62, hz63, hz65, hm12_0, hm12_1, hm13_0, hm13_1, hm14_0, hm14_1, hm15_0, hm15_1, hm42_0, hm42_1, hbg, hgr, hP1, hD3⟩⟩, hF2⟩
