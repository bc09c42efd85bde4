def mM_run (S : CMx) (p0 : Int32) (p1 : Int32) (r : Int32) (u : CMx) : Prop := (fun (nv, iv, fv, qv) => ∃ (z54 : Nat → Nat) (z0 : Int32) (z46 : Nat) (z61 : Nat), ((r, z54, z0, z46, z61) = (sp_EM_run (nv 0) (nv 7) (nv 13) (nv 17) (nv 18) (fv 11) (fv 12) (fv 13) (nv 25) (qv 8) p0 p1)) ∧ u = ((fun n => [(nv 0), (nv 1), (nv 2), (nv 3), (nv 4), (nv 5), (nv 6), (nv 7), (nv 8), (nv 9), z46, (nv 11), (nv 12), z61, (nv 14), (nv 15), (nv 16), (nv 17), (nv 18), (nv 19), (nv 20), (nv 21), (nv 22), (nv 23), (nv 24), (nv 25), (nv 26)].getD n 0), (fun n => [z0, (iv 1), (iv 2), (iv 3), (iv 4), (iv 5), (iv 6), (iv 7)].getD n 0), fv, (fun n => [(qv 0), (qv 1), (qv 2), (qv 3), (qv 4), (qv 5), (qv 6), (qv 7), z54, (qv 9), (qv 10), (qv 11)].getD n (fun _ => 0)))) S
set_option maxHeartbeats 4000000 in
set_option maxRecDepth 100000 in
theorem k_X9_run (l : Launch) (dC : Nat → ClassId) (dI : Nat → Nat → Nat) (sz : Nat) (kI kB kQ : ClassId) (ma : Nat) (MA : Nat → Prop) (S : CMx) (p0 : Int32) (p1 : Int32) : Met l yX9_run (.code yX9_run cX9_run 3 (some .int) :: VM) ({ frames := 3, cells := 0, slots := 0, locals := 65 }) (va_Pc [.ref ma, .int p0, .int p1] (xB (dC, dI) kI kB kQ (MInv (dC, dI) kI kB ma MA S) sz)) (va_Qi (fun (r : Int32) (u : CMx) => mM_run S p0 p1 r u) (fun u t => MInv (dC, dI) kI kB ma MA u t.heap) (xA MA sz)) 0 0 (xA MA sz) := by
  refine met_by (fun a s h => ?_)
  obtain ⟨rfl, rfl, hJ, hK⟩ := h
  obtain ⟨nv, iv, fv, qv⟩ := S
  obtain ⟨⟨hr, hbg, hgr⟩, ad, rfl, hP, hD⟩ := hJ
  have hKc := mk_K hK
  refine ⟨_, _, _, c_EM_run l dC dI _ ad (mck kI kB) (iv 0) (nv 0) (nv 1) (nv 2) (iv 1) (nv 3) (nv 4) (iv 2) (iv 3) (iv 4) (nv 5) (iv 5) (nv 6) (nv 7) (nv 8) (nv 9) (iv 6) (nv 10) (nv 11) (nv 12) (nv 13) (nv 14) (nv 15) (nv 16) (iv 7) (fv 0) (fv 1) (fv 2) (qv 0) (qv 1) (qv 2) (qv 3) (fv 3) (qv 4) (qv 5) (fv 4) (nv 17) (nv 18) (nv 19) (nv 20) (nv 21) (nv 22) (nv 23) (nv 24) (fv 5) (qv 6) (fv 6) (fv 7) (fv 8) (fv 9) (fv 10) (qv 7) (fv 11) (fv 12) (fv 13) (nv 25) (nv 26) (fv 14) (fv 15) (fv 16) (fv 17) (fv 18) (fv 19) (fv 20) (qv 8) (qv 9) (qv 10) (fv 21) (qv 11) (fv 22) (fv 23) (fv 24) p0 p1 (hr.1) (hr.2.1) (hr.2.2.1) (hr.2.2.2.1) (hr.2.2.2.2.1) (hr.2.2.2.2.2.1) (hr.2.2.2.2.2.2.1) (hr.2.2.2.2.2.2.2.1) (hr.2.2.2.2.2.2.2.2.1) (hr.2.2.2.2.2.2.2.2.2.1) (hr.2.2.2.2.2.2.2.2.2.2.1) (hr.2.2.2.2.2.2.2.2.2.2.2.1) (hr.2.2.2.2.2.2.2.2.2.2.2.2.1) (hr.2.2.2.2.2.2.2.2.2.2.2.2.2.1) (hr.2.2.2.2.2.2.2.2.2.2.2.2.2.2.1) (hr.2.2.2.2.2.2.2.2.2.2.2.2.2.2.2.1) (hr.2.2.2.2.2.2.2.2.2.2.2.2.2.2.2.2.1) (hr.2.2.2.2.2.2.2.2.2.2.2.2.2.2.2.2.2.1) (hr.2.2.2.2.2.2.2.2.2.2.2.2.2.2.2.2.2.2.1) (hr.2.2.2.2.2.2.2.2.2.2.2.2.2.2.2.2.2.2.2.1) (hr.2.2.2.2.2.2.2.2.2.2.2.2.2.2.2.2.2.2.2.2.1) (hr.2.2.2.2.2.2.2.2.2.2.2.2.2.2.2.2.2.2.2.2.2.1) (hr.2.2.2.2.2.2.2.2.2.2.2.2.2.2.2.2.2.2.2.2.2.2.1) (hr.2.2.2.2.2.2.2.2.2.2.2.2.2.2.2.2.2.2.2.2.2.2.2.1) (hr.2.2.2.2.2.2.2.2.2.2.2.2.2.2.2.2.2.2.2.2.2.2.2.2.1) (hr.2.2.2.2.2.2.2.2.2.2.2.2.2.2.2.2.2.2.2.2.2.2.2.2.2.1) (hr.2.2.2.2.2.2.2.2.2.2.2.2.2.2.2.2.2.2.2.2.2.2.2.2.2.2) hgr, ⟨rfl, rfl, hP, hKc, hD.weaken (fun _ _ _ _ => trivial)⟩, fun o t hq => ?_, xA_of hD⟩
  obtain ⟨⟨r, u, ho, hw, hB⟩, hF⟩ := hq
  obtain ⟨z54, z0, z46, z61, ⟨hP1, -, hD1⟩, hz46, hz61, xh_0⟩ := hB
  have hF2 := xF_of hD hF
  have hD3 : va_D MA (mo_w ad (mck kI kB) z0 (nI (nv 0)) (nI (nv 1)) (nI (nv 2)) (iv 1) (nI (nv 3)) (nI (nv 4)) (iv 2) (iv 3) (iv 4) (nI (nv 5)) (iv 5) (nI (nv 6)) (nI (nv 7)) (nI (nv 8)) (nI (nv 9)) (iv 6) (nI z46) (nI (nv 11)) (nI (nv 12)) (nI z61) (nI (nv 14)) (nI (nv 15)) (nI (nv 16)) (iv 7) (fv 0) (fv 1) (fv 2) (bN 3 (qv 0)) (bN 7 (qv 1)) (bN 7 (qv 2)) (bN 4 (qv 3)) (fv 3) (bN 2 (qv 4)) (bH (qv 5)) (fv 4) (b2 (nv 17) (nv 18)) (b2 (nv 19) (nv 20)) (b2 (nv 21) (nv 22)) (b2m (nv 23) (nv 24)) (fv 5) (bA 159 (qv 6)) (fv 6) (fv 7) (fv 8) (fv 9) (fv 10) (bN 7 (qv 7)) (fv 11) (fv 12) (fv 13) (b2 (nv 25) (nv 26)) (fv 14) (fv 15) (fv 16) (fv 17) (fv 18) (fv 19) (fv 20) (bN 13 z54) (bN 120 (qv 9)) (bN 120 (qv 10)) (fv 21) (bN 120 (qv 11)) (fv 22) (fv 23) (fv 24)) := vD_fst hD mo_fst
  exact ⟨⟨r, ((fun n => [(nv 0), (nv 1), (nv 2), (nv 3), (nv 4), (nv 5), (nv 6), (nv 7), (nv 8), (nv 9), z46, (nv 11), (nv 12), z61, (nv 14), (nv 15), (nv 16), (nv 17), (nv 18), (nv 19), (nv 20), (nv 21), (nv 22), (nv 23), (nv 24), (nv 25), (nv 26)].getD n 0), (fun n => [z0, (iv 1), (iv 2), (iv 3), (iv 4), (iv 5), (iv 6), (iv 7)].getD n 0), fv, (fun n => [(qv 0), (qv 1), (qv 2), (qv 3), (qv 4), (qv 5), (qv 6), (qv 7), z54, (qv 9), (qv 10), (qv 11)].getD n (fun _ => 0))), ho, ⟨z54, z0, z46, z61, Prod.ext hw xh_0, rfl⟩, ⟨⟨⟨(hr.1), (hr.2.1), (hr.2.2.1), (hr.2.2.2.1), (hr.2.2.2.2.1), (hr.2.2.2.2.2.1), (hr.2.2.2.2.2.2.1), (hr.2.2.2.2.2.2.2.1), (hr.2.2.2.2.2.2.2.2.1), (hr.2.2.2.2.2.2.2.2.2.1), hz46, (hr.2.2.2.2.2.2.2.2.2.2.2.1), (hr.2.2.2.2.2.2.2.2.2.2.2.2.1), hz61, (hr.2.2.2.2.2.2.2.2.2.2.2.2.2.2.1), (hr.2.2.2.2.2.2.2.2.2.2.2.2.2.2.2.1), (hr.2.2.2.2.2.2.2.2.2.2.2.2.2.2.2.2.1), (hr.2.2.2.2.2.2.2.2.2.2.2.2.2.2.2.2.2.1), (hr.2.2.2.2.2.2.2.2.2.2.2.2.2.2.2.2.2.2.1), (hr.2.2.2.2.2.2.2.2.2.2.2.2.2.2.2.2.2.2.2.1), (hr.2.2.2.2.2.2.2.2.2.2.2.2.2.2.2.2.2.2.2.2.1), (hr.2.2.2.2.2.2.2.2.2.2.2.2.2.2.2.2.2.2.2.2.2.1), (hr.2.2.2.2.2.2.2.2.2.2.2.2.2.2.2.2.2.2.2.2.2.2.1), (hr.2.2.2.2.2.2.2.2.2.2.2.2.2.2.2.2.2.2.2.2.2.2.2.1), (hr.2.2.2.2.2.2.2.2.2.2.2.2.2.2.2.2.2.2.2.2.2.2.2.2.1), (hr.2.2.2.2.2.2.2.2.2.2.2.2.2.2.2.2.2.2.2.2.2.2.2.2.2.1), (hr.2.2.2.2.2.2.2.2.2.2.2.2.2.2.2.2.2.2.2.2.2.2.2.2.2.2)⟩, hbg, hgr⟩, ad, rfl, hP1, hD3⟩⟩, hF2⟩
def mM_when (S : CMx) (p0 : Int32) (p1 : Int32) (r : Int32) (u : CMx) : Prop := (fun (nv, iv, fv, qv) => ∃ (z54 : Nat → Nat) (z55 : Nat → Nat) (z56 : Nat → Nat) (z57 : Nat → Int32) (z58 : Nat → Nat) (z59 : Nat → Int32) (z0 : Int32) (z46 : Nat) (z61 : Nat) (z62 : Nat) (z63 : Nat), ((r, z54, z55, z56, z57, z58, z59, z0, z46, z61, z62, z63) = (sp_EM_when (nv 0) (nv 7) (nv 13) (nv 14) (nv 15) (fv 2) (qv 0) (qv 1) (qv 2) (qv 3) (fv 3) (qv 4) (qv 5) (fv 4) (nv 17) (nv 18) (nv 19) (nv 20) (nv 21) (nv 22) (nv 23) (nv 24) (fv 11) (fv 12) (fv 13) (nv 25) (qv 8) (qv 9) (qv 10) (fv 21) (qv 11) (fv 22) p0 p1)) ∧ u = ((fun n => [(nv 0), (nv 1), (nv 2), (nv 3), (nv 4), (nv 5), (nv 6), (nv 7), (nv 8), (nv 9), z46, (nv 11), (nv 12), z61, z62, z63, (nv 16), (nv 17), (nv 18), (nv 19), (nv 20), (nv 21), (nv 22), (nv 23), (nv 24), (nv 25), (nv 26)].getD n 0), (fun n => [z0, (iv 1), (iv 2), (iv 3), (iv 4), (iv 5), (iv 6), (iv 7)].getD n 0), (fun n => [(fv 0), (fv 1), (fv 2), (fv 3), (fv 4), (fv 5), (fv 6), (fv 7), (fv 8), (fv 9), (fv 10), (fv 11), (fv 12), (fv 13), (fv 14), (fv 15), (fv 16), (fv 17), (fv 18), (fv 19), (fv 20), z57, z59, (fv 23), (fv 24)].getD n (fun _ => 0)), (fun n => [(qv 0), (qv 1), (qv 2), (qv 3), (qv 4), (qv 5), (qv 6), (qv 7), z54, z55, z56, z58].getD n (fun _ => 0)))) S
set_option maxHeartbeats 4000000 in
set_option maxRecDepth 100000 in
theorem k_X9_when (l : Launch) (dC : Nat → ClassId) (dI : Nat → Nat → Nat) (sz : Nat) (kI kB kQ : ClassId) (ma : Nat) (MA : Nat → Prop) (S : CMx) (p0 : Int32) (p1 : Int32) : Met l yX9_when (.code yX9_when cX9_when 3 (some .int) :: VM) ({ frames := 6, cells := 0, slots := 0, locals := 136 }) (va_Pc [.ref ma, .int p0, .int p1] (xB (dC, dI) kI kB kQ (MInv (dC, dI) kI kB ma MA S) sz)) (va_Qi (fun (r : Int32) (u : CMx) => mM_when S p0 p1 r u) (fun u t => MInv (dC, dI) kI kB ma MA u t.heap) (xA MA sz)) 0 0 (xA MA sz) := by
  refine met_by (fun a s h => ?_)
  obtain ⟨rfl, rfl, hJ, hK⟩ := h
  obtain ⟨nv, iv, fv, qv⟩ := S
  obtain ⟨⟨hr, hbg, hgr⟩, ad, rfl, hP, hD⟩ := hJ
  have hKc := mk_K hK
  refine ⟨_, _, _, c_EM_when l dC dI _ ad (mck kI kB) (iv 0) (nv 0) (nv 1) (nv 2) (iv 1) (nv 3) (nv 4) (iv 2) (iv 3) (iv 4) (nv 5) (iv 5) (nv 6) (nv 7) (nv 8) (nv 9) (iv 6) (nv 10) (nv 11) (nv 12) (nv 13) (nv 14) (nv 15) (nv 16) (iv 7) (fv 0) (fv 1) (fv 2) (qv 0) (qv 1) (qv 2) (qv 3) (fv 3) (qv 4) (qv 5) (fv 4) (nv 17) (nv 18) (nv 19) (nv 20) (nv 21) (nv 22) (nv 23) (nv 24) (fv 5) (qv 6) (fv 6) (fv 7) (fv 8) (fv 9) (fv 10) (qv 7) (fv 11) (fv 12) (fv 13) (nv 25) (nv 26) (fv 14) (fv 15) (fv 16) (fv 17) (fv 18) (fv 19) (fv 20) (qv 8) (qv 9) (qv 10) (fv 21) (qv 11) (fv 22) (fv 23) (fv 24) p0 p1 (hr.1) (hr.2.1) (hr.2.2.1) (hr.2.2.2.1) (hr.2.2.2.2.1) (hr.2.2.2.2.2.1) (hr.2.2.2.2.2.2.1) (hr.2.2.2.2.2.2.2.1) (hr.2.2.2.2.2.2.2.2.1) (hr.2.2.2.2.2.2.2.2.2.1) (hr.2.2.2.2.2.2.2.2.2.2.1) (hr.2.2.2.2.2.2.2.2.2.2.2.1) (hr.2.2.2.2.2.2.2.2.2.2.2.2.1) (hr.2.2.2.2.2.2.2.2.2.2.2.2.2.1) (hr.2.2.2.2.2.2.2.2.2.2.2.2.2.2.1) (hr.2.2.2.2.2.2.2.2.2.2.2.2.2.2.2.1) (hr.2.2.2.2.2.2.2.2.2.2.2.2.2.2.2.2.1) (hr.2.2.2.2.2.2.2.2.2.2.2.2.2.2.2.2.2.1) (hr.2.2.2.2.2.2.2.2.2.2.2.2.2.2.2.2.2.2.1) (hr.2.2.2.2.2.2.2.2.2.2.2.2.2.2.2.2.2.2.2.1) (hr.2.2.2.2.2.2.2.2.2.2.2.2.2.2.2.2.2.2.2.2.1) (hr.2.2.2.2.2.2.2.2.2.2.2.2.2.2.2.2.2.2.2.2.2.1) (hr.2.2.2.2.2.2.2.2.2.2.2.2.2.2.2.2.2.2.2.2.2.2.1) (hr.2.2.2.2.2.2.2.2.2.2.2.2.2.2.2.2.2.2.2.2.2.2.2.1) (hr.2.2.2.2.2.2.2.2.2.2.2.2.2.2.2.2.2.2.2.2.2.2.2.2.1) (hr.2.2.2.2.2.2.2.2.2.2.2.2.2.2.2.2.2.2.2.2.2.2.2.2.2.1) (hr.2.2.2.2.2.2.2.2.2.2.2.2.2.2.2.2.2.2.2.2.2.2.2.2.2.2) hbg hgr, ⟨rfl, rfl, hP, hKc, hD.weaken (fun _ _ _ _ => trivial)⟩, fun o t hq => ?_, xA_of hD⟩
  obtain ⟨⟨r, u, ho, hw, hB⟩, hF⟩ := hq
  obtain ⟨z54, z55, z56, z57, z58, z59, z0, z46, z61, z62, z63, ⟨hP1, -, hD1⟩, hz46, hz61, hz62, hz63, xh_0⟩ := hB
  have hF2 := xF_of hD hF
  have hD3 : va_D MA (mo_w ad (mck kI kB) z0 (nI (nv 0)) (nI (nv 1)) (nI (nv 2)) (iv 1) (nI (nv 3)) (nI (nv 4)) (iv 2) (iv 3) (iv 4) (nI (nv 5)) (iv 5) (nI (nv 6)) (nI (nv 7)) (nI (nv 8)) (nI (nv 9)) (iv 6) (nI z46) (nI (nv 11)) (nI (nv 12)) (nI z61) (nI z62) (nI z63) (nI (nv 16)) (iv 7) (fv 0) (fv 1) (fv 2) (bN 3 (qv 0)) (bN 7 (qv 1)) (bN 7 (qv 2)) (bN 4 (qv 3)) (fv 3) (bN 2 (qv 4)) (bH (qv 5)) (fv 4) (b2 (nv 17) (nv 18)) (b2 (nv 19) (nv 20)) (b2 (nv 21) (nv 22)) (b2m (nv 23) (nv 24)) (fv 5) (bA 159 (qv 6)) (fv 6) (fv 7) (fv 8) (fv 9) (fv 10) (bN 7 (qv 7)) (fv 11) (fv 12) (fv 13) (b2 (nv 25) (nv 26)) (fv 14) (fv 15) (fv 16) (fv 17) (fv 18) (fv 19) (fv 20) (bN 13 z54) (bN 120 z55) (bN 120 z56) z57 (bN 120 z58) z59 (fv 23) (fv 24)) := vD_fst hD mo_fst
  exact ⟨⟨r, ((fun n => [(nv 0), (nv 1), (nv 2), (nv 3), (nv 4), (nv 5), (nv 6), (nv 7), (nv 8), (nv 9), z46, (nv 11), (nv 12), z61, z62, z63, (nv 16), (nv 17), (nv 18), (nv 19), (nv 20), (nv 21), (nv 22), (nv 23), (nv 24), (nv 25), (nv 26)].getD n 0), (fun n => [z0, (iv 1), (iv 2), (iv 3), (iv 4), (iv 5), (iv 6), (iv 7)].getD n 0), (fun n => [(fv 0), (fv 1), (fv 2), (fv 3), (fv 4), (fv 5), (fv 6), (fv 7), (fv 8), (fv 9), (fv 10), (fv 11), (fv 12), (fv 13), (fv 14), (fv 15), (fv 16), (fv 17), (fv 18), (fv 19), (fv 20), z57, z59, (fv 23), (fv 24)].getD n (fun _ => 0)), (fun n => [(qv 0), (qv 1), (qv 2), (qv 3), (qv 4), (qv 5), (qv 6), (qv 7), z54, z55, z56, z58].getD n (fun _ => 0))), ho, ⟨z54, z55, z56, z57, z58, z59, z0, z46, z61, z62, z63, Prod.ext hw xh_0, rfl⟩, ⟨⟨⟨(hr.1), (hr.2.1), (hr.2.2.1), (hr.2.2.2.1), (hr.2.2.2.2.1), (hr.2.2.2.2.2.1), (hr.2.2.2.2.2.2.1), (hr.2.2.2.2.2.2.2.1), (hr.2.2.2.2.2.2.2.2.1), (hr.2.2.2.2.2.2.2.2.2.1), hz46, (hr.2.2.2.2.2.2.2.2.2.2.2.1), (hr.2.2.2.2.2.2.2.2.2.2.2.2.1), hz61, hz62, hz63, (hr.2.2.2.2.2.2.2.2.2.2.2.2.2.2.2.2.1), (hr.2.2.2.2.2.2.2.2.2.2.2.2.2.2.2.2.2.1), (hr.2.2.2.2.2.2.2.2.2.2.2.2.2.2.2.2.2.2.1), (hr.2.2.2.2.2.2.2.2.2.2.2.2.2.2.2.2.2.2.2.1), (hr.2.2.2.2.2.2.2.2.2.2.2.2.2.2.2.2.2.2.2.2.1), (hr.2.2.2.2.2.2.2.2.2.2.2.2.2.2.2.2.2.2.2.2.2.1), (hr.2.2.2.2.2.2.2.2.2.2.2.2.2.2.2.2.2.2.2.2.2.2.1), (hr.2.2.2.2.2.2.2.2.2.2.2.2.2.2.2.2.2.2.2.2.2.2.2.1), (hr.2.2.2.2.2.2.2.2.2.2.2.2.2.2.2.2.2.2.2.2.2.2.2.2.1), (hr.2.2.2.2.2.2.2.2.2.2.2.2.2.2.2.2.2.2.2.2.2.2.2.2.2.1), (hr.2.2.2.2.2.2.2.2.2.2.2.2.2.2.2.2.2.2.2.2.2.2.2.2.2.2)⟩, hbg, hgr⟩, ad, rfl, hP1, hD3⟩⟩, hF2⟩
def mM_then (S : CMx) (p0 : Int32) (p1 : Int32) (p2 : Int32) (r : Int32) (u : CMx) : Prop := (fun (nv, iv, fv, qv) => ∃ (z54 : Nat → Nat) (z55 : Nat → Nat) (z56 : Nat → Nat) (z57 : Nat → Int32) (z58 : Nat → Nat) (z59 : Nat → Int32) (z0 : Int32) (z46 : Nat) (z61 : Nat) (z62 : Nat) (z63 : Nat), ((r, z54, z55, z56, z57, z58, z59, z0, z46, z61, z62, z63) = (sp_EM_then (nv 0) (nv 7) (nv 13) (nv 14) (nv 15) (fv 2) (qv 0) (qv 1) (qv 2) (qv 3) (fv 3) (qv 4) (qv 5) (fv 4) (nv 17) (nv 18) (nv 19) (nv 20) (nv 21) (nv 22) (nv 23) (nv 24) (fv 11) (fv 12) (fv 13) (nv 25) (qv 8) (qv 9) (qv 10) (fv 21) (qv 11) (fv 22) p0 p1 p2)) ∧ u = ((fun n => [(nv 0), (nv 1), (nv 2), (nv 3), (nv 4), (nv 5), (nv 6), (nv 7), (nv 8), (nv 9), z46, (nv 11), (nv 12), z61, z62, z63, (nv 16), (nv 17), (nv 18), (nv 19), (nv 20), (nv 21), (nv 22), (nv 23), (nv 24), (nv 25), (nv 26)].getD n 0), (fun n => [z0, (iv 1), (iv 2), (iv 3), (iv 4), (iv 5), (iv 6), (iv 7)].getD n 0), (fun n => [(fv 0), (fv 1), (fv 2), (fv 3), (fv 4), (fv 5), (fv 6), (fv 7), (fv 8), (fv 9), (fv 10), (fv 11), (fv 12), (fv 13), (fv 14), (fv 15), (fv 16), (fv 17), (fv 18), (fv 19), (fv 20), z57, z59, (fv 23), (fv 24)].getD n (fun _ => 0)), (fun n => [(qv 0), (qv 1), (qv 2), (qv 3), (qv 4), (qv 5), (qv 6), (qv 7), z54, z55, z56, z58].getD n (fun _ => 0)))) S
set_option maxHeartbeats 4000000 in
set_option maxRecDepth 100000 in
theorem k_X9_then (l : Launch) (dC : Nat → ClassId) (dI : Nat → Nat → Nat) (sz : Nat) (kI kB kQ : ClassId) (ma : Nat) (MA : Nat → Prop) (S : CMx) (p0 : Int32) (p1 : Int32) (p2 : Int32) : Met l yX9_then (.code yX9_then cX9_then 6 (some .int) :: VM) ({ frames := 6, cells := 0, slots := 0, locals := 136 }) (va_Pc [.ref ma, .int p0, .int p1, .int p2] (xB (dC, dI) kI kB kQ (MInv (dC, dI) kI kB ma MA S) sz)) (va_Qi (fun (r : Int32) (u : CMx) => mM_then S p0 p1 p2 r u) (fun u t => MInv (dC, dI) kI kB ma MA u t.heap) (xA MA sz)) 0 0 (xA MA sz) := by
  refine met_by (fun a s h => ?_)
  obtain ⟨rfl, rfl, hJ, hK⟩ := h
  obtain ⟨nv, iv, fv, qv⟩ := S
  obtain ⟨⟨hr, hbg, hgr⟩, ad, rfl, hP, hD⟩ := hJ
  have hKc := mk_K hK
  refine ⟨_, _, _, c_EM_then l dC dI _ ad (mck kI kB) (iv 0) (nv 0) (nv 1) (nv 2) (iv 1) (nv 3) (nv 4) (iv 2) (iv 3) (iv 4) (nv 5) (iv 5) (nv 6) (nv 7) (nv 8) (nv 9) (iv 6) (nv 10) (nv 11) (nv 12) (nv 13) (nv 14) (nv 15) (nv 16) (iv 7) (fv 0) (fv 1) (fv 2) (qv 0) (qv 1) (qv 2) (qv 3) (fv 3) (qv 4) (qv 5) (fv 4) (nv 17) (nv 18) (nv 19) (nv 20) (nv 21) (nv 22) (nv 23) (nv 24) (fv 5) (qv 6) (fv 6) (fv 7) (fv 8) (fv 9) (fv 10) (qv 7) (fv 11) (fv 12) (fv 13) (nv 25) (nv 26) (fv 14) (fv 15) (fv 16) (fv 17) (fv 18) (fv 19) (fv 20) (qv 8) (qv 9) (qv 10) (fv 21) (qv 11) (fv 22) (fv 23) (fv 24) p0 p1 p2 (hr.1) (hr.2.1) (hr.2.2.1) (hr.2.2.2.1) (hr.2.2.2.2.1) (hr.2.2.2.2.2.1) (hr.2.2.2.2.2.2.1) (hr.2.2.2.2.2.2.2.1) (hr.2.2.2.2.2.2.2.2.1) (hr.2.2.2.2.2.2.2.2.2.1) (hr.2.2.2.2.2.2.2.2.2.2.1) (hr.2.2.2.2.2.2.2.2.2.2.2.1) (hr.2.2.2.2.2.2.2.2.2.2.2.2.1) (hr.2.2.2.2.2.2.2.2.2.2.2.2.2.1) (hr.2.2.2.2.2.2.2.2.2.2.2.2.2.2.1) (hr.2.2.2.2.2.2.2.2.2.2.2.2.2.2.2.1) (hr.2.2.2.2.2.2.2.2.2.2.2.2.2.2.2.2.1) (hr.2.2.2.2.2.2.2.2.2.2.2.2.2.2.2.2.2.1) (hr.2.2.2.2.2.2.2.2.2.2.2.2.2.2.2.2.2.2.1) (hr.2.2.2.2.2.2.2.2.2.2.2.2.2.2.2.2.2.2.2.1) (hr.2.2.2.2.2.2.2.2.2.2.2.2.2.2.2.2.2.2.2.2.1) (hr.2.2.2.2.2.2.2.2.2.2.2.2.2.2.2.2.2.2.2.2.2.1) (hr.2.2.2.2.2.2.2.2.2.2.2.2.2.2.2.2.2.2.2.2.2.2.1) (hr.2.2.2.2.2.2.2.2.2.2.2.2.2.2.2.2.2.2.2.2.2.2.2.1) (hr.2.2.2.2.2.2.2.2.2.2.2.2.2.2.2.2.2.2.2.2.2.2.2.2.1) (hr.2.2.2.2.2.2.2.2.2.2.2.2.2.2.2.2.2.2.2.2.2.2.2.2.2.1) (hr.2.2.2.2.2.2.2.2.2.2.2.2.2.2.2.2.2.2.2.2.2.2.2.2.2.2) hbg hgr, ⟨rfl, rfl, hP, hKc, hD.weaken (fun _ _ _ _ => trivial)⟩, fun o t hq => ?_, xA_of hD⟩
  obtain ⟨⟨r, u, ho, hw, hB⟩, hF⟩ := hq
  obtain ⟨z54, z55, z56, z57, z58, z59, z0, z46, z61, z62, z63, ⟨hP1, -, hD1⟩, hz46, hz61, hz62, hz63, xh_0⟩ := hB
  have hF2 := xF_of hD hF
  have hD3 : va_D MA (mo_w ad (mck kI kB) z0 (nI (nv 0)) (nI (nv 1)) (nI (nv 2)) (iv 1) (nI (nv 3)) (nI (nv 4)) (iv 2) (iv 3) (iv 4) (nI (nv 5)) (iv 5) (nI (nv 6)) (nI (nv 7)) (nI (nv 8)) (nI (nv 9)) (iv 6) (nI z46) (nI (nv 11)) (nI (nv 12)) (nI z61) (nI z62) (nI z63) (nI (nv 16)) (iv 7) (fv 0) (fv 1) (fv 2) (bN 3 (qv 0)) (bN 7 (qv 1)) (bN 7 (qv 2)) (bN 4 (qv 3)) (fv 3) (bN 2 (qv 4)) (bH (qv 5)) (fv 4) (b2 (nv 17) (nv 18)) (b2 (nv 19) (nv 20)) (b2 (nv 21) (nv 22)) (b2m (nv 23) (nv 24)) (fv 5) (bA 159 (qv 6)) (fv 6) (fv 7) (fv 8) (fv 9) (fv 10) (bN 7 (qv 7)) (fv 11) (fv 12) (fv 13) (b2 (nv 25) (nv 26)) (fv 14) (fv 15) (fv 16) (fv 17) (fv 18) (fv 19) (fv 20) (bN 13 z54) (bN 120 z55) (bN 120 z56) z57 (bN 120 z58) z59 (fv 23) (fv 24)) := vD_fst hD mo_fst
  exact ⟨⟨r, ((fun n => [(nv 0), (nv 1), (nv 2), (nv 3), (nv 4), (nv 5), (nv 6), (nv 7), (nv 8), (nv 9), z46, (nv 11), (nv 12), z61, z62, z63, (nv 16), (nv 17), (nv 18), (nv 19), (nv 20), (nv 21), (nv 22), (nv 23), (nv 24), (nv 25), (nv 26)].getD n 0), (fun n => [z0, (iv 1), (iv 2), (iv 3), (iv 4), (iv 5), (iv 6), (iv 7)].getD n 0), (fun n => [(fv 0), (fv 1), (fv 2), (fv 3), (fv 4), (fv 5), (fv 6), (fv 7), (fv 8), (fv 9), (fv 10), (fv 11), (fv 12), (fv 13), (fv 14), (fv 15), (fv 16), (fv 17), (fv 18), (fv 19), (fv 20), z57, z59, (fv 23), (fv 24)].getD n (fun _ => 0)), (fun n => [(qv 0), (qv 1), (qv 2), (qv 3), (qv 4), (qv 5), (qv 6), (qv 7), z54, z55, z56, z58].getD n (fun _ => 0))), ho, ⟨z54, z55, z56, z57, z58, z59, z0, z46, z61, z62, z63, Prod.ext hw xh_0, rfl⟩, ⟨⟨⟨(hr.1), (hr.2.1), (hr.2.2.1), (hr.2.2.2.1), (hr.2.2.2.2.1), (hr.2.2.2.2.2.1), (hr.2.2.2.2.2.2.1), (hr.2.2.2.2.2.2.2.1), (hr.2.2.2.2.2.2.2.2.1), (hr.2.2.2.2.2.2.2.2.2.1), hz46, (hr.2.2.2.2.2.2.2.2.2.2.2.1), (hr.2.2.2.2.2.2.2.2.2.2.2.2.1), hz61, hz62, hz63, (hr.2.2.2.2.2.2.2.2.2.2.2.2.2.2.2.2.1), (hr.2.2.2.2.2.2.2.2.2.2.2.2.2.2.2.2.2.1), (hr.2.2.2.2.2.2.2.2.2.2.2.2.2.2.2.2.2.2.1), (hr.2.2.2.2.2.2.2.2.2.2.2.2.2.2.2.2.2.2.2.1), (hr.2.2.2.2.2.2.2.2.2.2.2.2.2.2.2.2.2.2.2.2.1), (hr.2.2.2.2.2.2.2.2.2.2.2.2.2.2.2.2.2.2.2.2.2.1), (hr.2.2.2.2.2.2.2.2.2.2.2.2.2.2.2.2.2.2.2.2.2.2.1), (hr.2.2.2.2.2.2.2.2.2.2.2.2.2.2.2.2.2.2.2.2.2.2.2.1), (hr.2.2.2.2.2.2.2.2.2.2.2.2.2.2.2.2.2.2.2.2.2.2.2.2.1), (hr.2.2.2.2.2.2.2.2.2.2.2.2.2.2.2.2.2.2.2.2.2.2.2.2.2.1), (hr.2.2.2.2.2.2.2.2.2.2.2.2.2.2.2.2.2.2.2.2.2.2.2.2.2.2)⟩, hbg, hgr⟩, ad, rfl, hP1, hD3⟩⟩, hF2⟩
def mM_spans (S : CMx) (p0 : Int32) (p1 : Int32) (r : Int32) (u : CMx) : Prop := (fun (nv, iv, fv, qv) => ∃ (z54 : Nat → Nat) (z55 : Nat → Nat) (z56 : Nat → Nat) (z57 : Nat → Int32) (z58 : Nat → Nat) (z60 : Nat → Int32) (z0 : Int32) (z46 : Nat) (z61 : Nat) (z62 : Nat) (z63 : Nat), ((r, z54, z55, z56, z57, z58, z60, z0, z46, z61, z62, z63) = (sp_EM_spans (nv 0) (nv 7) (nv 13) (nv 14) (nv 15) (fv 2) (qv 0) (qv 1) (qv 2) (qv 3) (fv 3) (qv 4) (qv 5) (fv 4) (nv 17) (nv 18) (nv 19) (nv 20) (nv 21) (nv 22) (nv 23) (nv 24) (fv 11) (fv 12) (fv 13) (nv 25) (qv 8) (qv 9) (qv 10) (fv 21) (qv 11) (fv 23) p0 p1)) ∧ u = ((fun n => [(nv 0), (nv 1), (nv 2), (nv 3), (nv 4), (nv 5), (nv 6), (nv 7), (nv 8), (nv 9), z46, (nv 11), (nv 12), z61, z62, z63, (nv 16), (nv 17), (nv 18), (nv 19), (nv 20), (nv 21), (nv 22), (nv 23), (nv 24), (nv 25), (nv 26)].getD n 0), (fun n => [z0, (iv 1), (iv 2), (iv 3), (iv 4), (iv 5), (iv 6), (iv 7)].getD n 0), (fun n => [(fv 0), (fv 1), (fv 2), (fv 3), (fv 4), (fv 5), (fv 6), (fv 7), (fv 8), (fv 9), (fv 10), (fv 11), (fv 12), (fv 13), (fv 14), (fv 15), (fv 16), (fv 17), (fv 18), (fv 19), (fv 20), z57, (fv 22), z60, (fv 24)].getD n (fun _ => 0)), (fun n => [(qv 0), (qv 1), (qv 2), (qv 3), (qv 4), (qv 5), (qv 6), (qv 7), z54, z55, z56, z58].getD n (fun _ => 0)))) S
set_option maxHeartbeats 4000000 in
set_option maxRecDepth 100000 in
theorem k_X9_spans (l : Launch) (dC : Nat → ClassId) (dI : Nat → Nat → Nat) (sz : Nat) (kI kB kQ : ClassId) (ma : Nat) (MA : Nat → Prop) (S : CMx) (p0 : Int32) (p1 : Int32) : Met l yX9_spans (.code yX9_spans cX9_spans 3 (some .int) :: VM) ({ frames := 6, cells := 0, slots := 0, locals := 138 }) (va_Pc [.ref ma, .int p0, .int p1] (xB (dC, dI) kI kB kQ (MInv (dC, dI) kI kB ma MA S) sz)) (va_Qi (fun (r : Int32) (u : CMx) => mM_spans S p0 p1 r u) (fun u t => MInv (dC, dI) kI kB ma MA u t.heap) (xA MA sz)) 0 0 (xA MA sz) := by
  refine met_by (fun a s h => ?_)
  obtain ⟨rfl, rfl, hJ, hK⟩ := h
  obtain ⟨nv, iv, fv, qv⟩ := S
  obtain ⟨⟨hr, hbg, hgr⟩, ad, rfl, hP, hD⟩ := hJ
  have hKc := mk_K hK
  refine ⟨_, _, _, c_EM_spans l dC dI _ ad (mck kI kB) (iv 0) (nv 0) (nv 1) (nv 2) (iv 1) (nv 3) (nv 4) (iv 2) (iv 3) (iv 4) (nv 5) (iv 5) (nv 6) (nv 7) (nv 8) (nv 9) (iv 6) (nv 10) (nv 11) (nv 12) (nv 13) (nv 14) (nv 15) (nv 16) (iv 7) (fv 0) (fv 1) (fv 2) (qv 0) (qv 1) (qv 2) (qv 3) (fv 3) (qv 4) (qv 5) (fv 4) (nv 17) (nv 18) (nv 19) (nv 20) (nv 21) (nv 22) (nv 23) (nv 24) (fv 5) (qv 6) (fv 6) (fv 7) (fv 8) (fv 9) (fv 10) (qv 7) (fv 11) (fv 12) (fv 13) (nv 25) (nv 26) (fv 14) (fv 15) (fv 16) (fv 17) (fv 18) (fv 19) (fv 20) (qv 8) (qv 9) (qv 10) (fv 21) (qv 11) (fv 22) (fv 23) (fv 24) p0 p1 (hr.1) (hr.2.1) (hr.2.2.1) (hr.2.2.2.1) (hr.2.2.2.2.1) (hr.2.2.2.2.2.1) (hr.2.2.2.2.2.2.1) (hr.2.2.2.2.2.2.2.1) (hr.2.2.2.2.2.2.2.2.1) (hr.2.2.2.2.2.2.2.2.2.1) (hr.2.2.2.2.2.2.2.2.2.2.1) (hr.2.2.2.2.2.2.2.2.2.2.2.1) (hr.2.2.2.2.2.2.2.2.2.2.2.2.1) (hr.2.2.2.2.2.2.2.2.2.2.2.2.2.1) (hr.2.2.2.2.2.2.2.2.2.2.2.2.2.2.1) (hr.2.2.2.2.2.2.2.2.2.2.2.2.2.2.2.1) (hr.2.2.2.2.2.2.2.2.2.2.2.2.2.2.2.2.1) (hr.2.2.2.2.2.2.2.2.2.2.2.2.2.2.2.2.2.1) (hr.2.2.2.2.2.2.2.2.2.2.2.2.2.2.2.2.2.2.1) (hr.2.2.2.2.2.2.2.2.2.2.2.2.2.2.2.2.2.2.2.1) (hr.2.2.2.2.2.2.2.2.2.2.2.2.2.2.2.2.2.2.2.2.1) (hr.2.2.2.2.2.2.2.2.2.2.2.2.2.2.2.2.2.2.2.2.2.1) (hr.2.2.2.2.2.2.2.2.2.2.2.2.2.2.2.2.2.2.2.2.2.2.1) (hr.2.2.2.2.2.2.2.2.2.2.2.2.2.2.2.2.2.2.2.2.2.2.2.1) (hr.2.2.2.2.2.2.2.2.2.2.2.2.2.2.2.2.2.2.2.2.2.2.2.2.1) (hr.2.2.2.2.2.2.2.2.2.2.2.2.2.2.2.2.2.2.2.2.2.2.2.2.2.1) (hr.2.2.2.2.2.2.2.2.2.2.2.2.2.2.2.2.2.2.2.2.2.2.2.2.2.2) hbg hgr, ⟨rfl, rfl, hP, hKc, hD.weaken (fun _ _ _ _ => trivial)⟩, fun o t hq => ?_, xA_of hD⟩
  obtain ⟨⟨r, u, ho, hw, hB⟩, hF⟩ := hq
  obtain ⟨z54, z55, z56, z57, z58, z60, z0, z46, z61, z62, z63, ⟨hP1, -, hD1⟩, hz46, hz61, hz62, hz63, xh_0⟩ := hB
  have hF2 := xF_of hD hF
  have hD3 : va_D MA (mo_w ad (mck kI kB) z0 (nI (nv 0)) (nI (nv 1)) (nI (nv 2)) (iv 1) (nI (nv 3)) (nI (nv 4)) (iv 2) (iv 3) (iv 4) (nI (nv 5)) (iv 5) (nI (nv 6)) (nI (nv 7)) (nI (nv 8)) (nI (nv 9)) (iv 6) (nI z46) (nI (nv 11)) (nI (nv 12)) (nI z61) (nI z62) (nI z63) (nI (nv 16)) (iv 7) (fv 0) (fv 1) (fv 2) (bN 3 (qv 0)) (bN 7 (qv 1)) (bN 7 (qv 2)) (bN 4 (qv 3)) (fv 3) (bN 2 (qv 4)) (bH (qv 5)) (fv 4) (b2 (nv 17) (nv 18)) (b2 (nv 19) (nv 20)) (b2 (nv 21) (nv 22)) (b2m (nv 23) (nv 24)) (fv 5) (bA 159 (qv 6)) (fv 6) (fv 7) (fv 8) (fv 9) (fv 10) (bN 7 (qv 7)) (fv 11) (fv 12) (fv 13) (b2 (nv 25) (nv 26)) (fv 14) (fv 15) (fv 16) (fv 17) (fv 18) (fv 19) (fv 20) (bN 13 z54) (bN 120 z55) (bN 120 z56) z57 (bN 120 z58) (fv 22) z60 (fv 24)) := vD_fst hD mo_fst
  exact ⟨⟨r, ((fun n => [(nv 0), (nv 1), (nv 2), (nv 3), (nv 4), (nv 5), (nv 6), (nv 7), (nv 8), (nv 9), z46, (nv 11), (nv 12), z61, z62, z63, (nv 16), (nv 17), (nv 18), (nv 19), (nv 20), (nv 21), (nv 22), (nv 23), (nv 24), (nv 25), (nv 26)].getD n 0), (fun n => [z0, (iv 1), (iv 2), (iv 3), (iv 4), (iv 5), (iv 6), (iv 7)].getD n 0), (fun n => [(fv 0), (fv 1), (fv 2), (fv 3), (fv 4), (fv 5), (fv 6), (fv 7), (fv 8), (fv 9), (fv 10), (fv 11), (fv 12), (fv 13), (fv 14), (fv 15), (fv 16), (fv 17), (fv 18), (fv 19), (fv 20), z57, (fv 22), z60, (fv 24)].getD n (fun _ => 0)), (fun n => [(qv 0), (qv 1), (qv 2), (qv 3), (qv 4), (qv 5), (qv 6), (qv 7), z54, z55, z56, z58].getD n (fun _ => 0))), ho, ⟨z54, z55, z56, z57, z58, z60, z0, z46, z61, z62, z63, Prod.ext hw xh_0, rfl⟩, ⟨⟨⟨(hr.1), (hr.2.1), (hr.2.2.1), (hr.2.2.2.1), (hr.2.2.2.2.1), (hr.2.2.2.2.2.1), (hr.2.2.2.2.2.2.1), (hr.2.2.2.2.2.2.2.1), (hr.2.2.2.2.2.2.2.2.1), (hr.2.2.2.2.2.2.2.2.2.1), hz46, (hr.2.2.2.2.2.2.2.2.2.2.2.1), (hr.2.2.2.2.2.2.2.2.2.2.2.2.1), hz61, hz62, hz63, (hr.2.2.2.2.2.2.2.2.2.2.2.2.2.2.2.2.1), (hr.2.2.2.2.2.2.2.2.2.2.2.2.2.2.2.2.2.1), (hr.2.2.2.2.2.2.2.2.2.2.2.2.2.2.2.2.2.2.1), (hr.2.2.2.2.2.2.2.2.2.2.2.2.2.2.2.2.2.2.2.1), (hr.2.2.2.2.2.2.2.2.2.2.2.2.2.2.2.2.2.2.2.2.1), (hr.2.2.2.2.2.2.2.2.2.2.2.2.2.2.2.2.2.2.2.2.2.1), (hr.2.2.2.2.2.2.2.2.2.2.2.2.2.2.2.2.2.2.2.2.2.2.1), (hr.2.2.2.2.2.2.2.2.2.2.2.2.2.2.2.2.2.2.2.2.2.2.2.1), (hr.2.2.2.2.2.2.2.2.2.2.2.2.2.2.2.2.2.2.2.2.2.2.2.2.1), (hr.2.2.2.2.2.2.2.2.2.2.2.2.2.2.2.2.2.2.2.2.2.2.2.2.2.1), (hr.2.2.2.2.2.2.2.2.2.2.2.2.2.2.2.2.2.2.2.2.2.2.2.2.2.2)⟩, hbg, hgr⟩, ad, rfl, hP1, hD3⟩⟩, hF2⟩
def mM_tells (S : CMx) (p0 : Int32) (p1 : Int32) (p2 : Int32) (p3 : Int32) (p4 : Int32) (p5 : Int32) (r : Int32) (u : CMx) : Prop := (fun (nv, iv, fv, qv) => ∃ (z54 : Nat → Nat) (z55 : Nat → Nat) (z56 : Nat → Nat) (z57 : Nat → Int32) (z58 : Nat → Nat) (z60 : Nat → Int32) (z0 : Int32) (z61 : Nat) (z62 : Nat) (z63 : Nat), ((r, z54, z55, z56, z57, z58, z60, z0, z61, z62, z63) = (sp_EM_tells (nv 0) (nv 13) (nv 14) (nv 15) (fv 2) (qv 0) (qv 1) (qv 2) (qv 3) (fv 3) (qv 4) (qv 5) (fv 4) (nv 17) (nv 18) (nv 19) (nv 20) (nv 21) (nv 22) (nv 23) (nv 24) (qv 8) (qv 9) (qv 10) (fv 21) (qv 11) (fv 23) p0 p1 p2 p3 p4 p5)) ∧ u = ((fun n => [(nv 0), (nv 1), (nv 2), (nv 3), (nv 4), (nv 5), (nv 6), (nv 7), (nv 8), (nv 9), (nv 10), (nv 11), (nv 12), z61, z62, z63, (nv 16), (nv 17), (nv 18), (nv 19), (nv 20), (nv 21), (nv 22), (nv 23), (nv 24), (nv 25), (nv 26)].getD n 0), (fun n => [z0, (iv 1), (iv 2), (iv 3), (iv 4), (iv 5), (iv 6), (iv 7)].getD n 0), (fun n => [(fv 0), (fv 1), (fv 2), (fv 3), (fv 4), (fv 5), (fv 6), (fv 7), (fv 8), (fv 9), (fv 10), (fv 11), (fv 12), (fv 13), (fv 14), (fv 15), (fv 16), (fv 17), (fv 18), (fv 19), (fv 20), z57, (fv 22), z60, (fv 24)].getD n (fun _ => 0)), (fun n => [(qv 0), (qv 1), (qv 2), (qv 3), (qv 4), (qv 5), (qv 6), (qv 7), z54, z55, z56, z58].getD n (fun _ => 0)))) S
set_option maxHeartbeats 4000000 in
set_option maxRecDepth 100000 in
theorem k_X9_tells (l : Launch) (dC : Nat → ClassId) (dI : Nat → Nat → Nat) (sz : Nat) (kI kB kQ : ClassId) (ma : Nat) (MA : Nat → Prop) (S : CMx) (p0 : Int32) (p1 : Int32) (p2 : Int32) (p3 : Int32) (p4 : Int32) (p5 : Int32) : Met l yX9_tells (.code yX9_tells cX9_tells 10 (some .int) :: VM) ({ frames := 6, cells := 0, slots := 0, locals := 138 }) (va_Pc [.ref ma, .int p0, .int p1, .int p2, .int p3, .int p4, .int p5] (xB (dC, dI) kI kB kQ (MInv (dC, dI) kI kB ma MA S) sz)) (va_Qi (fun (r : Int32) (u : CMx) => mM_tells S p0 p1 p2 p3 p4 p5 r u) (fun u t => MInv (dC, dI) kI kB ma MA u t.heap) (xA MA sz)) 0 0 (xA MA sz) := by
  refine met_by (fun a s h => ?_)
  obtain ⟨rfl, rfl, hJ, hK⟩ := h
  obtain ⟨nv, iv, fv, qv⟩ := S
  obtain ⟨⟨hr, hbg, hgr⟩, ad, rfl, hP, hD⟩ := hJ
  have hKc := mk_K hK
  refine ⟨_, _, _, c_EM_tells l dC dI _ ad (mck kI kB) (iv 0) (nv 0) (nv 1) (nv 2) (iv 1) (nv 3) (nv 4) (iv 2) (iv 3) (iv 4) (nv 5) (iv 5) (nv 6) (nv 7) (nv 8) (nv 9) (iv 6) (nv 10) (nv 11) (nv 12) (nv 13) (nv 14) (nv 15) (nv 16) (iv 7) (fv 0) (fv 1) (fv 2) (qv 0) (qv 1) (qv 2) (qv 3) (fv 3) (qv 4) (qv 5) (fv 4) (nv 17) (nv 18) (nv 19) (nv 20) (nv 21) (nv 22) (nv 23) (nv 24) (fv 5) (qv 6) (fv 6) (fv 7) (fv 8) (fv 9) (fv 10) (qv 7) (fv 11) (fv 12) (fv 13) (nv 25) (nv 26) (fv 14) (fv 15) (fv 16) (fv 17) (fv 18) (fv 19) (fv 20) (qv 8) (qv 9) (qv 10) (fv 21) (qv 11) (fv 22) (fv 23) (fv 24) p0 p1 p2 p3 p4 p5 (hr.1) (hr.2.1) (hr.2.2.1) (hr.2.2.2.1) (hr.2.2.2.2.1) (hr.2.2.2.2.2.1) (hr.2.2.2.2.2.2.1) (hr.2.2.2.2.2.2.2.1) (hr.2.2.2.2.2.2.2.2.1) (hr.2.2.2.2.2.2.2.2.2.1) (hr.2.2.2.2.2.2.2.2.2.2.1) (hr.2.2.2.2.2.2.2.2.2.2.2.1) (hr.2.2.2.2.2.2.2.2.2.2.2.2.1) (hr.2.2.2.2.2.2.2.2.2.2.2.2.2.1) (hr.2.2.2.2.2.2.2.2.2.2.2.2.2.2.1) (hr.2.2.2.2.2.2.2.2.2.2.2.2.2.2.2.1) (hr.2.2.2.2.2.2.2.2.2.2.2.2.2.2.2.2.1) (hr.2.2.2.2.2.2.2.2.2.2.2.2.2.2.2.2.2.1) (hr.2.2.2.2.2.2.2.2.2.2.2.2.2.2.2.2.2.2.1) (hr.2.2.2.2.2.2.2.2.2.2.2.2.2.2.2.2.2.2.2.1) (hr.2.2.2.2.2.2.2.2.2.2.2.2.2.2.2.2.2.2.2.2.1) (hr.2.2.2.2.2.2.2.2.2.2.2.2.2.2.2.2.2.2.2.2.2.1) (hr.2.2.2.2.2.2.2.2.2.2.2.2.2.2.2.2.2.2.2.2.2.2.1) (hr.2.2.2.2.2.2.2.2.2.2.2.2.2.2.2.2.2.2.2.2.2.2.2.1) (hr.2.2.2.2.2.2.2.2.2.2.2.2.2.2.2.2.2.2.2.2.2.2.2.2.1) (hr.2.2.2.2.2.2.2.2.2.2.2.2.2.2.2.2.2.2.2.2.2.2.2.2.2.1) (hr.2.2.2.2.2.2.2.2.2.2.2.2.2.2.2.2.2.2.2.2.2.2.2.2.2.2) hbg, ⟨rfl, rfl, hP, hKc, hD.weaken (fun _ _ _ _ => trivial)⟩, fun o t hq => ?_, xA_of hD⟩
  obtain ⟨⟨r, u, ho, hw, hB⟩, hF⟩ := hq
  obtain ⟨z54, z55, z56, z57, z58, z60, z0, z61, z62, z63, ⟨hP1, -, hD1⟩, hz61, hz62, hz63, xh_0⟩ := hB
  have hF2 := xF_of hD hF
  have hD3 : va_D MA (mo_w ad (mck kI kB) z0 (nI (nv 0)) (nI (nv 1)) (nI (nv 2)) (iv 1) (nI (nv 3)) (nI (nv 4)) (iv 2) (iv 3) (iv 4) (nI (nv 5)) (iv 5) (nI (nv 6)) (nI (nv 7)) (nI (nv 8)) (nI (nv 9)) (iv 6) (nI (nv 10)) (nI (nv 11)) (nI (nv 12)) (nI z61) (nI z62) (nI z63) (nI (nv 16)) (iv 7) (fv 0) (fv 1) (fv 2) (bN 3 (qv 0)) (bN 7 (qv 1)) (bN 7 (qv 2)) (bN 4 (qv 3)) (fv 3) (bN 2 (qv 4)) (bH (qv 5)) (fv 4) (b2 (nv 17) (nv 18)) (b2 (nv 19) (nv 20)) (b2 (nv 21) (nv 22)) (b2m (nv 23) (nv 24)) (fv 5) (bA 159 (qv 6)) (fv 6) (fv 7) (fv 8) (fv 9) (fv 10) (bN 7 (qv 7)) (fv 11) (fv 12) (fv 13) (b2 (nv 25) (nv 26)) (fv 14) (fv 15) (fv 16) (fv 17) (fv 18) (fv 19) (fv 20) (bN 13 z54) (bN 120 z55) (bN 120 z56) z57 (bN 120 z58) (fv 22) z60 (fv 24)) := vD_fst hD mo_fst
  exact ⟨⟨r, ((fun n => [(nv 0), (nv 1), (nv 2), (nv 3), (nv 4), (nv 5), (nv 6), (nv 7), (nv 8), (nv 9), (nv 10), (nv 11), (nv 12), z61, z62, z63, (nv 16), (nv 17), (nv 18), (nv 19), (nv 20), (nv 21), (nv 22), (nv 23), (nv 24), (nv 25), (nv 26)].getD n 0), (fun n => [z0, (iv 1), (iv 2), (iv 3), (iv 4), (iv 5), (iv 6), (iv 7)].getD n 0), (fun n => [(fv 0), (fv 1), (fv 2), (fv 3), (fv 4), (fv 5), (fv 6), (fv 7), (fv 8), (fv 9), (fv 10), (fv 11), (fv 12), (fv 13), (fv 14), (fv 15), (fv 16), (fv 17), (fv 18), (fv 19), (fv 20), z57, (fv 22), z60, (fv 24)].getD n (fun _ => 0)), (fun n => [(qv 0), (qv 1), (qv 2), (qv 3), (qv 4), (qv 5), (qv 6), (qv 7), z54, z55, z56, z58].getD n (fun _ => 0))), ho, ⟨z54, z55, z56, z57, z58, z60, z0, z61, z62, z63, Prod.ext hw xh_0, rfl⟩, ⟨⟨⟨(hr.1), (hr.2.1), (hr.2.2.1), (hr.2.2.2.1), (hr.2.2.2.2.1), (hr.2.2.2.2.2.1), (hr.2.2.2.2.2.2.1), (hr.2.2.2.2.2.2.2.1), (hr.2.2.2.2.2.2.2.2.1), (hr.2.2.2.2.2.2.2.2.2.1), (hr.2.2.2.2.2.2.2.2.2.2.1), (hr.2.2.2.2.2.2.2.2.2.2.2.1), (hr.2.2.2.2.2.2.2.2.2.2.2.2.1), hz61, hz62, hz63, (hr.2.2.2.2.2.2.2.2.2.2.2.2.2.2.2.2.1), (hr.2.2.2.2.2.2.2.2.2.2.2.2.2.2.2.2.2.1), (hr.2.2.2.2.2.2.2.2.2.2.2.2.2.2.2.2.2.2.1), (hr.2.2.2.2.2.2.2.2.2.2.2.2.2.2.2.2.2.2.2.1), (hr.2.2.2.2.2.2.2.2.2.2.2.2.2.2.2.2.2.2.2.2.1), (hr.2.2.2.2.2.2.2.2.2.2.2.2.2.2.2.2.2.2.2.2.2.1), (hr.2.2.2.2.2.2.2.2.2.2.2.2.2.2.2.2.2.2.2.2.2.2.1), (hr.2.2.2.2.2.2.2.2.2.2.2.2.2.2.2.2.2.2.2.2.2.2.2.1), (hr.2.2.2.2.2.2.2.2.2.2.2.2.2.2.2.2.2.2.2.2.2.2.2.2.1), (hr.2.2.2.2.2.2.2.2.2.2.2.2.2.2.2.2.2.2.2.2.2.2.2.2.2.1), (hr.2.2.2.2.2.2.2.2.2.2.2.2.2.2.2.2.2.2.2.2.2.2.2.2.2.2)⟩, hbg, hgr⟩, ad, rfl, hP1, hD3⟩⟩, hF2⟩
def mM_latest (S : CMx) (p0 : Int32) (p1 : Int32) (p2 : Int32) (r : Int32) (u : CMx) : Prop := (fun (nv, iv, fv, qv) => ∃ (z54 : Nat → Nat) (z55 : Nat → Nat) (z56 : Nat → Nat) (z57 : Nat → Int32) (z58 : Nat → Nat) (z59 : Nat → Int32) (z0 : Int32) (z46 : Nat) (z61 : Nat) (z62 : Nat) (z63 : Nat), ((r, z54, z55, z56, z57, z58, z59, z0, z46, z61, z62, z63) = (sp_EM_latest (nv 0) (nv 7) (nv 10) (nv 13) (nv 14) (nv 15) (fv 2) (qv 0) (qv 1) (qv 2) (qv 3) (fv 3) (qv 4) (qv 5) (fv 4) (nv 17) (nv 18) (nv 19) (nv 20) (nv 21) (nv 22) (nv 23) (nv 24) (fv 11) (fv 12) (fv 13) (nv 25) (qv 8) (qv 9) (qv 10) (fv 21) (qv 11) (fv 22) p0 p1 p2)) ∧ u = ((fun n => [(nv 0), (nv 1), (nv 2), (nv 3), (nv 4), (nv 5), (nv 6), (nv 7), (nv 8), (nv 9), z46, (nv 11), (nv 12), z61, z62, z63, (nv 16), (nv 17), (nv 18), (nv 19), (nv 20), (nv 21), (nv 22), (nv 23), (nv 24), (nv 25), (nv 26)].getD n 0), (fun n => [z0, (iv 1), (iv 2), (iv 3), (iv 4), (iv 5), (iv 6), (iv 7)].getD n 0), (fun n => [(fv 0), (fv 1), (fv 2), (fv 3), (fv 4), (fv 5), (fv 6), (fv 7), (fv 8), (fv 9), (fv 10), (fv 11), (fv 12), (fv 13), (fv 14), (fv 15), (fv 16), (fv 17), (fv 18), (fv 19), (fv 20), z57, z59, (fv 23), (fv 24)].getD n (fun _ => 0)), (fun n => [(qv 0), (qv 1), (qv 2), (qv 3), (qv 4), (qv 5), (qv 6), (qv 7), z54, z55, z56, z58].getD n (fun _ => 0)))) S
set_option maxHeartbeats 4000000 in
set_option maxRecDepth 100000 in
theorem k_X9_latest (l : Launch) (dC : Nat → ClassId) (dI : Nat → Nat → Nat) (sz : Nat) (kI kB kQ : ClassId) (ma : Nat) (MA : Nat → Prop) (S : CMx) (p0 : Int32) (p1 : Int32) (p2 : Int32) : Met l yX9_latest (.code yX9_latest cX9_latest 4 (some .int) :: VM) ({ frames := 6, cells := 0, slots := 0, locals := 138 }) (va_Pc [.ref ma, .int p0, .int p1, .int p2] (xB (dC, dI) kI kB kQ (MInv (dC, dI) kI kB ma MA S) sz)) (va_Qi (fun (r : Int32) (u : CMx) => mM_latest S p0 p1 p2 r u) (fun u t => MInv (dC, dI) kI kB ma MA u t.heap) (xA MA sz)) 0 0 (xA MA sz) := by
  refine met_by (fun a s h => ?_)
  obtain ⟨rfl, rfl, hJ, hK⟩ := h
  obtain ⟨nv, iv, fv, qv⟩ := S
  obtain ⟨⟨hr, hbg, hgr⟩, ad, rfl, hP, hD⟩ := hJ
  have hKc := mk_K hK
  refine ⟨_, _, _, c_EM_latest l dC dI _ ad (mck kI kB) (iv 0) (nv 0) (nv 1) (nv 2) (iv 1) (nv 3) (nv 4) (iv 2) (iv 3) (iv 4) (nv 5) (iv 5) (nv 6) (nv 7) (nv 8) (nv 9) (iv 6) (nv 10) (nv 11) (nv 12) (nv 13) (nv 14) (nv 15) (nv 16) (iv 7) (fv 0) (fv 1) (fv 2) (qv 0) (qv 1) (qv 2) (qv 3) (fv 3) (qv 4) (qv 5) (fv 4) (nv 17) (nv 18) (nv 19) (nv 20) (nv 21) (nv 22) (nv 23) (nv 24) (fv 5) (qv 6) (fv 6) (fv 7) (fv 8) (fv 9) (fv 10) (qv 7) (fv 11) (fv 12) (fv 13) (nv 25) (nv 26) (fv 14) (fv 15) (fv 16) (fv 17) (fv 18) (fv 19) (fv 20) (qv 8) (qv 9) (qv 10) (fv 21) (qv 11) (fv 22) (fv 23) (fv 24) p0 p1 p2 (hr.1) (hr.2.1) (hr.2.2.1) (hr.2.2.2.1) (hr.2.2.2.2.1) (hr.2.2.2.2.2.1) (hr.2.2.2.2.2.2.1) (hr.2.2.2.2.2.2.2.1) (hr.2.2.2.2.2.2.2.2.1) (hr.2.2.2.2.2.2.2.2.2.1) (hr.2.2.2.2.2.2.2.2.2.2.1) (hr.2.2.2.2.2.2.2.2.2.2.2.1) (hr.2.2.2.2.2.2.2.2.2.2.2.2.1) (hr.2.2.2.2.2.2.2.2.2.2.2.2.2.1) (hr.2.2.2.2.2.2.2.2.2.2.2.2.2.2.1) (hr.2.2.2.2.2.2.2.2.2.2.2.2.2.2.2.1) (hr.2.2.2.2.2.2.2.2.2.2.2.2.2.2.2.2.1) (hr.2.2.2.2.2.2.2.2.2.2.2.2.2.2.2.2.2.1) (hr.2.2.2.2.2.2.2.2.2.2.2.2.2.2.2.2.2.2.1) (hr.2.2.2.2.2.2.2.2.2.2.2.2.2.2.2.2.2.2.2.1) (hr.2.2.2.2.2.2.2.2.2.2.2.2.2.2.2.2.2.2.2.2.1) (hr.2.2.2.2.2.2.2.2.2.2.2.2.2.2.2.2.2.2.2.2.2.1) (hr.2.2.2.2.2.2.2.2.2.2.2.2.2.2.2.2.2.2.2.2.2.2.1) (hr.2.2.2.2.2.2.2.2.2.2.2.2.2.2.2.2.2.2.2.2.2.2.2.1) (hr.2.2.2.2.2.2.2.2.2.2.2.2.2.2.2.2.2.2.2.2.2.2.2.2.1) (hr.2.2.2.2.2.2.2.2.2.2.2.2.2.2.2.2.2.2.2.2.2.2.2.2.2.1) (hr.2.2.2.2.2.2.2.2.2.2.2.2.2.2.2.2.2.2.2.2.2.2.2.2.2.2) hbg hgr, ⟨rfl, rfl, hP, hKc, hD.weaken (fun _ _ _ _ => trivial)⟩, fun o t hq => ?_, xA_of hD⟩
  obtain ⟨⟨r, u, ho, hw, hB⟩, hF⟩ := hq
  obtain ⟨z54, z55, z56, z57, z58, z59, z0, z46, z61, z62, z63, ⟨hP1, -, hD1⟩, hz46, hz61, hz62, hz63, xh_0⟩ := hB
  have hF2 := xF_of hD hF
  have hD3 : va_D MA (mo_w ad (mck kI kB) z0 (nI (nv 0)) (nI (nv 1)) (nI (nv 2)) (iv 1) (nI (nv 3)) (nI (nv 4)) (iv 2) (iv 3) (iv 4) (nI (nv 5)) (iv 5) (nI (nv 6)) (nI (nv 7)) (nI (nv 8)) (nI (nv 9)) (iv 6) (nI z46) (nI (nv 11)) (nI (nv 12)) (nI z61) (nI z62) (nI z63) (nI (nv 16)) (iv 7) (fv 0) (fv 1) (fv 2) (bN 3 (qv 0)) (bN 7 (qv 1)) (bN 7 (qv 2)) (bN 4 (qv 3)) (fv 3) (bN 2 (qv 4)) (bH (qv 5)) (fv 4) (b2 (nv 17) (nv 18)) (b2 (nv 19) (nv 20)) (b2 (nv 21) (nv 22)) (b2m (nv 23) (nv 24)) (fv 5) (bA 159 (qv 6)) (fv 6) (fv 7) (fv 8) (fv 9) (fv 10) (bN 7 (qv 7)) (fv 11) (fv 12) (fv 13) (b2 (nv 25) (nv 26)) (fv 14) (fv 15) (fv 16) (fv 17) (fv 18) (fv 19) (fv 20) (bN 13 z54) (bN 120 z55) (bN 120 z56) z57 (bN 120 z58) z59 (fv 23) (fv 24)) := vD_fst hD mo_fst
  exact ⟨⟨r, ((fun n => [(nv 0), (nv 1), (nv 2), (nv 3), (nv 4), (nv 5), (nv 6), (nv 7), (nv 8), (nv 9), z46, (nv 11), (nv 12), z61, z62, z63, (nv 16), (nv 17), (nv 18), (nv 19), (nv 20), (nv 21), (nv 22), (nv 23), (nv 24), (nv 25), (nv 26)].getD n 0), (fun n => [z0, (iv 1), (iv 2), (iv 3), (iv 4), (iv 5), (iv 6), (iv 7)].getD n 0), (fun n => [(fv 0), (fv 1), (fv 2), (fv 3), (fv 4), (fv 5), (fv 6), (fv 7), (fv 8), (fv 9), (fv 10), (fv 11), (fv 12), (fv 13), (fv 14), (fv 15), (fv 16), (fv 17), (fv 18), (fv 19), (fv 20), z57, z59, (fv 23), (fv 24)].getD n (fun _ => 0)), (fun n => [(qv 0), (qv 1), (qv 2), (qv 3), (qv 4), (qv 5), (qv 6), (qv 7), z54, z55, z56, z58].getD n (fun _ => 0))), ho, ⟨z54, z55, z56, z57, z58, z59, z0, z46, z61, z62, z63, Prod.ext hw xh_0, rfl⟩, ⟨⟨⟨(hr.1), (hr.2.1), (hr.2.2.1), (hr.2.2.2.1), (hr.2.2.2.2.1), (hr.2.2.2.2.2.1), (hr.2.2.2.2.2.2.1), (hr.2.2.2.2.2.2.2.1), (hr.2.2.2.2.2.2.2.2.1), (hr.2.2.2.2.2.2.2.2.2.1), hz46, (hr.2.2.2.2.2.2.2.2.2.2.2.1), (hr.2.2.2.2.2.2.2.2.2.2.2.2.1), hz61, hz62, hz63, (hr.2.2.2.2.2.2.2.2.2.2.2.2.2.2.2.2.1), (hr.2.2.2.2.2.2.2.2.2.2.2.2.2.2.2.2.2.1), (hr.2.2.2.2.2.2.2.2.2.2.2.2.2.2.2.2.2.2.1), (hr.2.2.2.2.2.2.2.2.2.2.2.2.2.2.2.2.2.2.2.1), (hr.2.2.2.2.2.2.2.2.2.2.2.2.2.2.2.2.2.2.2.2.1), (hr.2.2.2.2.2.2.2.2.2.2.2.2.2.2.2.2.2.2.2.2.2.1), (hr.2.2.2.2.2.2.2.2.2.2.2.2.2.2.2.2.2.2.2.2.2.2.1), (hr.2.2.2.2.2.2.2.2.2.2.2.2.2.2.2.2.2.2.2.2.2.2.2.1), (hr.2.2.2.2.2.2.2.2.2.2.2.2.2.2.2.2.2.2.2.2.2.2.2.2.1), (hr.2.2.2.2.2.2.2.2.2.2.2.2.2.2.2.2.2.2.2.2.2.2.2.2.2.1), (hr.2.2.2.2.2.2.2.2.2.2.2.2.2.2.2.2.2.2.2.2.2.2.2.2.2.2)⟩, hbg, hgr⟩, ad, rfl, hP1, hD3⟩⟩, hF2⟩
def mM_soonest (S : CMx) (p0 : Int32) (p1 : Int32) (r : Int32) (u : CMx) : Prop := (fun (nv, iv, fv, qv) => ∃ (z34 : Nat → Int32) (z35 : Nat → Int32) (z38 : Nat → Nat) (z39 : Nat → Int32) (z40 : Nat → Int32) (z41 : Nat → Int32) (z43 : Nat → Int32) (z44 : Nat → Int32) (z47 : Nat → Int32) (z48 : Nat → Int32) (z42_1 : Nat) (z0 : Int32) (z46 : Nat), ((r, z34, z35, z38, z39, z40, z41, z43, z44, z47, z48, z42_1, z0, z46) = (sp_EM_soonest (nv 0) (nv 10) (fv 2) (qv 0) (qv 1) (qv 2) (qv 3) (fv 3) (qv 4) (qv 5) (fv 4) (nv 17) (nv 18) (nv 19) (nv 20) (nv 21) (nv 22) (nv 23) (nv 24) (fv 7) (fv 8) (qv 7) (fv 11) (fv 12) (fv 13) (nv 26) (fv 14) (fv 15) (fv 16) (fv 17) p0 p1)) ∧ u = ((fun n => [(nv 0), (nv 1), (nv 2), (nv 3), (nv 4), (nv 5), (nv 6), (nv 7), (nv 8), (nv 9), z46, (nv 11), (nv 12), (nv 13), (nv 14), (nv 15), (nv 16), (nv 17), (nv 18), (nv 19), (nv 20), (nv 21), (nv 22), (nv 23), (nv 24), (nv 25), z42_1].getD n 0), (fun n => [z0, (iv 1), (iv 2), (iv 3), (iv 4), (iv 5), (iv 6), (iv 7)].getD n 0), (fun n => [(fv 0), (fv 1), (fv 2), (fv 3), (fv 4), (fv 5), (fv 6), z34, z35, (fv 9), (fv 10), z39, z40, z41, z43, z44, z47, z48, (fv 18), (fv 19), (fv 20), (fv 21), (fv 22), (fv 23), (fv 24)].getD n (fun _ => 0)), (fun n => [(qv 0), (qv 1), (qv 2), (qv 3), (qv 4), (qv 5), (qv 6), z38, (qv 8), (qv 9), (qv 10), (qv 11)].getD n (fun _ => 0)))) S
set_option maxHeartbeats 4000000 in
set_option maxRecDepth 100000 in
theorem k_X9_soonest (l : Launch) (dC : Nat → ClassId) (dI : Nat → Nat → Nat) (sz : Nat) (kI kB kQ : ClassId) (ma : Nat) (MA : Nat → Prop) (S : CMx) (p0 : Int32) (p1 : Int32) : Met l yX9_soonest (.code yX9_soonest cX9_soonest 6 (some .int) :: VM) ({ frames := 7, cells := 0, slots := 0, locals := 171 }) (va_Pc [.ref ma, .int p0, .int p1] (xB (dC, dI) kI kB kQ (MInv (dC, dI) kI kB ma MA S) sz)) (va_Qi (fun (r : Int32) (u : CMx) => mM_soonest S p0 p1 r u) (fun u t => MInv (dC, dI) kI kB ma MA u t.heap) (xA MA sz)) 0 0 (xA MA sz) := by
  refine met_by (fun a s h => ?_)
  obtain ⟨rfl, rfl, hJ, hK⟩ := h
  obtain ⟨nv, iv, fv, qv⟩ := S
  obtain ⟨⟨hr, hbg, hgr⟩, ad, rfl, hP, hD⟩ := hJ
  have hKc := mk_K hK
  refine ⟨_, _, _, c_EM_soonest l dC dI _ ad (mck kI kB) (iv 0) (nv 0) (nv 1) (nv 2) (iv 1) (nv 3) (nv 4) (iv 2) (iv 3) (iv 4) (nv 5) (iv 5) (nv 6) (nv 7) (nv 8) (nv 9) (iv 6) (nv 10) (nv 11) (nv 12) (nv 13) (nv 14) (nv 15) (nv 16) (iv 7) (fv 0) (fv 1) (fv 2) (qv 0) (qv 1) (qv 2) (qv 3) (fv 3) (qv 4) (qv 5) (fv 4) (nv 17) (nv 18) (nv 19) (nv 20) (nv 21) (nv 22) (nv 23) (nv 24) (fv 5) (qv 6) (fv 6) (fv 7) (fv 8) (fv 9) (fv 10) (qv 7) (fv 11) (fv 12) (fv 13) (nv 25) (nv 26) (fv 14) (fv 15) (fv 16) (fv 17) (fv 18) (fv 19) (fv 20) (qv 8) (qv 9) (qv 10) (fv 21) (qv 11) (fv 22) (fv 23) (fv 24) p0 p1 (hr.1) (hr.2.1) (hr.2.2.1) (hr.2.2.2.1) (hr.2.2.2.2.1) (hr.2.2.2.2.2.1) (hr.2.2.2.2.2.2.1) (hr.2.2.2.2.2.2.2.1) (hr.2.2.2.2.2.2.2.2.1) (hr.2.2.2.2.2.2.2.2.2.1) (hr.2.2.2.2.2.2.2.2.2.2.1) (hr.2.2.2.2.2.2.2.2.2.2.2.1) (hr.2.2.2.2.2.2.2.2.2.2.2.2.1) (hr.2.2.2.2.2.2.2.2.2.2.2.2.2.1) (hr.2.2.2.2.2.2.2.2.2.2.2.2.2.2.1) (hr.2.2.2.2.2.2.2.2.2.2.2.2.2.2.2.1) (hr.2.2.2.2.2.2.2.2.2.2.2.2.2.2.2.2.1) (hr.2.2.2.2.2.2.2.2.2.2.2.2.2.2.2.2.2.1) (hr.2.2.2.2.2.2.2.2.2.2.2.2.2.2.2.2.2.2.1) (hr.2.2.2.2.2.2.2.2.2.2.2.2.2.2.2.2.2.2.2.1) (hr.2.2.2.2.2.2.2.2.2.2.2.2.2.2.2.2.2.2.2.2.1) (hr.2.2.2.2.2.2.2.2.2.2.2.2.2.2.2.2.2.2.2.2.2.1) (hr.2.2.2.2.2.2.2.2.2.2.2.2.2.2.2.2.2.2.2.2.2.2.1) (hr.2.2.2.2.2.2.2.2.2.2.2.2.2.2.2.2.2.2.2.2.2.2.2.1) (hr.2.2.2.2.2.2.2.2.2.2.2.2.2.2.2.2.2.2.2.2.2.2.2.2.1) (hr.2.2.2.2.2.2.2.2.2.2.2.2.2.2.2.2.2.2.2.2.2.2.2.2.2.1) (hr.2.2.2.2.2.2.2.2.2.2.2.2.2.2.2.2.2.2.2.2.2.2.2.2.2.2) hbg hgr, ⟨rfl, rfl, hP, hKc, hD.weaken (fun _ _ _ _ => trivial)⟩, fun o t hq => ?_, xA_of hD⟩
  obtain ⟨⟨r, u, ho, hw, hB⟩, hF⟩ := hq
  obtain ⟨z34, z35, z38, z39, z40, z41, z43, z44, z47, z48, z42_1, z0, z46, ⟨hP1, -, hD1⟩, hz42_1, hz46, xh_0, xh_1⟩ := hB
  have hF2 := xF_of hD hF
  have hD3 : va_D MA (mo_w ad (mck kI kB) z0 (nI (nv 0)) (nI (nv 1)) (nI (nv 2)) (iv 1) (nI (nv 3)) (nI (nv 4)) (iv 2) (iv 3) (iv 4) (nI (nv 5)) (iv 5) (nI (nv 6)) (nI (nv 7)) (nI (nv 8)) (nI (nv 9)) (iv 6) (nI z46) (nI (nv 11)) (nI (nv 12)) (nI (nv 13)) (nI (nv 14)) (nI (nv 15)) (nI (nv 16)) (iv 7) (fv 0) (fv 1) (fv 2) (bN 3 (qv 0)) (bN 7 (qv 1)) (bN 7 (qv 2)) (bN 4 (qv 3)) (fv 3) (bN 2 (qv 4)) (bH (qv 5)) (fv 4) (b2 (nv 17) (nv 18)) (b2 (nv 19) (nv 20)) (b2 (nv 21) (nv 22)) (b2m (nv 23) (nv 24)) (fv 5) (bA 159 (qv 6)) (fv 6) z34 z35 (fv 9) (fv 10) (bN 7 z38) z39 z40 z41 (b2 (nv 25) z42_1) z43 z44 z47 z48 (fv 18) (fv 19) (fv 20) (bN 13 (qv 8)) (bN 120 (qv 9)) (bN 120 (qv 10)) (fv 21) (bN 120 (qv 11)) (fv 22) (fv 23) (fv 24)) := vD_fst hD mo_fst
  exact ⟨⟨r, ((fun n => [(nv 0), (nv 1), (nv 2), (nv 3), (nv 4), (nv 5), (nv 6), (nv 7), (nv 8), (nv 9), z46, (nv 11), (nv 12), (nv 13), (nv 14), (nv 15), (nv 16), (nv 17), (nv 18), (nv 19), (nv 20), (nv 21), (nv 22), (nv 23), (nv 24), (nv 25), z42_1].getD n 0), (fun n => [z0, (iv 1), (iv 2), (iv 3), (iv 4), (iv 5), (iv 6), (iv 7)].getD n 0), (fun n => [(fv 0), (fv 1), (fv 2), (fv 3), (fv 4), (fv 5), (fv 6), z34, z35, (fv 9), (fv 10), z39, z40, z41, z43, z44, z47, z48, (fv 18), (fv 19), (fv 20), (fv 21), (fv 22), (fv 23), (fv 24)].getD n (fun _ => 0)), (fun n => [(qv 0), (qv 1), (qv 2), (qv 3), (qv 4), (qv 5), (qv 6), z38, (qv 8), (qv 9), (qv 10), (qv 11)].getD n (fun _ => 0))), ho, ⟨z34, z35, z38, z39, z40, z41, z43, z44, z47, z48, z42_1, z0, z46, Prod.ext hw xh_1, rfl⟩, ⟨⟨⟨(hr.1), (hr.2.1), (hr.2.2.1), (hr.2.2.2.1), (hr.2.2.2.2.1), (hr.2.2.2.2.2.1), (hr.2.2.2.2.2.2.1), (hr.2.2.2.2.2.2.2.1), (hr.2.2.2.2.2.2.2.2.1), (hr.2.2.2.2.2.2.2.2.2.1), hz46, (hr.2.2.2.2.2.2.2.2.2.2.2.1), (hr.2.2.2.2.2.2.2.2.2.2.2.2.1), (hr.2.2.2.2.2.2.2.2.2.2.2.2.2.1), (hr.2.2.2.2.2.2.2.2.2.2.2.2.2.2.1), (hr.2.2.2.2.2.2.2.2.2.2.2.2.2.2.2.1), (hr.2.2.2.2.2.2.2.2.2.2.2.2.2.2.2.2.1), (hr.2.2.2.2.2.2.2.2.2.2.2.2.2.2.2.2.2.1), (hr.2.2.2.2.2.2.2.2.2.2.2.2.2.2.2.2.2.2.1), (hr.2.2.2.2.2.2.2.2.2.2.2.2.2.2.2.2.2.2.2.1), (hr.2.2.2.2.2.2.2.2.2.2.2.2.2.2.2.2.2.2.2.2.1), (hr.2.2.2.2.2.2.2.2.2.2.2.2.2.2.2.2.2.2.2.2.2.1), (hr.2.2.2.2.2.2.2.2.2.2.2.2.2.2.2.2.2.2.2.2.2.2.1), (hr.2.2.2.2.2.2.2.2.2.2.2.2.2.2.2.2.2.2.2.2.2.2.2.1), (hr.2.2.2.2.2.2.2.2.2.2.2.2.2.2.2.2.2.2.2.2.2.2.2.2.1), (hr.2.2.2.2.2.2.2.2.2.2.2.2.2.2.2.2.2.2.2.2.2.2.2.2.2.1), hz42_1⟩, hbg, (by assumption)⟩, ad, rfl, hP1, hD3⟩⟩, hF2⟩
def mM_lets (S : CMx) (p0 : Int32) (p1 : Int32) (p2 : Int32) (p3 : Int32) (r : Int32) (u : CMx) : Prop := (fun (nv, iv, fv, qv) => ∃ (z11 : Nat → Int32) (z34 : Nat → Int32) (z35 : Nat → Int32) (z38 : Nat → Nat) (z39 : Nat → Int32) (z40 : Nat → Int32) (z41 : Nat → Int32) (z43 : Nat → Int32) (z44 : Nat → Int32) (z47 : Nat → Int32) (z48 : Nat → Int32) (z42_1 : Nat) (z0 : Int32) (z46 : Nat), ((r, z11, z34, z35, z38, z39, z40, z41, z43, z44, z47, z48, z42_1, z0, z46) = (sp_EM_lets (nv 0) (nv 10) (fv 2) (qv 0) (qv 1) (qv 2) (qv 3) (fv 3) (qv 4) (qv 5) (fv 4) (nv 17) (nv 18) (nv 19) (nv 20) (nv 21) (nv 22) (nv 23) (nv 24) (fv 7) (fv 8) (qv 7) (fv 11) (fv 12) (fv 13) (nv 26) (fv 14) (fv 15) (fv 16) (fv 17) p0 p1 p2 p3)) ∧ u = ((fun n => [(nv 0), (nv 1), (nv 2), (nv 3), (nv 4), (nv 5), (nv 6), (nv 7), (nv 8), (nv 9), z46, (nv 11), (nv 12), (nv 13), (nv 14), (nv 15), (nv 16), (nv 17), (nv 18), (nv 19), (nv 20), (nv 21), (nv 22), (nv 23), (nv 24), (nv 25), z42_1].getD n 0), (fun n => [z0, (iv 1), (iv 2), (iv 3), (iv 4), (iv 5), (iv 6), (iv 7)].getD n 0), (fun n => [(fv 0), (fv 1), (fv 2), (fv 3), z11, (fv 5), (fv 6), z34, z35, (fv 9), (fv 10), z39, z40, z41, z43, z44, z47, z48, (fv 18), (fv 19), (fv 20), (fv 21), (fv 22), (fv 23), (fv 24)].getD n (fun _ => 0)), (fun n => [(qv 0), (qv 1), (qv 2), (qv 3), (qv 4), (qv 5), (qv 6), z38, (qv 8), (qv 9), (qv 10), (qv 11)].getD n (fun _ => 0)))) S
set_option maxHeartbeats 4000000 in
set_option maxRecDepth 100000 in
theorem k_X9_lets (l : Launch) (dC : Nat → ClassId) (dI : Nat → Nat → Nat) (sz : Nat) (kI kB kQ : ClassId) (ma : Nat) (MA : Nat → Prop) (S : CMx) (p0 : Int32) (p1 : Int32) (p2 : Int32) (p3 : Int32) : Met l yX9_lets (.code yX9_lets cX9_lets 9 (some .int) :: VM) ({ frames := 7, cells := 0, slots := 0, locals := 171 }) (va_Pc [.ref ma, .int p0, .int p1, .int p2, .int p3] (xB (dC, dI) kI kB kQ (MInv (dC, dI) kI kB ma MA S) sz)) (va_Qi (fun (r : Int32) (u : CMx) => mM_lets S p0 p1 p2 p3 r u) (fun u t => MInv (dC, dI) kI kB ma MA u t.heap) (xA MA sz)) 0 0 (xA MA sz) := by
  refine met_by (fun a s h => ?_)
  obtain ⟨rfl, rfl, hJ, hK⟩ := h
  obtain ⟨nv, iv, fv, qv⟩ := S
  obtain ⟨⟨hr, hbg, hgr⟩, ad, rfl, hP, hD⟩ := hJ
  have hKc := mk_K hK
  refine ⟨_, _, _, c_EM_lets l dC dI _ ad (mck kI kB) (iv 0) (nv 0) (nv 1) (nv 2) (iv 1) (nv 3) (nv 4) (iv 2) (iv 3) (iv 4) (nv 5) (iv 5) (nv 6) (nv 7) (nv 8) (nv 9) (iv 6) (nv 10) (nv 11) (nv 12) (nv 13) (nv 14) (nv 15) (nv 16) (iv 7) (fv 0) (fv 1) (fv 2) (qv 0) (qv 1) (qv 2) (qv 3) (fv 3) (qv 4) (qv 5) (fv 4) (nv 17) (nv 18) (nv 19) (nv 20) (nv 21) (nv 22) (nv 23) (nv 24) (fv 5) (qv 6) (fv 6) (fv 7) (fv 8) (fv 9) (fv 10) (qv 7) (fv 11) (fv 12) (fv 13) (nv 25) (nv 26) (fv 14) (fv 15) (fv 16) (fv 17) (fv 18) (fv 19) (fv 20) (qv 8) (qv 9) (qv 10) (fv 21) (qv 11) (fv 22) (fv 23) (fv 24) p0 p1 p2 p3 (hr.1) (hr.2.1) (hr.2.2.1) (hr.2.2.2.1) (hr.2.2.2.2.1) (hr.2.2.2.2.2.1) (hr.2.2.2.2.2.2.1) (hr.2.2.2.2.2.2.2.1) (hr.2.2.2.2.2.2.2.2.1) (hr.2.2.2.2.2.2.2.2.2.1) (hr.2.2.2.2.2.2.2.2.2.2.1) (hr.2.2.2.2.2.2.2.2.2.2.2.1) (hr.2.2.2.2.2.2.2.2.2.2.2.2.1) (hr.2.2.2.2.2.2.2.2.2.2.2.2.2.1) (hr.2.2.2.2.2.2.2.2.2.2.2.2.2.2.1) (hr.2.2.2.2.2.2.2.2.2.2.2.2.2.2.2.1) (hr.2.2.2.2.2.2.2.2.2.2.2.2.2.2.2.2.1) (hr.2.2.2.2.2.2.2.2.2.2.2.2.2.2.2.2.2.1) (hr.2.2.2.2.2.2.2.2.2.2.2.2.2.2.2.2.2.2.1) (hr.2.2.2.2.2.2.2.2.2.2.2.2.2.2.2.2.2.2.2.1) (hr.2.2.2.2.2.2.2.2.2.2.2.2.2.2.2.2.2.2.2.2.1) (hr.2.2.2.2.2.2.2.2.2.2.2.2.2.2.2.2.2.2.2.2.2.1) (hr.2.2.2.2.2.2.2.2.2.2.2.2.2.2.2.2.2.2.2.2.2.2.1) (hr.2.2.2.2.2.2.2.2.2.2.2.2.2.2.2.2.2.2.2.2.2.2.2.1) (hr.2.2.2.2.2.2.2.2.2.2.2.2.2.2.2.2.2.2.2.2.2.2.2.2.1) (hr.2.2.2.2.2.2.2.2.2.2.2.2.2.2.2.2.2.2.2.2.2.2.2.2.2.1) (hr.2.2.2.2.2.2.2.2.2.2.2.2.2.2.2.2.2.2.2.2.2.2.2.2.2.2) hbg hgr, ⟨rfl, rfl, hP, hKc, hD.weaken (fun _ _ _ _ => trivial)⟩, fun o t hq => ?_, xA_of hD⟩
  obtain ⟨⟨r, u, ho, hw, hB⟩, hF⟩ := hq
  obtain ⟨z11, z34, z35, z38, z39, z40, z41, z43, z44, z47, z48, z42_1, z0, z46, ⟨hP1, -, hD1⟩, hz42_1, hz46, xh_0, xh_1⟩ := hB
  have hF2 := xF_of hD hF
  have hD3 : va_D MA (mo_w ad (mck kI kB) z0 (nI (nv 0)) (nI (nv 1)) (nI (nv 2)) (iv 1) (nI (nv 3)) (nI (nv 4)) (iv 2) (iv 3) (iv 4) (nI (nv 5)) (iv 5) (nI (nv 6)) (nI (nv 7)) (nI (nv 8)) (nI (nv 9)) (iv 6) (nI z46) (nI (nv 11)) (nI (nv 12)) (nI (nv 13)) (nI (nv 14)) (nI (nv 15)) (nI (nv 16)) (iv 7) (fv 0) (fv 1) (fv 2) (bN 3 (qv 0)) (bN 7 (qv 1)) (bN 7 (qv 2)) (bN 4 (qv 3)) (fv 3) (bN 2 (qv 4)) (bH (qv 5)) z11 (b2 (nv 17) (nv 18)) (b2 (nv 19) (nv 20)) (b2 (nv 21) (nv 22)) (b2m (nv 23) (nv 24)) (fv 5) (bA 159 (qv 6)) (fv 6) z34 z35 (fv 9) (fv 10) (bN 7 z38) z39 z40 z41 (b2 (nv 25) z42_1) z43 z44 z47 z48 (fv 18) (fv 19) (fv 20) (bN 13 (qv 8)) (bN 120 (qv 9)) (bN 120 (qv 10)) (fv 21) (bN 120 (qv 11)) (fv 22) (fv 23) (fv 24)) := vD_fst hD mo_fst
  exact ⟨⟨r, ((fun n => [(nv 0), (nv 1), (nv 2), (nv 3), (nv 4), (nv 5), (nv 6), (nv 7), (nv 8), (nv 9), z46, (nv 11), (nv 12), (nv 13), (nv 14), (nv 15), (nv 16), (nv 17), (nv 18), (nv 19), (nv 20), (nv 21), (nv 22), (nv 23), (nv 24), (nv 25), z42_1].getD n 0), (fun n => [z0, (iv 1), (iv 2), (iv 3), (iv 4), (iv 5), (iv 6), (iv 7)].getD n 0), (fun n => [(fv 0), (fv 1), (fv 2), (fv 3), z11, (fv 5), (fv 6), z34, z35, (fv 9), (fv 10), z39, z40, z41, z43, z44, z47, z48, (fv 18), (fv 19), (fv 20), (fv 21), (fv 22), (fv 23), (fv 24)].getD n (fun _ => 0)), (fun n => [(qv 0), (qv 1), (qv 2), (qv 3), (qv 4), (qv 5), (qv 6), z38, (qv 8), (qv 9), (qv 10), (qv 11)].getD n (fun _ => 0))), ho, ⟨z11, z34, z35, z38, z39, z40, z41, z43, z44, z47, z48, z42_1, z0, z46, Prod.ext hw xh_1, rfl⟩, ⟨⟨⟨(hr.1), (hr.2.1), (hr.2.2.1), (hr.2.2.2.1), (hr.2.2.2.2.1), (hr.2.2.2.2.2.1), (hr.2.2.2.2.2.2.1), (hr.2.2.2.2.2.2.2.1), (hr.2.2.2.2.2.2.2.2.1), (hr.2.2.2.2.2.2.2.2.2.1), hz46, (hr.2.2.2.2.2.2.2.2.2.2.2.1), (hr.2.2.2.2.2.2.2.2.2.2.2.2.1), (hr.2.2.2.2.2.2.2.2.2.2.2.2.2.1), (hr.2.2.2.2.2.2.2.2.2.2.2.2.2.2.1), (hr.2.2.2.2.2.2.2.2.2.2.2.2.2.2.2.1), (hr.2.2.2.2.2.2.2.2.2.2.2.2.2.2.2.2.1), (hr.2.2.2.2.2.2.2.2.2.2.2.2.2.2.2.2.2.1), (hr.2.2.2.2.2.2.2.2.2.2.2.2.2.2.2.2.2.2.1), (hr.2.2.2.2.2.2.2.2.2.2.2.2.2.2.2.2.2.2.2.1), (hr.2.2.2.2.2.2.2.2.2.2.2.2.2.2.2.2.2.2.2.2.1), (hr.2.2.2.2.2.2.2.2.2.2.2.2.2.2.2.2.2.2.2.2.2.1), (hr.2.2.2.2.2.2.2.2.2.2.2.2.2.2.2.2.2.2.2.2.2.2.1), (hr.2.2.2.2.2.2.2.2.2.2.2.2.2.2.2.2.2.2.2.2.2.2.2.1), (hr.2.2.2.2.2.2.2.2.2.2.2.2.2.2.2.2.2.2.2.2.2.2.2.2.1), (hr.2.2.2.2.2.2.2.2.2.2.2.2.2.2.2.2.2.2.2.2.2.2.2.2.2.1), hz42_1⟩, hbg, (by assumption)⟩, ad, rfl, hP1, hD3⟩⟩, hF2⟩
def mM_begin (S : CMx) (r : Int32) (u : CMx) : Prop := (fun (nv, iv, fv, qv) => ∃ (z64 : Nat → Int32) (z0 : Int32) (z30 : Nat) (z65 : Nat) (z66 : Int32), ((r, z64, z0, z30, z65, z66) = (sp_EM_begin (nv 0) (nv 16) (iv 7) (qv 0) (qv 4) (qv 5) (fv 4) (nv 19) (nv 20) (nv 23) (nv 24) (fv 24))) ∧ u = ((fun n => [(nv 0), (nv 1), (nv 2), (nv 3), (nv 4), (nv 5), (nv 6), (nv 7), z30, (nv 9), (nv 10), (nv 11), (nv 12), (nv 13), (nv 14), (nv 15), z65, (nv 17), (nv 18), (nv 19), (nv 20), (nv 21), (nv 22), (nv 23), (nv 24), (nv 25), (nv 26)].getD n 0), (fun n => [z0, (iv 1), (iv 2), (iv 3), (iv 4), (iv 5), (iv 6), z66].getD n 0), (fun n => [(fv 0), (fv 1), (fv 2), (fv 3), (fv 4), (fv 5), (fv 6), (fv 7), (fv 8), (fv 9), (fv 10), (fv 11), (fv 12), (fv 13), (fv 14), (fv 15), (fv 16), (fv 17), (fv 18), (fv 19), (fv 20), (fv 21), (fv 22), (fv 23), z64].getD n (fun _ => 0)), qv)) S
set_option maxHeartbeats 4000000 in
set_option maxRecDepth 100000 in
theorem k_X9_begin (l : Launch) (dC : Nat → ClassId) (dI : Nat → Nat → Nat) (sz : Nat) (kI kB kQ : ClassId) (ma : Nat) (MA : Nat → Prop) (S : CMx) : Met l yX9_begin (.code yX9_begin cX9_begin 1 (some .int) :: VM) ({ frames := 5, cells := 0, slots := 0, locals := 112 }) (va_Pc [.ref ma] (xB (dC, dI) kI kB kQ (MInv (dC, dI) kI kB ma MA S) sz)) (va_Qi (fun (r : Int32) (u : CMx) => mM_begin S r u) (fun u t => MInv (dC, dI) kI kB ma MA u t.heap) (xA MA sz)) 0 0 (xA MA sz) := by
  refine met_by (fun a s h => ?_)
  obtain ⟨rfl, rfl, hJ, hK⟩ := h
  obtain ⟨nv, iv, fv, qv⟩ := S
  obtain ⟨⟨hr, hbg, hgr⟩, ad, rfl, hP, hD⟩ := hJ
  have hKc := mk_K hK
  refine ⟨_, _, _, c_EM_begin l dC dI _ ad (mck kI kB) (iv 0) (nv 0) (nv 1) (nv 2) (iv 1) (nv 3) (nv 4) (iv 2) (iv 3) (iv 4) (nv 5) (iv 5) (nv 6) (nv 7) (nv 8) (nv 9) (iv 6) (nv 10) (nv 11) (nv 12) (nv 13) (nv 14) (nv 15) (nv 16) (iv 7) (fv 0) (fv 1) (fv 2) (qv 0) (qv 1) (qv 2) (qv 3) (fv 3) (qv 4) (qv 5) (fv 4) (nv 17) (nv 18) (nv 19) (nv 20) (nv 21) (nv 22) (nv 23) (nv 24) (fv 5) (qv 6) (fv 6) (fv 7) (fv 8) (fv 9) (fv 10) (qv 7) (fv 11) (fv 12) (fv 13) (nv 25) (nv 26) (fv 14) (fv 15) (fv 16) (fv 17) (fv 18) (fv 19) (fv 20) (qv 8) (qv 9) (qv 10) (fv 21) (qv 11) (fv 22) (fv 23) (fv 24) (hr.1) (hr.2.1) (hr.2.2.1) (hr.2.2.2.1) (hr.2.2.2.2.1) (hr.2.2.2.2.2.1) (hr.2.2.2.2.2.2.1) (hr.2.2.2.2.2.2.2.1) (hr.2.2.2.2.2.2.2.2.1) (hr.2.2.2.2.2.2.2.2.2.1) (hr.2.2.2.2.2.2.2.2.2.2.1) (hr.2.2.2.2.2.2.2.2.2.2.2.1) (hr.2.2.2.2.2.2.2.2.2.2.2.2.1) (hr.2.2.2.2.2.2.2.2.2.2.2.2.2.1) (hr.2.2.2.2.2.2.2.2.2.2.2.2.2.2.1) (hr.2.2.2.2.2.2.2.2.2.2.2.2.2.2.2.1) (hr.2.2.2.2.2.2.2.2.2.2.2.2.2.2.2.2.1) (hr.2.2.2.2.2.2.2.2.2.2.2.2.2.2.2.2.2.1) (hr.2.2.2.2.2.2.2.2.2.2.2.2.2.2.2.2.2.2.1) (hr.2.2.2.2.2.2.2.2.2.2.2.2.2.2.2.2.2.2.2.1) (hr.2.2.2.2.2.2.2.2.2.2.2.2.2.2.2.2.2.2.2.2.1) (hr.2.2.2.2.2.2.2.2.2.2.2.2.2.2.2.2.2.2.2.2.2.1) (hr.2.2.2.2.2.2.2.2.2.2.2.2.2.2.2.2.2.2.2.2.2.2.1) (hr.2.2.2.2.2.2.2.2.2.2.2.2.2.2.2.2.2.2.2.2.2.2.2.1) (hr.2.2.2.2.2.2.2.2.2.2.2.2.2.2.2.2.2.2.2.2.2.2.2.2.1) (hr.2.2.2.2.2.2.2.2.2.2.2.2.2.2.2.2.2.2.2.2.2.2.2.2.2.1) (hr.2.2.2.2.2.2.2.2.2.2.2.2.2.2.2.2.2.2.2.2.2.2.2.2.2.2) hbg, ⟨rfl, rfl, hP, hKc, hD.weaken (fun _ _ _ _ => trivial)⟩, fun o t hq => ?_, xA_of hD⟩
  obtain ⟨⟨r, u, ho, hw, hB⟩, hF⟩ := hq
  obtain ⟨z64, z0, z30, z65, z66, ⟨hP1, -, hD1⟩, hz30, hz65, xh_0⟩ := hB
  have hF2 := xF_of hD hF
  have hD3 : va_D MA (mo_w ad (mck kI kB) z0 (nI (nv 0)) (nI (nv 1)) (nI (nv 2)) (iv 1) (nI (nv 3)) (nI (nv 4)) (iv 2) (iv 3) (iv 4) (nI (nv 5)) (iv 5) (nI (nv 6)) (nI (nv 7)) (nI z30) (nI (nv 9)) (iv 6) (nI (nv 10)) (nI (nv 11)) (nI (nv 12)) (nI (nv 13)) (nI (nv 14)) (nI (nv 15)) (nI z65) z66 (fv 0) (fv 1) (fv 2) (bN 3 (qv 0)) (bN 7 (qv 1)) (bN 7 (qv 2)) (bN 4 (qv 3)) (fv 3) (bN 2 (qv 4)) (bH (qv 5)) (fv 4) (b2 (nv 17) (nv 18)) (b2 (nv 19) (nv 20)) (b2 (nv 21) (nv 22)) (b2m (nv 23) (nv 24)) (fv 5) (bA 159 (qv 6)) (fv 6) (fv 7) (fv 8) (fv 9) (fv 10) (bN 7 (qv 7)) (fv 11) (fv 12) (fv 13) (b2 (nv 25) (nv 26)) (fv 14) (fv 15) (fv 16) (fv 17) (fv 18) (fv 19) (fv 20) (bN 13 (qv 8)) (bN 120 (qv 9)) (bN 120 (qv 10)) (fv 21) (bN 120 (qv 11)) (fv 22) (fv 23) z64) := vD_fst hD mo_fst
  exact ⟨⟨r, ((fun n => [(nv 0), (nv 1), (nv 2), (nv 3), (nv 4), (nv 5), (nv 6), (nv 7), z30, (nv 9), (nv 10), (nv 11), (nv 12), (nv 13), (nv 14), (nv 15), z65, (nv 17), (nv 18), (nv 19), (nv 20), (nv 21), (nv 22), (nv 23), (nv 24), (nv 25), (nv 26)].getD n 0), (fun n => [z0, (iv 1), (iv 2), (iv 3), (iv 4), (iv 5), (iv 6), z66].getD n 0), (fun n => [(fv 0), (fv 1), (fv 2), (fv 3), (fv 4), (fv 5), (fv 6), (fv 7), (fv 8), (fv 9), (fv 10), (fv 11), (fv 12), (fv 13), (fv 14), (fv 15), (fv 16), (fv 17), (fv 18), (fv 19), (fv 20), (fv 21), (fv 22), (fv 23), z64].getD n (fun _ => 0)), qv), ho, ⟨z64, z0, z30, z65, z66, Prod.ext hw xh_0, rfl⟩, ⟨⟨⟨(hr.1), (hr.2.1), (hr.2.2.1), (hr.2.2.2.1), (hr.2.2.2.2.1), (hr.2.2.2.2.2.1), (hr.2.2.2.2.2.2.1), (hr.2.2.2.2.2.2.2.1), hz30, (hr.2.2.2.2.2.2.2.2.2.1), (hr.2.2.2.2.2.2.2.2.2.2.1), (hr.2.2.2.2.2.2.2.2.2.2.2.1), (hr.2.2.2.2.2.2.2.2.2.2.2.2.1), (hr.2.2.2.2.2.2.2.2.2.2.2.2.2.1), (hr.2.2.2.2.2.2.2.2.2.2.2.2.2.2.1), (hr.2.2.2.2.2.2.2.2.2.2.2.2.2.2.2.1), hz65, (hr.2.2.2.2.2.2.2.2.2.2.2.2.2.2.2.2.2.1), (hr.2.2.2.2.2.2.2.2.2.2.2.2.2.2.2.2.2.2.1), (hr.2.2.2.2.2.2.2.2.2.2.2.2.2.2.2.2.2.2.2.1), (hr.2.2.2.2.2.2.2.2.2.2.2.2.2.2.2.2.2.2.2.2.1), (hr.2.2.2.2.2.2.2.2.2.2.2.2.2.2.2.2.2.2.2.2.2.1), (hr.2.2.2.2.2.2.2.2.2.2.2.2.2.2.2.2.2.2.2.2.2.2.1), (hr.2.2.2.2.2.2.2.2.2.2.2.2.2.2.2.2.2.2.2.2.2.2.2.1), (hr.2.2.2.2.2.2.2.2.2.2.2.2.2.2.2.2.2.2.2.2.2.2.2.2.1), (hr.2.2.2.2.2.2.2.2.2.2.2.2.2.2.2.2.2.2.2.2.2.2.2.2.2.1), (hr.2.2.2.2.2.2.2.2.2.2.2.2.2.2.2.2.2.2.2.2.2.2.2.2.2.2)⟩, hbg, hgr⟩, ad, rfl, hP1, hD3⟩⟩, hF2⟩
def mM_waits (S : CMx) (p0 : Int32) (r : Int32) (u : CMx) : Prop := (fun (nv, iv, fv, qv) => ∃ (z64 : Nat → Int32) (z0 : Int32) (z66 : Int32), (∃ v : Nat, v ≤ 1 ∧ r = nI v ∧ (v, z64, z0, z66) = (sp_EM_waits (nv 0) (nv 8) (nv 16) (iv 7) (fv 2) (qv 0) (qv 4) (qv 5) (fv 4) (nv 19) (nv 20) (fv 24) p0)) ∧ u = (nv, (fun n => [z0, (iv 1), (iv 2), (iv 3), (iv 4), (iv 5), (iv 6), z66].getD n 0), (fun n => [(fv 0), (fv 1), (fv 2), (fv 3), (fv 4), (fv 5), (fv 6), (fv 7), (fv 8), (fv 9), (fv 10), (fv 11), (fv 12), (fv 13), (fv 14), (fv 15), (fv 16), (fv 17), (fv 18), (fv 19), (fv 20), (fv 21), (fv 22), (fv 23), z64].getD n (fun _ => 0)), qv)) S
set_option maxHeartbeats 4000000 in
set_option maxRecDepth 100000 in
theorem k_X9_waits (l : Launch) (dC : Nat → ClassId) (dI : Nat → Nat → Nat) (sz : Nat) (kI kB kQ : ClassId) (ma : Nat) (MA : Nat → Prop) (S : CMx) (p0 : Int32) : Met l yX9_waits (.code yX9_waits cX9_waits 2 (some .boolean) :: VM) ({ frames := 4, cells := 0, slots := 0, locals := 87 }) (va_Pc [.ref ma, .int p0] (xB (dC, dI) kI kB kQ (MInv (dC, dI) kI kB ma MA S) sz)) (va_Qi (fun (r : Int32) (u : CMx) => mM_waits S p0 r u) (fun u t => MInv (dC, dI) kI kB ma MA u t.heap) (xA MA sz)) 0 0 (xA MA sz) := by
  refine met_by (fun a s h => ?_)
  obtain ⟨rfl, rfl, hJ, hK⟩ := h
  obtain ⟨nv, iv, fv, qv⟩ := S
  obtain ⟨⟨hr, hbg, hgr⟩, ad, rfl, hP, hD⟩ := hJ
  have hKc := mk_K hK
  refine ⟨_, _, _, c_EM_waits l dC dI _ ad (mck kI kB) (iv 0) (nv 0) (nv 1) (nv 2) (iv 1) (nv 3) (nv 4) (iv 2) (iv 3) (iv 4) (nv 5) (iv 5) (nv 6) (nv 7) (nv 8) (nv 9) (iv 6) (nv 10) (nv 11) (nv 12) (nv 13) (nv 14) (nv 15) (nv 16) (iv 7) (fv 0) (fv 1) (fv 2) (qv 0) (qv 1) (qv 2) (qv 3) (fv 3) (qv 4) (qv 5) (fv 4) (nv 17) (nv 18) (nv 19) (nv 20) (nv 21) (nv 22) (nv 23) (nv 24) (fv 5) (qv 6) (fv 6) (fv 7) (fv 8) (fv 9) (fv 10) (qv 7) (fv 11) (fv 12) (fv 13) (nv 25) (nv 26) (fv 14) (fv 15) (fv 16) (fv 17) (fv 18) (fv 19) (fv 20) (qv 8) (qv 9) (qv 10) (fv 21) (qv 11) (fv 22) (fv 23) (fv 24) p0 (hr.1) (hr.2.1) (hr.2.2.1) (hr.2.2.2.1) (hr.2.2.2.2.1) (hr.2.2.2.2.2.1) (hr.2.2.2.2.2.2.1) (hr.2.2.2.2.2.2.2.1) (hr.2.2.2.2.2.2.2.2.1) (hr.2.2.2.2.2.2.2.2.2.1) (hr.2.2.2.2.2.2.2.2.2.2.1) (hr.2.2.2.2.2.2.2.2.2.2.2.1) (hr.2.2.2.2.2.2.2.2.2.2.2.2.1) (hr.2.2.2.2.2.2.2.2.2.2.2.2.2.1) (hr.2.2.2.2.2.2.2.2.2.2.2.2.2.2.1) (hr.2.2.2.2.2.2.2.2.2.2.2.2.2.2.2.1) (hr.2.2.2.2.2.2.2.2.2.2.2.2.2.2.2.2.1) (hr.2.2.2.2.2.2.2.2.2.2.2.2.2.2.2.2.2.1) (hr.2.2.2.2.2.2.2.2.2.2.2.2.2.2.2.2.2.2.1) (hr.2.2.2.2.2.2.2.2.2.2.2.2.2.2.2.2.2.2.2.1) (hr.2.2.2.2.2.2.2.2.2.2.2.2.2.2.2.2.2.2.2.2.1) (hr.2.2.2.2.2.2.2.2.2.2.2.2.2.2.2.2.2.2.2.2.2.1) (hr.2.2.2.2.2.2.2.2.2.2.2.2.2.2.2.2.2.2.2.2.2.2.1) (hr.2.2.2.2.2.2.2.2.2.2.2.2.2.2.2.2.2.2.2.2.2.2.2.1) (hr.2.2.2.2.2.2.2.2.2.2.2.2.2.2.2.2.2.2.2.2.2.2.2.2.1) (hr.2.2.2.2.2.2.2.2.2.2.2.2.2.2.2.2.2.2.2.2.2.2.2.2.2.1) (hr.2.2.2.2.2.2.2.2.2.2.2.2.2.2.2.2.2.2.2.2.2.2.2.2.2.2), ⟨rfl, rfl, hP, hKc, hD.weaken (fun _ _ _ _ => trivial)⟩, fun o t hq => ?_, xA_of hD⟩
  obtain ⟨⟨r, u, ho, hw, hB⟩, hF⟩ := hq
  obtain ⟨z64, z0, z66, ⟨hP1, -, hD1⟩, xh_0⟩ := hB
  have hF2 := xF_of hD hF
  have hD3 : va_D MA (mo_w ad (mck kI kB) z0 (nI (nv 0)) (nI (nv 1)) (nI (nv 2)) (iv 1) (nI (nv 3)) (nI (nv 4)) (iv 2) (iv 3) (iv 4) (nI (nv 5)) (iv 5) (nI (nv 6)) (nI (nv 7)) (nI (nv 8)) (nI (nv 9)) (iv 6) (nI (nv 10)) (nI (nv 11)) (nI (nv 12)) (nI (nv 13)) (nI (nv 14)) (nI (nv 15)) (nI (nv 16)) z66 (fv 0) (fv 1) (fv 2) (bN 3 (qv 0)) (bN 7 (qv 1)) (bN 7 (qv 2)) (bN 4 (qv 3)) (fv 3) (bN 2 (qv 4)) (bH (qv 5)) (fv 4) (b2 (nv 17) (nv 18)) (b2 (nv 19) (nv 20)) (b2 (nv 21) (nv 22)) (b2m (nv 23) (nv 24)) (fv 5) (bA 159 (qv 6)) (fv 6) (fv 7) (fv 8) (fv 9) (fv 10) (bN 7 (qv 7)) (fv 11) (fv 12) (fv 13) (b2 (nv 25) (nv 26)) (fv 14) (fv 15) (fv 16) (fv 17) (fv 18) (fv 19) (fv 20) (bN 13 (qv 8)) (bN 120 (qv 9)) (bN 120 (qv 10)) (fv 21) (bN 120 (qv 11)) (fv 22) (fv 23) z64) := vD_fst hD mo_fst
  exact ⟨⟨r, (nv, (fun n => [z0, (iv 1), (iv 2), (iv 3), (iv 4), (iv 5), (iv 6), z66].getD n 0), (fun n => [(fv 0), (fv 1), (fv 2), (fv 3), (fv 4), (fv 5), (fv 6), (fv 7), (fv 8), (fv 9), (fv 10), (fv 11), (fv 12), (fv 13), (fv 14), (fv 15), (fv 16), (fv 17), (fv 18), (fv 19), (fv 20), (fv 21), (fv 22), (fv 23), z64].getD n (fun _ => 0)), qv), ho, ⟨z64, z0, z66, (by obtain ⟨v, h1, h2, h3⟩ := hw; exact ⟨v, h1, h2, Prod.ext h3 xh_0⟩), rfl⟩, ⟨⟨hr, hbg, hgr⟩, ad, rfl, hP1, hD3⟩⟩, hF2⟩
def mM_takes (S : CMx) (p0 : Int32) (r : Int32) (u : CMx) : Prop := (fun (nv, iv, fv, qv) => ∃ (z64 : Nat → Int32) (z0 : Int32) (z65 : Nat), ((r, z64, z0, z65) = (sp_EM_takes (nv 0) (nv 8) (nv 16) (qv 0) (qv 1) (qv 2) (qv 3) (fv 3) (qv 4) (qv 5) (fv 4) (nv 17) (nv 18) (nv 19) (nv 20) (nv 21) (nv 22) (fv 24) p0)) ∧ u = ((fun n => [(nv 0), (nv 1), (nv 2), (nv 3), (nv 4), (nv 5), (nv 6), (nv 7), (nv 8), (nv 9), (nv 10), (nv 11), (nv 12), (nv 13), (nv 14), (nv 15), z65, (nv 17), (nv 18), (nv 19), (nv 20), (nv 21), (nv 22), (nv 23), (nv 24), (nv 25), (nv 26)].getD n 0), (fun n => [z0, (iv 1), (iv 2), (iv 3), (iv 4), (iv 5), (iv 6), (iv 7)].getD n 0), (fun n => [(fv 0), (fv 1), (fv 2), (fv 3), (fv 4), (fv 5), (fv 6), (fv 7), (fv 8), (fv 9), (fv 10), (fv 11), (fv 12), (fv 13), (fv 14), (fv 15), (fv 16), (fv 17), (fv 18), (fv 19), (fv 20), (fv 21), (fv 22), (fv 23), z64].getD n (fun _ => 0)), qv)) S
set_option maxHeartbeats 4000000 in
set_option maxRecDepth 100000 in
theorem k_X9_takes (l : Launch) (dC : Nat → ClassId) (dI : Nat → Nat → Nat) (sz : Nat) (kI kB kQ : ClassId) (ma : Nat) (MA : Nat → Prop) (S : CMx) (p0 : Int32) : Met l yX9_takes (.code yX9_takes cX9_takes 2 (some .int) :: VM) ({ frames := 5, cells := 0, slots := 0, locals := 112 }) (va_Pc [.ref ma, .int p0] (xB (dC, dI) kI kB kQ (MInv (dC, dI) kI kB ma MA S) sz)) (va_Qi (fun (r : Int32) (u : CMx) => mM_takes S p0 r u) (fun u t => MInv (dC, dI) kI kB ma MA u t.heap) (xA MA sz)) 0 0 (xA MA sz) := by
  refine met_by (fun a s h => ?_)
  obtain ⟨rfl, rfl, hJ, hK⟩ := h
  obtain ⟨nv, iv, fv, qv⟩ := S
  obtain ⟨⟨hr, hbg, hgr⟩, ad, rfl, hP, hD⟩ := hJ
  have hKc := mk_K hK
  refine ⟨_, _, _, c_EM_takes l dC dI _ ad (mck kI kB) (iv 0) (nv 0) (nv 1) (nv 2) (iv 1) (nv 3) (nv 4) (iv 2) (iv 3) (iv 4) (nv 5) (iv 5) (nv 6) (nv 7) (nv 8) (nv 9) (iv 6) (nv 10) (nv 11) (nv 12) (nv 13) (nv 14) (nv 15) (nv 16) (iv 7) (fv 0) (fv 1) (fv 2) (qv 0) (qv 1) (qv 2) (qv 3) (fv 3) (qv 4) (qv 5) (fv 4) (nv 17) (nv 18) (nv 19) (nv 20) (nv 21) (nv 22) (nv 23) (nv 24) (fv 5) (qv 6) (fv 6) (fv 7) (fv 8) (fv 9) (fv 10) (qv 7) (fv 11) (fv 12) (fv 13) (nv 25) (nv 26) (fv 14) (fv 15) (fv 16) (fv 17) (fv 18) (fv 19) (fv 20) (qv 8) (qv 9) (qv 10) (fv 21) (qv 11) (fv 22) (fv 23) (fv 24) p0 (hr.1) (hr.2.1) (hr.2.2.1) (hr.2.2.2.1) (hr.2.2.2.2.1) (hr.2.2.2.2.2.1) (hr.2.2.2.2.2.2.1) (hr.2.2.2.2.2.2.2.1) (hr.2.2.2.2.2.2.2.2.1) (hr.2.2.2.2.2.2.2.2.2.1) (hr.2.2.2.2.2.2.2.2.2.2.1) (hr.2.2.2.2.2.2.2.2.2.2.2.1) (hr.2.2.2.2.2.2.2.2.2.2.2.2.1) (hr.2.2.2.2.2.2.2.2.2.2.2.2.2.1) (hr.2.2.2.2.2.2.2.2.2.2.2.2.2.2.1) (hr.2.2.2.2.2.2.2.2.2.2.2.2.2.2.2.1) (hr.2.2.2.2.2.2.2.2.2.2.2.2.2.2.2.2.1) (hr.2.2.2.2.2.2.2.2.2.2.2.2.2.2.2.2.2.1) (hr.2.2.2.2.2.2.2.2.2.2.2.2.2.2.2.2.2.2.1) (hr.2.2.2.2.2.2.2.2.2.2.2.2.2.2.2.2.2.2.2.1) (hr.2.2.2.2.2.2.2.2.2.2.2.2.2.2.2.2.2.2.2.2.1) (hr.2.2.2.2.2.2.2.2.2.2.2.2.2.2.2.2.2.2.2.2.2.1) (hr.2.2.2.2.2.2.2.2.2.2.2.2.2.2.2.2.2.2.2.2.2.2.1) (hr.2.2.2.2.2.2.2.2.2.2.2.2.2.2.2.2.2.2.2.2.2.2.2.1) (hr.2.2.2.2.2.2.2.2.2.2.2.2.2.2.2.2.2.2.2.2.2.2.2.2.1) (hr.2.2.2.2.2.2.2.2.2.2.2.2.2.2.2.2.2.2.2.2.2.2.2.2.2.1) (hr.2.2.2.2.2.2.2.2.2.2.2.2.2.2.2.2.2.2.2.2.2.2.2.2.2.2), ⟨rfl, rfl, hP, hKc, hD.weaken (fun _ _ _ _ => trivial)⟩, fun o t hq => ?_, xA_of hD⟩
  obtain ⟨⟨r, u, ho, hw, hB⟩, hF⟩ := hq
  obtain ⟨z64, z0, z65, ⟨hP1, -, hD1⟩, hz65, xh_0⟩ := hB
  have hF2 := xF_of hD hF
  have hD3 : va_D MA (mo_w ad (mck kI kB) z0 (nI (nv 0)) (nI (nv 1)) (nI (nv 2)) (iv 1) (nI (nv 3)) (nI (nv 4)) (iv 2) (iv 3) (iv 4) (nI (nv 5)) (iv 5) (nI (nv 6)) (nI (nv 7)) (nI (nv 8)) (nI (nv 9)) (iv 6) (nI (nv 10)) (nI (nv 11)) (nI (nv 12)) (nI (nv 13)) (nI (nv 14)) (nI (nv 15)) (nI z65) (iv 7) (fv 0) (fv 1) (fv 2) (bN 3 (qv 0)) (bN 7 (qv 1)) (bN 7 (qv 2)) (bN 4 (qv 3)) (fv 3) (bN 2 (qv 4)) (bH (qv 5)) (fv 4) (b2 (nv 17) (nv 18)) (b2 (nv 19) (nv 20)) (b2 (nv 21) (nv 22)) (b2m (nv 23) (nv 24)) (fv 5) (bA 159 (qv 6)) (fv 6) (fv 7) (fv 8) (fv 9) (fv 10) (bN 7 (qv 7)) (fv 11) (fv 12) (fv 13) (b2 (nv 25) (nv 26)) (fv 14) (fv 15) (fv 16) (fv 17) (fv 18) (fv 19) (fv 20) (bN 13 (qv 8)) (bN 120 (qv 9)) (bN 120 (qv 10)) (fv 21) (bN 120 (qv 11)) (fv 22) (fv 23) z64) := vD_fst hD mo_fst
  exact ⟨⟨r, ((fun n => [(nv 0), (nv 1), (nv 2), (nv 3), (nv 4), (nv 5), (nv 6), (nv 7), (nv 8), (nv 9), (nv 10), (nv 11), (nv 12), (nv 13), (nv 14), (nv 15), z65, (nv 17), (nv 18), (nv 19), (nv 20), (nv 21), (nv 22), (nv 23), (nv 24), (nv 25), (nv 26)].getD n 0), (fun n => [z0, (iv 1), (iv 2), (iv 3), (iv 4), (iv 5), (iv 6), (iv 7)].getD n 0), (fun n => [(fv 0), (fv 1), (fv 2), (fv 3), (fv 4), (fv 5), (fv 6), (fv 7), (fv 8), (fv 9), (fv 10), (fv 11), (fv 12), (fv 13), (fv 14), (fv 15), (fv 16), (fv 17), (fv 18), (fv 19), (fv 20), (fv 21), (fv 22), (fv 23), z64].getD n (fun _ => 0)), qv), ho, ⟨z64, z0, z65, Prod.ext hw xh_0, rfl⟩, ⟨⟨⟨(hr.1), (hr.2.1), (hr.2.2.1), (hr.2.2.2.1), (hr.2.2.2.2.1), (hr.2.2.2.2.2.1), (hr.2.2.2.2.2.2.1), (hr.2.2.2.2.2.2.2.1), (hr.2.2.2.2.2.2.2.2.1), (hr.2.2.2.2.2.2.2.2.2.1), (hr.2.2.2.2.2.2.2.2.2.2.1), (hr.2.2.2.2.2.2.2.2.2.2.2.1), (hr.2.2.2.2.2.2.2.2.2.2.2.2.1), (hr.2.2.2.2.2.2.2.2.2.2.2.2.2.1), (hr.2.2.2.2.2.2.2.2.2.2.2.2.2.2.1), (hr.2.2.2.2.2.2.2.2.2.2.2.2.2.2.2.1), hz65, (hr.2.2.2.2.2.2.2.2.2.2.2.2.2.2.2.2.2.1), (hr.2.2.2.2.2.2.2.2.2.2.2.2.2.2.2.2.2.2.1), (hr.2.2.2.2.2.2.2.2.2.2.2.2.2.2.2.2.2.2.2.1), (hr.2.2.2.2.2.2.2.2.2.2.2.2.2.2.2.2.2.2.2.2.1), (hr.2.2.2.2.2.2.2.2.2.2.2.2.2.2.2.2.2.2.2.2.2.1), (hr.2.2.2.2.2.2.2.2.2.2.2.2.2.2.2.2.2.2.2.2.2.2.1), (hr.2.2.2.2.2.2.2.2.2.2.2.2.2.2.2.2.2.2.2.2.2.2.2.1), (hr.2.2.2.2.2.2.2.2.2.2.2.2.2.2.2.2.2.2.2.2.2.2.2.2.1), (hr.2.2.2.2.2.2.2.2.2.2.2.2.2.2.2.2.2.2.2.2.2.2.2.2.2.1), (hr.2.2.2.2.2.2.2.2.2.2.2.2.2.2.2.2.2.2.2.2.2.2.2.2.2.2)⟩, hbg, hgr⟩, ad, rfl, hP1, hD3⟩⟩, hF2⟩
def mM_now (S : CMx) (p0 : Int32) (r : Int32) (u : CMx) : Prop := (fun (nv, iv, fv, qv) => ∃ (z0 : Int32), ((r, z0) = (sp_EM_now (nv 0) (nv 8) (nv 16) (iv 7) (fv 2) (qv 0) (qv 1) (qv 2) (qv 3) (fv 3) (qv 4) (qv 5) (fv 4) (nv 19) (nv 20) (nv 21) (nv 22) (fv 24) p0)) ∧ u = (nv, (fun n => [z0, (iv 1), (iv 2), (iv 3), (iv 4), (iv 5), (iv 6), (iv 7)].getD n 0), fv, qv)) S
set_option maxHeartbeats 4000000 in
set_option maxRecDepth 100000 in
theorem k_X9_now (l : Launch) (dC : Nat → ClassId) (dI : Nat → Nat → Nat) (sz : Nat) (kI kB kQ : ClassId) (ma : Nat) (MA : Nat → Prop) (S : CMx) (p0 : Int32) : Met l yX9_now (.code yX9_now cX9_now 4 (some .int) :: VM) ({ frames := 5, cells := 0, slots := 0, locals := 112 }) (va_Pc [.ref ma, .int p0] (xB (dC, dI) kI kB kQ (MInv (dC, dI) kI kB ma MA S) sz)) (va_Qi (fun (r : Int32) (u : CMx) => mM_now S p0 r u) (fun u t => MInv (dC, dI) kI kB ma MA u t.heap) (xA MA sz)) 0 0 (xA MA sz) := by
  refine met_by (fun a s h => ?_)
  obtain ⟨rfl, rfl, hJ, hK⟩ := h
  obtain ⟨nv, iv, fv, qv⟩ := S
  obtain ⟨⟨hr, hbg, hgr⟩, ad, rfl, hP, hD⟩ := hJ
  have hKc := mk_K hK
  refine ⟨_, _, _, c_EM_now l dC dI _ ad (mck kI kB) (iv 0) (nv 0) (nv 1) (nv 2) (iv 1) (nv 3) (nv 4) (iv 2) (iv 3) (iv 4) (nv 5) (iv 5) (nv 6) (nv 7) (nv 8) (nv 9) (iv 6) (nv 10) (nv 11) (nv 12) (nv 13) (nv 14) (nv 15) (nv 16) (iv 7) (fv 0) (fv 1) (fv 2) (qv 0) (qv 1) (qv 2) (qv 3) (fv 3) (qv 4) (qv 5) (fv 4) (nv 17) (nv 18) (nv 19) (nv 20) (nv 21) (nv 22) (nv 23) (nv 24) (fv 5) (qv 6) (fv 6) (fv 7) (fv 8) (fv 9) (fv 10) (qv 7) (fv 11) (fv 12) (fv 13) (nv 25) (nv 26) (fv 14) (fv 15) (fv 16) (fv 17) (fv 18) (fv 19) (fv 20) (qv 8) (qv 9) (qv 10) (fv 21) (qv 11) (fv 22) (fv 23) (fv 24) p0 (hr.1) (hr.2.1) (hr.2.2.1) (hr.2.2.2.1) (hr.2.2.2.2.1) (hr.2.2.2.2.2.1) (hr.2.2.2.2.2.2.1) (hr.2.2.2.2.2.2.2.1) (hr.2.2.2.2.2.2.2.2.1) (hr.2.2.2.2.2.2.2.2.2.1) (hr.2.2.2.2.2.2.2.2.2.2.1) (hr.2.2.2.2.2.2.2.2.2.2.2.1) (hr.2.2.2.2.2.2.2.2.2.2.2.2.1) (hr.2.2.2.2.2.2.2.2.2.2.2.2.2.1) (hr.2.2.2.2.2.2.2.2.2.2.2.2.2.2.1) (hr.2.2.2.2.2.2.2.2.2.2.2.2.2.2.2.1) (hr.2.2.2.2.2.2.2.2.2.2.2.2.2.2.2.2.1) (hr.2.2.2.2.2.2.2.2.2.2.2.2.2.2.2.2.2.1) (hr.2.2.2.2.2.2.2.2.2.2.2.2.2.2.2.2.2.2.1) (hr.2.2.2.2.2.2.2.2.2.2.2.2.2.2.2.2.2.2.2.1) (hr.2.2.2.2.2.2.2.2.2.2.2.2.2.2.2.2.2.2.2.2.1) (hr.2.2.2.2.2.2.2.2.2.2.2.2.2.2.2.2.2.2.2.2.2.1) (hr.2.2.2.2.2.2.2.2.2.2.2.2.2.2.2.2.2.2.2.2.2.2.1) (hr.2.2.2.2.2.2.2.2.2.2.2.2.2.2.2.2.2.2.2.2.2.2.2.1) (hr.2.2.2.2.2.2.2.2.2.2.2.2.2.2.2.2.2.2.2.2.2.2.2.2.1) (hr.2.2.2.2.2.2.2.2.2.2.2.2.2.2.2.2.2.2.2.2.2.2.2.2.2.1) (hr.2.2.2.2.2.2.2.2.2.2.2.2.2.2.2.2.2.2.2.2.2.2.2.2.2.2), ⟨rfl, rfl, hP, hKc, hD.weaken (fun _ _ _ _ => trivial)⟩, fun o t hq => ?_, xA_of hD⟩
  obtain ⟨⟨r, u, ho, hw, hB⟩, hF⟩ := hq
  obtain ⟨z0, ⟨hP1, -, hD1⟩, xh_0⟩ := hB
  have hF2 := xF_of hD hF
  have hD3 : va_D MA (mo_w ad (mck kI kB) z0 (nI (nv 0)) (nI (nv 1)) (nI (nv 2)) (iv 1) (nI (nv 3)) (nI (nv 4)) (iv 2) (iv 3) (iv 4) (nI (nv 5)) (iv 5) (nI (nv 6)) (nI (nv 7)) (nI (nv 8)) (nI (nv 9)) (iv 6) (nI (nv 10)) (nI (nv 11)) (nI (nv 12)) (nI (nv 13)) (nI (nv 14)) (nI (nv 15)) (nI (nv 16)) (iv 7) (fv 0) (fv 1) (fv 2) (bN 3 (qv 0)) (bN 7 (qv 1)) (bN 7 (qv 2)) (bN 4 (qv 3)) (fv 3) (bN 2 (qv 4)) (bH (qv 5)) (fv 4) (b2 (nv 17) (nv 18)) (b2 (nv 19) (nv 20)) (b2 (nv 21) (nv 22)) (b2m (nv 23) (nv 24)) (fv 5) (bA 159 (qv 6)) (fv 6) (fv 7) (fv 8) (fv 9) (fv 10) (bN 7 (qv 7)) (fv 11) (fv 12) (fv 13) (b2 (nv 25) (nv 26)) (fv 14) (fv 15) (fv 16) (fv 17) (fv 18) (fv 19) (fv 20) (bN 13 (qv 8)) (bN 120 (qv 9)) (bN 120 (qv 10)) (fv 21) (bN 120 (qv 11)) (fv 22) (fv 23) (fv 24)) := vD_fst hD mo_fst
  exact ⟨⟨r, (nv, (fun n => [z0, (iv 1), (iv 2), (iv 3), (iv 4), (iv 5), (iv 6), (iv 7)].getD n 0), fv, qv), ho, ⟨z0, Prod.ext hw xh_0, rfl⟩, ⟨⟨hr, hbg, hgr⟩, ad, rfl, hP1, hD3⟩⟩, hF2⟩
def mM_clock (S : CMx) (p0 : Int32) (r : Int32) (u : CMx) : Prop := (fun (nv, iv, fv, qv) => ∃ (z0 : Int32), ((r, z0) = (sp_EM_clock (nv 0) (nv 8) (nv 17) (nv 18) (fv 24) p0)) ∧ u = (nv, (fun n => [z0, (iv 1), (iv 2), (iv 3), (iv 4), (iv 5), (iv 6), (iv 7)].getD n 0), fv, qv)) S
set_option maxHeartbeats 4000000 in
set_option maxRecDepth 100000 in
theorem k_X9_clock (l : Launch) (dC : Nat → ClassId) (dI : Nat → Nat → Nat) (sz : Nat) (kI kB kQ : ClassId) (ma : Nat) (MA : Nat → Prop) (S : CMx) (p0 : Int32) : Met l yX9_clock (.code yX9_clock cX9_clock 2 (some .int) :: VM) ({ frames := 2, cells := 0, slots := 0, locals := 43 }) (va_Pc [.ref ma, .int p0] (xB (dC, dI) kI kB kQ (MInv (dC, dI) kI kB ma MA S) sz)) (va_Qi (fun (r : Int32) (u : CMx) => mM_clock S p0 r u) (fun u t => MInv (dC, dI) kI kB ma MA u t.heap) (xA MA sz)) 0 0 (xA MA sz) := by
  refine met_by (fun a s h => ?_)
  obtain ⟨rfl, rfl, hJ, hK⟩ := h
  obtain ⟨nv, iv, fv, qv⟩ := S
  obtain ⟨⟨hr, hbg, hgr⟩, ad, rfl, hP, hD⟩ := hJ
  have hKc := mk_K hK
  refine ⟨_, _, _, c_EM_clock l dC dI _ ad (mck kI kB) (iv 0) (nv 0) (nv 1) (nv 2) (iv 1) (nv 3) (nv 4) (iv 2) (iv 3) (iv 4) (nv 5) (iv 5) (nv 6) (nv 7) (nv 8) (nv 9) (iv 6) (nv 10) (nv 11) (nv 12) (nv 13) (nv 14) (nv 15) (nv 16) (iv 7) (fv 0) (fv 1) (fv 2) (qv 0) (qv 1) (qv 2) (qv 3) (fv 3) (qv 4) (qv 5) (fv 4) (nv 17) (nv 18) (nv 19) (nv 20) (nv 21) (nv 22) (nv 23) (nv 24) (fv 5) (qv 6) (fv 6) (fv 7) (fv 8) (fv 9) (fv 10) (qv 7) (fv 11) (fv 12) (fv 13) (nv 25) (nv 26) (fv 14) (fv 15) (fv 16) (fv 17) (fv 18) (fv 19) (fv 20) (qv 8) (qv 9) (qv 10) (fv 21) (qv 11) (fv 22) (fv 23) (fv 24) p0 (hr.1) (hr.2.1) (hr.2.2.1) (hr.2.2.2.1) (hr.2.2.2.2.1) (hr.2.2.2.2.2.1) (hr.2.2.2.2.2.2.1) (hr.2.2.2.2.2.2.2.1) (hr.2.2.2.2.2.2.2.2.1) (hr.2.2.2.2.2.2.2.2.2.1) (hr.2.2.2.2.2.2.2.2.2.2.1) (hr.2.2.2.2.2.2.2.2.2.2.2.1) (hr.2.2.2.2.2.2.2.2.2.2.2.2.1) (hr.2.2.2.2.2.2.2.2.2.2.2.2.2.1) (hr.2.2.2.2.2.2.2.2.2.2.2.2.2.2.1) (hr.2.2.2.2.2.2.2.2.2.2.2.2.2.2.2.1) (hr.2.2.2.2.2.2.2.2.2.2.2.2.2.2.2.2.1) (hr.2.2.2.2.2.2.2.2.2.2.2.2.2.2.2.2.2.1) (hr.2.2.2.2.2.2.2.2.2.2.2.2.2.2.2.2.2.2.1) (hr.2.2.2.2.2.2.2.2.2.2.2.2.2.2.2.2.2.2.2.1) (hr.2.2.2.2.2.2.2.2.2.2.2.2.2.2.2.2.2.2.2.2.1) (hr.2.2.2.2.2.2.2.2.2.2.2.2.2.2.2.2.2.2.2.2.2.1) (hr.2.2.2.2.2.2.2.2.2.2.2.2.2.2.2.2.2.2.2.2.2.2.1) (hr.2.2.2.2.2.2.2.2.2.2.2.2.2.2.2.2.2.2.2.2.2.2.2.1) (hr.2.2.2.2.2.2.2.2.2.2.2.2.2.2.2.2.2.2.2.2.2.2.2.2.1) (hr.2.2.2.2.2.2.2.2.2.2.2.2.2.2.2.2.2.2.2.2.2.2.2.2.2.1) (hr.2.2.2.2.2.2.2.2.2.2.2.2.2.2.2.2.2.2.2.2.2.2.2.2.2.2), ⟨rfl, rfl, hP, hKc, hD.weaken (fun _ _ _ _ => trivial)⟩, fun o t hq => ?_, xA_of hD⟩
  obtain ⟨⟨r, u, ho, hw, hB⟩, hF⟩ := hq
  obtain ⟨z0, ⟨hP1, -, hD1⟩, xh_0⟩ := hB
  have hF2 := xF_of hD hF
  have hD3 : va_D MA (mo_w ad (mck kI kB) z0 (nI (nv 0)) (nI (nv 1)) (nI (nv 2)) (iv 1) (nI (nv 3)) (nI (nv 4)) (iv 2) (iv 3) (iv 4) (nI (nv 5)) (iv 5) (nI (nv 6)) (nI (nv 7)) (nI (nv 8)) (nI (nv 9)) (iv 6) (nI (nv 10)) (nI (nv 11)) (nI (nv 12)) (nI (nv 13)) (nI (nv 14)) (nI (nv 15)) (nI (nv 16)) (iv 7) (fv 0) (fv 1) (fv 2) (bN 3 (qv 0)) (bN 7 (qv 1)) (bN 7 (qv 2)) (bN 4 (qv 3)) (fv 3) (bN 2 (qv 4)) (bH (qv 5)) (fv 4) (b2 (nv 17) (nv 18)) (b2 (nv 19) (nv 20)) (b2 (nv 21) (nv 22)) (b2m (nv 23) (nv 24)) (fv 5) (bA 159 (qv 6)) (fv 6) (fv 7) (fv 8) (fv 9) (fv 10) (bN 7 (qv 7)) (fv 11) (fv 12) (fv 13) (b2 (nv 25) (nv 26)) (fv 14) (fv 15) (fv 16) (fv 17) (fv 18) (fv 19) (fv 20) (bN 13 (qv 8)) (bN 120 (qv 9)) (bN 120 (qv 10)) (fv 21) (bN 120 (qv 11)) (fv 22) (fv 23) (fv 24)) := vD_fst hD mo_fst
  exact ⟨⟨r, (nv, (fun n => [z0, (iv 1), (iv 2), (iv 3), (iv 4), (iv 5), (iv 6), (iv 7)].getD n 0), fv, qv), ho, ⟨z0, Prod.ext hw xh_0, rfl⟩, ⟨⟨hr, hbg, hgr⟩, ad, rfl, hP1, hD3⟩⟩, hF2⟩
def mM_replays (S : CMx) (p0 : Int32) (r : Int32) (u : CMx) : Prop := (fun (nv, iv, fv, qv) => ∃ (z54 : Nat → Nat) (z55 : Nat → Nat) (z56 : Nat → Nat) (z57 : Nat → Int32) (z58 : Nat → Nat) (z59 : Nat → Int32) (z64 : Nat → Int32) (z0 : Int32) (z30 : Nat) (z46 : Nat) (z61 : Nat) (z62 : Nat) (z63 : Nat) (z65 : Nat) (z66 : Int32), (∃ v : Nat, v ≤ 1 ∧ r = nI v ∧ (v, z54, z55, z56, z57, z58, z59, z64, z0, z30, z46, z61, z62, z63, z65, z66) = (sp_EM_replays (nv 0) (nv 7) (nv 13) (nv 14) (nv 15) (nv 16) (iv 7) (fv 2) (qv 0) (qv 1) (qv 2) (qv 3) (fv 3) (qv 4) (qv 5) (fv 4) (nv 17) (nv 18) (nv 19) (nv 20) (nv 21) (nv 22) (nv 23) (nv 24) (fv 11) (fv 12) (fv 13) (nv 25) (qv 8) (qv 9) (qv 10) (fv 21) (qv 11) (fv 22) (fv 24) p0)) ∧ u = ((fun n => [(nv 0), (nv 1), (nv 2), (nv 3), (nv 4), (nv 5), (nv 6), (nv 7), z30, (nv 9), z46, (nv 11), (nv 12), z61, z62, z63, z65, (nv 17), (nv 18), (nv 19), (nv 20), (nv 21), (nv 22), (nv 23), (nv 24), (nv 25), (nv 26)].getD n 0), (fun n => [z0, (iv 1), (iv 2), (iv 3), (iv 4), (iv 5), (iv 6), z66].getD n 0), (fun n => [(fv 0), (fv 1), (fv 2), (fv 3), (fv 4), (fv 5), (fv 6), (fv 7), (fv 8), (fv 9), (fv 10), (fv 11), (fv 12), (fv 13), (fv 14), (fv 15), (fv 16), (fv 17), (fv 18), (fv 19), (fv 20), z57, z59, (fv 23), z64].getD n (fun _ => 0)), (fun n => [(qv 0), (qv 1), (qv 2), (qv 3), (qv 4), (qv 5), (qv 6), (qv 7), z54, z55, z56, z58].getD n (fun _ => 0)))) S
set_option maxHeartbeats 4000000 in
set_option maxRecDepth 100000 in
theorem k_X9_replays (l : Launch) (dC : Nat → ClassId) (dI : Nat → Nat → Nat) (sz : Nat) (kI kB kQ : ClassId) (ma : Nat) (MA : Nat → Prop) (S : CMx) (p0 : Int32) : Met l yX9_replays (.code yX9_replays cX9_replays 4 (some .boolean) :: VM) ({ frames := 6, cells := 0, slots := 0, locals := 136 }) (va_Pc [.ref ma, .int p0] (xB (dC, dI) kI kB kQ (MInv (dC, dI) kI kB ma MA S) sz)) (va_Qi (fun (r : Int32) (u : CMx) => mM_replays S p0 r u) (fun u t => MInv (dC, dI) kI kB ma MA u t.heap) (xA MA sz)) 0 0 (xA MA sz) := by
  refine met_by (fun a s h => ?_)
  obtain ⟨rfl, rfl, hJ, hK⟩ := h
  obtain ⟨nv, iv, fv, qv⟩ := S
  obtain ⟨⟨hr, hbg, hgr⟩, ad, rfl, hP, hD⟩ := hJ
  have hKc := mk_K hK
  refine ⟨_, _, _, c_EM_replays l dC dI _ ad (mck kI kB) (iv 0) (nv 0) (nv 1) (nv 2) (iv 1) (nv 3) (nv 4) (iv 2) (iv 3) (iv 4) (nv 5) (iv 5) (nv 6) (nv 7) (nv 8) (nv 9) (iv 6) (nv 10) (nv 11) (nv 12) (nv 13) (nv 14) (nv 15) (nv 16) (iv 7) (fv 0) (fv 1) (fv 2) (qv 0) (qv 1) (qv 2) (qv 3) (fv 3) (qv 4) (qv 5) (fv 4) (nv 17) (nv 18) (nv 19) (nv 20) (nv 21) (nv 22) (nv 23) (nv 24) (fv 5) (qv 6) (fv 6) (fv 7) (fv 8) (fv 9) (fv 10) (qv 7) (fv 11) (fv 12) (fv 13) (nv 25) (nv 26) (fv 14) (fv 15) (fv 16) (fv 17) (fv 18) (fv 19) (fv 20) (qv 8) (qv 9) (qv 10) (fv 21) (qv 11) (fv 22) (fv 23) (fv 24) p0 (hr.1) (hr.2.1) (hr.2.2.1) (hr.2.2.2.1) (hr.2.2.2.2.1) (hr.2.2.2.2.2.1) (hr.2.2.2.2.2.2.1) (hr.2.2.2.2.2.2.2.1) (hr.2.2.2.2.2.2.2.2.1) (hr.2.2.2.2.2.2.2.2.2.1) (hr.2.2.2.2.2.2.2.2.2.2.1) (hr.2.2.2.2.2.2.2.2.2.2.2.1) (hr.2.2.2.2.2.2.2.2.2.2.2.2.1) (hr.2.2.2.2.2.2.2.2.2.2.2.2.2.1) (hr.2.2.2.2.2.2.2.2.2.2.2.2.2.2.1) (hr.2.2.2.2.2.2.2.2.2.2.2.2.2.2.2.1) (hr.2.2.2.2.2.2.2.2.2.2.2.2.2.2.2.2.1) (hr.2.2.2.2.2.2.2.2.2.2.2.2.2.2.2.2.2.1) (hr.2.2.2.2.2.2.2.2.2.2.2.2.2.2.2.2.2.2.1) (hr.2.2.2.2.2.2.2.2.2.2.2.2.2.2.2.2.2.2.2.1) (hr.2.2.2.2.2.2.2.2.2.2.2.2.2.2.2.2.2.2.2.2.1) (hr.2.2.2.2.2.2.2.2.2.2.2.2.2.2.2.2.2.2.2.2.2.1) (hr.2.2.2.2.2.2.2.2.2.2.2.2.2.2.2.2.2.2.2.2.2.2.1) (hr.2.2.2.2.2.2.2.2.2.2.2.2.2.2.2.2.2.2.2.2.2.2.2.1) (hr.2.2.2.2.2.2.2.2.2.2.2.2.2.2.2.2.2.2.2.2.2.2.2.2.1) (hr.2.2.2.2.2.2.2.2.2.2.2.2.2.2.2.2.2.2.2.2.2.2.2.2.2.1) (hr.2.2.2.2.2.2.2.2.2.2.2.2.2.2.2.2.2.2.2.2.2.2.2.2.2.2) hbg hgr, ⟨rfl, rfl, hP, hKc, hD.weaken (fun _ _ _ _ => trivial)⟩, fun o t hq => ?_, xA_of hD⟩
  obtain ⟨⟨r, u, ho, hw, hB⟩, hF⟩ := hq
  obtain ⟨z54, z55, z56, z57, z58, z59, z64, z0, z30, z46, z61, z62, z63, z65, z66, ⟨hP1, -, hD1⟩, hz30, hz46, hz61, hz62, hz63, hz65, xh_0⟩ := hB
  have hF2 := xF_of hD hF
  have hD3 : va_D MA (mo_w ad (mck kI kB) z0 (nI (nv 0)) (nI (nv 1)) (nI (nv 2)) (iv 1) (nI (nv 3)) (nI (nv 4)) (iv 2) (iv 3) (iv 4) (nI (nv 5)) (iv 5) (nI (nv 6)) (nI (nv 7)) (nI z30) (nI (nv 9)) (iv 6) (nI z46) (nI (nv 11)) (nI (nv 12)) (nI z61) (nI z62) (nI z63) (nI z65) z66 (fv 0) (fv 1) (fv 2) (bN 3 (qv 0)) (bN 7 (qv 1)) (bN 7 (qv 2)) (bN 4 (qv 3)) (fv 3) (bN 2 (qv 4)) (bH (qv 5)) (fv 4) (b2 (nv 17) (nv 18)) (b2 (nv 19) (nv 20)) (b2 (nv 21) (nv 22)) (b2m (nv 23) (nv 24)) (fv 5) (bA 159 (qv 6)) (fv 6) (fv 7) (fv 8) (fv 9) (fv 10) (bN 7 (qv 7)) (fv 11) (fv 12) (fv 13) (b2 (nv 25) (nv 26)) (fv 14) (fv 15) (fv 16) (fv 17) (fv 18) (fv 19) (fv 20) (bN 13 z54) (bN 120 z55) (bN 120 z56) z57 (bN 120 z58) z59 (fv 23) z64) := vD_fst hD mo_fst
  exact ⟨⟨r, ((fun n => [(nv 0), (nv 1), (nv 2), (nv 3), (nv 4), (nv 5), (nv 6), (nv 7), z30, (nv 9), z46, (nv 11), (nv 12), z61, z62, z63, z65, (nv 17), (nv 18), (nv 19), (nv 20), (nv 21), (nv 22), (nv 23), (nv 24), (nv 25), (nv 26)].getD n 0), (fun n => [z0, (iv 1), (iv 2), (iv 3), (iv 4), (iv 5), (iv 6), z66].getD n 0), (fun n => [(fv 0), (fv 1), (fv 2), (fv 3), (fv 4), (fv 5), (fv 6), (fv 7), (fv 8), (fv 9), (fv 10), (fv 11), (fv 12), (fv 13), (fv 14), (fv 15), (fv 16), (fv 17), (fv 18), (fv 19), (fv 20), z57, z59, (fv 23), z64].getD n (fun _ => 0)), (fun n => [(qv 0), (qv 1), (qv 2), (qv 3), (qv 4), (qv 5), (qv 6), (qv 7), z54, z55, z56, z58].getD n (fun _ => 0))), ho, ⟨z54, z55, z56, z57, z58, z59, z64, z0, z30, z46, z61, z62, z63, z65, z66, (by obtain ⟨v, h1, h2, h3⟩ := hw; exact ⟨v, h1, h2, Prod.ext h3 xh_0⟩), rfl⟩, ⟨⟨⟨(hr.1), (hr.2.1), (hr.2.2.1), (hr.2.2.2.1), (hr.2.2.2.2.1), (hr.2.2.2.2.2.1), (hr.2.2.2.2.2.2.1), (hr.2.2.2.2.2.2.2.1), hz30, (hr.2.2.2.2.2.2.2.2.2.1), hz46, (hr.2.2.2.2.2.2.2.2.2.2.2.1), (hr.2.2.2.2.2.2.2.2.2.2.2.2.1), hz61, hz62, hz63, hz65, (hr.2.2.2.2.2.2.2.2.2.2.2.2.2.2.2.2.2.1), (hr.2.2.2.2.2.2.2.2.2.2.2.2.2.2.2.2.2.2.1), (hr.2.2.2.2.2.2.2.2.2.2.2.2.2.2.2.2.2.2.2.1), (hr.2.2.2.2.2.2.2.2.2.2.2.2.2.2.2.2.2.2.2.2.1), (hr.2.2.2.2.2.2.2.2.2.2.2.2.2.2.2.2.2.2.2.2.2.1), (hr.2.2.2.2.2.2.2.2.2.2.2.2.2.2.2.2.2.2.2.2.2.2.1), (hr.2.2.2.2.2.2.2.2.2.2.2.2.2.2.2.2.2.2.2.2.2.2.2.1), (hr.2.2.2.2.2.2.2.2.2.2.2.2.2.2.2.2.2.2.2.2.2.2.2.2.1), (hr.2.2.2.2.2.2.2.2.2.2.2.2.2.2.2.2.2.2.2.2.2.2.2.2.2.1), (hr.2.2.2.2.2.2.2.2.2.2.2.2.2.2.2.2.2.2.2.2.2.2.2.2.2.2)⟩, hbg, hgr⟩, ad, rfl, hP1, hD3⟩⟩, hF2⟩
/-- a number up to three digits is what it says -/
theorem num_val {len : Nat} (hl : len ≤ 900) (f : Nat → Int32) {g : Nat} (hg : g ≤ len) : g ≤ (itrv default (fxN len f) (g, 0)).1 ∧ (itrv default (fxN len f) (g, 0)).1 ≤ len ∧ ((itrv default (fxN len f) (g, 0)).1 ≤ g + 3 → ∃ m : Nat, m ≤ 999 ∧ (itrv default (fxN len f) (g, 0)).2 = nI m) := by
  refine itrv_inv (d := default) (f := fxN len f) (fun t => g ≤ t.1 ∧ t.1 ≤ len ∧ (t.1 ≤ g + 3 → ∃ m : Nat, m ≤ p10 (t.1 - g) ∧ t.2 = nI m)) (fun t => g ≤ t.1 ∧ t.1 ≤ len ∧ (t.1 ≤ g + 3 → ∃ m : Nat, m ≤ 999 ∧ t.2 = nI m)) (fun t => len - t.1) ?_ len (g, 0) (by show len - g ≤ len; omega) ⟨Nat.le_refl _, hg, fun _ => ⟨0, Nat.zero_le _, rfl⟩⟩
  rintro ⟨p, v⟩ ⟨h1, h2, h3⟩
  have h1 : g ≤ p := h1
  have h2 : p ≤ len := h2
  have h3 : p ≤ g + 3 → ∃ m : Nat, m ≤ p10 (p - g) ∧ v = nI m := h3
  have out : fxN len f (p, v) = .inr (p, v) → (∃ u, fxN len f (p, v) = .inl u ∧ (g ≤ u.1 ∧ u.1 ≤ len ∧ (u.1 ≤ g + 3 → ∃ m : Nat, m ≤ p10 (u.1 - g) ∧ u.2 = nI m)) ∧ len - u.1 < len - p) ∨ (∃ b, fxN len f (p, v) = .inr b ∧ (g ≤ b.1 ∧ b.1 ≤ len ∧ (b.1 ≤ g + 3 → ∃ m : Nat, m ≤ 999 ∧ b.2 = nI m))) := by
    intro e
    refine Or.inr ⟨(p, v), e, h1, h2, fun z => ?_⟩
    have z : p ≤ g + 3 := z
    obtain ⟨m, hm, em⟩ := h3 z
    refine ⟨m, ?_, em⟩
    have hp : p10 (p - g) ≤ 999 := by
      unfold p10
      split
      · omega
      · split
        · omega
        · split <;> omega
    omega
  by_cases hp : p < len
  · by_cases h4 : f p < 48
    · exact out (by unfold fxN; simp only [if_neg (Nat.not_le.mpr hp), if_pos h4])
    · by_cases h5 : 57 < f p
      · exact out (by unfold fxN; simp only [if_neg (Nat.not_le.mpr hp), if_neg h4, if_pos h5])
      · refine Or.inl ⟨(p + 1, v * 10 + f p - 48), by unfold fxN; simp only [if_neg (Nat.not_le.mpr hp), if_neg h4, if_neg h5], ⟨?_, ?_, ?_⟩, ?_⟩
        · show g ≤ p + 1; omega
        · show p + 1 ≤ len; omega
        · intro h6
          have h6 : p + 1 ≤ g + 3 := h6
          obtain ⟨m, hm, rfl⟩ := h3 (by omega)
          have hm9 : m ≤ 99 ∧ 10 * m + 9 ≤ p10 (p + 1 - g) := by
            have : p - g = 0 ∨ p - g = 1 ∨ p - g = 2 := by omega
            rcases this with h | h | h <;> rw [h] at hm
            · have : p + 1 - g = 1 := by omega
              rw [this]; have : m ≤ 0 := hm; exact ⟨by omega, by show 10 * m + 9 ≤ 9; omega⟩
            · have : p + 1 - g = 2 := by omega
              rw [this]; have : m ≤ 9 := hm; exact ⟨by omega, by show 10 * m + 9 ≤ 99; omega⟩
            · have : p + 1 - g = 3 := by omega
              rw [this]; have : m ≤ 99 := hm; exact ⟨by omega, by show 10 * m + 9 ≤ 999; omega⟩
          obtain ⟨k, hk, ek⟩ := num_step hm9.1 h4 h5
          exact ⟨k, Nat.le_trans hk hm9.2, ek⟩
        · show len - (p + 1) < len - p; omega
  · exact out (by unfold fxN; simp only [if_pos (Nat.not_lt.mp hp)])
theorem scan_num {len pos : Nat} (hl : len ≤ 900) (hp : pos ≤ len) {f : Nat → Int32} {p k : Nat} {v : Int32} (h : sp_E_4_scanNumber len pos (nI pos) f = (p, k, v)) : (k = 3 → ∃ n : Nat, n ≤ 999 ∧ v = nI n) ∧ p ≤ len := by
  rw [scanNumber_def] at h
  obtain ⟨h1, h2, h3⟩ := num_val hl f hp
  generalize itrv default (fxN len f) (pos, 0) = a at h h1 h2 h3
  dsimp only at h
  have e : nI a.1 - nI pos = nI (a.1 - pos) := pk_sub h1
  rw [e] at h
  by_cases g : (3 : Int32) < nI (a.1 - pos)
  · rw [if_pos g] at h
    simp only [Prod.mk.injEq] at h
    obtain ⟨rfl, rfl, -⟩ := h
    exact ⟨fun z => absurd z (by decide), h2⟩
  · have g2 : a.1 ≤ pos + 3 := by
      refine Nat.le_of_not_lt fun z => g (nI_lt (a := 3) (b := a.1 - pos) (by omega) (by omega))
    rw [if_neg g] at h
    by_cases hl0 : (if len ≤ a.1 then 0 else if f a.1 < 97 then 0 else if 122 < f a.1 then 0 else 1) = 0
    · rw [if_pos hl0] at h
      simp only [Prod.mk.injEq] at h
      obtain ⟨rfl, -, rfl⟩ := h
      exact ⟨fun _ => h3 g2, h2⟩
    · rw [if_neg hl0] at h
      simp only [Prod.mk.injEq] at h
      obtain ⟨rfl, rfl, -⟩ := h
      exact ⟨fun z => absurd z (by decide), h2⟩
/-- where a number stands its value is a small one -/
theorem adv_num {f fw : Nat → Int32} (hw : ∀ i, i < 8 → fw i = WW i) {len pos : Nat} (hl : len ≤ 900) (hp : pos ≤ len) {vl : Int32} {p k : Nat} {v a : Int32} (hA : sp_E_4_advance len pos vl f fw = (p, k, v, a)) : k = 3 → ∃ n : Nat, n ≤ 999 ∧ v = nI n := by
  rw [advance_def] at hA
  obtain ⟨h1, h2⟩ := skip_sp (len := len) (f := f) hp
  generalize itrv default (skipS len f) pos = g at hA h1 h2
  dsimp only at hA
  have sg : ∀ {p k : Nat} {v a : Int32}, ((sp_E_4_scanSign g f).1, (sp_E_4_scanSign g f).2, vl, nI g) = (p, k, v, a) → k = 3 → ∃ n : Nat, n ≤ 999 ∧ v = nI n := by
    intro p k v a e z
    have e2 : (sp_E_4_scanSign g f).2 = k := congrArg (fun t => t.2.1) e
    have e3 : (sp_E_4_scanSign g f).2 = (if f g = 59 then 7 else if f g = 60 then 4 else if f g = 61 then 5 else if f g = 62 then 6 else 0) := rfl
    rw [e3, z] at e2
    exfalso
    split at e2
    · omega
    · split at e2
      · omega
      · split at e2
        · omega
        · split at e2 <;> omega
  have nm : ∀ {p k : Nat} {v a : Int32}, ((sp_E_4_scanNumber len g (nI g) f).1, (sp_E_4_scanNumber len g (nI g) f).2.1, (sp_E_4_scanNumber len g (nI g) f).2.2, nI g) = (p, k, v, a) → k = 3 → ∃ n : Nat, n ≤ 999 ∧ v = nI n := by
    intro p k v a e z
    obtain ⟨⟨p1, k1, v1⟩, e1⟩ : ∃ x, sp_E_4_scanNumber len g (nI g) f = x := ⟨_, rfl⟩
    rw [e1] at e
    simp only [Prod.mk.injEq] at e
    obtain ⟨-, rfl, rfl, -⟩ := e
    exact (scan_num hl h2 e1).1 z
  by_cases hg : g < len
  · rw [if_pos hg] at hA
    by_cases h9 : f g < 97
    · rw [if_pos h9] at hA
      by_cases h4 : f g < 48
      · rw [if_pos h4] at hA; exact sg hA
      · rw [if_neg h4] at hA
        by_cases h5 : 57 < f g
        · rw [if_pos h5] at hA; exact sg hA
        · rw [if_neg h5] at hA; exact nm hA
    · rw [if_neg h9] at hA
      by_cases h12 : 122 < f g
      · rw [if_pos h12] at hA
        by_cases h4 : f g < 48
        · rw [if_pos h4] at hA; exact sg hA
        · rw [if_neg h4] at hA
          by_cases h5 : 57 < f g
          · rw [if_pos h5] at hA; exact sg hA
          · rw [if_neg h5] at hA; exact nm hA
      · rw [if_neg h12] at hA
        intro z
        exfalso
        obtain ⟨k0, e0, e1⟩ := kept_sp hw (itrv default (fxW len f) (g, 0)).1 (itrv default (fxW len f) (g, 0)).2
        have e2 : (sp_E_4_scanWord len g (nI g) f fw).2.1 = k := congrArg (fun t => t.2.1) hA
        rw [scanWord_def] at e2
        by_cases h6 : nI (itrv default (fxW len f) (g, 0)).1 - nI g ≤ 6
        · rw [if_pos h6, e0] at e2
          have e2 : k0 = k := e2
          rcases e1 with ⟨e3, -⟩ | ⟨w, hw8, e3, -⟩ <;> omega
        · rw [if_neg h6] at e2
          have e4 : fxK fw (itrv default (fxW len f) (g, 0)).1 (itrv default (fxW len f) (g, 0)).2 (0, 0) = .inr ((itrv default (fxW len f) (g, 0)).1, 0, (itrv default (fxW len f) (g, 0)).2) := by
            unfold fxK; simp
          rw [itrv_inr e4] at e2
          have e2 : 0 = k := e2
          omega
  · rw [if_neg hg] at hA
    intro z
    simp only [Prod.mk.injEq] at hA
    omega
/-- the signs ahead of a number: which, and the number's value -/
theorem how_num {f fw : Nat → Int32} (hw : ∀ i, i < 8 → fw i = WW i) (hf : ∀ i, f i ≠ -1) {len : Nat} (hl : len ≤ 900) {fa fat : Int32} {pos kd : Nat} (hp : pos ≤ len) {vl tka : Int32} {a0 : Nat} {u : Nat} {fa' fat' : Int32} {p k : Nat} {v a : Int32} (h : sp_E_4_readHow fa fat len pos kd vl tka f fw a0 = (u, fa', fat', p, k, v, a)) : u ≤ 5 ∧ (a0 ≠ 0 → u ≤ 2) ∧ p ≤ len ∧ (u ≠ 0 → k = 3 → ∃ n : Nat, n ≤ 999 ∧ v = nI n) := by
  obtain ⟨⟨p1, k1, v1, a1⟩, e1⟩ : ∃ x, sp_E_4_advance len pos vl f fw = x := ⟨_, rfl⟩
  obtain ⟨t1, w1, g1, -, s1, -⟩ := adv_ex hw hf hl hp e1
  obtain ⟨⟨p2, k2, v2, a2⟩, e2⟩ : ∃ x, sp_E_4_advance len p1 v1 f fw = x := ⟨_, rfl⟩
  obtain ⟨t2, w2, g2, -, s2, -⟩ := adv_ex hw hf hl s1.le e2
  have n1 := adv_num hw hl hp e1
  have n2 := adv_num hw hl s1.le e2
  have q1 := s1.le
  have q2 := s2.le
  simp only [sp_E_4_readHow, slet, e1, e2] at h
  by_cases c4 : kd = 4
  · rw [if_pos c4] at h
    by_cases c5 : k1 = 5
    · rw [if_pos c5] at h
      simp only [Prod.mk.injEq] at h
      obtain ⟨rfl, -, -, rfl, rfl, rfl, -⟩ := h
      exact ⟨by omega, fun _ => by omega, q2, fun _ => n2⟩
    · rw [if_neg c5] at h
      simp only [Prod.mk.injEq] at h
      obtain ⟨rfl, -, -, rfl, rfl, rfl, -⟩ := h
      exact ⟨by omega, fun _ => by omega, q1, fun _ => n1⟩
  · rw [if_neg c4] at h
    by_cases c0 : a0 = 0
    · rw [if_pos c0] at h
      by_cases c5 : kd = 5
      · rw [if_pos c5] at h
        simp only [Prod.mk.injEq] at h
        obtain ⟨rfl, -, -, rfl, rfl, rfl, -⟩ := h
        exact ⟨by omega, fun z => absurd c0 z, q1, fun _ => n1⟩
      · rw [if_neg c5] at h
        by_cases c6 : kd = 6
        · rw [if_pos c6] at h
          by_cases c7 : k1 = 5
          · rw [if_pos c7] at h
            simp only [Prod.mk.injEq] at h
            obtain ⟨rfl, -, -, rfl, rfl, rfl, -⟩ := h
            exact ⟨by omega, fun z => absurd c0 z, q2, fun _ => n2⟩
          · rw [if_neg c7] at h
            simp only [Prod.mk.injEq] at h
            obtain ⟨rfl, -, -, rfl, rfl, rfl, -⟩ := h
            exact ⟨by omega, fun z => absurd c0 z, q1, fun _ => n1⟩
        · rw [if_neg c6] at h
          simp only [Prod.mk.injEq] at h
          obtain ⟨rfl, -, -, rfl, rfl, rfl, -⟩ := h
          exact ⟨by omega, fun z => absurd c0 z, hp, fun z => absurd rfl z⟩
    · rw [if_neg c0] at h
      simp only [Prod.mk.injEq] at h
      obtain ⟨rfl, -, -, rfl, rfl, rfl, -⟩ := h
      exact ⟨by omega, fun _ => by omega, hp, fun z => absurd rfl z⟩
/-- the bounds that a condition sets -/
def clF (hw n : Nat) : Int32 := if hw ≤ 2 then (if hw = 0 then (2 : Int32) * nI n else (2 : Int32) * nI n + 1) else 2147483647
def flF (hw n : Nat) : Int32 := if 2 ≤ hw then (if hw = 4 then (-2 : Int32) * nI n else (1 : Int32) - (2 : Int32) * nI n) else 2147483647
theorem sb_eq {f10 f11 f12 f13 : Nat → Int32} {s hw n : Nat} (h10 : f10 s = nI hw) (h11 : f11 s = nI n) (hh : hw ≤ 4) : sp_E_0_setBounds f10 f11 f12 f13 s = (upd f13 s (flF hw n), upd f12 s (clF hw n)) := by
  have i2 : ((nI hw : Int32) ≤ 2) = (hw ≤ 2) := propext (nI_leI (a := hw) (b := 2) (by omega) (by omega))
  have i0 : ((nI hw : Int32) = 0) = (hw = 0) := propext (nI_eq (a := hw) (b := 0) (by omega) (by omega))
  have j2 : ((2 : Int32) ≤ nI hw) = (2 ≤ hw) := propext (nI_leI (a := 2) (b := hw) (by omega) (by omega))
  have j4 : ((nI hw : Int32) = 4) = (hw = 4) := propext (nI_eq (a := hw) (b := 4) (by omega) (by omega))
  simp only [sp_E_0_setBounds, slet, h10, h11, i2, i0, j2, j4, clF, flF]
  by_cases a : hw ≤ 2
  · by_cases b : hw = 0
    · have c : ¬ 2 ≤ hw := by omega
      simp only [if_pos a, if_pos b, if_neg c]
    · by_cases c : 2 ≤ hw
      · have d : ¬ hw = 4 := by omega
        simp only [if_pos a, if_neg b, if_pos c, if_neg d]
      · simp only [if_pos a, if_neg b, if_neg c]
  · have c : 2 ≤ hw := by omega
    by_cases d : hw = 4
    · simp only [if_neg a, if_pos c, if_pos d]
    · simp only [if_neg a, if_pos c, if_neg d]
/-- one condition of the class, and all of them -/
def CW (s m : Nat) (f10 f11 f12 f13 : Nat → Int32) : Prop := ∃ hw n : Nat, hw ≤ m ∧ n ≤ 20 ∧ f10 s = nI hw ∧ f11 s = nI n ∧ f12 s = clF hw n ∧ f13 s = flF hw n
def mH (h : Nat) : Nat := if h < 14 then 4 else 1
def WFc (q8 : Nat → Nat) (f10 f11 f12 f13 : Nat → Int32) : Prop := ∀ h, h < 22 → q8 h ≤ 4 ∧ ∀ k, k < q8 h → CW (h * 4 + k) (mH h) f10 f11 f12 f13
theorem CW.up {s m t : Nat} {f10 f11 f12 f13 : Nat → Int32} {a b c d : Int32} (h : CW s m f10 f11 f12 f13) (ht : s ≠ t) : CW s m (upd f10 t a) (upd f11 t b) (upd f12 t c) (upd f13 t d) := by
  obtain ⟨hw, n, h1, h2, h3, h4, h5, h6⟩ := h
  exact ⟨hw, n, h1, h2, by rw [upd_n ht]; exact h3, by rw [upd_n ht]; exact h4, by rw [upd_n ht]; exact h5, by rw [upd_n ht]; exact h6⟩
theorem wf_add {q8 q9 : Nat → Nat} {f10 f11 f12 f13 : Nat → Int32} {h c hw n k : Nat} (hW : WFc q8 f10 f11 f12 f13) (hh : h < 22) (hk : q8 h = k) (hk4 : k < 4) (h1 : hw ≤ mH h) (h2 : n ≤ 20) : ∃ x9 x10 x11 x12 x13, sp_E_0_addCondition q8 q9 f10 f11 f12 f13 h c (nI hw) (nI n) k = (x13, updN q8 h (k + 1), x9, x10, x11, x12) ∧ WFc (updN q8 h (k + 1)) x10 x11 x12 x13 := by
  have m4 : mH h ≤ 4 := by unfold mH; split <;> omega
  have e := sb_eq (f10 := upd f10 (h * 4 + k) (nI hw)) (f11 := upd f11 (h * 4 + k) (nI n)) (f12 := f12) (f13 := f13) (s := h * 4 + k) (hw := hw) (n := n) upd_s upd_s (by omega)
  refine ⟨updN q9 (h * 4 + k) c, upd f10 (h * 4 + k) (nI hw), upd f11 (h * 4 + k) (nI n), upd f12 (h * 4 + k) (clF hw n), upd f13 (h * 4 + k) (flF hw n), ?_, ?_⟩
  · simp only [sp_E_0_addCondition, slet, e]
  · intro i hi
    obtain ⟨a, b⟩ := hW i hi
    by_cases ei : i = h
    · subst ei
      rw [updN_s]
      refine ⟨by omega, fun j hj => ?_⟩
      by_cases ej : j = k
      · subst ej
        exact ⟨hw, n, h1, h2, upd_s, upd_s, upd_s, upd_s⟩
      · exact (b j (by omega)).up (by omega)
    · rw [updN_n ei]
      exact ⟨a, fun j hj => (b j hj).up (by omega)⟩
theorem told_c_le {fa fat vl tka fa' fat' : Int32} {kd n u : Nat} {fcn : Nat → Int32} (h : sp_E_4_toldName_c fa fat kd vl tka fcn n = (u, fa', fat')) : u ≤ n := by
  have eA : sp_E_4_toldName_c fa fat kd vl tka fcn n = (if kd = 2 then (if sp_E_4_indexOf_c vl fcn n = 0 then (0, 3, tka) else (sp_E_4_indexOf_c vl fcn n - 1 + 1, fa, fat)) else (0, nI (fk kd 2), tka)) := rfl
  have hle : sp_E_4_indexOf_c vl fcn n ≤ n := find_le
  rw [eA] at h
  by_cases c : kd = 2
  · rw [if_pos c] at h
    by_cases c0 : sp_E_4_indexOf_c vl fcn n = 0
    · rw [if_pos c0] at h
      have e : 0 = u := congrArg Prod.fst h
      omega
    · rw [if_neg c0] at h
      have e : sp_E_4_indexOf_c vl fcn n - 1 + 1 = u := congrArg Prod.fst h
      omega
  · rw [if_neg c] at h
    have e : 0 = u := congrArg Prod.fst h
    omega
/-- all conditions of the class, their clocks told -/
def WFa (nc : Nat) (q8 q9 : Nat → Nat) (f10 f11 f12 f13 : Nat → Int32) : Prop := ∀ h, h < 22 → q8 h ≤ 4 ∧ ∀ k, k < q8 h → CW (h * 4 + k) (mH h) f10 f11 f12 f13 ∧ q9 (h * 4 + k) < nc
theorem WFa.up {nc nc' : Nat} {q8 q9 : Nat → Nat} {f10 f11 f12 f13 : Nat → Int32} (h : WFa nc q8 q9 f10 f11 f12 f13) (hn : nc ≤ nc') : WFa nc' q8 q9 f10 f11 f12 f13 := fun i hi => ⟨(h i hi).1, fun k hk => ⟨((h i hi).2 k hk).1, Nat.lt_of_lt_of_le ((h i hi).2 k hk).2 hn⟩⟩
theorem wfa_add {nc : Nat} {q8 q9 : Nat → Nat} {f10 f11 f12 f13 : Nat → Int32} {h c hw n k : Nat} (hW : WFa nc q8 q9 f10 f11 f12 f13) (hh : h < 22) (hk : q8 h = k) (hk4 : k < 4) (h1 : hw ≤ mH h) (h2 : n ≤ 20) (hc : c < nc) : ∃ x9 x10 x11 x12 x13, sp_E_0_addCondition q8 q9 f10 f11 f12 f13 h c (nI hw) (nI n) k = (x13, updN q8 h (k + 1), x9, x10, x11, x12) ∧ WFa nc (updN q8 h (k + 1)) x9 x10 x11 x12 x13 := by
  have m4 : mH h ≤ 4 := by unfold mH; split <;> omega
  have e := sb_eq (f10 := upd f10 (h * 4 + k) (nI hw)) (f11 := upd f11 (h * 4 + k) (nI n)) (f12 := f12) (f13 := f13) (s := h * 4 + k) (hw := hw) (n := n) upd_s upd_s (by omega)
  refine ⟨updN q9 (h * 4 + k) c, upd f10 (h * 4 + k) (nI hw), upd f11 (h * 4 + k) (nI n), upd f12 (h * 4 + k) (clF hw n), upd f13 (h * 4 + k) (flF hw n), ?_, ?_⟩
  · simp only [sp_E_0_addCondition, slet, e]
  · intro i hi
    obtain ⟨a, b⟩ := hW i hi
    by_cases ei : i = h
    · subst ei
      rw [updN_s]
      refine ⟨by omega, fun j hj => ?_⟩
      by_cases ej : j = k
      · subst ej
        exact ⟨⟨hw, n, h1, h2, upd_s, upd_s, upd_s, upd_s⟩, by rw [updN_s]; exact hc⟩
      · have nj : i * 4 + j ≠ i * 4 + k := by omega
        exact ⟨(b j (by omega)).1.up nj, by rw [updN_n nj]; exact (b j (by omega)).2⟩
    · rw [updN_n ei]
      refine ⟨a, fun j hj => ?_⟩
      have nj : i * 4 + j ≠ h * 4 + k := by omega
      exact ⟨(b j hj).1.up nj, by rw [updN_n nj]; exact (b j hj).2⟩
theorem wfa_c11 {f fw fcn : Nat → Int32} (hw : ∀ i, i < 8 → fw i = WW i) (hf : ∀ i, f i ≠ -1) {len : Nat} (hl : len ≤ 900) {nc a0 : Nat} (ha : a0 < 22) (hm : 14 ≤ a0) {fa fat vl tka : Int32} {pos kd : Nat} {q8 q9 Q : Nat → Nat} {f10 f11 f12 f13 : Nat → Int32} (hp : pos ≤ len) (hW : WFa nc q8 q9 f10 f11 f12 f13) (h0 : q8 a0 = 0) (hQ : ∀ h, h ≠ a0 → q8 h = Q h) :
    ∃ u y8 y9 y10 y11 y12 y13 fa' fat' p k v a, sp_E_4_readsConditions_11 fa fat len pos kd vl tka f fw fcn nc q8 q9 f10 f11 f12 f13 a0 = (u, y8, y9, y10, y11, y12, y13, fa', fat', p, k, v, a) ∧ WFa nc y8 y9 y10 y11 y12 y13 ∧ p ≤ len ∧ ∀ h, h ≠ a0 → y8 h = Q h := by
  have hmh : mH a0 = 1 := by unfold mH; rw [if_neg (by omega)]
  refine itrv_inv (d := default) (f := sp_E_4_readsConditions_11_L1 len f fw fcn nc a0) (fun t => ∃ q8 q9 f10 f11 f12 f13 fa fat pos kd vl tka k, t = (q8, q9, f10, f11, f12, f13, fa, fat, pos, kd, vl, tka, k) ∧ WFa nc q8 q9 f10 f11 f12 f13 ∧ q8 a0 = k ∧ k ≤ 3 ∧ pos ≤ len ∧ ∀ h, h ≠ a0 → q8 h = Q h) (fun b => ∃ u y8 y9 y10 y11 y12 y13 fa' fat' p k v a, b = (u, y8, y9, y10, y11, y12, y13, fa', fat', p, k, v, a) ∧ WFa nc y8 y9 y10 y11 y12 y13 ∧ p ≤ len ∧ ∀ h, h ≠ a0 → y8 h = Q h) (fun t => 3 - t.2.2.2.2.2.2.2.2.2.2.2.2) ?_ 3 (q8, q9, f10, f11, f12, f13, fa, fat, pos, kd, vl, tka, 0) (Nat.sub_le _ _) ⟨q8, q9, f10, f11, f12, f13, fa, fat, pos, kd, vl, tka, 0, rfl, hW, h0, Nat.zero_le _, hp, hQ⟩
  rintro _ ⟨q8, q9, f10, f11, f12, f13, fa, fat, pos, kd, vl, tka, k, rfl, hW, hk, h3, hp, hQ⟩
  by_cases c : kd = 11
  · by_cases c3 : k = 3
    · have e : sp_E_4_readsConditions_11_L1 len f fw fcn nc a0 (q8, q9, f10, f11, f12, f13, fa, fat, pos, kd, vl, tka, k) = .inr (0, q8, q9, f10, f11, f12, f13, 5, tka, pos, kd, vl, tka) := by
        simp only [sp_E_4_readsConditions_11_L1, slet, if_pos c, if_pos c3, sp_E_4_refuse]
      exact Or.inr ⟨_, e, _, _, _, _, _, _, _, _, _, _, _, _, _, rfl, hW, hp, hQ⟩
    · obtain ⟨⟨p1, k1, v1, a1⟩, e1⟩ : ∃ x, sp_E_4_advance len pos vl f fw = x := ⟨_, rfl⟩
      obtain ⟨t1, w1, g1, -, s1, -⟩ := adv_ex hw hf hl hp e1
      obtain ⟨⟨u1, fa1, fat1⟩, e2⟩ : ∃ x, sp_E_4_toldName_c fa fat k1 v1 a1 fcn nc = x := ⟨_, rfl⟩
      have hu1 := told_c_le e2
      by_cases c4 : u1 = 0
      · have e : sp_E_4_readsConditions_11_L1 len f fw fcn nc a0 (q8, q9, f10, f11, f12, f13, fa, fat, pos, kd, vl, tka, k) = .inr (0, q8, q9, f10, f11, f12, f13, fa1, fat1, p1, k1, v1, a1) := by
          simp only [sp_E_4_readsConditions_11_L1, slet, if_pos c, if_neg c3, e1, e2, if_pos c4]
        exact Or.inr ⟨_, e, _, _, _, _, _, _, _, _, _, _, _, _, _, rfl, hW, s1.le, hQ⟩
      · obtain ⟨⟨p2, k2, v2, a2⟩, e3⟩ : ∃ x, sp_E_4_advance len p1 v1 f fw = x := ⟨_, rfl⟩
        obtain ⟨t2, w2, g2, -, s2, -⟩ := adv_ex hw hf hl s1.le e3
        obtain ⟨⟨u2, fa2, fat2, p3, k3, v3, a3⟩, e4⟩ : ∃ x, sp_E_4_readHow fa1 fat1 len p2 k2 v2 a2 f fw 1 = x := ⟨_, rfl⟩
        obtain ⟨h5, h2, hp3, hn⟩ := how_num hw hf hl s2.le e4
        by_cases c5 : u2 = 0
        · have e : sp_E_4_readsConditions_11_L1 len f fw fcn nc a0 (q8, q9, f10, f11, f12, f13, fa, fat, pos, kd, vl, tka, k) = .inr (0, q8, q9, f10, f11, f12, f13, fa2, fat2, p3, k3, v3, a3) := by
            simp only [sp_E_4_readsConditions_11_L1, slet, if_pos c, if_neg c3, e1, e2, if_neg c4, e3, e4, if_pos c5]
          exact Or.inr ⟨_, e, _, _, _, _, _, _, _, _, _, _, _, _, _, rfl, hW, hp3, hQ⟩
        · by_cases c6 : k3 = 3
          · by_cases c7 : v3 ≤ 20
            · obtain ⟨n, hn9, rfl⟩ := hn c5 c6
              have hn20 : n ≤ 20 := (nI_leI (a := n) (b := 20) (by omega) (by omega)).mp c7
              obtain ⟨x9, x10, x11, x12, x13, e5, hW'⟩ := wfa_add (q9 := q9) (c := u1 - 1) (hw := u2 - 1) (n := n) hW ha hk (by omega) (by rw [hmh]; have := h2 (by decide); omega) hn20 (by omega)
              obtain ⟨⟨p4, k4, v4, a4⟩, e6⟩ : ∃ x, sp_E_4_advance len p3 (nI n) f fw = x := ⟨_, rfl⟩
              obtain ⟨t4, w4, g4, -, s4, -⟩ := adv_ex hw hf hl hp3 e6
              have e : sp_E_4_readsConditions_11_L1 len f fw fcn nc a0 (q8, q9, f10, f11, f12, f13, fa, fat, pos, kd, vl, tka, k) = .inl (updN q8 a0 (k + 1), x9, x10, x11, x12, x13, fa2, fat2, p4, k4, v4, a4, k + 1) := by
                simp only [sp_E_4_readsConditions_11_L1, slet, if_pos c, if_neg c3, e1, e2, if_neg c4, e3, e4, if_neg c5, if_pos c6, if_pos c7, e5, e6]
              exact Or.inl ⟨_, e, ⟨_, _, _, _, _, _, _, _, _, _, _, _, _, rfl, hW', updN_s, by omega, s4.le, fun h hh => (updN_n hh).trans (hQ h hh)⟩, by show 3 - (k + 1) < 3 - k; omega⟩
            · have e : sp_E_4_readsConditions_11_L1 len f fw fcn nc a0 (q8, q9, f10, f11, f12, f13, fa, fat, pos, kd, vl, tka, k) = .inr (0, q8, q9, f10, f11, f12, f13, 4, a3, p3, k3, v3, a3) := by
                simp only [sp_E_4_readsConditions_11_L1, slet, if_pos c, if_neg c3, e1, e2, if_neg c4, e3, e4, if_neg c5, if_pos c6, if_neg c7, sp_E_4_refuse]
              exact Or.inr ⟨_, e, _, _, _, _, _, _, _, _, _, _, _, _, _, rfl, hW, hp3, hQ⟩
          · have e : sp_E_4_readsConditions_11_L1 len f fw fcn nc a0 (q8, q9, f10, f11, f12, f13, fa, fat, pos, kd, vl, tka, k) = .inr (0, q8, q9, f10, f11, f12, f13, nI (fk k3 2), a3, p3, k3, v3, a3) := by
              simp only [sp_E_4_readsConditions_11_L1, slet, if_pos c, if_neg c3, e1, e2, if_neg c4, e3, e4, if_neg c5, if_neg c6, refT_eq]
            exact Or.inr ⟨_, e, _, _, _, _, _, _, _, _, _, _, _, _, _, rfl, hW, hp3, hQ⟩
  · have e : sp_E_4_readsConditions_11_L1 len f fw fcn nc a0 (q8, q9, f10, f11, f12, f13, fa, fat, pos, kd, vl, tka, k) = .inr (1, q8, q9, f10, f11, f12, f13, fa, fat, pos, kd, vl, tka) := by
      simp only [sp_E_4_readsConditions_11_L1, slet, if_neg c]
    exact Or.inr ⟨_, e, _, _, _, _, _, _, _, _, _, _, _, _, _, rfl, hW, hp, hQ⟩
theorem wfa_c14 {f fw fcn : Nat → Int32} (hw : ∀ i, i < 8 → fw i = WW i) (hf : ∀ i, f i ≠ -1) {len : Nat} (hl : len ≤ 900) {nc a0 : Nat} (ha : a0 < 22) (hm : a0 < 14) {fa fat vl tka : Int32} {pos kd : Nat} {q8 q9 Q : Nat → Nat} {f10 f11 f12 f13 : Nat → Int32} (hp : pos ≤ len) (hW : WFa nc q8 q9 f10 f11 f12 f13) (h0 : q8 a0 = 0) (hQ : ∀ h, h ≠ a0 → q8 h = Q h) :
    ∃ u y8 y9 y10 y11 y12 y13 fa' fat' p k v a, sp_E_4_readsConditions_14 fa fat len pos kd vl tka f fw fcn nc q8 q9 f10 f11 f12 f13 a0 = (u, y8, y9, y10, y11, y12, y13, fa', fat', p, k, v, a) ∧ WFa nc y8 y9 y10 y11 y12 y13 ∧ p ≤ len ∧ ∀ h, h ≠ a0 → y8 h = Q h := by
  have hmh : mH a0 = 4 := by unfold mH; rw [if_pos hm]
  refine itrv_inv (d := default) (f := sp_E_4_readsConditions_14_L1 len f fw fcn nc a0) (fun t => ∃ q8 q9 f10 f11 f12 f13 fa fat pos kd vl tka k, t = (q8, q9, f10, f11, f12, f13, fa, fat, pos, kd, vl, tka, k) ∧ WFa nc q8 q9 f10 f11 f12 f13 ∧ q8 a0 = k ∧ k ≤ 4 ∧ pos ≤ len ∧ ∀ h, h ≠ a0 → q8 h = Q h) (fun b => ∃ u y8 y9 y10 y11 y12 y13 fa' fat' p k v a, b = (u, y8, y9, y10, y11, y12, y13, fa', fat', p, k, v, a) ∧ WFa nc y8 y9 y10 y11 y12 y13 ∧ p ≤ len ∧ ∀ h, h ≠ a0 → y8 h = Q h) (fun t => 4 - t.2.2.2.2.2.2.2.2.2.2.2.2) ?_ 4 (q8, q9, f10, f11, f12, f13, fa, fat, pos, kd, vl, tka, 0) (Nat.sub_le _ _) ⟨q8, q9, f10, f11, f12, f13, fa, fat, pos, kd, vl, tka, 0, rfl, hW, h0, Nat.zero_le _, hp, hQ⟩
  rintro _ ⟨q8, q9, f10, f11, f12, f13, fa, fat, pos, kd, vl, tka, k, rfl, hW, hk, h3, hp, hQ⟩
  by_cases c : kd = 14
  · by_cases c3 : k = 4
    · have e : sp_E_4_readsConditions_14_L1 len f fw fcn nc a0 (q8, q9, f10, f11, f12, f13, fa, fat, pos, kd, vl, tka, k) = .inr (0, q8, q9, f10, f11, f12, f13, 5, tka, pos, kd, vl, tka) := by
        simp only [sp_E_4_readsConditions_14_L1, slet, if_pos c, if_pos c3, sp_E_4_refuse]
      exact Or.inr ⟨_, e, _, _, _, _, _, _, _, _, _, _, _, _, _, rfl, hW, hp, hQ⟩
    · obtain ⟨⟨p1, k1, v1, a1⟩, e1⟩ : ∃ x, sp_E_4_advance len pos vl f fw = x := ⟨_, rfl⟩
      obtain ⟨t1, w1, g1, -, s1, -⟩ := adv_ex hw hf hl hp e1
      obtain ⟨⟨u1, fa1, fat1⟩, e2⟩ : ∃ x, sp_E_4_toldName_c fa fat k1 v1 a1 fcn nc = x := ⟨_, rfl⟩
      have hu1 := told_c_le e2
      by_cases c4 : u1 = 0
      · have e : sp_E_4_readsConditions_14_L1 len f fw fcn nc a0 (q8, q9, f10, f11, f12, f13, fa, fat, pos, kd, vl, tka, k) = .inr (0, q8, q9, f10, f11, f12, f13, fa1, fat1, p1, k1, v1, a1) := by
          simp only [sp_E_4_readsConditions_14_L1, slet, if_pos c, if_neg c3, e1, e2, if_pos c4]
        exact Or.inr ⟨_, e, _, _, _, _, _, _, _, _, _, _, _, _, _, rfl, hW, s1.le, hQ⟩
      · obtain ⟨⟨p2, k2, v2, a2⟩, e3⟩ : ∃ x, sp_E_4_advance len p1 v1 f fw = x := ⟨_, rfl⟩
        obtain ⟨t2, w2, g2, -, s2, -⟩ := adv_ex hw hf hl s1.le e3
        obtain ⟨⟨u2, fa2, fat2, p3, k3, v3, a3⟩, e4⟩ : ∃ x, sp_E_4_readHow fa1 fat1 len p2 k2 v2 a2 f fw 0 = x := ⟨_, rfl⟩
        obtain ⟨h5, h2, hp3, hn⟩ := how_num hw hf hl s2.le e4
        by_cases c5 : u2 = 0
        · have e : sp_E_4_readsConditions_14_L1 len f fw fcn nc a0 (q8, q9, f10, f11, f12, f13, fa, fat, pos, kd, vl, tka, k) = .inr (0, q8, q9, f10, f11, f12, f13, fa2, fat2, p3, k3, v3, a3) := by
            simp only [sp_E_4_readsConditions_14_L1, slet, if_pos c, if_neg c3, e1, e2, if_neg c4, e3, e4, if_pos c5]
          exact Or.inr ⟨_, e, _, _, _, _, _, _, _, _, _, _, _, _, _, rfl, hW, hp3, hQ⟩
        · by_cases c6 : k3 = 3
          · by_cases c7 : v3 ≤ 20
            · obtain ⟨n, hn9, rfl⟩ := hn c5 c6
              have hn20 : n ≤ 20 := (nI_leI (a := n) (b := 20) (by omega) (by omega)).mp c7
              obtain ⟨x9, x10, x11, x12, x13, e5, hW'⟩ := wfa_add (q9 := q9) (c := u1 - 1) (hw := u2 - 1) (n := n) hW ha hk (by omega) (by rw [hmh]; omega) hn20 (by omega)
              obtain ⟨⟨p4, k4, v4, a4⟩, e6⟩ : ∃ x, sp_E_4_advance len p3 (nI n) f fw = x := ⟨_, rfl⟩
              obtain ⟨t4, w4, g4, -, s4, -⟩ := adv_ex hw hf hl hp3 e6
              have e : sp_E_4_readsConditions_14_L1 len f fw fcn nc a0 (q8, q9, f10, f11, f12, f13, fa, fat, pos, kd, vl, tka, k) = .inl (updN q8 a0 (k + 1), x9, x10, x11, x12, x13, fa2, fat2, p4, k4, v4, a4, k + 1) := by
                simp only [sp_E_4_readsConditions_14_L1, slet, if_pos c, if_neg c3, e1, e2, if_neg c4, e3, e4, if_neg c5, if_pos c6, if_pos c7, e5, e6]
              exact Or.inl ⟨_, e, ⟨_, _, _, _, _, _, _, _, _, _, _, _, _, rfl, hW', updN_s, by omega, s4.le, fun h hh => (updN_n hh).trans (hQ h hh)⟩, by show 4 - (k + 1) < 4 - k; omega⟩
            · have e : sp_E_4_readsConditions_14_L1 len f fw fcn nc a0 (q8, q9, f10, f11, f12, f13, fa, fat, pos, kd, vl, tka, k) = .inr (0, q8, q9, f10, f11, f12, f13, 4, a3, p3, k3, v3, a3) := by
                simp only [sp_E_4_readsConditions_14_L1, slet, if_pos c, if_neg c3, e1, e2, if_neg c4, e3, e4, if_neg c5, if_pos c6, if_neg c7, sp_E_4_refuse]
              exact Or.inr ⟨_, e, _, _, _, _, _, _, _, _, _, _, _, _, _, rfl, hW, hp3, hQ⟩
          · have e : sp_E_4_readsConditions_14_L1 len f fw fcn nc a0 (q8, q9, f10, f11, f12, f13, fa, fat, pos, kd, vl, tka, k) = .inr (0, q8, q9, f10, f11, f12, f13, nI (fk k3 2), a3, p3, k3, v3, a3) := by
              simp only [sp_E_4_readsConditions_14_L1, slet, if_pos c, if_neg c3, e1, e2, if_neg c4, e3, e4, if_neg c5, if_neg c6, refT_eq]
            exact Or.inr ⟨_, e, _, _, _, _, _, _, _, _, _, _, _, _, _, rfl, hW, hp3, hQ⟩
  · have e : sp_E_4_readsConditions_14_L1 len f fw fcn nc a0 (q8, q9, f10, f11, f12, f13, fa, fat, pos, kd, vl, tka, k) = .inr (1, q8, q9, f10, f11, f12, f13, fa, fat, pos, kd, vl, tka) := by
      simp only [sp_E_4_readsConditions_14_L1, slet, if_neg c]
    exact Or.inr ⟨_, e, _, _, _, _, _, _, _, _, _, _, _, _, _, rfl, hW, hp, hQ⟩
/-- what is so of the class's automaton while it is read -/
def WFm (nc np ne : Nat) (f4 : Nat → Int32) (q8 q9 : Nat → Nat) (f10 f11 f12 f13 : Nat → Int32) : Prop := WFa nc q8 q9 f10 f11 f12 f13 ∧ (∀ i, i < 8 → f4 i = 0 ∨ f4 i = 1) ∧ (∀ i, np ≤ i → i < 8 → q8 (14 + i) = 0) ∧ (∀ i, ne ≤ i → i < 14 → q8 i = 0)
theorem wf_resets {f fw : Nat → Int32} (hw : ∀ i, i < 8 → fw i = WW i) (hf : ∀ i, f i ≠ -1) {len : Nat} (hl : len ≤ 900) {fcn f7 : Nat → Int32} {fa fat vl tka : Int32} {pos kd nc a0 : Nat} (hp : pos ≤ len) : ∃ u y7 fa' fat' p k v a, sp_E_4_readsResets fa fat len pos kd vl tka f fw fcn nc f7 a0 = (u, y7, fa', fat', p, k, v, a) ∧ p ≤ len := by
  refine itrv_inv (d := default) (f := sp_E_4_readsResets_L1 len f fw fcn nc a0) (fun t => ∃ f7 fa fat pos kd vl tka k, t = (f7, fa, fat, pos, kd, vl, tka, k) ∧ pos ≤ len ∧ k ≤ 4) (fun b => ∃ u y7 fa' fat' p k v a, b = (u, y7, fa', fat', p, k, v, a) ∧ p ≤ len) (fun t => 4 - t.2.2.2.2.2.2.2) ?_ 4 (f7, fa, fat, pos, kd, vl, tka, 0) (Nat.sub_le _ _) ⟨f7, fa, fat, pos, kd, vl, tka, 0, rfl, hp, Nat.zero_le _⟩
  rintro _ ⟨f7, fa, fat, pos, kd, vl, tka, k, rfl, hp, h4⟩
  by_cases c3 : 3 < k
  · have e : sp_E_4_readsResets_L1 len f fw fcn nc a0 (f7, fa, fat, pos, kd, vl, tka, k) = .inr (1, f7, fa, fat, pos, kd, vl, tka) := by
      simp only [sp_E_4_readsResets_L1, slet, if_pos c3]
    exact Or.inr ⟨_, e, _, _, _, _, _, _, _, _, rfl, hp⟩
  · by_cases c : kd = 15
    · obtain ⟨⟨p1, k1, v1, a1⟩, e1⟩ : ∃ x, sp_E_4_advance len pos vl f fw = x := ⟨_, rfl⟩
      obtain ⟨t1, w1, g1, -, s1, -⟩ := adv_ex hw hf hl hp e1
      obtain ⟨⟨u1, fa1, fat1⟩, e2⟩ : ∃ x, sp_E_4_toldName_c fa fat k1 v1 a1 fcn nc = x := ⟨_, rfl⟩
      by_cases c4 : u1 = 0
      · have e : sp_E_4_readsResets_L1 len f fw fcn nc a0 (f7, fa, fat, pos, kd, vl, tka, k) = .inr (0, f7, fa1, fat1, p1, k1, v1, a1) := by
          simp only [sp_E_4_readsResets_L1, slet, if_neg c3, if_pos c, e1, e2, if_pos c4]
        exact Or.inr ⟨_, e, _, _, _, _, _, _, _, _, rfl, s1.le⟩
      · by_cases c5 : (f7 a0 >>> ((nI (u1 - 1) : Int32) &&& 31)) &&& (1 : Int32) = 1
        · have e : sp_E_4_readsResets_L1 len f fw fcn nc a0 (f7, fa, fat, pos, kd, vl, tka, k) = .inr (0, f7, 5, a1, p1, k1, v1, a1) := by
            simp only [sp_E_4_readsResets_L1, slet, if_neg c3, if_pos c, e1, e2, if_neg c4, if_pos c5, sp_E_4_refuse]
          exact Or.inr ⟨_, e, _, _, _, _, _, _, _, _, rfl, s1.le⟩
        · obtain ⟨⟨p2, k2, v2, a2⟩, e3⟩ : ∃ x, sp_E_4_advance len p1 v1 f fw = x := ⟨_, rfl⟩
          obtain ⟨t2, w2, g2, -, s2, -⟩ := adv_ex hw hf hl s1.le e3
          have e : sp_E_4_readsResets_L1 len f fw fcn nc a0 (f7, fa, fat, pos, kd, vl, tka, k) = .inl (upd f7 a0 (f7 a0 ||| ((1 : Int32) <<< ((nI (u1 - 1) : Int32) &&& 31))), fa1, fat1, p2, k2, v2, a2, k + 1) := by
            simp only [sp_E_4_readsResets_L1, slet, if_neg c3, if_pos c, e1, e2, if_neg c4, if_neg c5, e3]
          exact Or.inl ⟨_, e, ⟨_, _, _, _, _, _, _, _, rfl, s2.le, by omega⟩, by show 4 - (k + 1) < 4 - k; omega⟩
    · have e : sp_E_4_readsResets_L1 len f fw fcn nc a0 (f7, fa, fat, pos, kd, vl, tka, k) = .inr (1, f7, fa, fat, pos, kd, vl, tka) := by
        simp only [sp_E_4_readsResets_L1, slet, if_neg c3, if_neg c]
      exact Or.inr ⟨_, e, _, _, _, _, _, _, _, _, rfl, hp⟩
theorem wf_clock {f fw : Nat → Int32} (hw : ∀ i, i < 8 → fw i = WW i) (hf : ∀ i, f i ≠ -1) {len : Nat} (hl : len ≤ 900) {fcn fpn : Nat → Int32} {fa fat vl tka : Int32} {pos kd nc np : Nat} (hp : pos ≤ len) : ∃ u ycn fa' fat' p k v a nc', sp_E_4_readsClock fa fat len pos kd vl tka f fw fcn fpn nc np = (u, ycn, fa', fat', p, k, v, a, nc') ∧ p ≤ len ∧ nc ≤ nc' := by
  by_cases c : nc < 3
  · obtain ⟨⟨p1, k1, v1, a1⟩, e1⟩ : ∃ x, sp_E_4_advance len pos vl f fw = x := ⟨_, rfl⟩
    obtain ⟨t1, w1, g1, -, s1, -⟩ := adv_ex hw hf hl hp e1
    obtain ⟨⟨u1, fa1, fat1⟩, e2⟩ : ∃ x, sp_E_4_isNewName fa fat k1 v1 a1 fcn fpn nc np = x := ⟨_, rfl⟩
    by_cases c1 : u1 = 0
    · have e : sp_E_4_readsClock fa fat len pos kd vl tka f fw fcn fpn nc np = (0, fcn, fa1, fat1, p1, k1, v1, a1, nc) := by
        simp only [sp_E_4_readsClock, slet, if_pos c, e1, e2, if_pos c1]
      exact ⟨_, _, _, _, _, _, _, _, _, e, s1.le, Nat.le_refl _⟩
    · obtain ⟨⟨p2, k2, v2, a2⟩, e3⟩ : ∃ x, sp_E_4_advance len p1 v1 f fw = x := ⟨_, rfl⟩
      obtain ⟨t2, w2, g2, -, s2, -⟩ := adv_ex hw hf hl s1.le e3
      have e : sp_E_4_readsClock fa fat len pos kd vl tka f fw fcn fpn nc np = (1, upd fcn nc v1, fa1, fat1, p2, k2, v2, a2, nc + 1) := by
        simp only [sp_E_4_readsClock, slet, if_pos c, e1, e2, if_neg c1, e3]
      exact ⟨_, _, _, _, _, _, _, _, _, e, s2.le, Nat.le_succ _⟩
  · have e : sp_E_4_readsClock fa fat len pos kd vl tka f fw fcn fpn nc np = (0, fcn, 5, tka, pos, kd, vl, tka, nc) := by
      simp only [sp_E_4_readsClock, slet, if_neg c, sp_E_4_refuse]
    exact ⟨_, _, _, _, _, _, _, _, _, e, hp, Nat.le_refl _⟩
theorem wf_start {f fw : Nat → Int32} (hw : ∀ i, i < 8 → fw i = WW i) (hf : ∀ i, f i ≠ -1) {len : Nat} (hl : len ≤ 900) {fpn : Nat → Int32} {fa fat vl tka st0 : Int32} {pos kd np : Nat} (hp : pos ≤ len) : ∃ u fa' fat' p k v a st', sp_E_4_readsStart fa fat len pos kd vl tka f fw fpn np st0 = (u, fa', fat', p, k, v, a, st') ∧ p ≤ len := by
  by_cases c : st0 = -1
  · obtain ⟨⟨p1, k1, v1, a1⟩, e1⟩ : ∃ x, sp_E_4_advance len pos vl f fw = x := ⟨_, rfl⟩
    obtain ⟨t1, w1, g1, -, s1, -⟩ := adv_ex hw hf hl hp e1
    obtain ⟨⟨u1, fa1, fat1⟩, e2⟩ : ∃ x, sp_E_4_toldName_p fa fat k1 v1 a1 fpn np = x := ⟨_, rfl⟩
    by_cases c1 : u1 = 0
    · have e : sp_E_4_readsStart fa fat len pos kd vl tka f fw fpn np st0 = (0, fa1, fat1, p1, k1, v1, a1, st0) := by
        simp only [sp_E_4_readsStart, slet, if_pos c, e1, e2, if_pos c1]
      exact ⟨_, _, _, _, _, _, _, _, e, s1.le⟩
    · obtain ⟨⟨p2, k2, v2, a2⟩, e3⟩ : ∃ x, sp_E_4_advance len p1 v1 f fw = x := ⟨_, rfl⟩
      obtain ⟨t2, w2, g2, -, s2, -⟩ := adv_ex hw hf hl s1.le e3
      have e : sp_E_4_readsStart fa fat len pos kd vl tka f fw fpn np st0 = (1, fa1, fat1, p2, k2, v2, a2, nI (u1 - 1)) := by
        simp only [sp_E_4_readsStart, slet, if_pos c, e1, e2, if_neg c1, e3]
      exact ⟨_, _, _, _, _, _, _, _, e, s2.le⟩
  · have e : sp_E_4_readsStart fa fat len pos kd vl tka f fw fpn np st0 = (0, 5, tka, pos, kd, vl, tka, st0) := by
      simp only [sp_E_4_readsStart, slet, if_neg c, sp_E_4_refuse]
    exact ⟨_, _, _, _, _, _, _, _, e, hp⟩
theorem wf_stop {f fw : Nat → Int32} (hw : ∀ i, i < 8 → fw i = WW i) (hf : ∀ i, f i ≠ -1) {len : Nat} (hl : len ≤ 900) {fa fat vl tka : Int32} {pos kd : Nat} (hp : pos ≤ len) : ∃ u fa' fat' p k v a, sp_E_4_readsStop fa fat len pos kd vl tka f fw = (u, fa', fat', p, k, v, a) ∧ p ≤ len := by
  by_cases c : kd = 7
  · obtain ⟨⟨p1, k1, v1, a1⟩, e1⟩ : ∃ x, sp_E_4_advance len pos vl f fw = x := ⟨_, rfl⟩
    obtain ⟨t1, w1, g1, -, s1, -⟩ := adv_ex hw hf hl hp e1
    have e : sp_E_4_readsStop fa fat len pos kd vl tka f fw = (1, fa, fat, p1, k1, v1, a1) := by
      simp only [sp_E_4_readsStop, slet, if_pos c, e1]
    exact ⟨_, _, _, _, _, _, _, e, s1.le⟩
  · have e : sp_E_4_readsStop fa fat len pos kd vl tka f fw = (0, nI (fk kd 2), tka, pos, kd, vl, tka) := by
      simp only [sp_E_4_readsStop, slet, if_neg c, refT_eq]
    exact ⟨_, _, _, _, _, _, _, e, hp⟩
theorem wf_place {f fw : Nat → Int32} (hw : ∀ i, i < 8 → fw i = WW i) (hf : ∀ i, f i ≠ -1) {len : Nat} (hl : len ≤ 900) {fcn fpn : Nat → Int32} {fa fat vl tka : Int32} {pos kd nc np ne : Nat} {q8 q9 : Nat → Nat} {f4 f10 f11 f12 f13 : Nat → Int32} (hp : pos ≤ len) (hW : WFm nc np ne f4 q8 q9 f10 f11 f12 f13) :
    ∃ u y8 y9 y10 y11 y12 y13 ypn y4 fa' fat' p k v a np', sp_E_4_readsPlace fa fat len pos kd vl tka f fw fcn fpn nc np f4 q8 q9 f10 f11 f12 f13 = (u, y8, y9, y10, y11, y12, y13, ypn, y4, fa', fat', p, k, v, a, np') ∧ p ≤ len ∧ WFm nc np' ne y4 y8 y9 y10 y11 y12 y13 := by
  by_cases c : np < 8
  · obtain ⟨⟨p1, k1, v1, a1⟩, e1⟩ : ∃ x, sp_E_4_advance len pos vl f fw = x := ⟨_, rfl⟩
    obtain ⟨t1, w1, g1, -, s1, -⟩ := adv_ex hw hf hl hp e1
    obtain ⟨⟨u1, fa1, fat1⟩, e2⟩ : ∃ x, sp_E_4_isNewName fa fat k1 v1 a1 fcn fpn nc np = x := ⟨_, rfl⟩
    by_cases c1 : u1 = 0
    · have e : sp_E_4_readsPlace fa fat len pos kd vl tka f fw fcn fpn nc np f4 q8 q9 f10 f11 f12 f13 = (0, q8, q9, f10, f11, f12, f13, fpn, f4, fa1, fat1, p1, k1, v1, a1, np) := by
        simp only [sp_E_4_readsPlace, slet, if_pos c, e1, e2, if_pos c1]
      exact ⟨_, _, _, _, _, _, _, _, _, _, _, _, _, _, _, _, e, s1.le, hW⟩
    · obtain ⟨⟨p2, k2, v2, a2⟩, e3⟩ : ∃ x, sp_E_4_advance len p1 v1 f fw = x := ⟨_, rfl⟩
      obtain ⟨t2, w2, g2, -, s2, -⟩ := adv_ex hw hf hl s1.le e3
      obtain ⟨hA, h4, hz, hz2⟩ := hW
      by_cases c10 : k2 = 10
      · obtain ⟨⟨p3, k3, v3, a3⟩, e4⟩ : ∃ x, sp_E_4_advance len p2 v2 f fw = x := ⟨_, rfl⟩
        obtain ⟨t3, w3, g3, -, s3, -⟩ := adv_ex hw hf hl s2.le e4
        obtain ⟨u, y8, y9, y10, y11, y12, y13, fa', fat', p, k, v, a, e5, hA', hp', hQ⟩ := wfa_c11 (fcn := fcn) (fa := fa1) (fat := fat1) (vl := v3) (tka := a3) (kd := k3) (Q := q8) (a0 := 14 + np) hw hf hl (by omega) (by omega) s3.le hA (hz np (Nat.le_refl _) c) (fun _ _ => rfl)
        have e : sp_E_4_readsPlace fa fat len pos kd vl tka f fw fcn fpn nc np f4 q8 q9 f10 f11 f12 f13 = (u, y8, y9, y10, y11, y12, y13, upd fpn np v1, upd f4 np (vp_nar .boolean 1), fa', fat', p, k, v, a, np + 1) := by
          simp only [sp_E_4_readsPlace, slet, if_pos c, e1, e2, if_neg c1, e3, if_pos c10, e4, e5]
        refine ⟨_, _, _, _, _, _, _, _, _, _, _, _, _, _, _, _, e, hp', hA', fun i hi => ?_, fun i h1 h2 => ?_, fun i h1 h2 => ?_⟩
        · by_cases ei : i = np
          · subst ei; rw [upd_s]; exact Or.inr rfl
          · rw [upd_n ei]; exact h4 i hi
        · rw [hQ (14 + i) (by omega)]; exact hz i (by omega) h2
        · rw [hQ i (by omega)]; exact hz2 i h1 h2
      · obtain ⟨u, y8, y9, y10, y11, y12, y13, fa', fat', p, k, v, a, e5, hA', hp', hQ⟩ := wfa_c11 (fcn := fcn) (fa := fa1) (fat := fat1) (vl := v2) (tka := a2) (kd := k2) (Q := q8) (a0 := 14 + np) hw hf hl (by omega) (by omega) s2.le hA (hz np (Nat.le_refl _) c) (fun _ _ => rfl)
        have e : sp_E_4_readsPlace fa fat len pos kd vl tka f fw fcn fpn nc np f4 q8 q9 f10 f11 f12 f13 = (u, y8, y9, y10, y11, y12, y13, upd fpn np v1, f4, fa', fat', p, k, v, a, np + 1) := by
          simp only [sp_E_4_readsPlace, slet, if_pos c, e1, e2, if_neg c1, e3, if_neg c10, e5]
        refine ⟨_, _, _, _, _, _, _, _, _, _, _, _, _, _, _, _, e, hp', hA', h4, fun i h1 h2 => ?_, fun i h1 h2 => ?_⟩
        · rw [hQ (14 + i) (by omega)]; exact hz i (by omega) h2
        · rw [hQ i (by omega)]; exact hz2 i h1 h2
  · have e : sp_E_4_readsPlace fa fat len pos kd vl tka f fw fcn fpn nc np f4 q8 q9 f10 f11 f12 f13 = (0, q8, q9, f10, f11, f12, f13, fpn, f4, 5, tka, pos, kd, vl, tka, np) := by
      simp only [sp_E_4_readsPlace, slet, if_neg c, sp_E_4_refuse]
    exact ⟨_, _, _, _, _, _, _, _, _, _, _, _, _, _, _, _, e, hp, hW⟩
theorem wf_edge {f fw : Nat → Int32} (hw : ∀ i, i < 8 → fw i = WW i) (hf : ∀ i, f i ≠ -1) {len : Nat} (hl : len ≤ 900) {fcn fpn f7 : Nat → Int32} {q5 q6 : Nat → Nat} {fa fat vl tka : Int32} {pos kd nc np ne : Nat} {q8 q9 : Nat → Nat} {f4 f10 f11 f12 f13 : Nat → Int32} (hp : pos ≤ len) (hW : WFm nc np ne f4 q8 q9 f10 f11 f12 f13) :
    ∃ u y8 y9 y10 y11 y12 y13 y5 y6 y7 fa' fat' p k v a ne', sp_E_4_readsEdge fa fat len pos kd vl tka f fw fcn fpn nc np ne q5 q6 f7 q8 q9 f10 f11 f12 f13 = (u, y8, y9, y10, y11, y12, y13, y5, y6, y7, fa', fat', p, k, v, a, ne') ∧ p ≤ len ∧ WFm nc np ne' f4 y8 y9 y10 y11 y12 y13 := by
  by_cases c : ne < 14
  · obtain ⟨⟨p1, k1, v1, a1⟩, e1⟩ : ∃ x, sp_E_4_advance len pos vl f fw = x := ⟨_, rfl⟩
    obtain ⟨t1, w1, g1, -, s1, -⟩ := adv_ex hw hf hl hp e1
    obtain ⟨⟨u1, fa1, fat1⟩, e2⟩ : ∃ x, sp_E_4_toldName_p fa fat k1 v1 a1 fpn np = x := ⟨_, rfl⟩
    by_cases c1 : u1 = 0
    · have e : sp_E_4_readsEdge fa fat len pos kd vl tka f fw fcn fpn nc np ne q5 q6 f7 q8 q9 f10 f11 f12 f13 = (0, q8, q9, f10, f11, f12, f13, q5, q6, f7, fa1, fat1, p1, k1, v1, a1, ne) := by
        simp only [sp_E_4_readsEdge, slet, if_pos c, e1, e2, if_pos c1]
      exact ⟨_, _, _, _, _, _, _, _, _, _, _, _, _, _, _, _, _, e, s1.le, hW⟩
    · obtain ⟨⟨p2, k2, v2, a2⟩, e3⟩ : ∃ x, sp_E_4_advance len p1 v1 f fw = x := ⟨_, rfl⟩
      obtain ⟨t2, w2, g2, -, s2, -⟩ := adv_ex hw hf hl s1.le e3
      obtain ⟨⟨u2, fa2, fat2⟩, e4⟩ : ∃ x, sp_E_4_toldName_p fa1 fat1 k2 v2 a2 fpn np = x := ⟨_, rfl⟩
      by_cases c2 : u2 = 0
      · have e : sp_E_4_readsEdge fa fat len pos kd vl tka f fw fcn fpn nc np ne q5 q6 f7 q8 q9 f10 f11 f12 f13 = (0, q8, q9, f10, f11, f12, f13, q5, q6, f7, fa2, fat2, p2, k2, v2, a2, ne) := by
          simp only [sp_E_4_readsEdge, slet, if_pos c, e1, e2, if_neg c1, e3, e4, if_pos c2]
        exact ⟨_, _, _, _, _, _, _, _, _, _, _, _, _, _, _, _, _, e, s2.le, hW⟩
      · obtain ⟨⟨p3, k3, v3, a3⟩, e5⟩ : ∃ x, sp_E_4_advance len p2 v2 f fw = x := ⟨_, rfl⟩
        obtain ⟨t3, w3, g3, -, s3, -⟩ := adv_ex hw hf hl s2.le e5
        obtain ⟨⟨z5, z6, z7⟩, e6⟩ : ∃ x, sp_E_0_addEdge ne q5 q6 f7 (u1 - 1) (u2 - 1) = x := ⟨_, rfl⟩
        obtain ⟨hA, h4, hz, hz2⟩ := hW
        obtain ⟨u, y8, y9, y10, y11, y12, y13, fa', fat', p, k, v, a, e7, hA', hp', hQ⟩ := wfa_c14 (fcn := fcn) (fa := fa2) (fat := fat2) (vl := v3) (tka := a3) (kd := k3) (Q := q8) (a0 := ne) hw hf hl (by omega) c s3.le hA (hz2 ne (Nat.le_refl _) c) (fun _ _ => rfl)
        have hWm : WFm nc np (ne + 1) f4 y8 y9 y10 y11 y12 y13 := by
          refine ⟨hA', h4, fun i h1 h2 => ?_, fun i h1 h2 => ?_⟩
          · rw [hQ (14 + i) (by omega)]; exact hz i h1 h2
          · rw [hQ i (by omega)]; exact hz2 i (by omega) h2
        by_cases c3 : u = 0
        · have e : sp_E_4_readsEdge fa fat len pos kd vl tka f fw fcn fpn nc np ne q5 q6 f7 q8 q9 f10 f11 f12 f13 = (0, y8, y9, y10, y11, y12, y13, z5, z6, z7, fa', fat', p, k, v, a, ne + 1) := by
            simp only [sp_E_4_readsEdge, slet, if_pos c, e1, e2, if_neg c1, e3, e4, if_neg c2, e5, e6, e7, if_pos c3]
          exact ⟨_, _, _, _, _, _, _, _, _, _, _, _, _, _, _, _, _, e, hp', hWm⟩
        · obtain ⟨u9, x7, fa9, fat9, p9, k9, v9, a9, e8, hp9⟩ := wf_resets (fcn := fcn) (f7 := z7) (fa := fa') (fat := fat') (vl := v) (tka := a) (kd := k) (nc := nc) (a0 := ne) hw hf hl hp'
          by_cases c4 : u9 = 0
          · have e : sp_E_4_readsEdge fa fat len pos kd vl tka f fw fcn fpn nc np ne q5 q6 f7 q8 q9 f10 f11 f12 f13 = (0, y8, y9, y10, y11, y12, y13, z5, z6, x7, fa9, fat9, p9, k9, v9, a9, ne + 1) := by
              simp only [sp_E_4_readsEdge, slet, if_pos c, e1, e2, if_neg c1, e3, e4, if_neg c2, e5, e6, e7, if_neg c3, e8, if_pos c4]
            exact ⟨_, _, _, _, _, _, _, _, _, _, _, _, _, _, _, _, _, e, hp9, hWm⟩
          · have e : sp_E_4_readsEdge fa fat len pos kd vl tka f fw fcn fpn nc np ne q5 q6 f7 q8 q9 f10 f11 f12 f13 = (1, y8, y9, y10, y11, y12, y13, z5, z6, x7, fa9, fat9, p9, k9, v9, a9, ne + 1) := by
              simp only [sp_E_4_readsEdge, slet, if_pos c, e1, e2, if_neg c1, e3, e4, if_neg c2, e5, e6, e7, if_neg c3, e8, if_neg c4]
            exact ⟨_, _, _, _, _, _, _, _, _, _, _, _, _, _, _, _, _, e, hp9, hWm⟩
  · have e : sp_E_4_readsEdge fa fat len pos kd vl tka f fw fcn fpn nc np ne q5 q6 f7 q8 q9 f10 f11 f12 f13 = (0, q8, q9, f10, f11, f12, f13, q5, q6, f7, 5, tka, pos, kd, vl, tka, ne) := by
      simp only [sp_E_4_readsEdge, slet, if_neg c, sp_E_4_refuse]
    exact ⟨_, _, _, _, _, _, _, _, _, _, _, _, _, _, _, _, _, e, hp, hW⟩
theorem wf_lines {f fw : Nat → Int32} (hw : ∀ i, i < 8 → fw i = WW i) (hf : ∀ i, f i ≠ -1) {len : Nat} (hl : len ≤ 900) {f14 f15 f16 : Nat → Int32} {q8 q9 : Nat → Nat} {f10 f11 f12 f13 fcn fpn f4 : Nat → Int32} {q5 q6 : Nat → Nat} {f7 : Nat → Int32} {fa fat : Int32} {pos kd : Nat} {vl tka : Int32} {nc np ne : Nat} {st0 : Int32} {ln : Nat} (hW : WFm nc np ne f4 q8 q9 f10 f11 f12 f13) (hp : pos ≤ len) : ∃ u y8 y9 y10 y11 y12 y13 y14 y15 y16 ycn ypn y4 y5 y6 y7 ga gat gle gp gk gv gt gnc gnp gne gst, itrv default (sp_E_4_reads_c_L1 f fw f14 f15 f16 len) (q8, q9, f10, f11, f12, f13, fcn, fpn, f4, q5, q6, f7, fa, fat, pos, kd, vl, tka, nc, np, ne, st0, ln) = (u, y8, y9, y10, y11, y12, y13, y14, y15, y16, ycn, ypn, y4, y5, y6, y7, ga, gat, gle, gp, gk, gv, gt, gnc, gnp, gne, gst) ∧ (u ≠ 0 → WFm gnc gnp gne y4 y8 y9 y10 y11 y12 y13 ∧ (y14, y15, y16) = sp_E_0_measure y8 y9 y10 y11 f14 f15 f16 ∧ gst ≠ -1) := by
  refine itrv_inv (d := default) (f := sp_E_4_reads_c_L1 f fw f14 f15 f16 len) (fun t => ∃ q8 q9 f10 f11 f12 f13 fcn fpn f4 q5 q6 f7 fa fat pos kd vl tka nc np ne st0 ln, t = (q8, q9, f10, f11, f12, f13, fcn, fpn, f4, q5, q6, f7, fa, fat, pos, kd, vl, tka, nc, np, ne, st0, ln) ∧ WFm nc np ne f4 q8 q9 f10 f11 f12 f13 ∧ pos ≤ len) (fun b => ∃ u y8 y9 y10 y11 y12 y13 y14 y15 y16 ycn ypn y4 y5 y6 y7 ga gat gle gp gk gv gt gnc gnp gne gst, b = (u, y8, y9, y10, y11, y12, y13, y14, y15, y16, ycn, ypn, y4, y5, y6, y7, ga, gat, gle, gp, gk, gv, gt, gnc, gnp, gne, gst) ∧ (u ≠ 0 → WFm gnc gnp gne y4 y8 y9 y10 y11 y12 y13 ∧ (y14, y15, y16) = sp_E_0_measure y8 y9 y10 y11 f14 f15 f16 ∧ gst ≠ -1)) (fun t => len + 1 - t.2.2.2.2.2.2.2.2.2.2.2.2.2.2.2.2.2.2.2.2.2.2) ?_ (len + 1) (q8, q9, f10, f11, f12, f13, fcn, fpn, f4, q5, q6, f7, fa, fat, pos, kd, vl, tka, nc, np, ne, st0, ln) (Nat.sub_le _ _) ⟨q8, q9, f10, f11, f12, f13, fcn, fpn, f4, q5, q6, f7, fa, fat, pos, kd, vl, tka, nc, np, ne, st0, ln, rfl, hW, hp⟩
  clear hW hp
  rintro _ ⟨q8, q9, f10, f11, f12, f13, fcn, fpn, f4, q5, q6, f7, fa, fat, pos, kd, vl, tka, nc, np, ne, st0, ln, rfl, hW, hp⟩
  have fin : ∀ (z : (len < ln) ∨ (kd = 1)), ∃ b : (Nat × (Nat → Nat) × (Nat → Nat) × (Nat → Int32) × (Nat → Int32) × (Nat → Int32) × (Nat → Int32) × (Nat → Int32) × (Nat → Int32) × (Nat → Int32) × (Nat → Int32) × (Nat → Int32) × (Nat → Int32) × (Nat → Nat) × (Nat → Nat) × (Nat → Int32) × Int32 × Int32 × Nat × Nat × Nat × Int32 × Int32 × Nat × Nat × Nat × Int32), sp_E_4_reads_c_L1 f fw f14 f15 f16 len (q8, q9, f10, f11, f12, f13, fcn, fpn, f4, q5, q6, f7, fa, fat, pos, kd, vl, tka, nc, np, ne, st0, ln) = .inr b ∧ ∃ u y8 y9 y10 y11 y12 y13 y14 y15 y16 ycn ypn y4 y5 y6 y7 ga gat gle gp gk gv gt gnc gnp gne gst, b = (u, y8, y9, y10, y11, y12, y13, y14, y15, y16, ycn, ypn, y4, y5, y6, y7, ga, gat, gle, gp, gk, gv, gt, gnc, gnp, gne, gst) ∧ (u ≠ 0 → WFm gnc gnp gne y4 y8 y9 y10 y11 y12 y13 ∧ (y14, y15, y16) = sp_E_0_measure y8 y9 y10 y11 f14 f15 f16 ∧ gst ≠ -1) := by
    intro z
    obtain ⟨⟨m14, m15, m16⟩, em⟩ : ∃ x, sp_E_0_measure q8 q9 f10 f11 f14 f15 f16 = x := ⟨_, rfl⟩
    by_cases c0 : np = 0
    · have e : sp_E_4_reads_c_L1 f fw f14 f15 f16 len (q8, q9, f10, f11, f12, f13, fcn, fpn, f4, q5, q6, f7, fa, fat, pos, kd, vl, tka, nc, np, ne, st0, ln) = .inr (0, q8, q9, f10, f11, f12, f13, f14, f15, f16, fcn, fpn, f4, q5, q6, f7, 6, tka, len, pos, kd, vl, tka, nc, np, ne, st0) := by
        by_cases c : len < ln
        · simp only [sp_E_4_reads_c_L1, slet, if_pos c, if_pos c0, sp_E_4_refuse]
        · simp only [sp_E_4_reads_c_L1, slet, if_neg c, if_pos (z.resolve_left c), if_pos c0, sp_E_4_refuse]
      exact ⟨_, e, _, _, _, _, _, _, _, _, _, _, _, _, _, _, _, _, _, _, _, _, _, _, _, _, _, _, _, rfl, fun z => absurd rfl z⟩
    · by_cases c1 : st0 = -1
      · have e : sp_E_4_reads_c_L1 f fw f14 f15 f16 len (q8, q9, f10, f11, f12, f13, fcn, fpn, f4, q5, q6, f7, fa, fat, pos, kd, vl, tka, nc, np, ne, st0, ln) = .inr (1, q8, q9, f10, f11, f12, f13, m14, m15, m16, fcn, fpn, f4, q5, q6, f7, fa, fat, len, pos, kd, vl, tka, nc, np, ne, 0) := by
          by_cases c : len < ln
          · simp only [sp_E_4_reads_c_L1, slet, if_pos c, if_neg c0, if_pos c1, em]
          · simp only [sp_E_4_reads_c_L1, slet, if_neg c, if_pos (z.resolve_left c), if_neg c0, if_pos c1, em]
        exact ⟨_, e, _, _, _, _, _, _, _, _, _, _, _, _, _, _, _, _, _, _, _, _, _, _, _, _, _, _, _, rfl, fun _ => ⟨hW, em.symm, by decide⟩⟩
      · have e : sp_E_4_reads_c_L1 f fw f14 f15 f16 len (q8, q9, f10, f11, f12, f13, fcn, fpn, f4, q5, q6, f7, fa, fat, pos, kd, vl, tka, nc, np, ne, st0, ln) = .inr (1, q8, q9, f10, f11, f12, f13, m14, m15, m16, fcn, fpn, f4, q5, q6, f7, fa, fat, len, pos, kd, vl, tka, nc, np, ne, nI st0.toNatClampNeg) := by
          by_cases c : len < ln
          · simp only [sp_E_4_reads_c_L1, slet, if_pos c, if_neg c0, if_neg c1, em]
          · simp only [sp_E_4_reads_c_L1, slet, if_neg c, if_pos (z.resolve_left c), if_neg c0, if_neg c1, em]
        exact ⟨_, e, _, _, _, _, _, _, _, _, _, _, _, _, _, _, _, _, _, _, _, _, _, _, _, _, _, _, _, rfl, fun _ => ⟨hW, em.symm, pu_nneg (Int32.toNatClampNeg_lt st0) (by decide)⟩⟩
  by_cases c : len < ln
  · exact Or.inr (fin (Or.inl c))
  · by_cases ck : kd = 1
    · exact Or.inr (fin (Or.inr ck))
    · have rest : ∀ (u : Nat) (fa' fat' : Int32) (p k : Nat) (v a : Int32) (ycn ypn y4 : Nat → Int32) (y5 y6 : Nat → Nat) (y7 : Nat → Int32) (y8 y9 : Nat → Nat) (y10 y11 y12 y13 : Nat → Int32) (nc' np' ne' : Nat) (st' : Int32), p ≤ len → WFm nc' np' ne' y4 y8 y9 y10 y11 y12 y13 → (u = 0 → sp_E_4_reads_c_L1 f fw f14 f15 f16 len (q8, q9, f10, f11, f12, f13, fcn, fpn, f4, q5, q6, f7, fa, fat, pos, kd, vl, tka, nc, np, ne, st0, ln) = .inr (0, y8, y9, y10, y11, y12, y13, f14, f15, f16, ycn, ypn, y4, y5, y6, y7, fa', fat', len, p, k, v, a, nc', np', ne', st')) → (u ≠ 0 → ∀ us fs fts ps ks vs as, sp_E_4_readsStop fa' fat' len p k v a f fw = (us, fs, fts, ps, ks, vs, as) → (us = 0 → sp_E_4_reads_c_L1 f fw f14 f15 f16 len (q8, q9, f10, f11, f12, f13, fcn, fpn, f4, q5, q6, f7, fa, fat, pos, kd, vl, tka, nc, np, ne, st0, ln) = .inr (0, y8, y9, y10, y11, y12, y13, f14, f15, f16, ycn, ypn, y4, y5, y6, y7, fs, fts, len, ps, ks, vs, as, nc', np', ne', st')) ∧ (us ≠ 0 → sp_E_4_reads_c_L1 f fw f14 f15 f16 len (q8, q9, f10, f11, f12, f13, fcn, fpn, f4, q5, q6, f7, fa, fat, pos, kd, vl, tka, nc, np, ne, st0, ln) = .inl (y8, y9, y10, y11, y12, y13, ycn, ypn, y4, y5, y6, y7, fs, fts, ps, ks, vs, as, nc', np', ne', st', ln + 1))) →
          (∃ u : ((Nat → Nat) × (Nat → Nat) × (Nat → Int32) × (Nat → Int32) × (Nat → Int32) × (Nat → Int32) × (Nat → Int32) × (Nat → Int32) × (Nat → Int32) × (Nat → Nat) × (Nat → Nat) × (Nat → Int32) × Int32 × Int32 × Nat × Nat × Int32 × Int32 × Nat × Nat × Nat × Int32 × Nat), sp_E_4_reads_c_L1 f fw f14 f15 f16 len (q8, q9, f10, f11, f12, f13, fcn, fpn, f4, q5, q6, f7, fa, fat, pos, kd, vl, tka, nc, np, ne, st0, ln) = .inl u ∧ (∃ q8 q9 f10 f11 f12 f13 fcn fpn f4 q5 q6 f7 fa fat pos kd vl tka nc np ne st0 ln, u = (q8, q9, f10, f11, f12, f13, fcn, fpn, f4, q5, q6, f7, fa, fat, pos, kd, vl, tka, nc, np, ne, st0, ln) ∧ WFm nc np ne f4 q8 q9 f10 f11 f12 f13 ∧ pos ≤ len) ∧ len + 1 - u.2.2.2.2.2.2.2.2.2.2.2.2.2.2.2.2.2.2.2.2.2.2 < len + 1 - ln) ∨ (∃ b : (Nat × (Nat → Nat) × (Nat → Nat) × (Nat → Int32) × (Nat → Int32) × (Nat → Int32) × (Nat → Int32) × (Nat → Int32) × (Nat → Int32) × (Nat → Int32) × (Nat → Int32) × (Nat → Int32) × (Nat → Int32) × (Nat → Nat) × (Nat → Nat) × (Nat → Int32) × Int32 × Int32 × Nat × Nat × Nat × Int32 × Int32 × Nat × Nat × Nat × Int32), sp_E_4_reads_c_L1 f fw f14 f15 f16 len (q8, q9, f10, f11, f12, f13, fcn, fpn, f4, q5, q6, f7, fa, fat, pos, kd, vl, tka, nc, np, ne, st0, ln) = .inr b ∧ ∃ u y8 y9 y10 y11 y12 y13 y14 y15 y16 ycn ypn y4 y5 y6 y7 ga gat gle gp gk gv gt gnc gnp gne gst, b = (u, y8, y9, y10, y11, y12, y13, y14, y15, y16, ycn, ypn, y4, y5, y6, y7, ga, gat, gle, gp, gk, gv, gt, gnc, gnp, gne, gst) ∧ (u ≠ 0 → WFm gnc gnp gne y4 y8 y9 y10 y11 y12 y13 ∧ (y14, y15, y16) = sp_E_0_measure y8 y9 y10 y11 f14 f15 f16 ∧ gst ≠ -1)) := by
        intro u fa' fat' p k v a ycn ypn y4 y5 y6 y7 y8 y9 y10 y11 y12 y13 nc' np' ne' st' hp' hW' h0 h1
        by_cases cu : u = 0
        · exact Or.inr ⟨_, h0 cu, _, _, _, _, _, _, _, _, _, _, _, _, _, _, _, _, _, _, _, _, _, _, _, _, _, _, _, rfl, fun z => absurd rfl z⟩
        · obtain ⟨us, fs, fts, ps, ks, vs, as, es, hps⟩ := wf_stop (fa := fa') (fat := fat') (vl := v) (tka := a) (kd := k) hw hf hl hp'
          obtain ⟨g0, g1⟩ := h1 cu us fs fts ps ks vs as es
          by_cases cs : us = 0
          · exact Or.inr ⟨_, g0 cs, _, _, _, _, _, _, _, _, _, _, _, _, _, _, _, _, _, _, _, _, _, _, _, _, _, _, _, rfl, fun z => absurd rfl z⟩
          · exact Or.inl ⟨_, g1 cs, ⟨_, _, _, _, _, _, _, _, _, _, _, _, _, _, _, _, _, _, _, _, _, _, _, rfl, hW', hps⟩, by show len + 1 - (ln + 1) < len + 1 - ln; omega⟩
      by_cases k8 : kd = 8
      · obtain ⟨u, ycn, fa', fat', p, k, v, a, nc', e1, hp', hn⟩ := wf_clock (fcn := fcn) (fpn := fpn) (fa := fa) (fat := fat) (vl := vl) (tka := tka) (kd := kd) (nc := nc) (np := np) hw hf hl hp
        refine rest u fa' fat' p k v a ycn fpn f4 q5 q6 f7 q8 q9 f10 f11 f12 f13 nc' np ne st0 hp' ⟨hW.1.up hn, hW.2⟩ (fun cu => ?_) (fun cu us fs fts ps ks vs as es => ⟨fun cs => ?_, fun cs => ?_⟩)
        · simp only [sp_E_4_reads_c_L1, slet, if_neg c, if_neg ck, if_pos k8, e1, if_pos cu]
        · simp only [sp_E_4_reads_c_L1, slet, if_neg c, if_neg ck, if_pos k8, e1, if_neg cu, es, if_pos cs]
        · simp only [sp_E_4_reads_c_L1, slet, if_neg c, if_neg ck, if_pos k8, e1, if_neg cu, es, if_neg cs]
      · by_cases k9 : kd = 9
        · obtain ⟨u, y8, y9, y10, y11, y12, y13, ypn, y4, fa', fat', p, k, v, a, np', e1, hp', hW'⟩ := wf_place (fcn := fcn) (fpn := fpn) (fa := fa) (fat := fat) (vl := vl) (tka := tka) (kd := kd) hw hf hl hp hW
          refine rest u fa' fat' p k v a fcn ypn y4 q5 q6 f7 y8 y9 y10 y11 y12 y13 nc np' ne st0 hp' hW' (fun cu => ?_) (fun cu us fs fts ps ks vs as es => ⟨fun cs => ?_, fun cs => ?_⟩)
          · simp only [sp_E_4_reads_c_L1, slet, if_neg c, if_neg ck, if_neg k8, if_pos k9, e1, if_pos cu]
          · simp only [sp_E_4_reads_c_L1, slet, if_neg c, if_neg ck, if_neg k8, if_pos k9, e1, if_neg cu, es, if_pos cs]
          · simp only [sp_E_4_reads_c_L1, slet, if_neg c, if_neg ck, if_neg k8, if_pos k9, e1, if_neg cu, es, if_neg cs]
        · by_cases k12 : kd = 12
          · obtain ⟨u, fa', fat', p, k, v, a, st', e1, hp'⟩ := wf_start (fpn := fpn) (fa := fa) (fat := fat) (vl := vl) (tka := tka) (st0 := st0) (kd := kd) (np := np) hw hf hl hp
            refine rest u fa' fat' p k v a fcn fpn f4 q5 q6 f7 q8 q9 f10 f11 f12 f13 nc np ne st' hp' hW (fun cu => ?_) (fun cu us fs fts ps ks vs as es => ⟨fun cs => ?_, fun cs => ?_⟩)
            · simp only [sp_E_4_reads_c_L1, slet, if_neg c, if_neg ck, if_neg k8, if_neg k9, if_pos k12, e1, if_pos cu]
            · simp only [sp_E_4_reads_c_L1, slet, if_neg c, if_neg ck, if_neg k8, if_neg k9, if_pos k12, e1, if_neg cu, es, if_pos cs]
            · simp only [sp_E_4_reads_c_L1, slet, if_neg c, if_neg ck, if_neg k8, if_neg k9, if_pos k12, e1, if_neg cu, es, if_neg cs]
          · by_cases k13 : kd = 13
            · obtain ⟨u, y8, y9, y10, y11, y12, y13, y5, y6, y7, fa', fat', p, k, v, a, ne', e1, hp', hW'⟩ := wf_edge (fcn := fcn) (fpn := fpn) (q5 := q5) (q6 := q6) (f7 := f7) (fa := fa) (fat := fat) (vl := vl) (tka := tka) (kd := kd) hw hf hl hp hW
              refine rest u fa' fat' p k v a fcn fpn f4 y5 y6 y7 y8 y9 y10 y11 y12 y13 nc np ne' st0 hp' hW' (fun cu => ?_) (fun cu us fs fts ps ks vs as es => ⟨fun cs => ?_, fun cs => ?_⟩)
              · simp only [sp_E_4_reads_c_L1, slet, if_neg c, if_neg ck, if_neg k8, if_neg k9, if_neg k12, if_pos k13, e1, if_pos cu]
              · simp only [sp_E_4_reads_c_L1, slet, if_neg c, if_neg ck, if_neg k8, if_neg k9, if_neg k12, if_pos k13, e1, if_neg cu, es, if_pos cs]
              · simp only [sp_E_4_reads_c_L1, slet, if_neg c, if_neg ck, if_neg k8, if_neg k9, if_neg k12, if_pos k13, e1, if_neg cu, es, if_neg cs]
            · have e : sp_E_4_reads_c_L1 f fw f14 f15 f16 len (q8, q9, f10, f11, f12, f13, fcn, fpn, f4, q5, q6, f7, fa, fat, pos, kd, vl, tka, nc, np, ne, st0, ln) = .inr (0, q8, q9, f10, f11, f12, f13, f14, f15, f16, fcn, fpn, f4, q5, q6, f7, nI (fk kd 2), tka, len, pos, kd, vl, tka, nc, np, ne, st0) := by
                simp only [sp_E_4_reads_c_L1, slet, if_neg c, if_neg ck, if_neg k8, if_neg k9, if_neg k12, if_neg k13, refT_eq, reduceIte]
              exact Or.inr ⟨_, e, _, _, _, _, _, _, _, _, _, _, _, _, _, _, _, _, _, _, _, _, _, _, _, _, _, _, _, rfl, fun z => absurd rfl z⟩
/-- an automaton that the class has read -/
theorem wf_reads {f fw : Nat → Int32} (hw : ∀ i, i < 8 → fw i = WW i) (hf : ∀ i, f i ≠ -1) {len : Nat} (hl : len ≤ 900) (vl : Int32) (fcn fpn f4 : Nat → Int32) (q5 q6 : Nat → Nat) (f7 : Nat → Int32) (q8 q9 : Nat → Nat) (f10 f11 f12 f13 f14 f15 f16 : Nat → Int32) {u : Nat} {y8 y9 : Nat → Nat} {y10 y11 y12 y13 y14 y15 y16 ycn ypn y4 : Nat → Int32} {y5 y6 : Nat → Nat} {y7 : Nat → Int32} {ga gat : Int32} {gle gp gk : Nat} {gv gt : Int32} {gnc gnp gne : Nat} {gst : Int32} (h : sp_E_4_reads_c vl f fw fcn fpn f4 q5 q6 f7 q8 q9 f10 f11 f12 f13 f14 f15 f16 len = (u, y8, y9, y10, y11, y12, y13, y14, y15, y16, ycn, ypn, y4, y5, y6, y7, ga, gat, gle, gp, gk, gv, gt, gnc, gnp, gne, gst)) (hu : u ≠ 0) : WFm gnc gnp gne y4 y8 y9 y10 y11 y12 y13 ∧ (y14, y15, y16) = sp_E_0_measure y8 y9 y10 y11 f14 f15 f16 ∧ gst ≠ -1 := by
  obtain ⟨z4, z8, hc, hz4, hz8⟩ := clear_0 f4 q8
  obtain ⟨⟨p1, k1, v1, a1⟩, e1⟩ : ∃ x, sp_E_4_advance len 0 vl f fw = x := ⟨_, rfl⟩
  obtain ⟨t1, w1, g1, -, s1, -⟩ := adv_ex hw hf hl (Nat.zero_le _) e1
  simp only [sp_E_4_reads_c, slet, hc, e1] at h
  obtain ⟨u0, y80, y90, y100, y110, y120, y130, y140, y150, y160, ycn0, ypn0, y40, y50, y60, y70, ga0, gat0, gle0, gp0, gk0, gv0, gt0, gnc0, gnp0, gne0, gst0, e2, hq⟩ := wf_lines (f14 := f14) (f15 := f15) (f16 := f16) (q8 := z8) (q9 := q9) (f10 := f10) (f11 := f11) (f12 := f12) (f13 := f13) (fcn := fcn) (fpn := fpn) (f4 := z4) (q5 := q5) (q6 := q6) (f7 := f7) (fa := 0) (fat := -1) (pos := p1) (kd := k1) (vl := v1) (tka := a1) (nc := 0) (np := 0) (ne := 0) (st0 := -1) (ln := 0) hw hf hl ⟨fun i hi => ⟨by rw [hz8 i hi]; exact Nat.zero_le _, fun k hk => absurd hk (by rw [hz8 i hi]; exact Nat.not_lt_zero _)⟩, fun i hi => Or.inl (hz4 i hi), fun i _ h2 => hz8 _ (by omega), fun i _ h2 => hz8 _ (by omega)⟩ s1.le
  rw [e2] at h
  simp only [Prod.mk.injEq] at h
  obtain ⟨rfl, rfl, rfl, rfl, rfl, rfl, rfl, rfl, rfl, rfl, rfl, rfl, rfl, rfl, rfl, rfl, rfl, rfl, rfl, rfl, rfl, rfl, rfl, rfl, rfl, rfl, rfl⟩ := h
  exact hq hu
