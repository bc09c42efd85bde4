def SRe : KX → KMx → Prop := fun (_, _, _, _, _, _, mne, q5, q6, f7, q8) (_, _, _, _, x16, r5, r6, r7, f8, _, _, _, _, m14_0, m14_1) => EB x16 mne q5 q6 f7 q8 r5 r6 r7 f8 (bkN x16 m14_0 m14_1)
def SRp (a : KX) (b : KMx) : Prop := a.1 = b.1 ∧ a.2.1 = b.2.1 ∧ (∀ i, a.2.1 i ≠ -1) ∧ a.2.2.1 = b.2.2.1 ∧ a.2.2.2.1 = b.2.2.2.1 ∧ SRe a b
def SR (Sx : CX) (Sm : CMx) : Prop := SRp (kX Sx) (kM Sm)
theorem sr_of {Sx ux : CX} {Sm um : CMx} (h1 : kX ux = kX Sx) (h2 : kM um = kM Sm) (h : SR Sx Sm) : SR ux um := by
  unfold SR at h ⊢
  rw [h1, h2]
  exact h
theorem sr_0 : SR x0S m0S := ⟨rfl, rfl, fun i => z_ne i, rfl, rfl, rfl, Nat.zero_le 14, fun i hi => absurd hi (Nat.not_lt_zero i)⟩
theorem feed_tp (tp : Nat) (f : Nat → Int32) (p0 p1 p2 p3 p4 : Int32) : (sp_EM_feed tp f p0 p1 p2 p3 p4).2.2 = (sp_E_8_feed tp f p0 p1 p2 p3 p4).2 := by
  unfold sp_EM_feed sp_E_8_feed slet
  by_cases h : tp + 20 ≤ 900
  · rw [if_pos h, if_pos h]
  · rw [if_neg h, if_neg h]
theorem end_same (n : Nat) (p : Int32) : (sp_EM_end n p).2 = sp_E_8_end n p := by
  unfold sp_EM_end sp_E_8_end slet
  by_cases h : p < 0
  · rw [if_neg (fun z => absurd z.1 (Int32.not_le.mpr h)), if_pos h]
  · rw [if_neg h]
    by_cases g : p ≤ nI n
    · rw [if_pos ⟨Int32.not_lt.mp h, g⟩, if_pos g]
    · rw [if_neg (fun z => g z.2), if_neg g]
theorem sr_feed {Sx ux : CX} {Sm um : CMx} {p0 p1 p2 p3 p4 r r' : Int32} (h : SR Sx Sm) (_ : xFact Sx) (_ : mFact Sm) (hx : xM_feed Sx p0 p1 p2 p3 p4 r ux) (hm : mM_feed Sm p0 p1 p2 p3 p4 r' um) : SR ux um := by
  obtain ⟨nv, iv, vv, fv, qv, fcv, qs, fz, ps, gz⟩ := Sx
  obtain ⟨nw, iw, fw, qw⟩ := Sm
  obtain ⟨zf, zt, ⟨-, e⟩, rfl⟩ := hx
  obtain ⟨yf, y0, yt, ⟨-, g⟩, rfl⟩ := hm
  obtain ⟨e1, e2, hne, e3, e4, eb⟩ := h
  have e1 : nv 0 = nw 1 := e1
  have e2 : fv 0 = fw 5 := e2
  have hne : ∀ i, fv 0 i ≠ -1 := hne
  rw [← e1, ← e2] at g
  have a1 : zf = (sp_E_8_feed (nv 0) (fv 0) p0 p1 p2 p3 p4).1 := congrArg Prod.fst e
  have a2 : zt = (sp_E_8_feed (nv 0) (fv 0) p0 p1 p2 p3 p4).2 := congrArg Prod.snd e
  have b1 : yf = (sp_EM_feed (nv 0) (fv 0) p0 p1 p2 p3 p4).1 := congrArg Prod.fst g
  have b2 : yt = (sp_EM_feed (nv 0) (fv 0) p0 p1 p2 p3 p4).2.2 := congrArg (fun t => t.2.2) g
  refine ⟨?_, ?_, ?_, e3, e4, eb⟩
  · show zt = yt
    rw [a2, b2, feed_tp]
  · show zf = yf
    rw [a1, b1, feed_same]
  · show ∀ i, zf i ≠ -1
    rw [a1]
    exact feed_ne hne _ _ _ _ _ _
theorem sr_end {Sx ux : CX} {Sm um : CMx} {p0 r r' : Int32} (h : SR Sx Sm) (_ : xFact Sx) (_ : mFact Sm) (hx : xM_end Sx p0 r ux) (hm : mM_end Sm p0 r' um) : SR ux um := by
  obtain ⟨nv, iv, vv, fv, qv, fcv, qs, fz, ps, gz⟩ := Sx
  obtain ⟨nw, iw, fw, qw⟩ := Sm
  obtain ⟨zt, ⟨-, e⟩, rfl⟩ := hx
  obtain ⟨y0, yt, ⟨-, g⟩, rfl⟩ := hm
  obtain ⟨e1, e2, hne, e3, e4, eb⟩ := h
  have e1 : nv 0 = nw 1 := e1
  rw [← e1] at g
  refine ⟨?_, e2, hne, e3, e4, eb⟩
  show zt = yt
  rw [e, ← end_same]
  exact (congrArg Prod.snd g).symm
theorem eq_feed {Sx ux : CX} {Sm um : CMx} {p0 p1 p2 p3 p4 r r' : Int32} (h : SR Sx Sm) (_ : xFact Sx) (_ : mFact Sm) (hx : xM_feed Sx p0 p1 p2 p3 p4 r ux) (hm : mM_feed Sm p0 p1 p2 p3 p4 r' um) : r = r' := by
  obtain ⟨nv, iv, vv, fv, qv, fcv, qs, fz, ps, gz⟩ := Sx
  obtain ⟨nw, iw, fw, qw⟩ := Sm
  obtain ⟨zf, zt, ⟨e, -⟩, rfl⟩ := hx
  obtain ⟨yf, y0, yt, ⟨g, -⟩, rfl⟩ := hm
  have e1 : nv 0 = nw 1 := h.1
  rw [e, g, e1]
theorem eq_end {Sx ux : CX} {Sm um : CMx} {p0 r r' : Int32} (h : SR Sx Sm) (_ : xFact Sx) (_ : mFact Sm) (hx : xM_end Sx p0 r ux) (hm : mM_end Sm p0 r' um) : r = r' := by
  obtain ⟨nv, iv, vv, fv, qv, fcv, qs, fz, ps, gz⟩ := Sx
  obtain ⟨nw, iw, fw, qw⟩ := Sm
  obtain ⟨zt, ⟨e, -⟩, rfl⟩ := hx
  obtain ⟨y0, yt, ⟨g, -⟩, rfl⟩ := hm
  have e1 : nv 0 = nw 1 := h.1
  rw [e, g, e1]
theorem x_tp {S : CX} (h : xFact S) : (kX S).1 ≤ 900 := by
  obtain ⟨nv, iv, vv, fv, qv, fcv, qs, fz, ps, gz⟩ := S
  exact h.1.1.1
theorem m_bk {S : CMx} (h : mFact S) : (kM S).2.2.2.2.1 ≤ 1 := by
  obtain ⟨nv, iv, fv, qv⟩ := S
  exact h.1.1
theorem x_au {S u : CX} {r : Int32} (h : xM_automaton S r u) : xAu (kX S).2.1 (kX S).1 r ((kX u).2.2.1, (kX u).2.2.2.1) ∧ (kX u).1 = 0 ∧ (kX u).2.1 = (kX S).2.1 := by
  obtain ⟨nv, iv, vv, fv, qv, fcv, qs, fz, ps, gz⟩ := S
  obtain ⟨vw, z0, z1, z2, z3, z4, z5, z6, z7, z8, z9, z10, z11, z12, z13, z14, z15, z16, z17, z18, z19, z20, z21, z22, z23, z24, z25, z26, z27, z28, z29, e, h⟩ := h
  rcases h with ⟨-, rfl⟩ | ⟨-, rfl⟩
  · exact ⟨⟨_, _, _, _, _, _, _, _, _, _, _, _, _, _, _, _, _, _, _, _, _, _, _, _, _, _, _, _, _, _, _, _, _, _, _, _, _, _, _, _, _, _, _, _, _, _, _, _, _, _, e, rfl⟩, rfl, rfl⟩
  · exact ⟨⟨_, _, _, _, _, _, _, _, _, _, _, _, _, _, _, _, _, _, _, _, _, _, _, _, _, _, _, _, _, _, _, _, _, _, _, _, _, _, _, _, _, _, _, _, _, _, _, _, _, _, e, rfl⟩, rfl, rfl⟩
theorem m_au {S u : CMx} {r : Int32} (f : mFact S) (h : mM_automaton S r u) : mAu (kM S).2.1 (kM S).1 r ((kM u).2.2.1, (kM u).2.2.2.1) ∧ (kM u).1 = 0 ∧ (kM u).2.1 = (kM S).2.1 := by
  have f1 := m_bk f
  obtain ⟨nv, iv, fv, qv⟩ := S
  obtain ⟨y0, y1, y2, y3, y4, y5, y6, y7, y8, y9, y10, y11, y12, y13, y14, y15, y16, y17, y18, y19, y20, y21, y22, y23, y24, y25, y26, y27, y28, y29, y30, y31, y32, y33, e, rfl⟩ := h
  exact ⟨⟨_, _, _, _, _, _, _, _, _, _, _, _, _, _, _, _, _, _, _, _, _, _, _, _, f1, _, _, _, _, _, _, _, _, _, _, _, _, _, _, _, _, _, _, _, _, _, _, _, _, _, _, _, _, _, _, _, _, _, _, e, rfl⟩, rfl, rfl⟩
theorem au_both {Sx ux : CX} {Sm um : CMx} {r r' : Int32} (h : SR Sx Sm) (fx : xFact Sx) (fm : mFact Sm) (hx : xM_automaton Sx r ux) (hm : mM_automaton Sm r' um) : r = r' ∧ ((kX ux).2.2.1, (kX ux).2.2.2.1) = ((kM um).2.2.1, (kM um).2.2.2.1) := by
  obtain ⟨e1, e2, hne, -⟩ := h
  have hx1 := (x_au hx).1
  have hm1 := (m_au fm hm).1
  rw [← e1, ← e2] at hm1
  exact au_same hne (x_tp fx) hx1 hm1
theorem sre_automaton {Sx ux : CX} {Sm um : CMx} {r r' : Int32} (h : SR Sx Sm) (fx : xFact Sx) (fm : mFact Sm) (hx : xM_automaton Sx r ux) (hm : mM_automaton Sm r' um) : SRe (kX ux) (kM um) := by
  have f1 := m_bk fm
  have tp := x_tp fx
  obtain ⟨nv, iv, vv, fv, qv, fcv, qs, fz, ps, gz⟩ := Sx
  obtain ⟨nw, iw, fw, qw⟩ := Sm
  obtain ⟨vw, z0, z1, z2, z3, z4, z5, z6, z7, z8, z9, z10, z11, z12, z13, z14, z15, z16, z17, z18, z19, z20, z21, z22, z23, z24, z25, z26, z27, z28, z29, e, hx⟩ := hx
  obtain ⟨y0, y1, y2, y3, y4, y5, y6, y7, y8, y9, y10, y11, y12, y13, y14, y15, y16, y17, y18, y19, y20, y21, y22, y23, y24, y25, y26, y27, y28, y29, y30, y31, y32, y33, g, rfl⟩ := hm
  obtain ⟨e1, e2, hne, -, -, eb⟩ := h
  have f1 : nw 0 ≤ 1 := f1
  have tp : nv 0 ≤ 900 := tp
  have e1 : nv 0 = nw 1 := e1
  have e2 : fv 0 = fw 5 := e2
  have hne : ∀ i, fv 0 i ≠ -1 := hne
  have eb : EB (nw 0) (nv 8) (qv 0) (qv 1) (fv 4) (qv 2) (qw 1) (qw 2) (qw 3) (fw 3) (bkN (nw 0) (nw 21) (nw 22)) := eb
  have er := congrArg Prod.fst e
  rw [← e1, ← e2] at g
  rcases (show nw 0 = 0 ∨ nw 0 = 1 by omega) with w0 | w0
  · rw [w0] at g eb
    rcases au_mb0 hne tp e g with ⟨hr1, hb, hF, -, -, c14, -⟩ | ⟨hr1, hb, hM⟩
    · rcases hx with ⟨n1, -⟩ | ⟨-, rfl⟩
      · exact absurd (er.symm.trans hr1) n1
      · show EB y20 (nv 8) (qv 0) (qv 1) (fv 4) (qv 2) y6 y7 y8 y9 (bkN y20 y15 y16)
        rw [hb, c14]
        exact eb.fr (by decide) hF
    · rcases hx with ⟨-, rfl⟩ | ⟨n1, -⟩
      · show EB y20 z26 z1 z2 z3 z4 y6 y7 y8 y9 (bkN y20 y15 y16)
        rw [hb]
        exact hM.eb (st1 := 0)
      · exact absurd (er.trans n1) hr1
  · rw [w0] at g eb
    rcases au_mb1 hne tp e g with ⟨hr1, hb, hF, -, -, c14, -⟩ | ⟨hr1, hb, hM⟩
    · rcases hx with ⟨n1, -⟩ | ⟨-, rfl⟩
      · exact absurd (er.symm.trans hr1) n1
      · show EB y20 (nv 8) (qv 0) (qv 1) (fv 4) (qv 2) y6 y7 y8 y9 (bkN y20 y15 y16)
        rw [hb, c14]
        exact eb.fr (by decide) hF
    · rcases hx with ⟨-, rfl⟩ | ⟨n1, -⟩
      · show EB y20 z26 z1 z2 z3 z4 y6 y7 y8 y9 (bkN y20 y15 y16)
        rw [hb]
        exact hM.eb (st1 := 0)
      · exact absurd (er.trans n1) hr1
theorem sr_automaton {Sx ux : CX} {Sm um : CMx} {r r' : Int32} (h : SR Sx Sm) (fx : xFact Sx) (fm : mFact Sm) (hx : xM_automaton Sx r ux) (hm : mM_automaton Sm r' um) : SR ux um := by
  have e := (au_both h fx fm hx hm).2
  have es := sre_automaton h fx fm hx hm
  obtain ⟨-, a1, a2⟩ := x_au hx
  obtain ⟨-, b1, b2⟩ := m_au fm hm
  obtain ⟨e1, e2, hne, -⟩ := h
  exact ⟨a1.trans b1.symm, a2.trans (e2.trans b2.symm), fun i => by rw [a2]; exact hne i, congrArg Prod.fst e, congrArg Prod.snd e, es⟩
theorem eq_automaton {Sx ux : CX} {Sm um : CMx} {r r' : Int32} (h : SR Sx Sm) (fx : xFact Sx) (fm : mFact Sm) (hx : xM_automaton Sx r ux) (hm : mM_automaton Sm r' um) : r = r' := (au_both h fx fm hx hm).1
theorem eq_fault {Sx ux : CX} {Sm um : CMx} {p0 r r' : Int32} (h : SR Sx Sm) (_ : xFact Sx) (_ : mFact Sm) (hx : xM_fault Sx p0 r ux) (hm : mM_fault Sm p0 r' um) : r = r' := by
  obtain ⟨nv, iv, vv, fv, qv, fcv, qs, fz, ps, gz⟩ := Sx
  obtain ⟨nw, iw, fw, qw⟩ := Sm
  obtain ⟨e, rfl⟩ := hx
  obtain ⟨y0, g, rfl⟩ := hm
  have e3 : iv 0 = iw 3 := h.2.2.2.1
  have e4 : iv 1 = iw 4 := h.2.2.2.2.1
  have g1 : r' = (sp_EM_fault (iw 3) (iw 4) p0).1 := congrArg Prod.fst g
  rw [e, g1, fault_same, e3, e4]
theorem eq_edge {Sx ux : CX} {Sm um : CMx} {p0 p1 r r' : Int32} (h : SR Sx Sm) (_ : xFact Sx) (_ : mFact Sm) (hx : xM_edge Sx p0 p1 r ux) (hm : mM_edge Sm p0 p1 r' um) : r = r' := by
  obtain ⟨nv, iv, vv, fv, qv, fcv, qs, fz, ps, gz⟩ := Sx
  obtain ⟨nw, iw, fw, qw⟩ := Sm
  obtain ⟨e, rfl⟩ := hx
  obtain ⟨y0, g, rfl⟩ := hm
  have eb : EB (nw 0) (nv 8) (qv 0) (qv 1) (fv 4) (qv 2) (qw 1) (qw 2) (qw 3) (fw 3) (bkN (nw 0) (nw 21) (nw 22)) := h.2.2.2.2.2
  have g1 : r' = (sp_EM_edge (nw 0) (qw 1) (qw 2) (qw 3) (fw 3) (nw 19) (nw 20) (nw 21) (nw 22) p0 p1).1 := congrArg Prod.fst g
  rw [e, g1]
  exact (edge_same eb p0 p1).symm
