/-- what the class's automaton answers over a tape, and the fault and place that it leaves -/
def xAu (f : Nat → Int32) (n : Nat) (r : Int32) (u : Int32 × Int32) : Prop := ∃ (hs : Nat) (ss : Nat) (vl : Int32) (fcn : Nat → Int32) (fpn : Nat → Int32) (df4 : Nat → Int32) (q5 : Nat → Nat) (q6 : Nat → Nat) (df7 : Nat → Int32) (q8 : Nat → Nat) (q9 : Nat → Nat) (df10 : Nat → Int32) (df11 : Nat → Int32) (df12 : Nat → Int32) (df13 : Nat → Int32) (df14 : Nat → Int32) (df15 : Nat → Int32) (df16 : Nat → Int32) (hk : Nat) (on : Nat), ∃ (z4 : Nat → Int32) (z5 : Nat → Nat) (z6 : Nat → Nat) (z7 : Nat → Int32) (z8 : Nat → Nat) (z9 : Nat → Nat) (z10 : Nat → Int32) (z11 : Nat → Int32) (z12 : Nat → Int32) (z13 : Nat → Int32) (z14 : Nat → Int32) (z15 : Nat → Int32) (z16 : Nat → Int32) (zcn : Nat → Int32) (zpn : Nat → Int32) (zss : Nat) (zhs : Nat) (zfa : Int32) (zfat : Int32) (zlen : Nat) (zpos : Nat) (zkd : Nat) (zvl : Int32) (ztka : Int32) (znc : Nat) (znp : Nat) (zne : Nat) (zst0 : Int32) (zhk : Nat) (zon : Nat), (r, z4, z5, z6, z7, z8, z9, z10, z11, z12, z13, z14, z15, z16, zcn, zpn, zss, zhs, zfa, zfat, zlen, zpos, zkd, zvl, ztka, znc, znp, zne, zst0, zhk, zon) = sp_E_8_automaton n hs ss vl f fwC fcn fpn df4 q5 q6 df7 q8 q9 df10 df11 df12 df13 df14 df15 df16 hk on ∧ u = (zfa, zfat)
/-- what the reference's answers -/
def mAu (f : Nat → Int32) (n : Nat) (r : Int32) (u : Int32 × Int32) : Prop := ∃ (x16 : Nat) (x27 : Int32) (x29 : Nat) (x30 : Nat) (x33 : Nat) (f1 : Nat → Int32) (f2 : Nat → Int32) (f3 : Nat → Int32) (r4 : Nat → Nat) (r5 : Nat → Nat) (r6 : Nat → Nat) (r7 : Nat → Nat) (f8 : Nat → Int32) (r9 : Nat → Nat) (r10 : Nat → Nat) (f11 : Nat → Int32) (m12_0 : Nat) (m12_1 : Nat) (m13_0 : Nat) (m13_1 : Nat) (m14_0 : Nat) (m14_1 : Nat) (m15_0 : Nat) (m15_1 : Nat), x16 ≤ 1 ∧ ∃ (z1 : Nat → Int32) (z10 : Nat → Nat) (z11 : Nat → Int32) (z2 : Nat → Int32) (z3 : Nat → Int32) (z4 : Nat → Nat) (z5 : Nat → Nat) (z6 : Nat → Nat) (z7 : Nat → Nat) (z8 : Nat → Int32) (z9 : Nat → Nat) (z12_0 : Nat) (z12_1 : Nat) (z13_0 : Nat) (z13_1 : Nat) (z14_0 : Nat) (z14_1 : Nat) (z15_0 : Nat) (z15_1 : Nat) (z0 : Int32) (z16 : Nat) (z19 : Nat) (z20 : Int32) (z21 : Nat) (z22 : Nat) (z23 : Int32) (z24 : Int32) (z25 : Int32) (z26 : Nat) (z27 : Int32) (z28 : Nat) (z29 : Nat) (z30 : Nat) (z33 : Nat), (r, z1, z10, z11, z2, z3, z4, z5, z6, z7, z8, z9, z12_0, z12_1, z13_0, z13_1, z14_0, z14_1, z15_0, z15_1, z0, z16, z19, z20, z21, z22, z23, z24, z25, z26, z27, z28, z29, z30, z33) = sp_EM_automaton x16 n x27 x29 x30 x33 f1 f2 f3 r4 r5 r6 r7 f8 r9 r10 f11 m12_0 m12_1 m13_0 m13_1 m14_0 m14_1 m15_0 m15_1 f ∧ u = (z24, z25)
theorem au_same {f : Nat → Int32} (hf : ∀ i, f i ≠ -1) {n : Nat} (hn : n ≤ 900) {r r' : Int32} {u u' : Int32 × Int32} (hx : xAu f n r u) (hm : mAu f n r' u') : r = r' ∧ u = u' := by
  obtain ⟨hs, ss, vl, fcn, fpn, df4, q5, q6, df7, q8, q9, df10, df11, df12, df13, df14, df15, df16, hk, on, w4, w5, w6, w7, w8, w9, w10, w11, w12, w13, w14, w15, w16, wcn, wpn, wss, whs, wfa, wfat, wlen, wpos, wkd, wvl, wtka, wnc, wnp, wne, wst0, whk, won, hX, rfl⟩ := hx
  obtain ⟨x16, x27, x29, x30, x33, f1, f2, f3, r4, r5, r6, r7, f8, r9, r10, f11, m12_0, m12_1, m13_0, m13_1, m14_0, m14_1, m15_0, m15_1, h16, z1, z10, z11, z2, z3, z4, z5, z6, z7, z8, z9, z12_0, z12_1, z13_0, z13_1, z14_0, z14_1, z15_0, z15_1, z0, z16, z19, z20, z21, z22, z23, z24, z25, z26, z27, z28, z29, z30, z33, hM, rfl⟩ := hm
  rcases (show x16 = 0 ∨ x16 = 1 by omega) with rfl | rfl
  · obtain ⟨u, y8, y9, y10, y11, y12, y13, y14, y15, y16, ycn, ypn, y4, y5, y6, y7, fa, fat, ln, p, k, v, a, nc, np, ne, st0, hE1, r2, g1, s10, s11, g2, g3, s4, s5, s6, s7, g8, s9, c0, c1, p0, p1, ee0, ee1, b0, b1, th, bk, sz, at_, be, tok, va, fkd, fpl, w, wa, rb, y29, y30, y33, hE2, hh⟩ := ra_1 fwC_ok hf hn vl x27 x29 x30 x33 fcn fpn df4 q5 q6 df7 q8 q9 df10 df11 df12 df13 df14 df15 df16 f1 f2 f3 r4 r5 r6 r7 f8 r9 r10 f11 m12_0 m12_1 m13_0 m13_1 m14_0 m14_1 m15_0 m15_1
    have hE1 := (reads_c vl f fwC fcn fpn df4 q5 q6 df7 q8 q9 df10 df11 df12 df13 df14 df15 df16 n).trans hE1
    rw [hE2] at hM
    have hX1 : r = (if u = 0 then (-1 : Int32) else nI np) ∧ wfa = fa ∧ wfat = fat := by
      simp only [sp_E_8_automaton, slet, hE1] at hX
      by_cases hu : u = 0
      · rw [if_pos hu] at hX ⊢
        simp only [Prod.mk.injEq] at hX
        simp only [hX, and_self]
      · rw [if_neg hu] at hX ⊢
        simp only [Prod.mk.injEq] at hX
        simp only [hX, and_self]
    have hM1 : r' = r2 ∧ z24 = fkd ∧ z25 = fpl := by
      simp only [Prod.mk.injEq] at hM
      simp only [hM, and_self]
    obtain ⟨rfl, rfl, rfl⟩ := hX1
    obtain ⟨rfl, rfl, rfl⟩ := hM1
    have hk : (if u = 0 then (-1 : Int32) else nI np) = r' ∧ wfa = z24 ∧ wfat = z25 := by
      rcases hh with ⟨rfl, rfl, rfl, rfl, -⟩ | ⟨rfl, rfl, rfl, rfl, -⟩
      · exact ⟨rfl, rfl, rfl⟩
      · exact ⟨rfl, rfl, rfl⟩
    obtain ⟨h1, rfl, rfl⟩ := hk
    exact ⟨h1, rfl⟩
  · obtain ⟨u, y8, y9, y10, y11, y12, y13, y14, y15, y16, ycn, ypn, y4, y5, y6, y7, fa, fat, ln, p, k, v, a, nc, np, ne, st0, hE1, r2, g1, s10, s11, g2, g3, s4, s5, s6, s7, g8, s9, c0, c1, p0, p1, ee0, ee1, b0, b1, th, bk, sz, at_, be, tok, va, fkd, fpl, w, wa, rb, y29, y30, y33, hE2, hh⟩ := ra_0 fwC_ok hf hn vl x27 x29 x30 x33 fcn fpn df4 q5 q6 df7 q8 q9 df10 df11 df12 df13 df14 df15 df16 f1 f2 f3 r4 r5 r6 r7 f8 r9 r10 f11 m12_0 m12_1 m13_0 m13_1 m14_0 m14_1 m15_0 m15_1
    have hE1 := (reads_c vl f fwC fcn fpn df4 q5 q6 df7 q8 q9 df10 df11 df12 df13 df14 df15 df16 n).trans hE1
    rw [hE2] at hM
    have hX1 : r = (if u = 0 then (-1 : Int32) else nI np) ∧ wfa = fa ∧ wfat = fat := by
      simp only [sp_E_8_automaton, slet, hE1] at hX
      by_cases hu : u = 0
      · rw [if_pos hu] at hX ⊢
        simp only [Prod.mk.injEq] at hX
        simp only [hX, and_self]
      · rw [if_neg hu] at hX ⊢
        simp only [Prod.mk.injEq] at hX
        simp only [hX, and_self]
    have hM1 : r' = r2 ∧ z24 = fkd ∧ z25 = fpl := by
      simp only [Prod.mk.injEq] at hM
      simp only [hM, and_self]
    obtain ⟨rfl, rfl, rfl⟩ := hX1
    obtain ⟨rfl, rfl, rfl⟩ := hM1
    have hk : (if u = 0 then (-1 : Int32) else nI np) = r' ∧ wfa = z24 ∧ wfat = z25 := by
      rcases hh with ⟨rfl, rfl, rfl, rfl, -⟩ | ⟨rfl, rfl, rfl, rfl, -⟩
      · exact ⟨rfl, rfl, rfl⟩
      · exact ⟨rfl, rfl, rfl⟩
    obtain ⟨h1, rfl, rfl⟩ := hk
    exact ⟨h1, rfl⟩
theorem au_keep {f fw : Nat → Int32} {n : Nat} {r : Int32} {hs : Nat} {ss : Nat} {vl : Int32} {fcn : Nat → Int32} {fpn : Nat → Int32} {df4 : Nat → Int32} {q5 : Nat → Nat} {q6 : Nat → Nat} {df7 : Nat → Int32} {q8 : Nat → Nat} {q9 : Nat → Nat} {df10 : Nat → Int32} {df11 : Nat → Int32} {df12 : Nat → Int32} {df13 : Nat → Int32} {df14 : Nat → Int32} {df15 : Nat → Int32} {df16 : Nat → Int32} {hk : Nat} {on : Nat} {z4 : Nat → Int32} {z5 : Nat → Nat} {z6 : Nat → Nat} {z7 : Nat → Int32} {z8 : Nat → Nat} {z9 : Nat → Nat} {z10 : Nat → Int32} {z11 : Nat → Int32} {z12 : Nat → Int32} {z13 : Nat → Int32} {z14 : Nat → Int32} {z15 : Nat → Int32} {z16 : Nat → Int32} {zcn : Nat → Int32} {zpn : Nat → Int32} {zss : Nat} {zhs : Nat} {zfa : Int32} {zfat : Int32} {zlen : Nat} {zpos : Nat} {zkd : Nat} {zvl : Int32} {ztka : Int32} {znc : Nat} {znp : Nat} {zne : Nat} {zst0 : Int32} {zhk : Nat} {zon : Nat} (hX : (r, z4, z5, z6, z7, z8, z9, z10, z11, z12, z13, z14, z15, z16, zcn, zpn, zss, zhs, zfa, zfat, zlen, zpos, zkd, zvl, ztka, znc, znp, zne, zst0, zhk, zon) = sp_E_8_automaton n hs ss vl f fw fcn fpn df4 q5 q6 df7 q8 q9 df10 df11 df12 df13 df14 df15 df16 hk on) : (zss = ss ∧ zhs = hs ∧ zhk = hk) ∨ (zss = 0 ∧ zhs = 0 ∧ zhk = 0) := by
  obtain ⟨⟨u, y8, y9, y10, y11, y12, y13, y14, y15, y16, ycn, ypn, y4, y5, y6, y7, fa, fat, ln, p, k, v, a, nc, np, ne, st0⟩, hE1⟩ : ∃ x, sp_E_4_reads_c vl f fw fcn fpn df4 q5 q6 df7 q8 q9 df10 df11 df12 df13 df14 df15 df16 n = x := ⟨_, rfl⟩
  simp only [sp_E_8_automaton, slet, hE1] at hX
  by_cases hu : u = 0
  · rw [if_pos hu] at hX
    simp only [Prod.mk.injEq] at hX
    left
    simp only [hX, and_self]
  · rw [if_neg hu] at hX
    simp only [Prod.mk.injEq] at hX
    right
    simp only [hX, and_self]
