/-- the shown graph, in the class and in the reference -/
def SGR (nc np gc gfull : Nat) (gx gway : Int32) (q1 : Nat → Nat) (s2 s3 s4 : Nat → Int32) (qs : Nat → Nat) (fz : Nat → Nat → Int32) (m42 : Nat) (x45 : Int32) (r38 : Nat → Nat) (r39 r40 r41 r34 r43 r44 : Nat → Int32) : Prop := gc = m42 ∧ gc ≤ 120 ∧ gway = x45 ∧ gx = r43 0 ∧ FUL gfull (r44 0) gc 120 ∧ ∃ Z, GS0 (nc + 1) gway gc np Z q1 s2 s3 s4 121 qs fz r38 r39 r40 r41 r34
def SGL (nc np hs gc gfull : Nat) (gx gway : Int32) (q1 : Nat → Nat) (s2 s3 s4 : Nat → Int32) (qs : Nat → Nat) (fz : Nat → Nat → Int32) (x29 m42 : Nat) (x45 : Int32) (r38 : Nat → Nat) (r39 r40 r41 r34 r43 r44 : Nat → Int32) : Prop := hs = x29 ∧ (hs = 0 ∨ (hs = 1 ∧ SGR nc np gc gfull gx gway q1 s2 s3 s4 qs fz m42 x45 r38 r39 r40 r41 r34 r43 r44))
theorem GS0.fr {n cnt np : Nat} {wy : Int32} {Z : Nat → Nat → Nat → Option Int} {q1 : Nat → Nat} {s2 s3 s4 : Nat → Int32} {qs qs' : Nat → Nat} {fz fz' : Nat → Nat → Int32} {r38 R38 : Nat → Nat} {r39 r40 r41 r34 R39 R40 R41 R34 : Nat → Int32} (hc : cnt ≤ 120) (h : GS0 n wy cnt np Z q1 s2 s3 s4 121 qs fz r38 r39 r40 r41 r34) (hn : n ≤ 5) (h1 : ∀ x, 121 ≤ x → x < 242 → fz' x = fz x ∧ qs' x = qs x) (h2 : FRM1 r38 r39 r40 r41 r34 R38 R39 R40 R41 R34) : GS0 n wy cnt np Z q1 s2 s3 s4 121 qs' fz' R38 R39 R40 R41 R34 := by
  intro s hs
  obtain ⟨⟨a1, a2, a3, a4, a5⟩, a6, a7, a8, a9⟩ := h s hs
  obtain ⟨b1, b2⟩ := h1 (121 + s) (by omega) (by omega)
  obtain ⟨c1, c2, c3, c4⟩ := h2.1 s (by omega)
  refine ⟨⟨by rw [c1]; exact a1, a2, by rw [c2]; exact a3, by rw [c3]; exact a4, by rw [c4]; exact a5⟩, by rw [b2]; exact a6, a7, by rw [b1]; exact a8, fun i j hi hj => ?_⟩
  show RFC (R34 (25 * s + (5 * i + j))) (Z s i j)
  rw [h2.2 _ (by omega)]
  exact a9 i j hi hj
theorem SGL.fr {nc np hs gc gfull : Nat} {gx gway : Int32} {q1 : Nat → Nat} {s2 s3 s4 : Nat → Int32} {qs qs' : Nat → Nat} {fz fz' : Nat → Nat → Int32} {x29 m42 : Nat} {x45 : Int32} {r38 R38 : Nat → Nat} {r39 r40 r41 r34 r43 r44 R39 R40 R41 R34 R43 R44 : Nat → Int32} (hn : nc ≤ 3) (h : SGL nc np hs gc gfull gx gway q1 s2 s3 s4 qs fz x29 m42 x45 r38 r39 r40 r41 r34 r43 r44) (h1 : ∀ x, 121 ≤ x → x < 242 → fz' x = fz x ∧ qs' x = qs x) (h2 : RFR1 r38 r39 r40 r41 r34 r43 r44 R38 R39 R40 R41 R34 R43 R44) : SGL nc np hs gc gfull gx gway q1 s2 s3 s4 qs' fz' x29 m42 x45 R38 R39 R40 R41 R34 R43 R44 := by
  obtain ⟨e, h⟩ := h
  refine ⟨e, ?_⟩
  rcases h with z | ⟨z, a1, a2, a3, a4, a5, Z, a6⟩
  · exact Or.inl z
  · obtain ⟨b1, b2⟩ := h2.2 0 (by decide)
    exact Or.inr ⟨z, a1, a2, a3, by rw [b1]; exact a4, by rw [b2]; exact a5, Z, a6.fr a2 (by omega) h1 h2.1⟩
/-- graph: the class, the reference -/
theorem graph_same {b nc np ne st : Nat} {st0 : Int32} {f4 : Nat → Int32} {q5 q6 : Nat → Nat} {f7 : Nat → Int32} {q8 q9 : Nat → Nat} {f10 f11 f12 f13 f14 f15 f16 : Nat → Int32} {f3 : Nat → Int32} {r4 r5 r6 r7 : Nat → Nat} {f8 : Nat → Int32} {r9 r10 : Nat → Nat} {r11 : Nat → Int32} {m12_0 m12_1 m13_0 m13_1 m14_0 m14_1 m15_0 m15_1 : Nat} (h : MB b nc np ne st0 f4 q5 q6 f7 q8 q9 f10 f11 f3 r4 r5 r6 r7 f8 r9 r10 r11 (bkN b m12_0 m12_1) (bkN b m13_0 m13_1) (bkN b m14_0 m14_1) (bkN b m15_0 m15_1)) (w : WFm nc np ne f4 q8 q9 f10 f11 f12 f13) (hs : MS nc np q8 q9 f10 f11 f14 f15 f16) (hb : b ≤ 1) (hu : ∀ i, i < np → ∀ j, j < q8 (14 + i) → r10 (80 * b + 56 + 3 * i + j) ≤ 1) (hst : np = 0 ∨ (st < np ∧ bkN b m15_0 m15_1 = st + 1)) (ghs gc gfull : Nat) (gx gway gav ggoal : Int32) (gfound gl gsz : Nat) (q1 : Nat → Nat) (s2 s3 s4 s5 hig log fbu : Nat → Int32) (fz : Nat → Nat → Int32) (qs : Nat → Nat) (x29 : Nat) (x45 : Int32) (x46 m42 : Nat) (r38 : Nat → Nat) (r39 r40 r41 r34 r35 r43 r44 f47 f48 : Nat → Int32) (p0 : Int32) (a1 : Nat) (hL : SGL nc np ghs gc gfull gx gway q1 s2 s3 s4 qs fz x29 m42 x45 r38 r39 r40 r41 r34 r43 r44) :
  ∃ r z1 z2 z3 z4 z5 hi lo fb zhs av go fo l sz c fu x wa fz' qs' R34 R35 R38 R39 R40 R41 R43 R44 g47 g48 cnt th w29 w45 w46, sp_E_8_graph ghs nc np ne st f4 q5 q6 f7 q8 q9 f12 f13 f14 f15 f16 gc gfull gx gway gav ggoal gfound gl gsz q1 s2 s3 s4 s5 hig log fbu 121 qs fz p0 a1 = (r, z1, z2, z3, z4, z5, hi, lo, fb, zhs, av, go, fo, l, sz, c, fu, x, wa, fz', qs') ∧ sp_EM_graph b x29 x45 x46 f3 r4 r5 r6 r7 f8 r9 r10 r11 m12_0 m12_1 m13_0 m13_1 m14_0 m14_1 m15_0 m15_1 r34 r35 r38 r39 r40 r41 m42 r43 r44 f47 f48 p0 a1 = (r, R34, R35, R38, R39, R40, R41, R43, R44, g47, g48, cnt, th, w29, w45, w46) ∧ SGL nc np zhs c fu x wa z1 z2 z3 z4 qs' fz' w29 cnt w45 R38 R39 R40 R41 R34 R43 R44 := by
  have hp8 := h.1.2.2.2.1
  have hc3 : nc ≤ 3 := h.1.2.1
  have e13 : (if b = 0 then m13_0 else m13_1) = np := h.1.2.2.1
  have ec : sp_EM_clocks b m12_0 m12_1 = nc := h.1.1
  by_cases c0 : p0 < 0
  · have n0 : ¬ ((0 : Int32) ≤ p0 ∧ p0 ≤ 2) := fun z => Int32.not_lt.mpr z.1 c0
    exact ⟨-1, q1, s2, s3, s4, s5, hig, log, fbu, ghs, gav, ggoal, gfound, gl, gsz, gc, gfull, gx, gway, fz, qs, r34, r35, r38, r39, r40, r41, r43, r44, f47, f48, m42, 0, x29, x45, x46, by simp only [sp_E_8_graph, slet, if_pos c0], by simp only [sp_EM_graph, slet, if_neg n0], hL⟩
  · by_cases c1 : 2 < p0
    · have n0 : ¬ ((0 : Int32) ≤ p0 ∧ p0 ≤ 2) := fun z => Int32.not_lt.mpr z.2 c1
      exact ⟨-1, q1, s2, s3, s4, s5, hig, log, fbu, ghs, gav, ggoal, gfound, gl, gsz, gc, gfull, gx, gway, fz, qs, r34, r35, r38, r39, r40, r41, r43, r44, f47, f48, m42, 0, x29, x45, x46, by simp only [sp_E_8_graph, slet, if_neg c0, if_pos c1], by simp only [sp_EM_graph, slet, if_neg n0], hL⟩
    · have c2 : (0 : Int32) ≤ p0 ∧ p0 ≤ 2 := ⟨Int32.not_lt.mp c0, Int32.not_lt.mp c1⟩
      rcases hst with n0 | ⟨hst, e15⟩
      · exact ⟨-1, q1, s2, s3, s4, s5, hig, log, fbu, ghs, gav, ggoal, gfound, gl, gsz, gc, gfull, gx, gway, fz, qs, r34, r35, r38, r39, r40, r41, r43, r44, f47, f48, m42, 0, x29, x45, x46, by simp only [sp_E_8_graph, slet, if_neg c0, if_neg c1, if_pos n0], by simp only [sp_EM_graph, slet, if_pos c2, e13, if_pos n0], hL⟩
      · have np0 : ¬ np = 0 := by omega
        have e15' : (if b = 0 then m15_0 else m15_1) = st + 1 := e15
        obtain ⟨wy, ew⟩ : ∃ wy : Int32, nI p0.toNatClampNeg = wy := ⟨_, rfl⟩
        obtain ⟨x, y, ep, hxy⟩ := plan_16 hs (by omega) hc3 wy a1 (nc + 1) (Nat.le_refl _) hig log
        obtain ⟨x', y', elf, hxy'⟩ := forg_z h hb hu wy f47 f48
        have hF := fgh_of w (by omega) hxy hxy'
        obtain ⟨fb, hfb, hbz⟩ := bz_16 (st0 := st) (gf := 0) (gsz := nc + 1) (o := 121) (f4 := f4) (q8 := q8) (q9 := q9) (f12 := f12) (f13 := f13) (gway := wy) (gav := -1) (ggoal := -1) (q1 := q1) (s2 := s2) (s3 := s3) (s4 := s4) (s5 := s5) (fhi := x) (flo := y) (fbu := fbu) (qs := qs) (fz := fz)
        obtain ⟨k1, k2, k3, k4, k5, kf, kc, kg, kx, kz, kq, eo, z1, z2, z3, z4, z5, gf, c, fu, vx, fz', qs', R34, R35, R38, R39, R40, R41, R43, R44, cnt, eg, ee, hS⟩ := explo_0_120 (gl := a1) (o := 121) (wy := wy) (gav := -1) (goal := -1) h w hb (Nat.le_refl _) (by omega) (fun _ => ⟨by omega, by omega⟩) elf hF hst (m1_ne (by omega)) (p0 := 0) (p1 := 0) (p2 := 0) (u := fun _ => 0) (fbu := fb) (fun i hi => ⟨by omega, hfb i (by omega), if3z⟩) rfl q1 s2 s3 s4 s5 fz qs r38 r39 r40 r41 r34 r35 r43 r44
        obtain ⟨-, -, hk, hM⟩ := hS
        rcases hM with ⟨-, rfl, ⟨Z, hG⟩, hfu, hgx, -⟩ | ⟨-, ⟨s, -, z⟩, -⟩
        · exact ⟨nI c, z1, z2, z3, z4, z5, x, y, fb, 1, -1, -1, gf, a1, nc + 1, c, fu, vx, wy, fz', qs', R34, R35, R38, R39, R40, R41, R43, R44, x', y', c, 0, 1, wy, nc + 1, by simp only [sp_E_8_graph, slet, if_neg c0, if_neg c1, if_neg np0, ew, ep, hbz _ _ _ _ _ _ _ _ _ _ _ eo, eg], by simp only [sp_EM_graph, slet, if_pos c2, e13, if_neg np0, ec, e15', Nat.add_sub_cancel, ew, ee], rfl, Or.inr ⟨rfl, rfl, hk.2, rfl, hgx, hfu, Z, hG⟩⟩
        · exact absurd z (m1_ne (by omega))
/-- first -/
theorem first_same {b np hs gc nc gfull x29 m42 m13_0 m13_1 : Nat} {gx gway x45 : Int32} {q1 : Nat → Nat} {s2 s3 s4 : Nat → Int32} {qs : Nat → Nat} {fz : Nat → Nat → Int32} {r38 : Nat → Nat} {r39 r40 r41 r34 r43 r44 : Nat → Int32} (e13 : bkN b m13_0 m13_1 = np) (hp : np ≤ 8) (hL : SGL nc np hs gc gfull gx gway q1 s2 s3 s4 qs fz x29 m42 x45 r38 r39 r40 r41 r34 r43 r44) (p0 : Int32) : (sp_EM_first b x29 m13_0 m13_1 r38 m42 p0).1 = sp_E_8_first hs np gc q1 p0 := by
  obtain ⟨e, h⟩ := hL
  rcases h with z | ⟨z, rfl, a2, a3, a4, a5, Z, a6⟩
  · have x0 : x29 = 0 := by omega
    have e1 : sp_EM_first b x29 m13_0 m13_1 r38 m42 p0 = (-1, 0) := itrv_inr (by simp only [sp_EM_first_L1, if_pos x0])
    rw [e1]
    simp only [sp_E_8_first, if_pos z]
  · have x0 : ¬ x29 = 0 := by omega
    have z0 : ¬ hs = 0 := by omega
    by_cases c0 : (0 : Int32) ≤ p0 ∧ p0 < nI np
    · obtain ⟨k, hk, rfl, ck⟩ := np_of hp c0
      have eE : sp_E_8_first hs np gc q1 (nI k) = sp_E_1_firstAt_16 gc q1 (nI k) := by simp only [sp_E_8_first, slet, if_neg z0, if_pos c0, ck]
      rw [eE]
      refine itrv_sim (d := default) (d' := default) (f := sp_EM_first_L1 b x29 m13_0 m13_1 r38 gc) (g := sp_E_1_firstAt_16_L1 gc q1 (nI k)) (fun t t' => t = (nI k, t') ∧ t' ≤ gc) (fun r r' => r.1 = r') (fun (_, i) => gc - i) ?_ _ (nI k, 0) 0 (Nat.le_refl _) ⟨rfl, Nat.zero_le _⟩
      rintro _ i ⟨rfl, hi⟩
      by_cases ce : gc ≤ i
      · exact Or.inr ⟨(-1, 0), by simp only [sp_EM_first_L1, slet, if_neg x0, e13, if_pos c0, if_pos ce], (itrv_inr (by simp only [sp_E_1_firstAt_16_L1, if_pos ce])).symm⟩
      · obtain ⟨⟨y1, y2, -, -, -⟩, -⟩ := a6 i (by omega)
        by_cases c : min (r38 i) 7 = k
        · have c' : (nI (min (q1 i) 7) : Int32) = nI k := by rw [y1, c]
          exact Or.inr ⟨(nI i, 0), by simp only [sp_EM_first_L1, slet, if_neg x0, e13, if_pos c0, if_neg ce, ck, if_pos c], (itrv_inr (by simp only [sp_E_1_firstAt_16_L1, slet, if_neg ce, if_pos c'])).symm⟩
        · have c' : ¬ (nI (min (q1 i) 7) : Int32) = nI k := fun z => c (by rw [← y1]; exact (nI_eq (by omega) (by omega)).mp z)
          exact Or.inl ⟨(nI k, i + 1), i + 1, by simp only [sp_EM_first_L1, slet, if_neg x0, e13, if_pos c0, if_neg ce, ck, if_neg c], by simp only [sp_E_1_firstAt_16_L1, slet, if_neg ce, if_neg c'], ⟨rfl, by omega⟩, by show gc - (i + 1) < gc - i; omega⟩
    · have e1 : sp_EM_first b x29 m13_0 m13_1 r38 gc p0 = (-1, 0) := itrv_inr (by simp only [sp_EM_first_L1, if_neg x0, e13, if_neg c0])
      rw [e1]
      simp only [sp_E_8_first, if_neg z0, if_neg c0]
/-- reached -/
theorem reached_same {np hs gc nc gfull x29 m42 : Nat} {gx gway x45 : Int32} {q1 : Nat → Nat} {s2 s3 s4 : Nat → Int32} {qs : Nat → Nat} {fz : Nat → Nat → Int32} {r38 : Nat → Nat} {r39 r40 r41 r34 r43 r44 : Nat → Int32} (hL : SGL nc np hs gc gfull gx gway q1 s2 s3 s4 qs fz x29 m42 x45 r38 r39 r40 r41 r34 r43 r44) : (sp_EM_reached x29 r38 m42).1 = sp_E_8_reached hs gc q1 := by
  obtain ⟨e, h⟩ := hL
  rcases h with z | ⟨z, rfl, a2, a3, a4, a5, Z, a6⟩
  · have x0 : x29 = 0 := by omega
    have e1 : itrv default (sp_EM_reached_L1 x29 r38 m42) (0, 0) = (0, 0) := itrv_inr (by simp only [sp_EM_reached_L1, if_pos x0])
    simp only [sp_EM_reached, sp_E_8_reached, slet, e1, if_pos x0, if_pos z]
  · have x0 : ¬ x29 = 0 := by omega
    have z0 : ¬ hs = 0 := by omega
    have H : (itrv default (sp_EM_reached_L1 x29 r38 gc) (0, 0)).1 = sp_E_1_allSites_16 gc q1 := by
      refine itrv_sim (d := default) (d' := default) (f := sp_EM_reached_L1 x29 r38 gc) (g := sp_E_1_allSites_16_L1 gc q1) (fun t t' => t = t' ∧ t.2 ≤ gc) (fun r r' => r.1 = r') (fun (_, i) => gc - i) ?_ _ (0, 0) (0, 0) (Nat.le_refl _) ⟨rfl, Nat.zero_le _⟩
      rintro ⟨a, i⟩ _ ⟨rfl, hi⟩
      have hi : i ≤ gc := hi
      by_cases ce : gc ≤ i
      · exact Or.inr ⟨(a, i), by simp only [sp_EM_reached_L1, if_neg x0, if_pos ce], (itrv_inr (by simp only [sp_E_1_allSites_16_L1, if_pos ce])).symm⟩
      · obtain ⟨⟨y1, -⟩, -⟩ := a6 i (by omega)
        exact Or.inl ⟨(a ||| ((1 : Int32) <<< ((nI (min (r38 i) 7) : Int32) &&& 31)), i + 1), (a ||| ((1 : Int32) <<< ((nI (min (r38 i) 7) : Int32) &&& 31)), i + 1), by simp only [sp_EM_reached_L1, slet, if_neg x0, if_neg ce], by simp only [sp_E_1_allSites_16_L1, slet, if_neg ce, y1], ⟨rfl, by show i + 1 ≤ gc; omega⟩, by show gc - (i + 1) < gc - i; omega⟩
    obtain ⟨⟨u, v⟩, eu⟩ : ∃ q, itrv default (sp_EM_reached_L1 x29 r38 gc) (0, 0) = q := ⟨_, rfl⟩
    rw [eu] at H
    have H : u = sp_E_1_allSites_16 gc q1 := H
    simp only [sp_EM_reached, sp_E_8_reached, slet, eu, if_neg x0, if_neg z0, H]
/-- taken -/
theorem taken_same {np hs gc nc gfull x29 m42 : Nat} {gx gway x45 : Int32} {q1 : Nat → Nat} {s2 s3 s4 : Nat → Int32} {qs : Nat → Nat} {fz : Nat → Nat → Int32} {r38 : Nat → Nat} {r39 r40 r41 r34 r43 r44 : Nat → Int32} (hL : SGL nc np hs gc gfull gx gway q1 s2 s3 s4 qs fz x29 m42 x45 r38 r39 r40 r41 r34 r43 r44) : (sp_EM_taken x29 r43).1 = sp_E_8_taken hs gx := by
  obtain ⟨e, h⟩ := hL
  rcases h with z | ⟨z, a1, a2, a3, a4, a5, Z, a6⟩
  · have x0 : x29 = 0 := by omega
    simp only [sp_EM_taken, sp_E_8_taken, if_pos x0, if_pos z]
  · have x0 : ¬ x29 = 0 := by omega
    have z0 : ¬ hs = 0 := by omega
    simp only [sp_EM_taken, sp_E_8_taken, slet, if_neg x0, if_neg z0]
    exact a4.symm
/-- within -/
theorem within_same {b np hs gc nc gfull x29 m42 m12_0 m12_1 : Nat} {gx gway x45 : Int32} {q1 : Nat → Nat} {s2 s3 s4 : Nat → Int32} {qs : Nat → Nat} {fz : Nat → Nat → Int32} {r38 : Nat → Nat} {r39 r40 r41 r34 r35 r43 r44 : Nat → Int32} (ec : sp_EM_clocks b m12_0 m12_1 = nc) (hc : nc ≤ 3) (hL : SGL nc np hs gc gfull gx gway q1 s2 s3 s4 qs fz x29 m42 x45 r38 r39 r40 r41 r34 r43 r44) (p0 p1 : Int32) : (sp_EM_within b x29 m12_0 m12_1 r34 r35 m42 p0 p1).1 = sp_E_8_within hs gc 121 qs fz p0 p1 := by
  have isS : ∀ p : Int32, sp_EM_isState b x29 m12_0 m12_1 m42 p = nc + 1 := by
    intro p
    by_cases c1 : x29 = 0
    · simp only [sp_EM_isState, slet, ec, if_pos c1]
    · by_cases c2 : (0 : Int32) ≤ p ∧ p ≤ ((nI m42) - 1)
      · simp only [sp_EM_isState, slet, ec, if_neg c1, if_pos c2]
      · simp only [sp_EM_isState, slet, ec, if_neg c1, if_neg c2]
  obtain ⟨e, h⟩ := hL
  by_cases c0 : hs = 1 ∧ (0 : Int32) ≤ p0 ∧ p0 < nI gc
  · rcases h with z | ⟨z, rfl, a2, a3, a4, a5, Z, a6⟩
    · exact absurd c0.1 (by omega)
    · have x0 : x29 = 1 ∧ (0 : Int32) ≤ p0 ∧ p0 < nI gc := ⟨by omega, c0.2⟩
      by_cases c1 : hs = 1 ∧ (0 : Int32) ≤ p1 ∧ p1 < nI gc
      · have x1 : x29 = 1 ∧ (0 : Int32) ≤ p1 ∧ p1 < nI gc := ⟨by omega, c1.2⟩
        obtain ⟨j, hj, rfl⟩ := nI_of (Int32.not_lt.mpr c0.2.1)
        have j1 : j < gc := (nI_ltI hj (by omega)).mp c0.2.2
        obtain ⟨k, hk, rfl⟩ := nI_of (Int32.not_lt.mpr c1.2.1)
        have k1 : k < gc := (nI_ltI hk (by omega)).mp c1.2.2
        have cj : (nI j : Int32).toNatClampNeg = j := nI_clamp hj
        have ck : (nI k : Int32).toNatClampNeg = k := nI_clamp hk
        obtain ⟨-, u6, u7, u8, u9⟩ := a6 j j1
        obtain ⟨-, v6, v7, v8, v9⟩ := a6 k k1
        have em : min (qs (121 + j)) 4 = nc + 1 := by omega
        have hz : ZR (nc + 1) (sp_EM_copies_nz r34 r35 (25 * k)) (Z k) := fun i l hi hl => by
          rw [copies_nz (5 * i + l) (by omega)]
          exact v9 i l hi hl
        have rr := hasAll_z (n := nc + 1) (s := j) (a2 := 0) (l := 1) (by decide) hz u9
        have eM : (sp_EM_within b x29 m12_0 m12_1 r34 r35 gc (nI j) (nI k)).1 = nI (sp_EM_hasAll (nc + 1) r34 (sp_EM_copies_nz r34 r35 (25 * k)) j 0) := by
          rcases rr with ⟨e1, -⟩ | ⟨e1, -⟩
          · simp only [sp_EM_within, slet, isS, if_pos x0, if_pos x1, cj, ck, e1, if_neg (show ¬ (1 : Nat) = 0 by omega)]; rfl
          · simp only [sp_EM_within, slet, isS, if_pos x0, if_pos x1, cj, ck, e1, if_pos]; rfl
        rw [eM]
        by_cases cjk : j = k
        · subst cjk
          have all : HSA 1 (nc + 1) (Z j) (Z j) := fun i l _ _ => by
            unfold HSP
            rw [if_neg (by decide)]
            exact ble_refl _
          have e1 : sp_E_7_holdsAll_s_16 (nc + 1) (fz (121 + j)) = 1 := by
            refine itrv_inv (d := default) (f := sp_E_7_holdsAll_s_16_L1 (nc + 1) (fz (121 + j))) (fun _ => True) (fun r => r = 1) (fun i => (nc + 1) * (nc + 1) - i) ?_ _ 0 (Nat.le_refl _) trivial
            intro i _
            by_cases ce : (nc + 1) * (nc + 1) ≤ i
            · exact Or.inr ⟨1, by simp only [sp_E_7_holdsAll_s_16_L1, if_pos ce], rfl⟩
            · exact Or.inl ⟨i + 1, by simp only [sp_E_7_holdsAll_s_16_L1, slet, if_neg ce, if_pos (Int32.le_refl (fz (121 + j) i))], trivial, by show (nc + 1) * (nc + 1) - (i + 1) < (nc + 1) * (nc + 1) - i; omega⟩
          have e2 : sp_E_8_within hs gc 121 qs fz (nI j) (nI j) = 1 := by
            simp only [sp_E_8_within, slet, if_pos c0, cj, em, e1, if_pos]; rfl
          rw [e2]
          rcases rr with ⟨e3, -⟩ | ⟨e3, n⟩
          · rw [e3]; rfl
          · exact absurd all n
        · have ee := holdsAll_16 (n := nc + 1) (l := 1) (by decide) v8 u8
          rcases ee with ⟨e1, h1⟩ | ⟨e1, h1⟩
          · rcases rr with ⟨e3, -⟩ | ⟨e3, n⟩
            · rw [e3]
              simp only [sp_E_8_within, slet, if_pos c0, if_pos c1, cj, ck, if_neg cjk, em, e1, bit_of (Nat.le_refl 1)]
            · exact absurd h1 n
          · rcases rr with ⟨e3, n⟩ | ⟨e3, -⟩
            · exact absurd n h1
            · rw [e3]
              simp only [sp_E_8_within, slet, if_pos c0, if_pos c1, cj, ck, if_neg cjk, em, e1, bit_of (Nat.zero_le 1)]
      · have x1 : ¬ (x29 = 1 ∧ (0 : Int32) ≤ p1 ∧ p1 < nI gc) := fun y => c1 ⟨by omega, y.2⟩
        simp only [sp_EM_within, sp_E_8_within, slet, isS, if_pos x0, if_neg x1, if_pos c0, if_neg c1]
  · have x0 : ¬ (x29 = 1 ∧ (0 : Int32) ≤ p0 ∧ p0 < nI m42) := by
      intro y
      rcases h with z | ⟨z, a1, -⟩
      · omega
      · exact c0 ⟨z, y.2.1, by rw [a1]; exact y.2.2⟩
    simp only [sp_EM_within, sp_E_8_within, slet, isS, if_neg x0, if_neg c0]
theorem ec_rfc {x y : Int32} {a : Option Int} (h : EC x a) (g : RFC y a) : (x = 2147483647 ∧ ¬ y < 1048576) ∨ (¬ x = 2147483647 ∧ y < 1048576 ∧ x = y) := by
  rcases h with ⟨h1, h2⟩ | ⟨v, h1, h2, h3⟩
  · exact Or.inl ⟨h2, Int32.not_lt.mpr (g.open_iff.mpr h1)⟩
  · obtain ⟨g2, g3⟩ := g.yes h1
    refine Or.inr ⟨fun z => ?_, ?_, Int32.toInt_inj.mp (h2.trans g2.symm)⟩
    · rw [z] at h2
      have : (2147483647 : Int32).toInt = 2147483647 := by decide
      omega
    · rw [Int32.lt_iff_toInt_lt, open32, g2]; exact g3
theorem pred_3 {nc : Nat} (h : nc ≤ 3) (p : Int32) : p ≤ ((nI nc : Int32) - 1) ↔ p < nI nc := by
  rw [Int32.le_iff_toInt_le, Int32.lt_iff_toInt_lt]
  rcases (show nc = 0 ∨ nc = 1 ∨ nc = 2 ∨ nc = 3 by omega) with rfl | rfl | rfl | rfl
  · rw [show ((nI 0 : Int32) - 1).toInt = -1 by decide, show (nI 0 : Int32).toInt = 0 by decide]; omega
  · rw [show ((nI 1 : Int32) - 1).toInt = 0 by decide, show (nI 1 : Int32).toInt = 1 by decide]; omega
  · rw [show ((nI 2 : Int32) - 1).toInt = 1 by decide, show (nI 2 : Int32).toInt = 2 by decide]; omega
  · rw [show ((nI 3 : Int32) - 1).toInt = 2 by decide, show (nI 3 : Int32).toInt = 3 by decide]; omega
theorem ck_of {nc : Nat} (hc : nc ≤ 3) (p : Int32) : (¬ ((-1 : Int32) ≤ p ∧ p ≤ ((nI nc : Int32) - 1)) ∧ (p < (-1) ∨ (¬ p < (-1) ∧ (nI nc : Int32) ≤ p))) ∨ (((-1 : Int32) ≤ p ∧ p ≤ ((nI nc : Int32) - 1)) ∧ ¬ p < (-1) ∧ ¬ (nI nc : Int32) ≤ p ∧ (p = -1 ∨ (¬ p = -1 ∧ ∃ k, k < nc ∧ p.toNatClampNeg = k))) := by
  by_cases a : p < (-1)
  · exact Or.inl ⟨fun z => absurd a (Int32.not_lt.mpr z.1), Or.inl a⟩
  · by_cases d : (nI nc : Int32) ≤ p
    · exact Or.inl ⟨fun z => absurd ((pred_3 hc p).mp z.2) (Int32.not_lt.mpr d), Or.inr ⟨a, d⟩⟩
    · refine Or.inr ⟨⟨Int32.not_lt.mp a, (pred_3 hc p).mpr (Int32.not_le.mp d)⟩, a, d, ?_⟩
      by_cases e : p = -1
      · exact Or.inl e
      · refine Or.inr ⟨e, ?_⟩
        have m1 : (-1 : Int32).toInt = -1 := by decide
        have m0 : (0 : Int32).toInt = 0 := by decide
        have p0 : ¬ p < 0 := by
          intro z
          rw [Int32.lt_iff_toInt_lt, m0] at z
          rw [Int32.lt_iff_toInt_lt, m1] at a
          exact e (Int32.toInt_inj.mp (by rw [m1]; omega))
        obtain ⟨j, hj, rfl⟩ := nI_of p0
        exact ⟨j, (nI_ltI hj (by omega)).mp (Int32.not_le.mp d), nI_clamp hj⟩
theorem bv_same {x y : Int32} {a : Option Int} (h : EC x a) (g : RFC y a) (p3 : Int32) (z : Nat) : (if (0 : Int32) ≤ p3 ∧ p3 ≤ 1 then (if y < 1048576 then (if p3.toNatClampNeg = 0 then (y >>> ((1 : Int32) &&& 31), (0 : Int32), z) else (y &&& (1 : Int32), 0, z)) else (2147483647, 0, z)) else (-2147483648, 0, z)).1 = (if p3 < 0 then -2147483648 else if p3 ≤ 1 then (if x = 2147483647 then 2147483647 else if p3.toNatClampNeg = 0 then x >>> ((1 : Int32) &&& 31) else x &&& (1 : Int32)) else -2147483648) := by
  by_cases c1 : p3 < 0
  · rw [if_neg (fun q : (0 : Int32) ≤ p3 ∧ p3 ≤ 1 => absurd c1 (Int32.not_lt.mpr q.1)), if_pos c1]
  · by_cases c2 : p3 ≤ 1
    · rw [if_pos (⟨Int32.not_lt.mp c1, c2⟩ : (0 : Int32) ≤ p3 ∧ p3 ≤ 1), if_neg c1, if_pos c2]
      rcases ec_rfc h g with ⟨e1, e2⟩ | ⟨e1, e2, rfl⟩
      · rw [if_neg e2, if_pos e1]
      · rw [if_pos e2, if_neg e1]
        by_cases c3 : p3.toNatClampNeg = 0
        · rw [if_pos c3, if_pos c3]
        · rw [if_neg c3, if_neg c3]
    · rw [if_neg (fun q : (0 : Int32) ≤ p3 ∧ p3 ≤ 1 => c2 q.2), if_neg c1, if_neg c2]
theorem isS_M {b m12_0 m12_1 nc : Nat} (ec : sp_EM_clocks b m12_0 m12_1 = nc) (x29 m42 : Nat) (p : Int32) : sp_EM_isState b x29 m12_0 m12_1 m42 p = nc + 1 := by
  by_cases c1 : x29 = 0
  · simp only [sp_EM_isState, slet, ec, if_pos c1]
  · by_cases c2 : (0 : Int32) ≤ p ∧ p ≤ ((nI m42) - 1)
    · simp only [sp_EM_isState, slet, ec, if_neg c1, if_pos c2]
    · simp only [sp_EM_isState, slet, ec, if_neg c1, if_neg c2]
/-- bound -/
theorem bound_same {b np hs gc nc gfull x29 m42 m12_0 m12_1 : Nat} {gx gway x45 : Int32} {q1 : Nat → Nat} {s2 s3 s4 : Nat → Int32} {qs : Nat → Nat} {fz : Nat → Nat → Int32} {r38 : Nat → Nat} {r39 r40 r41 r34 r43 r44 : Nat → Int32} (ec : sp_EM_clocks b m12_0 m12_1 = nc) (hc : nc ≤ 3) (hL : SGL nc np hs gc gfull gx gway q1 s2 s3 s4 qs fz x29 m42 x45 r38 r39 r40 r41 r34 r43 r44) (p0 p1 p2 p3 : Int32) : (sp_EM_bound b x29 m12_0 m12_1 r34 m42 p0 p1 p2 p3).1 = sp_E_8_bound hs nc gc 121 qs fz p0 p1 p2 p3 := by
  have isS := isS_M ec
  obtain ⟨e, h⟩ := hL
  by_cases c0 : hs = 1 ∧ (0 : Int32) ≤ p0 ∧ p0 < nI gc
  · rcases h with z | ⟨z, rfl, a2, a3, a4, a5, Z, a6⟩
    · exact absurd c0.1 (by omega)
    · have x0 : x29 = 1 ∧ (0 : Int32) ≤ p0 ∧ p0 < nI gc := ⟨by omega, c0.2⟩
      obtain ⟨j, j1, cj⟩ : ∃ j, j < gc ∧ p0.toNatClampNeg = j := by
        obtain ⟨j, hj, rfl⟩ := nI_of (Int32.not_lt.mpr c0.2.1)
        exact ⟨j, (nI_ltI hj (by omega)).mp c0.2.2, nI_clamp hj⟩
      obtain ⟨-, u6, u7, u8, u9⟩ := a6 j j1
      have em : min (qs (121 + j)) 4 = nc + 1 := by omega
      rcases ck_of hc p1 with ⟨d1, k1⟩ | ⟨d1, d2, d3, k1⟩
      · have eM : (sp_EM_bound b x29 m12_0 m12_1 r34 gc p0 p1 p2 p3).1 = -2147483648 := by
          simp only [sp_EM_bound, slet, isS, ec, if_pos x0, if_neg d1]
        rw [eM]
        rcases k1 with k1 | ⟨k0, k1⟩
        · simp only [sp_E_8_bound, slet, if_pos k1, ite_self]
        · simp only [sp_E_8_bound, slet, if_neg k0, if_pos k1, ite_self]
      · rcases ck_of hc p2 with ⟨g1, k2⟩ | ⟨g1, g2, g3, k2⟩
        · have eM : (sp_EM_bound b x29 m12_0 m12_1 r34 gc p0 p1 p2 p3).1 = -2147483648 := by
            simp only [sp_EM_bound, slet, isS, ec, if_pos x0, if_pos d1, if_neg g1, ite_self]
          rw [eM]
          rcases k2 with k2 | ⟨k0, k2⟩
          · simp only [sp_E_8_bound, slet, if_neg d2, if_neg d3, if_pos k2, ite_self]
          · simp only [sp_E_8_bound, slet, if_neg d2, if_neg d3, if_neg k0, if_pos k2, ite_self]
        · rcases k1 with k1 | ⟨n1, k, hk, ck⟩
          · rcases k2 with k2 | ⟨n2, l, hl, cl⟩
            · have t : RFC (r34 (25 * j + (5 * 0 + 0))) (Z j 0 0) := u9 0 0 (by omega) (by omega)
              rw [show 25 * j + (5 * 0 + 0) = 25 * j + 0 by omega] at t
              simp only [sp_EM_bound, sp_E_8_bound, slet, isS, ec, if_pos x0, if_pos c0, cj, if_pos d1, if_pos g1, if_neg d2, if_neg d3, if_neg g2, if_neg g3, sp_E_7_cellOf_16, em, if_pos k1, if_pos k2, sp_EM_boundOf_00]
              exact bv_same (u8 0 0 (by omega) (by omega)) t p3 (nc + 1)
            · have t : RFC (r34 (25 * j + (5 * 0 + (l + 1)))) (Z j 0 (l + 1)) := u9 0 (l + 1) (by omega) (by omega)
              rw [show 25 * j + (5 * 0 + (l + 1)) = 25 * j + 0 + l + 1 by omega] at t
              simp only [sp_EM_bound, sp_E_8_bound, slet, isS, ec, if_pos x0, if_pos c0, cj, if_pos d1, if_pos g1, if_neg d2, if_neg d3, if_neg g2, if_neg g3, sp_E_7_cellOf_16, em, if_pos k1, if_neg n2, cl, sp_EM_boundOf_01]
              exact bv_same (u8 0 (l + 1) (by omega) (by omega)) t p3 (nc + 1)
          · rcases k2 with k2 | ⟨n2, l, hl, cl⟩
            · have t : RFC (r34 (25 * j + (5 * (k + 1) + 0))) (Z j (k + 1) 0) := u9 (k + 1) 0 (by omega) (by omega)
              rw [show 25 * j + (5 * (k + 1) + 0) = 25 * j + 5 * (k + 1) by omega] at t
              simp only [sp_EM_bound, sp_E_8_bound, slet, isS, ec, if_pos x0, if_pos c0, cj, if_pos d1, if_pos g1, if_neg d2, if_neg d3, if_neg g2, if_neg g3, sp_E_7_cellOf_16, em, if_neg n1, ck, if_pos k2, sp_EM_boundOf_10]
              exact bv_same (u8 (k + 1) 0 (by omega) (by omega)) t p3 (nc + 1)
            · have t : RFC (r34 (25 * j + (5 * (k + 1) + (l + 1)))) (Z j (k + 1) (l + 1)) := u9 (k + 1) (l + 1) (by omega) (by omega)
              rw [show 25 * j + (5 * (k + 1) + (l + 1)) = 25 * j + 5 * (k + 1) + l + 1 by omega] at t
              simp only [sp_EM_bound, sp_E_8_bound, slet, isS, ec, if_pos x0, if_pos c0, cj, if_pos d1, if_pos g1, if_neg d2, if_neg d3, if_neg g2, if_neg g3, sp_E_7_cellOf_16, em, if_neg n1, ck, if_neg n2, cl, sp_EM_boundOf_11]
              exact bv_same (u8 (k + 1) (l + 1) (by omega) (by omega)) t p3 (nc + 1)
  · have x0 : ¬ (x29 = 1 ∧ (0 : Int32) ≤ p0 ∧ p0 < nI m42) := by
      rcases h with z | ⟨z, a1, -⟩
      · exact fun q => absurd q.1 (by omega)
      · rw [← a1]; exact fun q => c0 ⟨by omega, q.2⟩
    simp only [sp_EM_bound, sp_E_8_bound, slet, isS, if_neg x0, if_neg c0, ite_self]
theorem half32 (x : Int32) : (x >>> ((1 : Int32) &&& 31)).toInt = x.toInt / 2 := by
  show (x.toBitVec.sshiftRight' (((1 : Int32) &&& 31).toBitVec.smod 32)).toInt = x.toBitVec.toInt / 2
  rw [BitVec.toInt_sshiftRight', Int.shiftRight_eq_div_pow, show ((((1 : Int32) &&& 31).toBitVec.smod 32)).toNat = 1 by decide]
  rfl
theorem ticks64 {y : Int32} (h1 : -2000000 ≤ y.toInt) (h2 : y.toInt ≤ 2000000) : (sp_E_7_ticks y).toInt64 = ((y >>> ((1 : Int32) &&& 31)).toInt64 * (256 : Int64) - (1 : Int64)) + (y &&& (1 : Int32)).toInt64 := by
  have n : ¬ y = 2147483647 := by
    intro z
    have m : (2147483647 : Int32).toInt = 2147483647 := by decide
    rw [z, m] at h2
    omega
  have b1 : (256 : Int32).toInt = 256 := by decide
  have b2 : (1 : Int32).toInt = 1 := by decide
  have c1 : (256 : Int64).toInt = 256 := by decide
  have c2 : (1 : Int64).toInt = 1 := by decide
  have e1 := half32 y
  have hp : (y &&& (1 : Int32)).toInt = y.toInt % 2 := by
    rcases par1 y with ⟨a, a'⟩ | ⟨a, a'⟩
    · rw [a, a']; decide
    · rw [a, a']; decide
  have m1 : ((y >>> ((1 : Int32) &&& 31)) * (256 : Int32)).toInt = y.toInt / 2 * 256 := by
    rw [Int32.toInt_mul, e1, b1]
    exact Int.bmod_eq_of_le_mul_two (by omega) (by omega)
  have m2 : ((y >>> ((1 : Int32) &&& 31)) * (256 : Int32) - 1).toInt = y.toInt / 2 * 256 - 1 := by
    rw [sub32 (by rw [m1, b2]; omega) (by rw [m1, b2]; omega), m1, b2]
  have m3 : ((y >>> ((1 : Int32) &&& 31)) * (256 : Int32) - 1 + (y &&& (1 : Int32))).toInt = y.toInt / 2 * 256 - 1 + y.toInt % 2 := by
    rw [add32 (by rw [m2, hp]; omega) (by rw [m2, hp]; omega), m2, hp]
  have k1 : ((y >>> ((1 : Int32) &&& 31)).toInt64 * (256 : Int64)).toInt = y.toInt / 2 * 256 := by
    rw [Int64.toInt_mul, Int32.toInt_toInt64, e1, c1]
    exact Int.bmod_eq_of_le_mul_two (by omega) (by omega)
  have k2 : ((y >>> ((1 : Int32) &&& 31)).toInt64 * (256 : Int64) - (1 : Int64)).toInt = y.toInt / 2 * 256 - 1 := by
    rw [Int64.toInt_sub, k1, c2]
    exact Int.bmod_eq_of_le_mul_two (by omega) (by omega)
  have k3 : (((y >>> ((1 : Int32) &&& 31)).toInt64 * (256 : Int64) - (1 : Int64)) + (y &&& (1 : Int32)).toInt64).toInt = y.toInt / 2 * 256 - 1 + y.toInt % 2 := by
    rw [Int64.toInt_add, k2, Int32.toInt_toInt64, hp]
    exact Int.bmod_eq_of_le_mul_two (by omega) (by omega)
  have et : sp_E_7_ticks y = (y >>> ((1 : Int32) &&& 31)) * (256 : Int32) - 1 + (y &&& (1 : Int32)) := by
    simp only [sp_E_7_ticks, slet, if_neg n]
  apply Int64.toInt_inj.mp
  rw [Int32.toInt_toInt64, et, m3, k3]
/-- a cell holds for times: the class, the reference -/
def HCc (V : Nat → Int64) (y : Int32) (i j : Nat) : Prop := y = 2147483647 ∨ lg_cmp (V i - V j) ((sp_E_7_ticks y).toInt64) ≤ 0
def HCm (V : Nat → Int64) (y : Int32) (i j : Nat) : Prop := (1048576 : Int32) ≤ y ∨ lg_cmp (V i - V j) (((y >>> ((1 : Int32) &&& 31)).toInt64 * (256 : Int64) - (1 : Int64)) + (y &&& (1 : Int32)).toInt64) ≤ 0
theorem hc_cm {V : Nat → Int64} {x y : Int32} {i j : Nat} {a : Option Int} (h : EC x a) (g : RFC y a) (r : ∀ v, a = some v → -2000000 ≤ v ∧ v ≤ 2000000) : HCc V x i j ↔ HCm V y i j := by
  rcases ec_rfc h g with ⟨e1, e2⟩ | ⟨e1, e2, rfl⟩
  · exact ⟨fun _ => Or.inl (Int32.not_lt.mp e2), fun _ => Or.inl e1⟩
  · have hr : -2000000 ≤ x.toInt ∧ x.toInt ≤ 2000000 := by
      rcases g with ⟨g1, g2⟩ | ⟨v, g1, g2, -⟩
      · rw [g2] at e2; exact absurd e2 Int32.lt_irrefl
      · rw [g2]; exact r v g1
    unfold HCc HCm
    rw [ticks64 hr.1 hr.2]
    exact ⟨fun z => z.elim (fun z => absurd z e1) Or.inr, fun z => z.elim (fun z => absurd e2 (Int32.not_lt.mpr z)) Or.inr⟩
theorem all_1 {P : Nat → Prop} {j : Nat} (h : ∀ k, k < j → P k) (q : P j) : ∀ k, k < j + 1 → P k := fun k hk => by
  rcases Nat.lt_or_ge k j with z | z
  · exact h k z
  · have : k = j := by omega
    subst this; exact q
theorem holds_L1 {v : Nat → Int32} {n : Nat} {f : Nat → Int32} {i : Nat} : ((∀ j, j < n → HCc (fun k => (v k).toInt64) (f (i * n + j)) i j) ∧ itrv (Sum.inr default) (sp_E_7_holdsTimes_L1 v n f i) 0 = .inl (i + 1)) ∨ ((∃ j, j < n ∧ ¬ HCc (fun k => (v k).toInt64) (f (i * n + j)) i j) ∧ itrv (Sum.inr default) (sp_E_7_holdsTimes_L1 v n f i) 0 = .inr 0) := by
  refine itrv_inv (d := Sum.inr default) (f := sp_E_7_holdsTimes_L1 v n f i) (fun j => j ≤ n ∧ ∀ k, k < j → HCc (fun k => (v k).toInt64) (f (i * n + k)) i k) (fun r => ((∀ j, j < n → HCc (fun k => (v k).toInt64) (f (i * n + j)) i j) ∧ r = .inl (i + 1)) ∨ ((∃ j, j < n ∧ ¬ HCc (fun k => (v k).toInt64) (f (i * n + j)) i j) ∧ r = .inr 0)) (fun j => n - j) ?_ _ 0 (Nat.le_refl _) ⟨Nat.zero_le _, fun k hk => absurd hk (Nat.not_lt_zero k)⟩
  rintro j ⟨hj, h⟩
  by_cases ce : n ≤ j
  · exact Or.inr ⟨.inl (i + 1), by simp only [sp_E_7_holdsTimes_L1, if_pos ce], Or.inl ⟨fun k hk => h k (by omega), rfl⟩⟩
  · by_cases c1 : f (i * n + j) = 2147483647
    · exact Or.inl ⟨j + 1, by simp only [sp_E_7_holdsTimes_L1, slet, if_neg ce, if_pos c1], ⟨by omega, all_1 h (Or.inl c1)⟩, by show n - (j + 1) < n - j; omega⟩
    · by_cases c2 : lg_cmp ((v i).toInt64 - (v j).toInt64) ((sp_E_7_ticks (f (i * n + j))).toInt64) ≤ 0
      · exact Or.inl ⟨j + 1, by simp only [sp_E_7_holdsTimes_L1, slet, if_neg ce, if_neg c1, if_pos c2], ⟨by omega, all_1 h (Or.inr c2)⟩, by show n - (j + 1) < n - j; omega⟩
      · exact Or.inr ⟨.inr 0, by simp only [sp_E_7_holdsTimes_L1, slet, if_neg ce, if_neg c1, if_neg c2], Or.inr ⟨⟨j, by omega, fun q => Or.elim q c1 c2⟩, rfl⟩⟩
theorem holds_E {v : Nat → Int32} {n : Nat} {f : Nat → Int32} : ((∀ i, i < n → ∀ j, j < n → HCc (fun k => (v k).toInt64) (f (i * n + j)) i j) ∧ sp_E_7_holdsTimes v n f = 1) ∨ ((∃ i, i < n ∧ ∃ j, j < n ∧ ¬ HCc (fun k => (v k).toInt64) (f (i * n + j)) i j) ∧ sp_E_7_holdsTimes v n f = 0) := by
  have e0 : sp_E_7_holdsTimes v n f = itrv default (sp_E_7_holdsTimes_L2 v n f) 0 := rfl
  rw [e0]
  refine itrv_inv (d := default) (f := sp_E_7_holdsTimes_L2 v n f) (fun i => i ≤ n ∧ ∀ k, k < i → ∀ j, j < n → HCc (fun k => (v k).toInt64) (f (k * n + j)) k j) (fun r => ((∀ i, i < n → ∀ j, j < n → HCc (fun k => (v k).toInt64) (f (i * n + j)) i j) ∧ r = 1) ∨ ((∃ i, i < n ∧ ∃ j, j < n ∧ ¬ HCc (fun k => (v k).toInt64) (f (i * n + j)) i j) ∧ r = 0)) (fun i => n - i) ?_ _ 0 (Nat.le_refl _) ⟨Nat.zero_le _, fun k hk => absurd hk (Nat.not_lt_zero k)⟩
  rintro i ⟨hi, h⟩
  by_cases ce : n ≤ i
  · exact Or.inr ⟨1, by simp only [sp_E_7_holdsTimes_L2, if_pos ce], Or.inl ⟨fun k hk => h k (by omega), rfl⟩⟩
  · rcases holds_L1 (v := v) (n := n) (f := f) (i := i) with ⟨q, e⟩ | ⟨q, e⟩
    · exact Or.inl ⟨i + 1, by simp only [sp_E_7_holdsTimes_L2, if_neg ce, e], ⟨by omega, all_1 (P := fun i => ∀ j, j < n → HCc (fun k => (v k).toInt64) (f (i * n + j)) i j) h q⟩, by show n - (i + 1) < n - i; omega⟩
    · exact Or.inr ⟨0, by simp only [sp_E_7_holdsTimes_L2, if_neg ce, e], Or.inr ⟨⟨i, by omega, q⟩, rfl⟩⟩
theorem nneg {nc : Nat} (hc : nc ≤ 3) : ¬ (nI nc : Int32) ≤ (-1) := by
  rcases (show nc = 0 ∨ nc = 1 ∨ nc = 2 ∨ nc = 3 by omega) with rfl | rfl | rfl | rfl <;> decide
theorem hasM_L4 {b m12_0 m12_1 nc s : Nat} {f34 : Nat → Int32} {p1 p2 p3 : Int32} {V : Nat → Int64} (ec : sp_EM_clocks b m12_0 m12_1 = nc) (hc : nc ≤ 3) (hV : ∀ k, k < 3 → (if k = 0 then p1.toInt64 else if k = 1 then p2.toInt64 else p3.toInt64) = V (k + 1)) (hV0 : V 0 = 0) {i : Nat} (hi : i < nc) (x1 : Int32) (x2 x3 : Int64) : ((∀ j, j < nc → HCm V (sp_EM_boundOf_11 f34 s i j) (i + 1) (j + 1)) ∧ ∃ a c d e, itrv (Sum.inr default) (sp_EM_hasTimes_L4 b m12_0 m12_1 f34 s p1 p2 p3 i) (x1, 0, x2, x3) = .inl (a, i + 1, c, d, e)) ∨ ((∃ j, j < nc ∧ ¬ HCm V (sp_EM_boundOf_11 f34 s i j) (i + 1) (j + 1)) ∧ itrv (Sum.inr default) (sp_EM_hasTimes_L4 b m12_0 m12_1 f34 s p1 p2 p3 i) (x1, 0, x2, x3) = .inr 0) := by
  refine itrv_inv (d := Sum.inr default) (f := sp_EM_hasTimes_L4 b m12_0 m12_1 f34 s p1 p2 p3 i) (fun t => t.2.1 ≤ nc ∧ ∀ k, k < t.2.1 → HCm V (sp_EM_boundOf_11 f34 s i k) (i + 1) (k + 1)) (fun r => ((∀ j, j < nc → HCm V (sp_EM_boundOf_11 f34 s i j) (i + 1) (j + 1)) ∧ ∃ a c d e, r = .inl (a, i + 1, c, d, e)) ∨ ((∃ j, j < nc ∧ ¬ HCm V (sp_EM_boundOf_11 f34 s i j) (i + 1) (j + 1)) ∧ r = .inr 0)) (fun t => nc - t.2.1) ?_ _ (x1, 0, x2, x3) (Nat.le_refl _) ⟨Nat.zero_le _, fun k hk => absurd hk (Nat.not_lt_zero k)⟩
  rintro ⟨g1, j, g3, g4⟩ ⟨hj, h⟩
  have hj : j ≤ nc := hj
  have h : ∀ k, k < j → HCm V (sp_EM_boundOf_11 f34 s i k) (i + 1) (k + 1) := h
  by_cases ce : nc ≤ j
  · exact Or.inr ⟨.inl (g1, i + 1, nI j, g3, g4), by simp only [sp_EM_hasTimes_L4, slet, ec, if_pos ce], Or.inl ⟨fun k hk => h k (by omega), _, _, _, _, rfl⟩⟩
  · have v1 := hV i (by omega)
    have v2 := hV j (by omega)
    have ms : nc - (j + 1) < nc - j := by omega
    by_cases c1 : (1048576 : Int32) ≤ sp_EM_boundOf_11 f34 s i j
    · exact Or.inl ⟨(sp_EM_boundOf_11 f34 s i j, j + 1, V (i + 1), V (j + 1)), by simp only [sp_EM_hasTimes_L4, slet, ec, if_neg ce, v1, v2, if_pos c1], ⟨show j + 1 ≤ nc by omega, all_1 (P := fun k => HCm V (sp_EM_boundOf_11 f34 s i k) (i + 1) (k + 1)) h (Or.inl c1)⟩, ms⟩
    · by_cases c2 : lg_cmp (V (i + 1) - V (j + 1)) ((((sp_EM_boundOf_11 f34 s i j) >>> ((1 : Int32) &&& 31)).toInt64 * (256 : Int64) - (1 : Int64)) + ((sp_EM_boundOf_11 f34 s i j) &&& (1 : Int32)).toInt64) ≤ 0
      · exact Or.inl ⟨(sp_EM_boundOf_11 f34 s i j, j + 1, V (i + 1), V (j + 1)), by simp only [sp_EM_hasTimes_L4, slet, ec, if_neg ce, v1, v2, if_neg c1, if_pos c2], ⟨show j + 1 ≤ nc by omega, all_1 (P := fun k => HCm V (sp_EM_boundOf_11 f34 s i k) (i + 1) (k + 1)) h (Or.inr c2)⟩, ms⟩
      · exact Or.inr ⟨.inr 0, by simp only [sp_EM_hasTimes_L4, slet, ec, if_neg ce, v1, v2, if_neg c1, if_neg c2], Or.inr ⟨⟨j, by omega, fun q => Or.elim q c1 c2⟩, rfl⟩⟩
theorem hasM_L5 {b m12_0 m12_1 nc s : Nat} {f34 : Nat → Int32} {p1 p2 p3 : Int32} {V : Nat → Int64} (ec : sp_EM_clocks b m12_0 m12_1 = nc) (hc : nc ≤ 3) (hV : ∀ k, k < 3 → (if k = 0 then p1.toInt64 else if k = 1 then p2.toInt64 else p3.toInt64) = V (k + 1)) (hV0 : V 0 = 0) {i : Nat} (hi : i < nc) (x1 : Int32) (x2 x3 : Int64) : ((∀ j, j < nc → HCm V (sp_EM_boundOf_11 f34 s i j) (i + 1) (j + 1)) ∧ ∃ a c d e, itrv (Sum.inr default) (sp_EM_hasTimes_L5 b m12_0 m12_1 f34 s p1 p2 p3 i) (x1, 0, x2, x3) = .inl (a, i + 1, c, d, e)) ∨ ((∃ j, j < nc ∧ ¬ HCm V (sp_EM_boundOf_11 f34 s i j) (i + 1) (j + 1)) ∧ itrv (Sum.inr default) (sp_EM_hasTimes_L5 b m12_0 m12_1 f34 s p1 p2 p3 i) (x1, 0, x2, x3) = .inr 0) := by
  refine itrv_inv (d := Sum.inr default) (f := sp_EM_hasTimes_L5 b m12_0 m12_1 f34 s p1 p2 p3 i) (fun t => t.2.1 ≤ nc ∧ ∀ k, k < t.2.1 → HCm V (sp_EM_boundOf_11 f34 s i k) (i + 1) (k + 1)) (fun r => ((∀ j, j < nc → HCm V (sp_EM_boundOf_11 f34 s i j) (i + 1) (j + 1)) ∧ ∃ a c d e, r = .inl (a, i + 1, c, d, e)) ∨ ((∃ j, j < nc ∧ ¬ HCm V (sp_EM_boundOf_11 f34 s i j) (i + 1) (j + 1)) ∧ r = .inr 0)) (fun t => nc - t.2.1) ?_ _ (x1, 0, x2, x3) (Nat.le_refl _) ⟨Nat.zero_le _, fun k hk => absurd hk (Nat.not_lt_zero k)⟩
  rintro ⟨g1, j, g3, g4⟩ ⟨hj, h⟩
  have hj : j ≤ nc := hj
  have h : ∀ k, k < j → HCm V (sp_EM_boundOf_11 f34 s i k) (i + 1) (k + 1) := h
  by_cases ce : nc ≤ j
  · exact Or.inr ⟨.inl (g1, i + 1, nI j, g3, g4), by simp only [sp_EM_hasTimes_L5, slet, ec, if_pos ce], Or.inl ⟨fun k hk => h k (by omega), _, _, _, _, rfl⟩⟩
  · have v1 := hV i (by omega)
    have v2 := hV j (by omega)
    have ms : nc - (j + 1) < nc - j := by omega
    by_cases c1 : (1048576 : Int32) ≤ sp_EM_boundOf_11 f34 s i j
    · exact Or.inl ⟨(sp_EM_boundOf_11 f34 s i j, j + 1, V (i + 1), V (j + 1)), by simp only [sp_EM_hasTimes_L5, slet, ec, if_neg ce, v1, v2, if_pos c1], ⟨show j + 1 ≤ nc by omega, all_1 (P := fun k => HCm V (sp_EM_boundOf_11 f34 s i k) (i + 1) (k + 1)) h (Or.inl c1)⟩, ms⟩
    · by_cases c2 : lg_cmp (V (i + 1) - V (j + 1)) ((((sp_EM_boundOf_11 f34 s i j) >>> ((1 : Int32) &&& 31)).toInt64 * (256 : Int64) - (1 : Int64)) + ((sp_EM_boundOf_11 f34 s i j) &&& (1 : Int32)).toInt64) ≤ 0
      · exact Or.inl ⟨(sp_EM_boundOf_11 f34 s i j, j + 1, V (i + 1), V (j + 1)), by simp only [sp_EM_hasTimes_L5, slet, ec, if_neg ce, v1, v2, if_neg c1, if_pos c2], ⟨show j + 1 ≤ nc by omega, all_1 (P := fun k => HCm V (sp_EM_boundOf_11 f34 s i k) (i + 1) (k + 1)) h (Or.inr c2)⟩, ms⟩
      · exact Or.inr ⟨.inr 0, by simp only [sp_EM_hasTimes_L5, slet, ec, if_neg ce, v1, v2, if_neg c1, if_neg c2], Or.inr ⟨⟨j, by omega, fun q => Or.elim q c1 c2⟩, rfl⟩⟩
theorem hasM_L8 {b m12_0 m12_1 nc s : Nat} {f34 : Nat → Int32} {p1 p2 p3 : Int32} {V : Nat → Int64} (ec : sp_EM_clocks b m12_0 m12_1 = nc) (hc : nc ≤ 3) (hV : ∀ k, k < 3 → (if k = 0 then p1.toInt64 else if k = 1 then p2.toInt64 else p3.toInt64) = V (k + 1)) (hV0 : V 0 = 0) {i : Nat} (hi : i < nc) (x1 : Int32) (x2 x3 : Int64) : ((∀ j, j < nc → HCm V (sp_EM_boundOf_11 f34 s i j) (i + 1) (j + 1)) ∧ ∃ a c d e, itrv (Sum.inr default) (sp_EM_hasTimes_L8 b m12_0 m12_1 f34 s p1 p2 p3 i) (x1, 0, x2, x3) = .inl (a, i + 1, c, d, e)) ∨ ((∃ j, j < nc ∧ ¬ HCm V (sp_EM_boundOf_11 f34 s i j) (i + 1) (j + 1)) ∧ itrv (Sum.inr default) (sp_EM_hasTimes_L8 b m12_0 m12_1 f34 s p1 p2 p3 i) (x1, 0, x2, x3) = .inr 0) := by
  refine itrv_inv (d := Sum.inr default) (f := sp_EM_hasTimes_L8 b m12_0 m12_1 f34 s p1 p2 p3 i) (fun t => t.2.1 ≤ nc ∧ ∀ k, k < t.2.1 → HCm V (sp_EM_boundOf_11 f34 s i k) (i + 1) (k + 1)) (fun r => ((∀ j, j < nc → HCm V (sp_EM_boundOf_11 f34 s i j) (i + 1) (j + 1)) ∧ ∃ a c d e, r = .inl (a, i + 1, c, d, e)) ∨ ((∃ j, j < nc ∧ ¬ HCm V (sp_EM_boundOf_11 f34 s i j) (i + 1) (j + 1)) ∧ r = .inr 0)) (fun t => nc - t.2.1) ?_ _ (x1, 0, x2, x3) (Nat.le_refl _) ⟨Nat.zero_le _, fun k hk => absurd hk (Nat.not_lt_zero k)⟩
  rintro ⟨g1, j, g3, g4⟩ ⟨hj, h⟩
  have hj : j ≤ nc := hj
  have h : ∀ k, k < j → HCm V (sp_EM_boundOf_11 f34 s i k) (i + 1) (k + 1) := h
  by_cases ce : nc ≤ j
  · exact Or.inr ⟨.inl (g1, i + 1, nI j, g3, g4), by simp only [sp_EM_hasTimes_L8, slet, ec, if_pos ce], Or.inl ⟨fun k hk => h k (by omega), _, _, _, _, rfl⟩⟩
  · have v1 := hV i (by omega)
    have v2 := hV j (by omega)
    have ms : nc - (j + 1) < nc - j := by omega
    by_cases c1 : (1048576 : Int32) ≤ sp_EM_boundOf_11 f34 s i j
    · exact Or.inl ⟨(sp_EM_boundOf_11 f34 s i j, j + 1, V (i + 1), V (j + 1)), by simp only [sp_EM_hasTimes_L8, slet, ec, if_neg ce, v1, v2, if_pos c1], ⟨show j + 1 ≤ nc by omega, all_1 (P := fun k => HCm V (sp_EM_boundOf_11 f34 s i k) (i + 1) (k + 1)) h (Or.inl c1)⟩, ms⟩
    · by_cases c2 : lg_cmp (V (i + 1) - V (j + 1)) ((((sp_EM_boundOf_11 f34 s i j) >>> ((1 : Int32) &&& 31)).toInt64 * (256 : Int64) - (1 : Int64)) + ((sp_EM_boundOf_11 f34 s i j) &&& (1 : Int32)).toInt64) ≤ 0
      · exact Or.inl ⟨(sp_EM_boundOf_11 f34 s i j, j + 1, V (i + 1), V (j + 1)), by simp only [sp_EM_hasTimes_L8, slet, ec, if_neg ce, v1, v2, if_neg c1, if_pos c2], ⟨show j + 1 ≤ nc by omega, all_1 (P := fun k => HCm V (sp_EM_boundOf_11 f34 s i k) (i + 1) (k + 1)) h (Or.inr c2)⟩, ms⟩
      · exact Or.inr ⟨.inr 0, by simp only [sp_EM_hasTimes_L8, slet, ec, if_neg ce, v1, v2, if_neg c1, if_neg c2], Or.inr ⟨⟨j, by omega, fun q => Or.elim q c1 c2⟩, rfl⟩⟩
theorem hasM_L9 {b m12_0 m12_1 nc s : Nat} {f34 : Nat → Int32} {p1 p2 p3 : Int32} {V : Nat → Int64} (ec : sp_EM_clocks b m12_0 m12_1 = nc) (hc : nc ≤ 3) (hV : ∀ k, k < 3 → (if k = 0 then p1.toInt64 else if k = 1 then p2.toInt64 else p3.toInt64) = V (k + 1)) (hV0 : V 0 = 0) {i : Nat} (hi : i < nc) (x1 : Int32) (x2 x3 : Int64) : ((∀ j, j < nc → HCm V (sp_EM_boundOf_11 f34 s i j) (i + 1) (j + 1)) ∧ ∃ a c d e, itrv (Sum.inr default) (sp_EM_hasTimes_L9 b m12_0 m12_1 f34 s p1 p2 p3 i) (x1, 0, x2, x3) = .inl (a, i + 1, c, d, e)) ∨ ((∃ j, j < nc ∧ ¬ HCm V (sp_EM_boundOf_11 f34 s i j) (i + 1) (j + 1)) ∧ itrv (Sum.inr default) (sp_EM_hasTimes_L9 b m12_0 m12_1 f34 s p1 p2 p3 i) (x1, 0, x2, x3) = .inr 0) := by
  refine itrv_inv (d := Sum.inr default) (f := sp_EM_hasTimes_L9 b m12_0 m12_1 f34 s p1 p2 p3 i) (fun t => t.2.1 ≤ nc ∧ ∀ k, k < t.2.1 → HCm V (sp_EM_boundOf_11 f34 s i k) (i + 1) (k + 1)) (fun r => ((∀ j, j < nc → HCm V (sp_EM_boundOf_11 f34 s i j) (i + 1) (j + 1)) ∧ ∃ a c d e, r = .inl (a, i + 1, c, d, e)) ∨ ((∃ j, j < nc ∧ ¬ HCm V (sp_EM_boundOf_11 f34 s i j) (i + 1) (j + 1)) ∧ r = .inr 0)) (fun t => nc - t.2.1) ?_ _ (x1, 0, x2, x3) (Nat.le_refl _) ⟨Nat.zero_le _, fun k hk => absurd hk (Nat.not_lt_zero k)⟩
  rintro ⟨g1, j, g3, g4⟩ ⟨hj, h⟩
  have hj : j ≤ nc := hj
  have h : ∀ k, k < j → HCm V (sp_EM_boundOf_11 f34 s i k) (i + 1) (k + 1) := h
  by_cases ce : nc ≤ j
  · exact Or.inr ⟨.inl (g1, i + 1, nI j, g3, g4), by simp only [sp_EM_hasTimes_L9, slet, ec, if_pos ce], Or.inl ⟨fun k hk => h k (by omega), _, _, _, _, rfl⟩⟩
  · have v1 := hV i (by omega)
    have v2 := hV j (by omega)
    have ms : nc - (j + 1) < nc - j := by omega
    by_cases c1 : (1048576 : Int32) ≤ sp_EM_boundOf_11 f34 s i j
    · exact Or.inl ⟨(sp_EM_boundOf_11 f34 s i j, j + 1, V (i + 1), V (j + 1)), by simp only [sp_EM_hasTimes_L9, slet, ec, if_neg ce, v1, v2, if_pos c1], ⟨show j + 1 ≤ nc by omega, all_1 (P := fun k => HCm V (sp_EM_boundOf_11 f34 s i k) (i + 1) (k + 1)) h (Or.inl c1)⟩, ms⟩
    · by_cases c2 : lg_cmp (V (i + 1) - V (j + 1)) ((((sp_EM_boundOf_11 f34 s i j) >>> ((1 : Int32) &&& 31)).toInt64 * (256 : Int64) - (1 : Int64)) + ((sp_EM_boundOf_11 f34 s i j) &&& (1 : Int32)).toInt64) ≤ 0
      · exact Or.inl ⟨(sp_EM_boundOf_11 f34 s i j, j + 1, V (i + 1), V (j + 1)), by simp only [sp_EM_hasTimes_L9, slet, ec, if_neg ce, v1, v2, if_neg c1, if_pos c2], ⟨show j + 1 ≤ nc by omega, all_1 (P := fun k => HCm V (sp_EM_boundOf_11 f34 s i k) (i + 1) (k + 1)) h (Or.inr c2)⟩, ms⟩
      · exact Or.inr ⟨.inr 0, by simp only [sp_EM_hasTimes_L9, slet, ec, if_neg ce, v1, v2, if_neg c1, if_neg c2], Or.inr ⟨⟨j, by omega, fun q => Or.elim q c1 c2⟩, rfl⟩⟩
theorem hasM_L6 {b m12_0 m12_1 nc s : Nat} {f34 : Nat → Int32} {p1 p2 p3 : Int32} {V : Nat → Int64} (ec : sp_EM_clocks b m12_0 m12_1 = nc) (hc : nc ≤ 3) (hV : ∀ k, k < 3 → (if k = 0 then p1.toInt64 else if k = 1 then p2.toInt64 else p3.toInt64) = V (k + 1)) (hV0 : V 0 = 0) (x1 x2 : Int32) (x3 x4 : Int64) : ((∀ i, i < nc → (HCm V (sp_EM_boundOf_10 f34 s i) (i + 1) 0 ∧ ∀ j, j < nc → HCm V (sp_EM_boundOf_11 f34 s i j) (i + 1) (j + 1))) ∧ itrv default (sp_EM_hasTimes_L6 b m12_0 m12_1 f34 s p1 p2 p3) (x1, 0, x2, x3, x4) = 1) ∨ ((∃ i, i < nc ∧ ¬ (HCm V (sp_EM_boundOf_10 f34 s i) (i + 1) 0 ∧ ∀ j, j < nc → HCm V (sp_EM_boundOf_11 f34 s i j) (i + 1) (j + 1))) ∧ itrv default (sp_EM_hasTimes_L6 b m12_0 m12_1 f34 s p1 p2 p3) (x1, 0, x2, x3, x4) = 0) := by
  refine itrv_inv (d := default) (f := sp_EM_hasTimes_L6 b m12_0 m12_1 f34 s p1 p2 p3) (fun t => t.2.1 ≤ nc ∧ ∀ k, k < t.2.1 → (HCm V (sp_EM_boundOf_10 f34 s k) (k + 1) 0 ∧ ∀ j, j < nc → HCm V (sp_EM_boundOf_11 f34 s k j) (k + 1) (j + 1))) (fun r => ((∀ i, i < nc → (HCm V (sp_EM_boundOf_10 f34 s i) (i + 1) 0 ∧ ∀ j, j < nc → HCm V (sp_EM_boundOf_11 f34 s i j) (i + 1) (j + 1))) ∧ r = 1) ∨ ((∃ i, i < nc ∧ ¬ (HCm V (sp_EM_boundOf_10 f34 s i) (i + 1) 0 ∧ ∀ j, j < nc → HCm V (sp_EM_boundOf_11 f34 s i j) (i + 1) (j + 1))) ∧ r = 0)) (fun t => nc - t.2.1) ?_ _ (x1, 0, x2, x3, x4) (Nat.le_refl _) ⟨Nat.zero_le _, fun k hk => absurd hk (Nat.not_lt_zero k)⟩
  rintro ⟨g0, i, g2, g3, g4⟩ ⟨hi, h⟩
  have hi : i ≤ nc := hi
  have h : ∀ k, k < i → (HCm V (sp_EM_boundOf_10 f34 s k) (k + 1) 0 ∧ ∀ j, j < nc → HCm V (sp_EM_boundOf_11 f34 s k j) (k + 1) (j + 1)) := h
  by_cases ce : nc ≤ i
  · exact Or.inr ⟨1, by simp only [sp_EM_hasTimes_L6, slet, ec, if_pos ce], Or.inl ⟨fun k hk => h k (by omega), rfl⟩⟩
  · have v1 := hV i (by omega)
    have nn := nneg hc
    have ms : nc - (i + 1) < nc - i := by omega
    have hi1 : i < nc := by omega
    by_cases c1 : (1048576 : Int32) ≤ sp_EM_boundOf_10 f34 s i
    · rcases hasM_L4 (s := s) (f34 := f34) ec hc hV hV0 hi1 (sp_EM_boundOf_10 f34 s i) (V (i + 1)) 0 with ⟨q, a, c, d, e, ew⟩ | ⟨⟨j, hj, q⟩, ew⟩
      · exact Or.inl ⟨(a, i + 1, c, d, e), by simp only [sp_EM_hasTimes_L6, slet, ec, if_neg ce, if_neg nn, v1, if_pos c1, ew], ⟨show i + 1 ≤ nc by omega, all_1 (P := fun k => (HCm V (sp_EM_boundOf_10 f34 s k) (k + 1) 0 ∧ ∀ j, j < nc → HCm V (sp_EM_boundOf_11 f34 s k j) (k + 1) (j + 1))) h ⟨Or.inl c1, q⟩⟩, ms⟩
      · exact Or.inr ⟨0, by simp only [sp_EM_hasTimes_L6, slet, ec, if_neg ce, if_neg nn, v1, if_pos c1, ew], Or.inr ⟨⟨i, hi1, fun z => q (z.2 j hj)⟩, rfl⟩⟩
    · by_cases c2 : lg_cmp (V (i + 1) - (0 : Int64)) ((((sp_EM_boundOf_10 f34 s i) >>> ((1 : Int32) &&& 31)).toInt64 * (256 : Int64) - (1 : Int64)) + ((sp_EM_boundOf_10 f34 s i) &&& (1 : Int32)).toInt64) ≤ 0
      · rcases hasM_L5 (s := s) (f34 := f34) ec hc hV hV0 hi1 (sp_EM_boundOf_10 f34 s i) (V (i + 1)) 0 with ⟨q, a, c, d, e, ew⟩ | ⟨⟨j, hj, q⟩, ew⟩
        · exact Or.inl ⟨(a, i + 1, c, d, e), by simp only [sp_EM_hasTimes_L6, slet, ec, if_neg ce, if_neg nn, v1, if_neg c1, if_pos c2, ew], ⟨show i + 1 ≤ nc by omega, all_1 (P := fun k => (HCm V (sp_EM_boundOf_10 f34 s k) (k + 1) 0 ∧ ∀ j, j < nc → HCm V (sp_EM_boundOf_11 f34 s k j) (k + 1) (j + 1))) h ⟨Or.inr (by rw [hV0]; exact c2), q⟩⟩, ms⟩
        · exact Or.inr ⟨0, by simp only [sp_EM_hasTimes_L6, slet, ec, if_neg ce, if_neg nn, v1, if_neg c1, if_pos c2, ew], Or.inr ⟨⟨i, hi1, fun z => q (z.2 j hj)⟩, rfl⟩⟩
      · exact Or.inr ⟨0, by simp only [sp_EM_hasTimes_L6, slet, ec, if_neg ce, if_neg nn, v1, if_neg c1, if_neg c2], Or.inr ⟨⟨i, hi1, fun z => Or.elim z.1 c1 (fun y => c2 (by rw [hV0] at y; exact y))⟩, rfl⟩⟩
theorem hasM_L10 {b m12_0 m12_1 nc s : Nat} {f34 : Nat → Int32} {p1 p2 p3 : Int32} {V : Nat → Int64} (ec : sp_EM_clocks b m12_0 m12_1 = nc) (hc : nc ≤ 3) (hV : ∀ k, k < 3 → (if k = 0 then p1.toInt64 else if k = 1 then p2.toInt64 else p3.toInt64) = V (k + 1)) (hV0 : V 0 = 0) (x1 x2 : Int32) (x3 x4 : Int64) : ((∀ i, i < nc → (HCm V (sp_EM_boundOf_10 f34 s i) (i + 1) 0 ∧ ∀ j, j < nc → HCm V (sp_EM_boundOf_11 f34 s i j) (i + 1) (j + 1))) ∧ itrv default (sp_EM_hasTimes_L10 b m12_0 m12_1 f34 s p1 p2 p3) (x1, 0, x2, x3, x4) = 1) ∨ ((∃ i, i < nc ∧ ¬ (HCm V (sp_EM_boundOf_10 f34 s i) (i + 1) 0 ∧ ∀ j, j < nc → HCm V (sp_EM_boundOf_11 f34 s i j) (i + 1) (j + 1))) ∧ itrv default (sp_EM_hasTimes_L10 b m12_0 m12_1 f34 s p1 p2 p3) (x1, 0, x2, x3, x4) = 0) := by
  refine itrv_inv (d := default) (f := sp_EM_hasTimes_L10 b m12_0 m12_1 f34 s p1 p2 p3) (fun t => t.2.1 ≤ nc ∧ ∀ k, k < t.2.1 → (HCm V (sp_EM_boundOf_10 f34 s k) (k + 1) 0 ∧ ∀ j, j < nc → HCm V (sp_EM_boundOf_11 f34 s k j) (k + 1) (j + 1))) (fun r => ((∀ i, i < nc → (HCm V (sp_EM_boundOf_10 f34 s i) (i + 1) 0 ∧ ∀ j, j < nc → HCm V (sp_EM_boundOf_11 f34 s i j) (i + 1) (j + 1))) ∧ r = 1) ∨ ((∃ i, i < nc ∧ ¬ (HCm V (sp_EM_boundOf_10 f34 s i) (i + 1) 0 ∧ ∀ j, j < nc → HCm V (sp_EM_boundOf_11 f34 s i j) (i + 1) (j + 1))) ∧ r = 0)) (fun t => nc - t.2.1) ?_ _ (x1, 0, x2, x3, x4) (Nat.le_refl _) ⟨Nat.zero_le _, fun k hk => absurd hk (Nat.not_lt_zero k)⟩
  rintro ⟨g0, i, g2, g3, g4⟩ ⟨hi, h⟩
  have hi : i ≤ nc := hi
  have h : ∀ k, k < i → (HCm V (sp_EM_boundOf_10 f34 s k) (k + 1) 0 ∧ ∀ j, j < nc → HCm V (sp_EM_boundOf_11 f34 s k j) (k + 1) (j + 1)) := h
  by_cases ce : nc ≤ i
  · exact Or.inr ⟨1, by simp only [sp_EM_hasTimes_L10, slet, ec, if_pos ce], Or.inl ⟨fun k hk => h k (by omega), rfl⟩⟩
  · have v1 := hV i (by omega)
    have nn := nneg hc
    have ms : nc - (i + 1) < nc - i := by omega
    have hi1 : i < nc := by omega
    by_cases c1 : (1048576 : Int32) ≤ sp_EM_boundOf_10 f34 s i
    · rcases hasM_L8 (s := s) (f34 := f34) ec hc hV hV0 hi1 (sp_EM_boundOf_10 f34 s i) (V (i + 1)) 0 with ⟨q, a, c, d, e, ew⟩ | ⟨⟨j, hj, q⟩, ew⟩
      · exact Or.inl ⟨(a, i + 1, c, d, e), by simp only [sp_EM_hasTimes_L10, slet, ec, if_neg ce, if_neg nn, v1, if_pos c1, ew], ⟨show i + 1 ≤ nc by omega, all_1 (P := fun k => (HCm V (sp_EM_boundOf_10 f34 s k) (k + 1) 0 ∧ ∀ j, j < nc → HCm V (sp_EM_boundOf_11 f34 s k j) (k + 1) (j + 1))) h ⟨Or.inl c1, q⟩⟩, ms⟩
      · exact Or.inr ⟨0, by simp only [sp_EM_hasTimes_L10, slet, ec, if_neg ce, if_neg nn, v1, if_pos c1, ew], Or.inr ⟨⟨i, hi1, fun z => q (z.2 j hj)⟩, rfl⟩⟩
    · by_cases c2 : lg_cmp (V (i + 1) - (0 : Int64)) ((((sp_EM_boundOf_10 f34 s i) >>> ((1 : Int32) &&& 31)).toInt64 * (256 : Int64) - (1 : Int64)) + ((sp_EM_boundOf_10 f34 s i) &&& (1 : Int32)).toInt64) ≤ 0
      · rcases hasM_L9 (s := s) (f34 := f34) ec hc hV hV0 hi1 (sp_EM_boundOf_10 f34 s i) (V (i + 1)) 0 with ⟨q, a, c, d, e, ew⟩ | ⟨⟨j, hj, q⟩, ew⟩
        · exact Or.inl ⟨(a, i + 1, c, d, e), by simp only [sp_EM_hasTimes_L10, slet, ec, if_neg ce, if_neg nn, v1, if_neg c1, if_pos c2, ew], ⟨show i + 1 ≤ nc by omega, all_1 (P := fun k => (HCm V (sp_EM_boundOf_10 f34 s k) (k + 1) 0 ∧ ∀ j, j < nc → HCm V (sp_EM_boundOf_11 f34 s k j) (k + 1) (j + 1))) h ⟨Or.inr (by rw [hV0]; exact c2), q⟩⟩, ms⟩
        · exact Or.inr ⟨0, by simp only [sp_EM_hasTimes_L10, slet, ec, if_neg ce, if_neg nn, v1, if_neg c1, if_pos c2, ew], Or.inr ⟨⟨i, hi1, fun z => q (z.2 j hj)⟩, rfl⟩⟩
      · exact Or.inr ⟨0, by simp only [sp_EM_hasTimes_L10, slet, ec, if_neg ce, if_neg nn, v1, if_neg c1, if_neg c2], Or.inr ⟨⟨i, hi1, fun z => Or.elim z.1 c1 (fun y => c2 (by rw [hV0] at y; exact y))⟩, rfl⟩⟩
theorem hasM_L7 {b m12_0 m12_1 nc s : Nat} {f34 : Nat → Int32} {p1 p2 p3 : Int32} {V : Nat → Int64} (ec : sp_EM_clocks b m12_0 m12_1 = nc) (hc : nc ≤ 3) (hV : ∀ k, k < 3 → (if k = 0 then p1.toInt64 else if k = 1 then p2.toInt64 else p3.toInt64) = V (k + 1)) (hV0 : V 0 = 0) (x1 : Int32) (x3 x4 : Int64) : (((∀ j, j < nc → HCm V (sp_EM_boundOf_01 f34 s j) 0 (j + 1)) ∧ ∀ i, i < nc → (HCm V (sp_EM_boundOf_10 f34 s i) (i + 1) 0 ∧ ∀ j, j < nc → HCm V (sp_EM_boundOf_11 f34 s i j) (i + 1) (j + 1))) ∧ itrv default (sp_EM_hasTimes_L7 b m12_0 m12_1 f34 s p1 p2 p3) (x1, 0, x3, x4) = 1) ∨ (¬ ((∀ j, j < nc → HCm V (sp_EM_boundOf_01 f34 s j) 0 (j + 1)) ∧ ∀ i, i < nc → (HCm V (sp_EM_boundOf_10 f34 s i) (i + 1) 0 ∧ ∀ j, j < nc → HCm V (sp_EM_boundOf_11 f34 s i j) (i + 1) (j + 1))) ∧ itrv default (sp_EM_hasTimes_L7 b m12_0 m12_1 f34 s p1 p2 p3) (x1, 0, x3, x4) = 0) := by
  refine itrv_inv (d := default) (f := sp_EM_hasTimes_L7 b m12_0 m12_1 f34 s p1 p2 p3) (fun t => t.2.1 ≤ nc ∧ ∀ k, k < t.2.1 → HCm V (sp_EM_boundOf_01 f34 s k) 0 (k + 1)) (fun r => (((∀ j, j < nc → HCm V (sp_EM_boundOf_01 f34 s j) 0 (j + 1)) ∧ ∀ i, i < nc → (HCm V (sp_EM_boundOf_10 f34 s i) (i + 1) 0 ∧ ∀ j, j < nc → HCm V (sp_EM_boundOf_11 f34 s i j) (i + 1) (j + 1))) ∧ r = 1) ∨ (¬ ((∀ j, j < nc → HCm V (sp_EM_boundOf_01 f34 s j) 0 (j + 1)) ∧ ∀ i, i < nc → (HCm V (sp_EM_boundOf_10 f34 s i) (i + 1) 0 ∧ ∀ j, j < nc → HCm V (sp_EM_boundOf_11 f34 s i j) (i + 1) (j + 1))) ∧ r = 0)) (fun t => nc - t.2.1) ?_ _ (x1, 0, x3, x4) (Nat.le_refl _) ⟨Nat.zero_le _, fun k hk => absurd hk (Nat.not_lt_zero k)⟩
  rintro ⟨g0, j, g3, g4⟩ ⟨hj, h⟩
  have hj : j ≤ nc := hj
  have h : ∀ k, k < j → HCm V (sp_EM_boundOf_01 f34 s k) 0 (k + 1) := h
  by_cases ce : nc ≤ j
  · rcases hasM_L6 (s := s) (f34 := f34) ec hc hV hV0 g0 (nI j) g3 g4 with ⟨q, ew⟩ | ⟨⟨i, hi, q⟩, ew⟩
    · exact Or.inr ⟨1, by simp only [sp_EM_hasTimes_L7, slet, ec, if_pos ce, ew], Or.inl ⟨⟨fun k hk => h k (by omega), q⟩, rfl⟩⟩
    · exact Or.inr ⟨0, by simp only [sp_EM_hasTimes_L7, slet, ec, if_pos ce, ew], Or.inr ⟨fun z => q (z.2 i hi), rfl⟩⟩
  · have v2 := hV j (by omega)
    have ms : nc - (j + 1) < nc - j := by omega
    by_cases c1 : (1048576 : Int32) ≤ sp_EM_boundOf_01 f34 s j
    · exact Or.inl ⟨(sp_EM_boundOf_01 f34 s j, j + 1, 0, V (j + 1)), by simp only [sp_EM_hasTimes_L7, slet, ec, if_neg ce, v2, if_pos c1], ⟨show j + 1 ≤ nc by omega, all_1 (P := fun k => HCm V (sp_EM_boundOf_01 f34 s k) 0 (k + 1)) h (Or.inl c1)⟩, ms⟩
    · by_cases c2 : lg_cmp ((0 : Int64) - V (j + 1)) ((((sp_EM_boundOf_01 f34 s j) >>> ((1 : Int32) &&& 31)).toInt64 * (256 : Int64) - (1 : Int64)) + ((sp_EM_boundOf_01 f34 s j) &&& (1 : Int32)).toInt64) ≤ 0
      · exact Or.inl ⟨(sp_EM_boundOf_01 f34 s j, j + 1, 0, V (j + 1)), by simp only [sp_EM_hasTimes_L7, slet, ec, if_neg ce, v2, if_neg c1, if_pos c2], ⟨show j + 1 ≤ nc by omega, all_1 (P := fun k => HCm V (sp_EM_boundOf_01 f34 s k) 0 (k + 1)) h (Or.inr (by rw [hV0]; exact c2))⟩, ms⟩
      · exact Or.inr ⟨0, by simp only [sp_EM_hasTimes_L7, slet, ec, if_neg ce, v2, if_neg c1, if_neg c2], Or.inr ⟨fun z => Or.elim (z.1 j (by omega)) c1 (fun y => c2 (by rw [hV0] at y; exact y)), rfl⟩⟩
theorem hasM_L11 {b m12_0 m12_1 nc s : Nat} {f34 : Nat → Int32} {p1 p2 p3 : Int32} {V : Nat → Int64} (ec : sp_EM_clocks b m12_0 m12_1 = nc) (hc : nc ≤ 3) (hV : ∀ k, k < 3 → (if k = 0 then p1.toInt64 else if k = 1 then p2.toInt64 else p3.toInt64) = V (k + 1)) (hV0 : V 0 = 0) (x1 : Int32) (x3 x4 : Int64) : (((∀ j, j < nc → HCm V (sp_EM_boundOf_01 f34 s j) 0 (j + 1)) ∧ ∀ i, i < nc → (HCm V (sp_EM_boundOf_10 f34 s i) (i + 1) 0 ∧ ∀ j, j < nc → HCm V (sp_EM_boundOf_11 f34 s i j) (i + 1) (j + 1))) ∧ itrv default (sp_EM_hasTimes_L11 b m12_0 m12_1 f34 s p1 p2 p3) (x1, 0, x3, x4) = 1) ∨ (¬ ((∀ j, j < nc → HCm V (sp_EM_boundOf_01 f34 s j) 0 (j + 1)) ∧ ∀ i, i < nc → (HCm V (sp_EM_boundOf_10 f34 s i) (i + 1) 0 ∧ ∀ j, j < nc → HCm V (sp_EM_boundOf_11 f34 s i j) (i + 1) (j + 1))) ∧ itrv default (sp_EM_hasTimes_L11 b m12_0 m12_1 f34 s p1 p2 p3) (x1, 0, x3, x4) = 0) := by
  refine itrv_inv (d := default) (f := sp_EM_hasTimes_L11 b m12_0 m12_1 f34 s p1 p2 p3) (fun t => t.2.1 ≤ nc ∧ ∀ k, k < t.2.1 → HCm V (sp_EM_boundOf_01 f34 s k) 0 (k + 1)) (fun r => (((∀ j, j < nc → HCm V (sp_EM_boundOf_01 f34 s j) 0 (j + 1)) ∧ ∀ i, i < nc → (HCm V (sp_EM_boundOf_10 f34 s i) (i + 1) 0 ∧ ∀ j, j < nc → HCm V (sp_EM_boundOf_11 f34 s i j) (i + 1) (j + 1))) ∧ r = 1) ∨ (¬ ((∀ j, j < nc → HCm V (sp_EM_boundOf_01 f34 s j) 0 (j + 1)) ∧ ∀ i, i < nc → (HCm V (sp_EM_boundOf_10 f34 s i) (i + 1) 0 ∧ ∀ j, j < nc → HCm V (sp_EM_boundOf_11 f34 s i j) (i + 1) (j + 1))) ∧ r = 0)) (fun t => nc - t.2.1) ?_ _ (x1, 0, x3, x4) (Nat.le_refl _) ⟨Nat.zero_le _, fun k hk => absurd hk (Nat.not_lt_zero k)⟩
  rintro ⟨g0, j, g3, g4⟩ ⟨hj, h⟩
  have hj : j ≤ nc := hj
  have h : ∀ k, k < j → HCm V (sp_EM_boundOf_01 f34 s k) 0 (k + 1) := h
  by_cases ce : nc ≤ j
  · rcases hasM_L10 (s := s) (f34 := f34) ec hc hV hV0 g0 (nI j) g3 g4 with ⟨q, ew⟩ | ⟨⟨i, hi, q⟩, ew⟩
    · exact Or.inr ⟨1, by simp only [sp_EM_hasTimes_L11, slet, ec, if_pos ce, ew], Or.inl ⟨⟨fun k hk => h k (by omega), q⟩, rfl⟩⟩
    · exact Or.inr ⟨0, by simp only [sp_EM_hasTimes_L11, slet, ec, if_pos ce, ew], Or.inr ⟨fun z => q (z.2 i hi), rfl⟩⟩
  · have v2 := hV j (by omega)
    have ms : nc - (j + 1) < nc - j := by omega
    by_cases c1 : (1048576 : Int32) ≤ sp_EM_boundOf_01 f34 s j
    · exact Or.inl ⟨(sp_EM_boundOf_01 f34 s j, j + 1, 0, V (j + 1)), by simp only [sp_EM_hasTimes_L11, slet, ec, if_neg ce, v2, if_pos c1], ⟨show j + 1 ≤ nc by omega, all_1 (P := fun k => HCm V (sp_EM_boundOf_01 f34 s k) 0 (k + 1)) h (Or.inl c1)⟩, ms⟩
    · by_cases c2 : lg_cmp ((0 : Int64) - V (j + 1)) ((((sp_EM_boundOf_01 f34 s j) >>> ((1 : Int32) &&& 31)).toInt64 * (256 : Int64) - (1 : Int64)) + ((sp_EM_boundOf_01 f34 s j) &&& (1 : Int32)).toInt64) ≤ 0
      · exact Or.inl ⟨(sp_EM_boundOf_01 f34 s j, j + 1, 0, V (j + 1)), by simp only [sp_EM_hasTimes_L11, slet, ec, if_neg ce, v2, if_neg c1, if_pos c2], ⟨show j + 1 ≤ nc by omega, all_1 (P := fun k => HCm V (sp_EM_boundOf_01 f34 s k) 0 (k + 1)) h (Or.inr (by rw [hV0]; exact c2))⟩, ms⟩
      · exact Or.inr ⟨0, by simp only [sp_EM_hasTimes_L11, slet, ec, if_neg ce, v2, if_neg c1, if_neg c2], Or.inr ⟨fun z => Or.elim (z.1 j (by omega)) c1 (fun y => c2 (by rw [hV0] at y; exact y)), rfl⟩⟩
theorem hasM {b m12_0 m12_1 nc s : Nat} {f34 : Nat → Int32} {p1 p2 p3 : Int32} {V : Nat → Int64} (ec : sp_EM_clocks b m12_0 m12_1 = nc) (hc : nc ≤ 3) (hV : ∀ k, k < 3 → (if k = 0 then p1.toInt64 else if k = 1 then p2.toInt64 else p3.toInt64) = V (k + 1)) (hV0 : V 0 = 0) : ((HCm V (sp_EM_boundOf_00 f34 s) 0 0 ∧ (∀ j, j < nc → HCm V (sp_EM_boundOf_01 f34 s j) 0 (j + 1)) ∧ ∀ i, i < nc → (HCm V (sp_EM_boundOf_10 f34 s i) (i + 1) 0 ∧ ∀ j, j < nc → HCm V (sp_EM_boundOf_11 f34 s i j) (i + 1) (j + 1))) ∧ sp_EM_hasTimes b m12_0 m12_1 f34 s p1 p2 p3 = 1) ∨ (¬ (HCm V (sp_EM_boundOf_00 f34 s) 0 0 ∧ (∀ j, j < nc → HCm V (sp_EM_boundOf_01 f34 s j) 0 (j + 1)) ∧ ∀ i, i < nc → (HCm V (sp_EM_boundOf_10 f34 s i) (i + 1) 0 ∧ ∀ j, j < nc → HCm V (sp_EM_boundOf_11 f34 s i j) (i + 1) (j + 1))) ∧ sp_EM_hasTimes b m12_0 m12_1 f34 s p1 p2 p3 = 0) := by
  have nn := nneg hc
  have z0 : V 0 - V 0 = (0 : Int64) := by rw [hV0]; decide
  by_cases c1 : (1048576 : Int32) ≤ sp_EM_boundOf_00 f34 s
  · rcases hasM_L7 (s := s) (f34 := f34) ec hc hV hV0 (sp_EM_boundOf_00 f34 s) 0 0 with ⟨q, ew⟩ | ⟨q, ew⟩
    · exact Or.inl ⟨⟨Or.inl c1, q⟩, by simp only [sp_EM_hasTimes, slet, ec, if_neg nn, if_pos c1, ew]⟩
    · exact Or.inr ⟨fun z => q z.2, by simp only [sp_EM_hasTimes, slet, ec, if_neg nn, if_pos c1, ew]⟩
  · by_cases c2 : lg_cmp (0 : Int64) ((((sp_EM_boundOf_00 f34 s) >>> ((1 : Int32) &&& 31)).toInt64 * (256 : Int64) - (1 : Int64)) + ((sp_EM_boundOf_00 f34 s) &&& (1 : Int32)).toInt64) ≤ 0
    · rcases hasM_L11 (s := s) (f34 := f34) ec hc hV hV0 (sp_EM_boundOf_00 f34 s) 0 0 with ⟨q, ew⟩ | ⟨q, ew⟩
      · exact Or.inl ⟨⟨Or.inr (by rw [z0]; exact c2), q⟩, by simp only [sp_EM_hasTimes, slet, ec, if_neg nn, if_neg c1, show (0 : Int64) - 0 = 0 by decide, if_pos c2, ew]⟩
      · exact Or.inr ⟨fun z => q z.2, by simp only [sp_EM_hasTimes, slet, ec, if_neg nn, if_neg c1, show (0 : Int64) - 0 = 0 by decide, if_pos c2, ew]⟩
    · exact Or.inr ⟨fun z => Or.elim z.1 c1 (fun y => c2 (by rw [z0] at y; exact y)), by simp only [sp_EM_hasTimes, slet, ec, if_neg nn, if_neg c1, show (0 : Int64) - 0 = 0 by decide, if_neg c2]⟩
/-- has -/
theorem has_same {b np hs gc nc gfull x29 m42 m12_0 m12_1 : Nat} {gx gway x45 : Int32} {q1 : Nat → Nat} {s2 s3 s4 : Nat → Int32} {qs : Nat → Nat} {fz : Nat → Nat → Int32} {r38 : Nat → Nat} {r39 r40 r41 r34 r43 r44 : Nat → Int32} (ec : sp_EM_clocks b m12_0 m12_1 = nc) (hc : nc ≤ 3) (hL : SGL nc np hs gc gfull gx gway q1 s2 s3 s4 qs fz x29 m42 x45 r38 r39 r40 r41 r34 r43 r44) (fsm : Nat → Int32) (p0 p1 p2 p3 : Int32) : (sp_EM_has b x29 m12_0 m12_1 r34 m42 p0 p1 p2 p3).1 = (sp_E_8_has hs gc fsm 121 qs fz p0 p1 p2 p3).1 := by
  have isS := isS_M ec
  obtain ⟨e, h⟩ := hL
  by_cases c0 : hs = 1 ∧ (0 : Int32) ≤ p0 ∧ p0 < nI gc
  · rcases h with z | ⟨z, rfl, a2, a3, a4, a5, Z, a6⟩
    · exact absurd c0.1 (by omega)
    · have x0 : x29 = 1 ∧ (0 : Int32) ≤ p0 ∧ p0 < nI gc := ⟨by omega, c0.2⟩
      obtain ⟨j, j1, cj⟩ : ∃ j, j < gc ∧ p0.toNatClampNeg = j := by
        obtain ⟨j, hj, rfl⟩ := nI_of (Int32.not_lt.mpr c0.2.1)
        exact ⟨j, (nI_ltI hj (by omega)).mp c0.2.2, nI_clamp hj⟩
      obtain ⟨-, u6, u7, u8, u9⟩ := a6 j j1
      have em : min (qs (121 + j)) 4 = nc + 1 := by omega
      obtain ⟨f6, ef⟩ : ∃ f, upd (upd (upd (upd fsm 0 0) 1 p1) 2 p2) 3 p3 = f := ⟨_, rfl⟩
      have v0 : f6 0 = 0 := by rw [← ef, upd_n (by decide), upd_n (by decide), upd_n (by decide), upd_s]
      have v1 : f6 1 = p1 := by rw [← ef, upd_n (by decide), upd_n (by decide), upd_s]
      have v2 : f6 2 = p2 := by rw [← ef, upd_n (by decide), upd_s]
      have v3 : f6 3 = p3 := by rw [← ef, upd_s]
      have hV : ∀ k, k < 3 → (if k = 0 then p1.toInt64 else if k = 1 then p2.toInt64 else p3.toInt64) = (fun k => (f6 k).toInt64) (k + 1) := by
        intro k hk
        rcases (show k = 0 ∨ k = 1 ∨ k = 2 by omega) with rfl | rfl | rfl
        · show p1.toInt64 = (f6 1).toInt64
          rw [v1]
        · show p2.toInt64 = (f6 2).toInt64
          rw [v2]
        · show p3.toInt64 = (f6 3).toInt64
          rw [v3]
      have hV0 : (fun k => (f6 k).toInt64) 0 = 0 := by
        show (f6 0).toInt64 = 0
        rw [v0]; decide
      have hU : UU gway j + 41 ≤ 2000000 := by
        unfold UU
        split <;> omega
      have hW : VV gway j ≤ 2000000 := by
        unfold VV
        split <;> omega
      have rg : ∀ p q, p < nc + 1 → q < nc + 1 → ∀ v, Z j p q = some v → -2000000 ≤ v ∧ v ≤ 2000000 := by
        intro p q hp hq v hv
        exact u7.rge (R := 2000000) hU hW p q hp hq v hv
      have cell : ∀ p q, p < nc + 1 → q < nc + 1 → (HCc (fun k => (f6 k).toInt64) (fz (121 + j) (p * (nc + 1) + q)) p q ↔ HCm (fun k => (f6 k).toInt64) (r34 (25 * j + (5 * p + q))) p q) := fun p q hp hq => hc_cm (u8 p q hp hq) (u9 p q hp hq) (rg p q hp hq)
      have c00 := cell 0 0 (by omega) (by omega)
      have f00 : sp_EM_boundOf_00 r34 j = r34 (25 * j + (5 * 0 + 0)) := by
        simp only [sp_EM_boundOf_00, slet]
      have f01 : ∀ q, sp_EM_boundOf_01 r34 j q = r34 (25 * j + (5 * 0 + (q + 1))) := fun q => by
        simp only [sp_EM_boundOf_01, slet]
        rw [show 25 * j + 0 + q + 1 = 25 * j + (5 * 0 + (q + 1)) by omega]
      have f10 : ∀ p, sp_EM_boundOf_10 r34 j p = r34 (25 * j + (5 * (p + 1) + 0)) := fun p => by
        simp only [sp_EM_boundOf_10, slet]
        rw [show 25 * j + 5 * (p + 1) = 25 * j + (5 * (p + 1) + 0) by omega]
      have f11 : ∀ p q, sp_EM_boundOf_11 r34 j p q = r34 (25 * j + (5 * (p + 1) + (q + 1))) := fun p q => by
        simp only [sp_EM_boundOf_11, slet]
        rw [show 25 * j + 5 * (p + 1) + q + 1 = 25 * j + (5 * (p + 1) + (q + 1)) by omega]
      have both : (∀ p, p < nc + 1 → ∀ q, q < nc + 1 → HCc (fun k => (f6 k).toInt64) (fz (121 + j) (p * (nc + 1) + q)) p q) ↔ (HCm (fun k => (f6 k).toInt64) (sp_EM_boundOf_00 r34 j) 0 0 ∧ (∀ q, q < nc → HCm (fun k => (f6 k).toInt64) (sp_EM_boundOf_01 r34 j q) 0 (q + 1)) ∧ ∀ i, i < nc → (HCm (fun k => (f6 k).toInt64) (sp_EM_boundOf_10 r34 j i) (i + 1) 0 ∧ ∀ q, q < nc → HCm (fun k => (f6 k).toInt64) (sp_EM_boundOf_11 r34 j i q) (i + 1) (q + 1))) := by
        constructor
        · intro H
          refine ⟨?_, fun q hq => ?_, fun i hi => ⟨?_, fun q hq => ?_⟩⟩
          · rw [f00]; exact (cell 0 0 (by omega) (by omega)).mp (H 0 (by omega) 0 (by omega))
          · rw [f01]; exact (cell 0 (q + 1) (by omega) (by omega)).mp (H 0 (by omega) (q + 1) (by omega))
          · rw [f10]; exact (cell (i + 1) 0 (by omega) (by omega)).mp (H (i + 1) (by omega) 0 (by omega))
          · rw [f11]; exact (cell (i + 1) (q + 1) (by omega) (by omega)).mp (H (i + 1) (by omega) (q + 1) (by omega))
        · rintro ⟨H0, H1, H2⟩ p hp q hq
          refine (cell p q hp hq).mpr ?_
          rcases Nat.eq_zero_or_pos p with rfl | hp0
          · rcases Nat.eq_zero_or_pos q with rfl | hq0
            · rw [← f00]; exact H0
            · obtain ⟨q', rfl⟩ : ∃ q', q = q' + 1 := ⟨q - 1, by omega⟩
              rw [← f01]; exact H1 q' (by omega)
          · obtain ⟨p', rfl⟩ : ∃ p', p = p' + 1 := ⟨p - 1, by omega⟩
            rcases Nat.eq_zero_or_pos q with rfl | hq0
            · rw [← f10]; exact (H2 p' (by omega)).1
            · obtain ⟨q', rfl⟩ : ∃ q', q = q' + 1 := ⟨q - 1, by omega⟩
              rw [← f11]; exact (H2 p' (by omega)).2 q' (by omega)
      have b1 : sp_E_8_bit (nI 1) = 1 := bit_of (Nat.le_refl 1)
      have b0 : sp_E_8_bit (nI 0) = 0 := bit_of (Nat.zero_le 1)
      rcases holds_E (v := f6) (n := nc + 1) (f := fz (121 + j)) with ⟨q, eE⟩ | ⟨⟨p, hp, q, hq, nq⟩, eE⟩
      · rcases hasM (V := fun k => (f6 k).toInt64) (s := j) (f34 := r34) ec hc hV hV0 with ⟨-, eM⟩ | ⟨nM, -⟩
        · simp only [sp_EM_has, sp_E_8_has, slet, isS, if_pos x0, if_pos c0, cj, em, ef, eE, eM, b1, if_neg (show ¬ (1 : Nat) = 0 by omega)] <;> rfl
        · exact absurd (both.mp q) nM
      · rcases hasM (V := fun k => (f6 k).toInt64) (s := j) (f34 := r34) ec hc hV hV0 with ⟨yM, -⟩ | ⟨-, eM⟩
        · exact absurd (both.mpr yM p hp q hq) nq
        · simp only [sp_EM_has, sp_E_8_has, slet, isS, if_pos x0, if_pos c0, cj, em, ef, eE, eM, b0, if_pos] <;> rfl
  · have x0 : ¬ (x29 = 1 ∧ (0 : Int32) ≤ p0 ∧ p0 < nI m42) := by
      rcases h with z | ⟨z, a1, -⟩
      · exact fun q => absurd q.1 (by omega)
      · rw [← a1]; exact fun q => c0 ⟨by omega, q.2⟩
    simp only [sp_EM_has, sp_E_8_has, slet, isS, if_neg x0, if_neg c0]
theorem pq6 {α0 α1 α2 α3 α4 α5 β : Type} {P : β → Prop} (Q : (α0 × α1 × α2 × α3 × α4 × α5) → Prop) {v : α0 × α1 × α2 × α3 × α4 × α5} {f : α0 × α1 × α2 × α3 × α4 × α5 → β} (hv : Q v) (h : ∀ x0 x1 x2 x3 x4 x5, Q (x0, x1, x2, x3, x4, x5) → P (f (x0, x1, x2, x3, x4, x5))) : P (slet v f) := h v.1 v.2.1 v.2.2.1 v.2.2.2.1 v.2.2.2.2.1 v.2.2.2.2.2 hv
theorem pl8 {α0 α1 α2 α3 α4 α5 α6 α7 β : Type} {P : β → Prop} {v : α0 × α1 × α2 × α3 × α4 × α5 × α6 × α7} {f : α0 × α1 × α2 × α3 × α4 × α5 × α6 × α7 → β} (h : ∀ x0 x1 x2 x3 x4 x5 x6 x7, v = (x0, x1, x2, x3, x4, x5, x6, x7) → P (f (x0, x1, x2, x3, x4, x5, x6, x7))) : P (slet v f) := h v.1 v.2.1 v.2.2.1 v.2.2.2.1 v.2.2.2.2.1 v.2.2.2.2.2.1 v.2.2.2.2.2.2.1 v.2.2.2.2.2.2.2 rfl
theorem pq11 {α0 α1 α2 α3 α4 α5 α6 α7 α8 α9 α10 β : Type} {P : β → Prop} (Q : (α0 × α1 × α2 × α3 × α4 × α5 × α6 × α7 × α8 × α9 × α10) → Prop) {v : α0 × α1 × α2 × α3 × α4 × α5 × α6 × α7 × α8 × α9 × α10} {f : α0 × α1 × α2 × α3 × α4 × α5 × α6 × α7 × α8 × α9 × α10 → β} (hv : Q v) (h : ∀ x0 x1 x2 x3 x4 x5 x6 x7 x8 x9 x10, Q (x0, x1, x2, x3, x4, x5, x6, x7, x8, x9, x10) → P (f (x0, x1, x2, x3, x4, x5, x6, x7, x8, x9, x10))) : P (slet v f) := h v.1 v.2.1 v.2.2.1 v.2.2.2.1 v.2.2.2.2.1 v.2.2.2.2.2.1 v.2.2.2.2.2.2.1 v.2.2.2.2.2.2.2.1 v.2.2.2.2.2.2.2.2.1 v.2.2.2.2.2.2.2.2.2.1 v.2.2.2.2.2.2.2.2.2.2 hv
theorem pq12 {α0 α1 α2 α3 α4 α5 α6 α7 α8 α9 α10 α11 β : Type} {P : β → Prop} (Q : (α0 × α1 × α2 × α3 × α4 × α5 × α6 × α7 × α8 × α9 × α10 × α11) → Prop) {v : α0 × α1 × α2 × α3 × α4 × α5 × α6 × α7 × α8 × α9 × α10 × α11} {f : α0 × α1 × α2 × α3 × α4 × α5 × α6 × α7 × α8 × α9 × α10 × α11 → β} (hv : Q v) (h : ∀ x0 x1 x2 x3 x4 x5 x6 x7 x8 x9 x10 x11, Q (x0, x1, x2, x3, x4, x5, x6, x7, x8, x9, x10, x11) → P (f (x0, x1, x2, x3, x4, x5, x6, x7, x8, x9, x10, x11))) : P (slet v f) := h v.1 v.2.1 v.2.2.1 v.2.2.2.1 v.2.2.2.2.1 v.2.2.2.2.2.1 v.2.2.2.2.2.2.1 v.2.2.2.2.2.2.2.1 v.2.2.2.2.2.2.2.2.1 v.2.2.2.2.2.2.2.2.2.1 v.2.2.2.2.2.2.2.2.2.2.1 v.2.2.2.2.2.2.2.2.2.2.2 hv
/-- no parent comes after its state -/
def PAR (gc : Nat) (s2 : Nat → Int32) : Prop := ∀ s, s < gc → (s2 s).toNatClampNeg ≤ s
def PSX (g0 : Nat) (t : (Nat → Nat) × (Nat → Int32) × (Nat → Int32) × (Nat → Int32) × (Nat → Int32) × Nat × Nat × Nat × Int32 × (Nat → Nat → Int32) × (Nat → Nat)) : Prop := PAR t.2.2.2.2.2.2.1 t.2.1 ∧ g0 ≤ t.2.2.2.2.2.2.1 ∧ t.2.2.2.2.2.2.1 ≤ 120
theorem PSX.mk {g0 gc gfull gfound : Nat} {gx : Int32} {q1 : Nat → Nat} {s2 s3 s4 s5 : Nat → Int32} {fz : Nat → Nat → Int32} {qs : Nat → Nat} (h : PAR gc s2) (h1 : g0 ≤ gc) (h2 : gc ≤ 120) : PSX g0 (q1, s2, s3, s4, s5, gfound, gc, gfull, gx, fz, qs) := ⟨h, h1, h2⟩
theorem par_rec {gc gfound u a1 e : Nat} {ggoal : Int32} {q1 : Nat → Nat} {s2 s3 s4 s5 : Nat → Int32} (h : PAR gc s2) (ha : a1 < gc) (hg : gc ≤ 120) : PAR (gc + 1) (sp_E_1_record1_16 gc ggoal gfound q1 s2 s3 s4 s5 u a1 e).2.1 := by
  have e1 : (sp_E_1_record1_16 gc ggoal gfound q1 s2 s3 s4 s5 u a1 e).2.1 = upd s2 gc (nI a1) := by
    by_cases c : (nI u : Int32) = ggoal
    · simp only [sp_E_1_record1_16, slet, if_pos c]
    · simp only [sp_E_1_record1_16, slet, if_neg c]
  rw [e1]
  intro s hs
  by_cases c : s = gc
  · rw [c, upd_s, nI_clamp (by omega)]; omega
  · rw [upd_n c]; exact h s (by omega)
theorem par_rec0 {gfound u : Nat} {ggoal : Int32} {q1 : Nat → Nat} {s2 s3 s4 s5 : Nat → Int32} : PAR 1 (sp_E_1_record0_16 0 ggoal gfound q1 s2 s3 s4 s5 u).2.1 := by
  have e1 : (sp_E_1_record0_16 0 ggoal gfound q1 s2 s3 s4 s5 u).2.1 = upd s2 0 (-1) := by
    by_cases c : (nI u : Int32) = ggoal
    · simp only [sp_E_1_record0_16, slet, if_pos c]
    · simp only [sp_E_1_record0_16, slet, if_neg c]
  rw [e1]
  intro s hs
  have : s = 0 := by omega
  subst this
  rw [upd_s]
  decide
theorem par_step {gc gfull : Nat} {gx gway ggoal : Int32} {gfound gl : Nat} {q1 : Nat → Nat} {s2 s3 s4 s5 fhi flo : Nat → Int32} {nc : Nat} {f4 : Nat → Int32} {q6 : Nat → Nat} {f7 : Nat → Int32} {q8 q9 : Nat → Nat} {f12 f13 : Nat → Int32} {o : Nat} {qs : Nat → Nat} {fz : Nat → Nat → Int32} {a1 e : Nat} (h : PAR gc s2) (ha : a1 < gc) (hg : gc ≤ 120) : PSX gc (sp_E_1_step_16 gc gfull gx gway ggoal gfound gl q1 s2 s3 s4 s5 fhi flo nc f4 q6 f7 q8 q9 f12 f13 o qs fz a1 e) := by
  unfold sp_E_1_step_16
  repeat' first
    | (with_reducible exact PSX.mk h (Nat.le_refl _) hg)
    | (with_reducible refine pq6 (fun t => PAR (gc + 1) t.2.1) (par_rec h ha hg) ?_; intro _ _ _ _ _ _ hq; exact PSX.mk hq (Nat.le_succ _) (by omega))
    | (with_reducible apply it1 <;> intro _)
    | (with_reducible apply sl2; intro _ _ _; try dsimp only)
    | (with_reducible apply sl1; intro _ _; try dsimp only)
theorem par_L1 {gway gav ggoal : Int32} {gl : Nat} {fhi flo : Nat → Int32} {nc ne : Nat} {f4 : Nat → Int32} {q5 q6 : Nat → Nat} {f7 : Nat → Int32} {q8 q9 : Nat → Nat} {f12 f13 : Nat → Int32} {o : Nat}{gc gfull gfound : Nat} {gx : Int32} {q1 : Nat → Nat} {s2 s3 s4 s5 : Nat → Int32} {fz : Nat → Nat → Int32} {qs : Nat → Nat} {a1 g0 : Nat} (h : PAR gc s2) (ha : a1 < gc) (h0 : g0 ≤ gc) (hg : gc ≤ 120) : (fun r : Nat × Nat × Nat × Int32 × Nat × (Nat → Nat) × (Nat → Int32) × (Nat → Int32) × (Nat → Int32) × (Nat → Int32) × (Nat → Nat) × (Nat → Nat → Int32) => PAR r.2.1 r.2.2.2.2.2.2.1 ∧ g0 ≤ r.2.1 ∧ r.2.1 ≤ 120) (itrv default (sp_E_1_grow_16_L1 gway gav ggoal gl fhi flo nc ne f4 q5 q6 f7 q8 q9 f12 f13 o a1) (q1, s2, s3, s4, s5, gfound, gc, gfull, gx, 0, fz, qs)) := by
  refine itrv_inv (d := default) (f := sp_E_1_grow_16_L1 gway gav ggoal gl fhi flo nc ne f4 q5 q6 f7 q8 q9 f12 f13 o a1) (fun t => PAR t.2.2.2.2.2.2.1 t.2.1 ∧ a1 < t.2.2.2.2.2.2.1 ∧ g0 ≤ t.2.2.2.2.2.2.1 ∧ t.2.2.2.2.2.2.1 ≤ 120) (fun r => PAR r.2.1 r.2.2.2.2.2.2.1 ∧ g0 ≤ r.2.1 ∧ r.2.1 ≤ 120) (fun t => ne - t.2.2.2.2.2.2.2.2.2.1) ?_ _ (q1, s2, s3, s4, s5, gfound, gc, gfull, gx, 0, fz, qs) (Nat.le_refl _) ⟨h, ha, h0, hg⟩
  clear h ha h0 hg
  rintro ⟨q1, s2, s3, s4, s5, gf, gc, gfull, gx, i, fz, qs⟩ ⟨h, ha, h0, hg⟩
  have h : PAR gc s2 := h
  have ha : a1 < gc := ha
  have h0 : g0 ≤ gc := h0
  have hg : gc ≤ 120 := hg
  by_cases ce : ne ≤ i
  · exact Or.inr ⟨(i, gc, gfull, gx, gf, q1, s2, s3, s4, s5, qs, fz), by simp only [sp_E_1_grow_16_L1, if_pos ce], h, h0, hg⟩
  · have ms : ne - (i + 1) < ne - i := by omega
    by_cases cf : gf = 0
    · by_cases c1 : min (q5 i) 7 = min (q1 a1) 7
      · by_cases c2 : (nI (min (q6 i) 7) : Int32) = gav
        · exact Or.inl ⟨(q1, s2, s3, s4, s5, gf, gc, gfull, gx, i + 1, fz, qs), by simp only [sp_E_1_grow_16_L1, slet, if_neg ce, if_pos cf, if_pos c1, if_pos c2], ⟨h, ha, h0, hg⟩, ms⟩
        · have hp := par_step (gfull := gfull) (gx := gx) (gway := gway) (ggoal := ggoal) (gfound := gf) (gl := gl) (q1 := q1) (s3 := s3) (s4 := s4) (s5 := s5) (fhi := fhi) (flo := flo) (nc := nc) (f4 := f4) (q6 := q6) (f7 := f7) (q8 := q8) (q9 := q9) (f12 := f12) (f13 := f13) (o := o) (qs := qs) (fz := fz) (e := i) h ha hg
          obtain ⟨⟨k1, k2, k3, k4, k5, kf, kc, kg, kx, kz, kq⟩, es⟩ : ∃ x, sp_E_1_step_16 gc gfull gx gway ggoal gf gl q1 s2 s3 s4 s5 fhi flo nc f4 q6 f7 q8 q9 f12 f13 o qs fz a1 i = x := ⟨_, rfl⟩
          rw [es] at hp
          obtain ⟨p1, p2, p3⟩ := hp
          have p2 : gc ≤ kc := p2
          exact Or.inl ⟨(k1, k2, k3, k4, k5, kf, kc, kg, kx, i + 1, kz, kq), by simp only [sp_E_1_grow_16_L1, slet, if_neg ce, if_pos cf, if_pos c1, if_neg c2, es], ⟨p1, show a1 < kc by omega, show g0 ≤ kc by omega, p3⟩, ms⟩
      · exact Or.inl ⟨(q1, s2, s3, s4, s5, gf, gc, gfull, gx, i + 1, fz, qs), by simp only [sp_E_1_grow_16_L1, slet, if_neg ce, if_pos cf, if_neg c1], ⟨h, ha, h0, hg⟩, ms⟩
    · exact Or.inr ⟨(i, gc, gfull, gx, gf, q1, s2, s3, s4, s5, qs, fz), by simp only [sp_E_1_grow_16_L1, if_neg ce, if_neg cf], h, h0, hg⟩
theorem par_grow {gway gav ggoal : Int32} {gl : Nat} {fhi flo : Nat → Int32} {nc ne : Nat} {f4 : Nat → Int32} {q5 q6 : Nat → Nat} {f7 : Nat → Int32} {q8 q9 : Nat → Nat} {f12 f13 : Nat → Int32} {o : Nat}{gc gfull gfound : Nat} {gx : Int32} {q1 : Nat → Nat} {s2 s3 s4 s5 : Nat → Int32} {fz : Nat → Nat → Int32} {qs : Nat → Nat} (h : PAR gc s2) (hg : gc ≤ 120) : PSX 0 (sp_E_1_grow_16 gc gfull gx gway gav ggoal gfound gl q1 s2 s3 s4 s5 fhi flo nc ne f4 q5 q6 f7 q8 q9 f12 f13 o qs fz) := by
  refine itrv_inv (d := default) (f := sp_E_1_grow_16_L2 gway gav ggoal gl fhi flo nc ne f4 q5 q6 f7 q8 q9 f12 f13 o) (fun t => PAR t.2.2.2.2.2.2.1 t.2.1 ∧ t.2.2.2.2.2.2.1 ≤ 120) (fun r => PSX 0 r) (fun t => 120 - t.2.2.2.2.2.2.2.2.2.1) ?_ _ (q1, s2, s3, s4, s5, gfound, gc, gfull, gx, 0, fz, qs) (Nat.le_refl _) ⟨h, hg⟩
  clear h hg
  rintro ⟨q1, s2, s3, s4, s5, gf, gc, gfull, gx, i, fz, qs⟩ ⟨h, hg⟩
  have h : PAR gc s2 := h
  have hg : gc ≤ 120 := hg
  by_cases ce : gc ≤ i
  · exact Or.inr ⟨(q1, s2, s3, s4, s5, gf, gc, gfull, gx, fz, qs), by simp only [sp_E_1_grow_16_L2, if_pos ce], PSX.mk h (Nat.zero_le _) hg⟩
  · by_cases cf : gf = 0
    · have hp := par_L1 (gway := gway) (gav := gav) (ggoal := ggoal) (gl := gl) (fhi := fhi) (flo := flo) (nc := nc) (ne := ne) (f4 := f4) (q5 := q5) (q6 := q6) (f7 := f7) (q8 := q8) (q9 := q9) (f12 := f12) (f13 := f13) (o := o) (gfull := gfull) (gfound := gf) (gx := gx) (q1 := q1) (s3 := s3) (s4 := s4) (s5 := s5) (fz := fz) (qs := qs) (a1 := i) (g0 := gc) h (by omega) (Nat.le_refl _) hg
      obtain ⟨⟨k0, kc, kg, kx, kf, k1, k2, k3, k4, k5, kq, kz⟩, es⟩ : ∃ x, itrv default (sp_E_1_grow_16_L1 gway gav ggoal gl fhi flo nc ne f4 q5 q6 f7 q8 q9 f12 f13 o i) (q1, s2, s3, s4, s5, gf, gc, gfull, gx, 0, fz, qs) = x := ⟨_, rfl⟩
      rw [es] at hp
      obtain ⟨p1, p2, p3⟩ := hp
      exact Or.inl ⟨(k1, k2, k3, k4, k5, kf, kc, kg, kx, i + 1, kz, kq), by simp only [sp_E_1_grow_16_L2, slet, if_neg ce, if_pos cf, es], ⟨p1, p3⟩, show 120 - (i + 1) < 120 - i by omega⟩
    · exact Or.inr ⟨(q1, s2, s3, s4, s5, gf, gc, gfull, gx, fz, qs), by simp only [sp_E_1_grow_16_L2, if_neg ce, if_neg cf], PSX.mk h (Nat.zero_le _) hg⟩
theorem par_open {gway gav ggoal : Int32} {gfound gsz : Nat} {q1 : Nat → Nat} {s2 s3 s4 s5 fhi flo f4 : Nat → Int32} {q8 q9 : Nat → Nat} {f12 f13 fbu : Nat → Int32} {o : Nat} {qs : Nat → Nat} {fz : Nat → Nat → Int32} {st : Nat} : PSX 0 (sp_E_1_open_16 gway gav ggoal gfound gsz q1 s2 s3 s4 s5 fhi flo f4 q8 q9 f12 f13 fbu o qs fz st) := by
  have h : PAR 0 s2 := fun s hs => absurd hs (Nat.not_lt_zero s)
  unfold sp_E_1_open_16
  repeat' first
    | (with_reducible exact PSX.mk h (Nat.zero_le _) (Nat.zero_le _))
    | (with_reducible refine pq6 (fun t => PAR 1 t.2.1) par_rec0 ?_; intro _ _ _ _ _ _ hq; exact PSX.mk hq (Nat.zero_le _) (by decide))
    | (with_reducible apply it1 <;> intro _)
    | (with_reducible apply sl2; intro _ _ _; try dsimp only)
    | (with_reducible apply sl1; intro _ _; try dsimp only)
def PS12 (t : (Nat → Nat) × (Nat → Int32) × (Nat → Int32) × (Nat → Int32) × (Nat → Int32) × (Nat → Int32) × Nat × Nat × Nat × Int32 × (Nat → Nat → Int32) × (Nat → Nat)) : Prop := PAR t.2.2.2.2.2.2.2.1 t.2.1 ∧ t.2.2.2.2.2.2.2.1 ≤ 120
theorem par_bz {st : Nat} {f4 : Nat → Int32} {q8 q9 : Nat → Nat} {f12 f13 : Nat → Int32} {gway gav ggoal : Int32} {gfound gsz : Nat} {q1 : Nat → Nat} {s2 s3 s4 s5 hi lo fbu : Nat → Int32} {o : Nat} {qs : Nat → Nat} {fz : Nat → Nat → Int32} : PS12 (sp_E_8_beginAtZero_16 st f4 q8 q9 f12 f13 gway gav ggoal gfound gsz q1 s2 s3 s4 s5 hi lo fbu o qs fz) := by
  refine itrv_inv (d := default) (f := sp_E_8_beginAtZero_16_L1 st f4 q8 q9 f12 f13 gway gav ggoal gfound gsz q1 s2 s3 s4 s5 hi lo o qs fz) (fun _ => True) (fun r => PS12 r) (fun t => 5 - t.2) ?_ _ (fbu, 0) (Nat.le_refl _) trivial
  rintro ⟨g, j⟩ -
  by_cases ce : 5 ≤ j
  · have hp := par_open (gway := gway) (gav := gav) (ggoal := ggoal) (gfound := gfound) (gsz := gsz) (q1 := q1) (s2 := s2) (s3 := s3) (s4 := s4) (s5 := s5) (fhi := hi) (flo := lo) (f4 := f4) (q8 := q8) (q9 := q9) (f12 := f12) (f13 := f13) (fbu := g) (o := o) (qs := qs) (fz := fz) (st := st)
    obtain ⟨⟨k1, k2, k3, k4, k5, kf, kc, kg, kx, kz, kq⟩, es⟩ : ∃ x, sp_E_1_open_16 gway gav ggoal gfound gsz q1 s2 s3 s4 s5 hi lo f4 q8 q9 f12 f13 g o qs fz st = x := ⟨_, rfl⟩
    rw [es] at hp
    obtain ⟨p1, -, p3⟩ := hp
    exact Or.inr ⟨(k1, k2, k3, k4, k5, g, kf, kc, kg, kx, kz, kq), by simp only [sp_E_8_beginAtZero_16_L1, slet, if_pos ce, es], p1, p3⟩
  · exact Or.inl ⟨(upd g j 0, j + 1), by simp only [sp_E_8_beginAtZero_16_L1, slet, if_neg ce], trivial, show 5 - (j + 1) < 5 - j by omega⟩
def PS21 (t : Int32 × (Nat → Nat) × (Nat → Int32) × (Nat → Int32) × (Nat → Int32) × (Nat → Int32) × (Nat → Int32) × (Nat → Int32) × (Nat → Int32) × Nat × Int32 × Int32 × Nat × Nat × Nat × Nat × Nat × Int32 × Int32 × (Nat → Nat → Int32) × (Nat → Nat)) : Prop := t.2.2.2.2.2.2.2.2.2.1 = 0 ∨ (PAR t.2.2.2.2.2.2.2.2.2.2.2.2.2.2.2.1 t.2.2.1 ∧ t.2.2.2.2.2.2.2.2.2.2.2.2.2.2.2.1 ≤ 120)
theorem par_graph {hs nc np ne st : Nat} {f4 : Nat → Int32} {q5 q6 : Nat → Nat} {f7 : Nat → Int32} {q8 q9 : Nat → Nat} {f12 f13 f14 f15 f16 : Nat → Int32} {gc gfull : Nat} {gx gway gav ggoal : Int32} {gfound gl gsz : Nat} {q1 : Nat → Nat} {s2 s3 s4 s5 hig log fbu : Nat → Int32} {o : Nat} {qs : Nat → Nat} {fz : Nat → Nat → Int32} {p0 : Int32} {a1 : Nat} (h : hs = 0 ∨ (PAR gc s2 ∧ gc ≤ 120)) : PS21 (sp_E_8_graph hs nc np ne st f4 q5 q6 f7 q8 q9 f12 f13 f14 f15 f16 gc gfull gx gway gav ggoal gfound gl gsz q1 s2 s3 s4 s5 hig log fbu o qs fz p0 a1) := by
  have k : PS21 ((-1 : Int32), q1, s2, s3, s4, s5, hig, log, fbu, hs, gav, ggoal, gfound, gl, gsz, gc, gfull, gx, gway, fz, qs) := h
  unfold sp_E_8_graph
  refine it1 (fun _ => k) (fun _ => ?_)
  refine it1 (fun _ => k) (fun _ => ?_)
  refine sl1 ?_
  intro _ _
  refine it1 (fun _ => k) (fun _ => ?_)
  refine pl8 ?_
  intro _ _ _ _ _ _ _ _ _
  dsimp only
  refine pq12 PS12 par_bz ?_
  intro _ _ _ _ _ _ _ _ _ _ _ _ hb
  obtain ⟨b1, b2⟩ := hb
  dsimp only
  refine pq11 (PSX 0) (par_grow b1 b2) ?_
  intro _ _ _ _ _ _ _ _ _ _ _ hq
  obtain ⟨q1, -, q2⟩ := hq
  exact Or.inr ⟨q1, q2⟩
theorem path_same {gc s : Nat} {s2 s3 s4 r39 r40 r41 : Nat → Int32} (hp : PAR gc s2) (hr : ∀ x, x < gc → s2 x = r39 x ∧ s3 x = r40 x ∧ s4 x = r41 x) (hs : s < gc) (q q' : Nat → Nat) : ∃ d Q Q', sp_E_6_loadRun q s2 s3 s4 s = (Q, d) ∧ sp_EM_layPath r39 r40 r41 q' s = (Q', d) ∧ d = (s4 s).toNatClampNeg ∧ ∀ k, k < d → Q k = Q' k := by
  have hd : (r41 s).toNatClampNeg = (s4 s).toNatClampNeg := by rw [(hr s hs).2.2]
  obtain ⟨d, ed⟩ : ∃ d, (s4 s).toNatClampNeg = d := ⟨_, rfl⟩
  have H : (fun (r r' : (Nat → Nat) × Nat) => r.2 = d ∧ r'.2 = d ∧ ∀ k, k < d → r.1 k = r'.1 k) (itrv default (sp_E_6_loadRun_L1 s2 s3 d) (d, s, q)) (itrv default (sp_EM_layPath_L1 r39 r40 d) (d, s, q')) := by
    refine itrv_sim (d := default) (d' := default) (f := sp_E_6_loadRun_L1 s2 s3 d) (g := sp_EM_layPath_L1 r39 r40 d) (fun t t' => t.1 = t'.1 ∧ t.2.1 = t'.2.1 ∧ t.2.1 < gc ∧ ∀ k, t.1 ≤ k → k < d → t.2.2 k = t'.2.2 k) (fun r r' => r.2 = d ∧ r'.2 = d ∧ ∀ k, k < d → r.1 k = r'.1 k) (fun t => t.1) ?_ _ (d, s, q) (d, s, q') (Nat.le_refl _) ⟨rfl, rfl, hs, fun k h1 h2 => absurd h1 (Nat.not_le.mpr h2)⟩
    rintro ⟨kk, ss, u⟩ ⟨kk', ss', u'⟩ ⟨h1, h2, h3, h4⟩
    have h1 : kk = kk' := h1
    have h2 : ss = ss' := h2
    subst h1
    subst h2
    have h3 : ss < gc := h3
    have h4 : ∀ k, kk ≤ k → k < d → u k = u' k := h4
    by_cases ce : kk = 0
    · refine Or.inr ⟨(u, d), by simp only [sp_E_6_loadRun_L1, if_pos ce], ?_⟩
      rw [itrv_inr (show sp_EM_layPath_L1 r39 r40 d (kk, ss, u') = .inr (u', d) by simp only [sp_EM_layPath_L1, if_pos ce])]
      exact ⟨rfl, rfl, fun k hk => h4 k (by omega) hk⟩
    · obtain ⟨x2, x3, -⟩ := hr ss h3
      refine Or.inl ⟨(kk - 1, (s2 ss).toNatClampNeg, updN u (kk - 1) (s3 ss).toNatClampNeg), (kk - 1, (s2 ss).toNatClampNeg, updN u' (kk - 1) (s3 ss).toNatClampNeg), by simp only [sp_E_6_loadRun_L1, slet, if_neg ce], by simp only [sp_EM_layPath_L1, slet, if_neg ce, ← x2, ← x3], ⟨rfl, rfl, Nat.lt_of_le_of_lt (hp ss h3) h3, fun k h5 h6 => ?_⟩, show kk - 1 < kk by omega⟩
      have h5 : kk - 1 ≤ k := h5
      show updN u (kk - 1) (s3 ss).toNatClampNeg k = updN u' (kk - 1) (s3 ss).toNatClampNeg k
      by_cases e : k = kk - 1
      · rw [e, updN_s, updN_s]
      · rw [updN_n e, updN_n e]
        exact h4 k (by omega) h6
  obtain ⟨⟨Q, d1⟩, e1⟩ : ∃ x, itrv default (sp_E_6_loadRun_L1 s2 s3 d) (d, s, q) = x := ⟨_, rfl⟩
  obtain ⟨⟨Q', d2⟩, e2⟩ : ∃ x, itrv default (sp_EM_layPath_L1 r39 r40 d) (d, s, q') = x := ⟨_, rfl⟩
  rw [e1, e2] at H
  obtain ⟨g1, g2, g3⟩ := H
  have g1 : d1 = d := g1
  have g2 : d2 = d := g2
  rw [g1] at e1
  rw [g2] at e2
  exact ⟨d, Q, Q', by simp only [sp_E_6_loadRun, slet, ed, e1], by simp only [sp_EM_layPath, slet, hd, ed, e2], ed.symm, g3⟩
/-- what a step on a run is, in both -/
theorem stp_same {np hs gc nc gfull x29 m42 : Nat} {gx gway x45 : Int32} {q1 : Nat → Nat} {s2 s3 s4 : Nat → Int32} {qs : Nat → Nat} {fz : Nat → Nat → Int32} {r38 : Nat → Nat} {r39 r40 r41 r34 r43 r44 : Nat → Int32} (hL : SGL nc np hs gc gfull gx gway q1 s2 s3 s4 qs fz x29 m42 x45 r38 r39 r40 r41 r34 r43 r44) (p0 p1 : Int32) : isStp x29 m42 r41 p0 p1 ↔ isStp hs gc s4 p0 p1 := by
  obtain ⟨e, h⟩ := hL
  rcases h with z | ⟨z, rfl, a2, a3, a4, a5, Z, a6⟩
  · exact ⟨fun q => absurd q.1 (by omega), fun q => absurd q.1 (by omega)⟩
  · have key : (0 : Int32) ≤ p0 → p0 < nI gc → s4 p0.toNatClampNeg = r41 p0.toNatClampNeg := by
      intro c1 c2
      obtain ⟨j, hj, rfl⟩ := nI_of (Int32.not_lt.mpr c1)
      rw [nI_clamp hj]
      exact (a6 j ((nI_ltI hj (by omega)).mp c2)).1.2.2.2.2
    constructor
    · rintro ⟨q1, q2, q3, q4, q5⟩
      exact ⟨by omega, q2, q3, q4, by rw [key q2 q3]; exact q5⟩
    · rintro ⟨q1, q2, q3, q4, q5⟩
      exact ⟨by omega, q2, q3, q4, by rw [← key q2 q3]; exact q5⟩
theorem run_same {b np hs gc nc gfull x29 m42 m12_0 m12_1 : Nat} {gx gway x45 : Int32} {q1 : Nat → Nat} {s2 s3 s4 : Nat → Int32} {qs : Nat → Nat} {fz : Nat → Nat → Int32} {r38 : Nat → Nat} {r39 r40 r41 r34 r43 r44 : Nat → Int32} (ec : sp_EM_clocks b m12_0 m12_1 = nc) (hc : nc ≤ 3) (hL : SGL nc np hs gc gfull gx gway q1 s2 s3 s4 qs fz x29 m42 x45 r38 r39 r40 r41 r34 r43 r44) (hP : hs = 0 ∨ (PAR gc s2 ∧ gc ≤ 120)) (ln x61 : Nat) (qj q54 : Nat → Nat) (p0 p1 : Int32) : (sp_EM_run b x29 x61 m12_0 m12_1 r39 r40 r41 m42 q54 p0 p1).1 = (sp_E_8_run hs gc s2 s3 s4 ln qj p0 p1).1 := by
  have isS := isS_M ec
  have hst := stp_same hL p0 p1
  by_cases c0 : isStp hs gc s4 p0 p1
  · have c1 := hst.mpr c0
    obtain ⟨e, h⟩ := hL
    rcases h with z | ⟨z, rfl, a2, a3, a4, a5, Z, a6⟩
    · exact absurd c0.1 (by omega)
    · have hp : PAR gc s2 := by
        rcases hP with y | y
        · omega
        · exact y.1
      have x0 : x29 = 1 ∧ (0 : Int32) ≤ p0 ∧ p0 < nI gc := ⟨by omega, c0.2.1, c0.2.2.1⟩
      obtain ⟨j, j1, cj⟩ : ∃ j, j < gc ∧ p0.toNatClampNeg = j := by
        obtain ⟨j, hj, rfl⟩ := nI_of (Int32.not_lt.mpr c0.2.1)
        exact ⟨j, (nI_ltI hj (by omega)).mp c0.2.2.1, nI_clamp hj⟩
      obtain ⟨d, Q, Q', e1, e2, e3, e4⟩ := path_same (s := j) (s4 := s4) (r41 := r41) hp (fun x hx => ⟨(a6 x hx).1.2.2.1, (a6 x hx).1.2.2.2.1, (a6 x hx).1.2.2.2.2⟩) j1 qj q54
      have hk : p1.toNatClampNeg < d := by
        have c4 := c0.2.2.2.1
        have c5 := c0.2.2.2.2
        rw [cj] at c5
        obtain ⟨k, hk, rfl⟩ := nI_of (Int32.not_lt.mpr c4)
        obtain ⟨f, hf, ef⟩ := nI_of (Int32.not_lt.mpr (Int32.le_of_lt (Int32.lt_of_le_of_lt c4 c5)))
        rw [ef] at c5
        rw [e3, ef, nI_clamp hk, nI_clamp hf]
        exact (nI_ltI hk hf).mp c5
      simp only [sp_EM_run, sp_EM_isStep, sp_E_8_run, slet, isS, if_pos x0, cj, e2, e1, ite_self, if_pos c1, if_pos c0, e4 _ hk]
  · have c1 : ¬ isStp x29 m42 r41 p0 p1 := fun q => c0 (hst.mp q)
    obtain ⟨⟨u1, u2, u3⟩, eu⟩ : ∃ x, sp_EM_isStep b x29 x61 m12_0 m12_1 r39 r40 r41 m42 q54 p0 p1 = x := ⟨_, rfl⟩
    simp only [sp_EM_run, sp_E_8_run, slet, eu, if_neg c1, if_neg c0]
/-- how many conditions the first k have -/
def SMc (q : Nat → Nat) : Nat → Nat
  | 0 => 0
  | k + 1 => SMc q k + min (q k) 4
theorem SMc_z {q : Nat → Nat} {a : Nat} : ∀ d, (∀ i, a ≤ i → i < a + d → q i = 0) → SMc q (a + d) = SMc q a := by
  intro d
  induction d with
  | zero => intro _; rfl
  | succ d ih =>
    intro h
    show SMc q (a + d) + min (q (a + d)) 4 = SMc q a
    rw [h (a + d) (by omega) (by omega), ih (fun i h1 h2 => h i h1 (by omega))]
    rfl
theorem allc_E (q : Nat → Nat) : sp_E_0_allConditions q = nI (SMc q 22) := by
  refine itrv_inv (d := default) (f := sp_E_0_allConditions_L1 q) (fun t => t.2 ≤ 22 ∧ t.1 = nI (SMc q t.2)) (fun r => r = nI (SMc q 22)) (fun t => 22 - t.2) ?_ _ (0, 0) (Nat.le_refl _) ⟨Nat.zero_le _, rfl⟩
  rintro ⟨g, i⟩ ⟨hi, hg⟩
  have hi : i ≤ 22 := hi
  have hg : g = nI (SMc q i) := hg
  by_cases ce : 22 ≤ i
  · have : i = 22 := by omega
    subst this
    exact Or.inr ⟨g, by simp only [sp_E_0_allConditions_L1, if_pos ce], hg⟩
  · refine Or.inl ⟨(g + nI (min (q i) 4), i + 1), by simp only [sp_E_0_allConditions_L1, slet, if_neg ce], ⟨show i + 1 ≤ 22 by omega, ?_⟩, show 22 - (i + 1) < 22 - i by omega⟩
    show g + nI (min (q i) 4) = nI (SMc q i + min (q i) 4)
    rw [hg]
    exact nI_add _ _
theorem manye2 {b m13_0 m13_1 m14_0 m14_1 ne k : Nat} {r7 : Nat → Nat} (e : bkN b m14_0 m14_1 = ne) (hne : ne ≤ 14) (hk : k < ne) : sp_EM_manyOf_e b r7 m13_0 m13_1 m14_0 m14_1 k = min (r7 (14 * b + k)) 4 + 1 := by
  have e2 : (if b = 0 then m14_0 else m14_1) = ne := e
  have hi : sp_EM_isEdge_k b m14_0 m14_1 k = 1 := by
    unfold sp_EM_isEdge_k
    simp only [slet, e2]
    have hk1 : (nI k : Int32) ≤ nI ne - 1 := by
      have e3 : (nI ne : Int32) - 1 = nI (ne - 1) := pk_sub (a := ne) (b := 1) (by omega)
      rw [e3]
      exact (nI_leI (by omega) (by omega)).mpr (by omega)
    exact if_pos ⟨Int32.not_lt.mp (nI_pos (by omega)), hk1⟩
  simp only [sp_EM_manyOf_e, slet, hi, Nat.one_ne_zero, reduceIte]
theorem allc_L1 {b nc np ne : Nat} {st0 : Int32} {f4 : Nat → Int32} {q5 q6 : Nat → Nat} {f7 : Nat → Int32} {q8 q9 : Nat → Nat} {f10 f11 : Nat → Int32} {f3 : Nat → Int32} {r4 r5 r6 r7 : Nat → Nat} {f8 : Nat → Int32} {r9 r10 : Nat → Nat} {r11 : Nat → Int32} {m12_0 m12_1 m13_0 m13_1 m14_0 m14_1 m15_0 m15_1 : Nat} (h : MB b nc np ne st0 f4 q5 q6 f7 q8 q9 f10 f11 f3 r4 r5 r6 r7 f8 r9 r10 r11 (bkN b m12_0 m12_1) (bkN b m13_0 m13_1) (bkN b m14_0 m14_1) (bkN b m15_0 m15_1)) : (itrv default (sp_EM_about_L1 b r4 m13_0 m13_1) (nI (SMc q8 14), 0)).1 = nI (SMc q8 22) := by
  obtain ⟨⟨-, -, e13, hp8, -, -⟩, -, -, hz, -, h8, -, -⟩ := h
  have e13' : (if b = 0 then m13_0 else m13_1) = np := e13
  refine itrv_inv (d := default) (f := sp_EM_about_L1 b r4 m13_0 m13_1) (fun t => t.2 ≤ np ∧ t.1 = nI (SMc q8 (14 + t.2))) (fun r => r.1 = nI (SMc q8 22)) (fun t => np - t.2) ?_ _ (nI (SMc q8 14), 0) (Nat.le_refl _) ⟨Nat.zero_le _, rfl⟩
  rintro ⟨g, j⟩ ⟨hj, hg⟩
  have hj : j ≤ np := hj
  have hg : g = nI (SMc q8 (14 + j)) := hg
  by_cases ce : np ≤ j
  · have : j = np := by omega
    subst this
    refine Or.inr ⟨(g, 0), by simp only [sp_EM_about_L1, slet, e13', if_pos ce], ?_⟩
    show g = nI (SMc q8 22)
    have z := SMc_z (q := q8) (a := 14 + j) (8 - j) (fun i h1 h2 => by
      have := (hz (i - 14) (by omega) (by omega)).2
      rw [show 14 + (i - 14) = i by omega] at this
      exact this)
    rw [show 14 + j + (8 - j) = 22 by omega] at z
    rw [hg, z]
  · obtain ⟨d1, d2, -⟩ := h8 j (by omega)
    have hm : sp_EM_manyOf_p b r4 m13_0 m13_1 (100 + j) = q8 (14 + j) + 1 := by
      rw [manyp e13 hp8 (by omega), ← d1, Nat.min_eq_left d2]
    refine Or.inl ⟨(g + nI (q8 (14 + j)), j + 1), by simp only [sp_EM_about_L1, slet, e13', if_neg ce, hm, if_neg (Nat.succ_ne_zero _), Nat.add_sub_cancel], ⟨show j + 1 ≤ np by omega, ?_⟩, show np - (j + 1) < np - j by omega⟩
    show g + nI (q8 (14 + j)) = nI (SMc q8 (14 + j) + min (q8 (14 + j)) 4)
    rw [hg, Nat.min_eq_left (show q8 (14 + j) ≤ 4 by omega)]
    exact nI_add _ _
theorem allc_M {b nc np ne : Nat} {st0 : Int32} {f4 : Nat → Int32} {q5 q6 : Nat → Nat} {f7 : Nat → Int32} {q8 q9 : Nat → Nat} {f10 f11 : Nat → Int32} {f3 : Nat → Int32} {r4 r5 r6 r7 : Nat → Nat} {f8 : Nat → Int32} {r9 r10 : Nat → Nat} {r11 : Nat → Int32} {m12_0 m12_1 m13_0 m13_1 m14_0 m14_1 m15_0 m15_1 : Nat} (h : MB b nc np ne st0 f4 q5 q6 f7 q8 q9 f10 f11 f3 r4 r5 r6 r7 f8 r9 r10 r11 (bkN b m12_0 m12_1) (bkN b m13_0 m13_1) (bkN b m14_0 m14_1) (bkN b m15_0 m15_1)) : (itrv default (sp_EM_about_L2 b r4 r7 m13_0 m13_1 m14_0 m14_1) (0, 0)).1 = nI (SMc q8 22) := by
  have hL1 := allc_L1 h
  obtain ⟨⟨-, -, e13, hp8, e14, he⟩, -, -, -, hz, -, h9, -⟩ := h
  have e14' : (if b = 0 then m14_0 else m14_1) = ne := e14
  refine itrv_inv (d := default) (f := sp_EM_about_L2 b r4 r7 m13_0 m13_1 m14_0 m14_1) (fun t => t.2 ≤ ne ∧ t.1 = nI (SMc q8 t.2)) (fun r => r.1 = nI (SMc q8 22)) (fun t => ne - t.2) ?_ _ (0, 0) (Nat.le_refl _) ⟨Nat.zero_le _, rfl⟩
  rintro ⟨g, i⟩ ⟨hi, hg⟩
  have hi : i ≤ ne := hi
  have hg : g = nI (SMc q8 i) := hg
  by_cases ce : ne ≤ i
  · have : i = ne := by omega
    subst this
    refine Or.inr ⟨itrv default (sp_EM_about_L1 b r4 m13_0 m13_1) (g, 0), by simp only [sp_EM_about_L2, slet, e14', if_pos ce], ?_⟩
    have z := SMc_z (q := q8) (a := i) (14 - i) (fun k h1 h2 => hz k h1 (by omega))
    rw [show i + (14 - i) = 14 by omega] at z
    rw [hg, ← z]
    exact hL1
  · obtain ⟨d1, d2, -⟩ := h9 i (by omega)
    have hm : sp_EM_manyOf_e b r7 m13_0 m13_1 m14_0 m14_1 i = q8 i + 1 := by
      rw [manye2 e14 he (by omega), ← d1, Nat.min_eq_left d2]
    refine Or.inl ⟨(g + nI (q8 i), i + 1), by simp only [sp_EM_about_L2, slet, e14', if_neg ce, hm, if_neg (Nat.succ_ne_zero _), Nat.add_sub_cancel], ⟨show i + 1 ≤ ne by omega, ?_⟩, show ne - (i + 1) < ne - i by omega⟩
    show g + nI (q8 i) = nI (SMc q8 i + min (q8 i) 4)
    rw [hg, Nat.min_eq_left d2]
    exact nI_add _ _
/-- about -/
theorem about_same {b nc np ne : Nat} {st0 : Int32} {f4 : Nat → Int32} {q5 q6 : Nat → Nat} {f7 : Nat → Int32} {q8 q9 : Nat → Nat} {f10 f11 : Nat → Int32} {f3 : Nat → Int32} {r4 r5 r6 r7 : Nat → Nat} {f8 : Nat → Int32} {r9 r10 : Nat → Nat} {r11 : Nat → Int32} {m12_0 m12_1 m13_0 m13_1 m14_0 m14_1 m15_0 m15_1 : Nat} (h : MB b nc np ne st0 f4 q5 q6 f7 q8 q9 f10 f11 f3 r4 r5 r6 r7 f8 r9 r10 r11 (bkN b m12_0 m12_1) (bkN b m13_0 m13_1) (bkN b m14_0 m14_1) (bkN b m15_0 m15_1)) (hst : (st0 = -1 ∧ bkN b m15_0 m15_1 = 0) ∨ ∃ s, s < np ∧ st0 = nI s ∧ bkN b m15_0 m15_1 = s + 1) {hs gc gfull x29 m42 : Nat} {gx gway x45 : Int32} {q1 : Nat → Nat} {s2 s3 s4 : Nat → Int32} {qs : Nat → Nat} {fz : Nat → Nat → Int32} {r38 : Nat → Nat} {r39 r40 r41 r34 r43 r44 : Nat → Int32} (hL : SGL nc np hs gc gfull gx gway q1 s2 s3 s4 qs fz x29 m42 x45 r38 r39 r40 r41 r34 r43 r44) (tp hk : Nat) (p0 : Int32) : (sp_EM_about b tp x29 hk x45 r4 r7 m12_0 m12_1 m13_0 m13_1 m14_0 m14_1 m15_0 m15_1 m42 r44 p0).1 = sp_E_8_about tp hs nc np ne st0 q8 gc gfull gway hk p0 := by
  have hA := allc_M h
  have hp8 : np ≤ 8 := h.1.2.2.2.1
  have ec : sp_EM_clocks b m12_0 m12_1 = nc := h.1.1
  have e13 : (if b = 0 then m13_0 else m13_1) = np := h.1.2.2.1
  have e14 : (if b = 0 then m14_0 else m14_1) = ne := h.1.2.2.2.2.1
  obtain ⟨e, hL⟩ := hL
  by_cases c0 : p0 = 0
  · simp only [sp_E_8_about, sp_EM_about, slet, if_pos c0, ec]
  · by_cases c1 : p0 = 1
    · simp only [sp_E_8_about, sp_EM_about, slet, if_neg c0, if_pos c1, e13]
    · by_cases c2 : p0 = 2
      · simp only [sp_E_8_about, sp_EM_about, slet, if_neg c0, if_neg c1, if_pos c2, e14]
      · by_cases c3 : p0 = 3
        · rcases hst with ⟨a1, a2⟩ | ⟨s, hs1, a1, a2⟩
          · have a2 : (if b = 0 then m15_0 else m15_1) = 0 := a2
            simp only [sp_E_8_about, sp_EM_about, slet, if_neg c0, if_neg c1, if_neg c2, if_pos c3, a1, a2, if_pos]
          · have a2 : (if b = 0 then m15_0 else m15_1) = s + 1 := a2
            have n1 : ¬ (nI s : Int32) = -1 := pu_nneg (by omega) (by decide)
            simp only [sp_E_8_about, sp_EM_about, slet, if_neg c0, if_neg c1, if_neg c2, if_pos c3, a1, a2, if_neg n1, if_neg (Nat.succ_ne_zero _), Nat.add_sub_cancel, nI_clamp (show s < 2 ^ 31 by omega)]
        · by_cases c4 : p0 = 4
          · simp only [sp_E_8_about, sp_EM_about, slet, if_neg c0, if_neg c1, if_neg c2, if_neg c3, if_pos c4, allc_E q8]
            exact hA
          · by_cases c5 : p0 = 5
            · rcases hL with z | ⟨z, rfl, a2, a3, a4, a5, Z, a6⟩
              · have x0 : x29 = 0 := by omega
                simp only [sp_E_8_about, sp_EM_about, slet, if_neg c0, if_neg c1, if_neg c2, if_neg c3, if_neg c4, if_pos c5, if_pos x0, if_pos z]
              · have x0 : ¬ x29 = 0 := by omega
                have z0 : ¬ hs = 0 := by omega
                simp only [sp_E_8_about, sp_EM_about, slet, if_neg c0, if_neg c1, if_neg c2, if_neg c3, if_neg c4, if_pos c5, if_neg x0, if_neg z0]
            · by_cases c6 : p0 = 6
              · rcases hL with z | ⟨z, rfl, a2, a3, a4, a5, Z, a6⟩
                · have x0 : x29 = 0 := by omega
                  simp only [sp_E_8_about, sp_EM_about, slet, if_neg c0, if_neg c1, if_neg c2, if_neg c3, if_neg c4, if_neg c5, if_pos c6, if_pos x0, if_pos z]
                · have x0 : ¬ x29 = 0 := by omega
                  have z0 : ¬ hs = 0 := by omega
                  rcases a5 with ⟨b1, b2⟩ | ⟨b1, b2, -⟩
                  · simp only [sp_E_8_about, sp_EM_about, slet, if_neg c0, if_neg c1, if_neg c2, if_neg c3, if_neg c4, if_neg c5, if_pos c6, if_neg x0, if_neg z0, b2, b1, bit_of (Nat.zero_le 1), if_pos] <;> rfl
                  · simp only [sp_E_8_about, sp_EM_about, slet, if_neg c0, if_neg c1, if_neg c2, if_neg c3, if_neg c4, if_neg c5, if_pos c6, if_neg x0, if_neg z0, b2, b1, bit_of (Nat.le_refl 1), if_neg (show ¬ (1 : Int32) = 0 by decide)] <;> rfl
              · by_cases c7 : p0 = 7
                · rcases hL with z | ⟨z, rfl, a2, a3, a4, a5, Z, a6⟩
                  · have x0 : x29 = 0 := by omega
                    simp only [sp_E_8_about, sp_EM_about, slet, if_neg c0, if_neg c1, if_neg c2, if_neg c3, if_neg c4, if_neg c5, if_neg c6, if_pos c7, if_pos x0, if_pos z]
                  · have x0 : ¬ x29 = 0 := by omega
                    have z0 : ¬ hs = 0 := by omega
                    simp only [sp_E_8_about, sp_EM_about, slet, if_neg c0, if_neg c1, if_neg c2, if_neg c3, if_neg c4, if_neg c5, if_neg c6, if_pos c7, if_neg x0, if_neg z0]
                    exact a3.symm
                · by_cases c8 : p0 = 8
                  · simp only [sp_E_8_about, sp_EM_about, slet, if_neg c0, if_neg c1, if_neg c2, if_neg c3, if_neg c4, if_neg c5, if_neg c6, if_neg c7, if_pos c8]
                  · by_cases c9 : p0 = 9
                    · simp only [sp_E_8_about, sp_EM_about, slet, if_neg c0, if_neg c1, if_neg c2, if_neg c3, if_neg c4, if_neg c5, if_neg c6, if_neg c7, if_neg c8, if_pos c9]
                    · simp only [sp_E_8_about, sp_EM_about, slet, if_neg c0, if_neg c1, if_neg c2, if_neg c3, if_neg c4, if_neg c5, if_neg c6, if_neg c7, if_neg c8, if_neg c9]
