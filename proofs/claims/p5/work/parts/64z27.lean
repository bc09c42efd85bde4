theorem clear_1 (f4 : Nat → Int32) (q8 : Nat → Nat) : ∃ z4 z8, sp_E_0_clear f4 q8 = (z4, z8) ∧ (∀ i, i < 8 → z4 i = 0) ∧ (∀ i, i < 22 → z8 i = 0) := by
  have h1 : ∀ z4 : Nat → Int32, ∃ z8, itrv default (sp_E_0_clear_L1 z4) (q8, 0) = (z4, z8) ∧ (∀ i, i < 22 → z8 i = 0) := by
    intro z4
    refine itrv_inv (d := default) (f := sp_E_0_clear_L1 z4) (fun t => t.2 ≤ 22 ∧ ∀ i, i < t.2 → t.1 i = 0) (fun b => ∃ z8, b = (z4, z8) ∧ (∀ i, i < 22 → z8 i = 0)) (fun t => 22 - t.2) ?_ 22 (q8, 0) (by show 22 - 0 ≤ 22; omega) ⟨Nat.zero_le _, fun i h => absurd h (Nat.not_lt_zero i)⟩
    rintro ⟨z, n⟩ ⟨ha, hb⟩
    have ha : n ≤ 22 := ha
    by_cases h : 22 ≤ n
    · exact Or.inr ⟨(z4, z), by simp only [sp_E_0_clear_L1, if_pos h], z, rfl, fun i hi => hb i (by show i < n; omega)⟩
    · refine Or.inl ⟨(updN z n 0, n + 1), by simp only [sp_E_0_clear_L1, if_neg h, slet], ⟨by show n + 1 ≤ 22; omega, fun i hi => ?_⟩, by show 22 - (n + 1) < 22 - n; omega⟩
      have hi : i < n + 1 := hi
      show updN z n 0 i = 0
      by_cases e : i = n
      · subst e; exact updN_s
      · rw [updN_n e]; exact hb i (by show i < n; omega)
  refine itrv_inv (d := default) (f := sp_E_0_clear_L2 q8) (fun t => t.2 ≤ 8 ∧ ∀ i, i < t.2 → t.1 i = 0) (fun b => ∃ z4 z8, b = (z4, z8) ∧ (∀ i, i < 8 → z4 i = 0) ∧ (∀ i, i < 22 → z8 i = 0)) (fun t => 8 - t.2) ?_ 8 (f4, 0) (by show 8 - 0 ≤ 8; omega) ⟨Nat.zero_le _, fun i h => absurd h (Nat.not_lt_zero i)⟩
  rintro ⟨z, n⟩ ⟨ha, hb⟩
  have ha : n ≤ 8 := ha
  by_cases h : 8 ≤ n
  · obtain ⟨z8, e, hz⟩ := h1 z
    exact Or.inr ⟨_, by simp only [sp_E_0_clear_L2, if_pos h] <;> rfl, z, z8, e, fun i hi => hb i (by show i < n; omega), hz⟩
  · refine Or.inl ⟨(upd z n (vp_nar .boolean 0), n + 1), by simp only [sp_E_0_clear_L2, if_neg h, slet], ⟨by show n + 1 ≤ 8; omega, fun i hi => ?_⟩, by show 8 - (n + 1) < 8 - n; omega⟩
    have hi : i < n + 1 := hi
    show upd z n (vp_nar .boolean 0) i = 0
    by_cases e : i = n
    · subst e; rw [upd_s]; rfl
    · rw [upd_n e]; exact hb i (by show i < n; omega)
/-- the class's reading and the reference's automaton, side by side -/
theorem ra_1 {f fw : Nat → Int32} (hw : ∀ i, i < 8 → fw i = WW i) (hf : ∀ i, f i ≠ -1) {len : Nat} (hl : len ≤ 900) (vl x27 : Int32) (x29 x30 x33 : Nat) (fcn0 fpn0 f40 : Nat → Int32) (q50 q60 : Nat → Nat) (f70 : Nat → Int32) (q80 q90 : Nat → Nat) (f100 f110 f120 f130 f140 f150 f160 f10_ f20_ f30_ : Nat → Int32) (r40 r50 r60 r70 : Nat → Nat) (f80 : Nat → Int32) (r90 r100 : Nat → Nat) (r110 : Nat → Int32) (c0 c1 p0 p1 e0 e1 b0 b1 : Nat) :
    ∃ u q8 q9 f10 f11 f12 f13 f14 f15 f16 fcn fpn f4 q5 q6 f7 fa fat ln p k v a nc np ne st0, sp_E_4_reads vl f fw fcn0 fpn0 f40 q50 q60 f70 q80 q90 f100 f110 f120 f130 f140 f150 f160 len = (u, q8, q9, f10, f11, f12, f13, f14, f15, f16, fcn, fpn, f4, q5, q6, f7, fa, fat, ln, p, k, v, a, nc, np, ne, st0) ∧
      ∃ r f1 r10 r11 f2 f3 r4 r5 r6 r7 f8 r9 c0' c1' p0' p1' e0' e1' b0' b1' th bk sz at_ be tok va fkd fpl w wa rb x29' x30' x33', sp_EM_automaton 0 len x27 x29 x30 x33 f10_ f20_ f30_ r40 r50 r60 r70 f80 r90 r100 r110 c0 c1 p0 p1 e0 e1 b0 b1 f = (r, f1, r10, r11, f2, f3, r4, r5, r6, r7, f8, r9, c0', c1', p0', p1', e0', e1', b0', b1', th, bk, sz, at_, be, tok, va, fkd, fpl, w, wa, rb, x29', x30', x33') ∧
      ((u = 0 ∧ r = -1 ∧ fkd = fa ∧ fpl = fat ∧ bk = 0) ∨ (u = 1 ∧ r = nI np ∧ fkd = fa ∧ fpl = fat ∧ bk = 1 ∧ np ≤ 8 ∧ MR_1 nc np ne st0 fcn fpn f4 q5 q6 f7 q8 q9 f10 f11 f1 f2 f3 r4 r5 r6 r7 f8 r9 r10 r11 c1' p1' e1' b1')) := by
  obtain ⟨z4, z8, hc, hz4, hz8⟩ := clear_1 f40 q80
  obtain ⟨⟨p, k, v, a⟩, h1⟩ : ∃ x, sp_E_4_advance len 0 vl f fw = x := ⟨_, rfl⟩
  obtain ⟨t1, w1, g1, n1, s1, l1⟩ := adv_ex hw hf hl (Nat.zero_le _) h1
  have hA : sp_E_4_reads vl f fw fcn0 fpn0 f40 q50 q60 f70 q80 q90 f100 f110 f120 f130 f140 f150 f160 len = itrv default (sp_E_4_reads_L1 f fw f140 f150 f160 len) (z8, q90, f100, f110, f120, f130, fcn0, fpn0, z4, q50, q60, f70, 0, -1, p, k, v, a, 0, 0, 0, -1, 0) := by
    simp only [sp_E_4_reads, slet, hc, h1]
  have hM0 : MR_1 0 0 0 (-1) fcn0 fpn0 z4 q50 q60 f70 z8 q90 f100 f110 f10_ f20_ f30_ r40 r50 r60 r70 f80 r90 r100 r110 0 0 0 0 := ⟨⟨rfl, by decide, rfl, by decide, rfl, by decide⟩, Or.inl ⟨rfl, rfl⟩, fun i h => absurd h (Nat.not_lt_zero i), fun i h => absurd h (Nat.not_lt_zero i), fun i h => absurd h (Nat.not_lt_zero i), fun i _ h => ⟨hz4 i h, hz8 _ (by omega)⟩, fun i _ h => hz8 i (by omega), fun i h => absurd h (Nat.not_lt_zero i), fun i h => absurd h (Nat.not_lt_zero i), fun i h => absurd h (Nat.not_lt_zero i)⟩
  obtain ⟨u, q8, q9, f10, f11, f12, f13, f14, f15, f16, fcn, fpn, f4, q5, q6, f7, fa, fat, ln, p', k', v', a', nc, np, ne, st0, hX, at_, be, tok, va, w, wa, f1, f2, f3, r4, r5, r6, r7, f8, r9, r10, r11, m12, m13, m14, m15, hY, hR⟩ := lines_1 hw hf hl f140 f150 f160 x27 (f120 := f120) (f130 := f130) hM0 s1
  rw [hX] at hA
  refine ⟨u, q8, q9, f10, f11, f12, f13, f14, f15, f16, fcn, fpn, f4, q5, q6, f7, fa, fat, ln, p', k', v', a', nc, np, ne, st0, hA, ?_⟩
  rcases hR with ⟨rfl, hb1, rfl, rfl⟩ | ⟨rfl, rfl, rfl, rfl, rfl, rfl⟩ | ⟨rfl, rfl, rfl, rfl, rfl, hb1, s0, hM, hs⟩
  · have hB : sp_EM_automaton 0 len x27 x29 x30 x33 f10_ f20_ f30_ r40 r50 r60 r70 f80 r90 r100 r110 c0 c1 p0 p1 e0 e1 b0 b1 f = (-1, f1, r10, r11, f2, f3, r4, r5, r6, r7, f8, r9, c0, m12, p0, m13, e0, m14, b0, m15, 0, 0, len, at_, be, tok, va, nI w, fat, w, fat, 1, x29, x30, x33) := by
      simp only [sp_EM_automaton, slet, Nat.one_ne_zero, reduceIte, n1, hY, good_n hb1, if_neg hb1]
      try rfl
    exact ⟨_, _, _, _, _, _, _, _, _, _, _, _, _, _, _, _, _, _, _, _, _, _, _, _, _, _, _, _, _, _, _, _, _, _, _, hB, Or.inl ⟨rfl, rfl, rfl, rfl, rfl⟩⟩
  · have hfl : sp_EM_fails fat 0 0 wa 6 = (6, fat) := by simp [sp_EM_fails]
    have hB : sp_EM_automaton 0 len x27 x29 x30 x33 f10_ f20_ f30_ r40 r50 r60 r70 f80 r90 r100 r110 c0 c1 p0 p1 e0 e1 b0 b1 f = (-1, f1, r10, r11, f2, f3, r4, r5, r6, r7, f8, r9, c0, m12, p0, 0, e0, m14, b0, m15, 0, 0, len, fat, be, 0, va, 6, fat, 6, fat, 1, x29, x30, x33) := by
      simp only [sp_EM_automaton, slet, Nat.one_ne_zero, reduceIte, n1, hY, good_0, hfl, good_n (show (6 : Nat) ≠ 0 by decide), if_neg (show ¬ (6 : Nat) = 0 by decide)]
      try rfl
    exact ⟨_, _, _, _, _, _, _, _, _, _, _, _, _, _, _, _, _, _, _, _, _, _, _, _, _, _, _, _, _, _, _, _, _, _, _, hB, Or.inl ⟨rfl, rfl, rfl, rfl, rfl⟩⟩
  · have hnp : m13 = np := hM.1.2.2.1
    have hn8 : np ≤ 8 := hM.1.2.2.2.1
    subst hnp
    by_cases h15 : m15 = 0
    · have hMR : MR_1 nc m13 ne st0 fcn fpn f4 q5 q6 f7 q8 q9 f10 f11 f1 f2 f3 r4 r5 r6 r7 f8 r9 r10 r11 m12 m13 m14 (0 + 1) := by
        refine ⟨hM.1, Or.inr ⟨0, by omega, ?_, rfl⟩, hM.2.2⟩
        rcases hM.2.1 with ⟨z1, -⟩ | ⟨s, -, -, z⟩
        · rcases hs with ⟨-, z⟩ | ⟨z, -⟩
          · exact z
          · exact absurd z1 z
        · omega
      have hB : sp_EM_automaton 0 len wa x29 x30 x33 f10_ f20_ f30_ r40 r50 r60 r70 f80 r90 r100 r110 c0 c1 p0 p1 e0 e1 b0 b1 f = (nI m13, f1, r10, r11, f2, f3, r4, r5, r6, r7, f8, r9, c0, m12, p0, m13, e0, m14, b0, 0 + 1, 0, 1, len, at_, be, tok, va, 0, -1, 0, wa, 1, 0, 0, 0) := by
        simp only [sp_EM_automaton, slet, Nat.one_ne_zero, reduceIte, n1, hY, good_0, if_neg hb1, if_pos h15, sp_EM_another]
        try rfl
      exact ⟨_, _, _, _, _, _, _, _, _, _, _, _, _, _, _, _, _, _, _, _, _, _, _, _, _, _, _, _, _, _, _, _, _, _, _, hB, Or.inr ⟨rfl, rfl, rfl, rfl, rfl, hn8, hMR⟩⟩
    · have hMR : MR_1 nc m13 ne st0 fcn fpn f4 q5 q6 f7 q8 q9 f10 f11 f1 f2 f3 r4 r5 r6 r7 f8 r9 r10 r11 m12 m13 m14 m15 := by
        obtain ⟨s, z1, z2, z3⟩ := hM.2.1.resolve_left (fun z => h15 z.2)
        have hs0 : s0 ≠ -1 := by rw [z2]; exact pu_nneg (n := s) (k := -1) (by omega) (by decide)
        rcases hs with ⟨z, -⟩ | ⟨-, z⟩
        · exact absurd z hs0
        · exact ⟨hM.1, Or.inr ⟨s, z1, z.trans z2, z3⟩, hM.2.2⟩
      have hB : sp_EM_automaton 0 len wa x29 x30 x33 f10_ f20_ f30_ r40 r50 r60 r70 f80 r90 r100 r110 c0 c1 p0 p1 e0 e1 b0 b1 f = (nI m13, f1, r10, r11, f2, f3, r4, r5, r6, r7, f8, r9, c0, m12, p0, m13, e0, m14, b0, m15, 0, 1, len, at_, be, tok, va, 0, -1, 0, wa, 1, 0, 0, 0) := by
        simp only [sp_EM_automaton, slet, Nat.one_ne_zero, reduceIte, n1, hY, good_0, if_neg hb1, if_neg h15, sp_EM_another]
        try rfl
      exact ⟨_, _, _, _, _, _, _, _, _, _, _, _, _, _, _, _, _, _, _, _, _, _, _, _, _, _, _, _, _, _, _, _, _, _, _, hB, Or.inr ⟨rfl, rfl, rfl, rfl, rfl, hn8, hMR⟩⟩
