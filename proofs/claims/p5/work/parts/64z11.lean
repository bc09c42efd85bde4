/-- a condition of a place -/
theorem rc1_1 {f fw fcn f1 f11 : Nat → Int32} (hw : ∀ i, i < 8 → fw i = WW i) (hf : ∀ i, f i ≠ -1) {len pos nc a0 : Nat} (hl : len ≤ 900) (hp : pos ≤ len) (hn : ∀ i, i < nc → fcn i = f1 (3 + i)) {vl fa fat x27 : Int32} {q9 q10 : Nat → Nat}
    {p1 k1 u p2 k2 h p3 k3 p4 k4 : Nat} {v1 a1 fa1 fat1 v2 a2 fa2 fat2 v3 a3 v4 a4 : Int32} (h1 : sp_E_4_advance len pos vl f fw = (p1, k1, v1, a1)) (h2 : sp_E_4_toldName_c fa fat k1 v1 a1 fcn nc = (u, fa1, fat1)) (h3 : sp_E_4_advance len p1 v1 f fw = (p2, k2, v2, a2)) (h4 : sp_E_4_readHow fa1 fat1 len p2 k2 v2 a2 f fw 1 = (h, fa2, fat2, p3, k3, v3, a3)) (h5 : sp_E_4_advance len p3 v3 f fw = (p4, k4, v4, a4))
    {z10 z9 : Nat → Nat} {z11 : Nat → Int32} {z20 z23 z27 : Int32} {z21 z22 z26 : Nat} (hB : sp_EM_readCondition1_1 len pos 0 x27 f1 q9 q10 f11 nc f a0 = (z10, z11, z9, z20, z21, z22, z23, z26, z27)) :
    (u = 0 ∧ z26 ≠ 0 ∧ fa1 = nI z26 ∧ fat1 = z27) ∨ (u ≠ 0 ∧ h = 0 ∧ z26 ≠ 0 ∧ fa2 = nI z26 ∧ fat2 = z27) ∨ (u ≠ 0 ∧ h ≠ 0 ∧ ¬ k3 = 3 ∧ z26 = fk k3 2 ∧ z27 = a3) ∨ (u ≠ 0 ∧ h ≠ 0 ∧ k3 = 3 ∧ ¬ v3 ≤ 20 ∧ z26 = 4 ∧ z27 = a3) ∨
    (u ≠ 0 ∧ h ≠ 0 ∧ k3 = 3 ∧ v3 ≤ 20 ∧ z26 = 0 ∧ z27 = x27 ∧ fa2 = fa ∧ fat2 = fat ∧ u - 1 < nc ∧ h ≤ 5 ∧ z9 = updN q9 a0 (u - 1) ∧ z10 = updN q10 a0 (h - 1) ∧ z11 = upd f11 a0 v3 ∧ (∃ g, TS len g p4 k4 v4 a4 z21 z22 z23 z20 ∧ pos ≤ g)) := by
  obtain ⟨t1, w1, g1, n1, s1, l1⟩ := adv_ex hw hf hl hp h1
  obtain ⟨c, w, wa, e2⟩ : ∃ c w wa, sp_EM_toldClock_1 a1 t1 w1 0 x27 f1 nc = (c, w, wa) := ⟨_, _, _, rfl⟩
  have hp1 := s1.le
  rcases tc_1 s1.tok hn h2 e2 with ⟨rfl, hw0, r1, r2, rfl⟩ | ⟨rfl, hc, rfl, rfl, rfl, rfl, rfl⟩
  · refine Or.inl ⟨rfl, ?_⟩
    simp [sp_EM_readCondition1_1, slet, n1, e2, good_n hw0] at hB
    obtain ⟨-, -, -, -, -, -, -, rfl, rfl⟩ := hB
    exact ⟨hw0, r1, r2⟩
  obtain ⟨t2, w2, g2, n2, s2, l2⟩ := adv_ex hw hf hl hp1 h3
  have hp2 := s2.le
  have i60 := sign_iff s2.tok (c := 60) (j := 4) (Or.inl ⟨rfl, rfl⟩)
  have i61 := sign_iff s2.tok (c := 61) (j := 5) (Or.inr (Or.inl ⟨rfl, rfl⟩))
  have i62 := sign_iff s2.tok (c := 62) (j := 6) (Or.inr (Or.inr (Or.inl ⟨rfl, rfl⟩)))
  have hfl := fails_eq s2.tok
  refine Or.inr ?_
  have hu : c + 1 ≠ 0 := by omega
  -- behind the sign
  have fin : ∀ {pj kj : Nat} {vj aj : Int32} {tj : Nat} {wj : Int32} {gj hj : Nat}, TS len gj pj kj vj aj pj tj wj aj → pos ≤ gj → hj ≠ 0 → hj ≤ 5 → (h, fa2, fat2, p3, k3, v3, a3) = (hj, fa1, fat1, pj, kj, vj, aj) →
      (let x := (if tj = 2 then (if wj ≤ 20 then (0, wa) else sp_EM_fails aj tj 0 wa 4) else sp_EM_fails aj tj 0 wa 2); let N := sp_EM_next len pj f; if sp_EM_isGood x.1 = 0 then (updN q10 a0 (hj - 1), upd f11 a0 wj, updN q9 a0 c, aj, pj, tj, wj, x.1, x.2) else (updN q10 a0 (hj - 1), upd f11 a0 wj, updN q9 a0 c, N.1, N.2.1, N.2.2.1, N.2.2.2, x.1, x.2)) = (z10, z11, z9, z20, z21, z22, z23, z26, z27) →
      (c + 1 ≠ 0 ∧ h = 0 ∧ z26 ≠ 0 ∧ fa2 = nI z26 ∧ fat2 = z27) ∨ (c + 1 ≠ 0 ∧ h ≠ 0 ∧ ¬ k3 = 3 ∧ z26 = fk k3 2 ∧ z27 = a3) ∨ (c + 1 ≠ 0 ∧ h ≠ 0 ∧ k3 = 3 ∧ ¬ v3 ≤ 20 ∧ z26 = 4 ∧ z27 = a3) ∨
      (c + 1 ≠ 0 ∧ h ≠ 0 ∧ k3 = 3 ∧ v3 ≤ 20 ∧ z26 = 0 ∧ z27 = wa ∧ fa2 = fa1 ∧ fat2 = fat1 ∧ c + 1 - 1 < nc ∧ h ≤ 5 ∧ z9 = updN q9 a0 (c + 1 - 1) ∧ z10 = updN q10 a0 (h - 1) ∧ z11 = upd f11 a0 v3 ∧ (∃ g, TS len g p4 k4 v4 a4 z21 z22 z23 z20 ∧ pos ≤ g)) := by
    intro pj kj vj aj tj wj gj hj sj lj hj0 hj5 eh hX
    simp only [Prod.mk.injEq] at eh
    obtain ⟨rfl, rfl, rfl, rfl, rfl, rfl, rfl⟩ := eh
    by_cases k3e : k3 = 3
    · subst k3e
      have ht := (tok_3 sj.tok).mp rfl
      have hv := tok_3v sj.tok
      subst hv
      rw [if_pos ht] at hX
      by_cases v2e : v3 ≤ 20
      · obtain ⟨t5, w5, g5, n5, s5, l5⟩ := adv_ex hw hf hl sj.le h5
        rw [if_pos v2e] at hX
        simp [good_0, n5] at hX
        obtain ⟨rfl, rfl, rfl, rfl, rfl, rfl, rfl, rfl, rfl⟩ := hX
        exact Or.inr (Or.inr (Or.inr ⟨hu, hj0, rfl, v2e, rfl, rfl, rfl, rfl, by omega, hj5, rfl, rfl, rfl, g5, s5, by have := sj.gle; omega⟩))
      · rw [if_neg v2e, fails_eq sj.tok] at hX
        simp [fk, sp_EM_isGood] at hX
        obtain ⟨rfl, rfl, rfl, rfl, rfl, rfl, rfl, rfl, rfl⟩ := hX
        exact Or.inr (Or.inr (Or.inl ⟨hu, hj0, rfl, v2e, rfl, rfl⟩))
    · rw [if_neg (fun z => k3e ((tok_3 sj.tok).mpr z)), fails_eq sj.tok] at hX
      have hz := good_n (fk_0 (k := k3) (kind := 2) (by decide))
      simp [hz] at hX
      obtain ⟨rfl, rfl, rfl, rfl, rfl, rfl, rfl, rfl, rfl⟩ := hX
      exact Or.inr (Or.inl ⟨hu, hj0, k3e, rfl, rfl⟩)
  by_cases q4 : k2 = 4
  · subst q4
    obtain ⟨⟨p5, k5, v5, a5⟩, e5⟩ : ∃ x, sp_E_4_advance len p2 v2 f fw = x := ⟨_, rfl⟩
    obtain ⟨t5, w5, g5, n5, s5, l5⟩ := adv_ex hw hf hl hp2 e5
    have i5 := sign_iff s5.tok (c := 61) (j := 5) (Or.inr (Or.inl ⟨rfl, rfl⟩))
    by_cases q5 : k5 = 5
    · obtain ⟨⟨p6, k6, v6, a6⟩, e6⟩ : ∃ x, sp_E_4_advance len p5 v5 f fw = x := ⟨_, rfl⟩
      obtain ⟨t6, w6, g6, n6, s6, l6⟩ := adv_ex hw hf hl s5.le e6
      refine fin (hj := 2) s6 (by have := s5.gle; have := s2.gle; have := s1.gle; omega) (by decide) (by decide) ?_ ?_
      · rw [← h4]; simp [sp_E_4_readHow, slet, e5, q5, e6]
      · rw [← hB]; simp [sp_EM_readCondition1_1, slet, n1, e2, good_0, n2, i60, i61, i62, n5, i5, q5, n6]
    · refine fin (hj := 1) s5 (by have := s2.gle; have := s1.gle; omega) (by decide) (by decide) ?_ ?_
      · rw [← h4]; simp [sp_E_4_readHow, slet, e5, q5]
      · rw [← hB]; simp [sp_EM_readCondition1_1, slet, n1, e2, good_0, n2, i60, i61, i62, n5, i5, q5]
  · refine Or.inl ⟨hu, ?_⟩
    have hz := good_n (fk_0 (k := k2) (kind := 2) (by decide))
    simp [sp_E_4_readHow, slet, q4, refT_eq] at h4
    obtain ⟨rfl, rfl, rfl, -⟩ := h4
    simp [sp_EM_readCondition1_1, slet, n1, e2, good_0, n2, i60, i61, i62, q4, hfl, hz] at hB
    obtain ⟨-, -, -, -, -, -, -, rfl, rfl⟩ := hB
    exact ⟨rfl, fk_0 (by decide), rfl, rfl⟩
