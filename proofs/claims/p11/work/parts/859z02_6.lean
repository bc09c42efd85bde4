theorem z_lt {p : Int32} {k : Nat} (hk : k < 2 ^ 31) : ¬ (nI k : Int32) < 0 := nI_pos hk
/-- a place told as an edge from 100 on -/
theorem cap_e {b k j : Nat} (hk : k < 14) (hj : j < 4) : (80 * b + 4 * k + j) % 80 < 56 := by
  have e : 80 * b + 4 * k + j = (4 * k + j) + 80 * b := by omega
  rw [e, Nat.add_mul_mod_self_left, Nat.mod_eq_of_lt (by omega)]
  omega
theorem cap_p {b k j : Nat} (hk : k < 8) (hj : j < 3) : ¬ (80 * b + 56 + 3 * k + j) % 80 < 56 := by
  have e : 80 * b + 56 + 3 * k + j = (56 + 3 * k + j) + 80 * b := by omega
  rw [e, Nat.add_mul_mod_self_left, Nat.mod_eq_of_lt (by omega)]
  omega
theorem y100 {p : Int32} {np : Nat} (hnp : np ≤ 8) (h : (0 : Int32) ≤ p - 100 ∧ p - 100 < nI np) : ∃ k, k < np ∧ p = nI (100 + k) := by
  obtain ⟨k, hk, e⟩ := pu_ult (x := p - 100) (b := np) (by omega) (Int32.not_lt.mpr h.1) h.2
  refine ⟨k, hk, ?_⟩
  have e1 : p = (p - 100) + 100 := by simp
  rw [e1, e, Nat.add_comm]
  exact nI_add k 100
theorem p100 (k : Nat) : (nI (100 + k) : Int32) - 100 = nI k := by
  have e : (nI (100 + k) : Int32) - nI 100 = nI (100 + k - 100) := pk_sub (a := 100 + k) (b := 100) (by omega)
  rw [Nat.add_sub_cancel_left] at e
  exact e
theorem manyp {b m13_0 m13_1 np k : Nat} {r4 : Nat → Nat} (e : bkN b m13_0 m13_1 = np) (hnp : np ≤ 8) (hk : k < np) : sp_EM_manyOf_p b r4 m13_0 m13_1 (100 + k) = min (r4 (8 * b + k)) 3 + 1 := by
  have e2 : (if b = 0 then m13_0 else m13_1) = np := e
  have hi : sp_EM_isPlace_k b m13_0 m13_1 (100 + k - 100) = 1 := by
    unfold sp_EM_isPlace_k
    simp only [slet, e2, Nat.add_sub_cancel_left]
    have hk1 : (nI k : Int32) ≤ nI np - 1 := by
      have e3 : (nI np : Int32) - 1 = nI (np - 1) := pk_sub (a := np) (b := 1) (by omega)
      rw [e3]
      exact (nI_leI (by omega) (by omega)).mpr (by omega)
    exact if_pos ⟨nI_pos' (by omega), hk1⟩
  have e4 : 8 * b + (100 + k) - 100 = 8 * b + k := by omega
  simp only [sp_EM_manyOf_p, slet, hi, e4, Nat.one_ne_zero, reduceIte]
theorem edges_5 {b ne m14_0 m14_1 : Nat} {q5 r5 r6 : Nat → Nat} (e : bkN b m14_0 m14_1 = ne) (h : ∀ i, i < ne → q5 i = r5 (14 * b + i)) (p : Int32) : sp_EM_edgesOf b r5 r6 m14_0 m14_1 p 1 = sp_E_0_edgesWith_5 ne q5 p := by
  have e2 : (if b = 0 then m14_0 else m14_1) = ne := e
  unfold sp_EM_edgesOf sp_E_0_edgesWith_5
  refine itrv_sim (d := default) (d' := default) (f := sp_EM_edgesOf_L1 b r5 r6 m14_0 m14_1 p 1) (g := sp_E_0_edgesWith_5_L1 ne q5 p) (fun t t' => t = t' ∧ t.2 ≤ ne) (fun a b => a = b) (fun t => ne - t.2) ?_ ne (0, 0) (0, 0) (Nat.sub_le _ _) ⟨rfl, Nat.zero_le _⟩
  rintro ⟨g, j⟩ _ ⟨rfl, hj⟩
  have hj : j ≤ ne := hj
  by_cases c : ne ≤ j
  · refine Or.inr ⟨g, ?_, ?_⟩
    · simp only [sp_EM_edgesOf_L1, slet, e2, if_pos c]
    · rw [itrv_inr (show sp_E_0_edgesWith_5_L1 ne q5 p (g, j) = .inr g by simp only [sp_E_0_edgesWith_5_L1, slet, if_pos c])]
  · have hq := h j (by omega)
    by_cases z : nI (min (q5 j) 7) = p
    · refine Or.inl ⟨(g ||| ((1 : Int32) <<< ((nI j : Int32) &&& 31)), j + 1), (g ||| ((1 : Int32) <<< ((nI j : Int32) &&& 31)), j + 1), ?_, ?_, ⟨rfl, by show j + 1 ≤ ne; omega⟩, by show ne - (j + 1) < ne - j; omega⟩
      · simp only [sp_EM_edgesOf_L1, slet, e2, if_neg c, Nat.one_ne_zero, reduceIte, sp_EM_outOf, ← hq, if_pos z]
      · simp only [sp_E_0_edgesWith_5_L1, slet, if_neg c, if_pos z]
    · refine Or.inl ⟨(g, j + 1), (g, j + 1), ?_, ?_, ⟨rfl, by show j + 1 ≤ ne; omega⟩, by show ne - (j + 1) < ne - j; omega⟩
      · simp only [sp_EM_edgesOf_L1, slet, e2, if_neg c, Nat.one_ne_zero, reduceIte, sp_EM_outOf, ← hq, if_neg z, Int32.or_zero]
      · simp only [sp_E_0_edgesWith_5_L1, slet, if_neg c, if_neg z]
theorem edges_6 {b ne m14_0 m14_1 : Nat} {q6 r5 r6 : Nat → Nat} (e : bkN b m14_0 m14_1 = ne) (h : ∀ i, i < ne → q6 i = r6 (14 * b + i)) (p : Int32) : sp_EM_edgesOf b r5 r6 m14_0 m14_1 p 0 = sp_E_0_edgesWith_6 ne q6 p := by
  have e2 : (if b = 0 then m14_0 else m14_1) = ne := e
  unfold sp_EM_edgesOf sp_E_0_edgesWith_6
  refine itrv_sim (d := default) (d' := default) (f := sp_EM_edgesOf_L1 b r5 r6 m14_0 m14_1 p 0) (g := sp_E_0_edgesWith_6_L1 ne q6 p) (fun t t' => t = t' ∧ t.2 ≤ ne) (fun a b => a = b) (fun t => ne - t.2) ?_ ne (0, 0) (0, 0) (Nat.sub_le _ _) ⟨rfl, Nat.zero_le _⟩
  rintro ⟨g, j⟩ _ ⟨rfl, hj⟩
  have hj : j ≤ ne := hj
  by_cases c : ne ≤ j
  · refine Or.inr ⟨g, ?_, ?_⟩
    · simp only [sp_EM_edgesOf_L1, slet, e2, if_pos c]
    · rw [itrv_inr (show sp_E_0_edgesWith_6_L1 ne q6 p (g, j) = .inr g by simp only [sp_E_0_edgesWith_6_L1, slet, if_pos c])]
  · have hq := h j (by omega)
    by_cases z : nI (min (q6 j) 7) = p
    · refine Or.inl ⟨(g ||| ((1 : Int32) <<< ((nI j : Int32) &&& 31)), j + 1), (g ||| ((1 : Int32) <<< ((nI j : Int32) &&& 31)), j + 1), ?_, ?_, ⟨rfl, by show j + 1 ≤ ne; omega⟩, by show ne - (j + 1) < ne - j; omega⟩
      · simp only [sp_EM_edgesOf_L1, slet, e2, if_neg c, eq_self, reduceIte, sp_EM_into, ← hq, if_pos z]
      · simp only [sp_E_0_edgesWith_6_L1, slet, if_neg c, if_pos z]
    · refine Or.inl ⟨(g, j + 1), (g, j + 1), ?_, ?_, ⟨rfl, by show j + 1 ≤ ne; omega⟩, by show ne - (j + 1) < ne - j; omega⟩
      · simp only [sp_EM_edgesOf_L1, slet, e2, if_neg c, eq_self, reduceIte, sp_EM_into, ← hq, if_neg z, Int32.or_zero]
      · simp only [sp_E_0_edgesWith_6_L1, slet, if_neg c, if_neg z]
/-- a place told: the same of both -/
theorem place_same {b nc np ne : Nat} {st0 : Int32} {f4 : Nat → Int32} {q5 q6 : Nat → Nat} {f7 : Nat → Int32} {q8 q9 : Nat → Nat} {f10 f11 : Nat → Int32} {f3 : Nat → Int32} {r4 r5 r6 r7 : Nat → Nat} {f8 : Nat → Int32} {r9 r10 : Nat → Nat} {r11 : Nat → Int32} {m12_0 m12_1 m13_0 m13_1 m14_0 m14_1 m15_0 m15_1 : Nat} (h : MB b nc np ne st0 f4 q5 q6 f7 q8 q9 f10 f11 f3 r4 r5 r6 r7 f8 r9 r10 r11 (bkN b m12_0 m12_1) (bkN b m13_0 m13_1) (bkN b m14_0 m14_1) (bkN b m15_0 m15_1)) (h01 : ∀ i, i < 8 → f4 i = 0 ∨ f4 i = 1) (p0 p1 : Int32) : (sp_EM_place b f3 r4 r5 r6 m13_0 m13_1 m14_0 m14_1 p0 p1).1 = sp_E_8_place np ne f4 q5 q6 q8 p0 p1 := by
  obtain ⟨⟨-, -, e13, hnp, e14, hne⟩, -, h4, -, -, h8, -, h10⟩ := h
  unfold sp_EM_place sp_E_8_place
  rw [e13]
  by_cases hp : (0 : Int32) ≤ p0 ∧ p0 < nI np
  · rw [if_pos hp, if_pos hp]
    obtain ⟨k, hk, rfl⟩ := pu_ult (x := p0) (b := np) (by omega) (Int32.not_lt.mpr hp.1) hp.2
    have hn : (nI k : Int32).toNatClampNeg = k := (nI_cl (by omega)).symm
    simp only [slet, hn]
    by_cases hq : (0 : Int32) ≤ p1 ∧ p1 ≤ 3
    · rw [if_pos hq]
      obtain ⟨j, hj, rfl⟩ := pu_ule (x := p1) (b := 3) (by decide) (Int32.not_lt.mpr hq.1) hq.2
      rcases (show j = 0 ∨ j = 1 ∨ j = 2 ∨ j = 3 by omega) with rfl | rfl | rfl | rfl
      · rw [if_pos (show (nI 0 : Int32).toNatClampNeg = 0 by decide), if_pos (show (nI 0 : Int32) = 0 by decide)]
        show f3 (8 * b + k) = nI (sp_E_8_bit (f4 k))
        rw [← h4 k hk]
        unfold sp_E_8_bit
        rcases h01 k (by omega) with z | z
        · rw [z, if_pos rfl]; rfl
        · rw [z, if_neg (by decide)]; rfl
      · rw [if_neg (show ¬ (nI 1 : Int32).toNatClampNeg = 0 by decide), if_pos (show (nI 1 : Int32).toNatClampNeg = 1 by decide), if_neg (show ¬ (nI 1 : Int32) = 0 by decide), if_pos (show (nI 1 : Int32) = 1 by decide)]
        rw [manyp e13 hnp hk, if_neg (Nat.succ_ne_zero _)]
        show nI (min (r4 (8 * b + k)) 3 + 1 - 1) = nI (min (q8 (14 + k)) 4)
        obtain ⟨d1, d2, -⟩ := h8 k hk
        rw [Nat.add_sub_cancel, ← d1, Nat.min_eq_left d2, Nat.min_eq_left (by omega)]
      · rw [if_neg (show ¬ (nI 2 : Int32).toNatClampNeg = 0 by decide), if_neg (show ¬ (nI 2 : Int32).toNatClampNeg = 1 by decide), if_pos (show (nI 2 : Int32).toNatClampNeg = 2 by decide), if_neg (show ¬ (nI 2 : Int32) = 0 by decide), if_neg (show ¬ (nI 2 : Int32) = 1 by decide), if_pos (show (nI 2 : Int32) = 2 by decide)]
        exact edges_5 e14 (fun i hi => (h10 i hi).1) (nI k)
      · rw [if_neg (show ¬ (nI 3 : Int32).toNatClampNeg = 0 by decide), if_neg (show ¬ (nI 3 : Int32).toNatClampNeg = 1 by decide), if_neg (show ¬ (nI 3 : Int32).toNatClampNeg = 2 by decide), if_neg (show ¬ (nI 3 : Int32) = 0 by decide), if_neg (show ¬ (nI 3 : Int32) = 1 by decide), if_neg (show ¬ (nI 3 : Int32) = 2 by decide), if_pos (show (nI 3 : Int32) = 3 by decide)]
        exact edges_6 e14 (fun i hi => (h10 i hi).2.2.1) (nI k)
    · rw [if_neg hq, if_neg (fun e => hq (by rw [e]; decide)), if_neg (fun e => hq (by rw [e]; decide)), if_neg (fun e => hq (by rw [e]; decide)), if_neg (fun e => hq (by rw [e]; decide))]
  · rw [if_neg hp, if_neg hp]
/-- where a condition lies: the same of both, or at neither -/
theorem slot_same {b nc np ne : Nat} {st0 : Int32} {f4 : Nat → Int32} {q5 q6 : Nat → Nat} {f7 : Nat → Int32} {q8 q9 : Nat → Nat} {f10 f11 : Nat → Int32} {f3 : Nat → Int32} {r4 r5 r6 r7 : Nat → Nat} {f8 : Nat → Int32} {r9 r10 : Nat → Nat} {r11 : Nat → Int32} {m12_0 m12_1 m13_0 m13_1 m14_0 m14_1 m15_0 m15_1 : Nat} (h : MB b nc np ne st0 f4 q5 q6 f7 q8 q9 f10 f11 f3 r4 r5 r6 r7 f8 r9 r10 r11 (bkN b m12_0 m12_1) (bkN b m13_0 m13_1) (bkN b m14_0 m14_1) (bkN b m15_0 m15_1)) (p0 p1 : Int32) : (sp_E_8_slotOf np ne q8 p0 p1 = 0 ∧ sp_EM_isCondition b r4 r7 m13_0 m13_1 m14_0 m14_1 p0 p1 = 0) ∨
    (∃ k j, k < ne ∧ j < q8 k ∧ p0 = nI k ∧ p1 = nI j ∧ sp_E_8_slotOf np ne q8 p0 p1 = k * 4 + j + 1 ∧ sp_EM_isCondition b r4 r7 m13_0 m13_1 m14_0 m14_1 p0 p1 = 1) ∨
    (∃ k j, k < np ∧ j < q8 (14 + k) ∧ p0 = nI (100 + k) ∧ p1 = nI j ∧ sp_E_8_slotOf np ne q8 p0 p1 = (14 + k) * 4 + j + 1 ∧ sp_EM_isCondition b r4 r7 m13_0 m13_1 m14_0 m14_1 p0 p1 = 1) := by
  obtain ⟨⟨-, -, e13, hnp, e14, hne⟩, -, -, -, -, h8, h9, -⟩ := h
  have inn : ∀ (j u : Nat), j < 2 ^ 31 → u ≤ 4 → ¬ j < u → ¬ ((0 : Int32) ≤ nI j ∧ (nI j : Int32) ≤ nI u - 1) := by
    intro j u hj hu hju z
    by_cases u0 : u = 0
    · subst u0
      exact nI_pos hj (Int32.lt_of_le_of_lt z.2 (by decide))
    · have e3 : (nI u : Int32) - 1 = nI (u - 1) := pk_sub (a := u) (b := 1) (by omega)
      rw [e3] at z
      have := (nI_leI (a := j) (b := u - 1) hj (by omega)).mp z.2
      omega
  have inp : ∀ (j u : Nat), u ≤ 4 → j < u → ((0 : Int32) ≤ nI j ∧ (nI j : Int32) ≤ nI u - 1) := by
    intro j u hu hju
    have e3 : (nI u : Int32) - 1 = nI (u - 1) := pk_sub (a := u) (b := 1) (by omega)
    rw [e3]
    exact ⟨nI_pos' (by omega), (nI_leI (by omega) (by omega)).mpr (by omega)⟩
  by_cases hp : (0 : Int32) ≤ p0 ∧ p0 < nI ne
  · obtain ⟨k, hk, rfl⟩ := pu_ult (x := p0) (b := ne) (by omega) (Int32.not_lt.mpr hp.1) hp.2
    have hn : (nI k : Int32).toNatClampNeg = k := (nI_cl (by omega)).symm
    have hl : (nI k : Int32) < 100 := nI_lt (a := k) (b := 100) (by omega) (by omega)
    obtain ⟨d1, d2, -⟩ := h9 k hk
    have hm : sp_EM_manyOf_g b r4 r7 m13_0 m13_1 m14_0 m14_1 (nI k) = q8 k + 1 := by
      simp only [sp_EM_manyOf_g, slet, e14, if_pos hp, hn, ← d1, Nat.min_eq_left d2]
    have hs0 : q8 k + 1 ≠ 0 := Nat.succ_ne_zero _
    by_cases c : p1 < 0
    · refine Or.inl ⟨?_, ?_⟩
      · simp only [sp_E_8_slotOf, slet, if_pos hp, if_pos c]
      · have nz : ¬ ((0 : Int32) ≤ p1 ∧ p1 ≤ nI (q8 k) - 1) := fun z => Int32.not_lt.mpr z.1 c
        simp only [sp_EM_isCondition, slet, hm, if_neg hs0, if_pos hl, Nat.add_sub_cancel, if_neg nz]
    · obtain ⟨j, hj, rfl⟩ := nI_of c
      have hjn : (nI j : Int32).toNatClampNeg = j := (nI_cl hj).symm
      by_cases cj : j < q8 k
      · refine Or.inr (Or.inl ⟨k, j, hk, cj, rfl, rfl, ?_, ?_⟩)
        · have z : (nI j : Int32) < nI (q8 k) := nI_lt cj (by omega)
          simp only [sp_E_8_slotOf, slet, if_pos hp, if_neg c, hn, Nat.min_eq_left d2, if_pos z, hjn]
        · simp only [sp_EM_isCondition, slet, hm, if_neg hs0, if_pos hl, Nat.add_sub_cancel, if_pos (inp j (q8 k) d2 cj)]
      · refine Or.inl ⟨?_, ?_⟩
        · have z : ¬ (nI j : Int32) < nI (q8 k) := nI_nlt (by omega) hj
          simp only [sp_E_8_slotOf, slet, if_pos hp, if_neg c, hn, Nat.min_eq_left d2, if_neg z]
        · simp only [sp_EM_isCondition, slet, hm, if_neg hs0, if_pos hl, Nat.add_sub_cancel, if_neg (inn j (q8 k) hj d2 cj)]
  · by_cases hy : (0 : Int32) ≤ p0 - 100 ∧ p0 - 100 < nI np
    · obtain ⟨k, hk, rfl⟩ := y100 hnp hy
      rw [p100] at hy
      have hn : (nI k : Int32).toNatClampNeg = k := (nI_cl (by omega)).symm
      have hl : ¬ (nI (100 + k) : Int32) < 100 := nI_nlt (a := 100 + k) (b := 100) (by omega) (by omega)
      have hr : (100 : Int32) ≤ nI (100 + k) ∧ (nI (100 + k) : Int32) ≤ 107 := ⟨nI_le (a := 100) (b := 100 + k) (by omega) (by omega), nI_le (a := 100 + k) (b := 107) (by omega) (by omega)⟩
      obtain ⟨d1, d2, -⟩ := h8 k hk
      have e4 : 8 * b + (100 + k) - 100 = 8 * b + k := by omega
      have hm : sp_EM_manyOf_g b r4 r7 m13_0 m13_1 m14_0 m14_1 (nI (100 + k)) = q8 (14 + k) + 1 := by
        simp only [sp_EM_manyOf_g, slet, e14, if_neg hp, p100, e13, if_pos hy, hn, e4, ← d1, Nat.min_eq_left d2]
      have hs0 : q8 (14 + k) + 1 ≠ 0 := Nat.succ_ne_zero _
      have hi : sp_E_8_isPlace_k np k = 1 := by unfold sp_E_8_isPlace_k; rw [if_neg (by omega)]
      have d4 : q8 (14 + k) ≤ 4 := by omega
      by_cases c : p1 < 0
      · refine Or.inl ⟨?_, ?_⟩
        · simp only [sp_E_8_slotOf, slet, if_neg hp, if_pos hr, p100, hn, Nat.add_sub_cancel_left, hi, Nat.one_ne_zero, reduceIte, if_pos c]
        · have nz : ¬ ((0 : Int32) ≤ p1 ∧ p1 ≤ nI (q8 (14 + k)) - 1) := fun z => Int32.not_lt.mpr z.1 c
          simp only [sp_EM_isCondition, slet, hm, if_neg hs0, if_neg hl, Nat.add_sub_cancel, if_neg nz]
      · obtain ⟨j, hj, rfl⟩ := nI_of c
        have hjn : (nI j : Int32).toNatClampNeg = j := (nI_cl hj).symm
        by_cases cj : j < q8 (14 + k)
        · refine Or.inr (Or.inr ⟨k, j, hk, cj, rfl, rfl, ?_, ?_⟩)
          · have z : (nI j : Int32) < nI (q8 (14 + k)) := nI_lt cj (by omega)
            simp only [sp_E_8_slotOf, slet, if_neg hp, if_pos hr, p100, hn, Nat.add_sub_cancel_left, hi, Nat.one_ne_zero, reduceIte, if_neg c, Nat.min_eq_left d4, if_pos z, hjn]
          · simp only [sp_EM_isCondition, slet, hm, if_neg hs0, if_neg hl, Nat.add_sub_cancel, if_pos (inp j (q8 (14 + k)) d4 cj)]
        · refine Or.inl ⟨?_, ?_⟩
          · have z : ¬ (nI j : Int32) < nI (q8 (14 + k)) := nI_nlt (by omega) hj
            simp only [sp_E_8_slotOf, slet, if_neg hp, if_pos hr, p100, hn, Nat.add_sub_cancel_left, hi, Nat.one_ne_zero, reduceIte, if_neg c, Nat.min_eq_left d4, if_neg z]
          · simp only [sp_EM_isCondition, slet, hm, if_neg hs0, if_neg hl, Nat.add_sub_cancel, if_neg (inn j (q8 (14 + k)) hj d4 cj)]
    · have hm : sp_EM_manyOf_g b r4 r7 m13_0 m13_1 m14_0 m14_1 p0 = 0 := by
        simp only [sp_EM_manyOf_g, slet, e14, if_neg hp, e13, if_neg hy]
      have nz : ¬ ((0 : Int32) ≤ p1 ∧ p1 ≤ -2) := fun z => absurd (Int32.le_trans z.1 z.2) (by decide)
      refine Or.inl ⟨?_, ?_⟩
      · by_cases hr : (100 : Int32) ≤ p0 ∧ p0 ≤ 107
        · have h0 : ¬ p0 < 0 := fun z => absurd (Int32.lt_of_le_of_lt hr.1 z) (by decide)
          obtain ⟨q, hq, rfl⟩ := pu_ule (x := p0) (b := 107) (by decide) h0 hr.2
          have hq1 : 100 ≤ q := (nI_leI (a := 100) (b := q) (by omega) (by omega)).mp hr.1
          obtain ⟨k, rfl⟩ : ∃ k, q = 100 + k := ⟨q - 100, by omega⟩
          have hn : (nI k : Int32).toNatClampNeg = k := (nI_cl (by omega)).symm
          have hk : np ≤ k := by
            refine Nat.le_of_not_lt fun z => hy ?_
            rw [p100]
            exact ⟨nI_pos' (by omega), nI_lt z (by omega)⟩
          have hi : sp_E_8_isPlace_k np k = 0 := by unfold sp_E_8_isPlace_k; rw [if_pos hk]
          simp only [sp_E_8_slotOf, slet, if_neg hp, if_pos hr, p100, hn, Nat.add_sub_cancel_left, hi, reduceIte]
        · by_cases hl : p0 < 100
          · simp only [sp_E_8_slotOf, slet, if_neg hp, if_neg hr, if_pos hl]
          · simp only [sp_E_8_slotOf, slet, if_neg hp, if_neg hr, if_neg hl, if_neg hy]
      · simp only [sp_EM_isCondition, slet, hm, reduceIte, if_neg nz]
/-- a condition told: the same of both -/
theorem condition_same {b nc np ne : Nat} {st0 : Int32} {f4 : Nat → Int32} {q5 q6 : Nat → Nat} {f7 : Nat → Int32} {q8 q9 : Nat → Nat} {f10 f11 : Nat → Int32} {f3 : Nat → Int32} {r4 r5 r6 r7 : Nat → Nat} {f8 : Nat → Int32} {r9 r10 : Nat → Nat} {r11 : Nat → Int32} {m12_0 m12_1 m13_0 m13_1 m14_0 m14_1 m15_0 m15_1 : Nat} (h : MB b nc np ne st0 f4 q5 q6 f7 q8 q9 f10 f11 f3 r4 r5 r6 r7 f8 r9 r10 r11 (bkN b m12_0 m12_1) (bkN b m13_0 m13_1) (bkN b m14_0 m14_1) (bkN b m15_0 m15_1)) (hu : ∀ i, i < np → ∀ j, j < q8 (14 + i) → r10 (80 * b + 56 + 3 * i + j) ≤ 1) (hb : b ≤ 1) (p0 p1 p2 : Int32) : (sp_EM_condition b r4 r7 r9 r10 r11 m13_0 m13_1 m14_0 m14_1 p0 p1 p2).1 = sp_E_8_condition np ne q8 q9 f10 f11 p0 p1 p2 := by
  have hs := slot_same h p0 p1
  obtain ⟨⟨-, -, e13, hnp, e14, hne⟩, -, -, -, -, h8, h9, -⟩ := h
  have fin : ∀ (s s' m : Nat), q9 s = r9 s' → q9 s ≤ 2 → f10 s = nI (r10 s') → f11 s = r11 s' → r10 s' ≤ m → ((if (0 : Int32) ≤ p2 ∧ p2 ≤ 2 then (if p2.toNatClampNeg = 0 then (nI (min (r9 s') 2), (0 : Int32)) else if p2.toNatClampNeg = 1 then (nI (min (r10 s') m), 0) else (r11 s', 0)) else ((-1), 0)) : Int32 × Int32).1 = (if p2 = 0 then nI (min (q9 s) 2) else if p2 = 1 then f10 s else if p2 = 2 then f11 s else (-1)) := by
    intro s s' m g9 g2 g10 g11 gm
    by_cases hq : (0 : Int32) ≤ p2 ∧ p2 ≤ 2
    · rw [if_pos hq]
      obtain ⟨j, hj, rfl⟩ := pu_ule (x := p2) (b := 2) (by decide) (Int32.not_lt.mpr hq.1) hq.2
      rcases (show j = 0 ∨ j = 1 ∨ j = 2 by omega) with rfl | rfl | rfl
      · rw [if_pos (show (nI 0 : Int32).toNatClampNeg = 0 by decide), if_pos (show (nI 0 : Int32) = 0 by decide), g9]
      · rw [if_neg (show ¬ (nI 1 : Int32).toNatClampNeg = 0 by decide), if_pos (show (nI 1 : Int32).toNatClampNeg = 1 by decide), if_neg (show ¬ (nI 1 : Int32) = 0 by decide), if_pos (show (nI 1 : Int32) = 1 by decide), g10, Nat.min_eq_left gm]
      · rw [if_neg (show ¬ (nI 2 : Int32).toNatClampNeg = 0 by decide), if_neg (show ¬ (nI 2 : Int32).toNatClampNeg = 1 by decide), if_neg (show ¬ (nI 2 : Int32) = 0 by decide), if_neg (show ¬ (nI 2 : Int32) = 1 by decide), if_pos (show (nI 2 : Int32) = 2 by decide), g11]
    · rw [if_neg hq, if_neg (fun e => hq (by rw [e]; decide)), if_neg (fun e => hq (by rw [e]; decide)), if_neg (fun e => hq (by rw [e]; decide))]
  rcases hs with ⟨s1, s2⟩ | ⟨k, j, hk, hj, rfl, rfl, s1, s2⟩ | ⟨k, j, hk, hj, rfl, rfl, s1, s2⟩
  · simp only [sp_EM_condition, sp_E_8_condition, slet, s1, s2, reduceIte]
    rw [if_neg (show ¬ (0 : Nat) = 1 by decide)]
  · have hn : (nI k : Int32).toNatClampNeg = k := (nI_cl (by omega)).symm
    obtain ⟨d1, d2, d3⟩ := h9 k hk
    have hjn : (nI j : Int32).toNatClampNeg = j := (nI_cl (by omega)).symm
    have hl : (nI k : Int32) < 100 := nI_lt (a := k) (b := 100) (by omega) (by omega)
    obtain ⟨g9, g2, g10, g4, g11⟩ := d3 j hj
    have hm : (if (80 * b + 4 * k + j) % 80 < 56 then 4 else 1) = 4 := if_pos (cap_e (by omega) (by omega))
    have ns : ¬ k * 4 + j + 1 = 0 := Nat.succ_ne_zero _
    simp only [sp_EM_condition, sp_E_8_condition, slet, s1, s2, reduceIte, if_pos hl, hn, hjn, if_neg ns, Nat.add_sub_cancel, hm]
    exact fin (k * 4 + j) (80 * b + 4 * k + j) 4 g9 g2 g10 g11 g4
  · have hn : (nI k : Int32).toNatClampNeg = k := (nI_cl (by omega)).symm
    obtain ⟨d1, d2, d3⟩ := h8 k hk
    have hjn : (nI j : Int32).toNatClampNeg = j := (nI_cl (by omega)).symm
    have hl : ¬ (nI (100 + k) : Int32) < 100 := nI_nlt (a := 100 + k) (b := 100) (by omega) (by omega)
    obtain ⟨g9, g2, g10, g4, g11⟩ := d3 j hj
    have e4 : 80 * b + (56 + 3 * k) + j = 80 * b + 56 + 3 * k + j := by omega
    have hm : (if (80 * b + 56 + 3 * k + j) % 80 < 56 then 4 else 1) = 1 := if_neg (cap_p (by omega) (by omega))
    have ns : ¬ (14 + k) * 4 + j + 1 = 0 := Nat.succ_ne_zero _
    simp only [sp_EM_condition, sp_E_8_condition, slet, s1, s2, reduceIte, if_neg hl, p100, hn, hjn, Nat.add_sub_cancel_left, e4, if_neg ns, Nat.add_sub_cancel, hm]
    exact fin ((14 + k) * 4 + j) (80 * b + 56 + 3 * k + j) 1 g9 g2 g10 g11 (hu k hk j hj)
/-- one act of both histories -/
def HE (b np ne : Nat) (q8 : Nat → Nat) (c o : Int32) (c' : Nat) (o' : Int32) : Prop := o = o' ∧
  ((∃ p, p < np ∧ c = -1 - nI p ∧ c' = 1000 + p ∧ (o = 0 ∨ o = 1)) ∨
   (∃ k j n, k < ne ∧ j < q8 k ∧ c = nI (k * 4 + j) ∧ c' = 80 * b + 4 * k + j ∧ n ≤ 20 ∧ o = nI n) ∨
   (∃ k j n, k < np ∧ j < q8 (14 + k) ∧ c = nI ((14 + k) * 4 + j) ∧ c' = 80 * b + 56 + 3 * k + j ∧ n ≤ 20 ∧ o = nI n))
def HR (b np ne : Nat) (q8 : Nat → Nat) (hk : Nat) (fo fl : Nat → Int32) (x33 : Nat) (q31 : Nat → Nat) (f32 : Nat → Int32) : Prop := x33 = hk ∧ hk ≤ 20 ∧ ∀ i, i < hk → HE b np ne q8 (fo i) (fl i) (actV 159 (q31 i)) (f32 i)
theorem actV_ok (w : Nat) : actV 159 w ≤ 159 ∨ (1000 ≤ actV 159 w ∧ actV 159 w ≤ 1007) := by
  unfold actV
  by_cases h : w ≤ 159
  · rw [if_pos h]; exact Or.inl h
  · rw [if_neg h]; exact Or.inr ⟨by omega, by omega⟩
theorem keepL (fo fl : Nat → Int32) (c o : Int32) : ∃ zo zl, itrv default (sp_E_2_keep_L1 20 c o) (fo, fl, 1) = (upd zo 19 c, upd zl 19 o, 20) ∧ ∀ i, i < 19 → zo i = fo (i + 1) ∧ zl i = fl (i + 1) := by
  refine itrv_inv (d := default) (f := sp_E_2_keep_L1 20 c o) (fun t => ∃ a e j, t = (a, e, j) ∧ 1 ≤ j ∧ j ≤ 20 ∧ ∀ i, (i + 1 < j → a i = fo (i + 1) ∧ e i = fl (i + 1)) ∧ (j ≤ i + 1 → a i = fo i ∧ e i = fl i)) (fun r => ∃ zo zl, r = (upd zo 19 c, upd zl 19 o, 20) ∧ ∀ i, i < 19 → zo i = fo (i + 1) ∧ zl i = fl (i + 1)) (fun t => 20 - t.2.2) ?_ 20 (fo, fl, 1) (by show 20 - 1 ≤ 20; omega) ⟨fo, fl, 1, rfl, Nat.le_refl _, by decide, fun i => ⟨fun h => absurd h (by omega), fun _ => ⟨rfl, rfl⟩⟩⟩
  rintro _ ⟨a, e, j, rfl, h1, h2, hI⟩
  by_cases hj : 20 ≤ j
  · refine Or.inr ⟨_, by simp only [sp_E_2_keep_L1, slet, if_pos hj] <;> rfl, a, e, rfl, fun i hi => (hI i).1 (by omega)⟩
  · refine Or.inl ⟨(upd a (j - 1) (a j), upd e (j - 1) (e j), j + 1), by simp only [sp_E_2_keep_L1, slet, if_neg hj], ⟨_, _, _, rfl, by omega, by omega, fun i => ⟨fun hi => ?_, fun hi => ?_⟩⟩, by show 20 - (j + 1) < 20 - j; omega⟩
    · by_cases ei : i = j - 1
      · subst ei
        rw [upd_s, upd_s]
        have := (hI j).2 (by omega)
        have e9 : j - 1 + 1 = j := by omega
        rw [e9]; exact this
      · rw [upd_n ei, upd_n ei]; exact (hI i).1 (by omega)
    · rw [upd_n (by omega), upd_n (by omega)]; exact (hI i).2 (by omega)
theorem keepM (q31 : Nat → Nat) (f32 : Nat → Int32) : ∃ w31 w32, itrv default (sp_EM_keepAct_L1 20) (q31, f32, 1) = (19, w31, w32) ∧ ∀ i, i < 19 → actV 159 (w31 i) = actV 159 (q31 (i + 1)) ∧ w32 i = f32 (i + 1) := by
  refine itrv_inv (d := default) (f := sp_EM_keepAct_L1 20) (fun t => ∃ a e j, t = (a, e, j) ∧ 1 ≤ j ∧ j ≤ 20 ∧ ∀ i, (i + 1 < j → actV 159 (a i) = actV 159 (q31 (i + 1)) ∧ e i = f32 (i + 1)) ∧ (j ≤ i + 1 → a i = q31 i ∧ e i = f32 i)) (fun r => ∃ w31 w32, r = (19, w31, w32) ∧ ∀ i, i < 19 → actV 159 (w31 i) = actV 159 (q31 (i + 1)) ∧ w32 i = f32 (i + 1)) (fun t => 20 - t.2.2) ?_ 20 (q31, f32, 1) (by show 20 - 1 ≤ 20; omega) ⟨q31, f32, 1, rfl, Nat.le_refl _, by decide, fun i => ⟨fun h => absurd h (by omega), fun _ => ⟨rfl, rfl⟩⟩⟩
  rintro _ ⟨a, e, j, rfl, h1, h2, hI⟩
  by_cases hj : 20 ≤ j
  · refine Or.inr ⟨(19, a, e), by simp only [sp_EM_keepAct_L1, slet, if_pos hj], a, e, rfl, fun i hi => (hI i).1 (by omega)⟩
  · refine Or.inl ⟨(updN a (j - 1) (actK 159 (actV 159 (a j))), upd e (j - 1) (e j), j + 1), by simp only [sp_EM_keepAct_L1, slet, if_neg hj], ⟨_, _, _, rfl, by omega, by omega, fun i => ⟨fun hi => ?_, fun hi => ?_⟩⟩, by show 20 - (j + 1) < 20 - j; omega⟩
    · by_cases ei : i = j - 1
      · subst ei
        rw [updN_s, upd_s, actVK (actV_ok _)]
        have := (hI j).2 (by omega)
        have e9 : j - 1 + 1 = j := by omega
        rw [e9, this.1, this.2]; exact ⟨rfl, rfl⟩
      · rw [updN_n ei, upd_n ei]; exact (hI i).1 (by omega)
    · rw [updN_n (by omega), upd_n (by omega)]; exact (hI i).2 (by omega)
theorem keep_same {b np ne : Nat} {q8 : Nat → Nat} {hk : Nat} {fo fl : Nat → Int32} {x33 : Nat} {q31 : Nat → Nat} {f32 : Nat → Int32} (h : HR b np ne q8 hk fo fl x33 q31 f32) {c o : Int32} {c' : Nat} {o' : Int32} (he : HE b np ne q8 c o c' o') (hc : c' ≤ 159 ∨ (1000 ≤ c' ∧ c' ≤ 1007)) : ∃ zo zl zk w31 w32, sp_E_2_keep hk fo fl c o = (zo, zl, zk) ∧ sp_EM_keepAct x33 q31 f32 c' o' = (w31, w32, 0, 0, zk) ∧ HR b np ne q8 zk zo zl zk w31 w32 := by
  obtain ⟨rfl, h20, hi⟩ := h
  by_cases e20 : x33 = 20
  · subst e20
    obtain ⟨zo, zl, e1, hz⟩ := keepL fo fl c o
    obtain ⟨w31, w32, e2, hw⟩ := keepM q31 f32
    refine ⟨upd zo 19 c, upd zl 19 o, 20, updN w31 19 (actK 159 c'), upd w32 19 o', ?_, ?_, rfl, Nat.le_refl _, fun i hi2 => ?_⟩
    · simp only [sp_E_2_keep, reduceIte, e1]
    · simp only [sp_EM_keepAct, slet, reduceIte, e2, sp_EM_another]
    · by_cases ei : i = 19
      · subst ei
        rw [upd_s, upd_s, updN_s, upd_s, actVK hc]; exact he
      · rw [upd_n ei, upd_n ei, updN_n ei, upd_n ei, (hz i (by omega)).1, (hz i (by omega)).2, (hw i (by omega)).1, (hw i (by omega)).2]
        exact hi (i + 1) (by omega)
  · refine ⟨upd fo x33 c, upd fl x33 o, x33 + 1, updN q31 x33 (actK 159 c'), upd f32 x33 o', ?_, ?_, rfl, by omega, fun i hi2 => ?_⟩
    · simp only [sp_E_2_keep, slet, if_neg e20]
    · simp only [sp_EM_keepAct, slet, if_neg e20, sp_EM_another]
    · by_cases ei : i = x33
      · subst ei
        rw [upd_s, upd_s, updN_s, upd_s, actVK hc]; exact he
      · rw [upd_n ei, upd_n ei, updN_n ei, upd_n ei]
        exact hi i (by omega)
/-- a condition's place on both sides -/
def PL (b np ne : Nat) (q8 : Nat → Nat) (h j s' : Nat) : Prop := j < q8 h ∧ ((h < ne ∧ h < 14 ∧ s' = 80 * b + 4 * h + j) ∨ ∃ k, k < np ∧ h = 14 + k ∧ s' = 80 * b + 56 + 3 * k + j)
theorem CI.upv {B B' cnt : Nat} {q9 : Nat → Nat} {f10 f11 : Nat → Int32} {r9 r10 : Nat → Nat} {r11 : Nat → Int32} (h : CI B B' cnt q9 f10 f11 r9 r10 r11) {s s' : Nat} {v : Int32} (hs : ∀ j, j < cnt → (B + j = s ↔ B' + j = s')) : CI B B' cnt q9 f10 (upd f11 s v) r9 r10 (upd r11 s' v) := by
  intro j hj
  obtain ⟨a1, a2, a3, a4, a5⟩ := h j hj
  refine ⟨a1, a2, a3, a4, ?_⟩
  by_cases z : B + j = s
  · rw [z, (hs j hj).mp z, upd_s, upd_s]
  · rw [upd_n z, upd_n (fun g => z ((hs j hj).mpr g))]; exact a5
theorem MB.num {b nc np ne : Nat} {st0 : Int32} {f4 : Nat → Int32} {q5 q6 : Nat → Nat} {f7 : Nat → Int32} {q8 q9 : Nat → Nat} {f10 f11 : Nat → Int32} {f3 : Nat → Int32} {r4 r5 r6 r7 : Nat → Nat} {f8 : Nat → Int32} {r9 r10 : Nat → Nat} {r11 : Nat → Int32} {m12_0 m12_1 m13_0 m13_1 m14_0 m14_1 m15_0 m15_1 : Nat} (h : MB b nc np ne st0 f4 q5 q6 f7 q8 q9 f10 f11 f3 r4 r5 r6 r7 f8 r9 r10 r11 (bkN b m12_0 m12_1) (bkN b m13_0 m13_1) (bkN b m14_0 m14_1) (bkN b m15_0 m15_1)) {g j s' : Nat} (v : Int32) (hs : PL b np ne q8 g j s') : MB b nc np ne st0 f4 q5 q6 f7 q8 q9 f10 (upd f11 (g * 4 + j) v) f3 r4 r5 r6 r7 f8 r9 r10 (upd r11 s' v) (bkN b m12_0 m12_1) (bkN b m13_0 m13_1) (bkN b m14_0 m14_1) (bkN b m15_0 m15_1) := by
  obtain ⟨h1, h2, h5, h6, h7, h8, h9, h10⟩ := h
  have n8 : np ≤ 8 := h1.2.2.2.1
  have n14 : ne ≤ 14 := h1.2.2.2.2.2
  obtain ⟨hj, hs⟩ := hs
  refine ⟨h1, h2, h5, h6, h7, fun i hi => ⟨(h8 i hi).1, (h8 i hi).2.1, (h8 i hi).2.2.upv fun z hz => ?_⟩, fun i hi => ⟨(h9 i hi).1, (h9 i hi).2.1, (h9 i hi).2.2.upv fun z hz => ?_⟩, h10⟩
  · have b3 := (h8 i hi).2.1
    rcases hs with ⟨a1, a2, rfl⟩ | ⟨k, a1, rfl, rfl⟩
    · have b4 := (h9 g a1).2.1
      constructor <;> intro e <;> omega
    · have b4 := (h8 k a1).2.1
      constructor
      · intro e
        have : i = k := by omega
        omega
      · intro e
        have : i = k := by omega
        omega
  · have b3 := (h9 i hi).2.1
    rcases hs with ⟨a1, a2, rfl⟩ | ⟨k, a1, rfl, rfl⟩
    · have b4 := (h9 g a1).2.1
      constructor
      · intro e
        have : i = g := by omega
        omega
      · intro e
        have : i = g := by omega
        omega
    · have b4 := (h8 k a1).2.1
      constructor <;> intro e <;> omega
theorem MB.at {b nc np ne : Nat} {st0 : Int32} {f4 : Nat → Int32} {q5 q6 : Nat → Nat} {f7 : Nat → Int32} {q8 q9 : Nat → Nat} {f10 f11 : Nat → Int32} {f3 : Nat → Int32} {r4 r5 r6 r7 : Nat → Nat} {f8 : Nat → Int32} {r9 r10 : Nat → Nat} {r11 : Nat → Int32} {m12_0 m12_1 m13_0 m13_1 m14_0 m14_1 m15_0 m15_1 : Nat} (h : MB b nc np ne st0 f4 q5 q6 f7 q8 q9 f10 f11 f3 r4 r5 r6 r7 f8 r9 r10 r11 (bkN b m12_0 m12_1) (bkN b m13_0 m13_1) (bkN b m14_0 m14_1) (bkN b m15_0 m15_1)) {g j s' : Nat} (hs : PL b np ne q8 g j s') : f11 (g * 4 + j) = r11 s' ∧ s' ≤ 80 * b + 79 ∧ g < 22 := by
  obtain ⟨h1, h2, h5, h6, h7, h8, h9, h10⟩ := h
  have n8 : np ≤ 8 := h1.2.2.2.1
  have n14 : ne ≤ 14 := h1.2.2.2.2.2
  obtain ⟨hj, ⟨a1, a2, rfl⟩ | ⟨k, a1, rfl, rfl⟩⟩ := hs
  · obtain ⟨-, b2, b3⟩ := h9 g a1
    exact ⟨(b3 j hj).2.2.2.2, by omega, by omega⟩
  · obtain ⟨-, b2, b3⟩ := h8 k a1
    exact ⟨(b3 j hj).2.2.2.2, by omega, by omega⟩
theorem CW.up' {s m t : Nat} {f10 f11 f12 f13 : Nat → Int32} {b c d : Int32} (h : CW s m f10 f11 f12 f13) (ht : s ≠ t) : CW s m f10 (upd f11 t b) (upd f12 t c) (upd f13 t d) := by
  obtain ⟨hw, n, h1, h2, h3, h4, h5, h6⟩ := h
  exact ⟨hw, n, h1, h2, h3, by rw [upd_n ht]; exact h4, by rw [upd_n ht]; exact h5, by rw [upd_n ht]; exact h6⟩
theorem WFm.num {nc np ne : Nat} {q8 q9 : Nat → Nat} {f4 f10 f11 f12 f13 : Nat → Int32} (w : WFm nc np ne f4 q8 q9 f10 f11 f12 f13) {g j hw n : Nat} (hg : g < 22) (hj : j < q8 g) (h10 : f10 (g * 4 + j) = nI hw) (hm : hw ≤ mH g) (hn : n ≤ 20) : WFm nc np ne f4 q8 q9 f10 (upd f11 (g * 4 + j) (nI n)) (upd f12 (g * 4 + j) (clF hw n)) (upd f13 (g * 4 + j) (flF hw n)) := by
  obtain ⟨w1, w2⟩ := w
  refine ⟨fun i hi => ⟨(w1 i hi).1, fun k hk => ⟨?_, ((w1 i hi).2 k hk).2⟩⟩, w2⟩
  have b1 := (w1 i hi).1
  have b2 := (w1 g hg).1
  by_cases e : i * 4 + k = g * 4 + j
  · have e1 : i = g := by omega
    have e2 : k = j := by omega
    subst e1 e2
    exact ⟨hw, n, hm, hn, h10, upd_s, upd_s, upd_s⟩
  · exact ((w1 i hi).2 k hk).1.up' e
/-- the class's numbers that it keeps are those of its conditions -/
def MS (nc np : Nat) (q8 q9 : Nat → Nat) (f10 f11 f14 f15 f16 : Nat → Int32) : Prop := (nc = 0 ∧ np = 0) ∨ ∃ a b c, (f14, f15, f16) = sp_E_0_measure q8 q9 f10 f11 a b c
theorem setNumber_eq {q8 q9 : Nat → Nat} {f10 f11 f12 f13 f14 f15 f16 : Nat → Int32} {s hw n : Nat} (h10 : f10 s = nI hw) (hh : hw ≤ 4) : ∃ z14 z15 z16, sp_E_0_measure q8 q9 f10 (upd f11 s (nI n)) f14 f15 f16 = (z14, z15, z16) ∧ sp_E_0_setNumber q8 q9 f10 f11 f12 f13 f14 f15 f16 s (nI n) = (upd f13 s (flF hw n), z14, z15, z16, upd f11 s (nI n), upd f12 s (clF hw n)) := by
  obtain ⟨⟨z14, z15, z16⟩, em⟩ : ∃ x, sp_E_0_measure q8 q9 f10 (upd f11 s (nI n)) f14 f15 f16 = x := ⟨_, rfl⟩
  have e := sb_eq (f10 := f10) (f11 := upd f11 s (nI n)) (f12 := f12) (f13 := f13) (s := s) (hw := hw) (n := n) h10 upd_s hh
  exact ⟨z14, z15, z16, em, by simp only [sp_E_0_setNumber, slet, e, em]⟩
/-- nothing changed, or what was worked out is dropped -/
def FLG (hs ss on x29 x30 zhs zss zon w29 w30 : Nat) (P : Prop) : Prop := (zhs = hs ∧ zss = ss ∧ zon = on ∧ w29 = x29 ∧ w30 = x30 ∧ P) ∨ (zhs = 0 ∧ zss = 0 ∧ zon = 0 ∧ w29 = 0 ∧ w30 = 0)
/-- what an act of a number leaves, on both sides -/
def NQ (b nc np ne : Nat) (st0 : Int32) (f4 : Nat → Int32) (q5 q6 : Nat → Nat) (f7 : Nat → Int32) (q8 q9 : Nat → Nat) (f10 f11 f12 f13 f14 f15 f16 : Nat → Int32) (f3 : Nat → Int32) (r4 r5 r6 r7 : Nat → Nat) (f8 : Nat → Int32) (r9 r10 : Nat → Nat) (r11 : Nat → Int32) (c1 c2 c3 c4 : Nat) (hs ss on x29 x30 : Nat) (RE : Int32 × (Nat → Int32) × (Nat → Int32) × (Nat → Int32) × (Nat → Int32) × (Nat → Int32) × (Nat → Int32) × (Nat → Int32) × (Nat → Int32) × Nat × Nat × Nat × Nat) (RM : Int32 × (Nat → Int32) × (Nat → Nat) × (Nat → Int32) × Int32 × Nat × Nat × Nat) : Prop :=
  ∃ r z12 z13 z14 z15 z16 zo zl z11 zss zhs zk zon w11 w31 w32 w29 w30 w33, RE = (r, z12, z13, z14, z15, z16, zo, zl, z11, zss, zhs, zk, zon) ∧ RM = (r, w11, w31, w32, 0, w29, w30, w33) ∧
    MB b nc np ne st0 f4 q5 q6 f7 q8 q9 f10 z11 f3 r4 r5 r6 r7 f8 r9 r10 w11 c1 c2 c3 c4 ∧ WFm nc np ne f4 q8 q9 f10 z11 z12 z13 ∧ (MS nc np q8 q9 f10 f11 f14 f15 f16 → MS nc np q8 q9 f10 z11 z14 z15 z16) ∧ HR b np ne q8 zk zo zl w33 w31 w32 ∧ FLG hs ss on x29 x30 zhs zss zon w29 w30 (z11 = f11 ∧ z12 = f12 ∧ z13 = f13 ∧ z14 = f14 ∧ z15 = f15 ∧ z16 = f16 ∧ w11 = r11)
theorem number_same {b nc np ne : Nat} {st0 : Int32} {f4 : Nat → Int32} {q5 q6 : Nat → Nat} {f7 : Nat → Int32} {q8 q9 : Nat → Nat} {f10 f11 : Nat → Int32} {f3 : Nat → Int32} {r4 r5 r6 r7 : Nat → Nat} {f8 : Nat → Int32} {r9 r10 : Nat → Nat} {r11 : Nat → Int32} {m12_0 m12_1 m13_0 m13_1 m14_0 m14_1 m15_0 m15_1 : Nat} {f12 f13 f14 f15 f16 : Nat → Int32} (h : MB b nc np ne st0 f4 q5 q6 f7 q8 q9 f10 f11 f3 r4 r5 r6 r7 f8 r9 r10 r11 (bkN b m12_0 m12_1) (bkN b m13_0 m13_1) (bkN b m14_0 m14_1) (bkN b m15_0 m15_1)) (w : WFm nc np ne f4 q8 q9 f10 f11 f12 f13) (hb : b ≤ 1) {hk : Nat} {fo fl : Nat → Int32} {x33 : Nat} {q31 : Nat → Nat} {f32 : Nat → Int32} (hh : HR b np ne q8 hk fo fl x33 q31 f32) (hs ss on x29 x30 : Nat) (p0 p1 p2 : Int32) :
    NQ b nc np ne st0 f4 q5 q6 f7 q8 q9 f10 f11 f12 f13 f14 f15 f16 f3 r4 r5 r6 r7 f8 r9 r10 r11 (bkN b m12_0 m12_1) (bkN b m13_0 m13_1) (bkN b m14_0 m14_1) (bkN b m15_0 m15_1) hs ss on x29 x30 (sp_E_8_number hs ss np ne q8 q9 f10 f11 f12 f13 f14 f15 f16 hk fo fl on p0 p1 p2) (sp_EM_number b x29 x30 x33 r4 r7 r11 m13_0 m13_1 m14_0 m14_1 q31 f32 p0 p1 p2) := by
  have same : ∀ RE RM, RE = (-1, f12, f13, f14, f15, f16, fo, fl, f11, ss, hs, hk, on) → RM = (-1, r11, q31, f32, 0, x29, x30, x33) → NQ b nc np ne st0 f4 q5 q6 f7 q8 q9 f10 f11 f12 f13 f14 f15 f16 f3 r4 r5 r6 r7 f8 r9 r10 r11 (bkN b m12_0 m12_1) (bkN b m13_0 m13_1) (bkN b m14_0 m14_1) (bkN b m15_0 m15_1) hs ss on x29 x30 RE RM := fun RE RM hE hM =>
    ⟨-1, f12, f13, f14, f15, f16, fo, fl, f11, ss, hs, hk, on, r11, q31, f32, x29, x30, x33, hE, hM, h, w, id, hh, Or.inl ⟨rfl, rfl, rfl, rfl, rfl, rfl, rfl, rfl, rfl, rfl, rfl, rfl⟩⟩
  have chg : ∀ RE RM g j s' n, PL b np ne q8 g j s' → n ≤ 20 → (∀ zo zl zk z14 z15 z16 z13 z12, sp_E_2_keep hk fo fl (nI (g * 4 + j)) (f11 (g * 4 + j)) = (zo, zl, zk) → sp_E_0_setNumber q8 q9 f10 f11 f12 f13 f14 f15 f16 (g * 4 + j) (nI n) = (z13, z14, z15, z16, upd f11 (g * 4 + j) (nI n), z12) → RE = (f11 (g * 4 + j), z12, z13, z14, z15, z16, zo, zl, upd f11 (g * 4 + j) (nI n), 0, 0, zk, 0)) → (∀ w31 w32 w33, sp_EM_keepAct x33 q31 f32 s' (r11 s') = (w31, w32, 0, 0, w33) → RM = (r11 s', upd r11 s' (nI n), w31, w32, 0, 0, 0, w33)) → NQ b nc np ne st0 f4 q5 q6 f7 q8 q9 f10 f11 f12 f13 f14 f15 f16 f3 r4 r5 r6 r7 f8 r9 r10 r11 (bkN b m12_0 m12_1) (bkN b m13_0 m13_1) (bkN b m14_0 m14_1) (bkN b m15_0 m15_1) hs ss on x29 x30 RE RM := by
    intro RE RM g j s' n hP hn hE hM
    obtain ⟨e11, s79, g22⟩ := h.at hP
    obtain ⟨⟨hw, n0, hm, hn0, g10, g11, g12, g13⟩, -⟩ := (w.1 g g22).2 j hP.1
    have m4 : mH g ≤ 4 := by unfold mH; split <;> omega
    obtain ⟨z14, z15, z16, em, es⟩ := setNumber_eq (q8 := q8) (q9 := q9) (f11 := f11) (f12 := f12) (f13 := f13) (f14 := f14) (f15 := f15) (f16 := f16) (n := n) g10 (Nat.le_trans hm m4)
    have he : HE b np ne q8 (nI (g * 4 + j)) (f11 (g * 4 + j)) s' (r11 s') := by
      refine ⟨e11, ?_⟩
      rcases hP.2 with ⟨a1, a2, rfl⟩ | ⟨k, a1, rfl, rfl⟩
      · exact Or.inr (Or.inl ⟨g, j, n0, a1, hP.1, rfl, rfl, hn0, g11⟩)
      · exact Or.inr (Or.inr ⟨k, j, n0, a1, hP.1, rfl, rfl, hn0, g11⟩)
    obtain ⟨zo, zl, zk, w31, w32, ek, eM, hh'⟩ := keep_same hh he (Or.inl (by omega))
    exact ⟨f11 (g * 4 + j), upd f12 (g * 4 + j) (clF hw n), upd f13 (g * 4 + j) (flF hw n), z14, z15, z16, zo, zl, upd f11 (g * 4 + j) (nI n), 0, 0, zk, 0, upd r11 s' (nI n), w31, w32, 0, 0, zk, hE _ _ _ _ _ _ _ _ ek es, (hM _ _ _ eM).trans (by rw [e11]), h.num (nI n) hP, w.num g22 hP.1 g10 hm hn, fun _ => Or.inr ⟨f14, f15, f16, em.symm⟩, hh', Or.inr ⟨rfl, rfl, rfl, rfl, rfl⟩⟩
  have n01 : ¬ (0 : Nat) = 1 := by decide
  have h' := h
  obtain ⟨⟨-, -, e13, hnp, e14, hne⟩, -, -, -, -, h8, h9, -⟩ := h'
  by_cases c : (0 : Int32) ≤ p2 ∧ p2 ≤ 20
  · obtain ⟨n, hn20, rfl⟩ := pu_ule (x := p2) (b := 20) (by decide) (Int32.not_lt.mpr c.1) c.2
    have nn : (nI n : Int32).toNatClampNeg = n := (nI_cl (by omega)).symm
    have c0 : ¬ (nI n : Int32) < 0 := nI_pos (by omega)
    rcases slot_same h p0 p1 with ⟨s1, s2⟩ | ⟨k, j, hk2, hj, rfl, rfl, s1, s2⟩ | ⟨k, j, hk2, hj, rfl, rfl, s1, s2⟩
    · exact same _ _ (by simp only [sp_E_8_number, slet, s1, reduceIte]) (by simp only [sp_EM_number, slet, s2, if_neg n01])
    · have hkn : (nI k : Int32).toNatClampNeg = k := (nI_cl (by omega)).symm
      have d2 := (h9 k hk2).2.1
      have hjn : (nI j : Int32).toNatClampNeg = j := (nI_cl (by omega)).symm
      have hl : (nI k : Int32) < 100 := nI_lt (a := k) (b := 100) (by omega) (by omega)
      have ns : ¬ k * 4 + j + 1 = 0 := Nat.succ_ne_zero _
      have hP : PL b np ne q8 k j (80 * b + 4 * k + j) := ⟨hj, Or.inl ⟨hk2, by omega, rfl⟩⟩
      have e11 := (h.at hP).1
      by_cases cy : f11 (k * 4 + j) = nI n
      · have cy' : r11 (80 * b + 4 * k + j) = nI n := e11.symm.trans cy
        exact same _ _ (by simp only [sp_E_8_number, slet, s1, if_neg ns, Nat.add_sub_cancel, if_neg c0, if_pos c.2, nn, if_pos cy]) (by simp only [sp_EM_number, slet, s2, reduceIte, if_pos hl, hkn, hjn, if_pos c, nn, if_pos cy'])
      · have cy' : ¬ r11 (80 * b + 4 * k + j) = nI n := fun z => cy (e11.trans z)
        exact chg _ _ k j _ n hP hn20 (fun zo zl zk z14 z15 z16 z13 z12 ek es => by simp only [sp_E_8_number, slet, s1, if_neg ns, Nat.add_sub_cancel, if_neg c0, if_pos c.2, nn, if_neg cy, ek, es]) (fun w31 w32 w33 ek => by simp only [sp_EM_number, slet, s2, reduceIte, if_pos hl, hkn, hjn, if_pos c, nn, if_neg cy', ek])
    · have hkn : (nI k : Int32).toNatClampNeg = k := (nI_cl (by omega)).symm
      have d2 := (h8 k hk2).2.1
      have hjn : (nI j : Int32).toNatClampNeg = j := (nI_cl (by omega)).symm
      have hl : ¬ (nI (100 + k) : Int32) < 100 := nI_nlt (a := 100 + k) (b := 100) (by omega) (by omega)
      have ns : ¬ (14 + k) * 4 + j + 1 = 0 := Nat.succ_ne_zero _
      have e4 : 80 * b + (56 + 3 * k) + j = 80 * b + 56 + 3 * k + j := by omega
      have hP : PL b np ne q8 (14 + k) j (80 * b + 56 + 3 * k + j) := ⟨hj, Or.inr ⟨k, hk2, rfl, rfl⟩⟩
      have e11 := (h.at hP).1
      by_cases cy : f11 ((14 + k) * 4 + j) = nI n
      · have cy' : r11 (80 * b + 56 + 3 * k + j) = nI n := e11.symm.trans cy
        exact same _ _ (by simp only [sp_E_8_number, slet, s1, if_neg ns, Nat.add_sub_cancel, if_neg c0, if_pos c.2, nn, if_pos cy]) (by simp only [sp_EM_number, slet, s2, reduceIte, if_neg hl, p100, hkn, hjn, if_pos c, nn, Nat.add_sub_cancel_left, e4, if_pos cy'])
      · have cy' : ¬ r11 (80 * b + 56 + 3 * k + j) = nI n := fun z => cy (e11.trans z)
        exact chg _ _ (14 + k) j _ n hP hn20 (fun zo zl zk z14 z15 z16 z13 z12 ek es => by simp only [sp_E_8_number, slet, s1, if_neg ns, Nat.add_sub_cancel, if_neg c0, if_pos c.2, nn, if_neg cy, ek, es]) (fun w31 w32 w33 ek => by simp only [sp_EM_number, slet, s2, reduceIte, if_neg hl, p100, hkn, hjn, if_pos c, nn, Nat.add_sub_cancel_left, e4, if_neg cy', ek])
  · have cE : ∀ u : Nat, sp_E_8_slotOf np ne q8 p0 p1 = u → sp_E_8_number hs ss np ne q8 q9 f10 f11 f12 f13 f14 f15 f16 hk fo fl on p0 p1 p2 = (-1, f12, f13, f14, f15, f16, fo, fl, f11, ss, hs, hk, on) := by
      intro u hu
      by_cases u0 : u = 0
      · simp only [sp_E_8_number, slet, hu, if_pos u0]
      · by_cases c0 : p2 < 0
        · simp only [sp_E_8_number, slet, hu, if_neg u0, if_pos c0]
        · have c1 : ¬ p2 ≤ 20 := fun z => c ⟨Int32.not_lt.mp c0, z⟩
          simp only [sp_E_8_number, slet, hu, if_neg u0, if_neg c0, if_neg c1]
    refine same _ _ (cE _ rfl) ?_
    rcases slot_same h p0 p1 with ⟨s1, s2⟩ | ⟨k, j, hk2, hj, rfl, rfl, s1, s2⟩ | ⟨k, j, hk2, hj, rfl, rfl, s1, s2⟩
    · simp only [sp_EM_number, slet, s2, if_neg n01]
    · have hl : (nI k : Int32) < 100 := nI_lt (a := k) (b := 100) (by omega) (by omega)
      simp only [sp_EM_number, slet, s2, reduceIte, if_pos hl, if_neg c]
    · have hl : ¬ (nI (100 + k) : Int32) < 100 := nI_nlt (a := 100 + k) (b := 100) (by omega) (by omega)
      simp only [sp_EM_number, slet, s2, reduceIte, if_neg hl, if_neg c]
theorem MB.urg {b nc np ne : Nat} {st0 : Int32} {f4 : Nat → Int32} {q5 q6 : Nat → Nat} {f7 : Nat → Int32} {q8 q9 : Nat → Nat} {f10 f11 : Nat → Int32} {f3 : Nat → Int32} {r4 r5 r6 r7 : Nat → Nat} {f8 : Nat → Int32} {r9 r10 : Nat → Nat} {r11 : Nat → Int32} {m12_0 m12_1 m13_0 m13_1 m14_0 m14_1 m15_0 m15_1 : Nat} (h : MB b nc np ne st0 f4 q5 q6 f7 q8 q9 f10 f11 f3 r4 r5 r6 r7 f8 r9 r10 r11 (bkN b m12_0 m12_1) (bkN b m13_0 m13_1) (bkN b m14_0 m14_1) (bkN b m15_0 m15_1)) {k : Nat} (v : Int32) (hk : k < np) : MB b nc np ne st0 (upd f4 k v) q5 q6 f7 q8 q9 f10 f11 (upd f3 (8 * b + k) v) r4 r5 r6 r7 f8 r9 r10 r11 (bkN b m12_0 m12_1) (bkN b m13_0 m13_1) (bkN b m14_0 m14_1) (bkN b m15_0 m15_1) := by
  obtain ⟨h1, h2, h5, h6, h7, h8, h9, h10⟩ := h
  refine ⟨h1, h2, fun i hi => ?_, fun i h1 h2 => ?_, h7, h8, h9, h10⟩
  · by_cases e : i = k
    · subst e; rw [upd_s, upd_s]
    · rw [upd_n e, upd_n (show 8 * b + i ≠ 8 * b + k by omega)]; exact h5 i hi
  · rw [upd_n (by omega)]; exact h6 i h1 h2
theorem WFm.urg {nc np ne : Nat} {q8 q9 : Nat → Nat} {f4 f10 f11 f12 f13 : Nat → Int32} (w : WFm nc np ne f4 q8 q9 f10 f11 f12 f13) {k : Nat} {v : Int32} (hv : v = 0 ∨ v = 1) : WFm nc np ne (upd f4 k v) q8 q9 f10 f11 f12 f13 := by
  obtain ⟨w1, w2, w3⟩ := w
  refine ⟨w1, fun i hi => ?_, w3⟩
  by_cases e : i = k
  · subst e; rw [upd_s]; exact hv
  · rw [upd_n e]; exact w2 i hi
/-- what an act of a place leaves, on both sides -/
def UQ (b nc np ne : Nat) (st0 : Int32) (f4 : Nat → Int32) (q5 q6 : Nat → Nat) (f7 : Nat → Int32) (q8 q9 : Nat → Nat) (f10 f11 f12 f13 : Nat → Int32) (f3 : Nat → Int32) (r4 r5 r6 r7 : Nat → Nat) (f8 : Nat → Int32) (r9 r10 : Nat → Nat) (r11 : Nat → Int32) (c1 c2 c3 c4 : Nat) (hs ss on x29 x30 : Nat) (RE : Nat × (Nat → Int32) × (Nat → Int32) × (Nat → Int32) × Nat × Nat × Nat × Nat) (RM : Nat × (Nat → Int32) × (Nat → Nat) × (Nat → Int32) × Int32 × Nat × Nat × Nat) : Prop :=
  ∃ r zo zl z4 zss zhs zk zon w3 w31 w32 w29 w30 w33, RE = (r, zo, zl, z4, zss, zhs, zk, zon) ∧ RM = (r, w3, w31, w32, 0, w29, w30, w33) ∧
    MB b nc np ne st0 z4 q5 q6 f7 q8 q9 f10 f11 w3 r4 r5 r6 r7 f8 r9 r10 r11 c1 c2 c3 c4 ∧ WFm nc np ne z4 q8 q9 f10 f11 f12 f13 ∧ HR b np ne q8 zk zo zl w33 w31 w32 ∧ FLG hs ss on x29 x30 zhs zss zon w29 w30 (z4 = f4 ∧ w3 = f3)
theorem urgent_same {b nc np ne : Nat} {st0 : Int32} {f4 : Nat → Int32} {q5 q6 : Nat → Nat} {f7 : Nat → Int32} {q8 q9 : Nat → Nat} {f10 f11 : Nat → Int32} {f3 : Nat → Int32} {r4 r5 r6 r7 : Nat → Nat} {f8 : Nat → Int32} {r9 r10 : Nat → Nat} {r11 : Nat → Int32} {m12_0 m12_1 m13_0 m13_1 m14_0 m14_1 m15_0 m15_1 : Nat} {f12 f13 : Nat → Int32} (h : MB b nc np ne st0 f4 q5 q6 f7 q8 q9 f10 f11 f3 r4 r5 r6 r7 f8 r9 r10 r11 (bkN b m12_0 m12_1) (bkN b m13_0 m13_1) (bkN b m14_0 m14_1) (bkN b m15_0 m15_1)) (w : WFm nc np ne f4 q8 q9 f10 f11 f12 f13) {hk : Nat} {fo fl : Nat → Int32} {x33 : Nat} {q31 : Nat → Nat} {f32 : Nat → Int32} (hh : HR b np ne q8 hk fo fl x33 q31 f32) (hs ss on x29 x30 : Nat) (p0 : Int32) {a1 : Nat} (ha : a1 ≤ 1) :
    UQ b nc np ne st0 f4 q5 q6 f7 q8 q9 f10 f11 f12 f13 f3 r4 r5 r6 r7 f8 r9 r10 r11 (bkN b m12_0 m12_1) (bkN b m13_0 m13_1) (bkN b m14_0 m14_1) (bkN b m15_0 m15_1) hs ss on x29 x30 (sp_E_8_urgent hs ss np f4 hk fo fl on p0 a1) (sp_EM_urgent b x29 x30 x33 f3 m13_0 m13_1 q31 f32 p0 a1) := by
  have same : ∀ RE RM, RE = (0, fo, fl, f4, ss, hs, hk, on) → RM = (0, f3, q31, f32, 0, x29, x30, x33) → UQ b nc np ne st0 f4 q5 q6 f7 q8 q9 f10 f11 f12 f13 f3 r4 r5 r6 r7 f8 r9 r10 r11 (bkN b m12_0 m12_1) (bkN b m13_0 m13_1) (bkN b m14_0 m14_1) (bkN b m15_0 m15_1) hs ss on x29 x30 RE RM := fun RE RM hE hM =>
    ⟨0, fo, fl, f4, ss, hs, hk, on, f3, q31, f32, x29, x30, x33, hE, hM, h, w, hh, Or.inl ⟨rfl, rfl, rfl, rfl, rfl, rfl, rfl⟩⟩
  have h' := h
  obtain ⟨⟨-, -, e13, hnp, -, -⟩, -, h4, -, -, -, -, -⟩ := h'
  by_cases hp : (0 : Int32) ≤ p0 ∧ p0 < nI np
  · obtain ⟨k, hk2, rfl⟩ := pu_ult (x := p0) (b := np) (by omega) (Int32.not_lt.mpr hp.1) hp.2
    have hp' : (0 : Int32) ≤ nI k ∧ (nI k : Int32) < nI (bkN b m13_0 m13_1) := by rw [e13]; exact hp
    have hn : (nI k : Int32).toNatClampNeg = k := (nI_cl (by omega)).symm
    have e4 := h4 k hk2
    have b0 : sp_E_8_bit 0 = 0 := by unfold sp_E_8_bit; exact if_pos rfl
    have b1 : sp_E_8_bit 1 = 1 := by unfold sp_E_8_bit; exact if_neg (by decide)
    have he : ∀ o : Int32, o = 0 ∨ o = 1 → HE b np ne q8 (-1 - nI k) o (1000 + k) o := fun o ho => ⟨rfl, Or.inl ⟨k, hk2, rfl, rfl, ho⟩⟩
    have n01 : ¬ (0 : Int32) = 1 := by decide
    have n10 : ¬ (1 : Nat) = 0 := by decide
    rcases (show a1 = 0 ∨ a1 = 1 by omega) with rfl | rfl
    · rcases w.2.1 k (by omega) with z | z
      · have u : sp_EM_isUrgent b f3 k = 0 := by simp only [sp_EM_isUrgent, slet, ← e4, z, if_neg n01]
        exact same _ _ (by simp only [sp_E_8_urgent, slet, if_pos hp, hn, z, if_pos (show (0 : Int32) = nI 0 by decide)]) (by simp only [sp_EM_urgent, slet, if_pos hp', hn, u, reduceIte])
      · have u : sp_EM_isUrgent b f3 k = 1 := by simp only [sp_EM_isUrgent, slet, ← e4, z, reduceIte]
        obtain ⟨zo, zl, zk, w31, w32, ek, eM, hh'⟩ := keep_same hh (he (nI 1) (Or.inr (by decide))) (Or.inr ⟨by omega, by omega⟩)
        refine ⟨1, zo, zl, upd f4 k (nI 0), 0, 0, zk, 0, upd f3 (8 * b + k) (nI 0), w31, w32, 0, 0, zk, ?_, ?_, h.urg _ hk2, w.urg (Or.inl (by decide)), hh', Or.inr ⟨rfl, rfl, rfl, rfl, rfl⟩⟩
        · simp only [sp_E_8_urgent, slet, if_pos hp, hn, z, if_neg (show ¬ (1 : Int32) = nI 0 by decide), reduceIte, b1, ek, show vp_nar .boolean (nI 0) = nI 0 from rfl]
        · simp only [sp_EM_urgent, slet, if_pos hp', hn, u, if_neg n10, reduceIte, eM]
    · rcases w.2.1 k (by omega) with z | z
      · have u : sp_EM_isUrgent b f3 k = 0 := by simp only [sp_EM_isUrgent, slet, ← e4, z, if_neg n01]
        obtain ⟨zo, zl, zk, w31, w32, ek, eM, hh'⟩ := keep_same hh (he (nI 0) (Or.inl (by decide))) (Or.inr ⟨by omega, by omega⟩)
        refine ⟨1, zo, zl, upd f4 k (nI 1), 0, 0, zk, 0, upd f3 (8 * b + k) (nI 1), w31, w32, 0, 0, zk, ?_, ?_, h.urg _ hk2, w.urg (Or.inr (by decide)), hh', Or.inr ⟨rfl, rfl, rfl, rfl, rfl⟩⟩
        · simp only [sp_E_8_urgent, slet, if_pos hp, hn, z, if_neg (show ¬ (0 : Int32) = nI 1 by decide), if_neg n10, b0, ek, show vp_nar .boolean (nI 1) = nI 1 from rfl]
        · simp only [sp_EM_urgent, slet, if_pos hp', hn, u, if_neg (show ¬ (0 : Nat) = 1 by decide), if_neg n10, eM]
      · have u : sp_EM_isUrgent b f3 k = 1 := by simp only [sp_EM_isUrgent, slet, ← e4, z, reduceIte]
        exact same _ _ (by simp only [sp_E_8_urgent, slet, if_pos hp, hn, z, if_pos (show (1 : Int32) = nI 1 by decide)]) (by simp only [sp_EM_urgent, slet, if_pos hp', hn, u, reduceIte])
  · have hp' : ¬ ((0 : Int32) ≤ p0 ∧ p0 < nI (bkN b m13_0 m13_1)) := by rw [e13]; exact hp
    exact same _ _ (by simp only [sp_E_8_urgent, slet, if_neg hp]) (by simp only [sp_EM_urgent, slet, if_neg hp'])
/-- what taking back leaves, on both sides -/
def BQ (b nc np ne : Nat) (st0 : Int32) (f4 : Nat → Int32) (q5 q6 : Nat → Nat) (f7 : Nat → Int32) (q8 q9 : Nat → Nat) (f10 f11 f12 f13 f14 f15 f16 : Nat → Int32) (fo fl : Nat → Int32) (f3 : Nat → Int32) (r4 r5 r6 r7 : Nat → Nat) (f8 : Nat → Int32) (r9 r10 : Nat → Nat) (r11 : Nat → Int32) (q31 : Nat → Nat) (f32 : Nat → Int32) (c1 c2 c3 c4 : Nat) (hs ss on x29 x30 : Nat) (RE : Nat × (Nat → Int32) × (Nat → Int32) × (Nat → Int32) × (Nat → Int32) × (Nat → Int32) × (Nat → Int32) × (Nat → Int32) × Nat × Nat × Nat × Nat) (RM : Nat × (Nat → Int32) × (Nat → Int32) × Int32 × Nat × Nat × Nat) : Prop :=
  ∃ r z12 z13 z14 z15 z16 z4 z11 zss zhs zk zon w11 w3 w29 w30 w33, RE = (r, z12, z13, z14, z15, z16, z4, z11, zss, zhs, zk, zon) ∧ RM = (r, w11, w3, 0, w29, w30, w33) ∧
    MB b nc np ne st0 z4 q5 q6 f7 q8 q9 f10 z11 w3 r4 r5 r6 r7 f8 r9 r10 w11 c1 c2 c3 c4 ∧ WFm nc np ne z4 q8 q9 f10 z11 z12 z13 ∧ (MS nc np q8 q9 f10 f11 f14 f15 f16 → MS nc np q8 q9 f10 z11 z14 z15 z16) ∧ HR b np ne q8 zk fo fl w33 q31 f32 ∧ FLG hs ss on x29 x30 zhs zss zon w29 w30 (z4 = f4 ∧ w3 = f3 ∧ z11 = f11 ∧ z12 = f12 ∧ z13 = f13 ∧ z14 = f14 ∧ z15 = f15 ∧ z16 = f16 ∧ w11 = r11)
theorem undo_same {b nc np ne : Nat} {st0 : Int32} {f4 : Nat → Int32} {q5 q6 : Nat → Nat} {f7 : Nat → Int32} {q8 q9 : Nat → Nat} {f10 f11 : Nat → Int32} {f3 : Nat → Int32} {r4 r5 r6 r7 : Nat → Nat} {f8 : Nat → Int32} {r9 r10 : Nat → Nat} {r11 : Nat → Int32} {m12_0 m12_1 m13_0 m13_1 m14_0 m14_1 m15_0 m15_1 : Nat} {f12 f13 f14 f15 f16 : Nat → Int32} (h : MB b nc np ne st0 f4 q5 q6 f7 q8 q9 f10 f11 f3 r4 r5 r6 r7 f8 r9 r10 r11 (bkN b m12_0 m12_1) (bkN b m13_0 m13_1) (bkN b m14_0 m14_1) (bkN b m15_0 m15_1)) (w : WFm nc np ne f4 q8 q9 f10 f11 f12 f13) (hb : b ≤ 1) {hk : Nat} {fo fl : Nat → Int32} {x33 : Nat} {q31 : Nat → Nat} {f32 : Nat → Int32} (hh : HR b np ne q8 hk fo fl x33 q31 f32) (hs ss on x29 x30 : Nat) :
    BQ b nc np ne st0 f4 q5 q6 f7 q8 q9 f10 f11 f12 f13 f14 f15 f16 fo fl f3 r4 r5 r6 r7 f8 r9 r10 r11 q31 f32 (bkN b m12_0 m12_1) (bkN b m13_0 m13_1) (bkN b m14_0 m14_1) (bkN b m15_0 m15_1) hs ss on x29 x30 (sp_E_8_undo hs ss f4 q8 q9 f10 f11 f12 f13 f14 f15 f16 hk fo fl on) (sp_EM_undo b x29 x30 x33 f3 r11 q31 f32) := by
  obtain ⟨rfl, h20, hi⟩ := hh
  have h' := h
  obtain ⟨⟨-, -, -, hnp, -, hne⟩, -, -, -, -, h8, h9, -⟩ := h'
  by_cases c : x33 = 0
  · refine ⟨0, f12, f13, f14, f15, f16, f4, f11, ss, hs, x33, on, r11, f3, x29, x30, x33, ?_, ?_, h, w, id, ⟨rfl, h20, hi⟩, Or.inl ⟨rfl, rfl, rfl, rfl, rfl, rfl, rfl, rfl, rfl, rfl, rfl, rfl, rfl, rfl⟩⟩
    · simp only [sp_E_8_undo, sp_E_2_takesBack, slet, if_pos c, reduceIte]
    · simp only [sp_EM_undo, slet, if_pos c]
  · have hr : HR b np ne q8 (x33 - 1) fo fl (x33 - 1) q31 f32 := ⟨rfl, by omega, fun i h2 => hi i (by omega)⟩
    have n10 : ¬ (1 : Nat) = 0 := by decide
    obtain ⟨eo, hcase⟩ := hi (x33 - 1) (by omega)
    have num : ∀ g j s' n, PL b np ne q8 g j s' → fo (x33 - 1) = nI (g * 4 + j) → actV 159 (q31 (x33 - 1)) = s' → n ≤ 20 → fl (x33 - 1) = nI n → BQ b nc np ne st0 f4 q5 q6 f7 q8 q9 f10 f11 f12 f13 f14 f15 f16 fo fl f3 r4 r5 r6 r7 f8 r9 r10 r11 q31 f32 (bkN b m12_0 m12_1) (bkN b m13_0 m13_1) (bkN b m14_0 m14_1) (bkN b m15_0 m15_1) hs ss on x29 x30 (sp_E_8_undo hs ss f4 q8 q9 f10 f11 f12 f13 f14 f15 f16 x33 fo fl on) (sp_EM_undo b x29 x30 x33 f3 r11 q31 f32) := by
      intro g j s' n hP ec ea hn20 eL
      obtain ⟨e11, s79, g22⟩ := h.at hP
      obtain ⟨⟨hw, n0, hm, hn0, g10, g11, g12, g13⟩, -⟩ := (w.1 g g22).2 j hP.1
      have w4 := (w.1 g g22).1
      have m4 : mH g ≤ 4 := by unfold mH; split <;> omega
      have hP1 := hP.1
      obtain ⟨z14, z15, z16, em, es⟩ := setNumber_eq (q8 := q8) (q9 := q9) (f11 := f11) (f12 := f12) (f13 := f13) (f14 := f14) (f15 := f15) (f16 := f16) (n := n) g10 (Nat.le_trans hm m4)
      have hn : (nI (g * 4 + j) : Int32).toNatClampNeg = g * 4 + j := (nI_cl (by omega)).symm
      have c0 : ¬ (nI (g * 4 + j) : Int32) < 0 := nI_pos (by omega)
      have eF : f32 (x33 - 1) = nI n := eo.symm.trans eL
      have ns : ¬ 1000 ≤ s' := by omega
      refine ⟨1, upd f12 (g * 4 + j) (clF hw n), upd f13 (g * 4 + j) (flF hw n), z14, z15, z16, f4, upd f11 (g * 4 + j) (nI n), 0, 0, x33 - 1, 0, upd r11 s' (nI n), f3, 0, 0, x33 - 1, ?_, ?_, h.num (nI n) hP, w.num g22 hP.1 g10 hm hn20, fun _ => Or.inr ⟨f14, f15, f16, em.symm⟩, hr, Or.inr ⟨rfl, rfl, rfl, rfl, rfl⟩⟩
      · simp only [sp_E_8_undo, sp_E_2_takesBack, slet, if_neg c, ec, if_neg c0, hn, eL, es, if_neg n10]
      · simp only [sp_EM_undo, slet, if_neg c, ea, if_neg ns, eF, sp_EM_another]
    rcases hcase with ⟨p, hp, ec, ea, eL⟩ | ⟨k, j, n, hk2, hj, ec, ea, hn, eL⟩ | ⟨k, j, n, hk2, hj, ec, ea, hn, eL⟩
    · have key : ∀ p : Nat, p < 8 → ((-1 : Int32) - (-1 - nI p)).toNatClampNeg = p ∧ (-1 - nI p : Int32) < 0 := by decide
      obtain ⟨k1, k2⟩ := key p (by omega)
      have e8 : 8 * b + (1000 + p) - 1000 = 8 * b + p := by omega
      have ns : 1000 ≤ 1000 + p := by omega
      have v01 : ∀ v : Int32, v = 0 ∨ v = 1 → fl (x33 - 1) = v → (∀ z, sp_E_2_takesBack x33 fo fl f4 q8 q9 f10 f11 f12 f13 f14 f15 f16 = z → z = (1, f11, f12, f13, f14, f15, f16, upd f4 p v, x33 - 1)) → BQ b nc np ne st0 f4 q5 q6 f7 q8 q9 f10 f11 f12 f13 f14 f15 f16 fo fl f3 r4 r5 r6 r7 f8 r9 r10 r11 q31 f32 (bkN b m12_0 m12_1) (bkN b m13_0 m13_1) (bkN b m14_0 m14_1) (bkN b m15_0 m15_1) hs ss on x29 x30 (sp_E_8_undo hs ss f4 q8 q9 f10 f11 f12 f13 f14 f15 f16 x33 fo fl on) (sp_EM_undo b x29 x30 x33 f3 r11 q31 f32) := by
        intro v hv ev ez
        have ez := ez _ rfl
        have eF : f32 (x33 - 1) = v := eo.symm.trans ev
        refine ⟨1, f12, f13, f14, f15, f16, upd f4 p v, f11, 0, 0, x33 - 1, 0, r11, upd f3 (8 * b + p) v, 0, 0, x33 - 1, ?_, ?_, h.urg v hp, w.urg hv, id, hr, Or.inr ⟨rfl, rfl, rfl, rfl, rfl⟩⟩
        · simp only [sp_E_8_undo, slet, ez, if_neg n10]
        · simp only [sp_EM_undo, slet, if_neg c, ea, if_pos ns, eF, e8, sp_EM_another]
      rcases eL with eL | eL
      · refine v01 0 (Or.inl rfl) eL fun z ez => ?_
        rw [← ez]
        simp only [sp_E_2_takesBack, slet, if_neg c, ec, if_pos k2, k1, eL, if_neg (show ¬ (0 : Int32) = 1 by decide), show vp_nar .boolean 0 = 0 from rfl]
      · refine v01 1 (Or.inr rfl) eL fun z ez => ?_
        rw [← ez]
        simp only [sp_E_2_takesBack, slet, if_neg c, ec, if_pos k2, k1, eL, reduceIte, show vp_nar .boolean 1 = 1 from rfl]
    · exact num k j _ n ⟨hj, Or.inl ⟨hk2, by omega, rfl⟩⟩ ec ea hn eL
    · exact num (14 + k) j _ n ⟨hj, Or.inr ⟨k, hk2, rfl, rfl⟩⟩ ec ea hn eL
theorem letsE_loop {nc : Nat} {ne : Nat} {st0 : Nat} {f4 : Nat → Int32} {f7 : Nat → Int32} {o : Nat}  {n_5 : Nat} {n_8 : Nat} {q5 q6 q8 q9 : Nat → Nat} {f10 F11 F12 F13 : Nat → Int32} {s hw : Nat} (h10 : f10 s = nI hw) (hh : hw ≤ 4) : ∀ (g_76 : Nat → Int32) (g_77 : Nat → Int32) (g_78 : Nat → Int32) (g_79 : Nat → Int32) (g_80 : Nat → Int32) (g_81 : Nat → Nat) (g_82 : Nat → Int32) (g_83 : Nat → Int32) (g_84 : Nat → Int32) (g_85 : Nat → Int32) (g_86 : Nat → Int32) (g_87 : Nat → Int32) (g_88 : Nat → Int32) (g_89 : Nat → Int32) (g_90 : Int32) (g_91 : Int32) (g_92 : Nat) (g_93 : Nat) (g_94 : Nat) (g_95 : Nat) (g_96 : Nat) (g_97 : Int32) (g_98 : Int32) (g_99 : Int32) (g_100 : Nat) (g_101 : Nat → Nat → Int32) (g_102 : Nat → Nat), (∀ k, k ≠ s → g_89 k = F11 k ∧ g_76 k = F12 k ∧ g_77 k = F13 k) → ∀ k, k ≠ s → (itrv default (sp_E_8_lets_L1 nc ne st0 f4 q5 q6 f7 q8 q9 f10 o s n_5 n_8) (g_76, g_77, g_78, g_79, g_80, g_81, g_82, g_83, g_84, g_85, g_86, g_87, g_88, g_89, g_90, g_91, g_92, g_93, g_94, g_95, g_96, g_97, g_98, g_99, g_100, g_101, g_102)).2.2.1 k = F11 k ∧ (itrv default (sp_E_8_lets_L1 nc ne st0 f4 q5 q6 f7 q8 q9 f10 o s n_5 n_8) (g_76, g_77, g_78, g_79, g_80, g_81, g_82, g_83, g_84, g_85, g_86, g_87, g_88, g_89, g_90, g_91, g_92, g_93, g_94, g_95, g_96, g_97, g_98, g_99, g_100, g_101, g_102)).2.2.2.1 k = F12 k ∧ (itrv default (sp_E_8_lets_L1 nc ne st0 f4 q5 q6 f7 q8 q9 f10 o s n_5 n_8) (g_76, g_77, g_78, g_79, g_80, g_81, g_82, g_83, g_84, g_85, g_86, g_87, g_88, g_89, g_90, g_91, g_92, g_93, g_94, g_95, g_96, g_97, g_98, g_99, g_100, g_101, g_102)).2.2.2.2.1 k = F13 k := by
  intro g_76 g_77 g_78 g_79 g_80 g_81 g_82 g_83 g_84 g_85 g_86 g_87 g_88 g_89 g_90 g_91 g_92 g_93 g_94 g_95 g_96 g_97 g_98 g_99 g_100 g_101 g_102 h
  refine itrv_inv (d := default) (f := sp_E_8_lets_L1 nc ne st0 f4 q5 q6 f7 q8 q9 f10 o s n_5 n_8) (fun t => ∀ k, k ≠ s → t.2.2.2.2.2.2.2.2.2.2.2.2.2.1 k = F11 k ∧ t.1 k = F12 k ∧ t.2.1 k = F13 k) (fun b => ∀ k, k ≠ s → b.2.2.1 k = F11 k ∧ b.2.2.2.1 k = F12 k ∧ b.2.2.2.2.1 k = F13 k) (fun t => 21 - t.2.2.2.2.2.2.2.2.2.2.2.2.2.2.2.2.2.2.2.2.2.2.2.2.1) ?_ 21 (g_76, g_77, g_78, g_79, g_80, g_81, g_82, g_83, g_84, g_85, g_86, g_87, g_88, g_89, g_90, g_91, g_92, g_93, g_94, g_95, g_96, g_97, g_98, g_99, g_100, g_101, g_102) (Nat.sub_le _ _) h
  clear h
  rintro ⟨g_76, g_77, g_78, g_79, g_80, g_81, g_82, g_83, g_84, g_85, g_86, g_87, g_88, g_89, g_90, g_91, g_92, g_93, g_94, g_95, g_96, g_97, g_98, g_99, g_100, g_101, g_102⟩ h
  have h : ∀ k, k ≠ s → g_89 k = F11 k ∧ g_76 k = F12 k ∧ g_77 k = F13 k := h
  by_cases c : 20 < g_100
  · exact Or.inr ⟨(g_99, g_100, g_89, g_76, g_77, g_78, g_79, g_80, g_95, g_96, g_97, g_98, g_90, g_91, g_92, g_93, g_94, g_81, g_82, g_83, g_84, g_85, g_86, g_87, g_88, g_102, g_101), by simp only [sp_E_8_lets_L1, if_pos c], h⟩
  · by_cases c2 : g_99 = (-2)
    · obtain ⟨z14, z15, z16, -, es⟩ := setNumber_eq (q8 := q8) (q9 := q9) (f11 := g_89) (f12 := g_76) (f13 := g_77) (f14 := g_78) (f15 := g_79) (f16 := g_80) (n := (if n_8 = 0 then g_100 else (20 - g_100))) h10 hh
      obtain ⟨⟨u_144, z_s1t_125, z_s2t_126, z_s3t_127, z_s4t_128, z_s5t_129, z_hit_130, z_lot_131, z_fbu_132, z_tav_133, z_tgoal_134, z_tfound_135, z_tl_136, z_tsz_137, z_tc_138, z_tfull_139, z_tx_140, z_tway_141, z_fz_142, z_qs_143⟩, ec⟩ : ∃ x, (sp_E_8_canReach nc ne st0 f4 q5 q6 f7 q8 q9 (upd g_76 s (clF hw (if n_8 = 0 then g_100 else (20 - g_100)))) (upd g_77 s (flF hw (if n_8 = 0 then g_100 else (20 - g_100)))) z14 z15 z16 g_81 g_82 g_83 g_84 g_85 g_86 g_87 g_88 o g_102 g_101 (nI n_5) (-1)) = x := ⟨_, rfl⟩
      refine Or.inl ⟨((upd g_76 s (clF hw (if n_8 = 0 then g_100 else (20 - g_100)))), (upd g_77 s (flF hw (if n_8 = 0 then g_100 else (20 - g_100)))), z14, z15, z16, z_s1t_125, z_s2t_126, z_s3t_127, z_s4t_128, z_s5t_129, z_hit_130, z_lot_131, z_fbu_132, (upd g_89 s (nI (if n_8 = 0 then g_100 else (20 - g_100)))), z_tav_133, z_tgoal_134, z_tfound_135, z_tl_136, z_tsz_137, z_tc_138, z_tfull_139, z_tx_140, z_tway_141, (if u_144 = 0 then g_99 else (nI (if n_8 = 0 then g_100 else (20 - g_100)))), (g_100 + 1), z_fz_142, z_qs_143), by simp only [sp_E_8_lets_L1, slet, if_neg c, if_pos c2, es, ec], fun k hk => ?_, by show 21 - (g_100 + 1) < 21 - g_100; omega⟩
      obtain ⟨a1, a2, a3⟩ := h k hk
      exact ⟨(upd_n hk).trans a1, (upd_n hk).trans a2, (upd_n hk).trans a3⟩
    · exact Or.inr ⟨(g_99, g_100, g_89, g_76, g_77, g_78, g_79, g_80, g_95, g_96, g_97, g_98, g_90, g_91, g_92, g_93, g_94, g_81, g_82, g_83, g_84, g_85, g_86, g_87, g_88, g_102, g_101), by simp only [sp_E_8_lets_L1, if_neg c, if_neg c2], h⟩
theorem upd_back {f g : Nat → Int32} {s : Nat} {v : Int32} (h : ∀ k, k ≠ s → g k = f k) (hv : v = f s) : upd g s v = f := funext fun k => by
  by_cases e : k = s
  · rw [e, upd_s, hv]
  · rw [upd_n e, h k e]
theorem letsE_keep {b nc np ne : Nat} {st0 : Int32} {f4 : Nat → Int32} {q5 q6 : Nat → Nat} {f7 : Nat → Int32} {q8 q9 : Nat → Nat} {f10 f11 : Nat → Int32} {f3 : Nat → Int32} {r4 r5 r6 r7 : Nat → Nat} {f8 : Nat → Int32} {r9 r10 : Nat → Nat} {r11 : Nat → Int32} {m12_0 m12_1 m13_0 m13_1 m14_0 m14_1 m15_0 m15_1 : Nat} {f12 f13 f14 f15 f16 : Nat → Int32} {sn : Nat} {tc : Nat} {tfull : Nat} {tx : Int32} {tway : Int32} {tav : Int32} {tgoal : Int32} {tfound : Nat} {tl : Nat} {tsz : Nat} {q_s1t : Nat → Nat} {s2t : Nat → Int32} {s3t : Nat → Int32} {s4t : Nat → Int32} {s5t : Nat → Int32} {hit : Nat → Int32} {lot : Nat → Int32} {fbu : Nat → Int32} {o : Nat} {qs : Nat → Nat} {fz : Nat → Nat → Int32} {p0 p1 p2 p3 : Int32} {r : Int32} {z12 : Nat → Int32} {z13 : Nat → Int32} {z14 : Nat → Int32} {z15 : Nat → Int32} {z16 : Nat → Int32} {b1 : Nat → Nat} {b2 : Nat → Int32} {b3 : Nat → Int32} {b4 : Nat → Int32} {b5 : Nat → Int32} {b6 : Nat → Int32} {b7 : Nat → Int32} {b8 : Nat → Int32} {z11 : Nat → Int32} {b9 : Int32} {b10 : Int32} {b11 : Nat} {b12 : Nat} {b13 : Nat} {b14 : Nat} {b15 : Nat} {b16 : Int32} {b17 : Int32} {b18 : Nat → Nat → Int32} {b19 : Nat → Nat} (h : MB b nc np ne st0 f4 q5 q6 f7 q8 q9 f10 f11 f3 r4 r5 r6 r7 f8 r9 r10 r11 (bkN b m12_0 m12_1) (bkN b m13_0 m13_1) (bkN b m14_0 m14_1) (bkN b m15_0 m15_1)) (w : WFm nc np ne f4 q8 q9 f10 f11 f12 f13) (e : sp_E_8_lets nc np ne sn f4 q5 q6 f7 q8 q9 f10 f11 f12 f13 f14 f15 f16 tc tfull tx tway tav tgoal tfound tl tsz q_s1t s2t s3t s4t s5t hit lot fbu o qs fz p0 p1 p2 p3 = (r, z12, z13, z14, z15, z16, b1, b2, b3, b4, b5, b6, b7, b8, z11, b9, b10, b11, b12, b13, b14, b15, b16, b17, b18, b19)) : z11 = f11 ∧ z12 = f12 ∧ z13 = f13 ∧ (MS nc np q8 q9 f10 f11 f14 f15 f16 → MS nc np q8 q9 f10 z11 z14 z15 z16) := by
  have core : ∀ g j s', PL b np ne q8 g j s' → sp_E_8_slotOf np ne q8 p0 p1 = g * 4 + j + 1 → z11 = f11 ∧ z12 = f12 ∧ z13 = f13 ∧ (MS nc np q8 q9 f10 f11 f14 f15 f16 → MS nc np q8 q9 f10 z11 z14 z15 z16) := by
    intro g j s' hP s1
    obtain ⟨e11, s79, g22⟩ := h.at hP
    obtain ⟨⟨hw, n0, hm, hn0, g10, g11, g12, g13⟩, -⟩ := (w.1 g g22).2 j hP.1
    have m4 : mH g ≤ 4 := by unfold mH; split <;> omega
    have h4 : hw ≤ 4 := Nat.le_trans hm m4
    have ns : ¬ g * 4 + j + 1 = 0 := Nat.succ_ne_zero _
    by_cases c : (0 : Int32) ≤ p2 ∧ p2 < nI np
    · by_cases c3 : p3 < 0
      · simp only [sp_E_8_lets, slet, s1, if_neg ns, if_pos c, if_pos c3, Prod.mk.injEq] at e
        obtain ⟨-, rfl, rfl, rfl, rfl, rfl, -, -, -, -, -, -, -, -, rfl, -⟩ := e
        exact ⟨rfl, rfl, rfl, id⟩
      · by_cases c1 : p3 ≤ 1
        · simp only [sp_E_8_lets, slet, s1, if_neg ns, Nat.add_sub_cancel, if_pos c, if_neg c3, if_pos c1] at e
          have hl := letsE_loop (nc := nc) (ne := ne) (st0 := sn) (f4 := f4) (f7 := f7) (o := o) (q5 := q5) (q6 := q6) (q8 := q8) (q9 := q9) (n_5 := p2.toNatClampNeg) (n_8 := p3.toNatClampNeg) (F11 := f11) (F12 := f12) (F13 := f13) (s := g * 4 + j) g10 h4 f12 f13 f14 f15 f16 q_s1t s2t s3t s4t s5t hit lot fbu f11 tav tgoal tfound tl tsz tc tfull tx tway (-2) 0 fz qs (fun _ _ => ⟨rfl, rfl, rfl⟩)
          revert e hl
          generalize itrv default (sp_E_8_lets_L1 nc ne sn f4 q5 q6 f7 q8 q9 f10 o (g * 4 + j) p2.toNatClampNeg p3.toNatClampNeg) (f12, f13, f14, f15, f16, q_s1t, s2t, s3t, s4t, s5t, hit, lot, fbu, f11, tav, tgoal, tfound, tl, tsz, tc, tfull, tx, tway, (-2), 0, fz, qs) = X
          obtain ⟨x0, x1, x2, x3, x4, x5, x6, x7, x8, x9, x10, x11, x12, x13, x14, x15, x16, x17, x18, x19, x20, x21, x22, x23, x24, x25, x26⟩ := X
          intro e hl
          have hl : ∀ k, k ≠ g * 4 + j → x2 k = f11 k ∧ x3 k = f12 k ∧ x4 k = f13 k := hl
          obtain ⟨y14, y15, y16, em, es⟩ := setNumber_eq (q8 := q8) (q9 := q9) (f11 := x2) (f12 := x3) (f13 := x4) (f14 := x5) (f15 := x6) (f16 := x7) (n := n0) g10 h4
          have u11 : upd x2 (g * 4 + j) (nI n0) = f11 := upd_back (fun k hk => (hl k hk).1) g11.symm
          have u12 : upd x3 (g * 4 + j) (clF hw n0) = f12 := upd_back (fun k hk => (hl k hk).2.1) g12.symm
          have u13 : upd x4 (g * 4 + j) (flF hw n0) = f13 := upd_back (fun k hk => (hl k hk).2.2) g13.symm
          rw [u11] at em
          rw [u11, u12, u13] at es
          simp only [g11, es, Prod.mk.injEq] at e
          obtain ⟨-, rfl, rfl, rfl, rfl, rfl, -, -, -, -, -, -, -, -, rfl, -⟩ := e
          exact ⟨rfl, rfl, rfl, fun _ => Or.inr ⟨x5, x6, x7, em.symm⟩⟩
        · simp only [sp_E_8_lets, slet, s1, if_neg ns, if_pos c, if_neg c3, if_neg c1, Prod.mk.injEq] at e
          obtain ⟨-, rfl, rfl, rfl, rfl, rfl, -, -, -, -, -, -, -, -, rfl, -⟩ := e
          exact ⟨rfl, rfl, rfl, id⟩
    · simp only [sp_E_8_lets, slet, s1, if_neg ns, if_neg c, Prod.mk.injEq] at e
      obtain ⟨-, rfl, rfl, rfl, rfl, rfl, -, -, -, -, -, -, -, -, rfl, -⟩ := e
      exact ⟨rfl, rfl, rfl, id⟩
  have hne := h.1.2.2.2.2.2
  rcases slot_same h p0 p1 with ⟨s1, s2⟩ | ⟨k, j, hk2, hj, -, -, s1, s2⟩ | ⟨k, j, hk2, hj, -, -, s1, s2⟩
  · simp only [sp_E_8_lets, slet, s1, reduceIte, Prod.mk.injEq] at e
    obtain ⟨-, rfl, rfl, rfl, rfl, rfl, -, -, -, -, -, -, -, -, rfl, -⟩ := e
    exact ⟨rfl, rfl, rfl, id⟩
  · exact core k j _ ⟨hj, Or.inl ⟨hk2, by omega, rfl⟩⟩ s1
  · exact core (14 + k) j _ ⟨hj, Or.inr ⟨k, hk2, rfl, rfl⟩⟩ s1
theorem letsM_loop1 {x16 : Nat} {f3 : Nat → Int32} {q4 : Nat → Nat} {q5 : Nat → Nat} {q6 : Nat → Nat} {q7 : Nat → Nat} {f8 : Nat → Int32} {q9 : Nat → Nat} {q10 : Nat → Nat} {m12_0 : Nat} {m12_1 : Nat} {m13_0 : Nat} {m13_1 : Nat} {m14_0 : Nat} {m14_1 : Nat} {m15_0 : Nat} {m15_1 : Nat} {n_3 : Nat} {n_4 : Nat} {n_6 : Nat} {n_8 : Nat} {F : Nat → Int32} : ∀ (g_47 : Nat → Int32) (g_48 : Nat → Int32) (g_49 : Nat → Int32) (g_50 : Nat → Nat) (g_51 : Nat → Int32) (g_52 : Nat → Int32) (g_53 : Nat → Int32) (g_54 : Nat → Int32) (g_55 : Nat → Int32) (g_56 : Nat → Int32) (g_57 : Nat → Int32) (g_58 : Nat) (g_59 : Nat) (g_60 : Int32) (g_61 : Nat), (∀ k, k ≠ (80 * x16 + 4 * n_3 + n_4) → g_47 k = F k) → ∀ k, k ≠ (80 * x16 + 4 * n_3 + n_4) → (itrv default (sp_EM_lets_L1 x16 f3 q4 q5 q6 q7 f8 q9 q10 m12_0 m12_1 m13_0 m13_1 m14_0 m14_1 m15_0 m15_1 n_3 n_4 n_6 n_8) (g_47, g_48, g_49, g_50, g_51, g_52, g_53, g_54, g_55, g_56, g_57, g_58, g_59, g_60, g_61)).2.2.2.1 k = F k := by
  intro g_47 g_48 g_49 g_50 g_51 g_52 g_53 g_54 g_55 g_56 g_57 g_58 g_59 g_60 g_61 h
  refine itrv_inv (d := default) (f := sp_EM_lets_L1 x16 f3 q4 q5 q6 q7 f8 q9 q10 m12_0 m12_1 m13_0 m13_1 m14_0 m14_1 m15_0 m15_1 n_3 n_4 n_6 n_8) (fun t => ∀ k, k ≠ (80 * x16 + 4 * n_3 + n_4) → t.1 k = F k) (fun b => ∀ k, k ≠ (80 * x16 + 4 * n_3 + n_4) → b.2.2.2.1 k = F k) (fun t => 21 - t.2.2.2.2.2.2.2.2.2.2.2.2.2.2) ?_ 21 (g_47, g_48, g_49, g_50, g_51, g_52, g_53, g_54, g_55, g_56, g_57, g_58, g_59, g_60, g_61) (Nat.sub_le _ _) h
  clear h
  rintro ⟨g_47, g_48, g_49, g_50, g_51, g_52, g_53, g_54, g_55, g_56, g_57, g_58, g_59, g_60, g_61⟩ h
  have h : ∀ k, k ≠ (80 * x16 + 4 * n_3 + n_4) → g_47 k = F k := h
  by_cases c : 20 < g_61
  · exact Or.inr ⟨(g_60, g_61, g_59, g_47, g_48, g_49, g_50, g_51, g_52, g_53, g_58, g_54, g_55, g_56, g_57), by simp only [sp_EM_lets_L1, if_pos c], h⟩
  · by_cases c2 : (0 : Int32) ≤ g_60
    · exact Or.inr ⟨(g_60, g_61, g_59, g_47, g_48, g_49, g_50, g_51, g_52, g_53, g_58, g_54, g_55, g_56, g_57), by simp only [sp_EM_lets_L1, if_neg c, if_pos c2], h⟩
    · obtain ⟨⟨z34_85, z35_86, z38_87, z39_88, z40_89, z41_90, z43_91, z44_92, z47_93, z48_94, z42_1_95⟩, ec⟩ : ∃ x, (sp_EM_explores_1_120 x16 ((sp_EM_clocks x16 m12_0 m12_1) + 1) f3 q4 q5 q6 q7 f8 q9 q10 (upd g_47 (80 * x16 + 4 * n_3 + n_4) (nI (if n_8 = 0 then g_61 else (20 - g_61)))) m12_0 m12_1 m13_0 m13_1 m14_0 m14_1 g_48 (sp_EM_layPoint g_49 0 0 0) g_50 g_51 g_52 g_53 g_54 g_55 g_56 g_57 ((if x16 = 0 then m15_0 else m15_1) - 1) 2 1 (-1)) = x := ⟨_, rfl⟩
      exact Or.inl ⟨((upd g_47 (80 * x16 + 4 * n_3 + n_4) (nI (if n_8 = 0 then g_61 else (20 - g_61)))), z34_85, z35_86, z38_87, z39_88, z40_89, z41_90, z43_91, z44_92, z47_93, z48_94, z42_1_95, ((sp_EM_clocks x16 m12_0 m12_1) + 1), (if (sp_EM_hasPlace_1 z38_87 z42_1_95 (nI n_6)) = 0 then g_60 else (upd g_47 (80 * x16 + 4 * n_3 + n_4) (nI (if n_8 = 0 then g_61 else (20 - g_61))) (80 * x16 + 4 * n_3 + n_4))), (g_61 + 1)), by simp only [sp_EM_lets_L1, slet, if_neg c, if_neg c2, ec], fun k hk => (upd_n hk).trans (h k hk), by show 21 - (g_61 + 1) < 21 - g_61; omega⟩
theorem letsM_loop2 {x16 : Nat} {f3 : Nat → Int32} {q4 : Nat → Nat} {q5 : Nat → Nat} {q6 : Nat → Nat} {q7 : Nat → Nat} {f8 : Nat → Int32} {q9 : Nat → Nat} {q10 : Nat → Nat} {m12_0 : Nat} {m12_1 : Nat} {m13_0 : Nat} {m13_1 : Nat} {m14_0 : Nat} {m14_1 : Nat} {m15_0 : Nat} {m15_1 : Nat} {n_3 : Nat} {n_4 : Nat} {n_108 : Nat} {n_110 : Nat} {F : Nat → Int32} : ∀ (g_149 : Nat → Int32) (g_150 : Nat → Int32) (g_151 : Nat → Int32) (g_152 : Nat → Nat) (g_153 : Nat → Int32) (g_154 : Nat → Int32) (g_155 : Nat → Int32) (g_156 : Nat → Int32) (g_157 : Nat → Int32) (g_158 : Nat → Int32) (g_159 : Nat → Int32) (g_160 : Nat) (g_161 : Nat) (g_162 : Int32) (g_163 : Nat), (∀ k, k ≠ (80 * x16 + (56 + 3 * ((100 + n_3) - 100)) + n_4) → g_149 k = F k) → ∀ k, k ≠ (80 * x16 + (56 + 3 * ((100 + n_3) - 100)) + n_4) → (itrv default (sp_EM_lets_L2 x16 f3 q4 q5 q6 q7 f8 q9 q10 m12_0 m12_1 m13_0 m13_1 m14_0 m14_1 m15_0 m15_1 n_3 n_4 n_108 n_110) (g_149, g_150, g_151, g_152, g_153, g_154, g_155, g_156, g_157, g_158, g_159, g_160, g_161, g_162, g_163)).2.2.2.1 k = F k := by
  intro g_149 g_150 g_151 g_152 g_153 g_154 g_155 g_156 g_157 g_158 g_159 g_160 g_161 g_162 g_163 h
  refine itrv_inv (d := default) (f := sp_EM_lets_L2 x16 f3 q4 q5 q6 q7 f8 q9 q10 m12_0 m12_1 m13_0 m13_1 m14_0 m14_1 m15_0 m15_1 n_3 n_4 n_108 n_110) (fun t => ∀ k, k ≠ (80 * x16 + (56 + 3 * ((100 + n_3) - 100)) + n_4) → t.1 k = F k) (fun b => ∀ k, k ≠ (80 * x16 + (56 + 3 * ((100 + n_3) - 100)) + n_4) → b.2.2.2.1 k = F k) (fun t => 21 - t.2.2.2.2.2.2.2.2.2.2.2.2.2.2) ?_ 21 (g_149, g_150, g_151, g_152, g_153, g_154, g_155, g_156, g_157, g_158, g_159, g_160, g_161, g_162, g_163) (Nat.sub_le _ _) h
  clear h
  rintro ⟨g_149, g_150, g_151, g_152, g_153, g_154, g_155, g_156, g_157, g_158, g_159, g_160, g_161, g_162, g_163⟩ h
  have h : ∀ k, k ≠ (80 * x16 + (56 + 3 * ((100 + n_3) - 100)) + n_4) → g_149 k = F k := h
  by_cases c : 20 < g_163
  · exact Or.inr ⟨(g_162, g_163, g_161, g_149, g_150, g_151, g_152, g_153, g_154, g_155, g_160, g_156, g_157, g_158, g_159), by simp only [sp_EM_lets_L2, if_pos c], h⟩
  · by_cases c2 : (0 : Int32) ≤ g_162
    · exact Or.inr ⟨(g_162, g_163, g_161, g_149, g_150, g_151, g_152, g_153, g_154, g_155, g_160, g_156, g_157, g_158, g_159), by simp only [sp_EM_lets_L2, if_neg c, if_pos c2], h⟩
    · obtain ⟨⟨z34_187, z35_188, z38_189, z39_190, z40_191, z41_192, z43_193, z44_194, z47_195, z48_196, z42_1_197⟩, ec⟩ : ∃ x, (sp_EM_explores_1_120 x16 ((sp_EM_clocks x16 m12_0 m12_1) + 1) f3 q4 q5 q6 q7 f8 q9 q10 (upd g_149 (80 * x16 + (56 + 3 * ((100 + n_3) - 100)) + n_4) (nI (if n_110 = 0 then g_163 else (20 - g_163)))) m12_0 m12_1 m13_0 m13_1 m14_0 m14_1 g_150 (sp_EM_layPoint g_151 0 0 0) g_152 g_153 g_154 g_155 g_156 g_157 g_158 g_159 ((if x16 = 0 then m15_0 else m15_1) - 1) 2 1 (-1)) = x := ⟨_, rfl⟩
      exact Or.inl ⟨((upd g_149 (80 * x16 + (56 + 3 * ((100 + n_3) - 100)) + n_4) (nI (if n_110 = 0 then g_163 else (20 - g_163)))), z34_187, z35_188, z38_189, z39_190, z40_191, z41_192, z43_193, z44_194, z47_195, z48_196, z42_1_197, ((sp_EM_clocks x16 m12_0 m12_1) + 1), (if (sp_EM_hasPlace_1 z38_189 z42_1_197 (nI n_108)) = 0 then g_162 else (upd g_149 (80 * x16 + (56 + 3 * ((100 + n_3) - 100)) + n_4) (nI (if n_110 = 0 then g_163 else (20 - g_163))) (80 * x16 + (56 + 3 * ((100 + n_3) - 100)) + n_4))), (g_163 + 1)), by simp only [sp_EM_lets_L2, slet, if_neg c, if_neg c2, ec], fun k hk => (upd_n hk).trans (h k hk), by show 21 - (g_163 + 1) < 21 - g_163; omega⟩
theorem letsM_keep {b nc np ne : Nat} {st0 : Int32} {f4 : Nat → Int32} {q5 q6 : Nat → Nat} {f7 : Nat → Int32} {q8 q9 : Nat → Nat} {f10 f11 : Nat → Int32} {f3 : Nat → Int32} {r4 r5 r6 r7 : Nat → Nat} {f8 : Nat → Int32} {r9 r10 : Nat → Nat} {r11 : Nat → Int32} {m12_0 m12_1 m13_0 m13_1 m14_0 m14_1 m15_0 m15_1 : Nat} {x46 : Nat} {f34 : Nat → Int32} {f35 : Nat → Int32} {q38 : Nat → Nat} {f39 : Nat → Int32} {f40 : Nat → Int32} {f41 : Nat → Int32} {m42_1 : Nat} {f43 : Nat → Int32} {f44 : Nat → Int32} {f47 : Nat → Int32} {f48 : Nat → Int32} {p0 p1 p2 p3 : Int32} {r : Int32} {z11 : Nat → Int32} {b0 : Nat → Int32} {b1 : Nat → Int32} {b2 : Nat → Nat} {b3 : Nat → Int32} {b4 : Nat → Int32} {b5 : Nat → Int32} {b6 : Nat → Int32} {b7 : Nat → Int32} {b8 : Nat → Int32} {b9 : Nat → Int32} {b10 : Nat} {b11 : Int32} {b12 : Nat} (h : MB b nc np ne st0 f4 q5 q6 f7 q8 q9 f10 f11 f3 r4 r5 r6 r7 f8 r9 r10 r11 (bkN b m12_0 m12_1) (bkN b m13_0 m13_1) (bkN b m14_0 m14_1) (bkN b m15_0 m15_1)) (hb : b ≤ 1) (e : sp_EM_lets b x46 f3 r4 r5 r6 r7 f8 r9 r10 r11 m12_0 m12_1 m13_0 m13_1 m14_0 m14_1 m15_0 m15_1 f34 f35 q38 f39 f40 f41 m42_1 f43 f44 f47 f48 p0 p1 p2 p3 = (r, z11, b0, b1, b2, b3, b4, b5, b6, b7, b8, b9, b10, b11, b12)) : z11 = r11 := by
  have n01 : ¬ (0 : Nat) = 1 := by decide
  have h' := h
  obtain ⟨⟨-, -, e13, hnp, e14, hne⟩, -, -, -, -, h8, h9, -⟩ := h'
  rcases slot_same h p0 p1 with ⟨s1, s2⟩ | ⟨k, j, hk2, hj, rfl, rfl, s1, s2⟩ | ⟨k, j, hk2, hj, rfl, rfl, s1, s2⟩
  · simp only [sp_EM_lets, slet, s2, if_neg n01, Prod.mk.injEq] at e
    exact e.2.1.symm
  · have hkn : (nI k : Int32).toNatClampNeg = k := (nI_cl (by omega)).symm
    have d2 := (h9 k hk2).2.1
    have hjn : (nI j : Int32).toNatClampNeg = j := (nI_cl (by omega)).symm
    have hl : (nI k : Int32) < 100 := nI_lt (a := k) (b := 100) (by omega) (by omega)
    by_cases c : (0 : Int32) ≤ p2 ∧ p2 < nI (bkN b m13_0 m13_1)
    · by_cases c3 : (0 : Int32) ≤ p3 ∧ p3 ≤ 1
      · simp only [sp_EM_lets, slet, s2, reduceIte, if_pos hl, hkn, hjn, if_pos c, if_pos c3] at e
        have hq := letsM_loop1 (x16 := b) (f3 := f3) (q4 := r4) (q5 := r5) (q6 := r6) (q7 := r7) (f8 := f8) (q9 := r9) (q10 := r10) (m12_0 := m12_0) (m12_1 := m12_1) (m13_0 := m13_0) (m13_1 := m13_1) (m14_0 := m14_0) (m14_1 := m14_1) (m15_0 := m15_0) (m15_1 := m15_1) (n_3 := k) (n_4 := j) (n_6 := p2.toNatClampNeg) (n_8 := p3.toNatClampNeg) (F := r11) r11 f34 f35 q38 f39 f40 f41 f43 f44 f47 f48 m42_1 x46 ((-2)) 0 (fun _ _ => rfl)
        revert e hq
        generalize itrv default (sp_EM_lets_L1 b f3 r4 r5 r6 r7 f8 r9 r10 m12_0 m12_1 m13_0 m13_1 m14_0 m14_1 m15_0 m15_1 k j p2.toNatClampNeg p3.toNatClampNeg) (r11, f34, f35, q38, f39, f40, f41, f43, f44, f47, f48, m42_1, x46, (-2), 0) = X
        obtain ⟨x0, x1, x2, x3, x4, x5, x6, x7, x8, x9, x10, x11, x12, x13, x14⟩ := X
        intro e hq
        simp only [Prod.mk.injEq] at e
        rw [← e.2.1]
        exact upd_back hq rfl
      · simp only [sp_EM_lets, slet, s2, reduceIte, if_pos hl, if_pos c, if_neg c3, Prod.mk.injEq] at e
        exact e.2.1.symm
    · simp only [sp_EM_lets, slet, s2, reduceIte, if_pos hl, if_neg c, Prod.mk.injEq] at e
      exact e.2.1.symm
  · have hkn : (nI k : Int32).toNatClampNeg = k := (nI_cl (by omega)).symm
    have d2 := (h8 k hk2).2.1
    have hjn : (nI j : Int32).toNatClampNeg = j := (nI_cl (by omega)).symm
    have hl : ¬ (nI (100 + k) : Int32) < 100 := nI_nlt (a := 100 + k) (b := 100) (by omega) (by omega)
    by_cases c : (0 : Int32) ≤ p2 ∧ p2 < nI (bkN b m13_0 m13_1)
    · by_cases c3 : (0 : Int32) ≤ p3 ∧ p3 ≤ 1
      · simp only [sp_EM_lets, slet, s2, reduceIte, if_neg hl, p100, hkn, hjn, if_pos c, if_pos c3] at e
        have hq := letsM_loop2 (x16 := b) (f3 := f3) (q4 := r4) (q5 := r5) (q6 := r6) (q7 := r7) (f8 := f8) (q9 := r9) (q10 := r10) (m12_0 := m12_0) (m12_1 := m12_1) (m13_0 := m13_0) (m13_1 := m13_1) (m14_0 := m14_0) (m14_1 := m14_1) (m15_0 := m15_0) (m15_1 := m15_1) (n_3 := k) (n_4 := j) (n_108 := p2.toNatClampNeg) (n_110 := p3.toNatClampNeg) (F := r11) r11 f34 f35 q38 f39 f40 f41 f43 f44 f47 f48 m42_1 x46 ((-2)) 0 (fun _ _ => rfl)
        revert e hq
        generalize itrv default (sp_EM_lets_L2 b f3 r4 r5 r6 r7 f8 r9 r10 m12_0 m12_1 m13_0 m13_1 m14_0 m14_1 m15_0 m15_1 k j p2.toNatClampNeg p3.toNatClampNeg) (r11, f34, f35, q38, f39, f40, f41, f43, f44, f47, f48, m42_1, x46, (-2), 0) = X
        obtain ⟨x0, x1, x2, x3, x4, x5, x6, x7, x8, x9, x10, x11, x12, x13, x14⟩ := X
        intro e hq
        simp only [Prod.mk.injEq] at e
        rw [← e.2.1]
        exact upd_back hq rfl
      · simp only [sp_EM_lets, slet, s2, reduceIte, if_neg hl, if_pos c, if_neg c3, Prod.mk.injEq] at e
        exact e.2.1.symm
    · simp only [sp_EM_lets, slet, s2, reduceIte, if_neg hl, if_neg c, Prod.mk.injEq] at e
      exact e.2.1.symm
theorem sl {α β : Type} {P : β → Prop} {a : α} {f : α → β} (h : ∀ x, P (f x)) : P (slet a f) := h a
/-- what reading leaves of the graph, the play, the acts -/
def AFL (X x29 x30 x33 : Nat) (T : Int32 × (Nat → Int32) × (Nat → Nat) × (Nat → Int32) × (Nat → Int32) × (Nat → Int32) × (Nat → Nat) × (Nat → Nat) × (Nat → Nat) × (Nat → Nat) × (Nat → Int32) × (Nat → Nat) × Nat × Nat × Nat × Nat × Nat × Nat × Nat × Nat × Int32 × Nat × Nat × Int32 × Nat × Nat × Int32 × Int32 × Int32 × Nat × Int32 × Nat × Nat × Nat × Nat) : Prop := (T.2.2.2.2.2.2.2.2.2.2.2.2.2.2.2.2.2.2.2.2.2.1 = X → T.2.2.2.2.2.2.2.2.2.2.2.2.2.2.2.2.2.2.2.2.2.2.2.2.2.2.2.2.2.2.2.2.1 = x29 ∧ T.2.2.2.2.2.2.2.2.2.2.2.2.2.2.2.2.2.2.2.2.2.2.2.2.2.2.2.2.2.2.2.2.2.1 = x30 ∧ T.2.2.2.2.2.2.2.2.2.2.2.2.2.2.2.2.2.2.2.2.2.2.2.2.2.2.2.2.2.2.2.2.2.2 = x33) ∧ (T.2.2.2.2.2.2.2.2.2.2.2.2.2.2.2.2.2.2.2.2.2.1 ≠ X → T.2.2.2.2.2.2.2.2.2.2.2.2.2.2.2.2.2.2.2.2.2.2.2.2.2.2.2.2.2.2.2.2.1 = 0 ∧ T.2.2.2.2.2.2.2.2.2.2.2.2.2.2.2.2.2.2.2.2.2.2.2.2.2.2.2.2.2.2.2.2.2.1 = 0 ∧ T.2.2.2.2.2.2.2.2.2.2.2.2.2.2.2.2.2.2.2.2.2.2.2.2.2.2.2.2.2.2.2.2.2.2 = 0)
theorem afl_0 {n : Nat} {f : Nat → Int32} {x27 : Int32} {x29 : Nat} {x30 : Nat} {x33 : Nat} {f1 : Nat → Int32} {f2 : Nat → Int32} {f3 : Nat → Int32} {r4 : Nat → Nat} {r5 : Nat → Nat} {r6 : Nat → Nat} {r7 : Nat → Nat} {f8 : Nat → Int32} {r9 : Nat → Nat} {r10 : Nat → Nat} {f11 : Nat → Int32} {m12_0 : Nat} {m12_1 : Nat} {m13_0 : Nat} {m13_1 : Nat} {m14_0 : Nat} {m14_1 : Nat} {m15_0 : Nat} {m15_1 : Nat} : AFL 0 x29 x30 x33 (sp_EM_automaton 0 n x27 x29 x30 x33 f1 f2 f3 r4 r5 r6 r7 f8 r9 r10 f11 m12_0 m12_1 m13_0 m13_1 m14_0 m14_1 m15_0 m15_1 f) := by
  unfold sp_EM_automaton
  rw [if_pos rfl]
  refine sl (P := AFL 0 x29 x30 x33) fun x => ?_
  obtain ⟨a0, a1, a2, a3⟩ := x
  dsimp only
  refine sl (P := AFL 0 x29 x30 x33) fun x => ?_
  obtain ⟨g0, g1, g2, g3, g4, g5, g6, g7, g8, g9, g10, g11, g12, g13, g14, g15, g16, g17, g18, g19, g20⟩ := x
  dsimp only
  refine sl (P := AFL 0 x29 x30 x33) fun u => ?_
  refine sl (P := AFL 0 x29 x30 x33) fun x => ?_
  obtain ⟨w, wa⟩ := x
  dsimp only
  refine sl (P := AFL 0 x29 x30 x33) fun pl => ?_
  refine sl (P := AFL 0 x29 x30 x33) fun u2 => ?_
  try dsimp only
  by_cases c : u2 = 0
  · rw [if_pos c]; exact ⟨fun _ => ⟨rfl, rfl, rfl⟩, fun z => absurd rfl z⟩
  · rw [if_neg c]
    by_cases c2 : g20 = 0
    · rw [if_pos c2]; simp only [slet, sp_EM_another]; exact ⟨fun z => absurd (show (1 : Nat) = 0 from z) (by decide), fun _ => ⟨rfl, rfl, rfl⟩⟩
    · rw [if_neg c2]; simp only [slet, sp_EM_another]; exact ⟨fun z => absurd (show (1 : Nat) = 0 from z) (by decide), fun _ => ⟨rfl, rfl, rfl⟩⟩
theorem afl_1 {n : Nat} {f : Nat → Int32} {x27 : Int32} {x29 : Nat} {x30 : Nat} {x33 : Nat} {f1 : Nat → Int32} {f2 : Nat → Int32} {f3 : Nat → Int32} {r4 : Nat → Nat} {r5 : Nat → Nat} {r6 : Nat → Nat} {r7 : Nat → Nat} {f8 : Nat → Int32} {r9 : Nat → Nat} {r10 : Nat → Nat} {f11 : Nat → Int32} {m12_0 : Nat} {m12_1 : Nat} {m13_0 : Nat} {m13_1 : Nat} {m14_0 : Nat} {m14_1 : Nat} {m15_0 : Nat} {m15_1 : Nat} : AFL 1 x29 x30 x33 (sp_EM_automaton 1 n x27 x29 x30 x33 f1 f2 f3 r4 r5 r6 r7 f8 r9 r10 f11 m12_0 m12_1 m13_0 m13_1 m14_0 m14_1 m15_0 m15_1 f) := by
  unfold sp_EM_automaton
  rw [if_neg (by decide)]
  refine sl (P := AFL 1 x29 x30 x33) fun x => ?_
  obtain ⟨a0, a1, a2, a3⟩ := x
  dsimp only
  refine sl (P := AFL 1 x29 x30 x33) fun x => ?_
  obtain ⟨g0, g1, g2, g3, g4, g5, g6, g7, g8, g9, g10, g11, g12, g13, g14, g15, g16, g17, g18, g19, g20⟩ := x
  dsimp only
  refine sl (P := AFL 1 x29 x30 x33) fun u => ?_
  refine sl (P := AFL 1 x29 x30 x33) fun x => ?_
  obtain ⟨w, wa⟩ := x
  dsimp only
  refine sl (P := AFL 1 x29 x30 x33) fun pl => ?_
  refine sl (P := AFL 1 x29 x30 x33) fun u2 => ?_
  try dsimp only
  by_cases c : u2 = 0
  · rw [if_pos c]; exact ⟨fun _ => ⟨rfl, rfl, rfl⟩, fun z => absurd rfl z⟩
  · rw [if_neg c]
    by_cases c2 : g20 = 0
    · rw [if_pos c2]; simp only [slet, sp_EM_another]; exact ⟨fun z => absurd (show (0 : Nat) = 1 from z) (by decide), fun _ => ⟨rfl, rfl, rfl⟩⟩
    · rw [if_neg c2]; simp only [slet, sp_EM_another]; exact ⟨fun z => absurd (show (0 : Nat) = 1 from z) (by decide), fun _ => ⟨rfl, rfl, rfl⟩⟩
/-- where it begins -/
def STQ (np : Nat) (st0 : Int32) (m15 : Nat) : Prop := (np = 0 ∧ st0 = -1 ∧ m15 = 0) ∨ ∃ s, s < np ∧ st0 = nI s ∧ m15 = s + 1
theorem au_x0 {f : Nat → Int32} (hf : ∀ i, f i ≠ -1) {n : Nat} (hn : n ≤ 900) {r r' : Int32} {hs : Nat} {ss : Nat} {vl : Int32} {fcn : Nat → Int32} {fpn : Nat → Int32} {df4 : Nat → Int32} {q5 : Nat → Nat} {q6 : Nat → Nat} {df7 : Nat → Int32} {q8 : Nat → Nat} {q9 : Nat → Nat} {df10 : Nat → Int32} {df11 : Nat → Int32} {df12 : Nat → Int32} {df13 : Nat → Int32} {df14 : Nat → Int32} {df15 : Nat → Int32} {df16 : Nat → Int32} {hk : Nat} {on : Nat} {z4 : Nat → Int32} {z5 : Nat → Nat} {z6 : Nat → Nat} {z7 : Nat → Int32} {z8 : Nat → Nat} {z9 : Nat → Nat} {z10 : Nat → Int32} {z11 : Nat → Int32} {z12 : Nat → Int32} {z13 : Nat → Int32} {z14 : Nat → Int32} {z15 : Nat → Int32} {z16 : Nat → Int32} {zcn : Nat → Int32} {zpn : Nat → Int32} {zss : Nat} {zhs : Nat} {zfa : Int32} {zfat : Int32} {zlen : Nat} {zpos : Nat} {zkd : Nat} {zvl : Int32} {ztka : Int32} {znc : Nat} {znp : Nat} {zne : Nat} {zst0 : Int32} {zhk : Nat} {zon : Nat} {x27 : Int32} {x29 : Nat} {x30 : Nat} {x33 : Nat} {f1 : Nat → Int32} {f2 : Nat → Int32} {f3 : Nat → Int32} {r4 : Nat → Nat} {r5 : Nat → Nat} {r6 : Nat → Nat} {r7 : Nat → Nat} {f8 : Nat → Int32} {r9 : Nat → Nat} {r10 : Nat → Nat} {f11 : Nat → Int32} {m12_0 : Nat} {m12_1 : Nat} {m13_0 : Nat} {m13_1 : Nat} {m14_0 : Nat} {m14_1 : Nat} {m15_0 : Nat} {m15_1 : Nat} {w1 : Nat → Int32} {w10 : Nat → Nat} {w11 : Nat → Int32} {w2 : Nat → Int32} {w3 : Nat → Int32} {w4 : Nat → Nat} {w5 : Nat → Nat} {w6 : Nat → Nat} {w7 : Nat → Nat} {w8 : Nat → Int32} {w9 : Nat → Nat} {w12_0 : Nat} {w12_1 : Nat} {w13_0 : Nat} {w13_1 : Nat} {w14_0 : Nat} {w14_1 : Nat} {w15_0 : Nat} {w15_1 : Nat} {w0 : Int32} {w16 : Nat} {w19 : Nat} {w20 : Int32} {w21 : Nat} {w22 : Nat} {w23 : Int32} {w24 : Int32} {w25 : Int32} {w26 : Nat} {w27 : Int32} {w28 : Nat} {w29 : Nat} {w30 : Nat} {w33 : Nat} (hX : (r, z4, z5, z6, z7, z8, z9, z10, z11, z12, z13, z14, z15, z16, zcn, zpn, zss, zhs, zfa, zfat, zlen, zpos, zkd, zvl, ztka, znc, znp, zne, zst0, zhk, zon) = sp_E_8_automaton n hs ss vl f fwC fcn fpn df4 q5 q6 df7 q8 q9 df10 df11 df12 df13 df14 df15 df16 hk on) (hM : (r', w1, w10, w11, w2, w3, w4, w5, w6, w7, w8, w9, w12_0, w12_1, w13_0, w13_1, w14_0, w14_1, w15_0, w15_1, w0, w16, w19, w20, w21, w22, w23, w24, w25, w26, w27, w28, w29, w30, w33) = sp_EM_automaton 0 n x27 x29 x30 x33 f1 f2 f3 r4 r5 r6 r7 f8 r9 r10 f11 m12_0 m12_1 m13_0 m13_1 m14_0 m14_1 m15_0 m15_1 f) : (r = -1 ∧ (zhk = hk ∧ zhs = hs ∧ zss = ss ∧ zon = on) ∧ (w29 = x29 ∧ w30 = x30 ∧ w33 = x33) ∧ w16 = 0 ∧ FRM (1 - 0) w1 w10 w11 w2 w3 w4 w5 w6 w7 w8 w9 f1 r10 f11 f2 f3 r4 r5 r6 r7 f8 r9 ∧ bkN 0 w12_0 w12_1 = bkN 0 m12_0 m12_1 ∧ bkN 0 w13_0 w13_1 = bkN 0 m13_0 m13_1 ∧ bkN 0 w14_0 w14_1 = bkN 0 m14_0 m14_1 ∧ bkN 0 w15_0 w15_1 = bkN 0 m15_0 m15_1) ∨ (r ≠ -1 ∧ (zhk = 0 ∧ zhs = 0 ∧ zss = 0 ∧ zon = 0) ∧ (w29 = 0 ∧ w30 = 0 ∧ w33 = 0) ∧ w16 = 1 - 0 ∧ MB (1 - 0) znc znp zne zst0 z4 z5 z6 z7 z8 z9 z10 z11 w3 w4 w5 w6 w7 w8 w9 w10 w11 (bkN (1 - 0) w12_0 w12_1) (bkN (1 - 0) w13_0 w13_1) (bkN (1 - 0) w14_0 w14_1) (bkN (1 - 0) w15_0 w15_1) ∧ STQ znp zst0 (bkN (1 - 0) w15_0 w15_1) ∧ WFm znc znp zne z4 z8 z9 z10 z11 z12 z13 ∧ (z14, z15, z16) = sp_E_0_measure z8 z9 z10 z11 df14 df15 df16) := by
  obtain ⟨u, y8, y9, y10, y11, y12, y13, y14, y15, y16, ycn, ypn, y4, y5, y6, y7, fa, fat, ln, p, k, v, a, nc, np, ne, st0, hE1, r2, g1, s10, s11, g2, g3, s4, s5, s6, s7, g8, s9, c0, c1, p0, p1, ee0, ee1, b0, b1, th, bk, sz, at_, be, tok, va, fkd, fpl, w, wa, rb, y29, y30, y33, hE2, hh⟩ := ra_1 fwC_ok hf hn vl x27 x29 x30 x33 fcn fpn df4 q5 q6 df7 q8 q9 df10 df11 df12 df13 df14 df15 df16 f1 f2 f3 r4 r5 r6 r7 f8 r9 r10 f11 m12_0 m12_1 m13_0 m13_1 m14_0 m14_1 m15_0 m15_1
  have hE1 := (reads_c vl f fwC fcn fpn df4 q5 q6 df7 q8 q9 df10 df11 df12 df13 df14 df15 df16 n).trans hE1
  have hF := amF_1 (n := n) (x29 := x29) (x30 := x30) (x33 := x33) (m12_0 := m12_0) (m12_1 := m12_1) (m13_0 := m13_0) (m13_1 := m13_1) (m14_0 := m14_0) (m14_1 := m14_1) (m15_0 := m15_0) (m15_1 := m15_1) (x27 := x27) (f1 := f1) (f2 := f2) (f3 := f3) (r4 := r4) (r5 := r5) (r6 := r6) (r7 := r7) (f8 := f8) (r9 := r9) (r10 := r10) (r11 := f11) (f := f)
  have hG := afl_0 (n := n) (x29 := x29) (x30 := x30) (x33 := x33) (m12_0 := m12_0) (m12_1 := m12_1) (m13_0 := m13_0) (m13_1 := m13_1) (m14_0 := m14_0) (m14_1 := m14_1) (m15_0 := m15_0) (m15_1 := m15_1) (x27 := x27) (f1 := f1) (f2 := f2) (f3 := f3) (r4 := r4) (r5 := r5) (r6 := r6) (r7 := r7) (f8 := f8) (r9 := r9) (r10 := r10) (f11 := f11) (f := f)
  rw [hE2] at hM hF hG
  simp only [Prod.mk.injEq] at hM
  obtain ⟨rfl, rfl, rfl, rfl, rfl, rfl, rfl, rfl, rfl, rfl, rfl, rfl, rfl, rfl, rfl, rfl, rfl, rfl, rfl, rfl, rfl, rfl, rfl, rfl, rfl, rfl, rfl, rfl, rfl, rfl, rfl, rfl, rfl, rfl, rfl⟩ := hM
  obtain ⟨hF1, hF2, hF3, hF4, hF5⟩ := hF
  obtain ⟨hG1, hG2⟩ := hG
  simp only [sp_E_8_automaton, slet, hE1] at hX
  rcases hh with ⟨hu, -, -, -, hb⟩ | ⟨hu, -, -, -, hb, h8, hMR⟩
  · subst hu
    rw [if_pos rfl] at hX
    simp only [Prod.mk.injEq] at hX
    obtain ⟨hr, -, -, -, -, -, -, -, -, -, -, -, -, -, -, -, k1, k2, -, -, -, -, -, -, -, -, -, -, -, k3, k4⟩ := hX
    exact Or.inl ⟨hr, ⟨k3, k2, k1, k4⟩, hG1 hb, hb, hF1, hF2, hF3, hF4, hF5⟩
  · subst hu
    have hw := wf_reads fwC_ok hf hn _ _ _ _ _ _ _ _ _ _ _ _ _ _ _ _ hE1 (by decide)
    rw [if_neg (by decide)] at hX
    simp only [Prod.mk.injEq] at hX
    obtain ⟨hr, rfl, rfl, rfl, rfl, rfl, rfl, rfl, rfl, rfl, rfl, rfl, rfl, rfl, rfl, rfl, rfl, rfl, rfl, rfl, rfl, rfl, rfl, rfl, rfl, rfl, rfl, rfl, rfl, rfl, rfl⟩ := hX
    have hmb := mb_of_1 (st1 := nI st0.toNatClampNeg) hMR (fun s hs e => by rw [e, ← nI_cl (by omega)])
    have hst : STQ znp (nI st0.toNatClampNeg) (bkN (1 - 0) w15_0 w15_1) := by
      rcases hMR.2.1 with ⟨z, -⟩ | ⟨s, z1, z2, z3⟩
      · exact absurd z hw.2.2
      · exact Or.inr ⟨s, z1, by rw [z2, ← nI_cl (by omega)], z3⟩
    exact Or.inr ⟨by rw [hr]; exact pu_nneg (by omega) (by decide), ⟨rfl, rfl, rfl, rfl⟩, hG2 (fun z => absurd (hb.symm.trans (show w16 = 0 from z)) (by decide)), hb, hmb, hst, hw.1, hw.2.1⟩
theorem au_x1 {f : Nat → Int32} (hf : ∀ i, f i ≠ -1) {n : Nat} (hn : n ≤ 900) {r r' : Int32} {hs : Nat} {ss : Nat} {vl : Int32} {fcn : Nat → Int32} {fpn : Nat → Int32} {df4 : Nat → Int32} {q5 : Nat → Nat} {q6 : Nat → Nat} {df7 : Nat → Int32} {q8 : Nat → Nat} {q9 : Nat → Nat} {df10 : Nat → Int32} {df11 : Nat → Int32} {df12 : Nat → Int32} {df13 : Nat → Int32} {df14 : Nat → Int32} {df15 : Nat → Int32} {df16 : Nat → Int32} {hk : Nat} {on : Nat} {z4 : Nat → Int32} {z5 : Nat → Nat} {z6 : Nat → Nat} {z7 : Nat → Int32} {z8 : Nat → Nat} {z9 : Nat → Nat} {z10 : Nat → Int32} {z11 : Nat → Int32} {z12 : Nat → Int32} {z13 : Nat → Int32} {z14 : Nat → Int32} {z15 : Nat → Int32} {z16 : Nat → Int32} {zcn : Nat → Int32} {zpn : Nat → Int32} {zss : Nat} {zhs : Nat} {zfa : Int32} {zfat : Int32} {zlen : Nat} {zpos : Nat} {zkd : Nat} {zvl : Int32} {ztka : Int32} {znc : Nat} {znp : Nat} {zne : Nat} {zst0 : Int32} {zhk : Nat} {zon : Nat} {x27 : Int32} {x29 : Nat} {x30 : Nat} {x33 : Nat} {f1 : Nat → Int32} {f2 : Nat → Int32} {f3 : Nat → Int32} {r4 : Nat → Nat} {r5 : Nat → Nat} {r6 : Nat → Nat} {r7 : Nat → Nat} {f8 : Nat → Int32} {r9 : Nat → Nat} {r10 : Nat → Nat} {f11 : Nat → Int32} {m12_0 : Nat} {m12_1 : Nat} {m13_0 : Nat} {m13_1 : Nat} {m14_0 : Nat} {m14_1 : Nat} {m15_0 : Nat} {m15_1 : Nat} {w1 : Nat → Int32} {w10 : Nat → Nat} {w11 : Nat → Int32} {w2 : Nat → Int32} {w3 : Nat → Int32} {w4 : Nat → Nat} {w5 : Nat → Nat} {w6 : Nat → Nat} {w7 : Nat → Nat} {w8 : Nat → Int32} {w9 : Nat → Nat} {w12_0 : Nat} {w12_1 : Nat} {w13_0 : Nat} {w13_1 : Nat} {w14_0 : Nat} {w14_1 : Nat} {w15_0 : Nat} {w15_1 : Nat} {w0 : Int32} {w16 : Nat} {w19 : Nat} {w20 : Int32} {w21 : Nat} {w22 : Nat} {w23 : Int32} {w24 : Int32} {w25 : Int32} {w26 : Nat} {w27 : Int32} {w28 : Nat} {w29 : Nat} {w30 : Nat} {w33 : Nat} (hX : (r, z4, z5, z6, z7, z8, z9, z10, z11, z12, z13, z14, z15, z16, zcn, zpn, zss, zhs, zfa, zfat, zlen, zpos, zkd, zvl, ztka, znc, znp, zne, zst0, zhk, zon) = sp_E_8_automaton n hs ss vl f fwC fcn fpn df4 q5 q6 df7 q8 q9 df10 df11 df12 df13 df14 df15 df16 hk on) (hM : (r', w1, w10, w11, w2, w3, w4, w5, w6, w7, w8, w9, w12_0, w12_1, w13_0, w13_1, w14_0, w14_1, w15_0, w15_1, w0, w16, w19, w20, w21, w22, w23, w24, w25, w26, w27, w28, w29, w30, w33) = sp_EM_automaton 1 n x27 x29 x30 x33 f1 f2 f3 r4 r5 r6 r7 f8 r9 r10 f11 m12_0 m12_1 m13_0 m13_1 m14_0 m14_1 m15_0 m15_1 f) : (r = -1 ∧ (zhk = hk ∧ zhs = hs ∧ zss = ss ∧ zon = on) ∧ (w29 = x29 ∧ w30 = x30 ∧ w33 = x33) ∧ w16 = 1 ∧ FRM (1 - 1) w1 w10 w11 w2 w3 w4 w5 w6 w7 w8 w9 f1 r10 f11 f2 f3 r4 r5 r6 r7 f8 r9 ∧ bkN 1 w12_0 w12_1 = bkN 1 m12_0 m12_1 ∧ bkN 1 w13_0 w13_1 = bkN 1 m13_0 m13_1 ∧ bkN 1 w14_0 w14_1 = bkN 1 m14_0 m14_1 ∧ bkN 1 w15_0 w15_1 = bkN 1 m15_0 m15_1) ∨ (r ≠ -1 ∧ (zhk = 0 ∧ zhs = 0 ∧ zss = 0 ∧ zon = 0) ∧ (w29 = 0 ∧ w30 = 0 ∧ w33 = 0) ∧ w16 = 1 - 1 ∧ MB (1 - 1) znc znp zne zst0 z4 z5 z6 z7 z8 z9 z10 z11 w3 w4 w5 w6 w7 w8 w9 w10 w11 (bkN (1 - 1) w12_0 w12_1) (bkN (1 - 1) w13_0 w13_1) (bkN (1 - 1) w14_0 w14_1) (bkN (1 - 1) w15_0 w15_1) ∧ STQ znp zst0 (bkN (1 - 1) w15_0 w15_1) ∧ WFm znc znp zne z4 z8 z9 z10 z11 z12 z13 ∧ (z14, z15, z16) = sp_E_0_measure z8 z9 z10 z11 df14 df15 df16) := by
  obtain ⟨u, y8, y9, y10, y11, y12, y13, y14, y15, y16, ycn, ypn, y4, y5, y6, y7, fa, fat, ln, p, k, v, a, nc, np, ne, st0, hE1, r2, g1, s10, s11, g2, g3, s4, s5, s6, s7, g8, s9, c0, c1, p0, p1, ee0, ee1, b0, b1, th, bk, sz, at_, be, tok, va, fkd, fpl, w, wa, rb, y29, y30, y33, hE2, hh⟩ := ra_0 fwC_ok hf hn vl x27 x29 x30 x33 fcn fpn df4 q5 q6 df7 q8 q9 df10 df11 df12 df13 df14 df15 df16 f1 f2 f3 r4 r5 r6 r7 f8 r9 r10 f11 m12_0 m12_1 m13_0 m13_1 m14_0 m14_1 m15_0 m15_1
  have hE1 := (reads_c vl f fwC fcn fpn df4 q5 q6 df7 q8 q9 df10 df11 df12 df13 df14 df15 df16 n).trans hE1
  have hF := amF_0 (n := n) (x29 := x29) (x30 := x30) (x33 := x33) (m12_0 := m12_0) (m12_1 := m12_1) (m13_0 := m13_0) (m13_1 := m13_1) (m14_0 := m14_0) (m14_1 := m14_1) (m15_0 := m15_0) (m15_1 := m15_1) (x27 := x27) (f1 := f1) (f2 := f2) (f3 := f3) (r4 := r4) (r5 := r5) (r6 := r6) (r7 := r7) (f8 := f8) (r9 := r9) (r10 := r10) (r11 := f11) (f := f)
  have hG := afl_1 (n := n) (x29 := x29) (x30 := x30) (x33 := x33) (m12_0 := m12_0) (m12_1 := m12_1) (m13_0 := m13_0) (m13_1 := m13_1) (m14_0 := m14_0) (m14_1 := m14_1) (m15_0 := m15_0) (m15_1 := m15_1) (x27 := x27) (f1 := f1) (f2 := f2) (f3 := f3) (r4 := r4) (r5 := r5) (r6 := r6) (r7 := r7) (f8 := f8) (r9 := r9) (r10 := r10) (f11 := f11) (f := f)
  rw [hE2] at hM hF hG
  simp only [Prod.mk.injEq] at hM
  obtain ⟨rfl, rfl, rfl, rfl, rfl, rfl, rfl, rfl, rfl, rfl, rfl, rfl, rfl, rfl, rfl, rfl, rfl, rfl, rfl, rfl, rfl, rfl, rfl, rfl, rfl, rfl, rfl, rfl, rfl, rfl, rfl, rfl, rfl, rfl, rfl⟩ := hM
  obtain ⟨hF1, hF2, hF3, hF4, hF5⟩ := hF
  obtain ⟨hG1, hG2⟩ := hG
  simp only [sp_E_8_automaton, slet, hE1] at hX
  rcases hh with ⟨hu, -, -, -, hb⟩ | ⟨hu, -, -, -, hb, h8, hMR⟩
  · subst hu
    rw [if_pos rfl] at hX
    simp only [Prod.mk.injEq] at hX
    obtain ⟨hr, -, -, -, -, -, -, -, -, -, -, -, -, -, -, -, k1, k2, -, -, -, -, -, -, -, -, -, -, -, k3, k4⟩ := hX
    exact Or.inl ⟨hr, ⟨k3, k2, k1, k4⟩, hG1 hb, hb, hF1, hF2, hF3, hF4, hF5⟩
  · subst hu
    have hw := wf_reads fwC_ok hf hn _ _ _ _ _ _ _ _ _ _ _ _ _ _ _ _ hE1 (by decide)
    rw [if_neg (by decide)] at hX
    simp only [Prod.mk.injEq] at hX
    obtain ⟨hr, rfl, rfl, rfl, rfl, rfl, rfl, rfl, rfl, rfl, rfl, rfl, rfl, rfl, rfl, rfl, rfl, rfl, rfl, rfl, rfl, rfl, rfl, rfl, rfl, rfl, rfl, rfl, rfl, rfl, rfl⟩ := hX
    have hmb := mb_of_0 (st1 := nI st0.toNatClampNeg) hMR (fun s hs e => by rw [e, ← nI_cl (by omega)])
    have hst : STQ znp (nI st0.toNatClampNeg) (bkN (1 - 1) w15_0 w15_1) := by
      rcases hMR.2.1 with ⟨z, -⟩ | ⟨s, z1, z2, z3⟩
      · exact absurd z hw.2.2
      · exact Or.inr ⟨s, z1, by rw [z2, ← nI_cl (by omega)], z3⟩
    exact Or.inr ⟨by rw [hr]; exact pu_nneg (by omega) (by decide), ⟨rfl, rfl, rfl, rfl⟩, hG2 (fun z => absurd (hb.symm.trans (show w16 = 1 from z)) (by decide)), hb, hmb, hst, hw.1, hw.2.1⟩
/-- one condition more, of a clock and a kind of number -/
def lmS (q9 : Nat → Nat) (f10 f11 : Nat → Int32) (c w s : Nat) (a : Int32) : Int32 := if min (q9 s) 2 = c then (if w = 0 then (if a < f11 s then f11 s else a) else if w = 1 then (if f10 s < 2 then a else (if a < f11 s then f11 s else a)) else (if 2 < f10 s then a else (if a < f11 s then f11 s else a))) else a
def lmI (q9 : Nat → Nat) (f10 f11 : Nat → Int32) (c w h : Nat) (a : Int32) : Nat → Int32
  | 0 => a
  | k + 1 => lmS q9 f10 f11 c w (h * 4 + k) (lmI q9 f10 f11 c w h a k)
def lmH (q8 q9 : Nat → Nat) (f10 f11 : Nat → Int32) (c w : Nat) : Nat → Int32
  | 0 => 0
  | h + 1 => lmI q9 f10 f11 c w h (lmH q8 q9 f10 f11 c w h) (min (q8 h) 4)
theorem meas_1 {q8 q9 : Nat → Nat} {f10 f11 : Nat → Int32} (h : Nat) (a b c : Nat → Int32) : ∃ x y z, itrv (Sum.inr default) (sp_E_0_measure_L1 q8 q9 f10 f11 h) (a, b, c, 0) = .inl (x, y, z, h + 1) ∧ ∀ i, x (i + 1) = lmI q9 f10 f11 i 0 h (a (i + 1)) (min (q8 h) 4) ∧ y (i + 1) = lmI q9 f10 f11 i 1 h (b (i + 1)) (min (q8 h) 4) ∧ z (i + 1) = lmI q9 f10 f11 i 2 h (c (i + 1)) (min (q8 h) 4) := by
  refine itrv_inv (d := Sum.inr default) (f := sp_E_0_measure_L1 q8 q9 f10 f11 h) (fun t => ∃ x y z k, t = (x, y, z, k) ∧ k ≤ min (q8 h) 4 ∧ ∀ i, x (i + 1) = lmI q9 f10 f11 i 0 h (a (i + 1)) k ∧ y (i + 1) = lmI q9 f10 f11 i 1 h (b (i + 1)) k ∧ z (i + 1) = lmI q9 f10 f11 i 2 h (c (i + 1)) k) (fun r => ∃ x y z, r = .inl (x, y, z, h + 1) ∧ ∀ i, x (i + 1) = lmI q9 f10 f11 i 0 h (a (i + 1)) (min (q8 h) 4) ∧ y (i + 1) = lmI q9 f10 f11 i 1 h (b (i + 1)) (min (q8 h) 4) ∧ z (i + 1) = lmI q9 f10 f11 i 2 h (c (i + 1)) (min (q8 h) 4)) (fun t => min (q8 h) 4 - t.2.2.2) ?_ (min (q8 h) 4) (a, b, c, 0) (Nat.sub_le _ _) ⟨a, b, c, 0, rfl, Nat.zero_le _, fun i => ⟨rfl, rfl, rfl⟩⟩
  rintro _ ⟨x, y, z, k, rfl, hk, hI⟩
  by_cases ce : min (q8 h) 4 ≤ k
  · have ek : k = min (q8 h) 4 := Nat.le_antisymm hk ce
    exact Or.inr ⟨_, by simp only [sp_E_0_measure_L1, slet, if_pos ce] <;> rfl, x, y, z, rfl, by rw [← ek]; exact hI⟩
  · refine Or.inl ⟨(upd x (min (q9 (h * 4 + k)) 2 + 1) (if x (min (q9 (h * 4 + k)) 2 + 1) < f11 (h * 4 + k) then f11 (h * 4 + k) else x (min (q9 (h * 4 + k)) 2 + 1)), (if f10 (h * 4 + k) < 2 then y else upd y (min (q9 (h * 4 + k)) 2 + 1) (if y (min (q9 (h * 4 + k)) 2 + 1) < f11 (h * 4 + k) then f11 (h * 4 + k) else y (min (q9 (h * 4 + k)) 2 + 1))), (if 2 < f10 (h * 4 + k) then z else upd z (min (q9 (h * 4 + k)) 2 + 1) (if z (min (q9 (h * 4 + k)) 2 + 1) < f11 (h * 4 + k) then f11 (h * 4 + k) else z (min (q9 (h * 4 + k)) 2 + 1))), k + 1), by simp only [sp_E_0_measure_L1, slet, if_neg ce], ⟨_, _, _, _, rfl, by omega, fun i => ?_⟩, by show min (q8 h) 4 - (k + 1) < min (q8 h) 4 - k; omega⟩
    obtain ⟨i1, i2, i3⟩ := hI i
    show _ = lmS q9 f10 f11 i 0 (h * 4 + k) (lmI q9 f10 f11 i 0 h (a (i + 1)) k) ∧ _ = lmS q9 f10 f11 i 1 (h * 4 + k) (lmI q9 f10 f11 i 1 h (b (i + 1)) k) ∧ _ = lmS q9 f10 f11 i 2 (h * 4 + k) (lmI q9 f10 f11 i 2 h (c (i + 1)) k)
    rw [← i1, ← i2, ← i3]
    by_cases e : min (q9 (h * 4 + k)) 2 = i
    · subst e
      refine ⟨?_, ?_, ?_⟩
      · unfold lmS
        rw [if_pos rfl, if_pos rfl, upd_s]
      · unfold lmS
        rw [if_pos rfl, if_neg (show ¬ (1 : Nat) = 0 by decide), if_pos (show (1 : Nat) = 1 from rfl)]
        by_cases g : f10 (h * 4 + k) < 2
        · rw [if_pos g, if_pos g]
        · rw [if_neg g, if_neg g, upd_s]
      · unfold lmS
        rw [if_pos rfl, if_neg (show ¬ (2 : Nat) = 0 by decide), if_neg (show ¬ (2 : Nat) = 1 by decide)]
        by_cases g : 2 < f10 (h * 4 + k)
        · rw [if_pos g, if_pos g]
        · rw [if_neg g, if_neg g, upd_s]
    · have e1 : i + 1 ≠ min (q9 (h * 4 + k)) 2 + 1 := by omega
      refine ⟨?_, ?_, ?_⟩
      · unfold lmS
        rw [if_neg e, upd_n e1]
      · unfold lmS
        rw [if_neg e]
        by_cases g : f10 (h * 4 + k) < 2
        · rw [if_pos g]
        · rw [if_neg g, upd_n e1]
      · unfold lmS
        rw [if_neg e]
        by_cases g : 2 < f10 (h * 4 + k)
        · rw [if_pos g]
        · rw [if_neg g, upd_n e1]
theorem meas_2 {q8 q9 : Nat → Nat} {f10 f11 : Nat → Int32} (a b c : Nat → Int32) (h0 : ∀ i, i < 3 → a (i + 1) = 0 ∧ b (i + 1) = 0 ∧ c (i + 1) = 0) : ∃ x y z, itrv default (sp_E_0_measure_L2 q8 q9 f10 f11) (a, b, c, 0) = (x, y, z) ∧ ∀ i, i < 3 → x (i + 1) = lmH q8 q9 f10 f11 i 0 22 ∧ y (i + 1) = lmH q8 q9 f10 f11 i 1 22 ∧ z (i + 1) = lmH q8 q9 f10 f11 i 2 22 := by
  refine itrv_inv (d := default) (f := sp_E_0_measure_L2 q8 q9 f10 f11) (fun t => ∃ x y z h, t = (x, y, z, h) ∧ h ≤ 22 ∧ ∀ i, i < 3 → x (i + 1) = lmH q8 q9 f10 f11 i 0 h ∧ y (i + 1) = lmH q8 q9 f10 f11 i 1 h ∧ z (i + 1) = lmH q8 q9 f10 f11 i 2 h) (fun r => ∃ x y z, r = (x, y, z) ∧ ∀ i, i < 3 → x (i + 1) = lmH q8 q9 f10 f11 i 0 22 ∧ y (i + 1) = lmH q8 q9 f10 f11 i 1 22 ∧ z (i + 1) = lmH q8 q9 f10 f11 i 2 22) (fun t => 22 - t.2.2.2) ?_ 22 (a, b, c, 0) (Nat.sub_le _ _) ⟨a, b, c, 0, rfl, Nat.zero_le _, h0⟩
  rintro _ ⟨x, y, z, h, rfl, hh, hI⟩
  by_cases ce : 22 ≤ h
  · have ek : h = 22 := Nat.le_antisymm hh ce
    exact Or.inr ⟨(x, y, z), by simp only [sp_E_0_measure_L2, if_pos ce], x, y, z, rfl, by rw [← ek]; exact hI⟩
  · obtain ⟨x', y', z', e, hI'⟩ := meas_1 (q8 := q8) (q9 := q9) (f10 := f10) (f11 := f11) h x y z
    refine Or.inl ⟨(x', y', z', h + 1), by simp only [sp_E_0_measure_L2, if_neg ce, e], ⟨_, _, _, _, rfl, by omega, fun i hi => ?_⟩, by show 22 - (h + 1) < 22 - h; omega⟩
    obtain ⟨j1, j2, j3⟩ := hI' i
    obtain ⟨i1, i2, i3⟩ := hI i hi
    rw [j1, j2, j3, i1, i2, i3]
    exact ⟨rfl, rfl, rfl⟩
theorem meas_eq {q8 q9 : Nat → Nat} {f10 f11 a b c x y z : Nat → Int32} (e : (x, y, z) = sp_E_0_measure q8 q9 f10 f11 a b c) : ∀ i, i < 3 → x (i + 1) = lmH q8 q9 f10 f11 i 0 22 ∧ y (i + 1) = lmH q8 q9 f10 f11 i 1 22 ∧ z (i + 1) = lmH q8 q9 f10 f11 i 2 22 := by
  have key : ∃ x y z, sp_E_0_measure q8 q9 f10 f11 a b c = (x, y, z) ∧ ∀ i, i < 3 → x (i + 1) = lmH q8 q9 f10 f11 i 0 22 ∧ y (i + 1) = lmH q8 q9 f10 f11 i 1 22 ∧ z (i + 1) = lmH q8 q9 f10 f11 i 2 22 := by
    unfold sp_E_0_measure
    refine itrv_inv (d := default) (f := sp_E_0_measure_L3 q8 q9 f10 f11) (fun t => ∃ x y z h, t = (x, y, z, h) ∧ h ≤ 4 ∧ ∀ i, i < h → x i = 0 ∧ y i = 0 ∧ z i = 0) (fun r => ∃ x y z, r = (x, y, z) ∧ ∀ i, i < 3 → x (i + 1) = lmH q8 q9 f10 f11 i 0 22 ∧ y (i + 1) = lmH q8 q9 f10 f11 i 1 22 ∧ z (i + 1) = lmH q8 q9 f10 f11 i 2 22) (fun t => 4 - t.2.2.2) ?_ 4 (a, b, c, 0) (Nat.sub_le _ _) ⟨a, b, c, 0, rfl, Nat.zero_le _, fun i h => absurd h (Nat.not_lt_zero i)⟩
    rintro _ ⟨x, y, z, h, rfl, hh, hI⟩
    by_cases ce : 3 < h
    · obtain ⟨x', y', z', e', hI'⟩ := meas_2 (q8 := q8) (q9 := q9) (f10 := f10) (f11 := f11) x y z (fun i hi => hI (i + 1) (by omega))
      exact Or.inr ⟨(x', y', z'), by simp only [sp_E_0_measure_L3, if_pos ce, e'], x', y', z', rfl, hI'⟩
    · refine Or.inl ⟨(upd x h 0, upd y h 0, upd z h 0, h + 1), by simp only [sp_E_0_measure_L3, slet, if_neg ce], ⟨_, _, _, _, rfl, by omega, fun i hi => ?_⟩, by show 4 - (h + 1) < 4 - h; omega⟩
      by_cases e' : i = h
      · subst e'
        rw [upd_s, upd_s, upd_s]; exact ⟨rfl, rfl, rfl⟩
      · rw [upd_n e', upd_n e', upd_n e']; exact hI i (by omega)
  obtain ⟨x', y', z', e', hI⟩ := key
  rw [e'] at e
  simp only [Prod.mk.injEq] at e
  obtain ⟨rfl, rfl, rfl⟩ := e
  exact hI
theorem great_eq (a v : Int32) : sp_EM_greater a v = if a < v then v else a := by
  unfold sp_EM_greater
  by_cases h : a < v
  · rw [if_pos (Int32.le_of_lt h), if_pos h]
  · rw [if_neg h]
    by_cases g : a ≤ v
    · rw [if_pos g]
      exact Int32.le_antisymm (Int32.not_lt.mp h) g
    · rw [if_neg g]
theorem tail_0 {q8 q9 : Nat → Nat} {f10 f11 : Nat → Int32} {c w a : Nat} (n : Nat) (hz : ∀ i, a ≤ i → i < a + n → q8 i = 0) : lmH q8 q9 f10 f11 c w (a + n) = lmH q8 q9 f10 f11 c w a := by
  induction n with
  | zero => rfl
  | succ n ih =>
    have e : lmH q8 q9 f10 f11 c w (a + (n + 1)) = lmI q9 f10 f11 c w (a + n) (lmH q8 q9 f10 f11 c w (a + n)) (min (q8 (a + n)) 4) := rfl
    rw [e, hz (a + n) (by omega) (by omega)]
    exact ih (fun i h1 h2 => hz i h1 (by omega))
/-- the reference's inner loop over the conditions of one host -/
theorem most_in {b nc np ne : Nat} {st0 : Int32} {f4 : Nat → Int32} {q5 q6 : Nat → Nat} {f7 : Nat → Int32} {q8 q9 : Nat → Nat} {f10 f11 : Nat → Int32} {f3 : Nat → Int32} {r4 r5 r6 r7 : Nat → Nat} {f8 : Nat → Int32} {r9 r10 : Nat → Nat} {r11 : Nat → Int32} {m12_0 m12_1 m13_0 m13_1 m14_0 m14_1 m15_0 m15_1 : Nat} (h : MB b nc np ne st0 f4 q5 q6 f7 q8 q9 f10 f11 f3 r4 r5 r6 r7 f8 r9 r10 r11 (bkN b m12_0 m12_1) (bkN b m13_0 m13_1) (bkN b m14_0 m14_1) (bkN b m15_0 m15_1)) (hb : b ≤ 1) (hu : ∀ i, i < np → ∀ j, j < q8 (14 + i) → r10 (80 * b + 56 + 3 * i + j) ≤ 1) {c w : Nat} (hc : c < 3) (hw : w < 3) (a : Int32) {e hh : Nat} (he : (e < 14 ∧ hh = e) ∨ (∃ i, i < np ∧ e = 100 + i ∧ hh = 14 + i)) : (itrv default (sp_EM_most_L1 b r4 r7 r9 r10 r11 m13_0 m13_1 m14_0 m14_1 (nI c) (nI w) e) (a, 0)).1 = lmI q9 f10 f11 c w hh a (min (q8 hh) 4) := by
  obtain ⟨⟨-, -, e13, hnp, e14, hne⟩, -, -, -, h7, h8, h9, -⟩ := h
  have nc : ∀ x : Nat, x ≤ 2 → ((nI x : Int32) = nI c ↔ x = c) := fun x hx => nI_eq (by omega) (by omega)
  have w0 : (nI w : Int32) = 0 ↔ w = 0 := nI_eq (a := w) (b := 0) (by omega) (by omega)
  have w1 : (nI w : Int32) = 1 ↔ w = 1 := nI_eq (a := w) (b := 1) (by omega) (by omega)
  -- a step, whatever the host
  have stp : ∀ (s s' cap : Nat) (g : Int32), q9 s = r9 s' → f10 s = nI (r10 s') → r10 s' ≤ 4 → r10 s' ≤ cap → f11 s = r11 s' → (if (nI (min (r9 s') 2) : Int32) = nI c then (if (if (nI w : Int32) = 0 then 1 else if min (r10 s') cap = 2 then 1 else if (nI w : Int32) = 1 then (if min (r10 s') cap ≤ 2 then 0 else 1) else (if 2 ≤ min (r10 s') cap then 0 else 1)) = 0 then g else sp_EM_greater g (r11 s')) else g) = lmS q9 f10 f11 c w s g := by
    intro s s' cap g g9 g10 g4 gc g11
    unfold lmS
    rw [Nat.min_eq_left gc, g9, g10, g11]
    by_cases z : min (r9 s') 2 = c
    · rw [if_pos ((nc _ (Nat.min_le_right _ _)).mpr z), if_pos z]
      have l2 : ((nI (r10 s') : Int32) < 2) ↔ r10 s' < 2 := nI_ltI (a := r10 s') (b := 2) (by omega) (by omega)
      have g2 : ((2 : Int32) < nI (r10 s')) ↔ 2 < r10 s' := nI_ltI (a := 2) (b := r10 s') (by omega) (by omega)
      rcases (show w = 0 ∨ w = 1 ∨ w = 2 by omega) with rfl | rfl | rfl
      · rw [if_pos (w0.mpr rfl), if_pos rfl, if_neg (show ¬ (1 : Nat) = 0 by decide), great_eq]
      · rw [if_neg (fun z => absurd (w0.mp z) (by decide)), if_neg (show ¬ (1 : Nat) = 0 by decide), if_pos rfl, if_pos (w1.mpr rfl)]
        by_cases g : r10 s' < 2
        · rw [if_pos (l2.mpr g), if_neg (show ¬ r10 s' = 2 by omega), if_pos (show r10 s' ≤ 2 by omega), if_pos rfl]
        · rw [if_neg (fun z => g (l2.mp z))]
          by_cases g3 : r10 s' = 2
          · rw [if_pos g3, if_neg (show ¬ (1 : Nat) = 0 by decide), great_eq]
          · rw [if_neg g3, if_neg (show ¬ r10 s' ≤ 2 by omega), if_neg (show ¬ (1 : Nat) = 0 by decide), great_eq]
      · rw [if_neg (fun z => absurd (w0.mp z) (by decide)), if_neg (show ¬ (2 : Nat) = 0 by decide), if_neg (show ¬ (2 : Nat) = 1 by decide), if_neg (fun z => absurd (w1.mp z) (by decide))]
        by_cases g : 2 < r10 s'
        · rw [if_pos (g2.mpr g), if_neg (show ¬ r10 s' = 2 by omega), if_pos (show 2 ≤ r10 s' by omega), if_pos rfl]
        · rw [if_neg (fun z => g (g2.mp z))]
          by_cases g3 : r10 s' = 2
          · rw [if_pos g3, if_neg (show ¬ (1 : Nat) = 0 by decide), great_eq]
          · rw [if_neg g3, if_neg (show ¬ 2 ≤ r10 s' by omega), if_neg (show ¬ (1 : Nat) = 0 by decide), great_eq]
    · rw [if_neg (fun q => z ((nc _ (Nat.min_le_right _ _)).mp q)), if_neg z]
  -- the loop, once a turn is known
  have loop : ∀ (cnt : Nat), min (q8 hh) 4 = cnt → (∀ g k, k < cnt → sp_EM_most_L1 b r4 r7 r9 r10 r11 m13_0 m13_1 m14_0 m14_1 (nI c) (nI w) e (g, k) = .inl (lmS q9 f10 f11 c w (hh * 4 + k) g, k + 1)) → (∀ g k, cnt ≤ k → ∃ z, sp_EM_most_L1 b r4 r7 r9 r10 r11 m13_0 m13_1 m14_0 m14_1 (nI c) (nI w) e (g, k) = .inr (g, z)) → (itrv default (sp_EM_most_L1 b r4 r7 r9 r10 r11 m13_0 m13_1 m14_0 m14_1 (nI c) (nI w) e) (a, 0)).1 = lmI q9 f10 f11 c w hh a (min (q8 hh) 4) := by
    intro cnt hcnt h1 h2
    rw [hcnt]
    refine itrv_inv (d := default) (f := sp_EM_most_L1 b r4 r7 r9 r10 r11 m13_0 m13_1 m14_0 m14_1 (nI c) (nI w) e) (fun t => t.2 ≤ cnt ∧ t.1 = lmI q9 f10 f11 c w hh a t.2) (fun r => r.1 = lmI q9 f10 f11 c w hh a cnt) (fun t => cnt - t.2) ?_ cnt (a, 0) (Nat.sub_le _ _) ⟨Nat.zero_le _, rfl⟩
    rintro ⟨g, k⟩ ⟨hk, hg⟩
    have hk : k ≤ cnt := hk
    have hg : g = lmI q9 f10 f11 c w hh a k := hg
    by_cases ce : cnt ≤ k
    · obtain ⟨z, ez⟩ := h2 g k ce
      refine Or.inr ⟨(g, z), ez, ?_⟩
      show g = _
      rw [hg, Nat.le_antisymm hk ce]
    · refine Or.inl ⟨_, h1 g k (by omega), ⟨by show k + 1 ≤ cnt; omega, ?_⟩, by show cnt - (k + 1) < cnt - k; omega⟩
      show lmS q9 f10 f11 c w (hh * 4 + k) g = lmS q9 f10 f11 c w (hh * 4 + k) (lmI q9 f10 f11 c w hh a k)
      rw [hg]
  rcases he with ⟨he, rfl⟩ | ⟨i, hi, rfl, rfl⟩
  · by_cases hk : hh < ne
    · obtain ⟨d1, d2, d3⟩ := h9 hh hk
      have hin : (0 : Int32) ≤ nI hh ∧ (nI hh : Int32) < nI (bkN b m14_0 m14_1) := by rw [e14]; exact ⟨nI_pos' (by omega), nI_lt hk (by omega)⟩
      have hm : sp_EM_manyOf_n b r4 r7 m13_0 m13_1 m14_0 m14_1 hh = q8 hh + 1 := by
        simp only [sp_EM_manyOf_n, slet, if_pos hin, ← d1, Nat.min_eq_left d2]
      refine loop (q8 hh) (Nat.min_eq_left d2) (fun g k hk2 => ?_) (fun g k hk2 => ?_)
      · obtain ⟨g9, g2, g10, g4, g11⟩ := d3 k hk2
        have hcap : (if (80 * b + 4 * hh + k) % 80 < 56 then 4 else 1) = 4 := if_pos (cap_e (by omega) (by omega))
        have es := stp (hh * 4 + k) (80 * b + 4 * hh + k) 4 g g9 g10 g4 g4 g11
        rw [← es]
        simp only [sp_EM_most_L1, slet, hm, if_neg (Nat.succ_ne_zero _), if_pos (show hh < 100 by omega), Nat.add_sub_cancel, if_neg (show ¬ q8 hh ≤ k by omega), hcap]
      · exact ⟨k, by simp only [sp_EM_most_L1, slet, hm, if_neg (Nat.succ_ne_zero _), if_pos (show hh < 100 by omega), Nat.add_sub_cancel, if_pos hk2]⟩
    · have z8 : q8 hh = 0 := h7 hh (by omega) he
      have hin : ¬ ((0 : Int32) ≤ nI hh ∧ (nI hh : Int32) < nI (bkN b m14_0 m14_1)) := by rw [e14]; exact fun z => nI_nlt (a := hh) (b := ne) (by omega) (by omega) z.2
      have hy : ¬ ((0 : Int32) ≤ nI hh - 100 ∧ (nI hh : Int32) - 100 < nI (bkN b m13_0 m13_1)) := by
        rw [e13]
        intro z
        obtain ⟨k, hk2, ek⟩ := y100 hnp z
        have := (nI_eq (a := hh) (b := 100 + k) (by omega) (by omega)).mp ek
        omega
      have hm : sp_EM_manyOf_n b r4 r7 m13_0 m13_1 m14_0 m14_1 hh = 0 := by
        simp only [sp_EM_manyOf_n, slet, if_neg hin, if_pos (show hh < 100 by omega), if_neg hy]
      exact loop 0 (by rw [z8]; rfl) (fun g k hk2 => absurd hk2 (Nat.not_lt_zero _)) (fun g k hk2 => ⟨k, by simp only [sp_EM_most_L1, slet, hm, reduceIte]⟩)
  · obtain ⟨d1, d2, d3⟩ := h8 i hi
    have hin : ¬ ((0 : Int32) ≤ nI (100 + i) ∧ (nI (100 + i) : Int32) < nI (bkN b m14_0 m14_1)) := by rw [e14]; exact fun z => nI_nlt (a := 100 + i) (b := ne) (by omega) (by omega) z.2
    have e2 : (if b = 0 then m13_0 else m13_1) = np := e13
    have hip : sp_EM_isPlace_k b m13_0 m13_1 (100 + i - 100) = 1 := by
      unfold sp_EM_isPlace_k
      simp only [slet, e2, Nat.add_sub_cancel_left]
      have e3 : (nI np : Int32) - 1 = nI (np - 1) := pk_sub (a := np) (b := 1) (by omega)
      have hk1 : (nI i : Int32) ≤ nI np - 1 := by
        rw [e3]
        exact (nI_leI (by omega) (by omega)).mpr (by omega)
      exact if_pos ⟨nI_pos' (by omega), hk1⟩
    have e4 : 8 * b + (100 + i) - 100 = 8 * b + i := by omega
    have hm : sp_EM_manyOf_n b r4 r7 m13_0 m13_1 m14_0 m14_1 (100 + i) = q8 (14 + i) + 1 := by
      simp only [sp_EM_manyOf_n, slet, if_neg hin, if_neg (show ¬ 100 + i < 100 by omega), hip, Nat.one_ne_zero, reduceIte, e4, ← d1, Nat.min_eq_left d2]
    refine loop (q8 (14 + i)) (Nat.min_eq_left (by omega)) (fun g k hk2 => ?_) (fun g k hk2 => ?_)
    · obtain ⟨g9, g2, g10, g4, g11⟩ := d3 k hk2
      have hcap : (if (80 * b + 56 + 3 * i + k) % 80 < 56 then 4 else 1) = 1 := if_neg (cap_p (by omega) (by omega))
      have e5 : 80 * b + (56 + 3 * (100 + i - 100)) + k = 80 * b + 56 + 3 * i + k := by omega
      have es := stp ((14 + i) * 4 + k) (80 * b + 56 + 3 * i + k) 1 g g9 g10 g4 (hu i hi k hk2) g11
      rw [← es]
      simp only [sp_EM_most_L1, slet, hm, if_neg (Nat.succ_ne_zero _), if_neg (show ¬ 100 + i < 100 by omega), Nat.add_sub_cancel, if_neg (show ¬ q8 (14 + i) ≤ k by omega), e5, hcap]
    · exact ⟨k, by simp only [sp_EM_most_L1, slet, hm, if_neg (Nat.succ_ne_zero _), if_neg (show ¬ 100 + i < 100 by omega), Nat.add_sub_cancel, if_pos hk2]⟩
/-- the host up to which the reference has come -/
def hiH (e : Nat) : Nat := if e ≤ 14 then e else if e ≤ 100 then 14 else e - 86
theorem most_eq {b nc np ne : Nat} {st0 : Int32} {f4 : Nat → Int32} {q5 q6 : Nat → Nat} {f7 : Nat → Int32} {q8 q9 : Nat → Nat} {f10 f11 : Nat → Int32} {f3 : Nat → Int32} {r4 r5 r6 r7 : Nat → Nat} {f8 : Nat → Int32} {r9 r10 : Nat → Nat} {r11 : Nat → Int32} {m12_0 m12_1 m13_0 m13_1 m14_0 m14_1 m15_0 m15_1 : Nat} (h : MB b nc np ne st0 f4 q5 q6 f7 q8 q9 f10 f11 f3 r4 r5 r6 r7 f8 r9 r10 r11 (bkN b m12_0 m12_1) (bkN b m13_0 m13_1) (bkN b m14_0 m14_1) (bkN b m15_0 m15_1)) (hb : b ≤ 1) (hu : ∀ i, i < np → ∀ j, j < q8 (14 + i) → r10 (80 * b + 56 + 3 * i + j) ≤ 1) {c w : Nat} (hc : c < 3) (hw : w < 3) : sp_EM_most b r4 r7 r9 r10 r11 m13_0 m13_1 m14_0 m14_1 (nI c) (nI w) = lmH q8 q9 f10 f11 c w 22 := by
  have hnp := h.1.2.2.2.1
  have hne := h.1.2.2.2.2.2
  have e13 := h.1.2.2.1
  have e14 := h.1.2.2.2.2.1
  have h6 := h.2.2.2.1
  have e2 : (if b = 0 then m13_0 else m13_1) = np := e13
  have fin : lmH q8 q9 f10 f11 c w 22 = lmH q8 q9 f10 f11 c w (14 + np) := by
    have := tail_0 (q8 := q8) (q9 := q9) (f10 := f10) (f11 := f11) (c := c) (w := w) (a := 14 + np) (8 - np) (fun i h1 h2 => by
      have := (h6 (i - 14) (by omega) (by omega)).2
      rwa [show 14 + (i - 14) = i by omega] at this)
    rwa [show 14 + np + (8 - np) = 22 by omega] at this
  rw [fin]
  unfold sp_EM_most
  refine itrv_inv (d := default) (f := sp_EM_most_L2 b r4 r7 r9 r10 r11 m13_0 m13_1 m14_0 m14_1 (nI c) (nI w)) (fun t => t.2 ≤ 100 + np ∧ t.1 = lmH q8 q9 f10 f11 c w (hiH t.2)) (fun r => r = lmH q8 q9 f10 f11 c w (14 + np)) (fun t => 100 + np - t.2) ?_ (100 + np) (0, 0) (Nat.sub_le _ _) ⟨Nat.zero_le _, rfl⟩
  rintro ⟨g, e⟩ ⟨he, hg⟩
  have he : e ≤ 100 + np := he
  have hg : g = lmH q8 q9 f10 f11 c w (hiH e) := hg
  by_cases ce : 100 + np ≤ e
  · refine Or.inr ⟨g, by simp only [sp_EM_most_L2, slet, e2, if_pos ce], ?_⟩
    have : hiH e = 14 + np := by
      unfold hiH
      rw [if_neg (by omega)]
      split <;> omega
    rw [hg, this]
  · obtain ⟨⟨x, y⟩, ex⟩ : ∃ x, itrv default (sp_EM_most_L1 b r4 r7 r9 r10 r11 m13_0 m13_1 m14_0 m14_1 (nI c) (nI w) e) (g, 0) = x := ⟨_, rfl⟩
    refine Or.inl ⟨(x, e + 1), by simp only [sp_EM_most_L2, slet, e2, if_neg ce, ex], ⟨by show e + 1 ≤ 100 + np; omega, ?_⟩, by show 100 + np - (e + 1) < 100 + np - e; omega⟩
    show x = lmH q8 q9 f10 f11 c w (hiH (e + 1))
    have ex1 : (itrv default (sp_EM_most_L1 b r4 r7 r9 r10 r11 m13_0 m13_1 m14_0 m14_1 (nI c) (nI w) e) (g, 0)).1 = x := by rw [ex]
    by_cases c1 : e < 14
    · have := most_in h hb hu hc hw g (e := e) (hh := e) (Or.inl ⟨c1, rfl⟩)
      rw [ex1] at this
      rw [this, hg]
      have a1 : hiH e = e := by unfold hiH; rw [if_pos (by omega)]
      have a2 : hiH (e + 1) = e + 1 := by unfold hiH; rw [if_pos (by omega)]
      rw [a1, a2]; rfl
    · by_cases c2 : e < 100
      · have hin : ¬ ((0 : Int32) ≤ nI e ∧ (nI e : Int32) < nI (bkN b m14_0 m14_1)) := by rw [e14]; exact fun z => nI_nlt (a := e) (b := ne) (by omega) (by omega) z.2
        have hy : ¬ ((0 : Int32) ≤ nI e - 100 ∧ (nI e : Int32) - 100 < nI (bkN b m13_0 m13_1)) := by
          rw [e13]
          intro z
          obtain ⟨k, hk2, ek⟩ := y100 hnp z
          have := (nI_eq (a := e) (b := 100 + k) (by omega) (by omega)).mp ek
          omega
        have hm : sp_EM_manyOf_n b r4 r7 m13_0 m13_1 m14_0 m14_1 e = 0 := by
          simp only [sp_EM_manyOf_n, slet, if_neg hin, if_pos c2, if_neg hy]
        have e9 : sp_EM_most_L1 b r4 r7 r9 r10 r11 m13_0 m13_1 m14_0 m14_1 (nI c) (nI w) e (g, 0) = .inr (g, 0) := by simp only [sp_EM_most_L1, slet, hm, reduceIte]
        rw [itrv_inr e9] at ex1
        have ex1 : g = x := ex1
        rw [← ex1, hg]
        have a1 : hiH e = 14 := by unfold hiH; split; omega; rw [if_pos (by omega)]
        have a2 : hiH (e + 1) = 14 := by unfold hiH; rw [if_neg (by omega), if_pos (by omega)]
        rw [a1, a2]
      · obtain ⟨i, rfl⟩ : ∃ i, e = 100 + i := ⟨e - 100, by omega⟩
        have := most_in h hb hu hc hw g (e := 100 + i) (hh := 14 + i) (Or.inr ⟨i, by omega, rfl, rfl⟩)
        rw [ex1] at this
        rw [this, hg]
        have a1 : hiH (100 + i) = 14 + i := by
          unfold hiH
          rw [if_neg (by omega)]
          split <;> omega
        have a2 : hiH (100 + i + 1) = 14 + i + 1 := by unfold hiH; rw [if_neg (by omega), if_neg (by omega)]; omega
        rw [a1, a2]; rfl
/-- the numbers of a clock: the same of both -/
theorem limit_same {b nc np ne : Nat} {st0 : Int32} {f4 : Nat → Int32} {q5 q6 : Nat → Nat} {f7 : Nat → Int32} {q8 q9 : Nat → Nat} {f10 f11 : Nat → Int32} {f3 : Nat → Int32} {r4 r5 r6 r7 : Nat → Nat} {f8 : Nat → Int32} {r9 r10 : Nat → Nat} {r11 : Nat → Int32} {m12_0 m12_1 m13_0 m13_1 m14_0 m14_1 m15_0 m15_1 : Nat} {f14 f15 f16 : Nat → Int32} (h : MB b nc np ne st0 f4 q5 q6 f7 q8 q9 f10 f11 f3 r4 r5 r6 r7 f8 r9 r10 r11 (bkN b m12_0 m12_1) (bkN b m13_0 m13_1) (bkN b m14_0 m14_1) (bkN b m15_0 m15_1)) (hb : b ≤ 1) (hu : ∀ i, i < np → ∀ j, j < q8 (14 + i) → r10 (80 * b + 56 + 3 * i + j) ≤ 1) (hs : MS nc np q8 q9 f10 f11 f14 f15 f16) (p0 p1 : Int32) : (sp_EM_limit b r4 r7 r9 r10 r11 m12_0 m12_1 m13_0 m13_1 m14_0 m14_1 p0 p1).1 = sp_E_8_limit nc f14 f15 f16 p0 p1 := by
  have e12 := h.1.1
  have h3 := h.1.2.1
  unfold sp_EM_limit sp_E_8_limit
  rw [e12]
  by_cases hp : (0 : Int32) ≤ p0 ∧ p0 < nI nc
  · rw [if_pos hp, if_pos hp]
    obtain ⟨k, hk, rfl⟩ := pu_ult (x := p0) (b := nc) (by omega) (Int32.not_lt.mpr hp.1) hp.2
    have hn : (nI k : Int32).toNatClampNeg = k := (nI_cl (by omega)).symm
    simp only [slet, hn]
    rcases hs with ⟨z, -⟩ | ⟨a, b', c, em⟩
    · omega
    obtain ⟨l1, l2, l3⟩ := meas_eq em k (by omega)
    by_cases hq : (0 : Int32) ≤ p1 ∧ p1 ≤ 2
    · rw [if_pos hq]
      obtain ⟨j, hj, rfl⟩ := pu_ule (x := p1) (b := 2) (by decide) (Int32.not_lt.mpr hq.1) hq.2
      have hjn : (nI j : Int32).toNatClampNeg = j := (nI_cl (by omega)).symm
      have em2 := most_eq h hb hu (c := k) (w := j) (by omega) (by omega)
      rw [hjn]
      show sp_EM_most b r4 r7 r9 r10 r11 m13_0 m13_1 m14_0 m14_1 (nI k) (nI j) = _
      rw [em2]
      rcases (show j = 0 ∨ j = 1 ∨ j = 2 by omega) with rfl | rfl | rfl
      · rw [if_pos (show (nI 0 : Int32) = 0 by decide)]; exact l1.symm
      · rw [if_neg (show ¬ (nI 1 : Int32) = 0 by decide), if_pos (show (nI 1 : Int32) = 1 by decide)]; exact l2.symm
      · rw [if_neg (show ¬ (nI 2 : Int32) = 0 by decide), if_neg (show ¬ (nI 2 : Int32) = 1 by decide), if_pos (show (nI 2 : Int32) = 2 by decide)]; exact l3.symm
    · rw [if_neg hq, if_neg (fun e => hq (by rw [e]; decide)), if_neg (fun e => hq (by rw [e]; decide)), if_neg (fun e => hq (by rw [e]; decide))]
  · rw [if_neg hp, if_neg hp]
/-- a condition of a place, all clocks at 0: both hold it alike -/
theorem zero_held : ∀ hw, hw < 2 → ∀ n, n < 21 → (if sp_E_7_ticks (clF hw n) < (0 : Int32) then (0 : Nat) else if (-(0 : Int32)) ≤ sp_E_7_ticks (flF hw n) then 1 else 0) = (if hw = 0 then (if ((256 : Int32) * nI n) ≤ 0 then 0 else 1) else (if ((256 : Int32) * nI n) < 0 then 0 else 1)) := by decide +kernel
theorem held_0 {b nc np ne : Nat} {st0 : Int32} {f4 : Nat → Int32} {q5 q6 : Nat → Nat} {f7 : Nat → Int32} {q8 q9 : Nat → Nat} {f10 f11 : Nat → Int32} {f3 : Nat → Int32} {r4 r5 r6 r7 : Nat → Nat} {f8 : Nat → Int32} {r9 r10 : Nat → Nat} {r11 : Nat → Int32} {m12_0 m12_1 m13_0 m13_1 m14_0 m14_1 m15_0 m15_1 : Nat} {f12 f13 : Nat → Int32} (h : MB b nc np ne st0 f4 q5 q6 f7 q8 q9 f10 f11 f3 r4 r5 r6 r7 f8 r9 r10 r11 (bkN b m12_0 m12_1) (bkN b m13_0 m13_1) (bkN b m14_0 m14_1) (bkN b m15_0 m15_1)) (w : WFm nc np ne f4 q8 q9 f10 f11 f12 f13) (hb : b ≤ 1) {st : Nat} (hst : st < np) {g g' : Nat → Int32} (hg : ∀ i, i < 3 → g i = 0 ∧ g' i = 0) : sp_EM_isHeld_p b r4 r9 r10 r11 m13_0 m13_1 g' (100 + st) 0 = sp_E_0_holdsAt q8 q9 f12 f13 g (14 + st) := by
  obtain ⟨⟨-, -, e13, hnp, e14, hne⟩, -, -, -, -, h8, -, -⟩ := h
  obtain ⟨d1, d2, d3⟩ := h8 st hst
  have hm := manyp (r4 := r4) e13 hnp hst
  rw [← d1, Nat.min_eq_left d2] at hm
  have m4 : min (q8 (14 + st)) 4 = q8 (14 + st) := Nat.min_eq_left (by omega)
  unfold sp_EM_isHeld_p sp_E_0_holdsAt
  refine itrv_sim (d := default) (d' := default) (f := sp_EM_isHeld_p_L1 b r4 r9 r10 r11 m13_0 m13_1 g' (100 + st) 0) (g := sp_E_0_holdsAt_L1 q8 q9 f12 f13 g (14 + st)) (fun t t' => t = t' ∧ t ≤ q8 (14 + st)) (fun a b => a = b) (fun t => q8 (14 + st) - t) ?_ (q8 (14 + st)) 0 0 (Nat.sub_le _ _) ⟨rfl, Nat.zero_le _⟩
  rintro k _ ⟨rfl, hk⟩
  by_cases ce : q8 (14 + st) ≤ k
  · refine Or.inr ⟨1, ?_, ?_⟩
    · simp only [sp_EM_isHeld_p_L1, slet, hm, if_neg (Nat.succ_ne_zero _), Nat.add_sub_cancel, if_pos ce]
    · rw [itrv_inr (show sp_E_0_holdsAt_L1 q8 q9 f12 f13 g (14 + st) k = .inr 1 by simp only [sp_E_0_holdsAt_L1, slet, m4, if_pos ce])]
  · obtain ⟨g9, g2, g10, g4, g11⟩ := d3 k (by omega)
    obtain ⟨⟨hw, n0, hmm, hn0, e10, e11, e12, e13'⟩, -⟩ := (w.1 (14 + st) (by omega)).2 k (by omega)
    have hm1 : mH (14 + st) = 1 := by unfold mH; rw [if_neg (by omega)]
    have hw1 : hw < 2 := by omega
    have er : r10 (80 * b + 56 + 3 * st + k) = hw := ((nI_eq (a := hw) (b := r10 (80 * b + 56 + 3 * st + k)) (by omega) (by omega)).mp (e10.symm.trans g10)).symm
    have en : r11 (80 * b + 56 + 3 * st + k) = nI n0 := g11.symm.trans e11
    have e5 : 80 * b + (56 + 3 * (100 + st - 100)) + k = 80 * b + 56 + 3 * st + k := by omega
    have hcap : (if (80 * b + 56 + 3 * st + k) % 80 < 56 then 4 else 1) = 1 := if_neg (cap_p (by omega) (by omega))
    have u2 : min (q9 ((14 + st) * 4 + k)) 2 < 3 := Nat.lt_of_le_of_lt (Nat.min_le_right _ _) (by decide)
    have u2' : min (r9 (80 * b + 56 + 3 * st + k)) 2 < 3 := Nat.lt_of_le_of_lt (Nat.min_le_right _ _) (by decide)
    have z := zero_held hw hw1 n0 (by omega)
    have eE : sp_E_0_holdsAt_L1 q8 q9 f12 f13 g (14 + st) k = (if sp_E_7_ticks (clF hw n0) < (0 : Int32) then .inr 0 else if (-(0 : Int32)) ≤ sp_E_7_ticks (flF hw n0) then .inl (k + 1) else .inr 0) := by
      simp only [sp_E_0_holdsAt_L1, slet, m4, if_neg ce, (hg _ u2).1, e12, e13']
    have eM : sp_EM_isHeld_p_L1 b r4 r9 r10 r11 m13_0 m13_1 g' (100 + st) 0 k = (if (if hw = 0 then (if ((256 : Int32) * nI n0) ≤ 0 then 0 else 1) else (if ((256 : Int32) * nI n0) < 0 then 0 else 1)) = 0 then .inr 0 else .inl (k + 1)) := by
      have iz : (if sp_EM_isOf 0 (nI (min (r9 (80 * b + 56 + 3 * st + k)) 2)) = 0 then g' (min (r9 (80 * b + 56 + 3 * st + k)) 2) else 0) = 0 := by
        rw [(hg _ u2').2]
        exact ite_self _
      have h01 : hw = 0 ∨ hw = 1 := by omega
      rcases h01 with rfl | rfl
      · simp only [sp_EM_isHeld_p_L1, slet, hm, if_neg (Nat.succ_ne_zero _), Nat.add_sub_cancel, if_neg ce, e5, iz, en, er, hcap, reduceIte, Nat.zero_min]
      · simp only [sp_EM_isHeld_p_L1, slet, hm, if_neg (Nat.succ_ne_zero _), Nat.add_sub_cancel, if_neg ce, e5, iz, en, er, hcap, Nat.min_self, if_neg (show ¬ (1 : Nat) = 0 by decide), reduceIte]
    rw [← z] at eM
    by_cases c1 : sp_E_7_ticks (clF hw n0) < (0 : Int32)
    · rw [if_pos c1] at eE
      rw [if_pos c1, if_pos rfl] at eM
      exact Or.inr ⟨0, eM, by rw [itrv_inr eE]⟩
    · rw [if_neg c1] at eE eM
      by_cases c2 : (-(0 : Int32)) ≤ sp_E_7_ticks (flF hw n0)
      · rw [if_pos c2] at eE
        rw [if_pos c2, if_neg (by decide)] at eM
        exact Or.inl ⟨k + 1, k + 1, eM, eE, ⟨rfl, by omega⟩, by show q8 (14 + st) - (k + 1) < q8 (14 + st) - k; omega⟩
      · rw [if_neg c2] at eE
        rw [if_neg c2, if_pos rfl] at eM
        exact Or.inr ⟨0, eM, by rw [itrv_inr eE]⟩
theorem startsE (st0 : Nat) (q8 q9 : Nat → Nat) (f12 f13 : Nat → Int32) (f : Nat → Int32) : ∃ g, (∀ i, i < 3 → g i = 0) ∧ itrv default (sp_E_3_startsIn_L1 st0 q8 q9 f12 f13) (f, 0) = (sp_E_0_holdsAt q8 q9 f12 f13 g (14 + st0), g, sp_E_0_holdsAt q8 q9 f12 f13 g (14 + st0), st0, 0) := by
  refine itrv_inv (d := default) (f := sp_E_3_startsIn_L1 st0 q8 q9 f12 f13) (fun t => t.2 ≤ 3 ∧ ∀ i, i < t.2 → t.1 i = 0) (fun r => ∃ g, (∀ i, i < 3 → g i = 0) ∧ r = (sp_E_0_holdsAt q8 q9 f12 f13 g (14 + st0), g, sp_E_0_holdsAt q8 q9 f12 f13 g (14 + st0), st0, 0)) (fun t => 3 - t.2) ?_ 3 (f, 0) (Nat.sub_le _ _) ⟨Nat.zero_le _, fun i h => absurd h (Nat.not_lt_zero i)⟩
  rintro ⟨g, k⟩ ⟨hk, hI⟩
  have hk : k ≤ 3 := hk
  have hI : ∀ i, i < k → g i = 0 := hI
  by_cases c : 3 ≤ k
  · exact Or.inr ⟨_, by simp only [sp_E_3_startsIn_L1, slet, if_pos c] <;> rfl, g, fun i hi => hI i (by omega), rfl⟩
  · refine Or.inl ⟨(upd g k 0, k + 1), by simp only [sp_E_3_startsIn_L1, slet, if_neg c], ⟨by show k + 1 ≤ 3; omega, fun i hi => ?_⟩, by show 3 - (k + 1) < 3 - k; omega⟩
    show upd g k 0 i = 0
    have hi : i < k + 1 := hi
    by_cases e : i = k
    · subst e; rw [upd_s]
    · rw [upd_n e]; exact hI i (by omega)
theorem startsM {b : Nat} {r4 r9 r10 : Nat → Nat} {r11 : Nat → Int32} {m13_0 m13_1 m15_0 m15_1 st : Nat} (hs : bkN b m15_0 m15_1 = st + 1) (f : Nat → Int32) : ∃ g, (∀ i, i < 3 → g i = 0) ∧ itrv default (sp_EM_beginsPlay_L1 b r4 r9 r10 r11 m13_0 m13_1 m15_0 m15_1) (f, 0) = (sp_EM_isHeld_p b r4 r9 r10 r11 m13_0 m13_1 g (100 + st) 0, g, sp_EM_isHeld_p b r4 r9 r10 r11 m13_0 m13_1 g (100 + st) 0, st, 0) := by
  have e2 : (if b = 0 then m15_0 else m15_1) = st + 1 := hs
  refine itrv_inv (d := default) (f := sp_EM_beginsPlay_L1 b r4 r9 r10 r11 m13_0 m13_1 m15_0 m15_1) (fun t => t.2 ≤ 3 ∧ ∀ i, i < t.2 → t.1 i = 0) (fun r => ∃ g, (∀ i, i < 3 → g i = 0) ∧ r = (sp_EM_isHeld_p b r4 r9 r10 r11 m13_0 m13_1 g (100 + st) 0, g, sp_EM_isHeld_p b r4 r9 r10 r11 m13_0 m13_1 g (100 + st) 0, st, 0)) (fun t => 3 - t.2) ?_ 3 (f, 0) (Nat.sub_le _ _) ⟨Nat.zero_le _, fun i h => absurd h (Nat.not_lt_zero i)⟩
  rintro ⟨g, k⟩ ⟨hk, hI⟩
  have hk : k ≤ 3 := hk
  have hI : ∀ i, i < k → g i = 0 := hI
  by_cases c : 3 ≤ k
  · exact Or.inr ⟨_, by simp only [sp_EM_beginsPlay_L1, slet, if_pos c, e2, Nat.add_sub_cancel] <;> rfl, g, fun i hi => hI i (by omega), rfl⟩
  · refine Or.inl ⟨(upd g k 0, k + 1), by simp only [sp_EM_beginsPlay_L1, slet, if_neg c], ⟨by show k + 1 ≤ 3; omega, fun i hi => ?_⟩, by show 3 - (k + 1) < 3 - k; omega⟩
    show upd g k 0 i = 0
    have hi : i < k + 1 := hi
    by_cases e : i = k
    · subst e; rw [upd_s]
    · rw [upd_n e]; exact hI i (by omega)
/-- begin: the same of both, and the same PLAY -/
theorem begin_same {b nc np ne : Nat} {st0 : Int32} {f4 : Nat → Int32} {q5 q6 : Nat → Nat} {f7 : Nat → Int32} {q8 q9 : Nat → Nat} {f10 f11 : Nat → Int32} {f3 : Nat → Int32} {r4 r5 r6 r7 : Nat → Nat} {f8 : Nat → Int32} {r9 r10 : Nat → Nat} {r11 : Nat → Int32} {m12_0 m12_1 m13_0 m13_1 m14_0 m14_1 m15_0 m15_1 : Nat} {f12 f13 : Nat → Int32} (h : MB b nc np ne st0 f4 q5 q6 f7 q8 q9 f10 f11 f3 r4 r5 r6 r7 f8 r9 r10 r11 (bkN b m12_0 m12_1) (bkN b m13_0 m13_1) (bkN b m14_0 m14_1) (bkN b m15_0 m15_1)) (w : WFm nc np ne f4 q8 q9 f10 f11 f12 f13) (hb : b ≤ 1) {st : Nat} (hst : st < np) (hs : bkN b m15_0 m15_1 = st + 1) (si x65 : Nat) (ti0 x66 : Int32) (ftm f64 : Nat → Int32) : ∃ r g g' u, sp_E_8_begin np st q8 q9 f12 f13 si ti0 ftm = (r, g, u, st, 0) ∧ sp_EM_begin b x65 x66 r4 r9 r10 r11 m13_0 m13_1 m15_0 m15_1 f64 = (r, g', 0, u, st, 0) ∧ ∀ i, i < 3 → g i = 0 ∧ g' i = 0 := by
  obtain ⟨g, hg, e1⟩ := startsE st q8 q9 f12 f13 ftm
  obtain ⟨g', hg', e2⟩ := startsM (r4 := r4) (r9 := r9) (r10 := r10) (r11 := r11) (m13_0 := m13_0) (m13_1 := m13_1) hs f64
  have hh := held_0 h w hb hst (g := g) (g' := g') (fun i hi => ⟨hg i hi, hg' i hi⟩)
  rw [hh] at e2
  have n0 : ¬ np = 0 := by omega
  have e13 : (if b = 0 then m13_0 else m13_1) = np := h.1.2.2.1
  by_cases c : sp_E_0_holdsAt q8 q9 f12 f13 g (14 + st) = 0
  · refine ⟨-1, g, g', sp_E_0_holdsAt q8 q9 f12 f13 g (14 + st), ?_, ?_, fun i hi => ⟨hg i hi, hg' i hi⟩⟩
    · simp only [sp_E_8_begin, sp_E_3_startsIn, slet, if_neg n0, e1, if_pos c]
    · simp only [sp_EM_begin, sp_EM_beginsPlay, slet, e13, if_neg n0, e2, if_pos c]
  · refine ⟨nI st, g, g', sp_E_0_holdsAt q8 q9 f12 f13 g (14 + st), ?_, ?_, fun i hi => ⟨hg i hi, hg' i hi⟩⟩
    · simp only [sp_E_8_begin, sp_E_3_startsIn, slet, if_neg n0, e1, if_neg c]
    · simp only [sp_EM_begin, sp_EM_beginsPlay, slet, e13, if_neg n0, e2, if_neg c]
