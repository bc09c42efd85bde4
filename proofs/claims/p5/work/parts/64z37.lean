/-- an edge told: the same of both -/
theorem edge_same {b ne m13_0 m13_1 m14_0 m14_1 : Nat} {q5 q6 : Nat → Nat} {f7 : Nat → Int32} {q8 r5 r6 r7 : Nat → Nat} {f8 : Nat → Int32} (h : EB b ne q5 q6 f7 q8 r5 r6 r7 f8 (bkN b m14_0 m14_1)) (p0 p1 : Int32) : (sp_EM_edge b r5 r6 r7 f8 m13_0 m13_1 m14_0 m14_1 p0 p1).1 = sp_E_8_edge ne q5 q6 f7 q8 p0 p1 := by
  obtain ⟨e, hne, h10⟩ := h
  unfold sp_EM_edge sp_E_8_edge
  rw [e]
  by_cases hp : (0 : Int32) ≤ p0 ∧ p0 < nI ne
  · rw [if_pos hp, if_pos hp]
    obtain ⟨k, hk, rfl⟩ := pu_ult (x := p0) (b := ne) (by omega) (Int32.not_lt.mpr hp.1) hp.2
    have hn : (nI k : Int32).toNatClampNeg = k := (nI_cl (by omega)).symm
    simp only [slet, hn]
    obtain ⟨c1, c3, d1, c5⟩ := h10 k hk
    by_cases hq : (0 : Int32) ≤ p1 ∧ p1 ≤ 3
    · rw [if_pos hq]
      obtain ⟨j, hj, rfl⟩ := pu_ule (x := p1) (b := 3) (by decide) (Int32.not_lt.mpr hq.1) hq.2
      rcases (show j = 0 ∨ j = 1 ∨ j = 2 ∨ j = 3 by omega) with rfl | rfl | rfl | rfl
      · rw [if_pos (show (nI 0 : Int32).toNatClampNeg = 0 by decide), if_pos (show (nI 0 : Int32) = 0 by decide)]
        show nI (min (r5 (14 * b + k)) 7) = nI (min (q5 k) 7)
        rw [c1]
      · rw [if_neg (show ¬ (nI 1 : Int32).toNatClampNeg = 0 by decide), if_pos (show (nI 1 : Int32).toNatClampNeg = 1 by decide), if_neg (show ¬ (nI 1 : Int32) = 0 by decide), if_pos (show (nI 1 : Int32) = 1 by decide)]
        show nI (min (r6 (14 * b + k)) 7) = nI (min (q6 k) 7)
        rw [c3]
      · rw [if_neg (show ¬ (nI 2 : Int32).toNatClampNeg = 0 by decide), if_neg (show ¬ (nI 2 : Int32).toNatClampNeg = 1 by decide), if_pos (show (nI 2 : Int32).toNatClampNeg = 2 by decide), if_neg (show ¬ (nI 2 : Int32) = 0 by decide), if_neg (show ¬ (nI 2 : Int32) = 1 by decide), if_pos (show (nI 2 : Int32) = 2 by decide)]
        have hm : sp_EM_manyOf_e b r7 m13_0 m13_1 m14_0 m14_1 k = min (r7 (14 * b + k)) 4 + 1 := by
          have e2 : (if b = 0 then m14_0 else m14_1) = ne := e
          have hi : sp_EM_isEdge_k b m14_0 m14_1 k = 1 := by
            unfold sp_EM_isEdge_k
            simp only [slet, e2]
            have hk1 : (nI k : Int32) ≤ nI ne - 1 := by
              have e3 : (nI ne : Int32) - 1 = nI (ne - 1) := pk_sub (a := ne) (b := 1) (by omega)
              rw [e3]
              exact (nI_leI (by omega) (by omega)).mpr (by omega)
            exact if_pos ⟨Int32.not_lt.mp (nI_pos (by omega)), hk1⟩
          simp only [sp_EM_manyOf_e, slet, hi, Nat.one_ne_zero, reduceIte]
        rw [hm, if_neg (Nat.succ_ne_zero _)]
        show nI (min (r7 (14 * b + k)) 4 + 1 - 1) = nI (min (q8 k) 4)
        rw [Nat.add_sub_cancel, d1]
      · rw [if_neg (show ¬ (nI 3 : Int32).toNatClampNeg = 0 by decide), if_neg (show ¬ (nI 3 : Int32).toNatClampNeg = 1 by decide), if_neg (show ¬ (nI 3 : Int32).toNatClampNeg = 2 by decide), if_neg (show ¬ (nI 3 : Int32) = 0 by decide), if_neg (show ¬ (nI 3 : Int32) = 1 by decide), if_neg (show ¬ (nI 3 : Int32) = 2 by decide), if_pos (show (nI 3 : Int32) = 3 by decide)]
        show f8 (14 * b + k) = f7 k
        exact c5.symm
    · rw [if_neg hq, if_neg (fun z => hq (by rw [z]; decide)), if_neg (fun z => hq (by rw [z]; decide)), if_neg (fun z => hq (by rw [z]; decide)), if_neg (fun z => hq (by rw [z]; decide))]
  · rw [if_neg hp, if_neg hp]
