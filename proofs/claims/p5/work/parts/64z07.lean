theorem cc_1 {v : Int32} {f1 fcn : Nat → Int32} {n : Nat} (h : ∀ i, i < n → fcn i = f1 (3 + i)) : sp_EM_clockCalled_1 v f1 n = sp_E_4_indexOf_c v fcn n := (find_sim (v := v) (g := fun i => f1 (3 + i)) h).symm
theorem pc_1 {v : Int32} {f2 fpn : Nat → Int32} {n : Nat} (h : ∀ i, i < n → fpn i = f2 (8 + i)) : sp_EM_placeCalled_1 v f2 n = sp_E_4_indexOf_p v fpn n := (find_sim (v := v) (g := fun i => f2 (8 + i)) h).symm
theorem tc_1 {kd tok n u c w : Nat} {vl va tka x27 fa fat fa' fat' wa : Int32} {f1 fcn : Nat → Int32} (hT : TokR kd vl tok va) (hn : ∀ i, i < n → fcn i = f1 (3 + i)) (hA : sp_E_4_toldName_c fa fat kd vl tka fcn n = (u, fa', fat')) (hB : sp_EM_toldClock_1 tka tok va 0 x27 f1 n = (c, w, wa)) :
    (u = 0 ∧ w ≠ 0 ∧ fa' = nI w ∧ fat' = wa ∧ c = 0) ∨ (u = c + 1 ∧ c < n ∧ w = 0 ∧ wa = x27 ∧ fa' = fa ∧ fat' = fat ∧ kd = 2) := by
  have eA : sp_E_4_toldName_c fa fat kd vl tka fcn n = (if kd = 2 then (if sp_E_4_indexOf_c vl fcn n = 0 then (0, 3, tka) else (sp_E_4_indexOf_c vl fcn n - 1 + 1, fa, fat)) else (0, nI (fk kd 2), tka)) := rfl
  have eB : sp_EM_toldClock_1 tka tok va 0 x27 f1 n = (let m := sp_EM_mustBeName tka tok va 0 x27; if sp_EM_isGood m.1 = 0 then (0, m.1, m.2) else if sp_EM_clockCalled_1 va f1 n = 0 then (0, (sp_EM_fails tka tok m.1 m.2 3).1, (sp_EM_fails tka tok m.1 m.2 3).2) else (sp_EM_clockCalled_1 va f1 n - 1, m.1, m.2)) := rfl
  rw [eA] at hA
  rw [eB, must_eq hT] at hB
  by_cases hk : kd = 2
  · subst hk
    have hv := tok_2v hT
    subst hv
    rw [if_pos rfl] at hA hB
    dsimp only at hB
    rw [good_0, if_neg (by decide), cc_1 hn, fails_eq hT] at hB
    have hle : sp_E_4_indexOf_c vl fcn n ≤ n := find_le
    by_cases h0 : sp_E_4_indexOf_c vl fcn n = 0
    · rw [if_pos h0] at hA hB
      simp only [Prod.mk.injEq] at hA hB
      obtain ⟨rfl, rfl, rfl⟩ := hA
      obtain ⟨rfl, rfl, rfl⟩ := hB
      exact Or.inl ⟨rfl, by decide, rfl, rfl, rfl⟩
    · rw [if_neg h0] at hA hB
      simp only [Prod.mk.injEq] at hA hB
      obtain ⟨rfl, rfl, rfl⟩ := hA
      obtain ⟨rfl, rfl, rfl⟩ := hB
      exact Or.inr ⟨rfl, by omega, rfl, rfl, rfl, rfl, rfl⟩
  · rw [if_neg hk] at hA hB
    dsimp only at hB
    rw [good_n (fk_0 (by decide)), if_pos rfl] at hB
    simp only [Prod.mk.injEq] at hA hB
    obtain ⟨rfl, rfl, rfl⟩ := hA
    obtain ⟨rfl, rfl, rfl⟩ := hB
    exact Or.inl ⟨rfl, fk_0 (by decide), rfl, rfl, rfl⟩
theorem tp_1 {kd tok n u c w len pos be' tok' : Nat} {vl va tka x27 fa fat fa' fat' wa at' va' : Int32} {f f2 fpn : Nat → Int32} (hT : TokR kd vl tok va) (hn : ∀ i, i < n → fpn i = f2 (8 + i)) (hA : sp_E_4_toldName_p fa fat kd vl tka fpn n = (u, fa', fat')) (hB : sp_EM_toldPlace_1 len tka pos tok va 0 x27 f2 n f = (c, at', be', tok', va', w, wa)) :
    (u = 0 ∧ w ≠ 0 ∧ fa' = nI w ∧ fat' = wa) ∨ (u = c + 1 ∧ c < n ∧ w = 0 ∧ wa = x27 ∧ fa' = fa ∧ fat' = fat ∧ sp_EM_next len pos f = (at', be', tok', va')) := by
  have eA : sp_E_4_toldName_p fa fat kd vl tka fpn n = (if kd = 2 then (if sp_E_4_indexOf_p vl fpn n = 0 then (0, 3, tka) else (sp_E_4_indexOf_p vl fpn n - 1 + 1, fa, fat)) else (0, nI (fk kd 2), tka)) := rfl
  have eB : sp_EM_toldPlace_1 len tka pos tok va 0 x27 f2 n f = (let m := sp_EM_mustBeName tka tok va 0 x27; let N := sp_EM_next len pos f; if sp_EM_isGood m.1 = 0 then (if sp_EM_isGood m.1 = 0 then (0, tka, pos, tok, va, m.1, m.2) else (0, N.1, N.2.1, N.2.2.1, N.2.2.2, m.1, m.2)) else if sp_EM_placeCalled_1 va f2 n = 0 then (let x := sp_EM_fails tka tok m.1 m.2 3; if sp_EM_isGood x.1 = 0 then (0, tka, pos, tok, va, x.1, x.2) else (0, N.1, N.2.1, N.2.2.1, N.2.2.2, x.1, x.2)) else (if sp_EM_isGood m.1 = 0 then (sp_EM_placeCalled_1 va f2 n - 1, tka, pos, tok, va, m.1, m.2) else (sp_EM_placeCalled_1 va f2 n - 1, N.1, N.2.1, N.2.2.1, N.2.2.2, m.1, m.2))) := rfl
  rw [eA] at hA
  rw [eB, must_eq hT] at hB
  by_cases hk : kd = 2
  · subst hk
    have hv := tok_2v hT
    subst hv
    rw [if_pos rfl] at hA hB
    dsimp only at hB
    rw [good_0, if_neg (by decide), pc_1 hn, fails_eq hT] at hB
    have hle : sp_E_4_indexOf_p vl fpn n ≤ n := find_le
    by_cases h0 : sp_E_4_indexOf_p vl fpn n = 0
    · rw [if_pos h0] at hA hB
      dsimp only at hB
      rw [good_n (fk_0 (by decide)), if_pos rfl] at hB
      simp only [Prod.mk.injEq] at hA hB
      obtain ⟨rfl, rfl, rfl⟩ := hA
      obtain ⟨rfl, rfl, rfl, rfl, rfl, rfl, rfl⟩ := hB
      exact Or.inl ⟨rfl, by decide, rfl, rfl⟩
    · rw [if_neg h0] at hA hB
      rw [if_neg (by decide)] at hB
      simp only [Prod.mk.injEq] at hA hB
      obtain ⟨rfl, rfl, rfl⟩ := hA
      obtain ⟨rfl, rfl, rfl, rfl, rfl, rfl, rfl⟩ := hB
      exact Or.inr ⟨rfl, by omega, rfl, rfl, rfl, rfl, rfl⟩
  · rw [if_neg hk] at hA hB
    dsimp only at hB
    rw [good_n (fk_0 (by decide)), if_pos rfl, if_pos rfl] at hB
    simp only [Prod.mk.injEq] at hA hB
    obtain ⟨rfl, rfl, rfl⟩ := hA
    obtain ⟨rfl, rfl, rfl, rfl, rfl, rfl, rfl⟩ := hB
    exact Or.inl ⟨rfl, fk_0 (by decide), rfl, rfl⟩
theorem fn_1 {kd tok nc np u w len pos be' tok' : Nat} {vl va tka x27 fa fat fa' fat' wa at' va' its : Int32} {f f1 f2 fcn fpn : Nat → Int32} (hT : TokR kd vl tok va) (hc : ∀ i, i < nc → fcn i = f1 (3 + i)) (hp : ∀ i, i < np → fpn i = f2 (8 + i)) (hA : sp_E_4_isNewName fa fat kd vl tka fcn fpn nc np = (u, fa', fat')) (hB : sp_EM_freshName_1 len tka pos tok va 0 x27 f1 f2 nc np f = (its, at', be', tok', va', w, wa)) :
    (u = 0 ∧ w ≠ 0 ∧ fa' = nI w ∧ fat' = wa) ∨ (u = 1 ∧ w = 0 ∧ wa = x27 ∧ fa' = fa ∧ fat' = fat ∧ its = vl ∧ sp_EM_next len pos f = (at', be', tok', va')) := by
  have eA : sp_E_4_isNewName fa fat kd vl tka fcn fpn nc np = (if kd = 2 then (if (if sp_E_4_indexOf_c vl fcn nc = 0 then (if sp_E_4_indexOf_p vl fpn np = 0 then 0 else 1) else 1) = 0 then (1, fa, fat) else (0, 3, tka)) else (0, nI (fk kd 2), tka)) := rfl
  have eB : sp_EM_freshName_1 len tka pos tok va 0 x27 f1 f2 nc np f = (let m := sp_EM_mustBeName tka tok va 0 x27; let N := sp_EM_next len pos f; let x := (if sp_EM_isGood m.1 = 0 then (m.1, m.2) else if sp_EM_clockCalled_1 va f1 nc = 0 then (if sp_EM_placeCalled_1 va f2 np = 0 then (m.1, m.2) else ((sp_EM_fails tka tok m.1 m.2 3).1, (sp_EM_fails tka tok m.1 m.2 3).2)) else ((sp_EM_fails tka tok m.1 m.2 3).1, (sp_EM_fails tka tok m.1 m.2 3).2)); if sp_EM_isGood x.1 = 0 then (va, tka, pos, tok, va, x.1, x.2) else (va, N.1, N.2.1, N.2.2.1, N.2.2.2, x.1, x.2)) := rfl
  rw [eA] at hA
  rw [eB, must_eq hT] at hB
  by_cases hk : kd = 2
  · subst hk
    have hv := tok_2v hT
    subst hv
    rw [if_pos rfl] at hA hB
    dsimp only at hB
    rw [good_0, if_neg (show ¬ (1 : Nat) = 0 by decide), cc_1 hc, pc_1 hp, fails_eq hT] at hB
    by_cases h0 : sp_E_4_indexOf_c vl fcn nc = 0
    · rw [if_pos h0] at hA hB
      by_cases h1 : sp_E_4_indexOf_p vl fpn np = 0
      · rw [if_pos h1] at hA hB
        rw [if_pos rfl] at hA
        dsimp only at hB
        rw [good_0, if_neg (by decide)] at hB
        simp only [Prod.mk.injEq] at hA hB
        obtain ⟨rfl, rfl, rfl⟩ := hA
        obtain ⟨rfl, rfl, rfl, rfl, rfl, rfl, rfl⟩ := hB
        exact Or.inr ⟨rfl, rfl, rfl, rfl, rfl, rfl, rfl⟩
      · rw [if_neg h1] at hA hB
        rw [if_neg (by decide)] at hA
        dsimp only at hB
        rw [good_n (fk_0 (by decide)), if_pos rfl] at hB
        simp only [Prod.mk.injEq] at hA hB
        obtain ⟨rfl, rfl, rfl⟩ := hA
        obtain ⟨rfl, rfl, rfl, rfl, rfl, rfl, rfl⟩ := hB
        exact Or.inl ⟨rfl, by decide, rfl, rfl⟩
    · rw [if_neg h0] at hA hB
      rw [if_neg (by decide)] at hA
      dsimp only at hB
      rw [good_n (fk_0 (by decide)), if_pos rfl] at hB
      simp only [Prod.mk.injEq] at hA hB
      obtain ⟨rfl, rfl, rfl⟩ := hA
      obtain ⟨rfl, rfl, rfl, rfl, rfl, rfl, rfl⟩ := hB
      exact Or.inl ⟨rfl, by decide, rfl, rfl⟩
  · rw [if_neg hk] at hA hB
    dsimp only at hB
    rw [good_n (fk_0 (by decide)), if_pos rfl] at hB
    dsimp only at hB
    rw [good_n (fk_0 (by decide)), if_pos rfl] at hB
    simp only [Prod.mk.injEq] at hA hB
    obtain ⟨rfl, rfl, rfl⟩ := hA
    obtain ⟨rfl, rfl, rfl, rfl, rfl, rfl, rfl⟩ := hB
    exact Or.inl ⟨rfl, fk_0 (by decide), rfl, rfl⟩
