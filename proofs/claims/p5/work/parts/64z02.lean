/-- the class's token and the reference's, read from the same place -/
theorem adv_next {f fw : Nat → Int32} (hw : ∀ i, i < 8 → fw i = WW i) (hf : ∀ i, f i ≠ -1) {len pos : Nat} (hl : len ≤ 900) (hp : pos ≤ len) (vl : Int32) {p k : Nat} {v a : Int32} {a' : Int32} {p' t' : Nat} {v' : Int32} (hA : sp_E_4_advance len pos vl f fw = (p, k, v, a)) (hB : sp_EM_next len pos f = (a', p', t', v')) :
    p' = p ∧ a' = a ∧ TokR k v t' v' ∧ p ≤ len ∧ (∃ g, a = nI g ∧ pos ≤ g ∧ g ≤ len ∧ (k = 1 → g = len ∧ p = len) ∧ (k ≠ 1 → g < p)) := by
  rw [advance_def] at hA
  rw [next_def, skip_same] at hB
  obtain ⟨h1, h2⟩ := skip_sp (len := len) (f := f) hp
  generalize itrv default (skipS len f) pos = g at hA hB h1 h2
  dsimp only at hA hB
  by_cases hg : g < len
  · rw [if_pos hg] at hA hB
    rw [if_neg (hf g)] at hB
    by_cases hs : sp_EM_isSmall (f g) = 0
    · rw [if_pos hs] at hB
      have hA' : (if f g < 48 then ((sp_E_4_scanSign g f).1, (sp_E_4_scanSign g f).2, vl, nI g) else if 57 < f g then ((sp_E_4_scanSign g f).1, (sp_E_4_scanSign g f).2, vl, nI g) else ((sp_E_4_scanNumber len g (nI g) f).1, (sp_E_4_scanNumber len g (nI g) f).2.1, (sp_E_4_scanNumber len g (nI g) f).2.2, nI g)) = (p, k, v, a) := by
        rcases small_0.mp hs with h | h
        · rw [if_pos h] at hA; exact hA
        · by_cases h9 : f g < 97
          · rw [if_pos h9] at hA; exact hA
          · rw [if_neg h9, if_pos h] at hA; exact hA
      clear hA
      by_cases hd : sp_EM_isDigit (f g) = 0
      · rw [if_pos hd] at hB
        have hA : ((sp_E_4_scanSign g f).1, (sp_E_4_scanSign g f).2, vl, nI g) = (p, k, v, a) := by
          rcases digit_0.mp hd with h | h
          · rw [if_pos h] at hA'; exact hA'
          · by_cases h9 : f g < 48
            · rw [if_pos h9] at hA'; exact hA'
            · rw [if_neg h9, if_pos h] at hA'; exact hA'
        have hA : (g + 1, (if f g = 59 then 7 else if f g = 60 then 4 else if f g = 61 then 5 else if f g = 62 then 6 else 0), vl, nI g) = (p, k, v, a) := hA
        obtain ⟨rfl, rfl, rfl, rfl⟩ : g + 1 = p ∧ (if f g = 59 then 7 else if f g = 60 then 4 else if f g = 61 then 5 else if f g = 62 then 6 else 0) = k ∧ vl = v ∧ nI g = a := by
          injection hA with e1 e2; injection e2 with e2 e3; injection e3 with e3 e4; exact ⟨e1, e2, e3, e4⟩
        have hB : (nI g, g + 1, (if f g = 60 then 3 else if f g = 61 then 3 else if f g = 62 then 3 else if f g = 59 then 3 else 4), f g) = (a', p', t', v') := by
          rw [← hB]
          by_cases e0 : f g = 60
          · simp only [if_pos e0]
          · by_cases e1 : f g = 61
            · simp only [if_neg e0, if_pos e1]
            · by_cases e2 : f g = 62
              · simp only [if_neg e0, if_neg e1, if_pos e2]
              · by_cases e3 : f g = 59
                · simp only [if_neg e0, if_neg e1, if_neg e2, if_pos e3]
                · simp only [if_neg e0, if_neg e1, if_neg e2, if_neg e3]
        injection hB with e1 e2; injection e2 with e2 e3; injection e3 with e3 e4
        subst e1 e2 e3 e4
        refine ⟨rfl, rfl, ?_, by omega, g, rfl, h1, h2, ?_, fun _ => by omega⟩
        · by_cases e0 : f g = 59
          · have n0 : ¬ f g = 60 := by rw [e0]; decide
            have n1 : ¬ f g = 61 := by rw [e0]; decide
            have n2 : ¬ f g = 62 := by rw [e0]; decide
            rw [if_pos e0, if_neg n0, if_neg n1, if_neg n2, if_pos e0]
            exact Or.inr (Or.inr (Or.inr (Or.inr (Or.inr (Or.inr (Or.inr (Or.inl ⟨rfl, rfl, e0⟩)))))))
          · rw [if_neg e0]
            by_cases e1 : f g = 60
            · rw [if_pos e1, if_pos e1]; exact Or.inr (Or.inr (Or.inr (Or.inr (Or.inl ⟨rfl, rfl, e1⟩))))
            · rw [if_neg e1, if_neg e1]
              by_cases e2 : f g = 61
              · rw [if_pos e2, if_pos e2]; exact Or.inr (Or.inr (Or.inr (Or.inr (Or.inr (Or.inl ⟨rfl, rfl, e2⟩)))))
              · rw [if_neg e2, if_neg e2]
                by_cases e3 : f g = 62
                · rw [if_pos e3, if_pos e3]; exact Or.inr (Or.inr (Or.inr (Or.inr (Or.inr (Or.inr (Or.inl ⟨rfl, rfl, e3⟩))))))
                · rw [if_neg e3, if_neg e3, if_neg e0]; exact Or.inl ⟨rfl, rfl⟩
        · intro z
          exfalso
          revert z
          split
          · decide
          · split
            · decide
            · split
              · decide
              · split <;> decide
      · have hn := fun h => hd (digit_0.mpr h)
        rw [if_neg (fun h => hn (Or.inl h)), if_neg (fun h => hn (Or.inr h)), scanNumber_def] at hA'
        rw [if_neg hd] at hB
        obtain ⟨q1, q2, q3, q4⟩ := num_sim hl f hg hd
        generalize itrv default (fxN len f) (g, 0) = x at hA' q1 q2 q3 q4
        generalize itrv default (fyN len f) (g, 0) = y at hB q1 q4
        obtain ⟨xp, xv⟩ := x
        obtain ⟨yp, yv⟩ := y
        obtain rfl : xp = yp := q1
        have q2 : g < xp := q2
        have q3 : xp ≤ len := q3
        have q4 : xp ≤ g + 3 → xv = yv := q4
        dsimp only at hA' hB
        rw [pk_sub (Nat.le_of_lt q2)] at hA' hB
        by_cases h3 : (3 : Int32) < nI (xp - g)
        · rw [if_pos h3] at hA' hB
          injection hA' with e1 e2; injection e2 with e2 e3; injection e3 with e3 e4
          injection hB with d1 d2; injection d2 with d2 d3; injection d3 with d3 d4
          subst e1 e2 e3 e4 d1 d2 d3 d4
          exact ⟨rfl, rfl, Or.inl ⟨rfl, rfl⟩, q3, g, rfl, h1, h2, fun z => by simp at z, fun _ => q2⟩
        · have hle : xp ≤ g + 3 := Nat.le_of_not_lt fun z => h3 (nI_lt (a := 3) (b := xp - g) (by omega) (by omega))
          rw [if_neg h3] at hA' hB
          by_cases hx : xp < len
          · rw [if_pos hx] at hB
            by_cases hm : sp_EM_isSmall (f xp) = 0
            · rw [if_pos hm] at hB
              have hz : (if len ≤ xp then 0 else if f xp < 97 then 0 else if 122 < f xp then 0 else 1) = 0 := by
                rw [if_neg (Nat.not_le.mpr hx)]
                by_cases h9 : f xp < 97
                · rw [if_pos h9]
                · rw [if_neg h9, if_pos ((small_0.mp hm).resolve_left h9)]
              rw [if_pos hz] at hA'
              injection hA' with e1 e2; injection e2 with e2 e3; injection e3 with e3 e4
              injection hB with d1 d2; injection d2 with d2 d3; injection d3 with d3 d4
              subst e1 e2 e3 e4 d1 d2 d3 d4
              exact ⟨rfl, rfl, Or.inr (Or.inr (Or.inr (Or.inl ⟨rfl, rfl, q4 hle⟩))), q3, g, rfl, h1, h2, fun z => by simp at z, fun _ => q2⟩
            · rw [if_neg hm] at hB
              have hnm := fun h => hm (small_0.mpr h)
              have hz : ¬ (if len ≤ xp then 0 else if f xp < 97 then 0 else if 122 < f xp then 0 else 1) = 0 := by
                rw [if_neg (Nat.not_le.mpr hx), if_neg (fun h => hnm (Or.inl h)), if_neg (fun h => hnm (Or.inr h))]; decide
              rw [if_neg hz] at hA'
              injection hA' with e1 e2; injection e2 with e2 e3; injection e3 with e3 e4
              injection hB with d1 d2; injection d2 with d2 d3; injection d3 with d3 d4
              subst e1 e2 e3 e4 d1 d2 d3 d4
              exact ⟨rfl, rfl, Or.inl ⟨rfl, rfl⟩, q3, g, rfl, h1, h2, fun z => by simp at z, fun _ => q2⟩
          · rw [if_neg hx] at hB
            have hz : (if len ≤ xp then 0 else if f xp < 97 then 0 else if 122 < f xp then 0 else 1) = 0 := by rw [if_pos (Nat.not_lt.mp hx)]
            rw [if_pos hz] at hA'
            injection hA' with e1 e2; injection e2 with e2 e3; injection e3 with e3 e4
            injection hB with d1 d2; injection d2 with d2 d3; injection d3 with d3 d4
            subst e1 e2 e3 e4 d1 d2 d3 d4
            exact ⟨rfl, rfl, Or.inr (Or.inr (Or.inr (Or.inl ⟨rfl, rfl, q4 hle⟩))), q3, g, rfl, h1, h2, fun z => by simp at z, fun _ => q2⟩
    · have hn := fun h => hs (small_0.mpr h)
      rw [if_neg (fun h => hn (Or.inl h)), if_neg (fun h => hn (Or.inr h)), scanWord_def] at hA
      rw [if_neg hs] at hB
      obtain ⟨q1, q2, q3, q4⟩ := word_sim hl f hg hs
      generalize itrv default (fxW len f) (g, 0) = x at hA q1 q2 q3 q4
      generalize itrv default (fyW len f g) (g, 0) = y at hB q1 q4
      obtain ⟨xp, xv⟩ := x
      obtain ⟨yp, yv⟩ := y
      obtain rfl : xp = yp := q1
      have q2 : g < xp := q2
      have q3 : xp ≤ len := q3
      have q4 : xp ≤ g + 6 → xv = yv := q4
      dsimp only at hA hB
      rw [pk_sub (Nat.le_of_lt q2)] at hA hB
      by_cases h6 : nI (xp - g) ≤ (6 : Int32)
      · have hle : xp ≤ g + 6 := by have := (nI_leI (a := xp - g) (b := 6) (by omega) (by omega)).mp h6; omega
        have e6 := q4 hle
        subst e6
        rw [if_pos h6] at hA hB
        obtain ⟨kk, ek, hk⟩ := kept_sp hw xp xv
        rw [ek] at hA
        injection hA with e1 e2; injection e2 with e2 e3; injection e3 with e3 e4
        injection hB with d1 d2; injection d2 with d2 d3; injection d3 with d3 d4
        subst e1 e2 e3 e4 d1 d2 d3 d4
        refine ⟨rfl, rfl, ?_, q3, g, rfl, h1, h2, ?_, fun _ => q2⟩
        · rcases hk with ⟨rfl, h⟩ | ⟨w, hw1, hw2, hw3⟩
          · exact Or.inr (Or.inr (Or.inl ⟨rfl, rfl, rfl, h⟩))
          · exact Or.inr (Or.inr (Or.inr (Or.inr (Or.inr (Or.inr (Or.inr (Or.inr ⟨w, hw1, hw2, rfl, hw3⟩)))))))
        · intro z
          rcases hk with ⟨rfl, h⟩ | ⟨w, hw1, hw2, hw3⟩
          · simp at z
          · have z : kk = 1 := z
            omega
      · rw [if_neg h6] at hA hB
        rw [itrv_inr (show fxK fw xp xv (0, 0) = .inr (xp, 0, xv) by unfold fxK; simp only [if_neg (show ¬ 8 ≤ 0 by decide), if_neg (show ¬ 0 = 2 by decide)])] at hA
        injection hA with e1 e2; injection e2 with e2 e3; injection e3 with e3 e4
        injection hB with d1 d2; injection d2 with d2 d3; injection d3 with d3 d4
        subst e1 e2 e3 e4 d1 d2 d3 d4
        exact ⟨rfl, rfl, Or.inl ⟨rfl, rfl⟩, q3, g, rfl, h1, h2, fun z => by simp at z, fun _ => q2⟩
  · rw [if_neg hg] at hA hB
    injection hA with e1 e2; injection e2 with e2 e3; injection e3 with e3 e4
    injection hB with d1 d2; injection d2 with d2 d3; injection d3 with d3 d4
    subst e1 e2 e3 e4 d1 d2 d3 d4
    exact ⟨rfl, rfl, Or.inr (Or.inl ⟨rfl, rfl⟩), h2, g, rfl, h1, h2, fun _ => ⟨by omega, by omega⟩, fun z => absurd rfl z⟩
