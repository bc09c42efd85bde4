def fxW (len : Nat) (f : Nat → Int32) : Nat × Int32 → (Nat × Int32) ⊕ (Nat × Int32) := fun (p, v) => if len ≤ p then .inr (p, v) else if f p < 97 then .inr (p, v) else if 122 < f p then .inr (p, v) else .inl (p + 1, v * 32 + f p - 97 + 1)
def fxN (len : Nat) (f : Nat → Int32) : Nat × Int32 → (Nat × Int32) ⊕ (Nat × Int32) := fun (p, v) => if len ≤ p then .inr (p, v) else if f p < 48 then .inr (p, v) else if 57 < f p then .inr (p, v) else .inl (p + 1, v * 10 + f p - 48)
def fxK (fw : Nat → Int32) (p : Nat) (v : Int32) : Nat × Nat → (Nat × Nat) ⊕ (Nat × Nat × Int32) := fun (k, w) => if 8 ≤ w then .inr (p, k, v) else if k = 2 then .inl ((if fw w = v then 8 + w else k), w + 1) else .inr (p, k, v)
theorem scanWord_def (len pos : Nat) (tka : Int32) (f fw : Nat → Int32) : sp_E_4_scanWord len pos tka f fw = itrv default (fxK fw (itrv default (fxW len f) (pos, 0)).1 (itrv default (fxW len f) (pos, 0)).2) ((if nI (itrv default (fxW len f) (pos, 0)).1 - tka ≤ 6 then 2 else 0), 0) := rfl
theorem scanNumber_def (len pos : Nat) (tka : Int32) (f : Nat → Int32) : sp_E_4_scanNumber len pos tka f = (let a := itrv default (fxN len f) (pos, 0); let l := if len ≤ a.1 then 0 else if f a.1 < 97 then 0 else if 122 < f a.1 then 0 else 1; if 3 < nI a.1 - tka then (a.1, 0, a.2) else if l = 0 then (a.1, 3, a.2) else (a.1, 0, a.2)) := rfl
theorem advance_def (len pos : Nat) (vl : Int32) (f fw : Nat → Int32) : sp_E_4_advance len pos vl f fw = (let g := itrv default (skipS len f) pos; if g < len then
    (if f g < 97 then (if f g < 48 then ((sp_E_4_scanSign g f).1, (sp_E_4_scanSign g f).2, vl, nI g) else if 57 < f g then ((sp_E_4_scanSign g f).1, (sp_E_4_scanSign g f).2, vl, nI g) else ((sp_E_4_scanNumber len g (nI g) f).1, (sp_E_4_scanNumber len g (nI g) f).2.1, (sp_E_4_scanNumber len g (nI g) f).2.2, nI g))
     else if 122 < f g then (if f g < 48 then ((sp_E_4_scanSign g f).1, (sp_E_4_scanSign g f).2, vl, nI g) else if 57 < f g then ((sp_E_4_scanSign g f).1, (sp_E_4_scanSign g f).2, vl, nI g) else ((sp_E_4_scanNumber len g (nI g) f).1, (sp_E_4_scanNumber len g (nI g) f).2.1, (sp_E_4_scanNumber len g (nI g) f).2.2, nI g))
     else ((sp_E_4_scanWord len g (nI g) f fw).1, (sp_E_4_scanWord len g (nI g) f fw).2.1, (sp_E_4_scanWord len g (nI g) f fw).2.2, nI g)) else (g, 1, vl, nI g)) := rfl
/-- the reference's loops -/
noncomputable def fyW (len : Nat) (f : Nat → Int32) (at_ : Nat) : Nat × Int32 → (Nat × Int32) ⊕ (Nat × Int32) := fun (p, v) => if p < len then (if sp_EM_isSmall (f p) = 0 then .inr (p, v) else .inl (p + 1, if 6 ≤ nI p - nI at_ then -1 else if p < len then v * 32 + f p - 96 else v * 32 + (-1) - 96)) else .inr (p, v)
noncomputable def fyN (len : Nat) (f : Nat → Int32) : Nat × Int32 → (Nat × Int32) ⊕ (Nat × Int32) := fun (p, v) => if p < len then (if sp_EM_isDigit (f p) = 0 then .inr (p, v) else if p < len then .inl (p + 1, sp_EM_lesser 10000 (v * 10 + f p - 48)) else .inl (p + 1, sp_EM_lesser 10000 (v * 10 + (-1) - 48))) else .inr (p, v)
def fyS (len : Nat) (f : Nat → Int32) (g : Nat) : Nat ⊕ Nat := if g < len then (if f g = 32 then .inl (g + 1) else if g < len then (if f g = 10 then .inl (g + 1) else .inr g) else .inr g) else if g < len then (if f g = 10 then .inl (g + 1) else .inr g) else .inr g
theorem next_def (len pos : Nat) (f : Nat → Int32) : sp_EM_next len pos f = (let g := itrv default (fyS len f) pos; if g < len then
    (if f g = -1 then (nI g, g, 0, 0) else if sp_EM_isSmall (f g) = 0 then
      (if sp_EM_isDigit (f g) = 0 then (if f g = 60 then (nI g, g + 1, 3, f g) else if f g = 61 then (nI g, g + 1, 3, f g) else if f g = 62 then (nI g, g + 1, 3, f g) else if f g = 59 then (nI g, g + 1, 3, f g) else (nI g, g + 1, 4, f g))
       else (let a := itrv default (fyN len f) (g, 0); if 3 < nI a.1 - nI g then (nI g, a.1, 4, a.2) else if a.1 < len then (if sp_EM_isSmall (f a.1) = 0 then (nI g, a.1, 2, a.2) else (nI g, a.1, 4, a.2)) else (nI g, a.1, 2, a.2)))
     else (let a := itrv default (fyW len f g) (g, 0); if nI a.1 - nI g ≤ 6 then (nI g, a.1, 1, a.2) else (nI g, a.1, 4, a.2))) else (nI g, g, 0, 0)) := rfl
theorem skip_same (len : Nat) (f : Nat → Int32) : fyS len f = skipS len f := by
  funext g
  unfold fyS skipS
  by_cases h : g < len
  · rw [if_pos h, if_neg (Nat.not_le.mpr h), if_pos h]
  · rw [if_neg h, if_neg h, if_pos (Nat.not_lt.mp h)]
theorem small_0 {x : Int32} : sp_EM_isSmall x = 0 ↔ (x < 97 ∨ 122 < x) := by
  unfold sp_EM_isSmall
  by_cases h : x < 97
  · rw [if_pos h]; exact ⟨fun _ => Or.inl h, fun _ => rfl⟩
  · rw [if_neg h]
    by_cases g : 122 < x
    · rw [if_pos g]; exact ⟨fun _ => Or.inr g, fun _ => rfl⟩
    · rw [if_neg g]; exact ⟨fun e => absurd e (by decide), fun e => (e.elim h g).elim⟩
theorem digit_0 {x : Int32} : sp_EM_isDigit x = 0 ↔ (x < 48 ∨ 57 < x) := by
  unfold sp_EM_isDigit
  by_cases h : x < 48
  · rw [if_pos h]; exact ⟨fun _ => Or.inl h, fun _ => rfl⟩
  · rw [if_neg h]
    by_cases g : 57 < x
    · rw [if_pos g]; exact ⟨fun _ => Or.inr g, fun _ => rfl⟩
    · rw [if_neg g]; exact ⟨fun e => absurd e (by decide), fun e => (e.elim h g).elim⟩
theorem i_97 (x : Int32) : x - 97 + 1 = x - 96 := by
  rw [Int32.sub_eq_add_neg, Int32.sub_eq_add_neg, Int32.add_assoc]
  rfl
/-- words: both go as far; up to six letters they are the same number -/
theorem word_sim {len : Nat} (hl : len ≤ 900) (f : Nat → Int32) {g : Nat} (hg : g < len) (hs : ¬ sp_EM_isSmall (f g) = 0) :
    (itrv default (fxW len f) (g, 0)).1 = (itrv default (fyW len f g) (g, 0)).1 ∧ g < (itrv default (fxW len f) (g, 0)).1 ∧ (itrv default (fxW len f) (g, 0)).1 ≤ len ∧ ((itrv default (fxW len f) (g, 0)).1 ≤ g + 6 → (itrv default (fxW len f) (g, 0)).2 = (itrv default (fyW len f g) (g, 0)).2) := by
  refine itrv_sim (d := default) (d' := default) (f := fxW len f) (g := fyW len f g) (fun t t' => t.1 = t'.1 ∧ g ≤ t.1 ∧ t.1 ≤ len ∧ (t.1 ≤ g + 6 → t.2 = t'.2)) (fun t t' => t.1 = t'.1 ∧ g < t.1 ∧ t.1 ≤ len ∧ (t.1 ≤ g + 6 → t.2 = t'.2)) (fun t => len - t.1) ?_ len (g, 0) (g, 0) (by show len - g ≤ len; omega) ⟨rfl, Nat.le_refl _, Nat.le_of_lt hg, fun _ => rfl⟩
  rintro ⟨p, v⟩ ⟨p', v'⟩ ⟨rfl, h1, h2, h3⟩
  have h1 : g ≤ p := h1
  have h2 : p ≤ len := h2
  have h3 : p ≤ g + 6 → v = v' := h3
  have out : ∀ (hx : fxW len f (p, v) = .inr (p, v)) (hy : fyW len f g (p, v') = .inr (p, v')), g < p → (∃ u u', fxW len f (p, v) = .inl u ∧ fyW len f g (p, v') = .inl u' ∧ (u.1 = u'.1 ∧ g ≤ u.1 ∧ u.1 ≤ len ∧ (u.1 ≤ g + 6 → u.2 = u'.2)) ∧ len - u.1 < len - p) ∨ (∃ b, fxW len f (p, v) = .inr b ∧ (b.1 = (itrv default (fyW len f g) (p, v')).1 ∧ g < b.1 ∧ b.1 ≤ len ∧ (b.1 ≤ g + 6 → b.2 = (itrv default (fyW len f g) (p, v')).2))) := by
    intro hx hy hgp
    refine Or.inr ⟨(p, v), hx, ?_⟩
    rw [itrv_inr hy]
    exact ⟨rfl, hgp, h2, h3⟩
  by_cases hp : p < len
  · by_cases hs' : sp_EM_isSmall (f p) = 0
    · refine out ?_ ?_ ?_
      · unfold fxW
        rcases small_0.mp hs' with h | h
        · simp only [if_neg (Nat.not_le.mpr hp), if_pos h]
        · by_cases h9 : f p < 97
          · simp only [if_neg (Nat.not_le.mpr hp), if_pos h9]
          · simp only [if_neg (Nat.not_le.mpr hp), if_neg h9, if_pos h]
      · unfold fyW
        simp only [if_pos hp, if_pos hs']
      · rcases Nat.lt_or_eq_of_le h1 with h | h
        · exact h
        · subst h; exact absurd hs' hs
    · have hn := fun h => hs' (small_0.mpr h)
      refine Or.inl ⟨(p + 1, v * 32 + f p - 97 + 1), (p + 1, if 6 ≤ nI p - nI g then -1 else if p < len then v' * 32 + f p - 96 else v' * 32 + (-1) - 96), ?_, ?_, ⟨rfl, ?_, ?_, ?_⟩, ?_⟩
      · unfold fxW
        simp only [if_neg (Nat.not_le.mpr hp), if_neg (fun h => hn (Or.inl h)), if_neg (fun h => hn (Or.inr h))]
      · unfold fyW
        simp only [if_pos hp, if_neg hs']
      · show g ≤ p + 1; omega
      · show p + 1 ≤ len; omega
      · intro h6
        have h6 : p + 1 ≤ g + 6 := h6
        show v * 32 + f p - 97 + 1 = (if 6 ≤ nI p - nI g then -1 else if p < len then v' * 32 + f p - 96 else v' * 32 + (-1) - 96)
        rw [pk_sub h1, if_neg (fun z => by have := (nI_leI (a := 6) (b := p - g) (by omega) (by omega)).mp z; omega), if_pos hp, i_97, h3 (by omega)]
      · show len - (p + 1) < len - p; omega
  · refine out ?_ ?_ ?_
    · unfold fxW
      simp only [if_pos (Nat.not_lt.mp hp)]
    · unfold fyW
      simp only [if_neg hp]
    · rcases Nat.lt_or_eq_of_le h1 with h | h
      · exact h
      · subst h; exact absurd hg hp
theorem num_step {m : Nat} {x : Int32} (hm : m ≤ 99) (h0 : ¬ x < 48) (h9 : ¬ 57 < x) : ∃ k : Nat, k ≤ 10 * m + 9 ∧ nI m * 10 + x - 48 = nI k := by
  obtain ⟨q, hq, rfl⟩ := pu_ule (x := x) (b := 57) (by decide) (fun z => h0 (Int32.lt_trans z (by decide))) (Int32.not_lt.mp h9)
  have hq2 : 48 ≤ q := Nat.le_of_not_lt fun z => h0 (nI_lt (a := q) (b := 48) z (by decide))
  refine ⟨m * 10 + q - 48, by omega, ?_⟩
  have e1 : nI m * 10 = nI (m * 10) := pk_mul m 10
  have e2 : nI (m * 10 + q) - 48 = nI (m * 10 + q - 48) := pk_sub (a := m * 10 + q) (b := 48) (by omega)
  rw [e1, nI_add, e2]
def p10 (k : Nat) : Nat := if k = 0 then 0 else if k = 1 then 9 else if k = 2 then 99 else 999
/-- numbers: both go as far; up to three digits they are the same -/
theorem num_sim {len : Nat} (hl : len ≤ 900) (f : Nat → Int32) {g : Nat} (hg : g < len) (hs : ¬ sp_EM_isDigit (f g) = 0) :
    (itrv default (fxN len f) (g, 0)).1 = (itrv default (fyN len f) (g, 0)).1 ∧ g < (itrv default (fxN len f) (g, 0)).1 ∧ (itrv default (fxN len f) (g, 0)).1 ≤ len ∧ ((itrv default (fxN len f) (g, 0)).1 ≤ g + 3 → (itrv default (fxN len f) (g, 0)).2 = (itrv default (fyN len f) (g, 0)).2) := by
  refine itrv_sim (d := default) (d' := default) (f := fxN len f) (g := fyN len f) (fun t t' => t.1 = t'.1 ∧ g ≤ t.1 ∧ t.1 ≤ len ∧ (t.1 ≤ g + 3 → t.2 = t'.2 ∧ ∃ m : Nat, m ≤ p10 (t.1 - g) ∧ t.2 = nI m)) (fun t t' => t.1 = t'.1 ∧ g < t.1 ∧ t.1 ≤ len ∧ (t.1 ≤ g + 3 → t.2 = t'.2)) (fun t => len - t.1) ?_ len (g, 0) (g, 0) (by show len - g ≤ len; omega) ⟨rfl, Nat.le_refl _, Nat.le_of_lt hg, fun _ => ⟨rfl, 0, Nat.zero_le _, rfl⟩⟩
  rintro ⟨p, v⟩ ⟨p', v'⟩ ⟨rfl, h1, h2, h3⟩
  have h1 : g ≤ p := h1
  have h2 : p ≤ len := h2
  have h3 : p ≤ g + 3 → v = v' ∧ ∃ m : Nat, m ≤ p10 (p - g) ∧ v = nI m := h3
  by_cases hp : p < len
  · by_cases hs' : sp_EM_isDigit (f p) = 0
    · refine Or.inr ⟨(p, v), ?_, ?_⟩
      · unfold fxN
        by_cases h9 : f p < 48
        · simp only [if_neg (Nat.not_le.mpr hp), if_pos h9]
        · simp only [if_neg (Nat.not_le.mpr hp), if_neg h9, if_pos ((digit_0.mp hs').resolve_left h9)]
      · rw [itrv_inr (show fyN len f (p, v') = .inr (p, v') by unfold fyN; simp only [if_pos hp, if_pos hs'])]
        refine ⟨rfl, ?_, h2, fun z => (h3 z).1⟩
        rcases Nat.lt_or_eq_of_le h1 with h | h
        · exact h
        · subst h; exact absurd hs' hs
    · have hn := fun h => hs' (digit_0.mpr h)
      refine Or.inl ⟨(p + 1, v * 10 + f p - 48), (p + 1, sp_EM_lesser 10000 (v' * 10 + f p - 48)), ?_, ?_, ⟨rfl, ?_, ?_, ?_⟩, ?_⟩
      · unfold fxN
        simp only [if_neg (Nat.not_le.mpr hp), if_neg (fun h => hn (Or.inl h)), if_neg (fun h => hn (Or.inr h))]
      · unfold fyN
        simp only [if_pos hp, if_neg hs']
      · show g ≤ p + 1; omega
      · show p + 1 ≤ len; omega
      · intro h6
        have h6 : p + 1 ≤ g + 3 := h6
        obtain ⟨e, m, hm, rfl⟩ := h3 (by omega)
        subst e
        have hm9 : m ≤ 99 ∧ 10 * m + 9 ≤ p10 (p + 1 - g) := by
          have : p - g = 0 ∨ p - g = 1 ∨ p - g = 2 := by omega
          rcases this with h | h | h <;> rw [h] at hm
          · have : p + 1 - g = 1 := by omega
            rw [this]; have : m ≤ 0 := hm; exact ⟨by omega, by show 10 * m + 9 ≤ 9; omega⟩
          · have : p + 1 - g = 2 := by omega
            rw [this]; have : m ≤ 9 := hm; exact ⟨by omega, by show 10 * m + 9 ≤ 99; omega⟩
          · have : p + 1 - g = 3 := by omega
            rw [this]; have : m ≤ 99 := hm; exact ⟨by omega, by show 10 * m + 9 ≤ 999; omega⟩
        obtain ⟨k, hk, ek⟩ := num_step hm9.1 (fun h => hn (Or.inl h)) (fun h => hn (Or.inr h))
        show nI m * 10 + f p - 48 = sp_EM_lesser 10000 (nI m * 10 + f p - 48) ∧ ∃ m_1 : Nat, m_1 ≤ p10 (p + 1 - g) ∧ nI m * 10 + f p - 48 = nI m_1
        rw [ek]
        refine ⟨?_, k, Nat.le_trans hk hm9.2, rfl⟩
        unfold sp_EM_lesser
        have hz : nI k ≤ 10000 := nI_le (a := k) (b := 10000) (by omega) (by omega)
        rw [if_pos hz]
      · show len - (p + 1) < len - p; omega
  · refine Or.inr ⟨(p, v), ?_, ?_⟩
    · unfold fxN
      simp only [if_pos (Nat.not_lt.mp hp)]
    · rw [itrv_inr (show fyN len f (p, v') = .inr (p, v') by unfold fyN; simp only [if_neg hp])]
      refine ⟨rfl, ?_, h2, fun z => (h3 z).1⟩
      rcases Nat.lt_or_eq_of_le h1 with h | h
      · exact h
      · subst h; exact absurd hg hp
/-- a word beside the table -/
theorem kept_sp {fw : Nat → Int32} (hw : ∀ i, i < 8 → fw i = WW i) (p : Nat) (v : Int32) : ∃ k, itrv default (fxK fw p v) (2, 0) = (p, k, v) ∧ ((k = 2 ∧ ¬ isW v) ∨ ∃ w, w < 8 ∧ k = 8 + w ∧ v = WW w) := by
  refine itrv_inv (d := default) (f := fxK fw p v) (fun t => t.2 ≤ 8 ∧ ((t.1 = 2 ∧ ∀ i, i < t.2 → v ≠ WW i) ∨ ∃ w, w < 8 ∧ t.1 = 8 + w ∧ v = WW w)) (fun b => ∃ k, b = (p, k, v) ∧ ((k = 2 ∧ ¬ isW v) ∨ ∃ w, w < 8 ∧ k = 8 + w ∧ v = WW w)) (fun t => 8 - t.2) ?_ 8 (2, 0) (by show 8 - 0 ≤ 8; omega) ⟨Nat.zero_le _, Or.inl ⟨rfl, fun i h => absurd h (Nat.not_lt_zero i)⟩⟩
  rintro ⟨k, w⟩ ⟨h1, h2⟩
  have h1 : w ≤ 8 := h1
  have h2 : (k = 2 ∧ ∀ i, i < w → v ≠ WW i) ∨ ∃ w, w < 8 ∧ k = 8 + w ∧ v = WW w := h2
  by_cases h8 : 8 ≤ w
  · refine Or.inr ⟨(p, k, v), by unfold fxK; simp only [if_pos h8], k, rfl, ?_⟩
    rcases h2 with ⟨a, b⟩ | h
    · exact Or.inl ⟨a, fun ⟨i, hi, e⟩ => b i (by omega) e⟩
    · exact Or.inr h
  · by_cases hk : k = 2
    · refine Or.inl ⟨((if fw w = v then 8 + w else k), w + 1), by unfold fxK; simp only [if_neg h8, if_pos hk], ⟨by show w + 1 ≤ 8; omega, ?_⟩, by show 8 - (w + 1) < 8 - w; omega⟩
      show ((if fw w = v then 8 + w else k) = 2 ∧ ∀ i, i < w + 1 → v ≠ WW i) ∨ ∃ w_1, w_1 < 8 ∧ (if fw w = v then 8 + w else k) = 8 + w_1 ∧ v = WW w_1
      by_cases e : fw w = v
      · rw [if_pos e]; exact Or.inr ⟨w, by omega, rfl, by rw [← e, hw w (by omega)]⟩
      · rw [if_neg e]
        rcases h2 with ⟨a, b⟩ | ⟨x, hx, ex, _⟩
        · refine Or.inl ⟨a, fun i hi => ?_⟩
          rcases Nat.lt_or_eq_of_le (Nat.le_of_lt_succ hi) with h | rfl
          · exact b i h
          · intro z; exact e (by rw [hw i (by omega)]; exact z.symm)
        · omega
    · refine Or.inr ⟨(p, k, v), by unfold fxK; simp only [if_neg h8, if_neg hk], k, rfl, ?_⟩
      rcases h2 with ⟨a, b⟩ | h
      · exact absurd a hk
      · exact Or.inr h
