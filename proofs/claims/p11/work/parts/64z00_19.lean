/-- two loops side by side: they go on together, or the first is out and the second's end is as it should be -/
theorem itrv_sim {α β α' β' : Type} {d : β} {d' : β'} {f : α → α ⊕ β} {g : α' → α' ⊕ β'} (R : α → α' → Prop) (Q : β → β' → Prop) (M : α → Nat)
    (hs : ∀ t t', R t t' → (∃ u u', f t = .inl u ∧ g t' = .inl u' ∧ R u u' ∧ M u < M t) ∨ (∃ b, f t = .inr b ∧ Q b (itrv d' g t'))) :
    ∀ (n : Nat) (t : α) (t' : α'), M t ≤ n → R t t' → Q (itrv d f t) (itrv d' g t') := by
  intro n
  induction n with
  | zero =>
    intro t t' hm h
    rcases hs t t' h with ⟨u, u', e1, e2, hr, hl⟩ | ⟨b, e1, hq⟩
    · omega
    · rw [itrv_inr e1]; exact hq
  | succ n ih =>
    intro t t' hm h
    rcases hs t t' h with ⟨u, u', e1, e2, hr, hl⟩ | ⟨b, e1, hq⟩
    · rw [itrv_inl e1, itrv_inl e2]; exact ih u u' (by omega) hr
    · rw [itrv_inr e1]; exact hq
/-- one loop and what holds of it -/
theorem itrv_inv {α β : Type} {d : β} {f : α → α ⊕ β} (R : α → Prop) (Q : β → Prop) (M : α → Nat)
    (hs : ∀ t, R t → (∃ u, f t = .inl u ∧ R u ∧ M u < M t) ∨ (∃ b, f t = .inr b ∧ Q b)) : ∀ (n : Nat) (t : α), M t ≤ n → R t → Q (itrv d f t) := by
  intro n
  induction n with
  | zero =>
    intro t hm h
    rcases hs t h with ⟨u, e1, hr, hl⟩ | ⟨b, e1, hq⟩
    · omega
    · rw [itrv_inr e1]; exact hq
  | succ n ih =>
    intro t hm h
    rcases hs t h with ⟨u, e1, hr, hl⟩ | ⟨b, e1, hq⟩
    · rw [itrv_inl e1]; exact ih u (by omega) hr
    · rw [itrv_inr e1]; exact hq
/-- the words that are no names -/
def WW (i : Nat) : Int32 := if i = 0 then 3554411 else if i = 1 then 17171557 else if i = 2 then 723752404 else if i = 3 then 22499628 else if i = 4 then 20579924 else if i = 5 then 168165 else if i = 6 then 762030 else 19057844
def isW (v : Int32) : Prop := ∃ i, i < 8 ∧ v = WW i
/-- the same token: of the class (kind, value), of the reference (token, value) -/
def TokR (kd : Nat) (vl : Int32) (tk : Nat) (va : Int32) : Prop :=
  (kd = 0 ∧ tk = 4) ∨ (kd = 1 ∧ tk = 0) ∨ (kd = 2 ∧ tk = 1 ∧ vl = va ∧ ¬ isW va) ∨ (kd = 3 ∧ tk = 2 ∧ vl = va) ∨ (kd = 4 ∧ tk = 3 ∧ va = 60) ∨ (kd = 5 ∧ tk = 3 ∧ va = 61) ∨ (kd = 6 ∧ tk = 3 ∧ va = 62) ∨ (kd = 7 ∧ tk = 3 ∧ va = 59) ∨ (∃ w, w < 8 ∧ kd = 8 + w ∧ tk = 1 ∧ va = WW w)
/-- a loop of the class that goes past blanks -/
def skipS (len : Nat) (f : Nat → Int32) (g : Nat) : Nat ⊕ Nat := if len ≤ g then .inr g else if f g = 32 then .inl (g + 1) else if f g = 10 then .inl (g + 1) else .inr g
theorem skip_sp {len : Nat} {f : Nat → Int32} {p : Nat} (hp : p ≤ len) : p ≤ itrv default (skipS len f) p ∧ itrv default (skipS len f) p ≤ len := by
  refine itrv_inv (d := default) (f := skipS len f) (fun q => p ≤ q ∧ q ≤ len) (fun q => p ≤ q ∧ q ≤ len) (fun q => len - q) ?_ len p (by omega) ⟨Nat.le_refl _, hp⟩
  intro q hq
  unfold skipS
  by_cases h : len ≤ q
  · rw [if_pos h]; exact Or.inr ⟨q, rfl, hq⟩
  · rw [if_neg h]
    by_cases h1 : f q = 32
    · rw [if_pos h1]; exact Or.inl ⟨q + 1, rfl, by omega, by omega⟩
    · rw [if_neg h1]
      by_cases h2 : f q = 10
      · rw [if_pos h2]; exact Or.inl ⟨q + 1, rfl, by omega, by omega⟩
      · rw [if_neg h2]; exact Or.inr ⟨q, rfl, hq⟩
def fxW (len : Nat) (f : Nat → Int32) : Nat × Int32 → (Nat × Int32) ⊕ (Nat × Int32) := fun (p, v) => if len ≤ p then .inr (p, v) else if f p < 97 then .inr (p, v) else if 122 < f p then .inr (p, v) else .inl (p + 1, v * 32 + f p - 97 + 1)
def fxN (len : Nat) (f : Nat → Int32) : Nat × Int32 → (Nat × Int32) ⊕ (Nat × Int32) := fun (p, v) => if len ≤ p then .inr (p, v) else if f p < 48 then .inr (p, v) else if 57 < f p then .inr (p, v) else .inl (p + 1, v * 10 + f p - 48)
def fxK (fw : Nat → Int32) (p : Nat) (v : Int32) : Nat × Nat → (Nat × Nat) ⊕ (Nat × Nat × Int32) := fun (k, w) => if 8 ≤ w then .inr (p, k, v) else if k = 2 then .inl ((if fw w = v then 8 + w else k), w + 1) else .inr (p, k, v)
theorem scanWord_def (len pos : Nat) (tka : Int32) (f fw : Nat → Int32) : sp_E_4_scanWord len pos tka f fw = itrv default (fxK fw (itrv default (fxW len f) (pos, 0)).1 (itrv default (fxW len f) (pos, 0)).2) ((if nI (itrv default (fxW len f) (pos, 0)).1 - tka ≤ 6 then 2 else 0), 0) := rfl
theorem scanNumber_def (len pos : Nat) (tka : Int32) (f : Nat → Int32) : sp_E_4_scanNumber len pos tka f = (let a := itrv default (fxN len f) (pos, 0); let l := if len ≤ a.1 then 0 else if f a.1 < 97 then 0 else if 122 < f a.1 then 0 else 1; if 3 < nI a.1 - tka then (a.1, 0, a.2) else if l = 0 then (a.1, 3, a.2) else (a.1, 0, a.2)) := rfl
theorem advance_def (len pos : Nat) (vl : Int32) (f fw : Nat → Int32) : sp_E_4_advance len pos vl f fw = (let g := itrv default (skipS len f) pos; if g < len then
    (if f g < 97 then (if f g < 48 then ((sp_E_4_scanSign g f).1, (sp_E_4_scanSign g f).2, vl, nI g) else if 57 < f g then ((sp_E_4_scanSign g f).1, (sp_E_4_scanSign g f).2, vl, nI g) else ((sp_E_4_scanNumber len g (nI g) f).1, (sp_E_4_scanNumber len g (nI g) f).2.1, (sp_E_4_scanNumber len g (nI g) f).2.2, nI g))
     else if 122 < f g then (if f g < 48 then ((sp_E_4_scanSign g f).1, (sp_E_4_scanSign g f).2, vl, nI g) else if 57 < f g then ((sp_E_4_scanSign g f).1, (sp_E_4_scanSign g f).2, vl, nI g) else ((sp_E_4_scanNumber len g (nI g) f).1, (sp_E_4_scanNumber len g (nI g) f).2.1, (sp_E_4_scanNumber len g (nI g) f).2.2, nI g))
     else ((sp_E_4_scanWord len g (nI g) f fw).1, (sp_E_4_scanWord len g (nI g) f fw).2.1, (sp_E_4_scanWord len g (nI g) f fw).2.2, nI g)) else (g, 1, vl, nI g)) := rfl
/-- the reference's loops -/
noncomputable def fyW (len : Nat) (f : Nat → Int32) (at_ : Nat) : Nat × Int32 → (Nat × Int32) ⊕ (Nat × Int32) := fun (p, v) => if p < len then (if sp_EM_isSmall (f p) = 0 then .inr (p, v) else .inl (p + 1, if 6 ≤ nI p - nI at_ then -1 else if p < len then v * 32 + f p - 96 else v * 32 + (-1) - 96)) else .inr (p, v)
noncomputable def fyN (len : Nat) (f : Nat → Int32) : Nat × Int32 → (Nat × Int32) ⊕ (Nat × Int32) := fun (p, v) => if p < len then (if sp_EM_isDigit (f p) = 0 then .inr (p, v) else if p < len then .inl (p + 1, sp_EM_lesser 10000 (v * 10 + f p - 48)) else .inl (p + 1, sp_EM_lesser 10000 (v * 10 + (-1) - 48))) else .inr (p, v)
def fyS (len : Nat) (f : Nat → Int32) (g : Nat) : Nat ⊕ Nat := if g < len then (if f g = 32 then .inl (g + 1) else if g < len then (if f g = 10 then .inl (g + 1) else .inr g) else .inr g) else if g < len then (if f g = 10 then .inl (g + 1) else .inr g) else .inr g
theorem next_def (len pos : Nat) (f : Nat → Int32) : sp_EM_next len pos f = (let g := itrv default (fyS len f) pos; if g < len then
    (if f g = -1 then (nI g, g, 0, 0) else if sp_EM_isSmall (f g) = 0 then
      (if sp_EM_isDigit (f g) = 0 then (if f g = 60 then (nI g, g + 1, 3, f g) else if f g = 61 then (nI g, g + 1, 3, f g) else if f g = 62 then (nI g, g + 1, 3, f g) else if f g = 59 then (nI g, g + 1, 3, f g) else (nI g, g + 1, 4, f g))
       else (let a := itrv default (fyN len f) (g, 0); if 3 < nI a.1 - nI g then (nI g, a.1, 4, a.2) else if a.1 < len then (if sp_EM_isSmall (f a.1) = 0 then (nI g, a.1, 2, a.2) else (nI g, a.1, 4, a.2)) else (nI g, a.1, 2, a.2)))
     else (let a := itrv default (fyW len f g) (g, 0); if nI a.1 - nI g ≤ 6 then (nI g, a.1, 1, a.2) else (nI g, a.1, 4, a.2))) else (nI g, g, 0, 0)) := rfl
theorem skip_same (len : Nat) (f : Nat → Int32) : fyS len f = skipS len f := by
  funext g
  unfold fyS skipS
  by_cases h : g < len
  · rw [if_pos h, if_neg (Nat.not_le.mpr h), if_pos h]
  · rw [if_neg h, if_neg h, if_pos (Nat.not_lt.mp h)]
theorem small_0 {x : Int32} : sp_EM_isSmall x = 0 ↔ (x < 97 ∨ 122 < x) := by
  unfold sp_EM_isSmall
  by_cases h : x < 97
  · rw [if_pos h]; exact ⟨fun _ => Or.inl h, fun _ => rfl⟩
  · rw [if_neg h]
    by_cases g : 122 < x
    · rw [if_pos g]; exact ⟨fun _ => Or.inr g, fun _ => rfl⟩
    · rw [if_neg g]; exact ⟨fun e => absurd e (by decide), fun e => (e.elim h g).elim⟩
theorem digit_0 {x : Int32} : sp_EM_isDigit x = 0 ↔ (x < 48 ∨ 57 < x) := by
  unfold sp_EM_isDigit
  by_cases h : x < 48
  · rw [if_pos h]; exact ⟨fun _ => Or.inl h, fun _ => rfl⟩
  · rw [if_neg h]
    by_cases g : 57 < x
    · rw [if_pos g]; exact ⟨fun _ => Or.inr g, fun _ => rfl⟩
    · rw [if_neg g]; exact ⟨fun e => absurd e (by decide), fun e => (e.elim h g).elim⟩
theorem i_97 (x : Int32) : x - 97 + 1 = x - 96 := by
  rw [Int32.sub_eq_add_neg, Int32.sub_eq_add_neg, Int32.add_assoc]
  rfl
/-- words: both go as far; up to six letters they are the same number -/
theorem word_sim {len : Nat} (hl : len ≤ 900) (f : Nat → Int32) {g : Nat} (hg : g < len) (hs : ¬ sp_EM_isSmall (f g) = 0) :
    (itrv default (fxW len f) (g, 0)).1 = (itrv default (fyW len f g) (g, 0)).1 ∧ g < (itrv default (fxW len f) (g, 0)).1 ∧ (itrv default (fxW len f) (g, 0)).1 ≤ len ∧ ((itrv default (fxW len f) (g, 0)).1 ≤ g + 6 → (itrv default (fxW len f) (g, 0)).2 = (itrv default (fyW len f g) (g, 0)).2) := by
  refine itrv_sim (d := default) (d' := default) (f := fxW len f) (g := fyW len f g) (fun t t' => t.1 = t'.1 ∧ g ≤ t.1 ∧ t.1 ≤ len ∧ (t.1 ≤ g + 6 → t.2 = t'.2)) (fun t t' => t.1 = t'.1 ∧ g < t.1 ∧ t.1 ≤ len ∧ (t.1 ≤ g + 6 → t.2 = t'.2)) (fun t => len - t.1) ?_ len (g, 0) (g, 0) (by show len - g ≤ len; omega) ⟨rfl, Nat.le_refl _, Nat.le_of_lt hg, fun _ => rfl⟩
  rintro ⟨p, v⟩ ⟨p', v'⟩ ⟨rfl, h1, h2, h3⟩
  have h1 : g ≤ p := h1
  have h2 : p ≤ len := h2
  have h3 : p ≤ g + 6 → v = v' := h3
  have out : ∀ (hx : fxW len f (p, v) = .inr (p, v)) (hy : fyW len f g (p, v') = .inr (p, v')), g < p → (∃ u u', fxW len f (p, v) = .inl u ∧ fyW len f g (p, v') = .inl u' ∧ (u.1 = u'.1 ∧ g ≤ u.1 ∧ u.1 ≤ len ∧ (u.1 ≤ g + 6 → u.2 = u'.2)) ∧ len - u.1 < len - p) ∨ (∃ b, fxW len f (p, v) = .inr b ∧ (b.1 = (itrv default (fyW len f g) (p, v')).1 ∧ g < b.1 ∧ b.1 ≤ len ∧ (b.1 ≤ g + 6 → b.2 = (itrv default (fyW len f g) (p, v')).2))) := by
    intro hx hy hgp
    refine Or.inr ⟨(p, v), hx, ?_⟩
    rw [itrv_inr hy]
    exact ⟨rfl, hgp, h2, h3⟩
  by_cases hp : p < len
  · by_cases hs' : sp_EM_isSmall (f p) = 0
    · refine out ?_ ?_ ?_
      · unfold fxW
        rcases small_0.mp hs' with h | h
        · simp only [if_neg (Nat.not_le.mpr hp), if_pos h]
        · by_cases h9 : f p < 97
          · simp only [if_neg (Nat.not_le.mpr hp), if_pos h9]
          · simp only [if_neg (Nat.not_le.mpr hp), if_neg h9, if_pos h]
      · unfold fyW
        simp only [if_pos hp, if_pos hs']
      · rcases Nat.lt_or_eq_of_le h1 with h | h
        · exact h
        · subst h; exact absurd hs' hs
    · have hn := fun h => hs' (small_0.mpr h)
      refine Or.inl ⟨(p + 1, v * 32 + f p - 97 + 1), (p + 1, if 6 ≤ nI p - nI g then -1 else if p < len then v' * 32 + f p - 96 else v' * 32 + (-1) - 96), ?_, ?_, ⟨rfl, ?_, ?_, ?_⟩, ?_⟩
      · unfold fxW
        simp only [if_neg (Nat.not_le.mpr hp), if_neg (fun h => hn (Or.inl h)), if_neg (fun h => hn (Or.inr h))]
      · unfold fyW
        simp only [if_pos hp, if_neg hs']
      · show g ≤ p + 1; omega
      · show p + 1 ≤ len; omega
      · intro h6
        have h6 : p + 1 ≤ g + 6 := h6
        show v * 32 + f p - 97 + 1 = (if 6 ≤ nI p - nI g then -1 else if p < len then v' * 32 + f p - 96 else v' * 32 + (-1) - 96)
        rw [pk_sub h1, if_neg (fun z => by have := (nI_leI (a := 6) (b := p - g) (by omega) (by omega)).mp z; omega), if_pos hp, i_97, h3 (by omega)]
      · show len - (p + 1) < len - p; omega
  · refine out ?_ ?_ ?_
    · unfold fxW
      simp only [if_pos (Nat.not_lt.mp hp)]
    · unfold fyW
      simp only [if_neg hp]
    · rcases Nat.lt_or_eq_of_le h1 with h | h
      · exact h
      · subst h; exact absurd hg hp
theorem num_step {m : Nat} {x : Int32} (hm : m ≤ 99) (h0 : ¬ x < 48) (h9 : ¬ 57 < x) : ∃ k : Nat, k ≤ 10 * m + 9 ∧ nI m * 10 + x - 48 = nI k := by
  obtain ⟨q, hq, rfl⟩ := pu_ule (x := x) (b := 57) (by decide) (fun z => h0 (Int32.lt_trans z (by decide))) (Int32.not_lt.mp h9)
  have hq2 : 48 ≤ q := Nat.le_of_not_lt fun z => h0 (nI_lt (a := q) (b := 48) z (by decide))
  refine ⟨m * 10 + q - 48, by omega, ?_⟩
  have e1 : nI m * 10 = nI (m * 10) := pk_mul m 10
  have e2 : nI (m * 10 + q) - 48 = nI (m * 10 + q - 48) := pk_sub (a := m * 10 + q) (b := 48) (by omega)
  rw [e1, nI_add, e2]
def p10 (k : Nat) : Nat := if k = 0 then 0 else if k = 1 then 9 else if k = 2 then 99 else 999
/-- numbers: both go as far; up to three digits they are the same -/
theorem num_sim {len : Nat} (hl : len ≤ 900) (f : Nat → Int32) {g : Nat} (hg : g < len) (hs : ¬ sp_EM_isDigit (f g) = 0) :
    (itrv default (fxN len f) (g, 0)).1 = (itrv default (fyN len f) (g, 0)).1 ∧ g < (itrv default (fxN len f) (g, 0)).1 ∧ (itrv default (fxN len f) (g, 0)).1 ≤ len ∧ ((itrv default (fxN len f) (g, 0)).1 ≤ g + 3 → (itrv default (fxN len f) (g, 0)).2 = (itrv default (fyN len f) (g, 0)).2) := by
  refine itrv_sim (d := default) (d' := default) (f := fxN len f) (g := fyN len f) (fun t t' => t.1 = t'.1 ∧ g ≤ t.1 ∧ t.1 ≤ len ∧ (t.1 ≤ g + 3 → t.2 = t'.2 ∧ ∃ m : Nat, m ≤ p10 (t.1 - g) ∧ t.2 = nI m)) (fun t t' => t.1 = t'.1 ∧ g < t.1 ∧ t.1 ≤ len ∧ (t.1 ≤ g + 3 → t.2 = t'.2)) (fun t => len - t.1) ?_ len (g, 0) (g, 0) (by show len - g ≤ len; omega) ⟨rfl, Nat.le_refl _, Nat.le_of_lt hg, fun _ => ⟨rfl, 0, Nat.zero_le _, rfl⟩⟩
  rintro ⟨p, v⟩ ⟨p', v'⟩ ⟨rfl, h1, h2, h3⟩
  have h1 : g ≤ p := h1
  have h2 : p ≤ len := h2
  have h3 : p ≤ g + 3 → v = v' ∧ ∃ m : Nat, m ≤ p10 (p - g) ∧ v = nI m := h3
  by_cases hp : p < len
  · by_cases hs' : sp_EM_isDigit (f p) = 0
    · refine Or.inr ⟨(p, v), ?_, ?_⟩
      · unfold fxN
        by_cases h9 : f p < 48
        · simp only [if_neg (Nat.not_le.mpr hp), if_pos h9]
        · simp only [if_neg (Nat.not_le.mpr hp), if_neg h9, if_pos ((digit_0.mp hs').resolve_left h9)]
      · rw [itrv_inr (show fyN len f (p, v') = .inr (p, v') by unfold fyN; simp only [if_pos hp, if_pos hs'])]
        refine ⟨rfl, ?_, h2, fun z => (h3 z).1⟩
        rcases Nat.lt_or_eq_of_le h1 with h | h
        · exact h
        · subst h; exact absurd hs' hs
    · have hn := fun h => hs' (digit_0.mpr h)
      refine Or.inl ⟨(p + 1, v * 10 + f p - 48), (p + 1, sp_EM_lesser 10000 (v' * 10 + f p - 48)), ?_, ?_, ⟨rfl, ?_, ?_, ?_⟩, ?_⟩
      · unfold fxN
        simp only [if_neg (Nat.not_le.mpr hp), if_neg (fun h => hn (Or.inl h)), if_neg (fun h => hn (Or.inr h))]
      · unfold fyN
        simp only [if_pos hp, if_neg hs']
      · show g ≤ p + 1; omega
      · show p + 1 ≤ len; omega
      · intro h6
        have h6 : p + 1 ≤ g + 3 := h6
        obtain ⟨e, m, hm, rfl⟩ := h3 (by omega)
        subst e
        have hm9 : m ≤ 99 ∧ 10 * m + 9 ≤ p10 (p + 1 - g) := by
          have : p - g = 0 ∨ p - g = 1 ∨ p - g = 2 := by omega
          rcases this with h | h | h <;> rw [h] at hm
          · have : p + 1 - g = 1 := by omega
            rw [this]; have : m ≤ 0 := hm; exact ⟨by omega, by show 10 * m + 9 ≤ 9; omega⟩
          · have : p + 1 - g = 2 := by omega
            rw [this]; have : m ≤ 9 := hm; exact ⟨by omega, by show 10 * m + 9 ≤ 99; omega⟩
          · have : p + 1 - g = 3 := by omega
            rw [this]; have : m ≤ 99 := hm; exact ⟨by omega, by show 10 * m + 9 ≤ 999; omega⟩
        obtain ⟨k, hk, ek⟩ := num_step hm9.1 (fun h => hn (Or.inl h)) (fun h => hn (Or.inr h))
        show nI m * 10 + f p - 48 = sp_EM_lesser 10000 (nI m * 10 + f p - 48) ∧ ∃ m_1 : Nat, m_1 ≤ p10 (p + 1 - g) ∧ nI m * 10 + f p - 48 = nI m_1
        rw [ek]
        refine ⟨?_, k, Nat.le_trans hk hm9.2, rfl⟩
        unfold sp_EM_lesser
        have hz : nI k ≤ 10000 := nI_le (a := k) (b := 10000) (by omega) (by omega)
        rw [if_pos hz]
      · show len - (p + 1) < len - p; omega
  · refine Or.inr ⟨(p, v), ?_, ?_⟩
    · unfold fxN
      simp only [if_pos (Nat.not_lt.mp hp)]
    · rw [itrv_inr (show fyN len f (p, v') = .inr (p, v') by unfold fyN; simp only [if_neg hp])]
      refine ⟨rfl, ?_, h2, fun z => (h3 z).1⟩
      rcases Nat.lt_or_eq_of_le h1 with h | h
      · exact h
      · subst h; exact absurd hg hp
/-- a word beside the table -/
theorem kept_sp {fw : Nat → Int32} (hw : ∀ i, i < 8 → fw i = WW i) (p : Nat) (v : Int32) : ∃ k, itrv default (fxK fw p v) (2, 0) = (p, k, v) ∧ ((k = 2 ∧ ¬ isW v) ∨ ∃ w, w < 8 ∧ k = 8 + w ∧ v = WW w) := by
  refine itrv_inv (d := default) (f := fxK fw p v) (fun t => t.2 ≤ 8 ∧ ((t.1 = 2 ∧ ∀ i, i < t.2 → v ≠ WW i) ∨ ∃ w, w < 8 ∧ t.1 = 8 + w ∧ v = WW w)) (fun b => ∃ k, b = (p, k, v) ∧ ((k = 2 ∧ ¬ isW v) ∨ ∃ w, w < 8 ∧ k = 8 + w ∧ v = WW w)) (fun t => 8 - t.2) ?_ 8 (2, 0) (by show 8 - 0 ≤ 8; omega) ⟨Nat.zero_le _, Or.inl ⟨rfl, fun i h => absurd h (Nat.not_lt_zero i)⟩⟩
  rintro ⟨k, w⟩ ⟨h1, h2⟩
  have h1 : w ≤ 8 := h1
  have h2 : (k = 2 ∧ ∀ i, i < w → v ≠ WW i) ∨ ∃ w, w < 8 ∧ k = 8 + w ∧ v = WW w := h2
  by_cases h8 : 8 ≤ w
  · refine Or.inr ⟨(p, k, v), by unfold fxK; simp only [if_pos h8], k, rfl, ?_⟩
    rcases h2 with ⟨a, b⟩ | h
    · exact Or.inl ⟨a, fun ⟨i, hi, e⟩ => b i (by omega) e⟩
    · exact Or.inr h
  · by_cases hk : k = 2
    · refine Or.inl ⟨((if fw w = v then 8 + w else k), w + 1), by unfold fxK; simp only [if_neg h8, if_pos hk], ⟨by show w + 1 ≤ 8; omega, ?_⟩, by show 8 - (w + 1) < 8 - w; omega⟩
      show ((if fw w = v then 8 + w else k) = 2 ∧ ∀ i, i < w + 1 → v ≠ WW i) ∨ ∃ w_1, w_1 < 8 ∧ (if fw w = v then 8 + w else k) = 8 + w_1 ∧ v = WW w_1
      by_cases e : fw w = v
      · rw [if_pos e]; exact Or.inr ⟨w, by omega, rfl, by rw [← e, hw w (by omega)]⟩
      · rw [if_neg e]
        rcases h2 with ⟨a, b⟩ | ⟨x, hx, ex, _⟩
        · refine Or.inl ⟨a, fun i hi => ?_⟩
          rcases Nat.lt_or_eq_of_le (Nat.le_of_lt_succ hi) with h | rfl
          · exact b i h
          · intro z; exact e (by rw [hw i (by omega)]; exact z.symm)
        · omega
    · refine Or.inr ⟨(p, k, v), by unfold fxK; simp only [if_neg h8, if_neg hk], k, rfl, ?_⟩
      rcases h2 with ⟨a, b⟩ | h
      · exact absurd a hk
      · exact Or.inr h
/-- the class's token and the reference's, read from the same place -/
theorem adv_next {f fw : Nat → Int32} (hw : ∀ i, i < 8 → fw i = WW i) (hf : ∀ i, f i ≠ -1) {len pos : Nat} (hl : len ≤ 900) (hp : pos ≤ len) (vl : Int32) {p k : Nat} {v a : Int32} {a' : Int32} {p' t' : Nat} {v' : Int32} (hA : sp_E_4_advance len pos vl f fw = (p, k, v, a)) (hB : sp_EM_next len pos f = (a', p', t', v')) :
    p' = p ∧ a' = a ∧ TokR k v t' v' ∧ p ≤ len ∧ (∃ g, a = nI g ∧ pos ≤ g ∧ g ≤ len ∧ (k = 1 → g = len ∧ p = len) ∧ (k ≠ 1 → g < p)) := by
  rw [advance_def] at hA
  rw [next_def, skip_same] at hB
  obtain ⟨h1, h2⟩ := skip_sp (len := len) (f := f) hp
  generalize itrv default (skipS len f) pos = g at hA hB h1 h2
  dsimp only at hA hB
  by_cases hg : g < len
  · rw [if_pos hg] at hA hB
    rw [if_neg (hf g)] at hB
    by_cases hs : sp_EM_isSmall (f g) = 0
    · rw [if_pos hs] at hB
      have hA' : (if f g < 48 then ((sp_E_4_scanSign g f).1, (sp_E_4_scanSign g f).2, vl, nI g) else if 57 < f g then ((sp_E_4_scanSign g f).1, (sp_E_4_scanSign g f).2, vl, nI g) else ((sp_E_4_scanNumber len g (nI g) f).1, (sp_E_4_scanNumber len g (nI g) f).2.1, (sp_E_4_scanNumber len g (nI g) f).2.2, nI g)) = (p, k, v, a) := by
        rcases small_0.mp hs with h | h
        · rw [if_pos h] at hA; exact hA
        · by_cases h9 : f g < 97
          · rw [if_pos h9] at hA; exact hA
          · rw [if_neg h9, if_pos h] at hA; exact hA
      clear hA
      by_cases hd : sp_EM_isDigit (f g) = 0
      · rw [if_pos hd] at hB
        have hA : ((sp_E_4_scanSign g f).1, (sp_E_4_scanSign g f).2, vl, nI g) = (p, k, v, a) := by
          rcases digit_0.mp hd with h | h
          · rw [if_pos h] at hA'; exact hA'
          · by_cases h9 : f g < 48
            · rw [if_pos h9] at hA'; exact hA'
            · rw [if_neg h9, if_pos h] at hA'; exact hA'
        have hA : (g + 1, (if f g = 59 then 7 else if f g = 60 then 4 else if f g = 61 then 5 else if f g = 62 then 6 else 0), vl, nI g) = (p, k, v, a) := hA
        obtain ⟨rfl, rfl, rfl, rfl⟩ : g + 1 = p ∧ (if f g = 59 then 7 else if f g = 60 then 4 else if f g = 61 then 5 else if f g = 62 then 6 else 0) = k ∧ vl = v ∧ nI g = a := by
          injection hA with e1 e2; injection e2 with e2 e3; injection e3 with e3 e4; exact ⟨e1, e2, e3, e4⟩
        have hB : (nI g, g + 1, (if f g = 60 then 3 else if f g = 61 then 3 else if f g = 62 then 3 else if f g = 59 then 3 else 4), f g) = (a', p', t', v') := by
          rw [← hB]
          by_cases e0 : f g = 60
          · simp only [if_pos e0]
          · by_cases e1 : f g = 61
            · simp only [if_neg e0, if_pos e1]
            · by_cases e2 : f g = 62
              · simp only [if_neg e0, if_neg e1, if_pos e2]
              · by_cases e3 : f g = 59
                · simp only [if_neg e0, if_neg e1, if_neg e2, if_pos e3]
                · simp only [if_neg e0, if_neg e1, if_neg e2, if_neg e3]
        injection hB with e1 e2; injection e2 with e2 e3; injection e3 with e3 e4
        subst e1 e2 e3 e4
        refine ⟨rfl, rfl, ?_, by omega, g, rfl, h1, h2, ?_, fun _ => by omega⟩
        · by_cases e0 : f g = 59
          · have n0 : ¬ f g = 60 := by rw [e0]; decide
            have n1 : ¬ f g = 61 := by rw [e0]; decide
            have n2 : ¬ f g = 62 := by rw [e0]; decide
            rw [if_pos e0, if_neg n0, if_neg n1, if_neg n2, if_pos e0]
            exact Or.inr (Or.inr (Or.inr (Or.inr (Or.inr (Or.inr (Or.inr (Or.inl ⟨rfl, rfl, e0⟩)))))))
          · rw [if_neg e0]
            by_cases e1 : f g = 60
            · rw [if_pos e1, if_pos e1]; exact Or.inr (Or.inr (Or.inr (Or.inr (Or.inl ⟨rfl, rfl, e1⟩))))
            · rw [if_neg e1, if_neg e1]
              by_cases e2 : f g = 61
              · rw [if_pos e2, if_pos e2]; exact Or.inr (Or.inr (Or.inr (Or.inr (Or.inr (Or.inl ⟨rfl, rfl, e2⟩)))))
              · rw [if_neg e2, if_neg e2]
                by_cases e3 : f g = 62
                · rw [if_pos e3, if_pos e3]; exact Or.inr (Or.inr (Or.inr (Or.inr (Or.inr (Or.inr (Or.inl ⟨rfl, rfl, e3⟩))))))
                · rw [if_neg e3, if_neg e3, if_neg e0]; exact Or.inl ⟨rfl, rfl⟩
        · intro z
          exfalso
          revert z
          split
          · decide
          · split
            · decide
            · split
              · decide
              · split <;> decide
      · have hn := fun h => hd (digit_0.mpr h)
        rw [if_neg (fun h => hn (Or.inl h)), if_neg (fun h => hn (Or.inr h)), scanNumber_def] at hA'
        rw [if_neg hd] at hB
        obtain ⟨q1, q2, q3, q4⟩ := num_sim hl f hg hd
        generalize itrv default (fxN len f) (g, 0) = x at hA' q1 q2 q3 q4
        generalize itrv default (fyN len f) (g, 0) = y at hB q1 q4
        obtain ⟨xp, xv⟩ := x
        obtain ⟨yp, yv⟩ := y
        obtain rfl : xp = yp := q1
        have q2 : g < xp := q2
        have q3 : xp ≤ len := q3
        have q4 : xp ≤ g + 3 → xv = yv := q4
        dsimp only at hA' hB
        rw [pk_sub (Nat.le_of_lt q2)] at hA' hB
        by_cases h3 : (3 : Int32) < nI (xp - g)
        · rw [if_pos h3] at hA' hB
          injection hA' with e1 e2; injection e2 with e2 e3; injection e3 with e3 e4
          injection hB with d1 d2; injection d2 with d2 d3; injection d3 with d3 d4
          subst e1 e2 e3 e4 d1 d2 d3 d4
          exact ⟨rfl, rfl, Or.inl ⟨rfl, rfl⟩, q3, g, rfl, h1, h2, fun z => by simp at z, fun _ => q2⟩
        · have hle : xp ≤ g + 3 := Nat.le_of_not_lt fun z => h3 (nI_lt (a := 3) (b := xp - g) (by omega) (by omega))
          rw [if_neg h3] at hA' hB
          by_cases hx : xp < len
          · rw [if_pos hx] at hB
            by_cases hm : sp_EM_isSmall (f xp) = 0
            · rw [if_pos hm] at hB
              have hz : (if len ≤ xp then 0 else if f xp < 97 then 0 else if 122 < f xp then 0 else 1) = 0 := by
                rw [if_neg (Nat.not_le.mpr hx)]
                by_cases h9 : f xp < 97
                · rw [if_pos h9]
                · rw [if_neg h9, if_pos ((small_0.mp hm).resolve_left h9)]
              rw [if_pos hz] at hA'
              injection hA' with e1 e2; injection e2 with e2 e3; injection e3 with e3 e4
              injection hB with d1 d2; injection d2 with d2 d3; injection d3 with d3 d4
              subst e1 e2 e3 e4 d1 d2 d3 d4
              exact ⟨rfl, rfl, Or.inr (Or.inr (Or.inr (Or.inl ⟨rfl, rfl, q4 hle⟩))), q3, g, rfl, h1, h2, fun z => by simp at z, fun _ => q2⟩
            · rw [if_neg hm] at hB
              have hnm := fun h => hm (small_0.mpr h)
              have hz : ¬ (if len ≤ xp then 0 else if f xp < 97 then 0 else if 122 < f xp then 0 else 1) = 0 := by
                rw [if_neg (Nat.not_le.mpr hx), if_neg (fun h => hnm (Or.inl h)), if_neg (fun h => hnm (Or.inr h))]; decide
              rw [if_neg hz] at hA'
              injection hA' with e1 e2; injection e2 with e2 e3; injection e3 with e3 e4
              injection hB with d1 d2; injection d2 with d2 d3; injection d3 with d3 d4
              subst e1 e2 e3 e4 d1 d2 d3 d4
              exact ⟨rfl, rfl, Or.inl ⟨rfl, rfl⟩, q3, g, rfl, h1, h2, fun z => by simp at z, fun _ => q2⟩
          · rw [if_neg hx] at hB
            have hz : (if len ≤ xp then 0 else if f xp < 97 then 0 else if 122 < f xp then 0 else 1) = 0 := by rw [if_pos (Nat.not_lt.mp hx)]
            rw [if_pos hz] at hA'
            injection hA' with e1 e2; injection e2 with e2 e3; injection e3 with e3 e4
            injection hB with d1 d2; injection d2 with d2 d3; injection d3 with d3 d4
            subst e1 e2 e3 e4 d1 d2 d3 d4
            exact ⟨rfl, rfl, Or.inr (Or.inr (Or.inr (Or.inl ⟨rfl, rfl, q4 hle⟩))), q3, g, rfl, h1, h2, fun z => by simp at z, fun _ => q2⟩
    · have hn := fun h => hs (small_0.mpr h)
      rw [if_neg (fun h => hn (Or.inl h)), if_neg (fun h => hn (Or.inr h)), scanWord_def] at hA
      rw [if_neg hs] at hB
      obtain ⟨q1, q2, q3, q4⟩ := word_sim hl f hg hs
      generalize itrv default (fxW len f) (g, 0) = x at hA q1 q2 q3 q4
      generalize itrv default (fyW len f g) (g, 0) = y at hB q1 q4
      obtain ⟨xp, xv⟩ := x
      obtain ⟨yp, yv⟩ := y
      obtain rfl : xp = yp := q1
      have q2 : g < xp := q2
      have q3 : xp ≤ len := q3
      have q4 : xp ≤ g + 6 → xv = yv := q4
      dsimp only at hA hB
      rw [pk_sub (Nat.le_of_lt q2)] at hA hB
      by_cases h6 : nI (xp - g) ≤ (6 : Int32)
      · have hle : xp ≤ g + 6 := by have := (nI_leI (a := xp - g) (b := 6) (by omega) (by omega)).mp h6; omega
        have e6 := q4 hle
        subst e6
        rw [if_pos h6] at hA hB
        obtain ⟨kk, ek, hk⟩ := kept_sp hw xp xv
        rw [ek] at hA
        injection hA with e1 e2; injection e2 with e2 e3; injection e3 with e3 e4
        injection hB with d1 d2; injection d2 with d2 d3; injection d3 with d3 d4
        subst e1 e2 e3 e4 d1 d2 d3 d4
        refine ⟨rfl, rfl, ?_, q3, g, rfl, h1, h2, ?_, fun _ => q2⟩
        · rcases hk with ⟨rfl, h⟩ | ⟨w, hw1, hw2, hw3⟩
          · exact Or.inr (Or.inr (Or.inl ⟨rfl, rfl, rfl, h⟩))
          · exact Or.inr (Or.inr (Or.inr (Or.inr (Or.inr (Or.inr (Or.inr (Or.inr ⟨w, hw1, hw2, rfl, hw3⟩)))))))
        · intro z
          rcases hk with ⟨rfl, h⟩ | ⟨w, hw1, hw2, hw3⟩
          · simp at z
          · have z : kk = 1 := z
            omega
      · rw [if_neg h6] at hA hB
        rw [itrv_inr (show fxK fw xp xv (0, 0) = .inr (xp, 0, xv) by unfold fxK; simp only [if_neg (show ¬ 8 ≤ 0 by decide), if_neg (show ¬ 0 = 2 by decide)])] at hA
        injection hA with e1 e2; injection e2 with e2 e3; injection e3 with e3 e4
        injection hB with d1 d2; injection d2 with d2 d3; injection d3 with d3 d4
        subst e1 e2 e3 e4 d1 d2 d3 d4
        exact ⟨rfl, rfl, Or.inl ⟨rfl, rfl⟩, q3, g, rfl, h1, h2, fun z => by simp at z, fun _ => q2⟩
  · rw [if_neg hg] at hA hB
    injection hA with e1 e2; injection e2 with e2 e3; injection e3 with e3 e4
    injection hB with d1 d2; injection d2 with d2 d3; injection d3 with d3 d4
    subst e1 e2 e3 e4 d1 d2 d3 d4
    exact ⟨rfl, rfl, Or.inr (Or.inl ⟨rfl, rfl⟩), h2, g, rfl, h1, h2, fun _ => ⟨by omega, by omega⟩, fun z => absurd rfl z⟩
theorem tok_0 {k t : Nat} {v w : Int32} (h : TokR k v t w) : k = 0 ↔ t = 4 := by
  rcases h with ⟨a, b⟩ | ⟨a, b⟩ | ⟨a, b, -⟩ | ⟨a, b, -⟩ | ⟨a, b, -⟩ | ⟨a, b, -⟩ | ⟨a, b, -⟩ | ⟨a, b, -⟩ | ⟨x, hx, a, b, -⟩ <;> omega
theorem tok_1 {k t : Nat} {v w : Int32} (h : TokR k v t w) : k = 1 ↔ t = 0 := by
  rcases h with ⟨a, b⟩ | ⟨a, b⟩ | ⟨a, b, -⟩ | ⟨a, b, -⟩ | ⟨a, b, -⟩ | ⟨a, b, -⟩ | ⟨a, b, -⟩ | ⟨a, b, -⟩ | ⟨x, hx, a, b, -⟩ <;> omega
theorem tok_3 {k t : Nat} {v w : Int32} (h : TokR k v t w) : k = 3 ↔ t = 2 := by
  rcases h with ⟨a, b⟩ | ⟨a, b⟩ | ⟨a, b, -⟩ | ⟨a, b, -⟩ | ⟨a, b, -⟩ | ⟨a, b, -⟩ | ⟨a, b, -⟩ | ⟨a, b, -⟩ | ⟨x, hx, a, b, -⟩ <;> omega
theorem tok_3v {t : Nat} {v w : Int32} (h : TokR 3 v t w) : v = w := by
  rcases h with ⟨a, b⟩ | ⟨a, b⟩ | ⟨a, b, -⟩ | ⟨a, b, e⟩ | ⟨a, b, -⟩ | ⟨a, b, -⟩ | ⟨a, b, -⟩ | ⟨a, b, -⟩ | ⟨x, hx, a, b, -⟩ <;> first | exact e | omega
theorem WW_inj {i j : Nat} (hi : i < 8) (hj : j < 8) (h : WW i = WW j) : i = j := by
  have : ∀ i, i < 8 → ∀ j, j < 8 → WW i = WW j → i = j := by decide
  exact this i hi j hj h
/-- is it this word: of the class by its kind, of the reference by its number -/
theorem word_iff {k t : Nat} {v w : Int32} (h : TokR k v t w) {i : Nat} (hi : i < 8) : sp_EM_isWord t w (WW i) = (if k = 8 + i then 1 else 0) := by
  unfold sp_EM_isWord
  rcases h with ⟨a, b⟩ | ⟨a, b⟩ | ⟨a, b, e, n⟩ | ⟨a, b, -⟩ | ⟨a, b, -⟩ | ⟨a, b, -⟩ | ⟨a, b, -⟩ | ⟨a, b, -⟩ | ⟨x, hx, a, b, e⟩
  · rw [if_neg (by omega), if_neg (by omega)]
  · rw [if_neg (by omega), if_neg (by omega)]
  · rw [if_pos b, if_neg (fun z => n ⟨i, hi, z⟩), if_neg (by omega)]
  · rw [if_neg (by omega), if_neg (by omega)]
  · rw [if_neg (by omega), if_neg (by omega)]
  · rw [if_neg (by omega), if_neg (by omega)]
  · rw [if_neg (by omega), if_neg (by omega)]
  · rw [if_neg (by omega), if_neg (by omega)]
  · rw [if_pos b, e]
    by_cases hxi : x = i
    · subst hxi; rw [if_pos rfl, if_pos a]
    · rw [if_neg (fun z => hxi (WW_inj hx hi z)), if_neg (by omega)]
theorem sign_iff {k t : Nat} {v w : Int32} (h : TokR k v t w) {c : Int32} {j : Nat} (hc : (c = 60 ∧ j = 4) ∨ (c = 61 ∧ j = 5) ∨ (c = 62 ∧ j = 6) ∨ (c = 59 ∧ j = 7)) : sp_EM_isSign t w c = (if k = j then 1 else 0) := by
  unfold sp_EM_isSign
  rcases h with ⟨a, b⟩ | ⟨a, b⟩ | ⟨a, b, e, n⟩ | ⟨a, b, -⟩ | ⟨a, b, e⟩ | ⟨a, b, e⟩ | ⟨a, b, e⟩ | ⟨a, b, e⟩ | ⟨x, hx, a, b, e⟩
  · rw [if_neg (by omega), if_neg (by omega)]
  · rw [if_neg (by omega), if_neg (by omega)]
  · rw [if_neg (by omega), if_neg (by omega)]
  · rw [if_neg (by omega), if_neg (by omega)]
  · rw [if_pos b, e]; rcases hc with ⟨rfl, rfl⟩ | ⟨rfl, rfl⟩ | ⟨rfl, rfl⟩ | ⟨rfl, rfl⟩ <;> subst a <;> decide
  · rw [if_pos b, e]; rcases hc with ⟨rfl, rfl⟩ | ⟨rfl, rfl⟩ | ⟨rfl, rfl⟩ | ⟨rfl, rfl⟩ <;> subst a <;> decide
  · rw [if_pos b, e]; rcases hc with ⟨rfl, rfl⟩ | ⟨rfl, rfl⟩ | ⟨rfl, rfl⟩ | ⟨rfl, rfl⟩ <;> subst a <;> decide
  · rw [if_pos b, e]; rcases hc with ⟨rfl, rfl⟩ | ⟨rfl, rfl⟩ | ⟨rfl, rfl⟩ | ⟨rfl, rfl⟩ <;> subst a <;> decide
  · rw [if_neg (by omega), if_neg (by omega)]
/-- a kept word or not: a name is a word that isn't kept -/
theorem kept_iff {k t : Nat} {v w : Int32} (h : TokR k v t w) : sp_EM_isKept t w = (if 8 ≤ k ∧ k < 16 then 1 else 0) := by
  have e := fun i (hi : i < 8) => word_iff h hi
  unfold sp_EM_isKept slet
  have e0 : sp_EM_isWord t w 3554411 = _ := e 0 (by decide)
  have e1 : sp_EM_isWord t w 17171557 = _ := e 1 (by decide)
  have e2 : sp_EM_isWord t w 723752404 = _ := e 2 (by decide)
  have e3 : sp_EM_isWord t w 22499628 = _ := e 3 (by decide)
  have e4 : sp_EM_isWord t w 20579924 = _ := e 4 (by decide)
  have e5 : sp_EM_isWord t w 168165 = _ := e 5 (by decide)
  have e6 : sp_EM_isWord t w 762030 = _ := e 6 (by decide)
  have e7 : sp_EM_isWord t w 19057844 = _ := e 7 (by decide)
  rw [e0, e1, e2, e3, e4, e5, e6, e7]
  by_cases h0 : k = 8 + 0
  · subst h0; rfl
  by_cases h1 : k = 8 + 1
  · subst h1; rfl
  by_cases h2 : k = 8 + 2
  · subst h2; rfl
  by_cases h3 : k = 8 + 3
  · subst h3; rfl
  by_cases h4 : k = 8 + 4
  · subst h4; rfl
  by_cases h5 : k = 8 + 5
  · subst h5; rfl
  by_cases h6 : k = 8 + 6
  · subst h6; rfl
  by_cases h7 : k = 8 + 7
  · subst h7; rfl
  rw [if_neg h0, if_neg h1, if_neg h2, if_neg h3, if_neg h4, if_neg h5, if_neg h6, if_neg h7, if_neg (show ¬ (8 ≤ k ∧ k < 16) by omega)]
  rfl
theorem tok_2 {k t : Nat} {v w : Int32} (h : TokR k v t w) : k = 2 ↔ (t = 1 ∧ sp_EM_isKept t w = 0) := by
  rw [kept_iff h]
  rcases h with ⟨a, b⟩ | ⟨a, b⟩ | ⟨a, b, -⟩ | ⟨a, b, -⟩ | ⟨a, b, -⟩ | ⟨a, b, -⟩ | ⟨a, b, -⟩ | ⟨a, b, -⟩ | ⟨x, hx, a, b, -⟩
  · omega
  · omega
  · rw [if_neg (by omega)]; omega
  · omega
  · omega
  · omega
  · omega
  · omega
  · rw [if_pos (by omega)]; omega
theorem tok_2v {t : Nat} {v w : Int32} (h : TokR 2 v t w) : v = w := by
  rcases h with ⟨a, b⟩ | ⟨a, b⟩ | ⟨a, b, e, -⟩ | ⟨a, b, e⟩ | ⟨a, b, -⟩ | ⟨a, b, -⟩ | ⟨a, b, -⟩ | ⟨a, b, -⟩ | ⟨x, hx, a, b, -⟩ <;> first | exact e | omega
/-- what a fault at this token is -/
def fk (k kind : Nat) : Nat := if k = 0 then 1 else kind
theorem fails_eq {k t : Nat} {v w : Int32} (h : TokR k v t w) (at_ x27 : Int32) (kind : Nat) : sp_EM_fails at_ t 0 x27 kind = (fk k kind, at_) := by
  unfold sp_EM_fails fk
  rw [if_pos rfl]
  by_cases hk : k = 0
  · rw [if_pos ((tok_0 h).mp hk), if_pos hk]
  · rw [if_neg (fun z => hk ((tok_0 h).mpr z)), if_neg hk]
theorem fails_n {at_ x27 : Int32} {t kind w : Nat} (h : w ≠ 0) : sp_EM_fails at_ t w x27 kind = (w, x27) := by
  unfold sp_EM_fails; rw [if_neg h]
theorem fk_0 {k kind : Nat} (h : kind ≠ 0) : fk k kind ≠ 0 := by
  unfold fk; split
  · decide
  · exact h
theorem good_0 : sp_EM_isGood 0 = 1 := rfl
theorem good_n {w : Nat} (h : w ≠ 0) : sp_EM_isGood w = 0 := by unfold sp_EM_isGood; rw [if_neg h]
theorem refT_eq (k : Nat) (a : Int32) : sp_E_4_refuseToken k a = (nI (fk k 2), a) := rfl
theorem ref_eq (a p : Int32) : sp_E_4_refuse a p = (p, a) := rfl
theorem must_eq {k t : Nat} {v w : Int32} (h : TokR k v t w) (at_ x27 : Int32) : sp_EM_mustBeName at_ t w 0 x27 = (if k = 2 then (0, x27) else (fk k 2, at_)) := by
  have e : sp_EM_mustBeName at_ t w 0 x27 = (if t = 1 then (if sp_EM_isKept t w = 0 then (0, x27) else sp_EM_fails at_ t 0 x27 2) else sp_EM_fails at_ t 0 x27 2) := rfl
  rw [e, fails_eq h]
  by_cases hk : k = 2
  · obtain ⟨a, b⟩ := (tok_2 h).mp hk
    rw [if_pos a, if_pos b, if_pos hk]
  · rw [if_neg hk]
    by_cases ht : t = 1
    · rw [if_pos ht, if_neg (fun z => hk ((tok_2 h).mpr ⟨ht, z⟩))]
    · rw [if_neg ht]
/-- names looked up: the same loop over rows that are the same as far as they go -/
theorem find_sim {n : Nat} {f g : Nat → Int32} {v : Int32} (h : ∀ i, i < n → f i = g i) : itrv (α := Nat) (β := Nat) default (fun i => if n ≤ i then .inr 0 else if f i = v then .inr (i + 1) else .inl (i + 1)) 0 = itrv (α := Nat) (β := Nat) default (fun i => if n ≤ i then .inr 0 else if g i = v then .inr (i + 1) else .inl (i + 1)) 0 := by
  congr 1
  funext i
  by_cases hi : n ≤ i
  · rw [if_pos hi, if_pos hi]
  · rw [if_neg hi, if_neg hi, h i (Nat.not_le.mp hi)]
theorem find_le {n : Nat} {f : Nat → Int32} {v : Int32} : itrv (α := Nat) (β := Nat) default (fun i => if n ≤ i then .inr 0 else if f i = v then .inr (i + 1) else .inl (i + 1)) 0 ≤ n := by
  refine itrv_inv (d := default) (f := fun i => if n ≤ i then Sum.inr 0 else if f i = v then .inr (i + 1) else .inl (i + 1)) (fun i => i ≤ n) (fun b => b ≤ n) (fun i => n - i) ?_ n 0 (by omega) (Nat.zero_le _)
  intro i hi
  by_cases h : n ≤ i
  · exact Or.inr ⟨0, by simp only [if_pos h], Nat.zero_le _⟩
  · by_cases e : f i = v
    · exact Or.inr ⟨i + 1, by simp only [if_neg h, if_pos e], by omega⟩
    · exact Or.inl ⟨i + 1, by simp only [if_neg h, if_neg e], by omega, by omega⟩
/-- where both stand: a token that begins at g and ends at p -/
def TS (len g p k : Nat) (v a : Int32) (be tok : Nat) (va at_ : Int32) : Prop := be = p ∧ at_ = a ∧ TokR k v tok va ∧ p ≤ len ∧ a = nI g ∧ g ≤ len ∧ (k = 1 → g = len ∧ p = len) ∧ (k ≠ 1 → g < p)
theorem TS.tok {len g p k be tok : Nat} {v a va at_ : Int32} (h : TS len g p k v a be tok va at_) : TokR k v tok va := h.2.2.1
theorem TS.le {len g p k be tok : Nat} {v a va at_ : Int32} (h : TS len g p k v a be tok va at_) : p ≤ len := h.2.2.2.1
theorem TS.gle {len g p k be tok : Nat} {v a va at_ : Int32} (h : TS len g p k v a be tok va at_) : g ≤ p := by
  by_cases e : k = 1
  · have := h.2.2.2.2.2.2.1 e; omega
  · exact Nat.le_of_lt (h.2.2.2.2.2.2.2 e)
theorem adv_ex {f fw : Nat → Int32} (hw : ∀ i, i < 8 → fw i = WW i) (hf : ∀ i, f i ≠ -1) {len pos : Nat} (hl : len ≤ 900) (hp : pos ≤ len) {vl : Int32} {p k : Nat} {v a : Int32} (hA : sp_E_4_advance len pos vl f fw = (p, k, v, a)) : ∃ t w g, sp_EM_next len pos f = (a, p, t, w) ∧ TS len g p k v a p t w a ∧ pos ≤ g := by
  obtain ⟨⟨a', p', t', v'⟩, hB⟩ : ∃ x, sp_EM_next len pos f = x := ⟨_, rfl⟩
  obtain ⟨rfl, rfl, h3, h4, g, h5, h6, h7, h8, h9⟩ := adv_next hw hf hl hp vl hA hB
  exact ⟨t', v', g, hB, ⟨rfl, rfl, h3, h4, h5, h7, h8, h9⟩, h6⟩
theorem updN_s {q : Nat → Nat} {k v : Nat} : updN q k v k = v := by unfold updN; rw [if_pos rfl]
theorem updN_n {q : Nat → Nat} {k v j : Nat} (h : j ≠ k) : updN q k v j = q j := by unfold updN; rw [if_neg h]
theorem upd_s {f : Nat → Int32} {k : Nat} {v : Int32} : upd f k v k = v := by unfold upd; rw [if_pos rfl]
theorem upd_n {f : Nat → Int32} {k j : Nat} {v : Int32} (h : j ≠ k) : upd f k v j = f j := by unfold upd; rw [if_neg h]
/-- conditions: the class's from b on and the reference's from b' on are the same -/
def CI (b b' cnt : Nat) (q9 : Nat → Nat) (f10 f11 : Nat → Int32) (r9 r10 : Nat → Nat) (r11 : Nat → Int32) : Prop := ∀ j, j < cnt → q9 (b + j) = r9 (b' + j) ∧ q9 (b + j) ≤ 2 ∧ f10 (b + j) = nI (r10 (b' + j)) ∧ r10 (b' + j) ≤ 4 ∧ f11 (b + j) = r11 (b' + j)
/-- the same outside n places from b on -/
def UN {α : Type} (b n : Nat) (f g : Nat → α) : Prop := ∀ s, (s < b ∨ b + n ≤ s) → f s = g s
theorem UN.rf {α : Type} {b n : Nat} {f : Nat → α} : UN b n f f := fun _ _ => rfl
theorem UN.up {b n : Nat} {f g : Nat → Nat} (h : UN b n f g) {k v : Nat} (hk : b ≤ k ∧ k < b + n) : UN b n (updN f k v) g := fun s hs => by rw [updN_n (by omega)]; exact h s hs
theorem UN.up' {b n : Nat} {f g : Nat → Int32} (h : UN b n f g) {k : Nat} {v : Int32} (hk : b ≤ k ∧ k < b + n) : UN b n (upd f k v) g := fun s hs => by rw [upd_n (by omega)]; exact h s hs
theorem CI.z {b b' : Nat} {q9 : Nat → Nat} {f10 f11 : Nat → Int32} {r9 r10 : Nat → Nat} {r11 : Nat → Int32} : CI b b' 0 q9 f10 f11 r9 r10 r11 := fun j h => absurd h (Nat.not_lt_zero j)
theorem CI.step {b b' cnt : Nat} {q9 : Nat → Nat} {f10 f11 : Nat → Int32} {r9 r10 : Nat → Nat} {r11 : Nat → Int32} (h : CI b b' cnt q9 f10 f11 r9 r10 r11) {c hh : Nat} {v : Int32} (hc : c ≤ 2) (h4 : hh ≤ 4) : CI b b' (cnt + 1) (updN q9 (b + cnt) c) (upd f10 (b + cnt) (nI hh)) (upd f11 (b + cnt) v) (updN r9 (b' + cnt) c) (updN r10 (b' + cnt) hh) (upd r11 (b' + cnt) v) := by
  intro j hj
  by_cases e : j = cnt
  · subst e
    rw [updN_s, updN_s, upd_s, updN_s, upd_s, upd_s]
    exact ⟨rfl, hc, rfl, h4, rfl⟩
  · have e1 : b + j ≠ b + cnt := by omega
    have e2 : b' + j ≠ b' + cnt := by omega
    rw [updN_n e1, updN_n e2, upd_n e1, updN_n e2, upd_n e1, upd_n e2]
    exact h j (by omega)
/-- bit j of a number -/
def bt (B : Int32) (j : Nat) : Bool := B.toBitVec.getLsbD j
theorem bt_iff {B : Int32} {j : Nat} (hj : j < 3) : ((B >>> ((nI j : Int32) &&& 31)) &&& (1 : Int32)) = 1 ↔ bt B j = true := by
  have key : ∀ x : BitVec 32, (x &&& 1#32 = 1#32) ↔ x.getLsbD 0 = true := by
    intro x
    rw [BitVec.and_one_eq_setWidth_ofBool_getLsbD]
    cases x.getLsbD 0 <;> decide
  have e : ((B >>> ((nI j : Int32) &&& 31)) &&& (1 : Int32)) = 1 ↔ (B >>> ((nI j : Int32) &&& 31)).toBitVec &&& 1#32 = 1#32 := by
    rw [← Int32.toBitVec_inj]
    rfl
  rw [e, key]
  have h3 : j = 0 ∨ j = 1 ∨ j = 2 := by omega
  unfold bt
  rcases h3 with rfl | rfl | rfl
  · have : (B >>> ((nI 0 : Int32) &&& 31)).toBitVec = B.toBitVec.sshiftRight 0 := rfl
    rw [this, BitVec.getLsbD_sshiftRight]; simp
  · have : (B >>> ((nI 1 : Int32) &&& 31)).toBitVec = B.toBitVec.sshiftRight 1 := rfl
    rw [this, BitVec.getLsbD_sshiftRight]; simp
  · have : (B >>> ((nI 2 : Int32) &&& 31)).toBitVec = B.toBitVec.sshiftRight 2 := rfl
    rw [this, BitVec.getLsbD_sshiftRight]; simp
theorem bt_or {B : Int32} {n j : Nat} (hn : n < 3) (hj : j < 3) : bt (B ||| ((1 : Int32) <<< ((nI n : Int32) &&& 31))) j = (bt B j || decide (j = n)) := by
  have h3 : n = 0 ∨ n = 1 ∨ n = 2 := by omega
  have g3 : j = 0 ∨ j = 1 ∨ j = 2 := by omega
  unfold bt
  rw [Int32.toBitVec_or, BitVec.getLsbD_or]
  congr 1
  rcases h3 with rfl | rfl | rfl <;> rcases g3 with rfl | rfl | rfl <;> decide
/-- how many of the first three bits are set -/
def bc (B : Int32) : Nat := (if bt B 0 then 1 else 0) + (if bt B 1 then 1 else 0) + (if bt B 2 then 1 else 0)
theorem bc_0 : bc 0 = 0 := by decide
theorem bc_up {B : Int32} {n : Nat} (hn : n < 3) (h : bt B n = false) : bc (B ||| ((1 : Int32) <<< ((nI n : Int32) &&& 31))) = bc B + 1 := by
  unfold bc
  rw [bt_or hn (by decide), bt_or hn (by decide), bt_or hn (by decide)]
  have h3 : n = 0 ∨ n = 1 ∨ n = 2 := by omega
  rcases h3 with rfl | rfl | rfl
  · simp [h]; omega
  · simp [h]; omega
  · simp [h]
theorem bc_le {B : Int32} {n : Nat} (hn : n < 3) (h : bt B n = false) : bc B ≤ 2 := by
  unfold bc
  have h3 : n = 0 ∨ n = 1 ∨ n = 2 := by omega
  rcases h3 with rfl | rfl | rfl
  · simp [h]; split <;> split <;> omega
  · simp [h]; split <;> split <;> omega
  · simp [h]; split <;> split <;> omega
theorem bc_3 {B : Int32} : bc B ≤ 3 := by
  unfold bc; split <;> split <;> split <;> omega
theorem cc_0 {v : Int32} {f1 fcn : Nat → Int32} {n : Nat} (h : ∀ i, i < n → fcn i = f1 (0 + i)) : sp_EM_clockCalled_0 v f1 n = sp_E_4_indexOf_c v fcn n := (find_sim (v := v) (g := fun i => f1 (0 + i)) h).symm
theorem pc_0 {v : Int32} {f2 fpn : Nat → Int32} {n : Nat} (h : ∀ i, i < n → fpn i = f2 (0 + i)) : sp_EM_placeCalled_0 v f2 n = sp_E_4_indexOf_p v fpn n := (find_sim (v := v) (g := fun i => f2 (0 + i)) h).symm
theorem tc_0 {kd tok n u c w : Nat} {vl va tka x27 fa fat fa' fat' wa : Int32} {f1 fcn : Nat → Int32} (hT : TokR kd vl tok va) (hn : ∀ i, i < n → fcn i = f1 (0 + i)) (hA : sp_E_4_toldName_c fa fat kd vl tka fcn n = (u, fa', fat')) (hB : sp_EM_toldClock_0 tka tok va 0 x27 f1 n = (c, w, wa)) :
    (u = 0 ∧ w ≠ 0 ∧ fa' = nI w ∧ fat' = wa ∧ c = 0) ∨ (u = c + 1 ∧ c < n ∧ w = 0 ∧ wa = x27 ∧ fa' = fa ∧ fat' = fat ∧ kd = 2) := by
  have eA : sp_E_4_toldName_c fa fat kd vl tka fcn n = (if kd = 2 then (if sp_E_4_indexOf_c vl fcn n = 0 then (0, 3, tka) else (sp_E_4_indexOf_c vl fcn n - 1 + 1, fa, fat)) else (0, nI (fk kd 2), tka)) := rfl
  have eB : sp_EM_toldClock_0 tka tok va 0 x27 f1 n = (let m := sp_EM_mustBeName tka tok va 0 x27; if sp_EM_isGood m.1 = 0 then (0, m.1, m.2) else if sp_EM_clockCalled_0 va f1 n = 0 then (0, (sp_EM_fails tka tok m.1 m.2 3).1, (sp_EM_fails tka tok m.1 m.2 3).2) else (sp_EM_clockCalled_0 va f1 n - 1, m.1, m.2)) := rfl
  rw [eA] at hA
  rw [eB, must_eq hT] at hB
  by_cases hk : kd = 2
  · subst hk
    have hv := tok_2v hT
    subst hv
    rw [if_pos rfl] at hA hB
    dsimp only at hB
    rw [good_0, if_neg (by decide), cc_0 hn, fails_eq hT] at hB
    have hle : sp_E_4_indexOf_c vl fcn n ≤ n := find_le
    by_cases h0 : sp_E_4_indexOf_c vl fcn n = 0
    · rw [if_pos h0] at hA hB
      simp only [Prod.mk.injEq] at hA hB
      obtain ⟨rfl, rfl, rfl⟩ := hA
      obtain ⟨rfl, rfl, rfl⟩ := hB
      exact Or.inl ⟨rfl, by decide, rfl, rfl, rfl⟩
    · rw [if_neg h0] at hA hB
      simp only [Prod.mk.injEq] at hA hB
      obtain ⟨rfl, rfl, rfl⟩ := hA
      obtain ⟨rfl, rfl, rfl⟩ := hB
      exact Or.inr ⟨rfl, by omega, rfl, rfl, rfl, rfl, rfl⟩
  · rw [if_neg hk] at hA hB
    dsimp only at hB
    rw [good_n (fk_0 (by decide)), if_pos rfl] at hB
    simp only [Prod.mk.injEq] at hA hB
    obtain ⟨rfl, rfl, rfl⟩ := hA
    obtain ⟨rfl, rfl, rfl⟩ := hB
    exact Or.inl ⟨rfl, fk_0 (by decide), rfl, rfl, rfl⟩
theorem tp_0 {kd tok n u c w len pos be' tok' : Nat} {vl va tka x27 fa fat fa' fat' wa at' va' : Int32} {f f2 fpn : Nat → Int32} (hT : TokR kd vl tok va) (hn : ∀ i, i < n → fpn i = f2 (0 + i)) (hA : sp_E_4_toldName_p fa fat kd vl tka fpn n = (u, fa', fat')) (hB : sp_EM_toldPlace_0 len tka pos tok va 0 x27 f2 n f = (c, at', be', tok', va', w, wa)) :
    (u = 0 ∧ w ≠ 0 ∧ fa' = nI w ∧ fat' = wa) ∨ (u = c + 1 ∧ c < n ∧ w = 0 ∧ wa = x27 ∧ fa' = fa ∧ fat' = fat ∧ sp_EM_next len pos f = (at', be', tok', va')) := by
  have eA : sp_E_4_toldName_p fa fat kd vl tka fpn n = (if kd = 2 then (if sp_E_4_indexOf_p vl fpn n = 0 then (0, 3, tka) else (sp_E_4_indexOf_p vl fpn n - 1 + 1, fa, fat)) else (0, nI (fk kd 2), tka)) := rfl
  have eB : sp_EM_toldPlace_0 len tka pos tok va 0 x27 f2 n f = (let m := sp_EM_mustBeName tka tok va 0 x27; let N := sp_EM_next len pos f; if sp_EM_isGood m.1 = 0 then (if sp_EM_isGood m.1 = 0 then (0, tka, pos, tok, va, m.1, m.2) else (0, N.1, N.2.1, N.2.2.1, N.2.2.2, m.1, m.2)) else if sp_EM_placeCalled_0 va f2 n = 0 then (let x := sp_EM_fails tka tok m.1 m.2 3; if sp_EM_isGood x.1 = 0 then (0, tka, pos, tok, va, x.1, x.2) else (0, N.1, N.2.1, N.2.2.1, N.2.2.2, x.1, x.2)) else (if sp_EM_isGood m.1 = 0 then (sp_EM_placeCalled_0 va f2 n - 1, tka, pos, tok, va, m.1, m.2) else (sp_EM_placeCalled_0 va f2 n - 1, N.1, N.2.1, N.2.2.1, N.2.2.2, m.1, m.2))) := rfl
  rw [eA] at hA
  rw [eB, must_eq hT] at hB
  by_cases hk : kd = 2
  · subst hk
    have hv := tok_2v hT
    subst hv
    rw [if_pos rfl] at hA hB
    dsimp only at hB
    rw [good_0, if_neg (by decide), pc_0 hn, fails_eq hT] at hB
    have hle : sp_E_4_indexOf_p vl fpn n ≤ n := find_le
    by_cases h0 : sp_E_4_indexOf_p vl fpn n = 0
    · rw [if_pos h0] at hA hB
      dsimp only at hB
      rw [good_n (fk_0 (by decide)), if_pos rfl] at hB
      simp only [Prod.mk.injEq] at hA hB
      obtain ⟨rfl, rfl, rfl⟩ := hA
      obtain ⟨rfl, rfl, rfl, rfl, rfl, rfl, rfl⟩ := hB
      exact Or.inl ⟨rfl, by decide, rfl, rfl⟩
    · rw [if_neg h0] at hA hB
      rw [if_neg (by decide)] at hB
      simp only [Prod.mk.injEq] at hA hB
      obtain ⟨rfl, rfl, rfl⟩ := hA
      obtain ⟨rfl, rfl, rfl, rfl, rfl, rfl, rfl⟩ := hB
      exact Or.inr ⟨rfl, by omega, rfl, rfl, rfl, rfl, rfl⟩
  · rw [if_neg hk] at hA hB
    dsimp only at hB
    rw [good_n (fk_0 (by decide)), if_pos rfl, if_pos rfl] at hB
    simp only [Prod.mk.injEq] at hA hB
    obtain ⟨rfl, rfl, rfl⟩ := hA
    obtain ⟨rfl, rfl, rfl, rfl, rfl, rfl, rfl⟩ := hB
    exact Or.inl ⟨rfl, fk_0 (by decide), rfl, rfl⟩
theorem fn_0 {kd tok nc np u w len pos be' tok' : Nat} {vl va tka x27 fa fat fa' fat' wa at' va' its : Int32} {f f1 f2 fcn fpn : Nat → Int32} (hT : TokR kd vl tok va) (hc : ∀ i, i < nc → fcn i = f1 (0 + i)) (hp : ∀ i, i < np → fpn i = f2 (0 + i)) (hA : sp_E_4_isNewName fa fat kd vl tka fcn fpn nc np = (u, fa', fat')) (hB : sp_EM_freshName_0 len tka pos tok va 0 x27 f1 f2 nc np f = (its, at', be', tok', va', w, wa)) :
    (u = 0 ∧ w ≠ 0 ∧ fa' = nI w ∧ fat' = wa) ∨ (u = 1 ∧ w = 0 ∧ wa = x27 ∧ fa' = fa ∧ fat' = fat ∧ its = vl ∧ sp_EM_next len pos f = (at', be', tok', va')) := by
  have eA : sp_E_4_isNewName fa fat kd vl tka fcn fpn nc np = (if kd = 2 then (if (if sp_E_4_indexOf_c vl fcn nc = 0 then (if sp_E_4_indexOf_p vl fpn np = 0 then 0 else 1) else 1) = 0 then (1, fa, fat) else (0, 3, tka)) else (0, nI (fk kd 2), tka)) := rfl
  have eB : sp_EM_freshName_0 len tka pos tok va 0 x27 f1 f2 nc np f = (let m := sp_EM_mustBeName tka tok va 0 x27; let N := sp_EM_next len pos f; let x := (if sp_EM_isGood m.1 = 0 then (m.1, m.2) else if sp_EM_clockCalled_0 va f1 nc = 0 then (if sp_EM_placeCalled_0 va f2 np = 0 then (m.1, m.2) else ((sp_EM_fails tka tok m.1 m.2 3).1, (sp_EM_fails tka tok m.1 m.2 3).2)) else ((sp_EM_fails tka tok m.1 m.2 3).1, (sp_EM_fails tka tok m.1 m.2 3).2)); if sp_EM_isGood x.1 = 0 then (va, tka, pos, tok, va, x.1, x.2) else (va, N.1, N.2.1, N.2.2.1, N.2.2.2, x.1, x.2)) := rfl
  rw [eA] at hA
  rw [eB, must_eq hT] at hB
  by_cases hk : kd = 2
  · subst hk
    have hv := tok_2v hT
    subst hv
    rw [if_pos rfl] at hA hB
    dsimp only at hB
    rw [good_0, if_neg (show ¬ (1 : Nat) = 0 by decide), cc_0 hc, pc_0 hp, fails_eq hT] at hB
    by_cases h0 : sp_E_4_indexOf_c vl fcn nc = 0
    · rw [if_pos h0] at hA hB
      by_cases h1 : sp_E_4_indexOf_p vl fpn np = 0
      · rw [if_pos h1] at hA hB
        rw [if_pos rfl] at hA
        dsimp only at hB
        rw [good_0, if_neg (by decide)] at hB
        simp only [Prod.mk.injEq] at hA hB
        obtain ⟨rfl, rfl, rfl⟩ := hA
        obtain ⟨rfl, rfl, rfl, rfl, rfl, rfl, rfl⟩ := hB
        exact Or.inr ⟨rfl, rfl, rfl, rfl, rfl, rfl, rfl⟩
      · rw [if_neg h1] at hA hB
        rw [if_neg (by decide)] at hA
        dsimp only at hB
        rw [good_n (fk_0 (by decide)), if_pos rfl] at hB
        simp only [Prod.mk.injEq] at hA hB
        obtain ⟨rfl, rfl, rfl⟩ := hA
        obtain ⟨rfl, rfl, rfl, rfl, rfl, rfl, rfl⟩ := hB
        exact Or.inl ⟨rfl, by decide, rfl, rfl⟩
    · rw [if_neg h0] at hA hB
      rw [if_neg (by decide)] at hA
      dsimp only at hB
      rw [good_n (fk_0 (by decide)), if_pos rfl] at hB
      simp only [Prod.mk.injEq] at hA hB
      obtain ⟨rfl, rfl, rfl⟩ := hA
      obtain ⟨rfl, rfl, rfl, rfl, rfl, rfl, rfl⟩ := hB
      exact Or.inl ⟨rfl, by decide, rfl, rfl⟩
  · rw [if_neg hk] at hA hB
    dsimp only at hB
    rw [good_n (fk_0 (by decide)), if_pos rfl] at hB
    dsimp only at hB
    rw [good_n (fk_0 (by decide)), if_pos rfl] at hB
    simp only [Prod.mk.injEq] at hA hB
    obtain ⟨rfl, rfl, rfl⟩ := hA
    obtain ⟨rfl, rfl, rfl, rfl, rfl, rfl, rfl⟩ := hB
    exact Or.inl ⟨rfl, fk_0 (by decide), rfl, rfl⟩
theorem cc_1 {v : Int32} {f1 fcn : Nat → Int32} {n : Nat} (h : ∀ i, i < n → fcn i = f1 (3 + i)) : sp_EM_clockCalled_1 v f1 n = sp_E_4_indexOf_c v fcn n := (find_sim (v := v) (g := fun i => f1 (3 + i)) h).symm
theorem pc_1 {v : Int32} {f2 fpn : Nat → Int32} {n : Nat} (h : ∀ i, i < n → fpn i = f2 (8 + i)) : sp_EM_placeCalled_1 v f2 n = sp_E_4_indexOf_p v fpn n := (find_sim (v := v) (g := fun i => f2 (8 + i)) h).symm
theorem tc_1 {kd tok n u c w : Nat} {vl va tka x27 fa fat fa' fat' wa : Int32} {f1 fcn : Nat → Int32} (hT : TokR kd vl tok va) (hn : ∀ i, i < n → fcn i = f1 (3 + i)) (hA : sp_E_4_toldName_c fa fat kd vl tka fcn n = (u, fa', fat')) (hB : sp_EM_toldClock_1 tka tok va 0 x27 f1 n = (c, w, wa)) :
    (u = 0 ∧ w ≠ 0 ∧ fa' = nI w ∧ fat' = wa ∧ c = 0) ∨ (u = c + 1 ∧ c < n ∧ w = 0 ∧ wa = x27 ∧ fa' = fa ∧ fat' = fat ∧ kd = 2) := by
  have eA : sp_E_4_toldName_c fa fat kd vl tka fcn n = (if kd = 2 then (if sp_E_4_indexOf_c vl fcn n = 0 then (0, 3, tka) else (sp_E_4_indexOf_c vl fcn n - 1 + 1, fa, fat)) else (0, nI (fk kd 2), tka)) := rfl
  have eB : sp_EM_toldClock_1 tka tok va 0 x27 f1 n = (let m := sp_EM_mustBeName tka tok va 0 x27; if sp_EM_isGood m.1 = 0 then (0, m.1, m.2) else if sp_EM_clockCalled_1 va f1 n = 0 then (0, (sp_EM_fails tka tok m.1 m.2 3).1, (sp_EM_fails tka tok m.1 m.2 3).2) else (sp_EM_clockCalled_1 va f1 n - 1, m.1, m.2)) := rfl
  rw [eA] at hA
  rw [eB, must_eq hT] at hB
  by_cases hk : kd = 2
  · subst hk
    have hv := tok_2v hT
    subst hv
    rw [if_pos rfl] at hA hB
    dsimp only at hB
    rw [good_0, if_neg (by decide), cc_1 hn, fails_eq hT] at hB
    have hle : sp_E_4_indexOf_c vl fcn n ≤ n := find_le
    by_cases h0 : sp_E_4_indexOf_c vl fcn n = 0
    · rw [if_pos h0] at hA hB
      simp only [Prod.mk.injEq] at hA hB
      obtain ⟨rfl, rfl, rfl⟩ := hA
      obtain ⟨rfl, rfl, rfl⟩ := hB
      exact Or.inl ⟨rfl, by decide, rfl, rfl, rfl⟩
    · rw [if_neg h0] at hA hB
      simp only [Prod.mk.injEq] at hA hB
      obtain ⟨rfl, rfl, rfl⟩ := hA
      obtain ⟨rfl, rfl, rfl⟩ := hB
      exact Or.inr ⟨rfl, by omega, rfl, rfl, rfl, rfl, rfl⟩
  · rw [if_neg hk] at hA hB
    dsimp only at hB
    rw [good_n (fk_0 (by decide)), if_pos rfl] at hB
    simp only [Prod.mk.injEq] at hA hB
    obtain ⟨rfl, rfl, rfl⟩ := hA
    obtain ⟨rfl, rfl, rfl⟩ := hB
    exact Or.inl ⟨rfl, fk_0 (by decide), rfl, rfl, rfl⟩
theorem tp_1 {kd tok n u c w len pos be' tok' : Nat} {vl va tka x27 fa fat fa' fat' wa at' va' : Int32} {f f2 fpn : Nat → Int32} (hT : TokR kd vl tok va) (hn : ∀ i, i < n → fpn i = f2 (8 + i)) (hA : sp_E_4_toldName_p fa fat kd vl tka fpn n = (u, fa', fat')) (hB : sp_EM_toldPlace_1 len tka pos tok va 0 x27 f2 n f = (c, at', be', tok', va', w, wa)) :
    (u = 0 ∧ w ≠ 0 ∧ fa' = nI w ∧ fat' = wa) ∨ (u = c + 1 ∧ c < n ∧ w = 0 ∧ wa = x27 ∧ fa' = fa ∧ fat' = fat ∧ sp_EM_next len pos f = (at', be', tok', va')) := by
  have eA : sp_E_4_toldName_p fa fat kd vl tka fpn n = (if kd = 2 then (if sp_E_4_indexOf_p vl fpn n = 0 then (0, 3, tka) else (sp_E_4_indexOf_p vl fpn n - 1 + 1, fa, fat)) else (0, nI (fk kd 2), tka)) := rfl
  have eB : sp_EM_toldPlace_1 len tka pos tok va 0 x27 f2 n f = (let m := sp_EM_mustBeName tka tok va 0 x27; let N := sp_EM_next len pos f; if sp_EM_isGood m.1 = 0 then (if sp_EM_isGood m.1 = 0 then (0, tka, pos, tok, va, m.1, m.2) else (0, N.1, N.2.1, N.2.2.1, N.2.2.2, m.1, m.2)) else if sp_EM_placeCalled_1 va f2 n = 0 then (let x := sp_EM_fails tka tok m.1 m.2 3; if sp_EM_isGood x.1 = 0 then (0, tka, pos, tok, va, x.1, x.2) else (0, N.1, N.2.1, N.2.2.1, N.2.2.2, x.1, x.2)) else (if sp_EM_isGood m.1 = 0 then (sp_EM_placeCalled_1 va f2 n - 1, tka, pos, tok, va, m.1, m.2) else (sp_EM_placeCalled_1 va f2 n - 1, N.1, N.2.1, N.2.2.1, N.2.2.2, m.1, m.2))) := rfl
  rw [eA] at hA
  rw [eB, must_eq hT] at hB
  by_cases hk : kd = 2
  · subst hk
    have hv := tok_2v hT
    subst hv
    rw [if_pos rfl] at hA hB
    dsimp only at hB
    rw [good_0, if_neg (by decide), pc_1 hn, fails_eq hT] at hB
    have hle : sp_E_4_indexOf_p vl fpn n ≤ n := find_le
    by_cases h0 : sp_E_4_indexOf_p vl fpn n = 0
    · rw [if_pos h0] at hA hB
      dsimp only at hB
      rw [good_n (fk_0 (by decide)), if_pos rfl] at hB
      simp only [Prod.mk.injEq] at hA hB
      obtain ⟨rfl, rfl, rfl⟩ := hA
      obtain ⟨rfl, rfl, rfl, rfl, rfl, rfl, rfl⟩ := hB
      exact Or.inl ⟨rfl, by decide, rfl, rfl⟩
    · rw [if_neg h0] at hA hB
      rw [if_neg (by decide)] at hB
      simp only [Prod.mk.injEq] at hA hB
      obtain ⟨rfl, rfl, rfl⟩ := hA
      obtain ⟨rfl, rfl, rfl, rfl, rfl, rfl, rfl⟩ := hB
      exact Or.inr ⟨rfl, by omega, rfl, rfl, rfl, rfl, rfl⟩
  · rw [if_neg hk] at hA hB
    dsimp only at hB
    rw [good_n (fk_0 (by decide)), if_pos rfl, if_pos rfl] at hB
    simp only [Prod.mk.injEq] at hA hB
    obtain ⟨rfl, rfl, rfl⟩ := hA
    obtain ⟨rfl, rfl, rfl, rfl, rfl, rfl, rfl⟩ := hB
    exact Or.inl ⟨rfl, fk_0 (by decide), rfl, rfl⟩
theorem fn_1 {kd tok nc np u w len pos be' tok' : Nat} {vl va tka x27 fa fat fa' fat' wa at' va' its : Int32} {f f1 f2 fcn fpn : Nat → Int32} (hT : TokR kd vl tok va) (hc : ∀ i, i < nc → fcn i = f1 (3 + i)) (hp : ∀ i, i < np → fpn i = f2 (8 + i)) (hA : sp_E_4_isNewName fa fat kd vl tka fcn fpn nc np = (u, fa', fat')) (hB : sp_EM_freshName_1 len tka pos tok va 0 x27 f1 f2 nc np f = (its, at', be', tok', va', w, wa)) :
    (u = 0 ∧ w ≠ 0 ∧ fa' = nI w ∧ fat' = wa) ∨ (u = 1 ∧ w = 0 ∧ wa = x27 ∧ fa' = fa ∧ fat' = fat ∧ its = vl ∧ sp_EM_next len pos f = (at', be', tok', va')) := by
  have eA : sp_E_4_isNewName fa fat kd vl tka fcn fpn nc np = (if kd = 2 then (if (if sp_E_4_indexOf_c vl fcn nc = 0 then (if sp_E_4_indexOf_p vl fpn np = 0 then 0 else 1) else 1) = 0 then (1, fa, fat) else (0, 3, tka)) else (0, nI (fk kd 2), tka)) := rfl
  have eB : sp_EM_freshName_1 len tka pos tok va 0 x27 f1 f2 nc np f = (let m := sp_EM_mustBeName tka tok va 0 x27; let N := sp_EM_next len pos f; let x := (if sp_EM_isGood m.1 = 0 then (m.1, m.2) else if sp_EM_clockCalled_1 va f1 nc = 0 then (if sp_EM_placeCalled_1 va f2 np = 0 then (m.1, m.2) else ((sp_EM_fails tka tok m.1 m.2 3).1, (sp_EM_fails tka tok m.1 m.2 3).2)) else ((sp_EM_fails tka tok m.1 m.2 3).1, (sp_EM_fails tka tok m.1 m.2 3).2)); if sp_EM_isGood x.1 = 0 then (va, tka, pos, tok, va, x.1, x.2) else (va, N.1, N.2.1, N.2.2.1, N.2.2.2, x.1, x.2)) := rfl
  rw [eA] at hA
  rw [eB, must_eq hT] at hB
  by_cases hk : kd = 2
  · subst hk
    have hv := tok_2v hT
    subst hv
    rw [if_pos rfl] at hA hB
    dsimp only at hB
    rw [good_0, if_neg (show ¬ (1 : Nat) = 0 by decide), cc_1 hc, pc_1 hp, fails_eq hT] at hB
    by_cases h0 : sp_E_4_indexOf_c vl fcn nc = 0
    · rw [if_pos h0] at hA hB
      by_cases h1 : sp_E_4_indexOf_p vl fpn np = 0
      · rw [if_pos h1] at hA hB
        rw [if_pos rfl] at hA
        dsimp only at hB
        rw [good_0, if_neg (by decide)] at hB
        simp only [Prod.mk.injEq] at hA hB
        obtain ⟨rfl, rfl, rfl⟩ := hA
        obtain ⟨rfl, rfl, rfl, rfl, rfl, rfl, rfl⟩ := hB
        exact Or.inr ⟨rfl, rfl, rfl, rfl, rfl, rfl, rfl⟩
      · rw [if_neg h1] at hA hB
        rw [if_neg (by decide)] at hA
        dsimp only at hB
        rw [good_n (fk_0 (by decide)), if_pos rfl] at hB
        simp only [Prod.mk.injEq] at hA hB
        obtain ⟨rfl, rfl, rfl⟩ := hA
        obtain ⟨rfl, rfl, rfl, rfl, rfl, rfl, rfl⟩ := hB
        exact Or.inl ⟨rfl, by decide, rfl, rfl⟩
    · rw [if_neg h0] at hA hB
      rw [if_neg (by decide)] at hA
      dsimp only at hB
      rw [good_n (fk_0 (by decide)), if_pos rfl] at hB
      simp only [Prod.mk.injEq] at hA hB
      obtain ⟨rfl, rfl, rfl⟩ := hA
      obtain ⟨rfl, rfl, rfl, rfl, rfl, rfl, rfl⟩ := hB
      exact Or.inl ⟨rfl, by decide, rfl, rfl⟩
  · rw [if_neg hk] at hA hB
    dsimp only at hB
    rw [good_n (fk_0 (by decide)), if_pos rfl] at hB
    dsimp only at hB
    rw [good_n (fk_0 (by decide)), if_pos rfl] at hB
    simp only [Prod.mk.injEq] at hA hB
    obtain ⟨rfl, rfl, rfl⟩ := hA
    obtain ⟨rfl, rfl, rfl, rfl, rfl, rfl, rfl⟩ := hB
    exact Or.inl ⟨rfl, fk_0 (by decide), rfl, rfl⟩
/-- a condition of an edge: what the class reads and what the reference reads -/
theorem rc0_0 {f fw fcn f1 f11 : Nat → Int32} (hw : ∀ i, i < 8 → fw i = WW i) (hf : ∀ i, f i ≠ -1) {len pos nc a0 : Nat} (hl : len ≤ 900) (hp : pos ≤ len) (hn : ∀ i, i < nc → fcn i = f1 (0 + i)) {vl fa fat x27 : Int32} {q9 q10 : Nat → Nat}
    {p1 k1 u p2 k2 h p3 k3 p4 k4 : Nat} {v1 a1 fa1 fat1 v2 a2 fa2 fat2 v3 a3 v4 a4 : Int32} (h1 : sp_E_4_advance len pos vl f fw = (p1, k1, v1, a1)) (h2 : sp_E_4_toldName_c fa fat k1 v1 a1 fcn nc = (u, fa1, fat1)) (h3 : sp_E_4_advance len p1 v1 f fw = (p2, k2, v2, a2)) (h4 : sp_E_4_readHow fa1 fat1 len p2 k2 v2 a2 f fw 0 = (h, fa2, fat2, p3, k3, v3, a3)) (h5 : sp_E_4_advance len p3 v3 f fw = (p4, k4, v4, a4))
    {z10 z9 : Nat → Nat} {z11 : Nat → Int32} {z20 z23 z27 : Int32} {z21 z22 z26 : Nat} (hB : sp_EM_readCondition0_0 len pos 0 x27 f1 q9 q10 f11 nc f a0 = (z10, z11, z9, z20, z21, z22, z23, z26, z27)) :
    (u = 0 ∧ z26 ≠ 0 ∧ fa1 = nI z26 ∧ fat1 = z27) ∨ (u ≠ 0 ∧ h = 0 ∧ z26 ≠ 0 ∧ fa2 = nI z26 ∧ fat2 = z27) ∨ (u ≠ 0 ∧ h ≠ 0 ∧ ¬ k3 = 3 ∧ z26 = fk k3 2 ∧ z27 = a3) ∨ (u ≠ 0 ∧ h ≠ 0 ∧ k3 = 3 ∧ ¬ v3 ≤ 20 ∧ z26 = 4 ∧ z27 = a3) ∨
    (u ≠ 0 ∧ h ≠ 0 ∧ k3 = 3 ∧ v3 ≤ 20 ∧ z26 = 0 ∧ z27 = x27 ∧ fa2 = fa ∧ fat2 = fat ∧ u - 1 < nc ∧ h ≤ 5 ∧ z9 = updN q9 a0 (u - 1) ∧ z10 = updN q10 a0 (h - 1) ∧ z11 = upd f11 a0 v3 ∧ (∃ g, TS len g p4 k4 v4 a4 z21 z22 z23 z20 ∧ pos ≤ g)) := by
  obtain ⟨t1, w1, g1, n1, s1, l1⟩ := adv_ex hw hf hl hp h1
  obtain ⟨c, w, wa, e2⟩ : ∃ c w wa, sp_EM_toldClock_0 a1 t1 w1 0 x27 f1 nc = (c, w, wa) := ⟨_, _, _, rfl⟩
  have hp1 := s1.le
  rcases tc_0 s1.tok hn h2 e2 with ⟨rfl, hw0, r1, r2, rfl⟩ | ⟨rfl, hc, rfl, rfl, rfl, rfl, rfl⟩
  · refine Or.inl ⟨rfl, ?_⟩
    simp [sp_EM_readCondition0_0, slet, n1, e2, good_n hw0] at hB
    obtain ⟨-, -, -, -, -, -, -, rfl, rfl⟩ := hB
    exact ⟨hw0, r1, r2⟩
  obtain ⟨t2, w2, g2, n2, s2, l2⟩ := adv_ex hw hf hl hp1 h3
  have hp2 := s2.le
  have i60 := sign_iff s2.tok (c := 60) (j := 4) (Or.inl ⟨rfl, rfl⟩)
  have i61 := sign_iff s2.tok (c := 61) (j := 5) (Or.inr (Or.inl ⟨rfl, rfl⟩))
  have i62 := sign_iff s2.tok (c := 62) (j := 6) (Or.inr (Or.inr (Or.inl ⟨rfl, rfl⟩)))
  have hfl := fails_eq s2.tok
  refine Or.inr ?_
  have hu : c + 1 ≠ 0 := by omega
  -- behind the sign
  have fin : ∀ {pj kj : Nat} {vj aj : Int32} {tj : Nat} {wj : Int32} {gj hj : Nat}, TS len gj pj kj vj aj pj tj wj aj → pos ≤ gj → hj ≠ 0 → hj ≤ 5 → (h, fa2, fat2, p3, k3, v3, a3) = (hj, fa1, fat1, pj, kj, vj, aj) →
      (let x := (if tj = 2 then (if wj ≤ 20 then (0, wa) else sp_EM_fails aj tj 0 wa 4) else sp_EM_fails aj tj 0 wa 2); let N := sp_EM_next len pj f; if sp_EM_isGood x.1 = 0 then (updN q10 a0 (hj - 1), upd f11 a0 wj, updN q9 a0 c, aj, pj, tj, wj, x.1, x.2) else (updN q10 a0 (hj - 1), upd f11 a0 wj, updN q9 a0 c, N.1, N.2.1, N.2.2.1, N.2.2.2, x.1, x.2)) = (z10, z11, z9, z20, z21, z22, z23, z26, z27) →
      (c + 1 ≠ 0 ∧ h = 0 ∧ z26 ≠ 0 ∧ fa2 = nI z26 ∧ fat2 = z27) ∨ (c + 1 ≠ 0 ∧ h ≠ 0 ∧ ¬ k3 = 3 ∧ z26 = fk k3 2 ∧ z27 = a3) ∨ (c + 1 ≠ 0 ∧ h ≠ 0 ∧ k3 = 3 ∧ ¬ v3 ≤ 20 ∧ z26 = 4 ∧ z27 = a3) ∨
      (c + 1 ≠ 0 ∧ h ≠ 0 ∧ k3 = 3 ∧ v3 ≤ 20 ∧ z26 = 0 ∧ z27 = wa ∧ fa2 = fa1 ∧ fat2 = fat1 ∧ c + 1 - 1 < nc ∧ h ≤ 5 ∧ z9 = updN q9 a0 (c + 1 - 1) ∧ z10 = updN q10 a0 (h - 1) ∧ z11 = upd f11 a0 v3 ∧ (∃ g, TS len g p4 k4 v4 a4 z21 z22 z23 z20 ∧ pos ≤ g)) := by
    intro pj kj vj aj tj wj gj hj sj lj hj0 hj5 eh hX
    simp only [Prod.mk.injEq] at eh
    obtain ⟨rfl, rfl, rfl, rfl, rfl, rfl, rfl⟩ := eh
    by_cases k3e : k3 = 3
    · subst k3e
      have ht := (tok_3 sj.tok).mp rfl
      have hv := tok_3v sj.tok
      subst hv
      rw [if_pos ht] at hX
      by_cases v2e : v3 ≤ 20
      · obtain ⟨t5, w5, g5, n5, s5, l5⟩ := adv_ex hw hf hl sj.le h5
        rw [if_pos v2e] at hX
        simp [good_0, n5] at hX
        obtain ⟨rfl, rfl, rfl, rfl, rfl, rfl, rfl, rfl, rfl⟩ := hX
        exact Or.inr (Or.inr (Or.inr ⟨hu, hj0, rfl, v2e, rfl, rfl, rfl, rfl, by omega, hj5, rfl, rfl, rfl, g5, s5, by have := sj.gle; omega⟩))
      · rw [if_neg v2e, fails_eq sj.tok] at hX
        simp [fk, sp_EM_isGood] at hX
        obtain ⟨rfl, rfl, rfl, rfl, rfl, rfl, rfl, rfl, rfl⟩ := hX
        exact Or.inr (Or.inr (Or.inl ⟨hu, hj0, rfl, v2e, rfl, rfl⟩))
    · rw [if_neg (fun z => k3e ((tok_3 sj.tok).mpr z)), fails_eq sj.tok] at hX
      have hz := good_n (fk_0 (k := k3) (kind := 2) (by decide))
      simp [hz] at hX
      obtain ⟨rfl, rfl, rfl, rfl, rfl, rfl, rfl, rfl, rfl⟩ := hX
      exact Or.inr (Or.inl ⟨hu, hj0, k3e, rfl, rfl⟩)
  by_cases q4 : k2 = 4
  · subst q4
    obtain ⟨⟨p5, k5, v5, a5⟩, e5⟩ : ∃ x, sp_E_4_advance len p2 v2 f fw = x := ⟨_, rfl⟩
    obtain ⟨t5, w5, g5, n5, s5, l5⟩ := adv_ex hw hf hl hp2 e5
    have i5 := sign_iff s5.tok (c := 61) (j := 5) (Or.inr (Or.inl ⟨rfl, rfl⟩))
    by_cases q5 : k5 = 5
    · obtain ⟨⟨p6, k6, v6, a6⟩, e6⟩ : ∃ x, sp_E_4_advance len p5 v5 f fw = x := ⟨_, rfl⟩
      obtain ⟨t6, w6, g6, n6, s6, l6⟩ := adv_ex hw hf hl s5.le e6
      refine fin (hj := 2) s6 (by have := s5.gle; have := s2.gle; have := s1.gle; omega) (by decide) (by decide) ?_ ?_
      · rw [← h4]; simp [sp_E_4_readHow, slet, e5, q5, e6]
      · rw [← hB]; simp [sp_EM_readCondition0_0, slet, n1, e2, good_0, n2, i60, i61, i62, n5, i5, q5, n6]
    · refine fin (hj := 1) s5 (by have := s2.gle; have := s1.gle; omega) (by decide) (by decide) ?_ ?_
      · rw [← h4]; simp [sp_E_4_readHow, slet, e5, q5]
      · rw [← hB]; simp [sp_EM_readCondition0_0, slet, n1, e2, good_0, n2, i60, i61, i62, n5, i5, q5]
  by_cases q5 : k2 = 5
  · subst q5
    obtain ⟨⟨p5, k5, v5, a5⟩, e5⟩ : ∃ x, sp_E_4_advance len p2 v2 f fw = x := ⟨_, rfl⟩
    obtain ⟨t5, w5, g5, n5, s5, l5⟩ := adv_ex hw hf hl hp2 e5
    refine fin (hj := 3) s5 (by have := s2.gle; have := s1.gle; omega) (by decide) (by decide) ?_ ?_
    · rw [← h4]; simp [sp_E_4_readHow, slet, e5]
    · rw [← hB]; simp [sp_EM_readCondition0_0, slet, n1, e2, good_0, n2, i60, i61, i62, n5]
  by_cases q6 : k2 = 6
  · subst q6
    obtain ⟨⟨p5, k5, v5, a5⟩, e5⟩ : ∃ x, sp_E_4_advance len p2 v2 f fw = x := ⟨_, rfl⟩
    obtain ⟨t5, w5, g5, n5, s5, l5⟩ := adv_ex hw hf hl hp2 e5
    have i5 := sign_iff s5.tok (c := 61) (j := 5) (Or.inr (Or.inl ⟨rfl, rfl⟩))
    by_cases q5 : k5 = 5
    · obtain ⟨⟨p6, k6, v6, a6⟩, e6⟩ : ∃ x, sp_E_4_advance len p5 v5 f fw = x := ⟨_, rfl⟩
      obtain ⟨t6, w6, g6, n6, s6, l6⟩ := adv_ex hw hf hl s5.le e6
      refine fin (hj := 4) s6 (by have := s5.gle; have := s2.gle; have := s1.gle; omega) (by decide) (by decide) ?_ ?_
      · rw [← h4]; simp [sp_E_4_readHow, slet, e5, q5, e6]
      · rw [← hB]; simp [sp_EM_readCondition0_0, slet, n1, e2, good_0, n2, i60, i61, i62, n5, i5, q5, n6]
    · refine fin (hj := 5) s5 (by have := s2.gle; have := s1.gle; omega) (by decide) (by decide) ?_ ?_
      · rw [← h4]; simp [sp_E_4_readHow, slet, e5, q5]
      · rw [← hB]; simp [sp_EM_readCondition0_0, slet, n1, e2, good_0, n2, i60, i61, i62, n5, i5, q5]
  · refine Or.inl ⟨hu, ?_⟩
    have hz := good_n (fk_0 (k := k2) (kind := 2) (by decide))
    simp [sp_E_4_readHow, slet, q4, q5, q6, refT_eq] at h4
    obtain ⟨rfl, rfl, rfl, -⟩ := h4
    simp [sp_EM_readCondition0_0, slet, n1, e2, good_0, n2, i60, i61, i62, q4, q5, q6, hfl, hz] at hB
    obtain ⟨-, -, -, -, -, -, -, rfl, rfl⟩ := hB
    exact ⟨rfl, fk_0 (by decide), rfl, rfl⟩
/-- a condition of an edge: what the class reads and what the reference reads -/
theorem rc0_1 {f fw fcn f1 f11 : Nat → Int32} (hw : ∀ i, i < 8 → fw i = WW i) (hf : ∀ i, f i ≠ -1) {len pos nc a0 : Nat} (hl : len ≤ 900) (hp : pos ≤ len) (hn : ∀ i, i < nc → fcn i = f1 (3 + i)) {vl fa fat x27 : Int32} {q9 q10 : Nat → Nat}
    {p1 k1 u p2 k2 h p3 k3 p4 k4 : Nat} {v1 a1 fa1 fat1 v2 a2 fa2 fat2 v3 a3 v4 a4 : Int32} (h1 : sp_E_4_advance len pos vl f fw = (p1, k1, v1, a1)) (h2 : sp_E_4_toldName_c fa fat k1 v1 a1 fcn nc = (u, fa1, fat1)) (h3 : sp_E_4_advance len p1 v1 f fw = (p2, k2, v2, a2)) (h4 : sp_E_4_readHow fa1 fat1 len p2 k2 v2 a2 f fw 0 = (h, fa2, fat2, p3, k3, v3, a3)) (h5 : sp_E_4_advance len p3 v3 f fw = (p4, k4, v4, a4))
    {z10 z9 : Nat → Nat} {z11 : Nat → Int32} {z20 z23 z27 : Int32} {z21 z22 z26 : Nat} (hB : sp_EM_readCondition0_1 len pos 0 x27 f1 q9 q10 f11 nc f a0 = (z10, z11, z9, z20, z21, z22, z23, z26, z27)) :
    (u = 0 ∧ z26 ≠ 0 ∧ fa1 = nI z26 ∧ fat1 = z27) ∨ (u ≠ 0 ∧ h = 0 ∧ z26 ≠ 0 ∧ fa2 = nI z26 ∧ fat2 = z27) ∨ (u ≠ 0 ∧ h ≠ 0 ∧ ¬ k3 = 3 ∧ z26 = fk k3 2 ∧ z27 = a3) ∨ (u ≠ 0 ∧ h ≠ 0 ∧ k3 = 3 ∧ ¬ v3 ≤ 20 ∧ z26 = 4 ∧ z27 = a3) ∨
    (u ≠ 0 ∧ h ≠ 0 ∧ k3 = 3 ∧ v3 ≤ 20 ∧ z26 = 0 ∧ z27 = x27 ∧ fa2 = fa ∧ fat2 = fat ∧ u - 1 < nc ∧ h ≤ 5 ∧ z9 = updN q9 a0 (u - 1) ∧ z10 = updN q10 a0 (h - 1) ∧ z11 = upd f11 a0 v3 ∧ (∃ g, TS len g p4 k4 v4 a4 z21 z22 z23 z20 ∧ pos ≤ g)) := by
  obtain ⟨t1, w1, g1, n1, s1, l1⟩ := adv_ex hw hf hl hp h1
  obtain ⟨c, w, wa, e2⟩ : ∃ c w wa, sp_EM_toldClock_1 a1 t1 w1 0 x27 f1 nc = (c, w, wa) := ⟨_, _, _, rfl⟩
  have hp1 := s1.le
  rcases tc_1 s1.tok hn h2 e2 with ⟨rfl, hw0, r1, r2, rfl⟩ | ⟨rfl, hc, rfl, rfl, rfl, rfl, rfl⟩
  · refine Or.inl ⟨rfl, ?_⟩
    simp [sp_EM_readCondition0_1, slet, n1, e2, good_n hw0] at hB
    obtain ⟨-, -, -, -, -, -, -, rfl, rfl⟩ := hB
    exact ⟨hw0, r1, r2⟩
  obtain ⟨t2, w2, g2, n2, s2, l2⟩ := adv_ex hw hf hl hp1 h3
  have hp2 := s2.le
  have i60 := sign_iff s2.tok (c := 60) (j := 4) (Or.inl ⟨rfl, rfl⟩)
  have i61 := sign_iff s2.tok (c := 61) (j := 5) (Or.inr (Or.inl ⟨rfl, rfl⟩))
  have i62 := sign_iff s2.tok (c := 62) (j := 6) (Or.inr (Or.inr (Or.inl ⟨rfl, rfl⟩)))
  have hfl := fails_eq s2.tok
  refine Or.inr ?_
  have hu : c + 1 ≠ 0 := by omega
  -- behind the sign
  have fin : ∀ {pj kj : Nat} {vj aj : Int32} {tj : Nat} {wj : Int32} {gj hj : Nat}, TS len gj pj kj vj aj pj tj wj aj → pos ≤ gj → hj ≠ 0 → hj ≤ 5 → (h, fa2, fat2, p3, k3, v3, a3) = (hj, fa1, fat1, pj, kj, vj, aj) →
      (let x := (if tj = 2 then (if wj ≤ 20 then (0, wa) else sp_EM_fails aj tj 0 wa 4) else sp_EM_fails aj tj 0 wa 2); let N := sp_EM_next len pj f; if sp_EM_isGood x.1 = 0 then (updN q10 a0 (hj - 1), upd f11 a0 wj, updN q9 a0 c, aj, pj, tj, wj, x.1, x.2) else (updN q10 a0 (hj - 1), upd f11 a0 wj, updN q9 a0 c, N.1, N.2.1, N.2.2.1, N.2.2.2, x.1, x.2)) = (z10, z11, z9, z20, z21, z22, z23, z26, z27) →
      (c + 1 ≠ 0 ∧ h = 0 ∧ z26 ≠ 0 ∧ fa2 = nI z26 ∧ fat2 = z27) ∨ (c + 1 ≠ 0 ∧ h ≠ 0 ∧ ¬ k3 = 3 ∧ z26 = fk k3 2 ∧ z27 = a3) ∨ (c + 1 ≠ 0 ∧ h ≠ 0 ∧ k3 = 3 ∧ ¬ v3 ≤ 20 ∧ z26 = 4 ∧ z27 = a3) ∨
      (c + 1 ≠ 0 ∧ h ≠ 0 ∧ k3 = 3 ∧ v3 ≤ 20 ∧ z26 = 0 ∧ z27 = wa ∧ fa2 = fa1 ∧ fat2 = fat1 ∧ c + 1 - 1 < nc ∧ h ≤ 5 ∧ z9 = updN q9 a0 (c + 1 - 1) ∧ z10 = updN q10 a0 (h - 1) ∧ z11 = upd f11 a0 v3 ∧ (∃ g, TS len g p4 k4 v4 a4 z21 z22 z23 z20 ∧ pos ≤ g)) := by
    intro pj kj vj aj tj wj gj hj sj lj hj0 hj5 eh hX
    simp only [Prod.mk.injEq] at eh
    obtain ⟨rfl, rfl, rfl, rfl, rfl, rfl, rfl⟩ := eh
    by_cases k3e : k3 = 3
    · subst k3e
      have ht := (tok_3 sj.tok).mp rfl
      have hv := tok_3v sj.tok
      subst hv
      rw [if_pos ht] at hX
      by_cases v2e : v3 ≤ 20
      · obtain ⟨t5, w5, g5, n5, s5, l5⟩ := adv_ex hw hf hl sj.le h5
        rw [if_pos v2e] at hX
        simp [good_0, n5] at hX
        obtain ⟨rfl, rfl, rfl, rfl, rfl, rfl, rfl, rfl, rfl⟩ := hX
        exact Or.inr (Or.inr (Or.inr ⟨hu, hj0, rfl, v2e, rfl, rfl, rfl, rfl, by omega, hj5, rfl, rfl, rfl, g5, s5, by have := sj.gle; omega⟩))
      · rw [if_neg v2e, fails_eq sj.tok] at hX
        simp [fk, sp_EM_isGood] at hX
        obtain ⟨rfl, rfl, rfl, rfl, rfl, rfl, rfl, rfl, rfl⟩ := hX
        exact Or.inr (Or.inr (Or.inl ⟨hu, hj0, rfl, v2e, rfl, rfl⟩))
    · rw [if_neg (fun z => k3e ((tok_3 sj.tok).mpr z)), fails_eq sj.tok] at hX
      have hz := good_n (fk_0 (k := k3) (kind := 2) (by decide))
      simp [hz] at hX
      obtain ⟨rfl, rfl, rfl, rfl, rfl, rfl, rfl, rfl, rfl⟩ := hX
      exact Or.inr (Or.inl ⟨hu, hj0, k3e, rfl, rfl⟩)
  by_cases q4 : k2 = 4
  · subst q4
    obtain ⟨⟨p5, k5, v5, a5⟩, e5⟩ : ∃ x, sp_E_4_advance len p2 v2 f fw = x := ⟨_, rfl⟩
    obtain ⟨t5, w5, g5, n5, s5, l5⟩ := adv_ex hw hf hl hp2 e5
    have i5 := sign_iff s5.tok (c := 61) (j := 5) (Or.inr (Or.inl ⟨rfl, rfl⟩))
    by_cases q5 : k5 = 5
    · obtain ⟨⟨p6, k6, v6, a6⟩, e6⟩ : ∃ x, sp_E_4_advance len p5 v5 f fw = x := ⟨_, rfl⟩
      obtain ⟨t6, w6, g6, n6, s6, l6⟩ := adv_ex hw hf hl s5.le e6
      refine fin (hj := 2) s6 (by have := s5.gle; have := s2.gle; have := s1.gle; omega) (by decide) (by decide) ?_ ?_
      · rw [← h4]; simp [sp_E_4_readHow, slet, e5, q5, e6]
      · rw [← hB]; simp [sp_EM_readCondition0_1, slet, n1, e2, good_0, n2, i60, i61, i62, n5, i5, q5, n6]
    · refine fin (hj := 1) s5 (by have := s2.gle; have := s1.gle; omega) (by decide) (by decide) ?_ ?_
      · rw [← h4]; simp [sp_E_4_readHow, slet, e5, q5]
      · rw [← hB]; simp [sp_EM_readCondition0_1, slet, n1, e2, good_0, n2, i60, i61, i62, n5, i5, q5]
  by_cases q5 : k2 = 5
  · subst q5
    obtain ⟨⟨p5, k5, v5, a5⟩, e5⟩ : ∃ x, sp_E_4_advance len p2 v2 f fw = x := ⟨_, rfl⟩
    obtain ⟨t5, w5, g5, n5, s5, l5⟩ := adv_ex hw hf hl hp2 e5
    refine fin (hj := 3) s5 (by have := s2.gle; have := s1.gle; omega) (by decide) (by decide) ?_ ?_
    · rw [← h4]; simp [sp_E_4_readHow, slet, e5]
    · rw [← hB]; simp [sp_EM_readCondition0_1, slet, n1, e2, good_0, n2, i60, i61, i62, n5]
  by_cases q6 : k2 = 6
  · subst q6
    obtain ⟨⟨p5, k5, v5, a5⟩, e5⟩ : ∃ x, sp_E_4_advance len p2 v2 f fw = x := ⟨_, rfl⟩
    obtain ⟨t5, w5, g5, n5, s5, l5⟩ := adv_ex hw hf hl hp2 e5
    have i5 := sign_iff s5.tok (c := 61) (j := 5) (Or.inr (Or.inl ⟨rfl, rfl⟩))
    by_cases q5 : k5 = 5
    · obtain ⟨⟨p6, k6, v6, a6⟩, e6⟩ : ∃ x, sp_E_4_advance len p5 v5 f fw = x := ⟨_, rfl⟩
      obtain ⟨t6, w6, g6, n6, s6, l6⟩ := adv_ex hw hf hl s5.le e6
      refine fin (hj := 4) s6 (by have := s5.gle; have := s2.gle; have := s1.gle; omega) (by decide) (by decide) ?_ ?_
      · rw [← h4]; simp [sp_E_4_readHow, slet, e5, q5, e6]
      · rw [← hB]; simp [sp_EM_readCondition0_1, slet, n1, e2, good_0, n2, i60, i61, i62, n5, i5, q5, n6]
    · refine fin (hj := 5) s5 (by have := s2.gle; have := s1.gle; omega) (by decide) (by decide) ?_ ?_
      · rw [← h4]; simp [sp_E_4_readHow, slet, e5, q5]
      · rw [← hB]; simp [sp_EM_readCondition0_1, slet, n1, e2, good_0, n2, i60, i61, i62, n5, i5, q5]
  · refine Or.inl ⟨hu, ?_⟩
    have hz := good_n (fk_0 (k := k2) (kind := 2) (by decide))
    simp [sp_E_4_readHow, slet, q4, q5, q6, refT_eq] at h4
    obtain ⟨rfl, rfl, rfl, -⟩ := h4
    simp [sp_EM_readCondition0_1, slet, n1, e2, good_0, n2, i60, i61, i62, q4, q5, q6, hfl, hz] at hB
    obtain ⟨-, -, -, -, -, -, -, rfl, rfl⟩ := hB
    exact ⟨rfl, fk_0 (by decide), rfl, rfl⟩
/-- a condition of a place -/
theorem rc1_0 {f fw fcn f1 f11 : Nat → Int32} (hw : ∀ i, i < 8 → fw i = WW i) (hf : ∀ i, f i ≠ -1) {len pos nc a0 : Nat} (hl : len ≤ 900) (hp : pos ≤ len) (hn : ∀ i, i < nc → fcn i = f1 (0 + i)) {vl fa fat x27 : Int32} {q9 q10 : Nat → Nat}
    {p1 k1 u p2 k2 h p3 k3 p4 k4 : Nat} {v1 a1 fa1 fat1 v2 a2 fa2 fat2 v3 a3 v4 a4 : Int32} (h1 : sp_E_4_advance len pos vl f fw = (p1, k1, v1, a1)) (h2 : sp_E_4_toldName_c fa fat k1 v1 a1 fcn nc = (u, fa1, fat1)) (h3 : sp_E_4_advance len p1 v1 f fw = (p2, k2, v2, a2)) (h4 : sp_E_4_readHow fa1 fat1 len p2 k2 v2 a2 f fw 1 = (h, fa2, fat2, p3, k3, v3, a3)) (h5 : sp_E_4_advance len p3 v3 f fw = (p4, k4, v4, a4))
    {z10 z9 : Nat → Nat} {z11 : Nat → Int32} {z20 z23 z27 : Int32} {z21 z22 z26 : Nat} (hB : sp_EM_readCondition1_0 len pos 0 x27 f1 q9 q10 f11 nc f a0 = (z10, z11, z9, z20, z21, z22, z23, z26, z27)) :
    (u = 0 ∧ z26 ≠ 0 ∧ fa1 = nI z26 ∧ fat1 = z27) ∨ (u ≠ 0 ∧ h = 0 ∧ z26 ≠ 0 ∧ fa2 = nI z26 ∧ fat2 = z27) ∨ (u ≠ 0 ∧ h ≠ 0 ∧ ¬ k3 = 3 ∧ z26 = fk k3 2 ∧ z27 = a3) ∨ (u ≠ 0 ∧ h ≠ 0 ∧ k3 = 3 ∧ ¬ v3 ≤ 20 ∧ z26 = 4 ∧ z27 = a3) ∨
    (u ≠ 0 ∧ h ≠ 0 ∧ k3 = 3 ∧ v3 ≤ 20 ∧ z26 = 0 ∧ z27 = x27 ∧ fa2 = fa ∧ fat2 = fat ∧ u - 1 < nc ∧ h ≤ 5 ∧ z9 = updN q9 a0 (u - 1) ∧ z10 = updN q10 a0 (h - 1) ∧ z11 = upd f11 a0 v3 ∧ (∃ g, TS len g p4 k4 v4 a4 z21 z22 z23 z20 ∧ pos ≤ g)) := by
  obtain ⟨t1, w1, g1, n1, s1, l1⟩ := adv_ex hw hf hl hp h1
  obtain ⟨c, w, wa, e2⟩ : ∃ c w wa, sp_EM_toldClock_0 a1 t1 w1 0 x27 f1 nc = (c, w, wa) := ⟨_, _, _, rfl⟩
  have hp1 := s1.le
  rcases tc_0 s1.tok hn h2 e2 with ⟨rfl, hw0, r1, r2, rfl⟩ | ⟨rfl, hc, rfl, rfl, rfl, rfl, rfl⟩
  · refine Or.inl ⟨rfl, ?_⟩
    simp [sp_EM_readCondition1_0, slet, n1, e2, good_n hw0] at hB
    obtain ⟨-, -, -, -, -, -, -, rfl, rfl⟩ := hB
    exact ⟨hw0, r1, r2⟩
  obtain ⟨t2, w2, g2, n2, s2, l2⟩ := adv_ex hw hf hl hp1 h3
  have hp2 := s2.le
  have i60 := sign_iff s2.tok (c := 60) (j := 4) (Or.inl ⟨rfl, rfl⟩)
  have i61 := sign_iff s2.tok (c := 61) (j := 5) (Or.inr (Or.inl ⟨rfl, rfl⟩))
  have i62 := sign_iff s2.tok (c := 62) (j := 6) (Or.inr (Or.inr (Or.inl ⟨rfl, rfl⟩)))
  have hfl := fails_eq s2.tok
  refine Or.inr ?_
  have hu : c + 1 ≠ 0 := by omega
  -- behind the sign
  have fin : ∀ {pj kj : Nat} {vj aj : Int32} {tj : Nat} {wj : Int32} {gj hj : Nat}, TS len gj pj kj vj aj pj tj wj aj → pos ≤ gj → hj ≠ 0 → hj ≤ 5 → (h, fa2, fat2, p3, k3, v3, a3) = (hj, fa1, fat1, pj, kj, vj, aj) →
      (let x := (if tj = 2 then (if wj ≤ 20 then (0, wa) else sp_EM_fails aj tj 0 wa 4) else sp_EM_fails aj tj 0 wa 2); let N := sp_EM_next len pj f; if sp_EM_isGood x.1 = 0 then (updN q10 a0 (hj - 1), upd f11 a0 wj, updN q9 a0 c, aj, pj, tj, wj, x.1, x.2) else (updN q10 a0 (hj - 1), upd f11 a0 wj, updN q9 a0 c, N.1, N.2.1, N.2.2.1, N.2.2.2, x.1, x.2)) = (z10, z11, z9, z20, z21, z22, z23, z26, z27) →
      (c + 1 ≠ 0 ∧ h = 0 ∧ z26 ≠ 0 ∧ fa2 = nI z26 ∧ fat2 = z27) ∨ (c + 1 ≠ 0 ∧ h ≠ 0 ∧ ¬ k3 = 3 ∧ z26 = fk k3 2 ∧ z27 = a3) ∨ (c + 1 ≠ 0 ∧ h ≠ 0 ∧ k3 = 3 ∧ ¬ v3 ≤ 20 ∧ z26 = 4 ∧ z27 = a3) ∨
      (c + 1 ≠ 0 ∧ h ≠ 0 ∧ k3 = 3 ∧ v3 ≤ 20 ∧ z26 = 0 ∧ z27 = wa ∧ fa2 = fa1 ∧ fat2 = fat1 ∧ c + 1 - 1 < nc ∧ h ≤ 5 ∧ z9 = updN q9 a0 (c + 1 - 1) ∧ z10 = updN q10 a0 (h - 1) ∧ z11 = upd f11 a0 v3 ∧ (∃ g, TS len g p4 k4 v4 a4 z21 z22 z23 z20 ∧ pos ≤ g)) := by
    intro pj kj vj aj tj wj gj hj sj lj hj0 hj5 eh hX
    simp only [Prod.mk.injEq] at eh
    obtain ⟨rfl, rfl, rfl, rfl, rfl, rfl, rfl⟩ := eh
    by_cases k3e : k3 = 3
    · subst k3e
      have ht := (tok_3 sj.tok).mp rfl
      have hv := tok_3v sj.tok
      subst hv
      rw [if_pos ht] at hX
      by_cases v2e : v3 ≤ 20
      · obtain ⟨t5, w5, g5, n5, s5, l5⟩ := adv_ex hw hf hl sj.le h5
        rw [if_pos v2e] at hX
        simp [good_0, n5] at hX
        obtain ⟨rfl, rfl, rfl, rfl, rfl, rfl, rfl, rfl, rfl⟩ := hX
        exact Or.inr (Or.inr (Or.inr ⟨hu, hj0, rfl, v2e, rfl, rfl, rfl, rfl, by omega, hj5, rfl, rfl, rfl, g5, s5, by have := sj.gle; omega⟩))
      · rw [if_neg v2e, fails_eq sj.tok] at hX
        simp [fk, sp_EM_isGood] at hX
        obtain ⟨rfl, rfl, rfl, rfl, rfl, rfl, rfl, rfl, rfl⟩ := hX
        exact Or.inr (Or.inr (Or.inl ⟨hu, hj0, rfl, v2e, rfl, rfl⟩))
    · rw [if_neg (fun z => k3e ((tok_3 sj.tok).mpr z)), fails_eq sj.tok] at hX
      have hz := good_n (fk_0 (k := k3) (kind := 2) (by decide))
      simp [hz] at hX
      obtain ⟨rfl, rfl, rfl, rfl, rfl, rfl, rfl, rfl, rfl⟩ := hX
      exact Or.inr (Or.inl ⟨hu, hj0, k3e, rfl, rfl⟩)
  by_cases q4 : k2 = 4
  · subst q4
    obtain ⟨⟨p5, k5, v5, a5⟩, e5⟩ : ∃ x, sp_E_4_advance len p2 v2 f fw = x := ⟨_, rfl⟩
    obtain ⟨t5, w5, g5, n5, s5, l5⟩ := adv_ex hw hf hl hp2 e5
    have i5 := sign_iff s5.tok (c := 61) (j := 5) (Or.inr (Or.inl ⟨rfl, rfl⟩))
    by_cases q5 : k5 = 5
    · obtain ⟨⟨p6, k6, v6, a6⟩, e6⟩ : ∃ x, sp_E_4_advance len p5 v5 f fw = x := ⟨_, rfl⟩
      obtain ⟨t6, w6, g6, n6, s6, l6⟩ := adv_ex hw hf hl s5.le e6
      refine fin (hj := 2) s6 (by have := s5.gle; have := s2.gle; have := s1.gle; omega) (by decide) (by decide) ?_ ?_
      · rw [← h4]; simp [sp_E_4_readHow, slet, e5, q5, e6]
      · rw [← hB]; simp [sp_EM_readCondition1_0, slet, n1, e2, good_0, n2, i60, i61, i62, n5, i5, q5, n6]
    · refine fin (hj := 1) s5 (by have := s2.gle; have := s1.gle; omega) (by decide) (by decide) ?_ ?_
      · rw [← h4]; simp [sp_E_4_readHow, slet, e5, q5]
      · rw [← hB]; simp [sp_EM_readCondition1_0, slet, n1, e2, good_0, n2, i60, i61, i62, n5, i5, q5]
  · refine Or.inl ⟨hu, ?_⟩
    have hz := good_n (fk_0 (k := k2) (kind := 2) (by decide))
    simp [sp_E_4_readHow, slet, q4, refT_eq] at h4
    obtain ⟨rfl, rfl, rfl, -⟩ := h4
    simp [sp_EM_readCondition1_0, slet, n1, e2, good_0, n2, i60, i61, i62, q4, hfl, hz] at hB
    obtain ⟨-, -, -, -, -, -, -, rfl, rfl⟩ := hB
    exact ⟨rfl, fk_0 (by decide), rfl, rfl⟩
/-- a condition of a place -/
theorem rc1_1 {f fw fcn f1 f11 : Nat → Int32} (hw : ∀ i, i < 8 → fw i = WW i) (hf : ∀ i, f i ≠ -1) {len pos nc a0 : Nat} (hl : len ≤ 900) (hp : pos ≤ len) (hn : ∀ i, i < nc → fcn i = f1 (3 + i)) {vl fa fat x27 : Int32} {q9 q10 : Nat → Nat}
    {p1 k1 u p2 k2 h p3 k3 p4 k4 : Nat} {v1 a1 fa1 fat1 v2 a2 fa2 fat2 v3 a3 v4 a4 : Int32} (h1 : sp_E_4_advance len pos vl f fw = (p1, k1, v1, a1)) (h2 : sp_E_4_toldName_c fa fat k1 v1 a1 fcn nc = (u, fa1, fat1)) (h3 : sp_E_4_advance len p1 v1 f fw = (p2, k2, v2, a2)) (h4 : sp_E_4_readHow fa1 fat1 len p2 k2 v2 a2 f fw 1 = (h, fa2, fat2, p3, k3, v3, a3)) (h5 : sp_E_4_advance len p3 v3 f fw = (p4, k4, v4, a4))
    {z10 z9 : Nat → Nat} {z11 : Nat → Int32} {z20 z23 z27 : Int32} {z21 z22 z26 : Nat} (hB : sp_EM_readCondition1_1 len pos 0 x27 f1 q9 q10 f11 nc f a0 = (z10, z11, z9, z20, z21, z22, z23, z26, z27)) :
    (u = 0 ∧ z26 ≠ 0 ∧ fa1 = nI z26 ∧ fat1 = z27) ∨ (u ≠ 0 ∧ h = 0 ∧ z26 ≠ 0 ∧ fa2 = nI z26 ∧ fat2 = z27) ∨ (u ≠ 0 ∧ h ≠ 0 ∧ ¬ k3 = 3 ∧ z26 = fk k3 2 ∧ z27 = a3) ∨ (u ≠ 0 ∧ h ≠ 0 ∧ k3 = 3 ∧ ¬ v3 ≤ 20 ∧ z26 = 4 ∧ z27 = a3) ∨
    (u ≠ 0 ∧ h ≠ 0 ∧ k3 = 3 ∧ v3 ≤ 20 ∧ z26 = 0 ∧ z27 = x27 ∧ fa2 = fa ∧ fat2 = fat ∧ u - 1 < nc ∧ h ≤ 5 ∧ z9 = updN q9 a0 (u - 1) ∧ z10 = updN q10 a0 (h - 1) ∧ z11 = upd f11 a0 v3 ∧ (∃ g, TS len g p4 k4 v4 a4 z21 z22 z23 z20 ∧ pos ≤ g)) := by
  obtain ⟨t1, w1, g1, n1, s1, l1⟩ := adv_ex hw hf hl hp h1
  obtain ⟨c, w, wa, e2⟩ : ∃ c w wa, sp_EM_toldClock_1 a1 t1 w1 0 x27 f1 nc = (c, w, wa) := ⟨_, _, _, rfl⟩
  have hp1 := s1.le
  rcases tc_1 s1.tok hn h2 e2 with ⟨rfl, hw0, r1, r2, rfl⟩ | ⟨rfl, hc, rfl, rfl, rfl, rfl, rfl⟩
  · refine Or.inl ⟨rfl, ?_⟩
    simp [sp_EM_readCondition1_1, slet, n1, e2, good_n hw0] at hB
    obtain ⟨-, -, -, -, -, -, -, rfl, rfl⟩ := hB
    exact ⟨hw0, r1, r2⟩
  obtain ⟨t2, w2, g2, n2, s2, l2⟩ := adv_ex hw hf hl hp1 h3
  have hp2 := s2.le
  have i60 := sign_iff s2.tok (c := 60) (j := 4) (Or.inl ⟨rfl, rfl⟩)
  have i61 := sign_iff s2.tok (c := 61) (j := 5) (Or.inr (Or.inl ⟨rfl, rfl⟩))
  have i62 := sign_iff s2.tok (c := 62) (j := 6) (Or.inr (Or.inr (Or.inl ⟨rfl, rfl⟩)))
  have hfl := fails_eq s2.tok
  refine Or.inr ?_
  have hu : c + 1 ≠ 0 := by omega
  -- behind the sign
  have fin : ∀ {pj kj : Nat} {vj aj : Int32} {tj : Nat} {wj : Int32} {gj hj : Nat}, TS len gj pj kj vj aj pj tj wj aj → pos ≤ gj → hj ≠ 0 → hj ≤ 5 → (h, fa2, fat2, p3, k3, v3, a3) = (hj, fa1, fat1, pj, kj, vj, aj) →
      (let x := (if tj = 2 then (if wj ≤ 20 then (0, wa) else sp_EM_fails aj tj 0 wa 4) else sp_EM_fails aj tj 0 wa 2); let N := sp_EM_next len pj f; if sp_EM_isGood x.1 = 0 then (updN q10 a0 (hj - 1), upd f11 a0 wj, updN q9 a0 c, aj, pj, tj, wj, x.1, x.2) else (updN q10 a0 (hj - 1), upd f11 a0 wj, updN q9 a0 c, N.1, N.2.1, N.2.2.1, N.2.2.2, x.1, x.2)) = (z10, z11, z9, z20, z21, z22, z23, z26, z27) →
      (c + 1 ≠ 0 ∧ h = 0 ∧ z26 ≠ 0 ∧ fa2 = nI z26 ∧ fat2 = z27) ∨ (c + 1 ≠ 0 ∧ h ≠ 0 ∧ ¬ k3 = 3 ∧ z26 = fk k3 2 ∧ z27 = a3) ∨ (c + 1 ≠ 0 ∧ h ≠ 0 ∧ k3 = 3 ∧ ¬ v3 ≤ 20 ∧ z26 = 4 ∧ z27 = a3) ∨
      (c + 1 ≠ 0 ∧ h ≠ 0 ∧ k3 = 3 ∧ v3 ≤ 20 ∧ z26 = 0 ∧ z27 = wa ∧ fa2 = fa1 ∧ fat2 = fat1 ∧ c + 1 - 1 < nc ∧ h ≤ 5 ∧ z9 = updN q9 a0 (c + 1 - 1) ∧ z10 = updN q10 a0 (h - 1) ∧ z11 = upd f11 a0 v3 ∧ (∃ g, TS len g p4 k4 v4 a4 z21 z22 z23 z20 ∧ pos ≤ g)) := by
    intro pj kj vj aj tj wj gj hj sj lj hj0 hj5 eh hX
    simp only [Prod.mk.injEq] at eh
    obtain ⟨rfl, rfl, rfl, rfl, rfl, rfl, rfl⟩ := eh
    by_cases k3e : k3 = 3
    · subst k3e
      have ht := (tok_3 sj.tok).mp rfl
      have hv := tok_3v sj.tok
      subst hv
      rw [if_pos ht] at hX
      by_cases v2e : v3 ≤ 20
      · obtain ⟨t5, w5, g5, n5, s5, l5⟩ := adv_ex hw hf hl sj.le h5
        rw [if_pos v2e] at hX
        simp [good_0, n5] at hX
        obtain ⟨rfl, rfl, rfl, rfl, rfl, rfl, rfl, rfl, rfl⟩ := hX
        exact Or.inr (Or.inr (Or.inr ⟨hu, hj0, rfl, v2e, rfl, rfl, rfl, rfl, by omega, hj5, rfl, rfl, rfl, g5, s5, by have := sj.gle; omega⟩))
      · rw [if_neg v2e, fails_eq sj.tok] at hX
        simp [fk, sp_EM_isGood] at hX
        obtain ⟨rfl, rfl, rfl, rfl, rfl, rfl, rfl, rfl, rfl⟩ := hX
        exact Or.inr (Or.inr (Or.inl ⟨hu, hj0, rfl, v2e, rfl, rfl⟩))
    · rw [if_neg (fun z => k3e ((tok_3 sj.tok).mpr z)), fails_eq sj.tok] at hX
      have hz := good_n (fk_0 (k := k3) (kind := 2) (by decide))
      simp [hz] at hX
      obtain ⟨rfl, rfl, rfl, rfl, rfl, rfl, rfl, rfl, rfl⟩ := hX
      exact Or.inr (Or.inl ⟨hu, hj0, k3e, rfl, rfl⟩)
  by_cases q4 : k2 = 4
  · subst q4
    obtain ⟨⟨p5, k5, v5, a5⟩, e5⟩ : ∃ x, sp_E_4_advance len p2 v2 f fw = x := ⟨_, rfl⟩
    obtain ⟨t5, w5, g5, n5, s5, l5⟩ := adv_ex hw hf hl hp2 e5
    have i5 := sign_iff s5.tok (c := 61) (j := 5) (Or.inr (Or.inl ⟨rfl, rfl⟩))
    by_cases q5 : k5 = 5
    · obtain ⟨⟨p6, k6, v6, a6⟩, e6⟩ : ∃ x, sp_E_4_advance len p5 v5 f fw = x := ⟨_, rfl⟩
      obtain ⟨t6, w6, g6, n6, s6, l6⟩ := adv_ex hw hf hl s5.le e6
      refine fin (hj := 2) s6 (by have := s5.gle; have := s2.gle; have := s1.gle; omega) (by decide) (by decide) ?_ ?_
      · rw [← h4]; simp [sp_E_4_readHow, slet, e5, q5, e6]
      · rw [← hB]; simp [sp_EM_readCondition1_1, slet, n1, e2, good_0, n2, i60, i61, i62, n5, i5, q5, n6]
    · refine fin (hj := 1) s5 (by have := s2.gle; have := s1.gle; omega) (by decide) (by decide) ?_ ?_
      · rw [← h4]; simp [sp_E_4_readHow, slet, e5, q5]
      · rw [← hB]; simp [sp_EM_readCondition1_1, slet, n1, e2, good_0, n2, i60, i61, i62, n5, i5, q5]
  · refine Or.inl ⟨hu, ?_⟩
    have hz := good_n (fk_0 (k := k2) (kind := 2) (by decide))
    simp [sp_E_4_readHow, slet, q4, refT_eq] at h4
    obtain ⟨rfl, rfl, rfl, -⟩ := h4
    simp [sp_EM_readCondition1_1, slet, n1, e2, good_0, n2, i60, i61, i62, q4, hfl, hz] at hB
    obtain ⟨-, -, -, -, -, -, -, rfl, rfl⟩ := hB
    exact ⟨rfl, fk_0 (by decide), rfl, rfl⟩
noncomputable def restE_0 (len : Nat) (f1 : Nat → Int32) (nc ne : Nat) (f : Nat → Int32) (qa qb : Nat → Nat) (fs : Nat → Int32) (r10 : Nat → Nat) (r11 : Nat → Int32) (r7 r9 : Nat → Nat) (at_ : Int32) (be tok : Nat) (va : Int32) (w : Nat) (wa : Int32) : (Nat → Nat) × (Nat → Int32) × (Nat → Nat) × (Nat → Nat) × (Nat → Nat) × (Nat → Int32) × (Nat → Nat) × Nat × Int32 × Nat × Nat × Int32 × Nat × Int32 :=
  let x := itrv default (sp_EM_readEdge_0_L2 len f1 nc ne f) (fs, at_, be, tok, va, w, wa)
  (r10, r11, qa, qb, r7, x.2.2.2.2.2.2, r9, ne + 1, x.1, x.2.1, x.2.2.1, x.2.2.2.1, x.2.2.2.2.1, x.2.2.2.2.2.1)
theorem restE_bad_0 {len : Nat} {f1 : Nat → Int32} {nc ne : Nat} {f : Nat → Int32} {qa qb : Nat → Nat} {fs : Nat → Int32} {r10 : Nat → Nat} {r11 : Nat → Int32} {r7 r9 : Nat → Nat} {at_ : Int32} {be tok : Nat} {va : Int32} {w : Nat} {wa : Int32} (h : w ≠ 0) : restE_0 len f1 nc ne f qa qb fs r10 r11 r7 r9 at_ be tok va w wa = (r10, r11, qa, qb, r7, fs, r9, ne + 1, at_, be, tok, va, w, wa) := by
  unfold restE_0
  rw [itrv_inr (b := (at_, be, tok, va, w, wa, fs)) (by simp [sp_EM_readEdge_0_L2, slet, good_n h])]
theorem l3_out_0 {len : Nat} {f1 : Nat → Int32} {nc ne : Nat} {f : Nat → Int32} {qa qb : Nat → Nat} {fs : Nat → Int32} {r10 : Nat → Nat} {r11 : Nat → Int32} {r7 r9 : Nat → Nat} {at_ : Int32} {be tok : Nat} {va : Int32} {w : Nat} {wa : Int32} (h : w ≠ 0) : itrv default (sp_EM_readEdge_0_L3 len f1 nc ne f qa qb fs) (r10, r11, r7, r9, at_, be, tok, va, w, wa) = (r10, r11, qa, qb, r7, fs, r9, ne + 1, at_, be, tok, va, w, wa) := by
  rw [← restE_bad_0 h]
  exact itrv_inr (by simp [sp_EM_readEdge_0_L3, slet, good_n h] <;> rfl)
/-- the conditions of an edge, side by side -/
theorem cs14_0 {f fw fcn f1 : Nat → Int32} (hw : ∀ i, i < 8 → fw i = WW i) (hf : ∀ i, f i ≠ -1) {len nc ne : Nat} (hl : len ≤ 900) (hnc : nc ≤ 3) (hn : ∀ i, i < nc → fcn i = f1 (0 + i)) (fa fat x27 : Int32) (G : Nat) (qa qb : Nat → Nat) (fs : Nat → Int32)
    (q8o q9o : Nat → Nat) (f10o f11o f12o f13o : Nat → Int32) (r7o r9o r10o : Nat → Nat) (r11o : Nat → Int32) {pos kd be tok : Nat} {vl tka va at_ : Int32} (hq8 : q8o ne = 0) (hr7 : r7o (0 + ne) = 0) (hts : TS len G pos kd vl tka be tok va at_) :
    ∃ u q8 q9 f10 f11 f12 f13 fa' fat' p k v a, sp_E_4_readsConditions_14 fa fat len pos kd vl tka f fw fcn nc q8o q9o f10o f11o f12o f13o ne = (u, q8, q9, f10, f11, f12, f13, fa', fat', p, k, v, a) ∧
      ((u = 0 ∧ ∃ r10 r11 r7 f8 r9 e at' be' tok' va' w wa, itrv default (sp_EM_readEdge_0_L3 len f1 nc ne f qa qb fs) (r10o, r11o, r7o, r9o, at_, be, tok, va, 0, x27) = (r10, r11, qa, qb, r7, f8, r9, e, at', be', tok', va', w, wa) ∧ w ≠ 0 ∧ fa' = nI w ∧ fat' = wa) ∨
       (u = 1 ∧ fa' = fa ∧ fat' = fat ∧ k ≠ 14 ∧ ∃ cnt r10 r11 r7 r9 at' be' tok' va' g, cnt ≤ 4 ∧ itrv default (sp_EM_readEdge_0_L3 len f1 nc ne f qa qb fs) (r10o, r11o, r7o, r9o, at_, be, tok, va, 0, x27) = restE_0 len f1 nc ne f qa qb fs r10 r11 r7 r9 at' be' tok' va' 0 x27 ∧ TS len g p k v a be' tok' va' at' ∧ G ≤ g ∧ q8 ne = cnt ∧ r7 (0 + ne) = cnt ∧ UN ne 1 q8 q8o ∧ UN (0 + ne) 1 r7 r7o ∧ CI (ne * 4) (0 + 4 * ne) cnt q9 f10 f11 r9 r10 r11 ∧ UN (ne * 4) 4 q9 q9o ∧ UN (ne * 4) 4 f10 f10o ∧ UN (ne * 4) 4 f11 f11o ∧ UN (0 + 4 * ne) 4 r9 r9o ∧ UN (0 + 4 * ne) 4 r10 r10o ∧ UN (0 + 4 * ne) 4 r11 r11o)) := by
  refine itrv_sim (d := default) (d' := default) (f := sp_E_4_readsConditions_14_L1 len f fw fcn nc ne) (g := sp_EM_readEdge_0_L3 len f1 nc ne f qa qb fs)
    (fun t t' => ∃ q8 q9 f10 f11 f12 f13 p k v a cnt r10 r11 r7 r9 at' be' tok' va' g, t = (q8, q9, f10, f11, f12, f13, fa, fat, p, k, v, a, cnt) ∧ t' = (r10, r11, r7, r9, at', be', tok', va', 0, x27) ∧ cnt ≤ 4 ∧ TS len g p k v a be' tok' va' at' ∧ G ≤ g ∧ q8 ne = cnt ∧ r7 (0 + ne) = cnt ∧ UN ne 1 q8 q8o ∧ UN (0 + ne) 1 r7 r7o ∧ CI (ne * 4) (0 + 4 * ne) cnt q9 f10 f11 r9 r10 r11 ∧ UN (ne * 4) 4 q9 q9o ∧ UN (ne * 4) 4 f10 f10o ∧ UN (ne * 4) 4 f11 f11o ∧ UN (0 + 4 * ne) 4 r9 r9o ∧ UN (0 + 4 * ne) 4 r10 r10o ∧ UN (0 + 4 * ne) 4 r11 r11o)
    (fun b X => ∃ u q8 q9 f10 f11 f12 f13 fa' fat' p k v a, b = (u, q8, q9, f10, f11, f12, f13, fa', fat', p, k, v, a) ∧
      ((u = 0 ∧ ∃ r10 r11 r7 f8 r9 e at' be' tok' va' w wa, X = (r10, r11, qa, qb, r7, f8, r9, e, at', be', tok', va', w, wa) ∧ w ≠ 0 ∧ fa' = nI w ∧ fat' = wa) ∨
       (u = 1 ∧ fa' = fa ∧ fat' = fat ∧ k ≠ 14 ∧ ∃ cnt r10 r11 r7 r9 at' be' tok' va' g, cnt ≤ 4 ∧ X = restE_0 len f1 nc ne f qa qb fs r10 r11 r7 r9 at' be' tok' va' 0 x27 ∧ TS len g p k v a be' tok' va' at' ∧ G ≤ g ∧ q8 ne = cnt ∧ r7 (0 + ne) = cnt ∧ UN ne 1 q8 q8o ∧ UN (0 + ne) 1 r7 r7o ∧ CI (ne * 4) (0 + 4 * ne) cnt q9 f10 f11 r9 r10 r11 ∧ UN (ne * 4) 4 q9 q9o ∧ UN (ne * 4) 4 f10 f10o ∧ UN (ne * 4) 4 f11 f11o ∧ UN (0 + 4 * ne) 4 r9 r9o ∧ UN (0 + 4 * ne) 4 r10 r10o ∧ UN (0 + 4 * ne) 4 r11 r11o)))
    (fun t => 4 - t.2.2.2.2.2.2.2.2.2.2.2.2) ?_ 4 _ _ (by show 4 - 0 ≤ 4; omega) ⟨q8o, q9o, f10o, f11o, f12o, f13o, pos, kd, vl, tka, 0, r10o, r11o, r7o, r9o, at_, be, tok, va, G, rfl, rfl, by omega, hts, Nat.le_refl _, hq8, hr7, UN.rf, UN.rf, CI.z, UN.rf, UN.rf, UN.rf, UN.rf, UN.rf, UN.rf⟩
  rintro t t' ⟨q8, q9, f10, f11, f12, f13, p, k, v, a, cnt, r10, r11, r7, r9, at', be', tok', va', g, rfl, rfl, hcnt, ht, hG, e8, e7, u8, u7, hci, un1, un2, un3, un4, un5, un6⟩
  have hwd : sp_EM_isWord tok' va' 762030 = (if k = 8 + 6 then 1 else 0) := word_iff ht.tok (i := 6) (by decide)
  have hbe : be' = p := ht.1
  have hat : at' = a := ht.2.1
  subst hbe hat
  by_cases hk : k = 14
  · subst hk
    by_cases h4 : cnt = 4
    · subst h4
      refine Or.inr ⟨_, by simp [sp_E_4_readsConditions_14_L1, slet, sp_E_4_refuse]  <;> rfl, 0, q8, q9, f10, f11, f12, f13, 5, at', be', 14, v, at', rfl, Or.inl ⟨rfl, r10, r11, r7, fs, r9, ne, at', be', tok', va', 5, at', ?_, by decide, rfl, rfl⟩⟩
      refine itrv_inr ?_
      have hwd' : sp_EM_isWord tok' va' 762030 = 1 := hwd
      simp only [sp_EM_readEdge_0_L3, slet, good_0, Nat.one_ne_zero, reduceIte, hwd', e7, Nat.min_self, fails_eq ht.tok]
      rfl
    · obtain ⟨⟨p1, k1, v1, a1⟩, h1⟩ : ∃ x, sp_E_4_advance len be' v f fw = x := ⟨_, rfl⟩
      obtain ⟨⟨u, fa1, fat1⟩, h2⟩ : ∃ x, sp_E_4_toldName_c fa fat k1 v1 a1 fcn nc = x := ⟨_, rfl⟩
      obtain ⟨⟨p2, k2, v2, a2⟩, h3⟩ : ∃ x, sp_E_4_advance len p1 v1 f fw = x := ⟨_, rfl⟩
      obtain ⟨⟨hh, fa2, fat2, p3, k3, v3, a3⟩, h5⟩ : ∃ x, sp_E_4_readHow fa1 fat1 len p2 k2 v2 a2 f fw 0 = x := ⟨_, rfl⟩
      obtain ⟨⟨p4, k4, v4, a4⟩, h6⟩ : ∃ x, sp_E_4_advance len p3 v3 f fw = x := ⟨_, rfl⟩
      obtain ⟨⟨z10, z11, z9, z20, z21, z22, z23, z26, z27⟩, hB⟩ : ∃ x, sp_EM_readCondition0_0 len be' 0 x27 f1 r9 r10 r11 nc f ((0 + (4 * ne)) + cnt) = x := ⟨_, rfl⟩
      have hm : min (r7 (0 + ne)) 4 = cnt := by rw [e7]; omega
      have hin : sp_EM_readEdge_0_L3 len f1 nc ne f qa qb fs (r10, r11, r7, r9, at', be', tok', va', 0, x27) = .inl (z10, z11, updN r7 (0 + ne) (cnt + 1), z9, z20, z21, z22, z23, z26, z27) := by
        have hwd' : sp_EM_isWord tok' va' 762030 = 1 := hwd
        simp only [sp_EM_readEdge_0_L3, slet, good_0, Nat.one_ne_zero, reduceIte, hwd', hm, if_neg h4, hB]
      have bad : z26 ≠ 0 → itrv default (sp_EM_readEdge_0_L3 len f1 nc ne f qa qb fs) (r10, r11, r7, r9, at', be', tok', va', 0, x27) = (z10, z11, qa, qb, updN r7 (0 + ne) (cnt + 1), fs, z9, ne + 1, z20, z21, z22, z23, z26, z27) := fun h => by rw [itrv_inl hin, l3_out_0 h]
      rcases rc0_0 hw hf hl ht.le hn h1 h2 h3 h5 h6 hB with ⟨rfl, b1, b2, b3⟩ | ⟨b0, rfl, b1, b2, b3⟩ | ⟨b0, b1, b2, b3, b4⟩ | ⟨b0, b1, rfl, b2, b3, b4⟩ | ⟨b0, b1, rfl, b2, rfl, rfl, rfl, rfl, b3, b4, rfl, rfl, rfl, g', b5, b6⟩
      · refine Or.inr ⟨_, by simp [sp_E_4_readsConditions_14_L1, slet, h4, h1, h2]  <;> rfl, 0, q8, q9, f10, f11, f12, f13, fa1, fat1, p1, k1, v1, a1, rfl, Or.inl ⟨rfl, _, _, _, _, _, _, _, _, _, _, _, _, bad b1, b1, b2, b3⟩⟩
      · refine Or.inr ⟨_, by simp [sp_E_4_readsConditions_14_L1, slet, h4, h1, h2, b0, h3, h5]  <;> rfl, 0, q8, q9, f10, f11, f12, f13, fa2, fat2, p3, k3, v3, a3, rfl, Or.inl ⟨rfl, _, _, _, _, _, _, _, _, _, _, _, _, bad b1, b1, b2, b3⟩⟩
      · have hz : z26 ≠ 0 := by rw [b3]; exact fk_0 (by decide)
        refine Or.inr ⟨_, by simp [sp_E_4_readsConditions_14_L1, slet, h4, h1, h2, b0, h3, h5, b1, b2, refT_eq]  <;> rfl, 0, q8, q9, f10, f11, f12, f13, nI (fk k3 2), a3, p3, k3, v3, a3, rfl, Or.inl ⟨rfl, _, _, _, _, _, _, _, _, _, _, _, _, bad hz, hz, by rw [b3], b4.symm⟩⟩
      · have hz : z26 ≠ 0 := by rw [b3]; decide
        refine Or.inr ⟨_, by simp [sp_E_4_readsConditions_14_L1, slet, h4, h1, h2, b0, h3, h5, b1, b2, ref_eq]  <;> rfl, 0, q8, q9, f10, f11, f12, f13, 4, a3, p3, 3, v3, a3, rfl, Or.inl ⟨rfl, _, _, _, _, _, _, _, _, _, _, _, _, bad hz, hz, by rw [b3]  <;> rfl, b4.symm⟩⟩
      · obtain ⟨⟨sb1, sb2⟩, hsb⟩ : ∃ x, sp_E_0_setBounds (upd f10 (ne * 4 + cnt) (nI (hh - 1))) (upd f11 (ne * 4 + cnt) v3) f12 f13 (ne * 4 + cnt) = x := ⟨_, rfl⟩
        refine Or.inl ⟨(updN q8 ne (cnt + 1), updN q9 (ne * 4 + cnt) (u - 1), upd f10 (ne * 4 + cnt) (nI (hh - 1)), upd f11 (ne * 4 + cnt) v3, sb2, sb1, fa2, fat2, p4, k4, v4, a4, cnt + 1), _, ?_, hin, ⟨_, _, _, _, _, _, _, _, _, _, cnt + 1, _, _, _, _, _, _, _, _, g', rfl, rfl, by omega, b5, by have := ht.gle; omega, updN_s, updN_s, u8.up ⟨by omega, by omega⟩, u7.up ⟨by omega, by omega⟩, hci.step (by omega) (by omega), un1.up ⟨by omega, by omega⟩, un2.up' ⟨by omega, by omega⟩, un3.up' ⟨by omega, by omega⟩, un4.up ⟨by omega, by omega⟩, un5.up ⟨by omega, by omega⟩, un6.up' ⟨by omega, by omega⟩⟩, by show 4 - (cnt + 1) < 4 - cnt; omega⟩
        simp [sp_E_4_readsConditions_14_L1, slet, h4, h1, h2, b0, h3, h5, b1, b2, sp_E_0_addCondition, hsb, h6]
  · refine Or.inr ⟨_, by simp [sp_E_4_readsConditions_14_L1, hk]  <;> rfl, 1, q8, q9, f10, f11, f12, f13, fa, fat, be', k, v, at', rfl, Or.inr ⟨rfl, rfl, rfl, hk, cnt, r10, r11, r7, r9, at', be', tok', va', g, hcnt, ?_, ht, hG, e8, e7, u8, u7, hci, un1, un2, un3, un4, un5, un6⟩⟩
    exact itrv_inr (by simp [sp_EM_readEdge_0_L3, slet, good_0, hwd, hk] <;> rfl)
noncomputable def restE_1 (len : Nat) (f1 : Nat → Int32) (nc ne : Nat) (f : Nat → Int32) (qa qb : Nat → Nat) (fs : Nat → Int32) (r10 : Nat → Nat) (r11 : Nat → Int32) (r7 r9 : Nat → Nat) (at_ : Int32) (be tok : Nat) (va : Int32) (w : Nat) (wa : Int32) : (Nat → Nat) × (Nat → Int32) × (Nat → Nat) × (Nat → Nat) × (Nat → Nat) × (Nat → Int32) × (Nat → Nat) × Nat × Int32 × Nat × Nat × Int32 × Nat × Int32 :=
  let x := itrv default (sp_EM_readEdge_1_L2 len f1 nc ne f) (fs, at_, be, tok, va, w, wa)
  (r10, r11, qa, qb, r7, x.2.2.2.2.2.2, r9, ne + 1, x.1, x.2.1, x.2.2.1, x.2.2.2.1, x.2.2.2.2.1, x.2.2.2.2.2.1)
theorem restE_bad_1 {len : Nat} {f1 : Nat → Int32} {nc ne : Nat} {f : Nat → Int32} {qa qb : Nat → Nat} {fs : Nat → Int32} {r10 : Nat → Nat} {r11 : Nat → Int32} {r7 r9 : Nat → Nat} {at_ : Int32} {be tok : Nat} {va : Int32} {w : Nat} {wa : Int32} (h : w ≠ 0) : restE_1 len f1 nc ne f qa qb fs r10 r11 r7 r9 at_ be tok va w wa = (r10, r11, qa, qb, r7, fs, r9, ne + 1, at_, be, tok, va, w, wa) := by
  unfold restE_1
  rw [itrv_inr (b := (at_, be, tok, va, w, wa, fs)) (by simp [sp_EM_readEdge_1_L2, slet, good_n h])]
theorem l3_out_1 {len : Nat} {f1 : Nat → Int32} {nc ne : Nat} {f : Nat → Int32} {qa qb : Nat → Nat} {fs : Nat → Int32} {r10 : Nat → Nat} {r11 : Nat → Int32} {r7 r9 : Nat → Nat} {at_ : Int32} {be tok : Nat} {va : Int32} {w : Nat} {wa : Int32} (h : w ≠ 0) : itrv default (sp_EM_readEdge_1_L3 len f1 nc ne f qa qb fs) (r10, r11, r7, r9, at_, be, tok, va, w, wa) = (r10, r11, qa, qb, r7, fs, r9, ne + 1, at_, be, tok, va, w, wa) := by
  rw [← restE_bad_1 h]
  exact itrv_inr (by simp [sp_EM_readEdge_1_L3, slet, good_n h] <;> rfl)
/-- the conditions of an edge, side by side -/
theorem cs14_1 {f fw fcn f1 : Nat → Int32} (hw : ∀ i, i < 8 → fw i = WW i) (hf : ∀ i, f i ≠ -1) {len nc ne : Nat} (hl : len ≤ 900) (hnc : nc ≤ 3) (hn : ∀ i, i < nc → fcn i = f1 (3 + i)) (fa fat x27 : Int32) (G : Nat) (qa qb : Nat → Nat) (fs : Nat → Int32)
    (q8o q9o : Nat → Nat) (f10o f11o f12o f13o : Nat → Int32) (r7o r9o r10o : Nat → Nat) (r11o : Nat → Int32) {pos kd be tok : Nat} {vl tka va at_ : Int32} (hq8 : q8o ne = 0) (hr7 : r7o (14 + ne) = 0) (hts : TS len G pos kd vl tka be tok va at_) :
    ∃ u q8 q9 f10 f11 f12 f13 fa' fat' p k v a, sp_E_4_readsConditions_14 fa fat len pos kd vl tka f fw fcn nc q8o q9o f10o f11o f12o f13o ne = (u, q8, q9, f10, f11, f12, f13, fa', fat', p, k, v, a) ∧
      ((u = 0 ∧ ∃ r10 r11 r7 f8 r9 e at' be' tok' va' w wa, itrv default (sp_EM_readEdge_1_L3 len f1 nc ne f qa qb fs) (r10o, r11o, r7o, r9o, at_, be, tok, va, 0, x27) = (r10, r11, qa, qb, r7, f8, r9, e, at', be', tok', va', w, wa) ∧ w ≠ 0 ∧ fa' = nI w ∧ fat' = wa) ∨
       (u = 1 ∧ fa' = fa ∧ fat' = fat ∧ k ≠ 14 ∧ ∃ cnt r10 r11 r7 r9 at' be' tok' va' g, cnt ≤ 4 ∧ itrv default (sp_EM_readEdge_1_L3 len f1 nc ne f qa qb fs) (r10o, r11o, r7o, r9o, at_, be, tok, va, 0, x27) = restE_1 len f1 nc ne f qa qb fs r10 r11 r7 r9 at' be' tok' va' 0 x27 ∧ TS len g p k v a be' tok' va' at' ∧ G ≤ g ∧ q8 ne = cnt ∧ r7 (14 + ne) = cnt ∧ UN ne 1 q8 q8o ∧ UN (14 + ne) 1 r7 r7o ∧ CI (ne * 4) (80 + 4 * ne) cnt q9 f10 f11 r9 r10 r11 ∧ UN (ne * 4) 4 q9 q9o ∧ UN (ne * 4) 4 f10 f10o ∧ UN (ne * 4) 4 f11 f11o ∧ UN (80 + 4 * ne) 4 r9 r9o ∧ UN (80 + 4 * ne) 4 r10 r10o ∧ UN (80 + 4 * ne) 4 r11 r11o)) := by
  refine itrv_sim (d := default) (d' := default) (f := sp_E_4_readsConditions_14_L1 len f fw fcn nc ne) (g := sp_EM_readEdge_1_L3 len f1 nc ne f qa qb fs)
    (fun t t' => ∃ q8 q9 f10 f11 f12 f13 p k v a cnt r10 r11 r7 r9 at' be' tok' va' g, t = (q8, q9, f10, f11, f12, f13, fa, fat, p, k, v, a, cnt) ∧ t' = (r10, r11, r7, r9, at', be', tok', va', 0, x27) ∧ cnt ≤ 4 ∧ TS len g p k v a be' tok' va' at' ∧ G ≤ g ∧ q8 ne = cnt ∧ r7 (14 + ne) = cnt ∧ UN ne 1 q8 q8o ∧ UN (14 + ne) 1 r7 r7o ∧ CI (ne * 4) (80 + 4 * ne) cnt q9 f10 f11 r9 r10 r11 ∧ UN (ne * 4) 4 q9 q9o ∧ UN (ne * 4) 4 f10 f10o ∧ UN (ne * 4) 4 f11 f11o ∧ UN (80 + 4 * ne) 4 r9 r9o ∧ UN (80 + 4 * ne) 4 r10 r10o ∧ UN (80 + 4 * ne) 4 r11 r11o)
    (fun b X => ∃ u q8 q9 f10 f11 f12 f13 fa' fat' p k v a, b = (u, q8, q9, f10, f11, f12, f13, fa', fat', p, k, v, a) ∧
      ((u = 0 ∧ ∃ r10 r11 r7 f8 r9 e at' be' tok' va' w wa, X = (r10, r11, qa, qb, r7, f8, r9, e, at', be', tok', va', w, wa) ∧ w ≠ 0 ∧ fa' = nI w ∧ fat' = wa) ∨
       (u = 1 ∧ fa' = fa ∧ fat' = fat ∧ k ≠ 14 ∧ ∃ cnt r10 r11 r7 r9 at' be' tok' va' g, cnt ≤ 4 ∧ X = restE_1 len f1 nc ne f qa qb fs r10 r11 r7 r9 at' be' tok' va' 0 x27 ∧ TS len g p k v a be' tok' va' at' ∧ G ≤ g ∧ q8 ne = cnt ∧ r7 (14 + ne) = cnt ∧ UN ne 1 q8 q8o ∧ UN (14 + ne) 1 r7 r7o ∧ CI (ne * 4) (80 + 4 * ne) cnt q9 f10 f11 r9 r10 r11 ∧ UN (ne * 4) 4 q9 q9o ∧ UN (ne * 4) 4 f10 f10o ∧ UN (ne * 4) 4 f11 f11o ∧ UN (80 + 4 * ne) 4 r9 r9o ∧ UN (80 + 4 * ne) 4 r10 r10o ∧ UN (80 + 4 * ne) 4 r11 r11o)))
    (fun t => 4 - t.2.2.2.2.2.2.2.2.2.2.2.2) ?_ 4 _ _ (by show 4 - 0 ≤ 4; omega) ⟨q8o, q9o, f10o, f11o, f12o, f13o, pos, kd, vl, tka, 0, r10o, r11o, r7o, r9o, at_, be, tok, va, G, rfl, rfl, by omega, hts, Nat.le_refl _, hq8, hr7, UN.rf, UN.rf, CI.z, UN.rf, UN.rf, UN.rf, UN.rf, UN.rf, UN.rf⟩
  rintro t t' ⟨q8, q9, f10, f11, f12, f13, p, k, v, a, cnt, r10, r11, r7, r9, at', be', tok', va', g, rfl, rfl, hcnt, ht, hG, e8, e7, u8, u7, hci, un1, un2, un3, un4, un5, un6⟩
  have hwd : sp_EM_isWord tok' va' 762030 = (if k = 8 + 6 then 1 else 0) := word_iff ht.tok (i := 6) (by decide)
  have hbe : be' = p := ht.1
  have hat : at' = a := ht.2.1
  subst hbe hat
  by_cases hk : k = 14
  · subst hk
    by_cases h4 : cnt = 4
    · subst h4
      refine Or.inr ⟨_, by simp [sp_E_4_readsConditions_14_L1, slet, sp_E_4_refuse]  <;> rfl, 0, q8, q9, f10, f11, f12, f13, 5, at', be', 14, v, at', rfl, Or.inl ⟨rfl, r10, r11, r7, fs, r9, ne, at', be', tok', va', 5, at', ?_, by decide, rfl, rfl⟩⟩
      refine itrv_inr ?_
      have hwd' : sp_EM_isWord tok' va' 762030 = 1 := hwd
      simp only [sp_EM_readEdge_1_L3, slet, good_0, Nat.one_ne_zero, reduceIte, hwd', e7, Nat.min_self, fails_eq ht.tok]
      rfl
    · obtain ⟨⟨p1, k1, v1, a1⟩, h1⟩ : ∃ x, sp_E_4_advance len be' v f fw = x := ⟨_, rfl⟩
      obtain ⟨⟨u, fa1, fat1⟩, h2⟩ : ∃ x, sp_E_4_toldName_c fa fat k1 v1 a1 fcn nc = x := ⟨_, rfl⟩
      obtain ⟨⟨p2, k2, v2, a2⟩, h3⟩ : ∃ x, sp_E_4_advance len p1 v1 f fw = x := ⟨_, rfl⟩
      obtain ⟨⟨hh, fa2, fat2, p3, k3, v3, a3⟩, h5⟩ : ∃ x, sp_E_4_readHow fa1 fat1 len p2 k2 v2 a2 f fw 0 = x := ⟨_, rfl⟩
      obtain ⟨⟨p4, k4, v4, a4⟩, h6⟩ : ∃ x, sp_E_4_advance len p3 v3 f fw = x := ⟨_, rfl⟩
      obtain ⟨⟨z10, z11, z9, z20, z21, z22, z23, z26, z27⟩, hB⟩ : ∃ x, sp_EM_readCondition0_1 len be' 0 x27 f1 r9 r10 r11 nc f ((80 + (4 * ne)) + cnt) = x := ⟨_, rfl⟩
      have hm : min (r7 (14 + ne)) 4 = cnt := by rw [e7]; omega
      have hin : sp_EM_readEdge_1_L3 len f1 nc ne f qa qb fs (r10, r11, r7, r9, at', be', tok', va', 0, x27) = .inl (z10, z11, updN r7 (14 + ne) (cnt + 1), z9, z20, z21, z22, z23, z26, z27) := by
        have hwd' : sp_EM_isWord tok' va' 762030 = 1 := hwd
        simp only [sp_EM_readEdge_1_L3, slet, good_0, Nat.one_ne_zero, reduceIte, hwd', hm, if_neg h4, hB]
      have bad : z26 ≠ 0 → itrv default (sp_EM_readEdge_1_L3 len f1 nc ne f qa qb fs) (r10, r11, r7, r9, at', be', tok', va', 0, x27) = (z10, z11, qa, qb, updN r7 (14 + ne) (cnt + 1), fs, z9, ne + 1, z20, z21, z22, z23, z26, z27) := fun h => by rw [itrv_inl hin, l3_out_1 h]
      rcases rc0_1 hw hf hl ht.le hn h1 h2 h3 h5 h6 hB with ⟨rfl, b1, b2, b3⟩ | ⟨b0, rfl, b1, b2, b3⟩ | ⟨b0, b1, b2, b3, b4⟩ | ⟨b0, b1, rfl, b2, b3, b4⟩ | ⟨b0, b1, rfl, b2, rfl, rfl, rfl, rfl, b3, b4, rfl, rfl, rfl, g', b5, b6⟩
      · refine Or.inr ⟨_, by simp [sp_E_4_readsConditions_14_L1, slet, h4, h1, h2]  <;> rfl, 0, q8, q9, f10, f11, f12, f13, fa1, fat1, p1, k1, v1, a1, rfl, Or.inl ⟨rfl, _, _, _, _, _, _, _, _, _, _, _, _, bad b1, b1, b2, b3⟩⟩
      · refine Or.inr ⟨_, by simp [sp_E_4_readsConditions_14_L1, slet, h4, h1, h2, b0, h3, h5]  <;> rfl, 0, q8, q9, f10, f11, f12, f13, fa2, fat2, p3, k3, v3, a3, rfl, Or.inl ⟨rfl, _, _, _, _, _, _, _, _, _, _, _, _, bad b1, b1, b2, b3⟩⟩
      · have hz : z26 ≠ 0 := by rw [b3]; exact fk_0 (by decide)
        refine Or.inr ⟨_, by simp [sp_E_4_readsConditions_14_L1, slet, h4, h1, h2, b0, h3, h5, b1, b2, refT_eq]  <;> rfl, 0, q8, q9, f10, f11, f12, f13, nI (fk k3 2), a3, p3, k3, v3, a3, rfl, Or.inl ⟨rfl, _, _, _, _, _, _, _, _, _, _, _, _, bad hz, hz, by rw [b3], b4.symm⟩⟩
      · have hz : z26 ≠ 0 := by rw [b3]; decide
        refine Or.inr ⟨_, by simp [sp_E_4_readsConditions_14_L1, slet, h4, h1, h2, b0, h3, h5, b1, b2, ref_eq]  <;> rfl, 0, q8, q9, f10, f11, f12, f13, 4, a3, p3, 3, v3, a3, rfl, Or.inl ⟨rfl, _, _, _, _, _, _, _, _, _, _, _, _, bad hz, hz, by rw [b3]  <;> rfl, b4.symm⟩⟩
      · obtain ⟨⟨sb1, sb2⟩, hsb⟩ : ∃ x, sp_E_0_setBounds (upd f10 (ne * 4 + cnt) (nI (hh - 1))) (upd f11 (ne * 4 + cnt) v3) f12 f13 (ne * 4 + cnt) = x := ⟨_, rfl⟩
        refine Or.inl ⟨(updN q8 ne (cnt + 1), updN q9 (ne * 4 + cnt) (u - 1), upd f10 (ne * 4 + cnt) (nI (hh - 1)), upd f11 (ne * 4 + cnt) v3, sb2, sb1, fa2, fat2, p4, k4, v4, a4, cnt + 1), _, ?_, hin, ⟨_, _, _, _, _, _, _, _, _, _, cnt + 1, _, _, _, _, _, _, _, _, g', rfl, rfl, by omega, b5, by have := ht.gle; omega, updN_s, updN_s, u8.up ⟨by omega, by omega⟩, u7.up ⟨by omega, by omega⟩, hci.step (by omega) (by omega), un1.up ⟨by omega, by omega⟩, un2.up' ⟨by omega, by omega⟩, un3.up' ⟨by omega, by omega⟩, un4.up ⟨by omega, by omega⟩, un5.up ⟨by omega, by omega⟩, un6.up' ⟨by omega, by omega⟩⟩, by show 4 - (cnt + 1) < 4 - cnt; omega⟩
        simp [sp_E_4_readsConditions_14_L1, slet, h4, h1, h2, b0, h3, h5, b1, b2, sp_E_0_addCondition, hsb, h6]
  · refine Or.inr ⟨_, by simp [sp_E_4_readsConditions_14_L1, hk]  <;> rfl, 1, q8, q9, f10, f11, f12, f13, fa, fat, be', k, v, at', rfl, Or.inr ⟨rfl, rfl, rfl, hk, cnt, r10, r11, r7, r9, at', be', tok', va', g, hcnt, ?_, ht, hG, e8, e7, u8, u7, hci, un1, un2, un3, un4, un5, un6⟩⟩
    exact itrv_inr (by simp [sp_EM_readEdge_1_L3, slet, good_0, hwd, hk] <;> rfl)
theorem p1_out_0 {len : Nat} {f1 : Nat → Int32} {nc np : Nat} {f fa_ fb_ : Nat → Int32} {r10 : Nat → Nat} {r11 : Nat → Int32} {r4 r9 : Nat → Nat} {at_ : Int32} {be tok : Nat} {va : Int32} {w : Nat} {wa : Int32} (h : w ≠ 0) : itrv default (sp_EM_readPlace_0_L1 len f1 nc np f fa_ fb_) (r10, r11, r4, r9, at_, be, tok, va, w, wa) = (r10, r11, fa_, fb_, r4, r9, np + 1, at_, be, tok, va, w, wa) := itrv_inr (by simp [sp_EM_readPlace_0_L1, slet, good_n h])
/-- the conditions of a place, side by side -/
theorem cs11_0 {f fw fcn f1 : Nat → Int32} (hw : ∀ i, i < 8 → fw i = WW i) (hf : ∀ i, f i ≠ -1) {len nc np : Nat} (hl : len ≤ 900) (hnc : nc ≤ 3) (hn : ∀ i, i < nc → fcn i = f1 (0 + i)) (fa fat x27 : Int32) (G : Nat) (ga gb : Nat → Int32)
    (q8o q9o : Nat → Nat) (f10o f11o f12o f13o : Nat → Int32) (r7o r9o r10o : Nat → Nat) (r11o : Nat → Int32) {pos kd be tok : Nat} {vl tka va at_ : Int32} (hq8 : q8o (14 + np) = 0) (hr7 : r7o (0 + np) = 0) (hts : TS len G pos kd vl tka be tok va at_) :
    ∃ u q8 q9 f10 f11 f12 f13 fa' fat' p k v a, sp_E_4_readsConditions_11 fa fat len pos kd vl tka f fw fcn nc q8o q9o f10o f11o f12o f13o (14 + np) = (u, q8, q9, f10, f11, f12, f13, fa', fat', p, k, v, a) ∧
      ((u = 0 ∧ ∃ r10 r11 r7 r9 e at' be' tok' va' w wa, itrv default (sp_EM_readPlace_0_L1 len f1 nc np f ga gb) (r10o, r11o, r7o, r9o, at_, be, tok, va, 0, x27) = (r10, r11, ga, gb, r7, r9, e, at', be', tok', va', w, wa) ∧ w ≠ 0 ∧ fa' = nI w ∧ fat' = wa) ∨
       (u = 1 ∧ fa' = fa ∧ fat' = fat ∧ k ≠ 11 ∧ ∃ cnt r10 r11 r7 r9 at' be' tok' va' g, cnt ≤ 3 ∧ itrv default (sp_EM_readPlace_0_L1 len f1 nc np f ga gb) (r10o, r11o, r7o, r9o, at_, be, tok, va, 0, x27) = (r10, r11, ga, gb, r7, r9, np + 1, at', be', tok', va', 0, x27) ∧ TS len g p k v a be' tok' va' at' ∧ G ≤ g ∧ q8 (14 + np) = cnt ∧ r7 (0 + np) = cnt ∧ UN (14 + np) 1 q8 q8o ∧ UN (0 + np) 1 r7 r7o ∧ CI ((14 + np) * 4) (56 + 3 * np) cnt q9 f10 f11 r9 r10 r11 ∧ UN ((14 + np) * 4) 4 q9 q9o ∧ UN ((14 + np) * 4) 4 f10 f10o ∧ UN ((14 + np) * 4) 4 f11 f11o ∧ UN (56 + 3 * np) 3 r9 r9o ∧ UN (56 + 3 * np) 3 r10 r10o ∧ UN (56 + 3 * np) 3 r11 r11o)) := by
  refine itrv_sim (d := default) (d' := default) (f := sp_E_4_readsConditions_11_L1 len f fw fcn nc (14 + np)) (g := sp_EM_readPlace_0_L1 len f1 nc np f ga gb)
    (fun t t' => ∃ q8 q9 f10 f11 f12 f13 p k v a cnt r10 r11 r7 r9 at' be' tok' va' g, t = (q8, q9, f10, f11, f12, f13, fa, fat, p, k, v, a, cnt) ∧ t' = (r10, r11, r7, r9, at', be', tok', va', 0, x27) ∧ cnt ≤ 3 ∧ TS len g p k v a be' tok' va' at' ∧ G ≤ g ∧ q8 (14 + np) = cnt ∧ r7 (0 + np) = cnt ∧ UN (14 + np) 1 q8 q8o ∧ UN (0 + np) 1 r7 r7o ∧ CI ((14 + np) * 4) (56 + 3 * np) cnt q9 f10 f11 r9 r10 r11 ∧ UN ((14 + np) * 4) 4 q9 q9o ∧ UN ((14 + np) * 4) 4 f10 f10o ∧ UN ((14 + np) * 4) 4 f11 f11o ∧ UN (56 + 3 * np) 3 r9 r9o ∧ UN (56 + 3 * np) 3 r10 r10o ∧ UN (56 + 3 * np) 3 r11 r11o)
    (fun b X => ∃ u q8 q9 f10 f11 f12 f13 fa' fat' p k v a, b = (u, q8, q9, f10, f11, f12, f13, fa', fat', p, k, v, a) ∧
      ((u = 0 ∧ ∃ r10 r11 r7 r9 e at' be' tok' va' w wa, X = (r10, r11, ga, gb, r7, r9, e, at', be', tok', va', w, wa) ∧ w ≠ 0 ∧ fa' = nI w ∧ fat' = wa) ∨
       (u = 1 ∧ fa' = fa ∧ fat' = fat ∧ k ≠ 11 ∧ ∃ cnt r10 r11 r7 r9 at' be' tok' va' g, cnt ≤ 3 ∧ X = (r10, r11, ga, gb, r7, r9, np + 1, at', be', tok', va', 0, x27) ∧ TS len g p k v a be' tok' va' at' ∧ G ≤ g ∧ q8 (14 + np) = cnt ∧ r7 (0 + np) = cnt ∧ UN (14 + np) 1 q8 q8o ∧ UN (0 + np) 1 r7 r7o ∧ CI ((14 + np) * 4) (56 + 3 * np) cnt q9 f10 f11 r9 r10 r11 ∧ UN ((14 + np) * 4) 4 q9 q9o ∧ UN ((14 + np) * 4) 4 f10 f10o ∧ UN ((14 + np) * 4) 4 f11 f11o ∧ UN (56 + 3 * np) 3 r9 r9o ∧ UN (56 + 3 * np) 3 r10 r10o ∧ UN (56 + 3 * np) 3 r11 r11o)))
    (fun t => 3 - t.2.2.2.2.2.2.2.2.2.2.2.2) ?_ 3 _ _ (by show 3 - 0 ≤ 3; omega) ⟨q8o, q9o, f10o, f11o, f12o, f13o, pos, kd, vl, tka, 0, r10o, r11o, r7o, r9o, at_, be, tok, va, G, rfl, rfl, by omega, hts, Nat.le_refl _, hq8, hr7, UN.rf, UN.rf, CI.z, UN.rf, UN.rf, UN.rf, UN.rf, UN.rf, UN.rf⟩
  rintro t t' ⟨q8, q9, f10, f11, f12, f13, p, k, v, a, cnt, r10, r11, r7, r9, at', be', tok', va', g, rfl, rfl, hcnt, ht, hG, e8, e7, u8, u7, hci, un1, un2, un3, un4, un5, un6⟩
  have hwd : sp_EM_isWord tok' va' 22499628 = (if k = 8 + 3 then 1 else 0) := word_iff ht.tok (i := 3) (by decide)
  have hbe : be' = p := ht.1
  have hat : at' = a := ht.2.1
  subst hbe hat
  by_cases hk : k = 11
  · subst hk
    by_cases h4 : cnt = 3
    · subst h4
      refine Or.inr ⟨_, by simp [sp_E_4_readsConditions_11_L1, slet, sp_E_4_refuse]  <;> rfl, 0, q8, q9, f10, f11, f12, f13, 5, at', be', 11, v, at', rfl, Or.inl ⟨rfl, r10, r11, r7, r9, np, at', be', tok', va', 5, at', ?_, by decide, rfl, rfl⟩⟩
      refine itrv_inr ?_
      have hwd' : sp_EM_isWord tok' va' 22499628 = 1 := hwd
      simp only [sp_EM_readPlace_0_L1, slet, good_0, Nat.one_ne_zero, reduceIte, hwd', e7, Nat.min_self, fails_eq ht.tok]
      rfl
    · obtain ⟨⟨p1, k1, v1, a1⟩, h1⟩ : ∃ x, sp_E_4_advance len be' v f fw = x := ⟨_, rfl⟩
      obtain ⟨⟨u, fa1, fat1⟩, h2⟩ : ∃ x, sp_E_4_toldName_c fa fat k1 v1 a1 fcn nc = x := ⟨_, rfl⟩
      obtain ⟨⟨p2, k2, v2, a2⟩, h3⟩ : ∃ x, sp_E_4_advance len p1 v1 f fw = x := ⟨_, rfl⟩
      obtain ⟨⟨hh, fa2, fat2, p3, k3, v3, a3⟩, h5⟩ : ∃ x, sp_E_4_readHow fa1 fat1 len p2 k2 v2 a2 f fw 1 = x := ⟨_, rfl⟩
      obtain ⟨⟨p4, k4, v4, a4⟩, h6⟩ : ∃ x, sp_E_4_advance len p3 v3 f fw = x := ⟨_, rfl⟩
      obtain ⟨⟨z10, z11, z9, z20, z21, z22, z23, z26, z27⟩, hB⟩ : ∃ x, sp_EM_readCondition1_0 len be' 0 x27 f1 r9 r10 r11 nc f ((56 + (3 * np)) + cnt) = x := ⟨_, rfl⟩
      have hm : min (r7 (0 + np)) 3 = cnt := by rw [e7]; omega
      have hin : sp_EM_readPlace_0_L1 len f1 nc np f ga gb (r10, r11, r7, r9, at', be', tok', va', 0, x27) = .inl (z10, z11, updN r7 (0 + np) (cnt + 1), z9, z20, z21, z22, z23, z26, z27) := by
        have hwd' : sp_EM_isWord tok' va' 22499628 = 1 := hwd
        simp only [sp_EM_readPlace_0_L1, slet, good_0, Nat.one_ne_zero, reduceIte, hwd', hm, if_neg h4, hB]
      have bad : z26 ≠ 0 → itrv default (sp_EM_readPlace_0_L1 len f1 nc np f ga gb) (r10, r11, r7, r9, at', be', tok', va', 0, x27) = (z10, z11, ga, gb, updN r7 (0 + np) (cnt + 1), z9, np + 1, z20, z21, z22, z23, z26, z27) := fun h => by rw [itrv_inl hin, p1_out_0 h]
      rcases rc1_0 hw hf hl ht.le hn h1 h2 h3 h5 h6 hB with ⟨rfl, b1, b2, b3⟩ | ⟨b0, rfl, b1, b2, b3⟩ | ⟨b0, b1, b2, b3, b4⟩ | ⟨b0, b1, rfl, b2, b3, b4⟩ | ⟨b0, b1, rfl, b2, rfl, rfl, rfl, rfl, b3, b4, rfl, rfl, rfl, g', b5, b6⟩
      · refine Or.inr ⟨_, by simp [sp_E_4_readsConditions_11_L1, slet, h4, h1, h2]  <;> rfl, 0, q8, q9, f10, f11, f12, f13, fa1, fat1, p1, k1, v1, a1, rfl, Or.inl ⟨rfl, _, _, _, _, _, _, _, _, _, _, _, bad b1, b1, b2, b3⟩⟩
      · refine Or.inr ⟨_, by simp [sp_E_4_readsConditions_11_L1, slet, h4, h1, h2, b0, h3, h5]  <;> rfl, 0, q8, q9, f10, f11, f12, f13, fa2, fat2, p3, k3, v3, a3, rfl, Or.inl ⟨rfl, _, _, _, _, _, _, _, _, _, _, _, bad b1, b1, b2, b3⟩⟩
      · have hz : z26 ≠ 0 := by rw [b3]; exact fk_0 (by decide)
        refine Or.inr ⟨_, by simp [sp_E_4_readsConditions_11_L1, slet, h4, h1, h2, b0, h3, h5, b1, b2, refT_eq]  <;> rfl, 0, q8, q9, f10, f11, f12, f13, nI (fk k3 2), a3, p3, k3, v3, a3, rfl, Or.inl ⟨rfl, _, _, _, _, _, _, _, _, _, _, _, bad hz, hz, by rw [b3], b4.symm⟩⟩
      · have hz : z26 ≠ 0 := by rw [b3]; decide
        refine Or.inr ⟨_, by simp [sp_E_4_readsConditions_11_L1, slet, h4, h1, h2, b0, h3, h5, b1, b2, ref_eq]  <;> rfl, 0, q8, q9, f10, f11, f12, f13, 4, a3, p3, 3, v3, a3, rfl, Or.inl ⟨rfl, _, _, _, _, _, _, _, _, _, _, _, bad hz, hz, by rw [b3]  <;> rfl, b4.symm⟩⟩
      · obtain ⟨⟨sb1, sb2⟩, hsb⟩ : ∃ x, sp_E_0_setBounds (upd f10 ((14 + np) * 4 + cnt) (nI (hh - 1))) (upd f11 ((14 + np) * 4 + cnt) v3) f12 f13 ((14 + np) * 4 + cnt) = x := ⟨_, rfl⟩
        refine Or.inl ⟨(updN q8 (14 + np) (cnt + 1), updN q9 ((14 + np) * 4 + cnt) (u - 1), upd f10 ((14 + np) * 4 + cnt) (nI (hh - 1)), upd f11 ((14 + np) * 4 + cnt) v3, sb2, sb1, fa2, fat2, p4, k4, v4, a4, cnt + 1), _, ?_, hin, ⟨_, _, _, _, _, _, _, _, _, _, cnt + 1, _, _, _, _, _, _, _, _, g', rfl, rfl, by omega, b5, by have := ht.gle; omega, updN_s, updN_s, u8.up ⟨by omega, by omega⟩, u7.up ⟨by omega, by omega⟩, hci.step (by omega) (by omega), un1.up ⟨by omega, by omega⟩, un2.up' ⟨by omega, by omega⟩, un3.up' ⟨by omega, by omega⟩, un4.up ⟨by omega, by omega⟩, un5.up ⟨by omega, by omega⟩, un6.up' ⟨by omega, by omega⟩⟩, by show 3 - (cnt + 1) < 3 - cnt; omega⟩
        simp [sp_E_4_readsConditions_11_L1, slet, h4, h1, h2, b0, h3, h5, b1, b2, sp_E_0_addCondition, hsb, h6]
  · refine Or.inr ⟨_, by simp [sp_E_4_readsConditions_11_L1, hk]  <;> rfl, 1, q8, q9, f10, f11, f12, f13, fa, fat, be', k, v, at', rfl, Or.inr ⟨rfl, rfl, rfl, hk, cnt, r10, r11, r7, r9, at', be', tok', va', g, hcnt, ?_, ht, hG, e8, e7, u8, u7, hci, un1, un2, un3, un4, un5, un6⟩⟩
    exact itrv_inr (by simp [sp_EM_readPlace_0_L1, slet, good_0, hwd, hk] <;> rfl)
theorem p1_out_1 {len : Nat} {f1 : Nat → Int32} {nc np : Nat} {f fa_ fb_ : Nat → Int32} {r10 : Nat → Nat} {r11 : Nat → Int32} {r4 r9 : Nat → Nat} {at_ : Int32} {be tok : Nat} {va : Int32} {w : Nat} {wa : Int32} (h : w ≠ 0) : itrv default (sp_EM_readPlace_1_L1 len f1 nc np f fa_ fb_) (r10, r11, r4, r9, at_, be, tok, va, w, wa) = (r10, r11, fa_, fb_, r4, r9, np + 1, at_, be, tok, va, w, wa) := itrv_inr (by simp [sp_EM_readPlace_1_L1, slet, good_n h])
/-- the conditions of a place, side by side -/
theorem cs11_1 {f fw fcn f1 : Nat → Int32} (hw : ∀ i, i < 8 → fw i = WW i) (hf : ∀ i, f i ≠ -1) {len nc np : Nat} (hl : len ≤ 900) (hnc : nc ≤ 3) (hn : ∀ i, i < nc → fcn i = f1 (3 + i)) (fa fat x27 : Int32) (G : Nat) (ga gb : Nat → Int32)
    (q8o q9o : Nat → Nat) (f10o f11o f12o f13o : Nat → Int32) (r7o r9o r10o : Nat → Nat) (r11o : Nat → Int32) {pos kd be tok : Nat} {vl tka va at_ : Int32} (hq8 : q8o (14 + np) = 0) (hr7 : r7o (8 + np) = 0) (hts : TS len G pos kd vl tka be tok va at_) :
    ∃ u q8 q9 f10 f11 f12 f13 fa' fat' p k v a, sp_E_4_readsConditions_11 fa fat len pos kd vl tka f fw fcn nc q8o q9o f10o f11o f12o f13o (14 + np) = (u, q8, q9, f10, f11, f12, f13, fa', fat', p, k, v, a) ∧
      ((u = 0 ∧ ∃ r10 r11 r7 r9 e at' be' tok' va' w wa, itrv default (sp_EM_readPlace_1_L1 len f1 nc np f ga gb) (r10o, r11o, r7o, r9o, at_, be, tok, va, 0, x27) = (r10, r11, ga, gb, r7, r9, e, at', be', tok', va', w, wa) ∧ w ≠ 0 ∧ fa' = nI w ∧ fat' = wa) ∨
       (u = 1 ∧ fa' = fa ∧ fat' = fat ∧ k ≠ 11 ∧ ∃ cnt r10 r11 r7 r9 at' be' tok' va' g, cnt ≤ 3 ∧ itrv default (sp_EM_readPlace_1_L1 len f1 nc np f ga gb) (r10o, r11o, r7o, r9o, at_, be, tok, va, 0, x27) = (r10, r11, ga, gb, r7, r9, np + 1, at', be', tok', va', 0, x27) ∧ TS len g p k v a be' tok' va' at' ∧ G ≤ g ∧ q8 (14 + np) = cnt ∧ r7 (8 + np) = cnt ∧ UN (14 + np) 1 q8 q8o ∧ UN (8 + np) 1 r7 r7o ∧ CI ((14 + np) * 4) (136 + 3 * np) cnt q9 f10 f11 r9 r10 r11 ∧ UN ((14 + np) * 4) 4 q9 q9o ∧ UN ((14 + np) * 4) 4 f10 f10o ∧ UN ((14 + np) * 4) 4 f11 f11o ∧ UN (136 + 3 * np) 3 r9 r9o ∧ UN (136 + 3 * np) 3 r10 r10o ∧ UN (136 + 3 * np) 3 r11 r11o)) := by
  refine itrv_sim (d := default) (d' := default) (f := sp_E_4_readsConditions_11_L1 len f fw fcn nc (14 + np)) (g := sp_EM_readPlace_1_L1 len f1 nc np f ga gb)
    (fun t t' => ∃ q8 q9 f10 f11 f12 f13 p k v a cnt r10 r11 r7 r9 at' be' tok' va' g, t = (q8, q9, f10, f11, f12, f13, fa, fat, p, k, v, a, cnt) ∧ t' = (r10, r11, r7, r9, at', be', tok', va', 0, x27) ∧ cnt ≤ 3 ∧ TS len g p k v a be' tok' va' at' ∧ G ≤ g ∧ q8 (14 + np) = cnt ∧ r7 (8 + np) = cnt ∧ UN (14 + np) 1 q8 q8o ∧ UN (8 + np) 1 r7 r7o ∧ CI ((14 + np) * 4) (136 + 3 * np) cnt q9 f10 f11 r9 r10 r11 ∧ UN ((14 + np) * 4) 4 q9 q9o ∧ UN ((14 + np) * 4) 4 f10 f10o ∧ UN ((14 + np) * 4) 4 f11 f11o ∧ UN (136 + 3 * np) 3 r9 r9o ∧ UN (136 + 3 * np) 3 r10 r10o ∧ UN (136 + 3 * np) 3 r11 r11o)
    (fun b X => ∃ u q8 q9 f10 f11 f12 f13 fa' fat' p k v a, b = (u, q8, q9, f10, f11, f12, f13, fa', fat', p, k, v, a) ∧
      ((u = 0 ∧ ∃ r10 r11 r7 r9 e at' be' tok' va' w wa, X = (r10, r11, ga, gb, r7, r9, e, at', be', tok', va', w, wa) ∧ w ≠ 0 ∧ fa' = nI w ∧ fat' = wa) ∨
       (u = 1 ∧ fa' = fa ∧ fat' = fat ∧ k ≠ 11 ∧ ∃ cnt r10 r11 r7 r9 at' be' tok' va' g, cnt ≤ 3 ∧ X = (r10, r11, ga, gb, r7, r9, np + 1, at', be', tok', va', 0, x27) ∧ TS len g p k v a be' tok' va' at' ∧ G ≤ g ∧ q8 (14 + np) = cnt ∧ r7 (8 + np) = cnt ∧ UN (14 + np) 1 q8 q8o ∧ UN (8 + np) 1 r7 r7o ∧ CI ((14 + np) * 4) (136 + 3 * np) cnt q9 f10 f11 r9 r10 r11 ∧ UN ((14 + np) * 4) 4 q9 q9o ∧ UN ((14 + np) * 4) 4 f10 f10o ∧ UN ((14 + np) * 4) 4 f11 f11o ∧ UN (136 + 3 * np) 3 r9 r9o ∧ UN (136 + 3 * np) 3 r10 r10o ∧ UN (136 + 3 * np) 3 r11 r11o)))
    (fun t => 3 - t.2.2.2.2.2.2.2.2.2.2.2.2) ?_ 3 _ _ (by show 3 - 0 ≤ 3; omega) ⟨q8o, q9o, f10o, f11o, f12o, f13o, pos, kd, vl, tka, 0, r10o, r11o, r7o, r9o, at_, be, tok, va, G, rfl, rfl, by omega, hts, Nat.le_refl _, hq8, hr7, UN.rf, UN.rf, CI.z, UN.rf, UN.rf, UN.rf, UN.rf, UN.rf, UN.rf⟩
  rintro t t' ⟨q8, q9, f10, f11, f12, f13, p, k, v, a, cnt, r10, r11, r7, r9, at', be', tok', va', g, rfl, rfl, hcnt, ht, hG, e8, e7, u8, u7, hci, un1, un2, un3, un4, un5, un6⟩
  have hwd : sp_EM_isWord tok' va' 22499628 = (if k = 8 + 3 then 1 else 0) := word_iff ht.tok (i := 3) (by decide)
  have hbe : be' = p := ht.1
  have hat : at' = a := ht.2.1
  subst hbe hat
  by_cases hk : k = 11
  · subst hk
    by_cases h4 : cnt = 3
    · subst h4
      refine Or.inr ⟨_, by simp [sp_E_4_readsConditions_11_L1, slet, sp_E_4_refuse]  <;> rfl, 0, q8, q9, f10, f11, f12, f13, 5, at', be', 11, v, at', rfl, Or.inl ⟨rfl, r10, r11, r7, r9, np, at', be', tok', va', 5, at', ?_, by decide, rfl, rfl⟩⟩
      refine itrv_inr ?_
      have hwd' : sp_EM_isWord tok' va' 22499628 = 1 := hwd
      simp only [sp_EM_readPlace_1_L1, slet, good_0, Nat.one_ne_zero, reduceIte, hwd', e7, Nat.min_self, fails_eq ht.tok]
      rfl
    · obtain ⟨⟨p1, k1, v1, a1⟩, h1⟩ : ∃ x, sp_E_4_advance len be' v f fw = x := ⟨_, rfl⟩
      obtain ⟨⟨u, fa1, fat1⟩, h2⟩ : ∃ x, sp_E_4_toldName_c fa fat k1 v1 a1 fcn nc = x := ⟨_, rfl⟩
      obtain ⟨⟨p2, k2, v2, a2⟩, h3⟩ : ∃ x, sp_E_4_advance len p1 v1 f fw = x := ⟨_, rfl⟩
      obtain ⟨⟨hh, fa2, fat2, p3, k3, v3, a3⟩, h5⟩ : ∃ x, sp_E_4_readHow fa1 fat1 len p2 k2 v2 a2 f fw 1 = x := ⟨_, rfl⟩
      obtain ⟨⟨p4, k4, v4, a4⟩, h6⟩ : ∃ x, sp_E_4_advance len p3 v3 f fw = x := ⟨_, rfl⟩
      obtain ⟨⟨z10, z11, z9, z20, z21, z22, z23, z26, z27⟩, hB⟩ : ∃ x, sp_EM_readCondition1_1 len be' 0 x27 f1 r9 r10 r11 nc f ((136 + (3 * np)) + cnt) = x := ⟨_, rfl⟩
      have hm : min (r7 (8 + np)) 3 = cnt := by rw [e7]; omega
      have hin : sp_EM_readPlace_1_L1 len f1 nc np f ga gb (r10, r11, r7, r9, at', be', tok', va', 0, x27) = .inl (z10, z11, updN r7 (8 + np) (cnt + 1), z9, z20, z21, z22, z23, z26, z27) := by
        have hwd' : sp_EM_isWord tok' va' 22499628 = 1 := hwd
        simp only [sp_EM_readPlace_1_L1, slet, good_0, Nat.one_ne_zero, reduceIte, hwd', hm, if_neg h4, hB]
      have bad : z26 ≠ 0 → itrv default (sp_EM_readPlace_1_L1 len f1 nc np f ga gb) (r10, r11, r7, r9, at', be', tok', va', 0, x27) = (z10, z11, ga, gb, updN r7 (8 + np) (cnt + 1), z9, np + 1, z20, z21, z22, z23, z26, z27) := fun h => by rw [itrv_inl hin, p1_out_1 h]
      rcases rc1_1 hw hf hl ht.le hn h1 h2 h3 h5 h6 hB with ⟨rfl, b1, b2, b3⟩ | ⟨b0, rfl, b1, b2, b3⟩ | ⟨b0, b1, b2, b3, b4⟩ | ⟨b0, b1, rfl, b2, b3, b4⟩ | ⟨b0, b1, rfl, b2, rfl, rfl, rfl, rfl, b3, b4, rfl, rfl, rfl, g', b5, b6⟩
      · refine Or.inr ⟨_, by simp [sp_E_4_readsConditions_11_L1, slet, h4, h1, h2]  <;> rfl, 0, q8, q9, f10, f11, f12, f13, fa1, fat1, p1, k1, v1, a1, rfl, Or.inl ⟨rfl, _, _, _, _, _, _, _, _, _, _, _, bad b1, b1, b2, b3⟩⟩
      · refine Or.inr ⟨_, by simp [sp_E_4_readsConditions_11_L1, slet, h4, h1, h2, b0, h3, h5]  <;> rfl, 0, q8, q9, f10, f11, f12, f13, fa2, fat2, p3, k3, v3, a3, rfl, Or.inl ⟨rfl, _, _, _, _, _, _, _, _, _, _, _, bad b1, b1, b2, b3⟩⟩
      · have hz : z26 ≠ 0 := by rw [b3]; exact fk_0 (by decide)
        refine Or.inr ⟨_, by simp [sp_E_4_readsConditions_11_L1, slet, h4, h1, h2, b0, h3, h5, b1, b2, refT_eq]  <;> rfl, 0, q8, q9, f10, f11, f12, f13, nI (fk k3 2), a3, p3, k3, v3, a3, rfl, Or.inl ⟨rfl, _, _, _, _, _, _, _, _, _, _, _, bad hz, hz, by rw [b3], b4.symm⟩⟩
      · have hz : z26 ≠ 0 := by rw [b3]; decide
        refine Or.inr ⟨_, by simp [sp_E_4_readsConditions_11_L1, slet, h4, h1, h2, b0, h3, h5, b1, b2, ref_eq]  <;> rfl, 0, q8, q9, f10, f11, f12, f13, 4, a3, p3, 3, v3, a3, rfl, Or.inl ⟨rfl, _, _, _, _, _, _, _, _, _, _, _, bad hz, hz, by rw [b3]  <;> rfl, b4.symm⟩⟩
      · obtain ⟨⟨sb1, sb2⟩, hsb⟩ : ∃ x, sp_E_0_setBounds (upd f10 ((14 + np) * 4 + cnt) (nI (hh - 1))) (upd f11 ((14 + np) * 4 + cnt) v3) f12 f13 ((14 + np) * 4 + cnt) = x := ⟨_, rfl⟩
        refine Or.inl ⟨(updN q8 (14 + np) (cnt + 1), updN q9 ((14 + np) * 4 + cnt) (u - 1), upd f10 ((14 + np) * 4 + cnt) (nI (hh - 1)), upd f11 ((14 + np) * 4 + cnt) v3, sb2, sb1, fa2, fat2, p4, k4, v4, a4, cnt + 1), _, ?_, hin, ⟨_, _, _, _, _, _, _, _, _, _, cnt + 1, _, _, _, _, _, _, _, _, g', rfl, rfl, by omega, b5, by have := ht.gle; omega, updN_s, updN_s, u8.up ⟨by omega, by omega⟩, u7.up ⟨by omega, by omega⟩, hci.step (by omega) (by omega), un1.up ⟨by omega, by omega⟩, un2.up' ⟨by omega, by omega⟩, un3.up' ⟨by omega, by omega⟩, un4.up ⟨by omega, by omega⟩, un5.up ⟨by omega, by omega⟩, un6.up' ⟨by omega, by omega⟩⟩, by show 3 - (cnt + 1) < 3 - cnt; omega⟩
        simp [sp_E_4_readsConditions_11_L1, slet, h4, h1, h2, b0, h3, h5, b1, b2, sp_E_0_addCondition, hsb, h6]
  · refine Or.inr ⟨_, by simp [sp_E_4_readsConditions_11_L1, hk]  <;> rfl, 1, q8, q9, f10, f11, f12, f13, fa, fat, be', k, v, at', rfl, Or.inr ⟨rfl, rfl, rfl, hk, cnt, r10, r11, r7, r9, at', be', tok', va', g, hcnt, ?_, ht, hG, e8, e7, u8, u7, hci, un1, un2, un3, un4, un5, un6⟩⟩
    exact itrv_inr (by simp [sp_EM_readPlace_1_L1, slet, good_0, hwd, hk] <;> rfl)
theorem r2_out_0 {len : Nat} {f1 : Nat → Int32} {nc ne : Nat} {f fs : Nat → Int32} {at_ : Int32} {be tok : Nat} {va : Int32} {w : Nat} {wa : Int32} (h : w ≠ 0) : itrv default (sp_EM_readEdge_0_L2 len f1 nc ne f) (fs, at_, be, tok, va, w, wa) = (at_, be, tok, va, w, wa, fs) := itrv_inr (by simp [sp_EM_readEdge_0_L2, slet, good_n h])
/-- the clocks that an edge sets back, side by side -/
theorem rs_0 {f fw fcn f1 : Nat → Int32} (hw : ∀ i, i < 8 → fw i = WW i) (hf : ∀ i, f i ≠ -1) {len nc ne : Nat} (hl : len ≤ 900) (hnc : nc ≤ 3) (hn : ∀ i, i < nc → fcn i = f1 (0 + i)) (fa fat x27 : Int32) (G : Nat) (f7o f8o : Nat → Int32) {pos kd be tok : Nat} {vl tka va at_ : Int32} (h7 : f7o ne = 0) (h8 : f8o (0 + ne) = 0) (hts : TS len G pos kd vl tka be tok va at_) :
    ∃ u f7 fa' fat' p k v a, sp_E_4_readsResets fa fat len pos kd vl tka f fw fcn nc f7o ne = (u, f7, fa', fat', p, k, v, a) ∧
      ((u = 0 ∧ ∃ at' be' tok' va' w wa f8, itrv default (sp_EM_readEdge_0_L2 len f1 nc ne f) (f8o, at_, be, tok, va, 0, x27) = (at', be', tok', va', w, wa, f8) ∧ w ≠ 0 ∧ fa' = nI w ∧ fat' = wa) ∨
       (u = 1 ∧ fa' = fa ∧ fat' = fat ∧ k ≠ 15 ∧ ∃ at' be' tok' va' f8 g, itrv default (sp_EM_readEdge_0_L2 len f1 nc ne f) (f8o, at_, be, tok, va, 0, x27) = (at', be', tok', va', 0, x27, f8) ∧ TS len g p k v a be' tok' va' at' ∧ G ≤ g ∧ f7 ne = f8 (0 + ne) ∧ UN ne 1 f7 f7o ∧ UN (0 + ne) 1 f8 f8o)) := by
  refine itrv_sim (d := default) (d' := default) (f := sp_E_4_readsResets_L1 len f fw fcn nc ne) (g := sp_EM_readEdge_0_L2 len f1 nc ne f)
    (fun t t' => ∃ f7 p k v a cnt f8 at' be' tok' va' g, t = (f7, fa, fat, p, k, v, a, cnt) ∧ t' = (f8, at', be', tok', va', 0, x27) ∧ cnt = bc (f7 ne) ∧ TS len g p k v a be' tok' va' at' ∧ G ≤ g ∧ f7 ne = f8 (0 + ne) ∧ UN ne 1 f7 f7o ∧ UN (0 + ne) 1 f8 f8o)
    (fun b X => ∃ u f7 fa' fat' p k v a, b = (u, f7, fa', fat', p, k, v, a) ∧
      ((u = 0 ∧ ∃ at' be' tok' va' w wa f8, X = (at', be', tok', va', w, wa, f8) ∧ w ≠ 0 ∧ fa' = nI w ∧ fat' = wa) ∨
       (u = 1 ∧ fa' = fa ∧ fat' = fat ∧ k ≠ 15 ∧ ∃ at' be' tok' va' f8 g, X = (at', be', tok', va', 0, x27, f8) ∧ TS len g p k v a be' tok' va' at' ∧ G ≤ g ∧ f7 ne = f8 (0 + ne) ∧ UN ne 1 f7 f7o ∧ UN (0 + ne) 1 f8 f8o)))
    (fun t => 4 - t.2.2.2.2.2.2.2) ?_ 4 _ _ (by show 4 - 0 ≤ 4; omega) ⟨f7o, pos, kd, vl, tka, 0, f8o, at_, be, tok, va, G, rfl, rfl, by rw [h7]; exact bc_0.symm, hts, Nat.le_refl _, by rw [h7, h8], UN.rf, UN.rf⟩
  rintro t t' ⟨f7, p, k, v, a, cnt, f8, at', be', tok', va', g, rfl, rfl, hcnt, ht, hG, he, u7, u8⟩
  have hwd : sp_EM_isWord tok' va' 19057844 = (if k = 8 + 7 then 1 else 0) := word_iff ht.tok (i := 7) (by decide)
  have hbe : be' = p := ht.1
  have hat : at' = a := ht.2.1
  have hc3 : ¬ 3 < cnt := by have := bc_3 (B := f7 ne); omega
  subst hbe hat
  by_cases hk : k = 15
  · subst hk
    have hwd' : sp_EM_isWord tok' va' 19057844 = 1 := hwd
    obtain ⟨⟨p1, k1, v1, a1⟩, h1⟩ : ∃ x, sp_E_4_advance len be' v f fw = x := ⟨_, rfl⟩
    obtain ⟨⟨u, fa1, fat1⟩, h2⟩ : ∃ x, sp_E_4_toldName_c fa fat k1 v1 a1 fcn nc = x := ⟨_, rfl⟩
    obtain ⟨t1, w1, g1, n1, s1, l1⟩ := adv_ex hw hf hl ht.le h1
    obtain ⟨c, w, wa, e2⟩ : ∃ c w wa, sp_EM_toldClock_0 a1 t1 w1 0 x27 f1 nc = (c, w, wa) := ⟨_, _, _, rfl⟩
    rcases tc_0 s1.tok hn h2 e2 with ⟨rfl, hw0, r1, r2, rfl⟩ | ⟨rfl, hc, rfl, rfl, rfl, rfl, rfl⟩
    · have hX : itrv default (sp_EM_readEdge_0_L2 len f1 nc ne f) (f8, at', be', tok', va', 0, x27) = (a1, p1, t1, w1, w, wa, upd f8 (0 + ne) (f8 (0 + ne) ||| ((1 : Int32) <<< ((nI 0 : Int32) &&& 31)))) := by
        rw [itrv_inl (t' := (upd f8 (0 + ne) (f8 (0 + ne) ||| ((1 : Int32) <<< ((nI 0 : Int32) &&& 31))), a1, p1, t1, w1, w, wa)) (by simp only [sp_EM_readEdge_0_L2, slet, good_0, Nat.one_ne_zero, reduceIte, hwd', n1, e2, good_n hw0]), r2_out_0 hw0]
      exact Or.inr ⟨_, by simp [sp_E_4_readsResets_L1, slet, hc3, h1, h2] <;> rfl, 0, f7, fa1, fat1, p1, k1, v1, a1, rfl, Or.inl ⟨rfl, _, _, _, _, w, wa, _, hX, hw0, r1, r2⟩⟩
    · have hcl : c < 3 := by omega
      have isof : sp_EM_isOf (f8 (0 + ne)) (nI c) = (if bt (f7 ne) c = true then 1 else 0) := by
        have : sp_EM_isOf (f8 (0 + ne)) (nI c) = (if ((f8 (0 + ne) >>> ((nI c : Int32) &&& 31)) &&& (1 : Int32)) = 1 then 1 else 0) := rfl
        rw [this, ← he]
        by_cases hb : bt (f7 ne) c = true
        · rw [if_pos ((bt_iff hcl).mpr hb), if_pos hb]
        · rw [if_neg (fun z => hb ((bt_iff hcl).mp z)), if_neg hb]
      by_cases hb : bt (f7 ne) c = true
      · have hbi := (bt_iff hcl).mpr hb
        rw [if_pos hb] at isof
        have hX : itrv default (sp_EM_readEdge_0_L2 len f1 nc ne f) (f8, at', be', tok', va', 0, wa) = (a1, p1, t1, w1, 5, a1, upd f8 (0 + ne) (f8 (0 + ne) ||| ((1 : Int32) <<< ((nI c : Int32) &&& 31)))) := by
          rw [itrv_inl (t' := (upd f8 (0 + ne) (f8 (0 + ne) ||| ((1 : Int32) <<< ((nI c : Int32) &&& 31))), a1, p1, t1, w1, 5, a1)) (by simp only [sp_EM_readEdge_0_L2, slet, good_0, Nat.one_ne_zero, reduceIte, hwd', n1, e2, isof, fails_eq s1.tok]; rfl), r2_out_0 (by decide)]
        exact Or.inr ⟨_, by simp [sp_E_4_readsResets_L1, slet, hc3, h1, h2, hbi, ref_eq] <;> rfl, 0, f7, 5, a1, p1, 2, v1, a1, rfl, Or.inl ⟨rfl, _, _, _, _, 5, a1, _, hX, by decide, rfl, rfl⟩⟩
      · have hbf : bt (f7 ne) c = false := by cases h : bt (f7 ne) c
                                              · rfl
                                              · exact absurd h hb
        have hbi : ¬ ((f7 ne >>> ((nI c : Int32) &&& 31)) &&& (1 : Int32)) = 1 := fun z => hb ((bt_iff hcl).mp z)
        rw [if_neg hb] at isof
        obtain ⟨⟨p4, k4, v4, a4⟩, h6⟩ : ∃ x, sp_E_4_advance len p1 v1 f fw = x := ⟨_, rfl⟩
        obtain ⟨t4, w4, g4, n4, s4, l4⟩ := adv_ex hw hf hl s1.le h6
        have hc2 := bc_le hcl hbf
        refine Or.inl ⟨(upd f7 ne (f7 ne ||| ((1 : Int32) <<< ((nI c : Int32) &&& 31))), fa1, fat1, p4, k4, v4, a4, cnt + 1), (upd f8 (0 + ne) (f8 (0 + ne) ||| ((1 : Int32) <<< ((nI c : Int32) &&& 31))), a4, p4, t4, w4, 0, wa), ?_, ?_, ⟨_, _, _, _, _, _, _, _, _, _, _, g4, rfl, rfl, ?_, s4, ?_, ?_, u7.up' ⟨by omega, by omega⟩, u8.up' ⟨by omega, by omega⟩⟩, ?_⟩
        · simp [sp_E_4_readsResets_L1, slet, hc3, h1, h2, hbi, h6]
        · simp only [sp_EM_readEdge_0_L2, slet, good_0, Nat.one_ne_zero, reduceIte, hwd', n1, e2, isof, n4]
        · rw [upd_s, bc_up hcl hbf, hcnt]
        · have := ht.gle; have := s1.gle; omega
        · rw [upd_s, upd_s, he]
        · show 4 - (cnt + 1) < 4 - cnt; omega
  · have hwd' : sp_EM_isWord tok' va' 19057844 = 0 := by rw [hwd, if_neg hk]
    refine Or.inr ⟨_, by simp [sp_E_4_readsResets_L1, hc3, hk] <;> rfl, 1, f7, fa, fat, be', k, v, at', rfl, Or.inr ⟨rfl, rfl, rfl, hk, at', be', tok', va', f8, g, ?_, ht, hG, he, u7, u8⟩⟩
    exact itrv_inr (by simp [sp_EM_readEdge_0_L2, slet, good_0, hwd'])
theorem r2_out_1 {len : Nat} {f1 : Nat → Int32} {nc ne : Nat} {f fs : Nat → Int32} {at_ : Int32} {be tok : Nat} {va : Int32} {w : Nat} {wa : Int32} (h : w ≠ 0) : itrv default (sp_EM_readEdge_1_L2 len f1 nc ne f) (fs, at_, be, tok, va, w, wa) = (at_, be, tok, va, w, wa, fs) := itrv_inr (by simp [sp_EM_readEdge_1_L2, slet, good_n h])
/-- the clocks that an edge sets back, side by side -/
theorem rs_1 {f fw fcn f1 : Nat → Int32} (hw : ∀ i, i < 8 → fw i = WW i) (hf : ∀ i, f i ≠ -1) {len nc ne : Nat} (hl : len ≤ 900) (hnc : nc ≤ 3) (hn : ∀ i, i < nc → fcn i = f1 (3 + i)) (fa fat x27 : Int32) (G : Nat) (f7o f8o : Nat → Int32) {pos kd be tok : Nat} {vl tka va at_ : Int32} (h7 : f7o ne = 0) (h8 : f8o (14 + ne) = 0) (hts : TS len G pos kd vl tka be tok va at_) :
    ∃ u f7 fa' fat' p k v a, sp_E_4_readsResets fa fat len pos kd vl tka f fw fcn nc f7o ne = (u, f7, fa', fat', p, k, v, a) ∧
      ((u = 0 ∧ ∃ at' be' tok' va' w wa f8, itrv default (sp_EM_readEdge_1_L2 len f1 nc ne f) (f8o, at_, be, tok, va, 0, x27) = (at', be', tok', va', w, wa, f8) ∧ w ≠ 0 ∧ fa' = nI w ∧ fat' = wa) ∨
       (u = 1 ∧ fa' = fa ∧ fat' = fat ∧ k ≠ 15 ∧ ∃ at' be' tok' va' f8 g, itrv default (sp_EM_readEdge_1_L2 len f1 nc ne f) (f8o, at_, be, tok, va, 0, x27) = (at', be', tok', va', 0, x27, f8) ∧ TS len g p k v a be' tok' va' at' ∧ G ≤ g ∧ f7 ne = f8 (14 + ne) ∧ UN ne 1 f7 f7o ∧ UN (14 + ne) 1 f8 f8o)) := by
  refine itrv_sim (d := default) (d' := default) (f := sp_E_4_readsResets_L1 len f fw fcn nc ne) (g := sp_EM_readEdge_1_L2 len f1 nc ne f)
    (fun t t' => ∃ f7 p k v a cnt f8 at' be' tok' va' g, t = (f7, fa, fat, p, k, v, a, cnt) ∧ t' = (f8, at', be', tok', va', 0, x27) ∧ cnt = bc (f7 ne) ∧ TS len g p k v a be' tok' va' at' ∧ G ≤ g ∧ f7 ne = f8 (14 + ne) ∧ UN ne 1 f7 f7o ∧ UN (14 + ne) 1 f8 f8o)
    (fun b X => ∃ u f7 fa' fat' p k v a, b = (u, f7, fa', fat', p, k, v, a) ∧
      ((u = 0 ∧ ∃ at' be' tok' va' w wa f8, X = (at', be', tok', va', w, wa, f8) ∧ w ≠ 0 ∧ fa' = nI w ∧ fat' = wa) ∨
       (u = 1 ∧ fa' = fa ∧ fat' = fat ∧ k ≠ 15 ∧ ∃ at' be' tok' va' f8 g, X = (at', be', tok', va', 0, x27, f8) ∧ TS len g p k v a be' tok' va' at' ∧ G ≤ g ∧ f7 ne = f8 (14 + ne) ∧ UN ne 1 f7 f7o ∧ UN (14 + ne) 1 f8 f8o)))
    (fun t => 4 - t.2.2.2.2.2.2.2) ?_ 4 _ _ (by show 4 - 0 ≤ 4; omega) ⟨f7o, pos, kd, vl, tka, 0, f8o, at_, be, tok, va, G, rfl, rfl, by rw [h7]; exact bc_0.symm, hts, Nat.le_refl _, by rw [h7, h8], UN.rf, UN.rf⟩
  rintro t t' ⟨f7, p, k, v, a, cnt, f8, at', be', tok', va', g, rfl, rfl, hcnt, ht, hG, he, u7, u8⟩
  have hwd : sp_EM_isWord tok' va' 19057844 = (if k = 8 + 7 then 1 else 0) := word_iff ht.tok (i := 7) (by decide)
  have hbe : be' = p := ht.1
  have hat : at' = a := ht.2.1
  have hc3 : ¬ 3 < cnt := by have := bc_3 (B := f7 ne); omega
  subst hbe hat
  by_cases hk : k = 15
  · subst hk
    have hwd' : sp_EM_isWord tok' va' 19057844 = 1 := hwd
    obtain ⟨⟨p1, k1, v1, a1⟩, h1⟩ : ∃ x, sp_E_4_advance len be' v f fw = x := ⟨_, rfl⟩
    obtain ⟨⟨u, fa1, fat1⟩, h2⟩ : ∃ x, sp_E_4_toldName_c fa fat k1 v1 a1 fcn nc = x := ⟨_, rfl⟩
    obtain ⟨t1, w1, g1, n1, s1, l1⟩ := adv_ex hw hf hl ht.le h1
    obtain ⟨c, w, wa, e2⟩ : ∃ c w wa, sp_EM_toldClock_1 a1 t1 w1 0 x27 f1 nc = (c, w, wa) := ⟨_, _, _, rfl⟩
    rcases tc_1 s1.tok hn h2 e2 with ⟨rfl, hw0, r1, r2, rfl⟩ | ⟨rfl, hc, rfl, rfl, rfl, rfl, rfl⟩
    · have hX : itrv default (sp_EM_readEdge_1_L2 len f1 nc ne f) (f8, at', be', tok', va', 0, x27) = (a1, p1, t1, w1, w, wa, upd f8 (14 + ne) (f8 (14 + ne) ||| ((1 : Int32) <<< ((nI 0 : Int32) &&& 31)))) := by
        rw [itrv_inl (t' := (upd f8 (14 + ne) (f8 (14 + ne) ||| ((1 : Int32) <<< ((nI 0 : Int32) &&& 31))), a1, p1, t1, w1, w, wa)) (by simp only [sp_EM_readEdge_1_L2, slet, good_0, Nat.one_ne_zero, reduceIte, hwd', n1, e2, good_n hw0]), r2_out_1 hw0]
      exact Or.inr ⟨_, by simp [sp_E_4_readsResets_L1, slet, hc3, h1, h2] <;> rfl, 0, f7, fa1, fat1, p1, k1, v1, a1, rfl, Or.inl ⟨rfl, _, _, _, _, w, wa, _, hX, hw0, r1, r2⟩⟩
    · have hcl : c < 3 := by omega
      have isof : sp_EM_isOf (f8 (14 + ne)) (nI c) = (if bt (f7 ne) c = true then 1 else 0) := by
        have : sp_EM_isOf (f8 (14 + ne)) (nI c) = (if ((f8 (14 + ne) >>> ((nI c : Int32) &&& 31)) &&& (1 : Int32)) = 1 then 1 else 0) := rfl
        rw [this, ← he]
        by_cases hb : bt (f7 ne) c = true
        · rw [if_pos ((bt_iff hcl).mpr hb), if_pos hb]
        · rw [if_neg (fun z => hb ((bt_iff hcl).mp z)), if_neg hb]
      by_cases hb : bt (f7 ne) c = true
      · have hbi := (bt_iff hcl).mpr hb
        rw [if_pos hb] at isof
        have hX : itrv default (sp_EM_readEdge_1_L2 len f1 nc ne f) (f8, at', be', tok', va', 0, wa) = (a1, p1, t1, w1, 5, a1, upd f8 (14 + ne) (f8 (14 + ne) ||| ((1 : Int32) <<< ((nI c : Int32) &&& 31)))) := by
          rw [itrv_inl (t' := (upd f8 (14 + ne) (f8 (14 + ne) ||| ((1 : Int32) <<< ((nI c : Int32) &&& 31))), a1, p1, t1, w1, 5, a1)) (by simp only [sp_EM_readEdge_1_L2, slet, good_0, Nat.one_ne_zero, reduceIte, hwd', n1, e2, isof, fails_eq s1.tok]; rfl), r2_out_1 (by decide)]
        exact Or.inr ⟨_, by simp [sp_E_4_readsResets_L1, slet, hc3, h1, h2, hbi, ref_eq] <;> rfl, 0, f7, 5, a1, p1, 2, v1, a1, rfl, Or.inl ⟨rfl, _, _, _, _, 5, a1, _, hX, by decide, rfl, rfl⟩⟩
      · have hbf : bt (f7 ne) c = false := by cases h : bt (f7 ne) c
                                              · rfl
                                              · exact absurd h hb
        have hbi : ¬ ((f7 ne >>> ((nI c : Int32) &&& 31)) &&& (1 : Int32)) = 1 := fun z => hb ((bt_iff hcl).mp z)
        rw [if_neg hb] at isof
        obtain ⟨⟨p4, k4, v4, a4⟩, h6⟩ : ∃ x, sp_E_4_advance len p1 v1 f fw = x := ⟨_, rfl⟩
        obtain ⟨t4, w4, g4, n4, s4, l4⟩ := adv_ex hw hf hl s1.le h6
        have hc2 := bc_le hcl hbf
        refine Or.inl ⟨(upd f7 ne (f7 ne ||| ((1 : Int32) <<< ((nI c : Int32) &&& 31))), fa1, fat1, p4, k4, v4, a4, cnt + 1), (upd f8 (14 + ne) (f8 (14 + ne) ||| ((1 : Int32) <<< ((nI c : Int32) &&& 31))), a4, p4, t4, w4, 0, wa), ?_, ?_, ⟨_, _, _, _, _, _, _, _, _, _, _, g4, rfl, rfl, ?_, s4, ?_, ?_, u7.up' ⟨by omega, by omega⟩, u8.up' ⟨by omega, by omega⟩⟩, ?_⟩
        · simp [sp_E_4_readsResets_L1, slet, hc3, h1, h2, hbi, h6]
        · simp only [sp_EM_readEdge_1_L2, slet, good_0, Nat.one_ne_zero, reduceIte, hwd', n1, e2, isof, n4]
        · rw [upd_s, bc_up hcl hbf, hcnt]
        · have := ht.gle; have := s1.gle; omega
        · rw [upd_s, upd_s, he]
        · show 4 - (cnt + 1) < 4 - cnt; omega
  · have hwd' : sp_EM_isWord tok' va' 19057844 = 0 := by rw [hwd, if_neg hk]
    refine Or.inr ⟨_, by simp [sp_E_4_readsResets_L1, hc3, hk] <;> rfl, 1, f7, fa, fat, be', k, v, at', rfl, Or.inr ⟨rfl, rfl, rfl, hk, at', be', tok', va', f8, g, ?_, ht, hG, he, u7, u8⟩⟩
    exact itrv_inr (by simp [sp_EM_readEdge_1_L2, slet, good_0, hwd'])
/-- what was read so far is the same: the class's automaton and the reference's bank -/
def MR_0 (nc np ne : Nat) (st0 : Int32) (fcn fpn f4 : Nat → Int32) (q5 q6 : Nat → Nat) (f7 : Nat → Int32) (q8 q9 : Nat → Nat) (f10 f11 : Nat → Int32) (f1 f2 f3 : Nat → Int32) (r4 r5 r6 r7 : Nat → Nat) (f8 : Nat → Int32) (r9 r10 : Nat → Nat) (r11 : Nat → Int32) (m12 m13 m14 m15 : Nat) : Prop :=
  (m12 = nc ∧ nc ≤ 3 ∧ m13 = np ∧ np ≤ 8 ∧ m14 = ne ∧ ne ≤ 14) ∧ ((st0 = -1 ∧ m15 = 0) ∨ (∃ s, s < np ∧ st0 = nI s ∧ m15 = s + 1)) ∧ (∀ i, i < nc → fcn i = f1 (0 + i)) ∧ (∀ i, i < np → fpn i = f2 (0 + i)) ∧
  (∀ i, i < np → f4 i = f3 (0 + i)) ∧ (∀ i, np ≤ i → i < 8 → f4 i = 0 ∧ q8 (14 + i) = 0) ∧ (∀ i, ne ≤ i → i < 14 → q8 i = 0) ∧
  (∀ i, i < np → q8 (14 + i) = r4 (0 + i) ∧ q8 (14 + i) ≤ 3 ∧ CI ((14 + i) * 4) (56 + 3 * i) (q8 (14 + i)) q9 f10 f11 r9 r10 r11) ∧
  (∀ i, i < ne → q8 i = r7 (0 + i) ∧ q8 i ≤ 4 ∧ CI (i * 4) (0 + 4 * i) (q8 i) q9 f10 f11 r9 r10 r11) ∧
  (∀ i, i < ne → q5 i = r5 (0 + i) ∧ q5 i < np ∧ q6 i = r6 (0 + i) ∧ q6 i < np ∧ f7 i = f8 (0 + i))
/-- the four words that a line may begin with -/
theorem lw4_0 {k t : Nat} {v w : Int32} (h : TokR k v t w) : sp_EM_isWord t w 3554411 = (if k = 8 then 1 else 0) ∧ sp_EM_isWord t w 17171557 = (if k = 9 then 1 else 0) ∧ sp_EM_isWord t w 20579924 = (if k = 12 then 1 else 0) ∧ sp_EM_isWord t w 168165 = (if k = 13 then 1 else 0) := ⟨word_iff h (i := 0) (by decide), word_iff h (i := 1) (by decide), word_iff h (i := 4) (by decide), word_iff h (i := 5) (by decide)⟩
/-- a clock's line -/
theorem lk_0 {f fw : Nat → Int32} (hw : ∀ i, i < 8 → fw i = WW i) (hf : ∀ i, f i ≠ -1) {len : Nat} (hl : len ≤ 900) {nc np ne : Nat} {st0 : Int32} {fcn fpn f4 : Nat → Int32} {q5 q6 : Nat → Nat} {f7 : Nat → Int32} {q8 q9 : Nat → Nat} {f10 f11 f1 f2 f3 : Nat → Int32} {r4 r5 r6 r7 : Nat → Nat} {f8 : Nat → Int32} {r9 r10 : Nat → Nat} {r11 : Nat → Int32} {m12 m13 m14 m15 : Nat}
    (hM : MR_0 nc np ne st0 fcn fpn f4 q5 q6 f7 q8 q9 f10 f11 f1 f2 f3 r4 r5 r6 r7 f8 r9 r10 r11 m12 m13 m14 m15) {fa fat x27 vl tka va at_ : Int32} {G pos be tok : Nat} (ht : TS len G pos 8 vl tka be tok va at_) :
    ∃ u fcn' fa' fat' p k v a nc', sp_E_4_readsClock fa fat len pos 8 vl tka f fw fcn fpn nc np = (u, fcn', fa', fat', p, k, v, a, nc') ∧ ∃ f1' r10' r11' f2' f3' r4' r5' r6' r7' f8' r9' m12' m13' m14' m15' at' be' tok' va' w wa, sp_EM_readLine_0 len at_ be tok va 0 x27 f1 f2 f3 r4 r5 r6 r7 f8 r9 r10 r11 m12 m13 m14 m15 f = (f1', r10', r11', f2', f3', r4', r5', r6', r7', f8', r9', m12', m13', m14', m15', at', be', tok', va', w, wa) ∧
      ((u = 0 ∧ w ≠ 0 ∧ fa' = nI w ∧ fat' = wa) ∨ (u = 1 ∧ fa' = fa ∧ fat' = fat ∧ w = 0 ∧ wa = x27 ∧ MR_0 nc' np ne st0 fcn' fpn f4 q5 q6 f7 q8 q9 f10 f11 f1' f2' f3' r4' r5' r6' r7' f8' r9' r10' r11' m12' m13' m14' m15' ∧ ∃ g, TS len g p k v a be' tok' va' at' ∧ pos ≤ g)) := by
  obtain ⟨⟨rfl, hc3, rfl, hp8, rfl, he14⟩, hst, hcn, hpn, h4⟩ := hM
  obtain ⟨u2, u4, u6, u8⟩ := lw4_0 ht.tok
  rw [if_pos rfl] at u2
  rw [if_neg (by decide)] at u4 u6 u8
  obtain ⟨rfl, rfl, hx⟩ := id ht
  by_cases h3 : m12 = 3
  · subst h3
    have hC : sp_E_4_readsClock fa fat len be 8 vl at_ f fw fcn fpn 3 m13 = (0, fcn, 5, at_, be, 8, vl, at_, 3) := by
      simp only [sp_E_4_readsClock, slet, sp_E_4_refuse, Nat.lt_irrefl, reduceIte]
    have hL : sp_EM_readLine_0 len at_ be tok va 0 x27 f1 f2 f3 r4 r5 r6 r7 f8 r9 r10 r11 3 m13 m14 m15 f = (f1, r10, r11, f2, f3, r4, r5, r6, r7, f8, r9, 3, m13, m14, m15, at_, be, tok, va, 5, at_) := by
      simp only [sp_EM_readLine_0, slet, u2, u4, u6, u8, Nat.one_ne_zero, reduceIte, fails_eq ht.tok, good_n (fk_0 (k := 8) (kind := 5) (by decide))]
      rfl
    exact ⟨_, _, _, _, _, _, _, _, _, hC, _, _, _, _, _, _, _, _, _, _, _, _, _, _, _, _, _, _, _, _, _, hL, Or.inl ⟨rfl, by decide, rfl, rfl⟩⟩
  · obtain ⟨⟨p1, k1, v1, a1⟩, h1⟩ : ∃ x, sp_E_4_advance len be vl f fw = x := ⟨_, rfl⟩
    obtain ⟨t1, w1, g1, n1, s1, l1⟩ := adv_ex hw hf hl ht.le h1
    obtain ⟨⟨u, fa1, fat1⟩, h2⟩ : ∃ x, sp_E_4_isNewName fa fat k1 v1 a1 fcn fpn m12 m13 = x := ⟨_, rfl⟩
    obtain ⟨⟨its, at1, be1, tok1, va1, w, wa⟩, e2⟩ : ∃ x, sp_EM_freshName_0 len a1 p1 t1 w1 0 x27 f1 f2 m12 m13 f = x := ⟨_, rfl⟩
    have hlt : m12 < 3 := by omega
    have hL : sp_EM_readLine_0 len at_ be tok va 0 x27 f1 f2 f3 r4 r5 r6 r7 f8 r9 r10 r11 m12 m13 m14 m15 f = (upd f1 (0 + m12) its, r10, r11, f2, f3, r4, r5, r6, r7, f8, r9, m12 + 1, m13, m14, m15, at1, be1, tok1, va1, w, wa) := by
      simp only [sp_EM_readLine_0, slet, u2, u4, u6, u8, Nat.one_ne_zero, reduceIte, if_neg h3, good_0, n1, e2]
    rcases fn_0 s1.tok hcn hpn h2 e2 with ⟨rfl, b1, b2, b3⟩ | ⟨rfl, rfl, rfl, rfl, rfl, e9, b4⟩
    · have hC : sp_E_4_readsClock fa fat len be 8 vl at_ f fw fcn fpn m12 m13 = (0, fcn, fa1, fat1, p1, k1, v1, a1, m12) := by
        simp only [sp_E_4_readsClock, slet, if_pos hlt, h1, h2, reduceIte]
      exact ⟨_, _, _, _, _, _, _, _, _, hC, _, _, _, _, _, _, _, _, _, _, _, _, _, _, _, _, _, _, _, _, _, hL, Or.inl ⟨rfl, b1, b2, b3⟩⟩
    · obtain ⟨⟨p2, k2, v2, a2⟩, h5⟩ : ∃ x, sp_E_4_advance len p1 v1 f fw = x := ⟨_, rfl⟩
      obtain ⟨t2, w2, g2, n2, s2, l2⟩ := adv_ex hw hf hl s1.le h5
      rw [n2] at b4
      simp only [Prod.mk.injEq] at b4
      obtain ⟨rfl, rfl, rfl, rfl⟩ := b4
      have hC : sp_E_4_readsClock fa1 fat1 len be 8 vl at_ f fw fcn fpn m12 m13 = (1, upd fcn m12 v1, fa1, fat1, p2, k2, v2, a2, m12 + 1) := by
        simp only [sp_E_4_readsClock, slet, if_pos hlt, h1, h2, reduceIte, Nat.one_ne_zero, h5]
      rw [e9] at hL
      refine ⟨_, _, _, _, _, _, _, _, _, hC, _, _, _, _, _, _, _, _, _, _, _, _, _, _, _, _, _, _, _, _, _, hL, Or.inr ⟨rfl, rfl, rfl, rfl, rfl, ⟨⟨rfl, by omega, rfl, hp8, rfl, he14⟩, hst, ?_, hpn, h4⟩, g2, s2, by have := s1.gle; omega⟩⟩
      intro i hi
      by_cases e : i = m12
      · subst e; rw [upd_s, upd_s]
      · rw [upd_n e, upd_n (by omega)]; exact hcn i (by omega)
