/-- two loops side by side: they go on together, or the first is out and the second's end is as it should be -/
theorem itrv_sim {α β α' β' : Type} {d : β} {d' : β'} {f : α → α ⊕ β} {g : α' → α' ⊕ β'} (R : α → α' → Prop) (Q : β → β' → Prop) (M : α → Nat)
    (hs : ∀ t t', R t t' → (∃ u u', f t = .inl u ∧ g t' = .inl u' ∧ R u u' ∧ M u < M t) ∨ (∃ b, f t = .inr b ∧ Q b (itrv d' g t'))) :
    ∀ (n : Nat) (t : α) (t' : α'), M t ≤ n → R t t' → Q (itrv d f t) (itrv d' g t') := by
  intro n
  induction n with
  | zero =>
    intro t t' hm h
    rcases hs t t' h with ⟨u, u', e1, e2, hr, hl⟩ | ⟨b, e1, hq⟩
    · omega
    · rw [itrv_inr e1]; exact hq
  | succ n ih =>
    intro t t' hm h
    rcases hs t t' h with ⟨u, u', e1, e2, hr, hl⟩ | ⟨b, e1, hq⟩
    · rw [itrv_inl e1, itrv_inl e2]; exact ih u u' (by omega) hr
    · rw [itrv_inr e1]; exact hq
/-- one loop and what holds of it -/
theorem itrv_inv {α β : Type} {d : β} {f : α → α ⊕ β} (R : α → Prop) (Q : β → Prop) (M : α → Nat)
    (hs : ∀ t, R t → (∃ u, f t = .inl u ∧ R u ∧ M u < M t) ∨ (∃ b, f t = .inr b ∧ Q b)) : ∀ (n : Nat) (t : α), M t ≤ n → R t → Q (itrv d f t) := by
  intro n
  induction n with
  | zero =>
    intro t hm h
    rcases hs t h with ⟨u, e1, hr, hl⟩ | ⟨b, e1, hq⟩
    · omega
    · rw [itrv_inr e1]; exact hq
  | succ n ih =>
    intro t hm h
    rcases hs t h with ⟨u, e1, hr, hl⟩ | ⟨b, e1, hq⟩
    · rw [itrv_inl e1]; exact ih u (by omega) hr
    · rw [itrv_inr e1]; exact hq
/-- the words that are no names -/
def WW (i : Nat) : Int32 := if i = 0 then 3554411 else if i = 1 then 17171557 else if i = 2 then 723752404 else if i = 3 then 22499628 else if i = 4 then 20579924 else if i = 5 then 168165 else if i = 6 then 762030 else 19057844
def isW (v : Int32) : Prop := ∃ i, i < 8 ∧ v = WW i
/-- the same token: of the class (kind, value), of the reference (token, value) -/
def TokR (kd : Nat) (vl : Int32) (tk : Nat) (va : Int32) : Prop :=
  (kd = 0 ∧ tk = 4) ∨ (kd = 1 ∧ tk = 0) ∨ (kd = 2 ∧ tk = 1 ∧ vl = va ∧ ¬ isW va) ∨ (kd = 3 ∧ tk = 2 ∧ vl = va) ∨ (kd = 4 ∧ tk = 3 ∧ va = 60) ∨ (kd = 5 ∧ tk = 3 ∧ va = 61) ∨ (kd = 6 ∧ tk = 3 ∧ va = 62) ∨ (kd = 7 ∧ tk = 3 ∧ va = 59) ∨ (∃ w, w < 8 ∧ kd = 8 + w ∧ tk = 1 ∧ va = WW w)
/-- a loop of the class that goes past blanks -/
def skipS (len : Nat) (f : Nat → Int32) (g : Nat) : Nat ⊕ Nat := if len ≤ g then .inr g else if f g = 32 then .inl (g + 1) else if f g = 10 then .inl (g + 1) else .inr g
theorem skip_sp {len : Nat} {f : Nat → Int32} {p : Nat} (hp : p ≤ len) : p ≤ itrv default (skipS len f) p ∧ itrv default (skipS len f) p ≤ len := by
  refine itrv_inv (d := default) (f := skipS len f) (fun q => p ≤ q ∧ q ≤ len) (fun q => p ≤ q ∧ q ≤ len) (fun q => len - q) ?_ len p (by omega) ⟨Nat.le_refl _, hp⟩
  intro q hq
  unfold skipS
  by_cases h : len ≤ q
  · rw [if_pos h]; exact Or.inr ⟨q, rfl, hq⟩
  · rw [if_neg h]
    by_cases h1 : f q = 32
    · rw [if_pos h1]; exact Or.inl ⟨q + 1, rfl, by omega, by omega⟩
    · rw [if_neg h1]
      by_cases h2 : f q = 10
      · rw [if_pos h2]; exact Or.inl ⟨q + 1, rfl, by omega, by omega⟩
      · rw [if_neg h2]; exact Or.inr ⟨q, rfl, hq⟩
