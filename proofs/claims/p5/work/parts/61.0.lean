/-- a value named, then what is made of it -/
def slet {α β : Type} (a : α) (f : α → β) : β := f a
theorem slet_eq {α β : Type} {a u : α} {f : α → β} (h : u = a) : slet a f = f u := by rw [h]; rfl
theorem slet_ex {α β : Type} {R : β} {a : α} {f : α → β} (h : R = slet a f) : ∃ J : α, J = a ∧ R = f J := ⟨a, rfl, h⟩
/-- a loop by its step: on, or out with an answer; n turns at most -/
def itn {α β : Type} (f : α → α ⊕ β) : Nat → α → Option β
  | 0, _ => none
  | n + 1, t => match f t with
    | .inl t' => itn f n t'
    | .inr b => some b
theorem itn_l {α β : Type} {f : α → α ⊕ β} {n : Nat} {t t' : α} (h : f t = .inl t') : itn f (n + 1) t = itn f n t' := by rw [itn, h]
theorem itn_r {α β : Type} {f : α → α ⊕ β} {n : Nat} {t : α} {b : β} (h : f t = .inr b) : itn f (n + 1) t = some b := by rw [itn, h]
theorem itn_det {α β : Type} {f : α → α ⊕ β} : ∀ (n m : Nat) {t : α} {b b' : β}, itn f n t = some b → itn f m t = some b' → b = b' := by
  intro n
  induction n with
  | zero => intro m t b b' h; exact absurd h (by rw [itn]; exact fun z => nomatch z)
  | succ n ih =>
    intro m t b b' h g
    cases m with
    | zero => exact absurd g (by rw [itn]; exact fun z => nomatch z)
    | succ m =>
      cases e : f t with
      | inl t' => rw [itn_l e] at h g; exact ih m h g
      | inr c => rw [itn_r e] at h g; exact Option.some.inj (h.symm.trans g)
noncomputable def itrv {α β : Type} (d : β) (f : α → α ⊕ β) (t : α) : β := Classical.epsilon (h := ⟨d⟩) (fun b => ∃ n, itn f n t = some b)
theorem itrv_of {α β : Type} {d : β} {f : α → α ⊕ β} {n : Nat} {t : α} {b : β} (h : itn f n t = some b) : itrv d f t = b := by
  obtain ⟨m, hm⟩ := Classical.epsilon_spec_aux ⟨d⟩ (fun b => ∃ n, itn f n t = some b) ⟨b, n, h⟩
  exact itn_det m n hm h
theorem itrv_inr {α β : Type} {d : β} {f : α → α ⊕ β} {t : α} {b : β} (h : f t = .inr b) : itrv d f t = b := itrv_of (n := 1) (itn_r h)
theorem itrv_inl {α β : Type} {d : β} {f : α → α ⊕ β} {t t' : α} (h : f t = .inl t') : itrv d f t = itrv d f t' := by
  unfold itrv
  congr 1
  funext b
  apply propext
  constructor
  · rintro ⟨n, hn⟩
    cases n with
    | zero => exact absurd hn (by rw [itn]; exact fun z => nomatch z)
    | succ n => exact ⟨n, by rw [itn_l h] at hn; exact hn⟩
  · rintro ⟨n, hn⟩
    exact ⟨n + 1, by rw [itn_l h]; exact hn⟩
theorem itr_ex {α β : Type} {d : β} {R : β} {f : α → α ⊕ β} {t : α} (h : R = itrv d f t) : ∃ (F : α → α ⊕ β) (D : β), F = f ∧ R = itrv D F t := ⟨f, d, rfl, h⟩
theorem itr_step {α β : Type} {d : β} {R : β} {F f : α → α ⊕ β} {t : α} (hF : F = f) (h : R = itrv d F t) : ∃ S : α ⊕ β, S = f t ∧ (∀ t' : α, S = .inl t' → R = itrv d F t') ∧ (∀ b : β, S = .inr b → R = b) := by
  subst hF
  exact ⟨_, rfl, fun t' e => h.trans (itrv_inl e), fun b e => h.trans (itrv_inr e)⟩
def updN (q : Nat → Nat) (k v : Nat) : Nat → Nat := fun j => if j = k then v else q j
theorem bN_getx (h : Nat) (q : Nat → Nat) {n : Nat} (hn : n < 2 ^ 31) : ∃ v : Nat, v ≤ h ∧ bN h q (nI n).toNatClampNeg = nI v ∧ v = min (q n) h := ⟨min (q n) h, Nat.min_le_right _ _, by rw [nI_clamp hn]; rfl, rfl⟩
theorem bN_upx (h : Nat) (q : Nat → Nat) {n v : Nat} (hn : n < 2 ^ 31) (hv : v ≤ h) : ∃ q' : Nat → Nat, upd (bN h q) (nI n).toNatClampNeg (nI v) = bN h q' ∧ bN h q' (nI n).toNatClampNeg = nI v ∧ (∀ j : Nat, j ≠ (nI n).toNatClampNeg → bN h q' j = bN h q j) ∧ q' = updN q n v := by
  rw [nI_clamp hn]
  refine ⟨updN q n v, ?_, ?_, ?_, rfl⟩
  · funext j
    unfold upd bN updN
    by_cases e : j = n
    · rw [if_pos e, if_pos e, Nat.min_eq_left hv]
    · rw [if_neg e, if_neg e]
  · unfold bN updN
    rw [if_pos rfl, Nat.min_eq_left hv]
  · intro j e
    unfold bN updN
    rw [if_neg e]
theorem up_x (f : Nat → Int32) {n : Nat} (v : Int32) (hn : n < 2 ^ 31) : ∃ f' : Nat → Int32, upd f (nI n).toNatClampNeg v = f' ∧ f' = upd f n v := ⟨upd f n v, by rw [nI_clamp hn], rfl⟩
theorem nI_cl {n : Nat} (hn : n < 2 ^ 31) : n = (nI n).toNatClampNeg := (nI_clamp hn).symm
theorem b2_getx {a b i : Nat} (hi : i ≤ 1) : ∃ v : Nat, ((i = 0 ∧ v = a) ∨ (i = 1 ∧ v = b)) ∧ b2 a b (nI i).toNatClampNeg = nI v ∧ v = (if i = 0 then a else b) := by
  obtain ⟨v, h, e⟩ := b2_get (a := a) (b := b) hi
  refine ⟨v, h, e, ?_⟩
  rcases h with ⟨rfl, rfl⟩ | ⟨rfl, rfl⟩ <;> rfl
theorem b2m_getx {a b i : Nat} (hi : i ≤ 1) : ∃ v : Nat, ((i = 0 ∧ v = a) ∨ (i = 1 ∧ v = b)) ∧ b2m a b (nI i).toNatClampNeg = mI v ∧ v = (if i = 0 then a else b) := by
  obtain ⟨v, h, e⟩ := b2m_get (a := a) (b := b) hi
  refine ⟨v, h, e, ?_⟩
  rcases h with ⟨rfl, rfl⟩ | ⟨rfl, rfl⟩ <;> rfl
theorem bH_getx (q : Nat → Nat) {i : Nat} (hi : i < 2 ^ 31) : ∃ v : Nat, (v ≤ 4 ∧ (i % 80 < 56 ∨ v ≤ 1)) ∧ bH q (nI i).toNatClampNeg = nI v ∧ v = min (q i) (if i % 80 < 56 then 4 else 1) := by
  rw [nI_clamp hi]
  refine ⟨min (q i) (if i % 80 < 56 then 4 else 1), ?_, rfl, rfl⟩
  by_cases h : i % 80 < 56
  · rw [if_pos h]; exact ⟨Nat.min_le_right _ _, Or.inl h⟩
  · rw [if_neg h]; exact ⟨Nat.le_trans (Nat.min_le_right _ _) (by decide), Or.inr (Nat.min_le_right _ _)⟩
theorem bH_upx (q : Nat → Nat) {i v : Nat} (hi : i < 2 ^ 31) (hv : v ≤ 4 ∧ (i % 80 < 56 ∨ v ≤ 1)) : ∃ q' : Nat → Nat, upd (bH q) (nI i).toNatClampNeg (nI v) = bH q' ∧ bH q' (nI i).toNatClampNeg = nI v ∧ q' = updN q i v := by
  rw [nI_clamp hi]
  have hm : min v (if i % 80 < 56 then 4 else 1) = v := by
    by_cases h : i % 80 < 56
    · rw [if_pos h]; exact Nat.min_eq_left hv.1
    · rw [if_neg h]; exact Nat.min_eq_left (hv.2.resolve_left h)
  refine ⟨updN q i v, ?_, ?_, rfl⟩
  · funext j
    unfold upd bH updN
    by_cases e : j = i
    · rw [if_pos e, if_pos e, e, hm]
    · rw [if_neg e, if_neg e]
  · unfold bH updN
    rw [if_pos rfl, hm]
theorem bM_upx (h : Nat) (q : Nat → Nat) {n v : Nat} (hn : n < 2 ^ 31) (hv : v ≤ h) : ∃ q' : Nat → Nat, upd (bM h q) (nI n).toNatClampNeg (nI v) = bM h q' ∧ q' = updN q n (v + 1) := by
  rw [nI_clamp hn]
  refine ⟨updN q n (v + 1), ?_, rfl⟩
  funext j
  unfold upd bM updN
  by_cases e : j = n
  · rw [if_pos e, if_pos e, if_neg (by omega), Nat.add_sub_cancel, Nat.min_eq_left hv]
  · rw [if_neg e, if_neg e]
