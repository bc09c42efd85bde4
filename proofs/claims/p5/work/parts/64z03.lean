theorem tok_0 {k t : Nat} {v w : Int32} (h : TokR k v t w) : k = 0 ↔ t = 4 := by
  rcases h with ⟨a, b⟩ | ⟨a, b⟩ | ⟨a, b, -⟩ | ⟨a, b, -⟩ | ⟨a, b, -⟩ | ⟨a, b, -⟩ | ⟨a, b, -⟩ | ⟨a, b, -⟩ | ⟨x, hx, a, b, -⟩ <;> omega
theorem tok_1 {k t : Nat} {v w : Int32} (h : TokR k v t w) : k = 1 ↔ t = 0 := by
  rcases h with ⟨a, b⟩ | ⟨a, b⟩ | ⟨a, b, -⟩ | ⟨a, b, -⟩ | ⟨a, b, -⟩ | ⟨a, b, -⟩ | ⟨a, b, -⟩ | ⟨a, b, -⟩ | ⟨x, hx, a, b, -⟩ <;> omega
theorem tok_3 {k t : Nat} {v w : Int32} (h : TokR k v t w) : k = 3 ↔ t = 2 := by
  rcases h with ⟨a, b⟩ | ⟨a, b⟩ | ⟨a, b, -⟩ | ⟨a, b, -⟩ | ⟨a, b, -⟩ | ⟨a, b, -⟩ | ⟨a, b, -⟩ | ⟨a, b, -⟩ | ⟨x, hx, a, b, -⟩ <;> omega
theorem tok_3v {t : Nat} {v w : Int32} (h : TokR 3 v t w) : v = w := by
  rcases h with ⟨a, b⟩ | ⟨a, b⟩ | ⟨a, b, -⟩ | ⟨a, b, e⟩ | ⟨a, b, -⟩ | ⟨a, b, -⟩ | ⟨a, b, -⟩ | ⟨a, b, -⟩ | ⟨x, hx, a, b, -⟩ <;> first | exact e | omega
theorem WW_inj {i j : Nat} (hi : i < 8) (hj : j < 8) (h : WW i = WW j) : i = j := by
  have : ∀ i, i < 8 → ∀ j, j < 8 → WW i = WW j → i = j := by decide
  exact this i hi j hj h
/-- is it this word: of the class by its kind, of the reference by its number -/
theorem word_iff {k t : Nat} {v w : Int32} (h : TokR k v t w) {i : Nat} (hi : i < 8) : sp_EM_isWord t w (WW i) = (if k = 8 + i then 1 else 0) := by
  unfold sp_EM_isWord
  rcases h with ⟨a, b⟩ | ⟨a, b⟩ | ⟨a, b, e, n⟩ | ⟨a, b, -⟩ | ⟨a, b, -⟩ | ⟨a, b, -⟩ | ⟨a, b, -⟩ | ⟨a, b, -⟩ | ⟨x, hx, a, b, e⟩
  · rw [if_neg (by omega), if_neg (by omega)]
  · rw [if_neg (by omega), if_neg (by omega)]
  · rw [if_pos b, if_neg (fun z => n ⟨i, hi, z⟩), if_neg (by omega)]
  · rw [if_neg (by omega), if_neg (by omega)]
  · rw [if_neg (by omega), if_neg (by omega)]
  · rw [if_neg (by omega), if_neg (by omega)]
  · rw [if_neg (by omega), if_neg (by omega)]
  · rw [if_neg (by omega), if_neg (by omega)]
  · rw [if_pos b, e]
    by_cases hxi : x = i
    · subst hxi; rw [if_pos rfl, if_pos a]
    · rw [if_neg (fun z => hxi (WW_inj hx hi z)), if_neg (by omega)]
theorem sign_iff {k t : Nat} {v w : Int32} (h : TokR k v t w) {c : Int32} {j : Nat} (hc : (c = 60 ∧ j = 4) ∨ (c = 61 ∧ j = 5) ∨ (c = 62 ∧ j = 6) ∨ (c = 59 ∧ j = 7)) : sp_EM_isSign t w c = (if k = j then 1 else 0) := by
  unfold sp_EM_isSign
  rcases h with ⟨a, b⟩ | ⟨a, b⟩ | ⟨a, b, e, n⟩ | ⟨a, b, -⟩ | ⟨a, b, e⟩ | ⟨a, b, e⟩ | ⟨a, b, e⟩ | ⟨a, b, e⟩ | ⟨x, hx, a, b, e⟩
  · rw [if_neg (by omega), if_neg (by omega)]
  · rw [if_neg (by omega), if_neg (by omega)]
  · rw [if_neg (by omega), if_neg (by omega)]
  · rw [if_neg (by omega), if_neg (by omega)]
  · rw [if_pos b, e]; rcases hc with ⟨rfl, rfl⟩ | ⟨rfl, rfl⟩ | ⟨rfl, rfl⟩ | ⟨rfl, rfl⟩ <;> subst a <;> decide
  · rw [if_pos b, e]; rcases hc with ⟨rfl, rfl⟩ | ⟨rfl, rfl⟩ | ⟨rfl, rfl⟩ | ⟨rfl, rfl⟩ <;> subst a <;> decide
  · rw [if_pos b, e]; rcases hc with ⟨rfl, rfl⟩ | ⟨rfl, rfl⟩ | ⟨rfl, rfl⟩ | ⟨rfl, rfl⟩ <;> subst a <;> decide
  · rw [if_pos b, e]; rcases hc with ⟨rfl, rfl⟩ | ⟨rfl, rfl⟩ | ⟨rfl, rfl⟩ | ⟨rfl, rfl⟩ <;> subst a <;> decide
  · rw [if_neg (by omega), if_neg (by omega)]
/-- a kept word or not: a name is a word that isn't kept -/
theorem kept_iff {k t : Nat} {v w : Int32} (h : TokR k v t w) : sp_EM_isKept t w = (if 8 ≤ k ∧ k < 16 then 1 else 0) := by
  have e := fun i (hi : i < 8) => word_iff h hi
  unfold sp_EM_isKept slet
  have e0 : sp_EM_isWord t w 3554411 = _ := e 0 (by decide)
  have e1 : sp_EM_isWord t w 17171557 = _ := e 1 (by decide)
  have e2 : sp_EM_isWord t w 723752404 = _ := e 2 (by decide)
  have e3 : sp_EM_isWord t w 22499628 = _ := e 3 (by decide)
  have e4 : sp_EM_isWord t w 20579924 = _ := e 4 (by decide)
  have e5 : sp_EM_isWord t w 168165 = _ := e 5 (by decide)
  have e6 : sp_EM_isWord t w 762030 = _ := e 6 (by decide)
  have e7 : sp_EM_isWord t w 19057844 = _ := e 7 (by decide)
  rw [e0, e1, e2, e3, e4, e5, e6, e7]
  by_cases h0 : k = 8 + 0
  · subst h0; rfl
  by_cases h1 : k = 8 + 1
  · subst h1; rfl
  by_cases h2 : k = 8 + 2
  · subst h2; rfl
  by_cases h3 : k = 8 + 3
  · subst h3; rfl
  by_cases h4 : k = 8 + 4
  · subst h4; rfl
  by_cases h5 : k = 8 + 5
  · subst h5; rfl
  by_cases h6 : k = 8 + 6
  · subst h6; rfl
  by_cases h7 : k = 8 + 7
  · subst h7; rfl
  rw [if_neg h0, if_neg h1, if_neg h2, if_neg h3, if_neg h4, if_neg h5, if_neg h6, if_neg h7, if_neg (show ¬ (8 ≤ k ∧ k < 16) by omega)]
  rfl
theorem tok_2 {k t : Nat} {v w : Int32} (h : TokR k v t w) : k = 2 ↔ (t = 1 ∧ sp_EM_isKept t w = 0) := by
  rw [kept_iff h]
  rcases h with ⟨a, b⟩ | ⟨a, b⟩ | ⟨a, b, -⟩ | ⟨a, b, -⟩ | ⟨a, b, -⟩ | ⟨a, b, -⟩ | ⟨a, b, -⟩ | ⟨a, b, -⟩ | ⟨x, hx, a, b, -⟩
  · omega
  · omega
  · rw [if_neg (by omega)]; omega
  · omega
  · omega
  · omega
  · omega
  · omega
  · rw [if_pos (by omega)]; omega
theorem tok_2v {t : Nat} {v w : Int32} (h : TokR 2 v t w) : v = w := by
  rcases h with ⟨a, b⟩ | ⟨a, b⟩ | ⟨a, b, e, -⟩ | ⟨a, b, e⟩ | ⟨a, b, -⟩ | ⟨a, b, -⟩ | ⟨a, b, -⟩ | ⟨a, b, -⟩ | ⟨x, hx, a, b, -⟩ <;> first | exact e | omega
/-- what a fault at this token is -/
def fk (k kind : Nat) : Nat := if k = 0 then 1 else kind
theorem fails_eq {k t : Nat} {v w : Int32} (h : TokR k v t w) (at_ x27 : Int32) (kind : Nat) : sp_EM_fails at_ t 0 x27 kind = (fk k kind, at_) := by
  unfold sp_EM_fails fk
  rw [if_pos rfl]
  by_cases hk : k = 0
  · rw [if_pos ((tok_0 h).mp hk), if_pos hk]
  · rw [if_neg (fun z => hk ((tok_0 h).mpr z)), if_neg hk]
theorem fails_n {at_ x27 : Int32} {t kind w : Nat} (h : w ≠ 0) : sp_EM_fails at_ t w x27 kind = (w, x27) := by
  unfold sp_EM_fails; rw [if_neg h]
theorem fk_0 {k kind : Nat} (h : kind ≠ 0) : fk k kind ≠ 0 := by
  unfold fk; split
  · decide
  · exact h
theorem good_0 : sp_EM_isGood 0 = 1 := rfl
theorem good_n {w : Nat} (h : w ≠ 0) : sp_EM_isGood w = 0 := by unfold sp_EM_isGood; rw [if_neg h]
theorem refT_eq (k : Nat) (a : Int32) : sp_E_4_refuseToken k a = (nI (fk k 2), a) := rfl
theorem ref_eq (a p : Int32) : sp_E_4_refuse a p = (p, a) := rfl
theorem must_eq {k t : Nat} {v w : Int32} (h : TokR k v t w) (at_ x27 : Int32) : sp_EM_mustBeName at_ t w 0 x27 = (if k = 2 then (0, x27) else (fk k 2, at_)) := by
  have e : sp_EM_mustBeName at_ t w 0 x27 = (if t = 1 then (if sp_EM_isKept t w = 0 then (0, x27) else sp_EM_fails at_ t 0 x27 2) else sp_EM_fails at_ t 0 x27 2) := rfl
  rw [e, fails_eq h]
  by_cases hk : k = 2
  · obtain ⟨a, b⟩ := (tok_2 h).mp hk
    rw [if_pos a, if_pos b, if_pos hk]
  · rw [if_neg hk]
    by_cases ht : t = 1
    · rw [if_pos ht, if_neg (fun z => hk ((tok_2 h).mpr ⟨ht, z⟩))]
    · rw [if_neg ht]
/-- names looked up: the same loop over rows that are the same as far as they go -/
theorem find_sim {n : Nat} {f g : Nat → Int32} {v : Int32} (h : ∀ i, i < n → f i = g i) : itrv (α := Nat) (β := Nat) default (fun i => if n ≤ i then .inr 0 else if f i = v then .inr (i + 1) else .inl (i + 1)) 0 = itrv (α := Nat) (β := Nat) default (fun i => if n ≤ i then .inr 0 else if g i = v then .inr (i + 1) else .inl (i + 1)) 0 := by
  congr 1
  funext i
  by_cases hi : n ≤ i
  · rw [if_pos hi, if_pos hi]
  · rw [if_neg hi, if_neg hi, h i (Nat.not_le.mp hi)]
theorem find_le {n : Nat} {f : Nat → Int32} {v : Int32} : itrv (α := Nat) (β := Nat) default (fun i => if n ≤ i then .inr 0 else if f i = v then .inr (i + 1) else .inl (i + 1)) 0 ≤ n := by
  refine itrv_inv (d := default) (f := fun i => if n ≤ i then Sum.inr 0 else if f i = v then .inr (i + 1) else .inl (i + 1)) (fun i => i ≤ n) (fun b => b ≤ n) (fun i => n - i) ?_ n 0 (by omega) (Nat.zero_le _)
  intro i hi
  by_cases h : n ≤ i
  · exact Or.inr ⟨0, by simp only [if_pos h], Nat.zero_le _⟩
  · by_cases e : f i = v
    · exact Or.inr ⟨i + 1, by simp only [if_neg h, if_pos e], by omega⟩
    · exact Or.inl ⟨i + 1, by simp only [if_neg h, if_neg e], by omega, by omega⟩
/-- where both stand: a token that begins at g and ends at p -/
def TS (len g p k : Nat) (v a : Int32) (be tok : Nat) (va at_ : Int32) : Prop := be = p ∧ at_ = a ∧ TokR k v tok va ∧ p ≤ len ∧ a = nI g ∧ g ≤ len ∧ (k = 1 → g = len ∧ p = len) ∧ (k ≠ 1 → g < p)
theorem TS.tok {len g p k be tok : Nat} {v a va at_ : Int32} (h : TS len g p k v a be tok va at_) : TokR k v tok va := h.2.2.1
theorem TS.le {len g p k be tok : Nat} {v a va at_ : Int32} (h : TS len g p k v a be tok va at_) : p ≤ len := h.2.2.2.1
theorem TS.gle {len g p k be tok : Nat} {v a va at_ : Int32} (h : TS len g p k v a be tok va at_) : g ≤ p := by
  by_cases e : k = 1
  · have := h.2.2.2.2.2.2.1 e; omega
  · exact Nat.le_of_lt (h.2.2.2.2.2.2.2 e)
theorem adv_ex {f fw : Nat → Int32} (hw : ∀ i, i < 8 → fw i = WW i) (hf : ∀ i, f i ≠ -1) {len pos : Nat} (hl : len ≤ 900) (hp : pos ≤ len) {vl : Int32} {p k : Nat} {v a : Int32} (hA : sp_E_4_advance len pos vl f fw = (p, k, v, a)) : ∃ t w g, sp_EM_next len pos f = (a, p, t, w) ∧ TS len g p k v a p t w a ∧ pos ≤ g := by
  obtain ⟨⟨a', p', t', v'⟩, hB⟩ : ∃ x, sp_EM_next len pos f = x := ⟨_, rfl⟩
  obtain ⟨rfl, rfl, h3, h4, g, h5, h6, h7, h8, h9⟩ := adv_next hw hf hl hp vl hA hB
  exact ⟨t', v', g, hB, ⟨rfl, rfl, h3, h4, h5, h7, h8, h9⟩, h6⟩
