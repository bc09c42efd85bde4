/-- a bit of a number -/
def bq (x : Int32) (i : Nat) : Prop := (x >>> ((nI i : Int32) &&& 31)) &&& (1 : Int32) = 1
theorem bit_tab : ∀ t, t < 8 → ∀ i, i < 8 → ((((1 : Int32) <<< ((nI t : Int32) &&& 31)) >>> ((nI i : Int32) &&& 31)) &&& (1 : Int32)) = if i = t then 1 else 0 := by decide +kernel
theorem and1_or (p q : Int32) : (p ||| q) &&& (1 : Int32) = (p &&& 1) ||| (q &&& 1) := Int32.toBitVec_inj.1 BitVec.and_or_distrib_right
theorem and1_01 (p : Int32) : p &&& (1 : Int32) = 0 ∨ p &&& (1 : Int32) = 1 := by
  have e := pk_and p (m := 1) 1 (by decide)
  rcases Nat.mod_two_eq_zero_or_one p.toBitVec.toNat with z | z
  · have z : p.toBitVec.toNat % 2 ^ 1 = 0 := z
    rw [z] at e; exact Or.inl e
  · have z : p.toBitVec.toNat % 2 ^ 1 = 1 := z
    rw [z] at e; exact Or.inr e
theorem bq_or {x : Int32} {t i : Nat} (ht : t < 8) (hi : i < 8) : bq (x ||| ((1 : Int32) <<< ((nI t : Int32) &&& 31))) i ↔ bq x i ∨ i = t := by
  unfold bq
  rw [Int32.shiftRight_or, and1_or, bit_tab t ht i hi]
  by_cases e : i = t
  · rw [if_pos e]
    refine ⟨fun _ => Or.inr e, fun _ => ?_⟩
    rcases and1_01 (x >>> ((nI i : Int32) &&& 31)) with z | z <;> rw [z] <;> decide
  · rw [if_neg e, Int32.or_zero]
    exact ⟨fun z => Or.inl z, fun z => z.resolve_right e⟩
theorem bq_0 {i : Nat} (hi : i < 8) : ¬ bq 0 i := by
  have : ∀ i, i < 8 → ¬ ((0 : Int32) >>> ((nI i : Int32) &&& 31)) &&& (1 : Int32) = 1 := by decide +kernel
  exact this i hi
/-- sets of places -/
def stB (f4 : Nat → Int32) (q5 q6 : Nat → Nat) (a0 : Nat) (S : Nat → Bool) (e : Nat) : Nat → Bool := if (min (q5 e) 7 = a0 ∨ S (min (q5 e) 7) = true) ∧ ¬ f4 (min (q6 e) 7) = 0 then (fun i => if i = min (q6 e) 7 then true else S i) else S
def rdB (f4 : Nat → Int32) (q5 q6 : Nat → Nat) (a0 : Nat) (S : Nat → Bool) : Nat → Nat → Bool
  | 0 => S
  | e + 1 => stB f4 q5 q6 a0 (rdB f4 q5 q6 a0 S e) e
def itB (f4 : Nat → Int32) (q5 q6 : Nat → Nat) (a0 ne : Nat) : Nat → Nat → Bool
  | 0 => fun _ => false
  | k + 1 => rdB f4 q5 q6 a0 (itB f4 q5 q6 a0 ne k) ne
theorem stB_mono {f4 : Nat → Int32} {q5 q6 : Nat → Nat} {a0 : Nat} {S : Nat → Bool} {e i : Nat} (h : S i = true) : stB f4 q5 q6 a0 S e i = true := by
  unfold stB
  split
  · show (if i = min (q6 e) 7 then true else S i) = true
    split
    · rfl
    · exact h
  · exact h
theorem rdB_mono {f4 : Nat → Int32} {q5 q6 : Nat → Nat} {a0 : Nat} {S : Nat → Bool} {i : Nat} (h : S i = true) : ∀ e, rdB f4 q5 q6 a0 S e i = true := by
  intro e
  induction e with
  | zero => exact h
  | succ e ih => exact stB_mono ih
theorem stB_congr {f4 : Nat → Int32} {q5 q6 : Nat → Nat} {a0 : Nat} {S T : Nat → Bool} (h : ∀ i, i < 8 → S i = T i) (e : Nat) : ∀ i, i < 8 → stB f4 q5 q6 a0 S e i = stB f4 q5 q6 a0 T e i := by
  intro i hi
  unfold stB
  rw [h (min (q5 e) 7) (by omega)]
  split
  · show (if i = min (q6 e) 7 then true else S i) = (if i = min (q6 e) 7 then true else T i)
    rw [h i hi]
  · exact h i hi
theorem rdB_congr {f4 : Nat → Int32} {q5 q6 : Nat → Nat} {a0 : Nat} {S T : Nat → Bool} (h : ∀ i, i < 8 → S i = T i) (e : Nat) : ∀ i, i < 8 → rdB f4 q5 q6 a0 S e i = rdB f4 q5 q6 a0 T e i := by
  induction e with
  | zero => exact h
  | succ e ih => exact stB_congr ih e
def cntB (S : Nat → Bool) : Nat → Nat
  | 0 => 0
  | n + 1 => cntB S n + (if S n = true then 1 else 0)
theorem cntB_le (S : Nat → Bool) : ∀ n, cntB S n ≤ n := by
  intro n
  induction n with
  | zero => exact Nat.le_refl _
  | succ n ih =>
    show cntB S n + (if S n = true then 1 else 0) ≤ n + 1
    split <;> omega
theorem cntB_lt {S T : Nat → Bool} : ∀ n, (∀ i, i < n → S i = true → T i = true) → (∀ i, i < n → S i = T i) ∨ cntB S n + 1 ≤ cntB T n := by
  have mono : ∀ n, (∀ i, i < n → S i = true → T i = true) → cntB S n ≤ cntB T n := by
    intro n
    induction n with
    | zero => exact fun _ => Nat.le_refl _
    | succ n ih =>
      intro h
      have a := ih (fun i hi => h i (by omega))
      show cntB S n + (if S n = true then 1 else 0) ≤ cntB T n + (if T n = true then 1 else 0)
      by_cases z : S n = true
      · rw [if_pos z, if_pos (h n (by omega) z)]; omega
      · rw [if_neg z]; omega
  intro n
  induction n with
  | zero => exact fun _ => Or.inl (fun i hi => absurd hi (Nat.not_lt_zero i))
  | succ n ih =>
    intro h
    have m := mono n (fun i hi => h i (by omega))
    show _ ∨ cntB S n + (if S n = true then 1 else 0) + 1 ≤ cntB T n + (if T n = true then 1 else 0)
    by_cases z : S n = true
    · have zt := h n (by omega) z
      rw [if_pos z, if_pos zt]
      rcases ih (fun i hi => h i (by omega)) with g | g
      · refine Or.inl fun i hi => ?_
        by_cases e : i = n
        · rw [e, z, zt]
        · exact g i (by omega)
      · exact Or.inr (by omega)
    · rw [if_neg z]
      by_cases zt : T n = true
      · rw [if_pos zt]
        exact Or.inr (by omega)
      · rw [if_neg zt]
        rcases ih (fun i hi => h i (by omega)) with g | g
        · refine Or.inl fun i hi => ?_
          by_cases e : i = n
          · rw [e, Bool.eq_false_iff.mpr z, Bool.eq_false_iff.mpr zt]
          · exact g i (by omega)
        · exact Or.inr (by omega)
theorem itB_fix {f4 : Nat → Int32} {q5 q6 : Nat → Nat} {a0 ne : Nat} : ∀ i, i < 8 → itB f4 q5 q6 a0 ne 9 i = itB f4 q5 q6 a0 ne 8 i := by
  have key : ∀ k, (∀ i, i < 8 → itB f4 q5 q6 a0 ne k i = itB f4 q5 q6 a0 ne (k + 1) i) ∨ k + 1 ≤ cntB (itB f4 q5 q6 a0 ne (k + 1)) 8 := by
    intro k
    induction k with
    | zero =>
      rcases cntB_lt (S := itB f4 q5 q6 a0 ne 0) (T := itB f4 q5 q6 a0 ne 1) 8 (fun i _ h => rdB_mono h ne) with g | g
      · exact Or.inl g
      · exact Or.inr (Nat.le_trans (Nat.succ_le_succ (Nat.zero_le _)) g)
    | succ k ih =>
      rcases ih with g | g
      · exact Or.inl (fun i hi => rdB_congr g ne i hi)
      · rcases cntB_lt (S := itB f4 q5 q6 a0 ne (k + 1)) (T := itB f4 q5 q6 a0 ne (k + 2)) 8 (fun i _ h => rdB_mono h ne) with g2 | g2
        · exact Or.inl g2
        · exact Or.inr (Nat.le_trans (Nat.succ_le_succ g) g2)
  rcases key 8 with g | g
  · exact fun i hi => (g i hi).symm
  · exact absurd (Nat.le_trans g (cntB_le _ 8)) (by decide)
/-- the class's round, and all of them -/
theorem hb_round {ne a0 g4 : Nat} {f4 : Nat → Int32} {q5 q6 : Nat → Nat} {x : Int32} {S : Nat → Bool} (hx : ∀ i, i < 8 → (bq x i ↔ S i = true)) : ∃ y, itrv (Sum.inr default) (sp_E_0_hurriedBehind_L1 ne f4 q5 q6 a0 g4) (x, 0) = .inl (y, g4 + 1) ∧ ∀ i, i < 8 → (bq y i ↔ rdB f4 q5 q6 a0 S ne i = true) := by
  refine itrv_inv (d := Sum.inr default) (f := sp_E_0_hurriedBehind_L1 ne f4 q5 q6 a0 g4) (fun t => t.2 ≤ ne ∧ ∀ i, i < 8 → (bq t.1 i ↔ rdB f4 q5 q6 a0 S t.2 i = true)) (fun r => ∃ y, r = .inl (y, g4 + 1) ∧ ∀ i, i < 8 → (bq y i ↔ rdB f4 q5 q6 a0 S ne i = true)) (fun t => ne - t.2) ?_ ne (x, 0) (Nat.sub_le _ _) ⟨Nat.zero_le _, hx⟩
  rintro ⟨y, e⟩ ⟨he, hI⟩
  have he : e ≤ ne := he
  have hI : ∀ i, i < 8 → (bq y i ↔ rdB f4 q5 q6 a0 S e i = true) := hI
  by_cases ce : ne ≤ e
  · have ee : e = ne := Nat.le_antisymm he ce
    exact Or.inr ⟨.inl (y, g4 + 1), by simp only [sp_E_0_hurriedBehind_L1, if_pos ce], y, rfl, by rw [← ee]; exact hI⟩
  · have u7 : min (q5 e) 7 < 8 := by omega
    have v7 : min (q6 e) 7 < 8 := by omega
    have hc : (if min (q5 e) 7 = a0 then 1 else if (y >>> ((nI (min (q5 e) 7) : Int32) &&& 31)) &&& (1 : Int32) = 1 then 1 else 0) = (0 : Nat) ↔ ¬ (min (q5 e) 7 = a0 ∨ rdB f4 q5 q6 a0 S e (min (q5 e) 7) = true) := by
      have hb := hI _ u7
      by_cases c1 : min (q5 e) 7 = a0
      · rw [if_pos c1]; exact ⟨fun z => absurd z (by decide), fun z => absurd (Or.inl c1) z⟩
      · rw [if_neg c1]
        by_cases c2 : (y >>> ((nI (min (q5 e) 7) : Int32) &&& 31)) &&& (1 : Int32) = 1
        · rw [if_pos c2]; exact ⟨fun z => absurd z (by decide), fun z => absurd (Or.inr (hb.mp c2)) z⟩
        · rw [if_neg c2]; exact ⟨fun _ z => z.elim c1 (fun z => c2 (hb.mpr z)), fun _ => rfl⟩
    by_cases c : (min (q5 e) 7 = a0 ∨ rdB f4 q5 q6 a0 S e (min (q5 e) 7) = true)
    · have c0 := fun z => (hc.mp z) c
      by_cases cu : f4 (min (q6 e) 7) = 0
      · have er : rdB f4 q5 q6 a0 S (e + 1) = rdB f4 q5 q6 a0 S e := by
          show stB f4 q5 q6 a0 (rdB f4 q5 q6 a0 S e) e = _
          unfold stB
          rw [if_neg (fun z => z.2 cu)]
        exact Or.inl ⟨(y, e + 1), by simp only [sp_E_0_hurriedBehind_L1, slet, if_neg ce, if_neg c0, if_pos cu], ⟨by show e + 1 ≤ ne; omega, by show ∀ i, i < 8 → (bq y i ↔ rdB f4 q5 q6 a0 S (e + 1) i = true); rw [er]; exact hI⟩, by show ne - (e + 1) < ne - e; omega⟩
      · have er : rdB f4 q5 q6 a0 S (e + 1) = fun i => if i = min (q6 e) 7 then true else rdB f4 q5 q6 a0 S e i := by
          show stB f4 q5 q6 a0 (rdB f4 q5 q6 a0 S e) e = _
          unfold stB
          rw [if_pos ⟨c, cu⟩]
        refine Or.inl ⟨(y ||| ((1 : Int32) <<< ((nI (min (q6 e) 7) : Int32) &&& 31)), e + 1), by simp only [sp_E_0_hurriedBehind_L1, slet, if_neg ce, if_neg c0, if_neg cu], ⟨by show e + 1 ≤ ne; omega, fun i hi => ?_⟩, by show ne - (e + 1) < ne - e; omega⟩
        show bq (y ||| ((1 : Int32) <<< ((nI (min (q6 e) 7) : Int32) &&& 31))) i ↔ rdB f4 q5 q6 a0 S (e + 1) i = true
        rw [er, bq_or v7 hi, hI i hi]
        show _ ↔ (if i = min (q6 e) 7 then true else rdB f4 q5 q6 a0 S e i) = true
        by_cases ei : i = min (q6 e) 7
        · rw [if_pos ei]; exact ⟨fun _ => rfl, fun _ => Or.inr ei⟩
        · rw [if_neg ei]; exact ⟨fun z => z.resolve_right ei, fun z => Or.inl z⟩
    · have c0 := hc.mpr c
      have er : rdB f4 q5 q6 a0 S (e + 1) = rdB f4 q5 q6 a0 S e := by
        show stB f4 q5 q6 a0 (rdB f4 q5 q6 a0 S e) e = _
        unfold stB
        rw [if_neg (fun z => c z.1)]
      exact Or.inl ⟨(y, e + 1), by simp only [sp_E_0_hurriedBehind_L1, slet, if_neg ce]; exact congrArg (fun z : Int32 => (Sum.inl (z, e + 1) : (Int32 × Nat) ⊕ ((Int32 × Nat) ⊕ Int32))) (if_pos c0), ⟨by show e + 1 ≤ ne; omega, by show ∀ i, i < 8 → (bq y i ↔ rdB f4 q5 q6 a0 S (e + 1) i = true); rw [er]; exact hI⟩, by show ne - (e + 1) < ne - e; omega⟩
theorem hb_all {ne a0 : Nat} {f4 : Nat → Int32} {q5 q6 : Nat → Nat} : ∀ i, i < 8 → (bq (sp_E_0_hurriedBehind ne f4 q5 q6 a0) i ↔ itB f4 q5 q6 a0 ne 8 i = true) := by
  unfold sp_E_0_hurriedBehind
  refine itrv_inv (d := default) (f := sp_E_0_hurriedBehind_L2 ne f4 q5 q6 a0) (fun t => t.2 ≤ 8 ∧ ∀ i, i < 8 → (bq t.1 i ↔ itB f4 q5 q6 a0 ne t.2 i = true)) (fun r => ∀ i, i < 8 → (bq r i ↔ itB f4 q5 q6 a0 ne 8 i = true)) (fun t => 8 - t.2) ?_ 8 (0, 0) (Nat.sub_le _ _) ⟨Nat.zero_le _, fun i hi => ⟨fun z => absurd z (bq_0 hi), fun z => absurd z (by show ¬ false = true; decide)⟩⟩
  rintro ⟨y, k⟩ ⟨hk, hI⟩
  have hk : k ≤ 8 := hk
  have hI : ∀ i, i < 8 → (bq y i ↔ itB f4 q5 q6 a0 ne k i = true) := hI
  by_cases ce : 8 ≤ k
  · have ek : k = 8 := Nat.le_antisymm hk ce
    exact Or.inr ⟨y, by simp only [sp_E_0_hurriedBehind_L2, if_pos ce], by subst ek; exact hI⟩
  · obtain ⟨z, e, hz⟩ := hb_round (ne := ne) (a0 := a0) (g4 := k) (f4 := f4) (q5 := q5) (q6 := q6) hI
    exact Or.inl ⟨(z, k + 1), by simp only [sp_E_0_hurriedBehind_L2, if_neg ce, e], ⟨by show k + 1 ≤ 8; omega, hz⟩, by show 8 - (k + 1) < 8 - k; omega⟩
/-- the reference's round: the same, while what is there is urgent -/
theorem gt_round {b np ne m14_0 m14_1 a0 g4 : Nat} {f3 f4 : Nat → Int32} {q5 q6 r5 r6 : Nat → Nat} (e14 : bkN b m14_0 m14_1 = ne) (hnp : np ≤ 8) (h5 : ∀ i, i < ne → q5 i = r5 (14 * b + i) ∧ q6 i = r6 (14 * b + i) ∧ q5 i < np ∧ q6 i < np) (hu : ∀ i, i < np → (sp_EM_isUrgent b f3 i = 0 ↔ f4 i = 0)) (ha8 : a0 < np) (ha : ¬ f4 a0 = 0) {x : Int32} {S : Nat → Bool} (hx : ∀ i, i < 8 → (bq x i ↔ S i = true)) (hS : ∀ i, i < 8 → S i = true → ¬ f4 i = 0) : ∃ y, itrv (Sum.inr default) (sp_EM_goesTo_L1 b f3 r5 r6 m14_0 m14_1 (nI a0) g4) (x, 0) = .inl (y, g4 + 1) ∧ (∀ i, i < 8 → (bq y i ↔ rdB f4 q5 q6 a0 S ne i = true)) ∧ (∀ i, i < 8 → rdB f4 q5 q6 a0 S ne i = true → ¬ f4 i = 0) := by
  have e2 : (if b = 0 then m14_0 else m14_1) = ne := e14
  refine itrv_inv (d := Sum.inr default) (f := sp_EM_goesTo_L1 b f3 r5 r6 m14_0 m14_1 (nI a0) g4) (fun t => t.2 ≤ ne ∧ (∀ i, i < 8 → (bq t.1 i ↔ rdB f4 q5 q6 a0 S t.2 i = true)) ∧ (∀ i, i < 8 → rdB f4 q5 q6 a0 S t.2 i = true → ¬ f4 i = 0)) (fun r => ∃ y, r = .inl (y, g4 + 1) ∧ (∀ i, i < 8 → (bq y i ↔ rdB f4 q5 q6 a0 S ne i = true)) ∧ (∀ i, i < 8 → rdB f4 q5 q6 a0 S ne i = true → ¬ f4 i = 0)) (fun t => ne - t.2) ?_ ne (x, 0) (Nat.sub_le _ _) ⟨Nat.zero_le _, hx, hS⟩
  rintro ⟨y, e⟩ ⟨he, hI, hJ⟩
  have he : e ≤ ne := he
  have hI : ∀ i, i < 8 → (bq y i ↔ rdB f4 q5 q6 a0 S e i = true) := hI
  have hJ : ∀ i, i < 8 → rdB f4 q5 q6 a0 S e i = true → ¬ f4 i = 0 := hJ
  by_cases ce : ne ≤ e
  · have ee : e = ne := Nat.le_antisymm he ce
    exact Or.inr ⟨.inl (y, g4 + 1), by simp only [sp_EM_goesTo_L1, slet, e2, if_pos ce], y, rfl, by rw [← ee]; exact hI, by rw [← ee]; exact hJ⟩
  · have u7 : min (q5 e) 7 < 8 := by omega
    have v7 : min (q6 e) 7 < 8 := by omega
    have u7n : min (q5 e) 7 < np := by have := (h5 e (by omega)).2.2.1; omega
    have v7n : min (q6 e) 7 < np := by have := (h5 e (by omega)).2.2.2; omega
    have o5 : sp_EM_outOf b r5 e = min (q5 e) 7 := by simp only [sp_EM_outOf, slet, (h5 e (by omega)).1]
    have o6 : sp_EM_into b r6 e = min (q6 e) 7 := by simp only [sp_EM_into, slet, (h5 e (by omega)).2.1]
    have ea : (nI (min (q5 e) 7) : Int32) = nI a0 ↔ min (q5 e) 7 = a0 := nI_eq (by omega) (by omega)
    have eb : sp_EM_isOf y (nI (min (q5 e) 7)) = 0 ↔ ¬ rdB f4 q5 q6 a0 S e (min (q5 e) 7) = true := by
      have hb := hI _ u7
      simp only [sp_EM_isOf, slet]
      by_cases c2 : (y >>> ((nI (min (q5 e) 7) : Int32) &&& 31)) &&& (1 : Int32) = 1
      · rw [if_pos c2]; exact ⟨fun z => absurd z (by decide), fun z => absurd (hb.mp c2) z⟩
      · rw [if_neg c2]; exact ⟨fun _ z => c2 (hb.mpr z), fun _ => rfl⟩
    have hcond : (if sp_EM_isUrgent b f3 (min (q5 e) 7) = 0 then 0 else if sp_EM_isUrgent b f3 (min (q6 e) 7) = 0 then 0 else if (nI (min (q5 e) 7) : Int32) = nI a0 then 1 else if sp_EM_isOf y (nI (min (q5 e) 7)) = 0 then 0 else 1) = (0 : Nat) ↔ ¬ ((min (q5 e) 7 = a0 ∨ rdB f4 q5 q6 a0 S e (min (q5 e) 7) = true) ∧ ¬ f4 (min (q6 e) 7) = 0) := by
      by_cases c1 : f4 (min (q5 e) 7) = 0
      · rw [if_pos ((hu _ u7n).mpr c1)]
        refine ⟨fun _ z => ?_, fun _ => rfl⟩
        rcases z.1 with z1 | z1
        · exact ha (by rw [← z1]; exact c1)
        · exact hJ _ u7 z1 c1
      · rw [if_neg (fun z => c1 ((hu _ u7n).mp z))]
        by_cases c2 : f4 (min (q6 e) 7) = 0
        · rw [if_pos ((hu _ v7n).mpr c2)]; exact ⟨fun _ z => z.2 c2, fun _ => rfl⟩
        · rw [if_neg (fun z => c2 ((hu _ v7n).mp z))]
          by_cases c3 : min (q5 e) 7 = a0
          · rw [if_pos (ea.mpr c3)]; exact ⟨fun z => absurd z (by decide), fun z => absurd ⟨Or.inl c3, c2⟩ z⟩
          · rw [if_neg (fun z => c3 (ea.mp z))]
            by_cases c4 : rdB f4 q5 q6 a0 S e (min (q5 e) 7) = true
            · rw [if_neg (fun z => (eb.mp z) c4)]; exact ⟨fun z => absurd z (by decide), fun z => absurd ⟨Or.inr c4, c2⟩ z⟩
            · rw [if_pos (eb.mpr c4)]; exact ⟨fun _ z => z.1.elim c3 c4, fun _ => rfl⟩
    by_cases c : (min (q5 e) 7 = a0 ∨ rdB f4 q5 q6 a0 S e (min (q5 e) 7) = true) ∧ ¬ f4 (min (q6 e) 7) = 0
    · have c0 := fun z => (hcond.mp z) c
      have er : rdB f4 q5 q6 a0 S (e + 1) = fun i => if i = min (q6 e) 7 then true else rdB f4 q5 q6 a0 S e i := by
        show stB f4 q5 q6 a0 (rdB f4 q5 q6 a0 S e) e = _
        unfold stB
        rw [if_pos c]
      refine Or.inl ⟨(y ||| ((1 : Int32) <<< ((nI (min (q6 e) 7) : Int32) &&& 31)), e + 1), by simp only [sp_EM_goesTo_L1, slet, e2, if_neg ce, o5, o6, if_neg c0], ⟨by show e + 1 ≤ ne; omega, fun i hi => ?_, fun i hi => ?_⟩, by show ne - (e + 1) < ne - e; omega⟩
      · show bq (y ||| ((1 : Int32) <<< ((nI (min (q6 e) 7) : Int32) &&& 31))) i ↔ rdB f4 q5 q6 a0 S (e + 1) i = true
        rw [er, bq_or v7 hi, hI i hi]
        show _ ↔ (if i = min (q6 e) 7 then true else rdB f4 q5 q6 a0 S e i) = true
        by_cases ei : i = min (q6 e) 7
        · rw [if_pos ei]; exact ⟨fun _ => rfl, fun _ => Or.inr ei⟩
        · rw [if_neg ei]; exact ⟨fun z => z.resolve_right ei, fun z => Or.inl z⟩
      · show rdB f4 q5 q6 a0 S (e + 1) i = true → ¬ f4 i = 0
        rw [er]
        show (if i = min (q6 e) 7 then true else rdB f4 q5 q6 a0 S e i) = true → ¬ f4 i = 0
        by_cases ei : i = min (q6 e) 7
        · intro _; rw [ei]; exact c.2
        · rw [if_neg ei]; exact hJ i hi
    · have c0 := hcond.mpr c
      have er : rdB f4 q5 q6 a0 S (e + 1) = rdB f4 q5 q6 a0 S e := by
        show stB f4 q5 q6 a0 (rdB f4 q5 q6 a0 S e) e = _
        unfold stB
        rw [if_neg c]
      exact Or.inl ⟨(y, e + 1), by simp only [sp_EM_goesTo_L1, slet, e2, if_neg ce, o5, o6, if_pos c0, Int32.or_zero], ⟨by show e + 1 ≤ ne; omega, by show ∀ i, i < 8 → (bq y i ↔ rdB f4 q5 q6 a0 S (e + 1) i = true); rw [er]; exact hI, by show ∀ i, i < 8 → rdB f4 q5 q6 a0 S (e + 1) i = true → ¬ f4 i = 0; rw [er]; exact hJ⟩, by show ne - (e + 1) < ne - e; omega⟩
theorem gt_all {b np ne m14_0 m14_1 a0 : Nat} {f3 f4 : Nat → Int32} {q5 q6 r5 r6 : Nat → Nat} (e14 : bkN b m14_0 m14_1 = ne) (hnp : np ≤ 8) (h5 : ∀ i, i < ne → q5 i = r5 (14 * b + i) ∧ q6 i = r6 (14 * b + i) ∧ q5 i < np ∧ q6 i < np) (hu : ∀ i, i < np → (sp_EM_isUrgent b f3 i = 0 ↔ f4 i = 0)) (ha8 : a0 < np) (ha : ¬ f4 a0 = 0) : ∀ i, i < 8 → (bq (sp_EM_goesTo b f3 r5 r6 m14_0 m14_1 (nI a0)) i ↔ itB f4 q5 q6 a0 ne 9 i = true) := by
  unfold sp_EM_goesTo
  refine itrv_inv (d := default) (f := sp_EM_goesTo_L2 b f3 r5 r6 m14_0 m14_1 (nI a0)) (fun t => t.2 ≤ 9 ∧ (∀ i, i < 8 → (bq t.1 i ↔ itB f4 q5 q6 a0 ne t.2 i = true)) ∧ (∀ i, i < 8 → itB f4 q5 q6 a0 ne t.2 i = true → ¬ f4 i = 0)) (fun r => ∀ i, i < 8 → (bq r i ↔ itB f4 q5 q6 a0 ne 9 i = true)) (fun t => 9 - t.2) ?_ 9 (0, 0) (Nat.sub_le _ _) ⟨Nat.zero_le _, fun i hi => ⟨fun z => absurd z (bq_0 hi), fun z => absurd z (by show ¬ false = true; decide)⟩, fun i hi z => absurd z (by show ¬ false = true; decide)⟩
  rintro ⟨y, k⟩ ⟨hk, hI, hJ⟩
  have hk : k ≤ 9 := hk
  have hI : ∀ i, i < 8 → (bq y i ↔ itB f4 q5 q6 a0 ne k i = true) := hI
  by_cases ce : 8 < k
  · have ek : k = 9 := by omega
    exact Or.inr ⟨y, by simp only [sp_EM_goesTo_L2, if_pos ce], by rw [← ek]; exact hI⟩
  · obtain ⟨z, e, hz, hz2⟩ := gt_round (a0 := a0) (g4 := k) e14 hnp h5 hu ha8 ha hI hJ
    exact Or.inl ⟨(z, k + 1), by simp only [sp_EM_goesTo_L2, if_neg ce, e], ⟨by show k + 1 ≤ 9; omega, hz, hz2⟩, by show 9 - (k + 1) < 9 - k; omega⟩
/-- rings: the same of both -/
theorem rings_same {b nc np ne : Nat} {st0 : Int32} {f4 : Nat → Int32} {q5 q6 : Nat → Nat} {f7 : Nat → Int32} {q8 q9 : Nat → Nat} {f10 f11 : Nat → Int32} {f3 : Nat → Int32} {r4 r5 r6 r7 : Nat → Nat} {f8 : Nat → Int32} {r9 r10 : Nat → Nat} {r11 : Nat → Int32} {m12_0 m12_1 m13_0 m13_1 m14_0 m14_1 m15_0 m15_1 : Nat} (h : MB b nc np ne st0 f4 q5 q6 f7 q8 q9 f10 f11 f3 r4 r5 r6 r7 f8 r9 r10 r11 (bkN b m12_0 m12_1) (bkN b m13_0 m13_1) (bkN b m14_0 m14_1) (bkN b m15_0 m15_1)) (h01 : ∀ i, i < 8 → f4 i = 0 ∨ f4 i = 1) : (sp_EM_rings b f3 r5 r6 m13_0 m13_1 m14_0 m14_1).1 = sp_E_8_rings np ne f4 q5 q6 := by
  obtain ⟨⟨-, -, e13, hnp, e14, hne⟩, -, h4, -, -, -, -, h10⟩ := h
  have e2 : (if b = 0 then m13_0 else m13_1) = np := e13
  have hu : ∀ i, i < np → (sp_EM_isUrgent b f3 i = 0 ↔ f4 i = 0) := by
    intro i hi
    simp only [sp_EM_isUrgent, slet, ← h4 i hi]
    rcases h01 i (by omega) with z | z
    · rw [z, if_neg (by decide)]
      exact ⟨fun _ => rfl, fun _ => rfl⟩
    · rw [z, if_pos rfl]
      exact ⟨fun q => absurd q (by decide), fun q => absurd q (by decide)⟩
  have h5 : ∀ i, i < ne → q5 i = r5 (14 * b + i) ∧ q6 i = r6 (14 * b + i) ∧ q5 i < np ∧ q6 i < np := fun i hi => ⟨(h10 i hi).1, (h10 i hi).2.2.1, (h10 i hi).2.1, (h10 i hi).2.2.2.1⟩
  unfold sp_EM_rings sp_E_8_rings sp_E_0_hurriedRings
  show (itrv default (sp_EM_rings_L1 b f3 r5 r6 m13_0 m13_1 m14_0 m14_1) (0, 0)).1 = itrv default (sp_E_0_hurriedRings_L1 np ne f4 q5 q6) (0, 0)
  refine itrv_sim (d := default) (d' := default) (f := sp_EM_rings_L1 b f3 r5 r6 m13_0 m13_1 m14_0 m14_1) (g := sp_E_0_hurriedRings_L1 np ne f4 q5 q6) (fun t t' => t = t' ∧ t.2 ≤ np) (fun a b => a.1 = b) (fun t => np - t.2) ?_ np (0, 0) (0, 0) (Nat.sub_le _ _) ⟨rfl, Nat.zero_le _⟩
  rintro ⟨g, j⟩ _ ⟨rfl, hj⟩
  have hj : j ≤ np := hj
  by_cases c : np ≤ j
  · refine Or.inr ⟨(g, 0), ?_, ?_⟩
    · simp only [sp_EM_rings_L1, slet, e2, if_pos c]
    · rw [itrv_inr (show sp_E_0_hurriedRings_L1 np ne f4 q5 q6 (g, j) = .inr g by simp only [sp_E_0_hurriedRings_L1, slet, if_pos c])]
  · by_cases cu : f4 j = 0
    · refine Or.inl ⟨(g, j + 1), (g, j + 1), ?_, ?_, ⟨rfl, by show j + 1 ≤ np; omega⟩, by show np - (j + 1) < np - j; omega⟩
      · simp only [sp_EM_rings_L1, slet, e2, if_neg c, if_pos ((hu j (by omega)).mpr cu), Int32.or_zero]
      · simp only [sp_E_0_hurriedRings_L1, slet, if_neg c, if_pos cu]
    · have cu' : ¬ sp_EM_isUrgent b f3 j = 0 := fun z => cu ((hu j (by omega)).mp z)
      have hE := hb_all (ne := ne) (a0 := j) (f4 := f4) (q5 := q5) (q6 := q6) j (by omega)
      have hM := gt_all (a0 := j) e14 hnp h5 hu (by omega) cu j (by omega)
      rw [itB_fix j (by omega), ← hE] at hM
      by_cases cb : (sp_E_0_hurriedBehind ne f4 q5 q6 j >>> ((nI j : Int32) &&& 31)) &&& (1 : Int32) = 1
      · have cm : (sp_EM_goesTo b f3 r5 r6 m14_0 m14_1 (nI j) >>> ((nI j : Int32) &&& 31)) &&& (1 : Int32) = 1 := hM.mpr cb
        have co : ¬ sp_EM_isOf (sp_EM_goesTo b f3 r5 r6 m14_0 m14_1 (nI j)) (nI j) = 0 := by
          simp only [sp_EM_isOf, slet, if_pos cm]
          decide
        refine Or.inl ⟨(g ||| ((1 : Int32) <<< ((nI j : Int32) &&& 31)), j + 1), (g ||| ((1 : Int32) <<< ((nI j : Int32) &&& 31)), j + 1), ?_, ?_, ⟨rfl, by show j + 1 ≤ np; omega⟩, by show np - (j + 1) < np - j; omega⟩
        · simp only [sp_EM_rings_L1, slet, e2, if_neg c, if_neg cu', if_neg co]
        · simp only [sp_E_0_hurriedRings_L1, slet, if_neg c, if_neg cu, if_pos cb]
      · have cm : ¬ (sp_EM_goesTo b f3 r5 r6 m14_0 m14_1 (nI j) >>> ((nI j : Int32) &&& 31)) &&& (1 : Int32) = 1 := fun z => cb (hM.mp z)
        have co : sp_EM_isOf (sp_EM_goesTo b f3 r5 r6 m14_0 m14_1 (nI j)) (nI j) = 0 := by
          simp only [sp_EM_isOf, slet, if_neg cm]
        refine Or.inl ⟨(g, j + 1), (g, j + 1), ?_, ?_, ⟨rfl, by show j + 1 ≤ np; omega⟩, by show np - (j + 1) < np - j; omega⟩
        · simp only [sp_EM_rings_L1, slet, e2, if_neg c, if_neg cu', if_pos co, Int32.or_zero]
        · simp only [sp_E_0_hurriedRings_L1, slet, if_neg c, if_neg cu, if_neg cb]
