/-- a bit of a number -/
def bq (x : Int32) (i : Nat) : Prop := (x >>> ((nI i : Int32) &&& 31)) &&& (1 : Int32) = 1
theorem bit_tab : ∀ t, t < 8 → ∀ i, i < 8 → ((((1 : Int32) <<< ((nI t : Int32) &&& 31)) >>> ((nI i : Int32) &&& 31)) &&& (1 : Int32)) = if i = t then 1 else 0 := by decide +kernel
theorem and1_or (p q : Int32) : (p ||| q) &&& (1 : Int32) = (p &&& 1) ||| (q &&& 1) := Int32.toBitVec_inj.1 BitVec.and_or_distrib_right
theorem and1_01 (p : Int32) : p &&& (1 : Int32) = 0 ∨ p &&& (1 : Int32) = 1 := by
  have e := pk_and p (m := 1) 1 (by decide)
  rcases Nat.mod_two_eq_zero_or_one p.toBitVec.toNat with z | z
  · have z : p.toBitVec.toNat % 2 ^ 1 = 0 := z
    rw [z] at e; exact Or.inl e
  · have z : p.toBitVec.toNat % 2 ^ 1 = 1 := z
    rw [z] at e; exact Or.inr e
theorem bq_or {x : Int32} {t i : Nat} (ht : t < 8) (hi : i < 8) : bq (x ||| ((1 : Int32) <<< ((nI t : Int32) &&& 31))) i ↔ bq x i ∨ i = t := by
  unfold bq
  rw [Int32.shiftRight_or, and1_or, bit_tab t ht i hi]
  by_cases e : i = t
  · rw [if_pos e]
    refine ⟨fun _ => Or.inr e, fun _ => ?_⟩
    rcases and1_01 (x >>> ((nI i : Int32) &&& 31)) with z | z <;> rw [z] <;> decide
  · rw [if_neg e, Int32.or_zero]
    exact ⟨fun z => Or.inl z, fun z => z.resolve_right e⟩
theorem bq_0 {i : Nat} (hi : i < 8) : ¬ bq 0 i := by
  have : ∀ i, i < 8 → ¬ ((0 : Int32) >>> ((nI i : Int32) &&& 31)) &&& (1 : Int32) = 1 := by decide +kernel
  exact this i hi
/-- sets of places -/
def stB (f4 : Nat → Int32) (q5 q6 : Nat → Nat) (a0 : Nat) (S : Nat → Bool) (e : Nat) : Nat → Bool := if (min (q5 e) 7 = a0 ∨ S (min (q5 e) 7) = true) ∧ ¬ f4 (min (q6 e) 7) = 0 then (fun i => if i = min (q6 e) 7 then true else S i) else S
def rdB (f4 : Nat → Int32) (q5 q6 : Nat → Nat) (a0 : Nat) (S : Nat → Bool) : Nat → Nat → Bool
  | 0 => S
  | e + 1 => stB f4 q5 q6 a0 (rdB f4 q5 q6 a0 S e) e
def itB (f4 : Nat → Int32) (q5 q6 : Nat → Nat) (a0 ne : Nat) : Nat → Nat → Bool
  | 0 => fun _ => false
  | k + 1 => rdB f4 q5 q6 a0 (itB f4 q5 q6 a0 ne k) ne
theorem stB_mono {f4 : Nat → Int32} {q5 q6 : Nat → Nat} {a0 : Nat} {S : Nat → Bool} {e i : Nat} (h : S i = true) : stB f4 q5 q6 a0 S e i = true := by
  unfold stB
  split
  · show (if i = min (q6 e) 7 then true else S i) = true
    split
    · rfl
    · exact h
  · exact h
theorem rdB_mono {f4 : Nat → Int32} {q5 q6 : Nat → Nat} {a0 : Nat} {S : Nat → Bool} {i : Nat} (h : S i = true) : ∀ e, rdB f4 q5 q6 a0 S e i = true := by
  intro e
  induction e with
  | zero => exact h
  | succ e ih => exact stB_mono ih
theorem stB_congr {f4 : Nat → Int32} {q5 q6 : Nat → Nat} {a0 : Nat} {S T : Nat → Bool} (h : ∀ i, i < 8 → S i = T i) (e : Nat) : ∀ i, i < 8 → stB f4 q5 q6 a0 S e i = stB f4 q5 q6 a0 T e i := by
  intro i hi
  unfold stB
  rw [h (min (q5 e) 7) (by omega)]
  split
  · show (if i = min (q6 e) 7 then true else S i) = (if i = min (q6 e) 7 then true else T i)
    rw [h i hi]
  · exact h i hi
theorem rdB_congr {f4 : Nat → Int32} {q5 q6 : Nat → Nat} {a0 : Nat} {S T : Nat → Bool} (h : ∀ i, i < 8 → S i = T i) (e : Nat) : ∀ i, i < 8 → rdB f4 q5 q6 a0 S e i = rdB f4 q5 q6 a0 T e i := by
  induction e with
  | zero => exact h
  | succ e ih => exact stB_congr ih e
def cntB (S : Nat → Bool) : Nat → Nat
  | 0 => 0
  | n + 1 => cntB S n + (if S n = true then 1 else 0)
theorem cntB_le (S : Nat → Bool) : ∀ n, cntB S n ≤ n := by
  intro n
  induction n with
  | zero => exact Nat.le_refl _
  | succ n ih =>
    show cntB S n + (if S n = true then 1 else 0) ≤ n + 1
    split <;> omega
theorem cntB_lt {S T : Nat → Bool} : ∀ n, (∀ i, i < n → S i = true → T i = true) → (∀ i, i < n → S i = T i) ∨ cntB S n + 1 ≤ cntB T n := by
  have mono : ∀ n, (∀ i, i < n → S i = true → T i = true) → cntB S n ≤ cntB T n := by
    intro n
    induction n with
    | zero => exact fun _ => Nat.le_refl _
    | succ n ih =>
      intro h
      have a := ih (fun i hi => h i (by omega))
      show cntB S n + (if S n = true then 1 else 0) ≤ cntB T n + (if T n = true then 1 else 0)
      by_cases z : S n = true
      · rw [if_pos z, if_pos (h n (by omega) z)]; omega
      · rw [if_neg z]; omega
  intro n
  induction n with
  | zero => exact fun _ => Or.inl (fun i hi => absurd hi (Nat.not_lt_zero i))
  | succ n ih =>
    intro h
    have m := mono n (fun i hi => h i (by omega))
    show _ ∨ cntB S n + (if S n = true then 1 else 0) + 1 ≤ cntB T n + (if T n = true then 1 else 0)
    by_cases z : S n = true
    · have zt := h n (by omega) z
      rw [if_pos z, if_pos zt]
      rcases ih (fun i hi => h i (by omega)) with g | g
      · refine Or.inl fun i hi => ?_
        by_cases e : i = n
        · rw [e, z, zt]
        · exact g i (by omega)
      · exact Or.inr (by omega)
    · rw [if_neg z]
      by_cases zt : T n = true
      · rw [if_pos zt]
        exact Or.inr (by omega)
      · rw [if_neg zt]
        rcases ih (fun i hi => h i (by omega)) with g | g
        · refine Or.inl fun i hi => ?_
          by_cases e : i = n
          · rw [e, Bool.eq_false_iff.mpr z, Bool.eq_false_iff.mpr zt]
          · exact g i (by omega)
        · exact Or.inr (by omega)
theorem itB_fix {f4 : Nat → Int32} {q5 q6 : Nat → Nat} {a0 ne : Nat} : ∀ i, i < 8 → itB f4 q5 q6 a0 ne 9 i = itB f4 q5 q6 a0 ne 8 i := by
  have key : ∀ k, (∀ i, i < 8 → itB f4 q5 q6 a0 ne k i = itB f4 q5 q6 a0 ne (k + 1) i) ∨ k + 1 ≤ cntB (itB f4 q5 q6 a0 ne (k + 1)) 8 := by
    intro k
    induction k with
    | zero =>
      rcases cntB_lt (S := itB f4 q5 q6 a0 ne 0) (T := itB f4 q5 q6 a0 ne 1) 8 (fun i _ h => rdB_mono h ne) with g | g
      · exact Or.inl g
      · exact Or.inr (Nat.le_trans (Nat.succ_le_succ (Nat.zero_le _)) g)
    | succ k ih =>
      rcases ih with g | g
      · exact Or.inl (fun i hi => rdB_congr g ne i hi)
      · rcases cntB_lt (S := itB f4 q5 q6 a0 ne (k + 1)) (T := itB f4 q5 q6 a0 ne (k + 2)) 8 (fun i _ h => rdB_mono h ne) with g2 | g2
        · exact Or.inl g2
        · exact Or.inr (Nat.le_trans (Nat.succ_le_succ g) g2)
  rcases key 8 with g | g
  · exact fun i hi => (g i hi).symm
  · exact absurd (Nat.le_trans g (cntB_le _ 8)) (by decide)
/-- the class's round, and all of them -/
theorem hb_round {ne a0 g4 : Nat} {f4 : Nat → Int32} {q5 q6 : Nat → Nat} {x : Int32} {S : Nat → Bool} (hx : ∀ i, i < 8 → (bq x i ↔ S i = true)) : ∃ y, itrv (Sum.inr default) (sp_E_0_hurriedBehind_L1 ne f4 q5 q6 a0 g4) (x, 0) = .inl (y, g4 + 1) ∧ ∀ i, i < 8 → (bq y i ↔ rdB f4 q5 q6 a0 S ne i = true) := by
  refine itrv_inv (d := Sum.inr default) (f := sp_E_0_hurriedBehind_L1 ne f4 q5 q6 a0 g4) (fun t => t.2 ≤ ne ∧ ∀ i, i < 8 → (bq t.1 i ↔ rdB f4 q5 q6 a0 S t.2 i = true)) (fun r => ∃ y, r = .inl (y, g4 + 1) ∧ ∀ i, i < 8 → (bq y i ↔ rdB f4 q5 q6 a0 S ne i = true)) (fun t => ne - t.2) ?_ ne (x, 0) (Nat.sub_le _ _) ⟨Nat.zero_le _, hx⟩
  rintro ⟨y, e⟩ ⟨he, hI⟩
  have he : e ≤ ne := he
  have hI : ∀ i, i < 8 → (bq y i ↔ rdB f4 q5 q6 a0 S e i = true) := hI
  by_cases ce : ne ≤ e
  · have ee : e = ne := Nat.le_antisymm he ce
    exact Or.inr ⟨.inl (y, g4 + 1), by simp only [sp_E_0_hurriedBehind_L1, if_pos ce], y, rfl, by rw [← ee]; exact hI⟩
  · have u7 : min (q5 e) 7 < 8 := by omega
    have v7 : min (q6 e) 7 < 8 := by omega
    have hc : (if min (q5 e) 7 = a0 then 1 else if (y >>> ((nI (min (q5 e) 7) : Int32) &&& 31)) &&& (1 : Int32) = 1 then 1 else 0) = (0 : Nat) ↔ ¬ (min (q5 e) 7 = a0 ∨ rdB f4 q5 q6 a0 S e (min (q5 e) 7) = true) := by
      have hb := hI _ u7
      by_cases c1 : min (q5 e) 7 = a0
      · rw [if_pos c1]; exact ⟨fun z => absurd z (by decide), fun z => absurd (Or.inl c1) z⟩
      · rw [if_neg c1]
        by_cases c2 : (y >>> ((nI (min (q5 e) 7) : Int32) &&& 31)) &&& (1 : Int32) = 1
        · rw [if_pos c2]; exact ⟨fun z => absurd z (by decide), fun z => absurd (Or.inr (hb.mp c2)) z⟩
        · rw [if_neg c2]; exact ⟨fun _ z => z.elim c1 (fun z => c2 (hb.mpr z)), fun _ => rfl⟩
    by_cases c : (min (q5 e) 7 = a0 ∨ rdB f4 q5 q6 a0 S e (min (q5 e) 7) = true)
    · have c0 := fun z => (hc.mp z) c
      by_cases cu : f4 (min (q6 e) 7) = 0
      · have er : rdB f4 q5 q6 a0 S (e + 1) = rdB f4 q5 q6 a0 S e := by
          show stB f4 q5 q6 a0 (rdB f4 q5 q6 a0 S e) e = _
          unfold stB
          rw [if_neg (fun z => z.2 cu)]
        exact Or.inl ⟨(y, e + 1), by simp only [sp_E_0_hurriedBehind_L1, slet, if_neg ce, if_neg c0, if_pos cu], ⟨by show e + 1 ≤ ne; omega, by show ∀ i, i < 8 → (bq y i ↔ rdB f4 q5 q6 a0 S (e + 1) i = true); rw [er]; exact hI⟩, by show ne - (e + 1) < ne - e; omega⟩
      · have er : rdB f4 q5 q6 a0 S (e + 1) = fun i => if i = min (q6 e) 7 then true else rdB f4 q5 q6 a0 S e i := by
          show stB f4 q5 q6 a0 (rdB f4 q5 q6 a0 S e) e = _
          unfold stB
          rw [if_pos ⟨c, cu⟩]
        refine Or.inl ⟨(y ||| ((1 : Int32) <<< ((nI (min (q6 e) 7) : Int32) &&& 31)), e + 1), by simp only [sp_E_0_hurriedBehind_L1, slet, if_neg ce, if_neg c0, if_neg cu], ⟨by show e + 1 ≤ ne; omega, fun i hi => ?_⟩, by show ne - (e + 1) < ne - e; omega⟩
        show bq (y ||| ((1 : Int32) <<< ((nI (min (q6 e) 7) : Int32) &&& 31))) i ↔ rdB f4 q5 q6 a0 S (e + 1) i = true
        rw [er, bq_or v7 hi, hI i hi]
        show _ ↔ (if i = min (q6 e) 7 then true else rdB f4 q5 q6 a0 S e i) = true
        by_cases ei : i = min (q6 e) 7
        · rw [if_pos ei]; exact ⟨fun _ => rfl, fun _ => Or.inr ei⟩
        · rw [if_neg ei]; exact ⟨fun z => z.resolve_right ei, fun z => Or.inl z⟩
    · have c0 := hc.mpr c
      have er : rdB f4 q5 q6 a0 S (e + 1) = rdB f4 q5 q6 a0 S e := by
        show stB f4 q5 q6 a0 (rdB f4 q5 q6 a0 S e) e = _
        unfold stB
        rw [if_neg (fun z => c z.1)]
      exact Or.inl ⟨(y, e + 1), by simp only [sp_E_0_hurriedBehind_L1, slet, if_neg ce]; exact congrArg (fun z : Int32 => (Sum.inl (z, e + 1) : (Int32 × Nat) ⊕ ((Int32 × Nat) ⊕ Int32))) (if_pos c0), ⟨by show e + 1 ≤ ne; omega, by show ∀ i, i < 8 → (bq y i ↔ rdB f4 q5 q6 a0 S (e + 1) i = true); rw [er]; exact hI⟩, by show ne - (e + 1) < ne - e; omega⟩
theorem hb_all {ne a0 : Nat} {f4 : Nat → Int32} {q5 q6 : Nat → Nat} : ∀ i, i < 8 → (bq (sp_E_0_hurriedBehind ne f4 q5 q6 a0) i ↔ itB f4 q5 q6 a0 ne 8 i = true) := by
  unfold sp_E_0_hurriedBehind
  refine itrv_inv (d := default) (f := sp_E_0_hurriedBehind_L2 ne f4 q5 q6 a0) (fun t => t.2 ≤ 8 ∧ ∀ i, i < 8 → (bq t.1 i ↔ itB f4 q5 q6 a0 ne t.2 i = true)) (fun r => ∀ i, i < 8 → (bq r i ↔ itB f4 q5 q6 a0 ne 8 i = true)) (fun t => 8 - t.2) ?_ 8 (0, 0) (Nat.sub_le _ _) ⟨Nat.zero_le _, fun i hi => ⟨fun z => absurd z (bq_0 hi), fun z => absurd z (by show ¬ false = true; decide)⟩⟩
  rintro ⟨y, k⟩ ⟨hk, hI⟩
  have hk : k ≤ 8 := hk
  have hI : ∀ i, i < 8 → (bq y i ↔ itB f4 q5 q6 a0 ne k i = true) := hI
  by_cases ce : 8 ≤ k
  · have ek : k = 8 := Nat.le_antisymm hk ce
    exact Or.inr ⟨y, by simp only [sp_E_0_hurriedBehind_L2, if_pos ce], by subst ek; exact hI⟩
  · obtain ⟨z, e, hz⟩ := hb_round (ne := ne) (a0 := a0) (g4 := k) (f4 := f4) (q5 := q5) (q6 := q6) hI
    exact Or.inl ⟨(z, k + 1), by simp only [sp_E_0_hurriedBehind_L2, if_neg ce, e], ⟨by show k + 1 ≤ 8; omega, hz⟩, by show 8 - (k + 1) < 8 - k; omega⟩
/-- the reference's round: the same, while what is there is urgent -/
theorem gt_round {b np ne m14_0 m14_1 a0 g4 : Nat} {f3 f4 : Nat → Int32} {q5 q6 r5 r6 : Nat → Nat} (e14 : bkN b m14_0 m14_1 = ne) (hnp : np ≤ 8) (h5 : ∀ i, i < ne → q5 i = r5 (14 * b + i) ∧ q6 i = r6 (14 * b + i) ∧ q5 i < np ∧ q6 i < np) (hu : ∀ i, i < np → (sp_EM_isUrgent b f3 i = 0 ↔ f4 i = 0)) (ha8 : a0 < np) (ha : ¬ f4 a0 = 0) {x : Int32} {S : Nat → Bool} (hx : ∀ i, i < 8 → (bq x i ↔ S i = true)) (hS : ∀ i, i < 8 → S i = true → ¬ f4 i = 0) : ∃ y, itrv (Sum.inr default) (sp_EM_goesTo_L1 b f3 r5 r6 m14_0 m14_1 (nI a0) g4) (x, 0) = .inl (y, g4 + 1) ∧ (∀ i, i < 8 → (bq y i ↔ rdB f4 q5 q6 a0 S ne i = true)) ∧ (∀ i, i < 8 → rdB f4 q5 q6 a0 S ne i = true → ¬ f4 i = 0) := by
  have e2 : (if b = 0 then m14_0 else m14_1) = ne := e14
  refine itrv_inv (d := Sum.inr default) (f := sp_EM_goesTo_L1 b f3 r5 r6 m14_0 m14_1 (nI a0) g4) (fun t => t.2 ≤ ne ∧ (∀ i, i < 8 → (bq t.1 i ↔ rdB f4 q5 q6 a0 S t.2 i = true)) ∧ (∀ i, i < 8 → rdB f4 q5 q6 a0 S t.2 i = true → ¬ f4 i = 0)) (fun r => ∃ y, r = .inl (y, g4 + 1) ∧ (∀ i, i < 8 → (bq y i ↔ rdB f4 q5 q6 a0 S ne i = true)) ∧ (∀ i, i < 8 → rdB f4 q5 q6 a0 S ne i = true → ¬ f4 i = 0)) (fun t => ne - t.2) ?_ ne (x, 0) (Nat.sub_le _ _) ⟨Nat.zero_le _, hx, hS⟩
  rintro ⟨y, e⟩ ⟨he, hI, hJ⟩
  have he : e ≤ ne := he
  have hI : ∀ i, i < 8 → (bq y i ↔ rdB f4 q5 q6 a0 S e i = true) := hI
  have hJ : ∀ i, i < 8 → rdB f4 q5 q6 a0 S e i = true → ¬ f4 i = 0 := hJ
  by_cases ce : ne ≤ e
  · have ee : e = ne := Nat.le_antisymm he ce
    exact Or.inr ⟨.inl (y, g4 + 1), by simp only [sp_EM_goesTo_L1, slet, e2, if_pos ce], y, rfl, by rw [← ee]; exact hI, by rw [← ee]; exact hJ⟩
  · have u7 : min (q5 e) 7 < 8 := by omega
    have v7 : min (q6 e) 7 < 8 := by omega
    have u7n : min (q5 e) 7 < np := by have := (h5 e (by omega)).2.2.1; omega
    have v7n : min (q6 e) 7 < np := by have := (h5 e (by omega)).2.2.2; omega
    have o5 : sp_EM_outOf b r5 e = min (q5 e) 7 := by simp only [sp_EM_outOf, slet, (h5 e (by omega)).1]
    have o6 : sp_EM_into b r6 e = min (q6 e) 7 := by simp only [sp_EM_into, slet, (h5 e (by omega)).2.1]
    have ea : (nI (min (q5 e) 7) : Int32) = nI a0 ↔ min (q5 e) 7 = a0 := nI_eq (by omega) (by omega)
    have eb : sp_EM_isOf y (nI (min (q5 e) 7)) = 0 ↔ ¬ rdB f4 q5 q6 a0 S e (min (q5 e) 7) = true := by
      have hb := hI _ u7
      simp only [sp_EM_isOf, slet]
      by_cases c2 : (y >>> ((nI (min (q5 e) 7) : Int32) &&& 31)) &&& (1 : Int32) = 1
      · rw [if_pos c2]; exact ⟨fun z => absurd z (by decide), fun z => absurd (hb.mp c2) z⟩
      · rw [if_neg c2]; exact ⟨fun _ z => c2 (hb.mpr z), fun _ => rfl⟩
    have hcond : (if sp_EM_isUrgent b f3 (min (q5 e) 7) = 0 then 0 else if sp_EM_isUrgent b f3 (min (q6 e) 7) = 0 then 0 else if (nI (min (q5 e) 7) : Int32) = nI a0 then 1 else if sp_EM_isOf y (nI (min (q5 e) 7)) = 0 then 0 else 1) = (0 : Nat) ↔ ¬ ((min (q5 e) 7 = a0 ∨ rdB f4 q5 q6 a0 S e (min (q5 e) 7) = true) ∧ ¬ f4 (min (q6 e) 7) = 0) := by
      by_cases c1 : f4 (min (q5 e) 7) = 0
      · rw [if_pos ((hu _ u7n).mpr c1)]
        refine ⟨fun _ z => ?_, fun _ => rfl⟩
        rcases z.1 with z1 | z1
        · exact ha (by rw [← z1]; exact c1)
        · exact hJ _ u7 z1 c1
      · rw [if_neg (fun z => c1 ((hu _ u7n).mp z))]
        by_cases c2 : f4 (min (q6 e) 7) = 0
        · rw [if_pos ((hu _ v7n).mpr c2)]; exact ⟨fun _ z => z.2 c2, fun _ => rfl⟩
        · rw [if_neg (fun z => c2 ((hu _ v7n).mp z))]
          by_cases c3 : min (q5 e) 7 = a0
          · rw [if_pos (ea.mpr c3)]; exact ⟨fun z => absurd z (by decide), fun z => absurd ⟨Or.inl c3, c2⟩ z⟩
          · rw [if_neg (fun z => c3 (ea.mp z))]
            by_cases c4 : rdB f4 q5 q6 a0 S e (min (q5 e) 7) = true
            · rw [if_neg (fun z => (eb.mp z) c4)]; exact ⟨fun z => absurd z (by decide), fun z => absurd ⟨Or.inr c4, c2⟩ z⟩
            · rw [if_pos (eb.mpr c4)]; exact ⟨fun _ z => z.1.elim c3 c4, fun _ => rfl⟩
    by_cases c : (min (q5 e) 7 = a0 ∨ rdB f4 q5 q6 a0 S e (min (q5 e) 7) = true) ∧ ¬ f4 (min (q6 e) 7) = 0
    · have c0 := fun z => (hcond.mp z) c
      have er : rdB f4 q5 q6 a0 S (e + 1) = fun i => if i = min (q6 e) 7 then true else rdB f4 q5 q6 a0 S e i := by
        show stB f4 q5 q6 a0 (rdB f4 q5 q6 a0 S e) e = _
        unfold stB
        rw [if_pos c]
      refine Or.inl ⟨(y ||| ((1 : Int32) <<< ((nI (min (q6 e) 7) : Int32) &&& 31)), e + 1), by simp only [sp_EM_goesTo_L1, slet, e2, if_neg ce, o5, o6, if_neg c0], ⟨by show e + 1 ≤ ne; omega, fun i hi => ?_, fun i hi => ?_⟩, by show ne - (e + 1) < ne - e; omega⟩
      · show bq (y ||| ((1 : Int32) <<< ((nI (min (q6 e) 7) : Int32) &&& 31))) i ↔ rdB f4 q5 q6 a0 S (e + 1) i = true
        rw [er, bq_or v7 hi, hI i hi]
        show _ ↔ (if i = min (q6 e) 7 then true else rdB f4 q5 q6 a0 S e i) = true
        by_cases ei : i = min (q6 e) 7
        · rw [if_pos ei]; exact ⟨fun _ => rfl, fun _ => Or.inr ei⟩
        · rw [if_neg ei]; exact ⟨fun z => z.resolve_right ei, fun z => Or.inl z⟩
      · show rdB f4 q5 q6 a0 S (e + 1) i = true → ¬ f4 i = 0
        rw [er]
        show (if i = min (q6 e) 7 then true else rdB f4 q5 q6 a0 S e i) = true → ¬ f4 i = 0
        by_cases ei : i = min (q6 e) 7
        · intro _; rw [ei]; exact c.2
        · rw [if_neg ei]; exact hJ i hi
    · have c0 := hcond.mpr c
      have er : rdB f4 q5 q6 a0 S (e + 1) = rdB f4 q5 q6 a0 S e := by
        show stB f4 q5 q6 a0 (rdB f4 q5 q6 a0 S e) e = _
        unfold stB
        rw [if_neg c]
      exact Or.inl ⟨(y, e + 1), by simp only [sp_EM_goesTo_L1, slet, e2, if_neg ce, o5, o6, if_pos c0, Int32.or_zero], ⟨by show e + 1 ≤ ne; omega, by show ∀ i, i < 8 → (bq y i ↔ rdB f4 q5 q6 a0 S (e + 1) i = true); rw [er]; exact hI, by show ∀ i, i < 8 → rdB f4 q5 q6 a0 S (e + 1) i = true → ¬ f4 i = 0; rw [er]; exact hJ⟩, by show ne - (e + 1) < ne - e; omega⟩
theorem gt_all {b np ne m14_0 m14_1 a0 : Nat} {f3 f4 : Nat → Int32} {q5 q6 r5 r6 : Nat → Nat} (e14 : bkN b m14_0 m14_1 = ne) (hnp : np ≤ 8) (h5 : ∀ i, i < ne → q5 i = r5 (14 * b + i) ∧ q6 i = r6 (14 * b + i) ∧ q5 i < np ∧ q6 i < np) (hu : ∀ i, i < np → (sp_EM_isUrgent b f3 i = 0 ↔ f4 i = 0)) (ha8 : a0 < np) (ha : ¬ f4 a0 = 0) : ∀ i, i < 8 → (bq (sp_EM_goesTo b f3 r5 r6 m14_0 m14_1 (nI a0)) i ↔ itB f4 q5 q6 a0 ne 9 i = true) := by
  unfold sp_EM_goesTo
  refine itrv_inv (d := default) (f := sp_EM_goesTo_L2 b f3 r5 r6 m14_0 m14_1 (nI a0)) (fun t => t.2 ≤ 9 ∧ (∀ i, i < 8 → (bq t.1 i ↔ itB f4 q5 q6 a0 ne t.2 i = true)) ∧ (∀ i, i < 8 → itB f4 q5 q6 a0 ne t.2 i = true → ¬ f4 i = 0)) (fun r => ∀ i, i < 8 → (bq r i ↔ itB f4 q5 q6 a0 ne 9 i = true)) (fun t => 9 - t.2) ?_ 9 (0, 0) (Nat.sub_le _ _) ⟨Nat.zero_le _, fun i hi => ⟨fun z => absurd z (bq_0 hi), fun z => absurd z (by show ¬ false = true; decide)⟩, fun i hi z => absurd z (by show ¬ false = true; decide)⟩
  rintro ⟨y, k⟩ ⟨hk, hI, hJ⟩
  have hk : k ≤ 9 := hk
  have hI : ∀ i, i < 8 → (bq y i ↔ itB f4 q5 q6 a0 ne k i = true) := hI
  by_cases ce : 8 < k
  · have ek : k = 9 := by omega
    exact Or.inr ⟨y, by simp only [sp_EM_goesTo_L2, if_pos ce], by rw [← ek]; exact hI⟩
  · obtain ⟨z, e, hz, hz2⟩ := gt_round (a0 := a0) (g4 := k) e14 hnp h5 hu ha8 ha hI hJ
    exact Or.inl ⟨(z, k + 1), by simp only [sp_EM_goesTo_L2, if_neg ce, e], ⟨by show k + 1 ≤ 9; omega, hz, hz2⟩, by show 9 - (k + 1) < 9 - k; omega⟩
/-- rings: the same of both -/
theorem rings_same {b nc np ne : Nat} {st0 : Int32} {f4 : Nat → Int32} {q5 q6 : Nat → Nat} {f7 : Nat → Int32} {q8 q9 : Nat → Nat} {f10 f11 : Nat → Int32} {f3 : Nat → Int32} {r4 r5 r6 r7 : Nat → Nat} {f8 : Nat → Int32} {r9 r10 : Nat → Nat} {r11 : Nat → Int32} {m12_0 m12_1 m13_0 m13_1 m14_0 m14_1 m15_0 m15_1 : Nat} (h : MB b nc np ne st0 f4 q5 q6 f7 q8 q9 f10 f11 f3 r4 r5 r6 r7 f8 r9 r10 r11 (bkN b m12_0 m12_1) (bkN b m13_0 m13_1) (bkN b m14_0 m14_1) (bkN b m15_0 m15_1)) (h01 : ∀ i, i < 8 → f4 i = 0 ∨ f4 i = 1) : (sp_EM_rings b f3 r5 r6 m13_0 m13_1 m14_0 m14_1).1 = sp_E_8_rings np ne f4 q5 q6 := by
  obtain ⟨⟨-, -, e13, hnp, e14, hne⟩, -, h4, -, -, -, -, h10⟩ := h
  have e2 : (if b = 0 then m13_0 else m13_1) = np := e13
  have hu : ∀ i, i < np → (sp_EM_isUrgent b f3 i = 0 ↔ f4 i = 0) := by
    intro i hi
    simp only [sp_EM_isUrgent, slet, ← h4 i hi]
    rcases h01 i (by omega) with z | z
    · rw [z, if_neg (by decide)]
      exact ⟨fun _ => rfl, fun _ => rfl⟩
    · rw [z, if_pos rfl]
      exact ⟨fun q => absurd q (by decide), fun q => absurd q (by decide)⟩
  have h5 : ∀ i, i < ne → q5 i = r5 (14 * b + i) ∧ q6 i = r6 (14 * b + i) ∧ q5 i < np ∧ q6 i < np := fun i hi => ⟨(h10 i hi).1, (h10 i hi).2.2.1, (h10 i hi).2.1, (h10 i hi).2.2.2.1⟩
  unfold sp_EM_rings sp_E_8_rings sp_E_0_hurriedRings
  show (itrv default (sp_EM_rings_L1 b f3 r5 r6 m13_0 m13_1 m14_0 m14_1) (0, 0)).1 = itrv default (sp_E_0_hurriedRings_L1 np ne f4 q5 q6) (0, 0)
  refine itrv_sim (d := default) (d' := default) (f := sp_EM_rings_L1 b f3 r5 r6 m13_0 m13_1 m14_0 m14_1) (g := sp_E_0_hurriedRings_L1 np ne f4 q5 q6) (fun t t' => t = t' ∧ t.2 ≤ np) (fun a b => a.1 = b) (fun t => np - t.2) ?_ np (0, 0) (0, 0) (Nat.sub_le _ _) ⟨rfl, Nat.zero_le _⟩
  rintro ⟨g, j⟩ _ ⟨rfl, hj⟩
  have hj : j ≤ np := hj
  by_cases c : np ≤ j
  · refine Or.inr ⟨(g, 0), ?_, ?_⟩
    · simp only [sp_EM_rings_L1, slet, e2, if_pos c]
    · rw [itrv_inr (show sp_E_0_hurriedRings_L1 np ne f4 q5 q6 (g, j) = .inr g by simp only [sp_E_0_hurriedRings_L1, slet, if_pos c])]
  · by_cases cu : f4 j = 0
    · refine Or.inl ⟨(g, j + 1), (g, j + 1), ?_, ?_, ⟨rfl, by show j + 1 ≤ np; omega⟩, by show np - (j + 1) < np - j; omega⟩
      · simp only [sp_EM_rings_L1, slet, e2, if_neg c, if_pos ((hu j (by omega)).mpr cu), Int32.or_zero]
      · simp only [sp_E_0_hurriedRings_L1, slet, if_neg c, if_pos cu]
    · have cu' : ¬ sp_EM_isUrgent b f3 j = 0 := fun z => cu ((hu j (by omega)).mp z)
      have hE := hb_all (ne := ne) (a0 := j) (f4 := f4) (q5 := q5) (q6 := q6) j (by omega)
      have hM := gt_all (a0 := j) e14 hnp h5 hu (by omega) cu j (by omega)
      rw [itB_fix j (by omega), ← hE] at hM
      by_cases cb : (sp_E_0_hurriedBehind ne f4 q5 q6 j >>> ((nI j : Int32) &&& 31)) &&& (1 : Int32) = 1
      · have cm : (sp_EM_goesTo b f3 r5 r6 m14_0 m14_1 (nI j) >>> ((nI j : Int32) &&& 31)) &&& (1 : Int32) = 1 := hM.mpr cb
        have co : ¬ sp_EM_isOf (sp_EM_goesTo b f3 r5 r6 m14_0 m14_1 (nI j)) (nI j) = 0 := by
          simp only [sp_EM_isOf, slet, if_pos cm]
          decide
        refine Or.inl ⟨(g ||| ((1 : Int32) <<< ((nI j : Int32) &&& 31)), j + 1), (g ||| ((1 : Int32) <<< ((nI j : Int32) &&& 31)), j + 1), ?_, ?_, ⟨rfl, by show j + 1 ≤ np; omega⟩, by show np - (j + 1) < np - j; omega⟩
        · simp only [sp_EM_rings_L1, slet, e2, if_neg c, if_neg cu', if_neg co]
        · simp only [sp_E_0_hurriedRings_L1, slet, if_neg c, if_neg cu, if_pos cb]
      · have cm : ¬ (sp_EM_goesTo b f3 r5 r6 m14_0 m14_1 (nI j) >>> ((nI j : Int32) &&& 31)) &&& (1 : Int32) = 1 := fun z => cb (hM.mp z)
        have co : sp_EM_isOf (sp_EM_goesTo b f3 r5 r6 m14_0 m14_1 (nI j)) (nI j) = 0 := by
          simp only [sp_EM_isOf, slet, if_neg cm]
        refine Or.inl ⟨(g, j + 1), (g, j + 1), ?_, ?_, ⟨rfl, by show j + 1 ≤ np; omega⟩, by show np - (j + 1) < np - j; omega⟩
        · simp only [sp_EM_rings_L1, slet, e2, if_neg c, if_neg cu', if_pos co, Int32.or_zero]
        · simp only [sp_E_0_hurriedRings_L1, slet, if_neg c, if_neg cu, if_neg cb]
/-- zones without machines: a bound is an even number (below its half) or an odd one (at most its half); none: no bound -/
def plus (a b : Int) : Int := if a % 2 = 0 ∧ b % 2 = 0 then a + b else a + b - 1
theorem plus_c (a b : Int) : (a % 2 = 0 ∧ b % 2 = 0 ∧ plus a b = a + b) ∨ ((a % 2 = 1 ∨ b % 2 = 1) ∧ plus a b = a + b - 1) := by
  unfold plus
  by_cases h : a % 2 = 0 ∧ b % 2 = 0
  · rw [if_pos h]; exact Or.inl ⟨h.1, h.2, rfl⟩
  · rw [if_neg h]; exact Or.inr ⟨by omega, rfl⟩
theorem plus_comm (a b : Int) : plus a b = plus b a := by
  rcases plus_c a b with h | h <;> rcases plus_c b a with g | g <;> omega
theorem plus_assoc (a b c : Int) : plus (plus a b) c = plus a (plus b c) := by
  rcases plus_c a b with h | h <;> rcases plus_c b c with g | g <;> rcases plus_c (plus a b) c with k | k <;> rcases plus_c a (plus b c) with m | m <;> omega
theorem plus_one (a : Int) : plus a 1 = a := by
  rcases plus_c a 1 with h | h <;> omega
theorem plus_mono {a b c d : Int} (h : a ≤ b) (g : c ≤ d) : plus a c ≤ plus b d := by
  rcases plus_c a c with k | k <;> rcases plus_c b d with m | m <;> omega
def ble : Option Int → Option Int → Prop
  | _, none => True
  | none, some _ => False
  | some a, some b => a ≤ b
def bmin : Option Int → Option Int → Option Int
  | none, b => b
  | some a, none => some a
  | some a, some b => if a ≤ b then some a else some b
def badd : Option Int → Option Int → Option Int
  | some a, some b => some (plus a b)
  | _, _ => none
theorem ble_none (a : Option Int) : ble a none := by cases a <;> exact trivial
theorem ble_refl (a : Option Int) : ble a a := by
  cases a with
  | none => exact trivial
  | some a => exact Int.le_refl a
theorem ble_trans {a b c : Option Int} (h : ble a b) (g : ble b c) : ble a c := by
  cases c with
  | none => exact ble_none a
  | some c =>
    cases b with
    | none => exact absurd g (fun z => z)
    | some b =>
      cases a with
      | none => exact absurd h (fun z => z)
      | some a => exact Int.le_trans h g
theorem ble_anti {a b : Option Int} (h : ble a b) (g : ble b a) : a = b := by
  cases a with
  | none =>
    cases b with
    | none => rfl
    | some b => exact absurd h (fun z => z)
  | some a =>
    cases b with
    | none => exact absurd g (fun z => z)
    | some b => exact congrArg some (Int.le_antisymm h g)
theorem bmin_l (a b : Option Int) : ble (bmin a b) a := by
  cases a with
  | none => exact ble_none _
  | some a =>
    cases b with
    | none => exact Int.le_refl a
    | some b =>
      show ble (if a ≤ b then some a else some b) (some a)
      by_cases h : a ≤ b
      · rw [if_pos h]; exact Int.le_refl a
      · rw [if_neg h]; show b ≤ a; omega
theorem bmin_r (a b : Option Int) : ble (bmin a b) b := by
  cases a with
  | none => exact ble_refl b
  | some a =>
    cases b with
    | none => exact ble_none _
    | some b =>
      show ble (if a ≤ b then some a else some b) (some b)
      by_cases h : a ≤ b
      · rw [if_pos h]; exact h
      · rw [if_neg h]; exact Int.le_refl b
theorem le_bmin {a b c : Option Int} (h : ble c a) (g : ble c b) : ble c (bmin a b) := by
  cases a with
  | none => exact g
  | some a =>
    cases b with
    | none => exact h
    | some b =>
      show ble c (if a ≤ b then some a else some b)
      by_cases k : a ≤ b
      · rw [if_pos k]; exact h
      · rw [if_neg k]; exact g
theorem bmin_or (a b : Option Int) : bmin a b = a ∨ bmin a b = b := by
  cases a with
  | none => exact Or.inr rfl
  | some a =>
    cases b with
    | none => exact Or.inl rfl
    | some b =>
      show (if a ≤ b then some a else some b) = some a ∨ (if a ≤ b then some a else some b) = some b
      by_cases k : a ≤ b
      · rw [if_pos k]; exact Or.inl rfl
      · rw [if_neg k]; exact Or.inr rfl
theorem bmin_eq {a b : Option Int} (h : ble a b) : bmin a b = a := ble_anti (bmin_l a b) (le_bmin (ble_refl a) h)
theorem badd_none_l (a : Option Int) : badd none a = none := by cases a <;> rfl
theorem badd_none_r (a : Option Int) : badd a none = none := by cases a <;> rfl
theorem badd_comm (a b : Option Int) : badd a b = badd b a := by
  cases a with
  | none => rw [badd_none_l, badd_none_r]
  | some a =>
    cases b with
    | none => rfl
    | some b => exact congrArg some (plus_comm a b)
theorem badd_assoc (a b c : Option Int) : badd (badd a b) c = badd a (badd b c) := by
  cases a with
  | none => rw [badd_none_l, badd_none_l, badd_none_l]
  | some a =>
    cases b with
    | none => rw [badd_none_r, badd_none_l, badd_none_r]
    | some b =>
      cases c with
      | none => rw [badd_none_r, badd_none_r, badd_none_r]
      | some c => exact congrArg some (plus_assoc a b c)
theorem badd_one (a : Option Int) : badd a (some 1) = a := by
  cases a with
  | none => rfl
  | some a => exact congrArg some (plus_one a)
theorem one_badd (a : Option Int) : badd (some 1) a = a := (badd_comm _ _).trans (badd_one a)
theorem badd_mono {a b c d : Option Int} (h : ble a b) (g : ble c d) : ble (badd a c) (badd b d) := by
  cases b with
  | none => rw [badd_none_l]; exact ble_none _
  | some b =>
    cases d with
    | none => rw [badd_none_r]; exact ble_none _
    | some d =>
      cases a with
      | none => exact absurd h (fun z => z)
      | some a =>
        cases c with
        | none => exact absurd g (fun z => z)
        | some c => exact plus_mono h g
theorem badd_ge_l {a b : Option Int} (h : ble (some 1) b) : ble a (badd a b) := by
  have := badd_mono (ble_refl a) h
  rwa [badd_one] at this
theorem badd_ge_r {a b : Option Int} (h : ble (some 1) b) : ble a (badd b a) := by
  rw [badd_comm]; exact badd_ge_l h
/-- closed: each as tight as by all together; of one with itself: at most 0 -/
def CLO (n : Nat) (D : Nat → Nat → Option Int) : Prop := (∀ i, i < n → D i i = some 1) ∧ ∀ i j k, i < n → j < n → k < n → ble (D i j) (badd (D i k) (D k j))
def MLE (n : Nat) (E M : Nat → Nat → Option Int) : Prop := ∀ i j, i < n → j < n → ble (E i j) (M i j)
/-- the greatest closed one within -/
def GRE (n : Nat) (M D : Nat → Nat → Option Int) : Prop := CLO n D ∧ MLE n D M ∧ ∀ E, CLO n E → MLE n E M → MLE n E D
theorem MLE.rf {n : Nat} {M : Nat → Nat → Option Int} : MLE n M M := fun _ _ _ _ => ble_refl _
theorem MLE.tr {n : Nat} {A B C : Nat → Nat → Option Int} (h : MLE n A B) (g : MLE n B C) : MLE n A C := fun i j hi hj => ble_trans (h i j hi hj) (g i j hi hj)
theorem GRE.uniq {n : Nat} {M D E : Nat → Nat → Option Int} (h : GRE n M D) (g : GRE n M E) : ∀ i j, i < n → j < n → D i j = E i j := fun i j hi hj => ble_anti (g.2.2 D h.1 h.2.1 i j hi hj) (h.2.2 E g.1 g.2.1 i j hi hj)
theorem GRE.of {n : Nat} {D : Nat → Nat → Option Int} (h : CLO n D) : GRE n D D := ⟨h, MLE.rf, fun _ _ g => g⟩
/-- one bound tighter -/
def tgt (D : Nat → Nat → Option Int) (i j : Nat) (b : Option Int) : Nat → Nat → Option Int := fun p q => if p = i ∧ q = j then bmin (D i j) b else D p q
/-- one bound more, closed at once -/
def nar (D : Nat → Nat → Option Int) (i j : Nat) (b : Option Int) : Nat → Nat → Option Int := fun p q => bmin (D p q) (badd (badd (D p i) b) (D j q))
theorem tgt_le {n : Nat} {D E : Nat → Nat → Option Int} {i j : Nat} {b : Option Int} (hi : i < n) (hj : j < n) : MLE n E (tgt D i j b) ↔ MLE n E D ∧ ble (E i j) b := by
  constructor
  · intro h
    refine ⟨fun p q hp hq => ?_, ?_⟩
    · have := h p q hp hq
      unfold tgt at this
      by_cases e : p = i ∧ q = j
      · rw [if_pos e] at this
        rw [e.1, e.2]
        rw [e.1, e.2] at this
        exact ble_trans this (bmin_l _ _)
      · rwa [if_neg e] at this
    · have := h i j hi hj
      unfold tgt at this
      rw [if_pos ⟨rfl, rfl⟩] at this
      exact ble_trans this (bmin_r _ _)
  · rintro ⟨h, g⟩ p q hp hq
    unfold tgt
    by_cases e : p = i ∧ q = j
    · rw [if_pos e, e.1, e.2]
      exact le_bmin (h i j hi hj) g
    · rw [if_neg e]; exact h p q hp hq
theorem nar_gre {n : Nat} {D : Nat → Nat → Option Int} {i j : Nat} {b : Option Int} (hD : CLO n D) (hi : i < n) (hj : j < n) (hc : ble (some 1) (badd (D j i) b)) : CLO n (nar D i j b) ∧ MLE n (nar D i j b) (tgt D i j b) ∧ ∀ E, CLO n E → MLE n E (tgt D i j b) → MLE n E (nar D i j b) := by
  refine ⟨⟨fun p hp => ?_, fun p q k hp hq hk => ?_⟩, ?_, fun E hE hEM => ?_⟩
  · show bmin (D p p) (badd (badd (D p i) b) (D j p)) = some 1
    have e : ble (D p p) (badd (badd (D p i) b) (D j p)) := by
      rw [hD.1 p hp]
      -- p i + b + j p >= j i + b >= 1
      have h1 := hD.2 j i p hj hi hp
      have h2 : badd (badd (D p i) b) (D j p) = badd (badd (D j p) (D p i)) b := by
        rw [badd_comm (badd (D p i) b), ← badd_assoc]
      rw [h2]
      exact ble_trans hc (badd_mono h1 (ble_refl b))
    rw [bmin_eq e]; exact hD.1 p hp
  · show ble (nar D i j b p q) (badd (nar D i j b p k) (nar D i j b k q))
    have A : ∀ x y z : Option Int, badd (badd x y) z = badd x (badd y z) := badd_assoc
    rcases bmin_or (D p k) (badd (badd (D p i) b) (D j k)) with e1 | e1
    · rcases bmin_or (D k q) (badd (badd (D k i) b) (D j q)) with e2 | e2
      · show ble _ (badd (bmin (D p k) _) (bmin (D k q) _))
        rw [e1, e2]
        exact ble_trans (bmin_l _ _) (hD.2 p q k hp hq hk)
      · show ble _ (badd (bmin (D p k) _) (bmin (D k q) _))
        rw [e1, e2]
        refine ble_trans (bmin_r _ _) ?_
        rw [← A, ← A]
        exact badd_mono (badd_mono (hD.2 p i k hp hi hk) (ble_refl b)) (ble_refl _)
    · rcases bmin_or (D k q) (badd (badd (D k i) b) (D j q)) with e2 | e2
      · show ble _ (badd (bmin (D p k) _) (bmin (D k q) _))
        rw [e1, e2]
        refine ble_trans (bmin_r _ _) ?_
        rw [A (badd (D p i) b)]
        exact badd_mono (ble_refl _) (hD.2 j q k hj hq hk)
      · show ble _ (badd (bmin (D p k) _) (bmin (D k q) _))
        rw [e1, e2]
        refine ble_trans (bmin_r _ _) ?_
        -- (p i + b + j k) + (k i + b + j q) >= p i + b + (j k + k i + b) + j q
        have h1 : ble (some 1) (badd (badd (D j k) (D k i)) b) := ble_trans hc (badd_mono (hD.2 j i k hj hi hk) (ble_refl b))
        have h2 : badd (badd (badd (D p i) b) (D j k)) (badd (badd (D k i) b) (D j q)) = badd (badd (badd (D p i) b) (badd (badd (D j k) (D k i)) b)) (D j q) := by
          simp only [A]
        rw [h2]
        exact badd_mono (badd_ge_l h1) (ble_refl _)
  · refine (tgt_le hi hj).mpr ⟨fun p q _ _ => bmin_l _ _, ?_⟩
    refine ble_trans (bmin_r _ _) ?_
    rw [hD.1 i hi, hD.1 j hj, one_badd, badd_one]
    exact ble_refl b
  · obtain ⟨h1, h2⟩ := (tgt_le hi hj).mp hEM
    intro p q hp hq
    refine le_bmin (h1 p q hp hq) ?_
    refine ble_trans (hE.2 p q j hp hq hj) ?_
    refine badd_mono ?_ (h1 j q hj hq)
    exact ble_trans (hE.2 p j i hp hj hi) (badd_mono (h1 p i hp hi) h2)
theorem nar_no {n : Nat} {D : Nat → Nat → Option Int} {i j : Nat} {b : Option Int} (hi : i < n) (hj : j < n) (hc : ¬ ble (some 1) (badd (D j i) b)) : ∀ E, CLO n E → ¬ MLE n E (tgt D i j b) := by
  intro E hE hEM
  obtain ⟨h1, h2⟩ := (tgt_le hi hj).mp hEM
  apply hc
  have := hE.2 j j i hj hj hi
  rw [hE.1 j hj] at this
  exact ble_trans this (badd_mono (h1 j i hj hi) h2)
/-- the greatest closed one within more bounds -/
theorem GRE.nar {n : Nat} {M D : Nat → Nat → Option Int} {i j : Nat} {b : Option Int} (h : GRE n M D) (hi : i < n) (hj : j < n) (hc : ble (some 1) (badd (D j i) b)) : GRE n (tgt M i j b) (nar D i j b) := by
  obtain ⟨h1, h2, h3⟩ := nar_gre h.1 hi hj hc
  obtain ⟨k1, k2⟩ := (tgt_le hi hj).mp h2
  refine ⟨h1, (tgt_le hi hj).mpr ⟨k1.tr h.2.1, k2⟩, fun E hE hEM => ?_⟩
  obtain ⟨m1, m2⟩ := (tgt_le hi hj).mp hEM
  exact h3 E hE ((tgt_le hi hj).mpr ⟨h.2.2 E hE m1, m2⟩)
theorem GRE.no {n : Nat} {M D : Nat → Nat → Option Int} {i j : Nat} {b : Option Int} (h : GRE n M D) (hi : i < n) (hj : j < n) (hc : ¬ ble (some 1) (badd (D j i) b)) : ∀ E, CLO n E → ¬ MLE n E (tgt M i j b) := by
  intro E hE hEM
  obtain ⟨m1, m2⟩ := (tgt_le hi hj).mp hEM
  exact nar_no hi hj hc E hE ((tgt_le hi hj).mpr ⟨h.2.2 E hE m1, m2⟩)
/-- one turn of the closing: a bound by way of k -/
def via (R : Nat → Nat → Option Int) (k i j : Nat) : Nat → Nat → Option Int := fun p q => if p = i ∧ q = j then bmin (R i j) (badd (R i k) (R k j)) else R p q
theorem via_le {n : Nat} {R : Nat → Nat → Option Int} {k i j : Nat} : MLE n (via R k i j) R := by
  intro p q _ _
  unfold via
  by_cases e : p = i ∧ q = j
  · rw [if_pos e, e.1, e.2]; exact bmin_l _ _
  · rw [if_neg e]; exact ble_refl _
theorem via_ge {n : Nat} {R E : Nat → Nat → Option Int} {k i j : Nat} (hE : CLO n E) (h : MLE n E R) (hk : k < n) : MLE n E (via R k i j) := by
  intro p q hp hq
  unfold via
  by_cases e : p = i ∧ q = j
  · rw [if_pos e]
    obtain ⟨e1, e2⟩ := e
    subst e1 e2
    exact le_bmin (h p q hp hq) (ble_trans (hE.2 p q k hp hq hk) (badd_mono (h p k hp hk) (h k q hk hq)))
  · rw [if_neg e]; exact h p q hp hq
/-- closing, turn by turn -/
def fwJ (k i : Nat) (R : Nat → Nat → Option Int) : Nat → Nat → Nat → Option Int
  | 0 => R
  | j + 1 => via (fwJ k i R j) k i j
def fwI (n k : Nat) (R : Nat → Nat → Option Int) : Nat → Nat → Nat → Option Int
  | 0 => R
  | i + 1 => fwJ k i (fwI n k R i) n
def fwK (n : Nat) (M : Nat → Nat → Option Int) : Nat → Nat → Nat → Option Int
  | 0 => M
  | k + 1 => fwI n k (fwK n M k) n
theorem fwJ_le {n k i : Nat} {R : Nat → Nat → Option Int} : ∀ j, MLE n (fwJ k i R j) R := by
  intro j
  induction j with
  | zero => exact MLE.rf
  | succ j ih => exact MLE.tr via_le ih
theorem fwI_le {n k : Nat} {R : Nat → Nat → Option Int} : ∀ i, MLE n (fwI n k R i) R := by
  intro i
  induction i with
  | zero => exact MLE.rf
  | succ i ih => exact MLE.tr (fwJ_le n) ih
theorem fwK_le {n : Nat} {M : Nat → Nat → Option Int} : ∀ k, MLE n (fwK n M k) M := by
  intro k
  induction k with
  | zero => exact MLE.rf
  | succ k ih => exact MLE.tr (fwI_le n) ih
theorem fwK_dec {n : Nat} {M : Nat → Nat → Option Int} : ∀ d k, MLE n (fwK n M (k + d)) (fwK n M k) := by
  intro d
  induction d with
  | zero => exact fun k => MLE.rf
  | succ d ih => exact fun k => MLE.tr (fwI_le n) (ih k)
theorem fwJ_ge {n k i : Nat} {R E : Nat → Nat → Option Int} (hE : CLO n E) (h : MLE n E R) (hk : k < n) : ∀ j, MLE n E (fwJ k i R j) := by
  intro j
  induction j with
  | zero => exact h
  | succ j ih => exact via_ge hE ih hk
theorem fwI_ge {n k : Nat} {R E : Nat → Nat → Option Int} (hE : CLO n E) (h : MLE n E R) (hk : k < n) : ∀ i, MLE n E (fwI n k R i) := by
  intro i
  induction i with
  | zero => exact h
  | succ i ih => exact fwJ_ge hE ih hk n
theorem fwK_ge {n : Nat} {M E : Nat → Nat → Option Int} (hE : CLO n E) (h : MLE n E M) : ∀ k, k ≤ n → MLE n E (fwK n M k) := by
  intro k
  induction k with
  | zero => exact fun _ => h
  | succ k ih => exact fun hk => fwI_ge hE (ih (by omega)) (by omega) n
/-- a row done: all by way of k -/
theorem fwJ_row {k i : Nat} {R : Nat → Nat → Option Int} (hkk : ble (some 1) (R k k)) : ∀ j p q, fwJ k i R j p q = if p = i ∧ q < j then bmin (R i q) (badd (R i k) (R k q)) else R p q := by
  intro j
  induction j with
  | zero => intro p q; rw [if_neg (by omega)]; rfl
  | succ j ih =>
    intro p q
    have hik : fwJ k i R j i k = R i k := by
      rw [ih i k]
      by_cases e : i = i ∧ k < j
      · rw [if_pos e]
        exact bmin_eq (badd_ge_l hkk)
      · rw [if_neg e]
    have hkq : ∀ q, fwJ k i R j k q = R k q := by
      intro q
      rw [ih k q]
      by_cases e : k = i ∧ q < j
      · rw [if_pos e, ← e.1]
        exact bmin_eq (badd_ge_r hkk)
      · rw [if_neg e]
    show via (fwJ k i R j) k i j p q = _
    unfold via
    by_cases e : p = i ∧ q = j
    · rw [if_pos e, if_pos ⟨e.1, by omega⟩, hik, hkq, ih i j, if_neg (by omega), e.2]
    · rw [if_neg e, ih p q]
      by_cases g : p = i ∧ q < j
      · rw [if_pos g, if_pos ⟨g.1, by omega⟩]
      · rw [if_neg g, if_neg (fun z => by
          have h1 := z.1
          have h2 := z.2
          have : ¬ q = j := fun w => e ⟨h1, w⟩
          exact g ⟨h1, by omega⟩)]
theorem fwI_rows {n k : Nat} (hk : k < n) {R : Nat → Nat → Option Int} (hkk : ble (some 1) (R k k)) : ∀ i p q, q < n → fwI n k R i p q = if p < i then bmin (R p q) (badd (R p k) (R k q)) else R p q := by
  intro i
  induction i with
  | zero => intro p q _; rw [if_neg (by omega)]; rfl
  | succ i ih =>
    have rk : ∀ q, q < n → fwI n k R i k q = R k q := by
      intro q hq
      rw [ih k q hq]
      by_cases e : k < i
      · rw [if_pos e]; exact bmin_eq (badd_ge_r hkk)
      · rw [if_neg e]
    intro p q hq
    show fwJ k i (fwI n k R i) n p q = _
    rw [fwJ_row (by rw [rk k hk]; exact hkk) n p q]
    by_cases e : p = i ∧ q < n
    · rw [if_pos e, if_pos (show p < i + 1 by omega), rk q hq, ih i q hq, if_neg (Nat.lt_irrefl i), ih i k hk, if_neg (Nat.lt_irrefl i), e.1]
    · rw [if_neg e, ih p q hq]
      by_cases g : p < i
      · rw [if_pos g, if_pos (by omega)]
      · rw [if_neg g, if_neg (fun z => e ⟨by omega, hq⟩)]
theorem fwI_all {n k : Nat} (hk : k < n) {R : Nat → Nat → Option Int} (hkk : ble (some 1) (R k k)) {p q : Nat} (hp : p < n) (hq : q < n) : fwI n k R n p q = bmin (R p q) (badd (R p k) (R k q)) := by
  rw [fwI_rows hk hkk n p q hq, if_pos hp]
/-- closing closes, where none is below 0 by way of itself -/
theorem fwK_clo {n : Nat} {M : Nat → Nat → Option Int} (h1 : ∀ i, i < n → ble (M i i) (some 1)) (hd : ∀ i, i < n → ble (some 1) (fwK n M n i i)) : CLO n (fwK n M n) := by
  have dg : ∀ k, k ≤ n → ∀ i, i < n → ble (some 1) (fwK n M k i i) := by
    intro k hk i hi
    have := fwK_dec (n := n) (M := M) (n - k) k i i hi hi
    rw [show k + (n - k) = n by omega] at this
    exact ble_trans (hd i hi) this
  have tri : ∀ k, k ≤ n → ∀ m, m < k → ∀ i j, i < n → j < n → ble (fwK n M k i j) (badd (fwK n M k i m) (fwK n M k m j)) := by
    intro k
    induction k with
    | zero => exact fun _ m hm => absurd hm (Nat.not_lt_zero m)
    | succ k ih =>
      intro hk m hm i j hi hj
      have hkn : k < n := by omega
      have hmn : m < n := by omega
      have kk := dg k (by omega) k hkn
      have A := badd_assoc
      have e : ∀ p q, p < n → q < n → fwK n M (k + 1) p q = bmin (fwK n M k p q) (badd (fwK n M k p k) (fwK n M k k q)) := fun p q hp hq => fwI_all hkn kk hp hq
      rw [e i j hi hj, e i m hi hmn, e m j hmn hj]
      by_cases em : m = k
      · subst em
        have a1 : bmin (fwK n M m i m) (badd (fwK n M m i m) (fwK n M m m m)) = fwK n M m i m := bmin_eq (badd_ge_l kk)
        have a2 : bmin (fwK n M m m j) (badd (fwK n M m m m) (fwK n M m m j)) = fwK n M m m j := bmin_eq (badd_ge_r kk)
        rw [a1, a2]
        exact bmin_r _ _
      · have hmk : m < k := by omega
        have T := ih (by omega) m hmk
        rcases bmin_or (fwK n M k i m) (badd (fwK n M k i k) (fwK n M k k m)) with x | x <;> rcases bmin_or (fwK n M k m j) (badd (fwK n M k m k) (fwK n M k k j)) with y | y <;> rw [x, y]
        · exact ble_trans (bmin_l _ _) (T i j hi hj)
        · refine ble_trans (bmin_r _ _) ?_
          rw [← A]
          exact badd_mono (T i k hi hkn) (ble_refl _)
        · refine ble_trans (bmin_r _ _) ?_
          rw [A]
          exact badd_mono (ble_refl _) (T k j hkn hj)
        · refine ble_trans (bmin_r _ _) ?_
          have z1 : ble (some 1) (badd (fwK n M k k m) (fwK n M k m k)) := ble_trans kk (T k k hkn hkn)
          have z2 : badd (badd (fwK n M k i k) (fwK n M k k m)) (badd (fwK n M k m k) (fwK n M k k j)) = badd (badd (fwK n M k i k) (badd (fwK n M k k m) (fwK n M k m k))) (fwK n M k k j) := by
            simp only [A]
          rw [z2]
          exact badd_mono (badd_ge_l z1) (ble_refl _)
  exact ⟨fun i hi => ble_anti (ble_trans (fwK_le n i i hi hi) (h1 i hi)) (hd i hi), fun i j k hi hj hk => tri n (Nat.le_refl n) k hk i j hi hj⟩
/-- closing gives the greatest closed one, or there is none -/
theorem fwK_gre {n : Nat} {M : Nat → Nat → Option Int} (h1 : ∀ i, i < n → ble (M i i) (some 1)) (hd : ∀ i, i < n → ble (some 1) (fwK n M n i i)) : GRE n M (fwK n M n) := ⟨fwK_clo h1 hd, fwK_le n, fun _ hE h => fwK_ge hE h n (Nat.le_refl n)⟩
theorem fwK_yes {n : Nat} {M E : Nat → Nat → Option Int} (hE : CLO n E) (h : MLE n E M) : ∀ i, i < n → ble (some 1) (fwK n M n i i) := by
  intro i hi
  have := fwK_ge hE h n (Nat.le_refl n) i i hi hi
  rwa [hE.1 i hi] at this
/-- clocks set back: a map of them -/
theorem CLO.map {n m : Nat} {D : Nat → Nat → Option Int} (h : CLO n D) {f : Nat → Nat} (hf : ∀ i, i < m → f i < n) : CLO m (fun i j => D (f i) (f j)) := ⟨fun i hi => h.1 (f i) (hf i hi), fun i j k hi hj hk => h.2 _ _ _ (hf i hi) (hf j hj) (hf k hk)⟩
/-- time goes by -/
def dly (D : Nat → Nat → Option Int) : Nat → Nat → Option Int := fun i j => if j = 0 ∧ ¬ i = 0 then none else D i j
theorem CLO.dly {n : Nat} {D : Nat → Nat → Option Int} (h : CLO n D) : CLO n (dly D) := by
  refine ⟨fun i hi => ?_, fun i j k hi hj hk => ?_⟩
  · show (if i = 0 ∧ ¬ i = 0 then none else D i i) = some 1
    rw [if_neg (by omega)]; exact h.1 i hi
  · show ble (if j = 0 ∧ ¬ i = 0 then none else D i j) (badd (if k = 0 ∧ ¬ i = 0 then none else D i k) (if j = 0 ∧ ¬ k = 0 then none else D k j))
    by_cases a : k = 0 ∧ ¬ i = 0
    · rw [if_pos a, badd_none_l]; exact ble_none _
    · rw [if_neg a]
      by_cases b : j = 0 ∧ ¬ k = 0
      · rw [if_pos b, badd_none_r]; exact ble_none _
      · rw [if_neg b, if_neg (by omega)]; exact h.2 i j k hi hj hk
theorem par1 (x : Int32) : (x &&& (1 : Int32) = 0 ∧ x.toInt % 2 = 0) ∨ (x &&& (1 : Int32) = 1 ∧ x.toInt % 2 = 1) := by
  have e := pk_and x (m := 1) 1 (by decide)
  have t : x.toInt = if 2 * x.toBitVec.toNat < 2 ^ 32 then (x.toBitVec.toNat : Int) else (x.toBitVec.toNat : Int) - (2 ^ 32 : Nat) := BitVec.toInt_eq_toNat_cond x.toBitVec
  rcases Nat.mod_two_eq_zero_or_one x.toBitVec.toNat with z | z
  · have z' : x.toBitVec.toNat % 2 ^ 1 = 0 := z
    rw [z'] at e
    refine Or.inl ⟨e, ?_⟩
    rw [t]
    split <;> omega
  · have z' : x.toBitVec.toNat % 2 ^ 1 = 1 := z
    rw [z'] at e
    refine Or.inr ⟨e, ?_⟩
    rw [t]
    split <;> omega
theorem add32 {x y : Int32} (h1 : -1073741824 ≤ x.toInt + y.toInt) (h2 : x.toInt + y.toInt ≤ 1073741824) : (x + y).toInt = x.toInt + y.toInt := by
  rw [Int32.toInt_add]
  exact Int.bmod_eq_of_le_mul_two (by omega) (by omega)
theorem sub32 {x y : Int32} (h1 : -1073741824 ≤ x.toInt - y.toInt) (h2 : x.toInt - y.toInt ≤ 1073741824) : (x - y).toInt = x.toInt - y.toInt := by
  rw [Int32.toInt_sub]
  exact Int.bmod_eq_of_le_mul_two (by omega) (by omega)
theorem plus32 {x y : Int32} (h1 : -536870912 ≤ x.toInt) (h2 : x.toInt ≤ 536870912 - 1) (h3 : -536870912 + 1 ≤ y.toInt) (h4 : y.toInt ≤ 536870912 - 1) : (x + y - ((x ||| y) &&& (1 : Int32))).toInt = plus x.toInt y.toInt := by
  have e := add32 (x := x) (y := y) (by omega) (by omega)
  have i1 : (1 : Int32).toInt = 1 := by decide
  have i0 : (0 : Int32).toInt = 0 := by decide
  rw [and1_or]
  rcases par1 x with ⟨a, a'⟩ | ⟨a, a'⟩ <;> rcases par1 y with ⟨b, b'⟩ | ⟨b, b'⟩ <;> rcases plus_c x.toInt y.toInt with p | p <;> rw [a, b]
  · rw [show ((0 : Int32) ||| 0) = 0 by decide, sub32 (by omega) (by omega), e, i0]; omega
  · omega
  · omega
  · rw [show ((0 : Int32) ||| 1) = 1 by decide, sub32 (by omega) (by omega), e, i1]; omega
  · omega
  · rw [show ((1 : Int32) ||| 0) = 1 by decide, sub32 (by omega) (by omega), e, i1]; omega
  · omega
  · rw [show ((1 : Int32) ||| 1) = 1 by decide, sub32 (by omega) (by omega), e, i1]; omega
/-- a bound as the class has it -/
def EC (x : Int32) (a : Option Int) : Prop := (a = none ∧ x = 2147483647) ∨ ∃ v, a = some v ∧ x.toInt = v ∧ v < 1073741824
theorem EC.none_iff {x : Int32} {a : Option Int} (h : EC x a) : x = 2147483647 ↔ a = none := by
  rcases h with ⟨h1, h2⟩ | ⟨v, h1, h2, h3⟩
  · exact ⟨fun _ => h1, fun _ => h2⟩
  · refine ⟨fun e => ?_, fun e => absurd (h1.symm.trans e) (by simp)⟩
    rw [e] at h2
    have : (2147483647 : Int32).toInt = 2147483647 := by decide
    omega
theorem EC.some {x : Int32} {a : Option Int} (h : EC x a) {v : Int} (e : a = some v) : x.toInt = v ∧ v < 1073741824 := by
  rcases h with ⟨h1, h2⟩ | ⟨w, h1, h2, h3⟩
  · exact absurd (h1.symm.trans e) (by simp)
  · have : w = v := Option.some.inj (h1.symm.trans e)
    subst this
    exact ⟨h2, h3⟩
theorem EC.le {x y : Int32} {a b : Option Int} (h : EC x a) (g : EC y b) : x ≤ y ↔ ble a b := by
  have mx : (2147483647 : Int32).toInt = 2147483647 := by decide
  rw [Int32.le_iff_toInt_le]
  rcases h with ⟨h1, h2⟩ | ⟨v, h1, h2, h3⟩
  · rcases g with ⟨g1, g2⟩ | ⟨w, g1, g2, g3⟩
    · rw [h1, g1, h2, g2]; exact ⟨fun _ => trivial, fun _ => Int.le_refl _⟩
    · rw [h1, g1, h2, mx]; exact ⟨fun z => absurd z (by omega), fun z => absurd z (fun z => z)⟩
  · rcases g with ⟨g1, g2⟩ | ⟨w, g1, g2, g3⟩
    · rw [h1, g1, g2, mx]; exact ⟨fun _ => trivial, fun _ => by omega⟩
    · rw [h1, g1, h2, g2]; exact Iff.rfl
theorem EC.lt {x y : Int32} {a b : Option Int} (h : EC x a) (g : EC y b) : x < y ↔ ¬ ble b a := by
  rw [← EC.le g h]
  exact Int32.not_le.symm
/-- no finite bound is beyond R -/
def RGE (n : Nat) (R : Int) (D : Nat → Nat → Option Int) : Prop := ∀ i j, i < n → j < n → ∀ v, D i j = some v → -R ≤ v ∧ v ≤ R
def ZC (n : Nat) (f : Nat → Int32) (D : Nat → Nat → Option Int) : Prop := ∀ i j, i < n → j < n → EC (f (i * n + j)) (D i j)
theorem ix_inj {n p q r s : Nat} (hq : q < n) (hs : s < n) (h : p * n + q = r * n + s) : p = r ∧ q = s := by
  have a1 : (p * n + q) / n = p := by
    rw [Nat.mul_comm, Nat.mul_add_div (by omega), Nat.div_eq_of_lt hq, Nat.add_zero]
  have a2 : (r * n + s) / n = r := by
    rw [Nat.mul_comm, Nat.mul_add_div (by omega), Nat.div_eq_of_lt hs, Nat.add_zero]
  rw [h, a2] at a1
  subst a1
  exact ⟨rfl, by omega⟩
theorem nar_same {n : Nat} {D : Nat → Nat → Option Int} {i j : Nat} {b : Option Int} (hD : CLO n D) (hi : i < n) (hj : j < n) (h : ble (D i j) b) : (∀ p q, p < n → q < n → nar D i j b p q = D p q) ∧ ble (some 1) (badd (D j i) b) := by
  refine ⟨fun p q hp hq => bmin_eq ?_, ?_⟩
  · refine ble_trans (hD.2 p q i hp hq hi) ?_
    rw [badd_assoc]
    refine badd_mono (ble_refl _) ?_
    exact ble_trans (hD.2 i q j hi hq hj) (badd_mono h (ble_refl _))
  · have := hD.2 j j i hj hj hi
    rw [hD.1 j hj] at this
    exact ble_trans this (badd_mono (ble_refl _) h)
theorem narR_16a {n j p : Nat} (hj : j < n) (hp : p < n) {D W : Nat → Nat → Option Int} {va : Int} {R : Int} (hR : R ≤ 100000000) (hva : -2 * R - 1 ≤ va ∧ va ≤ 2 * R) (hD : RGE n R D) (hW : ∀ q, q < n → W j q = D j q ∧ W p q = D p q) {y : Int32} (hy : y.toInt = va) {f : Nat → Int32} (hf : ZC n f W) : ∃ g, itrv default (sp_E_7_narrow_16_L1 n j y p) (f, 0) = (y, g) ∧ ZC n g (fun r q => if r = p then bmin (D p q) (badd (some va) (D j q)) else W r q) := by
  refine itrv_inv (d := default) (f := sp_E_7_narrow_16_L1 n j y p) (fun t => ∃ g k, t = (g, k) ∧ k ≤ n ∧ ZC n g (fun r q => if r = p ∧ q < k then bmin (D p q) (badd (some va) (D j q)) else W r q)) (fun r => ∃ g, r = (y, g) ∧ ZC n g (fun r q => if r = p then bmin (D p q) (badd (some va) (D j q)) else W r q)) (fun t => n - t.2) ?_ n (f, 0) (Nat.sub_le _ _) ⟨f, 0, rfl, Nat.zero_le _, fun r q hr hq => by
    show EC _ (if r = p ∧ q < 0 then _ else W r q)
    rw [if_neg (by omega)]; exact hf r q hr hq⟩
  rintro _ ⟨g, k, rfl, hk, hI⟩
  by_cases ce : n ≤ k
  · refine Or.inr ⟨(y, g), by simp only [sp_E_7_narrow_16_L1, if_pos ce], g, rfl, fun r q hr hq => ?_⟩
    have := hI r q hr hq
    by_cases e : r = p
    · have this : EC (g (r * n + q)) (if r = p ∧ q < k then bmin (D p q) (badd (some va) (D j q)) else W r q) := this
      rw [if_pos ⟨e, by omega⟩] at this
      show EC _ (if r = p then _ else _)
      rw [if_pos e]; exact this
    · have this : EC (g (r * n + q)) (if r = p ∧ q < k then bmin (D p q) (badd (some va) (D j q)) else W r q) := this
      rw [if_neg (fun z => e z.1)] at this
      show EC _ (if r = p then _ else _)
      rw [if_neg e]; exact this
  · have hk2 : k < n := by omega
    have hjk : EC (g (j * n + k)) (D j k) := by
      have this : EC (g (j * n + k)) (if j = p ∧ k < k then bmin (D p k) (badd (some va) (D j k)) else W j k) := hI j k hj hk2
      rwa [if_neg (by omega), (hW k hk2).1] at this
    have hpk : EC (g (p * n + k)) (D p k) := by
      have this : EC (g (p * n + k)) (if p = p ∧ k < k then bmin (D p k) (badd (some va) (D j k)) else W p k) := hI p k hp hk2
      rwa [if_neg (by omega), (hW k hk2).2] at this
    have stay : bmin (D p k) (badd (some va) (D j k)) = D p k → ZC n g (fun r q => if r = p ∧ q < k + 1 then bmin (D p q) (badd (some va) (D j q)) else W r q) := by
      intro he r q hr hq
      have this : EC (g (r * n + q)) (if r = p ∧ q < k then bmin (D p q) (badd (some va) (D j q)) else W r q) := hI r q hr hq
      show EC _ (if r = p ∧ q < k + 1 then _ else _)
      by_cases e : r = p ∧ q = k
      · obtain ⟨rfl, rfl⟩ := e
        rw [if_pos ⟨rfl, by omega⟩, he]; exact hpk
      · by_cases e2 : r = p ∧ q < k
        · rw [if_pos e2] at this
          rw [if_pos ⟨e2.1, by omega⟩]; exact this
        · rw [if_neg e2] at this
          rw [if_neg (fun z => by
            have z1 := z.1
            have z2 := z.2
            have : ¬ q = k := fun w => e ⟨z1, w⟩
            exact e2 ⟨z1, by omega⟩)]
          exact this
    by_cases c1 : g (j * n + k) = 2147483647
    · have dn := hjk.none_iff.mp c1
      refine Or.inl ⟨(g, k + 1), by simp only [sp_E_7_narrow_16_L1, slet, if_neg ce, if_pos c1], ⟨_, _, rfl, by omega, stay ?_⟩, by show n - (k + 1) < n - k; omega⟩
      rw [dn, badd_none_r]
      exact bmin_eq (ble_none _)
    · have dn : ¬ D j k = none := fun z => c1 (hjk.none_iff.mpr z)
      obtain ⟨w, hw⟩ := Option.ne_none_iff_exists'.mp dn
      obtain ⟨x1, x2⟩ := hjk.some hw
      obtain ⟨r1, r2⟩ := hD j k hj hk2 w hw
      have es : (y + g (j * n + k) - ((y ||| g (j * n + k)) &&& (1 : Int32))).toInt = plus va w := by
        rw [plus32 (by omega) (by omega) (by omega) (by omega), hy, x1]
      have ec : EC (y + g (j * n + k) - ((y ||| g (j * n + k)) &&& (1 : Int32))) (badd (some va) (D j k)) := by
        rw [hw]
        refine Or.inr ⟨plus va w, rfl, es, ?_⟩
        rcases plus_c va w with z | z <;> omega
      by_cases c2 : g (p * n + k) ≤ (y + g (j * n + k) - ((y ||| g (j * n + k)) &&& (1 : Int32)))
      · exact Or.inl ⟨(g, k + 1), by simp only [sp_E_7_narrow_16_L1, slet, if_neg ce, if_neg c1, if_pos c2], ⟨_, _, rfl, by omega, stay (bmin_eq ((hpk.le ec).mp c2))⟩, by show n - (k + 1) < n - k; omega⟩
      · have nb : ¬ ble (D p k) (badd (some va) (D j k)) := fun z => c2 ((hpk.le ec).mpr z)
        have eb : bmin (D p k) (badd (some va) (D j k)) = badd (some va) (D j k) := by
          rcases bmin_or (D p k) (badd (some va) (D j k)) with z | z
          · exact absurd (by rw [← z]; exact bmin_r _ _) nb
          · exact z
        refine Or.inl ⟨(upd g (p * n + k) (y + g (j * n + k) - ((y ||| g (j * n + k)) &&& (1 : Int32))), k + 1), by simp only [sp_E_7_narrow_16_L1, slet, if_neg ce, if_neg c1, if_neg c2], ⟨_, _, rfl, by omega, fun r q hr hq => ?_⟩, by show n - (k + 1) < n - k; omega⟩
        have this : EC (g (r * n + q)) (if r = p ∧ q < k then bmin (D p q) (badd (some va) (D j q)) else W r q) := hI r q hr hq
        show EC _ (if r = p ∧ q < k + 1 then _ else _)
        by_cases e : r = p ∧ q = k
        · obtain ⟨rfl, rfl⟩ := e
          rw [if_pos ⟨rfl, by omega⟩, upd_s, eb]; exact ec
        · have ni : r * n + q ≠ p * n + k := fun z => e (ix_inj hq hk2 z)
          rw [upd_n ni]
          by_cases e2 : r = p ∧ q < k
          · rw [if_pos e2] at this
            rw [if_pos ⟨e2.1, by omega⟩]; exact this
          · rw [if_neg e2] at this
            rw [if_neg (fun z => by
              have z1 := z.1
              have z2 := z.2
              have : ¬ q = k := fun w => e ⟨z1, w⟩
              exact e2 ⟨z1, by omega⟩)]
            exact this
theorem narA_16a {n i j : Nat} (hi : i < n) (hj : j < n) {D : Nat → Nat → Option Int} {vb : Int} {R : Int} (hR : R ≤ 100000000) (hvb : -R ≤ vb ∧ vb ≤ R) (hC : CLO n D) (hc : ble (some 1) (badd (D j i) (some vb))) (hD : RGE n R D) {x : Int32} (hx : x.toInt = vb) {f : Nat → Int32} (hf : ZC n f D) : ∃ g, itrv default (sp_E_7_narrow_16_L2 n i j x) (f, 0) = (1, g) ∧ ZC n g (nar D i j (some vb)) := by
  have rowj : ∀ q, q < n → nar D i j (some vb) j q = D j q := fun q hq => bmin_eq (badd_ge_r hc)
  have coli : ∀ p, p < n → nar D i j (some vb) p i = D p i := by
    intro p hp
    refine bmin_eq ?_
    have e : badd (badd (D p i) (some vb)) (D j i) = badd (D p i) (badd (D j i) (some vb)) := by rw [badd_assoc, badd_comm (some vb)]
    rw [e]
    exact badd_ge_l hc
  refine itrv_inv (d := default) (f := sp_E_7_narrow_16_L2 n i j x) (fun t => ∃ g k, t = (g, k) ∧ k ≤ n ∧ ZC n g (fun r q => if r < k then nar D i j (some vb) r q else D r q)) (fun r => ∃ g, r = (1, g) ∧ ZC n g (nar D i j (some vb))) (fun t => n - t.2) ?_ n (f, 0) (Nat.sub_le _ _) ⟨f, 0, rfl, Nat.zero_le _, fun r q hr hq => by
    show EC _ (if r < 0 then _ else D r q)
    rw [if_neg (by omega)]; exact hf r q hr hq⟩
  rintro _ ⟨g, k, rfl, hk, hI⟩
  by_cases ce : n ≤ k
  · refine Or.inr ⟨(1, g), by simp only [sp_E_7_narrow_16_L2, if_pos ce], g, rfl, fun r q hr hq => ?_⟩
    have this : EC (g (r * n + q)) (if r < k then nar D i j (some vb) r q else D r q) := hI r q hr hq
    rwa [if_pos (by omega)] at this
  · have hk2 : k < n := by omega
    have hki : EC (g (k * n + i)) (D k i) := by
      have this : EC (g (k * n + i)) (if k < k then nar D i j (some vb) k i else D k i) := hI k i hk2 hi
      rwa [if_neg (by omega)] at this
    have hWj : ∀ q, q < n → (fun r q => if r < k then nar D i j (some vb) r q else D r q) j q = D j q ∧ (fun r q => if r < k then nar D i j (some vb) r q else D r q) k q = D k q := by
      intro q hq
      refine ⟨?_, ?_⟩
      · show (if j < k then nar D i j (some vb) j q else D j q) = D j q
        by_cases z : j < k
        · rw [if_pos z]; exact rowj q hq
        · rw [if_neg z]
      · show (if k < k then nar D i j (some vb) k q else D k q) = D k q
        rw [if_neg (by omega)]
    by_cases c1 : g (k * n + i) = 2147483647
    · have dn := hki.none_iff.mp c1
      refine Or.inl ⟨(g, k + 1), by simp only [sp_E_7_narrow_16_L2, slet, if_neg ce, if_pos c1], ⟨_, _, rfl, by omega, fun r q hr hq => ?_⟩, by show n - (k + 1) < n - k; omega⟩
      have this : EC (g (r * n + q)) (if r < k then nar D i j (some vb) r q else D r q) := hI r q hr hq
      show EC _ (if r < k + 1 then _ else _)
      by_cases e : r = k
      · subst e
        rw [if_neg (by omega)] at this
        rw [if_pos (by omega)]
        have en : nar D i j (some vb) r q = D r q := by
          show bmin (D r q) (badd (badd (D r i) (some vb)) (D j q)) = _
          rw [dn, badd_none_l, badd_none_l]
          exact bmin_eq (ble_none _)
        rw [en]; exact this
      · by_cases e2 : r < k
        · rw [if_pos e2] at this
          rw [if_pos (by omega)]; exact this
        · rw [if_neg e2] at this
          rw [if_neg (by omega)]; exact this
    · have dn : ¬ D k i = none := fun z => c1 (hki.none_iff.mpr z)
      obtain ⟨w, hw⟩ := Option.ne_none_iff_exists'.mp dn
      obtain ⟨x1, x2⟩ := hki.some hw
      obtain ⟨r1, r2⟩ := hD k i hk2 hi w hw
      have es : (g (k * n + i) + x - ((g (k * n + i) ||| x) &&& (1 : Int32))).toInt = plus w vb := by
        rw [plus32 (by omega) (by omega) (by omega) (by omega), x1, hx]
      have hva : -2 * R - 1 ≤ plus w vb ∧ plus w vb ≤ 2 * R := by
        rcases plus_c w vb with z | z <;> omega
      obtain ⟨g', eg, hg⟩ := narR_16a (D := D) (W := fun r q => if r < k then nar D i j (some vb) r q else D r q) hj hk2 hR hva hD hWj es hI
      refine Or.inl ⟨(g', k + 1), by simp only [sp_E_7_narrow_16_L2, slet, if_neg ce, if_neg c1, eg], ⟨_, _, rfl, by omega, fun r q hr hq => ?_⟩, by show n - (k + 1) < n - k; omega⟩
      have this : EC (g' (r * n + q)) (if r = k then bmin (D k q) (badd (some (plus w vb)) (D j q)) else if r < k then nar D i j (some vb) r q else D r q) := hg r q hr hq
      show EC _ (if r < k + 1 then _ else _)
      by_cases e : r = k
      · subst e
        rw [if_pos rfl] at this
        rw [if_pos (by omega)]
        have en : nar D i j (some vb) r q = bmin (D r q) (badd (some (plus w vb)) (D j q)) := by
          show bmin (D r q) (badd (badd (D r i) (some vb)) (D j q)) = _
          rw [hw]; rfl
        rw [en]; exact this
      · rw [if_neg e] at this
        by_cases e2 : r < k
        · rw [if_pos e2] at this
          rw [if_pos (by omega)]; exact this
        · rw [if_neg e2] at this
          rw [if_neg (by omega)]; exact this
theorem narR_16b {n j p : Nat} (hj : j < n) (hp : p < n) {D W : Nat → Nat → Option Int} {va : Int} {R : Int} (hR : R ≤ 100000000) (hva : -2 * R - 1 ≤ va ∧ va ≤ 2 * R) (hD : RGE n R D) (hW : ∀ q, q < n → W j q = D j q ∧ W p q = D p q) {y : Int32} (hy : y.toInt = va) {f : Nat → Int32} (hf : ZC n f W) : ∃ g, itrv default (sp_E_7_narrow_16_L3 n j y p) (f, 0) = (y, g) ∧ ZC n g (fun r q => if r = p then bmin (D p q) (badd (some va) (D j q)) else W r q) := by
  refine itrv_inv (d := default) (f := sp_E_7_narrow_16_L3 n j y p) (fun t => ∃ g k, t = (g, k) ∧ k ≤ n ∧ ZC n g (fun r q => if r = p ∧ q < k then bmin (D p q) (badd (some va) (D j q)) else W r q)) (fun r => ∃ g, r = (y, g) ∧ ZC n g (fun r q => if r = p then bmin (D p q) (badd (some va) (D j q)) else W r q)) (fun t => n - t.2) ?_ n (f, 0) (Nat.sub_le _ _) ⟨f, 0, rfl, Nat.zero_le _, fun r q hr hq => by
    show EC _ (if r = p ∧ q < 0 then _ else W r q)
    rw [if_neg (by omega)]; exact hf r q hr hq⟩
  rintro _ ⟨g, k, rfl, hk, hI⟩
  by_cases ce : n ≤ k
  · refine Or.inr ⟨(y, g), by simp only [sp_E_7_narrow_16_L3, if_pos ce], g, rfl, fun r q hr hq => ?_⟩
    have := hI r q hr hq
    by_cases e : r = p
    · have this : EC (g (r * n + q)) (if r = p ∧ q < k then bmin (D p q) (badd (some va) (D j q)) else W r q) := this
      rw [if_pos ⟨e, by omega⟩] at this
      show EC _ (if r = p then _ else _)
      rw [if_pos e]; exact this
    · have this : EC (g (r * n + q)) (if r = p ∧ q < k then bmin (D p q) (badd (some va) (D j q)) else W r q) := this
      rw [if_neg (fun z => e z.1)] at this
      show EC _ (if r = p then _ else _)
      rw [if_neg e]; exact this
  · have hk2 : k < n := by omega
    have hjk : EC (g (j * n + k)) (D j k) := by
      have this : EC (g (j * n + k)) (if j = p ∧ k < k then bmin (D p k) (badd (some va) (D j k)) else W j k) := hI j k hj hk2
      rwa [if_neg (by omega), (hW k hk2).1] at this
    have hpk : EC (g (p * n + k)) (D p k) := by
      have this : EC (g (p * n + k)) (if p = p ∧ k < k then bmin (D p k) (badd (some va) (D j k)) else W p k) := hI p k hp hk2
      rwa [if_neg (by omega), (hW k hk2).2] at this
    have stay : bmin (D p k) (badd (some va) (D j k)) = D p k → ZC n g (fun r q => if r = p ∧ q < k + 1 then bmin (D p q) (badd (some va) (D j q)) else W r q) := by
      intro he r q hr hq
      have this : EC (g (r * n + q)) (if r = p ∧ q < k then bmin (D p q) (badd (some va) (D j q)) else W r q) := hI r q hr hq
      show EC _ (if r = p ∧ q < k + 1 then _ else _)
      by_cases e : r = p ∧ q = k
      · obtain ⟨rfl, rfl⟩ := e
        rw [if_pos ⟨rfl, by omega⟩, he]; exact hpk
      · by_cases e2 : r = p ∧ q < k
        · rw [if_pos e2] at this
          rw [if_pos ⟨e2.1, by omega⟩]; exact this
        · rw [if_neg e2] at this
          rw [if_neg (fun z => by
            have z1 := z.1
            have z2 := z.2
            have : ¬ q = k := fun w => e ⟨z1, w⟩
            exact e2 ⟨z1, by omega⟩)]
          exact this
    by_cases c1 : g (j * n + k) = 2147483647
    · have dn := hjk.none_iff.mp c1
      refine Or.inl ⟨(g, k + 1), by simp only [sp_E_7_narrow_16_L3, slet, if_neg ce, if_pos c1], ⟨_, _, rfl, by omega, stay ?_⟩, by show n - (k + 1) < n - k; omega⟩
      rw [dn, badd_none_r]
      exact bmin_eq (ble_none _)
    · have dn : ¬ D j k = none := fun z => c1 (hjk.none_iff.mpr z)
      obtain ⟨w, hw⟩ := Option.ne_none_iff_exists'.mp dn
      obtain ⟨x1, x2⟩ := hjk.some hw
      obtain ⟨r1, r2⟩ := hD j k hj hk2 w hw
      have es : (y + g (j * n + k) - ((y ||| g (j * n + k)) &&& (1 : Int32))).toInt = plus va w := by
        rw [plus32 (by omega) (by omega) (by omega) (by omega), hy, x1]
      have ec : EC (y + g (j * n + k) - ((y ||| g (j * n + k)) &&& (1 : Int32))) (badd (some va) (D j k)) := by
        rw [hw]
        refine Or.inr ⟨plus va w, rfl, es, ?_⟩
        rcases plus_c va w with z | z <;> omega
      by_cases c2 : g (p * n + k) ≤ (y + g (j * n + k) - ((y ||| g (j * n + k)) &&& (1 : Int32)))
      · exact Or.inl ⟨(g, k + 1), by simp only [sp_E_7_narrow_16_L3, slet, if_neg ce, if_neg c1, if_pos c2], ⟨_, _, rfl, by omega, stay (bmin_eq ((hpk.le ec).mp c2))⟩, by show n - (k + 1) < n - k; omega⟩
      · have nb : ¬ ble (D p k) (badd (some va) (D j k)) := fun z => c2 ((hpk.le ec).mpr z)
        have eb : bmin (D p k) (badd (some va) (D j k)) = badd (some va) (D j k) := by
          rcases bmin_or (D p k) (badd (some va) (D j k)) with z | z
          · exact absurd (by rw [← z]; exact bmin_r _ _) nb
          · exact z
        refine Or.inl ⟨(upd g (p * n + k) (y + g (j * n + k) - ((y ||| g (j * n + k)) &&& (1 : Int32))), k + 1), by simp only [sp_E_7_narrow_16_L3, slet, if_neg ce, if_neg c1, if_neg c2], ⟨_, _, rfl, by omega, fun r q hr hq => ?_⟩, by show n - (k + 1) < n - k; omega⟩
        have this : EC (g (r * n + q)) (if r = p ∧ q < k then bmin (D p q) (badd (some va) (D j q)) else W r q) := hI r q hr hq
        show EC _ (if r = p ∧ q < k + 1 then _ else _)
        by_cases e : r = p ∧ q = k
        · obtain ⟨rfl, rfl⟩ := e
          rw [if_pos ⟨rfl, by omega⟩, upd_s, eb]; exact ec
        · have ni : r * n + q ≠ p * n + k := fun z => e (ix_inj hq hk2 z)
          rw [upd_n ni]
          by_cases e2 : r = p ∧ q < k
          · rw [if_pos e2] at this
            rw [if_pos ⟨e2.1, by omega⟩]; exact this
          · rw [if_neg e2] at this
            rw [if_neg (fun z => by
              have z1 := z.1
              have z2 := z.2
              have : ¬ q = k := fun w => e ⟨z1, w⟩
              exact e2 ⟨z1, by omega⟩)]
            exact this
theorem narA_16b {n i j : Nat} (hi : i < n) (hj : j < n) {D : Nat → Nat → Option Int} {vb : Int} {R : Int} (hR : R ≤ 100000000) (hvb : -R ≤ vb ∧ vb ≤ R) (hC : CLO n D) (hc : ble (some 1) (badd (D j i) (some vb))) (hD : RGE n R D) {x : Int32} (hx : x.toInt = vb) {f : Nat → Int32} (hf : ZC n f D) : ∃ g, itrv default (sp_E_7_narrow_16_L4 n i j x) (f, 0) = (1, g) ∧ ZC n g (nar D i j (some vb)) := by
  have rowj : ∀ q, q < n → nar D i j (some vb) j q = D j q := fun q hq => bmin_eq (badd_ge_r hc)
  have coli : ∀ p, p < n → nar D i j (some vb) p i = D p i := by
    intro p hp
    refine bmin_eq ?_
    have e : badd (badd (D p i) (some vb)) (D j i) = badd (D p i) (badd (D j i) (some vb)) := by rw [badd_assoc, badd_comm (some vb)]
    rw [e]
    exact badd_ge_l hc
  refine itrv_inv (d := default) (f := sp_E_7_narrow_16_L4 n i j x) (fun t => ∃ g k, t = (g, k) ∧ k ≤ n ∧ ZC n g (fun r q => if r < k then nar D i j (some vb) r q else D r q)) (fun r => ∃ g, r = (1, g) ∧ ZC n g (nar D i j (some vb))) (fun t => n - t.2) ?_ n (f, 0) (Nat.sub_le _ _) ⟨f, 0, rfl, Nat.zero_le _, fun r q hr hq => by
    show EC _ (if r < 0 then _ else D r q)
    rw [if_neg (by omega)]; exact hf r q hr hq⟩
  rintro _ ⟨g, k, rfl, hk, hI⟩
  by_cases ce : n ≤ k
  · refine Or.inr ⟨(1, g), by simp only [sp_E_7_narrow_16_L4, if_pos ce], g, rfl, fun r q hr hq => ?_⟩
    have this : EC (g (r * n + q)) (if r < k then nar D i j (some vb) r q else D r q) := hI r q hr hq
    rwa [if_pos (by omega)] at this
  · have hk2 : k < n := by omega
    have hki : EC (g (k * n + i)) (D k i) := by
      have this : EC (g (k * n + i)) (if k < k then nar D i j (some vb) k i else D k i) := hI k i hk2 hi
      rwa [if_neg (by omega)] at this
    have hWj : ∀ q, q < n → (fun r q => if r < k then nar D i j (some vb) r q else D r q) j q = D j q ∧ (fun r q => if r < k then nar D i j (some vb) r q else D r q) k q = D k q := by
      intro q hq
      refine ⟨?_, ?_⟩
      · show (if j < k then nar D i j (some vb) j q else D j q) = D j q
        by_cases z : j < k
        · rw [if_pos z]; exact rowj q hq
        · rw [if_neg z]
      · show (if k < k then nar D i j (some vb) k q else D k q) = D k q
        rw [if_neg (by omega)]
    by_cases c1 : g (k * n + i) = 2147483647
    · have dn := hki.none_iff.mp c1
      refine Or.inl ⟨(g, k + 1), by simp only [sp_E_7_narrow_16_L4, slet, if_neg ce, if_pos c1], ⟨_, _, rfl, by omega, fun r q hr hq => ?_⟩, by show n - (k + 1) < n - k; omega⟩
      have this : EC (g (r * n + q)) (if r < k then nar D i j (some vb) r q else D r q) := hI r q hr hq
      show EC _ (if r < k + 1 then _ else _)
      by_cases e : r = k
      · subst e
        rw [if_neg (by omega)] at this
        rw [if_pos (by omega)]
        have en : nar D i j (some vb) r q = D r q := by
          show bmin (D r q) (badd (badd (D r i) (some vb)) (D j q)) = _
          rw [dn, badd_none_l, badd_none_l]
          exact bmin_eq (ble_none _)
        rw [en]; exact this
      · by_cases e2 : r < k
        · rw [if_pos e2] at this
          rw [if_pos (by omega)]; exact this
        · rw [if_neg e2] at this
          rw [if_neg (by omega)]; exact this
    · have dn : ¬ D k i = none := fun z => c1 (hki.none_iff.mpr z)
      obtain ⟨w, hw⟩ := Option.ne_none_iff_exists'.mp dn
      obtain ⟨x1, x2⟩ := hki.some hw
      obtain ⟨r1, r2⟩ := hD k i hk2 hi w hw
      have es : (g (k * n + i) + x - ((g (k * n + i) ||| x) &&& (1 : Int32))).toInt = plus w vb := by
        rw [plus32 (by omega) (by omega) (by omega) (by omega), x1, hx]
      have hva : -2 * R - 1 ≤ plus w vb ∧ plus w vb ≤ 2 * R := by
        rcases plus_c w vb with z | z <;> omega
      obtain ⟨g', eg, hg⟩ := narR_16b (D := D) (W := fun r q => if r < k then nar D i j (some vb) r q else D r q) hj hk2 hR hva hD hWj es hI
      refine Or.inl ⟨(g', k + 1), by simp only [sp_E_7_narrow_16_L4, slet, if_neg ce, if_neg c1, eg], ⟨_, _, rfl, by omega, fun r q hr hq => ?_⟩, by show n - (k + 1) < n - k; omega⟩
      have this : EC (g' (r * n + q)) (if r = k then bmin (D k q) (badd (some (plus w vb)) (D j q)) else if r < k then nar D i j (some vb) r q else D r q) := hg r q hr hq
      show EC _ (if r < k + 1 then _ else _)
      by_cases e : r = k
      · subst e
        rw [if_pos rfl] at this
        rw [if_pos (by omega)]
        have en : nar D i j (some vb) r q = bmin (D r q) (badd (some (plus w vb)) (D j q)) := by
          show bmin (D r q) (badd (badd (D r i) (some vb)) (D j q)) = _
          rw [hw]; rfl
        rw [en]; exact this
      · rw [if_neg e] at this
        by_cases e2 : r < k
        · rw [if_pos e2] at this
          rw [if_pos (by omega)]; exact this
        · rw [if_neg e2] at this
          rw [if_neg (by omega)]; exact this
/-- narrow of the class: one bound more, closed at once; or there is nothing within -/
theorem narrow_16 {n i j : Nat} (hi : i < n) (hj : j < n) {D : Nat → Nat → Option Int} {b : Option Int} {R : Int} (hR : R ≤ 100000000) (hC : CLO n D) (hD : RGE n R D) (hb : ∀ v, b = some v → -R ≤ v ∧ v ≤ R) {x : Int32} (hx : EC x b) {f : Nat → Int32} (hf : ZC n f D) : (ble (some 1) (badd (D j i) b) → ∃ g, sp_E_7_narrow_16 n f i j x = (1, g) ∧ ZC n g (nar D i j b)) ∧ (¬ ble (some 1) (badd (D j i) b) → ∃ g, sp_E_7_narrow_16 n f i j x = (0, g)) := by
  have hij := hf i j hi hj
  have hji := hf j i hj hi
  by_cases c0 : x < f (i * n + j)
  · have nb : ¬ ble (D i j) b := (hx.lt hij).mp c0
    have bn : ¬ b = none := fun z => nb (by rw [z]; exact ble_none _)
    obtain ⟨vb, eb⟩ := Option.ne_none_iff_exists'.mp bn
    subst eb
    obtain ⟨x1, x2⟩ := hx.some rfl
    have rb := hb vb rfl
    by_cases c1 : f (j * n + i) = 2147483647
    · have dn := hji.none_iff.mp c1
      have hc : ble (some 1) (badd (D j i) (some vb)) := by rw [dn, badd_none_l]; exact ble_none _
      refine ⟨fun _ => ?_, fun z => absurd hc z⟩
      obtain ⟨g, eg, hg⟩ := narA_16a hi hj hR rb hC hc hD x1 hf
      exact ⟨g, by simp only [sp_E_7_narrow_16, slet, if_pos c0, if_pos c1, eg], hg⟩
    · have dn : ¬ D j i = none := fun z => c1 (hji.none_iff.mpr z)
      obtain ⟨w, hw⟩ := Option.ne_none_iff_exists'.mp dn
      obtain ⟨y1, y2⟩ := hji.some hw
      obtain ⟨r1, r2⟩ := hD j i hj hi w hw
      have es : (f (j * n + i) + x - ((f (j * n + i) ||| x) &&& (1 : Int32))).toInt = plus w vb := by
        rw [plus32 (by omega) (by omega) (by omega) (by omega), y1, x1]
      have i1 : (1 : Int32).toInt = 1 := by decide
      have hcc : ((1 : Int32) ≤ f (j * n + i) + x - ((f (j * n + i) ||| x) &&& (1 : Int32))) ↔ ble (some 1) (badd (D j i) (some vb)) := by
        rw [hw, Int32.le_iff_toInt_le, es, i1]; exact Iff.rfl
      by_cases c2 : (1 : Int32) ≤ f (j * n + i) + x - ((f (j * n + i) ||| x) &&& (1 : Int32))
      · have hc := hcc.mp c2
        refine ⟨fun _ => ?_, fun z => absurd hc z⟩
        obtain ⟨g, eg, hg⟩ := narA_16b hi hj hR rb hC hc hD x1 hf
        exact ⟨g, by simp only [sp_E_7_narrow_16, slet, if_pos c0, if_neg c1, if_pos c2, eg], hg⟩
      · exact ⟨fun z => absurd (hcc.mpr z) c2, fun _ => ⟨f, by simp only [sp_E_7_narrow_16, slet, if_pos c0, if_neg c1, if_neg c2]⟩⟩
  · have hle : ble (D i j) b := by
      by_cases z : ble (D i j) b
      · exact z
      · exact absurd ((hx.lt hij).mpr z) c0
    obtain ⟨e1, e2⟩ := nar_same hC hi hj hle
    refine ⟨fun _ => ⟨f, by simp only [sp_E_7_narrow_16, slet, if_neg c0], fun p q hp hq => by rw [e1 p q hp hq]; exact hf p q hp hq⟩, fun z => absurd e2 z⟩
theorem narR_25a {n j p : Nat} (hj : j < n) (hp : p < n) {D W : Nat → Nat → Option Int} {va : Int} {R : Int} (hR : R ≤ 100000000) (hva : -2 * R - 1 ≤ va ∧ va ≤ 2 * R) (hD : RGE n R D) (hW : ∀ q, q < n → W j q = D j q ∧ W p q = D p q) {y : Int32} (hy : y.toInt = va) {f : Nat → Int32} (hf : ZC n f W) : ∃ g, itrv default (sp_E_7_narrow_25_L1 n j y p) (f, 0) = (y, g) ∧ ZC n g (fun r q => if r = p then bmin (D p q) (badd (some va) (D j q)) else W r q) := by
  refine itrv_inv (d := default) (f := sp_E_7_narrow_25_L1 n j y p) (fun t => ∃ g k, t = (g, k) ∧ k ≤ n ∧ ZC n g (fun r q => if r = p ∧ q < k then bmin (D p q) (badd (some va) (D j q)) else W r q)) (fun r => ∃ g, r = (y, g) ∧ ZC n g (fun r q => if r = p then bmin (D p q) (badd (some va) (D j q)) else W r q)) (fun t => n - t.2) ?_ n (f, 0) (Nat.sub_le _ _) ⟨f, 0, rfl, Nat.zero_le _, fun r q hr hq => by
    show EC _ (if r = p ∧ q < 0 then _ else W r q)
    rw [if_neg (by omega)]; exact hf r q hr hq⟩
  rintro _ ⟨g, k, rfl, hk, hI⟩
  by_cases ce : n ≤ k
  · refine Or.inr ⟨(y, g), by simp only [sp_E_7_narrow_25_L1, if_pos ce], g, rfl, fun r q hr hq => ?_⟩
    have := hI r q hr hq
    by_cases e : r = p
    · have this : EC (g (r * n + q)) (if r = p ∧ q < k then bmin (D p q) (badd (some va) (D j q)) else W r q) := this
      rw [if_pos ⟨e, by omega⟩] at this
      show EC _ (if r = p then _ else _)
      rw [if_pos e]; exact this
    · have this : EC (g (r * n + q)) (if r = p ∧ q < k then bmin (D p q) (badd (some va) (D j q)) else W r q) := this
      rw [if_neg (fun z => e z.1)] at this
      show EC _ (if r = p then _ else _)
      rw [if_neg e]; exact this
  · have hk2 : k < n := by omega
    have hjk : EC (g (j * n + k)) (D j k) := by
      have this : EC (g (j * n + k)) (if j = p ∧ k < k then bmin (D p k) (badd (some va) (D j k)) else W j k) := hI j k hj hk2
      rwa [if_neg (by omega), (hW k hk2).1] at this
    have hpk : EC (g (p * n + k)) (D p k) := by
      have this : EC (g (p * n + k)) (if p = p ∧ k < k then bmin (D p k) (badd (some va) (D j k)) else W p k) := hI p k hp hk2
      rwa [if_neg (by omega), (hW k hk2).2] at this
    have stay : bmin (D p k) (badd (some va) (D j k)) = D p k → ZC n g (fun r q => if r = p ∧ q < k + 1 then bmin (D p q) (badd (some va) (D j q)) else W r q) := by
      intro he r q hr hq
      have this : EC (g (r * n + q)) (if r = p ∧ q < k then bmin (D p q) (badd (some va) (D j q)) else W r q) := hI r q hr hq
      show EC _ (if r = p ∧ q < k + 1 then _ else _)
      by_cases e : r = p ∧ q = k
      · obtain ⟨rfl, rfl⟩ := e
        rw [if_pos ⟨rfl, by omega⟩, he]; exact hpk
      · by_cases e2 : r = p ∧ q < k
        · rw [if_pos e2] at this
          rw [if_pos ⟨e2.1, by omega⟩]; exact this
        · rw [if_neg e2] at this
          rw [if_neg (fun z => by
            have z1 := z.1
            have z2 := z.2
            have : ¬ q = k := fun w => e ⟨z1, w⟩
            exact e2 ⟨z1, by omega⟩)]
          exact this
    by_cases c1 : g (j * n + k) = 2147483647
    · have dn := hjk.none_iff.mp c1
      refine Or.inl ⟨(g, k + 1), by simp only [sp_E_7_narrow_25_L1, slet, if_neg ce, if_pos c1], ⟨_, _, rfl, by omega, stay ?_⟩, by show n - (k + 1) < n - k; omega⟩
      rw [dn, badd_none_r]
      exact bmin_eq (ble_none _)
    · have dn : ¬ D j k = none := fun z => c1 (hjk.none_iff.mpr z)
      obtain ⟨w, hw⟩ := Option.ne_none_iff_exists'.mp dn
      obtain ⟨x1, x2⟩ := hjk.some hw
      obtain ⟨r1, r2⟩ := hD j k hj hk2 w hw
      have es : (y + g (j * n + k) - ((y ||| g (j * n + k)) &&& (1 : Int32))).toInt = plus va w := by
        rw [plus32 (by omega) (by omega) (by omega) (by omega), hy, x1]
      have ec : EC (y + g (j * n + k) - ((y ||| g (j * n + k)) &&& (1 : Int32))) (badd (some va) (D j k)) := by
        rw [hw]
        refine Or.inr ⟨plus va w, rfl, es, ?_⟩
        rcases plus_c va w with z | z <;> omega
      by_cases c2 : g (p * n + k) ≤ (y + g (j * n + k) - ((y ||| g (j * n + k)) &&& (1 : Int32)))
      · exact Or.inl ⟨(g, k + 1), by simp only [sp_E_7_narrow_25_L1, slet, if_neg ce, if_neg c1, if_pos c2], ⟨_, _, rfl, by omega, stay (bmin_eq ((hpk.le ec).mp c2))⟩, by show n - (k + 1) < n - k; omega⟩
      · have nb : ¬ ble (D p k) (badd (some va) (D j k)) := fun z => c2 ((hpk.le ec).mpr z)
        have eb : bmin (D p k) (badd (some va) (D j k)) = badd (some va) (D j k) := by
          rcases bmin_or (D p k) (badd (some va) (D j k)) with z | z
          · exact absurd (by rw [← z]; exact bmin_r _ _) nb
          · exact z
        refine Or.inl ⟨(upd g (p * n + k) (y + g (j * n + k) - ((y ||| g (j * n + k)) &&& (1 : Int32))), k + 1), by simp only [sp_E_7_narrow_25_L1, slet, if_neg ce, if_neg c1, if_neg c2], ⟨_, _, rfl, by omega, fun r q hr hq => ?_⟩, by show n - (k + 1) < n - k; omega⟩
        have this : EC (g (r * n + q)) (if r = p ∧ q < k then bmin (D p q) (badd (some va) (D j q)) else W r q) := hI r q hr hq
        show EC _ (if r = p ∧ q < k + 1 then _ else _)
        by_cases e : r = p ∧ q = k
        · obtain ⟨rfl, rfl⟩ := e
          rw [if_pos ⟨rfl, by omega⟩, upd_s, eb]; exact ec
        · have ni : r * n + q ≠ p * n + k := fun z => e (ix_inj hq hk2 z)
          rw [upd_n ni]
          by_cases e2 : r = p ∧ q < k
          · rw [if_pos e2] at this
            rw [if_pos ⟨e2.1, by omega⟩]; exact this
          · rw [if_neg e2] at this
            rw [if_neg (fun z => by
              have z1 := z.1
              have z2 := z.2
              have : ¬ q = k := fun w => e ⟨z1, w⟩
              exact e2 ⟨z1, by omega⟩)]
            exact this
theorem narA_25a {n i j : Nat} (hi : i < n) (hj : j < n) {D : Nat → Nat → Option Int} {vb : Int} {R : Int} (hR : R ≤ 100000000) (hvb : -R ≤ vb ∧ vb ≤ R) (hC : CLO n D) (hc : ble (some 1) (badd (D j i) (some vb))) (hD : RGE n R D) {x : Int32} (hx : x.toInt = vb) {f : Nat → Int32} (hf : ZC n f D) : ∃ g, itrv default (sp_E_7_narrow_25_L2 n i j x) (f, 0) = (1, g) ∧ ZC n g (nar D i j (some vb)) := by
  have rowj : ∀ q, q < n → nar D i j (some vb) j q = D j q := fun q hq => bmin_eq (badd_ge_r hc)
  have coli : ∀ p, p < n → nar D i j (some vb) p i = D p i := by
    intro p hp
    refine bmin_eq ?_
    have e : badd (badd (D p i) (some vb)) (D j i) = badd (D p i) (badd (D j i) (some vb)) := by rw [badd_assoc, badd_comm (some vb)]
    rw [e]
    exact badd_ge_l hc
  refine itrv_inv (d := default) (f := sp_E_7_narrow_25_L2 n i j x) (fun t => ∃ g k, t = (g, k) ∧ k ≤ n ∧ ZC n g (fun r q => if r < k then nar D i j (some vb) r q else D r q)) (fun r => ∃ g, r = (1, g) ∧ ZC n g (nar D i j (some vb))) (fun t => n - t.2) ?_ n (f, 0) (Nat.sub_le _ _) ⟨f, 0, rfl, Nat.zero_le _, fun r q hr hq => by
    show EC _ (if r < 0 then _ else D r q)
    rw [if_neg (by omega)]; exact hf r q hr hq⟩
  rintro _ ⟨g, k, rfl, hk, hI⟩
  by_cases ce : n ≤ k
  · refine Or.inr ⟨(1, g), by simp only [sp_E_7_narrow_25_L2, if_pos ce], g, rfl, fun r q hr hq => ?_⟩
    have this : EC (g (r * n + q)) (if r < k then nar D i j (some vb) r q else D r q) := hI r q hr hq
    rwa [if_pos (by omega)] at this
  · have hk2 : k < n := by omega
    have hki : EC (g (k * n + i)) (D k i) := by
      have this : EC (g (k * n + i)) (if k < k then nar D i j (some vb) k i else D k i) := hI k i hk2 hi
      rwa [if_neg (by omega)] at this
    have hWj : ∀ q, q < n → (fun r q => if r < k then nar D i j (some vb) r q else D r q) j q = D j q ∧ (fun r q => if r < k then nar D i j (some vb) r q else D r q) k q = D k q := by
      intro q hq
      refine ⟨?_, ?_⟩
      · show (if j < k then nar D i j (some vb) j q else D j q) = D j q
        by_cases z : j < k
        · rw [if_pos z]; exact rowj q hq
        · rw [if_neg z]
      · show (if k < k then nar D i j (some vb) k q else D k q) = D k q
        rw [if_neg (by omega)]
    by_cases c1 : g (k * n + i) = 2147483647
    · have dn := hki.none_iff.mp c1
      refine Or.inl ⟨(g, k + 1), by simp only [sp_E_7_narrow_25_L2, slet, if_neg ce, if_pos c1], ⟨_, _, rfl, by omega, fun r q hr hq => ?_⟩, by show n - (k + 1) < n - k; omega⟩
      have this : EC (g (r * n + q)) (if r < k then nar D i j (some vb) r q else D r q) := hI r q hr hq
      show EC _ (if r < k + 1 then _ else _)
      by_cases e : r = k
      · subst e
        rw [if_neg (by omega)] at this
        rw [if_pos (by omega)]
        have en : nar D i j (some vb) r q = D r q := by
          show bmin (D r q) (badd (badd (D r i) (some vb)) (D j q)) = _
          rw [dn, badd_none_l, badd_none_l]
          exact bmin_eq (ble_none _)
        rw [en]; exact this
      · by_cases e2 : r < k
        · rw [if_pos e2] at this
          rw [if_pos (by omega)]; exact this
        · rw [if_neg e2] at this
          rw [if_neg (by omega)]; exact this
    · have dn : ¬ D k i = none := fun z => c1 (hki.none_iff.mpr z)
      obtain ⟨w, hw⟩ := Option.ne_none_iff_exists'.mp dn
      obtain ⟨x1, x2⟩ := hki.some hw
      obtain ⟨r1, r2⟩ := hD k i hk2 hi w hw
      have es : (g (k * n + i) + x - ((g (k * n + i) ||| x) &&& (1 : Int32))).toInt = plus w vb := by
        rw [plus32 (by omega) (by omega) (by omega) (by omega), x1, hx]
      have hva : -2 * R - 1 ≤ plus w vb ∧ plus w vb ≤ 2 * R := by
        rcases plus_c w vb with z | z <;> omega
      obtain ⟨g', eg, hg⟩ := narR_25a (D := D) (W := fun r q => if r < k then nar D i j (some vb) r q else D r q) hj hk2 hR hva hD hWj es hI
      refine Or.inl ⟨(g', k + 1), by simp only [sp_E_7_narrow_25_L2, slet, if_neg ce, if_neg c1, eg], ⟨_, _, rfl, by omega, fun r q hr hq => ?_⟩, by show n - (k + 1) < n - k; omega⟩
      have this : EC (g' (r * n + q)) (if r = k then bmin (D k q) (badd (some (plus w vb)) (D j q)) else if r < k then nar D i j (some vb) r q else D r q) := hg r q hr hq
      show EC _ (if r < k + 1 then _ else _)
      by_cases e : r = k
      · subst e
        rw [if_pos rfl] at this
        rw [if_pos (by omega)]
        have en : nar D i j (some vb) r q = bmin (D r q) (badd (some (plus w vb)) (D j q)) := by
          show bmin (D r q) (badd (badd (D r i) (some vb)) (D j q)) = _
          rw [hw]; rfl
        rw [en]; exact this
      · rw [if_neg e] at this
        by_cases e2 : r < k
        · rw [if_pos e2] at this
          rw [if_pos (by omega)]; exact this
        · rw [if_neg e2] at this
          rw [if_neg (by omega)]; exact this
theorem narR_25b {n j p : Nat} (hj : j < n) (hp : p < n) {D W : Nat → Nat → Option Int} {va : Int} {R : Int} (hR : R ≤ 100000000) (hva : -2 * R - 1 ≤ va ∧ va ≤ 2 * R) (hD : RGE n R D) (hW : ∀ q, q < n → W j q = D j q ∧ W p q = D p q) {y : Int32} (hy : y.toInt = va) {f : Nat → Int32} (hf : ZC n f W) : ∃ g, itrv default (sp_E_7_narrow_25_L3 n j y p) (f, 0) = (y, g) ∧ ZC n g (fun r q => if r = p then bmin (D p q) (badd (some va) (D j q)) else W r q) := by
  refine itrv_inv (d := default) (f := sp_E_7_narrow_25_L3 n j y p) (fun t => ∃ g k, t = (g, k) ∧ k ≤ n ∧ ZC n g (fun r q => if r = p ∧ q < k then bmin (D p q) (badd (some va) (D j q)) else W r q)) (fun r => ∃ g, r = (y, g) ∧ ZC n g (fun r q => if r = p then bmin (D p q) (badd (some va) (D j q)) else W r q)) (fun t => n - t.2) ?_ n (f, 0) (Nat.sub_le _ _) ⟨f, 0, rfl, Nat.zero_le _, fun r q hr hq => by
    show EC _ (if r = p ∧ q < 0 then _ else W r q)
    rw [if_neg (by omega)]; exact hf r q hr hq⟩
  rintro _ ⟨g, k, rfl, hk, hI⟩
  by_cases ce : n ≤ k
  · refine Or.inr ⟨(y, g), by simp only [sp_E_7_narrow_25_L3, if_pos ce], g, rfl, fun r q hr hq => ?_⟩
    have := hI r q hr hq
    by_cases e : r = p
    · have this : EC (g (r * n + q)) (if r = p ∧ q < k then bmin (D p q) (badd (some va) (D j q)) else W r q) := this
      rw [if_pos ⟨e, by omega⟩] at this
      show EC _ (if r = p then _ else _)
      rw [if_pos e]; exact this
    · have this : EC (g (r * n + q)) (if r = p ∧ q < k then bmin (D p q) (badd (some va) (D j q)) else W r q) := this
      rw [if_neg (fun z => e z.1)] at this
      show EC _ (if r = p then _ else _)
      rw [if_neg e]; exact this
  · have hk2 : k < n := by omega
    have hjk : EC (g (j * n + k)) (D j k) := by
      have this : EC (g (j * n + k)) (if j = p ∧ k < k then bmin (D p k) (badd (some va) (D j k)) else W j k) := hI j k hj hk2
      rwa [if_neg (by omega), (hW k hk2).1] at this
    have hpk : EC (g (p * n + k)) (D p k) := by
      have this : EC (g (p * n + k)) (if p = p ∧ k < k then bmin (D p k) (badd (some va) (D j k)) else W p k) := hI p k hp hk2
      rwa [if_neg (by omega), (hW k hk2).2] at this
    have stay : bmin (D p k) (badd (some va) (D j k)) = D p k → ZC n g (fun r q => if r = p ∧ q < k + 1 then bmin (D p q) (badd (some va) (D j q)) else W r q) := by
      intro he r q hr hq
      have this : EC (g (r * n + q)) (if r = p ∧ q < k then bmin (D p q) (badd (some va) (D j q)) else W r q) := hI r q hr hq
      show EC _ (if r = p ∧ q < k + 1 then _ else _)
      by_cases e : r = p ∧ q = k
      · obtain ⟨rfl, rfl⟩ := e
        rw [if_pos ⟨rfl, by omega⟩, he]; exact hpk
      · by_cases e2 : r = p ∧ q < k
        · rw [if_pos e2] at this
          rw [if_pos ⟨e2.1, by omega⟩]; exact this
        · rw [if_neg e2] at this
          rw [if_neg (fun z => by
            have z1 := z.1
            have z2 := z.2
            have : ¬ q = k := fun w => e ⟨z1, w⟩
            exact e2 ⟨z1, by omega⟩)]
          exact this
    by_cases c1 : g (j * n + k) = 2147483647
    · have dn := hjk.none_iff.mp c1
      refine Or.inl ⟨(g, k + 1), by simp only [sp_E_7_narrow_25_L3, slet, if_neg ce, if_pos c1], ⟨_, _, rfl, by omega, stay ?_⟩, by show n - (k + 1) < n - k; omega⟩
      rw [dn, badd_none_r]
      exact bmin_eq (ble_none _)
    · have dn : ¬ D j k = none := fun z => c1 (hjk.none_iff.mpr z)
      obtain ⟨w, hw⟩ := Option.ne_none_iff_exists'.mp dn
      obtain ⟨x1, x2⟩ := hjk.some hw
      obtain ⟨r1, r2⟩ := hD j k hj hk2 w hw
      have es : (y + g (j * n + k) - ((y ||| g (j * n + k)) &&& (1 : Int32))).toInt = plus va w := by
        rw [plus32 (by omega) (by omega) (by omega) (by omega), hy, x1]
      have ec : EC (y + g (j * n + k) - ((y ||| g (j * n + k)) &&& (1 : Int32))) (badd (some va) (D j k)) := by
        rw [hw]
        refine Or.inr ⟨plus va w, rfl, es, ?_⟩
        rcases plus_c va w with z | z <;> omega
      by_cases c2 : g (p * n + k) ≤ (y + g (j * n + k) - ((y ||| g (j * n + k)) &&& (1 : Int32)))
      · exact Or.inl ⟨(g, k + 1), by simp only [sp_E_7_narrow_25_L3, slet, if_neg ce, if_neg c1, if_pos c2], ⟨_, _, rfl, by omega, stay (bmin_eq ((hpk.le ec).mp c2))⟩, by show n - (k + 1) < n - k; omega⟩
      · have nb : ¬ ble (D p k) (badd (some va) (D j k)) := fun z => c2 ((hpk.le ec).mpr z)
        have eb : bmin (D p k) (badd (some va) (D j k)) = badd (some va) (D j k) := by
          rcases bmin_or (D p k) (badd (some va) (D j k)) with z | z
          · exact absurd (by rw [← z]; exact bmin_r _ _) nb
          · exact z
        refine Or.inl ⟨(upd g (p * n + k) (y + g (j * n + k) - ((y ||| g (j * n + k)) &&& (1 : Int32))), k + 1), by simp only [sp_E_7_narrow_25_L3, slet, if_neg ce, if_neg c1, if_neg c2], ⟨_, _, rfl, by omega, fun r q hr hq => ?_⟩, by show n - (k + 1) < n - k; omega⟩
        have this : EC (g (r * n + q)) (if r = p ∧ q < k then bmin (D p q) (badd (some va) (D j q)) else W r q) := hI r q hr hq
        show EC _ (if r = p ∧ q < k + 1 then _ else _)
        by_cases e : r = p ∧ q = k
        · obtain ⟨rfl, rfl⟩ := e
          rw [if_pos ⟨rfl, by omega⟩, upd_s, eb]; exact ec
        · have ni : r * n + q ≠ p * n + k := fun z => e (ix_inj hq hk2 z)
          rw [upd_n ni]
          by_cases e2 : r = p ∧ q < k
          · rw [if_pos e2] at this
            rw [if_pos ⟨e2.1, by omega⟩]; exact this
          · rw [if_neg e2] at this
            rw [if_neg (fun z => by
              have z1 := z.1
              have z2 := z.2
              have : ¬ q = k := fun w => e ⟨z1, w⟩
              exact e2 ⟨z1, by omega⟩)]
            exact this
theorem narA_25b {n i j : Nat} (hi : i < n) (hj : j < n) {D : Nat → Nat → Option Int} {vb : Int} {R : Int} (hR : R ≤ 100000000) (hvb : -R ≤ vb ∧ vb ≤ R) (hC : CLO n D) (hc : ble (some 1) (badd (D j i) (some vb))) (hD : RGE n R D) {x : Int32} (hx : x.toInt = vb) {f : Nat → Int32} (hf : ZC n f D) : ∃ g, itrv default (sp_E_7_narrow_25_L4 n i j x) (f, 0) = (1, g) ∧ ZC n g (nar D i j (some vb)) := by
  have rowj : ∀ q, q < n → nar D i j (some vb) j q = D j q := fun q hq => bmin_eq (badd_ge_r hc)
  have coli : ∀ p, p < n → nar D i j (some vb) p i = D p i := by
    intro p hp
    refine bmin_eq ?_
    have e : badd (badd (D p i) (some vb)) (D j i) = badd (D p i) (badd (D j i) (some vb)) := by rw [badd_assoc, badd_comm (some vb)]
    rw [e]
    exact badd_ge_l hc
  refine itrv_inv (d := default) (f := sp_E_7_narrow_25_L4 n i j x) (fun t => ∃ g k, t = (g, k) ∧ k ≤ n ∧ ZC n g (fun r q => if r < k then nar D i j (some vb) r q else D r q)) (fun r => ∃ g, r = (1, g) ∧ ZC n g (nar D i j (some vb))) (fun t => n - t.2) ?_ n (f, 0) (Nat.sub_le _ _) ⟨f, 0, rfl, Nat.zero_le _, fun r q hr hq => by
    show EC _ (if r < 0 then _ else D r q)
    rw [if_neg (by omega)]; exact hf r q hr hq⟩
  rintro _ ⟨g, k, rfl, hk, hI⟩
  by_cases ce : n ≤ k
  · refine Or.inr ⟨(1, g), by simp only [sp_E_7_narrow_25_L4, if_pos ce], g, rfl, fun r q hr hq => ?_⟩
    have this : EC (g (r * n + q)) (if r < k then nar D i j (some vb) r q else D r q) := hI r q hr hq
    rwa [if_pos (by omega)] at this
  · have hk2 : k < n := by omega
    have hki : EC (g (k * n + i)) (D k i) := by
      have this : EC (g (k * n + i)) (if k < k then nar D i j (some vb) k i else D k i) := hI k i hk2 hi
      rwa [if_neg (by omega)] at this
    have hWj : ∀ q, q < n → (fun r q => if r < k then nar D i j (some vb) r q else D r q) j q = D j q ∧ (fun r q => if r < k then nar D i j (some vb) r q else D r q) k q = D k q := by
      intro q hq
      refine ⟨?_, ?_⟩
      · show (if j < k then nar D i j (some vb) j q else D j q) = D j q
        by_cases z : j < k
        · rw [if_pos z]; exact rowj q hq
        · rw [if_neg z]
      · show (if k < k then nar D i j (some vb) k q else D k q) = D k q
        rw [if_neg (by omega)]
    by_cases c1 : g (k * n + i) = 2147483647
    · have dn := hki.none_iff.mp c1
      refine Or.inl ⟨(g, k + 1), by simp only [sp_E_7_narrow_25_L4, slet, if_neg ce, if_pos c1], ⟨_, _, rfl, by omega, fun r q hr hq => ?_⟩, by show n - (k + 1) < n - k; omega⟩
      have this : EC (g (r * n + q)) (if r < k then nar D i j (some vb) r q else D r q) := hI r q hr hq
      show EC _ (if r < k + 1 then _ else _)
      by_cases e : r = k
      · subst e
        rw [if_neg (by omega)] at this
        rw [if_pos (by omega)]
        have en : nar D i j (some vb) r q = D r q := by
          show bmin (D r q) (badd (badd (D r i) (some vb)) (D j q)) = _
          rw [dn, badd_none_l, badd_none_l]
          exact bmin_eq (ble_none _)
        rw [en]; exact this
      · by_cases e2 : r < k
        · rw [if_pos e2] at this
          rw [if_pos (by omega)]; exact this
        · rw [if_neg e2] at this
          rw [if_neg (by omega)]; exact this
    · have dn : ¬ D k i = none := fun z => c1 (hki.none_iff.mpr z)
      obtain ⟨w, hw⟩ := Option.ne_none_iff_exists'.mp dn
      obtain ⟨x1, x2⟩ := hki.some hw
      obtain ⟨r1, r2⟩ := hD k i hk2 hi w hw
      have es : (g (k * n + i) + x - ((g (k * n + i) ||| x) &&& (1 : Int32))).toInt = plus w vb := by
        rw [plus32 (by omega) (by omega) (by omega) (by omega), x1, hx]
      have hva : -2 * R - 1 ≤ plus w vb ∧ plus w vb ≤ 2 * R := by
        rcases plus_c w vb with z | z <;> omega
      obtain ⟨g', eg, hg⟩ := narR_25b (D := D) (W := fun r q => if r < k then nar D i j (some vb) r q else D r q) hj hk2 hR hva hD hWj es hI
      refine Or.inl ⟨(g', k + 1), by simp only [sp_E_7_narrow_25_L4, slet, if_neg ce, if_neg c1, eg], ⟨_, _, rfl, by omega, fun r q hr hq => ?_⟩, by show n - (k + 1) < n - k; omega⟩
      have this : EC (g' (r * n + q)) (if r = k then bmin (D k q) (badd (some (plus w vb)) (D j q)) else if r < k then nar D i j (some vb) r q else D r q) := hg r q hr hq
      show EC _ (if r < k + 1 then _ else _)
      by_cases e : r = k
      · subst e
        rw [if_pos rfl] at this
        rw [if_pos (by omega)]
        have en : nar D i j (some vb) r q = bmin (D r q) (badd (some (plus w vb)) (D j q)) := by
          show bmin (D r q) (badd (badd (D r i) (some vb)) (D j q)) = _
          rw [hw]; rfl
        rw [en]; exact this
      · rw [if_neg e] at this
        by_cases e2 : r < k
        · rw [if_pos e2] at this
          rw [if_pos (by omega)]; exact this
        · rw [if_neg e2] at this
          rw [if_neg (by omega)]; exact this
/-- narrow of the class: one bound more, closed at once; or there is nothing within -/
theorem narrow_25 {n i j : Nat} (hi : i < n) (hj : j < n) {D : Nat → Nat → Option Int} {b : Option Int} {R : Int} (hR : R ≤ 100000000) (hC : CLO n D) (hD : RGE n R D) (hb : ∀ v, b = some v → -R ≤ v ∧ v ≤ R) {x : Int32} (hx : EC x b) {f : Nat → Int32} (hf : ZC n f D) : (ble (some 1) (badd (D j i) b) → ∃ g, sp_E_7_narrow_25 n f i j x = (1, g) ∧ ZC n g (nar D i j b)) ∧ (¬ ble (some 1) (badd (D j i) b) → ∃ g, sp_E_7_narrow_25 n f i j x = (0, g)) := by
  have hij := hf i j hi hj
  have hji := hf j i hj hi
  by_cases c0 : x < f (i * n + j)
  · have nb : ¬ ble (D i j) b := (hx.lt hij).mp c0
    have bn : ¬ b = none := fun z => nb (by rw [z]; exact ble_none _)
    obtain ⟨vb, eb⟩ := Option.ne_none_iff_exists'.mp bn
    subst eb
    obtain ⟨x1, x2⟩ := hx.some rfl
    have rb := hb vb rfl
    by_cases c1 : f (j * n + i) = 2147483647
    · have dn := hji.none_iff.mp c1
      have hc : ble (some 1) (badd (D j i) (some vb)) := by rw [dn, badd_none_l]; exact ble_none _
      refine ⟨fun _ => ?_, fun z => absurd hc z⟩
      obtain ⟨g, eg, hg⟩ := narA_25a hi hj hR rb hC hc hD x1 hf
      exact ⟨g, by simp only [sp_E_7_narrow_25, slet, if_pos c0, if_pos c1, eg], hg⟩
    · have dn : ¬ D j i = none := fun z => c1 (hji.none_iff.mpr z)
      obtain ⟨w, hw⟩ := Option.ne_none_iff_exists'.mp dn
      obtain ⟨y1, y2⟩ := hji.some hw
      obtain ⟨r1, r2⟩ := hD j i hj hi w hw
      have es : (f (j * n + i) + x - ((f (j * n + i) ||| x) &&& (1 : Int32))).toInt = plus w vb := by
        rw [plus32 (by omega) (by omega) (by omega) (by omega), y1, x1]
      have i1 : (1 : Int32).toInt = 1 := by decide
      have hcc : ((1 : Int32) ≤ f (j * n + i) + x - ((f (j * n + i) ||| x) &&& (1 : Int32))) ↔ ble (some 1) (badd (D j i) (some vb)) := by
        rw [hw, Int32.le_iff_toInt_le, es, i1]; exact Iff.rfl
      by_cases c2 : (1 : Int32) ≤ f (j * n + i) + x - ((f (j * n + i) ||| x) &&& (1 : Int32))
      · have hc := hcc.mp c2
        refine ⟨fun _ => ?_, fun z => absurd hc z⟩
        obtain ⟨g, eg, hg⟩ := narA_25b hi hj hR rb hC hc hD x1 hf
        exact ⟨g, by simp only [sp_E_7_narrow_25, slet, if_pos c0, if_neg c1, if_pos c2, eg], hg⟩
      · exact ⟨fun z => absurd (hcc.mpr z) c2, fun _ => ⟨f, by simp only [sp_E_7_narrow_25, slet, if_pos c0, if_neg c1, if_neg c2]⟩⟩
  · have hle : ble (D i j) b := by
      by_cases z : ble (D i j) b
      · exact z
      · exact absurd ((hx.lt hij).mpr z) c0
    obtain ⟨e1, e2⟩ := nar_same hC hi hj hle
    refine ⟨fun _ => ⟨f, by simp only [sp_E_7_narrow_25, slet, if_neg c0], fun p q hp hq => by rw [e1 p q hp hq]; exact hf p q hp hq⟩, fun z => absurd e2 z⟩
theorem bmin_no {a b : Option Int} (h : bmin a b = none) : a = none ∧ b = none := by
  have l := bmin_l a b
  have r := bmin_r a b
  rw [h] at l r
  exact ⟨ble_anti (ble_none _) l, ble_anti (ble_none _) r⟩
theorem ble_some {a : Option Int} {v : Int} (h : ble a (some v)) : ∃ w, a = some w ∧ w ≤ v := by
  cases a with
  | none => exact absurd h (fun z => z)
  | some w => exact ⟨w, rfl, h⟩
theorem badd_yes {a b : Option Int} {v : Int} (h : badd a b = some v) : ∃ x y, a = some x ∧ b = some y ∧ v = plus x y := by
  cases a with
  | none => rw [badd_none_l] at h; exact absurd h (by simp)
  | some x =>
    cases b with
    | none => rw [badd_none_r] at h; exact absurd h (by simp)
    | some y => exact ⟨x, y, rfl, rfl, (Option.some.inj h).symm⟩
/-- a closed zone of values that aren't below 0, its bounds within a range -/
def ZOK (n : Nat) (U V : Int) (D : Nat → Nat → Option Int) : Prop := CLO n D ∧ (∀ q, q < n → ble (D 0 q) (some 1)) ∧ (∀ p q, p < n → q < n → ∀ v, D p q = some v → v ≤ U + 41 ∧ (D p 0 = none → v ≤ U)) ∧ ∀ q, q < n → ∀ v, D 0 q = some v → -V ≤ v
theorem ZOK.clo {n : Nat} {U V : Int} {D : Nat → Nat → Option Int} (h : ZOK n U V D) : CLO n D := h.1
theorem ZOK.nn {n : Nat} {U V : Int} {D : Nat → Nat → Option Int} (h : ZOK n U V D) : ∀ q, q < n → ble (D 0 q) (some 1) := h.2.1
theorem ZOK.up {n : Nat} {U V : Int} {D : Nat → Nat → Option Int} (h : ZOK n U V D) : ∀ p q, p < n → q < n → ∀ v, D p q = some v → v ≤ U + 41 ∧ (D p 0 = none → v ≤ U) := h.2.2.1
theorem ZOK.lo {n : Nat} {U V : Int} {D : Nat → Nat → Option Int} (h : ZOK n U V D) : ∀ q, q < n → ∀ v, D 0 q = some v → -V ≤ v := h.2.2.2
theorem ZOK.wide {n : Nat} {U V U' V' : Int} {D : Nat → Nat → Option Int} (h : ZOK n U V D) (h1 : U ≤ U') (h2 : V ≤ V') : ZOK n U' V' D :=
  ⟨h.clo, h.nn, fun p q hp hq v e => ⟨by have := (h.up p q hp hq v e).1; omega, fun z => by have := (h.up p q hp hq v e).2 z; omega⟩, fun q hq v e => by have := h.lo q hq v e; omega⟩
theorem ZOK.rge {n : Nat} {U V R : Int} {D : Nat → Nat → Option Int} (h : ZOK n U V D) (h1 : U + 41 ≤ R) (h2 : V ≤ R) : RGE n R D := by
  intro p q hp hq v e
  have h0 : 0 < n := by omega
  refine ⟨?_, by have := (h.up p q hp hq v e).1; omega⟩
  have t := h.clo.2 0 q p h0 hq hp
  have t2 : ble (badd (D 0 p) (D p q)) (badd (some 1) (D p q)) := badd_mono (h.nn p hp) (ble_refl _)
  rw [one_badd, e] at t2
  rw [e] at t
  obtain ⟨w, ew, hw⟩ := ble_some (ble_trans t t2)
  have := h.lo q hq w ew
  omega
theorem ZOK.hi {n i : Nat} {U V : Int} {D : Nat → Nat → Option Int} {b : Option Int} (h : ZOK n U V D) (hi : i < n) (h0 : 0 < n) (hb : ∀ v, b = some v → v ≤ 41) (hc : ble (some 1) (badd (D 0 i) b)) : ZOK n U V (nar D i 0 b) := by
  refine ⟨(nar_gre h.clo hi h0 hc).1, fun q hq => ble_trans (bmin_l _ _) (h.nn q hq), ?_, ?_⟩
  · intro p q hp hq v e
    have e' : bmin (D p q) (badd (badd (D p i) b) (D 0 q)) = some v := e
    have n0 : nar D i 0 b p 0 = none → D p 0 = none ∧ badd (badd (D p i) b) (D 0 0) = none := fun z => bmin_no z
    rcases bmin_or (D p q) (badd (badd (D p i) b) (D 0 q)) with c | c
    · rw [c] at e'
      have u := h.up p q hp hq v e'
      exact ⟨u.1, fun z => u.2 (n0 z).1⟩
    · rw [c] at e'
      obtain ⟨a, z, ea, ez, rv⟩ := badd_yes e'
      obtain ⟨x, y, ex, ey, ra⟩ := badd_yes ea
      obtain ⟨z', ez', hz⟩ := ble_some (h.nn q hq)
      have zz : z = z' := Option.some.inj (ez.symm.trans ez')
      have hy := hb y ey
      have hx := h.up p i hp hi x ex
      refine ⟨?_, fun w => absurd (n0 w).2 (by rw [ea, h.clo.1 0 h0]; exact (by simp [badd]))⟩
      by_cases cp : D p 0 = none
      · have := hx.2 cp
        rcases plus_c x y with k | k <;> rcases plus_c a z with l | l <;> omega
      · obtain ⟨t, et⟩ := Option.ne_none_iff_exists'.mp cp
        have k := h.clo.2 p q 0 hp hq h0
        rw [et, ez] at k
        obtain ⟨w, ew, hw⟩ := ble_some (show ble (D p q) (some (plus t z)) from k)
        have := (h.up p q hp hq w ew).1
        have l := bmin_l (D p q) (badd (badd (D p i) b) (D 0 q))
        rw [c, e', ew] at l
        have l : v ≤ w := l
        omega
  · intro q hq v e
    have k : ble (D 0 q) (badd (badd (D 0 i) b) (D 0 q)) := badd_ge_r hc
    have e' : bmin (D 0 q) (badd (badd (D 0 i) b) (D 0 q)) = some v := e
    rw [bmin_eq k] at e'
    exact h.lo q hq v e'
theorem ZOK.low {n i : Nat} {U V : Int} {D : Nat → Nat → Option Int} {b : Option Int} (h : ZOK n U V D) (hi : i < n) (h0 : 0 < n) (hb : ∀ v, b = some v → -41 ≤ v) (hc : ble (some 1) (badd (D i 0) b)) : ZOK n U (V + 42) (nar D 0 i b) := by
  have g := h.rge (R := max (U + 41) V) (by omega) (by omega)
  refine ⟨(nar_gre h.clo h0 hi hc).1, fun q hq => ble_trans (bmin_l _ _) (h.nn q hq), ?_, ?_⟩
  · intro p q hp hq v e
    have e' : bmin (D p q) (badd (badd (D p 0) b) (D i q)) = some v := e
    have n0 : nar D 0 i b p 0 = none → D p 0 = none := fun z => (bmin_no z).1
    rcases bmin_or (D p q) (badd (badd (D p 0) b) (D i q)) with c | c
    · rw [c] at e'
      have u := h.up p q hp hq v e'
      exact ⟨u.1, fun z => u.2 (n0 z)⟩
    · rw [c] at e'
      obtain ⟨a, z, ea, ez, rv⟩ := badd_yes e'
      obtain ⟨x, y, ex, ey, ra⟩ := badd_yes ea
      obtain ⟨z', ez', hz⟩ := ble_some (h.nn q hq)
      refine ⟨?_, fun w => absurd (n0 w) (by rw [ex]; simp)⟩
      have k := h.clo.2 p q 0 hp hq h0
      rw [ex, ez'] at k
      obtain ⟨w, ew, hw⟩ := ble_some (show ble (D p q) (some (plus x z')) from k)
      have := (h.up p q hp hq w ew).1
      have l := bmin_l (D p q) (badd (badd (D p 0) b) (D i q))
      rw [c, e', ew] at l
      have l : v ≤ w := l
      omega
  · intro q hq v e
    have e' : bmin (D 0 q) (badd (badd (D 0 0) b) (D i q)) = some v := e
    rcases bmin_or (D 0 q) (badd (badd (D 0 0) b) (D i q)) with c | c
    · rw [c] at e'
      have := h.lo q hq v e'
      omega
    · rw [c, h.clo.1 0 h0, one_badd] at e'
      obtain ⟨y, z, ey, ez, rv⟩ := badd_yes e'
      have hy := hb y ey
      have t := h.clo.2 0 q i h0 hq hi
      have t2 : ble (badd (D 0 i) (D i q)) (badd (some 1) (D i q)) := badd_mono (h.nn i hi) (ble_refl _)
      rw [one_badd, ez] at t2
      rw [ez] at t
      obtain ⟨w, ew, hw⟩ := ble_some (ble_trans t t2)
      have := h.lo q hq w ew
      rcases plus_c y z with k | k <;> omega
theorem ZOK.delay {n : Nat} {U V : Int} {D : Nat → Nat → Option Int} (h : ZOK n U V D) (hU : 0 ≤ U) : ZOK n (U + 41) V (dly D) := by
  have key : ∀ p q v, dly D p q = some v → D p q = some v := by
    intro p q v e
    have e' : (if q = 0 ∧ ¬ p = 0 then none else D p q) = some v := e
    by_cases c : q = 0 ∧ ¬ p = 0
    · rw [if_pos c] at e'; exact absurd e' (by simp)
    · rw [if_neg c] at e'; exact e'
  refine ⟨h.clo.dly, fun q hq => ?_, fun p q hp hq v e => ?_, fun q hq v e => h.lo q hq v (key 0 q v e)⟩
  · show ble (if q = 0 ∧ ¬ 0 = 0 then none else D 0 q) _
    rw [if_neg (fun z => z.2 rfl)]; exact h.nn q hq
  · have := (h.up p q hp hq v (key p q v e)).1
    exact ⟨by omega, fun _ => this⟩
theorem ZOK.map {n m : Nat} {U V : Int} {D : Nat → Nat → Option Int} (h : ZOK n U V D) {f : Nat → Nat} (hf : ∀ i, i < m → f i < n) (f0 : f 0 = 0) : ZOK m U V (fun i j => D (f i) (f j)) :=
  ⟨h.clo.map hf, fun q hq => by show ble (D (f 0) (f q)) _; rw [f0]; exact h.nn _ (hf q hq), fun p q hp hq v e => ⟨(h.up _ _ (hf p hp) (hf q hq) v e).1, fun z => by
    have z : D (f p) (f 0) = none := z
    rw [f0] at z
    exact (h.up _ _ (hf p hp) (hf q hq) v e).2 z⟩, fun q hq v e => by
    have e : D (f 0) (f q) = some v := e
    rw [f0] at e
    exact h.lo _ (hf q hq) v e⟩
theorem nar_map {D : Nat → Nat → Option Int} {i j : Nat} {b : Option Int} {f : Nat → Nat} (hi : f i = i) (hj : f j = j) : nar (fun p q => D (f p) (f q)) i j b = fun p q => nar D i j b (f p) (f q) := by
  funext p q
  show bmin (D (f p) (f q)) (badd (badd (D (f p) (f i)) b) (D (f j) (f q))) = _
  rw [hi, hj]
  rfl
theorem GRE.keep {n i j : Nat} {M D : Nat → Nat → Option Int} {b : Option Int} (h : GRE n M D) (hi : i < n) (hj : j < n) (hb : ble (D i j) b) : GRE n (tgt M i j b) D :=
  ⟨h.1, (tgt_le hi hj).mpr ⟨h.2.1, hb⟩, fun E hE hm => h.2.2 E hE ((tgt_le hi hj).mp hm).1⟩
/-- bounds M, and those of k conditions -/
def tgs (cc : Nat → Nat) (A B : Nat → Option Int) (M : Nat → Nat → Option Int) : Nat → Nat → Nat → Option Int
  | 0 => M
  | k + 1 => tgt (tgt (tgs cc A B M k) (cc k + 1) 0 (A k)) 0 (cc k + 1) (B k)
theorem tgt_dec {n i j : Nat} {M : Nat → Nat → Option Int} {b : Option Int} (hi : i < n) (hj : j < n) : MLE n (tgt M i j b) M := ((tgt_le hi hj).mp MLE.rf).1
theorem tgs_dec {n m : Nat} {cc : Nat → Nat} {A B : Nat → Option Int} {M : Nat → Nat → Option Int} (h0 : 0 < n) (hc : ∀ k, k < m → cc k + 1 < n) : ∀ d k, k + d ≤ m → MLE n (tgs cc A B M (k + d)) (tgs cc A B M k)
  | 0, _, _ => MLE.rf
  | d + 1, k, h => ((tgt_dec h0 (hc (k + d) (by omega))).tr (tgt_dec (hc (k + d) (by omega)) h0)).tr (tgs_dec h0 hc d k (by omega))
/-- the conditions of one host, as the class has them -/
def CND (n m a : Nat) (q9 : Nat → Nat) (f12 f13 : Nat → Int32) (cc : Nat → Nat) (A B : Nat → Option Int) : Prop := ∀ k, k < m → min (q9 (a * 4 + k)) 2 = cc k ∧ cc k + 1 < n ∧ EC (f12 (a * 4 + k)) (A k) ∧ EC (f13 (a * 4 + k)) (B k) ∧ (∀ v, A k = some v → -41 ≤ v ∧ v ≤ 41) ∧ ∀ v, B k = some v → -41 ≤ v ∧ v ≤ 41
/-- clocks that f sends to 0 are those told to p2 -/
def ZRD (m : Nat) (cc : Nat → Nat) (p2 : Int32) (f : Nat → Nat) : Prop := ∀ k, k < m → ((p2 >>> (nI (cc k) &&& 31)) &&& (1 : Int32) = 1 → f (cc k + 1) = 0) ∧ (¬ (p2 >>> (nI (cc k) &&& 31)) &&& (1 : Int32) = 1 → f (cc k + 1) = cc k + 1)
theorem EC.one : EC (1 : Int32) (Option.some 1) := Or.inr ⟨1, rfl, by decide, by decide⟩
theorem narrowTo_16 {n m a : Nat} {q8 q9 : Nat → Nat} {f12 f13 : Nat → Int32} {cc : Nat → Nat} {A B : Nat → Option Int} {p2 : Int32} {f : Nat → Nat} {U V : Int} {D M : Nat → Nat → Option Int} {z : Nat → Int32} (h0 : 0 < n) (hm : min (q8 a) 4 = m) (hC : CND n m a q9 f12 f13 cc A B) (hZ : ZRD m cc p2 f) (f0 : f 0 = 0) (hD : ZOK n U V D) (hU : U + 41 ≤ 100000000) (hV : V + 168 ≤ 100000000) (hz : ZC n z D) (hG : GRE n M (fun i j => D (f i) (f j))) : (∃ g D', sp_E_0_narrowTo_16 q8 q9 f12 f13 n z a p2 = (1, g) ∧ ZC n g D' ∧ ZOK n U (V + 168) D' ∧ GRE n (tgs cc A B M m) (fun i j => D' (f i) (f j))) ∨ (∃ g, sp_E_0_narrowTo_16 q8 q9 f12 f13 n z a p2 = (0, g) ∧ ∀ E, CLO n E → ¬ MLE n E (tgs cc A B M m)) := by
  refine itrv_inv (d := default) (f := sp_E_0_narrowTo_16_L1 q8 q9 f12 f13 n a p2) (fun t => ∃ g k D', t = (g, k) ∧ k ≤ m ∧ ZC n g D' ∧ ZOK n U (V + 42 * k) D' ∧ GRE n (tgs cc A B M k) (fun i j => D' (f i) (f j))) (fun r => (∃ g D', r = (1, g) ∧ ZC n g D' ∧ ZOK n U (V + 168) D' ∧ GRE n (tgs cc A B M m) (fun i j => D' (f i) (f j))) ∨ (∃ g, r = (0, g) ∧ ∀ E, CLO n E → ¬ MLE n E (tgs cc A B M m))) (fun t => m - t.2) ?_ m (z, 0) (Nat.sub_le _ _) ⟨z, 0, D, rfl, Nat.zero_le _, hz, hD.wide (by omega) (by omega), hG⟩
  rintro _ ⟨g, k, D', rfl, hk, hg, hO, hR⟩
  have m4 : m ≤ 4 := by omega
  by_cases ce : m ≤ k
  · have ek : k = m := by omega
    subst ek
    exact Or.inr ⟨(1, g), by simp only [sp_E_0_narrowTo_16_L1, slet, hm, if_pos ce], Or.inl ⟨g, D', rfl, hg, hO.wide (by omega) (by omega), hR⟩⟩
  · have hk2 : k < m := by omega
    obtain ⟨c1, c2, c3, c4, c5, c6⟩ := hC k hk2
    obtain ⟨z1, z2⟩ := hZ k hk2
    have dec : MLE n (tgs cc A B M m) (tgs cc A B M (k + 1)) := by
      have := tgs_dec (A := A) (B := B) (M := M) h0 (fun k hk => (hC k hk).2.1) (m - (k + 1)) (k + 1) (by omega)
      rwa [show k + 1 + (m - (k + 1)) = m by omega] at this
    have noB : (∀ E, CLO n E → ¬ MLE n E (tgs cc A B M (k + 1))) → ∀ E, CLO n E → ¬ MLE n E (tgs cc A B M m) := fun h E hE l => h E hE (l.tr dec)
    have noA : (∀ E, CLO n E → ¬ MLE n E (tgt (tgs cc A B M k) (cc k + 1) 0 (A k))) → ∀ E, CLO n E → ¬ MLE n E (tgs cc A B M m) := fun h => noB (fun E hE l => h E hE (l.tr (tgt_dec h0 c2)))
    by_cases cb : (p2 >>> (nI (cc k) &&& 31)) &&& (1 : Int32) = 1
    · have fz := z1 cb
      have d0 : D' (f 0) (f (cc k + 1)) = some 1 := by rw [f0, fz]; exact hO.clo.1 0 h0
      have d1 : D' (f (cc k + 1)) (f 0) = some 1 := by rw [f0, fz]; exact hO.clo.1 0 h0
      by_cases y1 : f12 (a * 4 + k) < 1
      · have nb := (c3.lt EC.one).mp y1
        refine Or.inr ⟨(0, g), by simp only [sp_E_0_narrowTo_16_L1, slet, hm, if_neg ce, c1, if_pos cb, if_pos y1], Or.inr ⟨g, rfl, noA (hR.no c2 h0 ?_)⟩⟩
        show ¬ ble (some 1) (badd (D' (f 0) (f (cc k + 1))) (A k))
        rw [d0, one_badd]; exact nb
      · have yb : ble (some 1) (A k) := by
          by_cases q : ble (some 1) (A k)
          · exact q
          · exact absurd ((c3.lt EC.one).mpr q) y1
        have hR1 : GRE n (tgt (tgs cc A B M k) (cc k + 1) 0 (A k)) (fun i j => D' (f i) (f j)) := hR.keep c2 h0 (by show ble (D' (f (cc k + 1)) (f 0)) _; rw [d1]; exact yb)
        by_cases y2 : (1 : Int32) ≤ f13 (a * 4 + k)
        · have yl := (EC.one.le c4).mp y2
          refine Or.inl ⟨(g, k + 1), by simp only [sp_E_0_narrowTo_16_L1, slet, hm, if_neg ce, c1, if_pos cb, if_neg y1, if_pos y2], ⟨g, k + 1, D', rfl, by omega, hg, hO.wide (by omega) (by omega), hR1.keep h0 c2 ?_⟩, by show m - (k + 1) < m - k; omega⟩
          show ble (D' (f 0) (f (cc k + 1))) _
          rw [d0]; exact yl
        · have nl : ¬ ble (some 1) (B k) := fun q => y2 ((EC.one.le c4).mpr q)
          refine Or.inr ⟨(0, g), by simp only [sp_E_0_narrowTo_16_L1, slet, hm, if_neg ce, c1, if_pos cb, if_neg y1, if_neg y2], Or.inr ⟨g, rfl, noB (hR1.no h0 c2 ?_)⟩⟩
          show ¬ ble (some 1) (badd (D' (f (cc k + 1)) (f 0)) (B k))
          rw [d1, one_badd]; exact nl
    · have fz := z2 cb
      have rA : ∀ v, A k = some v → -100000000 ≤ v ∧ v ≤ 100000000 := fun v e => by have := c5 v e; omega
      have rB : ∀ v, B k = some v → -100000000 ≤ v ∧ v ≤ 100000000 := fun v e => by have := c6 v e; omega
      obtain ⟨n1, n2⟩ := narrow_16 (R := 100000000) c2 h0 (by omega) hO.clo (hO.rge (by omega) (by omega)) rA c3 hg
      by_cases y1 : ble (some 1) (badd (D' 0 (cc k + 1)) (A k))
      · obtain ⟨g1, e1, hg1⟩ := n1 y1
        have hO1 : ZOK n U (V + 42 * k) (nar D' (cc k + 1) 0 (A k)) := hO.hi c2 h0 (fun v e => (c5 v e).2) y1
        have hR1 : GRE n (tgt (tgs cc A B M k) (cc k + 1) 0 (A k)) (fun i j => nar D' (cc k + 1) 0 (A k) (f i) (f j)) := by
          rw [← nar_map fz f0]
          refine hR.nar c2 h0 ?_
          show ble (some 1) (badd (D' (f 0) (f (cc k + 1))) (A k))
          rw [f0, fz]; exact y1
        obtain ⟨n3, n4⟩ := narrow_16 (R := 100000000) h0 c2 (by omega) hO1.clo (hO1.rge (by omega) (by omega)) rB c4 hg1
        by_cases y2 : ble (some 1) (badd (nar D' (cc k + 1) 0 (A k) (cc k + 1) 0) (B k))
        · obtain ⟨g2, e2, hg2⟩ := n3 y2
          have hO2 := hO1.low c2 h0 (fun v e => (c6 v e).1) y2
          refine Or.inl ⟨(g2, k + 1), by simp only [sp_E_0_narrowTo_16_L1, slet, hm, if_neg ce, c1, if_neg cb, e1, e2, if_neg (show ¬ 1 = 0 by omega)], ⟨g2, k + 1, _, rfl, by omega, hg2, hO2.wide (by omega) (by omega), ?_⟩, by show m - (k + 1) < m - k; omega⟩
          show GRE n (tgt (tgt (tgs cc A B M k) (cc k + 1) 0 (A k)) 0 (cc k + 1) (B k)) _
          rw [← nar_map f0 fz]
          refine hR1.nar h0 c2 ?_
          show ble (some 1) (badd (nar D' (cc k + 1) 0 (A k) (f (cc k + 1)) (f 0)) (B k))
          rw [f0, fz]; exact y2
        · obtain ⟨g2, e2⟩ := n4 y2
          refine Or.inr ⟨(0, g2), by simp only [sp_E_0_narrowTo_16_L1, slet, hm, if_neg ce, c1, if_neg cb, e1, e2, if_neg (show ¬ 1 = 0 by omega), if_pos], Or.inr ⟨g2, rfl, noB (hR1.no h0 c2 ?_)⟩⟩
          show ¬ ble (some 1) (badd (nar D' (cc k + 1) 0 (A k) (f (cc k + 1)) (f 0)) (B k))
          rw [f0, fz]; exact y2
      · obtain ⟨g1, e1⟩ := n2 y1
        refine Or.inr ⟨(0, g1), by simp only [sp_E_0_narrowTo_16_L1, slet, hm, if_neg ce, c1, if_neg cb, e1, if_pos], Or.inr ⟨g1, rfl, noA (hR.no c2 h0 ?_)⟩⟩
        show ¬ ble (some 1) (badd (D' (f 0) (f (cc k + 1))) (A k))
        rw [f0, fz]; exact y1
theorem narrowTo_25 {n m a : Nat} {q8 q9 : Nat → Nat} {f12 f13 : Nat → Int32} {cc : Nat → Nat} {A B : Nat → Option Int} {p2 : Int32} {f : Nat → Nat} {U V : Int} {D M : Nat → Nat → Option Int} {z : Nat → Int32} (h0 : 0 < n) (hm : min (q8 a) 4 = m) (hC : CND n m a q9 f12 f13 cc A B) (hZ : ZRD m cc p2 f) (f0 : f 0 = 0) (hD : ZOK n U V D) (hU : U + 41 ≤ 100000000) (hV : V + 168 ≤ 100000000) (hz : ZC n z D) (hG : GRE n M (fun i j => D (f i) (f j))) : (∃ g D', sp_E_0_narrowTo_25 q8 q9 f12 f13 n z a p2 = (1, g) ∧ ZC n g D' ∧ ZOK n U (V + 168) D' ∧ GRE n (tgs cc A B M m) (fun i j => D' (f i) (f j))) ∨ (∃ g, sp_E_0_narrowTo_25 q8 q9 f12 f13 n z a p2 = (0, g) ∧ ∀ E, CLO n E → ¬ MLE n E (tgs cc A B M m)) := by
  refine itrv_inv (d := default) (f := sp_E_0_narrowTo_25_L1 q8 q9 f12 f13 n a p2) (fun t => ∃ g k D', t = (g, k) ∧ k ≤ m ∧ ZC n g D' ∧ ZOK n U (V + 42 * k) D' ∧ GRE n (tgs cc A B M k) (fun i j => D' (f i) (f j))) (fun r => (∃ g D', r = (1, g) ∧ ZC n g D' ∧ ZOK n U (V + 168) D' ∧ GRE n (tgs cc A B M m) (fun i j => D' (f i) (f j))) ∨ (∃ g, r = (0, g) ∧ ∀ E, CLO n E → ¬ MLE n E (tgs cc A B M m))) (fun t => m - t.2) ?_ m (z, 0) (Nat.sub_le _ _) ⟨z, 0, D, rfl, Nat.zero_le _, hz, hD.wide (by omega) (by omega), hG⟩
  rintro _ ⟨g, k, D', rfl, hk, hg, hO, hR⟩
  have m4 : m ≤ 4 := by omega
  by_cases ce : m ≤ k
  · have ek : k = m := by omega
    subst ek
    exact Or.inr ⟨(1, g), by simp only [sp_E_0_narrowTo_25_L1, slet, hm, if_pos ce], Or.inl ⟨g, D', rfl, hg, hO.wide (by omega) (by omega), hR⟩⟩
  · have hk2 : k < m := by omega
    obtain ⟨c1, c2, c3, c4, c5, c6⟩ := hC k hk2
    obtain ⟨z1, z2⟩ := hZ k hk2
    have dec : MLE n (tgs cc A B M m) (tgs cc A B M (k + 1)) := by
      have := tgs_dec (A := A) (B := B) (M := M) h0 (fun k hk => (hC k hk).2.1) (m - (k + 1)) (k + 1) (by omega)
      rwa [show k + 1 + (m - (k + 1)) = m by omega] at this
    have noB : (∀ E, CLO n E → ¬ MLE n E (tgs cc A B M (k + 1))) → ∀ E, CLO n E → ¬ MLE n E (tgs cc A B M m) := fun h E hE l => h E hE (l.tr dec)
    have noA : (∀ E, CLO n E → ¬ MLE n E (tgt (tgs cc A B M k) (cc k + 1) 0 (A k))) → ∀ E, CLO n E → ¬ MLE n E (tgs cc A B M m) := fun h => noB (fun E hE l => h E hE (l.tr (tgt_dec h0 c2)))
    by_cases cb : (p2 >>> (nI (cc k) &&& 31)) &&& (1 : Int32) = 1
    · have fz := z1 cb
      have d0 : D' (f 0) (f (cc k + 1)) = some 1 := by rw [f0, fz]; exact hO.clo.1 0 h0
      have d1 : D' (f (cc k + 1)) (f 0) = some 1 := by rw [f0, fz]; exact hO.clo.1 0 h0
      by_cases y1 : f12 (a * 4 + k) < 1
      · have nb := (c3.lt EC.one).mp y1
        refine Or.inr ⟨(0, g), by simp only [sp_E_0_narrowTo_25_L1, slet, hm, if_neg ce, c1, if_pos cb, if_pos y1], Or.inr ⟨g, rfl, noA (hR.no c2 h0 ?_)⟩⟩
        show ¬ ble (some 1) (badd (D' (f 0) (f (cc k + 1))) (A k))
        rw [d0, one_badd]; exact nb
      · have yb : ble (some 1) (A k) := by
          by_cases q : ble (some 1) (A k)
          · exact q
          · exact absurd ((c3.lt EC.one).mpr q) y1
        have hR1 : GRE n (tgt (tgs cc A B M k) (cc k + 1) 0 (A k)) (fun i j => D' (f i) (f j)) := hR.keep c2 h0 (by show ble (D' (f (cc k + 1)) (f 0)) _; rw [d1]; exact yb)
        by_cases y2 : (1 : Int32) ≤ f13 (a * 4 + k)
        · have yl := (EC.one.le c4).mp y2
          refine Or.inl ⟨(g, k + 1), by simp only [sp_E_0_narrowTo_25_L1, slet, hm, if_neg ce, c1, if_pos cb, if_neg y1, if_pos y2], ⟨g, k + 1, D', rfl, by omega, hg, hO.wide (by omega) (by omega), hR1.keep h0 c2 ?_⟩, by show m - (k + 1) < m - k; omega⟩
          show ble (D' (f 0) (f (cc k + 1))) _
          rw [d0]; exact yl
        · have nl : ¬ ble (some 1) (B k) := fun q => y2 ((EC.one.le c4).mpr q)
          refine Or.inr ⟨(0, g), by simp only [sp_E_0_narrowTo_25_L1, slet, hm, if_neg ce, c1, if_pos cb, if_neg y1, if_neg y2], Or.inr ⟨g, rfl, noB (hR1.no h0 c2 ?_)⟩⟩
          show ¬ ble (some 1) (badd (D' (f (cc k + 1)) (f 0)) (B k))
          rw [d1, one_badd]; exact nl
    · have fz := z2 cb
      have rA : ∀ v, A k = some v → -100000000 ≤ v ∧ v ≤ 100000000 := fun v e => by have := c5 v e; omega
      have rB : ∀ v, B k = some v → -100000000 ≤ v ∧ v ≤ 100000000 := fun v e => by have := c6 v e; omega
      obtain ⟨n1, n2⟩ := narrow_25 (R := 100000000) c2 h0 (by omega) hO.clo (hO.rge (by omega) (by omega)) rA c3 hg
      by_cases y1 : ble (some 1) (badd (D' 0 (cc k + 1)) (A k))
      · obtain ⟨g1, e1, hg1⟩ := n1 y1
        have hO1 : ZOK n U (V + 42 * k) (nar D' (cc k + 1) 0 (A k)) := hO.hi c2 h0 (fun v e => (c5 v e).2) y1
        have hR1 : GRE n (tgt (tgs cc A B M k) (cc k + 1) 0 (A k)) (fun i j => nar D' (cc k + 1) 0 (A k) (f i) (f j)) := by
          rw [← nar_map fz f0]
          refine hR.nar c2 h0 ?_
          show ble (some 1) (badd (D' (f 0) (f (cc k + 1))) (A k))
          rw [f0, fz]; exact y1
        obtain ⟨n3, n4⟩ := narrow_25 (R := 100000000) h0 c2 (by omega) hO1.clo (hO1.rge (by omega) (by omega)) rB c4 hg1
        by_cases y2 : ble (some 1) (badd (nar D' (cc k + 1) 0 (A k) (cc k + 1) 0) (B k))
        · obtain ⟨g2, e2, hg2⟩ := n3 y2
          have hO2 := hO1.low c2 h0 (fun v e => (c6 v e).1) y2
          refine Or.inl ⟨(g2, k + 1), by simp only [sp_E_0_narrowTo_25_L1, slet, hm, if_neg ce, c1, if_neg cb, e1, e2, if_neg (show ¬ 1 = 0 by omega)], ⟨g2, k + 1, _, rfl, by omega, hg2, hO2.wide (by omega) (by omega), ?_⟩, by show m - (k + 1) < m - k; omega⟩
          show GRE n (tgt (tgt (tgs cc A B M k) (cc k + 1) 0 (A k)) 0 (cc k + 1) (B k)) _
          rw [← nar_map f0 fz]
          refine hR1.nar h0 c2 ?_
          show ble (some 1) (badd (nar D' (cc k + 1) 0 (A k) (f (cc k + 1)) (f 0)) (B k))
          rw [f0, fz]; exact y2
        · obtain ⟨g2, e2⟩ := n4 y2
          refine Or.inr ⟨(0, g2), by simp only [sp_E_0_narrowTo_25_L1, slet, hm, if_neg ce, c1, if_neg cb, e1, e2, if_neg (show ¬ 1 = 0 by omega), if_pos], Or.inr ⟨g2, rfl, noB (hR1.no h0 c2 ?_)⟩⟩
          show ¬ ble (some 1) (badd (nar D' (cc k + 1) 0 (A k) (f (cc k + 1)) (f 0)) (B k))
          rw [f0, fz]; exact y2
      · obtain ⟨g1, e1⟩ := n2 y1
        refine Or.inr ⟨(0, g1), by simp only [sp_E_0_narrowTo_25_L1, slet, hm, if_neg ce, c1, if_neg cb, e1, if_pos], Or.inr ⟨g1, rfl, noA (hR.no c2 h0 ?_)⟩⟩
        show ¬ ble (some 1) (badd (D' (f 0) (f (cc k + 1))) (A k))
        rw [f0, fz]; exact y1
/-- a bound as the reference has it -/
def RFC (x : Int32) (a : Option Int) : Prop := (a = none ∧ x = 1048576) ∨ ∃ v, a = some v ∧ x.toInt = v ∧ v < 1048576
theorem open32 : (1048576 : Int32).toInt = 1048576 := by decide
theorem RFC.yes {x : Int32} {a : Option Int} (h : RFC x a) {v : Int} (e : a = some v) : x.toInt = v ∧ v < 1048576 := by
  rcases h with ⟨h1, h2⟩ | ⟨w, h1, h2, h3⟩
  · exact absurd (h1.symm.trans e) (by simp)
  · have : w = v := Option.some.inj (h1.symm.trans e)
    subst this
    exact ⟨h2, h3⟩
theorem RFC.open_iff {x : Int32} {a : Option Int} (h : RFC x a) : (1048576 : Int32) ≤ x ↔ a = none := by
  rcases h with ⟨h1, h2⟩ | ⟨v, h1, h2, h3⟩
  · rw [h2]; exact ⟨fun _ => h1, fun _ => Int32.le_refl _⟩
  · rw [Int32.le_iff_toInt_le, open32, h2, h1]
    exact ⟨fun z => absurd z (by omega), fun z => absurd z (by simp)⟩
theorem RFC.le {x y : Int32} {a b : Option Int} (h : RFC x a) (g : RFC y b) : x ≤ y ↔ ble a b := by
  rw [Int32.le_iff_toInt_le]
  rcases h with ⟨h1, h2⟩ | ⟨v, h1, h2, h3⟩
  · rcases g with ⟨g1, g2⟩ | ⟨w, g1, g2, g3⟩
    · rw [h1, g1, h2, g2]; exact ⟨fun _ => trivial, fun _ => Int.le_refl _⟩
    · rw [h1, g1, h2, g2, open32]; exact ⟨fun z => absurd z (by omega), fun z => absurd z (fun z => z)⟩
  · rcases g with ⟨g1, g2⟩ | ⟨w, g1, g2, g3⟩
    · rw [h1, g1, h2, g2, open32]; exact ⟨fun _ => trivial, fun _ => by omega⟩
    · rw [h1, g1, h2, g2]; exact Iff.rfl
theorem RFC.lesser {x y : Int32} {a b : Option Int} (h : RFC x a) (g : RFC y b) : RFC (sp_EM_lesser x y) (bmin a b) := by
  by_cases c : y ≤ x
  · have e : bmin a b = b := ble_anti (bmin_r a b) (le_bmin ((g.le h).mp c) (ble_refl b))
    rw [e, show sp_EM_lesser x y = y by simp only [sp_EM_lesser, if_pos c]]; exact g
  · have e : bmin a b = a := by
      rcases bmin_or a b with z | z
      · exact z
      · have := bmin_l a b
        rw [z] at this
        exact absurd ((g.le h).mpr this) c
    rw [e, show sp_EM_lesser x y = x by simp only [sp_EM_lesser, if_neg c]]; exact h
theorem RFC.together {x y : Int32} {a b : Option Int} (h : RFC x a) (g : RFC y b) (ha : ∀ v, a = some v → -536870000 ≤ v) (hb : ∀ v, b = some v → -536870000 ≤ v) (hs : ∀ v, badd a b = some v → v < 1048576) : RFC (sp_EM_together x y) (badd a b) := by
  by_cases c : (1048576 : Int32) ≤ x
  · rw [h.open_iff.mp c, badd_none_l, show sp_EM_together x y = 1048576 by simp only [sp_EM_together, if_pos c]]
    exact Or.inl ⟨rfl, rfl⟩
  · by_cases c2 : y < 1048576
    · have na : ¬ a = none := fun z => c (h.open_iff.mpr z)
      have nb : ¬ b = none := fun z => Int32.not_le.mpr c2 (g.open_iff.mpr z)
      obtain ⟨v, ev⟩ := Option.ne_none_iff_exists'.mp na
      obtain ⟨w, ew⟩ := Option.ne_none_iff_exists'.mp nb
      obtain ⟨x1, x2⟩ := h.yes ev
      obtain ⟨y1, y2⟩ := g.yes ew
      have := ha v ev
      have := hb w ew
      have es := plus32 (x := x) (y := y) (by omega) (by omega) (by omega) (by omega)
      have eb : badd a b = some (plus v w) := by rw [ev, ew]; rfl
      have := hs _ eb
      rw [eb, show sp_EM_together x y = x + y - ((x ||| y) &&& (1 : Int32)) by simp only [sp_EM_together, slet, if_neg c, if_pos c2]]
      exact Or.inr ⟨_, rfl, by rw [es, x1, y1], this⟩
    · have nb : b = none := g.open_iff.mp (Int32.not_lt.mp c2)
      rw [nb, badd_none_r, show sp_EM_together x y = 1048576 by simp only [sp_EM_together, slet, if_neg c, if_neg c2]]
      exact Or.inl ⟨rfl, rfl⟩
def RB (n : Nat) (l u : Int) (D : Nat → Nat → Option Int) : Prop := ∀ p q, p < n → q < n → ∀ v, D p q = some v → -l ≤ v ∧ v ≤ u
/-- the ranges while turn k goes on, at (i, j) -/
def TRN (n k : Nat) (l u : Int) (i j : Nat) (S : Nat → Nat → Option Int) : Prop := ∀ p q, p < n → q < n → ∀ v, S p q = some v → ((i < p ∨ (p = i ∧ j ≤ q)) → -l ≤ v) ∧ (p = k → q = k → -(2 * l + 1) ≤ v) ∧ (p = k ∨ q = k → -(3 * l + 2) ≤ v ∧ v ≤ u) ∧ -(6 * l + 5) ≤ v ∧ v ≤ 2 * u
theorem pl_lo {x y a b : Int} (hx : a ≤ x) (hy : b ≤ y) : a + b - 1 ≤ plus x y := by
  rcases plus_c x y with z | z <;> omega
theorem pl_hi {x y a b : Int} (hx : x ≤ a) (hy : y ≤ b) : plus x y ≤ a + b := by
  rcases plus_c x y with z | z <;> omega
theorem TRN.step {n k i j : Nat} {l u : Int} {S : Nat → Nat → Option Int} (h : TRN n k l u i j S) (hk : k < n) : TRN n k l u i (j + 1) (via S k i j) := by
  intro p q hp hq v e
  have e1 : (if p = i ∧ q = j then bmin (S i j) (badd (S i k) (S k j)) else S p q) = some v := e
  by_cases c : p = i ∧ q = j
  · rw [if_pos c] at e1
    obtain ⟨rfl, rfl⟩ := c
    have key : ¬ (p < p ∨ (p = p ∧ q + 1 ≤ q)) := by omega
    rcases bmin_or (S p q) (badd (S p k) (S k q)) with z | z
    · rw [z] at e1
      exact ⟨fun w => absurd w key, (h p q hp hq v e1).2⟩
    · have lv := bmin_l (S p q) (badd (S p k) (S k q))
      rw [e1] at lv
      rw [z] at e1
      obtain ⟨x, y, ex, ey, rv⟩ := badd_yes e1
      obtain ⟨x1, x2, x3, -⟩ := h p k hp hk x ex
      obtain ⟨y1, y2, y3, -⟩ := h k q hk hq y ey
      have xk := x3 (Or.inr rfl)
      have yk := y3 (Or.inl rfl)
      refine ⟨fun w => absurd w key, ?_, ?_, ?_⟩
      · intro e2 e3
        subst e2
        subst e3
        have b1 := pl_lo (x1 (Or.inr ⟨rfl, Nat.le_refl _⟩)) (y1 (Or.inr ⟨rfl, Nat.le_refl _⟩))
        clear x1 x2 x3 y1 y2 y3 xk yk
        omega
      · intro w
        rcases w with w | w
        · subst w
          have b1 := pl_lo (x2 rfl rfl) (y1 (Or.inr ⟨rfl, Nat.le_refl _⟩))
          rw [ey] at lv
          have lv : v ≤ y := lv
          clear x1 x2 x3 y1 y2 y3
          omega
        · subst w
          have b1 := pl_lo (x1 (Or.inr ⟨rfl, Nat.le_refl _⟩)) (y2 rfl rfl)
          rw [ex] at lv
          have lv : v ≤ x := lv
          clear x1 x2 x3 y1 y2 y3
          omega
      · have b1 := pl_lo xk.1 yk.1
        have b2 := pl_hi xk.2 yk.2
        clear x1 x2 x3 y1 y2 y3
        omega
  · rw [if_neg c] at e1
    have key : i < p ∨ (p = i ∧ j + 1 ≤ q) → i < p ∨ (p = i ∧ j ≤ q) := by omega
    obtain ⟨o1, o2⟩ := h p q hp hq v e1
    exact ⟨fun w => o1 (key w), o2⟩
theorem TRN.row {n k i : Nat} {l u : Int} {S : Nat → Nat → Option Int} (h : TRN n k l u i n S) : TRN n k l u (i + 1) 0 S := by
  intro p q hp hq v e
  have key : i + 1 < p ∨ (p = i + 1 ∧ 0 ≤ q) → i < p ∨ (p = i ∧ n ≤ q) := by omega
  obtain ⟨o1, o2⟩ := h p q hp hq v e
  exact ⟨fun w => o1 (key w), o2⟩
theorem TRN.go {n k : Nat} {l u : Int} {S : Nat → Nat → Option Int} (hl : 0 ≤ l) (hu : 0 ≤ u) (h : RB n l u S) : TRN n k l u 0 0 S := by
  intro p q hp hq v e
  have o := h p q hp hq v e
  exact ⟨fun _ => o.1, fun _ _ => by omega, fun _ => by omega, by omega, by omega⟩
theorem TRN.done {n k i j : Nat} {l u : Int} {S : Nat → Nat → Option Int} (h : TRN n k l u i j S) : RB n (6 * l + 5) (2 * u) S := fun p q hp hq v e => (h p q hp hq v e).2.2.2
def ZR (n : Nat) (f : Nat → Int32) (D : Nat → Nat → Option Int) : Prop := ∀ i j, i < n → j < n → RFC (f (5 * i + j)) (D i j)
theorem clJ {n k i : Nat} (hn : n ≤ 5) (hk : k < n) (hi : i < n) {l u : Int} (hl : 3 * l + 2 ≤ 536870000) (hu : 2 * u < 1048576) {R : Nat → Nat → Option Int} {f : Nat → Int32} (hf : ZR n f R) (hT : TRN n k l u i 0 R) : ∃ g, itrv (Sum.inr (Sum.inr default)) (sp_EM_closes_z_L2 n k i) (f, 0) = .inl (g, i + 1) ∧ ZR n g (fwJ k i R n) ∧ TRN n k l u i n (fwJ k i R n) := by
  refine itrv_inv (d := Sum.inr (Sum.inr default)) (f := sp_EM_closes_z_L2 n k i) (fun t => ∃ g j, t = (g, j) ∧ j ≤ n ∧ ZR n g (fwJ k i R j) ∧ TRN n k l u i j (fwJ k i R j)) (fun r => ∃ g, r = .inl (g, i + 1) ∧ ZR n g (fwJ k i R n) ∧ TRN n k l u i n (fwJ k i R n)) (fun t => n - t.2) ?_ n (f, 0) (Nat.sub_le _ _) ⟨f, 0, rfl, Nat.zero_le _, hf, hT⟩
  rintro _ ⟨g, j, rfl, hj, hg, hS⟩
  by_cases ce : n ≤ j
  · have ej : j = n := by omega
    subst ej
    exact Or.inr ⟨.inl (g, i + 1), by simp only [sp_EM_closes_z_L2, if_pos ce], g, rfl, hg, hS⟩
  · have hj2 : j < n := by omega
    have xk : ∀ v, fwJ k i R j i k = some v → -(3 * l + 2) ≤ v ∧ v ≤ u := fun v e => (hS i k hi hk v e).2.2.1 (Or.inr rfl)
    have yk : ∀ v, fwJ k i R j k j = some v → -(3 * l + 2) ≤ v ∧ v ≤ u := fun v e => (hS k j hk hj2 v e).2.2.1 (Or.inl rfl)
    have t1 : RFC (sp_EM_together (g (5 * i + k)) (g (5 * k + j))) (badd (fwJ k i R j i k) (fwJ k i R j k j)) := by
      refine (hg i k hi hk).together (hg k j hk hj2) (fun v e => by have := xk v e; omega) (fun v e => by have := yk v e; omega) (fun v e => ?_)
      obtain ⟨x, y, ex, ey, rv⟩ := badd_yes e
      have := xk x ex
      have := yk y ey
      have := plus_c x y
      omega
    have t2 := (hg i j hi hj2).lesser t1
    refine Or.inl ⟨(upd g (5 * i + j) (sp_EM_lesser (g (5 * i + j)) (sp_EM_together (g (5 * i + k)) (g (5 * k + j)))), j + 1), by simp only [sp_EM_closes_z_L2, slet, if_neg ce], ⟨_, j + 1, rfl, by omega, ?_, hS.step hk⟩, by show n - (j + 1) < n - j; omega⟩
    intro p q hp hq
    show RFC _ (if p = i ∧ q = j then bmin (fwJ k i R j i j) (badd (fwJ k i R j i k) (fwJ k i R j k j)) else fwJ k i R j p q)
    by_cases c : p = i ∧ q = j
    · rw [if_pos c]
      obtain ⟨rfl, rfl⟩ := c
      rw [upd_s]; exact t2
    · rw [if_neg c, upd_n (show 5 * p + q ≠ 5 * i + j by omega)]
      exact hg p q hp hq
theorem clI {n k : Nat} (hn : n ≤ 5) (hk : k < n) {l u : Int} (h0 : 0 ≤ l) (h1 : 0 ≤ u) (hl : 3 * l + 2 ≤ 536870000) (hu : 2 * u < 1048576) {R : Nat → Nat → Option Int} {f : Nat → Int32} (hf : ZR n f R) (hR : RB n l u R) : ∃ g, itrv (Sum.inr default) (sp_EM_closes_z_L3 n k) (f, 0) = .inl (g, k + 1) ∧ ZR n g (fwI n k R n) ∧ RB n (6 * l + 5) (2 * u) (fwI n k R n) := by
  refine itrv_inv (d := Sum.inr default) (f := sp_EM_closes_z_L3 n k) (fun t => ∃ g i, t = (g, i) ∧ i ≤ n ∧ ZR n g (fwI n k R i) ∧ TRN n k l u i 0 (fwI n k R i)) (fun r => ∃ g, r = .inl (g, k + 1) ∧ ZR n g (fwI n k R n) ∧ RB n (6 * l + 5) (2 * u) (fwI n k R n)) (fun t => n - t.2) ?_ n (f, 0) (Nat.sub_le _ _) ⟨f, 0, rfl, Nat.zero_le _, hf, TRN.go h0 h1 hR⟩
  rintro _ ⟨g, i, rfl, hi, hg, hS⟩
  by_cases ce : n ≤ i
  · have ei : i = n := by omega
    subst ei
    exact Or.inr ⟨.inl (g, k + 1), by simp only [sp_EM_closes_z_L3, if_pos ce], g, rfl, hg, hS.done⟩
  · obtain ⟨g', eg, hg', hS'⟩ := clJ hn hk (show i < n by omega) hl hu hg hS
    exact Or.inl ⟨(g', i + 1), by simp only [sp_EM_closes_z_L3, if_neg ce, eg], ⟨g', i + 1, rfl, by omega, hg', hS'.row⟩, by show n - (i + 1) < n - i; omega⟩
def lw (l : Int) : Nat → Int
  | 0 => l
  | k + 1 => 6 * lw l k + 5
def uw (u : Int) : Nat → Int
  | 0 => u
  | k + 1 => 2 * uw u k
theorem lw_le {n : Nat} {l : Int} (h0 : 0 ≤ l) (h : (n ≤ 4 ∧ l ≤ 400000) ∨ (n ≤ 5 ∧ l ≤ 60000)) {k : Nat} (hk : k ≤ n) : 0 ≤ lw l k ∧ lw l k ≤ 536870000 := by
  have e0 : lw l 0 = l := rfl
  have e1 : lw l 1 = 6 * lw l 0 + 5 := rfl
  have e2 : lw l 2 = 6 * lw l 1 + 5 := rfl
  have e3 : lw l 3 = 6 * lw l 2 + 5 := rfl
  have e4 : lw l 4 = 6 * lw l 3 + 5 := rfl
  have e5 : lw l 5 = 6 * lw l 4 + 5 := rfl
  rcases h with h | h <;> rcases (show k = 0 ∨ k = 1 ∨ k = 2 ∨ k = 3 ∨ k = 4 ∨ (k = 5 ∧ n = 5) by omega) with e | e | e | e | e | ⟨e, e'⟩ <;> subst e <;> omega
theorem uw_le {u : Int} (h0 : 0 ≤ u) (h : u ≤ 32000) {k : Nat} (hk : k ≤ 5) : 0 ≤ uw u k ∧ uw u k < 1048576 := by
  have e0 : uw u 0 = u := rfl
  have e1 : uw u 1 = 2 * uw u 0 := rfl
  have e2 : uw u 2 = 2 * uw u 1 := rfl
  have e3 : uw u 3 = 2 * uw u 2 := rfl
  have e4 : uw u 4 = 2 * uw u 3 := rfl
  have e5 : uw u 5 = 2 * uw u 4 := rfl
  rcases (show k = 0 ∨ k = 1 ∨ k = 2 ∨ k = 3 ∨ k = 4 ∨ k = 5 by omega) with e | e | e | e | e | e <;> subst e <;> omega
theorem clD {n : Nat} {f : Nat → Int32} {D : Nat → Nat → Option Int} (hf : ZR n f D) : ((∀ i, i < n → ble (some 1) (D i i)) ∧ itrv default (sp_EM_closes_z_L1 n f) 0 = (1, f)) ∨ ((¬ ∀ i, i < n → ble (some 1) (D i i)) ∧ itrv default (sp_EM_closes_z_L1 n f) 0 = (0, f)) := by
  have E1 : RFC (1 : Int32) (some 1) := Or.inr ⟨1, rfl, by decide, by decide⟩
  refine itrv_inv (d := default) (f := sp_EM_closes_z_L1 n f) (fun k => k ≤ n ∧ ∀ i, i < k → ble (some 1) (D i i)) (fun r => ((∀ i, i < n → ble (some 1) (D i i)) ∧ r = (1, f)) ∨ ((¬ ∀ i, i < n → ble (some 1) (D i i)) ∧ r = (0, f))) (fun k => n - k) ?_ n 0 (Nat.sub_le _ _) ⟨Nat.zero_le _, fun i hi => absurd hi (by omega)⟩
  rintro k ⟨hk, hI⟩
  by_cases ce : n ≤ k
  · exact Or.inr ⟨(1, f), by simp only [sp_EM_closes_z_L1, if_pos ce], Or.inl ⟨fun i hi => hI i (by omega), rfl⟩⟩
  · have hk2 : k < n := by omega
    by_cases c : (1 : Int32) ≤ f (5 * k + k)
    · refine Or.inl ⟨k + 1, by simp only [sp_EM_closes_z_L1, slet, if_neg ce, if_pos c], ⟨by omega, fun i hi => ?_⟩, by show n - (k + 1) < n - k; omega⟩
      by_cases e : i = k
      · subst e; exact (E1.le (hf i i hk2 hk2)).mp c
      · exact hI i (by omega)
    · exact Or.inr ⟨(0, f), by simp only [sp_EM_closes_z_L1, slet, if_neg ce, if_neg c], Or.inr ⟨fun z => c ((E1.le (hf k k hk2 hk2)).mpr (z k hk2)), rfl⟩⟩
/-- closes of the reference -/
theorem closes_z {n : Nat} (hn : n ≤ 5) {l u : Int} (h0 : 0 ≤ l) (h1 : 0 ≤ u) (hl : (n ≤ 4 ∧ l ≤ 400000) ∨ (n ≤ 5 ∧ l ≤ 60000)) (hu : u ≤ 32000) {M : Nat → Nat → Option Int} {f : Nat → Int32} (hf : ZR n f M) (hR : RB n l u M) : ∃ g, ZR n g (fwK n M n) ∧ RB n (lw l n) (uw u n) (fwK n M n) ∧ (((∀ i, i < n → ble (some 1) (fwK n M n i i)) ∧ sp_EM_closes_z n f = (1, g)) ∨ ((¬ ∀ i, i < n → ble (some 1) (fwK n M n i i)) ∧ sp_EM_closes_z n f = (0, g))) := by
  refine itrv_inv (d := default) (f := sp_EM_closes_z_L4 n) (fun t => ∃ g k, t = (g, k) ∧ k ≤ n ∧ ZR n g (fwK n M k) ∧ RB n (lw l k) (uw u k) (fwK n M k)) (fun r => ∃ g, ZR n g (fwK n M n) ∧ RB n (lw l n) (uw u n) (fwK n M n) ∧ (((∀ i, i < n → ble (some 1) (fwK n M n i i)) ∧ r = (1, g)) ∨ ((¬ ∀ i, i < n → ble (some 1) (fwK n M n i i)) ∧ r = (0, g)))) (fun t => n - t.2) ?_ n (f, 0) (Nat.sub_le _ _) ⟨f, 0, rfl, Nat.zero_le _, hf, hR⟩
  rintro _ ⟨g, k, rfl, hk, hg, hS⟩
  by_cases ce : n ≤ k
  · have ek : k = n := by omega
    subst ek
    exact Or.inr ⟨itrv default (sp_EM_closes_z_L1 k g) 0, by simp only [sp_EM_closes_z_L4, if_pos ce], g, hg, hS, clD hg⟩
  · have l1 := lw_le h0 hl (show k + 1 ≤ n by omega)
    have u1 := uw_le h1 hu (show k + 1 ≤ 5 by omega)
    have l2 := lw_le h0 hl (show k ≤ n by omega)
    have u2 := uw_le h1 hu (show k ≤ 5 by omega)
    have el : lw l (k + 1) = 6 * lw l k + 5 := rfl
    have eu : uw u (k + 1) = 2 * uw u k := rfl
    obtain ⟨g', eg, hg', hS'⟩ := clI hn (show k < n by omega) l2.1 u2.1 (by omega) (by omega) hg hS
    exact Or.inl ⟨(g', k + 1), by simp only [sp_EM_closes_z_L4, if_neg ce, eg], ⟨g', k + 1, rfl, by omega, hg', hS'⟩, by show n - (k + 1) < n - k; omega⟩
