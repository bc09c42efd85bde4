/-- all greatest numbers are small -/
theorem lmI_rg {q9 : Nat → Nat} {f10 f11 : Nat → Int32} {c w h n : Nat} (hf : ∀ k, k < n → ∃ v, v ≤ 20 ∧ f11 (h * 4 + k) = nI v) {a : Int32} (ha : ∃ v, v ≤ 20 ∧ a = nI v) : ∀ k, k ≤ n → ∃ v, v ≤ 20 ∧ lmI q9 f10 f11 c w h a k = nI v := by
  intro k
  induction k with
  | zero => exact fun _ => ha
  | succ k ih =>
    intro hk
    obtain ⟨v, hv, ev⟩ := ih (by omega)
    obtain ⟨u, hu, eu⟩ := hf k (by omega)
    show ∃ v, v ≤ 20 ∧ lmS q9 f10 f11 c w (h * 4 + k) (lmI q9 f10 f11 c w h a k) = nI v
    unfold lmS
    rw [ev, eu]
    have A : ∃ x, x ≤ 20 ∧ (nI v : Int32) = nI x := ⟨v, hv, rfl⟩
    have B : ∃ x, x ≤ 20 ∧ (if (nI v : Int32) < nI u then nI u else nI v : Int32) = nI x := by
      by_cases c : (nI v : Int32) < nI u
      · rw [if_pos c]; exact ⟨u, hu, rfl⟩
      · rw [if_neg c]; exact A
    by_cases c1 : min (q9 (h * 4 + k)) 2 = c
    · rw [if_pos c1]
      by_cases c2 : w = 0
      · rw [if_pos c2]; exact B
      · rw [if_neg c2]
        by_cases c3 : w = 1
        · rw [if_pos c3]
          by_cases c4 : f10 (h * 4 + k) < 2
          · rw [if_pos c4]; exact A
          · rw [if_neg c4]; exact B
        · rw [if_neg c3]
          by_cases c4 : 2 < f10 (h * 4 + k)
          · rw [if_pos c4]; exact A
          · rw [if_neg c4]; exact B
    · rw [if_neg c1]; exact A
theorem lmH_rg {nc np ne : Nat} {f4 : Nat → Int32} {q8 q9 : Nat → Nat} {f10 f11 f12 f13 : Nat → Int32} (w : WFm nc np ne f4 q8 q9 f10 f11 f12 f13) (c d : Nat) : ∀ h, h ≤ 22 → ∃ v, v ≤ 20 ∧ lmH q8 q9 f10 f11 c d h = nI v := by
  intro h
  induction h with
  | zero => exact fun _ => ⟨0, by omega, rfl⟩
  | succ h ih =>
    intro hh
    obtain ⟨w1, w2⟩ := w.1 h (by omega)
    refine lmI_rg (n := min (q8 h) 4) (fun k hk => ?_) (ih (by omega)) _ (Nat.le_refl _)
    obtain ⟨⟨hw, v, v1, v2, v3, v4, v5, v6⟩, w3⟩ := w2 k (by omega)
    exact ⟨v, v2, v4⟩
/-- at 0 no greatest number -/
theorem meas_01 {q8 q9 : Nat → Nat} {f10 f11 : Nat → Int32} (h : Nat) {a b c : Nat → Int32} (h0 : a 0 = 0 ∧ b 0 = 0 ∧ c 0 = 0) : ∃ x y z, itrv (Sum.inr default) (sp_E_0_measure_L1 q8 q9 f10 f11 h) (a, b, c, 0) = .inl (x, y, z, h + 1) ∧ x 0 = 0 ∧ y 0 = 0 ∧ z 0 = 0 := by
  refine itrv_inv (d := Sum.inr default) (f := sp_E_0_measure_L1 q8 q9 f10 f11 h) (fun t => ∃ x y z k, t = (x, y, z, k) ∧ x 0 = 0 ∧ y 0 = 0 ∧ z 0 = 0) (fun r => ∃ x y z, r = .inl (x, y, z, h + 1) ∧ x 0 = 0 ∧ y 0 = 0 ∧ z 0 = 0) (fun (_, _, _, k) => min (q8 h) 4 - k) ?_ _ (a, b, c, 0) (Nat.le_refl _) ⟨a, b, c, 0, rfl, h0⟩
  rintro _ ⟨x, y, z, k, rfl, x0, y0, z0⟩
  by_cases ce : min (q8 h) 4 ≤ k
  · exact Or.inr ⟨.inl (x, y, z, h + 1), by simp only [sp_E_0_measure_L1, slet, if_pos ce], x, y, z, rfl, x0, y0, z0⟩
  · have n0 : ∀ u : Nat, 0 ≠ u + 1 := fun u => by omega
    have ms : min (q8 h) 4 - (k + 1) < min (q8 h) 4 - k := by omega
    refine Or.inl ⟨_, by simp only [sp_E_0_measure_L1, slet, if_neg ce]; exact rfl, ⟨_, _, _, _, rfl, ?_, ?_, ?_⟩, ms⟩
    · rw [upd_n (n0 _)]; exact x0
    · by_cases c : f10 (h * 4 + k) < 2
      · rw [if_pos c]; exact y0
      · rw [if_neg c, upd_n (n0 _)]; exact y0
    · by_cases c : 2 < f10 (h * 4 + k)
      · rw [if_pos c]; exact z0
      · rw [if_neg c, upd_n (n0 _)]; exact z0
theorem meas_0 {q8 q9 : Nat → Nat} {f10 f11 a b c x y z : Nat → Int32} (e : (x, y, z) = sp_E_0_measure q8 q9 f10 f11 a b c) : x 0 = 0 ∧ y 0 = 0 ∧ z 0 = 0 := by
  have m2 : ∀ a b c : Nat → Int32, (a 0 = 0 ∧ b 0 = 0 ∧ c 0 = 0) → ∃ x y z, itrv default (sp_E_0_measure_L2 q8 q9 f10 f11) (a, b, c, 0) = (x, y, z) ∧ x 0 = 0 ∧ y 0 = 0 ∧ z 0 = 0 := by
    intro a b c h0
    refine itrv_inv (d := default) (f := sp_E_0_measure_L2 q8 q9 f10 f11) (fun t => ∃ x y z k, t = (x, y, z, k) ∧ x 0 = 0 ∧ y 0 = 0 ∧ z 0 = 0) (fun r => ∃ x y z, r = (x, y, z) ∧ x 0 = 0 ∧ y 0 = 0 ∧ z 0 = 0) (fun (_, _, _, k) => 22 - k) ?_ _ (a, b, c, 0) (Nat.le_refl _) ⟨a, b, c, 0, rfl, h0⟩
    rintro _ ⟨x, y, z, k, rfl, h1⟩
    by_cases ce : 22 ≤ k
    · exact Or.inr ⟨(x, y, z), by simp only [sp_E_0_measure_L2, if_pos ce], x, y, z, rfl, h1⟩
    · obtain ⟨x', y', z', e1, h2⟩ := meas_01 (q8 := q8) (q9 := q9) (f10 := f10) (f11 := f11) k h1
      exact Or.inl ⟨(x', y', z', k + 1), by simp only [sp_E_0_measure_L2, if_neg ce, e1], ⟨x', y', z', k + 1, rfl, h2⟩, by show 22 - (k + 1) < 22 - k; omega⟩
  have m3 : ∃ x y z, sp_E_0_measure q8 q9 f10 f11 a b c = (x, y, z) ∧ x 0 = 0 ∧ y 0 = 0 ∧ z 0 = 0 := by
    refine itrv_inv (d := default) (f := sp_E_0_measure_L3 q8 q9 f10 f11) (fun t => ∃ x y z k, t = (x, y, z, k) ∧ (0 < k → x 0 = 0 ∧ y 0 = 0 ∧ z 0 = 0)) (fun r => ∃ x y z, r = (x, y, z) ∧ x 0 = 0 ∧ y 0 = 0 ∧ z 0 = 0) (fun (_, _, _, k) => 4 - k) ?_ _ (a, b, c, 0) (Nat.le_refl _) ⟨a, b, c, 0, rfl, fun h => absurd h (Nat.lt_irrefl 0)⟩
    rintro _ ⟨x, y, z, k, rfl, h1⟩
    by_cases ce : 3 < k
    · obtain ⟨x', y', z', e1, h2⟩ := m2 x y z (h1 (by omega))
      exact Or.inr ⟨(x', y', z'), by simp only [sp_E_0_measure_L3, if_pos ce, e1], x', y', z', rfl, h2⟩
    · refine Or.inl ⟨(upd x k 0, upd y k 0, upd z k 0, k + 1), by simp only [sp_E_0_measure_L3, slet, if_neg ce], ⟨_, _, _, _, rfl, fun _ => ?_⟩, by show 4 - (k + 1) < 4 - k; omega⟩
      by_cases c : 0 = k
      · subst c
        exact ⟨upd_s, upd_s, upd_s⟩
      · rw [upd_n c, upd_n c, upd_n c]
        exact h1 (by omega)
  obtain ⟨x', y', z', e1, h1⟩ := m3
  rw [e1] at e
  simp only [Prod.mk.injEq] at e
  obtain ⟨rfl, rfl, rfl⟩ := e
  exact h1
/-- what is forgotten beyond, by the way -/
def HV (q8 q9 : Nat → Nat) (f10 f11 : Nat → Int32) (nc : Nat) (wy : Int32) (j : Nat) : Int32 := if j = 0 ∨ nc < j then 0 else lmH q8 q9 f10 f11 (j - 1) (if wy = 1 then 0 else 1) 22
def LV (q8 q9 : Nat → Nat) (f10 f11 : Nat → Int32) (nc : Nat) (wy : Int32) (j : Nat) : Int32 := if j = 0 then 0 else if nc < j then 60 else lmH q8 q9 f10 f11 (j - 1) (if wy = 1 then 0 else 2) 22
theorem forg_z {b nc np ne : Nat} {st0 : Int32} {f4 : Nat → Int32} {q5 q6 : Nat → Nat} {f7 : Nat → Int32} {q8 q9 : Nat → Nat} {f10 f11 : Nat → Int32} {f3 : Nat → Int32} {r4 r5 r6 r7 : Nat → Nat} {f8 : Nat → Int32} {r9 r10 : Nat → Nat} {r11 : Nat → Int32} {m12_0 m12_1 m13_0 m13_1 m14_0 m14_1 m15_0 m15_1 : Nat} (h : MB b nc np ne st0 f4 q5 q6 f7 q8 q9 f10 f11 f3 r4 r5 r6 r7 f8 r9 r10 r11 (bkN b m12_0 m12_1) (bkN b m13_0 m13_1) (bkN b m14_0 m14_1) (bkN b m15_0 m15_1)) (hb : b ≤ 1) (hu : ∀ i, i < np → ∀ j, j < q8 (14 + i) → r10 (80 * b + 56 + 3 * i + j) ≤ 1) (wy : Int32) (f47 f48 : Nat → Int32) : ∃ x y, sp_EM_layForgotten b r4 r7 r9 r10 r11 m12_0 m12_1 m13_0 m13_1 m14_0 m14_1 f47 f48 wy = (x, y) ∧ ∀ j, j < 5 → x j = HV q8 q9 f10 f11 nc wy j ∧ y j = LV q8 q9 f10 f11 nc wy j := by
  have ec : sp_EM_clocks b m12_0 m12_1 = nc := h.1.1
  have hc3 := h.1.2.1
  refine itrv_inv (d := default) (f := sp_EM_layForgotten_L1 b r4 r7 r9 r10 r11 m12_0 m12_1 m13_0 m13_1 m14_0 m14_1 wy) (fun t => ∃ x y k, t = (x, y, k) ∧ k ≤ 5 ∧ ∀ j, j < k → x j = HV q8 q9 f10 f11 nc wy j ∧ y j = LV q8 q9 f10 f11 nc wy j) (fun r => ∃ x y, r = (x, y) ∧ ∀ j, j < 5 → x j = HV q8 q9 f10 f11 nc wy j ∧ y j = LV q8 q9 f10 f11 nc wy j) (fun (_, _, k) => 5 - k) ?_ _ (f47, f48, 0) (Nat.le_refl _) ⟨f47, f48, 0, rfl, Nat.zero_le _, fun j hj => absurd hj (Nat.not_lt_zero j)⟩
  rintro _ ⟨x, y, k, rfl, hk, hI⟩
  by_cases ce : 5 ≤ k
  · exact Or.inr ⟨(x, y), by simp only [sp_EM_layForgotten_L1, if_pos ce], x, y, rfl, fun j hj => hI j (by omega)⟩
  · have ms : 5 - (k + 1) < 5 - k := by omega
    have fin : ∀ u v, u = HV q8 q9 f10 f11 nc wy k → v = LV q8 q9 f10 f11 nc wy k → ∀ j, j < k + 1 → upd x k u j = HV q8 q9 f10 f11 nc wy j ∧ upd y k v j = LV q8 q9 f10 f11 nc wy j := by
      intro u v eu ev j hj
      by_cases c : j = k
      · rw [c, upd_s, upd_s]; exact ⟨eu, ev⟩
      · rw [upd_n c, upd_n c]; exact hI j (by omega)
    by_cases c0 : k ≤ 0
    · refine Or.inl ⟨(upd x k 0, upd y k 0, k + 1), by simp only [sp_EM_layForgotten_L1, slet, if_neg ce, if_pos c0, ec, if_pos (show k ≤ nc by omega), if_pos], ⟨_, _, _, rfl, by omega, fin _ _ ?_ ?_⟩, ms⟩
      · unfold HV; rw [if_pos (show k = 0 ∨ nc < k by omega)]
      · unfold LV; rw [if_pos (show k = 0 by omega)]
    · by_cases c1 : nc < k
      · refine Or.inl ⟨(upd x k 0, upd y k 60, k + 1), by simp only [sp_EM_layForgotten_L1, slet, if_neg ce, if_neg c0, ec, if_pos c1, if_neg (show ¬ k ≤ nc by omega), if_pos], ⟨_, _, _, rfl, by omega, fin _ _ ?_ ?_⟩, ms⟩
        · unfold HV; rw [if_pos (show k = 0 ∨ nc < k by omega)]
        · unfold LV; rw [if_neg (show ¬ k = 0 by omega), if_pos c1]
      · have ek : (nI k : Int32) - 1 = nI (k - 1) := pk_sub (a := k) (b := 1) (by omega)
        have e1 := most_eq h hb hu (c := k - 1) (w := if wy = 1 then 0 else 1) (by omega) (by split <;> omega)
        have e2 := most_eq h hb hu (c := k - 1) (w := if wy = 1 then 0 else 2) (by omega) (by split <;> omega)
        refine Or.inl ⟨(upd x k (lmH q8 q9 f10 f11 (k - 1) (if wy = 1 then 0 else 1) 22), upd y k (lmH q8 q9 f10 f11 (k - 1) (if wy = 1 then 0 else 2) 22), k + 1), by simp only [sp_EM_layForgotten_L1, slet, if_neg ce, if_neg c0, ec, if_neg c1, if_neg (show ¬ (1 : Nat) = 0 by omega), ek, e1, e2], ⟨_, _, _, rfl, by omega, fin _ _ ?_ ?_⟩, ms⟩
        · unfold HV; rw [if_neg (show ¬ (k = 0 ∨ nc < k) by omega)]
        · unfold LV; rw [if_neg (show ¬ k = 0 by omega), if_neg c1]
/-- a point -/
def pnt (u : Nat → Nat) (p q : Nat) : Option Int := some (2 * ((u p : Int) - (u q : Int)) + 1)
theorem pt32 {a b : Nat} (ha : a ≤ 60) (hb : b ≤ 60) : ((2 : Int32) * ((nI a : Int32) - nI b) + 1).toInt = 2 * ((a : Int) - (b : Int)) + 1 := by
  have d : ∀ k : Nat, k < 121 → ((2 : Int32) * ((nI k : Int32) - nI 60) + 1).toInt = 2 * ((k : Int) - 60) + 1 := by decide +kernel
  have e : (nI a : Int32) - nI b = nI (a + 60 - b) - nI 60 := by
    apply Int32.toInt_inj.mp
    rw [pk_sub_toInt (by omega) (by omega), pk_sub_toInt (by omega) (by omega)]
    omega
  rw [e, d _ (by omega)]
  omega
theorem pnt_ok {n : Nat} {u : Nat → Nat} (hu : ∀ i, i < n → u i ≤ 60) (u0 : u 0 = 0) (hn : 0 < n) : ZOK n 122 120 (pnt u) := by
  refine ⟨⟨fun i hi => ?_, fun i j k hi hj hk => ?_⟩, fun q hq => ?_, fun p q hp hq v e => ?_, fun q hq v e => ?_⟩
  · unfold pnt
    rw [Int.sub_self]; rfl
  · show 2 * ((u i : Int) - (u j : Int)) + 1 ≤ plus (2 * ((u i : Int) - (u k : Int)) + 1) (2 * ((u k : Int) - (u j : Int)) + 1)
    rcases plus_c (2 * ((u i : Int) - (u k : Int)) + 1) (2 * ((u k : Int) - (u j : Int)) + 1) with z | z <;> omega
  · show 2 * ((u 0 : Int) - (u q : Int)) + 1 ≤ 1
    rw [u0]; omega
  · have := Option.some.inj (show some (2 * ((u p : Int) - (u q : Int)) + 1) = some v from e)
    have := hu p hp
    have := hu q hq
    exact ⟨by omega, fun _ => by omega⟩
  · have := Option.some.inj (show some (2 * ((u 0 : Int) - (u q : Int)) + 1) = some v from e)
    have := hu q hq
    omega
theorem layJ_z {i : Nat} (hi : i < 5) {n : Nat} (hn5 : n ≤ 5) {p0 p1 p2 : Int32} {u : Nat → Nat} (hu : ∀ i, i < n → u i ≤ 60 ∧ (if i = 1 then p0 else if i = 2 then p1 else if i = 3 then p2 else 0 : Int32) = nI (u i)) {g : Nat → Int32} (hg : ∀ p q, p < n → q < n → p < i → RFC (g (5 * p + q)) (pnt u p q)) : ∃ g', itrv (Sum.inr default) (sp_EM_layPoint_L1 p0 p1 p2 i) (g, 0) = .inl (g', i + 1) ∧ ∀ p q, p < n → q < n → p < i + 1 → RFC (g' (5 * p + q)) (pnt u p q) := by
  refine itrv_inv (d := Sum.inr default) (f := sp_EM_layPoint_L1 p0 p1 p2 i) (fun t => ∃ g k, t = (g, k) ∧ k ≤ 5 ∧ ∀ p q, p < n → q < n → (p < i ∨ (p = i ∧ q < k)) → RFC (g (5 * p + q)) (pnt u p q)) (fun r => ∃ g', r = .inl (g', i + 1) ∧ ∀ p q, p < n → q < n → p < i + 1 → RFC (g' (5 * p + q)) (pnt u p q)) (fun (_, k) => 5 - k) ?_ _ (g, 0) (Nat.le_refl _) ⟨g, 0, rfl, Nat.zero_le _, fun p q hp hq h => hg p q hp hq (by omega)⟩
  rintro _ ⟨g, k, rfl, hk, hI⟩
  by_cases ce : 5 ≤ k
  · exact Or.inr ⟨.inl (g, i + 1), by simp only [sp_EM_layPoint_L1, if_pos ce], g, rfl, fun p q hp hq h => hI p q hp hq (by omega)⟩
  · refine Or.inl ⟨(upd g (5 * i + k) ((2 : Int32) * ((if i = 1 then p0 else if i = 2 then p1 else if i = 3 then p2 else 0 : Int32) - (if k = 1 then p0 else if k = 2 then p1 else if k = 3 then p2 else 0 : Int32)) + 1), k + 1), by simp only [sp_EM_layPoint_L1, slet, if_neg ce], ⟨_, _, rfl, by omega, fun p q hp hq h => ?_⟩, by show 5 - (k + 1) < 5 - k; omega⟩
    by_cases c : p = i ∧ q = k
    · obtain ⟨rfl, rfl⟩ := c
      obtain ⟨a1, a2⟩ := hu p hp
      obtain ⟨b1, b2⟩ := hu q hq
      rw [upd_s, a2, b2]
      exact Or.inr ⟨_, rfl, pt32 a1 b1, by omega⟩
    · rw [upd_n (show 5 * p + q ≠ 5 * i + k by omega)]
      exact hI p q hp hq (by omega)
theorem layPoint_z {n : Nat} (hn5 : n ≤ 5) {p0 p1 p2 : Int32} {u : Nat → Nat} (hu : ∀ i, i < n → u i ≤ 60 ∧ (if i = 1 then p0 else if i = 2 then p1 else if i = 3 then p2 else 0 : Int32) = nI (u i)) (f35 : Nat → Int32) : ZR n (sp_EM_layPoint f35 p0 p1 p2) (pnt u) := by
  refine itrv_inv (d := default) (f := sp_EM_layPoint_L2 p0 p1 p2) (fun t => ∃ g i, t = (g, i) ∧ i ≤ 5 ∧ ∀ p q, p < n → q < n → p < i → RFC (g (5 * p + q)) (pnt u p q)) (fun r => ZR n r (pnt u)) (fun (_, i) => 5 - i) ?_ _ (f35, 0) (Nat.le_refl _) ⟨f35, 0, rfl, Nat.zero_le _, fun p q hp hq h => absurd h (Nat.not_lt_zero p)⟩
  rintro _ ⟨g, i, rfl, hi, hI⟩
  by_cases ce : 5 ≤ i
  · exact Or.inr ⟨g, by simp only [sp_EM_layPoint_L2, if_pos ce], fun p q hp hq => hI p q hp hq (by omega)⟩
  · obtain ⟨g', eg, hg'⟩ := layJ_z (show i < 5 by omega) hn5 hu hI
    exact Or.inl ⟨(g', i + 1), by simp only [sp_EM_layPoint_L2, if_neg ce, eg], ⟨g', i + 1, rfl, by omega, hg'⟩, by show 5 - (i + 1) < 5 - i; omega⟩
theorem setPJ_16 {n i : Nat} (hi : i < n) {fv : Nat → Int32} {u : Nat → Nat} (hu : ∀ i, i < n → u i ≤ 60 ∧ fv i = nI (u i)) {g : Nat → Int32} (hg : ∀ p q, p < n → q < n → p < i → EC (g (p * n + q)) (pnt u p q)) : ∃ g', itrv (Sum.inr default) (sp_E_7_setPoint_16_L1 fv n i) (g, 0) = .inl (g', i + 1) ∧ ∀ p q, p < n → q < n → p < i + 1 → EC (g' (p * n + q)) (pnt u p q) := by
  refine itrv_inv (d := Sum.inr default) (f := sp_E_7_setPoint_16_L1 fv n i) (fun t => ∃ g k, t = (g, k) ∧ k ≤ n ∧ ∀ p q, p < n → q < n → (p < i ∨ (p = i ∧ q < k)) → EC (g (p * n + q)) (pnt u p q)) (fun r => ∃ g', r = .inl (g', i + 1) ∧ ∀ p q, p < n → q < n → p < i + 1 → EC (g' (p * n + q)) (pnt u p q)) (fun (_, k) => n - k) ?_ _ (g, 0) (Nat.le_refl _) ⟨g, 0, rfl, Nat.zero_le _, fun p q hp hq h => hg p q hp hq (by omega)⟩
  rintro _ ⟨g, k, rfl, hk, hI⟩
  by_cases ce : n ≤ k
  · exact Or.inr ⟨.inl (g, i + 1), by simp only [sp_E_7_setPoint_16_L1, if_pos ce], g, rfl, fun p q hp hq h => hI p q hp hq (by omega)⟩
  · have hk2 : k < n := by omega
    refine Or.inl ⟨(upd g (i * n + k) ((2 : Int32) * (fv i - fv k) + 1), k + 1), by simp only [sp_E_7_setPoint_16_L1, slet, if_neg ce], ⟨_, _, rfl, by omega, fun p q hp hq h => ?_⟩, by show n - (k + 1) < n - k; omega⟩
    by_cases c : p = i ∧ q = k
    · obtain ⟨rfl, rfl⟩ := c
      obtain ⟨a1, a2⟩ := hu p hp
      obtain ⟨b1, b2⟩ := hu q hq
      rw [upd_s, a2, b2]
      exact Or.inr ⟨_, rfl, pt32 a1 b1, by omega⟩
    · rw [upd_n (show p * n + q ≠ i * n + k from fun z => c (ix_inj hq hk2 z))]
      exact hI p q hp hq (by omega)
theorem setPoint_16 {n : Nat} {fv : Nat → Int32} {u : Nat → Nat} (hu : ∀ i, i < n → u i ≤ 60 ∧ fv i = nI (u i)) (fz : Nat → Int32) : ZC n (sp_E_7_setPoint_16 fv fz n) (pnt u) := by
  refine itrv_inv (d := default) (f := sp_E_7_setPoint_16_L2 fv n) (fun t => ∃ g i, t = (g, i) ∧ i ≤ n ∧ ∀ p q, p < n → q < n → p < i → EC (g (p * n + q)) (pnt u p q)) (fun r => ZC n r (pnt u)) (fun (_, i) => n - i) ?_ _ (fz, 0) (Nat.le_refl _) ⟨fz, 0, rfl, Nat.zero_le _, fun p q hp hq h => absurd h (Nat.not_lt_zero p)⟩
  rintro _ ⟨g, i, rfl, hi, hI⟩
  by_cases ce : n ≤ i
  · exact Or.inr ⟨g, by simp only [sp_E_7_setPoint_16_L2, if_pos ce], fun p q hp hq => hI p q hp hq (by omega)⟩
  · obtain ⟨g', eg, hg'⟩ := setPJ_16 (show i < n by omega) hu hI
    exact Or.inl ⟨(g', i + 1), by simp only [sp_E_7_setPoint_16_L2, if_neg ce, eg], ⟨g', i + 1, rfl, by omega, hg'⟩, by show n - (i + 1) < n - i; omega⟩
theorem plan_16 {nc np : Nat} {q8 q9 : Nat → Nat} {f10 f11 f14 f15 f16 : Nat → Int32} (hs : MS nc np q8 q9 f10 f11 f14 f15 f16) (hp : 0 < np) (hc : nc ≤ 3) (wy : Int32) (a2 n : Nat) (hn : nc + 1 ≤ n) (fhi flo : Nat → Int32) : ∃ x y, sp_E_1_plan_16 fhi flo nc f14 f15 f16 wy a2 n = (x, y, -1, -1, 0, a2, n, wy) ∧ ∀ j, j < n → x j = HV q8 q9 f10 f11 nc wy j ∧ y j = LV q8 q9 f10 f11 nc wy j := by
  obtain ⟨a, b, c, em⟩ := hs.resolve_left (fun z => by have := z.2; omega)
  obtain ⟨z1, z2, z3⟩ := meas_0 em
  have me := meas_eq em
  have in1 : ∀ x y : Nat → Int32, (∀ j, j < nc + 1 → x j = HV q8 q9 f10 f11 nc wy j ∧ y j = LV q8 q9 f10 f11 nc wy j) → ∃ x' y', itrv default (sp_E_1_plan_16_L1 wy a2 n) (x, y, nc + 1) = (x', y', -1, -1, 0, a2, n, wy) ∧ ∀ j, j < n → x' j = HV q8 q9 f10 f11 nc wy j ∧ y' j = LV q8 q9 f10 f11 nc wy j := by
    intro x y h
    refine itrv_inv (d := default) (f := sp_E_1_plan_16_L1 wy a2 n) (fun t => ∃ x y k, t = (x, y, k) ∧ nc + 1 ≤ k ∧ k ≤ n ∧ ∀ j, j < k → x j = HV q8 q9 f10 f11 nc wy j ∧ y j = LV q8 q9 f10 f11 nc wy j) (fun r => ∃ x' y', r = (x', y', -1, -1, 0, a2, n, wy) ∧ ∀ j, j < n → x' j = HV q8 q9 f10 f11 nc wy j ∧ y' j = LV q8 q9 f10 f11 nc wy j) (fun (_, _, k) => n - k) ?_ _ (x, y, nc + 1) (Nat.le_refl _) ⟨x, y, nc + 1, rfl, Nat.le_refl _, hn, h⟩
    rintro _ ⟨x, y, k, rfl, k1, k2, hI⟩
    by_cases ce : n ≤ k
    · exact Or.inr ⟨(x, y, -1, -1, 0, a2, n, wy), by simp only [sp_E_1_plan_16_L1, if_pos ce], x, y, rfl, fun j hj => hI j (by omega)⟩
    · refine Or.inl ⟨(upd x k 0, upd y k 60, k + 1), by simp only [sp_E_1_plan_16_L1, slet, if_neg ce], ⟨_, _, _, rfl, by omega, by omega, fun j hj => ?_⟩, by show n - (k + 1) < n - k; omega⟩
      by_cases cj : j = k
      · rw [cj, upd_s, upd_s]
        unfold HV LV
        rw [if_pos (show k = 0 ∨ nc < k by omega), if_neg (show ¬ k = 0 by omega), if_pos (show nc < k by omega)]
        exact ⟨rfl, rfl⟩
      · rw [upd_n cj, upd_n cj]; exact hI j (by omega)
  refine itrv_inv (d := default) (f := sp_E_1_plan_16_L2 nc f14 f15 f16 wy a2 n) (fun t => ∃ x y k, t = (x, y, k) ∧ k ≤ nc + 1 ∧ ∀ j, j < k → x j = HV q8 q9 f10 f11 nc wy j ∧ y j = LV q8 q9 f10 f11 nc wy j) (fun r => ∃ x' y', r = (x', y', -1, -1, 0, a2, n, wy) ∧ ∀ j, j < n → x' j = HV q8 q9 f10 f11 nc wy j ∧ y' j = LV q8 q9 f10 f11 nc wy j) (fun (_, _, k) => nc + 1 - k) ?_ _ (fhi, flo, 0) (Nat.le_refl _) ⟨fhi, flo, 0, rfl, Nat.zero_le _, fun j hj => absurd hj (Nat.not_lt_zero j)⟩
  rintro _ ⟨x, y, k, rfl, hk, hI⟩
  by_cases ce : nc < k
  · obtain ⟨x', y', e1, h1⟩ := in1 x y (fun j hj => hI j (by omega))
    exact Or.inr ⟨(x', y', -1, -1, 0, a2, n, wy), by simp only [sp_E_1_plan_16_L2, if_pos ce, e1], x', y', rfl, h1⟩
  · have eH : (if wy = 1 then f14 k else f15 k) = HV q8 q9 f10 f11 nc wy k := by
      unfold HV
      by_cases c0 : k = 0
      · rw [if_pos (show k = 0 ∨ nc < k by omega), c0, z1, z2]; split <;> rfl
      · rw [if_neg (show ¬ (k = 0 ∨ nc < k) by omega)]
        obtain ⟨m1, m2, m3⟩ := me (k - 1) (by omega)
        rw [show k - 1 + 1 = k by omega] at m1 m2
        by_cases cw : wy = 1
        · rw [if_pos cw, if_pos cw]; exact m1
        · rw [if_neg cw, if_neg cw]; exact m2
    have eL : (if wy = 1 then f14 k else f16 k) = LV q8 q9 f10 f11 nc wy k := by
      unfold LV
      by_cases c0 : k = 0
      · rw [if_pos c0, c0, z1, z3]; split <;> rfl
      · rw [if_neg c0, if_neg ce]
        obtain ⟨m1, m2, m3⟩ := me (k - 1) (by omega)
        rw [show k - 1 + 1 = k by omega] at m1 m3
        by_cases cw : wy = 1
        · rw [if_pos cw, if_pos cw]; exact m1
        · rw [if_neg cw, if_neg cw]; exact m3
    refine Or.inl ⟨(upd x k (if wy = 1 then f14 k else f15 k), upd y k (if wy = 1 then f14 k else f16 k), k + 1), by simp only [sp_E_1_plan_16_L2, slet, if_neg ce], ⟨_, _, _, rfl, by omega, fun j hj => ?_⟩, by show nc + 1 - (k + 1) < nc + 1 - k; omega⟩
    by_cases cj : j = k
    · rw [cj, upd_s, upd_s]; exact ⟨eH, eL⟩
    · rw [upd_n cj, upd_n cj]; exact hI j (by omega)
theorem setPJ_25 {n i : Nat} (hi : i < n) {fv : Nat → Int32} {u : Nat → Nat} (hu : ∀ i, i < n → u i ≤ 60 ∧ fv i = nI (u i)) {g : Nat → Int32} (hg : ∀ p q, p < n → q < n → p < i → EC (g (p * n + q)) (pnt u p q)) : ∃ g', itrv (Sum.inr default) (sp_E_7_setPoint_25_L1 fv n i) (g, 0) = .inl (g', i + 1) ∧ ∀ p q, p < n → q < n → p < i + 1 → EC (g' (p * n + q)) (pnt u p q) := by
  refine itrv_inv (d := Sum.inr default) (f := sp_E_7_setPoint_25_L1 fv n i) (fun t => ∃ g k, t = (g, k) ∧ k ≤ n ∧ ∀ p q, p < n → q < n → (p < i ∨ (p = i ∧ q < k)) → EC (g (p * n + q)) (pnt u p q)) (fun r => ∃ g', r = .inl (g', i + 1) ∧ ∀ p q, p < n → q < n → p < i + 1 → EC (g' (p * n + q)) (pnt u p q)) (fun (_, k) => n - k) ?_ _ (g, 0) (Nat.le_refl _) ⟨g, 0, rfl, Nat.zero_le _, fun p q hp hq h => hg p q hp hq (by omega)⟩
  rintro _ ⟨g, k, rfl, hk, hI⟩
  by_cases ce : n ≤ k
  · exact Or.inr ⟨.inl (g, i + 1), by simp only [sp_E_7_setPoint_25_L1, if_pos ce], g, rfl, fun p q hp hq h => hI p q hp hq (by omega)⟩
  · have hk2 : k < n := by omega
    refine Or.inl ⟨(upd g (i * n + k) ((2 : Int32) * (fv i - fv k) + 1), k + 1), by simp only [sp_E_7_setPoint_25_L1, slet, if_neg ce], ⟨_, _, rfl, by omega, fun p q hp hq h => ?_⟩, by show n - (k + 1) < n - k; omega⟩
    by_cases c : p = i ∧ q = k
    · obtain ⟨rfl, rfl⟩ := c
      obtain ⟨a1, a2⟩ := hu p hp
      obtain ⟨b1, b2⟩ := hu q hq
      rw [upd_s, a2, b2]
      exact Or.inr ⟨_, rfl, pt32 a1 b1, by omega⟩
    · rw [upd_n (show p * n + q ≠ i * n + k from fun z => c (ix_inj hq hk2 z))]
      exact hI p q hp hq (by omega)
theorem setPoint_25 {n : Nat} {fv : Nat → Int32} {u : Nat → Nat} (hu : ∀ i, i < n → u i ≤ 60 ∧ fv i = nI (u i)) (fz : Nat → Int32) : ZC n (sp_E_7_setPoint_25 fv fz n) (pnt u) := by
  refine itrv_inv (d := default) (f := sp_E_7_setPoint_25_L2 fv n) (fun t => ∃ g i, t = (g, i) ∧ i ≤ n ∧ ∀ p q, p < n → q < n → p < i → EC (g (p * n + q)) (pnt u p q)) (fun r => ZC n r (pnt u)) (fun (_, i) => n - i) ?_ _ (fz, 0) (Nat.le_refl _) ⟨fz, 0, rfl, Nat.zero_le _, fun p q hp hq h => absurd h (Nat.not_lt_zero p)⟩
  rintro _ ⟨g, i, rfl, hi, hI⟩
  by_cases ce : n ≤ i
  · exact Or.inr ⟨g, by simp only [sp_E_7_setPoint_25_L2, if_pos ce], fun p q hp hq => hI p q hp hq (by omega)⟩
  · obtain ⟨g', eg, hg'⟩ := setPJ_25 (show i < n by omega) hu hI
    exact Or.inl ⟨(g', i + 1), by simp only [sp_E_7_setPoint_25_L2, if_neg ce, eg], ⟨g', i + 1, rfl, by omega, hg'⟩, by show n - (i + 1) < n - i; omega⟩
theorem plan_25 {nc np : Nat} {q8 q9 : Nat → Nat} {f10 f11 f14 f15 f16 : Nat → Int32} (hs : MS nc np q8 q9 f10 f11 f14 f15 f16) (hp : 0 < np) (hc : nc ≤ 3) (wy : Int32) (a2 n : Nat) (hn : nc + 1 ≤ n) (fhi flo : Nat → Int32) : ∃ x y, sp_E_1_plan_25 fhi flo nc f14 f15 f16 wy a2 n = (x, y, -1, -1, 0, a2, n, wy) ∧ ∀ j, j < n → x j = HV q8 q9 f10 f11 nc wy j ∧ y j = LV q8 q9 f10 f11 nc wy j := by
  obtain ⟨a, b, c, em⟩ := hs.resolve_left (fun z => by have := z.2; omega)
  obtain ⟨z1, z2, z3⟩ := meas_0 em
  have me := meas_eq em
  have in1 : ∀ x y : Nat → Int32, (∀ j, j < nc + 1 → x j = HV q8 q9 f10 f11 nc wy j ∧ y j = LV q8 q9 f10 f11 nc wy j) → ∃ x' y', itrv default (sp_E_1_plan_25_L1 wy a2 n) (x, y, nc + 1) = (x', y', -1, -1, 0, a2, n, wy) ∧ ∀ j, j < n → x' j = HV q8 q9 f10 f11 nc wy j ∧ y' j = LV q8 q9 f10 f11 nc wy j := by
    intro x y h
    refine itrv_inv (d := default) (f := sp_E_1_plan_25_L1 wy a2 n) (fun t => ∃ x y k, t = (x, y, k) ∧ nc + 1 ≤ k ∧ k ≤ n ∧ ∀ j, j < k → x j = HV q8 q9 f10 f11 nc wy j ∧ y j = LV q8 q9 f10 f11 nc wy j) (fun r => ∃ x' y', r = (x', y', -1, -1, 0, a2, n, wy) ∧ ∀ j, j < n → x' j = HV q8 q9 f10 f11 nc wy j ∧ y' j = LV q8 q9 f10 f11 nc wy j) (fun (_, _, k) => n - k) ?_ _ (x, y, nc + 1) (Nat.le_refl _) ⟨x, y, nc + 1, rfl, Nat.le_refl _, hn, h⟩
    rintro _ ⟨x, y, k, rfl, k1, k2, hI⟩
    by_cases ce : n ≤ k
    · exact Or.inr ⟨(x, y, -1, -1, 0, a2, n, wy), by simp only [sp_E_1_plan_25_L1, if_pos ce], x, y, rfl, fun j hj => hI j (by omega)⟩
    · refine Or.inl ⟨(upd x k 0, upd y k 60, k + 1), by simp only [sp_E_1_plan_25_L1, slet, if_neg ce], ⟨_, _, _, rfl, by omega, by omega, fun j hj => ?_⟩, by show n - (k + 1) < n - k; omega⟩
      by_cases cj : j = k
      · rw [cj, upd_s, upd_s]
        unfold HV LV
        rw [if_pos (show k = 0 ∨ nc < k by omega), if_neg (show ¬ k = 0 by omega), if_pos (show nc < k by omega)]
        exact ⟨rfl, rfl⟩
      · rw [upd_n cj, upd_n cj]; exact hI j (by omega)
  refine itrv_inv (d := default) (f := sp_E_1_plan_25_L2 nc f14 f15 f16 wy a2 n) (fun t => ∃ x y k, t = (x, y, k) ∧ k ≤ nc + 1 ∧ ∀ j, j < k → x j = HV q8 q9 f10 f11 nc wy j ∧ y j = LV q8 q9 f10 f11 nc wy j) (fun r => ∃ x' y', r = (x', y', -1, -1, 0, a2, n, wy) ∧ ∀ j, j < n → x' j = HV q8 q9 f10 f11 nc wy j ∧ y' j = LV q8 q9 f10 f11 nc wy j) (fun (_, _, k) => nc + 1 - k) ?_ _ (fhi, flo, 0) (Nat.le_refl _) ⟨fhi, flo, 0, rfl, Nat.zero_le _, fun j hj => absurd hj (Nat.not_lt_zero j)⟩
  rintro _ ⟨x, y, k, rfl, hk, hI⟩
  by_cases ce : nc < k
  · obtain ⟨x', y', e1, h1⟩ := in1 x y (fun j hj => hI j (by omega))
    exact Or.inr ⟨(x', y', -1, -1, 0, a2, n, wy), by simp only [sp_E_1_plan_25_L2, if_pos ce, e1], x', y', rfl, h1⟩
  · have eH : (if wy = 1 then f14 k else f15 k) = HV q8 q9 f10 f11 nc wy k := by
      unfold HV
      by_cases c0 : k = 0
      · rw [if_pos (show k = 0 ∨ nc < k by omega), c0, z1, z2]; split <;> rfl
      · rw [if_neg (show ¬ (k = 0 ∨ nc < k) by omega)]
        obtain ⟨m1, m2, m3⟩ := me (k - 1) (by omega)
        rw [show k - 1 + 1 = k by omega] at m1 m2
        by_cases cw : wy = 1
        · rw [if_pos cw, if_pos cw]; exact m1
        · rw [if_neg cw, if_neg cw]; exact m2
    have eL : (if wy = 1 then f14 k else f16 k) = LV q8 q9 f10 f11 nc wy k := by
      unfold LV
      by_cases c0 : k = 0
      · rw [if_pos c0, c0, z1, z3]; split <;> rfl
      · rw [if_neg c0, if_neg ce]
        obtain ⟨m1, m2, m3⟩ := me (k - 1) (by omega)
        rw [show k - 1 + 1 = k by omega] at m1 m3
        by_cases cw : wy = 1
        · rw [if_pos cw, if_pos cw]; exact m1
        · rw [if_neg cw, if_neg cw]; exact m3
    refine Or.inl ⟨(upd x k (if wy = 1 then f14 k else f15 k), upd y k (if wy = 1 then f14 k else f16 k), k + 1), by simp only [sp_E_1_plan_25_L2, slet, if_neg ce], ⟨_, _, _, rfl, by omega, fun j hj => ?_⟩, by show nc + 1 - (k + 1) < nc + 1 - k; omega⟩
    by_cases cj : j = k
    · rw [cj, upd_s, upd_s]; exact ⟨eH, eL⟩
    · rw [upd_n cj, upd_n cj]; exact hI j (by omega)
theorem fgh_of {n nc np ne : Nat} {f4 : Nat → Int32} {q8 q9 : Nat → Nat} {f10 f11 f12 f13 : Nat → Int32} (w : WFm nc np ne f4 q8 q9 f10 f11 f12 f13) (hn5 : n ≤ 5) {wy : Int32} {x y x' y' : Nat → Int32} (h1 : ∀ j, j < n → x j = HV q8 q9 f10 f11 nc wy j ∧ y j = LV q8 q9 f10 f11 nc wy j) (h2 : ∀ j, j < 5 → x' j = HV q8 q9 f10 f11 nc wy j ∧ y' j = LV q8 q9 f10 f11 nc wy j) : FGH n (fun j => (HV q8 q9 f10 f11 nc wy j).toNatClampNeg) (fun j => (LV q8 q9 f10 f11 nc wy j).toNatClampNeg) x y x' y' := by
  have kH : ∀ j, ∃ v, v ≤ 20 ∧ HV q8 q9 f10 f11 nc wy j = nI v := by
    intro j
    unfold HV
    by_cases c : j = 0 ∨ nc < j
    · rw [if_pos c]; exact ⟨0, by omega, rfl⟩
    · rw [if_neg c]; exact lmH_rg w _ _ 22 (Nat.le_refl _)
  have kL : ∀ j, ∃ v, v ≤ 60 ∧ LV q8 q9 f10 f11 nc wy j = nI v := by
    intro j
    unfold LV
    by_cases c : j = 0
    · rw [if_pos c]; exact ⟨0, by omega, rfl⟩
    · rw [if_neg c]
      by_cases c2 : nc < j
      · rw [if_pos c2]; exact ⟨60, by omega, rfl⟩
      · rw [if_neg c2]
        obtain ⟨v, hv, ev⟩ := lmH_rg w (j - 1) (if wy = 1 then 0 else 2) 22 (Nat.le_refl _)
        exact ⟨v, by omega, ev⟩
  refine ⟨?_, fun i hi => ?_⟩
  · show (HV q8 q9 f10 f11 nc wy 0).toNatClampNeg = 0
    unfold HV
    rw [if_pos (show 0 = 0 ∨ nc < 0 by omega)]; rfl
  · obtain ⟨v, hv, ev⟩ := kH i
    obtain ⟨l, hl, el⟩ := kL i
    obtain ⟨a1, a2⟩ := h1 i hi
    obtain ⟨b1, b2⟩ := h2 i (by omega)
    have cv : (nI v : Int32).toNatClampNeg = v := nI_clamp (by omega)
    have cl : (nI l : Int32).toNatClampNeg = l := nI_clamp (by omega)
    rw [a1, a2, b1, b2]
    show HV q8 q9 f10 f11 nc wy i = nI (HV q8 q9 f10 f11 nc wy i).toNatClampNeg ∧ LV q8 q9 f10 f11 nc wy i = nI (LV q8 q9 f10 f11 nc wy i).toNatClampNeg ∧ HV q8 q9 f10 f11 nc wy i = nI (HV q8 q9 f10 f11 nc wy i).toNatClampNeg ∧ LV q8 q9 f10 f11 nc wy i = nI (LV q8 q9 f10 f11 nc wy i).toNatClampNeg ∧ (HV q8 q9 f10 f11 nc wy i).toNatClampNeg ≤ 20 ∧ (LV q8 q9 f10 f11 nc wy i).toNatClampNeg ≤ 60
    rw [ev, el, cv, cl]
    exact ⟨rfl, rfl, rfl, rfl, hv, hl⟩
theorem record0_16 {gf a0 : Nat} {ggoal : Int32} {q1 : Nat → Nat} {s2 s3 s4 s5 : Nat → Int32} : ∃ s5', sp_E_1_record0_16 0 ggoal gf q1 s2 s3 s4 s5 a0 = (updN q1 0 a0, upd s2 0 (-1), upd s3 0 (-1), upd s4 0 0, s5', if (nI a0 : Int32) = ggoal then 1 else gf) := by
  refine ⟨upd s5 0 0, ?_⟩
  by_cases c : (nI a0 : Int32) = ggoal
  · simp only [sp_E_1_record0_16, slet, if_pos c]
  · simp only [sp_E_1_record0_16, slet, if_neg c]
theorem record0_25 {gf a0 : Nat} {ggoal : Int32} {q1 : Nat → Nat} {s2 s3 s4 s5 : Nat → Int32} : ∃ s5', sp_E_1_record0_25 0 ggoal gf q1 s2 s3 s4 s5 a0 = (updN q1 0 a0, upd s2 0 (-1), upd s3 0 (-1), upd s4 0 0, s5', if (nI a0 : Int32) = ggoal then 1 else gf) := by
  refine ⟨upd s5 0 0, ?_⟩
  by_cases c : (nI a0 : Int32) = ggoal
  · simp only [sp_E_1_record0_25, slet, if_pos c]
  · simp only [sp_E_1_record0_25, slet, if_neg c]
theorem comes0_0_120 {b n t gl m13_0 m13_1 : Nat} {wy : Int32} {f3 : Nat → Int32} {r4 r9 r10 : Nat → Nat} {r11 r34 k : Nat → Int32} {r38 : Nat → Nat} {r39 r40 r41 f44 f47 f48 : Nat → Int32} (hf : f44 0 = 0) : sp_EM_comes_0_120_0 b n f3 r4 r9 r10 r11 m13_0 m13_1 r34 k r38 r39 r40 r41 0 f44 f47 f48 t wy gl = (sp_EM_copies_zn r34 (sp_EM_forgets n (if sp_EM_isUrgent b f3 t = 0 then sp_EM_delays b n r4 r9 r10 r11 m13_0 m13_1 k t else k) f47 f48 wy) (25 * 0), sp_EM_forgets n (if sp_EM_isUrgent b f3 t = 0 then sp_EM_delays b n r4 r9 r10 r11 m13_0 m13_1 k t else k) f47 f48 wy, updN r38 0 t, upd r39 0 (-1), upd r40 0 (-1), upd r41 0 0, f44, 1) := by
  obtain ⟨z, ez⟩ : ∃ z, sp_EM_forgets n (if sp_EM_isUrgent b f3 t = 0 then sp_EM_delays b n r4 r9 r10 r11 m13_0 m13_1 k t else k) f47 f48 wy = z := ⟨_, rfl⟩
  have ec : sp_EM_comes_0_120_0 b n f3 r4 r9 r10 r11 m13_0 m13_1 r34 k r38 r39 r40 r41 0 f44 f47 f48 t wy gl = itrv default (sp_EM_comes_0_120_0_L1 n r34 r38 r39 r40 r41 0 f44 t gl (sp_EM_forgets n (if sp_EM_isUrgent b f3 t = 0 then sp_EM_delays b n r4 r9 r10 r11 m13_0 m13_1 k t else k) f47 f48 wy)) 0 := rfl
  rw [ec, ez]
  apply itrv_inr
  have c0 : ¬ (0 : Nat) = 120 := by omega
  simp only [sp_EM_comes_0_120_0_L1, slet, if_pos (Nat.le_refl 0), if_neg c0, if_pos hf]
/-- a graph from a point, of the class and of the reference -/
theorem explo_0_120 {b n nc np ne a1 gl o : Nat} {st0 : Int32} {f4 : Nat → Int32} {q5 q6 : Nat → Nat} {f7 : Nat → Int32} {q8 q9 : Nat → Nat} {f10 f11 f12 f13 : Nat → Int32} {f3 : Nat → Int32} {r4 r5 r6 r7 : Nat → Nat} {f8 : Nat → Int32} {r9 r10 : Nat → Nat} {r11 : Nat → Int32} {m12_0 m12_1 m13_0 m13_1 m14_0 m14_1 m15 : Nat} (h : MB b nc np ne st0 f4 q5 q6 f7 q8 q9 f10 f11 f3 r4 r5 r6 r7 f8 r9 r10 r11 (bkN b m12_0 m12_1) (bkN b m13_0 m13_1) (bkN b m14_0 m14_1) m15) (w : WFm nc np ne f4 q8 q9 f10 f11 f12 f13) (hb : b ≤ 1) (hn : nc + 1 ≤ n) (hn4 : n ≤ 4) {wy gav goal : Int32} (hw : wy = 0 → n ≤ 4 ∧ 120 ≤ 120) {hh ll : Nat → Nat} {fhi flo f47 f48 g47 g48 : Nat → Int32} (elf : sp_EM_layForgotten b r4 r7 r9 r10 r11 m12_0 m12_1 m13_0 m13_1 m14_0 m14_1 f47 f48 wy = (g47, g48)) (hF : FGH n hh ll fhi flo g47 g48) (ha : a1 < np) (hav : ¬ (nI a1 : Int32) = gav) {p0 p1 p2 : Int32} {u : Nat → Nat} {fbu : Nat → Int32} (hu : ∀ i, i < n → u i ≤ 60 ∧ fbu i = nI (u i) ∧ (if i = 1 then p0 else if i = 2 then p1 else if i = 3 then p2 else 0 : Int32) = nI (u i)) (u0 : u 0 = 0) (q1 : Nat → Nat) (s2 s3 s4 s5 : Nat → Int32) (fz : Nat → Nat → Int32) (qs : Nat → Nat) (r38 : Nat → Nat) (r39 r40 r41 r34 r35 r43 r44 : Nat → Int32) :
  ∃ k1 k2 k3 k4 k5 kf kc kg kx kz kq, sp_E_1_open_16 wy gav goal 0 n q1 s2 s3 s4 s5 fhi flo f4 q8 q9 f12 f13 fbu o qs fz a1 = (k1, k2, k3, k4, k5, kf, kc, kg, kx, kz, kq) ∧
  ∃ q1' s2' s3' s4' s5' gf gc gfull gx fz' qs' R34 R35 R38 R39 R40 R41 R43 R44 cnt, sp_E_1_grow_16 kc kg kx wy gav goal kf gl k1 k2 k3 k4 k5 fhi flo nc ne f4 q5 q6 f7 q8 q9 f12 f13 o kq kz = (q1', s2', s3', s4', s5', gf, gc, gfull, gx, fz', qs') ∧ sp_EM_explores_0_120 b n f3 r4 r5 r6 r7 f8 r9 r10 r11 m12_0 m12_1 m13_0 m13_1 m14_0 m14_1 r34 (sp_EM_layPoint r35 p0 p1 p2) r38 r39 r40 r41 r43 r44 f47 f48 a1 wy gl gav = (R34, R35, R38, R39, R40, R41, R43, R44, g47, g48, cnt) ∧ SIM0 n wy np 120 goal gav o fz qs r38 r39 r40 r41 r34 r43 r44 0 gf gc gfull gx q1' s2' s3' s4' fz' qs' R38 R39 R40 R41 R34 R43 R44 cnt := by
  have h0 : 0 < n := by omega
  have hn5 : n ≤ 5 := by omega
  have one0 : ¬ (1 : Nat) = 0 := by omega
  have h' := h
  obtain ⟨⟨-, hc3, e13, hp8, -, -⟩, -, -, -, -, -, -, -⟩ := h'
  obtain ⟨x3, x4⟩ := cnr_p h w hb hn ha
  have y2 := cnd_of (a := 14 + a1) w hc3 hn (by omega)
  have c2 : ∀ k, k < min (q8 (14 + a1)) 4 → hCC q9 (14 + a1) k < nc := fun k hk => ((w.1 (14 + a1) (by omega)).2 k (by omega)).2
  have hO : ZOK n 122 120 (pnt u) := pnt_ok (fun i hi => (hu i hi).1) u0 h0
  have r0 : RNG n 288 := ⟨by decide, by
    by_cases c : n ≤ 4
    · exact Or.inl ⟨c, by decide⟩
    · exact Or.inr ⟨hn5, by decide⟩⟩
  have emn : min n 4 = n := by omega
  have N1 := narrowTo_16 (p2 := 0) (f := fun p => p) h0 rfl y2 (zrd_0 (fun k hk => by have := c2 k hk; omega)) rfl hO (by decide) (by decide) (setPoint_16 (fun i hi => ⟨(hu i hi).1, (hu i hi).2.1⟩) (fz (o + 0))) (GRE.of hO.clo)
  have hy := layPoint_z hn5 (fun i hi => ⟨(hu i hi).1, (hu i hi).2.2⟩) r35
  have M1 := holdsAll_p hn5 e13 hp8 ha x3 x4 hy
  have R1 := cl_tgs h0 M1 (hO.rb (Int.le_refl _) (Int.le_refl _)) hO.clo.1 (fun k hk => by have := c2 k hk; omega) (fun k hk => (y2 k hk).2.2.2.2.1) (fun k hk => (y2 k hk).2.2.2.2.2) (r0.le (by decide) (by decide)) (by decide)
  have fup : FUL 0 (upd r44 0 (vp_nar .boolean 0) 0) 0 120 := Or.inl ⟨rfl, by rw [upd_s]; exact nar0⟩
  have rfr : ∀ j, j ≠ 0 → upd r43 0 0 j = r43 j ∧ upd r44 0 (vp_nar .boolean 0) j = r44 j := fun j hj => ⟨upd_n hj, upd_n hj⟩
  rcases N1 with ⟨g, D1, a1', a2, a3, a4⟩ | ⟨g, a1', a2⟩
  · rcases R1 with ⟨k, D1', b1, b2, b3⟩ | ⟨k, b1, b2⟩
    · have hk : ZR n k D1 := b2.eq (fun i j hi hj => b3.uniq a4 i j hi hj)
      have l1 := ((tgs_le h0 (fun k hk => by have := c2 k hk; omega) _ (Nat.le_refl _)).mp a4.2.1).2
      obtain ⟨D2, c2', d2, e2⟩ := stays_16 h w hb hn ha a3 r0 (by decide) a2 hk l1
      obtain ⟨D3, c3, d3, e3⟩ := fgW_16 (s' := 0) hn5 h0 hF (fun c => by unfold UU VV; rw [if_pos c, if_pos c]; exact ⟨by decide, by decide⟩) e2 c2' d2
      obtain ⟨s5', er⟩ := record0_16 (gf := 0) (a0 := a1) (ggoal := goal) (q1 := q1) (s2 := s2) (s3 := s3) (s4 := s4) (s5 := s5)
      obtain ⟨FZ, w1, w2, w3⟩ : ∃ FZ, (∀ x, x ≠ o + 0 → FZ x = fz x) ∧ FZ (o + 0) = (if wy = 0 then sp_E_0_stayIn_16 f4 q8 q9 f12 f13 n g a1 else sp_E_7_forget_16 fhi flo n (sp_E_0_stayIn_16 f4 q8 q9 f12 f13 n g a1)) ∧ sp_E_1_open_16 wy gav goal 0 n q1 s2 s3 s4 s5 fhi flo f4 q8 q9 f12 f13 fbu o qs fz a1 = (updN q1 0 a1, upd s2 0 (-1), upd s3 0 (-1), upd s4 0 0, s5', (if (nI a1 : Int32) = goal then 1 else 0), 0 + 1, 0, 0, FZ, updN qs (o + 0) n) := by
        by_cases cw : wy = 0
        · refine ⟨updZ (updZ (updZ fz (o + 0) (sp_E_7_setPoint_16 fbu (fz (o + 0)) n)) (o + 0) g) (o + 0) (sp_E_0_stayIn_16 f4 q8 q9 f12 f13 n g a1), fun x hx => by rw [uZ_n hx, uZ_n hx, uZ_n hx], by rw [uZ_s, if_pos cw], ?_⟩
          simp only [sp_E_1_open_16, slet, updN_s, uZ_s, emn, if_neg hav, a1', if_neg one0, if_pos cw, er]
        · refine ⟨updZ (updZ (updZ (updZ fz (o + 0) (sp_E_7_setPoint_16 fbu (fz (o + 0)) n)) (o + 0) g) (o + 0) (sp_E_0_stayIn_16 f4 q8 q9 f12 f13 n g a1)) (o + 0) (sp_E_7_forget_16 fhi flo n (sp_E_0_stayIn_16 f4 q8 q9 f12 f13 n g a1)), fun x hx => by rw [uZ_n hx, uZ_n hx, uZ_n hx, uZ_n hx], by rw [uZ_s, if_neg cw], ?_⟩
          simp only [sp_E_1_open_16, slet, updN_s, uZ_s, emn, if_neg hav, a1', if_neg one0, if_neg cw, er]
      rw [← w2] at c3
      have ec := comes0_0_120 (b := b) (n := n) (t := a1) (gl := gl) (m13_0 := m13_0) (m13_1 := m13_1) (wy := wy) (f3 := f3) (r4 := r4) (r9 := r9) (r10 := r10) (r11 := r11) (r34 := r34) (k := k) (r38 := r38) (r39 := r39) (r40 := r40) (r41 := r41) (f44 := upd r44 0 (vp_nar .boolean 0)) (f47 := g47) (f48 := g48) (by rw [upd_s]; exact nar0)
      obtain ⟨cz1, cz2⟩ := copies_zn (f34 := r34) (f35 := sp_EM_forgets n (if sp_EM_isUrgent b f3 a1 = 0 then sp_EM_delays b n r4 r9 r10 r11 m13_0 m13_1 k a1 else k) g47 g48 wy) (a3 := 25 * 0)
      have hG : GS0 n wy 1 np (fun _ => D3) (updN q1 0 a1) (upd s2 0 (-1)) (upd s3 0 (-1)) (upd s4 0 0) o (updN qs (o + 0) n) FZ (updN r38 0 a1) (upd r39 0 (-1)) (upd r40 0 (-1)) (upd r41 0 0) (sp_EM_copies_zn r34 (sp_EM_forgets n (if sp_EM_isUrgent b f3 a1 = 0 then sp_EM_delays b n r4 r9 r10 r11 m13_0 m13_1 k a1 else k) g47 g48 wy) (25 * 0)) := by
        intro s hs
        have s0 : s = 0 := by omega
        subst s0
        refine ⟨⟨by rw [updN_s, updN_s], by rw [updN_s]; exact ha, by rw [upd_s, upd_s], by rw [upd_s, upd_s], by rw [upd_s, upd_s]⟩, updN_s, e3, c3, fun i j hi hj => ?_⟩
        show RFC (sp_EM_copies_zn r34 _ (25 * 0) (25 * 0 + (5 * i + j))) (D3 i j)
        rw [cz1 (5 * i + j) (by omega)]
        exact d3 i j hi hj
      refine ⟨_, _, _, _, _, _, _, _, _, _, _, w3, ?_⟩
      have hS : SIM0 n wy np 120 goal gav o fz qs r38 r39 r40 r41 r34 r43 r44 0 (if (nI a1 : Int32) = goal then 1 else 0) 1 0 0 (updN q1 0 a1) (upd s2 0 (-1)) (upd s3 0 (-1)) (upd s4 0 0) FZ (updN qs (o + 0) n) (updN r38 0 a1) (upd r39 0 (-1)) (upd r40 0 (-1)) (upd r41 0 0) (sp_EM_copies_zn r34 (sp_EM_forgets n (if sp_EM_isUrgent b f3 a1 = 0 then sp_EM_delays b n r4 r9 r10 r11 m13_0 m13_1 k a1 else k) g47 g48 wy) (25 * 0)) (upd r43 0 0) (upd r44 0 (vp_nar .boolean 0)) 1 := by
        refine ⟨fun x hx => ⟨w1 x (by omega), updN_n (by omega)⟩, ⟨trivial, rfr⟩, ⟨Nat.zero_le _, by decide⟩, ?_⟩
        by_cases cg : (nI a1 : Int32) = goal
        · refine Or.inr ⟨if_pos cg, ⟨0, by omega, ?_⟩, by rw [← cg]; exact hav⟩
          rw [updN_s, show min a1 7 = a1 by omega]; exact cg
        · exact Or.inl ⟨if_neg cg, rfl, ⟨_, hG⟩, Or.inl ⟨rfl, by rw [upd_s]; exact nar0⟩, by rw [upd_s], fun s hs => by rw [show s = 0 by omega, updN_s, show min a1 7 = a1 by omega]; exact cg⟩
      obtain ⟨q1', s2', s3', s4', s5'', gf, gc, gfull, gx, fz', qs', R34, R35, R38, R39, R40, R41, R43, R44, cnt, z1, z2, z3⟩ := growK_0_120 (gl := gl) (gav := gav) h w hb hn hn4 hw hF (t := (updN q1 0 a1, upd s2 0 (-1), upd s3 0 (-1), upd s4 0 0, s5', (if (nI a1 : Int32) = goal then 1 else 0), 1, 0, 0, 0, FZ, updN qs (o + 0) n)) (t' := (sp_EM_copies_zn r34 (sp_EM_forgets n (if sp_EM_isUrgent b f3 a1 = 0 then sp_EM_delays b n r4 r9 r10 r11 m13_0 m13_1 k a1 else k) g47 g48 wy) (25 * 0), sp_EM_forgets n (if sp_EM_isUrgent b f3 a1 = 0 then sp_EM_delays b n r4 r9 r10 r11 m13_0 m13_1 k a1 else k) g47 g48 wy, updN r38 0 a1, upd r39 0 (-1), upd r40 0 (-1), upd r41 0 0, upd r43 0 0, upd r44 0 (vp_nar .boolean 0), 1, 0)) ⟨_, _, _, _, _, _, _, _, _, _, _, _, _, _, _, _, _, _, _, _, _, rfl, rfl, hS⟩
      refine ⟨q1', s2', s3', s4', s5'', gf, gc, gfull, gx, fz', qs', R34, R35, R38, R39, R40, R41, R43, R44, cnt, z1, ?_, z3⟩
      rw [← z2]
      simp only [sp_EM_explores_0_120, slet, elf, b1, if_neg one0, ec]
    · exact absurd a4.2.1 (b2 _ a4.1)
  · rcases R1 with ⟨k, D1', b1, b2, b3⟩ | ⟨k, b1, b2⟩
    · exact absurd b3.2.1 (a2 _ b3.1)
    · refine ⟨q1, s2, s3, s4, s5, 0, 0, 0, 0, updZ (updZ fz (o + 0) (sp_E_7_setPoint_16 fbu (fz (o + 0)) n)) (o + 0) g, updN qs (o + 0) n, by simp only [sp_E_1_open_16, slet, updN_s, uZ_s, emn, if_neg hav, a1', if_pos], q1, s2, s3, s4, s5, 0, 0, 0, 0, updZ (updZ fz (o + 0) (sp_E_7_setPoint_16 fbu (fz (o + 0)) n)) (o + 0) g, updN qs (o + 0) n, r34, k, r38, r39, r40, r41, upd r43 0 0, upd r44 0 (vp_nar .boolean 0), 0, itrv_inr (by simp only [sp_E_1_grow_16_L2, if_pos (Nat.le_refl 0)]), by simp only [sp_EM_explores_0_120, slet, elf, b1, if_pos], fun x hx => ⟨by rw [uZ_n (by omega), uZ_n (by omega)], updN_n (by omega)⟩, ⟨FRM0.rf, rfr⟩, ⟨Nat.le_refl 0, Nat.zero_le _⟩, Or.inl ⟨rfl, rfl, ⟨fun _ => pnt u, fun s hs => absurd hs (Nat.not_lt_zero s)⟩, fup, by rw [upd_s], fun s hs => absurd hs (Nat.not_lt_zero s)⟩⟩
theorem comes0_1_120 {b n t gl m13_0 m13_1 : Nat} {wy : Int32} {f3 : Nat → Int32} {r4 r9 r10 : Nat → Nat} {r11 r34 k : Nat → Int32} {r38 : Nat → Nat} {r39 r40 r41 f44 f47 f48 : Nat → Int32} (hf : f44 1 = 0) : sp_EM_comes_1_120_0 b n f3 r4 r9 r10 r11 m13_0 m13_1 r34 k r38 r39 r40 r41 0 f44 f47 f48 t wy gl = (sp_EM_copies_zn r34 (sp_EM_forgets n (if sp_EM_isUrgent b f3 t = 0 then sp_EM_delays b n r4 r9 r10 r11 m13_0 m13_1 k t else k) f47 f48 wy) (25 * (120 + 0)), sp_EM_forgets n (if sp_EM_isUrgent b f3 t = 0 then sp_EM_delays b n r4 r9 r10 r11 m13_0 m13_1 k t else k) f47 f48 wy, updN r38 (120 + 0) t, upd r39 (120 + 0) (-1), upd r40 (120 + 0) (-1), upd r41 (120 + 0) 0, f44, 1) := by
  obtain ⟨z, ez⟩ : ∃ z, sp_EM_forgets n (if sp_EM_isUrgent b f3 t = 0 then sp_EM_delays b n r4 r9 r10 r11 m13_0 m13_1 k t else k) f47 f48 wy = z := ⟨_, rfl⟩
  have ec : sp_EM_comes_1_120_0 b n f3 r4 r9 r10 r11 m13_0 m13_1 r34 k r38 r39 r40 r41 0 f44 f47 f48 t wy gl = itrv default (sp_EM_comes_1_120_0_L1 n r34 r38 r39 r40 r41 0 f44 t gl (sp_EM_forgets n (if sp_EM_isUrgent b f3 t = 0 then sp_EM_delays b n r4 r9 r10 r11 m13_0 m13_1 k t else k) f47 f48 wy)) 0 := rfl
  rw [ec, ez]
  apply itrv_inr
  have c0 : ¬ (0 : Nat) = 120 := by omega
  simp only [sp_EM_comes_1_120_0_L1, slet, if_pos (Nat.le_refl 0), if_neg c0, if_pos hf]
/-- a graph from a point, of the class and of the reference -/
theorem explo_1_120 {b n nc np ne a1 gl o : Nat} {st0 : Int32} {f4 : Nat → Int32} {q5 q6 : Nat → Nat} {f7 : Nat → Int32} {q8 q9 : Nat → Nat} {f10 f11 f12 f13 : Nat → Int32} {f3 : Nat → Int32} {r4 r5 r6 r7 : Nat → Nat} {f8 : Nat → Int32} {r9 r10 : Nat → Nat} {r11 : Nat → Int32} {m12_0 m12_1 m13_0 m13_1 m14_0 m14_1 m15 : Nat} (h : MB b nc np ne st0 f4 q5 q6 f7 q8 q9 f10 f11 f3 r4 r5 r6 r7 f8 r9 r10 r11 (bkN b m12_0 m12_1) (bkN b m13_0 m13_1) (bkN b m14_0 m14_1) m15) (w : WFm nc np ne f4 q8 q9 f10 f11 f12 f13) (hb : b ≤ 1) (hn : nc + 1 ≤ n) (hn4 : n ≤ 4) {wy gav goal : Int32} (hw : wy = 0 → n ≤ 4 ∧ 120 ≤ 120) {hh ll : Nat → Nat} {fhi flo f47 f48 g47 g48 : Nat → Int32} (elf : sp_EM_layForgotten b r4 r7 r9 r10 r11 m12_0 m12_1 m13_0 m13_1 m14_0 m14_1 f47 f48 wy = (g47, g48)) (hF : FGH n hh ll fhi flo g47 g48) (ha : a1 < np) (hav : ¬ (nI a1 : Int32) = gav) {p0 p1 p2 : Int32} {u : Nat → Nat} {fbu : Nat → Int32} (hu : ∀ i, i < n → u i ≤ 60 ∧ fbu i = nI (u i) ∧ (if i = 1 then p0 else if i = 2 then p1 else if i = 3 then p2 else 0 : Int32) = nI (u i)) (u0 : u 0 = 0) (q1 : Nat → Nat) (s2 s3 s4 s5 : Nat → Int32) (fz : Nat → Nat → Int32) (qs : Nat → Nat) (r38 : Nat → Nat) (r39 r40 r41 r34 r35 r43 r44 : Nat → Int32) :
  ∃ k1 k2 k3 k4 k5 kf kc kg kx kz kq, sp_E_1_open_16 wy gav goal 0 n q1 s2 s3 s4 s5 fhi flo f4 q8 q9 f12 f13 fbu o qs fz a1 = (k1, k2, k3, k4, k5, kf, kc, kg, kx, kz, kq) ∧
  ∃ q1' s2' s3' s4' s5' gf gc gfull gx fz' qs' R34 R35 R38 R39 R40 R41 R43 R44 cnt, sp_E_1_grow_16 kc kg kx wy gav goal kf gl k1 k2 k3 k4 k5 fhi flo nc ne f4 q5 q6 f7 q8 q9 f12 f13 o kq kz = (q1', s2', s3', s4', s5', gf, gc, gfull, gx, fz', qs') ∧ sp_EM_explores_1_120 b n f3 r4 r5 r6 r7 f8 r9 r10 r11 m12_0 m12_1 m13_0 m13_1 m14_0 m14_1 r34 (sp_EM_layPoint r35 p0 p1 p2) r38 r39 r40 r41 r43 r44 f47 f48 a1 wy gl gav = (R34, R35, R38, R39, R40, R41, R43, R44, g47, g48, cnt) ∧ SIM1 n wy np 120 goal gav o fz qs r38 r39 r40 r41 r34 r43 r44 0 gf gc gfull gx q1' s2' s3' s4' fz' qs' R38 R39 R40 R41 R34 R43 R44 cnt := by
  have h0 : 0 < n := by omega
  have hn5 : n ≤ 5 := by omega
  have one0 : ¬ (1 : Nat) = 0 := by omega
  have h' := h
  obtain ⟨⟨-, hc3, e13, hp8, -, -⟩, -, -, -, -, -, -, -⟩ := h'
  obtain ⟨x3, x4⟩ := cnr_p h w hb hn ha
  have y2 := cnd_of (a := 14 + a1) w hc3 hn (by omega)
  have c2 : ∀ k, k < min (q8 (14 + a1)) 4 → hCC q9 (14 + a1) k < nc := fun k hk => ((w.1 (14 + a1) (by omega)).2 k (by omega)).2
  have hO : ZOK n 122 120 (pnt u) := pnt_ok (fun i hi => (hu i hi).1) u0 h0
  have r0 : RNG n 288 := ⟨by decide, by
    by_cases c : n ≤ 4
    · exact Or.inl ⟨c, by decide⟩
    · exact Or.inr ⟨hn5, by decide⟩⟩
  have emn : min n 4 = n := by omega
  have N1 := narrowTo_16 (p2 := 0) (f := fun p => p) h0 rfl y2 (zrd_0 (fun k hk => by have := c2 k hk; omega)) rfl hO (by decide) (by decide) (setPoint_16 (fun i hi => ⟨(hu i hi).1, (hu i hi).2.1⟩) (fz (o + 0))) (GRE.of hO.clo)
  have hy := layPoint_z hn5 (fun i hi => ⟨(hu i hi).1, (hu i hi).2.2⟩) r35
  have M1 := holdsAll_p hn5 e13 hp8 ha x3 x4 hy
  have R1 := cl_tgs h0 M1 (hO.rb (Int.le_refl _) (Int.le_refl _)) hO.clo.1 (fun k hk => by have := c2 k hk; omega) (fun k hk => (y2 k hk).2.2.2.2.1) (fun k hk => (y2 k hk).2.2.2.2.2) (r0.le (by decide) (by decide)) (by decide)
  have fup : FUL 0 (upd r44 1 (vp_nar .boolean 0) 1) 0 120 := Or.inl ⟨rfl, by rw [upd_s]; exact nar0⟩
  have rfr : ∀ j, j ≠ 1 → upd r43 1 0 j = r43 j ∧ upd r44 1 (vp_nar .boolean 0) j = r44 j := fun j hj => ⟨upd_n hj, upd_n hj⟩
  rcases N1 with ⟨g, D1, a1', a2, a3, a4⟩ | ⟨g, a1', a2⟩
  · rcases R1 with ⟨k, D1', b1, b2, b3⟩ | ⟨k, b1, b2⟩
    · have hk : ZR n k D1 := b2.eq (fun i j hi hj => b3.uniq a4 i j hi hj)
      have l1 := ((tgs_le h0 (fun k hk => by have := c2 k hk; omega) _ (Nat.le_refl _)).mp a4.2.1).2
      obtain ⟨D2, c2', d2, e2⟩ := stays_16 h w hb hn ha a3 r0 (by decide) a2 hk l1
      obtain ⟨D3, c3, d3, e3⟩ := fgW_16 (s' := 0) hn5 h0 hF (fun c => by unfold UU VV; rw [if_pos c, if_pos c]; exact ⟨by decide, by decide⟩) e2 c2' d2
      obtain ⟨s5', er⟩ := record0_16 (gf := 0) (a0 := a1) (ggoal := goal) (q1 := q1) (s2 := s2) (s3 := s3) (s4 := s4) (s5 := s5)
      obtain ⟨FZ, w1, w2, w3⟩ : ∃ FZ, (∀ x, x ≠ o + 0 → FZ x = fz x) ∧ FZ (o + 0) = (if wy = 0 then sp_E_0_stayIn_16 f4 q8 q9 f12 f13 n g a1 else sp_E_7_forget_16 fhi flo n (sp_E_0_stayIn_16 f4 q8 q9 f12 f13 n g a1)) ∧ sp_E_1_open_16 wy gav goal 0 n q1 s2 s3 s4 s5 fhi flo f4 q8 q9 f12 f13 fbu o qs fz a1 = (updN q1 0 a1, upd s2 0 (-1), upd s3 0 (-1), upd s4 0 0, s5', (if (nI a1 : Int32) = goal then 1 else 0), 0 + 1, 0, 0, FZ, updN qs (o + 0) n) := by
        by_cases cw : wy = 0
        · refine ⟨updZ (updZ (updZ fz (o + 0) (sp_E_7_setPoint_16 fbu (fz (o + 0)) n)) (o + 0) g) (o + 0) (sp_E_0_stayIn_16 f4 q8 q9 f12 f13 n g a1), fun x hx => by rw [uZ_n hx, uZ_n hx, uZ_n hx], by rw [uZ_s, if_pos cw], ?_⟩
          simp only [sp_E_1_open_16, slet, updN_s, uZ_s, emn, if_neg hav, a1', if_neg one0, if_pos cw, er]
        · refine ⟨updZ (updZ (updZ (updZ fz (o + 0) (sp_E_7_setPoint_16 fbu (fz (o + 0)) n)) (o + 0) g) (o + 0) (sp_E_0_stayIn_16 f4 q8 q9 f12 f13 n g a1)) (o + 0) (sp_E_7_forget_16 fhi flo n (sp_E_0_stayIn_16 f4 q8 q9 f12 f13 n g a1)), fun x hx => by rw [uZ_n hx, uZ_n hx, uZ_n hx, uZ_n hx], by rw [uZ_s, if_neg cw], ?_⟩
          simp only [sp_E_1_open_16, slet, updN_s, uZ_s, emn, if_neg hav, a1', if_neg one0, if_neg cw, er]
      rw [← w2] at c3
      have ec := comes0_1_120 (b := b) (n := n) (t := a1) (gl := gl) (m13_0 := m13_0) (m13_1 := m13_1) (wy := wy) (f3 := f3) (r4 := r4) (r9 := r9) (r10 := r10) (r11 := r11) (r34 := r34) (k := k) (r38 := r38) (r39 := r39) (r40 := r40) (r41 := r41) (f44 := upd r44 1 (vp_nar .boolean 0)) (f47 := g47) (f48 := g48) (by rw [upd_s]; exact nar0)
      obtain ⟨cz1, cz2⟩ := copies_zn (f34 := r34) (f35 := sp_EM_forgets n (if sp_EM_isUrgent b f3 a1 = 0 then sp_EM_delays b n r4 r9 r10 r11 m13_0 m13_1 k a1 else k) g47 g48 wy) (a3 := 25 * (120 + 0))
      have hG : GS1 n wy 1 np (fun _ => D3) (updN q1 0 a1) (upd s2 0 (-1)) (upd s3 0 (-1)) (upd s4 0 0) o (updN qs (o + 0) n) FZ (updN r38 (120 + 0) a1) (upd r39 (120 + 0) (-1)) (upd r40 (120 + 0) (-1)) (upd r41 (120 + 0) 0) (sp_EM_copies_zn r34 (sp_EM_forgets n (if sp_EM_isUrgent b f3 a1 = 0 then sp_EM_delays b n r4 r9 r10 r11 m13_0 m13_1 k a1 else k) g47 g48 wy) (25 * (120 + 0))) := by
        intro s hs
        have s0 : s = 0 := by omega
        subst s0
        refine ⟨⟨by rw [updN_s, updN_s], by rw [updN_s]; exact ha, by rw [upd_s, upd_s], by rw [upd_s, upd_s], by rw [upd_s, upd_s]⟩, updN_s, e3, c3, fun i j hi hj => ?_⟩
        show RFC (sp_EM_copies_zn r34 _ (25 * (120 + 0)) (25 * (120 + 0) + (5 * i + j))) (D3 i j)
        rw [cz1 (5 * i + j) (by omega)]
        exact d3 i j hi hj
      refine ⟨_, _, _, _, _, _, _, _, _, _, _, w3, ?_⟩
      have hS : SIM1 n wy np 120 goal gav o fz qs r38 r39 r40 r41 r34 r43 r44 0 (if (nI a1 : Int32) = goal then 1 else 0) 1 0 0 (updN q1 0 a1) (upd s2 0 (-1)) (upd s3 0 (-1)) (upd s4 0 0) FZ (updN qs (o + 0) n) (updN r38 (120 + 0) a1) (upd r39 (120 + 0) (-1)) (upd r40 (120 + 0) (-1)) (upd r41 (120 + 0) 0) (sp_EM_copies_zn r34 (sp_EM_forgets n (if sp_EM_isUrgent b f3 a1 = 0 then sp_EM_delays b n r4 r9 r10 r11 m13_0 m13_1 k a1 else k) g47 g48 wy) (25 * (120 + 0))) (upd r43 1 0) (upd r44 1 (vp_nar .boolean 0)) 1 := by
        refine ⟨fun x hx => ⟨w1 x (by omega), updN_n (by omega)⟩, ⟨⟨fun x hx => ⟨updN_n (by omega), upd_n (by omega), upd_n (by omega), upd_n (by omega)⟩, fun x hx => copies_zn.2 x (by omega)⟩, rfr⟩, ⟨Nat.zero_le _, by decide⟩, ?_⟩
        by_cases cg : (nI a1 : Int32) = goal
        · refine Or.inr ⟨if_pos cg, ⟨0, by omega, ?_⟩, by rw [← cg]; exact hav⟩
          rw [updN_s, show min a1 7 = a1 by omega]; exact cg
        · exact Or.inl ⟨if_neg cg, rfl, ⟨_, hG⟩, Or.inl ⟨rfl, by rw [upd_s]; exact nar0⟩, by rw [upd_s], fun s hs => by rw [show s = 0 by omega, updN_s, show min a1 7 = a1 by omega]; exact cg⟩
      obtain ⟨q1', s2', s3', s4', s5'', gf, gc, gfull, gx, fz', qs', R34, R35, R38, R39, R40, R41, R43, R44, cnt, z1, z2, z3⟩ := growK_1_120 (gl := gl) (gav := gav) h w hb hn hn4 hw hF (t := (updN q1 0 a1, upd s2 0 (-1), upd s3 0 (-1), upd s4 0 0, s5', (if (nI a1 : Int32) = goal then 1 else 0), 1, 0, 0, 0, FZ, updN qs (o + 0) n)) (t' := (sp_EM_copies_zn r34 (sp_EM_forgets n (if sp_EM_isUrgent b f3 a1 = 0 then sp_EM_delays b n r4 r9 r10 r11 m13_0 m13_1 k a1 else k) g47 g48 wy) (25 * (120 + 0)), sp_EM_forgets n (if sp_EM_isUrgent b f3 a1 = 0 then sp_EM_delays b n r4 r9 r10 r11 m13_0 m13_1 k a1 else k) g47 g48 wy, updN r38 (120 + 0) a1, upd r39 (120 + 0) (-1), upd r40 (120 + 0) (-1), upd r41 (120 + 0) 0, upd r43 1 0, upd r44 1 (vp_nar .boolean 0), 1, 0)) ⟨_, _, _, _, _, _, _, _, _, _, _, _, _, _, _, _, _, _, _, _, _, rfl, rfl, hS⟩
      refine ⟨q1', s2', s3', s4', s5'', gf, gc, gfull, gx, fz', qs', R34, R35, R38, R39, R40, R41, R43, R44, cnt, z1, ?_, z3⟩
      rw [← z2]
      simp only [sp_EM_explores_1_120, slet, elf, b1, if_neg one0, ec]
    · exact absurd a4.2.1 (b2 _ a4.1)
  · rcases R1 with ⟨k, D1', b1, b2, b3⟩ | ⟨k, b1, b2⟩
    · exact absurd b3.2.1 (a2 _ b3.1)
    · refine ⟨q1, s2, s3, s4, s5, 0, 0, 0, 0, updZ (updZ fz (o + 0) (sp_E_7_setPoint_16 fbu (fz (o + 0)) n)) (o + 0) g, updN qs (o + 0) n, by simp only [sp_E_1_open_16, slet, updN_s, uZ_s, emn, if_neg hav, a1', if_pos], q1, s2, s3, s4, s5, 0, 0, 0, 0, updZ (updZ fz (o + 0) (sp_E_7_setPoint_16 fbu (fz (o + 0)) n)) (o + 0) g, updN qs (o + 0) n, r34, k, r38, r39, r40, r41, upd r43 1 0, upd r44 1 (vp_nar .boolean 0), 0, itrv_inr (by simp only [sp_E_1_grow_16_L2, if_pos (Nat.le_refl 0)]), by simp only [sp_EM_explores_1_120, slet, elf, b1, if_pos], fun x hx => ⟨by rw [uZ_n (by omega), uZ_n (by omega)], updN_n (by omega)⟩, ⟨FRM1.rf, rfr⟩, ⟨Nat.le_refl 0, Nat.zero_le _⟩, Or.inl ⟨rfl, rfl, ⟨fun _ => pnt u, fun s hs => absurd hs (Nat.not_lt_zero s)⟩, fup, by rw [upd_s], fun s hs => absurd hs (Nat.not_lt_zero s)⟩⟩
theorem comes0_1_400 {b n t gl m13_0 m13_1 : Nat} {wy : Int32} {f3 : Nat → Int32} {r4 r9 r10 : Nat → Nat} {r11 r34 k : Nat → Int32} {r38 : Nat → Nat} {r39 r40 r41 f44 f47 f48 : Nat → Int32} (hf : f44 1 = 0) : sp_EM_comes_1_400_0 b n f3 r4 r9 r10 r11 m13_0 m13_1 r34 k r38 r39 r40 r41 0 f44 f47 f48 t wy gl = (sp_EM_copies_zn r34 (sp_EM_forgets n (if sp_EM_isUrgent b f3 t = 0 then sp_EM_delays b n r4 r9 r10 r11 m13_0 m13_1 k t else k) f47 f48 wy) (25 * (120 + 0)), sp_EM_forgets n (if sp_EM_isUrgent b f3 t = 0 then sp_EM_delays b n r4 r9 r10 r11 m13_0 m13_1 k t else k) f47 f48 wy, updN r38 (120 + 0) t, upd r39 (120 + 0) (-1), upd r40 (120 + 0) (-1), upd r41 (120 + 0) 0, f44, 1) := by
  obtain ⟨z, ez⟩ : ∃ z, sp_EM_forgets n (if sp_EM_isUrgent b f3 t = 0 then sp_EM_delays b n r4 r9 r10 r11 m13_0 m13_1 k t else k) f47 f48 wy = z := ⟨_, rfl⟩
  have ec : sp_EM_comes_1_400_0 b n f3 r4 r9 r10 r11 m13_0 m13_1 r34 k r38 r39 r40 r41 0 f44 f47 f48 t wy gl = itrv default (sp_EM_comes_1_400_0_L1 n r34 r38 r39 r40 r41 0 f44 t gl (sp_EM_forgets n (if sp_EM_isUrgent b f3 t = 0 then sp_EM_delays b n r4 r9 r10 r11 m13_0 m13_1 k t else k) f47 f48 wy)) 0 := rfl
  rw [ec, ez]
  apply itrv_inr
  have c0 : ¬ (0 : Nat) = 400 := by omega
  simp only [sp_EM_comes_1_400_0_L1, slet, if_pos (Nat.le_refl 0), if_neg c0, if_pos hf]
/-- a graph from a point, of the class and of the reference -/
theorem explo_1_400 {b n nc np ne a1 gl o : Nat} {st0 : Int32} {f4 : Nat → Int32} {q5 q6 : Nat → Nat} {f7 : Nat → Int32} {q8 q9 : Nat → Nat} {f10 f11 f12 f13 : Nat → Int32} {f3 : Nat → Int32} {r4 r5 r6 r7 : Nat → Nat} {f8 : Nat → Int32} {r9 r10 : Nat → Nat} {r11 : Nat → Int32} {m12_0 m12_1 m13_0 m13_1 m14_0 m14_1 m15 : Nat} (h : MB b nc np ne st0 f4 q5 q6 f7 q8 q9 f10 f11 f3 r4 r5 r6 r7 f8 r9 r10 r11 (bkN b m12_0 m12_1) (bkN b m13_0 m13_1) (bkN b m14_0 m14_1) m15) (w : WFm nc np ne f4 q8 q9 f10 f11 f12 f13) (hb : b ≤ 1) (hn : nc + 1 ≤ n) (hn4 : n ≤ 5) {wy gav goal : Int32} (hw : wy = 0 → n ≤ 4 ∧ 400 ≤ 120) {hh ll : Nat → Nat} {fhi flo f47 f48 g47 g48 : Nat → Int32} (elf : sp_EM_layForgotten b r4 r7 r9 r10 r11 m12_0 m12_1 m13_0 m13_1 m14_0 m14_1 f47 f48 wy = (g47, g48)) (hF : FGH n hh ll fhi flo g47 g48) (ha : a1 < np) (hav : ¬ (nI a1 : Int32) = gav) {p0 p1 p2 : Int32} {u : Nat → Nat} {fbu : Nat → Int32} (hu : ∀ i, i < n → u i ≤ 60 ∧ fbu i = nI (u i) ∧ (if i = 1 then p0 else if i = 2 then p1 else if i = 3 then p2 else 0 : Int32) = nI (u i)) (u0 : u 0 = 0) (q1 : Nat → Nat) (s2 s3 s4 s5 : Nat → Int32) (fz : Nat → Nat → Int32) (qs : Nat → Nat) (r38 : Nat → Nat) (r39 r40 r41 r34 r35 r43 r44 : Nat → Int32) :
  ∃ k1 k2 k3 k4 k5 kf kc kg kx kz kq, sp_E_1_open_25 wy gav goal 0 n q1 s2 s3 s4 s5 fhi flo f4 q8 q9 f12 f13 fbu o qs fz a1 = (k1, k2, k3, k4, k5, kf, kc, kg, kx, kz, kq) ∧
  ∃ q1' s2' s3' s4' s5' gf gc gfull gx fz' qs' R34 R35 R38 R39 R40 R41 R43 R44 cnt, sp_E_1_grow_25 kc kg kx wy gav goal kf gl k1 k2 k3 k4 k5 fhi flo nc ne f4 q5 q6 f7 q8 q9 f12 f13 o kq kz = (q1', s2', s3', s4', s5', gf, gc, gfull, gx, fz', qs') ∧ sp_EM_explores_1_400 b n f3 r4 r5 r6 r7 f8 r9 r10 r11 m12_0 m12_1 m13_0 m13_1 m14_0 m14_1 r34 (sp_EM_layPoint r35 p0 p1 p2) r38 r39 r40 r41 r43 r44 f47 f48 a1 wy gl gav = (R34, R35, R38, R39, R40, R41, R43, R44, g47, g48, cnt) ∧ SIM1 n wy np 400 goal gav o fz qs r38 r39 r40 r41 r34 r43 r44 0 gf gc gfull gx q1' s2' s3' s4' fz' qs' R38 R39 R40 R41 R34 R43 R44 cnt := by
  have h0 : 0 < n := by omega
  have hn5 : n ≤ 5 := by omega
  have one0 : ¬ (1 : Nat) = 0 := by omega
  have h' := h
  obtain ⟨⟨-, hc3, e13, hp8, -, -⟩, -, -, -, -, -, -, -⟩ := h'
  obtain ⟨x3, x4⟩ := cnr_p h w hb hn ha
  have y2 := cnd_of (a := 14 + a1) w hc3 hn (by omega)
  have c2 : ∀ k, k < min (q8 (14 + a1)) 4 → hCC q9 (14 + a1) k < nc := fun k hk => ((w.1 (14 + a1) (by omega)).2 k (by omega)).2
  have hO : ZOK n 122 120 (pnt u) := pnt_ok (fun i hi => (hu i hi).1) u0 h0
  have r0 : RNG n 288 := ⟨by decide, by
    by_cases c : n ≤ 4
    · exact Or.inl ⟨c, by decide⟩
    · exact Or.inr ⟨hn5, by decide⟩⟩
  have emn : min n 5 = n := by omega
  have N1 := narrowTo_25 (p2 := 0) (f := fun p => p) h0 rfl y2 (zrd_0 (fun k hk => by have := c2 k hk; omega)) rfl hO (by decide) (by decide) (setPoint_25 (fun i hi => ⟨(hu i hi).1, (hu i hi).2.1⟩) (fz (o + 0))) (GRE.of hO.clo)
  have hy := layPoint_z hn5 (fun i hi => ⟨(hu i hi).1, (hu i hi).2.2⟩) r35
  have M1 := holdsAll_p hn5 e13 hp8 ha x3 x4 hy
  have R1 := cl_tgs h0 M1 (hO.rb (Int.le_refl _) (Int.le_refl _)) hO.clo.1 (fun k hk => by have := c2 k hk; omega) (fun k hk => (y2 k hk).2.2.2.2.1) (fun k hk => (y2 k hk).2.2.2.2.2) (r0.le (by decide) (by decide)) (by decide)
  have fup : FUL 0 (upd r44 1 (vp_nar .boolean 0) 1) 0 400 := Or.inl ⟨rfl, by rw [upd_s]; exact nar0⟩
  have rfr : ∀ j, j ≠ 1 → upd r43 1 0 j = r43 j ∧ upd r44 1 (vp_nar .boolean 0) j = r44 j := fun j hj => ⟨upd_n hj, upd_n hj⟩
  rcases N1 with ⟨g, D1, a1', a2, a3, a4⟩ | ⟨g, a1', a2⟩
  · rcases R1 with ⟨k, D1', b1, b2, b3⟩ | ⟨k, b1, b2⟩
    · have hk : ZR n k D1 := b2.eq (fun i j hi hj => b3.uniq a4 i j hi hj)
      have l1 := ((tgs_le h0 (fun k hk => by have := c2 k hk; omega) _ (Nat.le_refl _)).mp a4.2.1).2
      obtain ⟨D2, c2', d2, e2⟩ := stays_25 h w hb hn ha a3 r0 (by decide) a2 hk l1
      obtain ⟨D3, c3, d3, e3⟩ := fgW_25 (s' := 0) hn5 h0 hF (fun c => by unfold UU VV; rw [if_pos c, if_pos c]; exact ⟨by decide, by decide⟩) e2 c2' d2
      obtain ⟨s5', er⟩ := record0_25 (gf := 0) (a0 := a1) (ggoal := goal) (q1 := q1) (s2 := s2) (s3 := s3) (s4 := s4) (s5 := s5)
      obtain ⟨FZ, w1, w2, w3⟩ : ∃ FZ, (∀ x, x ≠ o + 0 → FZ x = fz x) ∧ FZ (o + 0) = (if wy = 0 then sp_E_0_stayIn_25 f4 q8 q9 f12 f13 n g a1 else sp_E_7_forget_25 fhi flo n (sp_E_0_stayIn_25 f4 q8 q9 f12 f13 n g a1)) ∧ sp_E_1_open_25 wy gav goal 0 n q1 s2 s3 s4 s5 fhi flo f4 q8 q9 f12 f13 fbu o qs fz a1 = (updN q1 0 a1, upd s2 0 (-1), upd s3 0 (-1), upd s4 0 0, s5', (if (nI a1 : Int32) = goal then 1 else 0), 0 + 1, 0, 0, FZ, updN qs (o + 0) n) := by
        by_cases cw : wy = 0
        · refine ⟨updZ (updZ (updZ fz (o + 0) (sp_E_7_setPoint_25 fbu (fz (o + 0)) n)) (o + 0) g) (o + 0) (sp_E_0_stayIn_25 f4 q8 q9 f12 f13 n g a1), fun x hx => by rw [uZ_n hx, uZ_n hx, uZ_n hx], by rw [uZ_s, if_pos cw], ?_⟩
          simp only [sp_E_1_open_25, slet, updN_s, uZ_s, emn, if_neg hav, a1', if_neg one0, if_pos cw, er]
        · refine ⟨updZ (updZ (updZ (updZ fz (o + 0) (sp_E_7_setPoint_25 fbu (fz (o + 0)) n)) (o + 0) g) (o + 0) (sp_E_0_stayIn_25 f4 q8 q9 f12 f13 n g a1)) (o + 0) (sp_E_7_forget_25 fhi flo n (sp_E_0_stayIn_25 f4 q8 q9 f12 f13 n g a1)), fun x hx => by rw [uZ_n hx, uZ_n hx, uZ_n hx, uZ_n hx], by rw [uZ_s, if_neg cw], ?_⟩
          simp only [sp_E_1_open_25, slet, updN_s, uZ_s, emn, if_neg hav, a1', if_neg one0, if_neg cw, er]
      rw [← w2] at c3
      have ec := comes0_1_400 (b := b) (n := n) (t := a1) (gl := gl) (m13_0 := m13_0) (m13_1 := m13_1) (wy := wy) (f3 := f3) (r4 := r4) (r9 := r9) (r10 := r10) (r11 := r11) (r34 := r34) (k := k) (r38 := r38) (r39 := r39) (r40 := r40) (r41 := r41) (f44 := upd r44 1 (vp_nar .boolean 0)) (f47 := g47) (f48 := g48) (by rw [upd_s]; exact nar0)
      obtain ⟨cz1, cz2⟩ := copies_zn (f34 := r34) (f35 := sp_EM_forgets n (if sp_EM_isUrgent b f3 a1 = 0 then sp_EM_delays b n r4 r9 r10 r11 m13_0 m13_1 k a1 else k) g47 g48 wy) (a3 := 25 * (120 + 0))
      have hG : GS1 n wy 1 np (fun _ => D3) (updN q1 0 a1) (upd s2 0 (-1)) (upd s3 0 (-1)) (upd s4 0 0) o (updN qs (o + 0) n) FZ (updN r38 (120 + 0) a1) (upd r39 (120 + 0) (-1)) (upd r40 (120 + 0) (-1)) (upd r41 (120 + 0) 0) (sp_EM_copies_zn r34 (sp_EM_forgets n (if sp_EM_isUrgent b f3 a1 = 0 then sp_EM_delays b n r4 r9 r10 r11 m13_0 m13_1 k a1 else k) g47 g48 wy) (25 * (120 + 0))) := by
        intro s hs
        have s0 : s = 0 := by omega
        subst s0
        refine ⟨⟨by rw [updN_s, updN_s], by rw [updN_s]; exact ha, by rw [upd_s, upd_s], by rw [upd_s, upd_s], by rw [upd_s, upd_s]⟩, updN_s, e3, c3, fun i j hi hj => ?_⟩
        show RFC (sp_EM_copies_zn r34 _ (25 * (120 + 0)) (25 * (120 + 0) + (5 * i + j))) (D3 i j)
        rw [cz1 (5 * i + j) (by omega)]
        exact d3 i j hi hj
      refine ⟨_, _, _, _, _, _, _, _, _, _, _, w3, ?_⟩
      have hS : SIM1 n wy np 400 goal gav o fz qs r38 r39 r40 r41 r34 r43 r44 0 (if (nI a1 : Int32) = goal then 1 else 0) 1 0 0 (updN q1 0 a1) (upd s2 0 (-1)) (upd s3 0 (-1)) (upd s4 0 0) FZ (updN qs (o + 0) n) (updN r38 (120 + 0) a1) (upd r39 (120 + 0) (-1)) (upd r40 (120 + 0) (-1)) (upd r41 (120 + 0) 0) (sp_EM_copies_zn r34 (sp_EM_forgets n (if sp_EM_isUrgent b f3 a1 = 0 then sp_EM_delays b n r4 r9 r10 r11 m13_0 m13_1 k a1 else k) g47 g48 wy) (25 * (120 + 0))) (upd r43 1 0) (upd r44 1 (vp_nar .boolean 0)) 1 := by
        refine ⟨fun x hx => ⟨w1 x (by omega), updN_n (by omega)⟩, ⟨⟨fun x hx => ⟨updN_n (by omega), upd_n (by omega), upd_n (by omega), upd_n (by omega)⟩, fun x hx => copies_zn.2 x (by omega)⟩, rfr⟩, ⟨Nat.zero_le _, by decide⟩, ?_⟩
        by_cases cg : (nI a1 : Int32) = goal
        · refine Or.inr ⟨if_pos cg, ⟨0, by omega, ?_⟩, by rw [← cg]; exact hav⟩
          rw [updN_s, show min a1 7 = a1 by omega]; exact cg
        · exact Or.inl ⟨if_neg cg, rfl, ⟨_, hG⟩, Or.inl ⟨rfl, by rw [upd_s]; exact nar0⟩, by rw [upd_s], fun s hs => by rw [show s = 0 by omega, updN_s, show min a1 7 = a1 by omega]; exact cg⟩
      obtain ⟨q1', s2', s3', s4', s5'', gf, gc, gfull, gx, fz', qs', R34, R35, R38, R39, R40, R41, R43, R44, cnt, z1, z2, z3⟩ := growK_1_400 (gl := gl) (gav := gav) h w hb hn hn4 hw hF (t := (updN q1 0 a1, upd s2 0 (-1), upd s3 0 (-1), upd s4 0 0, s5', (if (nI a1 : Int32) = goal then 1 else 0), 1, 0, 0, 0, FZ, updN qs (o + 0) n)) (t' := (sp_EM_copies_zn r34 (sp_EM_forgets n (if sp_EM_isUrgent b f3 a1 = 0 then sp_EM_delays b n r4 r9 r10 r11 m13_0 m13_1 k a1 else k) g47 g48 wy) (25 * (120 + 0)), sp_EM_forgets n (if sp_EM_isUrgent b f3 a1 = 0 then sp_EM_delays b n r4 r9 r10 r11 m13_0 m13_1 k a1 else k) g47 g48 wy, updN r38 (120 + 0) a1, upd r39 (120 + 0) (-1), upd r40 (120 + 0) (-1), upd r41 (120 + 0) 0, upd r43 1 0, upd r44 1 (vp_nar .boolean 0), 1, 0)) ⟨_, _, _, _, _, _, _, _, _, _, _, _, _, _, _, _, _, _, _, _, _, rfl, rfl, hS⟩
      refine ⟨q1', s2', s3', s4', s5'', gf, gc, gfull, gx, fz', qs', R34, R35, R38, R39, R40, R41, R43, R44, cnt, z1, ?_, z3⟩
      rw [← z2]
      simp only [sp_EM_explores_1_400, slet, elf, b1, if_neg one0, ec]
    · exact absurd a4.2.1 (b2 _ a4.1)
  · rcases R1 with ⟨k, D1', b1, b2, b3⟩ | ⟨k, b1, b2⟩
    · exact absurd b3.2.1 (a2 _ b3.1)
    · refine ⟨q1, s2, s3, s4, s5, 0, 0, 0, 0, updZ (updZ fz (o + 0) (sp_E_7_setPoint_25 fbu (fz (o + 0)) n)) (o + 0) g, updN qs (o + 0) n, by simp only [sp_E_1_open_25, slet, updN_s, uZ_s, emn, if_neg hav, a1', if_pos], q1, s2, s3, s4, s5, 0, 0, 0, 0, updZ (updZ fz (o + 0) (sp_E_7_setPoint_25 fbu (fz (o + 0)) n)) (o + 0) g, updN qs (o + 0) n, r34, k, r38, r39, r40, r41, upd r43 1 0, upd r44 1 (vp_nar .boolean 0), 0, itrv_inr (by simp only [sp_E_1_grow_25_L2, if_pos (Nat.le_refl 0)]), by simp only [sp_EM_explores_1_400, slet, elf, b1, if_pos], fun x hx => ⟨by rw [uZ_n (by omega), uZ_n (by omega)], updN_n (by omega)⟩, ⟨FRM1.rf, rfr⟩, ⟨Nat.le_refl 0, Nat.zero_le _⟩, Or.inl ⟨rfl, rfl, ⟨fun _ => pnt u, fun s hs => absurd hs (Nat.not_lt_zero s)⟩, fup, by rw [upd_s], fun s hs => absurd hs (Nat.not_lt_zero s)⟩⟩
theorem if3z {i : Nat} : (if i = 1 then 0 else if i = 2 then 0 else if i = 3 then 0 else 0 : Int32) = nI 0 := by
  split
  · rfl
  · split
    · rfl
    · split <;> rfl
theorem hasP_1 {q38 : Nat → Nat} {cnt : Nat} {p : Int32} : (sp_EM_hasPlace_1 q38 cnt p = 1 ∧ HGL1 p cnt q38) ∨ (sp_EM_hasPlace_1 q38 cnt p = 0 ∧ ∀ s, s < cnt → ¬ (nI (min (q38 (120 + s)) 7) : Int32) = p) := by
  refine itrv_inv (d := default) (f := sp_EM_hasPlace_1_L1 q38 cnt p) (fun k => k ≤ cnt ∧ ∀ s, s < k → ¬ (nI (min (q38 (120 + s)) 7) : Int32) = p) (fun r => (r = 1 ∧ HGL1 p cnt q38) ∨ (r = 0 ∧ ∀ s, s < cnt → ¬ (nI (min (q38 (120 + s)) 7) : Int32) = p)) (fun k => cnt - k) ?_ _ 0 (Nat.le_refl _) ⟨Nat.zero_le _, fun s hs => absurd hs (Nat.not_lt_zero s)⟩
  rintro k ⟨hk, hI⟩
  by_cases ce : cnt ≤ k
  · exact Or.inr ⟨0, by simp only [sp_EM_hasPlace_1_L1, if_pos ce], Or.inr ⟨rfl, fun s hs => hI s (by omega)⟩⟩
  · by_cases c : (nI (min (q38 (120 + k)) 7) : Int32) = p
    · exact Or.inr ⟨1, by simp only [sp_EM_hasPlace_1_L1, slet, if_neg ce, if_pos c], Or.inl ⟨rfl, k, by omega, c⟩⟩
    · refine Or.inl ⟨k + 1, by simp only [sp_EM_hasPlace_1_L1, slet, if_neg ce, if_neg c], ⟨by omega, fun s hs => ?_⟩, by show cnt - (k + 1) < cnt - k; omega⟩
      by_cases e : s = k
      · rw [e]; exact c
      · exact hI s (by omega)
theorem hasP_sim {n : Nat} {wy : Int32} {np room : Nat} {goal gav : Int32} {o : Nat} {fz0 : Nat → Nat → Int32} {qs0 : Nat → Nat} {r38 : Nat → Nat} {r39 r40 r41 r34 r43 r44 : Nat → Int32} {lb gf gc gfull : Nat} {gx : Int32} {q1 : Nat → Nat} {s2 s3 s4 : Nat → Int32} {fz : Nat → Nat → Int32} {qs : Nat → Nat} {R38 : Nat → Nat} {R39 R40 R41 R34 R43 R44 : Nat → Int32} {cnt : Nat} (h : SIM1 n wy np room goal gav o fz0 qs0 r38 r39 r40 r41 r34 r43 r44 lb gf gc gfull gx q1 s2 s3 s4 fz qs R38 R39 R40 R41 R34 R43 R44 cnt) : sp_EM_hasPlace_1 R38 cnt goal = gf ∧ gf ≤ 1 ∧ (goal = gav → gf = 0) := by
  obtain ⟨-, -, -, h⟩ := h
  rcases h with ⟨g0, -, -, -, -, ng⟩ | ⟨g1, hg, ga⟩
  · rcases hasP_1 (q38 := R38) (cnt := cnt) (p := goal) with ⟨e, z⟩ | ⟨e, -⟩
    · obtain ⟨s, h1, h2⟩ := z
      exact absurd h2 (ng s h1)
    · exact ⟨e.trans g0.symm, by omega, fun _ => g0⟩
  · rcases hasP_1 (q38 := R38) (cnt := cnt) (p := goal) with ⟨e, -⟩ | ⟨e, z⟩
    · exact ⟨e.trans g1.symm, by omega, fun z => absurd z ga⟩
    · obtain ⟨s, h1, h2⟩ := hg
      exact absurd h2 (z s h1)
theorem bz_16 {st0 gf gsz o : Nat} {f4 : Nat → Int32} {q8 q9 : Nat → Nat} {f12 f13 : Nat → Int32} {gway gav ggoal : Int32} {q1 : Nat → Nat} {s2 s3 s4 s5 fhi flo fbu : Nat → Int32} {qs : Nat → Nat} {fz : Nat → Nat → Int32} : ∃ fb : Nat → Int32, (∀ i, i < 5 → fb i = 0) ∧ ∀ k1 k2 k3 k4 k5 kf kc kg kx kz kq, sp_E_1_open_16 gway gav ggoal gf gsz q1 s2 s3 s4 s5 fhi flo f4 q8 q9 f12 f13 fb o qs fz st0 = (k1, k2, k3, k4, k5, kf, kc, kg, kx, kz, kq) → sp_E_8_beginAtZero_16 st0 f4 q8 q9 f12 f13 gway gav ggoal gf gsz q1 s2 s3 s4 s5 fhi flo fbu o qs fz = (k1, k2, k3, k4, k5, fb, kf, kc, kg, kx, kz, kq) := by
  refine itrv_inv (d := default) (f := sp_E_8_beginAtZero_16_L1 st0 f4 q8 q9 f12 f13 gway gav ggoal gf gsz q1 s2 s3 s4 s5 fhi flo o qs fz) (fun t => ∃ g k, t = (g, k) ∧ k ≤ 5 ∧ ∀ i, i < k → g i = 0) (fun r => ∃ fb : Nat → Int32, (∀ i, i < 5 → fb i = 0) ∧ ∀ k1 k2 k3 k4 k5 kf kc kg kx kz kq, sp_E_1_open_16 gway gav ggoal gf gsz q1 s2 s3 s4 s5 fhi flo f4 q8 q9 f12 f13 fb o qs fz st0 = (k1, k2, k3, k4, k5, kf, kc, kg, kx, kz, kq) → r = (k1, k2, k3, k4, k5, fb, kf, kc, kg, kx, kz, kq)) (fun (_, k) => 5 - k) ?_ _ (fbu, 0) (Nat.le_refl _) ⟨fbu, 0, rfl, Nat.zero_le _, fun i hi => absurd hi (Nat.not_lt_zero i)⟩
  rintro _ ⟨g, k, rfl, hk, hI⟩
  by_cases ce : 5 ≤ k
  · obtain ⟨⟨k1, k2, k3, k4, k5, kf, kc, kg, kx, kz, kq⟩, eo⟩ : ∃ x, sp_E_1_open_16 gway gav ggoal gf gsz q1 s2 s3 s4 s5 fhi flo f4 q8 q9 f12 f13 g o qs fz st0 = x := ⟨_, rfl⟩
    refine Or.inr ⟨(k1, k2, k3, k4, k5, g, kf, kc, kg, kx, kz, kq), by simp only [sp_E_8_beginAtZero_16_L1, slet, if_pos ce, eo], g, fun i hi => hI i (by omega), fun k1' k2' k3' k4' k5' kf' kc' kg' kx' kz' kq' e => ?_⟩
    rw [eo] at e
    simp only [Prod.mk.injEq] at e
    obtain ⟨rfl, rfl, rfl, rfl, rfl, rfl, rfl, rfl, rfl, rfl, rfl⟩ := e
    rfl
  · refine Or.inl ⟨(upd g k 0, k + 1), by simp only [sp_E_8_beginAtZero_16_L1, slet, if_neg ce], ⟨_, _, rfl, by omega, fun i hi => ?_⟩, by show 5 - (k + 1) < 5 - k; omega⟩
    by_cases c : i = k
    · rw [c, upd_s]
    · rw [upd_n c]; exact hI i (by omega)
theorem bz_25 {st0 gf gsz o : Nat} {f4 : Nat → Int32} {q8 q9 : Nat → Nat} {f12 f13 : Nat → Int32} {gway gav ggoal : Int32} {q1 : Nat → Nat} {s2 s3 s4 s5 fhi flo fbu : Nat → Int32} {qs : Nat → Nat} {fz : Nat → Nat → Int32} : ∃ fb : Nat → Int32, (∀ i, i < 5 → fb i = 0) ∧ ∀ k1 k2 k3 k4 k5 kf kc kg kx kz kq, sp_E_1_open_25 gway gav ggoal gf gsz q1 s2 s3 s4 s5 fhi flo f4 q8 q9 f12 f13 fb o qs fz st0 = (k1, k2, k3, k4, k5, kf, kc, kg, kx, kz, kq) → sp_E_8_beginAtZero_25 st0 f4 q8 q9 f12 f13 gway gav ggoal gf gsz q1 s2 s3 s4 s5 fhi flo fbu o qs fz = (k1, k2, k3, k4, k5, fb, kf, kc, kg, kx, kz, kq) := by
  refine itrv_inv (d := default) (f := sp_E_8_beginAtZero_25_L1 st0 f4 q8 q9 f12 f13 gway gav ggoal gf gsz q1 s2 s3 s4 s5 fhi flo o qs fz) (fun t => ∃ g k, t = (g, k) ∧ k ≤ 5 ∧ ∀ i, i < k → g i = 0) (fun r => ∃ fb : Nat → Int32, (∀ i, i < 5 → fb i = 0) ∧ ∀ k1 k2 k3 k4 k5 kf kc kg kx kz kq, sp_E_1_open_25 gway gav ggoal gf gsz q1 s2 s3 s4 s5 fhi flo f4 q8 q9 f12 f13 fb o qs fz st0 = (k1, k2, k3, k4, k5, kf, kc, kg, kx, kz, kq) → r = (k1, k2, k3, k4, k5, fb, kf, kc, kg, kx, kz, kq)) (fun (_, k) => 5 - k) ?_ _ (fbu, 0) (Nat.le_refl _) ⟨fbu, 0, rfl, Nat.zero_le _, fun i hi => absurd hi (Nat.not_lt_zero i)⟩
  rintro _ ⟨g, k, rfl, hk, hI⟩
  by_cases ce : 5 ≤ k
  · obtain ⟨⟨k1, k2, k3, k4, k5, kf, kc, kg, kx, kz, kq⟩, eo⟩ : ∃ x, sp_E_1_open_25 gway gav ggoal gf gsz q1 s2 s3 s4 s5 fhi flo f4 q8 q9 f12 f13 g o qs fz st0 = x := ⟨_, rfl⟩
    refine Or.inr ⟨(k1, k2, k3, k4, k5, g, kf, kc, kg, kx, kz, kq), by simp only [sp_E_8_beginAtZero_25_L1, slet, if_pos ce, eo], g, fun i hi => hI i (by omega), fun k1' k2' k3' k4' k5' kf' kc' kg' kx' kz' kq' e => ?_⟩
    rw [eo] at e
    simp only [Prod.mk.injEq] at e
    obtain ⟨rfl, rfl, rfl, rfl, rfl, rfl, rfl, rfl, rfl, rfl, rfl⟩ := e
    rfl
  · refine Or.inl ⟨(upd g k 0, k + 1), by simp only [sp_E_8_beginAtZero_25_L1, slet, if_neg ce], ⟨_, _, rfl, by omega, fun i hi => ?_⟩, by show 5 - (k + 1) < 5 - k; omega⟩
    by_cases c : i = k
    · rw [c, upd_s]
    · rw [upd_n c]; exact hI i (by omega)
/-- whether a place can be come to: the class, the reference -/
theorem reach_same {b nc np ne st o : Nat} {st0 : Int32} {f4 : Nat → Int32} {q5 q6 : Nat → Nat} {f7 : Nat → Int32} {q8 q9 : Nat → Nat} {f10 f11 f12 f13 f14 f15 f16 : Nat → Int32} {f3 : Nat → Int32} {r4 r5 r6 r7 : Nat → Nat} {f8 : Nat → Int32} {r9 r10 : Nat → Nat} {r11 : Nat → Int32} {m12_0 m12_1 m13_0 m13_1 m14_0 m14_1 m15_0 m15_1 : Nat} (h : MB b nc np ne st0 f4 q5 q6 f7 q8 q9 f10 f11 f3 r4 r5 r6 r7 f8 r9 r10 r11 (bkN b m12_0 m12_1) (bkN b m13_0 m13_1) (bkN b m14_0 m14_1) (bkN b m15_0 m15_1)) (w : WFm nc np ne f4 q8 q9 f10 f11 f12 f13) (hs : MS nc np q8 q9 f10 f11 f14 f15 f16) (hb : b ≤ 1) (hu : ∀ i, i < np → ∀ j, j < q8 (14 + i) → r10 (80 * b + 56 + 3 * i + j) ≤ 1) (hst : st < np) {goal gav : Int32} (hav : ¬ (nI st : Int32) = gav) (q1 : Nat → Nat) (s2 s3 s4 s5 hit lot fbu : Nat → Int32) (fz : Nat → Nat → Int32) (qs : Nat → Nat) (r38 : Nat → Nat) (r39 r40 r41 r34 r35 r43 r44 f47 f48 : Nat → Int32) :
  ∃ gf z1 z2 z3 z4 z5 hi lo fb tl tsz tc tfull tx tway fz' qs' R34 R35 R38 R39 R40 R41 R43 R44 g47 g48 cnt, sp_E_8_canReach nc ne st f4 q5 q6 f7 q8 q9 f12 f13 f14 f15 f16 q1 s2 s3 s4 s5 hit lot fbu o qs fz goal gav = (gf, z1, z2, z3, z4, z5, hi, lo, fb, gav, goal, gf, tl, tsz, tc, tfull, tx, tway, fz', qs') ∧ sp_EM_explores_1_120 b (nc + 1) f3 r4 r5 r6 r7 f8 r9 r10 r11 m12_0 m12_1 m13_0 m13_1 m14_0 m14_1 r34 (sp_EM_layPoint r35 0 0 0) r38 r39 r40 r41 r43 r44 f47 f48 st 2 1 gav = (R34, R35, R38, R39, R40, R41, R43, R44, g47, g48, cnt) ∧ sp_EM_hasPlace_1 R38 cnt goal = gf ∧ gf ≤ 1 ∧ (goal = gav → gf = 0) ∧ (∀ x, (x < o ∨ o + 120 < x) → fz' x = fz x ∧ qs' x = qs x) ∧ RFR1 r38 r39 r40 r41 r34 r43 r44 R38 R39 R40 R41 R34 R43 R44 := by
  have hc3 : nc ≤ 3 := h.1.2.1
  obtain ⟨x, y, ep, hxy⟩ := plan_16 hs (by omega) hc3 2 1 (nc + 1) (Nat.le_refl _) hit lot
  obtain ⟨x', y', elf, hxy'⟩ := forg_z h hb hu 2 f47 f48
  have hF := fgh_of w (by omega) hxy hxy'
  obtain ⟨fb, hfb, hbz⟩ := bz_16 (st0 := st) (gf := 0) (gsz := nc + 1) (o := o) (f4 := f4) (q8 := q8) (q9 := q9) (f12 := f12) (f13 := f13) (gway := 2) (gav := gav) (ggoal := goal) (q1 := q1) (s2 := s2) (s3 := s3) (s4 := s4) (s5 := s5) (fhi := x) (flo := y) (fbu := fbu) (qs := qs) (fz := fz)
  obtain ⟨k1, k2, k3, k4, k5, kf, kc, kg, kx, kz, kq, eo, z1, z2, z3, z4, z5, gf, gc, gfull, gx, fz', qs', R34, R35, R38, R39, R40, R41, R43, R44, cnt, eg, ee, hS⟩ := explo_1_120 (gl := 1) (o := o) (wy := 2) (gav := gav) (goal := goal) h w hb (Nat.le_refl _) (by omega) (fun c => absurd c (by decide)) elf hF hst hav (p0 := 0) (p1 := 0) (p2 := 0) (u := fun _ => 0) (fbu := fb) (fun i hi => ⟨by omega, hfb i (by omega), if3z⟩) rfl q1 s2 s3 s4 s5 fz qs r38 r39 r40 r41 r34 r35 r43 r44
  obtain ⟨p1, p2, p3⟩ := hasP_sim hS
  refine ⟨gf, z1, z2, z3, z4, z5, x, y, fb, 1, nc + 1, gc, gfull, gx, 2, fz', qs', R34, R35, R38, R39, R40, R41, R43, R44, x', y', cnt, ?_, ee, p1, p2, p3, hS.1, hS.2.1⟩
  simp only [sp_E_8_canReach, slet, ep, hbz _ _ _ _ _ _ _ _ _ _ _ eo, eg]
theorem bit_of {g : Nat} (h : g ≤ 1) : sp_E_8_bit (nI g) = g := by
  rcases (show g = 0 ∨ g = 1 by omega) with rfl | rfl
  · unfold sp_E_8_bit; rw [if_pos (by decide)]
  · unfold sp_E_8_bit; rw [if_neg (by decide)]
theorem np_of {p : Int32} {np : Nat} (hp : np ≤ 8) (h : (0 : Int32) ≤ p ∧ p < nI np) : ∃ k, k < np ∧ p = nI k ∧ p.toNatClampNeg = k := by
  obtain ⟨j, hj, rfl⟩ := nI_of (Int32.not_lt.mpr h.1)
  exact ⟨j, (nI_ltI hj (by omega)).mp h.2, rfl, nI_clamp hj⟩
/-- avoids: the class, the reference -/
theorem avoids_same {b nc np ne st o : Nat} {st0 : Int32} {f4 : Nat → Int32} {q5 q6 : Nat → Nat} {f7 : Nat → Int32} {q8 q9 : Nat → Nat} {f10 f11 f12 f13 f14 f15 f16 : Nat → Int32} {f3 : Nat → Int32} {r4 r5 r6 r7 : Nat → Nat} {f8 : Nat → Int32} {r9 r10 : Nat → Nat} {r11 : Nat → Int32} {m12_0 m12_1 m13_0 m13_1 m14_0 m14_1 m15_0 m15_1 : Nat} (h : MB b nc np ne st0 f4 q5 q6 f7 q8 q9 f10 f11 f3 r4 r5 r6 r7 f8 r9 r10 r11 (bkN b m12_0 m12_1) (bkN b m13_0 m13_1) (bkN b m14_0 m14_1) (bkN b m15_0 m15_1)) (w : WFm nc np ne f4 q8 q9 f10 f11 f12 f13) (hs : MS nc np q8 q9 f10 f11 f14 f15 f16) (hb : b ≤ 1) (hu : ∀ i, i < np → ∀ j, j < q8 (14 + i) → r10 (80 * b + 56 + 3 * i + j) ≤ 1) (hst : st < np) (e15 : bkN b m15_0 m15_1 = st + 1) (tc tfull : Nat) (tx tway tav tgoal : Int32) (tfound tl tsz : Nat) (q1 : Nat → Nat) (s2 s3 s4 s5 hit lot fbu : Nat → Int32) (fz : Nat → Nat → Int32) (qs : Nat → Nat) (x46 m42 : Nat) (r38 : Nat → Nat) (r39 r40 r41 r34 r35 r43 r44 f47 f48 : Nat → Int32) (p0 p1 : Int32) :
  ∃ r z1 z2 z3 z4 z5 hi lo fb av go fo l sz c fu x wa fz' qs' R34 R35 R38 R39 R40 R41 R43 R44 g47 g48 cnt th y46, sp_E_8_avoids nc np ne st f4 q5 q6 f7 q8 q9 f12 f13 f14 f15 f16 tc tfull tx tway tav tgoal tfound tl tsz q1 s2 s3 s4 s5 hit lot fbu o qs fz p0 p1 = (r, z1, z2, z3, z4, z5, hi, lo, fb, av, go, fo, l, sz, c, fu, x, wa, fz', qs') ∧ sp_EM_avoids b x46 f3 r4 r5 r6 r7 f8 r9 r10 r11 m12_0 m12_1 m13_0 m13_1 m14_0 m14_1 m15_0 m15_1 r34 r35 r38 r39 r40 r41 m42 r43 r44 f47 f48 p0 p1 = (r, R34, R35, R38, R39, R40, R41, R43, R44, g47, g48, cnt, th, y46) ∧ (∀ x, (x < o ∨ o + 120 < x) → fz' x = fz x ∧ qs' x = qs x) ∧ RFR1 r38 r39 r40 r41 r34 r43 r44 R38 R39 R40 R41 R34 R43 R44 := by
  have hp8 := h.1.2.2.2.1
  have e13 : bkN b m13_0 m13_1 = np := h.1.2.2.1
  have ec : sp_EM_clocks b m12_0 m12_1 = nc := h.1.1
  have e15' : (if b = 0 then m15_0 else m15_1) = st + 1 := e15
  have rf : RFR1 r38 r39 r40 r41 r34 r43 r44 r38 r39 r40 r41 r34 r43 r44 := ⟨FRM1.rf, fun _ _ => ⟨rfl, rfl⟩⟩
  by_cases c0 : (0 : Int32) ≤ p0 ∧ p0 < nI np
  · by_cases c1 : (0 : Int32) ≤ p1 ∧ p1 < nI np
    · obtain ⟨k, hk, ek, ck⟩ := np_of hp8 c0
      obtain ⟨j, hj, ej, cj⟩ := np_of hp8 c1
      by_cases cs : k = st
      · have go : (nI st : Int32) = nI k := by rw [cs]
        obtain ⟨x, y, ep, hxy⟩ := plan_16 hs (by omega) h.1.2.1 2 1 (nc + 1) (Nat.le_refl _) hit lot
        obtain ⟨fb, hfb, hbz⟩ := bz_16 (st0 := st) (gf := 0) (gsz := nc + 1) (o := o) (f4 := f4) (q8 := q8) (q9 := q9) (f12 := f12) (f13 := f13) (gway := 2) (gav := nI k) (ggoal := nI j) (q1 := q1) (s2 := s2) (s3 := s3) (s4 := s4) (s5 := s5) (fhi := x) (flo := y) (fbu := fbu) (qs := qs) (fz := fz)
        have eo : sp_E_1_open_16 2 (nI k) (nI j) 0 (nc + 1) q1 s2 s3 s4 s5 x y f4 q8 q9 f12 f13 fb o qs fz st = (q1, s2, s3, s4, s5, 0, 0, 0, 0, updZ fz (o + 0) (sp_E_7_setPoint_16 fb (fz (o + 0)) (nc + 1)), updN qs (o + 0) (nc + 1)) := by
          simp only [sp_E_1_open_16, slet, if_pos go]
        have eg : sp_E_1_grow_16 0 0 0 2 (nI k) (nI j) 0 1 q1 s2 s3 s4 s5 x y nc ne f4 q5 q6 f7 q8 q9 f12 f13 o (updN qs (o + 0) (nc + 1)) (updZ fz (o + 0) (sp_E_7_setPoint_16 fb (fz (o + 0)) (nc + 1))) = (q1, s2, s3, s4, s5, 0, 0, 0, 0, updZ fz (o + 0) (sp_E_7_setPoint_16 fb (fz (o + 0)) (nc + 1)), updN qs (o + 0) (nc + 1)) :=
          itrv_inr (by simp only [sp_E_1_grow_16_L2, if_pos (Nat.le_refl 0)])
        have ecr : sp_E_8_canReach nc ne st f4 q5 q6 f7 q8 q9 f12 f13 f14 f15 f16 q1 s2 s3 s4 s5 hit lot fbu o qs fz (nI j) (nI k) = (0, q1, s2, s3, s4, s5, x, y, fb, nI k, nI j, 0, 1, nc + 1, 0, 0, 0, 2, updZ fz (o + 0) (sp_E_7_setPoint_16 fb (fz (o + 0)) (nc + 1)), updN qs (o + 0) (nc + 1)) := by
          simp only [sp_E_8_canReach, slet, ep, hbz _ _ _ _ _ _ _ _ _ _ _ eo, eg]
        have eE : sp_E_8_avoids nc np ne st f4 q5 q6 f7 q8 q9 f12 f13 f14 f15 f16 tc tfull tx tway tav tgoal tfound tl tsz q1 s2 s3 s4 s5 hit lot fbu o qs fz p0 p1 = (0, q1, s2, s3, s4, s5, x, y, fb, nI k, nI j, 0, 1, nc + 1, 0, 0, 0, 2, updZ fz (o + 0) (sp_E_7_setPoint_16 fb (fz (o + 0)) (nc + 1)), updN qs (o + 0) (nc + 1)) := by
          simp only [sp_E_8_avoids, slet, if_pos c0, if_pos c1, ck, cj, ecr, bit_of (Nat.zero_le 1)]
          exact rfl
        have eM : sp_EM_avoids b x46 f3 r4 r5 r6 r7 f8 r9 r10 r11 m12_0 m12_1 m13_0 m13_1 m14_0 m14_1 m15_0 m15_1 r34 r35 r38 r39 r40 r41 m42 r43 r44 f47 f48 p0 p1 = (0, r34, r35, r38, r39, r40, r41, r43, r44, f47, f48, m42, 0, x46) := by
          by_cases ckj : k = j
          · simp only [sp_EM_avoids, slet, e13, if_pos c0, if_pos c1, ck, cj, if_pos ckj]
          · simp only [sp_EM_avoids, slet, e13, if_pos c0, if_pos c1, ck, cj, if_neg ckj, e15', Nat.add_sub_cancel, if_pos cs]
        exact ⟨0, q1, s2, s3, s4, s5, x, y, fb, _, _, _, _, _, _, _, _, _, _, _, r34, r35, r38, r39, r40, r41, r43, r44, f47, f48, m42, _, _, eE, eM, fun v hv => ⟨uZ_n (by omega), updN_n (by omega)⟩, rf⟩
      · have hav : ¬ (nI st : Int32) = nI k := fun z => cs ((nI_eq (by omega) (by omega)).mp z).symm
        obtain ⟨gf, z1, z2, z3, z4, z5, hi, lo, fb, l, sz, c, fu, x, wa, fz', qs', R34, R35, R38, R39, R40, R41, R43, R44, g47, g48, cnt, e1, e2, e3, e4, e5, e6, e7⟩ := reach_same (o := o) h w hs hb hu hst (goal := nI j) hav q1 s2 s3 s4 s5 hit lot fbu fz qs r38 r39 r40 r41 r34 r35 r43 r44 f47 f48
        have eE : sp_E_8_avoids nc np ne st f4 q5 q6 f7 q8 q9 f12 f13 f14 f15 f16 tc tfull tx tway tav tgoal tfound tl tsz q1 s2 s3 s4 s5 hit lot fbu o qs fz p0 p1 = (nI gf, z1, z2, z3, z4, z5, hi, lo, fb, nI k, nI j, gf, l, sz, c, fu, x, wa, fz', qs') := by
          simp only [sp_E_8_avoids, slet, if_pos c0, if_pos c1, ck, cj, e1, bit_of e4]
        by_cases ckj : k = j
        · have g0 : gf = 0 := e5 (by rw [ckj])
          have eM : sp_EM_avoids b x46 f3 r4 r5 r6 r7 f8 r9 r10 r11 m12_0 m12_1 m13_0 m13_1 m14_0 m14_1 m15_0 m15_1 r34 r35 r38 r39 r40 r41 m42 r43 r44 f47 f48 p0 p1 = (nI gf, r34, r35, r38, r39, r40, r41, r43, r44, f47, f48, m42, 0, x46) := by
            simp only [sp_EM_avoids, slet, e13, if_pos c0, if_pos c1, ck, cj, if_pos ckj, g0]
            exact rfl
          exact ⟨_, _, _, _, _, _, _, _, _, _, _, _, _, _, _, _, _, _, _, _, r34, r35, r38, r39, r40, r41, r43, r44, f47, f48, m42, _, _, eE, eM, e6, rf⟩
        · have eM : sp_EM_avoids b x46 f3 r4 r5 r6 r7 f8 r9 r10 r11 m12_0 m12_1 m13_0 m13_1 m14_0 m14_1 m15_0 m15_1 r34 r35 r38 r39 r40 r41 m42 r43 r44 f47 f48 p0 p1 = (nI gf, R34, R35, R38, R39, R40, R41, R43, R44, g47, g48, cnt, 0, nc + 1) := by
            rcases (show gf = 0 ∨ gf = 1 by omega) with g | g
            · simp only [sp_EM_avoids, slet, e13, if_pos c0, if_pos c1, ck, cj, if_neg ckj, e15', Nat.add_sub_cancel, if_neg cs, ec, e2, e3, g, if_pos]
              exact rfl
            · simp only [sp_EM_avoids, slet, e13, if_pos c0, if_pos c1, ck, cj, if_neg ckj, e15', Nat.add_sub_cancel, if_neg cs, ec, e2, e3, g, if_neg (show ¬ (1 : Nat) = 0 by omega)]
              exact rfl
          exact ⟨_, _, _, _, _, _, _, _, _, _, _, _, _, _, _, _, _, _, _, _, _, _, _, _, _, _, _, _, _, _, _, _, _, eE, eM, e6, e7⟩
    · exact ⟨-1, q1, s2, s3, s4, s5, hit, lot, fbu, tav, tgoal, tfound, tl, tsz, tc, tfull, tx, tway, fz, qs, r34, r35, r38, r39, r40, r41, r43, r44, f47, f48, m42, 0, x46, by simp only [sp_E_8_avoids, slet, if_pos c0, if_neg c1], by simp only [sp_EM_avoids, slet, e13, if_pos c0, if_neg c1], fun _ _ => ⟨rfl, rfl⟩, rf⟩
  · exact ⟨-1, q1, s2, s3, s4, s5, hit, lot, fbu, tav, tgoal, tfound, tl, tsz, tc, tfull, tx, tway, fz, qs, r34, r35, r38, r39, r40, r41, r43, r44, f47, f48, m42, 0, x46, by simp only [sp_E_8_avoids, slet, if_neg c0], by simp only [sp_EM_avoids, slet, e13, if_neg c0], fun _ _ => ⟨rfl, rfl⟩, rf⟩
def in60 (p : Int32) : Prop := 0 ≤ p ∧ p ≤ 60
theorem in60.nat {p : Int32} (h : in60 p) : p.toNatClampNeg ≤ 60 ∧ nI p.toNatClampNeg = p := by
  obtain ⟨j, hj, rfl⟩ := nI_of (Int32.not_lt.mpr h.1)
  rw [nI_clamp hj]
  exact ⟨(nI_leI hj (by omega)).mp h.2, rfl⟩
theorem fromE_n {nc ne k j o tc tfull tfound tl tsz : Nat} {f4 : Nat → Int32} {q5 q6 : Nat → Nat} {f7 : Nat → Int32} {q8 q9 : Nat → Nat} {f12 f13 f14 f15 f16 : Nat → Int32} {tx tway tav tgoal : Int32} {q1 : Nat → Nat} {s2 s3 s4 s5 hit lot f : Nat → Int32} {fz : Nat → Nat → Int32} {qs : Nat → Nat} (h : ¬ ∀ i, 1 ≤ i → i ≤ nc → in60 (f i)) : itrv default (sp_E_8_from_L1 nc ne f4 q5 q6 f7 q8 q9 f12 f13 f14 f15 f16 tc tfull tx tway tav tgoal tfound tl tsz q1 s2 s3 s4 s5 hit lot o qs fz k j f) 1 = (-1, q1, s2, s3, s4, s5, hit, lot, f, tav, tgoal, tfound, tl, tsz, tc, tfull, tx, tway, fz, qs) := by
  obtain ⟨k0, h0⟩ := Classical.not_forall.mp h
  have h1 : 1 ≤ k0 := Classical.byContradiction fun z => h0 (fun y => absurd y z)
  have h2 : k0 ≤ nc := Classical.byContradiction fun z => h0 (fun _ y => absurd y z)
  have h3 : ¬ in60 (f k0) := fun z => h0 (fun _ _ => z)
  refine itrv_inv (d := default) (f := sp_E_8_from_L1 nc ne f4 q5 q6 f7 q8 q9 f12 f13 f14 f15 f16 tc tfull tx tway tav tgoal tfound tl tsz q1 s2 s3 s4 s5 hit lot o qs fz k j f) (fun i => 1 ≤ i ∧ i ≤ k0) (fun r => r = (-1, q1, s2, s3, s4, s5, hit, lot, f, tav, tgoal, tfound, tl, tsz, tc, tfull, tx, tway, fz, qs)) (fun i => k0 - i) ?_ _ 1 (Nat.le_refl _) ⟨Nat.le_refl _, h1⟩
  rintro i ⟨i1, i2⟩
  have ce : ¬ nc < i := by omega
  by_cases c1 : f i < 0
  · exact Or.inr ⟨(-1, q1, s2, s3, s4, s5, hit, lot, f, tav, tgoal, tfound, tl, tsz, tc, tfull, tx, tway, fz, qs), by simp only [sp_E_8_from_L1, slet, if_neg ce, if_pos c1], rfl⟩
  · by_cases c2 : f i ≤ 60
    · refine Or.inl ⟨i + 1, by simp only [sp_E_8_from_L1, slet, if_neg ce, if_neg c1, if_pos c2], ⟨by omega, ?_⟩, by
        have : i ≠ k0 := fun z => h3 (by rw [← z]; exact ⟨Int32.not_lt.mp c1, c2⟩)
        show k0 - (i + 1) < k0 - i
        omega⟩
      have : i ≠ k0 := fun z => h3 (by rw [← z]; exact ⟨Int32.not_lt.mp c1, c2⟩)
      omega
    · exact Or.inr ⟨(-1, q1, s2, s3, s4, s5, hit, lot, f, tav, tgoal, tfound, tl, tsz, tc, tfull, tx, tway, fz, qs), by simp only [sp_E_8_from_L1, slet, if_neg ce, if_neg c1, if_neg c2], rfl⟩
theorem fromE_y {nc ne k j o tc tfull tfound tl tsz : Nat} {f4 : Nat → Int32} {q5 q6 : Nat → Nat} {f7 : Nat → Int32} {q8 q9 : Nat → Nat} {f12 f13 f14 f15 f16 : Nat → Int32} {tx tway tav tgoal : Int32} {q1 : Nat → Nat} {s2 s3 s4 s5 hit lot f : Nat → Int32} {fz : Nat → Nat → Int32} {qs : Nat → Nat} (h : ∀ i, 1 ≤ i → i ≤ nc → in60 (f i)) {T : Int32 × (Nat → Nat) × (Nat → Int32) × (Nat → Int32) × (Nat → Int32) × (Nat → Int32) × (Nat → Int32) × (Nat → Int32) × (Nat → Int32) × Int32 × Int32 × Nat × Nat × Nat × Nat × Nat × Int32 × Int32 × (Nat → Nat → Int32) × (Nat → Nat)} (hT : sp_E_8_from_L1 nc ne f4 q5 q6 f7 q8 q9 f12 f13 f14 f15 f16 tc tfull tx tway tav tgoal tfound tl tsz q1 s2 s3 s4 s5 hit lot o qs fz k j f (nc + 1) = .inr T) : itrv default (sp_E_8_from_L1 nc ne f4 q5 q6 f7 q8 q9 f12 f13 f14 f15 f16 tc tfull tx tway tav tgoal tfound tl tsz q1 s2 s3 s4 s5 hit lot o qs fz k j f) 1 = T := by
  refine itrv_inv (d := default) (f := sp_E_8_from_L1 nc ne f4 q5 q6 f7 q8 q9 f12 f13 f14 f15 f16 tc tfull tx tway tav tgoal tfound tl tsz q1 s2 s3 s4 s5 hit lot o qs fz k j f) (fun i => 1 ≤ i ∧ i ≤ nc + 1) (fun r => r = T) (fun i => nc + 1 - i) ?_ _ 1 (Nat.le_refl _) ⟨Nat.le_refl _, by omega⟩
  rintro i ⟨i1, i2⟩
  by_cases ce : nc < i
  · have e : i = nc + 1 := by omega
    rw [e]
    exact Or.inr ⟨T, hT, rfl⟩
  · obtain ⟨a, c2⟩ := h i i1 (by omega)
    have c1 : ¬ f i < 0 := Int32.not_lt.mpr a
    exact Or.inl ⟨i + 1, by simp only [sp_E_8_from_L1, slet, if_neg ce, if_neg c1, if_pos c2], ⟨by omega, by omega⟩, by show nc + 1 - (i + 1) < nc + 1 - i; omega⟩
/-- from: the class, the reference -/
theorem from_same {b nc np ne o : Nat} {st0 : Int32} {f4 : Nat → Int32} {q5 q6 : Nat → Nat} {f7 : Nat → Int32} {q8 q9 : Nat → Nat} {f10 f11 f12 f13 f14 f15 f16 : Nat → Int32} {f3 : Nat → Int32} {r4 r5 r6 r7 : Nat → Nat} {f8 : Nat → Int32} {r9 r10 : Nat → Nat} {r11 : Nat → Int32} {m12_0 m12_1 m13_0 m13_1 m14_0 m14_1 m15_0 m15_1 : Nat} (h : MB b nc np ne st0 f4 q5 q6 f7 q8 q9 f10 f11 f3 r4 r5 r6 r7 f8 r9 r10 r11 (bkN b m12_0 m12_1) (bkN b m13_0 m13_1) (bkN b m14_0 m14_1) (bkN b m15_0 m15_1)) (w : WFm nc np ne f4 q8 q9 f10 f11 f12 f13) (hs : MS nc np q8 q9 f10 f11 f14 f15 f16) (hb : b ≤ 1) (hu : ∀ i, i < np → ∀ j, j < q8 (14 + i) → r10 (80 * b + 56 + 3 * i + j) ≤ 1) (tc tfull : Nat) (tx tway tav tgoal : Int32) (tfound tl tsz : Nat) (q1 : Nat → Nat) (s2 s3 s4 s5 hit lot fbu : Nat → Int32) (fz : Nat → Nat → Int32) (qs : Nat → Nat) (x46 m42 : Nat) (r38 : Nat → Nat) (r39 r40 r41 r34 r35 r43 r44 f47 f48 : Nat → Int32) (p0 p1 p2 p3 p4 : Int32) :
  ∃ r z1 z2 z3 z4 z5 hi lo fb av go fo l sz c fu x wa fz' qs' R34 R35 R38 R39 R40 R41 R43 R44 g47 g48 cnt th y46, sp_E_8_from nc np ne f4 q5 q6 f7 q8 q9 f12 f13 f14 f15 f16 tc tfull tx tway tav tgoal tfound tl tsz q1 s2 s3 s4 s5 hit lot fbu o qs fz p0 p1 p2 p3 p4 = (r, z1, z2, z3, z4, z5, hi, lo, fb, av, go, fo, l, sz, c, fu, x, wa, fz', qs') ∧ sp_EM_from b x46 f3 r4 r5 r6 r7 f8 r9 r10 r11 m12_0 m12_1 m13_0 m13_1 m14_0 m14_1 r34 r35 r38 r39 r40 r41 m42 r43 r44 f47 f48 p0 p1 p2 p3 p4 = (r, R34, R35, R38, R39, R40, R41, R43, R44, g47, g48, cnt, th, y46) ∧ (∀ x, (x < o ∨ o + 120 < x) → fz' x = fz x ∧ qs' x = qs x) ∧ RFR1 r38 r39 r40 r41 r34 r43 r44 R38 R39 R40 R41 R34 R43 R44 := by
  have hp8 := h.1.2.2.2.1
  have hc3 : nc ≤ 3 := h.1.2.1
  have e13 : bkN b m13_0 m13_1 = np := h.1.2.2.1
  have ec : sp_EM_clocks b m12_0 m12_1 = nc := h.1.1
  have rf : RFR1 r38 r39 r40 r41 r34 r43 r44 r38 r39 r40 r41 r34 r43 r44 := ⟨FRM1.rf, fun _ _ => ⟨rfl, rfl⟩⟩
  by_cases c0 : (0 : Int32) ≤ p0 ∧ p0 < nI np
  · by_cases c1 : (0 : Int32) ≤ p4 ∧ p4 < nI np
    · obtain ⟨k, hk, ek, ck⟩ := np_of hp8 c0
      obtain ⟨j, hj, ej, cj⟩ := np_of hp8 c1
      obtain ⟨f, ef⟩ : ∃ f, upd (upd (upd (upd fbu 0 0) 1 p1) 2 p2) 3 p3 = f := ⟨_, rfl⟩
      have f0 : f 0 = 0 := by rw [← ef, upd_n (by decide), upd_n (by decide), upd_n (by decide), upd_s]
      have f1 : f 1 = p1 := by rw [← ef, upd_n (by decide), upd_n (by decide), upd_s]
      have f2 : f 2 = p2 := by rw [← ef, upd_n (by decide), upd_s]
      have f3' : f 3 = p3 := by rw [← ef, upd_s]
      by_cases ok : ∀ i, 1 ≤ i → i ≤ nc → in60 (f i)
      · obtain ⟨x, y, ep, hxy⟩ := plan_16 hs (by omega) hc3 2 1 (nc + 1) (Nat.le_refl _) hit lot
        obtain ⟨x', y', elf, hxy'⟩ := forg_z h hb hu 2 f47 f48
        have hF := fgh_of w (by omega) hxy hxy'
        have hU : ∀ i, i < nc + 1 → (f i).toNatClampNeg ≤ 60 ∧ f i = nI (f i).toNatClampNeg ∧ (if i = 1 then p1 else if i = 2 then p2 else if i = 3 then p3 else 0 : Int32) = nI (f i).toNatClampNeg := by
          intro i hi
          by_cases i0 : i = 0
          · subst i0
            rw [f0]; exact ⟨by decide, rfl, rfl⟩
          · obtain ⟨a1, a2⟩ := (ok i (by omega) (by omega)).nat
            refine ⟨a1, a2.symm, ?_⟩
            rw [a2]
            rcases (show i = 1 ∨ i = 2 ∨ i = 3 by omega) with rfl | rfl | rfl
            · rw [if_pos rfl, f1]
            · rw [if_neg (by decide), if_pos rfl, f2]
            · rw [if_neg (by decide), if_neg (by decide), if_pos rfl, f3']
        have hav : ¬ (nI k : Int32) = -1 := by
          intro z
          have d : ∀ v : Nat, v < 8 → ¬ (nI v : Int32) = -1 := by decide +kernel
          exact d k (by omega) z
        obtain ⟨k1, k2, k3, k4, k5, kf, kc, kg, kx, kz, kq, eo, z1, z2, z3, z4, z5, gf, gc, gfull, gx, fz', qs', R34, R35, R38, R39, R40, R41, R43, R44, cnt, eg, ee, hS⟩ := explo_1_120 (gl := 1) (o := o) (wy := 2) (gav := -1) (goal := nI j) h w hb (Nat.le_refl _) (by omega) (fun c => absurd c (by decide)) elf hF hk hav (p0 := p1) (p1 := p2) (p2 := p3) (u := fun i => (f i).toNatClampNeg) (fbu := f) hU (by show (f 0).toNatClampNeg = 0; rw [f0]; rfl) q1 s2 s3 s4 s5 fz qs r38 r39 r40 r41 r34 r35 r43 r44
        obtain ⟨v1, v2, v3⟩ := hasP_sim hS
        have eL := fromE_y (ne := ne) (k := k) (j := j) (o := o) (tc := tc) (tfull := tfull) (tfound := tfound) (tl := tl) (tsz := tsz) (f4 := f4) (q5 := q5) (q6 := q6) (f7 := f7) (q8 := q8) (q9 := q9) (f12 := f12) (f13 := f13) (f14 := f14) (f15 := f15) (f16 := f16) (tx := tx) (tway := tway) (tav := tav) (tgoal := tgoal) (q1 := q1) (s2 := s2) (s3 := s3) (s4 := s4) (s5 := s5) (hit := hit) (lot := lot) (fz := fz) (qs := qs) (f := f) ok (T := (nI gf, z1, z2, z3, z4, z5, x, y, f, -1, nI j, gf, 1, nc + 1, gc, gfull, gx, 2, fz', qs')) (by simp only [sp_E_8_from_L1, slet, if_pos (Nat.lt_succ_self nc), ep, eo, eg, bit_of v2])
        have eE : sp_E_8_from nc np ne f4 q5 q6 f7 q8 q9 f12 f13 f14 f15 f16 tc tfull tx tway tav tgoal tfound tl tsz q1 s2 s3 s4 s5 hit lot fbu o qs fz p0 p1 p2 p3 p4 = (nI gf, z1, z2, z3, z4, z5, x, y, f, -1, nI j, gf, 1, nc + 1, gc, gfull, gx, 2, fz', qs') := by
          simp only [sp_E_8_from, slet, if_pos c0, if_pos c1, ck, cj, ef, eL]
        have eM : sp_EM_from b x46 f3 r4 r5 r6 r7 f8 r9 r10 r11 m12_0 m12_1 m13_0 m13_1 m14_0 m14_1 r34 r35 r38 r39 r40 r41 m42 r43 r44 f47 f48 p0 p1 p2 p3 p4 = (nI gf, R34, R35, R38, R39, R40, R41, R43, R44, x', y', cnt, 0, nc + 1) := by
          have d1 : 1 ≤ nc → in60 p1 := fun z => by have := ok 1 (by omega) z; rwa [f1] at this
          have d2 : 2 ≤ nc → in60 p2 := fun z => by have := ok 2 (by omega) z; rwa [f2] at this
          have d3 : 3 ≤ nc → in60 p3 := fun z => by have := ok 3 (by omega) z; rwa [f3'] at this
          rcases (show gf = 0 ∨ gf = 1 by omega) with g | g
          · rcases (show nc < 1 ∨ nc = 1 ∨ nc = 2 ∨ nc = 3 by omega) with n | n | n | n
            · simp only [sp_EM_from, slet, e13, if_pos c0, if_pos c1, ck, cj, ec, if_pos (show nc < 1 by omega), if_pos (show nc < 2 by omega), if_pos (show nc < 3 by omega), ee, v1, g, if_pos]
              exact rfl
            · have b1 : (0 : Int32) ≤ p1 ∧ p1 ≤ 60 := d1 (by omega)
              simp only [sp_EM_from, slet, e13, if_pos c0, if_pos c1, ck, cj, ec, if_neg (show ¬ nc < 1 by omega), if_pos (show nc < 2 by omega), if_pos (show nc < 3 by omega), if_pos b1, (d1 (by omega)).nat.2, ee, v1, g, if_pos]
              exact rfl
            · have b1 : (0 : Int32) ≤ p1 ∧ p1 ≤ 60 := d1 (by omega)
              have b2 : (0 : Int32) ≤ p2 ∧ p2 ≤ 60 := d2 (by omega)
              simp only [sp_EM_from, slet, e13, if_pos c0, if_pos c1, ck, cj, ec, if_neg (show ¬ nc < 1 by omega), if_neg (show ¬ nc < 2 by omega), if_pos (show nc < 3 by omega), if_pos b1, (d1 (by omega)).nat.2, if_pos b2, (d2 (by omega)).nat.2, ee, v1, g, if_pos]
              exact rfl
            · have b1 : (0 : Int32) ≤ p1 ∧ p1 ≤ 60 := d1 (by omega)
              have b2 : (0 : Int32) ≤ p2 ∧ p2 ≤ 60 := d2 (by omega)
              have b3 : (0 : Int32) ≤ p3 ∧ p3 ≤ 60 := d3 (by omega)
              simp only [sp_EM_from, slet, e13, if_pos c0, if_pos c1, ck, cj, ec, if_neg (show ¬ nc < 1 by omega), if_neg (show ¬ nc < 2 by omega), if_neg (show ¬ nc < 3 by omega), if_pos b1, (d1 (by omega)).nat.2, if_pos b2, (d2 (by omega)).nat.2, if_pos b3, (d3 (by omega)).nat.2, ee, v1, g, if_pos]
              exact rfl
          · rcases (show nc < 1 ∨ nc = 1 ∨ nc = 2 ∨ nc = 3 by omega) with n | n | n | n
            · simp only [sp_EM_from, slet, e13, if_pos c0, if_pos c1, ck, cj, ec, if_pos (show nc < 1 by omega), if_pos (show nc < 2 by omega), if_pos (show nc < 3 by omega), ee, v1, g, if_neg (show ¬ (1 : Nat) = 0 by omega)]
              exact rfl
            · have b1 : (0 : Int32) ≤ p1 ∧ p1 ≤ 60 := d1 (by omega)
              simp only [sp_EM_from, slet, e13, if_pos c0, if_pos c1, ck, cj, ec, if_neg (show ¬ nc < 1 by omega), if_pos (show nc < 2 by omega), if_pos (show nc < 3 by omega), if_pos b1, (d1 (by omega)).nat.2, ee, v1, g, if_neg (show ¬ (1 : Nat) = 0 by omega)]
              exact rfl
            · have b1 : (0 : Int32) ≤ p1 ∧ p1 ≤ 60 := d1 (by omega)
              have b2 : (0 : Int32) ≤ p2 ∧ p2 ≤ 60 := d2 (by omega)
              simp only [sp_EM_from, slet, e13, if_pos c0, if_pos c1, ck, cj, ec, if_neg (show ¬ nc < 1 by omega), if_neg (show ¬ nc < 2 by omega), if_pos (show nc < 3 by omega), if_pos b1, (d1 (by omega)).nat.2, if_pos b2, (d2 (by omega)).nat.2, ee, v1, g, if_neg (show ¬ (1 : Nat) = 0 by omega)]
              exact rfl
            · have b1 : (0 : Int32) ≤ p1 ∧ p1 ≤ 60 := d1 (by omega)
              have b2 : (0 : Int32) ≤ p2 ∧ p2 ≤ 60 := d2 (by omega)
              have b3 : (0 : Int32) ≤ p3 ∧ p3 ≤ 60 := d3 (by omega)
              simp only [sp_EM_from, slet, e13, if_pos c0, if_pos c1, ck, cj, ec, if_neg (show ¬ nc < 1 by omega), if_neg (show ¬ nc < 2 by omega), if_neg (show ¬ nc < 3 by omega), if_pos b1, (d1 (by omega)).nat.2, if_pos b2, (d2 (by omega)).nat.2, if_pos b3, (d3 (by omega)).nat.2, ee, v1, g, if_neg (show ¬ (1 : Nat) = 0 by omega)]
              exact rfl
        exact ⟨_, _, _, _, _, _, _, _, _, _, _, _, _, _, _, _, _, _, _, _, _, _, _, _, _, _, _, _, _, _, _, _, _, eE, eM, hS.1, hS.2.1⟩
      · have eL := fromE_n (ne := ne) (k := k) (j := j) (o := o) (tc := tc) (tfull := tfull) (tfound := tfound) (tl := tl) (tsz := tsz) (f4 := f4) (q5 := q5) (q6 := q6) (f7 := f7) (q8 := q8) (q9 := q9) (f12 := f12) (f13 := f13) (f14 := f14) (f15 := f15) (f16 := f16) (tx := tx) (tway := tway) (tav := tav) (tgoal := tgoal) (q1 := q1) (s2 := s2) (s3 := s3) (s4 := s4) (s5 := s5) (hit := hit) (lot := lot) (fz := fz) (qs := qs) (f := f) ok
        have eE : sp_E_8_from nc np ne f4 q5 q6 f7 q8 q9 f12 f13 f14 f15 f16 tc tfull tx tway tav tgoal tfound tl tsz q1 s2 s3 s4 s5 hit lot fbu o qs fz p0 p1 p2 p3 p4 = (-1, q1, s2, s3, s4, s5, hit, lot, f, tav, tgoal, tfound, tl, tsz, tc, tfull, tx, tway, fz, qs) := by
          simp only [sp_E_8_from, slet, if_pos c0, if_pos c1, ck, cj, ef, eL]
        have eM : sp_EM_from b x46 f3 r4 r5 r6 r7 f8 r9 r10 r11 m12_0 m12_1 m13_0 m13_1 m14_0 m14_1 r34 r35 r38 r39 r40 r41 m42 r43 r44 f47 f48 p0 p1 p2 p3 p4 = (-1, r34, r35, r38, r39, r40, r41, r43, r44, f47, f48, m42, 0, x46) := by
          rcases (show nc < 1 ∨ nc = 1 ∨ nc = 2 ∨ nc = 3 by omega) with n | n | n | n
          · exact absurd (fun i i1 i2 => by omega) ok
          · by_cases b1 : (0 : Int32) ≤ p1 ∧ p1 ≤ 60
            · refine absurd (fun i i1 i2 => ?_) ok
              rcases (show i = 1 by omega) with rfl
              · rw [f1]; exact b1
            · simp only [sp_EM_from, slet, e13, if_pos c0, if_pos c1, ck, cj, ec, if_neg (show ¬ nc < 1 by omega), if_pos (show nc < 2 by omega), if_pos (show nc < 3 by omega), if_neg b1]
          · by_cases b1 : (0 : Int32) ≤ p1 ∧ p1 ≤ 60
            · by_cases b2 : (0 : Int32) ≤ p2 ∧ p2 ≤ 60
              · refine absurd (fun i i1 i2 => ?_) ok
                rcases (show i = 1 ∨ i = 2 by omega) with rfl | rfl
                · rw [f1]; exact b1
                · rw [f2]; exact b2
              · simp only [sp_EM_from, slet, e13, if_pos c0, if_pos c1, ck, cj, ec, if_neg (show ¬ nc < 1 by omega), if_neg (show ¬ nc < 2 by omega), if_pos (show nc < 3 by omega), if_pos b1, if_neg b2]
            · simp only [sp_EM_from, slet, e13, if_pos c0, if_pos c1, ck, cj, ec, if_neg (show ¬ nc < 1 by omega), if_neg (show ¬ nc < 2 by omega), if_pos (show nc < 3 by omega), if_neg b1]
          · by_cases b1 : (0 : Int32) ≤ p1 ∧ p1 ≤ 60
            · by_cases b2 : (0 : Int32) ≤ p2 ∧ p2 ≤ 60
              · by_cases b3 : (0 : Int32) ≤ p3 ∧ p3 ≤ 60
                · refine absurd (fun i i1 i2 => ?_) ok
                  rcases (show i = 1 ∨ i = 2 ∨ i = 3 by omega) with rfl | rfl | rfl
                  · rw [f1]; exact b1
                  · rw [f2]; exact b2
                  · rw [f3']; exact b3
                · simp only [sp_EM_from, slet, e13, if_pos c0, if_pos c1, ck, cj, ec, if_neg (show ¬ nc < 1 by omega), if_neg (show ¬ nc < 2 by omega), if_neg (show ¬ nc < 3 by omega), if_pos b1, if_pos b2, if_neg b3]
              · simp only [sp_EM_from, slet, e13, if_pos c0, if_pos c1, ck, cj, ec, if_neg (show ¬ nc < 1 by omega), if_neg (show ¬ nc < 2 by omega), if_neg (show ¬ nc < 3 by omega), if_pos b1, if_neg b2]
            · simp only [sp_EM_from, slet, e13, if_pos c0, if_pos c1, ck, cj, ec, if_neg (show ¬ nc < 1 by omega), if_neg (show ¬ nc < 2 by omega), if_neg (show ¬ nc < 3 by omega), if_neg b1]
        exact ⟨_, _, _, _, _, _, _, _, _, _, _, _, _, _, _, _, _, _, _, _, r34, r35, r38, r39, r40, r41, r43, r44, f47, f48, m42, 0, x46, eE, eM, fun _ _ => ⟨rfl, rfl⟩, rf⟩
    · exact ⟨-1, q1, s2, s3, s4, s5, hit, lot, fbu, tav, tgoal, tfound, tl, tsz, tc, tfull, tx, tway, fz, qs, r34, r35, r38, r39, r40, r41, r43, r44, f47, f48, m42, 0, x46, by simp only [sp_E_8_from, slet, if_pos c0, if_neg c1], by simp only [sp_EM_from, slet, e13, if_pos c0, if_neg c1], fun _ _ => ⟨rfl, rfl⟩, rf⟩
  · exact ⟨-1, q1, s2, s3, s4, s5, hit, lot, fbu, tav, tgoal, tfound, tl, tsz, tc, tfull, tx, tway, fz, qs, r34, r35, r38, r39, r40, r41, r43, r44, f47, f48, m42, 0, x46, by simp only [sp_E_8_from, slet, if_neg c0], by simp only [sp_EM_from, slet, e13, if_neg c0], fun _ _ => ⟨rfl, rfl⟩, rf⟩
theorem letsS_L1 {b nc np ne st o g j s' hw n3 n4 n5 n8 : Nat} {st0 : Int32} {f4 : Nat → Int32} {q5 q6 : Nat → Nat} {f7 : Nat → Int32} {q8 q9 : Nat → Nat} {f10 : Nat → Int32} {f3 : Nat → Int32} {r4 r5 r6 r7 : Nat → Nat} {f8 : Nat → Int32} {r9 r10 : Nat → Nat} {m12_0 m12_1 m13_0 m13_1 m14_0 m14_1 m15_0 m15_1 : Nat} (hb : b ≤ 1) (hu : ∀ i, i < np → ∀ j, j < q8 (14 + i) → r10 (80 * b + 56 + 3 * i + j) ≤ 1) (hst : st < np) (hnp : np ≤ 8) (ec : sp_EM_clocks b m12_0 m12_1 = nc) (e15 : (if b = 0 then m15_0 else m15_1) = st + 1) (hP : PL b np ne q8 g j s') (hsp : 80 * b + 4 * n3 + n4 = s') (hg : g < 22) (h10 : f10 (g * 4 + j) = nI hw) (hm : hw ≤ mH g) (fz0 : Nat → Nat → Int32) (qs0 : Nat → Nat) (r38 : Nat → Nat) (r39 r40 r41 r34 r43 r44 : Nat → Int32)
  {t : (Nat → Int32) × (Nat → Int32) × (Nat → Int32) × (Nat → Int32) × (Nat → Int32) × (Nat → Nat) × (Nat → Int32) × (Nat → Int32) × (Nat → Int32) × (Nat → Int32) × (Nat → Int32) × (Nat → Int32) × (Nat → Int32) × (Nat → Int32) × Int32 × Int32 × Nat × Nat × Nat × Nat × Nat × Int32 × Int32 × Int32 × Nat × (Nat → Nat → Int32) × (Nat → Nat)} {t' : (Nat → Int32) × (Nat → Int32) × (Nat → Int32) × (Nat → Nat) × (Nat → Int32) × (Nat → Int32) × (Nat → Int32) × (Nat → Int32) × (Nat → Int32) × (Nat → Int32) × (Nat → Int32) × Nat × Nat × Int32 × Nat}
  (hT : ∃ f12 f13 f14 f15 f16 q1 s2 s3 s4 s5 hit lot fbu f11 tav tgoal tfound tl tsz tc tfull tx tway ans i fz qs r11 R34 R35 R38 R39 R40 R41 R43 R44 g47 g48 m42 x46, t = (f12, f13, f14, f15, f16, q1, s2, s3, s4, s5, hit, lot, fbu, f11, tav, tgoal, tfound, tl, tsz, tc, tfull, tx, tway, ans, i, fz, qs) ∧ t' = (r11, R34, R35, R38, R39, R40, R41, R43, R44, g47, g48, m42, x46, ans, i) ∧ MB b nc np ne st0 f4 q5 q6 f7 q8 q9 f10 f11 f3 r4 r5 r6 r7 f8 r9 r10 r11 (bkN b m12_0 m12_1) (bkN b m13_0 m13_1) (bkN b m14_0 m14_1) (bkN b m15_0 m15_1) ∧ WFm nc np ne f4 q8 q9 f10 f11 f12 f13 ∧ MS nc np q8 q9 f10 f11 f14 f15 f16 ∧ (ans = -2 ∨ ∃ v, v ≤ 20 ∧ ans = nI v) ∧ (∀ x, (x < o ∨ o + 120 < x) → fz x = fz0 x ∧ qs x = qs0 x) ∧ RFR1 r38 r39 r40 r41 r34 r43 r44 R38 R39 R40 R41 R34 R43 R44) :
  ∃ ans i f11 f12 f13 f14 f15 f16 tc tfull tx tway tav tgoal tfound tl tsz q1 s2 s3 s4 s5 hit lot fbu qs fz r11 R34 R35 R38 R39 R40 R41 R43 R44 g47 g48 m42 x46, itrv default (sp_E_8_lets_L1 nc ne st f4 q5 q6 f7 q8 q9 f10 o (g * 4 + j) n5 n8) t = (ans, i, f11, f12, f13, f14, f15, f16, tc, tfull, tx, tway, tav, tgoal, tfound, tl, tsz, q1, s2, s3, s4, s5, hit, lot, fbu, qs, fz) ∧ itrv default (sp_EM_lets_L1 b f3 r4 r5 r6 r7 f8 r9 r10 m12_0 m12_1 m13_0 m13_1 m14_0 m14_1 m15_0 m15_1 n3 n4 n5 n8) t' = (ans, i, x46, r11, R34, R35, R38, R39, R40, R41, m42, R43, R44, g47, g48) ∧ (∀ x, (x < o ∨ o + 120 < x) → fz x = fz0 x ∧ qs x = qs0 x) ∧ RFR1 r38 r39 r40 r41 r34 r43 r44 R38 R39 R40 R41 R34 R43 R44 := by
  have m4 : mH g ≤ 4 := by unfold mH; split <;> omega
  have h4 : hw ≤ 4 := Nat.le_trans hm m4
  refine itrv_sim (d := default) (d' := default) (f := sp_E_8_lets_L1 nc ne st f4 q5 q6 f7 q8 q9 f10 o (g * 4 + j) n5 n8) (g := sp_EM_lets_L1 b f3 r4 r5 r6 r7 f8 r9 r10 m12_0 m12_1 m13_0 m13_1 m14_0 m14_1 m15_0 m15_1 n3 n4 n5 n8)
    (fun t t' => ∃ f12 f13 f14 f15 f16 q1 s2 s3 s4 s5 hit lot fbu f11 tav tgoal tfound tl tsz tc tfull tx tway ans i fz qs r11 R34 R35 R38 R39 R40 R41 R43 R44 g47 g48 m42 x46, t = (f12, f13, f14, f15, f16, q1, s2, s3, s4, s5, hit, lot, fbu, f11, tav, tgoal, tfound, tl, tsz, tc, tfull, tx, tway, ans, i, fz, qs) ∧ t' = (r11, R34, R35, R38, R39, R40, R41, R43, R44, g47, g48, m42, x46, ans, i) ∧ MB b nc np ne st0 f4 q5 q6 f7 q8 q9 f10 f11 f3 r4 r5 r6 r7 f8 r9 r10 r11 (bkN b m12_0 m12_1) (bkN b m13_0 m13_1) (bkN b m14_0 m14_1) (bkN b m15_0 m15_1) ∧ WFm nc np ne f4 q8 q9 f10 f11 f12 f13 ∧ MS nc np q8 q9 f10 f11 f14 f15 f16 ∧ (ans = -2 ∨ ∃ v, v ≤ 20 ∧ ans = nI v) ∧ (∀ x, (x < o ∨ o + 120 < x) → fz x = fz0 x ∧ qs x = qs0 x) ∧ RFR1 r38 r39 r40 r41 r34 r43 r44 R38 R39 R40 R41 R34 R43 R44)
    (fun x x' => ∃ ans i f11 f12 f13 f14 f15 f16 tc tfull tx tway tav tgoal tfound tl tsz q1 s2 s3 s4 s5 hit lot fbu qs fz r11 R34 R35 R38 R39 R40 R41 R43 R44 g47 g48 m42 x46, x = (ans, i, f11, f12, f13, f14, f15, f16, tc, tfull, tx, tway, tav, tgoal, tfound, tl, tsz, q1, s2, s3, s4, s5, hit, lot, fbu, qs, fz) ∧ x' = (ans, i, x46, r11, R34, R35, R38, R39, R40, R41, m42, R43, R44, g47, g48) ∧ (∀ x, (x < o ∨ o + 120 < x) → fz x = fz0 x ∧ qs x = qs0 x) ∧ RFR1 r38 r39 r40 r41 r34 r43 r44 R38 R39 R40 R41 R34 R43 R44)
    (fun (_, _, _, _, _, _, _, _, _, _, _, _, _, _, _, _, _, _, _, _, _, _, _, _, i, _, _) => 21 - i) ?_ _ t t' (Nat.le_refl _) hT
  rintro _ _ ⟨f12, f13, f14, f15, f16, q1, s2, s3, s4, s5, hit, lot, fbu, f11, tav, tgoal, tfound, tl, tsz, tc, tfull, tx, tway, ans, i, fz, qs, r11, R34, R35, R38, R39, R40, R41, R43, R44, g47, g48, m42, x46, rfl, rfl, hM, hW, hS, ha, hk1, hk2⟩
  by_cases ce : 20 < i
  · exact Or.inr ⟨(ans, i, f11, f12, f13, f14, f15, f16, tc, tfull, tx, tway, tav, tgoal, tfound, tl, tsz, q1, s2, s3, s4, s5, hit, lot, fbu, qs, fz), by simp only [sp_E_8_lets_L1, if_pos ce], _, _, _, _, _, _, _, _, _, _, _, _, _, _, _, _, _, _, _, _, _, _, _, _, _, _, _, r11, R34, R35, R38, R39, R40, R41, R43, R44, g47, g48, m42, x46, rfl, itrv_inr (by simp only [sp_EM_lets_L1, if_pos ce]), hk1, hk2⟩
  · rcases ha with ha | ⟨v0, hv0, ha⟩
    · have na : ¬ (0 : Int32) ≤ ans := by rw [ha]; decide
      obtain ⟨v, ev⟩ : ∃ v, (if n8 = 0 then i else 20 - i) = v := ⟨_, rfl⟩
      have hv : v ≤ 20 := by rw [← ev]; split <;> omega
      obtain ⟨y14, y15, y16, em, es⟩ := setNumber_eq (q8 := q8) (q9 := q9) (f10 := f10) (f11 := f11) (f12 := f12) (f13 := f13) (f14 := f14) (f15 := f15) (f16 := f16) (s := g * 4 + j) (n := v) h10 h4
      have hM' := hM.num (nI v) hP
      have hW' := hW.num hg hP.1 h10 hm hv
      have hav : ¬ (nI st : Int32) = -1 := by
        intro z
        have d : ∀ v : Nat, v < 8 → ¬ (nI v : Int32) = -1 := by decide +kernel
        exact d st (by omega) z
      obtain ⟨gf, z1, z2, z3, z4, z5, hi, lo, fb, l, sz, c, fu, x, wa, fz', qs', S34, S35, S38, S39, S40, S41, S43, S44, w47, w48, cnt, e1, e2, e3, e4, e5, e6, e7⟩ := reach_same (o := o) hM' hW' (Or.inr ⟨_, _, _, em.symm⟩) hb hu hst (goal := nI n5) hav q1 s2 s3 s4 s5 hit lot fbu fz qs R38 R39 R40 R41 R34 R35 R43 R44 g47 g48
      have fr : ∀ x, (x < o ∨ o + 120 < x) → fz' x = fz0 x ∧ qs' x = qs0 x := fun x hx => ⟨(e6 x hx).1.trans (hk1 x hx).1, (e6 x hx).2.trans (hk1 x hx).2⟩
      have rr : RFR1 r38 r39 r40 r41 r34 r43 r44 S38 S39 S40 S41 S34 S43 S44 := ⟨hk2.1.tr e7.1, fun j hj => ⟨(e7.2 j hj).1.trans (hk2.2 j hj).1, (e7.2 j hj).2.trans (hk2.2 j hj).2⟩⟩
      have ms : 21 - (i + 1) < 21 - i := by omega
      rcases (show gf = 0 ∨ gf = 1 by omega) with g0 | g1
      · rw [g0] at e1 e3
        exact Or.inl ⟨(upd f12 (g * 4 + j) (clF hw v), upd f13 (g * 4 + j) (flF hw v), y14, y15, y16, z1, z2, z3, z4, z5, hi, lo, fb, upd f11 (g * 4 + j) (nI v), -1, nI n5, 0, l, sz, c, fu, x, wa, ans, i + 1, fz', qs'), (upd r11 s' (nI v), S34, S35, S38, S39, S40, S41, S43, S44, w47, w48, cnt, nc + 1, ans, i + 1), by simp only [sp_E_8_lets_L1, slet, if_neg ce, if_pos ha, ev, es, e1, if_pos], by simp only [sp_EM_lets_L1, slet, if_neg ce, if_neg na, ev, hsp, ec, e15, Nat.add_sub_cancel, e2, e3, if_pos], ⟨_, _, _, _, _, _, _, _, _, _, _, _, _, _, _, _, _, _, _, _, _, _, _, _, _, _, _, _, _, _, _, _, _, _, _, _, _, _, _, _, rfl, rfl, hM', hW', Or.inr ⟨_, _, _, em.symm⟩, Or.inl ha, fr, rr⟩, ms⟩
      · rw [g1] at e1 e3
        exact Or.inl ⟨(upd f12 (g * 4 + j) (clF hw v), upd f13 (g * 4 + j) (flF hw v), y14, y15, y16, z1, z2, z3, z4, z5, hi, lo, fb, upd f11 (g * 4 + j) (nI v), -1, nI n5, 1, l, sz, c, fu, x, wa, nI v, i + 1, fz', qs'), (upd r11 s' (nI v), S34, S35, S38, S39, S40, S41, S43, S44, w47, w48, cnt, nc + 1, nI v, i + 1), by simp only [sp_E_8_lets_L1, slet, if_neg ce, if_pos ha, ev, es, e1, if_neg (show ¬ (1 : Nat) = 0 by omega)], by simp only [sp_EM_lets_L1, slet, if_neg ce, if_neg na, ev, hsp, ec, e15, Nat.add_sub_cancel, e2, e3, if_neg (show ¬ (1 : Nat) = 0 by omega), upd_s], ⟨_, _, _, _, _, _, _, _, _, _, _, _, _, _, _, _, _, _, _, _, _, _, _, _, _, _, _, _, _, _, _, _, _, _, _, _, _, _, _, _, rfl, rfl, hM', hW', Or.inr ⟨_, _, _, em.symm⟩, Or.inr ⟨v, hv, rfl⟩, fr, rr⟩, ms⟩
    · have d : ∀ v : Nat, v < 21 → ¬ (nI v : Int32) = -2 ∧ (0 : Int32) ≤ nI v := by decide +kernel
      obtain ⟨d1, d2⟩ := d v0 (by omega)
      have n1 : ¬ ans = -2 := by rw [ha]; exact d1
      have n2 : (0 : Int32) ≤ ans := by rw [ha]; exact d2
      exact Or.inr ⟨(ans, i, f11, f12, f13, f14, f15, f16, tc, tfull, tx, tway, tav, tgoal, tfound, tl, tsz, q1, s2, s3, s4, s5, hit, lot, fbu, qs, fz), by simp only [sp_E_8_lets_L1, if_neg ce, if_neg n1], _, _, _, _, _, _, _, _, _, _, _, _, _, _, _, _, _, _, _, _, _, _, _, _, _, _, _, r11, R34, R35, R38, R39, R40, R41, R43, R44, g47, g48, m42, x46, rfl, itrv_inr (by simp only [sp_EM_lets_L1, if_neg ce, if_pos n2]), hk1, hk2⟩
theorem letsS_L2 {b nc np ne st o g j s' hw n3 n4 n5 n8 : Nat} {st0 : Int32} {f4 : Nat → Int32} {q5 q6 : Nat → Nat} {f7 : Nat → Int32} {q8 q9 : Nat → Nat} {f10 : Nat → Int32} {f3 : Nat → Int32} {r4 r5 r6 r7 : Nat → Nat} {f8 : Nat → Int32} {r9 r10 : Nat → Nat} {m12_0 m12_1 m13_0 m13_1 m14_0 m14_1 m15_0 m15_1 : Nat} (hb : b ≤ 1) (hu : ∀ i, i < np → ∀ j, j < q8 (14 + i) → r10 (80 * b + 56 + 3 * i + j) ≤ 1) (hst : st < np) (hnp : np ≤ 8) (ec : sp_EM_clocks b m12_0 m12_1 = nc) (e15 : (if b = 0 then m15_0 else m15_1) = st + 1) (hP : PL b np ne q8 g j s') (hsp : 80 * b + (56 + 3 * (100 + n3 - 100)) + n4 = s') (hg : g < 22) (h10 : f10 (g * 4 + j) = nI hw) (hm : hw ≤ mH g) (fz0 : Nat → Nat → Int32) (qs0 : Nat → Nat) (r38 : Nat → Nat) (r39 r40 r41 r34 r43 r44 : Nat → Int32)
  {t : (Nat → Int32) × (Nat → Int32) × (Nat → Int32) × (Nat → Int32) × (Nat → Int32) × (Nat → Nat) × (Nat → Int32) × (Nat → Int32) × (Nat → Int32) × (Nat → Int32) × (Nat → Int32) × (Nat → Int32) × (Nat → Int32) × (Nat → Int32) × Int32 × Int32 × Nat × Nat × Nat × Nat × Nat × Int32 × Int32 × Int32 × Nat × (Nat → Nat → Int32) × (Nat → Nat)} {t' : (Nat → Int32) × (Nat → Int32) × (Nat → Int32) × (Nat → Nat) × (Nat → Int32) × (Nat → Int32) × (Nat → Int32) × (Nat → Int32) × (Nat → Int32) × (Nat → Int32) × (Nat → Int32) × Nat × Nat × Int32 × Nat}
  (hT : ∃ f12 f13 f14 f15 f16 q1 s2 s3 s4 s5 hit lot fbu f11 tav tgoal tfound tl tsz tc tfull tx tway ans i fz qs r11 R34 R35 R38 R39 R40 R41 R43 R44 g47 g48 m42 x46, t = (f12, f13, f14, f15, f16, q1, s2, s3, s4, s5, hit, lot, fbu, f11, tav, tgoal, tfound, tl, tsz, tc, tfull, tx, tway, ans, i, fz, qs) ∧ t' = (r11, R34, R35, R38, R39, R40, R41, R43, R44, g47, g48, m42, x46, ans, i) ∧ MB b nc np ne st0 f4 q5 q6 f7 q8 q9 f10 f11 f3 r4 r5 r6 r7 f8 r9 r10 r11 (bkN b m12_0 m12_1) (bkN b m13_0 m13_1) (bkN b m14_0 m14_1) (bkN b m15_0 m15_1) ∧ WFm nc np ne f4 q8 q9 f10 f11 f12 f13 ∧ MS nc np q8 q9 f10 f11 f14 f15 f16 ∧ (ans = -2 ∨ ∃ v, v ≤ 20 ∧ ans = nI v) ∧ (∀ x, (x < o ∨ o + 120 < x) → fz x = fz0 x ∧ qs x = qs0 x) ∧ RFR1 r38 r39 r40 r41 r34 r43 r44 R38 R39 R40 R41 R34 R43 R44) :
  ∃ ans i f11 f12 f13 f14 f15 f16 tc tfull tx tway tav tgoal tfound tl tsz q1 s2 s3 s4 s5 hit lot fbu qs fz r11 R34 R35 R38 R39 R40 R41 R43 R44 g47 g48 m42 x46, itrv default (sp_E_8_lets_L1 nc ne st f4 q5 q6 f7 q8 q9 f10 o (g * 4 + j) n5 n8) t = (ans, i, f11, f12, f13, f14, f15, f16, tc, tfull, tx, tway, tav, tgoal, tfound, tl, tsz, q1, s2, s3, s4, s5, hit, lot, fbu, qs, fz) ∧ itrv default (sp_EM_lets_L2 b f3 r4 r5 r6 r7 f8 r9 r10 m12_0 m12_1 m13_0 m13_1 m14_0 m14_1 m15_0 m15_1 n3 n4 n5 n8) t' = (ans, i, x46, r11, R34, R35, R38, R39, R40, R41, m42, R43, R44, g47, g48) ∧ (∀ x, (x < o ∨ o + 120 < x) → fz x = fz0 x ∧ qs x = qs0 x) ∧ RFR1 r38 r39 r40 r41 r34 r43 r44 R38 R39 R40 R41 R34 R43 R44 := by
  have m4 : mH g ≤ 4 := by unfold mH; split <;> omega
  have h4 : hw ≤ 4 := Nat.le_trans hm m4
  refine itrv_sim (d := default) (d' := default) (f := sp_E_8_lets_L1 nc ne st f4 q5 q6 f7 q8 q9 f10 o (g * 4 + j) n5 n8) (g := sp_EM_lets_L2 b f3 r4 r5 r6 r7 f8 r9 r10 m12_0 m12_1 m13_0 m13_1 m14_0 m14_1 m15_0 m15_1 n3 n4 n5 n8)
    (fun t t' => ∃ f12 f13 f14 f15 f16 q1 s2 s3 s4 s5 hit lot fbu f11 tav tgoal tfound tl tsz tc tfull tx tway ans i fz qs r11 R34 R35 R38 R39 R40 R41 R43 R44 g47 g48 m42 x46, t = (f12, f13, f14, f15, f16, q1, s2, s3, s4, s5, hit, lot, fbu, f11, tav, tgoal, tfound, tl, tsz, tc, tfull, tx, tway, ans, i, fz, qs) ∧ t' = (r11, R34, R35, R38, R39, R40, R41, R43, R44, g47, g48, m42, x46, ans, i) ∧ MB b nc np ne st0 f4 q5 q6 f7 q8 q9 f10 f11 f3 r4 r5 r6 r7 f8 r9 r10 r11 (bkN b m12_0 m12_1) (bkN b m13_0 m13_1) (bkN b m14_0 m14_1) (bkN b m15_0 m15_1) ∧ WFm nc np ne f4 q8 q9 f10 f11 f12 f13 ∧ MS nc np q8 q9 f10 f11 f14 f15 f16 ∧ (ans = -2 ∨ ∃ v, v ≤ 20 ∧ ans = nI v) ∧ (∀ x, (x < o ∨ o + 120 < x) → fz x = fz0 x ∧ qs x = qs0 x) ∧ RFR1 r38 r39 r40 r41 r34 r43 r44 R38 R39 R40 R41 R34 R43 R44)
    (fun x x' => ∃ ans i f11 f12 f13 f14 f15 f16 tc tfull tx tway tav tgoal tfound tl tsz q1 s2 s3 s4 s5 hit lot fbu qs fz r11 R34 R35 R38 R39 R40 R41 R43 R44 g47 g48 m42 x46, x = (ans, i, f11, f12, f13, f14, f15, f16, tc, tfull, tx, tway, tav, tgoal, tfound, tl, tsz, q1, s2, s3, s4, s5, hit, lot, fbu, qs, fz) ∧ x' = (ans, i, x46, r11, R34, R35, R38, R39, R40, R41, m42, R43, R44, g47, g48) ∧ (∀ x, (x < o ∨ o + 120 < x) → fz x = fz0 x ∧ qs x = qs0 x) ∧ RFR1 r38 r39 r40 r41 r34 r43 r44 R38 R39 R40 R41 R34 R43 R44)
    (fun (_, _, _, _, _, _, _, _, _, _, _, _, _, _, _, _, _, _, _, _, _, _, _, _, i, _, _) => 21 - i) ?_ _ t t' (Nat.le_refl _) hT
  rintro _ _ ⟨f12, f13, f14, f15, f16, q1, s2, s3, s4, s5, hit, lot, fbu, f11, tav, tgoal, tfound, tl, tsz, tc, tfull, tx, tway, ans, i, fz, qs, r11, R34, R35, R38, R39, R40, R41, R43, R44, g47, g48, m42, x46, rfl, rfl, hM, hW, hS, ha, hk1, hk2⟩
  by_cases ce : 20 < i
  · exact Or.inr ⟨(ans, i, f11, f12, f13, f14, f15, f16, tc, tfull, tx, tway, tav, tgoal, tfound, tl, tsz, q1, s2, s3, s4, s5, hit, lot, fbu, qs, fz), by simp only [sp_E_8_lets_L1, if_pos ce], _, _, _, _, _, _, _, _, _, _, _, _, _, _, _, _, _, _, _, _, _, _, _, _, _, _, _, r11, R34, R35, R38, R39, R40, R41, R43, R44, g47, g48, m42, x46, rfl, itrv_inr (by simp only [sp_EM_lets_L2, if_pos ce]), hk1, hk2⟩
  · rcases ha with ha | ⟨v0, hv0, ha⟩
    · have na : ¬ (0 : Int32) ≤ ans := by rw [ha]; decide
      obtain ⟨v, ev⟩ : ∃ v, (if n8 = 0 then i else 20 - i) = v := ⟨_, rfl⟩
      have hv : v ≤ 20 := by rw [← ev]; split <;> omega
      obtain ⟨y14, y15, y16, em, es⟩ := setNumber_eq (q8 := q8) (q9 := q9) (f10 := f10) (f11 := f11) (f12 := f12) (f13 := f13) (f14 := f14) (f15 := f15) (f16 := f16) (s := g * 4 + j) (n := v) h10 h4
      have hM' := hM.num (nI v) hP
      have hW' := hW.num hg hP.1 h10 hm hv
      have hav : ¬ (nI st : Int32) = -1 := by
        intro z
        have d : ∀ v : Nat, v < 8 → ¬ (nI v : Int32) = -1 := by decide +kernel
        exact d st (by omega) z
      obtain ⟨gf, z1, z2, z3, z4, z5, hi, lo, fb, l, sz, c, fu, x, wa, fz', qs', S34, S35, S38, S39, S40, S41, S43, S44, w47, w48, cnt, e1, e2, e3, e4, e5, e6, e7⟩ := reach_same (o := o) hM' hW' (Or.inr ⟨_, _, _, em.symm⟩) hb hu hst (goal := nI n5) hav q1 s2 s3 s4 s5 hit lot fbu fz qs R38 R39 R40 R41 R34 R35 R43 R44 g47 g48
      have fr : ∀ x, (x < o ∨ o + 120 < x) → fz' x = fz0 x ∧ qs' x = qs0 x := fun x hx => ⟨(e6 x hx).1.trans (hk1 x hx).1, (e6 x hx).2.trans (hk1 x hx).2⟩
      have rr : RFR1 r38 r39 r40 r41 r34 r43 r44 S38 S39 S40 S41 S34 S43 S44 := ⟨hk2.1.tr e7.1, fun j hj => ⟨(e7.2 j hj).1.trans (hk2.2 j hj).1, (e7.2 j hj).2.trans (hk2.2 j hj).2⟩⟩
      have ms : 21 - (i + 1) < 21 - i := by omega
      rcases (show gf = 0 ∨ gf = 1 by omega) with g0 | g1
      · rw [g0] at e1 e3
        exact Or.inl ⟨(upd f12 (g * 4 + j) (clF hw v), upd f13 (g * 4 + j) (flF hw v), y14, y15, y16, z1, z2, z3, z4, z5, hi, lo, fb, upd f11 (g * 4 + j) (nI v), -1, nI n5, 0, l, sz, c, fu, x, wa, ans, i + 1, fz', qs'), (upd r11 s' (nI v), S34, S35, S38, S39, S40, S41, S43, S44, w47, w48, cnt, nc + 1, ans, i + 1), by simp only [sp_E_8_lets_L1, slet, if_neg ce, if_pos ha, ev, es, e1, if_pos], by simp only [sp_EM_lets_L2, slet, if_neg ce, if_neg na, ev, hsp, ec, e15, Nat.add_sub_cancel, e2, e3, if_pos], ⟨_, _, _, _, _, _, _, _, _, _, _, _, _, _, _, _, _, _, _, _, _, _, _, _, _, _, _, _, _, _, _, _, _, _, _, _, _, _, _, _, rfl, rfl, hM', hW', Or.inr ⟨_, _, _, em.symm⟩, Or.inl ha, fr, rr⟩, ms⟩
      · rw [g1] at e1 e3
        exact Or.inl ⟨(upd f12 (g * 4 + j) (clF hw v), upd f13 (g * 4 + j) (flF hw v), y14, y15, y16, z1, z2, z3, z4, z5, hi, lo, fb, upd f11 (g * 4 + j) (nI v), -1, nI n5, 1, l, sz, c, fu, x, wa, nI v, i + 1, fz', qs'), (upd r11 s' (nI v), S34, S35, S38, S39, S40, S41, S43, S44, w47, w48, cnt, nc + 1, nI v, i + 1), by simp only [sp_E_8_lets_L1, slet, if_neg ce, if_pos ha, ev, es, e1, if_neg (show ¬ (1 : Nat) = 0 by omega)], by simp only [sp_EM_lets_L2, slet, if_neg ce, if_neg na, ev, hsp, ec, e15, Nat.add_sub_cancel, e2, e3, if_neg (show ¬ (1 : Nat) = 0 by omega), upd_s], ⟨_, _, _, _, _, _, _, _, _, _, _, _, _, _, _, _, _, _, _, _, _, _, _, _, _, _, _, _, _, _, _, _, _, _, _, _, _, _, _, _, rfl, rfl, hM', hW', Or.inr ⟨_, _, _, em.symm⟩, Or.inr ⟨v, hv, rfl⟩, fr, rr⟩, ms⟩
    · have d : ∀ v : Nat, v < 21 → ¬ (nI v : Int32) = -2 ∧ (0 : Int32) ≤ nI v := by decide +kernel
      obtain ⟨d1, d2⟩ := d v0 (by omega)
      have n1 : ¬ ans = -2 := by rw [ha]; exact d1
      have n2 : (0 : Int32) ≤ ans := by rw [ha]; exact d2
      exact Or.inr ⟨(ans, i, f11, f12, f13, f14, f15, f16, tc, tfull, tx, tway, tav, tgoal, tfound, tl, tsz, q1, s2, s3, s4, s5, hit, lot, fbu, qs, fz), by simp only [sp_E_8_lets_L1, if_neg ce, if_neg n1], _, _, _, _, _, _, _, _, _, _, _, _, _, _, _, _, _, _, _, _, _, _, _, _, _, _, _, r11, R34, R35, R38, R39, R40, R41, R43, R44, g47, g48, m42, x46, rfl, itrv_inr (by simp only [sp_EM_lets_L2, if_neg ce, if_pos n2]), hk1, hk2⟩
/-- lets: the class, the reference -/
theorem lets_same {b nc np ne st o : Nat} {st0 : Int32} {f4 : Nat → Int32} {q5 q6 : Nat → Nat} {f7 : Nat → Int32} {q8 q9 : Nat → Nat} {f10 f11 f12 f13 f14 f15 f16 : Nat → Int32} {f3 : Nat → Int32} {r4 r5 r6 r7 : Nat → Nat} {f8 : Nat → Int32} {r9 r10 : Nat → Nat} {r11 : Nat → Int32} {m12_0 m12_1 m13_0 m13_1 m14_0 m14_1 m15_0 m15_1 : Nat} (h : MB b nc np ne st0 f4 q5 q6 f7 q8 q9 f10 f11 f3 r4 r5 r6 r7 f8 r9 r10 r11 (bkN b m12_0 m12_1) (bkN b m13_0 m13_1) (bkN b m14_0 m14_1) (bkN b m15_0 m15_1)) (w : WFm nc np ne f4 q8 q9 f10 f11 f12 f13) (hs : MS nc np q8 q9 f10 f11 f14 f15 f16) (hb : b ≤ 1) (hu : ∀ i, i < np → ∀ j, j < q8 (14 + i) → r10 (80 * b + 56 + 3 * i + j) ≤ 1) (hst : st < np) (e15 : bkN b m15_0 m15_1 = st + 1) (tc tfull : Nat) (tx tway tav tgoal : Int32) (tfound tl tsz : Nat) (q1 : Nat → Nat) (s2 s3 s4 s5 hit lot fbu : Nat → Int32) (fz : Nat → Nat → Int32) (qs : Nat → Nat) (x46 m42 : Nat) (r38 : Nat → Nat) (r39 r40 r41 r34 r35 r43 r44 f47 f48 : Nat → Int32) (p0 p1 p2 p3 : Int32) :
  ∃ r z12 z13 z14 z15 z16 z1 z2 z3 z4 z5 hi lo fb z11 av go fo l sz c fu x wa fz' qs' w11 R34 R35 R38 R39 R40 R41 R43 R44 g47 g48 cnt th y46, sp_E_8_lets nc np ne st f4 q5 q6 f7 q8 q9 f10 f11 f12 f13 f14 f15 f16 tc tfull tx tway tav tgoal tfound tl tsz q1 s2 s3 s4 s5 hit lot fbu o qs fz p0 p1 p2 p3 = (r, z12, z13, z14, z15, z16, z1, z2, z3, z4, z5, hi, lo, fb, z11, av, go, fo, l, sz, c, fu, x, wa, fz', qs') ∧ sp_EM_lets b x46 f3 r4 r5 r6 r7 f8 r9 r10 r11 m12_0 m12_1 m13_0 m13_1 m14_0 m14_1 m15_0 m15_1 r34 r35 r38 r39 r40 r41 m42 r43 r44 f47 f48 p0 p1 p2 p3 = (r, w11, R34, R35, R38, R39, R40, R41, R43, R44, g47, g48, cnt, th, y46) ∧ (∀ x, (x < o ∨ o + 120 < x) → fz' x = fz x ∧ qs' x = qs x) ∧ RFR1 r38 r39 r40 r41 r34 r43 r44 R38 R39 R40 R41 R34 R43 R44 := by
  have hp8 := h.1.2.2.2.1
  have hne := h.1.2.2.2.2.2
  have e13 : bkN b m13_0 m13_1 = np := h.1.2.2.1
  have ec : sp_EM_clocks b m12_0 m12_1 = nc := h.1.1
  have e15' : (if b = 0 then m15_0 else m15_1) = st + 1 := e15
  have rf : RFR1 r38 r39 r40 r41 r34 r43 r44 r38 r39 r40 r41 r34 r43 r44 := ⟨FRM1.rf, fun _ _ => ⟨rfl, rfl⟩⟩
  have ff : ∀ x, (x < o ∨ o + 120 < x) → fz x = fz x ∧ qs x = qs x := fun _ _ => ⟨rfl, rfl⟩
  have n01 : ¬ (0 : Nat) = 1 := by decide
  have h' := h
  obtain ⟨-, -, -, -, -, h8, h9, -⟩ := h'
  have cls : ∀ g j : Nat, sp_E_8_slotOf np ne q8 p0 p1 = g * 4 + j + 1 → ¬ ((0 : Int32) ≤ p2 ∧ p2 < nI np ∧ (0 : Int32) ≤ p3 ∧ p3 ≤ 1) → sp_E_8_lets nc np ne st f4 q5 q6 f7 q8 q9 f10 f11 f12 f13 f14 f15 f16 tc tfull tx tway tav tgoal tfound tl tsz q1 s2 s3 s4 s5 hit lot fbu o qs fz p0 p1 p2 p3 = (-1, f12, f13, f14, f15, f16, q1, s2, s3, s4, s5, hit, lot, fbu, f11, tav, tgoal, tfound, tl, tsz, tc, tfull, tx, tway, fz, qs) := by
    intro g j s1 hn
    have ns : ¬ g * 4 + j + 1 = 0 := Nat.succ_ne_zero _
    by_cases c : (0 : Int32) ≤ p2 ∧ p2 < nI np
    · by_cases c3 : p3 < 0
      · simp only [sp_E_8_lets, slet, s1, if_neg ns, if_pos c, if_pos c3]
      · have c1 : ¬ p3 ≤ 1 := fun z => hn ⟨c.1, c.2, Int32.not_lt.mp c3, z⟩
        simp only [sp_E_8_lets, slet, s1, if_neg ns, if_pos c, if_neg c3, if_neg c1]
    · simp only [sp_E_8_lets, slet, s1, if_neg ns, if_neg c]
  rcases slot_same h p0 p1 with ⟨s1, s2'⟩ | ⟨k, j, hk2, hj, rfl, rfl, s1, s2'⟩ | ⟨k, j, hk2, hj, rfl, rfl, s1, s2'⟩
  · exact ⟨-1, f12, f13, f14, f15, f16, q1, s2, s3, s4, s5, hit, lot, fbu, f11, tav, tgoal, tfound, tl, tsz, tc, tfull, tx, tway, fz, qs, r11, r34, r35, r38, r39, r40, r41, r43, r44, f47, f48, m42, 0, x46, by simp only [sp_E_8_lets, slet, s1, if_pos], by simp only [sp_EM_lets, slet, s2', if_neg n01], ff, rf⟩
  · have hkn : (nI k : Int32).toNatClampNeg = k := (nI_cl (by omega)).symm
    have d2 := (h9 k hk2).2.1
    have hjn : (nI j : Int32).toNatClampNeg = j := (nI_cl (by omega)).symm
    have hl : (nI k : Int32) < 100 := nI_lt (a := k) (b := 100) (by omega) (by omega)
    by_cases c : (0 : Int32) ≤ p2 ∧ p2 < nI np ∧ (0 : Int32) ≤ p3 ∧ p3 ≤ 1
    · have c2 : (0 : Int32) ≤ p2 ∧ p2 < nI np := ⟨c.1, c.2.1⟩
      have c3 : (0 : Int32) ≤ p3 ∧ p3 ≤ 1 := c.2.2
      have c4 : ¬ p3 < 0 := Int32.not_lt.mpr c3.1
      have hP : PL b np ne q8 (k) j (80 * b + 4 * k + j) := ⟨hj, Or.inl ⟨hk2, by omega, rfl⟩⟩
      obtain ⟨e11, s79, g22⟩ := h.at hP
      obtain ⟨⟨hw, n0, hm, hn0, g10, g11, g12, g13⟩, -⟩ := (w.1 (k) g22).2 j hP.1
      obtain ⟨ans, i, a11, a12, a13, a14, a15, a16, ac, afull, ax, away, aav, agoal, afound, al, asz, a1, a2, a3, a4, a5, ahi, alo, afb, aqs, afz, w11, R34, R35, R38, R39, R40, R41, R43, R44, g47, g48, cnt, y46, x1, x2, x3, x4⟩ := letsS_L1 (n3 := k) (n4 := j) (n5 := p2.toNatClampNeg) (n8 := p3.toNatClampNeg) hb hu hst hp8 ec e15' hP (by omega) g22 g10 hm fz qs r38 r39 r40 r41 r34 r43 r44 (t := (f12, f13, f14, f15, f16, q1, s2, s3, s4, s5, hit, lot, fbu, f11, tav, tgoal, tfound, tl, tsz, tc, tfull, tx, tway, -2, 0, fz, qs)) (t' := (r11, r34, r35, r38, r39, r40, r41, r43, r44, f47, f48, m42, x46, -2, 0)) ⟨_, _, _, _, _, _, _, _, _, _, _, _, _, _, _, _, _, _, _, _, _, _, _, _, _, _, _, _, _, _, _, _, _, _, _, _, _, _, _, _, rfl, rfl, h, w, hs, Or.inl rfl, ff, rf⟩
      obtain ⟨⟨b13, b14, b15, b16, b11, b12⟩, es⟩ : ∃ y, sp_E_0_setNumber q8 q9 f10 a11 a12 a13 a14 a15 a16 ((k) * 4 + j) (f11 ((k) * 4 + j)) = y := ⟨_, rfl⟩
      have ns : ¬ (k) * 4 + j + 1 = 0 := Nat.succ_ne_zero _
      exact ⟨ans, b12, b13, b14, b15, b16, a1, a2, a3, a4, a5, ahi, alo, afb, b11, aav, agoal, afound, al, asz, ac, afull, ax, away, afz, aqs, upd w11 (80 * b + 4 * k + j) (r11 (80 * b + 4 * k + j)), R34, R35, R38, R39, R40, R41, R43, R44, g47, g48, cnt, 0, y46, by simp only [sp_E_8_lets, slet, s1, if_neg ns, Nat.add_sub_cancel, if_pos c2, if_neg c4, if_pos c3.2, x1, es], by simp only [sp_EM_lets, slet, s2', if_pos, if_pos hl, hkn, hjn, e13, if_pos c2, if_pos c3, x2], x3, x4⟩
    · refine ⟨-1, f12, f13, f14, f15, f16, q1, s2, s3, s4, s5, hit, lot, fbu, f11, tav, tgoal, tfound, tl, tsz, tc, tfull, tx, tway, fz, qs, r11, r34, r35, r38, r39, r40, r41, r43, r44, f47, f48, m42, 0, x46, cls _ _ s1 c, ?_, ff, rf⟩
      by_cases c2 : (0 : Int32) ≤ p2 ∧ p2 < nI np
      · have c3 : ¬ ((0 : Int32) ≤ p3 ∧ p3 ≤ 1) := fun z => c ⟨c2.1, c2.2, z⟩
        simp only [sp_EM_lets, slet, s2', if_pos, if_pos hl, e13, if_pos c2, if_neg c3]
      · simp only [sp_EM_lets, slet, s2', if_pos, if_pos hl, e13, if_neg c2]
  · have hkn : (nI k : Int32).toNatClampNeg = k := (nI_cl (by omega)).symm
    have d2 := (h8 k hk2).2.1
    have hjn : (nI j : Int32).toNatClampNeg = j := (nI_cl (by omega)).symm
    have hl : ¬ (nI (100 + k) : Int32) < 100 := nI_nlt (a := 100 + k) (b := 100) (by omega) (by omega)
    by_cases c : (0 : Int32) ≤ p2 ∧ p2 < nI np ∧ (0 : Int32) ≤ p3 ∧ p3 ≤ 1
    · have c2 : (0 : Int32) ≤ p2 ∧ p2 < nI np := ⟨c.1, c.2.1⟩
      have c3 : (0 : Int32) ≤ p3 ∧ p3 ≤ 1 := c.2.2
      have c4 : ¬ p3 < 0 := Int32.not_lt.mpr c3.1
      have hP : PL b np ne q8 (14 + k) j (80 * b + 56 + 3 * k + j) := ⟨hj, Or.inr ⟨k, hk2, rfl, rfl⟩⟩
      obtain ⟨e11, s79, g22⟩ := h.at hP
      obtain ⟨⟨hw, n0, hm, hn0, g10, g11, g12, g13⟩, -⟩ := (w.1 (14 + k) g22).2 j hP.1
      obtain ⟨ans, i, a11, a12, a13, a14, a15, a16, ac, afull, ax, away, aav, agoal, afound, al, asz, a1, a2, a3, a4, a5, ahi, alo, afb, aqs, afz, w11, R34, R35, R38, R39, R40, R41, R43, R44, g47, g48, cnt, y46, x1, x2, x3, x4⟩ := letsS_L2 (n3 := k) (n4 := j) (n5 := p2.toNatClampNeg) (n8 := p3.toNatClampNeg) hb hu hst hp8 ec e15' hP (by omega) g22 g10 hm fz qs r38 r39 r40 r41 r34 r43 r44 (t := (f12, f13, f14, f15, f16, q1, s2, s3, s4, s5, hit, lot, fbu, f11, tav, tgoal, tfound, tl, tsz, tc, tfull, tx, tway, -2, 0, fz, qs)) (t' := (r11, r34, r35, r38, r39, r40, r41, r43, r44, f47, f48, m42, x46, -2, 0)) ⟨_, _, _, _, _, _, _, _, _, _, _, _, _, _, _, _, _, _, _, _, _, _, _, _, _, _, _, _, _, _, _, _, _, _, _, _, _, _, _, _, rfl, rfl, h, w, hs, Or.inl rfl, ff, rf⟩
      obtain ⟨⟨b13, b14, b15, b16, b11, b12⟩, es⟩ : ∃ y, sp_E_0_setNumber q8 q9 f10 a11 a12 a13 a14 a15 a16 ((14 + k) * 4 + j) (f11 ((14 + k) * 4 + j)) = y := ⟨_, rfl⟩
      have ns : ¬ (14 + k) * 4 + j + 1 = 0 := Nat.succ_ne_zero _
      exact ⟨ans, b12, b13, b14, b15, b16, a1, a2, a3, a4, a5, ahi, alo, afb, b11, aav, agoal, afound, al, asz, ac, afull, ax, away, afz, aqs, upd w11 (80 * b + (56 + 3 * (100 + k - 100)) + j) (r11 (80 * b + (56 + 3 * (100 + k - 100)) + j)), R34, R35, R38, R39, R40, R41, R43, R44, g47, g48, cnt, 0, y46, by simp only [sp_E_8_lets, slet, s1, if_neg ns, Nat.add_sub_cancel, if_pos c2, if_neg c4, if_pos c3.2, x1, es], by simp only [sp_EM_lets, slet, s2', if_pos, if_neg hl, p100, hkn, hjn, e13, if_pos c2, if_pos c3, x2], x3, x4⟩
    · refine ⟨-1, f12, f13, f14, f15, f16, q1, s2, s3, s4, s5, hit, lot, fbu, f11, tav, tgoal, tfound, tl, tsz, tc, tfull, tx, tway, fz, qs, r11, r34, r35, r38, r39, r40, r41, r43, r44, f47, f48, m42, 0, x46, cls _ _ s1 c, ?_, ff, rf⟩
      by_cases c2 : (0 : Int32) ≤ p2 ∧ p2 < nI np
      · have c3 : ¬ ((0 : Int32) ≤ p3 ∧ p3 ≤ 1) := fun z => c ⟨c2.1, c2.2, z⟩
        simp only [sp_EM_lets, slet, s2', if_pos, if_neg hl, p100, e13, if_pos c2, if_neg c3]
      · simp only [sp_EM_lets, slet, s2', if_pos, if_neg hl, p100, e13, if_neg c2]
def mx120 (a : Int32) : Int32 := if ((-120) : Int32) < a then a else -120
theorem mx120_up (a r : Int32) : (if mx120 a < r then r else mx120 a) = mx120 (if a < r then r else a) := by
  have i0 : ((-120) : Int32).toInt = -120 := by decide
  unfold mx120
  by_cases c1 : ((-120) : Int32) < a
  · rw [if_pos c1]
    by_cases c2 : a < r
    · rw [if_pos c2]
      rw [Int32.lt_iff_toInt_lt, i0] at c1
      rw [Int32.lt_iff_toInt_lt] at c2
      rw [if_pos (by rw [Int32.lt_iff_toInt_lt, i0]; omega)]
    · rw [if_neg c2, if_pos c1]
  · rw [if_neg c1]
    by_cases c2 : ((-120) : Int32) < r
    · rw [if_pos c2]
      have c3 : a < r := by
        rw [Int32.lt_iff_toInt_lt, i0] at c1 c2
        rw [Int32.lt_iff_toInt_lt]
        omega
      rw [if_pos c3, if_pos c2]
    · rw [if_neg c2]
      by_cases c3 : a < r
      · rw [if_pos c3, if_neg c2]
      · rw [if_neg c3, if_neg c1]
/-- the tightest lower end of the clock that is one more -/
theorem soonL {n nc np k n4 o cnt : Nat} (hn : n = nc + 2) (hn5 : n ≤ 5) {Z : Nat → Nat → Nat → Option Int} {q1 : Nat → Nat} {s2 s3 s4 : Nat → Int32} {qs : Nat → Nat} {fz : Nat → Nat → Int32} {R38 : Nat → Nat} {R39 R40 R41 R34 R35 R43 R44 g47 g48 : Nat → Int32} (hk : k < 8) (hG : GS1 n 2 cnt np Z q1 s2 s3 s4 o qs fz R38 R39 R40 R41 R34) : ∀ T, sp_EM_soonest_L1 k n4 nc R34 R35 R38 R39 R40 R41 R43 R44 g47 g48 cnt (mx120 (sp_E_1_loosestAt_25 cnt q1 o qs fz (nI k) 0 (nc + 1)), cnt) = .inr T → itrv default (sp_EM_soonest_L1 k n4 nc R34 R35 R38 R39 R40 R41 R43 R44 g47 g48 cnt) (-120, 0) = T := by
  refine itrv_sim (d := default) (d' := default) (f := sp_E_1_loosestAt_25_L1 cnt q1 o qs fz (nI k) 0 (nc + 1)) (g := sp_EM_soonest_L1 k n4 nc R34 R35 R38 R39 R40 R41 R43 R44 g47 g48 cnt) (fun t t' => ∃ a i, t = (a, i) ∧ t' = (mx120 a, i) ∧ i ≤ cnt) (fun r r' => ∀ T, sp_EM_soonest_L1 k n4 nc R34 R35 R38 R39 R40 R41 R43 R44 g47 g48 cnt (mx120 r, cnt) = .inr T → r' = T) (fun (_, i) => cnt - i) ?_ _ (-2147483648, 0) (-120, 0) (Nat.le_refl _) ⟨-2147483648, 0, rfl, by rw [show mx120 (-2147483648) = -120 by decide], Nat.zero_le _⟩
  rintro _ _ ⟨a, i, rfl, rfl, hi⟩
  by_cases ce : cnt ≤ i
  · have ei : i = cnt := by omega
    subst ei
    exact Or.inr ⟨a, by simp only [sp_E_1_loosestAt_25_L1, if_pos ce], fun T e => itrv_inr e⟩
  · have hi2 : i < cnt := by omega
    have ms : cnt - (i + 1) < cnt - i := by omega
    obtain ⟨⟨y1, y2, -, -, -⟩, y6, y7, y8, y9⟩ := hG i hi2
    have em : min (qs (o + i)) 5 = n := by omega
    have h0 : 0 < n := by omega
    have hj : nc + 1 < n := by omega
    obtain ⟨v, ev, hv⟩ := ble_some (y7.nn (nc + 1) hj)
    have x1 := (y8 0 (nc + 1) h0 hj).some ev
    have x2 := RFC.yes (y9 0 (nc + 1) h0 hj) ev
    have ei : 25 * (120 + i) + (nc + 2) - 1 = 25 * (120 + i) + (5 * 0 + (nc + 1)) := by omega
    have eq : R34 (25 * (120 + i) + (nc + 2) - 1) = fz (o + i) (0 * n + (nc + 1)) := by
      rw [ei]
      exact Int32.toInt_inj.mp (x2.1.trans x1.1.symm)
    by_cases c : min (R38 (120 + i)) 7 = k
    · have c' : (nI (min (q1 i) 7) : Int32) = nI k := by rw [y1, c]
      refine Or.inl ⟨(if a < fz (o + i) (0 * n + (nc + 1)) then fz (o + i) (0 * n + (nc + 1)) else a, i + 1), (mx120 (if a < fz (o + i) (0 * n + (nc + 1)) then fz (o + i) (0 * n + (nc + 1)) else a), i + 1), by simp only [sp_E_1_loosestAt_25_L1, sp_E_7_cellOf_25, slet, if_neg ce, if_pos c', em], ?_, ⟨_, _, rfl, rfl, by omega⟩, ms⟩
      simp only [sp_EM_soonest_L1, slet, if_neg ce, if_pos c, great_eq, eq, mx120_up]
    · have c' : ¬ (nI (min (q1 i) 7) : Int32) = nI k := fun z => c (by rw [← y1]; exact (nI_eq (by omega) (by omega)).mp z)
      exact Or.inl ⟨(a, i + 1), (mx120 a, i + 1), by simp only [sp_E_1_loosestAt_25_L1, slet, if_neg ce, if_neg c'], by simp only [sp_EM_soonest_L1, slet, if_neg ce, if_neg c], ⟨_, _, rfl, rfl, by omega⟩, ms⟩
/-- the kept graph of the clock that is one more is what growing gives -/
def SOONK (nc np ne st o : Nat) (f4 : Nat → Int32) (q5 q6 : Nat → Nat) (f7 : Nat → Int32) (q8 q9 : Nat → Nat) (f10 f11 f12 f13 : Nat → Int32) (uc ufull : Nat) (q1u qs : Nat → Nat) (fz : Nat → Nat → Int32) : Prop := ∃ (x y fb : Nat → Int32) (q10 : Nat → Nat) (s20 s30 s40 s50 : Nat → Int32) (qs0 : Nat → Nat) (fz0 : Nat → Nat → Int32) (k1 : Nat → Nat) (k2 k3 k4 k5 : Nat → Int32) (kf kc kg : Nat) (kx : Int32) (kz : Nat → Nat → Int32) (kq : Nat → Nat) (s2 s3 s4 s5 : Nat → Int32) (gf : Nat) (gx : Int32), (∀ j, j < nc + 2 → x j = HV q8 q9 f10 f11 nc 2 j ∧ y j = LV q8 q9 f10 f11 nc 2 j) ∧ (∀ i, i < 5 → fb i = 0) ∧ sp_E_1_open_25 2 (-1) (-1) 0 (nc + 2) q10 s20 s30 s40 s50 x y f4 q8 q9 f12 f13 fb o qs0 fz0 st = (k1, k2, k3, k4, k5, kf, kc, kg, kx, kz, kq) ∧ sp_E_1_grow_25 kc kg kx 2 (-1) (-1) kf 1 k1 k2 k3 k4 k5 x y nc ne f4 q5 q6 f7 q8 q9 f12 f13 o kq kz = (q1u, s2, s3, s4, s5, gf, uc, ufull, gx, fz, qs)
theorem m1_ne {v : Nat} (h : v < 8) : ¬ (nI v : Int32) = -1 := by
  have d : ∀ v : Nat, v < 8 → ¬ (nI v : Int32) = -1 := by decide +kernel
  exact d v h
/-- soonest: the class, the reference -/
theorem soonest_same {b nc np ne st o : Nat} {st0 : Int32} {f4 : Nat → Int32} {q5 q6 : Nat → Nat} {f7 : Nat → Int32} {q8 q9 : Nat → Nat} {f10 f11 f12 f13 f14 f15 f16 : Nat → Int32} {f3 : Nat → Int32} {r4 r5 r6 r7 : Nat → Nat} {f8 : Nat → Int32} {r9 r10 : Nat → Nat} {r11 : Nat → Int32} {m12_0 m12_1 m13_0 m13_1 m14_0 m14_1 m15_0 m15_1 : Nat} (h : MB b nc np ne st0 f4 q5 q6 f7 q8 q9 f10 f11 f3 r4 r5 r6 r7 f8 r9 r10 r11 (bkN b m12_0 m12_1) (bkN b m13_0 m13_1) (bkN b m14_0 m14_1) (bkN b m15_0 m15_1)) (w : WFm nc np ne f4 q8 q9 f10 f11 f12 f13) (hs : MS nc np q8 q9 f10 f11 f14 f15 f16) (hb : b ≤ 1) (hu : ∀ i, i < np → ∀ j, j < q8 (14 + i) → r10 (80 * b + 56 + 3 * i + j) ≤ 1) (hst : st < np) (e15 : bkN b m15_0 m15_1 = st + 1) (ss uc ufull : Nat) (ux uway uav ugoal : Int32) (ufound ul usz : Nat) (q1 : Nat → Nat) (s2 s3 s4 s5 hiu lou fbu : Nat → Int32) (fz : Nat → Nat → Int32) (qs : Nat → Nat) (hK : ss = 0 ∨ SOONK nc np ne st o f4 q5 q6 f7 q8 q9 f10 f11 f12 f13 uc ufull q1 qs fz) (x46 m42 : Nat) (r38 : Nat → Nat) (r39 r40 r41 r34 r35 r43 r44 f47 f48 : Nat → Int32) (p0 p1 : Int32) :
  ∃ r z1 z2 z3 z4 z5 hi lo fb zss av go fo l sz c fu x wa fz' qs' R34 R35 R38 R39 R40 R41 R43 R44 g47 g48 cnt th y46, sp_E_8_soonest ss nc np ne st f4 q5 q6 f7 q8 q9 f12 f13 f14 f15 f16 uc ufull ux uway uav ugoal ufound ul usz q1 s2 s3 s4 s5 hiu lou fbu o qs fz p0 p1 = (r, z1, z2, z3, z4, z5, hi, lo, fb, zss, av, go, fo, l, sz, c, fu, x, wa, fz', qs') ∧ sp_EM_soonest b x46 f3 r4 r5 r6 r7 f8 r9 r10 r11 m12_0 m12_1 m13_0 m13_1 m14_0 m14_1 m15_0 m15_1 r34 r35 r38 r39 r40 r41 m42 r43 r44 f47 f48 p0 p1 = (r, R34, R35, R38, R39, R40, R41, R43, R44, g47, g48, cnt, th, y46) ∧ (zss = 0 ∨ SOONK nc np ne st o f4 q5 q6 f7 q8 q9 f10 f11 f12 f13 c fu z1 qs' fz') ∧ RFR1 r38 r39 r40 r41 r34 r43 r44 R38 R39 R40 R41 R34 R43 R44 := by
  have hp8 := h.1.2.2.2.1
  have hc3 : nc ≤ 3 := h.1.2.1
  have e13 : bkN b m13_0 m13_1 = np := h.1.2.2.1
  have ec : sp_EM_clocks b m12_0 m12_1 = nc := h.1.1
  have e15' : (if b = 0 then m15_0 else m15_1) = st + 1 := e15
  have rf : RFR1 r38 r39 r40 r41 r34 r43 r44 r38 r39 r40 r41 r34 r43 r44 := ⟨FRM1.rf, fun _ _ => ⟨rfl, rfl⟩⟩
  by_cases c0 : (0 : Int32) ≤ p0 ∧ p0 < nI np
  · by_cases c1 : (0 : Int32) ≤ p1 ∧ p1 ≤ 1
    · obtain ⟨k, hk, ek, ck⟩ := np_of hp8 c0
      have c2 : ¬ p1 < 0 := Int32.not_lt.mpr c1.1
      obtain ⟨x', y', elf, hxy'⟩ := forg_z h hb hu 2 f47 f48
      -- what the class has when it answers
      obtain ⟨G6, uc', ufull', ux', uway', uav', ugoal', ufound', ul', usz', q1', s2', s3', s4', s5', hi', lo', fb', qs', fz', eI, hK'⟩ : ∃ G6 uc' ufull' ux' uway' uav' ugoal' ufound' ul' usz' q1' s2' s3' s4' s5' hi' lo' fb' qs' fz', (∀ P : (Nat × Nat × Nat × Int32 × Int32 × Int32 × Int32 × Nat × Nat × Nat × (Nat → Nat) × (Nat → Int32) × (Nat → Int32) × (Nat → Int32) × (Nat → Int32) × (Nat → Int32) × (Nat → Int32) × (Nat → Int32) × (Nat → Nat) × (Nat → Nat → Int32)) → Int32 × (Nat → Nat) × (Nat → Int32) × (Nat → Int32) × (Nat → Int32) × (Nat → Int32) × (Nat → Int32) × (Nat → Int32) × (Nat → Int32) × Nat × Int32 × Int32 × Nat × Nat × Nat × Nat × Nat × Int32 × Int32 × (Nat → Nat → Int32) × (Nat → Nat), P (if ss = 0 then (slet (sp_E_1_plan_25 hiu lou nc f14 f15 f16 2 1 (nc + 2)) (fun (z_fhi_41, z_flo_42, z_gav_43, z_ggoal_44, z_gfound_45, z_gl_46, z_gsz_47, z_gway_48) => (slet (sp_E_8_beginAtZero_25 st f4 q8 q9 f12 f13 z_gway_48 z_gav_43 z_ggoal_44 z_gfound_45 z_gsz_47 q1 s2 s3 s4 s5 z_fhi_41 z_flo_42 fbu o qs fz) (fun (z_s1gx_50, z_s2gx_51, z_s3gx_52, z_s4gx_53, z_s5gx_54, z_fbu_55, z_gxfound_56, z_gxc_57, z_gxfull_58, z_gxx_59, z_fz_60, z_qs_61) => (slet (sp_E_1_grow_25 z_gxc_57 z_gxfull_58 z_gxx_59 z_gway_48 z_gav_43 z_ggoal_44 z_gxfound_56 z_gl_46 z_s1gx_50 z_s2gx_51 z_s3gx_52 z_s4gx_53 z_s5gx_54 z_fhi_41 z_flo_42 nc ne f4 q5 q6 f7 q8 q9 f12 f13 o z_qs_61 z_fz_60) (fun (z_fs1_63, z_fs2_64, z_fs3_65, z_fs4_66, z_fs5_67, z_gfound_68, z_gc_69, z_gfull_70, z_gx_71, z_fz_72, z_qs_73) => (1, z_gc_69, z_gfull_70, z_gx_71, z_gway_48, z_gav_43, z_ggoal_44, z_gfound_68, z_gl_46, z_gsz_47, z_fs1_63, z_fs2_64, z_fs3_65, z_fs4_66, z_fs5_67, z_fhi_41, z_flo_42, z_fbu_55, z_qs_73, z_fz_72))))))) else (ss, uc, ufull, ux, uway, uav, ugoal, ufound, ul, usz, q1, s2, s3, s4, s5, hiu, lou, fbu, qs, fz)) = P (G6, uc', ufull', ux', uway', uav', ugoal', ufound', ul', usz', q1', s2', s3', s4', s5', hi', lo', fb', qs', fz')) ∧ SOONK nc np ne st o f4 q5 q6 f7 q8 q9 f10 f11 f12 f13 uc' ufull' q1' qs' fz' := by
        by_cases cs : ss = 0
        · obtain ⟨x, y, ep, hxy⟩ := plan_25 hs (by omega) hc3 2 1 (nc + 2) (by omega) hiu lou
          obtain ⟨fb, hfb, hbz⟩ := bz_25 (st0 := st) (gf := 0) (gsz := nc + 2) (o := o) (f4 := f4) (q8 := q8) (q9 := q9) (f12 := f12) (f13 := f13) (gway := 2) (gav := -1) (ggoal := -1) (q1 := q1) (s2 := s2) (s3 := s3) (s4 := s4) (s5 := s5) (fhi := x) (flo := y) (fbu := fbu) (qs := qs) (fz := fz)
          obtain ⟨⟨k1, k2, k3, k4, k5, kf, kc, kg, kx, kz, kq⟩, eo⟩ : ∃ X, sp_E_1_open_25 2 (-1) (-1) 0 (nc + 2) q1 s2 s3 s4 s5 x y f4 q8 q9 f12 f13 fb o qs fz st = X := ⟨_, rfl⟩
          obtain ⟨⟨q1', s2', s3', s4', s5', gf, gc, gfull, gx, fz', qs'⟩, eg⟩ : ∃ X, sp_E_1_grow_25 kc kg kx 2 (-1) (-1) kf 1 k1 k2 k3 k4 k5 x y nc ne f4 q5 q6 f7 q8 q9 f12 f13 o kq kz = X := ⟨_, rfl⟩
          refine ⟨1, gc, gfull, gx, 2, -1, -1, gf, 1, nc + 2, q1', s2', s3', s4', s5', x, y, fb, qs', fz', fun P => ?_, x, y, fb, q1, s2, s3, s4, s5, qs, fz, k1, k2, k3, k4, k5, kf, kc, kg, kx, kz, kq, s2', s3', s4', s5', gf, gx, hxy, hfb, eo, eg⟩
          rw [if_pos cs]
          simp only [slet, ep, hbz _ _ _ _ _ _ _ _ _ _ _ eo, eg]
        · refine ⟨ss, uc, ufull, ux, uway, uav, ugoal, ufound, ul, usz, q1, s2, s3, s4, s5, hiu, lou, fbu, qs, fz, fun P => by rw [if_neg cs], hK.resolve_left cs⟩
      -- the reference's own, against it
      have hK2 := hK'
      obtain ⟨x, y, fb, q10, s20, s30, s40, s50, qs0, fz0, k1, k2, k3, k4, k5, kf, kc, kg, kx, kz, kq, t2, t3, t4, t5, gf, gx, hxy, hfb, eo, eg⟩ := hK'
      have hF := fgh_of w (n := nc + 2) (by omega) hxy hxy'
      obtain ⟨j1, j2, j3, j4, j5, jf, jc, jg, jx, jz, jq, eo', z1, z2, z3, z4, z5, gf', gc', gfull', gx', fz'', qs'', R34, R35, R38, R39, R40, R41, R43, R44, cnt, eg', ee, hS⟩ := explo_1_400 (gl := 1) (o := o) (wy := 2) (gav := -1) (goal := -1) h w hb (show nc + 1 ≤ nc + 2 by omega) (by omega) (fun c => absurd c (by decide)) elf hF hst (m1_ne (by omega)) (p0 := 0) (p1 := 0) (p2 := 0) (u := fun _ => 0) (fbu := fb) (fun i hi => ⟨by omega, hfb i (by omega), if3z⟩) rfl q10 s20 s30 s40 s50 fz0 qs0 r38 r39 r40 r41 r34 r35 r43 r44
      rw [eo] at eo'
      simp only [Prod.mk.injEq] at eo'
      obtain ⟨rfl, rfl, rfl, rfl, rfl, rfl, rfl, rfl, rfl, rfl, rfl⟩ := eo'
      rw [eg] at eg'
      simp only [Prod.mk.injEq] at eg'
      obtain ⟨rfl, rfl, rfl, rfl, rfl, rfl, rfl, rfl, rfl, rfl, rfl⟩ := eg'
      obtain ⟨-, hR, -, hM⟩ := hS
      rcases hM with ⟨-, rfl, ⟨Z, hG⟩, hfu, -, -⟩ | ⟨-, ⟨s, -, z⟩, -⟩
      · have hL := soonL (k := k) (n4 := p1.toNatClampNeg) (R35 := R35) (R43 := R43) (R44 := R44) (g47 := x') (g48 := y') rfl (by omega) (by omega) hG
        have eE : ∀ r, (if ufull' = 0 then (if ((-120) : Int32) < sp_E_1_loosestAt_25 uc' q1' o qs' fz' (nI k) 0 (nc + 1) then (if p1.toNatClampNeg = 0 then -(sp_E_1_loosestAt_25 uc' q1' o qs' fz' (nI k) 0 (nc + 1) >>> ((1 : Int32) &&& 31)) else sp_E_1_loosestAt_25 uc' q1' o qs' fz' (nI k) 0 (nc + 1) &&& (1 : Int32)) else -1) else -2) = r → sp_E_8_soonest ss nc np ne st f4 q5 q6 f7 q8 q9 f12 f13 f14 f15 f16 uc ufull ux uway uav ugoal ufound ul usz q1 s2 s3 s4 s5 hiu lou fbu o qs fz p0 p1 = (r, q1', s2', s3', s4', s5', hi', lo', fb', G6, uav', ugoal', ufound', ul', usz', uc', ufull', ux', uway', fz', qs') := by
          intro r er
          subst er
          obtain ⟨P, hP⟩ : ∃ P : (Nat × Nat × Nat × Int32 × Int32 × Int32 × Int32 × Nat × Nat × Nat × (Nat → Nat) × (Nat → Int32) × (Nat → Int32) × (Nat → Int32) × (Nat → Int32) × (Nat → Int32) × (Nat → Int32) × (Nat → Int32) × (Nat → Nat) × (Nat → Nat → Int32)) → (Int32 × (Nat → Nat) × (Nat → Int32) × (Nat → Int32) × (Nat → Int32) × (Nat → Int32) × (Nat → Int32) × (Nat → Int32) × (Nat → Int32) × Nat × Int32 × Int32 × Nat × Nat × Nat × Nat × Nat × Int32 × Int32 × (Nat → Nat → Int32) × (Nat → Nat)), P = (fun X : Nat × Nat × Nat × Int32 × Int32 × Int32 × Int32 × Nat × Nat × Nat × (Nat → Nat) × (Nat → Int32) × (Nat → Int32) × (Nat → Int32) × (Nat → Int32) × (Nat → Int32) × (Nat → Int32) × (Nat → Int32) × (Nat → Nat) × (Nat → Nat → Int32) => (fun (g_6, g_7, g_8, g_9, g_10, g_11, g_12, g_13, g_14, g_15, g_16, g_17, g_18, g_19, g_20, g_21, g_22, g_23, g_24, g_25) => (if g_8 = 0 then (slet (sp_E_1_loosestAt_25 g_7 g_16 o g_24 g_25 (nI k) 0 (nc + 1)) (fun r_32 => (if ((-120) : Int32) < r_32 then (if p1.toNatClampNeg = 0 then (slet ((r_32 : Int32) >>> ((1 : Int32) &&& 31)) (fun y_36 => (slet (-(y_36 : Int32)) (fun y_37 => (y_37, g_16, g_17, g_18, g_19, g_20, g_21, g_22, g_23, g_6, g_11, g_12, g_13, g_14, g_15, g_7, g_8, g_9, g_10, g_25, g_24))))) else (slet ((r_32 : Int32) &&& (1 : Int32)) (fun y_35 => (y_35, g_16, g_17, g_18, g_19, g_20, g_21, g_22, g_23, g_6, g_11, g_12, g_13, g_14, g_15, g_7, g_8, g_9, g_10, g_25, g_24)))) else ((-1), g_16, g_17, g_18, g_19, g_20, g_21, g_22, g_23, g_6, g_11, g_12, g_13, g_14, g_15, g_7, g_8, g_9, g_10, g_25, g_24)))) else ((-2), g_16, g_17, g_18, g_19, g_20, g_21, g_22, g_23, g_6, g_11, g_12, g_13, g_14, g_15, g_7, g_8, g_9, g_10, g_25, g_24) : Int32 × (Nat → Nat) × (Nat → Int32) × (Nat → Int32) × (Nat → Int32) × (Nat → Int32) × (Nat → Int32) × (Nat → Int32) × (Nat → Int32) × Nat × Int32 × Int32 × Nat × Nat × Nat × Nat × Nat × Int32 × Int32 × (Nat → Nat → Int32) × (Nat → Nat))) X) := ⟨_, rfl⟩
          have e1 : sp_E_8_soonest ss nc np ne st f4 q5 q6 f7 q8 q9 f12 f13 f14 f15 f16 uc ufull ux uway uav ugoal ufound ul usz q1 s2 s3 s4 s5 hiu lou fbu o qs fz p0 p1 = P (G6, uc', ufull', ux', uway', uav', ugoal', ufound', ul', usz', q1', s2', s3', s4', s5', hi', lo', fb', qs', fz') := by
            rw [← eI P, hP, ← ck]
            unfold sp_E_8_soonest
            rw [if_pos c0]
            show (if p1 < 0 then _ else if p1 ≤ 1 then _ else _) = _
            rw [if_neg c2, if_pos c1.2]
            rfl
          rw [e1, hP]
          by_cases d1 : ufull' = 0
          · by_cases d2 : ((-120) : Int32) < sp_E_1_loosestAt_25 uc' q1' o qs' fz' (nI k) 0 (nc + 1)
            · by_cases d3 : p1.toNatClampNeg = 0
              · simp only [slet, if_pos d1, if_pos d2, if_pos d3]
              · simp only [slet, if_pos d1, if_pos d2, if_neg d3]
            · simp only [slet, if_pos d1, if_neg d2]
          · simp only [slet, if_neg d1]
        have eM : ∀ T, sp_EM_soonest_L1 k p1.toNatClampNeg nc R34 R35 R38 R39 R40 R41 R43 R44 x' y' uc' (mx120 (sp_E_1_loosestAt_25 uc' q1' o qs' fz' (nI k) 0 (nc + 1)), uc') = .inr T → sp_EM_soonest b x46 f3 r4 r5 r6 r7 f8 r9 r10 r11 m12_0 m12_1 m13_0 m13_1 m14_0 m14_1 m15_0 m15_1 r34 r35 r38 r39 r40 r41 m42 r43 r44 f47 f48 p0 p1 = T := by
          intro T eT
          rw [← hL T eT]
          simp only [sp_EM_soonest, slet, e13, if_pos c0, if_pos c1, ck, ec, e15', Nat.add_sub_cancel, ee]
        rcases hfu with ⟨u1, u2⟩ | ⟨u1, u2, u3⟩
        · by_cases d2 : ((-120) : Int32) < sp_E_1_loosestAt_25 uc' q1' o qs' fz' (nI k) 0 (nc + 1)
          · have em : mx120 (sp_E_1_loosestAt_25 uc' q1' o qs' fz' (nI k) 0 (nc + 1)) = sp_E_1_loosestAt_25 uc' q1' o qs' fz' (nI k) 0 (nc + 1) := if_pos d2
            have nm : ¬ sp_E_1_loosestAt_25 uc' q1' o qs' fz' (nI k) 0 (nc + 1) = -120 := fun z => by rw [z] at d2; exact absurd d2 (by decide)
            by_cases d3 : p1.toNatClampNeg = 0
            · exact ⟨_, q1', s2', s3', s4', s5', hi', lo', fb', G6, uav', ugoal', ufound', ul', usz', uc', ufull', ux', uway', fz', qs', R34, R35, R38, R39, R40, R41, R43, R44, x', y', uc', 0, nc + 2, eE _ rfl, eM _ (by simp only [sp_EM_soonest_L1, slet, if_pos (Nat.le_refl uc'), if_pos u2, em, if_neg nm, if_pos d3, if_pos u1, if_pos d2]), Or.inr hK2, hR⟩
            · exact ⟨_, q1', s2', s3', s4', s5', hi', lo', fb', G6, uav', ugoal', ufound', ul', usz', uc', ufull', ux', uway', fz', qs', R34, R35, R38, R39, R40, R41, R43, R44, x', y', uc', 0, nc + 2, eE _ rfl, eM _ (by simp only [sp_EM_soonest_L1, slet, if_pos (Nat.le_refl uc'), if_pos u2, em, if_neg nm, if_neg d3, if_pos u1, if_pos d2]), Or.inr hK2, hR⟩
          · have em : mx120 (sp_E_1_loosestAt_25 uc' q1' o qs' fz' (nI k) 0 (nc + 1)) = -120 := if_neg d2
            exact ⟨_, q1', s2', s3', s4', s5', hi', lo', fb', G6, uav', ugoal', ufound', ul', usz', uc', ufull', ux', uway', fz', qs', R34, R35, R38, R39, R40, R41, R43, R44, x', y', uc', 0, nc + 2, eE _ rfl, eM _ (by simp only [sp_EM_soonest_L1, slet, if_pos (Nat.le_refl uc'), if_pos u2, em, if_pos u1, if_neg d2, reduceIte]), Or.inr hK2, hR⟩
        · have n1 : ¬ ufull' = 0 := by omega
          have n2 : ¬ R44 1 = 0 := by rw [u2]; decide
          exact ⟨_, q1', s2', s3', s4', s5', hi', lo', fb', G6, uav', ugoal', ufound', ul', usz', uc', ufull', ux', uway', fz', qs', R34, R35, R38, R39, R40, R41, R43, R44, x', y', uc', 0, nc + 2, eE _ rfl, eM _ (by simp only [sp_EM_soonest_L1, slet, if_pos (Nat.le_refl uc'), if_neg n2, if_neg n1]), Or.inr hK2, hR⟩
      · exact absurd z (m1_ne (by omega))
    · refine ⟨-1, q1, s2, s3, s4, s5, hiu, lou, fbu, ss, uav, ugoal, ufound, ul, usz, uc, ufull, ux, uway, fz, qs, r34, r35, r38, r39, r40, r41, r43, r44, f47, f48, m42, 0, x46, ?_, by simp only [sp_EM_soonest, slet, e13, if_pos c0, if_neg c1], hK, rf⟩
      by_cases c2 : p1 < 0
      · simp only [sp_E_8_soonest, slet, if_pos c0, if_pos c2]
      · have c3 : ¬ p1 ≤ 1 := fun z => c1 ⟨Int32.not_lt.mp c2, z⟩
        simp only [sp_E_8_soonest, slet, if_pos c0, if_neg c2, if_neg c3]
  · exact ⟨-1, q1, s2, s3, s4, s5, hiu, lou, fbu, ss, uav, ugoal, ufound, ul, usz, uc, ufull, ux, uway, fz, qs, r34, r35, r38, r39, r40, r41, r43, r44, f47, f48, m42, 0, x46, by simp only [sp_E_8_soonest, slet, if_neg c0], by simp only [sp_EM_soonest, slet, e13, if_neg c0], hK, rf⟩
