theorem tgt_no {n i j : Nat} {M : Nat → Nat → Option Int} {f : Nat → Int32} (hf : ZR n f M) : ZR n f (tgt M i j none) := by
  intro p q hp hq
  show RFC _ (if p = i ∧ q = j then bmin (M i j) none else M p q)
  by_cases c : p = i ∧ q = j
  · rw [if_pos c, bmin_eq (ble_none _), ← c.1, ← c.2]
    exact hf p q hp hq
  · rw [if_neg c]; exact hf p q hp hq
theorem tight_z {n i j : Nat} (hn : n ≤ 5) (hi : i < n) (hj : j < n) {f : Nat → Int32} {M : Nat → Nat → Option Int} {x : Int32} {b : Option Int} (hf : ZR n f M) (hx : RFC x b) : ZR n (sp_EM_tightens_z f i j x) (tgt M i j b) := by
  intro p q hp hq
  show RFC (upd f (5 * i + j) (sp_EM_lesser (f (5 * i + j)) x) (5 * p + q)) (if p = i ∧ q = j then bmin (M i j) b else M p q)
  by_cases c : p = i ∧ q = j
  · rw [if_pos c, c.1, c.2, upd_s]
    exact (hf i j hi hj).lesser hx
  · rw [if_neg c, upd_n (show 5 * p + q ≠ 5 * i + j by omega)]
    exact hf p q hp hq
/-- the bounds of a condition: from above, from below -/
def clO (hw v : Nat) : Option Int := if hw ≤ 2 then (if hw = 0 then some (2 * (v : Int)) else some (2 * (v : Int) + 1)) else none
def flO (hw v : Nat) : Option Int := if 2 ≤ hw then (if hw = 4 then some (-2 * (v : Int)) else some (1 - 2 * (v : Int))) else none
theorem rfc_hi {hw v : Nat} (hv : v ≤ 20) (h : hw ≤ 2) : RFC ((2 : Int32) * nI v + nI (if hw = 0 then 0 else 1)) (clO hw v) := by
  have k0 : ∀ v : Nat, v < 21 → ((2 : Int32) * nI v + nI 0).toInt = 2 * (v : Int) := by decide +kernel
  have k1 : ∀ v : Nat, v < 21 → ((2 : Int32) * nI v + nI 1).toInt = 2 * (v : Int) + 1 := by decide +kernel
  unfold clO
  rw [if_pos h]
  by_cases c : hw = 0
  · rw [if_pos c, if_pos c]; exact Or.inr ⟨_, rfl, k0 v (by omega), by omega⟩
  · rw [if_neg c, if_neg c]; exact Or.inr ⟨_, rfl, k1 v (by omega), by omega⟩
theorem rfc_lo {hw v : Nat} (hv : v ≤ 20) (h : 2 ≤ hw) : RFC (((-2) : Int32) * nI v + nI (if hw = 4 then 0 else 1)) (flO hw v) := by
  have k0 : ∀ v : Nat, v < 21 → (((-2) : Int32) * nI v + nI 0).toInt = -2 * (v : Int) := by decide +kernel
  have k1 : ∀ v : Nat, v < 21 → (((-2) : Int32) * nI v + nI 1).toInt = 1 - 2 * (v : Int) := by decide +kernel
  unfold flO
  rw [if_pos h]
  by_cases c : hw = 4
  · rw [if_pos c, if_pos c]; exact Or.inr ⟨_, rfl, k0 v (by omega), by omega⟩
  · rw [if_neg c, if_neg c]; exact Or.inr ⟨_, rfl, k1 v (by omega), by omega⟩
theorem ec_hi {hw v : Nat} (hv : v ≤ 20) : EC (clF hw v) (clO hw v) := by
  have k0 : ∀ v : Nat, v < 21 → ((2 : Int32) * nI v).toInt = 2 * (v : Int) := by decide +kernel
  have k1 : ∀ v : Nat, v < 21 → ((2 : Int32) * nI v + 1).toInt = 2 * (v : Int) + 1 := by decide +kernel
  unfold clF clO
  by_cases h : hw ≤ 2
  · rw [if_pos h, if_pos h]
    by_cases c : hw = 0
    · rw [if_pos c, if_pos c]; exact Or.inr ⟨_, rfl, k0 v (by omega), by omega⟩
    · rw [if_neg c, if_neg c]; exact Or.inr ⟨_, rfl, k1 v (by omega), by omega⟩
  · rw [if_neg h, if_neg h]; exact Or.inl ⟨rfl, rfl⟩
theorem ec_lo {hw v : Nat} (hv : v ≤ 20) : EC (flF hw v) (flO hw v) := by
  have k0 : ∀ v : Nat, v < 21 → (((-2) : Int32) * nI v).toInt = -2 * (v : Int) := by decide +kernel
  have k1 : ∀ v : Nat, v < 21 → ((1 : Int32) - (2 : Int32) * nI v).toInt = 1 - 2 * (v : Int) := by decide +kernel
  unfold flF flO
  by_cases h : 2 ≤ hw
  · rw [if_pos h, if_pos h]
    by_cases c : hw = 4
    · rw [if_pos c, if_pos c]; exact Or.inr ⟨_, rfl, k0 v (by omega), by omega⟩
    · rw [if_neg c, if_neg c]; exact Or.inr ⟨_, rfl, k1 v (by omega), by omega⟩
  · rw [if_neg h, if_neg h]; exact Or.inl ⟨rfl, rfl⟩
theorem clO_rg {hw v : Nat} (hv : v ≤ 20) {x : Int} (e : clO hw v = some x) : 0 ≤ x ∧ x ≤ 41 := by
  unfold clO at e
  by_cases h : hw ≤ 2
  · rw [if_pos h] at e
    by_cases c : hw = 0
    · rw [if_pos c] at e
      have := Option.some.inj e
      omega
    · rw [if_neg c] at e
      have := Option.some.inj e
      omega
  · rw [if_neg h] at e; exact absurd e (by simp)
theorem flO_rg {hw v : Nat} (hv : v ≤ 20) {x : Int} (e : flO hw v = some x) : -40 ≤ x ∧ x ≤ 1 := by
  unfold flO at e
  by_cases h : 2 ≤ hw
  · rw [if_pos h] at e
    by_cases c : hw = 4
    · rw [if_pos c] at e
      have := Option.some.inj e
      omega
    · rw [if_neg c] at e
      have := Option.some.inj e
      omega
  · rw [if_neg h] at e; exact absurd e (by simp)
theorem hold_a {n i hw v : Nat} (hn : n ≤ 5) (hi : i + 1 < n) (hv : v ≤ 20) {f : Nat → Int32} {M : Nat → Nat → Option Int} (hf : ZR n f M) : ZR n (if 2 < hw then f else sp_EM_tightens_z f (i + 1) 0 ((2 : Int32) * nI v + nI (if hw = 0 then 0 else 1))) (tgt M (i + 1) 0 (clO hw v)) := by
  have h0 : 0 < n := by omega
  by_cases c : 2 < hw
  · have e : clO hw v = none := by unfold clO; rw [if_neg (by omega)]
    rw [if_pos c, e]; exact tgt_no hf
  · rw [if_neg c]; exact tight_z hn hi h0 hf (rfc_hi hv (by omega))
theorem hold_b {n i hw v : Nat} (hn : n ≤ 5) (hi : i + 1 < n) (hv : v ≤ 20) {f : Nat → Int32} {M : Nat → Nat → Option Int} (hf : ZR n f M) : ZR n (if hw < 2 then f else sp_EM_tightens_z f 0 (i + 1) (((-2) : Int32) * nI v + nI (if hw = 4 then 0 else 1))) (tgt M 0 (i + 1) (flO hw v)) := by
  have h0 : 0 < n := by omega
  by_cases c : hw < 2
  · have e : flO hw v = none := by unfold flO; rw [if_neg (by omega)]
    rw [if_pos c, e]; exact tgt_no hf
  · rw [if_neg c]; exact tight_z hn h0 hi hf (rfc_lo hv (by omega))
noncomputable def holdF (i hw : Nat) (x : Int32) (f : Nat → Int32) : Nat → Int32 := if hw < 2 then (if 2 < hw then f else sp_EM_tightens_z f (1 + i) 0 ((2 : Int32) * x + nI (if hw = 0 then 0 else 1))) else sp_EM_tightens_z (if 2 < hw then f else sp_EM_tightens_z f (1 + i) 0 ((2 : Int32) * x + nI (if hw = 0 then 0 else 1))) 0 (1 + i) (((-2) : Int32) * x + nI (if hw = 4 then 0 else 1))
theorem slet_p {α β : Type} (a : α) (f : α → β) : slet a f = f a := Eq.symm (Eq.symm (Eq.refl (f a)))
theorem hold_e {c : Nat} {q9 q10 : Nat → Nat} {f11 f : Nat → Int32} : sp_EM_holds q9 q10 f11 f c = holdF (min (q9 c) 2) (min (q10 c) (if c % 80 < 56 then 4 else 1)) (f11 c) f := by
  unfold sp_EM_holds holdF
  simp only [slet_p]
theorem holds_z {n i c hw v : Nat} (hn : n ≤ 5) {q9 q10 : Nat → Nat} {f11 f : Nat → Int32} {M : Nat → Nat → Option Int} (h9 : min (q9 c) 2 = i) (hi : i + 1 < n) (h10 : min (q10 c) (if c % 80 < 56 then 4 else 1) = hw) (h11 : f11 c = nI v) (hv : v ≤ 20) (hf : ZR n f M) : ZR n (sp_EM_holds q9 q10 f11 f c) (tgt (tgt M (i + 1) 0 (clO hw v)) 0 (i + 1) (flO hw v)) := by
  rw [hold_e, h9, h10, h11]
  unfold holdF
  rw [Nat.add_comm 1 i]
  exact hold_b hn hi hv (hold_a hn hi hv hf)
/-- the conditions of one host, as the reference has them -/
def CNR (n m c0 : Nat) (r9 r10 : Nat → Nat) (r11 : Nat → Int32) (cc : Nat → Nat) (A B : Nat → Option Int) : Prop := ∀ k, k < m → ∃ hw v : Nat, min (r9 (c0 + k)) 2 = cc k ∧ cc k + 1 < n ∧ min (r10 (c0 + k)) (if (c0 + k) % 80 < 56 then 4 else 1) = hw ∧ r11 (c0 + k) = nI v ∧ v ≤ 20 ∧ A k = clO hw v ∧ B k = flO hw v
theorem manye {b m13_0 m13_1 m14_0 m14_1 ne k : Nat} {r7 : Nat → Nat} (e : bkN b m14_0 m14_1 = ne) (hne : ne ≤ 14) (hk : k < ne) : sp_EM_manyOf_e b r7 m13_0 m13_1 m14_0 m14_1 k = min (r7 (14 * b + k)) 4 + 1 := by
  have e2 : (if b = 0 then m14_0 else m14_1) = ne := e
  have hi : sp_EM_isEdge_k b m14_0 m14_1 k = 1 := by
    unfold sp_EM_isEdge_k
    simp only [slet, e2]
    have hk1 : (nI k : Int32) ≤ nI ne - 1 := by
      have e3 : (nI ne : Int32) - 1 = nI (ne - 1) := pk_sub (a := ne) (b := 1) (by omega)
      rw [e3]
      exact (nI_leI (by omega) (by omega)).mpr (by omega)
    exact if_pos ⟨nI_pos' (by omega), hk1⟩
  simp only [sp_EM_manyOf_e, slet, hi, Nat.one_ne_zero, reduceIte]
theorem holdsAll_p {b a1 m n np m13_0 m13_1 : Nat} (hn : n ≤ 5) {q4 q9 q10 : Nat → Nat} {f11 f : Nat → Int32} {M : Nat → Nat → Option Int} {cc : Nat → Nat} {A B : Nat → Option Int} (e : bkN b m13_0 m13_1 = np) (hnp : np ≤ 8) (ha : a1 < np) (hm : min (q4 (8 * b + a1)) 3 = m) (hC : CNR n m (80 * b + 56 + 3 * a1) q9 q10 f11 cc A B) (hf : ZR n f M) : ZR n (sp_EM_holdsAll_p b q4 q9 q10 f11 m13_0 m13_1 f (100 + a1)) (tgs cc A B M m) := by
  have em := manyp (r4 := q4) e hnp ha
  rw [hm] at em
  refine itrv_inv (d := default) (f := sp_EM_holdsAll_p_L1 b q4 q9 q10 f11 m13_0 m13_1 (100 + a1)) (fun t => ∃ g k, t = (g, k) ∧ k ≤ m ∧ ZR n g (tgs cc A B M k)) (fun r => ZR n r (tgs cc A B M m)) (fun t => m - t.2) ?_ m (f, 0) (Nat.sub_le _ _) ⟨f, 0, rfl, Nat.zero_le _, hf⟩
  rintro _ ⟨g, k, rfl, hk, hg⟩
  have en : ¬ m + 1 = 0 := by omega
  by_cases ce : m ≤ k
  · have ek : k = m := by omega
    subst ek
    exact Or.inr ⟨g, by simp only [sp_EM_holdsAll_p_L1, slet, em, if_neg en, Nat.add_sub_cancel, if_pos ce], hg⟩
  · obtain ⟨hw, v, c1, c2, c3, c4, c5, c6, c7⟩ := hC k (by omega)
    have es : 80 * b + (56 + 3 * (100 + a1 - 100)) + k = 80 * b + 56 + 3 * a1 + k := by omega
    refine Or.inl ⟨(sp_EM_holds q9 q10 f11 g (80 * b + 56 + 3 * a1 + k), k + 1), by simp only [sp_EM_holdsAll_p_L1, slet, em, if_neg en, Nat.add_sub_cancel, if_neg ce, es], ⟨_, k + 1, rfl, by omega, ?_⟩, by show m - (k + 1) < m - k; omega⟩
    show ZR n _ (tgt (tgt (tgs cc A B M k) (cc k + 1) 0 (A k)) 0 (cc k + 1) (B k))
    rw [c6, c7]
    exact holds_z hn c1 c2 c3 c4 c5 hg
theorem holdsAll_e {b a1 m n ne m13_0 m13_1 m14_0 m14_1 : Nat} (hn : n ≤ 5) {q7 q9 q10 : Nat → Nat} {f11 f : Nat → Int32} {M : Nat → Nat → Option Int} {cc : Nat → Nat} {A B : Nat → Option Int} (e : bkN b m14_0 m14_1 = ne) (hne : ne ≤ 14) (ha : a1 < ne) (hm : min (q7 (14 * b + a1)) 4 = m) (hC : CNR n m (80 * b + 4 * a1) q9 q10 f11 cc A B) (hf : ZR n f M) : ZR n (sp_EM_holdsAll_e b q7 q9 q10 f11 m13_0 m13_1 m14_0 m14_1 f a1) (tgs cc A B M m) := by
  have em := manye (r7 := q7) (m13_0 := m13_0) (m13_1 := m13_1) e hne ha
  rw [hm] at em
  refine itrv_inv (d := default) (f := sp_EM_holdsAll_e_L1 b q7 q9 q10 f11 m13_0 m13_1 m14_0 m14_1 a1) (fun t => ∃ g k, t = (g, k) ∧ k ≤ m ∧ ZR n g (tgs cc A B M k)) (fun r => ZR n r (tgs cc A B M m)) (fun t => m - t.2) ?_ m (f, 0) (Nat.sub_le _ _) ⟨f, 0, rfl, Nat.zero_le _, hf⟩
  rintro _ ⟨g, k, rfl, hk, hg⟩
  have en : ¬ m + 1 = 0 := by omega
  by_cases ce : m ≤ k
  · have ek : k = m := by omega
    subst ek
    exact Or.inr ⟨g, by simp only [sp_EM_holdsAll_e_L1, slet, em, if_neg en, Nat.add_sub_cancel, if_pos ce], hg⟩
  · obtain ⟨hw, v, c1, c2, c3, c4, c5, c6, c7⟩ := hC k (by omega)
    refine Or.inl ⟨(sp_EM_holds q9 q10 f11 g (80 * b + 4 * a1 + k), k + 1), by simp only [sp_EM_holdsAll_e_L1, slet, em, if_neg en, Nat.add_sub_cancel, if_neg ce], ⟨_, k + 1, rfl, by omega, ?_⟩, by show m - (k + 1) < m - k; omega⟩
    show ZR n _ (tgt (tgt (tgs cc A B M k) (cc k + 1) 0 (A k)) 0 (cc k + 1) (B k))
    rw [c6, c7]
    exact holds_z hn c1 c2 c3 c4 c5 hg
/-- a host's clocks and bounds -/
def hCC (q9 : Nat → Nat) (a k : Nat) : Nat := q9 (a * 4 + k)
def hAA (f10 f11 : Nat → Int32) (a k : Nat) : Option Int := clO (f10 (a * 4 + k)).toNatClampNeg (f11 (a * 4 + k)).toNatClampNeg
def hBB (f10 f11 : Nat → Int32) (a k : Nat) : Option Int := flO (f10 (a * 4 + k)).toNatClampNeg (f11 (a * 4 + k)).toNatClampNeg
theorem cnd_of {n nc np ne a : Nat} {f4 : Nat → Int32} {q8 q9 : Nat → Nat} {f10 f11 f12 f13 : Nat → Int32} (w : WFm nc np ne f4 q8 q9 f10 f11 f12 f13) (hc : nc ≤ 3) (hn : nc + 1 ≤ n) (ha : a < 22) : CND n (min (q8 a) 4) a q9 f12 f13 (hCC q9 a) (hAA f10 f11 a) (hBB f10 f11 a) := by
  intro k hk
  obtain ⟨w1, w2⟩ := w.1 a ha
  obtain ⟨⟨hw, v, v1, v2, v3, v4, v5, v6⟩, w3⟩ := w2 k (by omega)
  have m14 : mH a ≤ 4 := by unfold mH; split <;> omega
  have e1 : (f10 (a * 4 + k)).toNatClampNeg = hw := by rw [v3]; exact nI_clamp (by omega)
  have e2 : (f11 (a * 4 + k)).toNatClampNeg = v := by rw [v4]; exact nI_clamp (by omega)
  have eA : hAA f10 f11 a k = clO hw v := by unfold hAA; rw [e1, e2]
  have eB : hBB f10 f11 a k = flO hw v := by unfold hBB; rw [e1, e2]
  refine ⟨Nat.min_eq_left (show q9 (a * 4 + k) ≤ 2 by omega), show q9 (a * 4 + k) + 1 < n by omega, ?_, ?_, ?_, ?_⟩
  · rw [v5, eA]; exact ec_hi v2
  · rw [v6, eB]; exact ec_lo v2
  · intro x e
    rw [eA] at e
    have := clO_rg v2 e
    omega
  · intro x e
    rw [eB] at e
    have := flO_rg v2 e
    omega
theorem cnr_p {n b nc np ne i : Nat} {st0 : Int32} {f4 : Nat → Int32} {q5 q6 : Nat → Nat} {f7 : Nat → Int32} {q8 q9 : Nat → Nat} {f10 f11 f12 f13 : Nat → Int32} {f3 : Nat → Int32} {r4 r5 r6 r7 : Nat → Nat} {f8 : Nat → Int32} {r9 r10 : Nat → Nat} {r11 : Nat → Int32} {c1 c2 c3 c4 : Nat} (h : MB b nc np ne st0 f4 q5 q6 f7 q8 q9 f10 f11 f3 r4 r5 r6 r7 f8 r9 r10 r11 c1 c2 c3 c4) (w : WFm nc np ne f4 q8 q9 f10 f11 f12 f13) (hb : b ≤ 1) (hn : nc + 1 ≤ n) (hi : i < np) : min (r4 (8 * b + i)) 3 = min (q8 (14 + i)) 4 ∧ CNR n (min (q8 (14 + i)) 4) (80 * b + 56 + 3 * i) r9 r10 r11 (hCC q9 (14 + i)) (hAA f10 f11 (14 + i)) (hBB f10 f11 (14 + i)) := by
  obtain ⟨⟨-, hc, -, hp, -, he⟩, -, -, -, -, h8, -, -⟩ := h
  obtain ⟨d1, d2, d3⟩ := h8 i hi
  refine ⟨by omega, fun k hk => ?_⟩
  obtain ⟨w1, w2⟩ := w.1 (14 + i) (by omega)
  obtain ⟨⟨hw, v, v1, v2, v3, v4, v5, v6⟩, w3⟩ := w2 k (by omega)
  obtain ⟨u1, u2, u3, u4, u5⟩ := d3 k (by omega)
  have m14 : mH (14 + i) = 1 := by unfold mH; rw [if_neg (by omega)]
  have e1 : (f10 ((14 + i) * 4 + k)).toNatClampNeg = hw := by rw [v3]; exact nI_clamp (by omega)
  have e2 : (f11 ((14 + i) * 4 + k)).toNatClampNeg = v := by rw [v4]; exact nI_clamp (by omega)
  have e3 : r10 (80 * b + 56 + 3 * i + k) = hw := (nI_eq (by omega) (by omega)).mp (u3.symm.trans v3)
  have em : ¬ (80 * b + 56 + 3 * i + k) % 80 < 56 := cap_p (by omega) (by omega)
  refine ⟨hw, v, ?_, ?_, ?_, ?_, v2, ?_, ?_⟩
  · rw [← u1]; exact Nat.min_eq_left u2
  · show q9 ((14 + i) * 4 + k) + 1 < n; omega
  · rw [if_neg em, e3]; omega
  · rw [← u5]; exact v4
  · unfold hAA; rw [e1, e2]
  · unfold hBB; rw [e1, e2]
theorem cnr_e {n b nc np ne i : Nat} {st0 : Int32} {f4 : Nat → Int32} {q5 q6 : Nat → Nat} {f7 : Nat → Int32} {q8 q9 : Nat → Nat} {f10 f11 f12 f13 : Nat → Int32} {f3 : Nat → Int32} {r4 r5 r6 r7 : Nat → Nat} {f8 : Nat → Int32} {r9 r10 : Nat → Nat} {r11 : Nat → Int32} {c1 c2 c3 c4 : Nat} (h : MB b nc np ne st0 f4 q5 q6 f7 q8 q9 f10 f11 f3 r4 r5 r6 r7 f8 r9 r10 r11 c1 c2 c3 c4) (w : WFm nc np ne f4 q8 q9 f10 f11 f12 f13) (hb : b ≤ 1) (hn : nc + 1 ≤ n) (hi : i < ne) : min (r7 (14 * b + i)) 4 = min (q8 i) 4 ∧ CNR n (min (q8 i) 4) (80 * b + 4 * i) r9 r10 r11 (hCC q9 i) (hAA f10 f11 i) (hBB f10 f11 i) := by
  obtain ⟨⟨-, hc, -, hp, -, he⟩, -, -, -, -, -, h9, -⟩ := h
  obtain ⟨d1, d2, d3⟩ := h9 i hi
  refine ⟨by omega, fun k hk => ?_⟩
  obtain ⟨w1, w2⟩ := w.1 i (by omega)
  obtain ⟨⟨hw, v, v1, v2, v3, v4, v5, v6⟩, w3⟩ := w2 k (by omega)
  obtain ⟨u1, u2, u3, u4, u5⟩ := d3 k (by omega)
  have m14 : mH i = 4 := by unfold mH; rw [if_pos (by omega)]
  have e1 : (f10 (i * 4 + k)).toNatClampNeg = hw := by rw [v3]; exact nI_clamp (by omega)
  have e2 : (f11 (i * 4 + k)).toNatClampNeg = v := by rw [v4]; exact nI_clamp (by omega)
  have e3 : r10 (80 * b + 4 * i + k) = hw := (nI_eq (by omega) (by omega)).mp (u3.symm.trans v3)
  have em : (80 * b + 4 * i + k) % 80 < 56 := cap_e (by omega) (by omega)
  refine ⟨hw, v, ?_, ?_, ?_, ?_, v2, ?_, ?_⟩
  · rw [← u1]; exact Nat.min_eq_left u2
  · show q9 (i * 4 + k) + 1 < n; omega
  · rw [if_pos em, e3]; omega
  · rw [← u5]; exact v4
  · unfold hAA; rw [e1, e2]
  · unfold hBB; rw [e1, e2]
def sbk (i p : Nat) : Nat := if p = i then 0 else p
theorem sbk_s {i : Nat} : sbk i i = 0 := if_pos rfl
theorem sbk_n {i p : Nat} (h : p ≠ i) : sbk i p = p := if_neg h
def sbW (i k : Nat) (D : Nat → Nat → Option Int) : Nat → Nat → Option Int := fun p q => if (p = i ∧ q < k) ∨ (q = i ∧ p < k) then D (sbk i p) (sbk i q) else D p q
theorem ix_inj5 {n p q r s : Nat} (hn : n ≤ 5) (hq : q < n) (hs : s < n) (h : 5 * p + q = 5 * r + s) : p = r ∧ q = s := by omega
theorem RFC.one : RFC (1 : Int32) (Option.some 1) := Or.inr ⟨1, rfl, by decide, by decide⟩
theorem setBack_16 {n i : Nat} (hi : i < n) (h1 : 1 ≤ i) {f : Nat → Int32} {D : Nat → Nat → Option Int} (hf : ZC n f D) (h00 : D 0 0 = some 1) : ZC n (sp_E_7_setBack_16 n f i) (fun p q => D (sbk i p) (sbk i q)) := by
  have h0 : 0 < n := by omega
  refine itrv_inv (d := default) (f := sp_E_7_setBack_16_L1 n i) (fun t => ∃ g k, t = (g, k) ∧ k ≤ n ∧ ZC n g (sbW i k D)) (fun r => ZC n r (fun p q => D (sbk i p) (sbk i q))) (fun t => n - t.2) ?_ n (f, 0) (Nat.sub_le _ _) ⟨f, 0, rfl, Nat.zero_le _, fun p q hp hq => by
    show EC _ (if (p = i ∧ q < 0) ∨ (q = i ∧ p < 0) then D (sbk i p) (sbk i q) else D p q)
    rw [if_neg (by omega)]; exact hf p q hp hq⟩
  rintro _ ⟨g, k, rfl, hk, hg⟩
  by_cases ce : n ≤ k
  · refine Or.inr ⟨upd g (i * n + i) 1, by simp only [sp_E_7_setBack_16_L1, slet, if_pos ce], fun p q hp hq => ?_⟩
    have this : EC (g (p * n + q)) (if (p = i ∧ q < k) ∨ (q = i ∧ p < k) then D (sbk i p) (sbk i q) else D p q) := hg p q hp hq
    show EC (upd g (i * n + i) 1 (p * n + q)) (D (sbk i p) (sbk i q))
    by_cases c : p = i ∧ q = i
    · rw [c.1, c.2, upd_s, sbk_s, h00]; exact EC.one
    · rw [upd_n (show p * n + q ≠ i * n + i from fun z => c (ix_inj hq hi z))]
      by_cases c2 : (p = i ∧ q < k) ∨ (q = i ∧ p < k)
      · rwa [if_pos c2] at this
      · rw [if_neg c2] at this
        rw [sbk_n (show p ≠ i by omega), sbk_n (show q ≠ i by omega)]; exact this
  · have hk2 : k < n := by omega
    have hr : EC (g k) (D 0 (sbk i k)) := by
      have this : EC (g (0 * n + k)) (if (0 = i ∧ k < k) ∨ (k = i ∧ 0 < k) then D (sbk i 0) (sbk i k) else D 0 k) := hg 0 k h0 hk2
      rw [Nat.zero_mul, Nat.zero_add] at this
      by_cases e : k = i
      · rw [if_pos (by omega), sbk_n (show 0 ≠ i by omega)] at this; exact this
      · rw [if_neg (by omega)] at this; rw [sbk_n e]; exact this
    have hc : EC (upd g (i * n + k) (g k) (k * n)) (D (sbk i k) 0) := by
      have this : EC (g (k * n)) (if (k = i ∧ 0 < k) ∨ (0 = i ∧ k < k) then D (sbk i k) (sbk i 0) else D k 0) := hg k 0 hk2 h0
      have nc : ¬ (k = i ∧ 0 = k) := by omega
      rw [upd_n (show k * n ≠ i * n + k from fun z => nc (ix_inj h0 hk2 (p := k) (q := 0) z))]
      by_cases e : k = i
      · rw [if_pos (by omega), sbk_n (show 0 ≠ i by omega)] at this; exact this
      · rw [if_neg (by omega)] at this; rw [sbk_n e]; exact this
    refine Or.inl ⟨(upd (upd g (i * n + k) (g k)) (k * n + i) (upd g (i * n + k) (g k) (k * n)), k + 1), by simp only [sp_E_7_setBack_16_L1, slet, if_neg ce], ⟨_, k + 1, rfl, by omega, fun p q hp hq => ?_⟩, by show n - (k + 1) < n - k; omega⟩
    have this : EC (g (p * n + q)) (if (p = i ∧ q < k) ∨ (q = i ∧ p < k) then D (sbk i p) (sbk i q) else D p q) := hg p q hp hq
    show EC (upd (upd g (i * n + k) (g k)) (k * n + i) (upd g (i * n + k) (g k) (k * n)) (p * n + q)) (if (p = i ∧ q < k + 1) ∨ (q = i ∧ p < k + 1) then D (sbk i p) (sbk i q) else D p q)
    by_cases c : p = k ∧ q = i
    · rw [if_pos (by omega), c.1, c.2, upd_s, sbk_s]; exact hc
    · rw [upd_n (show p * n + q ≠ k * n + i from fun z => c (ix_inj hq hi z))]
      by_cases c3 : p = i ∧ q = k
      · rw [if_pos (by omega), c3.1, c3.2, upd_s, sbk_s]; exact hr
      · rw [upd_n (show p * n + q ≠ i * n + k from fun z => c3 (ix_inj hq hk2 z))]
        by_cases c2 : (p = i ∧ q < k) ∨ (q = i ∧ p < k)
        · rw [if_pos c2] at this
          rw [if_pos (by omega)]; exact this
        · rw [if_neg c2] at this
          rw [if_neg (by omega)]; exact this
theorem setBack_25 {n i : Nat} (hi : i < n) (h1 : 1 ≤ i) {f : Nat → Int32} {D : Nat → Nat → Option Int} (hf : ZC n f D) (h00 : D 0 0 = some 1) : ZC n (sp_E_7_setBack_25 n f i) (fun p q => D (sbk i p) (sbk i q)) := by
  have h0 : 0 < n := by omega
  refine itrv_inv (d := default) (f := sp_E_7_setBack_25_L1 n i) (fun t => ∃ g k, t = (g, k) ∧ k ≤ n ∧ ZC n g (sbW i k D)) (fun r => ZC n r (fun p q => D (sbk i p) (sbk i q))) (fun t => n - t.2) ?_ n (f, 0) (Nat.sub_le _ _) ⟨f, 0, rfl, Nat.zero_le _, fun p q hp hq => by
    show EC _ (if (p = i ∧ q < 0) ∨ (q = i ∧ p < 0) then D (sbk i p) (sbk i q) else D p q)
    rw [if_neg (by omega)]; exact hf p q hp hq⟩
  rintro _ ⟨g, k, rfl, hk, hg⟩
  by_cases ce : n ≤ k
  · refine Or.inr ⟨upd g (i * n + i) 1, by simp only [sp_E_7_setBack_25_L1, slet, if_pos ce], fun p q hp hq => ?_⟩
    have this : EC (g (p * n + q)) (if (p = i ∧ q < k) ∨ (q = i ∧ p < k) then D (sbk i p) (sbk i q) else D p q) := hg p q hp hq
    show EC (upd g (i * n + i) 1 (p * n + q)) (D (sbk i p) (sbk i q))
    by_cases c : p = i ∧ q = i
    · rw [c.1, c.2, upd_s, sbk_s, h00]; exact EC.one
    · rw [upd_n (show p * n + q ≠ i * n + i from fun z => c (ix_inj hq hi z))]
      by_cases c2 : (p = i ∧ q < k) ∨ (q = i ∧ p < k)
      · rwa [if_pos c2] at this
      · rw [if_neg c2] at this
        rw [sbk_n (show p ≠ i by omega), sbk_n (show q ≠ i by omega)]; exact this
  · have hk2 : k < n := by omega
    have hr : EC (g k) (D 0 (sbk i k)) := by
      have this : EC (g (0 * n + k)) (if (0 = i ∧ k < k) ∨ (k = i ∧ 0 < k) then D (sbk i 0) (sbk i k) else D 0 k) := hg 0 k h0 hk2
      rw [Nat.zero_mul, Nat.zero_add] at this
      by_cases e : k = i
      · rw [if_pos (by omega), sbk_n (show 0 ≠ i by omega)] at this; exact this
      · rw [if_neg (by omega)] at this; rw [sbk_n e]; exact this
    have hc : EC (upd g (i * n + k) (g k) (k * n)) (D (sbk i k) 0) := by
      have this : EC (g (k * n)) (if (k = i ∧ 0 < k) ∨ (0 = i ∧ k < k) then D (sbk i k) (sbk i 0) else D k 0) := hg k 0 hk2 h0
      have nc : ¬ (k = i ∧ 0 = k) := by omega
      rw [upd_n (show k * n ≠ i * n + k from fun z => nc (ix_inj h0 hk2 (p := k) (q := 0) z))]
      by_cases e : k = i
      · rw [if_pos (by omega), sbk_n (show 0 ≠ i by omega)] at this; exact this
      · rw [if_neg (by omega)] at this; rw [sbk_n e]; exact this
    refine Or.inl ⟨(upd (upd g (i * n + k) (g k)) (k * n + i) (upd g (i * n + k) (g k) (k * n)), k + 1), by simp only [sp_E_7_setBack_25_L1, slet, if_neg ce], ⟨_, k + 1, rfl, by omega, fun p q hp hq => ?_⟩, by show n - (k + 1) < n - k; omega⟩
    have this : EC (g (p * n + q)) (if (p = i ∧ q < k) ∨ (q = i ∧ p < k) then D (sbk i p) (sbk i q) else D p q) := hg p q hp hq
    show EC (upd (upd g (i * n + k) (g k)) (k * n + i) (upd g (i * n + k) (g k) (k * n)) (p * n + q)) (if (p = i ∧ q < k + 1) ∨ (q = i ∧ p < k + 1) then D (sbk i p) (sbk i q) else D p q)
    by_cases c : p = k ∧ q = i
    · rw [if_pos (by omega), c.1, c.2, upd_s, sbk_s]; exact hc
    · rw [upd_n (show p * n + q ≠ k * n + i from fun z => c (ix_inj hq hi z))]
      by_cases c3 : p = i ∧ q = k
      · rw [if_pos (by omega), c3.1, c3.2, upd_s, sbk_s]; exact hr
      · rw [upd_n (show p * n + q ≠ i * n + k from fun z => c3 (ix_inj hq hk2 z))]
        by_cases c2 : (p = i ∧ q < k) ∨ (q = i ∧ p < k)
        · rw [if_pos c2] at this
          rw [if_pos (by omega)]; exact this
        · rw [if_neg c2] at this
          rw [if_neg (by omega)]; exact this
theorem goesBack_z {n i : Nat} (hn5 : n ≤ 5) (hi : i < n) (h1 : 1 ≤ i) {f : Nat → Int32} {D : Nat → Nat → Option Int} (hf : ZR n f D) (h00 : D 0 0 = some 1) : ZR n (sp_EM_goesBack n f i) (fun p q => D (sbk i p) (sbk i q)) := by
  have h0 : 0 < n := by omega
  refine itrv_inv (d := default) (f := sp_EM_goesBack_L1 n i) (fun t => ∃ g k, t = (g, k) ∧ k ≤ n ∧ ZR n g (sbW i k D)) (fun r => ZR n r (fun p q => D (sbk i p) (sbk i q))) (fun t => n - t.2) ?_ n (f, 0) (Nat.sub_le _ _) ⟨f, 0, rfl, Nat.zero_le _, fun p q hp hq => by
    show RFC _ (if (p = i ∧ q < 0) ∨ (q = i ∧ p < 0) then D (sbk i p) (sbk i q) else D p q)
    rw [if_neg (by omega)]; exact hf p q hp hq⟩
  rintro _ ⟨g, k, rfl, hk, hg⟩
  by_cases ce : n ≤ k
  · refine Or.inr ⟨upd g (5 * i + i) 1, by simp only [sp_EM_goesBack_L1, slet, if_pos ce], fun p q hp hq => ?_⟩
    have this : RFC (g (5 * p + q)) (if (p = i ∧ q < k) ∨ (q = i ∧ p < k) then D (sbk i p) (sbk i q) else D p q) := hg p q hp hq
    show RFC (upd g (5 * i + i) 1 (5 * p + q)) (D (sbk i p) (sbk i q))
    by_cases c : p = i ∧ q = i
    · rw [c.1, c.2, upd_s, sbk_s, h00]; exact RFC.one
    · rw [upd_n (show 5 * p + q ≠ 5 * i + i from fun z => c (ix_inj5 hn5 hq hi z))]
      by_cases c2 : (p = i ∧ q < k) ∨ (q = i ∧ p < k)
      · rwa [if_pos c2] at this
      · rw [if_neg c2] at this
        rw [sbk_n (show p ≠ i by omega), sbk_n (show q ≠ i by omega)]; exact this
  · have hk2 : k < n := by omega
    have hr : RFC (g k) (D 0 (sbk i k)) := by
      have this : RFC (g (5 * 0 + k)) (if (0 = i ∧ k < k) ∨ (k = i ∧ 0 < k) then D (sbk i 0) (sbk i k) else D 0 k) := hg 0 k h0 hk2
      rw [Nat.mul_zero, Nat.zero_add] at this
      by_cases e : k = i
      · rw [if_pos (by omega), sbk_n (show 0 ≠ i by omega)] at this; exact this
      · rw [if_neg (by omega)] at this; rw [sbk_n e]; exact this
    have hc : RFC (upd g (5 * i + k) (g k) (5 * k)) (D (sbk i k) 0) := by
      have this : RFC (g (5 * k)) (if (k = i ∧ 0 < k) ∨ (0 = i ∧ k < k) then D (sbk i k) (sbk i 0) else D k 0) := hg k 0 hk2 h0
      have nc : ¬ (k = i ∧ 0 = k) := by omega
      rw [upd_n (show 5 * k ≠ 5 * i + k from fun z => nc (ix_inj5 hn5 h0 hk2 (p := k) (q := 0) z))]
      by_cases e : k = i
      · rw [if_pos (by omega), sbk_n (show 0 ≠ i by omega)] at this; exact this
      · rw [if_neg (by omega)] at this; rw [sbk_n e]; exact this
    refine Or.inl ⟨(upd (upd g (5 * i + k) (g k)) (5 * k + i) (upd g (5 * i + k) (g k) (5 * k)), k + 1), by simp only [sp_EM_goesBack_L1, slet, if_neg ce], ⟨_, k + 1, rfl, by omega, fun p q hp hq => ?_⟩, by show n - (k + 1) < n - k; omega⟩
    have this : RFC (g (5 * p + q)) (if (p = i ∧ q < k) ∨ (q = i ∧ p < k) then D (sbk i p) (sbk i q) else D p q) := hg p q hp hq
    show RFC (upd (upd g (5 * i + k) (g k)) (5 * k + i) (upd g (5 * i + k) (g k) (5 * k)) (5 * p + q)) (if (p = i ∧ q < k + 1) ∨ (q = i ∧ p < k + 1) then D (sbk i p) (sbk i q) else D p q)
    by_cases c : p = k ∧ q = i
    · rw [if_pos (by omega), c.1, c.2, upd_s, sbk_s]; exact hc
    · rw [upd_n (show 5 * p + q ≠ 5 * k + i from fun z => c (ix_inj5 hn5 hq hi z))]
      by_cases c3 : p = i ∧ q = k
      · rw [if_pos (by omega), c3.1, c3.2, upd_s, sbk_s]; exact hr
      · rw [upd_n (show 5 * p + q ≠ 5 * i + k from fun z => c3 (ix_inj5 hn5 hq hk2 z))]
        by_cases c2 : (p = i ∧ q < k) ∨ (q = i ∧ p < k)
        · rw [if_pos c2] at this
          rw [if_pos (by omega)]; exact this
        · rw [if_neg c2] at this
          rw [if_neg (by omega)]; exact this
/-- clocks up to k set back by y -/
def fE (y : Int32) (k p : Nat) : Nat := if 1 ≤ p ∧ p ≤ k ∧ (y >>> ((nI (p - 1) : Int32) &&& 31)) &&& (1 : Int32) = 1 then 0 else p
theorem fE_0 {y : Int32} {p : Nat} : fE y 0 p = p := if_neg (fun z => by have h1 := z.1; have h2 := z.2.1; omega)
theorem fE_z {y : Int32} {k : Nat} : fE y k 0 = 0 := if_neg (fun z => absurd z.1 (by decide))
theorem fE_lt {y : Int32} {k p n : Nat} (h : p < n) : fE y k p < n := by unfold fE; split <;> omega
theorem fE_s {y : Int32} {k : Nat} (hb : (y >>> ((nI k : Int32) &&& 31)) &&& (1 : Int32) = 1) (p : Nat) : fE y (k + 1) p = fE y k (sbk (k + 1) p) := by
  by_cases e : p = k + 1
  · rw [e, sbk_s, fE_z]
    exact if_pos ⟨by omega, Nat.le_refl _, hb⟩
  · rw [sbk_n e]
    unfold fE
    by_cases c : 1 ≤ p ∧ p ≤ k ∧ (y >>> ((nI (p - 1) : Int32) &&& 31)) &&& (1 : Int32) = 1
    · rw [if_pos c, if_pos ⟨c.1, by have := c.2.1; omega, c.2.2⟩]
    · rw [if_neg c, if_neg (fun z => c ⟨z.1, by have := z.2.1; omega, z.2.2⟩)]
theorem fE_n {y : Int32} {k : Nat} (hb : ¬ (y >>> ((nI k : Int32) &&& 31)) &&& (1 : Int32) = 1) (p : Nat) : fE y (k + 1) p = fE y k p := by
  unfold fE
  by_cases c : 1 ≤ p ∧ p ≤ k ∧ (y >>> ((nI (p - 1) : Int32) &&& 31)) &&& (1 : Int32) = 1
  · rw [if_pos c, if_pos ⟨c.1, by have := c.2.1; omega, c.2.2⟩]
  · refine (if_neg (fun z => ?_)).trans (if_neg c).symm
    by_cases e : p = k + 1
    · rw [e] at z; exact hb z.2.2
    · exact c ⟨z.1, by have := z.2.1; omega, z.2.2⟩
theorem setBackIn_16 {n nc a1 : Nat} (hn : nc + 1 ≤ n) {f7 z : Nat → Int32} {D : Nat → Nat → Option Int} (hf : ZC n z D) (h00 : D 0 0 = some 1) : ZC n (sp_E_0_setBackIn_16 nc f7 n z a1) (fun p q => D (fE (f7 a1) nc p) (fE (f7 a1) nc q)) := by
  refine itrv_inv (d := default) (f := sp_E_0_setBackIn_16_L1 nc f7 n a1) (fun t => ∃ g k, t = (g, k) ∧ k ≤ nc ∧ ZC n g (fun p q => D (fE (f7 a1) k p) (fE (f7 a1) k q))) (fun r => ZC n r (fun p q => D (fE (f7 a1) nc p) (fE (f7 a1) nc q))) (fun t => nc - t.2) ?_ nc (z, 0) (Nat.sub_le _ _) ⟨z, 0, rfl, Nat.zero_le _, fun p q hp hq => by
    show EC _ (D (fE (f7 a1) 0 p) (fE (f7 a1) 0 q))
    rw [fE_0, fE_0]; exact hf p q hp hq⟩
  rintro _ ⟨g, k, rfl, hk, hg⟩
  by_cases ce : nc ≤ k
  · have ek : k = nc := by omega
    subst ek
    exact Or.inr ⟨g, by simp only [sp_E_0_setBackIn_16_L1, if_pos ce], hg⟩
  · by_cases hb : (f7 a1 >>> ((nI k : Int32) &&& 31)) &&& (1 : Int32) = 1
    · have H := setBack_16 (n := n) (i := k + 1) (by omega) (by omega) hg (show D (fE (f7 a1) k 0) (fE (f7 a1) k 0) = some 1 by rw [fE_z]; exact h00)
      refine Or.inl ⟨(sp_E_7_setBack_16 n g (k + 1), k + 1), by simp only [sp_E_0_setBackIn_16_L1, slet, if_neg ce, if_pos hb], ⟨_, k + 1, rfl, by omega, fun p q hp hq => ?_⟩, by show nc - (k + 1) < nc - k; omega⟩
      show EC _ (D (fE (f7 a1) (k + 1) p) (fE (f7 a1) (k + 1) q))
      rw [fE_s hb, fE_s hb]; exact H p q hp hq
    · refine Or.inl ⟨(g, k + 1), by simp only [sp_E_0_setBackIn_16_L1, slet, if_neg ce, if_neg hb], ⟨_, k + 1, rfl, by omega, fun p q hp hq => ?_⟩, by show nc - (k + 1) < nc - k; omega⟩
      show EC _ (D (fE (f7 a1) (k + 1) p) (fE (f7 a1) (k + 1) q))
      rw [fE_n hb, fE_n hb]; exact hg p q hp hq
theorem setBackIn_25 {n nc a1 : Nat} (hn : nc + 1 ≤ n) {f7 z : Nat → Int32} {D : Nat → Nat → Option Int} (hf : ZC n z D) (h00 : D 0 0 = some 1) : ZC n (sp_E_0_setBackIn_25 nc f7 n z a1) (fun p q => D (fE (f7 a1) nc p) (fE (f7 a1) nc q)) := by
  refine itrv_inv (d := default) (f := sp_E_0_setBackIn_25_L1 nc f7 n a1) (fun t => ∃ g k, t = (g, k) ∧ k ≤ nc ∧ ZC n g (fun p q => D (fE (f7 a1) k p) (fE (f7 a1) k q))) (fun r => ZC n r (fun p q => D (fE (f7 a1) nc p) (fE (f7 a1) nc q))) (fun t => nc - t.2) ?_ nc (z, 0) (Nat.sub_le _ _) ⟨z, 0, rfl, Nat.zero_le _, fun p q hp hq => by
    show EC _ (D (fE (f7 a1) 0 p) (fE (f7 a1) 0 q))
    rw [fE_0, fE_0]; exact hf p q hp hq⟩
  rintro _ ⟨g, k, rfl, hk, hg⟩
  by_cases ce : nc ≤ k
  · have ek : k = nc := by omega
    subst ek
    exact Or.inr ⟨g, by simp only [sp_E_0_setBackIn_25_L1, if_pos ce], hg⟩
  · by_cases hb : (f7 a1 >>> ((nI k : Int32) &&& 31)) &&& (1 : Int32) = 1
    · have H := setBack_25 (n := n) (i := k + 1) (by omega) (by omega) hg (show D (fE (f7 a1) k 0) (fE (f7 a1) k 0) = some 1 by rw [fE_z]; exact h00)
      refine Or.inl ⟨(sp_E_7_setBack_25 n g (k + 1), k + 1), by simp only [sp_E_0_setBackIn_25_L1, slet, if_neg ce, if_pos hb], ⟨_, k + 1, rfl, by omega, fun p q hp hq => ?_⟩, by show nc - (k + 1) < nc - k; omega⟩
      show EC _ (D (fE (f7 a1) (k + 1) p) (fE (f7 a1) (k + 1) q))
      rw [fE_s hb, fE_s hb]; exact H p q hp hq
    · refine Or.inl ⟨(g, k + 1), by simp only [sp_E_0_setBackIn_25_L1, slet, if_neg ce, if_neg hb], ⟨_, k + 1, rfl, by omega, fun p q hp hq => ?_⟩, by show nc - (k + 1) < nc - k; omega⟩
      show EC _ (D (fE (f7 a1) (k + 1) p) (fE (f7 a1) (k + 1) q))
      rw [fE_n hb, fE_n hb]; exact hg p q hp hq
/-- the clocks set back by the reference, and what comes then -/
theorem goesL_z {b n nc a0 m12_0 m12_1 m13_0 m13_1 : Nat} (hn5 : n ≤ 5) (hn : nc + 1 ≤ n) {q4 q6 q9 q10 : Nat → Nat} {f8 f11 f : Nat → Int32} {y : Int32} {D : Nat → Nat → Option Int} (ec : bkN b m12_0 m12_1 = nc) (ey : f8 (14 * b + a0) = y) (hf : ZR n f D) (h00 : D 0 0 = some 1) : ∃ g, ZR n g (fun p q => D (fE y nc p) (fE y nc q)) ∧ itrv default (sp_EM_goesBy_L1 b n q4 q6 f8 q9 q10 f11 m12_0 m12_1 m13_0 m13_1 a0) (f, 0) = sp_EM_closes_z n (sp_EM_holdsAll_p b q4 q9 q10 f11 m13_0 m13_1 g (100 + min (q6 (14 * b + a0)) 7)) := by
  have ecl : sp_EM_clocks b m12_0 m12_1 = nc := ec
  refine itrv_inv (d := default) (f := sp_EM_goesBy_L1 b n q4 q6 f8 q9 q10 f11 m12_0 m12_1 m13_0 m13_1 a0) (fun t => ∃ g k, t = (g, k) ∧ k ≤ nc ∧ ZR n g (fun p q => D (fE y k p) (fE y k q))) (fun r => ∃ g, ZR n g (fun p q => D (fE y nc p) (fE y nc q)) ∧ r = sp_EM_closes_z n (sp_EM_holdsAll_p b q4 q9 q10 f11 m13_0 m13_1 g (100 + min (q6 (14 * b + a0)) 7))) (fun t => nc - t.2) ?_ nc (f, 0) (Nat.sub_le _ _) ⟨f, 0, rfl, Nat.zero_le _, fun p q hp hq => by
    show RFC _ (D (fE y 0 p) (fE y 0 q))
    rw [fE_0, fE_0]; exact hf p q hp hq⟩
  rintro _ ⟨g, k, rfl, hk, hg⟩
  by_cases ce : nc ≤ k
  · have ek : k = nc := by omega
    subst ek
    obtain ⟨⟨u, w⟩, e1⟩ : ∃ x, sp_EM_closes_z n (sp_EM_holdsAll_p b q4 q9 q10 f11 m13_0 m13_1 g (100 + min (q6 (14 * b + a0)) 7)) = x := ⟨_, rfl⟩
    exact Or.inr ⟨(u, w), by simp only [sp_EM_goesBy_L1, sp_EM_into, slet, ecl, if_pos ce, e1], g, hg, e1.symm⟩
  · by_cases hb : (y >>> ((nI k : Int32) &&& 31)) &&& (1 : Int32) = 1
    · have eo : sp_EM_isOf (sp_EM_setBy b f8 a0) (nI k) = 1 := by
        simp only [sp_EM_isOf, sp_EM_setBy, slet, ey, if_pos hb]
      have H := goesBack_z (n := n) (i := k + 1) hn5 (by omega) (by omega) hg (show D (fE y k 0) (fE y k 0) = some 1 by rw [fE_z]; exact h00)
      refine Or.inl ⟨(sp_EM_goesBack n g (1 + k), k + 1), by simp only [sp_EM_goesBy_L1, slet, ecl, if_neg ce, eo, if_neg (show ¬ (1 : Nat) = 0 by omega)], ⟨_, k + 1, rfl, by omega, fun p q hp hq => ?_⟩, by show nc - (k + 1) < nc - k; omega⟩
      show RFC _ (D (fE y (k + 1) p) (fE y (k + 1) q))
      rw [fE_s hb, fE_s hb, Nat.add_comm 1 k]; exact H p q hp hq
    · have eo : sp_EM_isOf (sp_EM_setBy b f8 a0) (nI k) = 0 := by
        simp only [sp_EM_isOf, sp_EM_setBy, slet, ey, if_neg hb]
      refine Or.inl ⟨(g, k + 1), by simp only [sp_EM_goesBy_L1, slet, ecl, if_neg ce, eo, if_pos], ⟨_, k + 1, rfl, by omega, fun p q hp hq => ?_⟩, by show nc - (k + 1) < nc - k; omega⟩
      show RFC _ (D (fE y (k + 1) p) (fE y (k + 1) q))
      rw [fE_n hb, fE_n hb]; exact hg p q hp hq
theorem zrd_fE {m nc : Nat} {cc : Nat → Nat} {y : Int32} (hc : ∀ k, k < m → cc k < nc) : ZRD m cc y (fE y nc) :=
  fun k hk => ⟨fun h => if_pos ⟨Nat.succ_le_succ (Nat.zero_le _), hc k hk, by rw [Nat.add_sub_cancel]; exact h⟩, fun h => if_neg (fun z => h (by have := z.2.2; rwa [Nat.add_sub_cancel] at this))⟩
theorem zrd_0 {m : Nat} {cc : Nat → Nat} (hc : ∀ k, k < m → cc k ≤ 2) : ZRD m cc 0 (fun p => p) := by
  have d : ∀ c : Nat, c < 3 → ¬ ((0 : Int32) >>> ((nI c : Int32) &&& 31)) &&& (1 : Int32) = 1 := by decide +kernel
  exact fun k hk => ⟨fun h => absurd h (d (cc k) (by have := hc k hk; omega)), fun _ => rfl⟩
theorem tgs_le {n m : Nat} {cc : Nat → Nat} {A B : Nat → Option Int} {M E : Nat → Nat → Option Int} (h0 : 0 < n) (hc : ∀ k, k < m → cc k + 1 < n) : ∀ k, k ≤ m → (MLE n E (tgs cc A B M k) ↔ MLE n E M ∧ ∀ j, j < k → ble (E (cc j + 1) 0) (A j) ∧ ble (E 0 (cc j + 1)) (B j)) := by
  intro k
  induction k with
  | zero => exact fun _ => ⟨fun h => ⟨h, fun j hj => absurd hj (Nat.not_lt_zero j)⟩, fun h => h.1⟩
  | succ k ih =>
    intro hk
    have ck := hc k (by omega)
    show MLE n E (tgt (tgt (tgs cc A B M k) (cc k + 1) 0 (A k)) 0 (cc k + 1) (B k)) ↔ _
    rw [tgt_le h0 ck, tgt_le ck h0, ih (by omega)]
    constructor
    · rintro ⟨⟨⟨h1, h2⟩, h3⟩, h4⟩
      refine ⟨h1, fun j hj => ?_⟩
      by_cases e : j = k
      · subst e; exact ⟨h3, h4⟩
      · exact h2 j (by omega)
    · rintro ⟨h1, h2⟩
      exact ⟨⟨⟨h1, fun j hj => h2 j (by omega)⟩, (h2 k (by omega)).1⟩, (h2 k (by omega)).2⟩
theorem RB.tgt {n i j : Nat} {l u : Int} {M : Nat → Nat → Option Int} {b : Option Int} (h : RB n l u M) (hb : ∀ v, b = some v → -l ≤ v ∧ v ≤ u) : RB n l u (tgt M i j b) := by
  intro p q hp hq v e
  have e : (if p = i ∧ q = j then bmin (M i j) b else M p q) = some v := e
  by_cases c : p = i ∧ q = j
  · rw [if_pos c, ← c.1, ← c.2] at e
    rcases bmin_or (M p q) b with z | z
    · rw [z] at e; exact h p q hp hq v e
    · rw [z] at e; exact hb v e
  · rw [if_neg c] at e; exact h p q hp hq v e
theorem RB.tgs {n m : Nat} {l u : Int} {cc : Nat → Nat} {A B : Nat → Option Int} {M : Nat → Nat → Option Int} (h : RB n l u M) (hA : ∀ k, k < m → ∀ v, A k = some v → -l ≤ v ∧ v ≤ u) (hB : ∀ k, k < m → ∀ v, B k = some v → -l ≤ v ∧ v ≤ u) : ∀ k, k ≤ m → RB n l u (tgs cc A B M k) := by
  intro k
  induction k with
  | zero => exact fun _ => h
  | succ k ih => exact fun hk => ((ih (by omega)).tgt (hA k (by omega))).tgt (hB k (by omega))
theorem ZOK.rb {n : Nat} {U V l u : Int} {D : Nat → Nat → Option Int} (h : ZOK n U V D) (h1 : U + 41 ≤ u) (h2 : V ≤ l) : RB n l u D := by
  intro p q hp hq v e
  have h0 : 0 < n := by omega
  refine ⟨?_, by have := (h.up p q hp hq v e).1; omega⟩
  have t := h.clo.2 0 q p h0 hq hp
  have t2 : ble (badd (D 0 p) (D p q)) (badd (some 1) (D p q)) := badd_mono (h.nn p hp) (ble_refl _)
  rw [one_badd, e] at t2
  rw [e] at t
  obtain ⟨w, ew, hw⟩ := ble_some (ble_trans t t2)
  have := h.lo q hq w ew
  omega
theorem ZR.eq {n : Nat} {f : Nat → Int32} {D D' : Nat → Nat → Option Int} (h : ZR n f D) (e : ∀ i j, i < n → j < n → D i j = D' i j) : ZR n f D' := fun i j hi hj => by rw [← e i j hi hj]; exact h i j hi hj
theorem ZC.eq {n : Nat} {f : Nat → Int32} {D D' : Nat → Nat → Option Int} (h : ZC n f D) (e : ∀ i j, i < n → j < n → D i j = D' i j) : ZC n f D' := fun i j hi hj => by rw [← e i j hi hj]; exact h i j hi hj
/-- closing, of the reference -/
theorem cl_gre {n : Nat} (hn : n ≤ 5) {l u : Int} {M : Nat → Nat → Option Int} {f : Nat → Int32} (hf : ZR n f M) (hR : RB n l u M) (hd : ∀ i, i < n → ble (M i i) (some 1)) (h0 : 0 ≤ l) (h1 : 0 ≤ u) (hl : (n ≤ 4 ∧ l ≤ 400000) ∨ (n ≤ 5 ∧ l ≤ 60000)) (hu : u ≤ 32000) : (∃ g D, sp_EM_closes_z n f = (1, g) ∧ ZR n g D ∧ GRE n M D) ∨ (∃ g, sp_EM_closes_z n f = (0, g) ∧ ∀ E, CLO n E → ¬ MLE n E M) := by
  obtain ⟨g, hg, -, h⟩ := closes_z hn h0 h1 hl hu hf hR
  rcases h with ⟨y, e⟩ | ⟨y, e⟩
  · exact Or.inl ⟨g, _, e, hg, fwK_gre hd y⟩
  · exact Or.inr ⟨g, e, fun E hE z => y (fwK_yes hE z)⟩
/-- whether the bounds of lower rows leave room to close -/
def RNG (n : Nat) (V : Int) : Prop := 41 ≤ V ∧ ((n ≤ 4 ∧ V ≤ 400000) ∨ (n ≤ 5 ∧ V ≤ 60000))
theorem RNG.le {n : Nat} {V W : Int} (h : RNG n V) (h1 : 41 ≤ W) (h2 : W ≤ V) : RNG n W := by
  obtain ⟨a, b⟩ := h
  exact ⟨h1, by omega⟩
theorem RNG.n5 {n : Nat} {V : Int} (h : RNG n V) : n ≤ 5 ∧ V ≤ 400000 := by
  obtain ⟨a, b⟩ := h
  omega
/-- closing under conditions -/
theorem cl_tgs {n m : Nat} {U V : Int} {D : Nat → Nat → Option Int} {f : Nat → Int32} {cc : Nat → Nat} {A B : Nat → Option Int} (h0 : 0 < n) (hf : ZR n f (tgs cc A B D m)) (hO : RB n V (U + 41) D) (hd : ∀ i, i < n → D i i = some 1) (hc : ∀ k, k < m → cc k + 1 < n) (hA : ∀ k, k < m → ∀ v, A k = some v → -41 ≤ v ∧ v ≤ 41) (hB : ∀ k, k < m → ∀ v, B k = some v → -41 ≤ v ∧ v ≤ 41) (hV : RNG n V) (hU : 0 ≤ U ∧ U + 41 ≤ 32000) : (∃ g D', sp_EM_closes_z n f = (1, g) ∧ ZR n g D' ∧ GRE n (tgs cc A B D m) D') ∨ (∃ g, sp_EM_closes_z n f = (0, g) ∧ ∀ E, CLO n E → ¬ MLE n E (tgs cc A B D m)) := by
  have v1 := hV.1
  refine cl_gre hV.n5.1 hf (hO.tgs (fun k hk v e => ?_) (fun k hk v e => ?_) m (Nat.le_refl m)) (fun i hi => ?_) (by omega) (by omega) hV.2 hU.2
  · have := hA k hk v e
    omega
  · have := hB k hk v e
    omega
  · have := tgs_dec (A := A) (B := B) (M := D) h0 hc m 0 (by omega) i i hi hi
    rw [Nat.zero_add] at this
    have this : ble (tgs cc A B D m i i) (D i i) := this
    rwa [hd i hi] at this
/-- an edge taken: the class, the reference -/
theorem taken_16 {b n nc np ne e : Nat} {st0 : Int32} {f4 : Nat → Int32} {q5 q6 : Nat → Nat} {f7 : Nat → Int32} {q8 q9 : Nat → Nat} {f10 f11 f12 f13 : Nat → Int32} {f3 : Nat → Int32} {r4 r5 r6 r7 : Nat → Nat} {f8 : Nat → Int32} {r9 r10 : Nat → Nat} {r11 : Nat → Int32} {m12_0 m12_1 m13_0 m13_1 m14_0 m14_1 m15 : Nat} (h : MB b nc np ne st0 f4 q5 q6 f7 q8 q9 f10 f11 f3 r4 r5 r6 r7 f8 r9 r10 r11 (bkN b m12_0 m12_1) (bkN b m13_0 m13_1) (bkN b m14_0 m14_1) m15) (w : WFm nc np ne f4 q8 q9 f10 f11 f12 f13) (hb : b ≤ 1) (hn : nc + 1 ≤ n) (he : e < ne) {U V : Int} {D : Nat → Nat → Option Int} {z y : Nat → Int32} (hO : ZOK n U V D) (hV : RNG n (V + 168)) (hV1 : 41 ≤ V) (hU : 0 ≤ U ∧ U + 41 ≤ 32000) (hz : ZC n z D) (hy : ZR n y D) : (∃ g k D', sp_E_0_opensIn_16 q6 f7 q8 q9 f12 f13 n z e = (1, g) ∧ sp_EM_goesBy b n r4 r6 r7 f8 r9 r10 r11 m12_0 m12_1 m13_0 m13_1 m14_0 m14_1 y e = (1, k) ∧ ZC n (sp_E_0_setBackIn_16 nc f7 n g e) D' ∧ ZR n k D' ∧ ZOK n U (V + 336) D' ∧ ∀ j, j < min (q8 (14 + q6 e)) 4 → ble (D' (hCC q9 (14 + q6 e) j + 1) 0) (hAA f10 f11 (14 + q6 e) j) ∧ ble (D' 0 (hCC q9 (14 + q6 e) j + 1)) (hBB f10 f11 (14 + q6 e) j)) ∨ (∃ g k, sp_E_0_opensIn_16 q6 f7 q8 q9 f12 f13 n z e = (0, g) ∧ sp_EM_goesBy b n r4 r6 r7 f8 r9 r10 r11 m12_0 m12_1 m13_0 m13_1 m14_0 m14_1 y e = (0, k)) := by
  have h0 : 0 < n := by omega
  obtain ⟨hn5, v4⟩ := hV.n5
  have hV0 : RNG n V := hV.le hV1 (by omega)
  have h' := h
  obtain ⟨⟨e12, hc3, e13, hp8, e14, he14⟩, -, -, -, -, -, -, h10⟩ := h'
  obtain ⟨-, -, g3, g4, g5⟩ := h10 e he
  have t7 : min (q6 e) 7 = q6 e := by omega
  have t7' : min (r6 (14 * b + e)) 7 = q6 e := by rw [← g3]; omega
  obtain ⟨x1, x2⟩ := cnr_e h w hb hn he
  obtain ⟨x3, x4⟩ := cnr_p h w hb hn g4
  have y1 := cnd_of (a := e) w hc3 hn (by omega)
  have y2 := cnd_of (a := 14 + q6 e) w hc3 hn (by omega)
  have c1 : ∀ k, k < min (q8 e) 4 → hCC q9 e k < nc := fun k hk => ((w.1 e (by omega)).2 k (by omega)).2
  have c2 : ∀ k, k < min (q8 (14 + q6 e)) 4 → hCC q9 (14 + q6 e) k < nc := fun k hk => ((w.1 (14 + q6 e) (by omega)).2 k (by omega)).2
  have N1 := narrowTo_16 (p2 := 0) (f := fun p => p) h0 rfl y1 (zrd_0 (fun k hk => by have := c1 k hk; omega)) rfl hO (by omega) (by omega) hz (GRE.of hO.clo)
  have M1 := holdsAll_e (m13_0 := m13_0) (m13_1 := m13_1) hn5 e14 he14 he x1 x2 hy
  have R1 := cl_tgs h0 M1 (hO.rb (Int.le_refl _) (Int.le_refl _)) hO.clo.1 (fun k hk => by have := c1 k hk; omega) (fun k hk => (y1 k hk).2.2.2.2.1) (fun k hk => (y1 k hk).2.2.2.2.2) hV0 hU
  rcases N1 with ⟨g, D1, a1, a2, a3, a4⟩ | ⟨g, a1, a2⟩
  · rcases R1 with ⟨k, D1', b1, b2, b3⟩ | ⟨k, b1, b2⟩
    · have hk : ZR n k D1 := b2.eq (fun i j hi hj => b3.uniq a4 i j hi hj)
      have N2 := narrowTo_16 (p2 := f7 e) (f := fE (f7 e) nc) h0 rfl y2 (zrd_fE c2) fE_z a3 (by omega) (by omega) a2 (GRE.of (a3.clo.map (fun i hi => fE_lt hi)))
      obtain ⟨k2, d1, d2⟩ := goesL_z (q4 := r4) (q6 := r6) (q9 := r9) (q10 := r10) (f11 := r11) (m13_0 := m13_0) (m13_1 := m13_1) hn5 hn e12 g5.symm hk (a3.clo.1 0 h0)
      rw [t7'] at d2
      have hO2 : ZOK n U (V + 168) (fun p q => D1 (fE (f7 e) nc p) (fE (f7 e) nc q)) := a3.map (fun i hi => fE_lt hi) fE_z
      have M2 := holdsAll_p hn5 e13 hp8 g4 x3 x4 d1
      have R2 := cl_tgs h0 M2 (hO2.rb (Int.le_refl _) (Int.le_refl _)) hO2.clo.1 (fun k hk => by have := c2 k hk; omega) (fun k hk => (y2 k hk).2.2.2.2.1) (fun k hk => (y2 k hk).2.2.2.2.2) hV hU
      have eG : ∀ x, sp_EM_closes_z n (sp_EM_holdsAll_p b r4 r9 r10 r11 m13_0 m13_1 k2 (100 + q6 e)) = x → sp_EM_goesBy b n r4 r6 r7 f8 r9 r10 r11 m12_0 m12_1 m13_0 m13_1 m14_0 m14_1 y e = x := by
        intro x ex
        rw [← ex, ← d2]
        simp only [sp_EM_goesBy, slet, b1, if_neg (show ¬ (1 : Nat) = 0 by omega)]
      rcases N2 with ⟨g2, D2, p1, p2, p3, p4⟩ | ⟨g2, p1, p2⟩
      · rcases R2 with ⟨k3, D2', s1, s2, s3⟩ | ⟨k3, s1, s2⟩
        · refine Or.inl ⟨g2, k3, fun p q => D2 (fE (f7 e) nc p) (fE (f7 e) nc q), ?_, eG _ s1, setBackIn_16 hn p2 (p3.clo.1 0 h0), s2.eq (fun i j hi hj => s3.uniq p4 i j hi hj), (p3.map (fun i hi => fE_lt hi) fE_z).wide (Int.le_refl _) (by omega), ?_⟩
          · simp only [sp_E_0_opensIn_16, slet, a1, t7, p1, if_neg (show ¬ (1 : Nat) = 0 by omega)]
          · exact ((tgs_le h0 (fun k hk => by have := c2 k hk; omega) _ (Nat.le_refl _)).mp p4.2.1).2
        · exact absurd p4.2.1 (s2 _ p4.1)
      · rcases R2 with ⟨k3, D2', s1, s2, s3⟩ | ⟨k3, s1, s2⟩
        · exact absurd s3.2.1 (p2 _ s3.1)
        · refine Or.inr ⟨g2, k3, ?_, eG _ s1⟩
          simp only [sp_E_0_opensIn_16, slet, a1, t7, p1, if_neg (show ¬ (1 : Nat) = 0 by omega), if_pos]
    · exact absurd a4.2.1 (b2 _ a4.1)
  · rcases R1 with ⟨k, D1', b1, b2, b3⟩ | ⟨k, b1, b2⟩
    · exact absurd b3.2.1 (a2 _ b3.1)
    · exact Or.inr ⟨g, k, by simp only [sp_E_0_opensIn_16, slet, a1, if_pos], by simp only [sp_EM_goesBy, slet, b1, if_pos]⟩
/-- an edge taken: the class, the reference -/
theorem taken_25 {b n nc np ne e : Nat} {st0 : Int32} {f4 : Nat → Int32} {q5 q6 : Nat → Nat} {f7 : Nat → Int32} {q8 q9 : Nat → Nat} {f10 f11 f12 f13 : Nat → Int32} {f3 : Nat → Int32} {r4 r5 r6 r7 : Nat → Nat} {f8 : Nat → Int32} {r9 r10 : Nat → Nat} {r11 : Nat → Int32} {m12_0 m12_1 m13_0 m13_1 m14_0 m14_1 m15 : Nat} (h : MB b nc np ne st0 f4 q5 q6 f7 q8 q9 f10 f11 f3 r4 r5 r6 r7 f8 r9 r10 r11 (bkN b m12_0 m12_1) (bkN b m13_0 m13_1) (bkN b m14_0 m14_1) m15) (w : WFm nc np ne f4 q8 q9 f10 f11 f12 f13) (hb : b ≤ 1) (hn : nc + 1 ≤ n) (he : e < ne) {U V : Int} {D : Nat → Nat → Option Int} {z y : Nat → Int32} (hO : ZOK n U V D) (hV : RNG n (V + 168)) (hV1 : 41 ≤ V) (hU : 0 ≤ U ∧ U + 41 ≤ 32000) (hz : ZC n z D) (hy : ZR n y D) : (∃ g k D', sp_E_0_opensIn_25 q6 f7 q8 q9 f12 f13 n z e = (1, g) ∧ sp_EM_goesBy b n r4 r6 r7 f8 r9 r10 r11 m12_0 m12_1 m13_0 m13_1 m14_0 m14_1 y e = (1, k) ∧ ZC n (sp_E_0_setBackIn_25 nc f7 n g e) D' ∧ ZR n k D' ∧ ZOK n U (V + 336) D' ∧ ∀ j, j < min (q8 (14 + q6 e)) 4 → ble (D' (hCC q9 (14 + q6 e) j + 1) 0) (hAA f10 f11 (14 + q6 e) j) ∧ ble (D' 0 (hCC q9 (14 + q6 e) j + 1)) (hBB f10 f11 (14 + q6 e) j)) ∨ (∃ g k, sp_E_0_opensIn_25 q6 f7 q8 q9 f12 f13 n z e = (0, g) ∧ sp_EM_goesBy b n r4 r6 r7 f8 r9 r10 r11 m12_0 m12_1 m13_0 m13_1 m14_0 m14_1 y e = (0, k)) := by
  have h0 : 0 < n := by omega
  obtain ⟨hn5, v4⟩ := hV.n5
  have hV0 : RNG n V := hV.le hV1 (by omega)
  have h' := h
  obtain ⟨⟨e12, hc3, e13, hp8, e14, he14⟩, -, -, -, -, -, -, h10⟩ := h'
  obtain ⟨-, -, g3, g4, g5⟩ := h10 e he
  have t7 : min (q6 e) 7 = q6 e := by omega
  have t7' : min (r6 (14 * b + e)) 7 = q6 e := by rw [← g3]; omega
  obtain ⟨x1, x2⟩ := cnr_e h w hb hn he
  obtain ⟨x3, x4⟩ := cnr_p h w hb hn g4
  have y1 := cnd_of (a := e) w hc3 hn (by omega)
  have y2 := cnd_of (a := 14 + q6 e) w hc3 hn (by omega)
  have c1 : ∀ k, k < min (q8 e) 4 → hCC q9 e k < nc := fun k hk => ((w.1 e (by omega)).2 k (by omega)).2
  have c2 : ∀ k, k < min (q8 (14 + q6 e)) 4 → hCC q9 (14 + q6 e) k < nc := fun k hk => ((w.1 (14 + q6 e) (by omega)).2 k (by omega)).2
  have N1 := narrowTo_25 (p2 := 0) (f := fun p => p) h0 rfl y1 (zrd_0 (fun k hk => by have := c1 k hk; omega)) rfl hO (by omega) (by omega) hz (GRE.of hO.clo)
  have M1 := holdsAll_e (m13_0 := m13_0) (m13_1 := m13_1) hn5 e14 he14 he x1 x2 hy
  have R1 := cl_tgs h0 M1 (hO.rb (Int.le_refl _) (Int.le_refl _)) hO.clo.1 (fun k hk => by have := c1 k hk; omega) (fun k hk => (y1 k hk).2.2.2.2.1) (fun k hk => (y1 k hk).2.2.2.2.2) hV0 hU
  rcases N1 with ⟨g, D1, a1, a2, a3, a4⟩ | ⟨g, a1, a2⟩
  · rcases R1 with ⟨k, D1', b1, b2, b3⟩ | ⟨k, b1, b2⟩
    · have hk : ZR n k D1 := b2.eq (fun i j hi hj => b3.uniq a4 i j hi hj)
      have N2 := narrowTo_25 (p2 := f7 e) (f := fE (f7 e) nc) h0 rfl y2 (zrd_fE c2) fE_z a3 (by omega) (by omega) a2 (GRE.of (a3.clo.map (fun i hi => fE_lt hi)))
      obtain ⟨k2, d1, d2⟩ := goesL_z (q4 := r4) (q6 := r6) (q9 := r9) (q10 := r10) (f11 := r11) (m13_0 := m13_0) (m13_1 := m13_1) hn5 hn e12 g5.symm hk (a3.clo.1 0 h0)
      rw [t7'] at d2
      have hO2 : ZOK n U (V + 168) (fun p q => D1 (fE (f7 e) nc p) (fE (f7 e) nc q)) := a3.map (fun i hi => fE_lt hi) fE_z
      have M2 := holdsAll_p hn5 e13 hp8 g4 x3 x4 d1
      have R2 := cl_tgs h0 M2 (hO2.rb (Int.le_refl _) (Int.le_refl _)) hO2.clo.1 (fun k hk => by have := c2 k hk; omega) (fun k hk => (y2 k hk).2.2.2.2.1) (fun k hk => (y2 k hk).2.2.2.2.2) hV hU
      have eG : ∀ x, sp_EM_closes_z n (sp_EM_holdsAll_p b r4 r9 r10 r11 m13_0 m13_1 k2 (100 + q6 e)) = x → sp_EM_goesBy b n r4 r6 r7 f8 r9 r10 r11 m12_0 m12_1 m13_0 m13_1 m14_0 m14_1 y e = x := by
        intro x ex
        rw [← ex, ← d2]
        simp only [sp_EM_goesBy, slet, b1, if_neg (show ¬ (1 : Nat) = 0 by omega)]
      rcases N2 with ⟨g2, D2, p1, p2, p3, p4⟩ | ⟨g2, p1, p2⟩
      · rcases R2 with ⟨k3, D2', s1, s2, s3⟩ | ⟨k3, s1, s2⟩
        · refine Or.inl ⟨g2, k3, fun p q => D2 (fE (f7 e) nc p) (fE (f7 e) nc q), ?_, eG _ s1, setBackIn_25 hn p2 (p3.clo.1 0 h0), s2.eq (fun i j hi hj => s3.uniq p4 i j hi hj), (p3.map (fun i hi => fE_lt hi) fE_z).wide (Int.le_refl _) (by omega), ?_⟩
          · simp only [sp_E_0_opensIn_25, slet, a1, t7, p1, if_neg (show ¬ (1 : Nat) = 0 by omega)]
          · exact ((tgs_le h0 (fun k hk => by have := c2 k hk; omega) _ (Nat.le_refl _)).mp p4.2.1).2
        · exact absurd p4.2.1 (s2 _ p4.1)
      · rcases R2 with ⟨k3, D2', s1, s2, s3⟩ | ⟨k3, s1, s2⟩
        · exact absurd s3.2.1 (p2 _ s3.1)
        · refine Or.inr ⟨g2, k3, ?_, eG _ s1⟩
          simp only [sp_E_0_opensIn_25, slet, a1, t7, p1, if_neg (show ¬ (1 : Nat) = 0 by omega), if_pos]
    · exact absurd a4.2.1 (b2 _ a4.1)
  · rcases R1 with ⟨k, D1', b1, b2, b3⟩ | ⟨k, b1, b2⟩
    · exact absurd b3.2.1 (a2 _ b3.1)
    · exact Or.inr ⟨g, k, by simp only [sp_E_0_opensIn_25, slet, a1, if_pos], by simp only [sp_EM_goesBy, slet, b1, if_pos]⟩
theorem dly_le {n : Nat} {D : Nat → Nat → Option Int} : MLE n D (dly D) := by
  intro p q _ _
  show ble (D p q) (if q = 0 ∧ ¬ p = 0 then none else D p q)
  by_cases c : q = 0 ∧ ¬ p = 0
  · rw [if_pos c]; exact ble_none _
  · rw [if_neg c]; exact ble_refl _
theorem delays_z {b n np a1 m13_0 m13_1 : Nat} (hn5 : n ≤ 5) (h0 : 0 < n) {q4 q9 q10 : Nat → Nat} {f11 f : Nat → Int32} {D : Nat → Nat → Option Int} (hf : ZR n f D) : ∃ g, ZR n g (dly D) ∧ sp_EM_delays b n q4 q9 q10 f11 m13_0 m13_1 f a1 = (sp_EM_closes_z n (sp_EM_holdsAll_p b q4 q9 q10 f11 m13_0 m13_1 g (100 + a1))).2 := by
  refine itrv_inv (d := default) (f := sp_EM_delays_L1 b n q4 q9 q10 f11 m13_0 m13_1 a1) (fun t => ∃ g k, t = (g, k) ∧ 1 ≤ k ∧ k ≤ n ∧ ZR n g (fun p q => if q = 0 ∧ 1 ≤ p ∧ p < k then none else D p q)) (fun r => ∃ g, ZR n g (dly D) ∧ r = (sp_EM_closes_z n (sp_EM_holdsAll_p b q4 q9 q10 f11 m13_0 m13_1 g (100 + a1))).2) (fun t => n - t.2) ?_ n (f, 1) (Nat.sub_le _ _) ⟨f, 1, rfl, Nat.le_refl 1, h0, fun p q hp hq => by
    show RFC _ (if q = 0 ∧ 1 ≤ p ∧ p < 1 then none else D p q)
    rw [if_neg (by omega)]; exact hf p q hp hq⟩
  rintro _ ⟨g, k, rfl, h1, hk, hg⟩
  by_cases ce : n ≤ k
  · obtain ⟨⟨u, w⟩, e1⟩ : ∃ x, sp_EM_closes_z n (sp_EM_holdsAll_p b q4 q9 q10 f11 m13_0 m13_1 g (100 + a1)) = x := ⟨_, rfl⟩
    refine Or.inr ⟨w, by simp only [sp_EM_delays_L1, slet, if_pos ce, e1], g, fun p q hp hq => ?_, by rw [e1]⟩
    have this : RFC (g (5 * p + q)) (if q = 0 ∧ 1 ≤ p ∧ p < k then none else D p q) := hg p q hp hq
    show RFC _ (if q = 0 ∧ ¬ p = 0 then none else D p q)
    by_cases c : q = 0 ∧ ¬ p = 0
    · rw [if_pos (by omega)] at this
      rw [if_pos c]; exact this
    · rw [if_neg (by omega)] at this
      rw [if_neg c]; exact this
  · refine Or.inl ⟨(upd g (5 * k) 1048576, k + 1), by simp only [sp_EM_delays_L1, slet, if_neg ce], ⟨_, k + 1, rfl, by omega, by omega, fun p q hp hq => ?_⟩, by show n - (k + 1) < n - k; omega⟩
    have this : RFC (g (5 * p + q)) (if q = 0 ∧ 1 ≤ p ∧ p < k then none else D p q) := hg p q hp hq
    show RFC (upd g (5 * k) 1048576 (5 * p + q)) (if q = 0 ∧ 1 ≤ p ∧ p < k + 1 then none else D p q)
    by_cases c : p = k ∧ q = 0
    · rw [if_pos (by omega), show 5 * p + q = 5 * k by omega, upd_s]
      exact Or.inl ⟨rfl, rfl⟩
    · rw [upd_n (show 5 * p + q ≠ 5 * k by omega)]
      by_cases c2 : q = 0 ∧ 1 ≤ p ∧ p < k
      · rw [if_pos c2] at this
        rw [if_pos (by omega)]; exact this
      · rw [if_neg c2] at this
        rw [if_neg (by omega)]; exact this
theorem delay_16 {n : Nat} (h0 : 0 < n) {f : Nat → Int32} {D : Nat → Nat → Option Int} (hf : ZC n f D) : ZC n (sp_E_7_delay_16 n f) (dly D) := by
  refine itrv_inv (d := default) (f := sp_E_7_delay_16_L1 n) (fun t => ∃ g k, t = (g, k) ∧ 1 ≤ k ∧ k ≤ n ∧ ZC n g (fun p q => if q = 0 ∧ 1 ≤ p ∧ p < k then none else D p q)) (fun r => ZC n r (dly D)) (fun t => n - t.2) ?_ n (f, 1) (Nat.sub_le _ _) ⟨f, 1, rfl, Nat.le_refl 1, h0, fun p q hp hq => by
    show EC _ (if q = 0 ∧ 1 ≤ p ∧ p < 1 then none else D p q)
    rw [if_neg (by omega)]; exact hf p q hp hq⟩
  rintro _ ⟨g, k, rfl, h1, hk, hg⟩
  by_cases ce : n ≤ k
  · refine Or.inr ⟨g, by simp only [sp_E_7_delay_16_L1, if_pos ce], fun p q hp hq => ?_⟩
    have this : EC (g (p * n + q)) (if q = 0 ∧ 1 ≤ p ∧ p < k then none else D p q) := hg p q hp hq
    show EC _ (if q = 0 ∧ ¬ p = 0 then none else D p q)
    by_cases c : q = 0 ∧ ¬ p = 0
    · rw [if_pos (by omega)] at this
      rw [if_pos c]; exact this
    · rw [if_neg (by omega)] at this
      rw [if_neg c]; exact this
  · have hk2 : k < n := by omega
    refine Or.inl ⟨(upd g (k * n) 2147483647, k + 1), by simp only [sp_E_7_delay_16_L1, slet, if_neg ce], ⟨_, k + 1, rfl, by omega, by omega, fun p q hp hq => ?_⟩, by show n - (k + 1) < n - k; omega⟩
    have this : EC (g (p * n + q)) (if q = 0 ∧ 1 ≤ p ∧ p < k then none else D p q) := hg p q hp hq
    show EC (upd g (k * n) 2147483647 (p * n + q)) (if q = 0 ∧ 1 ≤ p ∧ p < k + 1 then none else D p q)
    by_cases c : p = k ∧ q = 0
    · rw [if_pos (by omega), c.1, c.2, Nat.add_zero, upd_s]
      exact Or.inl ⟨rfl, rfl⟩
    · rw [upd_n (show p * n + q ≠ k * n from fun z => c (ix_inj hq h0 (r := k) (s := 0) z))]
      by_cases c2 : q = 0 ∧ 1 ≤ p ∧ p < k
      · rw [if_pos c2] at this
        rw [if_pos (by omega)]; exact this
      · rw [if_neg c2] at this
        rw [if_neg (by omega)]; exact this
/-- time goes by at a place: the class, the reference -/
theorem stays_16 {b n nc np ne t : Nat} {st0 : Int32} {f4 : Nat → Int32} {q5 q6 : Nat → Nat} {f7 : Nat → Int32} {q8 q9 : Nat → Nat} {f10 f11 f12 f13 : Nat → Int32} {f3 : Nat → Int32} {r4 r5 r6 r7 : Nat → Nat} {f8 : Nat → Int32} {r9 r10 : Nat → Nat} {r11 : Nat → Int32} {m12 m13_0 m13_1 m14 m15 : Nat} (h : MB b nc np ne st0 f4 q5 q6 f7 q8 q9 f10 f11 f3 r4 r5 r6 r7 f8 r9 r10 r11 m12 (bkN b m13_0 m13_1) m14 m15) (w : WFm nc np ne f4 q8 q9 f10 f11 f12 f13) (hb : b ≤ 1) (hn : nc + 1 ≤ n) (ht : t < np) {U V : Int} {D : Nat → Nat → Option Int} {z y : Nat → Int32} (hO : ZOK n U V D) (hV : RNG n V) (hU : 0 ≤ U ∧ U + 82 ≤ 32000) (hz : ZC n z D) (hy : ZR n y D) (hc : ∀ j, j < min (q8 (14 + t)) 4 → ble (D (hCC q9 (14 + t) j + 1) 0) (hAA f10 f11 (14 + t) j) ∧ ble (D 0 (hCC q9 (14 + t) j + 1)) (hBB f10 f11 (14 + t) j)) : ∃ D', ZC n (sp_E_0_stayIn_16 f4 q8 q9 f12 f13 n z t) D' ∧ ZR n (if sp_EM_isUrgent b f3 t = 0 then sp_EM_delays b n r4 r9 r10 r11 m13_0 m13_1 y t else y) D' ∧ ZOK n (U + 41) (V + 168) D' := by
  have h0 : 0 < n := by omega
  obtain ⟨hn5, v4⟩ := hV.n5
  have h' := h
  obtain ⟨⟨-, hc3, e13, hp8, -, -⟩, -, h5, -, -, -, -, -⟩ := h'
  have e3 : f3 (8 * b + t) = f4 t := (h5 t ht).symm
  rcases w.2.1 t (by omega) with u | u
  · have eu : sp_EM_isUrgent b f3 t = 0 := by
      simp only [sp_EM_isUrgent, slet, e3, u, if_neg (show ¬ (0 : Int32) = 1 by decide)]
    rw [if_pos eu]
    obtain ⟨x3, x4⟩ := cnr_p h w hb hn ht
    have y2 := cnd_of (a := 14 + t) w hc3 hn (by omega)
    have c2 : ∀ k, k < min (q8 (14 + t)) 4 → hCC q9 (14 + t) k < nc := fun k hk => ((w.1 (14 + t) (by omega)).2 k (by omega)).2
    have hD := hO.delay hU.1
    have N1 := narrowTo_16 (p2 := 0) (f := fun p => p) h0 rfl y2 (zrd_0 (fun k hk => by have := c2 k hk; omega)) rfl hD (by omega) (by omega) (delay_16 h0 hz) (GRE.of hD.clo)
    obtain ⟨k2, d1, d2⟩ := delays_z (b := b) (np := np) (a1 := t) (q4 := r4) (q9 := r9) (q10 := r10) (f11 := r11) (m13_0 := m13_0) (m13_1 := m13_1) hn5 h0 hy
    have M1 := holdsAll_p hn5 e13 hp8 ht x3 x4 d1
    have R1 := cl_tgs h0 M1 (hD.rb (Int.le_refl _) (Int.le_refl _)) hD.clo.1 (fun k hk => by have := c2 k hk; omega) (fun k hk => (y2 k hk).2.2.2.2.1) (fun k hk => (y2 k hk).2.2.2.2.2) hV (by omega)
    have yes : MLE n D (tgs (hCC q9 (14 + t)) (hAA f10 f11 (14 + t)) (hBB f10 f11 (14 + t)) (dly D) (min (q8 (14 + t)) 4)) := (tgs_le h0 (fun k hk => by have := c2 k hk; omega) _ (Nat.le_refl _)).mpr ⟨dly_le, hc⟩
    rcases N1 with ⟨g, D1, a1, a2, a3, a4⟩ | ⟨g, a1, a2⟩
    · rcases R1 with ⟨k, D1', b1, b2, b3⟩ | ⟨k, b1, b2⟩
      · refine ⟨D1, ?_, ?_, a3⟩
        · simp only [sp_E_0_stayIn_16, slet, if_pos u, a1]; exact a2
        · rw [d2, b1]
          exact b2.eq (fun i j hi hj => b3.uniq a4 i j hi hj)
      · exact absurd yes (b2 _ hO.clo)
    · exact absurd yes (a2 _ hO.clo)
  · have eu : sp_EM_isUrgent b f3 t = 1 := by
      simp only [sp_EM_isUrgent, slet, e3, u, if_pos]
    rw [if_neg (by rw [eu]; decide)]
    refine ⟨D, ?_, hy, hO.wide (by omega) (by omega)⟩
    have un : ¬ f4 t = 0 := by rw [u]; decide
    simp only [sp_E_0_stayIn_16, slet, if_neg un]; exact hz
theorem delay_25 {n : Nat} (h0 : 0 < n) {f : Nat → Int32} {D : Nat → Nat → Option Int} (hf : ZC n f D) : ZC n (sp_E_7_delay_25 n f) (dly D) := by
  refine itrv_inv (d := default) (f := sp_E_7_delay_25_L1 n) (fun t => ∃ g k, t = (g, k) ∧ 1 ≤ k ∧ k ≤ n ∧ ZC n g (fun p q => if q = 0 ∧ 1 ≤ p ∧ p < k then none else D p q)) (fun r => ZC n r (dly D)) (fun t => n - t.2) ?_ n (f, 1) (Nat.sub_le _ _) ⟨f, 1, rfl, Nat.le_refl 1, h0, fun p q hp hq => by
    show EC _ (if q = 0 ∧ 1 ≤ p ∧ p < 1 then none else D p q)
    rw [if_neg (by omega)]; exact hf p q hp hq⟩
  rintro _ ⟨g, k, rfl, h1, hk, hg⟩
  by_cases ce : n ≤ k
  · refine Or.inr ⟨g, by simp only [sp_E_7_delay_25_L1, if_pos ce], fun p q hp hq => ?_⟩
    have this : EC (g (p * n + q)) (if q = 0 ∧ 1 ≤ p ∧ p < k then none else D p q) := hg p q hp hq
    show EC _ (if q = 0 ∧ ¬ p = 0 then none else D p q)
    by_cases c : q = 0 ∧ ¬ p = 0
    · rw [if_pos (by omega)] at this
      rw [if_pos c]; exact this
    · rw [if_neg (by omega)] at this
      rw [if_neg c]; exact this
  · have hk2 : k < n := by omega
    refine Or.inl ⟨(upd g (k * n) 2147483647, k + 1), by simp only [sp_E_7_delay_25_L1, slet, if_neg ce], ⟨_, k + 1, rfl, by omega, by omega, fun p q hp hq => ?_⟩, by show n - (k + 1) < n - k; omega⟩
    have this : EC (g (p * n + q)) (if q = 0 ∧ 1 ≤ p ∧ p < k then none else D p q) := hg p q hp hq
    show EC (upd g (k * n) 2147483647 (p * n + q)) (if q = 0 ∧ 1 ≤ p ∧ p < k + 1 then none else D p q)
    by_cases c : p = k ∧ q = 0
    · rw [if_pos (by omega), c.1, c.2, Nat.add_zero, upd_s]
      exact Or.inl ⟨rfl, rfl⟩
    · rw [upd_n (show p * n + q ≠ k * n from fun z => c (ix_inj hq h0 (r := k) (s := 0) z))]
      by_cases c2 : q = 0 ∧ 1 ≤ p ∧ p < k
      · rw [if_pos c2] at this
        rw [if_pos (by omega)]; exact this
      · rw [if_neg c2] at this
        rw [if_neg (by omega)]; exact this
/-- time goes by at a place: the class, the reference -/
theorem stays_25 {b n nc np ne t : Nat} {st0 : Int32} {f4 : Nat → Int32} {q5 q6 : Nat → Nat} {f7 : Nat → Int32} {q8 q9 : Nat → Nat} {f10 f11 f12 f13 : Nat → Int32} {f3 : Nat → Int32} {r4 r5 r6 r7 : Nat → Nat} {f8 : Nat → Int32} {r9 r10 : Nat → Nat} {r11 : Nat → Int32} {m12 m13_0 m13_1 m14 m15 : Nat} (h : MB b nc np ne st0 f4 q5 q6 f7 q8 q9 f10 f11 f3 r4 r5 r6 r7 f8 r9 r10 r11 m12 (bkN b m13_0 m13_1) m14 m15) (w : WFm nc np ne f4 q8 q9 f10 f11 f12 f13) (hb : b ≤ 1) (hn : nc + 1 ≤ n) (ht : t < np) {U V : Int} {D : Nat → Nat → Option Int} {z y : Nat → Int32} (hO : ZOK n U V D) (hV : RNG n V) (hU : 0 ≤ U ∧ U + 82 ≤ 32000) (hz : ZC n z D) (hy : ZR n y D) (hc : ∀ j, j < min (q8 (14 + t)) 4 → ble (D (hCC q9 (14 + t) j + 1) 0) (hAA f10 f11 (14 + t) j) ∧ ble (D 0 (hCC q9 (14 + t) j + 1)) (hBB f10 f11 (14 + t) j)) : ∃ D', ZC n (sp_E_0_stayIn_25 f4 q8 q9 f12 f13 n z t) D' ∧ ZR n (if sp_EM_isUrgent b f3 t = 0 then sp_EM_delays b n r4 r9 r10 r11 m13_0 m13_1 y t else y) D' ∧ ZOK n (U + 41) (V + 168) D' := by
  have h0 : 0 < n := by omega
  obtain ⟨hn5, v4⟩ := hV.n5
  have h' := h
  obtain ⟨⟨-, hc3, e13, hp8, -, -⟩, -, h5, -, -, -, -, -⟩ := h'
  have e3 : f3 (8 * b + t) = f4 t := (h5 t ht).symm
  rcases w.2.1 t (by omega) with u | u
  · have eu : sp_EM_isUrgent b f3 t = 0 := by
      simp only [sp_EM_isUrgent, slet, e3, u, if_neg (show ¬ (0 : Int32) = 1 by decide)]
    rw [if_pos eu]
    obtain ⟨x3, x4⟩ := cnr_p h w hb hn ht
    have y2 := cnd_of (a := 14 + t) w hc3 hn (by omega)
    have c2 : ∀ k, k < min (q8 (14 + t)) 4 → hCC q9 (14 + t) k < nc := fun k hk => ((w.1 (14 + t) (by omega)).2 k (by omega)).2
    have hD := hO.delay hU.1
    have N1 := narrowTo_25 (p2 := 0) (f := fun p => p) h0 rfl y2 (zrd_0 (fun k hk => by have := c2 k hk; omega)) rfl hD (by omega) (by omega) (delay_25 h0 hz) (GRE.of hD.clo)
    obtain ⟨k2, d1, d2⟩ := delays_z (b := b) (np := np) (a1 := t) (q4 := r4) (q9 := r9) (q10 := r10) (f11 := r11) (m13_0 := m13_0) (m13_1 := m13_1) hn5 h0 hy
    have M1 := holdsAll_p hn5 e13 hp8 ht x3 x4 d1
    have R1 := cl_tgs h0 M1 (hD.rb (Int.le_refl _) (Int.le_refl _)) hD.clo.1 (fun k hk => by have := c2 k hk; omega) (fun k hk => (y2 k hk).2.2.2.2.1) (fun k hk => (y2 k hk).2.2.2.2.2) hV (by omega)
    have yes : MLE n D (tgs (hCC q9 (14 + t)) (hAA f10 f11 (14 + t)) (hBB f10 f11 (14 + t)) (dly D) (min (q8 (14 + t)) 4)) := (tgs_le h0 (fun k hk => by have := c2 k hk; omega) _ (Nat.le_refl _)).mpr ⟨dly_le, hc⟩
    rcases N1 with ⟨g, D1, a1, a2, a3, a4⟩ | ⟨g, a1, a2⟩
    · rcases R1 with ⟨k, D1', b1, b2, b3⟩ | ⟨k, b1, b2⟩
      · refine ⟨D1, ?_, ?_, a3⟩
        · simp only [sp_E_0_stayIn_25, slet, if_pos u, a1]; exact a2
        · rw [d2, b1]
          exact b2.eq (fun i j hi hj => b3.uniq a4 i j hi hj)
      · exact absurd yes (b2 _ hO.clo)
    · exact absurd yes (a2 _ hO.clo)
  · have eu : sp_EM_isUrgent b f3 t = 1 := by
      simp only [sp_EM_isUrgent, slet, e3, u, if_pos]
    rw [if_neg (by rw [eu]; decide)]
    refine ⟨D, ?_, hy, hO.wide (by omega) (by omega)⟩
    have un : ¬ f4 t = 0 := by rw [u]; decide
    simp only [sp_E_0_stayIn_25, slet, if_neg un]; exact hz
/-- a matrix gone through, row by row, up to (i, j) -/
def scn (i j : Nat) (W D : Nat → Nat → Option Int) : Nat → Nat → Option Int := fun p q => if p < i ∨ (p = i ∧ q < j) then W p q else D p q
theorem ZC.go {n : Nat} {g : Nat → Int32} {W D : Nat → Nat → Option Int} (h : ZC n g D) : ZC n g (scn 0 0 W D) := by
  intro p q hp hq
  show EC _ (if p < 0 ∨ (p = 0 ∧ q < 0) then W p q else D p q)
  rw [if_neg (by omega)]; exact h p q hp hq
theorem ZC.fin {n i : Nat} {g : Nat → Int32} {W D : Nat → Nat → Option Int} (h : ZC n g (scn i 0 W D)) (hi : n ≤ i) : ZC n g W := by
  intro p q hp hq
  have this : EC _ (if p < i ∨ (p = i ∧ q < 0) then W p q else D p q) := h p q hp hq
  rwa [if_pos (by omega)] at this
theorem ZC.row {n i j : Nat} {g : Nat → Int32} {W D : Nat → Nat → Option Int} (h : ZC n g (scn i j W D)) (hj : n ≤ j) : ZC n g (scn (i + 1) 0 W D) := by
  intro p q hp hq
  have this : EC _ (if p < i ∨ (p = i ∧ q < j) then W p q else D p q) := h p q hp hq
  show EC _ (if p < i + 1 ∨ (p = i + 1 ∧ q < 0) then W p q else D p q)
  by_cases c : p < i + 1
  · rw [if_pos (by omega)] at this
    rw [if_pos (by omega)]; exact this
  · rw [if_neg (by omega)] at this
    rw [if_neg (by omega)]; exact this
theorem ZC.skip {n i : Nat} {g : Nat → Int32} {W D : Nat → Nat → Option Int} (h : ZC n g (scn i 0 W D)) (hw : ∀ q, q < n → W i q = D i q) : ZC n g (scn (i + 1) 0 W D) := by
  intro p q hp hq
  have this : EC _ (if p < i ∨ (p = i ∧ q < 0) then W p q else D p q) := h p q hp hq
  show EC _ (if p < i + 1 ∨ (p = i + 1 ∧ q < 0) then W p q else D p q)
  by_cases c : p = i
  · rw [if_neg (by omega)] at this
    rw [if_pos (by omega), c, hw q hq, ← c]; exact this
  · by_cases c2 : p < i
    · rw [if_pos (by omega)] at this
      rw [if_pos (by omega)]; exact this
    · rw [if_neg (by omega)] at this
      rw [if_neg (by omega)]; exact this
theorem ZC.cur {n i j : Nat} {g : Nat → Int32} {W D : Nat → Nat → Option Int} (h : ZC n g (scn i j W D)) (hi : i < n) (hj : j < n) : EC (g (i * n + j)) (D i j) := by
  have this : EC _ (if i < i ∨ (i = i ∧ j < j) then W i j else D i j) := h i j hi hj
  rwa [if_neg (by omega)] at this
theorem ZC.keep {n i j : Nat} {g : Nat → Int32} {W D : Nat → Nat → Option Int} (h : ZC n g (scn i j W D)) (e : EC (g (i * n + j)) (W i j)) : ZC n g (scn i (j + 1) W D) := by
  intro p q hp hq
  have this : EC _ (if p < i ∨ (p = i ∧ q < j) then W p q else D p q) := h p q hp hq
  show EC _ (if p < i ∨ (p = i ∧ q < j + 1) then W p q else D p q)
  by_cases c : p = i ∧ q = j
  · rw [if_pos (by omega), c.1, c.2]; exact e
  · by_cases c2 : p < i ∨ (p = i ∧ q < j)
    · rw [if_pos c2] at this
      rw [if_pos (by omega)]; exact this
    · rw [if_neg c2] at this
      rw [if_neg (by omega)]; exact this
theorem ZC.put {n i j : Nat} (hj : j < n) {g : Nat → Int32} {W D : Nat → Nat → Option Int} {x : Int32} (h : ZC n g (scn i j W D)) (e : EC x (W i j)) : ZC n (upd g (i * n + j) x) (scn i (j + 1) W D) := by
  intro p q hp hq
  have this : EC _ (if p < i ∨ (p = i ∧ q < j) then W p q else D p q) := h p q hp hq
  show EC _ (if p < i ∨ (p = i ∧ q < j + 1) then W p q else D p q)
  by_cases c : p = i ∧ q = j
  · rw [if_pos (by omega), c.1, c.2, upd_s]; exact e
  · rw [upd_n (show p * n + q ≠ i * n + j from fun z => c (ix_inj hq hj z))]
    by_cases c2 : p < i ∨ (p = i ∧ q < j)
    · rw [if_pos c2] at this
      rw [if_pos (by omega)]; exact this
    · rw [if_neg c2] at this
      rw [if_neg (by omega)]; exact this
theorem ZR.go {n : Nat} {g : Nat → Int32} {W D : Nat → Nat → Option Int} (h : ZR n g D) : ZR n g (scn 0 0 W D) := by
  intro p q hp hq
  show RFC _ (if p < 0 ∨ (p = 0 ∧ q < 0) then W p q else D p q)
  rw [if_neg (by omega)]; exact h p q hp hq
theorem ZR.fin {n i : Nat} {g : Nat → Int32} {W D : Nat → Nat → Option Int} (h : ZR n g (scn i 0 W D)) (hi : n ≤ i) : ZR n g W := by
  intro p q hp hq
  have this : RFC _ (if p < i ∨ (p = i ∧ q < 0) then W p q else D p q) := h p q hp hq
  rwa [if_pos (by omega)] at this
theorem ZR.row {n i j : Nat} {g : Nat → Int32} {W D : Nat → Nat → Option Int} (h : ZR n g (scn i j W D)) (hj : n ≤ j) : ZR n g (scn (i + 1) 0 W D) := by
  intro p q hp hq
  have this : RFC _ (if p < i ∨ (p = i ∧ q < j) then W p q else D p q) := h p q hp hq
  show RFC _ (if p < i + 1 ∨ (p = i + 1 ∧ q < 0) then W p q else D p q)
  by_cases c : p < i + 1
  · rw [if_pos (by omega)] at this
    rw [if_pos (by omega)]; exact this
  · rw [if_neg (by omega)] at this
    rw [if_neg (by omega)]; exact this
theorem ZR.skip {n i : Nat} {g : Nat → Int32} {W D : Nat → Nat → Option Int} (h : ZR n g (scn i 0 W D)) (hw : ∀ q, q < n → W i q = D i q) : ZR n g (scn (i + 1) 0 W D) := by
  intro p q hp hq
  have this : RFC _ (if p < i ∨ (p = i ∧ q < 0) then W p q else D p q) := h p q hp hq
  show RFC _ (if p < i + 1 ∨ (p = i + 1 ∧ q < 0) then W p q else D p q)
  by_cases c : p = i
  · rw [if_neg (by omega)] at this
    rw [if_pos (by omega), c, hw q hq, ← c]; exact this
  · by_cases c2 : p < i
    · rw [if_pos (by omega)] at this
      rw [if_pos (by omega)]; exact this
    · rw [if_neg (by omega)] at this
      rw [if_neg (by omega)]; exact this
theorem ZR.cur {n i j : Nat} {g : Nat → Int32} {W D : Nat → Nat → Option Int} (h : ZR n g (scn i j W D)) (hi : i < n) (hj : j < n) : RFC (g (5 * i + j)) (D i j) := by
  have this : RFC _ (if i < i ∨ (i = i ∧ j < j) then W i j else D i j) := h i j hi hj
  rwa [if_neg (by omega)] at this
theorem ZR.keep {n i j : Nat} {g : Nat → Int32} {W D : Nat → Nat → Option Int} (h : ZR n g (scn i j W D)) (e : RFC (g (5 * i + j)) (W i j)) : ZR n g (scn i (j + 1) W D) := by
  intro p q hp hq
  have this : RFC _ (if p < i ∨ (p = i ∧ q < j) then W p q else D p q) := h p q hp hq
  show RFC _ (if p < i ∨ (p = i ∧ q < j + 1) then W p q else D p q)
  by_cases c : p = i ∧ q = j
  · rw [if_pos (by omega), c.1, c.2]; exact e
  · by_cases c2 : p < i ∨ (p = i ∧ q < j)
    · rw [if_pos c2] at this
      rw [if_pos (by omega)]; exact this
    · rw [if_neg c2] at this
      rw [if_neg (by omega)]; exact this
theorem ZR.put {n i j : Nat} (hn5 : n ≤ 5) (hj : j < n) {g : Nat → Int32} {W D : Nat → Nat → Option Int} {x : Int32} (h : ZR n g (scn i j W D)) (e : RFC x (W i j)) : ZR n (upd g (5 * i + j) x) (scn i (j + 1) W D) := by
  intro p q hp hq
  have this : RFC _ (if p < i ∨ (p = i ∧ q < j) then W p q else D p q) := h p q hp hq
  show RFC _ (if p < i ∨ (p = i ∧ q < j + 1) then W p q else D p q)
  by_cases c : p = i ∧ q = j
  · rw [if_pos (by omega), c.1, c.2, upd_s]; exact e
  · rw [upd_n (show 5 * p + q ≠ 5 * i + j from fun z => c (ix_inj5 hn5 hq hj z))]
    by_cases c2 : p < i ∨ (p = i ∧ q < j)
    · rw [if_pos c2] at this
      rw [if_pos (by omega)]; exact this
    · rw [if_neg c2] at this
      rw [if_neg (by omega)]; exact this
/-- a bound beyond the greatest forgotten -/
def fgb (h l : Nat) : Option Int → Option Int
  | none => none
  | some v => if 2 * (h : Int) + 1 < v then none else if v < -2 * (l : Int) then some (-2 * (l : Int)) else some v
def frg (hi lo : Nat → Nat) (D : Nat → Nat → Option Int) : Nat → Nat → Option Int := fun p q => if p = q then D p q else fgb (hi p) (lo q) (D p q)
theorem fgb_ge {h l : Nat} {a : Option Int} : ble a (fgb h l a) := by
  cases a with
  | none => exact trivial
  | some v =>
    show ble (some v) (if 2 * (h : Int) + 1 < v then none else if v < -2 * (l : Int) then some (-2 * (l : Int)) else some v)
    by_cases c : 2 * (h : Int) + 1 < v
    · rw [if_pos c]; exact trivial
    · rw [if_neg c]
      by_cases c2 : v < -2 * (l : Int)
      · rw [if_pos c2]; exact Int.le_of_lt c2
      · rw [if_neg c2]; exact Int.le_refl v
theorem fgb_rg {h l : Nat} {a : Option Int} (hh : h ≤ 20) (hl : l ≤ 60) {v : Int} (e : fgb h l a = some v) : -120 ≤ v ∧ v ≤ 41 := by
  cases a with
  | none => exact absurd (show none = some v from e) (by simp)
  | some x =>
    have e : (if 2 * (h : Int) + 1 < x then none else if x < -2 * (l : Int) then some (-2 * (l : Int)) else some x) = some v := e
    by_cases c : 2 * (h : Int) + 1 < x
    · rw [if_pos c] at e; exact absurd e (by simp)
    · rw [if_neg c] at e
      by_cases c2 : x < -2 * (l : Int)
      · rw [if_pos c2] at e
        have := Option.some.inj e
        omega
      · rw [if_neg c2] at e
        have := Option.some.inj e
        omega
theorem frg_ge {n : Nat} {hi lo : Nat → Nat} {D : Nat → Nat → Option Int} : MLE n D (frg hi lo D) := by
  intro p q _ _
  show ble (D p q) (if p = q then D p q else fgb (hi p) (lo q) (D p q))
  by_cases c : p = q
  · rw [if_pos c]; exact ble_refl _
  · rw [if_neg c]; exact fgb_ge
theorem frg_rb {n : Nat} {hi lo : Nat → Nat} {D : Nat → Nat → Option Int} (hh : ∀ i, i < n → hi i ≤ 20 ∧ lo i ≤ 60) (hd : ∀ i, i < n → D i i = some 1) : RB n 120 41 (frg hi lo D) := by
  intro p q hp hq v e
  have e : (if p = q then D p q else fgb (hi p) (lo q) (D p q)) = some v := e
  by_cases c : p = q
  · rw [if_pos c, ← c, hd p hp] at e
    have := Option.some.inj e
    omega
  · rw [if_neg c] at e
    exact fgb_rg (hh p hp).1 (hh q hq).2 e
def lw2 (l : Int) : Nat → Int
  | 0 => l
  | k + 1 => 2 * lw2 l k + 1
theorem fwK_rb2 {n : Nat} {l u : Int} {M D : Nat → Nat → Option Int} (h0 : 0 ≤ l) (h1 : 0 ≤ u) (hD : CLO n D) (h : MLE n D M) (hR : RB n l u M) : ∀ k, k ≤ n → RB n (lw2 l k) (uw u k) (fwK n M k) ∧ 0 ≤ lw2 l k ∧ 0 ≤ uw u k := by
  intro k
  induction k with
  | zero => exact fun _ => ⟨hR, h0, h1⟩
  | succ k ih =>
    intro hk
    obtain ⟨ih1, ih2, ih3⟩ := ih (by omega)
    have hk2 : k < n := by omega
    have kk : ble (some 1) (fwK n M k k k) := by
      have := fwK_ge hD h k (by omega) k k hk2 hk2
      rwa [hD.1 k hk2] at this
    have el : lw2 l (k + 1) = 2 * lw2 l k + 1 := rfl
    have eu : uw u (k + 1) = 2 * uw u k := rfl
    refine ⟨fun p q hp hq v e => ?_, by omega, by omega⟩
    have e : fwI n k (fwK n M k) n p q = some v := e
    rw [fwI_all hk2 kk hp hq] at e
    rcases bmin_or (fwK n M k p q) (badd (fwK n M k p k) (fwK n M k k q)) with z | z
    · rw [z] at e
      have := ih1 p q hp hq v e
      omega
    · rw [z] at e
      obtain ⟨x, y, ex, ey, rv⟩ := badd_yes e
      have a1 := ih1 p k hp hk2 x ex
      have a2 := ih1 k q hk2 hq y ey
      have b1 := pl_lo a1.1 a2.1
      have b2 := pl_hi a1.2 a2.2
      omega
theorem frg_ok {n : Nat} (hn5 : n ≤ 5) (hn : 0 < n) {hi lo : Nat → Nat} {U V : Int} {D : Nat → Nat → Option Int} (hh : ∀ i, i < n → hi i ≤ 20 ∧ lo i ≤ 60) (hi0 : hi 0 = 0) (hO : ZOK n U V D) : GRE n (frg hi lo D) (fwK n (frg hi lo D) n) ∧ ZOK n 1400 4000 (fwK n (frg hi lo D) n) ∧ ∀ k, k ≤ n → RB n 4000 1400 (fwK n (frg hi lo D) k) := by
  have dd : ∀ i, i < n → ble (frg hi lo D i i) (some 1) := by
    intro i hi'
    show ble (if i = i then D i i else _) (some 1)
    rw [if_pos rfl, hO.clo.1 i hi']; exact ble_refl _
  have hG := fwK_gre dd (fwK_yes hO.clo (frg_ge (n := n) (hi := hi) (lo := lo)))
  have rb : ∀ k, k ≤ n → RB n 4000 1400 (fwK n (frg hi lo D) k) := by
    intro k hk
    obtain ⟨a, -, -⟩ := fwK_rb2 (l := 120) (u := 41) (by decide) (by decide) hO.clo (frg_ge (n := n) (hi := hi) (lo := lo)) (frg_rb hh hO.clo.1) k hk
    have e : lw2 120 k ≤ 4000 ∧ uw 41 k ≤ 1400 := by
      have d : ∀ k : Nat, k < 6 → lw2 120 k ≤ 4000 ∧ uw 41 k ≤ 1400 := by decide
      exact d k (by omega)
    intro p q hp hq v ev
    have := a p q hp hq v ev
    omega
  refine ⟨hG, ⟨hG.1, fun q hq => ?_, fun p q hp hq v e => ?_, fun q hq v e => ?_⟩, rb⟩
  · refine ble_trans (hG.2.1 0 q hn hq) ?_
    show ble (if 0 = q then D 0 q else fgb (hi 0) (lo q) (D 0 q)) (some 1)
    obtain ⟨v, ev, hv⟩ := ble_some (hO.nn q hq)
    by_cases c : 0 = q
    · rw [if_pos c]; exact hO.nn q hq
    · rw [if_neg c, hi0, ev]
      show ble (if 2 * ((0 : Nat) : Int) + 1 < v then none else if v < -2 * (lo q : Int) then some (-2 * (lo q : Int)) else some v) (some 1)
      rw [if_neg (by omega)]
      by_cases c2 : v < -2 * (lo q : Int)
      · rw [if_pos c2]; show -2 * (lo q : Int) ≤ 1; omega
      · rw [if_neg c2]; exact hv
  · have := rb n (Nat.le_refl n) p q hp hq v e
    exact ⟨by omega, fun _ => this.2⟩
  · exact (rb n (Nat.le_refl n) 0 q hn hq v e).1
theorem tw1 {v : Nat} (h : v ≤ 60) : ((2 : Int32) * nI v + 1).toInt = 2 * (v : Int) + 1 := by
  have d : ∀ v : Nat, v < 61 → ((2 : Int32) * nI v + 1).toInt = 2 * (v : Int) + 1 := by decide +kernel
  exact d v (by omega)
theorem tw2 {v : Nat} (h : v ≤ 60) : (((-2) : Int32) * nI v).toInt = -2 * (v : Int) := by
  have d : ∀ v : Nat, v < 61 → (((-2) : Int32) * nI v).toInt = -2 * (v : Int) := by decide +kernel
  exact d v (by omega)
theorem fgb_none {h l : Nat} {v : Int} (c : 2 * (h : Int) + 1 < v) : fgb h l (some v) = none := if_pos c
theorem fgb_low {h l : Nat} {v : Int} (c : ¬ 2 * (h : Int) + 1 < v) (c2 : v < -2 * (l : Int)) : fgb h l (some v) = some (-2 * (l : Int)) := by
  show (if 2 * (h : Int) + 1 < v then none else if v < -2 * (l : Int) then some (-2 * (l : Int)) else some v) = _
  rw [if_neg c, if_pos c2]
theorem fgb_same {h l : Nat} {v : Int} (c : ¬ 2 * (h : Int) + 1 < v) (c2 : ¬ v < -2 * (l : Int)) : fgb h l (some v) = some v := by
  show (if 2 * (h : Int) + 1 < v then none else if v < -2 * (l : Int) then some (-2 * (l : Int)) else some v) = _
  rw [if_neg c, if_neg c2]
theorem clsJ_16 {n i k : Nat} (hi : i < n) (hk : k < n) {W R : Nat → Nat → Option Int} (hW : ∀ p q, p < n → q < n → W p q = bmin (R p q) (badd (R p k) (R k q))) (kk : ble (some 1) (R k k)) {B : Int} (hB : B ≤ 100000000) (hR : RGE n B R) {x : Int32} {va : Int} (ea : R i k = some va) (hx : x.toInt = va) {g : Nat → Int32} (hg : ZC n g (scn i 0 W R)) : ZC n (itrv default (sp_E_7_close_16_L1 n i x k) (g, 0)) (scn i n W R) := by
  have Wk : ∀ q, q < n → W k q = R k q := fun q hq => by rw [hW k q hk hq]; exact bmin_eq (badd_ge_r kk)
  refine itrv_inv (d := default) (f := sp_E_7_close_16_L1 n i x k) (fun t => ∃ g j, t = (g, j) ∧ j ≤ n ∧ ZC n g (scn i j W R)) (fun r => ZC n r (scn i n W R)) (fun t => n - t.2) ?_ n (g, 0) (Nat.sub_le _ _) ⟨g, 0, rfl, Nat.zero_le _, hg⟩
  rintro _ ⟨g, j, rfl, hj, hg⟩
  by_cases ce : n ≤ j
  · have ej : j = n := by omega
    subst ej
    exact Or.inr ⟨g, by simp only [sp_E_7_close_16_L1, if_pos ce], hg⟩
  · have hj2 : j < n := by omega
    have cu := hg.cur hi hj2
    have be : EC (g (k * n + j)) (R k j) := by
      have this : EC (g (k * n + j)) (if k < i ∨ (k = i ∧ j < j) then W k j else R k j) := hg k j hk hj2
      by_cases c : k < i ∨ (k = i ∧ j < j)
      · rw [if_pos c, Wk j hj2] at this; exact this
      · rwa [if_neg c] at this
    have eW := hW i j hi hj2
    by_cases c1 : g (k * n + j) = 2147483647
    · have dn := be.none_iff.mp c1
      refine Or.inl ⟨(g, j + 1), by simp only [sp_E_7_close_16_L1, slet, if_neg ce, if_pos c1], ⟨g, j + 1, rfl, by omega, hg.keep ?_⟩, by show n - (j + 1) < n - j; omega⟩
      rw [eW, dn, badd_none_r, bmin_eq (ble_none _)]; exact cu
    · have dn : ¬ R k j = none := fun z => c1 (be.none_iff.mpr z)
      obtain ⟨w, hw⟩ := Option.ne_none_iff_exists'.mp dn
      obtain ⟨x1, x2⟩ := be.some hw
      have r1 := hR i k hi hk va ea
      have r2 := hR k j hk hj2 w hw
      have es : (x + g (k * n + j) - ((x ||| g (k * n + j)) &&& (1 : Int32))).toInt = plus va w := by
        rw [plus32 (by omega) (by omega) (by omega) (by omega), hx, x1]
      have ec : EC (x + g (k * n + j) - ((x ||| g (k * n + j)) &&& (1 : Int32))) (badd (R i k) (R k j)) := by
        rw [ea, hw]
        refine Or.inr ⟨plus va w, rfl, es, ?_⟩
        rcases plus_c va w with z | z <;> omega
      by_cases c2 : g (i * n + j) ≤ (x + g (k * n + j) - ((x ||| g (k * n + j)) &&& (1 : Int32)))
      · refine Or.inl ⟨(g, j + 1), by simp only [sp_E_7_close_16_L1, slet, if_neg ce, if_neg c1, if_pos c2], ⟨g, j + 1, rfl, by omega, hg.keep ?_⟩, by show n - (j + 1) < n - j; omega⟩
        rw [eW, bmin_eq ((cu.le ec).mp c2)]; exact cu
      · have nb : ¬ ble (R i j) (badd (R i k) (R k j)) := fun z => c2 ((cu.le ec).mpr z)
        have eb : bmin (R i j) (badd (R i k) (R k j)) = badd (R i k) (R k j) := by
          rcases bmin_or (R i j) (badd (R i k) (R k j)) with z | z
          · exact absurd (by rw [← z]; exact bmin_r _ _) nb
          · exact z
        exact Or.inl ⟨(upd g (i * n + j) (x + g (k * n + j) - ((x ||| g (k * n + j)) &&& (1 : Int32))), j + 1), by simp only [sp_E_7_close_16_L1, slet, if_neg ce, if_neg c1, if_neg c2], ⟨_, j + 1, rfl, by omega, hg.put hj2 (by rw [eW, eb]; exact ec)⟩, by show n - (j + 1) < n - j; omega⟩
theorem clsI_16 {n k : Nat} (hk : k < n) {W R : Nat → Nat → Option Int} (hW : ∀ p q, p < n → q < n → W p q = bmin (R p q) (badd (R p k) (R k q))) (kk : ble (some 1) (R k k)) {B : Int} (hB : B ≤ 100000000) (hR : RGE n B R) {g : Nat → Int32} (hg : ZC n g R) : ∃ g', itrv (Sum.inr default) (sp_E_7_close_16_L2 n k) (g, 0) = .inl (g', k + 1) ∧ ZC n g' W := by
  refine itrv_inv (d := Sum.inr default) (f := sp_E_7_close_16_L2 n k) (fun t => ∃ g i, t = (g, i) ∧ i ≤ n ∧ ZC n g (scn i 0 W R)) (fun r => ∃ g', r = .inl (g', k + 1) ∧ ZC n g' W) (fun t => n - t.2) ?_ n (g, 0) (Nat.sub_le _ _) ⟨g, 0, rfl, Nat.zero_le _, hg.go⟩
  rintro _ ⟨g, i, rfl, hi, hg⟩
  by_cases ce : n ≤ i
  · exact Or.inr ⟨.inl (g, k + 1), by simp only [sp_E_7_close_16_L2, if_pos ce], g, rfl, hg.fin ce⟩
  · have hi2 : i < n := by omega
    have cu : EC (g (i * n + k)) (R i k) := by
      have this : EC (g (i * n + k)) (if i < i ∨ (i = i ∧ k < 0) then W i k else R i k) := hg i k hi2 hk
      rwa [if_neg (by omega)] at this
    by_cases c1 : g (i * n + k) = 2147483647
    · have dn := cu.none_iff.mp c1
      refine Or.inl ⟨(g, i + 1), by simp only [sp_E_7_close_16_L2, slet, if_neg ce, if_pos c1], ⟨g, i + 1, rfl, by omega, hg.skip (fun q hq => ?_)⟩, by show n - (i + 1) < n - i; omega⟩
      rw [hW i q hi2 hq, dn, badd_none_l, bmin_eq (ble_none _)]
    · have dn : ¬ R i k = none := fun z => c1 (cu.none_iff.mpr z)
      obtain ⟨va, ea⟩ := Option.ne_none_iff_exists'.mp dn
      obtain ⟨x1, x2⟩ := cu.some ea
      have H := clsJ_16 hi2 hk hW kk hB hR ea x1 hg
      exact Or.inl ⟨(itrv default (sp_E_7_close_16_L1 n i (g (i * n + k)) k) (g, 0), i + 1), by simp only [sp_E_7_close_16_L2, slet, if_neg ce, if_neg c1], ⟨_, i + 1, rfl, by omega, H.row (Nat.le_refl n)⟩, by show n - (i + 1) < n - i; omega⟩
theorem close_16 {n : Nat} {M D : Nat → Nat → Option Int} (hD : CLO n D) (h : MLE n D M) {l u : Int} (hl : l ≤ 100000000) (hu : u ≤ 100000000) (hR : ∀ k, k ≤ n → RB n l u (fwK n M k)) {f : Nat → Int32} (hf : ZC n f M) : ZC n (sp_E_7_close_16 n f) (fwK n M n) := by
  refine itrv_inv (d := default) (f := sp_E_7_close_16_L3 n) (fun t => ∃ g k, t = (g, k) ∧ k ≤ n ∧ ZC n g (fwK n M k)) (fun r => ZC n r (fwK n M n)) (fun t => n - t.2) ?_ n (f, 0) (Nat.sub_le _ _) ⟨f, 0, rfl, Nat.zero_le _, hf⟩
  rintro _ ⟨g, k, rfl, hk, hg⟩
  by_cases ce : n ≤ k
  · have ek : k = n := by omega
    subst ek
    exact Or.inr ⟨g, by simp only [sp_E_7_close_16_L3, if_pos ce], hg⟩
  · have hk2 : k < n := by omega
    have kk : ble (some 1) (fwK n M k k k) := by
      have := fwK_ge hD h k (by omega) k k hk2 hk2
      rwa [hD.1 k hk2] at this
    have rg : RGE n 100000000 (fwK n M k) := fun p q hp hq v e => by
      have := hR k hk p q hp hq v e
      omega
    obtain ⟨g', eg, hg'⟩ := clsI_16 (W := fwK n M (k + 1)) hk2 (fun p q hp hq => fwI_all hk2 kk hp hq) kk (Int.le_refl _) rg hg
    exact Or.inl ⟨(g', k + 1), by simp only [sp_E_7_close_16_L3, if_neg ce, eg], ⟨g', k + 1, rfl, by omega, hg'⟩, by show n - (k + 1) < n - k; omega⟩
theorem fgI_16 {n i : Nat} (hi : i < n) {hh ll : Nat → Nat} {fh fl : Nat → Int32} (hF : ∀ i, i < n → fh i = nI (hh i) ∧ fl i = nI (ll i) ∧ hh i ≤ 20 ∧ ll i ≤ 60) {D : Nat → Nat → Option Int} {g : Nat → Int32} (hg : ZC n g (scn i 0 (frg hh ll D) D)) : ∃ g', itrv (Sum.inr default) (sp_E_7_forget_16_L1 fh fl n i) (g, 0) = .inl (g', i + 1) ∧ ZC n g' (scn (i + 1) 0 (frg hh ll D) D) := by
  refine itrv_inv (d := Sum.inr default) (f := sp_E_7_forget_16_L1 fh fl n i) (fun t => ∃ g j, t = (g, j) ∧ j ≤ n ∧ ZC n g (scn i j (frg hh ll D) D)) (fun r => ∃ g', r = .inl (g', i + 1) ∧ ZC n g' (scn (i + 1) 0 (frg hh ll D) D)) (fun t => n - t.2) ?_ n (g, 0) (Nat.sub_le _ _) ⟨g, 0, rfl, Nat.zero_le _, hg⟩
  rintro _ ⟨g, j, rfl, hj, hg⟩
  by_cases ce : n ≤ j
  · exact Or.inr ⟨.inl (g, i + 1), by simp only [sp_E_7_forget_16_L1, if_pos ce], g, rfl, hg.row ce⟩
  · have hj2 : j < n := by omega
    have cu := hg.cur hi hj2
    obtain ⟨a1, -, a3, -⟩ := hF i hi
    obtain ⟨-, b2, -, b4⟩ := hF j hj2
    by_cases c0 : i = j
    · refine Or.inl ⟨(g, j + 1), by simp only [sp_E_7_forget_16_L1, slet, if_neg ce, if_pos c0], ⟨g, j + 1, rfl, by omega, hg.keep ?_⟩, by show n - (j + 1) < n - j; omega⟩
      show EC _ (if i = j then D i j else _)
      rw [if_pos c0]; exact cu
    · have eF : frg hh ll D i j = fgb (hh i) (ll j) (D i j) := if_neg c0
      by_cases c1 : g (i * n + j) = 2147483647
      · have dn := cu.none_iff.mp c1
        refine Or.inl ⟨(g, j + 1), by simp only [sp_E_7_forget_16_L1, slet, if_neg ce, if_neg c0, if_pos c1], ⟨g, j + 1, rfl, by omega, hg.keep ?_⟩, by show n - (j + 1) < n - j; omega⟩
        rw [eF, dn]
        rw [dn] at cu
        exact cu
      · have dn : ¬ D i j = none := fun z => c1 (cu.none_iff.mpr z)
        obtain ⟨v, ev⟩ := Option.ne_none_iff_exists'.mp dn
        obtain ⟨x1, x2⟩ := cu.some ev
        have e1 := tw1 (v := hh i) (by omega)
        have e2 := tw2 (v := ll j) (by omega)
        by_cases c2 : g (i * n + j) ≤ (2 : Int32) * fh i + 1
        · have n2 : ¬ 2 * (hh i : Int) + 1 < v := by
            rw [a1, Int32.le_iff_toInt_le, e1, x1] at c2; omega
          by_cases c3 : ((-2) : Int32) * fl j ≤ g (i * n + j)
          · have n3 : ¬ v < -2 * (ll j : Int) := by
              rw [b2, Int32.le_iff_toInt_le, e2, x1] at c3; omega
            refine Or.inl ⟨(g, j + 1), by simp only [sp_E_7_forget_16_L1, slet, if_neg ce, if_neg c0, if_neg c1, if_pos c2, if_pos c3], ⟨g, j + 1, rfl, by omega, hg.keep ?_⟩, by show n - (j + 1) < n - j; omega⟩
            rw [eF, ev, fgb_same n2 n3]
            rw [ev] at cu
            exact cu
          · have n3 : v < -2 * (ll j : Int) := by
              rw [b2, Int32.le_iff_toInt_le, e2, x1] at c3; omega
            refine Or.inl ⟨(upd g (i * n + j) (((-2) : Int32) * fl j), j + 1), by simp only [sp_E_7_forget_16_L1, slet, if_neg ce, if_neg c0, if_neg c1, if_pos c2, if_neg c3], ⟨_, j + 1, rfl, by omega, hg.put hj2 ?_⟩, by show n - (j + 1) < n - j; omega⟩
            rw [eF, ev, fgb_low n2 n3, b2]
            exact Or.inr ⟨_, rfl, e2, by omega⟩
        · have n2 : 2 * (hh i : Int) + 1 < v := by
            rw [a1, Int32.le_iff_toInt_le, e1, x1] at c2; omega
          refine Or.inl ⟨(upd g (i * n + j) 2147483647, j + 1), by simp only [sp_E_7_forget_16_L1, slet, if_neg ce, if_neg c0, if_neg c1, if_neg c2], ⟨_, j + 1, rfl, by omega, hg.put hj2 ?_⟩, by show n - (j + 1) < n - j; omega⟩
          rw [eF, ev, fgb_none n2]
          exact Or.inl ⟨rfl, rfl⟩
theorem forget_16 {n : Nat} (hn5 : n ≤ 5) (hn : 0 < n) {hh ll : Nat → Nat} {fh fl : Nat → Int32} (hF : ∀ i, i < n → fh i = nI (hh i) ∧ fl i = nI (ll i) ∧ hh i ≤ 20 ∧ ll i ≤ 60) (hi0 : hh 0 = 0) {U V : Int} {D : Nat → Nat → Option Int} (hO : ZOK n U V D) {z : Nat → Int32} (hz : ZC n z D) : ZC n (sp_E_7_forget_16 fh fl n z) (fwK n (frg hh ll D) n) := by
  obtain ⟨o1, o2, o3⟩ := frg_ok hn5 hn (lo := ll) (fun i hi => (hF i hi).2.2) hi0 hO
  refine itrv_inv (d := default) (f := sp_E_7_forget_16_L2 fh fl n) (fun t => ∃ g i, t = (g, i) ∧ i ≤ n ∧ ZC n g (scn i 0 (frg hh ll D) D)) (fun r => ZC n r (fwK n (frg hh ll D) n)) (fun t => n - t.2) ?_ n (z, 0) (Nat.sub_le _ _) ⟨z, 0, rfl, Nat.zero_le _, hz.go⟩
  rintro _ ⟨g, i, rfl, hi, hg⟩
  by_cases ce : n ≤ i
  · exact Or.inr ⟨sp_E_7_close_16 n g, by simp only [sp_E_7_forget_16_L2, slet, if_pos ce], close_16 hO.clo frg_ge (by decide) (by decide) o3 (hg.fin ce)⟩
  · obtain ⟨g', eg, hg'⟩ := fgI_16 (show i < n by omega) hF hg
    exact Or.inl ⟨(g', i + 1), by simp only [sp_E_7_forget_16_L2, if_neg ce, eg], ⟨g', i + 1, rfl, by omega, hg'⟩, by show n - (i + 1) < n - i; omega⟩
theorem clsJ_25 {n i k : Nat} (hi : i < n) (hk : k < n) {W R : Nat → Nat → Option Int} (hW : ∀ p q, p < n → q < n → W p q = bmin (R p q) (badd (R p k) (R k q))) (kk : ble (some 1) (R k k)) {B : Int} (hB : B ≤ 100000000) (hR : RGE n B R) {x : Int32} {va : Int} (ea : R i k = some va) (hx : x.toInt = va) {g : Nat → Int32} (hg : ZC n g (scn i 0 W R)) : ZC n (itrv default (sp_E_7_close_25_L1 n i x k) (g, 0)) (scn i n W R) := by
  have Wk : ∀ q, q < n → W k q = R k q := fun q hq => by rw [hW k q hk hq]; exact bmin_eq (badd_ge_r kk)
  refine itrv_inv (d := default) (f := sp_E_7_close_25_L1 n i x k) (fun t => ∃ g j, t = (g, j) ∧ j ≤ n ∧ ZC n g (scn i j W R)) (fun r => ZC n r (scn i n W R)) (fun t => n - t.2) ?_ n (g, 0) (Nat.sub_le _ _) ⟨g, 0, rfl, Nat.zero_le _, hg⟩
  rintro _ ⟨g, j, rfl, hj, hg⟩
  by_cases ce : n ≤ j
  · have ej : j = n := by omega
    subst ej
    exact Or.inr ⟨g, by simp only [sp_E_7_close_25_L1, if_pos ce], hg⟩
  · have hj2 : j < n := by omega
    have cu := hg.cur hi hj2
    have be : EC (g (k * n + j)) (R k j) := by
      have this : EC (g (k * n + j)) (if k < i ∨ (k = i ∧ j < j) then W k j else R k j) := hg k j hk hj2
      by_cases c : k < i ∨ (k = i ∧ j < j)
      · rw [if_pos c, Wk j hj2] at this; exact this
      · rwa [if_neg c] at this
    have eW := hW i j hi hj2
    by_cases c1 : g (k * n + j) = 2147483647
    · have dn := be.none_iff.mp c1
      refine Or.inl ⟨(g, j + 1), by simp only [sp_E_7_close_25_L1, slet, if_neg ce, if_pos c1], ⟨g, j + 1, rfl, by omega, hg.keep ?_⟩, by show n - (j + 1) < n - j; omega⟩
      rw [eW, dn, badd_none_r, bmin_eq (ble_none _)]; exact cu
    · have dn : ¬ R k j = none := fun z => c1 (be.none_iff.mpr z)
      obtain ⟨w, hw⟩ := Option.ne_none_iff_exists'.mp dn
      obtain ⟨x1, x2⟩ := be.some hw
      have r1 := hR i k hi hk va ea
      have r2 := hR k j hk hj2 w hw
      have es : (x + g (k * n + j) - ((x ||| g (k * n + j)) &&& (1 : Int32))).toInt = plus va w := by
        rw [plus32 (by omega) (by omega) (by omega) (by omega), hx, x1]
      have ec : EC (x + g (k * n + j) - ((x ||| g (k * n + j)) &&& (1 : Int32))) (badd (R i k) (R k j)) := by
        rw [ea, hw]
        refine Or.inr ⟨plus va w, rfl, es, ?_⟩
        rcases plus_c va w with z | z <;> omega
      by_cases c2 : g (i * n + j) ≤ (x + g (k * n + j) - ((x ||| g (k * n + j)) &&& (1 : Int32)))
      · refine Or.inl ⟨(g, j + 1), by simp only [sp_E_7_close_25_L1, slet, if_neg ce, if_neg c1, if_pos c2], ⟨g, j + 1, rfl, by omega, hg.keep ?_⟩, by show n - (j + 1) < n - j; omega⟩
        rw [eW, bmin_eq ((cu.le ec).mp c2)]; exact cu
      · have nb : ¬ ble (R i j) (badd (R i k) (R k j)) := fun z => c2 ((cu.le ec).mpr z)
        have eb : bmin (R i j) (badd (R i k) (R k j)) = badd (R i k) (R k j) := by
          rcases bmin_or (R i j) (badd (R i k) (R k j)) with z | z
          · exact absurd (by rw [← z]; exact bmin_r _ _) nb
          · exact z
        exact Or.inl ⟨(upd g (i * n + j) (x + g (k * n + j) - ((x ||| g (k * n + j)) &&& (1 : Int32))), j + 1), by simp only [sp_E_7_close_25_L1, slet, if_neg ce, if_neg c1, if_neg c2], ⟨_, j + 1, rfl, by omega, hg.put hj2 (by rw [eW, eb]; exact ec)⟩, by show n - (j + 1) < n - j; omega⟩
theorem clsI_25 {n k : Nat} (hk : k < n) {W R : Nat → Nat → Option Int} (hW : ∀ p q, p < n → q < n → W p q = bmin (R p q) (badd (R p k) (R k q))) (kk : ble (some 1) (R k k)) {B : Int} (hB : B ≤ 100000000) (hR : RGE n B R) {g : Nat → Int32} (hg : ZC n g R) : ∃ g', itrv (Sum.inr default) (sp_E_7_close_25_L2 n k) (g, 0) = .inl (g', k + 1) ∧ ZC n g' W := by
  refine itrv_inv (d := Sum.inr default) (f := sp_E_7_close_25_L2 n k) (fun t => ∃ g i, t = (g, i) ∧ i ≤ n ∧ ZC n g (scn i 0 W R)) (fun r => ∃ g', r = .inl (g', k + 1) ∧ ZC n g' W) (fun t => n - t.2) ?_ n (g, 0) (Nat.sub_le _ _) ⟨g, 0, rfl, Nat.zero_le _, hg.go⟩
  rintro _ ⟨g, i, rfl, hi, hg⟩
  by_cases ce : n ≤ i
  · exact Or.inr ⟨.inl (g, k + 1), by simp only [sp_E_7_close_25_L2, if_pos ce], g, rfl, hg.fin ce⟩
  · have hi2 : i < n := by omega
    have cu : EC (g (i * n + k)) (R i k) := by
      have this : EC (g (i * n + k)) (if i < i ∨ (i = i ∧ k < 0) then W i k else R i k) := hg i k hi2 hk
      rwa [if_neg (by omega)] at this
    by_cases c1 : g (i * n + k) = 2147483647
    · have dn := cu.none_iff.mp c1
      refine Or.inl ⟨(g, i + 1), by simp only [sp_E_7_close_25_L2, slet, if_neg ce, if_pos c1], ⟨g, i + 1, rfl, by omega, hg.skip (fun q hq => ?_)⟩, by show n - (i + 1) < n - i; omega⟩
      rw [hW i q hi2 hq, dn, badd_none_l, bmin_eq (ble_none _)]
    · have dn : ¬ R i k = none := fun z => c1 (cu.none_iff.mpr z)
      obtain ⟨va, ea⟩ := Option.ne_none_iff_exists'.mp dn
      obtain ⟨x1, x2⟩ := cu.some ea
      have H := clsJ_25 hi2 hk hW kk hB hR ea x1 hg
      exact Or.inl ⟨(itrv default (sp_E_7_close_25_L1 n i (g (i * n + k)) k) (g, 0), i + 1), by simp only [sp_E_7_close_25_L2, slet, if_neg ce, if_neg c1], ⟨_, i + 1, rfl, by omega, H.row (Nat.le_refl n)⟩, by show n - (i + 1) < n - i; omega⟩
theorem close_25 {n : Nat} {M D : Nat → Nat → Option Int} (hD : CLO n D) (h : MLE n D M) {l u : Int} (hl : l ≤ 100000000) (hu : u ≤ 100000000) (hR : ∀ k, k ≤ n → RB n l u (fwK n M k)) {f : Nat → Int32} (hf : ZC n f M) : ZC n (sp_E_7_close_25 n f) (fwK n M n) := by
  refine itrv_inv (d := default) (f := sp_E_7_close_25_L3 n) (fun t => ∃ g k, t = (g, k) ∧ k ≤ n ∧ ZC n g (fwK n M k)) (fun r => ZC n r (fwK n M n)) (fun t => n - t.2) ?_ n (f, 0) (Nat.sub_le _ _) ⟨f, 0, rfl, Nat.zero_le _, hf⟩
  rintro _ ⟨g, k, rfl, hk, hg⟩
  by_cases ce : n ≤ k
  · have ek : k = n := by omega
    subst ek
    exact Or.inr ⟨g, by simp only [sp_E_7_close_25_L3, if_pos ce], hg⟩
  · have hk2 : k < n := by omega
    have kk : ble (some 1) (fwK n M k k k) := by
      have := fwK_ge hD h k (by omega) k k hk2 hk2
      rwa [hD.1 k hk2] at this
    have rg : RGE n 100000000 (fwK n M k) := fun p q hp hq v e => by
      have := hR k hk p q hp hq v e
      omega
    obtain ⟨g', eg, hg'⟩ := clsI_25 (W := fwK n M (k + 1)) hk2 (fun p q hp hq => fwI_all hk2 kk hp hq) kk (Int.le_refl _) rg hg
    exact Or.inl ⟨(g', k + 1), by simp only [sp_E_7_close_25_L3, if_neg ce, eg], ⟨g', k + 1, rfl, by omega, hg'⟩, by show n - (k + 1) < n - k; omega⟩
theorem fgI_25 {n i : Nat} (hi : i < n) {hh ll : Nat → Nat} {fh fl : Nat → Int32} (hF : ∀ i, i < n → fh i = nI (hh i) ∧ fl i = nI (ll i) ∧ hh i ≤ 20 ∧ ll i ≤ 60) {D : Nat → Nat → Option Int} {g : Nat → Int32} (hg : ZC n g (scn i 0 (frg hh ll D) D)) : ∃ g', itrv (Sum.inr default) (sp_E_7_forget_25_L1 fh fl n i) (g, 0) = .inl (g', i + 1) ∧ ZC n g' (scn (i + 1) 0 (frg hh ll D) D) := by
  refine itrv_inv (d := Sum.inr default) (f := sp_E_7_forget_25_L1 fh fl n i) (fun t => ∃ g j, t = (g, j) ∧ j ≤ n ∧ ZC n g (scn i j (frg hh ll D) D)) (fun r => ∃ g', r = .inl (g', i + 1) ∧ ZC n g' (scn (i + 1) 0 (frg hh ll D) D)) (fun t => n - t.2) ?_ n (g, 0) (Nat.sub_le _ _) ⟨g, 0, rfl, Nat.zero_le _, hg⟩
  rintro _ ⟨g, j, rfl, hj, hg⟩
  by_cases ce : n ≤ j
  · exact Or.inr ⟨.inl (g, i + 1), by simp only [sp_E_7_forget_25_L1, if_pos ce], g, rfl, hg.row ce⟩
  · have hj2 : j < n := by omega
    have cu := hg.cur hi hj2
    obtain ⟨a1, -, a3, -⟩ := hF i hi
    obtain ⟨-, b2, -, b4⟩ := hF j hj2
    by_cases c0 : i = j
    · refine Or.inl ⟨(g, j + 1), by simp only [sp_E_7_forget_25_L1, slet, if_neg ce, if_pos c0], ⟨g, j + 1, rfl, by omega, hg.keep ?_⟩, by show n - (j + 1) < n - j; omega⟩
      show EC _ (if i = j then D i j else _)
      rw [if_pos c0]; exact cu
    · have eF : frg hh ll D i j = fgb (hh i) (ll j) (D i j) := if_neg c0
      by_cases c1 : g (i * n + j) = 2147483647
      · have dn := cu.none_iff.mp c1
        refine Or.inl ⟨(g, j + 1), by simp only [sp_E_7_forget_25_L1, slet, if_neg ce, if_neg c0, if_pos c1], ⟨g, j + 1, rfl, by omega, hg.keep ?_⟩, by show n - (j + 1) < n - j; omega⟩
        rw [eF, dn]
        rw [dn] at cu
        exact cu
      · have dn : ¬ D i j = none := fun z => c1 (cu.none_iff.mpr z)
        obtain ⟨v, ev⟩ := Option.ne_none_iff_exists'.mp dn
        obtain ⟨x1, x2⟩ := cu.some ev
        have e1 := tw1 (v := hh i) (by omega)
        have e2 := tw2 (v := ll j) (by omega)
        by_cases c2 : g (i * n + j) ≤ (2 : Int32) * fh i + 1
        · have n2 : ¬ 2 * (hh i : Int) + 1 < v := by
            rw [a1, Int32.le_iff_toInt_le, e1, x1] at c2; omega
          by_cases c3 : ((-2) : Int32) * fl j ≤ g (i * n + j)
          · have n3 : ¬ v < -2 * (ll j : Int) := by
              rw [b2, Int32.le_iff_toInt_le, e2, x1] at c3; omega
            refine Or.inl ⟨(g, j + 1), by simp only [sp_E_7_forget_25_L1, slet, if_neg ce, if_neg c0, if_neg c1, if_pos c2, if_pos c3], ⟨g, j + 1, rfl, by omega, hg.keep ?_⟩, by show n - (j + 1) < n - j; omega⟩
            rw [eF, ev, fgb_same n2 n3]
            rw [ev] at cu
            exact cu
          · have n3 : v < -2 * (ll j : Int) := by
              rw [b2, Int32.le_iff_toInt_le, e2, x1] at c3; omega
            refine Or.inl ⟨(upd g (i * n + j) (((-2) : Int32) * fl j), j + 1), by simp only [sp_E_7_forget_25_L1, slet, if_neg ce, if_neg c0, if_neg c1, if_pos c2, if_neg c3], ⟨_, j + 1, rfl, by omega, hg.put hj2 ?_⟩, by show n - (j + 1) < n - j; omega⟩
            rw [eF, ev, fgb_low n2 n3, b2]
            exact Or.inr ⟨_, rfl, e2, by omega⟩
        · have n2 : 2 * (hh i : Int) + 1 < v := by
            rw [a1, Int32.le_iff_toInt_le, e1, x1] at c2; omega
          refine Or.inl ⟨(upd g (i * n + j) 2147483647, j + 1), by simp only [sp_E_7_forget_25_L1, slet, if_neg ce, if_neg c0, if_neg c1, if_neg c2], ⟨_, j + 1, rfl, by omega, hg.put hj2 ?_⟩, by show n - (j + 1) < n - j; omega⟩
          rw [eF, ev, fgb_none n2]
          exact Or.inl ⟨rfl, rfl⟩
theorem forget_25 {n : Nat} (hn5 : n ≤ 5) (hn : 0 < n) {hh ll : Nat → Nat} {fh fl : Nat → Int32} (hF : ∀ i, i < n → fh i = nI (hh i) ∧ fl i = nI (ll i) ∧ hh i ≤ 20 ∧ ll i ≤ 60) (hi0 : hh 0 = 0) {U V : Int} {D : Nat → Nat → Option Int} (hO : ZOK n U V D) {z : Nat → Int32} (hz : ZC n z D) : ZC n (sp_E_7_forget_25 fh fl n z) (fwK n (frg hh ll D) n) := by
  obtain ⟨o1, o2, o3⟩ := frg_ok hn5 hn (lo := ll) (fun i hi => (hF i hi).2.2) hi0 hO
  refine itrv_inv (d := default) (f := sp_E_7_forget_25_L2 fh fl n) (fun t => ∃ g i, t = (g, i) ∧ i ≤ n ∧ ZC n g (scn i 0 (frg hh ll D) D)) (fun r => ZC n r (fwK n (frg hh ll D) n)) (fun t => n - t.2) ?_ n (z, 0) (Nat.sub_le _ _) ⟨z, 0, rfl, Nat.zero_le _, hz.go⟩
  rintro _ ⟨g, i, rfl, hi, hg⟩
  by_cases ce : n ≤ i
  · exact Or.inr ⟨sp_E_7_close_25 n g, by simp only [sp_E_7_forget_25_L2, slet, if_pos ce], close_25 hO.clo frg_ge (by decide) (by decide) o3 (hg.fin ce)⟩
  · obtain ⟨g', eg, hg'⟩ := fgI_25 (show i < n by omega) hF hg
    exact Or.inl ⟨(g', i + 1), by simp only [sp_E_7_forget_25_L2, if_neg ce, eg], ⟨g', i + 1, rfl, by omega, hg'⟩, by show n - (i + 1) < n - i; omega⟩
theorem fgI_z {n i : Nat} (hn5 : n ≤ 5) (hi : i < n) {hh ll : Nat → Nat} {fh fl : Nat → Int32} (hF : ∀ i, i < n → fh i = nI (hh i) ∧ fl i = nI (ll i) ∧ hh i ≤ 20 ∧ ll i ≤ 60) {D : Nat → Nat → Option Int} {g : Nat → Int32} (hg : ZR n g (scn i 0 (frg hh ll D) D)) : ∃ g', itrv (Sum.inr default) (sp_EM_forgets_L1 n fh fl i) (g, 0) = .inl (g', i + 1) ∧ ZR n g' (scn (i + 1) 0 (frg hh ll D) D) := by
  refine itrv_inv (d := Sum.inr default) (f := sp_EM_forgets_L1 n fh fl i) (fun t => ∃ g j, t = (g, j) ∧ j ≤ n ∧ ZR n g (scn i j (frg hh ll D) D)) (fun r => ∃ g', r = .inl (g', i + 1) ∧ ZR n g' (scn (i + 1) 0 (frg hh ll D) D)) (fun t => n - t.2) ?_ n (g, 0) (Nat.sub_le _ _) ⟨g, 0, rfl, Nat.zero_le _, hg⟩
  rintro _ ⟨g, j, rfl, hj, hg⟩
  by_cases ce : n ≤ j
  · exact Or.inr ⟨.inl (g, i + 1), by simp only [sp_EM_forgets_L1, if_pos ce], g, rfl, hg.row ce⟩
  · have hj2 : j < n := by omega
    have cu := hg.cur hi hj2
    obtain ⟨a1, -, a3, -⟩ := hF i hi
    obtain ⟨-, b2, -, b4⟩ := hF j hj2
    have e1 := tw1 (v := hh i) (by omega)
    have e2 := tw2 (v := ll j) (by omega)
    by_cases c0 : i = j
    · refine Or.inl ⟨(g, j + 1), by simp only [sp_EM_forgets_L1, slet, if_neg ce, if_pos c0], ⟨g, j + 1, rfl, by omega, hg.keep ?_⟩, by show n - (j + 1) < n - j; omega⟩
      show RFC _ (if i = j then D i j else _)
      rw [if_pos c0]; exact cu
    · have eF : frg hh ll D i j = fgb (hh i) (ll j) (D i j) := if_neg c0
      by_cases c1 : D i j = none
      · have o1 := cu.open_iff.mpr c1
        have c2 : ¬ g (5 * i + j) ≤ (2 : Int32) * fh i + 1 := by
          intro c2
          rw [a1, Int32.le_iff_toInt_le, e1] at c2
          rw [Int32.le_iff_toInt_le, open32] at o1
          omega
        refine Or.inl ⟨(upd g (5 * i + j) 1048576, j + 1), by simp only [sp_EM_forgets_L1, slet, if_neg ce, if_neg c0, if_neg c2], ⟨_, j + 1, rfl, by omega, hg.put hn5 hj2 ?_⟩, by show n - (j + 1) < n - j; omega⟩
        rw [eF, c1]
        exact Or.inl ⟨rfl, rfl⟩
      · obtain ⟨v, ev⟩ := Option.ne_none_iff_exists'.mp c1
        obtain ⟨x1, x2⟩ := cu.yes ev
        by_cases c2 : g (5 * i + j) ≤ (2 : Int32) * fh i + 1
        · have n2 : ¬ 2 * (hh i : Int) + 1 < v := by
            rw [a1, Int32.le_iff_toInt_le, e1, x1] at c2; omega
          by_cases c3 : ((-2) : Int32) * fl j ≤ g (5 * i + j)
          · have n3 : ¬ v < -2 * (ll j : Int) := by
              rw [b2, Int32.le_iff_toInt_le, e2, x1] at c3; omega
            refine Or.inl ⟨(g, j + 1), by simp only [sp_EM_forgets_L1, slet, if_neg ce, if_neg c0, if_pos c2, if_pos c3], ⟨g, j + 1, rfl, by omega, hg.keep ?_⟩, by show n - (j + 1) < n - j; omega⟩
            rw [eF, ev, fgb_same n2 n3]
            rw [ev] at cu
            exact cu
          · have n3 : v < -2 * (ll j : Int) := by
              rw [b2, Int32.le_iff_toInt_le, e2, x1] at c3; omega
            refine Or.inl ⟨(upd g (5 * i + j) (((-2) : Int32) * fl j), j + 1), by simp only [sp_EM_forgets_L1, slet, if_neg ce, if_neg c0, if_pos c2, if_neg c3], ⟨_, j + 1, rfl, by omega, hg.put hn5 hj2 ?_⟩, by show n - (j + 1) < n - j; omega⟩
            rw [eF, ev, fgb_low n2 n3, b2]
            exact Or.inr ⟨_, rfl, e2, by omega⟩
        · have n2 : 2 * (hh i : Int) + 1 < v := by
            rw [a1, Int32.le_iff_toInt_le, e1, x1] at c2; omega
          refine Or.inl ⟨(upd g (5 * i + j) 1048576, j + 1), by simp only [sp_EM_forgets_L1, slet, if_neg ce, if_neg c0, if_neg c2], ⟨_, j + 1, rfl, by omega, hg.put hn5 hj2 ?_⟩, by show n - (j + 1) < n - j; omega⟩
          rw [eF, ev, fgb_none n2]
          exact Or.inl ⟨rfl, rfl⟩
theorem forgets_z {n : Nat} (hn5 : n ≤ 5) (hn : 0 < n) {hh ll : Nat → Nat} {fh fl : Nat → Int32} (hF : ∀ i, i < n → fh i = nI (hh i) ∧ fl i = nI (ll i) ∧ hh i ≤ 20 ∧ ll i ≤ 60) {U V : Int} {D : Nat → Nat → Option Int} (hO : ZOK n U V D) {y : Nat → Int32} {p : Int32} (hp : ¬ p = 0) (hy : ZR n y D) : ZR n (sp_EM_forgets n y fh fl p) (fwK n (frg hh ll D) n) := by
  have e : sp_EM_forgets n y fh fl p = itrv default (sp_EM_forgets_L2 n fh fl) (y, 0) := by
    unfold sp_EM_forgets
    rw [if_neg hp]
  rw [e]
  refine itrv_inv (d := default) (f := sp_EM_forgets_L2 n fh fl) (fun t => ∃ g i, t = (g, i) ∧ i ≤ n ∧ ZR n g (scn i 0 (frg hh ll D) D)) (fun r => ZR n r (fwK n (frg hh ll D) n)) (fun t => n - t.2) ?_ n (y, 0) (Nat.sub_le _ _) ⟨y, 0, rfl, Nat.zero_le _, hy.go⟩
  rintro _ ⟨g, i, rfl, hi, hg⟩
  by_cases ce : n ≤ i
  · obtain ⟨w, hw, -, hx⟩ := closes_z (l := 120) (u := 41) hn5 (by decide) (by decide) (Or.inr ⟨hn5, by decide⟩) (by decide) (hg.fin ce) (frg_rb (fun i hi => (hF i hi).2.2) hO.clo.1)
    have ew : ∃ u, sp_EM_closes_z n g = (u, w) := by
      rcases hx with ⟨-, e⟩ | ⟨-, e⟩
      · exact ⟨1, e⟩
      · exact ⟨0, e⟩
    obtain ⟨u, eu⟩ := ew
    exact Or.inr ⟨w, by simp only [sp_EM_forgets_L2, slet, if_pos ce, eu], hw⟩
  · obtain ⟨g', eg, hg'⟩ := fgI_z hn5 (show i < n by omega) hF hg
    exact Or.inl ⟨(g', i + 1), by simp only [sp_EM_forgets_L2, if_neg ce, eg], ⟨g', i + 1, rfl, by omega, hg'⟩, by show n - (i + 1) < n - i; omega⟩
theorem ixlt {n i j : Nat} (hi : i < n) (hj : j < n) : i * n + j < n * n := by
  have h := Nat.mul_le_mul_right n (Nat.succ_le_of_lt hi)
  rw [Nat.succ_mul] at h
  omega
theorem ixof {n x : Nat} (h : x < n * n) : ∃ i j, i < n ∧ j < n ∧ x = i * n + j := by
  have h0 : 0 < n := by
    rcases Nat.eq_zero_or_pos n with e | e
    · rw [e] at h; exact absurd h (Nat.not_lt_zero x)
    · exact e
  exact ⟨x / n, x % n, (Nat.div_lt_iff_lt_mul h0).mpr h, Nat.mod_lt x h0, by rw [Nat.mul_comm]; exact (Nat.div_add_mod x n).symm⟩
theorem EC.inj {x : Int32} {a b : Option Int} (h : EC x a) (g : EC x b) : a = b := ble_anti ((h.le g).mp (Int32.le_refl x)) ((g.le h).mp (Int32.le_refl x))
theorem EC.eq_iff {x y : Int32} {a b : Option Int} (h : EC x a) (g : EC y b) : x = y ↔ a = b := by
  constructor
  · intro e
    subst e
    exact h.inj g
  · intro e
    subst e
    exact Int32.le_antisymm ((h.le g).mpr (ble_refl a)) ((g.le h).mpr (ble_refl a))
theorem RFC.eq_iff {x y : Int32} {a b : Option Int} (h : RFC x a) (g : RFC y b) : x = y ↔ a = b := by
  constructor
  · intro e
    subst e
    exact ble_anti ((h.le g).mp (Int32.le_refl x)) ((g.le h).mp (Int32.le_refl x))
  · intro e
    subst e
    exact Int32.le_antisymm ((h.le g).mpr (ble_refl a)) ((g.le h).mpr (ble_refl a))
/-- one cell of what is new against one of what was there: the same, or within -/
def HSP (l : Nat) (a b : Option Int) : Prop := if l = 0 then b = a else ble a b
def HSA (l n : Nat) (Dz Ds : Nat → Nat → Option Int) : Prop := ∀ i j, i < n → j < n → HSP l (Dz i j) (Ds i j)
theorem copies_nz {f34 f35 : Nat → Int32} {a1 : Nat} : ∀ k, k < 25 → sp_EM_copies_nz f34 f35 a1 k = f34 (a1 + k) := by
  refine itrv_inv (d := default) (f := sp_EM_copies_nz_L1 f34 a1) (fun t => ∃ g k, t = (g, k) ∧ k ≤ 25 ∧ ∀ x, x < k → g x = f34 (a1 + x)) (fun r => ∀ k, k < 25 → r k = f34 (a1 + k)) (fun t => 25 - t.2) ?_ 25 (f35, 0) (Nat.sub_le _ _) ⟨f35, 0, rfl, Nat.zero_le _, fun x hx => absurd hx (Nat.not_lt_zero x)⟩
  rintro _ ⟨g, k, rfl, hk, hg⟩
  by_cases ce : 25 ≤ k
  · exact Or.inr ⟨g, by simp only [sp_EM_copies_nz_L1, if_pos ce], fun x hx => hg x (by omega)⟩
  · refine Or.inl ⟨(upd g (0 + k) (f34 (a1 + k)), k + 1), by simp only [sp_EM_copies_nz_L1, slet, if_neg ce], ⟨_, k + 1, rfl, by omega, fun x hx => ?_⟩, by show 25 - (k + 1) < 25 - k; omega⟩
    rw [Nat.zero_add]
    by_cases c : x = k
    · rw [c, upd_s]
    · rw [upd_n c]; exact hg x (by omega)
theorem copies_zn {f34 f35 : Nat → Int32} {a3 : Nat} : (∀ k, k < 25 → sp_EM_copies_zn f34 f35 a3 (a3 + k) = f35 k) ∧ ∀ x, (x < a3 ∨ a3 + 25 ≤ x) → sp_EM_copies_zn f34 f35 a3 x = f34 x := by
  refine itrv_inv (d := default) (f := sp_EM_copies_zn_L1 f35 a3) (fun t => ∃ g k, t = (g, k) ∧ k ≤ 25 ∧ (∀ x, x < k → g (a3 + x) = f35 x) ∧ ∀ x, (x < a3 ∨ a3 + 25 ≤ x) → g x = f34 x) (fun r => (∀ k, k < 25 → r (a3 + k) = f35 k) ∧ ∀ x, (x < a3 ∨ a3 + 25 ≤ x) → r x = f34 x) (fun t => 25 - t.2) ?_ 25 (f34, 0) (Nat.sub_le _ _) ⟨f34, 0, rfl, Nat.zero_le _, fun x hx => absurd hx (Nat.not_lt_zero x), fun _ _ => rfl⟩
  rintro _ ⟨g, k, rfl, hk, hg, hg2⟩
  by_cases ce : 25 ≤ k
  · exact Or.inr ⟨g, by simp only [sp_EM_copies_zn_L1, if_pos ce], fun x hx => hg x (by omega), hg2⟩
  · refine Or.inl ⟨(upd g (a3 + k) (f35 (0 + k)), k + 1), by simp only [sp_EM_copies_zn_L1, slet, if_neg ce], ⟨_, k + 1, rfl, by omega, fun x hx => ?_, fun x hx => ?_⟩, by show 25 - (k + 1) < 25 - k; omega⟩
    · rw [Nat.zero_add]
      by_cases c : x = k
      · rw [c, upd_s]
      · rw [upd_n (show a3 + x ≠ a3 + k by omega)]; exact hg x (by omega)
    · rw [upd_n (show x ≠ a3 + k by omega)]; exact hg2 x hx
theorem hasJ_z {n s a2 l i : Nat} (hl : a2 = if l = 0 then 1 else 0) (hi : i < n) {f34 f35 : Nat → Int32} {Dz Ds : Nat → Nat → Option Int} (hz : ZR n f35 Dz) (hs : ZR n (fun x => f34 (25 * s + x)) Ds) : (itrv (Sum.inr default) (sp_EM_hasAll_L1 n f34 f35 s a2 i) 0 = .inl (i + 1) ∧ ∀ j, j < n → HSP l (Dz i j) (Ds i j)) ∨ (itrv (Sum.inr default) (sp_EM_hasAll_L1 n f34 f35 s a2 i) 0 = .inr 0 ∧ ¬ ∀ j, j < n → HSP l (Dz i j) (Ds i j)) := by
  refine itrv_inv (d := Sum.inr default) (f := sp_EM_hasAll_L1 n f34 f35 s a2 i) (fun k => k ≤ n ∧ ∀ j, j < k → HSP l (Dz i j) (Ds i j)) (fun r => (r = .inl (i + 1) ∧ ∀ j, j < n → HSP l (Dz i j) (Ds i j)) ∨ (r = .inr 0 ∧ ¬ ∀ j, j < n → HSP l (Dz i j) (Ds i j))) (fun k => n - k) ?_ n 0 (Nat.sub_le _ _) ⟨Nat.zero_le _, fun j hj => absurd hj (Nat.not_lt_zero j)⟩
  rintro k ⟨hk, hI⟩
  by_cases ce : n ≤ k
  · exact Or.inr ⟨.inl (i + 1), by simp only [sp_EM_hasAll_L1, if_pos ce], Or.inl ⟨rfl, fun j hj => hI j (by omega)⟩⟩
  · have hk2 : k < n := by omega
    have e1 := hz i k hi hk2
    have e2 : RFC (f34 (25 * s + (5 * i + k))) (Ds i k) := hs i k hi hk2
    rw [← Nat.add_assoc] at e2
    have ok : HSP l (Dz i k) (Ds i k) → (k + 1 ≤ n ∧ ∀ j, j < k + 1 → HSP l (Dz i j) (Ds i j)) := fun h => ⟨hk2, fun j hj => by
      by_cases c : j = k
      · rw [c]; exact h
      · exact hI j (by omega)⟩
    by_cases c0 : l = 0
    · have ha : ¬ a2 = 0 := by rw [hl, if_pos c0]; decide
      by_cases c : f34 (25 * s + 5 * i + k) = f35 (5 * i + k)
      · have h : HSP l (Dz i k) (Ds i k) := by unfold HSP; rw [if_pos c0]; exact (e2.eq_iff e1).mp c
        exact Or.inl ⟨k + 1, by simp only [sp_EM_hasAll_L1, slet, if_neg ce, if_neg ha, if_pos c], ok h, by show n - (k + 1) < n - k; omega⟩
      · have h : ¬ HSP l (Dz i k) (Ds i k) := by unfold HSP; rw [if_pos c0]; exact fun z => c ((e2.eq_iff e1).mpr z)
        exact Or.inr ⟨.inr 0, by simp only [sp_EM_hasAll_L1, slet, if_neg ce, if_neg ha, if_neg c], Or.inr ⟨rfl, fun z => h (z k hk2)⟩⟩
    · have ha : a2 = 0 := by rw [hl, if_neg c0]
      by_cases c : f35 (5 * i + k) ≤ f34 (25 * s + 5 * i + k)
      · have h : HSP l (Dz i k) (Ds i k) := by unfold HSP; rw [if_neg c0]; exact (e1.le e2).mp c
        exact Or.inl ⟨k + 1, by simp only [sp_EM_hasAll_L1, slet, if_neg ce, if_pos ha, if_pos c], ok h, by show n - (k + 1) < n - k; omega⟩
      · have h : ¬ HSP l (Dz i k) (Ds i k) := by unfold HSP; rw [if_neg c0]; exact fun z => c ((e1.le e2).mpr z)
        exact Or.inr ⟨.inr 0, by simp only [sp_EM_hasAll_L1, slet, if_neg ce, if_pos ha, if_neg c], Or.inr ⟨rfl, fun z => h (z k hk2)⟩⟩
theorem hasAll_z {n s a2 l : Nat} (hl : a2 = if l = 0 then 1 else 0) {f34 f35 : Nat → Int32} {Dz Ds : Nat → Nat → Option Int} (hz : ZR n f35 Dz) (hs : ZR n (fun x => f34 (25 * s + x)) Ds) : (sp_EM_hasAll n f34 f35 s a2 = 1 ∧ HSA l n Dz Ds) ∨ (sp_EM_hasAll n f34 f35 s a2 = 0 ∧ ¬ HSA l n Dz Ds) := by
  refine itrv_inv (d := default) (f := sp_EM_hasAll_L2 n f34 f35 s a2) (fun i => i ≤ n ∧ ∀ p q, p < i → q < n → HSP l (Dz p q) (Ds p q)) (fun r => (r = 1 ∧ HSA l n Dz Ds) ∨ (r = 0 ∧ ¬ HSA l n Dz Ds)) (fun k => n - k) ?_ n 0 (Nat.sub_le _ _) ⟨Nat.zero_le _, fun p q hp => absurd hp (Nat.not_lt_zero p)⟩
  rintro i ⟨hi, hI⟩
  by_cases ce : n ≤ i
  · exact Or.inr ⟨1, by simp only [sp_EM_hasAll_L2, if_pos ce], Or.inl ⟨rfl, fun p q hp hq => hI p q (by omega) hq⟩⟩
  · have hi2 : i < n := by omega
    rcases hasJ_z (s := s) hl hi2 hz hs with ⟨e, h⟩ | ⟨e, h⟩
    · refine Or.inl ⟨i + 1, by simp only [sp_EM_hasAll_L2, if_neg ce, e], ⟨by omega, fun p q hp hq => ?_⟩, by show n - (i + 1) < n - i; omega⟩
      by_cases c : p = i
      · rw [c]; exact h q hq
      · exact hI p q (by omega) hq
    · exact Or.inr ⟨0, by simp only [sp_EM_hasAll_L2, if_neg ce, e], Or.inr ⟨rfl, fun z => h (fun j hj => z i j hi2 hj)⟩⟩
/-- whether a zone at a place is known -/
def KNW (l n a cnt : Nat) (site : Nat → Nat) (Z : Nat → Nat → Nat → Option Int) (Dz : Nat → Nat → Option Int) : Prop := ∃ s, s < cnt ∧ min (site s) 7 = a ∧ HSA l n Dz (Z s)
theorem copyOf_16 {n : Nat} {fo fz : Nat → Int32} {D : Nat → Nat → Option Int} (h : ZC n fo D) : ZC n (sp_E_7_copyOf_16 n fo fz) D := by
  have H : ∀ x, x < n * n → sp_E_7_copyOf_16 n fo fz x = fo x := by
    refine itrv_inv (d := default) (f := sp_E_7_copyOf_16_L1 n fo) (fun t => ∃ g k, t = (g, k) ∧ k ≤ n * n ∧ ∀ x, x < k → g x = fo x) (fun r => ∀ x, x < n * n → r x = fo x) (fun t => n * n - t.2) ?_ (n * n) (fz, 0) (Nat.sub_le _ _) ⟨fz, 0, rfl, Nat.zero_le _, fun x hx => absurd hx (Nat.not_lt_zero x)⟩
    rintro _ ⟨g, k, rfl, hk, hg⟩
    by_cases ce : n * n ≤ k
    · exact Or.inr ⟨g, by simp only [sp_E_7_copyOf_16_L1, if_pos ce], fun x hx => hg x (by omega)⟩
    · refine Or.inl ⟨(upd g k (fo k), k + 1), by simp only [sp_E_7_copyOf_16_L1, slet, if_neg ce], ⟨_, k + 1, rfl, by omega, fun x hx => ?_⟩, by show n * n - (k + 1) < n * n - k; omega⟩
      by_cases c : x = k
      · rw [c, upd_s]
      · rw [upd_n c]; exact hg x (by omega)
  intro i j hi hj
  rw [H _ (ixlt hi hj)]
  exact h i j hi hj
theorem equalTo_16 {n l : Nat} (hl : l = 0) {fo fz : Nat → Int32} {Dz Ds : Nat → Nat → Option Int} (hz : ZC n fo Dz) (hs : ZC n fz Ds) : (sp_E_7_equalTo_16 fo n fz = 1 ∧ HSA l n Dz Ds) ∨ (sp_E_7_equalTo_16 fo n fz = 0 ∧ ¬ HSA l n Dz Ds) := by
  have key : ∀ i j, i < n → j < n → (fo (i * n + j) = fz (i * n + j) ↔ HSP l (Dz i j) (Ds i j)) := by
    intro i j hi hj
    unfold HSP
    rw [if_pos hl]
    exact ((hz i j hi hj).eq_iff (hs i j hi hj)).trans ⟨Eq.symm, Eq.symm⟩
  refine itrv_inv (d := default) (f := sp_E_7_equalTo_16_L1 fo n fz) (fun k => k ≤ n * n ∧ ∀ x, x < k → fo x = fz x) (fun r => (r = 1 ∧ HSA l n Dz Ds) ∨ (r = 0 ∧ ¬ HSA l n Dz Ds)) (fun k => n * n - k) ?_ (n * n) 0 (Nat.sub_le _ _) ⟨Nat.zero_le _, fun x hx => absurd hx (Nat.not_lt_zero x)⟩
  rintro k ⟨hk, hI⟩
  by_cases ce : n * n ≤ k
  · exact Or.inr ⟨1, by simp only [sp_E_7_equalTo_16_L1, if_pos ce], Or.inl ⟨rfl, fun i j hi hj => (key i j hi hj).mp (hI _ (by have := ixlt hi hj; omega))⟩⟩
  · by_cases c : fo k = fz k
    · refine Or.inl ⟨k + 1, by simp only [sp_E_7_equalTo_16_L1, slet, if_neg ce, if_pos c], ⟨by omega, fun x hx => ?_⟩, by show n * n - (k + 1) < n * n - k; omega⟩
      by_cases e : x = k
      · rw [e]; exact c
      · exact hI x (by omega)
    · obtain ⟨i, j, hi, hj, e⟩ := ixof (show k < n * n by omega)
      exact Or.inr ⟨0, by simp only [sp_E_7_equalTo_16_L1, slet, if_neg ce, if_neg c], Or.inr ⟨rfl, fun z => c (by rw [e]; exact (key i j hi hj).mpr (z i j hi hj))⟩⟩
theorem holdsAll_16 {n l : Nat} (hl : ¬ l = 0) {fo fz : Nat → Int32} {Dz Ds : Nat → Nat → Option Int} (hz : ZC n fo Dz) (hs : ZC n fz Ds) : (sp_E_7_holdsAll_16 fo n fz = 1 ∧ HSA l n Dz Ds) ∨ (sp_E_7_holdsAll_16 fo n fz = 0 ∧ ¬ HSA l n Dz Ds) := by
  have key : ∀ i j, i < n → j < n → (fo (i * n + j) ≤ fz (i * n + j) ↔ HSP l (Dz i j) (Ds i j)) := by
    intro i j hi hj
    unfold HSP
    rw [if_neg hl]
    exact (hz i j hi hj).le (hs i j hi hj)
  refine itrv_inv (d := default) (f := sp_E_7_holdsAll_16_L1 fo n fz) (fun k => k ≤ n * n ∧ ∀ x, x < k → fo x ≤ fz x) (fun r => (r = 1 ∧ HSA l n Dz Ds) ∨ (r = 0 ∧ ¬ HSA l n Dz Ds)) (fun k => n * n - k) ?_ (n * n) 0 (Nat.sub_le _ _) ⟨Nat.zero_le _, fun x hx => absurd hx (Nat.not_lt_zero x)⟩
  rintro k ⟨hk, hI⟩
  by_cases ce : n * n ≤ k
  · exact Or.inr ⟨1, by simp only [sp_E_7_holdsAll_16_L1, if_pos ce], Or.inl ⟨rfl, fun i j hi hj => (key i j hi hj).mp (hI _ (by have := ixlt hi hj; omega))⟩⟩
  · by_cases c : fo k ≤ fz k
    · refine Or.inl ⟨k + 1, by simp only [sp_E_7_holdsAll_16_L1, slet, if_neg ce, if_pos c], ⟨by omega, fun x hx => ?_⟩, by show n * n - (k + 1) < n * n - k; omega⟩
      by_cases e : x = k
      · rw [e]; exact c
      · exact hI x (by omega)
    · obtain ⟨i, j, hi, hj, e⟩ := ixof (show k < n * n by omega)
      exact Or.inr ⟨0, by simp only [sp_E_7_holdsAll_16_L1, slet, if_neg ce, if_neg c], Or.inr ⟨rfl, fun z => c (by rw [e]; exact (key i j hi hj).mpr (z i j hi hj))⟩⟩
theorem isKnown_16 {n gc gl o kk a1 : Nat} (hn4 : n ≤ 4) {q1 qs : Nat → Nat} {fz : Nat → Nat → Int32} {Z : Nat → Nat → Nat → Option Int} {Dz : Nat → Nat → Option Int} (hZ : ∀ s, s < gc → qs (o + s) = n ∧ ZC n (fz (o + s)) (Z s)) (hz : ZC n (fz kk) Dz) : (sp_E_1_isKnown_16 gc gl q1 o qs fz kk a1 = 1 ∧ KNW gl n a1 gc q1 Z Dz) ∨ (sp_E_1_isKnown_16 gc gl q1 o qs fz kk a1 = 0 ∧ ¬ KNW gl n a1 gc q1 Z Dz) := by
  refine itrv_inv (d := default) (f := sp_E_1_isKnown_16_L1 gc gl q1 o qs fz kk a1) (fun k => k ≤ gc ∧ ∀ s, s < k → ¬ (min (q1 s) 7 = a1 ∧ HSA gl n Dz (Z s))) (fun r => (r = 1 ∧ KNW gl n a1 gc q1 Z Dz) ∨ (r = 0 ∧ ¬ KNW gl n a1 gc q1 Z Dz)) (fun k => gc - k) ?_ gc 0 (Nat.sub_le _ _) ⟨Nat.zero_le _, fun x hx => absurd hx (Nat.not_lt_zero x)⟩
  rintro k ⟨hk, hI⟩
  by_cases ce : gc ≤ k
  · exact Or.inr ⟨0, by simp only [sp_E_1_isKnown_16_L1, if_pos ce], Or.inr ⟨rfl, fun ⟨s, h1, h2⟩ => hI s (by omega) h2⟩⟩
  · obtain ⟨z1, z2⟩ := hZ k (by omega)
    have em : min (qs (o + k)) 4 = n := by omega
    have no : ¬ (min (q1 k) 7 = a1 ∧ HSA gl n Dz (Z k)) → (k + 1 ≤ gc ∧ ∀ s, s < k + 1 → ¬ (min (q1 s) 7 = a1 ∧ HSA gl n Dz (Z s))) := fun h => ⟨by omega, fun s hs => by
      by_cases e : s = k
      · rw [e]; exact h
      · exact hI s (by omega)⟩
    by_cases c : min (q1 k) 7 = a1
    · by_cases cl : gl = 0
      · rcases equalTo_16 (l := gl) cl hz z2 with ⟨e, h⟩ | ⟨e, h⟩
        · exact Or.inr ⟨1, by simp only [sp_E_1_isKnown_16_L1, slet, if_neg ce, if_pos c, if_pos cl, em, e, if_neg (show ¬ (1 : Nat) = 0 by omega)], Or.inl ⟨rfl, k, by omega, c, h⟩⟩
        · exact Or.inl ⟨k + 1, by simp only [sp_E_1_isKnown_16_L1, slet, if_neg ce, if_pos c, if_pos cl, em, e, if_pos], no (fun z => h z.2), by show gc - (k + 1) < gc - k; omega⟩
      · rcases holdsAll_16 (l := gl) cl hz z2 with ⟨e, h⟩ | ⟨e, h⟩
        · exact Or.inr ⟨1, by simp only [sp_E_1_isKnown_16_L1, slet, if_neg ce, if_pos c, if_neg cl, em, e, if_neg (show ¬ (1 : Nat) = 0 by omega)], Or.inl ⟨rfl, k, by omega, c, h⟩⟩
        · exact Or.inl ⟨k + 1, by simp only [sp_E_1_isKnown_16_L1, slet, if_neg ce, if_pos c, if_neg cl, em, e, if_pos], no (fun z => h z.2), by show gc - (k + 1) < gc - k; omega⟩
    · exact Or.inl ⟨k + 1, by simp only [sp_E_1_isKnown_16_L1, slet, if_neg ce, if_neg c], no (fun z => c z.1), by show gc - (k + 1) < gc - k; omega⟩
theorem copyOf_25 {n : Nat} {fo fz : Nat → Int32} {D : Nat → Nat → Option Int} (h : ZC n fo D) : ZC n (sp_E_7_copyOf_25 n fo fz) D := by
  have H : ∀ x, x < n * n → sp_E_7_copyOf_25 n fo fz x = fo x := by
    refine itrv_inv (d := default) (f := sp_E_7_copyOf_25_L1 n fo) (fun t => ∃ g k, t = (g, k) ∧ k ≤ n * n ∧ ∀ x, x < k → g x = fo x) (fun r => ∀ x, x < n * n → r x = fo x) (fun t => n * n - t.2) ?_ (n * n) (fz, 0) (Nat.sub_le _ _) ⟨fz, 0, rfl, Nat.zero_le _, fun x hx => absurd hx (Nat.not_lt_zero x)⟩
    rintro _ ⟨g, k, rfl, hk, hg⟩
    by_cases ce : n * n ≤ k
    · exact Or.inr ⟨g, by simp only [sp_E_7_copyOf_25_L1, if_pos ce], fun x hx => hg x (by omega)⟩
    · refine Or.inl ⟨(upd g k (fo k), k + 1), by simp only [sp_E_7_copyOf_25_L1, slet, if_neg ce], ⟨_, k + 1, rfl, by omega, fun x hx => ?_⟩, by show n * n - (k + 1) < n * n - k; omega⟩
      by_cases c : x = k
      · rw [c, upd_s]
      · rw [upd_n c]; exact hg x (by omega)
  intro i j hi hj
  rw [H _ (ixlt hi hj)]
  exact h i j hi hj
theorem equalTo_25 {n l : Nat} (hl : l = 0) {fo fz : Nat → Int32} {Dz Ds : Nat → Nat → Option Int} (hz : ZC n fo Dz) (hs : ZC n fz Ds) : (sp_E_7_equalTo_25 fo n fz = 1 ∧ HSA l n Dz Ds) ∨ (sp_E_7_equalTo_25 fo n fz = 0 ∧ ¬ HSA l n Dz Ds) := by
  have key : ∀ i j, i < n → j < n → (fo (i * n + j) = fz (i * n + j) ↔ HSP l (Dz i j) (Ds i j)) := by
    intro i j hi hj
    unfold HSP
    rw [if_pos hl]
    exact ((hz i j hi hj).eq_iff (hs i j hi hj)).trans ⟨Eq.symm, Eq.symm⟩
  refine itrv_inv (d := default) (f := sp_E_7_equalTo_25_L1 fo n fz) (fun k => k ≤ n * n ∧ ∀ x, x < k → fo x = fz x) (fun r => (r = 1 ∧ HSA l n Dz Ds) ∨ (r = 0 ∧ ¬ HSA l n Dz Ds)) (fun k => n * n - k) ?_ (n * n) 0 (Nat.sub_le _ _) ⟨Nat.zero_le _, fun x hx => absurd hx (Nat.not_lt_zero x)⟩
  rintro k ⟨hk, hI⟩
  by_cases ce : n * n ≤ k
  · exact Or.inr ⟨1, by simp only [sp_E_7_equalTo_25_L1, if_pos ce], Or.inl ⟨rfl, fun i j hi hj => (key i j hi hj).mp (hI _ (by have := ixlt hi hj; omega))⟩⟩
  · by_cases c : fo k = fz k
    · refine Or.inl ⟨k + 1, by simp only [sp_E_7_equalTo_25_L1, slet, if_neg ce, if_pos c], ⟨by omega, fun x hx => ?_⟩, by show n * n - (k + 1) < n * n - k; omega⟩
      by_cases e : x = k
      · rw [e]; exact c
      · exact hI x (by omega)
    · obtain ⟨i, j, hi, hj, e⟩ := ixof (show k < n * n by omega)
      exact Or.inr ⟨0, by simp only [sp_E_7_equalTo_25_L1, slet, if_neg ce, if_neg c], Or.inr ⟨rfl, fun z => c (by rw [e]; exact (key i j hi hj).mpr (z i j hi hj))⟩⟩
theorem holdsAll_25 {n l : Nat} (hl : ¬ l = 0) {fo fz : Nat → Int32} {Dz Ds : Nat → Nat → Option Int} (hz : ZC n fo Dz) (hs : ZC n fz Ds) : (sp_E_7_holdsAll_25 fo n fz = 1 ∧ HSA l n Dz Ds) ∨ (sp_E_7_holdsAll_25 fo n fz = 0 ∧ ¬ HSA l n Dz Ds) := by
  have key : ∀ i j, i < n → j < n → (fo (i * n + j) ≤ fz (i * n + j) ↔ HSP l (Dz i j) (Ds i j)) := by
    intro i j hi hj
    unfold HSP
    rw [if_neg hl]
    exact (hz i j hi hj).le (hs i j hi hj)
  refine itrv_inv (d := default) (f := sp_E_7_holdsAll_25_L1 fo n fz) (fun k => k ≤ n * n ∧ ∀ x, x < k → fo x ≤ fz x) (fun r => (r = 1 ∧ HSA l n Dz Ds) ∨ (r = 0 ∧ ¬ HSA l n Dz Ds)) (fun k => n * n - k) ?_ (n * n) 0 (Nat.sub_le _ _) ⟨Nat.zero_le _, fun x hx => absurd hx (Nat.not_lt_zero x)⟩
  rintro k ⟨hk, hI⟩
  by_cases ce : n * n ≤ k
  · exact Or.inr ⟨1, by simp only [sp_E_7_holdsAll_25_L1, if_pos ce], Or.inl ⟨rfl, fun i j hi hj => (key i j hi hj).mp (hI _ (by have := ixlt hi hj; omega))⟩⟩
  · by_cases c : fo k ≤ fz k
    · refine Or.inl ⟨k + 1, by simp only [sp_E_7_holdsAll_25_L1, slet, if_neg ce, if_pos c], ⟨by omega, fun x hx => ?_⟩, by show n * n - (k + 1) < n * n - k; omega⟩
      by_cases e : x = k
      · rw [e]; exact c
      · exact hI x (by omega)
    · obtain ⟨i, j, hi, hj, e⟩ := ixof (show k < n * n by omega)
      exact Or.inr ⟨0, by simp only [sp_E_7_holdsAll_25_L1, slet, if_neg ce, if_neg c], Or.inr ⟨rfl, fun z => c (by rw [e]; exact (key i j hi hj).mpr (z i j hi hj))⟩⟩
theorem isKnown_25 {n gc gl o kk a1 : Nat} (hn4 : n ≤ 5) {q1 qs : Nat → Nat} {fz : Nat → Nat → Int32} {Z : Nat → Nat → Nat → Option Int} {Dz : Nat → Nat → Option Int} (hZ : ∀ s, s < gc → qs (o + s) = n ∧ ZC n (fz (o + s)) (Z s)) (hz : ZC n (fz kk) Dz) : (sp_E_1_isKnown_25 gc gl q1 o qs fz kk a1 = 1 ∧ KNW gl n a1 gc q1 Z Dz) ∨ (sp_E_1_isKnown_25 gc gl q1 o qs fz kk a1 = 0 ∧ ¬ KNW gl n a1 gc q1 Z Dz) := by
  refine itrv_inv (d := default) (f := sp_E_1_isKnown_25_L1 gc gl q1 o qs fz kk a1) (fun k => k ≤ gc ∧ ∀ s, s < k → ¬ (min (q1 s) 7 = a1 ∧ HSA gl n Dz (Z s))) (fun r => (r = 1 ∧ KNW gl n a1 gc q1 Z Dz) ∨ (r = 0 ∧ ¬ KNW gl n a1 gc q1 Z Dz)) (fun k => gc - k) ?_ gc 0 (Nat.sub_le _ _) ⟨Nat.zero_le _, fun x hx => absurd hx (Nat.not_lt_zero x)⟩
  rintro k ⟨hk, hI⟩
  by_cases ce : gc ≤ k
  · exact Or.inr ⟨0, by simp only [sp_E_1_isKnown_25_L1, if_pos ce], Or.inr ⟨rfl, fun ⟨s, h1, h2⟩ => hI s (by omega) h2⟩⟩
  · obtain ⟨z1, z2⟩ := hZ k (by omega)
    have em : min (qs (o + k)) 5 = n := by omega
    have no : ¬ (min (q1 k) 7 = a1 ∧ HSA gl n Dz (Z k)) → (k + 1 ≤ gc ∧ ∀ s, s < k + 1 → ¬ (min (q1 s) 7 = a1 ∧ HSA gl n Dz (Z s))) := fun h => ⟨by omega, fun s hs => by
      by_cases e : s = k
      · rw [e]; exact h
      · exact hI s (by omega)⟩
    by_cases c : min (q1 k) 7 = a1
    · by_cases cl : gl = 0
      · rcases equalTo_25 (l := gl) cl hz z2 with ⟨e, h⟩ | ⟨e, h⟩
        · exact Or.inr ⟨1, by simp only [sp_E_1_isKnown_25_L1, slet, if_neg ce, if_pos c, if_pos cl, em, e, if_neg (show ¬ (1 : Nat) = 0 by omega)], Or.inl ⟨rfl, k, by omega, c, h⟩⟩
        · exact Or.inl ⟨k + 1, by simp only [sp_E_1_isKnown_25_L1, slet, if_neg ce, if_pos c, if_pos cl, em, e, if_pos], no (fun z => h z.2), by show gc - (k + 1) < gc - k; omega⟩
      · rcases holdsAll_25 (l := gl) cl hz z2 with ⟨e, h⟩ | ⟨e, h⟩
        · exact Or.inr ⟨1, by simp only [sp_E_1_isKnown_25_L1, slet, if_neg ce, if_pos c, if_neg cl, em, e, if_neg (show ¬ (1 : Nat) = 0 by omega)], Or.inl ⟨rfl, k, by omega, c, h⟩⟩
        · exact Or.inl ⟨k + 1, by simp only [sp_E_1_isKnown_25_L1, slet, if_neg ce, if_pos c, if_neg cl, em, e, if_pos], no (fun z => h z.2), by show gc - (k + 1) < gc - k; omega⟩
    · exact Or.inl ⟨k + 1, by simp only [sp_E_1_isKnown_25_L1, slet, if_neg ce, if_neg c], no (fun z => c z.1), by show gc - (k + 1) < gc - k; omega⟩
