/-- an edge's line -/
theorem lE_0 {f fw : Nat → Int32} (hw : ∀ i, i < 8 → fw i = WW i) (hf : ∀ i, f i ≠ -1) {len : Nat} (hl : len ≤ 900) {nc np ne : Nat} {st0 : Int32} {fcn fpn f4 : Nat → Int32} {q5 q6 : Nat → Nat} {f7 : Nat → Int32} {q8 q9 : Nat → Nat} {f10 f11 f12 f13 f1 f2 f3 : Nat → Int32} {r4 r5 r6 r7 : Nat → Nat} {f8 : Nat → Int32} {r9 r10 : Nat → Nat} {r11 : Nat → Int32} {m12 m13 m14 m15 : Nat}
    (hM : MR_0 nc np ne st0 fcn fpn f4 q5 q6 f7 q8 q9 f10 f11 f1 f2 f3 r4 r5 r6 r7 f8 r9 r10 r11 m12 m13 m14 m15) {fa fat x27 vl tka va at_ : Int32} {G pos be tok : Nat} (ht : TS len G pos 13 vl tka be tok va at_) :
    ∃ u q8' q9' f10' f11' f12' f13' q5' q6' f7' fa' fat' p k v a ne', sp_E_4_readsEdge fa fat len pos 13 vl tka f fw fcn fpn nc np ne q5 q6 f7 q8 q9 f10 f11 f12 f13 = (u, q8', q9', f10', f11', f12', f13', q5', q6', f7', fa', fat', p, k, v, a, ne') ∧ ∃ f1' r10' r11' f2' f3' r4' r5' r6' r7' f8' r9' m12' m13' m14' m15' at' be' tok' va' w wa, sp_EM_readLine_0 len at_ be tok va 0 x27 f1 f2 f3 r4 r5 r6 r7 f8 r9 r10 r11 m12 m13 m14 m15 f = (f1', r10', r11', f2', f3', r4', r5', r6', r7', f8', r9', m12', m13', m14', m15', at', be', tok', va', w, wa) ∧
      ((u = 0 ∧ w ≠ 0 ∧ fa' = nI w ∧ fat' = wa) ∨ (u = 1 ∧ fa' = fa ∧ fat' = fat ∧ w = 0 ∧ wa = x27 ∧ MR_0 nc np ne' st0 fcn fpn f4 q5' q6' f7' q8' q9' f10' f11' f1' f2' f3' r4' r5' r6' r7' f8' r9' r10' r11' m12' m13' m14' m15' ∧ ∃ g, TS len g p k v a be' tok' va' at' ∧ pos ≤ g)) := by
  obtain ⟨⟨rfl, hc3, rfl, hp8, rfl, he14⟩, hst, hcn, hpn, h4a, h4b, h4c, h4d, h4e, h4f⟩ := hM
  obtain ⟨u2, u4, u6, u8⟩ := lw4_0 ht.tok
  rw [if_neg (by decide)] at u2 u4 u6
  rw [if_pos rfl] at u8
  obtain ⟨rfl, rfl, hx⟩ := id ht
  by_cases h14 : m14 = 14
  · subst h14
    have hC : sp_E_4_readsEdge fa fat len be 13 vl at_ f fw fcn fpn m12 m13 14 q5 q6 f7 q8 q9 f10 f11 f12 f13 = (0, q8, q9, f10, f11, f12, f13, q5, q6, f7, 5, at_, be, 13, vl, at_, 14) := by
      simp only [sp_E_4_readsEdge, slet, sp_E_4_refuse, Nat.lt_irrefl, reduceIte]
    have hL : sp_EM_readLine_0 len at_ be tok va 0 x27 f1 f2 f3 r4 r5 r6 r7 f8 r9 r10 r11 m12 m13 14 m15 f = (f1, r10, r11, f2, f3, r4, r5, r6, r7, f8, r9, m12, m13, 14, m15, at_, be, tok, va, 5, at_) := by
      simp only [sp_EM_readLine_0, slet, u2, u4, u6, u8, Nat.one_ne_zero, reduceIte, fails_eq ht.tok, good_n (fk_0 (k := 13) (kind := 5) (by decide))]
      rfl
    exact ⟨_, _, _, _, _, _, _, _, _, _, _, _, _, _, _, _, _, hC, _, _, _, _, _, _, _, _, _, _, _, _, _, _, _, _, _, _, _, _, _, hL, Or.inl ⟨rfl, by decide, rfl, rfl⟩⟩
  have hlt : m14 < 14 := by omega
  obtain ⟨⟨p1, k1, v1, a1⟩, h1⟩ : ∃ x, sp_E_4_advance len be vl f fw = x := ⟨_, rfl⟩
  obtain ⟨t1, w1, g1, n1, s1, l1⟩ := adv_ex hw hf hl ht.le h1
  obtain ⟨⟨y10, y11, y5, y6, y7, y8, y9, y14, y20, y21, y22, y23, y26, y27⟩, e3⟩ : ∃ x, sp_EM_readEdge_0 len a1 p1 t1 w1 0 x27 f1 f2 r5 r6 r7 f8 r9 r10 r11 m12 m13 m14 f = x := ⟨_, rfl⟩
  have hL : sp_EM_readLine_0 len at_ be tok va 0 x27 f1 f2 f3 r4 r5 r6 r7 f8 r9 r10 r11 m12 m13 m14 m15 f = (f1, y10, y11, f2, f3, r4, y5, y6, y7, y8, y9, m12, m13, y14, m15, y20, y21, y22, y23, y26, y27) := by
    simp only [sp_EM_readLine_0, slet, u2, u4, u6, u8, Nat.one_ne_zero, reduceIte, if_neg h14, good_0, n1, e3]
  obtain ⟨⟨ua, fa1, fat1⟩, h2⟩ : ∃ x, sp_E_4_toldName_p fa fat k1 v1 a1 fpn m13 = x := ⟨_, rfl⟩
  obtain ⟨⟨c, at1, be1, tok1, va1, w, wa⟩, e2⟩ : ∃ x, sp_EM_toldPlace_0 len a1 p1 t1 w1 0 x27 f2 m13 f = x := ⟨_, rfl⟩
  rcases tp_0 s1.tok hpn h2 e2 with ⟨rfl, b1, b2, b3⟩ | ⟨rfl, hc, rfl, rfl, rfl, rfl, b4⟩
  · have hC : sp_E_4_readsEdge fa fat len be 13 vl at_ f fw fcn fpn m12 m13 m14 q5 q6 f7 q8 q9 f10 f11 f12 f13 = (0, q8, q9, f10, f11, f12, f13, q5, q6, f7, fa1, fat1, p1, k1, v1, a1, m14) := by
      simp only [sp_E_4_readsEdge, slet, if_pos hlt, h1, h2, reduceIte]
    have e4 : sp_EM_readEdge_0 len a1 p1 t1 w1 0 x27 f1 f2 r5 r6 r7 f8 r9 r10 r11 m12 m13 m14 f = (r10, r11, updN r5 (0 + m14) c, updN r6 (0 + m14) 0, updN r7 (0 + m14) 0, upd f8 (0 + m14) 0, r9, m14 + 1, at1, be1, tok1, va1, w, wa) := by
      simp only [sp_EM_readEdge_0, slet, e2, good_n b1, reduceIte, l3_out_0 b1]
    rw [e3] at e4
    simp only [Prod.mk.injEq] at e4
    obtain ⟨rfl, rfl, rfl, rfl, rfl, rfl, rfl, rfl, rfl, rfl, rfl, rfl, rfl, rfl⟩ := e4
    exact ⟨_, _, _, _, _, _, _, _, _, _, _, _, _, _, _, _, _, hC, _, _, _, _, _, _, _, _, _, _, _, _, _, _, _, _, _, _, _, _, _, hL, Or.inl ⟨rfl, b1, b2, b3⟩⟩
  obtain ⟨⟨p2, k2, v2, a2⟩, h5⟩ : ∃ x, sp_E_4_advance len p1 v1 f fw = x := ⟨_, rfl⟩
  obtain ⟨t2, w2, g2, n2, s2, l2⟩ := adv_ex hw hf hl s1.le h5
  rw [n2] at b4
  simp only [Prod.mk.injEq] at b4
  obtain ⟨rfl, rfl, rfl, rfl⟩ := b4
  obtain ⟨⟨ub, fa2, fat2⟩, h6⟩ : ∃ x, sp_E_4_toldName_p fa1 fat1 k2 v2 a2 fpn m13 = x := ⟨_, rfl⟩
  obtain ⟨⟨d, at3, be3, tok3, va3, w', wa'⟩, e6⟩ : ∃ x, sp_EM_toldPlace_0 len a2 p2 t2 w2 0 wa f2 m13 f = x := ⟨_, rfl⟩
  rcases tp_0 s2.tok hpn h6 e6 with ⟨rfl, b1, b2, b3⟩ | ⟨rfl, hd, rfl, rfl, rfl, rfl, b4⟩
  · have hC : sp_E_4_readsEdge fa1 fat1 len be 13 vl at_ f fw fcn fpn m12 m13 m14 q5 q6 f7 q8 q9 f10 f11 f12 f13 = (0, q8, q9, f10, f11, f12, f13, q5, q6, f7, fa2, fat2, p2, k2, v2, a2, m14) := by
      simp only [sp_E_4_readsEdge, slet, if_pos hlt, h1, h2, reduceIte, Nat.add_one_ne_zero, h5, h6]
    have e4 : sp_EM_readEdge_0 len a1 p1 t1 w1 0 wa f1 f2 r5 r6 r7 f8 r9 r10 r11 m12 m13 m14 f = (r10, r11, updN r5 (0 + m14) c, updN r6 (0 + m14) d, updN r7 (0 + m14) 0, upd f8 (0 + m14) 0, r9, m14 + 1, at3, be3, tok3, va3, w', wa') := by
      simp only [sp_EM_readEdge_0, slet, e2, good_0, Nat.one_ne_zero, reduceIte, e6, l3_out_0 b1]
    rw [e3] at e4
    simp only [Prod.mk.injEq] at e4
    obtain ⟨rfl, rfl, rfl, rfl, rfl, rfl, rfl, rfl, rfl, rfl, rfl, rfl, rfl, rfl⟩ := e4
    exact ⟨_, _, _, _, _, _, _, _, _, _, _, _, _, _, _, _, _, hC, _, _, _, _, _, _, _, _, _, _, _, _, _, _, _, _, _, _, _, _, _, hL, Or.inl ⟨rfl, b1, b2, b3⟩⟩
  obtain ⟨⟨p3, k3, v3, a3⟩, h7⟩ : ∃ x, sp_E_4_advance len p2 v2 f fw = x := ⟨_, rfl⟩
  obtain ⟨t3, w3, g3, n3, s3, l3⟩ := adv_ex hw hf hl s2.le h7
  rw [n3] at b4
  simp only [Prod.mk.injEq] at b4
  obtain ⟨rfl, rfl, rfl, rfl⟩ := b4
  have e4 : sp_EM_readEdge_0 len a1 p1 t1 w1 0 wa' f1 f2 r5 r6 r7 f8 r9 r10 r11 m12 m13 m14 f = itrv default (sp_EM_readEdge_0_L3 len f1 m12 m14 f (updN r5 (0 + m14) c) (updN r6 (0 + m14) d) (upd f8 (0 + m14) 0)) (r10, r11, updN r7 (0 + m14) 0, r9, a3, p3, t3, w3, 0, wa') := by
    simp only [sp_EM_readEdge_0, slet, e2, good_0, Nat.one_ne_zero, reduceIte, e6]
  rw [e3] at e4
  obtain ⟨u, x8, x9, x10, x11, x12, x13, fa', fat', p, k, v, a, hA, hR⟩ := cs14_0 hw hf hl hc3 hcn fa2 fat2 wa' g3 (updN r5 (0 + m14) c) (updN r6 (0 + m14) d) (upd f8 (0 + m14) 0) q8 q9 f10 f11 f12 f13 (updN r7 (0 + m14) 0) r9 r10 r11 (h4c m14 (Nat.le_refl _) hlt) updN_s s3
  rcases hR with ⟨rfl, o10, o11, o7, o8, o9, oe, at', be', tok', va', w'', wa'', hX, c1, c2, c3⟩ | ⟨rfl, rfl, rfl, hk14, cnt, o10, o11, o7, o9, at', be', tok', va', g', hcnt, hX, c1, c2, c3, c4, c5, c6, c7, c8, c9, c10, c11, c12, c13⟩
  · have hC : sp_E_4_readsEdge fa2 fat2 len be 13 vl at_ f fw fcn fpn m12 m13 m14 q5 q6 f7 q8 q9 f10 f11 f12 f13 = (0, x8, x9, x10, x11, x12, x13, updN q5 m14 c, updN q6 m14 d, upd f7 m14 0, fa', fat', p, k, v, a, m14 + 1) := by
      simp only [sp_E_4_readsEdge, slet, if_pos hlt, h1, h2, reduceIte, Nat.add_one_ne_zero, h5, h6, h7, sp_E_0_addEdge, Nat.add_sub_cancel, hA]
    rw [hX] at e4
    simp only [Prod.mk.injEq] at e4
    obtain ⟨rfl, rfl, rfl, rfl, rfl, rfl, rfl, rfl, rfl, rfl, rfl, rfl, rfl, rfl⟩ := e4
    exact ⟨_, _, _, _, _, _, _, _, _, _, _, _, _, _, _, _, _, hC, _, _, _, _, _, _, _, _, _, _, _, _, _, _, _, _, _, _, _, _, _, hL, Or.inl ⟨rfl, c1, c2, c3⟩⟩
  obtain ⟨u', z7, fb', fbt', p', k', v', a', hA2, hR2⟩ := rs_0 hw hf hl hc3 hcn fa' fat' wa' g' (upd f7 m14 0) (upd f8 (0 + m14) 0) (ne := m14) upd_s upd_s c1
  rw [hX] at e4
  rcases hR2 with ⟨rfl, at5, be5, tok5, va5, w5, wa5, z8, hY, d1, d2, d3⟩ | ⟨rfl, rfl, rfl, hk15, at5, be5, tok5, va5, z8, g5, hY, d1, d2, d3, d4, d5⟩
  · have hC : sp_E_4_readsEdge fa' fat' len be 13 vl at_ f fw fcn fpn m12 m13 m14 q5 q6 f7 q8 q9 f10 f11 f12 f13 = (0, x8, x9, x10, x11, x12, x13, updN q5 m14 c, updN q6 m14 d, z7, fb', fbt', p', k', v', a', m14 + 1) := by
      simp only [sp_E_4_readsEdge, slet, if_pos hlt, h1, h2, reduceIte, Nat.add_one_ne_zero, h5, h6, h7, sp_E_0_addEdge, Nat.add_sub_cancel, hA, Nat.one_ne_zero, hA2]
    unfold restE_0 at e4
    rw [hY] at e4
    simp only [Prod.mk.injEq] at e4
    obtain ⟨rfl, rfl, rfl, rfl, rfl, rfl, rfl, rfl, rfl, rfl, rfl, rfl, rfl, rfl⟩ := e4
    exact ⟨_, _, _, _, _, _, _, _, _, _, _, _, _, _, _, _, _, hC, _, _, _, _, _, _, _, _, _, _, _, _, _, _, _, _, _, _, _, _, _, hL, Or.inl ⟨rfl, d1, d2, d3⟩⟩
  have hC : sp_E_4_readsEdge fb' fbt' len be 13 vl at_ f fw fcn fpn m12 m13 m14 q5 q6 f7 q8 q9 f10 f11 f12 f13 = (1, x8, x9, x10, x11, x12, x13, updN q5 m14 c, updN q6 m14 d, z7, fb', fbt', p', k', v', a', m14 + 1) := by
    simp only [sp_E_4_readsEdge, slet, if_pos hlt, h1, h2, reduceIte, Nat.add_one_ne_zero, h5, h6, h7, sp_E_0_addEdge, Nat.add_sub_cancel, hA, Nat.one_ne_zero, hA2]
  unfold restE_0 at e4
  rw [hY] at e4
  simp only [Prod.mk.injEq] at e4
  obtain ⟨rfl, rfl, rfl, rfl, rfl, rfl, rfl, rfl, rfl, rfl, rfl, rfl, rfl, rfl⟩ := e4
  refine ⟨_, _, _, _, _, _, _, _, _, _, _, _, _, _, _, _, _, hC, _, _, _, _, _, _, _, _, _, _, _, _, _, _, _, _, _, _, _, _, _, hL, Or.inr ⟨rfl, rfl, rfl, rfl, rfl, ⟨⟨rfl, hc3, rfl, hp8, rfl, by omega⟩, hst, hcn, hpn, h4a, ?_, ?_, ?_, ?_, ?_⟩, g5, d1, by have := s1.gle; have := s2.gle; have := s3.gle; omega⟩⟩
  · intro i hi1 hi2
    obtain ⟨d1, d2⟩ := h4b i hi1 hi2
    exact ⟨d1, by rw [c5 (14 + i) (by omega)]; exact d2⟩
  · intro i hi1 hi2
    have hi1 : m14 + 1 ≤ i := hi1
    rw [c5 i (by omega)]; exact h4c i (by omega) hi2
  · intro i hi
    obtain ⟨d1, d2, d3⟩ := h4d i hi
    rw [c5 (14 + i) (by omega)]
    exact ⟨d1, d2, fun j hj => by rw [c8 _ (by omega), c11 _ (by omega), c9 _ (by omega), c12 _ (by omega), c10 _ (by omega), c13 _ (by omega)]; exact d3 j hj⟩
  · intro i hi
    have hi : i < m14 + 1 := hi
    by_cases e : i = m14
    · subst e
      rw [c3, c4]
      exact ⟨rfl, hcnt, c7⟩
    · obtain ⟨d1, d2, d3⟩ := h4e i (by omega)
      rw [c5 i (by omega), c6 (0 + i) (by omega), updN_n (by omega)]
      exact ⟨d1, d2, fun j hj => by rw [c8 _ (by omega), c11 _ (by omega), c9 _ (by omega), c12 _ (by omega), c10 _ (by omega), c13 _ (by omega)]; exact d3 j hj⟩
  · intro i hi
    have hi : i < m14 + 1 := hi
    by_cases e : i = m14
    · subst e
      rw [updN_s, updN_s, updN_s, updN_s]
      exact ⟨rfl, hc, rfl, hd, d3⟩
    · have e' : 0 + i ≠ 0 + m14 := by omega
      rw [updN_n e, updN_n e', updN_n e, updN_n e', d4 i (by omega), d5 (0 + i) (by omega), upd_n e, upd_n e']
      exact h4f i (by omega)
