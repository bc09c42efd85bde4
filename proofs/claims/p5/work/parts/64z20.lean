/-- the start's line -/
theorem lS_0 {f fw : Nat → Int32} (hw : ∀ i, i < 8 → fw i = WW i) (hf : ∀ i, f i ≠ -1) {len : Nat} (hl : len ≤ 900) {nc np ne : Nat} {st0 : Int32} {fcn fpn f4 : Nat → Int32} {q5 q6 : Nat → Nat} {f7 : Nat → Int32} {q8 q9 : Nat → Nat} {f10 f11 f1 f2 f3 : Nat → Int32} {r4 r5 r6 r7 : Nat → Nat} {f8 : Nat → Int32} {r9 r10 : Nat → Nat} {r11 : Nat → Int32} {m12 m13 m14 m15 : Nat}
    (hM : MR_0 nc np ne st0 fcn fpn f4 q5 q6 f7 q8 q9 f10 f11 f1 f2 f3 r4 r5 r6 r7 f8 r9 r10 r11 m12 m13 m14 m15) {fa fat x27 vl tka va at_ : Int32} {G pos be tok : Nat} (ht : TS len G pos 12 vl tka be tok va at_) :
    ∃ u fa' fat' p k v a st0', sp_E_4_readsStart fa fat len pos 12 vl tka f fw fpn np st0 = (u, fa', fat', p, k, v, a, st0') ∧ ∃ f1' r10' r11' f2' f3' r4' r5' r6' r7' f8' r9' m12' m13' m14' m15' at' be' tok' va' w wa, sp_EM_readLine_0 len at_ be tok va 0 x27 f1 f2 f3 r4 r5 r6 r7 f8 r9 r10 r11 m12 m13 m14 m15 f = (f1', r10', r11', f2', f3', r4', r5', r6', r7', f8', r9', m12', m13', m14', m15', at', be', tok', va', w, wa) ∧
      ((u = 0 ∧ w ≠ 0 ∧ fa' = nI w ∧ fat' = wa) ∨ (u = 1 ∧ fa' = fa ∧ fat' = fat ∧ w = 0 ∧ wa = x27 ∧ MR_0 nc np ne st0' fcn fpn f4 q5 q6 f7 q8 q9 f10 f11 f1' f2' f3' r4' r5' r6' r7' f8' r9' r10' r11' m12' m13' m14' m15' ∧ ∃ g, TS len g p k v a be' tok' va' at' ∧ pos ≤ g)) := by
  obtain ⟨⟨rfl, hc3, rfl, hp8, rfl, he14⟩, hst, hcn, hpn, h4⟩ := hM
  obtain ⟨u2, u4, u6, u8⟩ := lw4_0 ht.tok
  rw [if_neg (by decide)] at u2 u4 u8
  rw [if_pos rfl] at u6
  obtain ⟨rfl, rfl, hx⟩ := id ht
  rcases hst with ⟨rfl, rfl⟩ | ⟨s, hs, rfl, rfl⟩
  · obtain ⟨⟨p1, k1, v1, a1⟩, h1⟩ : ∃ x, sp_E_4_advance len be vl f fw = x := ⟨_, rfl⟩
    obtain ⟨t1, w1, g1, n1, s1, l1⟩ := adv_ex hw hf hl ht.le h1
    obtain ⟨⟨u, fa1, fat1⟩, h2⟩ : ∃ x, sp_E_4_toldName_p fa fat k1 v1 a1 fpn m13 = x := ⟨_, rfl⟩
    obtain ⟨⟨c, at1, be1, tok1, va1, w, wa⟩, e2⟩ : ∃ x, sp_EM_toldPlace_0 len a1 p1 t1 w1 0 x27 f2 m13 f = x := ⟨_, rfl⟩
    have hL : sp_EM_readLine_0 len at_ be tok va 0 x27 f1 f2 f3 r4 r5 r6 r7 f8 r9 r10 r11 m12 m13 m14 0 f = (f1, r10, r11, f2, f3, r4, r5, r6, r7, f8, r9, m12, m13, m14, c + 1, at1, be1, tok1, va1, w, wa) := by
      simp only [sp_EM_readLine_0, slet, u2, u4, u6, u8, Nat.one_ne_zero, reduceIte, good_0, n1, e2]
    rcases tp_0 s1.tok hpn h2 e2 with ⟨rfl, b1, b2, b3⟩ | ⟨rfl, hc, rfl, rfl, rfl, rfl, b4⟩
    · have hC : sp_E_4_readsStart fa fat len be 12 vl at_ f fw fpn m13 (-1) = (0, fa1, fat1, p1, k1, v1, a1, -1) := by
        simp only [sp_E_4_readsStart, slet, h1, h2, reduceIte]
      exact ⟨_, _, _, _, _, _, _, _, hC, _, _, _, _, _, _, _, _, _, _, _, _, _, _, _, _, _, _, _, _, _, hL, Or.inl ⟨rfl, b1, b2, b3⟩⟩
    · obtain ⟨⟨p2, k2, v2, a2⟩, h5⟩ : ∃ x, sp_E_4_advance len p1 v1 f fw = x := ⟨_, rfl⟩
      obtain ⟨t2, w2, g2, n2, s2, l2⟩ := adv_ex hw hf hl s1.le h5
      rw [n2] at b4
      simp only [Prod.mk.injEq] at b4
      obtain ⟨rfl, rfl, rfl, rfl⟩ := b4
      have hC : sp_E_4_readsStart fa1 fat1 len be 12 vl at_ f fw fpn m13 (-1) = (1, fa1, fat1, p2, k2, v2, a2, nI c) := by
        simp only [sp_E_4_readsStart, slet, h1, h2, reduceIte, Nat.add_one_ne_zero, h5, Nat.add_sub_cancel]
      exact ⟨_, _, _, _, _, _, _, _, hC, _, _, _, _, _, _, _, _, _, _, _, _, _, _, _, _, _, _, _, _, _, hL, Or.inr ⟨rfl, rfl, rfl, rfl, rfl, ⟨⟨rfl, hc3, rfl, hp8, rfl, he14⟩, Or.inr ⟨c, hc, rfl, rfl⟩, hcn, hpn, h4⟩, g2, s2, by have := s1.gle; omega⟩⟩
  · have hn1 : ¬ (nI s : Int32) = -1 := pu_nneg (n := s) (k := -1) (by omega) (by decide)
    have hC : sp_E_4_readsStart fa fat len be 12 vl at_ f fw fpn m13 (nI s) = (0, 5, at_, be, 12, vl, at_, nI s) := by
      simp only [sp_E_4_readsStart, slet, if_neg hn1, sp_E_4_refuse]
    have hL : sp_EM_readLine_0 len at_ be tok va 0 x27 f1 f2 f3 r4 r5 r6 r7 f8 r9 r10 r11 m12 m13 m14 (s + 1) f = (f1, r10, r11, f2, f3, r4, r5, r6, r7, f8, r9, m12, m13, m14, s + 1, at_, be, tok, va, 5, at_) := by
      simp only [sp_EM_readLine_0, slet, u2, u4, u6, u8, Nat.one_ne_zero, Nat.add_one_ne_zero, reduceIte, fails_eq ht.tok, good_n (fk_0 (k := 12) (kind := 5) (by decide))]
      rfl
    exact ⟨_, _, _, _, _, _, _, _, hC, _, _, _, _, _, _, _, _, _, _, _, _, _, _, _, _, _, _, _, _, _, hL, Or.inl ⟨rfl, by decide, rfl, rfl⟩⟩
/-- a place's line -/
theorem lP_0 {f fw : Nat → Int32} (hw : ∀ i, i < 8 → fw i = WW i) (hf : ∀ i, f i ≠ -1) {len : Nat} (hl : len ≤ 900) {nc np ne : Nat} {st0 : Int32} {fcn fpn f4 : Nat → Int32} {q5 q6 : Nat → Nat} {f7 : Nat → Int32} {q8 q9 : Nat → Nat} {f10 f11 f12 f13 f1 f2 f3 : Nat → Int32} {r4 r5 r6 r7 : Nat → Nat} {f8 : Nat → Int32} {r9 r10 : Nat → Nat} {r11 : Nat → Int32} {m12 m13 m14 m15 : Nat}
    (hM : MR_0 nc np ne st0 fcn fpn f4 q5 q6 f7 q8 q9 f10 f11 f1 f2 f3 r4 r5 r6 r7 f8 r9 r10 r11 m12 m13 m14 m15) {fa fat x27 vl tka va at_ : Int32} {G pos be tok : Nat} (ht : TS len G pos 9 vl tka be tok va at_) :
    ∃ u q8' q9' f10' f11' f12' f13' fpn' f4' fa' fat' p k v a np', sp_E_4_readsPlace fa fat len pos 9 vl tka f fw fcn fpn nc np f4 q8 q9 f10 f11 f12 f13 = (u, q8', q9', f10', f11', f12', f13', fpn', f4', fa', fat', p, k, v, a, np') ∧ ∃ f1' r10' r11' f2' f3' r4' r5' r6' r7' f8' r9' m12' m13' m14' m15' at' be' tok' va' w wa, sp_EM_readLine_0 len at_ be tok va 0 x27 f1 f2 f3 r4 r5 r6 r7 f8 r9 r10 r11 m12 m13 m14 m15 f = (f1', r10', r11', f2', f3', r4', r5', r6', r7', f8', r9', m12', m13', m14', m15', at', be', tok', va', w, wa) ∧
      ((u = 0 ∧ w ≠ 0 ∧ fa' = nI w ∧ fat' = wa) ∨ (u = 1 ∧ fa' = fa ∧ fat' = fat ∧ w = 0 ∧ wa = x27 ∧ MR_0 nc np' ne st0 fcn fpn' f4' q5 q6 f7 q8' q9' f10' f11' f1' f2' f3' r4' r5' r6' r7' f8' r9' r10' r11' m12' m13' m14' m15' ∧ ∃ g, TS len g p k v a be' tok' va' at' ∧ pos ≤ g)) := by
  obtain ⟨⟨rfl, hc3, rfl, hp8, rfl, he14⟩, hst, hcn, hpn, h4a, h4b, h4c, h4d, h4e, h4f⟩ := hM
  obtain ⟨u2, u4, u6, u8⟩ := lw4_0 ht.tok
  rw [if_neg (by decide)] at u2 u6 u8
  rw [if_pos rfl] at u4
  obtain ⟨rfl, rfl, hx⟩ := id ht
  by_cases h8 : m13 = 8
  · subst h8
    have hC : sp_E_4_readsPlace fa fat len be 9 vl at_ f fw fcn fpn m12 8 f4 q8 q9 f10 f11 f12 f13 = (0, q8, q9, f10, f11, f12, f13, fpn, f4, 5, at_, be, 9, vl, at_, 8) := by
      simp only [sp_E_4_readsPlace, slet, sp_E_4_refuse, Nat.lt_irrefl, reduceIte]
    have hL : sp_EM_readLine_0 len at_ be tok va 0 x27 f1 f2 f3 r4 r5 r6 r7 f8 r9 r10 r11 m12 8 m14 m15 f = (f1, r10, r11, f2, f3, r4, r5, r6, r7, f8, r9, m12, 8, m14, m15, at_, be, tok, va, 5, at_) := by
      simp only [sp_EM_readLine_0, slet, u2, u4, u6, u8, Nat.one_ne_zero, reduceIte, fails_eq ht.tok, good_n (fk_0 (k := 9) (kind := 5) (by decide))]
      rfl
    exact ⟨_, _, _, _, _, _, _, _, _, _, _, _, _, _, _, _, hC, _, _, _, _, _, _, _, _, _, _, _, _, _, _, _, _, _, _, _, _, _, hL, Or.inl ⟨rfl, by decide, rfl, rfl⟩⟩
  · obtain ⟨⟨p1, k1, v1, a1⟩, h1⟩ : ∃ x, sp_E_4_advance len be vl f fw = x := ⟨_, rfl⟩
    obtain ⟨t1, w1, g1, n1, s1, l1⟩ := adv_ex hw hf hl ht.le h1
    obtain ⟨⟨u, fa1, fat1⟩, h2⟩ : ∃ x, sp_E_4_isNewName fa fat k1 v1 a1 fcn fpn m12 m13 = x := ⟨_, rfl⟩
    obtain ⟨⟨its, at1, be1, tok1, va1, w, wa⟩, e2⟩ : ∃ x, sp_EM_freshName_0 len a1 p1 t1 w1 0 x27 f1 f2 m12 m13 f = x := ⟨_, rfl⟩
    have hlt : m13 < 8 := by omega
    obtain ⟨⟨y10, y11, y2, y3, y4, y9, y13, y20, y21, y22, y23, y26, y27⟩, e3⟩ : ∃ x, sp_EM_readPlace_0 len a1 p1 t1 w1 0 x27 f1 f2 f3 r4 r9 r10 r11 m12 m13 f = x := ⟨_, rfl⟩
    have hL : sp_EM_readLine_0 len at_ be tok va 0 x27 f1 f2 f3 r4 r5 r6 r7 f8 r9 r10 r11 m12 m13 m14 m15 f = (f1, y10, y11, y2, y3, y4, r5, r6, r7, f8, y9, m12, y13, m14, m15, y20, y21, y22, y23, y26, y27) := by
      simp only [sp_EM_readLine_0, slet, u2, u4, u6, u8, Nat.one_ne_zero, reduceIte, if_neg h8, good_0, n1, e3]
    have hq4 : updN r4 (0 + m13) 0 (0 + m13) = 0 := updN_s
    rcases fn_0 s1.tok hcn hpn h2 e2 with ⟨rfl, b1, b2, b3⟩ | ⟨rfl, rfl, rfl, rfl, rfl, e9, b4⟩
    · have hC : sp_E_4_readsPlace fa fat len be 9 vl at_ f fw fcn fpn m12 m13 f4 q8 q9 f10 f11 f12 f13 = (0, q8, q9, f10, f11, f12, f13, fpn, f4, fa1, fat1, p1, k1, v1, a1, m13) := by
        simp only [sp_E_4_readsPlace, slet, if_pos hlt, h1, h2, reduceIte]
      have e4 : sp_EM_readPlace_0 len a1 p1 t1 w1 0 x27 f1 f2 f3 r4 r9 r10 r11 m12 m13 f = (r10, r11, upd f2 (0 + m13) its, upd f3 (0 + m13) 0, updN r4 (0 + m13) 0, r9, m13 + 1, at1, be1, tok1, va1, w, wa) := by
        simp only [sp_EM_readPlace_0, slet, e2, good_n b1, reduceIte, p1_out_0 b1]
      rw [e3] at e4
      simp only [Prod.mk.injEq] at e4
      obtain ⟨rfl, rfl, rfl, rfl, rfl, rfl, rfl, rfl, rfl, rfl, rfl, rfl, rfl⟩ := e4
      exact ⟨_, _, _, _, _, _, _, _, _, _, _, _, _, _, _, _, hC, _, _, _, _, _, _, _, _, _, _, _, _, _, _, _, _, _, _, _, _, _, hL, Or.inl ⟨rfl, b1, b2, b3⟩⟩
    · obtain ⟨⟨p2, k2, v2, a2⟩, h5⟩ : ∃ x, sp_E_4_advance len p1 v1 f fw = x := ⟨_, rfl⟩
      obtain ⟨t2, w2, g2, n2, s2, l2⟩ := adv_ex hw hf hl s1.le h5
      rw [n2] at b4
      simp only [Prod.mk.injEq] at b4
      obtain ⟨rfl, rfl, rfl, rfl⟩ := b4
      rw [e9] at e2
      have hug : sp_EM_isWord t2 w2 723752404 = (if k2 = 10 then 1 else 0) := word_iff s2.tok (i := 2) (by decide)
      -- behind 'urgent', if it stands there
      obtain ⟨p3, k3, v3, a3, t3, w3, g3, ff4, ff3, s3, l3, hf4, hf4', hff, hC', hB'⟩ : ∃ p3 k3 v3 a3 t3 w3 g3 ff4 ff3, TS len g3 p3 k3 v3 a3 p3 t3 w3 a3 ∧ g2 ≤ g3 ∧ ff4 m13 = ff3 (0 + m13) ∧ UN m13 1 ff4 f4 ∧ UN (0 + m13) 1 ff3 f3 ∧
          (∀ {z : Nat × (Nat → Nat) × (Nat → Nat) × (Nat → Int32) × (Nat → Int32) × (Nat → Int32) × (Nat → Int32) × Int32 × Int32 × Nat × Nat × Int32 × Int32}, sp_E_4_readsConditions_11 fa1 fat1 len p3 k3 v3 a3 f fw fcn m12 q8 q9 f10 f11 f12 f13 (14 + m13) = z → sp_E_4_readsPlace fa1 fat1 len be 9 vl at_ f fw fcn fpn m12 m13 f4 q8 q9 f10 f11 f12 f13 = (z.1, z.2.1, z.2.2.1, z.2.2.2.1, z.2.2.2.2.1, z.2.2.2.2.2.1, z.2.2.2.2.2.2.1, upd fpn m13 v1, ff4, z.2.2.2.2.2.2.2.1, z.2.2.2.2.2.2.2.2.1, z.2.2.2.2.2.2.2.2.2.1, z.2.2.2.2.2.2.2.2.2.2.1, z.2.2.2.2.2.2.2.2.2.2.2.1, z.2.2.2.2.2.2.2.2.2.2.2.2, m13 + 1)) ∧
          sp_EM_readPlace_0 len a1 p1 t1 w1 0 wa f1 f2 f3 r4 r9 r10 r11 m12 m13 f = itrv default (sp_EM_readPlace_0_L1 len f1 m12 m13 f (upd f2 (0 + m13) v1) ff3) (r10, r11, updN r4 (0 + m13) 0, r9, a3, p3, t3, w3, 0, wa) := by
        by_cases hk : k2 = 10
        · obtain ⟨⟨p3, k3, v3, a3⟩, h6⟩ : ∃ x, sp_E_4_advance len p2 v2 f fw = x := ⟨_, rfl⟩
          obtain ⟨t3, w3, g3, n3, s3, l3⟩ := adv_ex hw hf hl s2.le h6
          rw [if_pos hk] at hug
          refine ⟨p3, k3, v3, a3, t3, w3, g3, upd f4 m13 (vp_nar .boolean 1), upd (upd f3 (0 + m13) 0) (0 + m13) 1, s3, by have := s2.gle; omega, by rw [upd_s, upd_s]; rfl, UN.rf.up' ⟨by omega, by omega⟩, (UN.rf.up' ⟨by omega, by omega⟩).up' ⟨by omega, by omega⟩, ?_, ?_⟩
          · intro z hz
            simp only [sp_E_4_readsPlace, slet, if_pos hlt, h1, h2, reduceIte, Nat.one_ne_zero, h5, if_pos hk, h6, hz]
          · simp only [sp_EM_readPlace_0, slet, e2, good_0, Nat.one_ne_zero, reduceIte, hug, n3]
        · rw [if_neg hk] at hug
          refine ⟨p2, k2, v2, a2, t2, w2, g2, f4, upd f3 (0 + m13) 0, s2, Nat.le_refl _, by rw [upd_s]; exact (h4b m13 (Nat.le_refl _) hlt).1, UN.rf, UN.rf.up' ⟨by omega, by omega⟩, ?_, ?_⟩
          · intro z hz
            simp only [sp_E_4_readsPlace, slet, if_pos hlt, h1, h2, reduceIte, Nat.one_ne_zero, h5, if_neg hk, hz]
          · simp only [sp_EM_readPlace_0, slet, e2, good_0, Nat.one_ne_zero, reduceIte, hug]
      obtain ⟨u, x8, x9, x10, x11, x12, x13, fa', fat', p, k, v, a, hA, hR⟩ := cs11_0 hw hf hl hc3 hcn fa1 fat1 wa g3 (upd f2 (0 + m13) v1) ff3 q8 q9 f10 f11 f12 f13 (updN r4 (0 + m13) 0) r9 r10 r11 (h4b m13 (Nat.le_refl _) hlt).2 updN_s s3
      have hC := hC' hA
      rw [e3] at hB'
      rcases hR with ⟨rfl, o10, o11, o7, o9, oe, at', be', tok', va', w', wa', hX, c1, c2, c3⟩ | ⟨rfl, rfl, rfl, hk11, cnt, o10, o11, o7, o9, at', be', tok', va', g', hcnt, hX, c1, c2, c3, c4, c5, c6, c7, c8, c9, c10, c11, c12, c13⟩
      · rw [hX] at hB'
        simp only [Prod.mk.injEq] at hB'
        obtain ⟨rfl, rfl, rfl, rfl, rfl, rfl, rfl, rfl, rfl, rfl, rfl, rfl, rfl⟩ := hB'
        exact ⟨_, _, _, _, _, _, _, _, _, _, _, _, _, _, _, _, hC, _, _, _, _, _, _, _, _, _, _, _, _, _, _, _, _, _, _, _, _, _, hL, Or.inl ⟨rfl, c1, c2, c3⟩⟩
      · rw [hX] at hB'
        simp only [Prod.mk.injEq] at hB'
        obtain ⟨rfl, rfl, rfl, rfl, rfl, rfl, rfl, rfl, rfl, rfl, rfl, rfl, rfl⟩ := hB'
        refine ⟨_, _, _, _, _, _, _, _, _, _, _, _, _, _, _, _, hC, _, _, _, _, _, _, _, _, _, _, _, _, _, _, _, _, _, _, _, _, _, hL, Or.inr ⟨rfl, rfl, rfl, rfl, rfl, ⟨⟨rfl, hc3, rfl, by omega, rfl, he14⟩, ?_, hcn, ?_, ?_, ?_, ?_, ?_, ?_, ?_⟩, g', c1, by have := s1.gle; have := s2.gle; omega⟩⟩
        · rcases hst with h | ⟨s, hs, h⟩
          · exact Or.inl h
          · exact Or.inr ⟨s, by omega, h⟩
        · intro i hi
          by_cases e : i = m13
          · subst e; rw [upd_s, upd_s]
          · rw [upd_n e, upd_n (by omega)]; exact hpn i (by omega)
        · intro i hi
          by_cases e : i = m13
          · subst e; exact hf4
          · rw [hf4' i (by omega), hff (0 + i) (by omega)]; exact h4a i (by omega)
        · intro i hi1 hi2
          have hi1 : m13 + 1 ≤ i := hi1
          obtain ⟨d1, d2⟩ := h4b i (by omega) hi2
          exact ⟨by rw [hf4' i (by omega)]; exact d1, by show x8 (14 + i) = 0; rw [c5 (14 + i) (by omega)]; exact d2⟩
        · intro i hi1 hi2
          show x8 i = 0
          rw [c5 i (by omega)]; exact h4c i hi1 hi2
        · intro i hi
          have hi : i < m13 + 1 := hi
          by_cases e : i = m13
          · subst e
            show x8 (14 + i) = y4 (0 + i) ∧ x8 (14 + i) ≤ 3 ∧ CI ((14 + i) * 4) (56 + 3 * i) (x8 (14 + i)) x9 x10 x11 y9 y10 y11
            rw [c3, c4]
            exact ⟨rfl, hcnt, c7⟩
          · show x8 (14 + i) = y4 (0 + i) ∧ x8 (14 + i) ≤ 3 ∧ CI ((14 + i) * 4) (56 + 3 * i) (x8 (14 + i)) x9 x10 x11 y9 y10 y11
            obtain ⟨d1, d2, d3⟩ := h4d i (by omega)
            rw [c5 (14 + i) (by omega), c6 (0 + i) (by omega), updN_n (by omega)]
            exact ⟨d1, d2, fun j hj => by rw [c8 _ (by omega), c11 _ (by omega), c9 _ (by omega), c12 _ (by omega), c10 _ (by omega), c13 _ (by omega)]; exact d3 j hj⟩
        · intro i hi
          show x8 i = r7 (0 + i) ∧ x8 i ≤ 4 ∧ CI (i * 4) (0 + 4 * i) (x8 i) x9 x10 x11 y9 y10 y11
          obtain ⟨d1, d2, d3⟩ := h4e i hi
          rw [c5 i (by omega)]
          exact ⟨d1, d2, fun j hj => by rw [c8 _ (by omega), c11 _ (by omega), c9 _ (by omega), c12 _ (by omega), c10 _ (by omega), c13 _ (by omega)]; exact d3 j hj⟩
        · intro i hi
          obtain ⟨d1, d2, d3, d4, d5⟩ := h4f i hi
          exact ⟨d1, by show q5 i < m13 + 1; omega, d3, by show q6 i < m13 + 1; omega, d5⟩
