/-- what was read so far is the same: the class's automaton and the reference's bank -/
def MR_1 (nc np ne : Nat) (st0 : Int32) (fcn fpn f4 : Nat → Int32) (q5 q6 : Nat → Nat) (f7 : Nat → Int32) (q8 q9 : Nat → Nat) (f10 f11 : Nat → Int32) (f1 f2 f3 : Nat → Int32) (r4 r5 r6 r7 : Nat → Nat) (f8 : Nat → Int32) (r9 r10 : Nat → Nat) (r11 : Nat → Int32) (m12 m13 m14 m15 : Nat) : Prop :=
  (m12 = nc ∧ nc ≤ 3 ∧ m13 = np ∧ np ≤ 8 ∧ m14 = ne ∧ ne ≤ 14) ∧ ((st0 = -1 ∧ m15 = 0) ∨ (∃ s, s < np ∧ st0 = nI s ∧ m15 = s + 1)) ∧ (∀ i, i < nc → fcn i = f1 (3 + i)) ∧ (∀ i, i < np → fpn i = f2 (8 + i)) ∧
  (∀ i, i < np → f4 i = f3 (8 + i)) ∧ (∀ i, np ≤ i → i < 8 → f4 i = 0 ∧ q8 (14 + i) = 0) ∧ (∀ i, ne ≤ i → i < 14 → q8 i = 0) ∧
  (∀ i, i < np → q8 (14 + i) = r4 (8 + i) ∧ q8 (14 + i) ≤ 3 ∧ CI ((14 + i) * 4) (136 + 3 * i) (q8 (14 + i)) q9 f10 f11 r9 r10 r11) ∧
  (∀ i, i < ne → q8 i = r7 (14 + i) ∧ q8 i ≤ 4 ∧ CI (i * 4) (80 + 4 * i) (q8 i) q9 f10 f11 r9 r10 r11) ∧
  (∀ i, i < ne → q5 i = r5 (14 + i) ∧ q5 i < np ∧ q6 i = r6 (14 + i) ∧ q6 i < np ∧ f7 i = f8 (14 + i))
/-- the four words that a line may begin with -/
theorem lw4_1 {k t : Nat} {v w : Int32} (h : TokR k v t w) : sp_EM_isWord t w 3554411 = (if k = 8 then 1 else 0) ∧ sp_EM_isWord t w 17171557 = (if k = 9 then 1 else 0) ∧ sp_EM_isWord t w 20579924 = (if k = 12 then 1 else 0) ∧ sp_EM_isWord t w 168165 = (if k = 13 then 1 else 0) := ⟨word_iff h (i := 0) (by decide), word_iff h (i := 1) (by decide), word_iff h (i := 4) (by decide), word_iff h (i := 5) (by decide)⟩
/-- a clock's line -/
theorem lk_1 {f fw : Nat → Int32} (hw : ∀ i, i < 8 → fw i = WW i) (hf : ∀ i, f i ≠ -1) {len : Nat} (hl : len ≤ 900) {nc np ne : Nat} {st0 : Int32} {fcn fpn f4 : Nat → Int32} {q5 q6 : Nat → Nat} {f7 : Nat → Int32} {q8 q9 : Nat → Nat} {f10 f11 f1 f2 f3 : Nat → Int32} {r4 r5 r6 r7 : Nat → Nat} {f8 : Nat → Int32} {r9 r10 : Nat → Nat} {r11 : Nat → Int32} {m12 m13 m14 m15 : Nat}
    (hM : MR_1 nc np ne st0 fcn fpn f4 q5 q6 f7 q8 q9 f10 f11 f1 f2 f3 r4 r5 r6 r7 f8 r9 r10 r11 m12 m13 m14 m15) {fa fat x27 vl tka va at_ : Int32} {G pos be tok : Nat} (ht : TS len G pos 8 vl tka be tok va at_) :
    ∃ u fcn' fa' fat' p k v a nc', sp_E_4_readsClock fa fat len pos 8 vl tka f fw fcn fpn nc np = (u, fcn', fa', fat', p, k, v, a, nc') ∧ ∃ f1' r10' r11' f2' f3' r4' r5' r6' r7' f8' r9' m12' m13' m14' m15' at' be' tok' va' w wa, sp_EM_readLine_1 len at_ be tok va 0 x27 f1 f2 f3 r4 r5 r6 r7 f8 r9 r10 r11 m12 m13 m14 m15 f = (f1', r10', r11', f2', f3', r4', r5', r6', r7', f8', r9', m12', m13', m14', m15', at', be', tok', va', w, wa) ∧
      ((u = 0 ∧ w ≠ 0 ∧ fa' = nI w ∧ fat' = wa) ∨ (u = 1 ∧ fa' = fa ∧ fat' = fat ∧ w = 0 ∧ wa = x27 ∧ MR_1 nc' np ne st0 fcn' fpn f4 q5 q6 f7 q8 q9 f10 f11 f1' f2' f3' r4' r5' r6' r7' f8' r9' r10' r11' m12' m13' m14' m15' ∧ ∃ g, TS len g p k v a be' tok' va' at' ∧ pos ≤ g)) := by
  obtain ⟨⟨rfl, hc3, rfl, hp8, rfl, he14⟩, hst, hcn, hpn, h4⟩ := hM
  obtain ⟨u2, u4, u6, u8⟩ := lw4_1 ht.tok
  rw [if_pos rfl] at u2
  rw [if_neg (by decide)] at u4 u6 u8
  obtain ⟨rfl, rfl, hx⟩ := id ht
  by_cases h3 : m12 = 3
  · subst h3
    have hC : sp_E_4_readsClock fa fat len be 8 vl at_ f fw fcn fpn 3 m13 = (0, fcn, 5, at_, be, 8, vl, at_, 3) := by
      simp only [sp_E_4_readsClock, slet, sp_E_4_refuse, Nat.lt_irrefl, reduceIte]
    have hL : sp_EM_readLine_1 len at_ be tok va 0 x27 f1 f2 f3 r4 r5 r6 r7 f8 r9 r10 r11 3 m13 m14 m15 f = (f1, r10, r11, f2, f3, r4, r5, r6, r7, f8, r9, 3, m13, m14, m15, at_, be, tok, va, 5, at_) := by
      simp only [sp_EM_readLine_1, slet, u2, u4, u6, u8, Nat.one_ne_zero, reduceIte, fails_eq ht.tok, good_n (fk_0 (k := 8) (kind := 5) (by decide))]
      rfl
    exact ⟨_, _, _, _, _, _, _, _, _, hC, _, _, _, _, _, _, _, _, _, _, _, _, _, _, _, _, _, _, _, _, _, hL, Or.inl ⟨rfl, by decide, rfl, rfl⟩⟩
  · obtain ⟨⟨p1, k1, v1, a1⟩, h1⟩ : ∃ x, sp_E_4_advance len be vl f fw = x := ⟨_, rfl⟩
    obtain ⟨t1, w1, g1, n1, s1, l1⟩ := adv_ex hw hf hl ht.le h1
    obtain ⟨⟨u, fa1, fat1⟩, h2⟩ : ∃ x, sp_E_4_isNewName fa fat k1 v1 a1 fcn fpn m12 m13 = x := ⟨_, rfl⟩
    obtain ⟨⟨its, at1, be1, tok1, va1, w, wa⟩, e2⟩ : ∃ x, sp_EM_freshName_1 len a1 p1 t1 w1 0 x27 f1 f2 m12 m13 f = x := ⟨_, rfl⟩
    have hlt : m12 < 3 := by omega
    have hL : sp_EM_readLine_1 len at_ be tok va 0 x27 f1 f2 f3 r4 r5 r6 r7 f8 r9 r10 r11 m12 m13 m14 m15 f = (upd f1 (3 + m12) its, r10, r11, f2, f3, r4, r5, r6, r7, f8, r9, m12 + 1, m13, m14, m15, at1, be1, tok1, va1, w, wa) := by
      simp only [sp_EM_readLine_1, slet, u2, u4, u6, u8, Nat.one_ne_zero, reduceIte, if_neg h3, good_0, n1, e2]
    rcases fn_1 s1.tok hcn hpn h2 e2 with ⟨rfl, b1, b2, b3⟩ | ⟨rfl, rfl, rfl, rfl, rfl, e9, b4⟩
    · have hC : sp_E_4_readsClock fa fat len be 8 vl at_ f fw fcn fpn m12 m13 = (0, fcn, fa1, fat1, p1, k1, v1, a1, m12) := by
        simp only [sp_E_4_readsClock, slet, if_pos hlt, h1, h2, reduceIte]
      exact ⟨_, _, _, _, _, _, _, _, _, hC, _, _, _, _, _, _, _, _, _, _, _, _, _, _, _, _, _, _, _, _, _, hL, Or.inl ⟨rfl, b1, b2, b3⟩⟩
    · obtain ⟨⟨p2, k2, v2, a2⟩, h5⟩ : ∃ x, sp_E_4_advance len p1 v1 f fw = x := ⟨_, rfl⟩
      obtain ⟨t2, w2, g2, n2, s2, l2⟩ := adv_ex hw hf hl s1.le h5
      rw [n2] at b4
      simp only [Prod.mk.injEq] at b4
      obtain ⟨rfl, rfl, rfl, rfl⟩ := b4
      have hC : sp_E_4_readsClock fa1 fat1 len be 8 vl at_ f fw fcn fpn m12 m13 = (1, upd fcn m12 v1, fa1, fat1, p2, k2, v2, a2, m12 + 1) := by
        simp only [sp_E_4_readsClock, slet, if_pos hlt, h1, h2, reduceIte, Nat.one_ne_zero, h5]
      rw [e9] at hL
      refine ⟨_, _, _, _, _, _, _, _, _, hC, _, _, _, _, _, _, _, _, _, _, _, _, _, _, _, _, _, _, _, _, _, hL, Or.inr ⟨rfl, rfl, rfl, rfl, rfl, ⟨⟨rfl, by omega, rfl, hp8, rfl, he14⟩, hst, ?_, hpn, h4⟩, g2, s2, by have := s1.gle; omega⟩⟩
      intro i hi
      by_cases e : i = m12
      · subst e; rw [upd_s, upd_s]
      · rw [upd_n e, upd_n (by omega)]; exact hcn i (by omega)
/-- the start's line -/
theorem lS_0 {f fw : Nat → Int32} (hw : ∀ i, i < 8 → fw i = WW i) (hf : ∀ i, f i ≠ -1) {len : Nat} (hl : len ≤ 900) {nc np ne : Nat} {st0 : Int32} {fcn fpn f4 : Nat → Int32} {q5 q6 : Nat → Nat} {f7 : Nat → Int32} {q8 q9 : Nat → Nat} {f10 f11 f1 f2 f3 : Nat → Int32} {r4 r5 r6 r7 : Nat → Nat} {f8 : Nat → Int32} {r9 r10 : Nat → Nat} {r11 : Nat → Int32} {m12 m13 m14 m15 : Nat}
    (hM : MR_0 nc np ne st0 fcn fpn f4 q5 q6 f7 q8 q9 f10 f11 f1 f2 f3 r4 r5 r6 r7 f8 r9 r10 r11 m12 m13 m14 m15) {fa fat x27 vl tka va at_ : Int32} {G pos be tok : Nat} (ht : TS len G pos 12 vl tka be tok va at_) :
    ∃ u fa' fat' p k v a st0', sp_E_4_readsStart fa fat len pos 12 vl tka f fw fpn np st0 = (u, fa', fat', p, k, v, a, st0') ∧ ∃ f1' r10' r11' f2' f3' r4' r5' r6' r7' f8' r9' m12' m13' m14' m15' at' be' tok' va' w wa, sp_EM_readLine_0 len at_ be tok va 0 x27 f1 f2 f3 r4 r5 r6 r7 f8 r9 r10 r11 m12 m13 m14 m15 f = (f1', r10', r11', f2', f3', r4', r5', r6', r7', f8', r9', m12', m13', m14', m15', at', be', tok', va', w, wa) ∧
      ((u = 0 ∧ w ≠ 0 ∧ fa' = nI w ∧ fat' = wa) ∨ (u = 1 ∧ fa' = fa ∧ fat' = fat ∧ w = 0 ∧ wa = x27 ∧ MR_0 nc np ne st0' fcn fpn f4 q5 q6 f7 q8 q9 f10 f11 f1' f2' f3' r4' r5' r6' r7' f8' r9' r10' r11' m12' m13' m14' m15' ∧ ∃ g, TS len g p k v a be' tok' va' at' ∧ pos ≤ g)) := by
  obtain ⟨⟨rfl, hc3, rfl, hp8, rfl, he14⟩, hst, hcn, hpn, h4⟩ := hM
  obtain ⟨u2, u4, u6, u8⟩ := lw4_0 ht.tok
  rw [if_neg (by decide)] at u2 u4 u8
  rw [if_pos rfl] at u6
  obtain ⟨rfl, rfl, hx⟩ := id ht
  rcases hst with ⟨rfl, rfl⟩ | ⟨s, hs, rfl, rfl⟩
  · obtain ⟨⟨p1, k1, v1, a1⟩, h1⟩ : ∃ x, sp_E_4_advance len be vl f fw = x := ⟨_, rfl⟩
    obtain ⟨t1, w1, g1, n1, s1, l1⟩ := adv_ex hw hf hl ht.le h1
    obtain ⟨⟨u, fa1, fat1⟩, h2⟩ : ∃ x, sp_E_4_toldName_p fa fat k1 v1 a1 fpn m13 = x := ⟨_, rfl⟩
    obtain ⟨⟨c, at1, be1, tok1, va1, w, wa⟩, e2⟩ : ∃ x, sp_EM_toldPlace_0 len a1 p1 t1 w1 0 x27 f2 m13 f = x := ⟨_, rfl⟩
    have hL : sp_EM_readLine_0 len at_ be tok va 0 x27 f1 f2 f3 r4 r5 r6 r7 f8 r9 r10 r11 m12 m13 m14 0 f = (f1, r10, r11, f2, f3, r4, r5, r6, r7, f8, r9, m12, m13, m14, c + 1, at1, be1, tok1, va1, w, wa) := by
      simp only [sp_EM_readLine_0, slet, u2, u4, u6, u8, Nat.one_ne_zero, reduceIte, good_0, n1, e2]
    rcases tp_0 s1.tok hpn h2 e2 with ⟨rfl, b1, b2, b3⟩ | ⟨rfl, hc, rfl, rfl, rfl, rfl, b4⟩
    · have hC : sp_E_4_readsStart fa fat len be 12 vl at_ f fw fpn m13 (-1) = (0, fa1, fat1, p1, k1, v1, a1, -1) := by
        simp only [sp_E_4_readsStart, slet, h1, h2, reduceIte]
      exact ⟨_, _, _, _, _, _, _, _, hC, _, _, _, _, _, _, _, _, _, _, _, _, _, _, _, _, _, _, _, _, _, hL, Or.inl ⟨rfl, b1, b2, b3⟩⟩
    · obtain ⟨⟨p2, k2, v2, a2⟩, h5⟩ : ∃ x, sp_E_4_advance len p1 v1 f fw = x := ⟨_, rfl⟩
      obtain ⟨t2, w2, g2, n2, s2, l2⟩ := adv_ex hw hf hl s1.le h5
      rw [n2] at b4
      simp only [Prod.mk.injEq] at b4
      obtain ⟨rfl, rfl, rfl, rfl⟩ := b4
      have hC : sp_E_4_readsStart fa1 fat1 len be 12 vl at_ f fw fpn m13 (-1) = (1, fa1, fat1, p2, k2, v2, a2, nI c) := by
        simp only [sp_E_4_readsStart, slet, h1, h2, reduceIte, Nat.add_one_ne_zero, h5, Nat.add_sub_cancel]
      exact ⟨_, _, _, _, _, _, _, _, hC, _, _, _, _, _, _, _, _, _, _, _, _, _, _, _, _, _, _, _, _, _, hL, Or.inr ⟨rfl, rfl, rfl, rfl, rfl, ⟨⟨rfl, hc3, rfl, hp8, rfl, he14⟩, Or.inr ⟨c, hc, rfl, rfl⟩, hcn, hpn, h4⟩, g2, s2, by have := s1.gle; omega⟩⟩
  · have hn1 : ¬ (nI s : Int32) = -1 := pu_nneg (n := s) (k := -1) (by omega) (by decide)
    have hC : sp_E_4_readsStart fa fat len be 12 vl at_ f fw fpn m13 (nI s) = (0, 5, at_, be, 12, vl, at_, nI s) := by
      simp only [sp_E_4_readsStart, slet, if_neg hn1, sp_E_4_refuse]
    have hL : sp_EM_readLine_0 len at_ be tok va 0 x27 f1 f2 f3 r4 r5 r6 r7 f8 r9 r10 r11 m12 m13 m14 (s + 1) f = (f1, r10, r11, f2, f3, r4, r5, r6, r7, f8, r9, m12, m13, m14, s + 1, at_, be, tok, va, 5, at_) := by
      simp only [sp_EM_readLine_0, slet, u2, u4, u6, u8, Nat.one_ne_zero, Nat.add_one_ne_zero, reduceIte, fails_eq ht.tok, good_n (fk_0 (k := 12) (kind := 5) (by decide))]
      rfl
    exact ⟨_, _, _, _, _, _, _, _, hC, _, _, _, _, _, _, _, _, _, _, _, _, _, _, _, _, _, _, _, _, _, hL, Or.inl ⟨rfl, by decide, rfl, rfl⟩⟩
/-- a place's line -/
theorem lP_0 {f fw : Nat → Int32} (hw : ∀ i, i < 8 → fw i = WW i) (hf : ∀ i, f i ≠ -1) {len : Nat} (hl : len ≤ 900) {nc np ne : Nat} {st0 : Int32} {fcn fpn f4 : Nat → Int32} {q5 q6 : Nat → Nat} {f7 : Nat → Int32} {q8 q9 : Nat → Nat} {f10 f11 f12 f13 f1 f2 f3 : Nat → Int32} {r4 r5 r6 r7 : Nat → Nat} {f8 : Nat → Int32} {r9 r10 : Nat → Nat} {r11 : Nat → Int32} {m12 m13 m14 m15 : Nat}
    (hM : MR_0 nc np ne st0 fcn fpn f4 q5 q6 f7 q8 q9 f10 f11 f1 f2 f3 r4 r5 r6 r7 f8 r9 r10 r11 m12 m13 m14 m15) {fa fat x27 vl tka va at_ : Int32} {G pos be tok : Nat} (ht : TS len G pos 9 vl tka be tok va at_) :
    ∃ u q8' q9' f10' f11' f12' f13' fpn' f4' fa' fat' p k v a np', sp_E_4_readsPlace fa fat len pos 9 vl tka f fw fcn fpn nc np f4 q8 q9 f10 f11 f12 f13 = (u, q8', q9', f10', f11', f12', f13', fpn', f4', fa', fat', p, k, v, a, np') ∧ ∃ f1' r10' r11' f2' f3' r4' r5' r6' r7' f8' r9' m12' m13' m14' m15' at' be' tok' va' w wa, sp_EM_readLine_0 len at_ be tok va 0 x27 f1 f2 f3 r4 r5 r6 r7 f8 r9 r10 r11 m12 m13 m14 m15 f = (f1', r10', r11', f2', f3', r4', r5', r6', r7', f8', r9', m12', m13', m14', m15', at', be', tok', va', w, wa) ∧
      ((u = 0 ∧ w ≠ 0 ∧ fa' = nI w ∧ fat' = wa) ∨ (u = 1 ∧ fa' = fa ∧ fat' = fat ∧ w = 0 ∧ wa = x27 ∧ MR_0 nc np' ne st0 fcn fpn' f4' q5 q6 f7 q8' q9' f10' f11' f1' f2' f3' r4' r5' r6' r7' f8' r9' r10' r11' m12' m13' m14' m15' ∧ ∃ g, TS len g p k v a be' tok' va' at' ∧ pos ≤ g)) := by
  obtain ⟨⟨rfl, hc3, rfl, hp8, rfl, he14⟩, hst, hcn, hpn, h4a, h4b, h4c, h4d, h4e, h4f⟩ := hM
  obtain ⟨u2, u4, u6, u8⟩ := lw4_0 ht.tok
  rw [if_neg (by decide)] at u2 u6 u8
  rw [if_pos rfl] at u4
  obtain ⟨rfl, rfl, hx⟩ := id ht
  by_cases h8 : m13 = 8
  · subst h8
    have hC : sp_E_4_readsPlace fa fat len be 9 vl at_ f fw fcn fpn m12 8 f4 q8 q9 f10 f11 f12 f13 = (0, q8, q9, f10, f11, f12, f13, fpn, f4, 5, at_, be, 9, vl, at_, 8) := by
      simp only [sp_E_4_readsPlace, slet, sp_E_4_refuse, Nat.lt_irrefl, reduceIte]
    have hL : sp_EM_readLine_0 len at_ be tok va 0 x27 f1 f2 f3 r4 r5 r6 r7 f8 r9 r10 r11 m12 8 m14 m15 f = (f1, r10, r11, f2, f3, r4, r5, r6, r7, f8, r9, m12, 8, m14, m15, at_, be, tok, va, 5, at_) := by
      simp only [sp_EM_readLine_0, slet, u2, u4, u6, u8, Nat.one_ne_zero, reduceIte, fails_eq ht.tok, good_n (fk_0 (k := 9) (kind := 5) (by decide))]
      rfl
    exact ⟨_, _, _, _, _, _, _, _, _, _, _, _, _, _, _, _, hC, _, _, _, _, _, _, _, _, _, _, _, _, _, _, _, _, _, _, _, _, _, hL, Or.inl ⟨rfl, by decide, rfl, rfl⟩⟩
  · obtain ⟨⟨p1, k1, v1, a1⟩, h1⟩ : ∃ x, sp_E_4_advance len be vl f fw = x := ⟨_, rfl⟩
    obtain ⟨t1, w1, g1, n1, s1, l1⟩ := adv_ex hw hf hl ht.le h1
    obtain ⟨⟨u, fa1, fat1⟩, h2⟩ : ∃ x, sp_E_4_isNewName fa fat k1 v1 a1 fcn fpn m12 m13 = x := ⟨_, rfl⟩
    obtain ⟨⟨its, at1, be1, tok1, va1, w, wa⟩, e2⟩ : ∃ x, sp_EM_freshName_0 len a1 p1 t1 w1 0 x27 f1 f2 m12 m13 f = x := ⟨_, rfl⟩
    have hlt : m13 < 8 := by omega
    obtain ⟨⟨y10, y11, y2, y3, y4, y9, y13, y20, y21, y22, y23, y26, y27⟩, e3⟩ : ∃ x, sp_EM_readPlace_0 len a1 p1 t1 w1 0 x27 f1 f2 f3 r4 r9 r10 r11 m12 m13 f = x := ⟨_, rfl⟩
    have hL : sp_EM_readLine_0 len at_ be tok va 0 x27 f1 f2 f3 r4 r5 r6 r7 f8 r9 r10 r11 m12 m13 m14 m15 f = (f1, y10, y11, y2, y3, y4, r5, r6, r7, f8, y9, m12, y13, m14, m15, y20, y21, y22, y23, y26, y27) := by
      simp only [sp_EM_readLine_0, slet, u2, u4, u6, u8, Nat.one_ne_zero, reduceIte, if_neg h8, good_0, n1, e3]
    have hq4 : updN r4 (0 + m13) 0 (0 + m13) = 0 := updN_s
    rcases fn_0 s1.tok hcn hpn h2 e2 with ⟨rfl, b1, b2, b3⟩ | ⟨rfl, rfl, rfl, rfl, rfl, e9, b4⟩
    · have hC : sp_E_4_readsPlace fa fat len be 9 vl at_ f fw fcn fpn m12 m13 f4 q8 q9 f10 f11 f12 f13 = (0, q8, q9, f10, f11, f12, f13, fpn, f4, fa1, fat1, p1, k1, v1, a1, m13) := by
        simp only [sp_E_4_readsPlace, slet, if_pos hlt, h1, h2, reduceIte]
      have e4 : sp_EM_readPlace_0 len a1 p1 t1 w1 0 x27 f1 f2 f3 r4 r9 r10 r11 m12 m13 f = (r10, r11, upd f2 (0 + m13) its, upd f3 (0 + m13) 0, updN r4 (0 + m13) 0, r9, m13 + 1, at1, be1, tok1, va1, w, wa) := by
        simp only [sp_EM_readPlace_0, slet, e2, good_n b1, reduceIte, p1_out_0 b1]
      rw [e3] at e4
      simp only [Prod.mk.injEq] at e4
      obtain ⟨rfl, rfl, rfl, rfl, rfl, rfl, rfl, rfl, rfl, rfl, rfl, rfl, rfl⟩ := e4
      exact ⟨_, _, _, _, _, _, _, _, _, _, _, _, _, _, _, _, hC, _, _, _, _, _, _, _, _, _, _, _, _, _, _, _, _, _, _, _, _, _, hL, Or.inl ⟨rfl, b1, b2, b3⟩⟩
    · obtain ⟨⟨p2, k2, v2, a2⟩, h5⟩ : ∃ x, sp_E_4_advance len p1 v1 f fw = x := ⟨_, rfl⟩
      obtain ⟨t2, w2, g2, n2, s2, l2⟩ := adv_ex hw hf hl s1.le h5
      rw [n2] at b4
      simp only [Prod.mk.injEq] at b4
      obtain ⟨rfl, rfl, rfl, rfl⟩ := b4
      rw [e9] at e2
      have hug : sp_EM_isWord t2 w2 723752404 = (if k2 = 10 then 1 else 0) := word_iff s2.tok (i := 2) (by decide)
      -- behind 'urgent', if it stands there
      obtain ⟨p3, k3, v3, a3, t3, w3, g3, ff4, ff3, s3, l3, hf4, hf4', hff, hC', hB'⟩ : ∃ p3 k3 v3 a3 t3 w3 g3 ff4 ff3, TS len g3 p3 k3 v3 a3 p3 t3 w3 a3 ∧ g2 ≤ g3 ∧ ff4 m13 = ff3 (0 + m13) ∧ UN m13 1 ff4 f4 ∧ UN (0 + m13) 1 ff3 f3 ∧
          (∀ {z : Nat × (Nat → Nat) × (Nat → Nat) × (Nat → Int32) × (Nat → Int32) × (Nat → Int32) × (Nat → Int32) × Int32 × Int32 × Nat × Nat × Int32 × Int32}, sp_E_4_readsConditions_11 fa1 fat1 len p3 k3 v3 a3 f fw fcn m12 q8 q9 f10 f11 f12 f13 (14 + m13) = z → sp_E_4_readsPlace fa1 fat1 len be 9 vl at_ f fw fcn fpn m12 m13 f4 q8 q9 f10 f11 f12 f13 = (z.1, z.2.1, z.2.2.1, z.2.2.2.1, z.2.2.2.2.1, z.2.2.2.2.2.1, z.2.2.2.2.2.2.1, upd fpn m13 v1, ff4, z.2.2.2.2.2.2.2.1, z.2.2.2.2.2.2.2.2.1, z.2.2.2.2.2.2.2.2.2.1, z.2.2.2.2.2.2.2.2.2.2.1, z.2.2.2.2.2.2.2.2.2.2.2.1, z.2.2.2.2.2.2.2.2.2.2.2.2, m13 + 1)) ∧
          sp_EM_readPlace_0 len a1 p1 t1 w1 0 wa f1 f2 f3 r4 r9 r10 r11 m12 m13 f = itrv default (sp_EM_readPlace_0_L1 len f1 m12 m13 f (upd f2 (0 + m13) v1) ff3) (r10, r11, updN r4 (0 + m13) 0, r9, a3, p3, t3, w3, 0, wa) := by
        by_cases hk : k2 = 10
        · obtain ⟨⟨p3, k3, v3, a3⟩, h6⟩ : ∃ x, sp_E_4_advance len p2 v2 f fw = x := ⟨_, rfl⟩
          obtain ⟨t3, w3, g3, n3, s3, l3⟩ := adv_ex hw hf hl s2.le h6
          rw [if_pos hk] at hug
          refine ⟨p3, k3, v3, a3, t3, w3, g3, upd f4 m13 (vp_nar .boolean 1), upd (upd f3 (0 + m13) 0) (0 + m13) 1, s3, by have := s2.gle; omega, by rw [upd_s, upd_s]; rfl, UN.rf.up' ⟨by omega, by omega⟩, (UN.rf.up' ⟨by omega, by omega⟩).up' ⟨by omega, by omega⟩, ?_, ?_⟩
          · intro z hz
            simp only [sp_E_4_readsPlace, slet, if_pos hlt, h1, h2, reduceIte, Nat.one_ne_zero, h5, if_pos hk, h6, hz]
          · simp only [sp_EM_readPlace_0, slet, e2, good_0, Nat.one_ne_zero, reduceIte, hug, n3]
        · rw [if_neg hk] at hug
          refine ⟨p2, k2, v2, a2, t2, w2, g2, f4, upd f3 (0 + m13) 0, s2, Nat.le_refl _, by rw [upd_s]; exact (h4b m13 (Nat.le_refl _) hlt).1, UN.rf, UN.rf.up' ⟨by omega, by omega⟩, ?_, ?_⟩
          · intro z hz
            simp only [sp_E_4_readsPlace, slet, if_pos hlt, h1, h2, reduceIte, Nat.one_ne_zero, h5, if_neg hk, hz]
          · simp only [sp_EM_readPlace_0, slet, e2, good_0, Nat.one_ne_zero, reduceIte, hug]
      obtain ⟨u, x8, x9, x10, x11, x12, x13, fa', fat', p, k, v, a, hA, hR⟩ := cs11_0 hw hf hl hc3 hcn fa1 fat1 wa g3 (upd f2 (0 + m13) v1) ff3 q8 q9 f10 f11 f12 f13 (updN r4 (0 + m13) 0) r9 r10 r11 (h4b m13 (Nat.le_refl _) hlt).2 updN_s s3
      have hC := hC' hA
      rw [e3] at hB'
      rcases hR with ⟨rfl, o10, o11, o7, o9, oe, at', be', tok', va', w', wa', hX, c1, c2, c3⟩ | ⟨rfl, rfl, rfl, hk11, cnt, o10, o11, o7, o9, at', be', tok', va', g', hcnt, hX, c1, c2, c3, c4, c5, c6, c7, c8, c9, c10, c11, c12, c13⟩
      · rw [hX] at hB'
        simp only [Prod.mk.injEq] at hB'
        obtain ⟨rfl, rfl, rfl, rfl, rfl, rfl, rfl, rfl, rfl, rfl, rfl, rfl, rfl⟩ := hB'
        exact ⟨_, _, _, _, _, _, _, _, _, _, _, _, _, _, _, _, hC, _, _, _, _, _, _, _, _, _, _, _, _, _, _, _, _, _, _, _, _, _, hL, Or.inl ⟨rfl, c1, c2, c3⟩⟩
      · rw [hX] at hB'
        simp only [Prod.mk.injEq] at hB'
        obtain ⟨rfl, rfl, rfl, rfl, rfl, rfl, rfl, rfl, rfl, rfl, rfl, rfl, rfl⟩ := hB'
        refine ⟨_, _, _, _, _, _, _, _, _, _, _, _, _, _, _, _, hC, _, _, _, _, _, _, _, _, _, _, _, _, _, _, _, _, _, _, _, _, _, hL, Or.inr ⟨rfl, rfl, rfl, rfl, rfl, ⟨⟨rfl, hc3, rfl, by omega, rfl, he14⟩, ?_, hcn, ?_, ?_, ?_, ?_, ?_, ?_, ?_⟩, g', c1, by have := s1.gle; have := s2.gle; omega⟩⟩
        · rcases hst with h | ⟨s, hs, h⟩
          · exact Or.inl h
          · exact Or.inr ⟨s, by omega, h⟩
        · intro i hi
          by_cases e : i = m13
          · subst e; rw [upd_s, upd_s]
          · rw [upd_n e, upd_n (by omega)]; exact hpn i (by omega)
        · intro i hi
          by_cases e : i = m13
          · subst e; exact hf4
          · rw [hf4' i (by omega), hff (0 + i) (by omega)]; exact h4a i (by omega)
        · intro i hi1 hi2
          have hi1 : m13 + 1 ≤ i := hi1
          obtain ⟨d1, d2⟩ := h4b i (by omega) hi2
          exact ⟨by rw [hf4' i (by omega)]; exact d1, by show x8 (14 + i) = 0; rw [c5 (14 + i) (by omega)]; exact d2⟩
        · intro i hi1 hi2
          show x8 i = 0
          rw [c5 i (by omega)]; exact h4c i hi1 hi2
        · intro i hi
          have hi : i < m13 + 1 := hi
          by_cases e : i = m13
          · subst e
            show x8 (14 + i) = y4 (0 + i) ∧ x8 (14 + i) ≤ 3 ∧ CI ((14 + i) * 4) (56 + 3 * i) (x8 (14 + i)) x9 x10 x11 y9 y10 y11
            rw [c3, c4]
            exact ⟨rfl, hcnt, c7⟩
          · show x8 (14 + i) = y4 (0 + i) ∧ x8 (14 + i) ≤ 3 ∧ CI ((14 + i) * 4) (56 + 3 * i) (x8 (14 + i)) x9 x10 x11 y9 y10 y11
            obtain ⟨d1, d2, d3⟩ := h4d i (by omega)
            rw [c5 (14 + i) (by omega), c6 (0 + i) (by omega), updN_n (by omega)]
            exact ⟨d1, d2, fun j hj => by rw [c8 _ (by omega), c11 _ (by omega), c9 _ (by omega), c12 _ (by omega), c10 _ (by omega), c13 _ (by omega)]; exact d3 j hj⟩
        · intro i hi
          show x8 i = r7 (0 + i) ∧ x8 i ≤ 4 ∧ CI (i * 4) (0 + 4 * i) (x8 i) x9 x10 x11 y9 y10 y11
          obtain ⟨d1, d2, d3⟩ := h4e i hi
          rw [c5 i (by omega)]
          exact ⟨d1, d2, fun j hj => by rw [c8 _ (by omega), c11 _ (by omega), c9 _ (by omega), c12 _ (by omega), c10 _ (by omega), c13 _ (by omega)]; exact d3 j hj⟩
        · intro i hi
          obtain ⟨d1, d2, d3, d4, d5⟩ := h4f i hi
          exact ⟨d1, by show q5 i < m13 + 1; omega, d3, by show q6 i < m13 + 1; omega, d5⟩
/-- the start's line -/
theorem lS_1 {f fw : Nat → Int32} (hw : ∀ i, i < 8 → fw i = WW i) (hf : ∀ i, f i ≠ -1) {len : Nat} (hl : len ≤ 900) {nc np ne : Nat} {st0 : Int32} {fcn fpn f4 : Nat → Int32} {q5 q6 : Nat → Nat} {f7 : Nat → Int32} {q8 q9 : Nat → Nat} {f10 f11 f1 f2 f3 : Nat → Int32} {r4 r5 r6 r7 : Nat → Nat} {f8 : Nat → Int32} {r9 r10 : Nat → Nat} {r11 : Nat → Int32} {m12 m13 m14 m15 : Nat}
    (hM : MR_1 nc np ne st0 fcn fpn f4 q5 q6 f7 q8 q9 f10 f11 f1 f2 f3 r4 r5 r6 r7 f8 r9 r10 r11 m12 m13 m14 m15) {fa fat x27 vl tka va at_ : Int32} {G pos be tok : Nat} (ht : TS len G pos 12 vl tka be tok va at_) :
    ∃ u fa' fat' p k v a st0', sp_E_4_readsStart fa fat len pos 12 vl tka f fw fpn np st0 = (u, fa', fat', p, k, v, a, st0') ∧ ∃ f1' r10' r11' f2' f3' r4' r5' r6' r7' f8' r9' m12' m13' m14' m15' at' be' tok' va' w wa, sp_EM_readLine_1 len at_ be tok va 0 x27 f1 f2 f3 r4 r5 r6 r7 f8 r9 r10 r11 m12 m13 m14 m15 f = (f1', r10', r11', f2', f3', r4', r5', r6', r7', f8', r9', m12', m13', m14', m15', at', be', tok', va', w, wa) ∧
      ((u = 0 ∧ w ≠ 0 ∧ fa' = nI w ∧ fat' = wa) ∨ (u = 1 ∧ fa' = fa ∧ fat' = fat ∧ w = 0 ∧ wa = x27 ∧ MR_1 nc np ne st0' fcn fpn f4 q5 q6 f7 q8 q9 f10 f11 f1' f2' f3' r4' r5' r6' r7' f8' r9' r10' r11' m12' m13' m14' m15' ∧ ∃ g, TS len g p k v a be' tok' va' at' ∧ pos ≤ g)) := by
  obtain ⟨⟨rfl, hc3, rfl, hp8, rfl, he14⟩, hst, hcn, hpn, h4⟩ := hM
  obtain ⟨u2, u4, u6, u8⟩ := lw4_1 ht.tok
  rw [if_neg (by decide)] at u2 u4 u8
  rw [if_pos rfl] at u6
  obtain ⟨rfl, rfl, hx⟩ := id ht
  rcases hst with ⟨rfl, rfl⟩ | ⟨s, hs, rfl, rfl⟩
  · obtain ⟨⟨p1, k1, v1, a1⟩, h1⟩ : ∃ x, sp_E_4_advance len be vl f fw = x := ⟨_, rfl⟩
    obtain ⟨t1, w1, g1, n1, s1, l1⟩ := adv_ex hw hf hl ht.le h1
    obtain ⟨⟨u, fa1, fat1⟩, h2⟩ : ∃ x, sp_E_4_toldName_p fa fat k1 v1 a1 fpn m13 = x := ⟨_, rfl⟩
    obtain ⟨⟨c, at1, be1, tok1, va1, w, wa⟩, e2⟩ : ∃ x, sp_EM_toldPlace_1 len a1 p1 t1 w1 0 x27 f2 m13 f = x := ⟨_, rfl⟩
    have hL : sp_EM_readLine_1 len at_ be tok va 0 x27 f1 f2 f3 r4 r5 r6 r7 f8 r9 r10 r11 m12 m13 m14 0 f = (f1, r10, r11, f2, f3, r4, r5, r6, r7, f8, r9, m12, m13, m14, c + 1, at1, be1, tok1, va1, w, wa) := by
      simp only [sp_EM_readLine_1, slet, u2, u4, u6, u8, Nat.one_ne_zero, reduceIte, good_0, n1, e2]
    rcases tp_1 s1.tok hpn h2 e2 with ⟨rfl, b1, b2, b3⟩ | ⟨rfl, hc, rfl, rfl, rfl, rfl, b4⟩
    · have hC : sp_E_4_readsStart fa fat len be 12 vl at_ f fw fpn m13 (-1) = (0, fa1, fat1, p1, k1, v1, a1, -1) := by
        simp only [sp_E_4_readsStart, slet, h1, h2, reduceIte]
      exact ⟨_, _, _, _, _, _, _, _, hC, _, _, _, _, _, _, _, _, _, _, _, _, _, _, _, _, _, _, _, _, _, hL, Or.inl ⟨rfl, b1, b2, b3⟩⟩
    · obtain ⟨⟨p2, k2, v2, a2⟩, h5⟩ : ∃ x, sp_E_4_advance len p1 v1 f fw = x := ⟨_, rfl⟩
      obtain ⟨t2, w2, g2, n2, s2, l2⟩ := adv_ex hw hf hl s1.le h5
      rw [n2] at b4
      simp only [Prod.mk.injEq] at b4
      obtain ⟨rfl, rfl, rfl, rfl⟩ := b4
      have hC : sp_E_4_readsStart fa1 fat1 len be 12 vl at_ f fw fpn m13 (-1) = (1, fa1, fat1, p2, k2, v2, a2, nI c) := by
        simp only [sp_E_4_readsStart, slet, h1, h2, reduceIte, Nat.add_one_ne_zero, h5, Nat.add_sub_cancel]
      exact ⟨_, _, _, _, _, _, _, _, hC, _, _, _, _, _, _, _, _, _, _, _, _, _, _, _, _, _, _, _, _, _, hL, Or.inr ⟨rfl, rfl, rfl, rfl, rfl, ⟨⟨rfl, hc3, rfl, hp8, rfl, he14⟩, Or.inr ⟨c, hc, rfl, rfl⟩, hcn, hpn, h4⟩, g2, s2, by have := s1.gle; omega⟩⟩
  · have hn1 : ¬ (nI s : Int32) = -1 := pu_nneg (n := s) (k := -1) (by omega) (by decide)
    have hC : sp_E_4_readsStart fa fat len be 12 vl at_ f fw fpn m13 (nI s) = (0, 5, at_, be, 12, vl, at_, nI s) := by
      simp only [sp_E_4_readsStart, slet, if_neg hn1, sp_E_4_refuse]
    have hL : sp_EM_readLine_1 len at_ be tok va 0 x27 f1 f2 f3 r4 r5 r6 r7 f8 r9 r10 r11 m12 m13 m14 (s + 1) f = (f1, r10, r11, f2, f3, r4, r5, r6, r7, f8, r9, m12, m13, m14, s + 1, at_, be, tok, va, 5, at_) := by
      simp only [sp_EM_readLine_1, slet, u2, u4, u6, u8, Nat.one_ne_zero, Nat.add_one_ne_zero, reduceIte, fails_eq ht.tok, good_n (fk_0 (k := 12) (kind := 5) (by decide))]
      rfl
    exact ⟨_, _, _, _, _, _, _, _, hC, _, _, _, _, _, _, _, _, _, _, _, _, _, _, _, _, _, _, _, _, _, hL, Or.inl ⟨rfl, by decide, rfl, rfl⟩⟩
/-- a place's line -/
theorem lP_1 {f fw : Nat → Int32} (hw : ∀ i, i < 8 → fw i = WW i) (hf : ∀ i, f i ≠ -1) {len : Nat} (hl : len ≤ 900) {nc np ne : Nat} {st0 : Int32} {fcn fpn f4 : Nat → Int32} {q5 q6 : Nat → Nat} {f7 : Nat → Int32} {q8 q9 : Nat → Nat} {f10 f11 f12 f13 f1 f2 f3 : Nat → Int32} {r4 r5 r6 r7 : Nat → Nat} {f8 : Nat → Int32} {r9 r10 : Nat → Nat} {r11 : Nat → Int32} {m12 m13 m14 m15 : Nat}
    (hM : MR_1 nc np ne st0 fcn fpn f4 q5 q6 f7 q8 q9 f10 f11 f1 f2 f3 r4 r5 r6 r7 f8 r9 r10 r11 m12 m13 m14 m15) {fa fat x27 vl tka va at_ : Int32} {G pos be tok : Nat} (ht : TS len G pos 9 vl tka be tok va at_) :
    ∃ u q8' q9' f10' f11' f12' f13' fpn' f4' fa' fat' p k v a np', sp_E_4_readsPlace fa fat len pos 9 vl tka f fw fcn fpn nc np f4 q8 q9 f10 f11 f12 f13 = (u, q8', q9', f10', f11', f12', f13', fpn', f4', fa', fat', p, k, v, a, np') ∧ ∃ f1' r10' r11' f2' f3' r4' r5' r6' r7' f8' r9' m12' m13' m14' m15' at' be' tok' va' w wa, sp_EM_readLine_1 len at_ be tok va 0 x27 f1 f2 f3 r4 r5 r6 r7 f8 r9 r10 r11 m12 m13 m14 m15 f = (f1', r10', r11', f2', f3', r4', r5', r6', r7', f8', r9', m12', m13', m14', m15', at', be', tok', va', w, wa) ∧
      ((u = 0 ∧ w ≠ 0 ∧ fa' = nI w ∧ fat' = wa) ∨ (u = 1 ∧ fa' = fa ∧ fat' = fat ∧ w = 0 ∧ wa = x27 ∧ MR_1 nc np' ne st0 fcn fpn' f4' q5 q6 f7 q8' q9' f10' f11' f1' f2' f3' r4' r5' r6' r7' f8' r9' r10' r11' m12' m13' m14' m15' ∧ ∃ g, TS len g p k v a be' tok' va' at' ∧ pos ≤ g)) := by
  obtain ⟨⟨rfl, hc3, rfl, hp8, rfl, he14⟩, hst, hcn, hpn, h4a, h4b, h4c, h4d, h4e, h4f⟩ := hM
  obtain ⟨u2, u4, u6, u8⟩ := lw4_1 ht.tok
  rw [if_neg (by decide)] at u2 u6 u8
  rw [if_pos rfl] at u4
  obtain ⟨rfl, rfl, hx⟩ := id ht
  by_cases h8 : m13 = 8
  · subst h8
    have hC : sp_E_4_readsPlace fa fat len be 9 vl at_ f fw fcn fpn m12 8 f4 q8 q9 f10 f11 f12 f13 = (0, q8, q9, f10, f11, f12, f13, fpn, f4, 5, at_, be, 9, vl, at_, 8) := by
      simp only [sp_E_4_readsPlace, slet, sp_E_4_refuse, Nat.lt_irrefl, reduceIte]
    have hL : sp_EM_readLine_1 len at_ be tok va 0 x27 f1 f2 f3 r4 r5 r6 r7 f8 r9 r10 r11 m12 8 m14 m15 f = (f1, r10, r11, f2, f3, r4, r5, r6, r7, f8, r9, m12, 8, m14, m15, at_, be, tok, va, 5, at_) := by
      simp only [sp_EM_readLine_1, slet, u2, u4, u6, u8, Nat.one_ne_zero, reduceIte, fails_eq ht.tok, good_n (fk_0 (k := 9) (kind := 5) (by decide))]
      rfl
    exact ⟨_, _, _, _, _, _, _, _, _, _, _, _, _, _, _, _, hC, _, _, _, _, _, _, _, _, _, _, _, _, _, _, _, _, _, _, _, _, _, hL, Or.inl ⟨rfl, by decide, rfl, rfl⟩⟩
  · obtain ⟨⟨p1, k1, v1, a1⟩, h1⟩ : ∃ x, sp_E_4_advance len be vl f fw = x := ⟨_, rfl⟩
    obtain ⟨t1, w1, g1, n1, s1, l1⟩ := adv_ex hw hf hl ht.le h1
    obtain ⟨⟨u, fa1, fat1⟩, h2⟩ : ∃ x, sp_E_4_isNewName fa fat k1 v1 a1 fcn fpn m12 m13 = x := ⟨_, rfl⟩
    obtain ⟨⟨its, at1, be1, tok1, va1, w, wa⟩, e2⟩ : ∃ x, sp_EM_freshName_1 len a1 p1 t1 w1 0 x27 f1 f2 m12 m13 f = x := ⟨_, rfl⟩
    have hlt : m13 < 8 := by omega
    obtain ⟨⟨y10, y11, y2, y3, y4, y9, y13, y20, y21, y22, y23, y26, y27⟩, e3⟩ : ∃ x, sp_EM_readPlace_1 len a1 p1 t1 w1 0 x27 f1 f2 f3 r4 r9 r10 r11 m12 m13 f = x := ⟨_, rfl⟩
    have hL : sp_EM_readLine_1 len at_ be tok va 0 x27 f1 f2 f3 r4 r5 r6 r7 f8 r9 r10 r11 m12 m13 m14 m15 f = (f1, y10, y11, y2, y3, y4, r5, r6, r7, f8, y9, m12, y13, m14, m15, y20, y21, y22, y23, y26, y27) := by
      simp only [sp_EM_readLine_1, slet, u2, u4, u6, u8, Nat.one_ne_zero, reduceIte, if_neg h8, good_0, n1, e3]
    have hq4 : updN r4 (8 + m13) 0 (8 + m13) = 0 := updN_s
    rcases fn_1 s1.tok hcn hpn h2 e2 with ⟨rfl, b1, b2, b3⟩ | ⟨rfl, rfl, rfl, rfl, rfl, e9, b4⟩
    · have hC : sp_E_4_readsPlace fa fat len be 9 vl at_ f fw fcn fpn m12 m13 f4 q8 q9 f10 f11 f12 f13 = (0, q8, q9, f10, f11, f12, f13, fpn, f4, fa1, fat1, p1, k1, v1, a1, m13) := by
        simp only [sp_E_4_readsPlace, slet, if_pos hlt, h1, h2, reduceIte]
      have e4 : sp_EM_readPlace_1 len a1 p1 t1 w1 0 x27 f1 f2 f3 r4 r9 r10 r11 m12 m13 f = (r10, r11, upd f2 (8 + m13) its, upd f3 (8 + m13) 0, updN r4 (8 + m13) 0, r9, m13 + 1, at1, be1, tok1, va1, w, wa) := by
        simp only [sp_EM_readPlace_1, slet, e2, good_n b1, reduceIte, p1_out_1 b1]
      rw [e3] at e4
      simp only [Prod.mk.injEq] at e4
      obtain ⟨rfl, rfl, rfl, rfl, rfl, rfl, rfl, rfl, rfl, rfl, rfl, rfl, rfl⟩ := e4
      exact ⟨_, _, _, _, _, _, _, _, _, _, _, _, _, _, _, _, hC, _, _, _, _, _, _, _, _, _, _, _, _, _, _, _, _, _, _, _, _, _, hL, Or.inl ⟨rfl, b1, b2, b3⟩⟩
    · obtain ⟨⟨p2, k2, v2, a2⟩, h5⟩ : ∃ x, sp_E_4_advance len p1 v1 f fw = x := ⟨_, rfl⟩
      obtain ⟨t2, w2, g2, n2, s2, l2⟩ := adv_ex hw hf hl s1.le h5
      rw [n2] at b4
      simp only [Prod.mk.injEq] at b4
      obtain ⟨rfl, rfl, rfl, rfl⟩ := b4
      rw [e9] at e2
      have hug : sp_EM_isWord t2 w2 723752404 = (if k2 = 10 then 1 else 0) := word_iff s2.tok (i := 2) (by decide)
      -- behind 'urgent', if it stands there
      obtain ⟨p3, k3, v3, a3, t3, w3, g3, ff4, ff3, s3, l3, hf4, hf4', hff, hC', hB'⟩ : ∃ p3 k3 v3 a3 t3 w3 g3 ff4 ff3, TS len g3 p3 k3 v3 a3 p3 t3 w3 a3 ∧ g2 ≤ g3 ∧ ff4 m13 = ff3 (8 + m13) ∧ UN m13 1 ff4 f4 ∧ UN (8 + m13) 1 ff3 f3 ∧
          (∀ {z : Nat × (Nat → Nat) × (Nat → Nat) × (Nat → Int32) × (Nat → Int32) × (Nat → Int32) × (Nat → Int32) × Int32 × Int32 × Nat × Nat × Int32 × Int32}, sp_E_4_readsConditions_11 fa1 fat1 len p3 k3 v3 a3 f fw fcn m12 q8 q9 f10 f11 f12 f13 (14 + m13) = z → sp_E_4_readsPlace fa1 fat1 len be 9 vl at_ f fw fcn fpn m12 m13 f4 q8 q9 f10 f11 f12 f13 = (z.1, z.2.1, z.2.2.1, z.2.2.2.1, z.2.2.2.2.1, z.2.2.2.2.2.1, z.2.2.2.2.2.2.1, upd fpn m13 v1, ff4, z.2.2.2.2.2.2.2.1, z.2.2.2.2.2.2.2.2.1, z.2.2.2.2.2.2.2.2.2.1, z.2.2.2.2.2.2.2.2.2.2.1, z.2.2.2.2.2.2.2.2.2.2.2.1, z.2.2.2.2.2.2.2.2.2.2.2.2, m13 + 1)) ∧
          sp_EM_readPlace_1 len a1 p1 t1 w1 0 wa f1 f2 f3 r4 r9 r10 r11 m12 m13 f = itrv default (sp_EM_readPlace_1_L1 len f1 m12 m13 f (upd f2 (8 + m13) v1) ff3) (r10, r11, updN r4 (8 + m13) 0, r9, a3, p3, t3, w3, 0, wa) := by
        by_cases hk : k2 = 10
        · obtain ⟨⟨p3, k3, v3, a3⟩, h6⟩ : ∃ x, sp_E_4_advance len p2 v2 f fw = x := ⟨_, rfl⟩
          obtain ⟨t3, w3, g3, n3, s3, l3⟩ := adv_ex hw hf hl s2.le h6
          rw [if_pos hk] at hug
          refine ⟨p3, k3, v3, a3, t3, w3, g3, upd f4 m13 (vp_nar .boolean 1), upd (upd f3 (8 + m13) 0) (8 + m13) 1, s3, by have := s2.gle; omega, by rw [upd_s, upd_s]; rfl, UN.rf.up' ⟨by omega, by omega⟩, (UN.rf.up' ⟨by omega, by omega⟩).up' ⟨by omega, by omega⟩, ?_, ?_⟩
          · intro z hz
            simp only [sp_E_4_readsPlace, slet, if_pos hlt, h1, h2, reduceIte, Nat.one_ne_zero, h5, if_pos hk, h6, hz]
          · simp only [sp_EM_readPlace_1, slet, e2, good_0, Nat.one_ne_zero, reduceIte, hug, n3]
        · rw [if_neg hk] at hug
          refine ⟨p2, k2, v2, a2, t2, w2, g2, f4, upd f3 (8 + m13) 0, s2, Nat.le_refl _, by rw [upd_s]; exact (h4b m13 (Nat.le_refl _) hlt).1, UN.rf, UN.rf.up' ⟨by omega, by omega⟩, ?_, ?_⟩
          · intro z hz
            simp only [sp_E_4_readsPlace, slet, if_pos hlt, h1, h2, reduceIte, Nat.one_ne_zero, h5, if_neg hk, hz]
          · simp only [sp_EM_readPlace_1, slet, e2, good_0, Nat.one_ne_zero, reduceIte, hug]
      obtain ⟨u, x8, x9, x10, x11, x12, x13, fa', fat', p, k, v, a, hA, hR⟩ := cs11_1 hw hf hl hc3 hcn fa1 fat1 wa g3 (upd f2 (8 + m13) v1) ff3 q8 q9 f10 f11 f12 f13 (updN r4 (8 + m13) 0) r9 r10 r11 (h4b m13 (Nat.le_refl _) hlt).2 updN_s s3
      have hC := hC' hA
      rw [e3] at hB'
      rcases hR with ⟨rfl, o10, o11, o7, o9, oe, at', be', tok', va', w', wa', hX, c1, c2, c3⟩ | ⟨rfl, rfl, rfl, hk11, cnt, o10, o11, o7, o9, at', be', tok', va', g', hcnt, hX, c1, c2, c3, c4, c5, c6, c7, c8, c9, c10, c11, c12, c13⟩
      · rw [hX] at hB'
        simp only [Prod.mk.injEq] at hB'
        obtain ⟨rfl, rfl, rfl, rfl, rfl, rfl, rfl, rfl, rfl, rfl, rfl, rfl, rfl⟩ := hB'
        exact ⟨_, _, _, _, _, _, _, _, _, _, _, _, _, _, _, _, hC, _, _, _, _, _, _, _, _, _, _, _, _, _, _, _, _, _, _, _, _, _, hL, Or.inl ⟨rfl, c1, c2, c3⟩⟩
      · rw [hX] at hB'
        simp only [Prod.mk.injEq] at hB'
        obtain ⟨rfl, rfl, rfl, rfl, rfl, rfl, rfl, rfl, rfl, rfl, rfl, rfl, rfl⟩ := hB'
        refine ⟨_, _, _, _, _, _, _, _, _, _, _, _, _, _, _, _, hC, _, _, _, _, _, _, _, _, _, _, _, _, _, _, _, _, _, _, _, _, _, hL, Or.inr ⟨rfl, rfl, rfl, rfl, rfl, ⟨⟨rfl, hc3, rfl, by omega, rfl, he14⟩, ?_, hcn, ?_, ?_, ?_, ?_, ?_, ?_, ?_⟩, g', c1, by have := s1.gle; have := s2.gle; omega⟩⟩
        · rcases hst with h | ⟨s, hs, h⟩
          · exact Or.inl h
          · exact Or.inr ⟨s, by omega, h⟩
        · intro i hi
          by_cases e : i = m13
          · subst e; rw [upd_s, upd_s]
          · rw [upd_n e, upd_n (by omega)]; exact hpn i (by omega)
        · intro i hi
          by_cases e : i = m13
          · subst e; exact hf4
          · rw [hf4' i (by omega), hff (8 + i) (by omega)]; exact h4a i (by omega)
        · intro i hi1 hi2
          have hi1 : m13 + 1 ≤ i := hi1
          obtain ⟨d1, d2⟩ := h4b i (by omega) hi2
          exact ⟨by rw [hf4' i (by omega)]; exact d1, by show x8 (14 + i) = 0; rw [c5 (14 + i) (by omega)]; exact d2⟩
        · intro i hi1 hi2
          show x8 i = 0
          rw [c5 i (by omega)]; exact h4c i hi1 hi2
        · intro i hi
          have hi : i < m13 + 1 := hi
          by_cases e : i = m13
          · subst e
            show x8 (14 + i) = y4 (8 + i) ∧ x8 (14 + i) ≤ 3 ∧ CI ((14 + i) * 4) (136 + 3 * i) (x8 (14 + i)) x9 x10 x11 y9 y10 y11
            rw [c3, c4]
            exact ⟨rfl, hcnt, c7⟩
          · show x8 (14 + i) = y4 (8 + i) ∧ x8 (14 + i) ≤ 3 ∧ CI ((14 + i) * 4) (136 + 3 * i) (x8 (14 + i)) x9 x10 x11 y9 y10 y11
            obtain ⟨d1, d2, d3⟩ := h4d i (by omega)
            rw [c5 (14 + i) (by omega), c6 (8 + i) (by omega), updN_n (by omega)]
            exact ⟨d1, d2, fun j hj => by rw [c8 _ (by omega), c11 _ (by omega), c9 _ (by omega), c12 _ (by omega), c10 _ (by omega), c13 _ (by omega)]; exact d3 j hj⟩
        · intro i hi
          show x8 i = r7 (14 + i) ∧ x8 i ≤ 4 ∧ CI (i * 4) (80 + 4 * i) (x8 i) x9 x10 x11 y9 y10 y11
          obtain ⟨d1, d2, d3⟩ := h4e i hi
          rw [c5 i (by omega)]
          exact ⟨d1, d2, fun j hj => by rw [c8 _ (by omega), c11 _ (by omega), c9 _ (by omega), c12 _ (by omega), c10 _ (by omega), c13 _ (by omega)]; exact d3 j hj⟩
        · intro i hi
          obtain ⟨d1, d2, d3, d4, d5⟩ := h4f i hi
          exact ⟨d1, by show q5 i < m13 + 1; omega, d3, by show q6 i < m13 + 1; omega, d5⟩
/-- an edge's line -/
theorem lE_0 {f fw : Nat → Int32} (hw : ∀ i, i < 8 → fw i = WW i) (hf : ∀ i, f i ≠ -1) {len : Nat} (hl : len ≤ 900) {nc np ne : Nat} {st0 : Int32} {fcn fpn f4 : Nat → Int32} {q5 q6 : Nat → Nat} {f7 : Nat → Int32} {q8 q9 : Nat → Nat} {f10 f11 f12 f13 f1 f2 f3 : Nat → Int32} {r4 r5 r6 r7 : Nat → Nat} {f8 : Nat → Int32} {r9 r10 : Nat → Nat} {r11 : Nat → Int32} {m12 m13 m14 m15 : Nat}
    (hM : MR_0 nc np ne st0 fcn fpn f4 q5 q6 f7 q8 q9 f10 f11 f1 f2 f3 r4 r5 r6 r7 f8 r9 r10 r11 m12 m13 m14 m15) {fa fat x27 vl tka va at_ : Int32} {G pos be tok : Nat} (ht : TS len G pos 13 vl tka be tok va at_) :
    ∃ u q8' q9' f10' f11' f12' f13' q5' q6' f7' fa' fat' p k v a ne', sp_E_4_readsEdge fa fat len pos 13 vl tka f fw fcn fpn nc np ne q5 q6 f7 q8 q9 f10 f11 f12 f13 = (u, q8', q9', f10', f11', f12', f13', q5', q6', f7', fa', fat', p, k, v, a, ne') ∧ ∃ f1' r10' r11' f2' f3' r4' r5' r6' r7' f8' r9' m12' m13' m14' m15' at' be' tok' va' w wa, sp_EM_readLine_0 len at_ be tok va 0 x27 f1 f2 f3 r4 r5 r6 r7 f8 r9 r10 r11 m12 m13 m14 m15 f = (f1', r10', r11', f2', f3', r4', r5', r6', r7', f8', r9', m12', m13', m14', m15', at', be', tok', va', w, wa) ∧
      ((u = 0 ∧ w ≠ 0 ∧ fa' = nI w ∧ fat' = wa) ∨ (u = 1 ∧ fa' = fa ∧ fat' = fat ∧ w = 0 ∧ wa = x27 ∧ MR_0 nc np ne' st0 fcn fpn f4 q5' q6' f7' q8' q9' f10' f11' f1' f2' f3' r4' r5' r6' r7' f8' r9' r10' r11' m12' m13' m14' m15' ∧ ∃ g, TS len g p k v a be' tok' va' at' ∧ pos ≤ g)) := by
  obtain ⟨⟨rfl, hc3, rfl, hp8, rfl, he14⟩, hst, hcn, hpn, h4a, h4b, h4c, h4d, h4e, h4f⟩ := hM
  obtain ⟨u2, u4, u6, u8⟩ := lw4_0 ht.tok
  rw [if_neg (by decide)] at u2 u4 u6
  rw [if_pos rfl] at u8
  obtain ⟨rfl, rfl, hx⟩ := id ht
  by_cases h14 : m14 = 14
  · subst h14
    have hC : sp_E_4_readsEdge fa fat len be 13 vl at_ f fw fcn fpn m12 m13 14 q5 q6 f7 q8 q9 f10 f11 f12 f13 = (0, q8, q9, f10, f11, f12, f13, q5, q6, f7, 5, at_, be, 13, vl, at_, 14) := by
      simp only [sp_E_4_readsEdge, slet, sp_E_4_refuse, Nat.lt_irrefl, reduceIte]
    have hL : sp_EM_readLine_0 len at_ be tok va 0 x27 f1 f2 f3 r4 r5 r6 r7 f8 r9 r10 r11 m12 m13 14 m15 f = (f1, r10, r11, f2, f3, r4, r5, r6, r7, f8, r9, m12, m13, 14, m15, at_, be, tok, va, 5, at_) := by
      simp only [sp_EM_readLine_0, slet, u2, u4, u6, u8, Nat.one_ne_zero, reduceIte, fails_eq ht.tok, good_n (fk_0 (k := 13) (kind := 5) (by decide))]
      rfl
    exact ⟨_, _, _, _, _, _, _, _, _, _, _, _, _, _, _, _, _, hC, _, _, _, _, _, _, _, _, _, _, _, _, _, _, _, _, _, _, _, _, _, hL, Or.inl ⟨rfl, by decide, rfl, rfl⟩⟩
  have hlt : m14 < 14 := by omega
  obtain ⟨⟨p1, k1, v1, a1⟩, h1⟩ : ∃ x, sp_E_4_advance len be vl f fw = x := ⟨_, rfl⟩
  obtain ⟨t1, w1, g1, n1, s1, l1⟩ := adv_ex hw hf hl ht.le h1
  obtain ⟨⟨y10, y11, y5, y6, y7, y8, y9, y14, y20, y21, y22, y23, y26, y27⟩, e3⟩ : ∃ x, sp_EM_readEdge_0 len a1 p1 t1 w1 0 x27 f1 f2 r5 r6 r7 f8 r9 r10 r11 m12 m13 m14 f = x := ⟨_, rfl⟩
  have hL : sp_EM_readLine_0 len at_ be tok va 0 x27 f1 f2 f3 r4 r5 r6 r7 f8 r9 r10 r11 m12 m13 m14 m15 f = (f1, y10, y11, f2, f3, r4, y5, y6, y7, y8, y9, m12, m13, y14, m15, y20, y21, y22, y23, y26, y27) := by
    simp only [sp_EM_readLine_0, slet, u2, u4, u6, u8, Nat.one_ne_zero, reduceIte, if_neg h14, good_0, n1, e3]
  obtain ⟨⟨ua, fa1, fat1⟩, h2⟩ : ∃ x, sp_E_4_toldName_p fa fat k1 v1 a1 fpn m13 = x := ⟨_, rfl⟩
  obtain ⟨⟨c, at1, be1, tok1, va1, w, wa⟩, e2⟩ : ∃ x, sp_EM_toldPlace_0 len a1 p1 t1 w1 0 x27 f2 m13 f = x := ⟨_, rfl⟩
  rcases tp_0 s1.tok hpn h2 e2 with ⟨rfl, b1, b2, b3⟩ | ⟨rfl, hc, rfl, rfl, rfl, rfl, b4⟩
  · have hC : sp_E_4_readsEdge fa fat len be 13 vl at_ f fw fcn fpn m12 m13 m14 q5 q6 f7 q8 q9 f10 f11 f12 f13 = (0, q8, q9, f10, f11, f12, f13, q5, q6, f7, fa1, fat1, p1, k1, v1, a1, m14) := by
      simp only [sp_E_4_readsEdge, slet, if_pos hlt, h1, h2, reduceIte]
    have e4 : sp_EM_readEdge_0 len a1 p1 t1 w1 0 x27 f1 f2 r5 r6 r7 f8 r9 r10 r11 m12 m13 m14 f = (r10, r11, updN r5 (0 + m14) c, updN r6 (0 + m14) 0, updN r7 (0 + m14) 0, upd f8 (0 + m14) 0, r9, m14 + 1, at1, be1, tok1, va1, w, wa) := by
      simp only [sp_EM_readEdge_0, slet, e2, good_n b1, reduceIte, l3_out_0 b1]
    rw [e3] at e4
    simp only [Prod.mk.injEq] at e4
    obtain ⟨rfl, rfl, rfl, rfl, rfl, rfl, rfl, rfl, rfl, rfl, rfl, rfl, rfl, rfl⟩ := e4
    exact ⟨_, _, _, _, _, _, _, _, _, _, _, _, _, _, _, _, _, hC, _, _, _, _, _, _, _, _, _, _, _, _, _, _, _, _, _, _, _, _, _, hL, Or.inl ⟨rfl, b1, b2, b3⟩⟩
  obtain ⟨⟨p2, k2, v2, a2⟩, h5⟩ : ∃ x, sp_E_4_advance len p1 v1 f fw = x := ⟨_, rfl⟩
  obtain ⟨t2, w2, g2, n2, s2, l2⟩ := adv_ex hw hf hl s1.le h5
  rw [n2] at b4
  simp only [Prod.mk.injEq] at b4
  obtain ⟨rfl, rfl, rfl, rfl⟩ := b4
  obtain ⟨⟨ub, fa2, fat2⟩, h6⟩ : ∃ x, sp_E_4_toldName_p fa1 fat1 k2 v2 a2 fpn m13 = x := ⟨_, rfl⟩
  obtain ⟨⟨d, at3, be3, tok3, va3, w', wa'⟩, e6⟩ : ∃ x, sp_EM_toldPlace_0 len a2 p2 t2 w2 0 wa f2 m13 f = x := ⟨_, rfl⟩
  rcases tp_0 s2.tok hpn h6 e6 with ⟨rfl, b1, b2, b3⟩ | ⟨rfl, hd, rfl, rfl, rfl, rfl, b4⟩
  · have hC : sp_E_4_readsEdge fa1 fat1 len be 13 vl at_ f fw fcn fpn m12 m13 m14 q5 q6 f7 q8 q9 f10 f11 f12 f13 = (0, q8, q9, f10, f11, f12, f13, q5, q6, f7, fa2, fat2, p2, k2, v2, a2, m14) := by
      simp only [sp_E_4_readsEdge, slet, if_pos hlt, h1, h2, reduceIte, Nat.add_one_ne_zero, h5, h6]
    have e4 : sp_EM_readEdge_0 len a1 p1 t1 w1 0 wa f1 f2 r5 r6 r7 f8 r9 r10 r11 m12 m13 m14 f = (r10, r11, updN r5 (0 + m14) c, updN r6 (0 + m14) d, updN r7 (0 + m14) 0, upd f8 (0 + m14) 0, r9, m14 + 1, at3, be3, tok3, va3, w', wa') := by
      simp only [sp_EM_readEdge_0, slet, e2, good_0, Nat.one_ne_zero, reduceIte, e6, l3_out_0 b1]
    rw [e3] at e4
    simp only [Prod.mk.injEq] at e4
    obtain ⟨rfl, rfl, rfl, rfl, rfl, rfl, rfl, rfl, rfl, rfl, rfl, rfl, rfl, rfl⟩ := e4
    exact ⟨_, _, _, _, _, _, _, _, _, _, _, _, _, _, _, _, _, hC, _, _, _, _, _, _, _, _, _, _, _, _, _, _, _, _, _, _, _, _, _, hL, Or.inl ⟨rfl, b1, b2, b3⟩⟩
  obtain ⟨⟨p3, k3, v3, a3⟩, h7⟩ : ∃ x, sp_E_4_advance len p2 v2 f fw = x := ⟨_, rfl⟩
  obtain ⟨t3, w3, g3, n3, s3, l3⟩ := adv_ex hw hf hl s2.le h7
  rw [n3] at b4
  simp only [Prod.mk.injEq] at b4
  obtain ⟨rfl, rfl, rfl, rfl⟩ := b4
  have e4 : sp_EM_readEdge_0 len a1 p1 t1 w1 0 wa' f1 f2 r5 r6 r7 f8 r9 r10 r11 m12 m13 m14 f = itrv default (sp_EM_readEdge_0_L3 len f1 m12 m14 f (updN r5 (0 + m14) c) (updN r6 (0 + m14) d) (upd f8 (0 + m14) 0)) (r10, r11, updN r7 (0 + m14) 0, r9, a3, p3, t3, w3, 0, wa') := by
    simp only [sp_EM_readEdge_0, slet, e2, good_0, Nat.one_ne_zero, reduceIte, e6]
  rw [e3] at e4
  obtain ⟨u, x8, x9, x10, x11, x12, x13, fa', fat', p, k, v, a, hA, hR⟩ := cs14_0 hw hf hl hc3 hcn fa2 fat2 wa' g3 (updN r5 (0 + m14) c) (updN r6 (0 + m14) d) (upd f8 (0 + m14) 0) q8 q9 f10 f11 f12 f13 (updN r7 (0 + m14) 0) r9 r10 r11 (h4c m14 (Nat.le_refl _) hlt) updN_s s3
  rcases hR with ⟨rfl, o10, o11, o7, o8, o9, oe, at', be', tok', va', w'', wa'', hX, c1, c2, c3⟩ | ⟨rfl, rfl, rfl, hk14, cnt, o10, o11, o7, o9, at', be', tok', va', g', hcnt, hX, c1, c2, c3, c4, c5, c6, c7, c8, c9, c10, c11, c12, c13⟩
  · have hC : sp_E_4_readsEdge fa2 fat2 len be 13 vl at_ f fw fcn fpn m12 m13 m14 q5 q6 f7 q8 q9 f10 f11 f12 f13 = (0, x8, x9, x10, x11, x12, x13, updN q5 m14 c, updN q6 m14 d, upd f7 m14 0, fa', fat', p, k, v, a, m14 + 1) := by
      simp only [sp_E_4_readsEdge, slet, if_pos hlt, h1, h2, reduceIte, Nat.add_one_ne_zero, h5, h6, h7, sp_E_0_addEdge, Nat.add_sub_cancel, hA]
    rw [hX] at e4
    simp only [Prod.mk.injEq] at e4
    obtain ⟨rfl, rfl, rfl, rfl, rfl, rfl, rfl, rfl, rfl, rfl, rfl, rfl, rfl, rfl⟩ := e4
    exact ⟨_, _, _, _, _, _, _, _, _, _, _, _, _, _, _, _, _, hC, _, _, _, _, _, _, _, _, _, _, _, _, _, _, _, _, _, _, _, _, _, hL, Or.inl ⟨rfl, c1, c2, c3⟩⟩
  obtain ⟨u', z7, fb', fbt', p', k', v', a', hA2, hR2⟩ := rs_0 hw hf hl hc3 hcn fa' fat' wa' g' (upd f7 m14 0) (upd f8 (0 + m14) 0) (ne := m14) upd_s upd_s c1
  rw [hX] at e4
  rcases hR2 with ⟨rfl, at5, be5, tok5, va5, w5, wa5, z8, hY, d1, d2, d3⟩ | ⟨rfl, rfl, rfl, hk15, at5, be5, tok5, va5, z8, g5, hY, d1, d2, d3, d4, d5⟩
  · have hC : sp_E_4_readsEdge fa' fat' len be 13 vl at_ f fw fcn fpn m12 m13 m14 q5 q6 f7 q8 q9 f10 f11 f12 f13 = (0, x8, x9, x10, x11, x12, x13, updN q5 m14 c, updN q6 m14 d, z7, fb', fbt', p', k', v', a', m14 + 1) := by
      simp only [sp_E_4_readsEdge, slet, if_pos hlt, h1, h2, reduceIte, Nat.add_one_ne_zero, h5, h6, h7, sp_E_0_addEdge, Nat.add_sub_cancel, hA, Nat.one_ne_zero, hA2]
    unfold restE_0 at e4
    rw [hY] at e4
    simp only [Prod.mk.injEq] at e4
    obtain ⟨rfl, rfl, rfl, rfl, rfl, rfl, rfl, rfl, rfl, rfl, rfl, rfl, rfl, rfl⟩ := e4
    exact ⟨_, _, _, _, _, _, _, _, _, _, _, _, _, _, _, _, _, hC, _, _, _, _, _, _, _, _, _, _, _, _, _, _, _, _, _, _, _, _, _, hL, Or.inl ⟨rfl, d1, d2, d3⟩⟩
  have hC : sp_E_4_readsEdge fb' fbt' len be 13 vl at_ f fw fcn fpn m12 m13 m14 q5 q6 f7 q8 q9 f10 f11 f12 f13 = (1, x8, x9, x10, x11, x12, x13, updN q5 m14 c, updN q6 m14 d, z7, fb', fbt', p', k', v', a', m14 + 1) := by
    simp only [sp_E_4_readsEdge, slet, if_pos hlt, h1, h2, reduceIte, Nat.add_one_ne_zero, h5, h6, h7, sp_E_0_addEdge, Nat.add_sub_cancel, hA, Nat.one_ne_zero, hA2]
  unfold restE_0 at e4
  rw [hY] at e4
  simp only [Prod.mk.injEq] at e4
  obtain ⟨rfl, rfl, rfl, rfl, rfl, rfl, rfl, rfl, rfl, rfl, rfl, rfl, rfl, rfl⟩ := e4
  refine ⟨_, _, _, _, _, _, _, _, _, _, _, _, _, _, _, _, _, hC, _, _, _, _, _, _, _, _, _, _, _, _, _, _, _, _, _, _, _, _, _, hL, Or.inr ⟨rfl, rfl, rfl, rfl, rfl, ⟨⟨rfl, hc3, rfl, hp8, rfl, by omega⟩, hst, hcn, hpn, h4a, ?_, ?_, ?_, ?_, ?_⟩, g5, d1, by have := s1.gle; have := s2.gle; have := s3.gle; omega⟩⟩
  · intro i hi1 hi2
    obtain ⟨d1, d2⟩ := h4b i hi1 hi2
    exact ⟨d1, by rw [c5 (14 + i) (by omega)]; exact d2⟩
  · intro i hi1 hi2
    have hi1 : m14 + 1 ≤ i := hi1
    rw [c5 i (by omega)]; exact h4c i (by omega) hi2
  · intro i hi
    obtain ⟨d1, d2, d3⟩ := h4d i hi
    rw [c5 (14 + i) (by omega)]
    exact ⟨d1, d2, fun j hj => by rw [c8 _ (by omega), c11 _ (by omega), c9 _ (by omega), c12 _ (by omega), c10 _ (by omega), c13 _ (by omega)]; exact d3 j hj⟩
  · intro i hi
    have hi : i < m14 + 1 := hi
    by_cases e : i = m14
    · subst e
      rw [c3, c4]
      exact ⟨rfl, hcnt, c7⟩
    · obtain ⟨d1, d2, d3⟩ := h4e i (by omega)
      rw [c5 i (by omega), c6 (0 + i) (by omega), updN_n (by omega)]
      exact ⟨d1, d2, fun j hj => by rw [c8 _ (by omega), c11 _ (by omega), c9 _ (by omega), c12 _ (by omega), c10 _ (by omega), c13 _ (by omega)]; exact d3 j hj⟩
  · intro i hi
    have hi : i < m14 + 1 := hi
    by_cases e : i = m14
    · subst e
      rw [updN_s, updN_s, updN_s, updN_s]
      exact ⟨rfl, hc, rfl, hd, d3⟩
    · have e' : 0 + i ≠ 0 + m14 := by omega
      rw [updN_n e, updN_n e', updN_n e, updN_n e', d4 i (by omega), d5 (0 + i) (by omega), upd_n e, upd_n e']
      exact h4f i (by omega)
/-- an edge's line -/
theorem lE_1 {f fw : Nat → Int32} (hw : ∀ i, i < 8 → fw i = WW i) (hf : ∀ i, f i ≠ -1) {len : Nat} (hl : len ≤ 900) {nc np ne : Nat} {st0 : Int32} {fcn fpn f4 : Nat → Int32} {q5 q6 : Nat → Nat} {f7 : Nat → Int32} {q8 q9 : Nat → Nat} {f10 f11 f12 f13 f1 f2 f3 : Nat → Int32} {r4 r5 r6 r7 : Nat → Nat} {f8 : Nat → Int32} {r9 r10 : Nat → Nat} {r11 : Nat → Int32} {m12 m13 m14 m15 : Nat}
    (hM : MR_1 nc np ne st0 fcn fpn f4 q5 q6 f7 q8 q9 f10 f11 f1 f2 f3 r4 r5 r6 r7 f8 r9 r10 r11 m12 m13 m14 m15) {fa fat x27 vl tka va at_ : Int32} {G pos be tok : Nat} (ht : TS len G pos 13 vl tka be tok va at_) :
    ∃ u q8' q9' f10' f11' f12' f13' q5' q6' f7' fa' fat' p k v a ne', sp_E_4_readsEdge fa fat len pos 13 vl tka f fw fcn fpn nc np ne q5 q6 f7 q8 q9 f10 f11 f12 f13 = (u, q8', q9', f10', f11', f12', f13', q5', q6', f7', fa', fat', p, k, v, a, ne') ∧ ∃ f1' r10' r11' f2' f3' r4' r5' r6' r7' f8' r9' m12' m13' m14' m15' at' be' tok' va' w wa, sp_EM_readLine_1 len at_ be tok va 0 x27 f1 f2 f3 r4 r5 r6 r7 f8 r9 r10 r11 m12 m13 m14 m15 f = (f1', r10', r11', f2', f3', r4', r5', r6', r7', f8', r9', m12', m13', m14', m15', at', be', tok', va', w, wa) ∧
      ((u = 0 ∧ w ≠ 0 ∧ fa' = nI w ∧ fat' = wa) ∨ (u = 1 ∧ fa' = fa ∧ fat' = fat ∧ w = 0 ∧ wa = x27 ∧ MR_1 nc np ne' st0 fcn fpn f4 q5' q6' f7' q8' q9' f10' f11' f1' f2' f3' r4' r5' r6' r7' f8' r9' r10' r11' m12' m13' m14' m15' ∧ ∃ g, TS len g p k v a be' tok' va' at' ∧ pos ≤ g)) := by
  obtain ⟨⟨rfl, hc3, rfl, hp8, rfl, he14⟩, hst, hcn, hpn, h4a, h4b, h4c, h4d, h4e, h4f⟩ := hM
  obtain ⟨u2, u4, u6, u8⟩ := lw4_1 ht.tok
  rw [if_neg (by decide)] at u2 u4 u6
  rw [if_pos rfl] at u8
  obtain ⟨rfl, rfl, hx⟩ := id ht
  by_cases h14 : m14 = 14
  · subst h14
    have hC : sp_E_4_readsEdge fa fat len be 13 vl at_ f fw fcn fpn m12 m13 14 q5 q6 f7 q8 q9 f10 f11 f12 f13 = (0, q8, q9, f10, f11, f12, f13, q5, q6, f7, 5, at_, be, 13, vl, at_, 14) := by
      simp only [sp_E_4_readsEdge, slet, sp_E_4_refuse, Nat.lt_irrefl, reduceIte]
    have hL : sp_EM_readLine_1 len at_ be tok va 0 x27 f1 f2 f3 r4 r5 r6 r7 f8 r9 r10 r11 m12 m13 14 m15 f = (f1, r10, r11, f2, f3, r4, r5, r6, r7, f8, r9, m12, m13, 14, m15, at_, be, tok, va, 5, at_) := by
      simp only [sp_EM_readLine_1, slet, u2, u4, u6, u8, Nat.one_ne_zero, reduceIte, fails_eq ht.tok, good_n (fk_0 (k := 13) (kind := 5) (by decide))]
      rfl
    exact ⟨_, _, _, _, _, _, _, _, _, _, _, _, _, _, _, _, _, hC, _, _, _, _, _, _, _, _, _, _, _, _, _, _, _, _, _, _, _, _, _, hL, Or.inl ⟨rfl, by decide, rfl, rfl⟩⟩
  have hlt : m14 < 14 := by omega
  obtain ⟨⟨p1, k1, v1, a1⟩, h1⟩ : ∃ x, sp_E_4_advance len be vl f fw = x := ⟨_, rfl⟩
  obtain ⟨t1, w1, g1, n1, s1, l1⟩ := adv_ex hw hf hl ht.le h1
  obtain ⟨⟨y10, y11, y5, y6, y7, y8, y9, y14, y20, y21, y22, y23, y26, y27⟩, e3⟩ : ∃ x, sp_EM_readEdge_1 len a1 p1 t1 w1 0 x27 f1 f2 r5 r6 r7 f8 r9 r10 r11 m12 m13 m14 f = x := ⟨_, rfl⟩
  have hL : sp_EM_readLine_1 len at_ be tok va 0 x27 f1 f2 f3 r4 r5 r6 r7 f8 r9 r10 r11 m12 m13 m14 m15 f = (f1, y10, y11, f2, f3, r4, y5, y6, y7, y8, y9, m12, m13, y14, m15, y20, y21, y22, y23, y26, y27) := by
    simp only [sp_EM_readLine_1, slet, u2, u4, u6, u8, Nat.one_ne_zero, reduceIte, if_neg h14, good_0, n1, e3]
  obtain ⟨⟨ua, fa1, fat1⟩, h2⟩ : ∃ x, sp_E_4_toldName_p fa fat k1 v1 a1 fpn m13 = x := ⟨_, rfl⟩
  obtain ⟨⟨c, at1, be1, tok1, va1, w, wa⟩, e2⟩ : ∃ x, sp_EM_toldPlace_1 len a1 p1 t1 w1 0 x27 f2 m13 f = x := ⟨_, rfl⟩
  rcases tp_1 s1.tok hpn h2 e2 with ⟨rfl, b1, b2, b3⟩ | ⟨rfl, hc, rfl, rfl, rfl, rfl, b4⟩
  · have hC : sp_E_4_readsEdge fa fat len be 13 vl at_ f fw fcn fpn m12 m13 m14 q5 q6 f7 q8 q9 f10 f11 f12 f13 = (0, q8, q9, f10, f11, f12, f13, q5, q6, f7, fa1, fat1, p1, k1, v1, a1, m14) := by
      simp only [sp_E_4_readsEdge, slet, if_pos hlt, h1, h2, reduceIte]
    have e4 : sp_EM_readEdge_1 len a1 p1 t1 w1 0 x27 f1 f2 r5 r6 r7 f8 r9 r10 r11 m12 m13 m14 f = (r10, r11, updN r5 (14 + m14) c, updN r6 (14 + m14) 0, updN r7 (14 + m14) 0, upd f8 (14 + m14) 0, r9, m14 + 1, at1, be1, tok1, va1, w, wa) := by
      simp only [sp_EM_readEdge_1, slet, e2, good_n b1, reduceIte, l3_out_1 b1]
    rw [e3] at e4
    simp only [Prod.mk.injEq] at e4
    obtain ⟨rfl, rfl, rfl, rfl, rfl, rfl, rfl, rfl, rfl, rfl, rfl, rfl, rfl, rfl⟩ := e4
    exact ⟨_, _, _, _, _, _, _, _, _, _, _, _, _, _, _, _, _, hC, _, _, _, _, _, _, _, _, _, _, _, _, _, _, _, _, _, _, _, _, _, hL, Or.inl ⟨rfl, b1, b2, b3⟩⟩
  obtain ⟨⟨p2, k2, v2, a2⟩, h5⟩ : ∃ x, sp_E_4_advance len p1 v1 f fw = x := ⟨_, rfl⟩
  obtain ⟨t2, w2, g2, n2, s2, l2⟩ := adv_ex hw hf hl s1.le h5
  rw [n2] at b4
  simp only [Prod.mk.injEq] at b4
  obtain ⟨rfl, rfl, rfl, rfl⟩ := b4
  obtain ⟨⟨ub, fa2, fat2⟩, h6⟩ : ∃ x, sp_E_4_toldName_p fa1 fat1 k2 v2 a2 fpn m13 = x := ⟨_, rfl⟩
  obtain ⟨⟨d, at3, be3, tok3, va3, w', wa'⟩, e6⟩ : ∃ x, sp_EM_toldPlace_1 len a2 p2 t2 w2 0 wa f2 m13 f = x := ⟨_, rfl⟩
  rcases tp_1 s2.tok hpn h6 e6 with ⟨rfl, b1, b2, b3⟩ | ⟨rfl, hd, rfl, rfl, rfl, rfl, b4⟩
  · have hC : sp_E_4_readsEdge fa1 fat1 len be 13 vl at_ f fw fcn fpn m12 m13 m14 q5 q6 f7 q8 q9 f10 f11 f12 f13 = (0, q8, q9, f10, f11, f12, f13, q5, q6, f7, fa2, fat2, p2, k2, v2, a2, m14) := by
      simp only [sp_E_4_readsEdge, slet, if_pos hlt, h1, h2, reduceIte, Nat.add_one_ne_zero, h5, h6]
    have e4 : sp_EM_readEdge_1 len a1 p1 t1 w1 0 wa f1 f2 r5 r6 r7 f8 r9 r10 r11 m12 m13 m14 f = (r10, r11, updN r5 (14 + m14) c, updN r6 (14 + m14) d, updN r7 (14 + m14) 0, upd f8 (14 + m14) 0, r9, m14 + 1, at3, be3, tok3, va3, w', wa') := by
      simp only [sp_EM_readEdge_1, slet, e2, good_0, Nat.one_ne_zero, reduceIte, e6, l3_out_1 b1]
    rw [e3] at e4
    simp only [Prod.mk.injEq] at e4
    obtain ⟨rfl, rfl, rfl, rfl, rfl, rfl, rfl, rfl, rfl, rfl, rfl, rfl, rfl, rfl⟩ := e4
    exact ⟨_, _, _, _, _, _, _, _, _, _, _, _, _, _, _, _, _, hC, _, _, _, _, _, _, _, _, _, _, _, _, _, _, _, _, _, _, _, _, _, hL, Or.inl ⟨rfl, b1, b2, b3⟩⟩
  obtain ⟨⟨p3, k3, v3, a3⟩, h7⟩ : ∃ x, sp_E_4_advance len p2 v2 f fw = x := ⟨_, rfl⟩
  obtain ⟨t3, w3, g3, n3, s3, l3⟩ := adv_ex hw hf hl s2.le h7
  rw [n3] at b4
  simp only [Prod.mk.injEq] at b4
  obtain ⟨rfl, rfl, rfl, rfl⟩ := b4
  have e4 : sp_EM_readEdge_1 len a1 p1 t1 w1 0 wa' f1 f2 r5 r6 r7 f8 r9 r10 r11 m12 m13 m14 f = itrv default (sp_EM_readEdge_1_L3 len f1 m12 m14 f (updN r5 (14 + m14) c) (updN r6 (14 + m14) d) (upd f8 (14 + m14) 0)) (r10, r11, updN r7 (14 + m14) 0, r9, a3, p3, t3, w3, 0, wa') := by
    simp only [sp_EM_readEdge_1, slet, e2, good_0, Nat.one_ne_zero, reduceIte, e6]
  rw [e3] at e4
  obtain ⟨u, x8, x9, x10, x11, x12, x13, fa', fat', p, k, v, a, hA, hR⟩ := cs14_1 hw hf hl hc3 hcn fa2 fat2 wa' g3 (updN r5 (14 + m14) c) (updN r6 (14 + m14) d) (upd f8 (14 + m14) 0) q8 q9 f10 f11 f12 f13 (updN r7 (14 + m14) 0) r9 r10 r11 (h4c m14 (Nat.le_refl _) hlt) updN_s s3
  rcases hR with ⟨rfl, o10, o11, o7, o8, o9, oe, at', be', tok', va', w'', wa'', hX, c1, c2, c3⟩ | ⟨rfl, rfl, rfl, hk14, cnt, o10, o11, o7, o9, at', be', tok', va', g', hcnt, hX, c1, c2, c3, c4, c5, c6, c7, c8, c9, c10, c11, c12, c13⟩
  · have hC : sp_E_4_readsEdge fa2 fat2 len be 13 vl at_ f fw fcn fpn m12 m13 m14 q5 q6 f7 q8 q9 f10 f11 f12 f13 = (0, x8, x9, x10, x11, x12, x13, updN q5 m14 c, updN q6 m14 d, upd f7 m14 0, fa', fat', p, k, v, a, m14 + 1) := by
      simp only [sp_E_4_readsEdge, slet, if_pos hlt, h1, h2, reduceIte, Nat.add_one_ne_zero, h5, h6, h7, sp_E_0_addEdge, Nat.add_sub_cancel, hA]
    rw [hX] at e4
    simp only [Prod.mk.injEq] at e4
    obtain ⟨rfl, rfl, rfl, rfl, rfl, rfl, rfl, rfl, rfl, rfl, rfl, rfl, rfl, rfl⟩ := e4
    exact ⟨_, _, _, _, _, _, _, _, _, _, _, _, _, _, _, _, _, hC, _, _, _, _, _, _, _, _, _, _, _, _, _, _, _, _, _, _, _, _, _, hL, Or.inl ⟨rfl, c1, c2, c3⟩⟩
  obtain ⟨u', z7, fb', fbt', p', k', v', a', hA2, hR2⟩ := rs_1 hw hf hl hc3 hcn fa' fat' wa' g' (upd f7 m14 0) (upd f8 (14 + m14) 0) (ne := m14) upd_s upd_s c1
  rw [hX] at e4
  rcases hR2 with ⟨rfl, at5, be5, tok5, va5, w5, wa5, z8, hY, d1, d2, d3⟩ | ⟨rfl, rfl, rfl, hk15, at5, be5, tok5, va5, z8, g5, hY, d1, d2, d3, d4, d5⟩
  · have hC : sp_E_4_readsEdge fa' fat' len be 13 vl at_ f fw fcn fpn m12 m13 m14 q5 q6 f7 q8 q9 f10 f11 f12 f13 = (0, x8, x9, x10, x11, x12, x13, updN q5 m14 c, updN q6 m14 d, z7, fb', fbt', p', k', v', a', m14 + 1) := by
      simp only [sp_E_4_readsEdge, slet, if_pos hlt, h1, h2, reduceIte, Nat.add_one_ne_zero, h5, h6, h7, sp_E_0_addEdge, Nat.add_sub_cancel, hA, Nat.one_ne_zero, hA2]
    unfold restE_1 at e4
    rw [hY] at e4
    simp only [Prod.mk.injEq] at e4
    obtain ⟨rfl, rfl, rfl, rfl, rfl, rfl, rfl, rfl, rfl, rfl, rfl, rfl, rfl, rfl⟩ := e4
    exact ⟨_, _, _, _, _, _, _, _, _, _, _, _, _, _, _, _, _, hC, _, _, _, _, _, _, _, _, _, _, _, _, _, _, _, _, _, _, _, _, _, hL, Or.inl ⟨rfl, d1, d2, d3⟩⟩
  have hC : sp_E_4_readsEdge fb' fbt' len be 13 vl at_ f fw fcn fpn m12 m13 m14 q5 q6 f7 q8 q9 f10 f11 f12 f13 = (1, x8, x9, x10, x11, x12, x13, updN q5 m14 c, updN q6 m14 d, z7, fb', fbt', p', k', v', a', m14 + 1) := by
    simp only [sp_E_4_readsEdge, slet, if_pos hlt, h1, h2, reduceIte, Nat.add_one_ne_zero, h5, h6, h7, sp_E_0_addEdge, Nat.add_sub_cancel, hA, Nat.one_ne_zero, hA2]
  unfold restE_1 at e4
  rw [hY] at e4
  simp only [Prod.mk.injEq] at e4
  obtain ⟨rfl, rfl, rfl, rfl, rfl, rfl, rfl, rfl, rfl, rfl, rfl, rfl, rfl, rfl⟩ := e4
  refine ⟨_, _, _, _, _, _, _, _, _, _, _, _, _, _, _, _, _, hC, _, _, _, _, _, _, _, _, _, _, _, _, _, _, _, _, _, _, _, _, _, hL, Or.inr ⟨rfl, rfl, rfl, rfl, rfl, ⟨⟨rfl, hc3, rfl, hp8, rfl, by omega⟩, hst, hcn, hpn, h4a, ?_, ?_, ?_, ?_, ?_⟩, g5, d1, by have := s1.gle; have := s2.gle; have := s3.gle; omega⟩⟩
  · intro i hi1 hi2
    obtain ⟨d1, d2⟩ := h4b i hi1 hi2
    exact ⟨d1, by rw [c5 (14 + i) (by omega)]; exact d2⟩
  · intro i hi1 hi2
    have hi1 : m14 + 1 ≤ i := hi1
    rw [c5 i (by omega)]; exact h4c i (by omega) hi2
  · intro i hi
    obtain ⟨d1, d2, d3⟩ := h4d i hi
    rw [c5 (14 + i) (by omega)]
    exact ⟨d1, d2, fun j hj => by rw [c8 _ (by omega), c11 _ (by omega), c9 _ (by omega), c12 _ (by omega), c10 _ (by omega), c13 _ (by omega)]; exact d3 j hj⟩
  · intro i hi
    have hi : i < m14 + 1 := hi
    by_cases e : i = m14
    · subst e
      rw [c3, c4]
      exact ⟨rfl, hcnt, c7⟩
    · obtain ⟨d1, d2, d3⟩ := h4e i (by omega)
      rw [c5 i (by omega), c6 (14 + i) (by omega), updN_n (by omega)]
      exact ⟨d1, d2, fun j hj => by rw [c8 _ (by omega), c11 _ (by omega), c9 _ (by omega), c12 _ (by omega), c10 _ (by omega), c13 _ (by omega)]; exact d3 j hj⟩
  · intro i hi
    have hi : i < m14 + 1 := hi
    by_cases e : i = m14
    · subst e
      rw [updN_s, updN_s, updN_s, updN_s]
      exact ⟨rfl, hc, rfl, hd, d3⟩
    · have e' : 14 + i ≠ 14 + m14 := by omega
      rw [updN_n e, updN_n e', updN_n e, updN_n e', d4 i (by omega), d5 (14 + i) (by omega), upd_n e, upd_n e']
      exact h4f i (by omega)
theorem la_out_0 {len : Nat} {f f1 : Nat → Int32} {r10 : Nat → Nat} {r11 f2 f3 : Nat → Int32} {r4 r5 r6 r7 : Nat → Nat} {f8 : Nat → Int32} {r9 : Nat → Nat} {m12 m13 m14 m15 : Nat} {at_ : Int32} {be tok : Nat} {va : Int32} {w : Nat} {wa : Int32} (h : w ≠ 0) : itrv default (sp_EM_automaton_L2 len f) (f1, r10, r11, f2, f3, r4, r5, r6, r7, f8, r9, m12, m13, m14, m15, at_, be, tok, va, w, wa) = (at_, be, tok, va, w, wa, f1, f2, f3, r4, r5, r6, r7, f8, r9, r10, r11, m12, m13, m14, m15) := itrv_inr (by simp [sp_EM_automaton_L2, slet, good_n h])
/-- a line that begins with none of the four words -/
theorem lO_0 {len : Nat} {f f1 f2 f3 : Nat → Int32} {r4 r5 r6 r7 : Nat → Nat} {f8 : Nat → Int32} {r9 r10 : Nat → Nat} {r11 : Nat → Int32} {m12 m13 m14 m15 : Nat} {x27 vl tka va at_ : Int32} {G pos k be tok : Nat} (ht : TS len G pos k vl tka be tok va at_) (h1 : k ≠ 8) (h2 : k ≠ 9) (h3 : k ≠ 12) (h4 : k ≠ 13) :
    sp_EM_readLine_0 len at_ be tok va 0 x27 f1 f2 f3 r4 r5 r6 r7 f8 r9 r10 r11 m12 m13 m14 m15 f = (f1, r10, r11, f2, f3, r4, r5, r6, r7, f8, r9, m12, m13, m14, m15, at_, be, tok, va, fk k 2, at_) := by
  obtain ⟨u2, u4, u6, u8⟩ := lw4_0 ht.tok
  rw [if_neg h1] at u2
  rw [if_neg h2] at u4
  rw [if_neg h3] at u6
  rw [if_neg h4] at u8
  simp only [sp_EM_readLine_0, slet, u2, u4, u6, u8, reduceIte, fails_eq ht.tok, good_n (fk_0 (k := k) (kind := 2) (by decide))]
abbrev LR_0 (len : Nat) (x27 : Int32) (t : (Nat → Nat) × (Nat → Nat) × (Nat → Int32) × (Nat → Int32) × (Nat → Int32) × (Nat → Int32) × (Nat → Int32) × (Nat → Int32) × (Nat → Int32) × (Nat → Nat) × (Nat → Nat) × (Nat → Int32) × Int32 × Int32 × Nat × Nat × Int32 × Int32 × Nat × Nat × Nat × Int32 × Nat) (t' : (Nat → Int32) × (Nat → Nat) × (Nat → Int32) × (Nat → Int32) × (Nat → Int32) × (Nat → Nat) × (Nat → Nat) × (Nat → Nat) × (Nat → Nat) × (Nat → Int32) × (Nat → Nat) × Nat × Nat × Nat × Nat × Int32 × Nat × Nat × Int32 × Nat × Int32) : Prop := ∃ q8 q9 f10 f11 f12 f13 fcn fpn f4 q5 q6 f7 p k v a nc np ne st0 line f1 r10 r11 f2 f3 r4 r5 r6 r7 f8 r9 m12 m13 m14 m15 at_ be tok va g, t = (q8, q9, f10, f11, f12, f13, fcn, fpn, f4, q5, q6, f7, 0, -1, p, k, v, a, nc, np, ne, st0, line) ∧ t' = (f1, r10, r11, f2, f3, r4, r5, r6, r7, f8, r9, m12, m13, m14, m15, at_, be, tok, va, 0, x27) ∧ MR_0 nc np ne st0 fcn fpn f4 q5 q6 f7 q8 q9 f10 f11 f1 f2 f3 r4 r5 r6 r7 f8 r9 r10 r11 m12 m13 m14 m15 ∧ TS len g p k v a be tok va at_ ∧ line ≤ g
abbrev LQ_0 (x27 : Int32) (b : Nat × (Nat → Nat) × (Nat → Nat) × (Nat → Int32) × (Nat → Int32) × (Nat → Int32) × (Nat → Int32) × (Nat → Int32) × (Nat → Int32) × (Nat → Int32) × (Nat → Int32) × (Nat → Int32) × (Nat → Int32) × (Nat → Nat) × (Nat → Nat) × (Nat → Int32) × Int32 × Int32 × Nat × Nat × Nat × Int32 × Int32 × Nat × Nat × Nat × Int32) (X : Int32 × Nat × Nat × Int32 × Nat × Int32 × (Nat → Int32) × (Nat → Int32) × (Nat → Int32) × (Nat → Nat) × (Nat → Nat) × (Nat → Nat) × (Nat → Nat) × (Nat → Int32) × (Nat → Nat) × (Nat → Nat) × (Nat → Int32) × Nat × Nat × Nat × Nat) : Prop := ∃ u q8 q9 f10 f11 f12 f13 f14' f15' f16' fcn fpn f4 q5 q6 f7 fa fat ln p k v a nc np ne st0, b = (u, q8, q9, f10, f11, f12, f13, f14', f15', f16', fcn, fpn, f4, q5, q6, f7, fa, fat, ln, p, k, v, a, nc, np, ne, st0) ∧
      ∃ at_ be tok va w wa f1 f2 f3 r4 r5 r6 r7 f8 r9 r10 r11 m12 m13 m14 m15, X = (at_, be, tok, va, w, wa, f1, f2, f3, r4, r5, r6, r7, f8, r9, r10, r11, m12, m13, m14, m15) ∧
      ((u = 0 ∧ w ≠ 0 ∧ fa = nI w ∧ fat = wa) ∨ (u = 0 ∧ w = 0 ∧ m13 = 0 ∧ tok = 0 ∧ fa = 6 ∧ fat = at_) ∨ (u = 1 ∧ w = 0 ∧ wa = x27 ∧ fa = 0 ∧ fat = -1 ∧ m13 ≠ 0 ∧ ∃ s0, MR_0 nc np ne s0 fcn fpn f4 q5 q6 f7 q8 q9 f10 f11 f1 f2 f3 r4 r5 r6 r7 f8 r9 r10 r11 m12 m13 m14 m15 ∧ ((s0 = -1 ∧ st0 = 0) ∨ (s0 ≠ -1 ∧ st0 = s0))))
/-- all lines, side by side -/
theorem lines_0 {f fw : Nat → Int32} (hw : ∀ i, i < 8 → fw i = WW i) (hf : ∀ i, f i ≠ -1) {len : Nat} (hl : len ≤ 900) (f14 f15 f16 : Nat → Int32) (x27 : Int32) {fcn0 fpn0 f40 : Nat → Int32} {q50 q60 : Nat → Nat} {f70 : Nat → Int32} {q80 q90 : Nat → Nat} {f100 f110 f120 f130 f10_ f20_ f30_ : Nat → Int32} {r40 r50 r60 r70 : Nat → Nat} {f80 : Nat → Int32} {r90 r100 : Nat → Nat} {r110 : Nat → Int32} {pos0 kd0 be0 tok0 G0 : Nat} {vl0 tka0 va0 at0 : Int32}
    (hM0 : MR_0 0 0 0 (-1) fcn0 fpn0 f40 q50 q60 f70 q80 q90 f100 f110 f10_ f20_ f30_ r40 r50 r60 r70 f80 r90 r100 r110 0 0 0 0) (ht0 : TS len G0 pos0 kd0 vl0 tka0 be0 tok0 va0 at0) :
    ∃ u q8 q9 f10 f11 f12 f13 f14' f15' f16' fcn fpn f4 q5 q6 f7 fa fat ln p k v a nc np ne st0, itrv default (sp_E_4_reads_L1 f fw f14 f15 f16 len) (q80, q90, f100, f110, f120, f130, fcn0, fpn0, f40, q50, q60, f70, 0, -1, pos0, kd0, vl0, tka0, 0, 0, 0, -1, 0) = (u, q8, q9, f10, f11, f12, f13, f14', f15', f16', fcn, fpn, f4, q5, q6, f7, fa, fat, ln, p, k, v, a, nc, np, ne, st0) ∧
      ∃ at_ be tok va w wa f1 f2 f3 r4 r5 r6 r7 f8 r9 r10 r11 m12 m13 m14 m15, itrv default (sp_EM_automaton_L2 len f) (f10_, r100, r110, f20_, f30_, r40, r50, r60, r70, f80, r90, 0, 0, 0, 0, at0, be0, tok0, va0, 0, x27) = (at_, be, tok, va, w, wa, f1, f2, f3, r4, r5, r6, r7, f8, r9, r10, r11, m12, m13, m14, m15) ∧
      ((u = 0 ∧ w ≠ 0 ∧ fa = nI w ∧ fat = wa) ∨ (u = 0 ∧ w = 0 ∧ m13 = 0 ∧ tok = 0 ∧ fa = 6 ∧ fat = at_) ∨ (u = 1 ∧ w = 0 ∧ wa = x27 ∧ fa = 0 ∧ fat = -1 ∧ m13 ≠ 0 ∧ ∃ s0, MR_0 nc np ne s0 fcn fpn f4 q5 q6 f7 q8 q9 f10 f11 f1 f2 f3 r4 r5 r6 r7 f8 r9 r10 r11 m12 m13 m14 m15 ∧ ((s0 = -1 ∧ st0 = 0) ∨ (s0 ≠ -1 ∧ st0 = s0)))) := by
  refine itrv_sim (d := default) (d' := default) (f := sp_E_4_reads_L1 f fw f14 f15 f16 len) (g := sp_EM_automaton_L2 len f)
    (LR_0 len x27)
    (LQ_0 x27)
    (fun t => len + 1 - t.2.2.2.2.2.2.2.2.2.2.2.2.2.2.2.2.2.2.2.2.2.2) ?_ (len + 1) _ _ (by show len + 1 - 0 ≤ len + 1; omega) ⟨_, _, _, _, _, _, _, _, _, _, _, _, _, _, _, _, _, _, _, _, _, _, _, _, _, _, _, _, _, _, _, _, _, _, _, _, _, _, _, _, G0, rfl, rfl, hM0, ht0, Nat.zero_le _⟩
  rintro t t' ⟨q8, q9, f10, f11, f12, f13, fcn, fpn, f4, q5, q6, f7, p, k, v, a, nc, np, ne, st0, line, f1, r10, r11, f2, f3, r4, r5, r6, r7, f8, r9, m12, m13, m14, m15, at_, be, tok, va, g, rfl, rfl, hM, ht, hline⟩
  have hgl : g ≤ len := ht.2.2.2.2.2.1
  have hln : ¬ len < line := by omega
  by_cases hk1 : k = 1
  · have htok := (tok_1 ht.tok).mp hk1
    have hat : at_ = a := ht.2.1
    have hX : itrv default (sp_EM_automaton_L2 len f) (f1, r10, r11, f2, f3, r4, r5, r6, r7, f8, r9, m12, m13, m14, m15, at_, be, tok, va, 0, x27) = (at_, be, tok, va, 0, x27, f1, f2, f3, r4, r5, r6, r7, f8, r9, r10, r11, m12, m13, m14, m15) := itrv_inr (by simp only [sp_EM_automaton_L2, slet, good_0, Nat.one_ne_zero, reduceIte, htok])
    have hnp : m13 = np := hM.1.2.2.1
    by_cases h0 : np = 0
    · have hs : sp_E_4_reads_L1 f fw f14 f15 f16 len (q8, q9, f10, f11, f12, f13, fcn, fpn, f4, q5, q6, f7, 0, -1, p, k, v, a, nc, np, ne, st0, line) = .inr (0, q8, q9, f10, f11, f12, f13, f14, f15, f16, fcn, fpn, f4, q5, q6, f7, 6, a, len, p, k, v, a, nc, np, ne, st0) := by
        simp only [sp_E_4_reads_L1, slet, if_neg hln, if_pos hk1, if_pos h0, sp_E_4_refuse]
      exact Or.inr ⟨_, hs, _, _, _, _, _, _, _, _, _, _, _, _, _, _, _, _, _, _, _, _, _, _, _, _, _, _, _, rfl, _, _, _, _, _, _, _, _, _, _, _, _, _, _, _, _, _, _, _, _, _, hX, Or.inr (Or.inl ⟨rfl, rfl, by omega, htok, rfl, hat.symm⟩)⟩
    · obtain ⟨⟨z14, z15, z16⟩, hz⟩ : ∃ x, sp_E_0_measure q8 q9 f10 f11 f14 f15 f16 = x := ⟨_, rfl⟩
      by_cases hst : st0 = -1
      · have hs : sp_E_4_reads_L1 f fw f14 f15 f16 len (q8, q9, f10, f11, f12, f13, fcn, fpn, f4, q5, q6, f7, 0, -1, p, k, v, a, nc, np, ne, st0, line) = .inr (1, q8, q9, f10, f11, f12, f13, z14, z15, z16, fcn, fpn, f4, q5, q6, f7, 0, -1, len, p, k, v, a, nc, np, ne, 0) := by
          simp only [sp_E_4_reads_L1, slet, if_neg hln, if_pos hk1, if_neg h0, if_pos hst, hz]
        exact Or.inr ⟨_, hs, _, _, _, _, _, _, _, _, _, _, _, _, _, _, _, _, _, _, _, _, _, _, _, _, _, _, _, rfl, _, _, _, _, _, _, _, _, _, _, _, _, _, _, _, _, _, _, _, _, _, hX, Or.inr (Or.inr ⟨rfl, rfl, rfl, rfl, rfl, by omega, st0, hM, Or.inl ⟨hst, rfl⟩⟩)⟩
      · obtain ⟨s, hs', e, -⟩ : ∃ s, s < np ∧ st0 = nI s ∧ m15 = s + 1 := hM.2.1.resolve_left (fun z => hst z.1)
        have hcl : nI st0.toNatClampNeg = st0 := by rw [e, nI_clamp (by have := hM.1.2.2.2.1; omega)]
        have hs : sp_E_4_reads_L1 f fw f14 f15 f16 len (q8, q9, f10, f11, f12, f13, fcn, fpn, f4, q5, q6, f7, 0, -1, p, k, v, a, nc, np, ne, st0, line) = .inr (1, q8, q9, f10, f11, f12, f13, z14, z15, z16, fcn, fpn, f4, q5, q6, f7, 0, -1, len, p, k, v, a, nc, np, ne, st0) := by
          simp only [sp_E_4_reads_L1, slet, if_neg hln, if_pos hk1, if_neg h0, if_neg hst, hz, hcl]
        exact Or.inr ⟨_, hs, _, _, _, _, _, _, _, _, _, _, _, _, _, _, _, _, _, _, _, _, _, _, _, _, _, _, _, rfl, _, _, _, _, _, _, _, _, _, _, _, _, _, _, _, _, _, _, _, _, _, hX, Or.inr (Or.inr ⟨rfl, rfl, rfl, rfl, rfl, by omega, st0, hM, Or.inr ⟨hst, rfl⟩⟩)⟩
  have htok : ¬ tok = 0 := fun z => hk1 ((tok_1 ht.tok).mpr z)
  have hpg : g < p := ht.2.2.2.2.2.2.2 hk1
  -- behind a line
  have fin : ∀ {u : Nat} {q8' q9' : Nat → Nat} {f10' f11' f12' f13' fcn' fpn' f4' : Nat → Int32} {q5' q6' : Nat → Nat} {f7' : Nat → Int32} {fa' fat' : Int32} {p' k' : Nat} {v' a' : Int32} {nc' np' ne' : Nat} {st0' : Int32} {f1' : Nat → Int32} {r10' : Nat → Nat} {r11' f2' f3' : Nat → Int32} {r4' r5' r6' r7' : Nat → Nat} {f8' : Nat → Int32} {r9' : Nat → Nat} {m12' m13' m14' m15' : Nat} {at' : Int32} {be' tok' : Nat} {va' : Int32} {w : Nat} {wa : Int32},
      sp_E_4_reads_L1 f fw f14 f15 f16 len (q8, q9, f10, f11, f12, f13, fcn, fpn, f4, q5, q6, f7, 0, -1, p, k, v, a, nc, np, ne, st0, line) = (if u = 0 then .inr (0, q8', q9', f10', f11', f12', f13', f14, f15, f16, fcn', fpn', f4', q5', q6', f7', fa', fat', len, p', k', v', a', nc', np', ne', st0') else (let s := sp_E_4_readsStop fa' fat' len p' k' v' a' f fw; if s.1 = 0 then .inr (0, q8', q9', f10', f11', f12', f13', f14, f15, f16, fcn', fpn', f4', q5', q6', f7', s.2.1, s.2.2.1, len, s.2.2.2.1, s.2.2.2.2.1, s.2.2.2.2.2.1, s.2.2.2.2.2.2, nc', np', ne', st0') else .inl (q8', q9', f10', f11', f12', f13', fcn', fpn', f4', q5', q6', f7', s.2.1, s.2.2.1, s.2.2.2.1, s.2.2.2.2.1, s.2.2.2.2.2.1, s.2.2.2.2.2.2, nc', np', ne', st0', line + 1))) →
      sp_EM_readLine_0 len at_ be tok va 0 x27 f1 f2 f3 r4 r5 r6 r7 f8 r9 r10 r11 m12 m13 m14 m15 f = (f1', r10', r11', f2', f3', r4', r5', r6', r7', f8', r9', m12', m13', m14', m15', at', be', tok', va', w, wa) →
      ((u = 0 ∧ w ≠ 0 ∧ fa' = nI w ∧ fat' = wa) ∨ (u = 1 ∧ fa' = 0 ∧ fat' = -1 ∧ w = 0 ∧ wa = x27 ∧ MR_0 nc' np' ne' st0' fcn' fpn' f4' q5' q6' f7' q8' q9' f10' f11' f1' f2' f3' r4' r5' r6' r7' f8' r9' r10' r11' m12' m13' m14' m15' ∧ ∃ g, TS len g p' k' v' a' be' tok' va' at' ∧ p ≤ g)) →
      (∃ u u', sp_E_4_reads_L1 f fw f14 f15 f16 len (q8, q9, f10, f11, f12, f13, fcn, fpn, f4, q5, q6, f7, 0, -1, p, k, v, a, nc, np, ne, st0, line) = .inl u ∧ sp_EM_automaton_L2 len f (f1, r10, r11, f2, f3, r4, r5, r6, r7, f8, r9, m12, m13, m14, m15, at_, be, tok, va, 0, x27) = .inl u' ∧ LR_0 len x27 u u' ∧ len + 1 - u.2.2.2.2.2.2.2.2.2.2.2.2.2.2.2.2.2.2.2.2.2.2 < len + 1 - line) ∨ (∃ b, sp_E_4_reads_L1 f fw f14 f15 f16 len (q8, q9, f10, f11, f12, f13, fcn, fpn, f4, q5, q6, f7, 0, -1, p, k, v, a, nc, np, ne, st0, line) = .inr b ∧ LQ_0 x27 b (itrv default (sp_EM_automaton_L2 len f) (f1, r10, r11, f2, f3, r4, r5, r6, r7, f8, r9, m12, m13, m14, m15, at_, be, tok, va, 0, x27))) := by
    intro u q8' q9' f10' f11' f12' f13' fcn' fpn' f4' q5' q6' f7' fa' fat' p' k' v' a' nc' np' ne' st0' f1' r10' r11' f2' f3' r4' r5' r6' r7' f8' r9' m12' m13' m14' m15' at' be' tok' va' w wa hS hL hR
    rcases hR with ⟨rfl, b1, b2, b3⟩ | ⟨rfl, rfl, rfl, rfl, rfl, hM', g', ht', hg'⟩
    · rw [if_pos rfl] at hS
      have hin : sp_EM_automaton_L2 len f (f1, r10, r11, f2, f3, r4, r5, r6, r7, f8, r9, m12, m13, m14, m15, at_, be, tok, va, 0, x27) = .inl (f1', r10', r11', f2', f3', r4', r5', r6', r7', f8', r9', m12', m13', m14', m15', at', be', tok', va', w, wa) := by
        simp only [sp_EM_automaton_L2, slet, good_0, Nat.one_ne_zero, reduceIte, if_neg htok, hL, good_n b1]
      have hX := (itrv_inl (d := default) hin).trans (la_out_0 b1)
      exact Or.inr ⟨_, hS, _, _, _, _, _, _, _, _, _, _, _, _, _, _, _, _, _, _, _, _, _, _, _, _, _, _, _, rfl, _, _, _, _, _, _, _, _, _, _, _, _, _, _, _, _, _, _, _, _, _, hX, Or.inl ⟨rfl, b1, b2, b3⟩⟩
    · rw [if_neg (by decide)] at hS
      have i59 := sign_iff ht'.tok (c := 59) (j := 7) (Or.inr (Or.inr (Or.inr ⟨rfl, rfl⟩)))
      obtain ⟨rfl, rfl, -⟩ := id ht'
      by_cases h7 : k' = 7
      · subst h7
        obtain ⟨⟨p2, k2, v2, a2⟩, h5⟩ : ∃ x, sp_E_4_advance len be' v' f fw = x := ⟨_, rfl⟩
        obtain ⟨t2, w2, g2, n2, s2, l2⟩ := adv_ex hw hf hl ht'.le h5
        rw [if_pos rfl] at i59
        have hst : sp_E_4_readsStop 0 (-1) len be' 7 v' at' f fw = (1, 0, -1, p2, k2, v2, a2) := by
          simp only [sp_E_4_readsStop, slet, reduceIte, h5]
        rw [hst] at hS
        have hin : sp_EM_automaton_L2 len f (f1, r10, r11, f2, f3, r4, r5, r6, r7, f8, r9, m12, m13, m14, m15, at_, be, tok, va, 0, wa) = .inl (f1', r10', r11', f2', f3', r4', r5', r6', r7', f8', r9', m12', m13', m14', m15', a2, p2, t2, w2, 0, wa) := by
          simp only [sp_EM_automaton_L2, slet, good_0, Nat.one_ne_zero, reduceIte, if_neg htok, hL, i59, n2]
        refine Or.inl ⟨_, _, hS, hin, ⟨_, _, _, _, _, _, _, _, _, _, _, _, _, _, _, _, _, _, _, _, _, _, _, _, _, _, _, _, _, _, _, _, _, _, _, _, _, _, _, _, g2, rfl, rfl, hM', s2, ?_⟩, ?_⟩
        · have := ht'.2.2.2.2.2.2.2 (by decide); omega
        · show len + 1 - (line + 1) < len + 1 - line; omega
      · rw [if_neg h7] at i59
        have hst : sp_E_4_readsStop 0 (-1) len be' k' v' at' f fw = (0, nI (fk k' 2), at', be', k', v', at') := by
          simp only [sp_E_4_readsStop, slet, if_neg h7, refT_eq]
        rw [hst] at hS
        have hz : fk k' 2 ≠ 0 := fk_0 (by decide)
        have hin : sp_EM_automaton_L2 len f (f1, r10, r11, f2, f3, r4, r5, r6, r7, f8, r9, m12, m13, m14, m15, at_, be, tok, va, 0, wa) = .inl (f1', r10', r11', f2', f3', r4', r5', r6', r7', f8', r9', m12', m13', m14', m15', at', be', tok', va', fk k' 2, at') := by
          simp only [sp_EM_automaton_L2, slet, good_0, Nat.one_ne_zero, reduceIte, if_neg htok, hL, i59, fails_eq ht'.tok, good_n hz]
        have hX := (itrv_inl (d := default) hin).trans (la_out_0 hz)
        exact Or.inr ⟨_, hS, _, _, _, _, _, _, _, _, _, _, _, _, _, _, _, _, _, _, _, _, _, _, _, _, _, _, _, rfl, _, _, _, _, _, _, _, _, _, _, _, _, _, _, _, _, _, _, _, _, _, hX, Or.inl ⟨rfl, hz, rfl, rfl⟩⟩
  by_cases e8 : k = 8
  · subst e8
    obtain ⟨u, x1, x2, x3, x4, x5, x6, x7, x8, hC, y1, y2, y3, y4, y5, y6, y7, y8, y9, y10, y11, y12, y13, y14, y15, y16, y17, y18, y19, y20, y21, hL, hR⟩ := lk_0 hw hf hl hM (fa := 0) (fat := -1) (x27 := x27) ht
    exact fin (by simp only [sp_E_4_reads_L1, slet, if_neg hln, if_neg hk1, reduceIte, hC]; rfl) hL hR
  by_cases e9 : k = 9
  · subst e9
    obtain ⟨u, x1, x2, x3, x4, x5, x6, x7, x8, x9, x10, x11, x12, x13, x14, x15, hC, y1, y2, y3, y4, y5, y6, y7, y8, y9, y10, y11, y12, y13, y14, y15, y16, y17, y18, y19, y20, y21, hL, hR⟩ := lP_0 hw hf hl (f12 := f12) (f13 := f13) hM (fa := 0) (fat := -1) (x27 := x27) ht
    exact fin (by simp only [sp_E_4_reads_L1, slet, if_neg hln, if_neg hk1, if_neg e8, reduceIte, hC]; rfl) hL hR
  by_cases e12 : k = 12
  · subst e12
    obtain ⟨u, x1, x2, x3, x4, x5, x6, x7, hC, y1, y2, y3, y4, y5, y6, y7, y8, y9, y10, y11, y12, y13, y14, y15, y16, y17, y18, y19, y20, y21, hL, hR⟩ := lS_0 hw hf hl hM (fa := 0) (fat := -1) (x27 := x27) ht
    exact fin (by simp only [sp_E_4_reads_L1, slet, if_neg hln, if_neg hk1, if_neg e8, if_neg e9, reduceIte, hC]; rfl) hL hR
  by_cases e13 : k = 13
  · subst e13
    obtain ⟨u, x1, x2, x3, x4, x5, x6, x7, x8, x9, x10, x11, x12, x13, x14, x15, x16, hC, y1, y2, y3, y4, y5, y6, y7, y8, y9, y10, y11, y12, y13, y14, y15, y16, y17, y18, y19, y20, y21, hL, hR⟩ := lE_0 hw hf hl (f12 := f12) (f13 := f13) hM (fa := 0) (fat := -1) (x27 := x27) ht
    exact fin (by simp only [sp_E_4_reads_L1, slet, if_neg hln, if_neg hk1, if_neg e8, if_neg e9, if_neg e12, reduceIte, hC]; rfl) hL hR
  · exact fin (u := 0) (by simp only [sp_E_4_reads_L1, slet, if_neg hln, if_neg hk1, if_neg e8, if_neg e9, if_neg e12, if_neg e13, reduceIte, refT_eq]; rfl) (lO_0 ht e8 e9 e12 e13) (Or.inl ⟨rfl, fk_0 (by decide), rfl, ht.2.1.symm⟩)
theorem la_out_1 {len : Nat} {f f1 : Nat → Int32} {r10 : Nat → Nat} {r11 f2 f3 : Nat → Int32} {r4 r5 r6 r7 : Nat → Nat} {f8 : Nat → Int32} {r9 : Nat → Nat} {m12 m13 m14 m15 : Nat} {at_ : Int32} {be tok : Nat} {va : Int32} {w : Nat} {wa : Int32} (h : w ≠ 0) : itrv default (sp_EM_automaton_L1 len f) (f1, r10, r11, f2, f3, r4, r5, r6, r7, f8, r9, m12, m13, m14, m15, at_, be, tok, va, w, wa) = (at_, be, tok, va, w, wa, f1, f2, f3, r4, r5, r6, r7, f8, r9, r10, r11, m12, m13, m14, m15) := itrv_inr (by simp [sp_EM_automaton_L1, slet, good_n h])
/-- a line that begins with none of the four words -/
theorem lO_1 {len : Nat} {f f1 f2 f3 : Nat → Int32} {r4 r5 r6 r7 : Nat → Nat} {f8 : Nat → Int32} {r9 r10 : Nat → Nat} {r11 : Nat → Int32} {m12 m13 m14 m15 : Nat} {x27 vl tka va at_ : Int32} {G pos k be tok : Nat} (ht : TS len G pos k vl tka be tok va at_) (h1 : k ≠ 8) (h2 : k ≠ 9) (h3 : k ≠ 12) (h4 : k ≠ 13) :
    sp_EM_readLine_1 len at_ be tok va 0 x27 f1 f2 f3 r4 r5 r6 r7 f8 r9 r10 r11 m12 m13 m14 m15 f = (f1, r10, r11, f2, f3, r4, r5, r6, r7, f8, r9, m12, m13, m14, m15, at_, be, tok, va, fk k 2, at_) := by
  obtain ⟨u2, u4, u6, u8⟩ := lw4_1 ht.tok
  rw [if_neg h1] at u2
  rw [if_neg h2] at u4
  rw [if_neg h3] at u6
  rw [if_neg h4] at u8
  simp only [sp_EM_readLine_1, slet, u2, u4, u6, u8, reduceIte, fails_eq ht.tok, good_n (fk_0 (k := k) (kind := 2) (by decide))]
abbrev LR_1 (len : Nat) (x27 : Int32) (t : (Nat → Nat) × (Nat → Nat) × (Nat → Int32) × (Nat → Int32) × (Nat → Int32) × (Nat → Int32) × (Nat → Int32) × (Nat → Int32) × (Nat → Int32) × (Nat → Nat) × (Nat → Nat) × (Nat → Int32) × Int32 × Int32 × Nat × Nat × Int32 × Int32 × Nat × Nat × Nat × Int32 × Nat) (t' : (Nat → Int32) × (Nat → Nat) × (Nat → Int32) × (Nat → Int32) × (Nat → Int32) × (Nat → Nat) × (Nat → Nat) × (Nat → Nat) × (Nat → Nat) × (Nat → Int32) × (Nat → Nat) × Nat × Nat × Nat × Nat × Int32 × Nat × Nat × Int32 × Nat × Int32) : Prop := ∃ q8 q9 f10 f11 f12 f13 fcn fpn f4 q5 q6 f7 p k v a nc np ne st0 line f1 r10 r11 f2 f3 r4 r5 r6 r7 f8 r9 m12 m13 m14 m15 at_ be tok va g, t = (q8, q9, f10, f11, f12, f13, fcn, fpn, f4, q5, q6, f7, 0, -1, p, k, v, a, nc, np, ne, st0, line) ∧ t' = (f1, r10, r11, f2, f3, r4, r5, r6, r7, f8, r9, m12, m13, m14, m15, at_, be, tok, va, 0, x27) ∧ MR_1 nc np ne st0 fcn fpn f4 q5 q6 f7 q8 q9 f10 f11 f1 f2 f3 r4 r5 r6 r7 f8 r9 r10 r11 m12 m13 m14 m15 ∧ TS len g p k v a be tok va at_ ∧ line ≤ g
abbrev LQ_1 (x27 : Int32) (b : Nat × (Nat → Nat) × (Nat → Nat) × (Nat → Int32) × (Nat → Int32) × (Nat → Int32) × (Nat → Int32) × (Nat → Int32) × (Nat → Int32) × (Nat → Int32) × (Nat → Int32) × (Nat → Int32) × (Nat → Int32) × (Nat → Nat) × (Nat → Nat) × (Nat → Int32) × Int32 × Int32 × Nat × Nat × Nat × Int32 × Int32 × Nat × Nat × Nat × Int32) (X : Int32 × Nat × Nat × Int32 × Nat × Int32 × (Nat → Int32) × (Nat → Int32) × (Nat → Int32) × (Nat → Nat) × (Nat → Nat) × (Nat → Nat) × (Nat → Nat) × (Nat → Int32) × (Nat → Nat) × (Nat → Nat) × (Nat → Int32) × Nat × Nat × Nat × Nat) : Prop := ∃ u q8 q9 f10 f11 f12 f13 f14' f15' f16' fcn fpn f4 q5 q6 f7 fa fat ln p k v a nc np ne st0, b = (u, q8, q9, f10, f11, f12, f13, f14', f15', f16', fcn, fpn, f4, q5, q6, f7, fa, fat, ln, p, k, v, a, nc, np, ne, st0) ∧
      ∃ at_ be tok va w wa f1 f2 f3 r4 r5 r6 r7 f8 r9 r10 r11 m12 m13 m14 m15, X = (at_, be, tok, va, w, wa, f1, f2, f3, r4, r5, r6, r7, f8, r9, r10, r11, m12, m13, m14, m15) ∧
      ((u = 0 ∧ w ≠ 0 ∧ fa = nI w ∧ fat = wa) ∨ (u = 0 ∧ w = 0 ∧ m13 = 0 ∧ tok = 0 ∧ fa = 6 ∧ fat = at_) ∨ (u = 1 ∧ w = 0 ∧ wa = x27 ∧ fa = 0 ∧ fat = -1 ∧ m13 ≠ 0 ∧ ∃ s0, MR_1 nc np ne s0 fcn fpn f4 q5 q6 f7 q8 q9 f10 f11 f1 f2 f3 r4 r5 r6 r7 f8 r9 r10 r11 m12 m13 m14 m15 ∧ ((s0 = -1 ∧ st0 = 0) ∨ (s0 ≠ -1 ∧ st0 = s0))))
/-- all lines, side by side -/
theorem lines_1 {f fw : Nat → Int32} (hw : ∀ i, i < 8 → fw i = WW i) (hf : ∀ i, f i ≠ -1) {len : Nat} (hl : len ≤ 900) (f14 f15 f16 : Nat → Int32) (x27 : Int32) {fcn0 fpn0 f40 : Nat → Int32} {q50 q60 : Nat → Nat} {f70 : Nat → Int32} {q80 q90 : Nat → Nat} {f100 f110 f120 f130 f10_ f20_ f30_ : Nat → Int32} {r40 r50 r60 r70 : Nat → Nat} {f80 : Nat → Int32} {r90 r100 : Nat → Nat} {r110 : Nat → Int32} {pos0 kd0 be0 tok0 G0 : Nat} {vl0 tka0 va0 at0 : Int32}
    (hM0 : MR_1 0 0 0 (-1) fcn0 fpn0 f40 q50 q60 f70 q80 q90 f100 f110 f10_ f20_ f30_ r40 r50 r60 r70 f80 r90 r100 r110 0 0 0 0) (ht0 : TS len G0 pos0 kd0 vl0 tka0 be0 tok0 va0 at0) :
    ∃ u q8 q9 f10 f11 f12 f13 f14' f15' f16' fcn fpn f4 q5 q6 f7 fa fat ln p k v a nc np ne st0, itrv default (sp_E_4_reads_L1 f fw f14 f15 f16 len) (q80, q90, f100, f110, f120, f130, fcn0, fpn0, f40, q50, q60, f70, 0, -1, pos0, kd0, vl0, tka0, 0, 0, 0, -1, 0) = (u, q8, q9, f10, f11, f12, f13, f14', f15', f16', fcn, fpn, f4, q5, q6, f7, fa, fat, ln, p, k, v, a, nc, np, ne, st0) ∧
      ∃ at_ be tok va w wa f1 f2 f3 r4 r5 r6 r7 f8 r9 r10 r11 m12 m13 m14 m15, itrv default (sp_EM_automaton_L1 len f) (f10_, r100, r110, f20_, f30_, r40, r50, r60, r70, f80, r90, 0, 0, 0, 0, at0, be0, tok0, va0, 0, x27) = (at_, be, tok, va, w, wa, f1, f2, f3, r4, r5, r6, r7, f8, r9, r10, r11, m12, m13, m14, m15) ∧
      ((u = 0 ∧ w ≠ 0 ∧ fa = nI w ∧ fat = wa) ∨ (u = 0 ∧ w = 0 ∧ m13 = 0 ∧ tok = 0 ∧ fa = 6 ∧ fat = at_) ∨ (u = 1 ∧ w = 0 ∧ wa = x27 ∧ fa = 0 ∧ fat = -1 ∧ m13 ≠ 0 ∧ ∃ s0, MR_1 nc np ne s0 fcn fpn f4 q5 q6 f7 q8 q9 f10 f11 f1 f2 f3 r4 r5 r6 r7 f8 r9 r10 r11 m12 m13 m14 m15 ∧ ((s0 = -1 ∧ st0 = 0) ∨ (s0 ≠ -1 ∧ st0 = s0)))) := by
  refine itrv_sim (d := default) (d' := default) (f := sp_E_4_reads_L1 f fw f14 f15 f16 len) (g := sp_EM_automaton_L1 len f)
    (LR_1 len x27)
    (LQ_1 x27)
    (fun t => len + 1 - t.2.2.2.2.2.2.2.2.2.2.2.2.2.2.2.2.2.2.2.2.2.2) ?_ (len + 1) _ _ (by show len + 1 - 0 ≤ len + 1; omega) ⟨_, _, _, _, _, _, _, _, _, _, _, _, _, _, _, _, _, _, _, _, _, _, _, _, _, _, _, _, _, _, _, _, _, _, _, _, _, _, _, _, G0, rfl, rfl, hM0, ht0, Nat.zero_le _⟩
  rintro t t' ⟨q8, q9, f10, f11, f12, f13, fcn, fpn, f4, q5, q6, f7, p, k, v, a, nc, np, ne, st0, line, f1, r10, r11, f2, f3, r4, r5, r6, r7, f8, r9, m12, m13, m14, m15, at_, be, tok, va, g, rfl, rfl, hM, ht, hline⟩
  have hgl : g ≤ len := ht.2.2.2.2.2.1
  have hln : ¬ len < line := by omega
  by_cases hk1 : k = 1
  · have htok := (tok_1 ht.tok).mp hk1
    have hat : at_ = a := ht.2.1
    have hX : itrv default (sp_EM_automaton_L1 len f) (f1, r10, r11, f2, f3, r4, r5, r6, r7, f8, r9, m12, m13, m14, m15, at_, be, tok, va, 0, x27) = (at_, be, tok, va, 0, x27, f1, f2, f3, r4, r5, r6, r7, f8, r9, r10, r11, m12, m13, m14, m15) := itrv_inr (by simp only [sp_EM_automaton_L1, slet, good_0, Nat.one_ne_zero, reduceIte, htok])
    have hnp : m13 = np := hM.1.2.2.1
    by_cases h0 : np = 0
    · have hs : sp_E_4_reads_L1 f fw f14 f15 f16 len (q8, q9, f10, f11, f12, f13, fcn, fpn, f4, q5, q6, f7, 0, -1, p, k, v, a, nc, np, ne, st0, line) = .inr (0, q8, q9, f10, f11, f12, f13, f14, f15, f16, fcn, fpn, f4, q5, q6, f7, 6, a, len, p, k, v, a, nc, np, ne, st0) := by
        simp only [sp_E_4_reads_L1, slet, if_neg hln, if_pos hk1, if_pos h0, sp_E_4_refuse]
      exact Or.inr ⟨_, hs, _, _, _, _, _, _, _, _, _, _, _, _, _, _, _, _, _, _, _, _, _, _, _, _, _, _, _, rfl, _, _, _, _, _, _, _, _, _, _, _, _, _, _, _, _, _, _, _, _, _, hX, Or.inr (Or.inl ⟨rfl, rfl, by omega, htok, rfl, hat.symm⟩)⟩
    · obtain ⟨⟨z14, z15, z16⟩, hz⟩ : ∃ x, sp_E_0_measure q8 q9 f10 f11 f14 f15 f16 = x := ⟨_, rfl⟩
      by_cases hst : st0 = -1
      · have hs : sp_E_4_reads_L1 f fw f14 f15 f16 len (q8, q9, f10, f11, f12, f13, fcn, fpn, f4, q5, q6, f7, 0, -1, p, k, v, a, nc, np, ne, st0, line) = .inr (1, q8, q9, f10, f11, f12, f13, z14, z15, z16, fcn, fpn, f4, q5, q6, f7, 0, -1, len, p, k, v, a, nc, np, ne, 0) := by
          simp only [sp_E_4_reads_L1, slet, if_neg hln, if_pos hk1, if_neg h0, if_pos hst, hz]
        exact Or.inr ⟨_, hs, _, _, _, _, _, _, _, _, _, _, _, _, _, _, _, _, _, _, _, _, _, _, _, _, _, _, _, rfl, _, _, _, _, _, _, _, _, _, _, _, _, _, _, _, _, _, _, _, _, _, hX, Or.inr (Or.inr ⟨rfl, rfl, rfl, rfl, rfl, by omega, st0, hM, Or.inl ⟨hst, rfl⟩⟩)⟩
      · obtain ⟨s, hs', e, -⟩ : ∃ s, s < np ∧ st0 = nI s ∧ m15 = s + 1 := hM.2.1.resolve_left (fun z => hst z.1)
        have hcl : nI st0.toNatClampNeg = st0 := by rw [e, nI_clamp (by have := hM.1.2.2.2.1; omega)]
        have hs : sp_E_4_reads_L1 f fw f14 f15 f16 len (q8, q9, f10, f11, f12, f13, fcn, fpn, f4, q5, q6, f7, 0, -1, p, k, v, a, nc, np, ne, st0, line) = .inr (1, q8, q9, f10, f11, f12, f13, z14, z15, z16, fcn, fpn, f4, q5, q6, f7, 0, -1, len, p, k, v, a, nc, np, ne, st0) := by
          simp only [sp_E_4_reads_L1, slet, if_neg hln, if_pos hk1, if_neg h0, if_neg hst, hz, hcl]
        exact Or.inr ⟨_, hs, _, _, _, _, _, _, _, _, _, _, _, _, _, _, _, _, _, _, _, _, _, _, _, _, _, _, _, rfl, _, _, _, _, _, _, _, _, _, _, _, _, _, _, _, _, _, _, _, _, _, hX, Or.inr (Or.inr ⟨rfl, rfl, rfl, rfl, rfl, by omega, st0, hM, Or.inr ⟨hst, rfl⟩⟩)⟩
  have htok : ¬ tok = 0 := fun z => hk1 ((tok_1 ht.tok).mpr z)
  have hpg : g < p := ht.2.2.2.2.2.2.2 hk1
  -- behind a line
  have fin : ∀ {u : Nat} {q8' q9' : Nat → Nat} {f10' f11' f12' f13' fcn' fpn' f4' : Nat → Int32} {q5' q6' : Nat → Nat} {f7' : Nat → Int32} {fa' fat' : Int32} {p' k' : Nat} {v' a' : Int32} {nc' np' ne' : Nat} {st0' : Int32} {f1' : Nat → Int32} {r10' : Nat → Nat} {r11' f2' f3' : Nat → Int32} {r4' r5' r6' r7' : Nat → Nat} {f8' : Nat → Int32} {r9' : Nat → Nat} {m12' m13' m14' m15' : Nat} {at' : Int32} {be' tok' : Nat} {va' : Int32} {w : Nat} {wa : Int32},
      sp_E_4_reads_L1 f fw f14 f15 f16 len (q8, q9, f10, f11, f12, f13, fcn, fpn, f4, q5, q6, f7, 0, -1, p, k, v, a, nc, np, ne, st0, line) = (if u = 0 then .inr (0, q8', q9', f10', f11', f12', f13', f14, f15, f16, fcn', fpn', f4', q5', q6', f7', fa', fat', len, p', k', v', a', nc', np', ne', st0') else (let s := sp_E_4_readsStop fa' fat' len p' k' v' a' f fw; if s.1 = 0 then .inr (0, q8', q9', f10', f11', f12', f13', f14, f15, f16, fcn', fpn', f4', q5', q6', f7', s.2.1, s.2.2.1, len, s.2.2.2.1, s.2.2.2.2.1, s.2.2.2.2.2.1, s.2.2.2.2.2.2, nc', np', ne', st0') else .inl (q8', q9', f10', f11', f12', f13', fcn', fpn', f4', q5', q6', f7', s.2.1, s.2.2.1, s.2.2.2.1, s.2.2.2.2.1, s.2.2.2.2.2.1, s.2.2.2.2.2.2, nc', np', ne', st0', line + 1))) →
      sp_EM_readLine_1 len at_ be tok va 0 x27 f1 f2 f3 r4 r5 r6 r7 f8 r9 r10 r11 m12 m13 m14 m15 f = (f1', r10', r11', f2', f3', r4', r5', r6', r7', f8', r9', m12', m13', m14', m15', at', be', tok', va', w, wa) →
      ((u = 0 ∧ w ≠ 0 ∧ fa' = nI w ∧ fat' = wa) ∨ (u = 1 ∧ fa' = 0 ∧ fat' = -1 ∧ w = 0 ∧ wa = x27 ∧ MR_1 nc' np' ne' st0' fcn' fpn' f4' q5' q6' f7' q8' q9' f10' f11' f1' f2' f3' r4' r5' r6' r7' f8' r9' r10' r11' m12' m13' m14' m15' ∧ ∃ g, TS len g p' k' v' a' be' tok' va' at' ∧ p ≤ g)) →
      (∃ u u', sp_E_4_reads_L1 f fw f14 f15 f16 len (q8, q9, f10, f11, f12, f13, fcn, fpn, f4, q5, q6, f7, 0, -1, p, k, v, a, nc, np, ne, st0, line) = .inl u ∧ sp_EM_automaton_L1 len f (f1, r10, r11, f2, f3, r4, r5, r6, r7, f8, r9, m12, m13, m14, m15, at_, be, tok, va, 0, x27) = .inl u' ∧ LR_1 len x27 u u' ∧ len + 1 - u.2.2.2.2.2.2.2.2.2.2.2.2.2.2.2.2.2.2.2.2.2.2 < len + 1 - line) ∨ (∃ b, sp_E_4_reads_L1 f fw f14 f15 f16 len (q8, q9, f10, f11, f12, f13, fcn, fpn, f4, q5, q6, f7, 0, -1, p, k, v, a, nc, np, ne, st0, line) = .inr b ∧ LQ_1 x27 b (itrv default (sp_EM_automaton_L1 len f) (f1, r10, r11, f2, f3, r4, r5, r6, r7, f8, r9, m12, m13, m14, m15, at_, be, tok, va, 0, x27))) := by
    intro u q8' q9' f10' f11' f12' f13' fcn' fpn' f4' q5' q6' f7' fa' fat' p' k' v' a' nc' np' ne' st0' f1' r10' r11' f2' f3' r4' r5' r6' r7' f8' r9' m12' m13' m14' m15' at' be' tok' va' w wa hS hL hR
    rcases hR with ⟨rfl, b1, b2, b3⟩ | ⟨rfl, rfl, rfl, rfl, rfl, hM', g', ht', hg'⟩
    · rw [if_pos rfl] at hS
      have hin : sp_EM_automaton_L1 len f (f1, r10, r11, f2, f3, r4, r5, r6, r7, f8, r9, m12, m13, m14, m15, at_, be, tok, va, 0, x27) = .inl (f1', r10', r11', f2', f3', r4', r5', r6', r7', f8', r9', m12', m13', m14', m15', at', be', tok', va', w, wa) := by
        simp only [sp_EM_automaton_L1, slet, good_0, Nat.one_ne_zero, reduceIte, if_neg htok, hL, good_n b1]
      have hX := (itrv_inl (d := default) hin).trans (la_out_1 b1)
      exact Or.inr ⟨_, hS, _, _, _, _, _, _, _, _, _, _, _, _, _, _, _, _, _, _, _, _, _, _, _, _, _, _, _, rfl, _, _, _, _, _, _, _, _, _, _, _, _, _, _, _, _, _, _, _, _, _, hX, Or.inl ⟨rfl, b1, b2, b3⟩⟩
    · rw [if_neg (by decide)] at hS
      have i59 := sign_iff ht'.tok (c := 59) (j := 7) (Or.inr (Or.inr (Or.inr ⟨rfl, rfl⟩)))
      obtain ⟨rfl, rfl, -⟩ := id ht'
      by_cases h7 : k' = 7
      · subst h7
        obtain ⟨⟨p2, k2, v2, a2⟩, h5⟩ : ∃ x, sp_E_4_advance len be' v' f fw = x := ⟨_, rfl⟩
        obtain ⟨t2, w2, g2, n2, s2, l2⟩ := adv_ex hw hf hl ht'.le h5
        rw [if_pos rfl] at i59
        have hst : sp_E_4_readsStop 0 (-1) len be' 7 v' at' f fw = (1, 0, -1, p2, k2, v2, a2) := by
          simp only [sp_E_4_readsStop, slet, reduceIte, h5]
        rw [hst] at hS
        have hin : sp_EM_automaton_L1 len f (f1, r10, r11, f2, f3, r4, r5, r6, r7, f8, r9, m12, m13, m14, m15, at_, be, tok, va, 0, wa) = .inl (f1', r10', r11', f2', f3', r4', r5', r6', r7', f8', r9', m12', m13', m14', m15', a2, p2, t2, w2, 0, wa) := by
          simp only [sp_EM_automaton_L1, slet, good_0, Nat.one_ne_zero, reduceIte, if_neg htok, hL, i59, n2]
        refine Or.inl ⟨_, _, hS, hin, ⟨_, _, _, _, _, _, _, _, _, _, _, _, _, _, _, _, _, _, _, _, _, _, _, _, _, _, _, _, _, _, _, _, _, _, _, _, _, _, _, _, g2, rfl, rfl, hM', s2, ?_⟩, ?_⟩
        · have := ht'.2.2.2.2.2.2.2 (by decide); omega
        · show len + 1 - (line + 1) < len + 1 - line; omega
      · rw [if_neg h7] at i59
        have hst : sp_E_4_readsStop 0 (-1) len be' k' v' at' f fw = (0, nI (fk k' 2), at', be', k', v', at') := by
          simp only [sp_E_4_readsStop, slet, if_neg h7, refT_eq]
        rw [hst] at hS
        have hz : fk k' 2 ≠ 0 := fk_0 (by decide)
        have hin : sp_EM_automaton_L1 len f (f1, r10, r11, f2, f3, r4, r5, r6, r7, f8, r9, m12, m13, m14, m15, at_, be, tok, va, 0, wa) = .inl (f1', r10', r11', f2', f3', r4', r5', r6', r7', f8', r9', m12', m13', m14', m15', at', be', tok', va', fk k' 2, at') := by
          simp only [sp_EM_automaton_L1, slet, good_0, Nat.one_ne_zero, reduceIte, if_neg htok, hL, i59, fails_eq ht'.tok, good_n hz]
        have hX := (itrv_inl (d := default) hin).trans (la_out_1 hz)
        exact Or.inr ⟨_, hS, _, _, _, _, _, _, _, _, _, _, _, _, _, _, _, _, _, _, _, _, _, _, _, _, _, _, _, rfl, _, _, _, _, _, _, _, _, _, _, _, _, _, _, _, _, _, _, _, _, _, hX, Or.inl ⟨rfl, hz, rfl, rfl⟩⟩
  by_cases e8 : k = 8
  · subst e8
    obtain ⟨u, x1, x2, x3, x4, x5, x6, x7, x8, hC, y1, y2, y3, y4, y5, y6, y7, y8, y9, y10, y11, y12, y13, y14, y15, y16, y17, y18, y19, y20, y21, hL, hR⟩ := lk_1 hw hf hl hM (fa := 0) (fat := -1) (x27 := x27) ht
    exact fin (by simp only [sp_E_4_reads_L1, slet, if_neg hln, if_neg hk1, reduceIte, hC]; rfl) hL hR
  by_cases e9 : k = 9
  · subst e9
    obtain ⟨u, x1, x2, x3, x4, x5, x6, x7, x8, x9, x10, x11, x12, x13, x14, x15, hC, y1, y2, y3, y4, y5, y6, y7, y8, y9, y10, y11, y12, y13, y14, y15, y16, y17, y18, y19, y20, y21, hL, hR⟩ := lP_1 hw hf hl (f12 := f12) (f13 := f13) hM (fa := 0) (fat := -1) (x27 := x27) ht
    exact fin (by simp only [sp_E_4_reads_L1, slet, if_neg hln, if_neg hk1, if_neg e8, reduceIte, hC]; rfl) hL hR
  by_cases e12 : k = 12
  · subst e12
    obtain ⟨u, x1, x2, x3, x4, x5, x6, x7, hC, y1, y2, y3, y4, y5, y6, y7, y8, y9, y10, y11, y12, y13, y14, y15, y16, y17, y18, y19, y20, y21, hL, hR⟩ := lS_1 hw hf hl hM (fa := 0) (fat := -1) (x27 := x27) ht
    exact fin (by simp only [sp_E_4_reads_L1, slet, if_neg hln, if_neg hk1, if_neg e8, if_neg e9, reduceIte, hC]; rfl) hL hR
  by_cases e13 : k = 13
  · subst e13
    obtain ⟨u, x1, x2, x3, x4, x5, x6, x7, x8, x9, x10, x11, x12, x13, x14, x15, x16, hC, y1, y2, y3, y4, y5, y6, y7, y8, y9, y10, y11, y12, y13, y14, y15, y16, y17, y18, y19, y20, y21, hL, hR⟩ := lE_1 hw hf hl (f12 := f12) (f13 := f13) hM (fa := 0) (fat := -1) (x27 := x27) ht
    exact fin (by simp only [sp_E_4_reads_L1, slet, if_neg hln, if_neg hk1, if_neg e8, if_neg e9, if_neg e12, reduceIte, hC]; rfl) hL hR
  · exact fin (u := 0) (by simp only [sp_E_4_reads_L1, slet, if_neg hln, if_neg hk1, if_neg e8, if_neg e9, if_neg e12, if_neg e13, reduceIte, refT_eq]; rfl) (lO_1 ht e8 e9 e12 e13) (Or.inl ⟨rfl, fk_0 (by decide), rfl, ht.2.1.symm⟩)
theorem clear_0 (f4 : Nat → Int32) (q8 : Nat → Nat) : ∃ z4 z8, sp_E_0_clear f4 q8 = (z4, z8) ∧ (∀ i, i < 8 → z4 i = 0) ∧ (∀ i, i < 22 → z8 i = 0) := by
  have h1 : ∀ z4 : Nat → Int32, ∃ z8, itrv default (sp_E_0_clear_L1 z4) (q8, 0) = (z4, z8) ∧ (∀ i, i < 22 → z8 i = 0) := by
    intro z4
    refine itrv_inv (d := default) (f := sp_E_0_clear_L1 z4) (fun t => t.2 ≤ 22 ∧ ∀ i, i < t.2 → t.1 i = 0) (fun b => ∃ z8, b = (z4, z8) ∧ (∀ i, i < 22 → z8 i = 0)) (fun t => 22 - t.2) ?_ 22 (q8, 0) (by show 22 - 0 ≤ 22; omega) ⟨Nat.zero_le _, fun i h => absurd h (Nat.not_lt_zero i)⟩
    rintro ⟨z, n⟩ ⟨ha, hb⟩
    have ha : n ≤ 22 := ha
    by_cases h : 22 ≤ n
    · exact Or.inr ⟨(z4, z), by simp only [sp_E_0_clear_L1, if_pos h], z, rfl, fun i hi => hb i (by show i < n; omega)⟩
    · refine Or.inl ⟨(updN z n 0, n + 1), by simp only [sp_E_0_clear_L1, if_neg h, slet], ⟨by show n + 1 ≤ 22; omega, fun i hi => ?_⟩, by show 22 - (n + 1) < 22 - n; omega⟩
      have hi : i < n + 1 := hi
      show updN z n 0 i = 0
      by_cases e : i = n
      · subst e; exact updN_s
      · rw [updN_n e]; exact hb i (by show i < n; omega)
  refine itrv_inv (d := default) (f := sp_E_0_clear_L2 q8) (fun t => t.2 ≤ 8 ∧ ∀ i, i < t.2 → t.1 i = 0) (fun b => ∃ z4 z8, b = (z4, z8) ∧ (∀ i, i < 8 → z4 i = 0) ∧ (∀ i, i < 22 → z8 i = 0)) (fun t => 8 - t.2) ?_ 8 (f4, 0) (by show 8 - 0 ≤ 8; omega) ⟨Nat.zero_le _, fun i h => absurd h (Nat.not_lt_zero i)⟩
  rintro ⟨z, n⟩ ⟨ha, hb⟩
  have ha : n ≤ 8 := ha
  by_cases h : 8 ≤ n
  · obtain ⟨z8, e, hz⟩ := h1 z
    exact Or.inr ⟨_, by simp only [sp_E_0_clear_L2, if_pos h] <;> rfl, z, z8, e, fun i hi => hb i (by show i < n; omega), hz⟩
  · refine Or.inl ⟨(upd z n (vp_nar .boolean 0), n + 1), by simp only [sp_E_0_clear_L2, if_neg h, slet], ⟨by show n + 1 ≤ 8; omega, fun i hi => ?_⟩, by show 8 - (n + 1) < 8 - n; omega⟩
    have hi : i < n + 1 := hi
    show upd z n (vp_nar .boolean 0) i = 0
    by_cases e : i = n
    · subst e; rw [upd_s]; rfl
    · rw [upd_n e]; exact hb i (by show i < n; omega)
/-- the class's reading and the reference's automaton, side by side -/
theorem ra_0 {f fw : Nat → Int32} (hw : ∀ i, i < 8 → fw i = WW i) (hf : ∀ i, f i ≠ -1) {len : Nat} (hl : len ≤ 900) (vl x27 : Int32) (x29 x30 x33 : Nat) (fcn0 fpn0 f40 : Nat → Int32) (q50 q60 : Nat → Nat) (f70 : Nat → Int32) (q80 q90 : Nat → Nat) (f100 f110 f120 f130 f140 f150 f160 f10_ f20_ f30_ : Nat → Int32) (r40 r50 r60 r70 : Nat → Nat) (f80 : Nat → Int32) (r90 r100 : Nat → Nat) (r110 : Nat → Int32) (c0 c1 p0 p1 e0 e1 b0 b1 : Nat) :
    ∃ u q8 q9 f10 f11 f12 f13 f14 f15 f16 fcn fpn f4 q5 q6 f7 fa fat ln p k v a nc np ne st0, sp_E_4_reads vl f fw fcn0 fpn0 f40 q50 q60 f70 q80 q90 f100 f110 f120 f130 f140 f150 f160 len = (u, q8, q9, f10, f11, f12, f13, f14, f15, f16, fcn, fpn, f4, q5, q6, f7, fa, fat, ln, p, k, v, a, nc, np, ne, st0) ∧
      ∃ r f1 r10 r11 f2 f3 r4 r5 r6 r7 f8 r9 c0' c1' p0' p1' e0' e1' b0' b1' th bk sz at_ be tok va fkd fpl w wa rb x29' x30' x33', sp_EM_automaton 1 len x27 x29 x30 x33 f10_ f20_ f30_ r40 r50 r60 r70 f80 r90 r100 r110 c0 c1 p0 p1 e0 e1 b0 b1 f = (r, f1, r10, r11, f2, f3, r4, r5, r6, r7, f8, r9, c0', c1', p0', p1', e0', e1', b0', b1', th, bk, sz, at_, be, tok, va, fkd, fpl, w, wa, rb, x29', x30', x33') ∧
      ((u = 0 ∧ r = -1 ∧ fkd = fa ∧ fpl = fat ∧ bk = 1) ∨ (u = 1 ∧ r = nI np ∧ fkd = fa ∧ fpl = fat ∧ bk = 0 ∧ np ≤ 8 ∧ MR_0 nc np ne st0 fcn fpn f4 q5 q6 f7 q8 q9 f10 f11 f1 f2 f3 r4 r5 r6 r7 f8 r9 r10 r11 c0' p0' e0' b0')) := by
  obtain ⟨z4, z8, hc, hz4, hz8⟩ := clear_0 f40 q80
  obtain ⟨⟨p, k, v, a⟩, h1⟩ : ∃ x, sp_E_4_advance len 0 vl f fw = x := ⟨_, rfl⟩
  obtain ⟨t1, w1, g1, n1, s1, l1⟩ := adv_ex hw hf hl (Nat.zero_le _) h1
  have hA : sp_E_4_reads vl f fw fcn0 fpn0 f40 q50 q60 f70 q80 q90 f100 f110 f120 f130 f140 f150 f160 len = itrv default (sp_E_4_reads_L1 f fw f140 f150 f160 len) (z8, q90, f100, f110, f120, f130, fcn0, fpn0, z4, q50, q60, f70, 0, -1, p, k, v, a, 0, 0, 0, -1, 0) := by
    simp only [sp_E_4_reads, slet, hc, h1]
  have hM0 : MR_0 0 0 0 (-1) fcn0 fpn0 z4 q50 q60 f70 z8 q90 f100 f110 f10_ f20_ f30_ r40 r50 r60 r70 f80 r90 r100 r110 0 0 0 0 := ⟨⟨rfl, by decide, rfl, by decide, rfl, by decide⟩, Or.inl ⟨rfl, rfl⟩, fun i h => absurd h (Nat.not_lt_zero i), fun i h => absurd h (Nat.not_lt_zero i), fun i h => absurd h (Nat.not_lt_zero i), fun i _ h => ⟨hz4 i h, hz8 _ (by omega)⟩, fun i _ h => hz8 i (by omega), fun i h => absurd h (Nat.not_lt_zero i), fun i h => absurd h (Nat.not_lt_zero i), fun i h => absurd h (Nat.not_lt_zero i)⟩
  obtain ⟨u, q8, q9, f10, f11, f12, f13, f14, f15, f16, fcn, fpn, f4, q5, q6, f7, fa, fat, ln, p', k', v', a', nc, np, ne, st0, hX, at_, be, tok, va, w, wa, f1, f2, f3, r4, r5, r6, r7, f8, r9, r10, r11, m12, m13, m14, m15, hY, hR⟩ := lines_0 hw hf hl f140 f150 f160 x27 (f120 := f120) (f130 := f130) hM0 s1
  rw [hX] at hA
  refine ⟨u, q8, q9, f10, f11, f12, f13, f14, f15, f16, fcn, fpn, f4, q5, q6, f7, fa, fat, ln, p', k', v', a', nc, np, ne, st0, hA, ?_⟩
  rcases hR with ⟨rfl, hb1, rfl, rfl⟩ | ⟨rfl, rfl, rfl, rfl, rfl, rfl⟩ | ⟨rfl, rfl, rfl, rfl, rfl, hb1, s0, hM, hs⟩
  · have hB : sp_EM_automaton 1 len x27 x29 x30 x33 f10_ f20_ f30_ r40 r50 r60 r70 f80 r90 r100 r110 c0 c1 p0 p1 e0 e1 b0 b1 f = (-1, f1, r10, r11, f2, f3, r4, r5, r6, r7, f8, r9, m12, c1, m13, p1, m14, e1, m15, b1, 0, 1, len, at_, be, tok, va, nI w, fat, w, fat, 0, x29, x30, x33) := by
      simp only [sp_EM_automaton, slet, Nat.one_ne_zero, reduceIte, n1, hY, good_n hb1, if_neg hb1]
      try rfl
    exact ⟨_, _, _, _, _, _, _, _, _, _, _, _, _, _, _, _, _, _, _, _, _, _, _, _, _, _, _, _, _, _, _, _, _, _, _, hB, Or.inl ⟨rfl, rfl, rfl, rfl, rfl⟩⟩
  · have hfl : sp_EM_fails fat 0 0 wa 6 = (6, fat) := by simp [sp_EM_fails]
    have hB : sp_EM_automaton 1 len x27 x29 x30 x33 f10_ f20_ f30_ r40 r50 r60 r70 f80 r90 r100 r110 c0 c1 p0 p1 e0 e1 b0 b1 f = (-1, f1, r10, r11, f2, f3, r4, r5, r6, r7, f8, r9, m12, c1, 0, p1, m14, e1, m15, b1, 0, 1, len, fat, be, 0, va, 6, fat, 6, fat, 0, x29, x30, x33) := by
      simp only [sp_EM_automaton, slet, Nat.one_ne_zero, reduceIte, n1, hY, good_0, hfl, good_n (show (6 : Nat) ≠ 0 by decide), if_neg (show ¬ (6 : Nat) = 0 by decide)]
      try rfl
    exact ⟨_, _, _, _, _, _, _, _, _, _, _, _, _, _, _, _, _, _, _, _, _, _, _, _, _, _, _, _, _, _, _, _, _, _, _, hB, Or.inl ⟨rfl, rfl, rfl, rfl, rfl⟩⟩
  · have hnp : m13 = np := hM.1.2.2.1
    have hn8 : np ≤ 8 := hM.1.2.2.2.1
    subst hnp
    by_cases h15 : m15 = 0
    · have hMR : MR_0 nc m13 ne st0 fcn fpn f4 q5 q6 f7 q8 q9 f10 f11 f1 f2 f3 r4 r5 r6 r7 f8 r9 r10 r11 m12 m13 m14 (0 + 1) := by
        refine ⟨hM.1, Or.inr ⟨0, by omega, ?_, rfl⟩, hM.2.2⟩
        rcases hM.2.1 with ⟨z1, -⟩ | ⟨s, -, -, z⟩
        · rcases hs with ⟨-, z⟩ | ⟨z, -⟩
          · exact z
          · exact absurd z1 z
        · omega
      have hB : sp_EM_automaton 1 len wa x29 x30 x33 f10_ f20_ f30_ r40 r50 r60 r70 f80 r90 r100 r110 c0 c1 p0 p1 e0 e1 b0 b1 f = (nI m13, f1, r10, r11, f2, f3, r4, r5, r6, r7, f8, r9, m12, c1, m13, p1, m14, e1, 0 + 1, b1, 0, 0, len, at_, be, tok, va, 0, -1, 0, wa, 0, 0, 0, 0) := by
        simp only [sp_EM_automaton, slet, Nat.one_ne_zero, reduceIte, n1, hY, good_0, if_neg hb1, if_pos h15, sp_EM_another]
        try rfl
      exact ⟨_, _, _, _, _, _, _, _, _, _, _, _, _, _, _, _, _, _, _, _, _, _, _, _, _, _, _, _, _, _, _, _, _, _, _, hB, Or.inr ⟨rfl, rfl, rfl, rfl, rfl, hn8, hMR⟩⟩
    · have hMR : MR_0 nc m13 ne st0 fcn fpn f4 q5 q6 f7 q8 q9 f10 f11 f1 f2 f3 r4 r5 r6 r7 f8 r9 r10 r11 m12 m13 m14 m15 := by
        obtain ⟨s, z1, z2, z3⟩ := hM.2.1.resolve_left (fun z => h15 z.2)
        have hs0 : s0 ≠ -1 := by rw [z2]; exact pu_nneg (n := s) (k := -1) (by omega) (by decide)
        rcases hs with ⟨z, -⟩ | ⟨-, z⟩
        · exact absurd z hs0
        · exact ⟨hM.1, Or.inr ⟨s, z1, z.trans z2, z3⟩, hM.2.2⟩
      have hB : sp_EM_automaton 1 len wa x29 x30 x33 f10_ f20_ f30_ r40 r50 r60 r70 f80 r90 r100 r110 c0 c1 p0 p1 e0 e1 b0 b1 f = (nI m13, f1, r10, r11, f2, f3, r4, r5, r6, r7, f8, r9, m12, c1, m13, p1, m14, e1, m15, b1, 0, 0, len, at_, be, tok, va, 0, -1, 0, wa, 0, 0, 0, 0) := by
        simp only [sp_EM_automaton, slet, Nat.one_ne_zero, reduceIte, n1, hY, good_0, if_neg hb1, if_neg h15, sp_EM_another]
        try rfl
      exact ⟨_, _, _, _, _, _, _, _, _, _, _, _, _, _, _, _, _, _, _, _, _, _, _, _, _, _, _, _, _, _, _, _, _, _, _, hB, Or.inr ⟨rfl, rfl, rfl, rfl, rfl, hn8, hMR⟩⟩
theorem clear_1 (f4 : Nat → Int32) (q8 : Nat → Nat) : ∃ z4 z8, sp_E_0_clear f4 q8 = (z4, z8) ∧ (∀ i, i < 8 → z4 i = 0) ∧ (∀ i, i < 22 → z8 i = 0) := by
  have h1 : ∀ z4 : Nat → Int32, ∃ z8, itrv default (sp_E_0_clear_L1 z4) (q8, 0) = (z4, z8) ∧ (∀ i, i < 22 → z8 i = 0) := by
    intro z4
    refine itrv_inv (d := default) (f := sp_E_0_clear_L1 z4) (fun t => t.2 ≤ 22 ∧ ∀ i, i < t.2 → t.1 i = 0) (fun b => ∃ z8, b = (z4, z8) ∧ (∀ i, i < 22 → z8 i = 0)) (fun t => 22 - t.2) ?_ 22 (q8, 0) (by show 22 - 0 ≤ 22; omega) ⟨Nat.zero_le _, fun i h => absurd h (Nat.not_lt_zero i)⟩
    rintro ⟨z, n⟩ ⟨ha, hb⟩
    have ha : n ≤ 22 := ha
    by_cases h : 22 ≤ n
    · exact Or.inr ⟨(z4, z), by simp only [sp_E_0_clear_L1, if_pos h], z, rfl, fun i hi => hb i (by show i < n; omega)⟩
    · refine Or.inl ⟨(updN z n 0, n + 1), by simp only [sp_E_0_clear_L1, if_neg h, slet], ⟨by show n + 1 ≤ 22; omega, fun i hi => ?_⟩, by show 22 - (n + 1) < 22 - n; omega⟩
      have hi : i < n + 1 := hi
      show updN z n 0 i = 0
      by_cases e : i = n
      · subst e; exact updN_s
      · rw [updN_n e]; exact hb i (by show i < n; omega)
  refine itrv_inv (d := default) (f := sp_E_0_clear_L2 q8) (fun t => t.2 ≤ 8 ∧ ∀ i, i < t.2 → t.1 i = 0) (fun b => ∃ z4 z8, b = (z4, z8) ∧ (∀ i, i < 8 → z4 i = 0) ∧ (∀ i, i < 22 → z8 i = 0)) (fun t => 8 - t.2) ?_ 8 (f4, 0) (by show 8 - 0 ≤ 8; omega) ⟨Nat.zero_le _, fun i h => absurd h (Nat.not_lt_zero i)⟩
  rintro ⟨z, n⟩ ⟨ha, hb⟩
  have ha : n ≤ 8 := ha
  by_cases h : 8 ≤ n
  · obtain ⟨z8, e, hz⟩ := h1 z
    exact Or.inr ⟨_, by simp only [sp_E_0_clear_L2, if_pos h] <;> rfl, z, z8, e, fun i hi => hb i (by show i < n; omega), hz⟩
  · refine Or.inl ⟨(upd z n (vp_nar .boolean 0), n + 1), by simp only [sp_E_0_clear_L2, if_neg h, slet], ⟨by show n + 1 ≤ 8; omega, fun i hi => ?_⟩, by show 8 - (n + 1) < 8 - n; omega⟩
    have hi : i < n + 1 := hi
    show upd z n (vp_nar .boolean 0) i = 0
    by_cases e : i = n
    · subst e; rw [upd_s]; rfl
    · rw [upd_n e]; exact hb i (by show i < n; omega)
/-- the class's reading and the reference's automaton, side by side -/
theorem ra_1 {f fw : Nat → Int32} (hw : ∀ i, i < 8 → fw i = WW i) (hf : ∀ i, f i ≠ -1) {len : Nat} (hl : len ≤ 900) (vl x27 : Int32) (x29 x30 x33 : Nat) (fcn0 fpn0 f40 : Nat → Int32) (q50 q60 : Nat → Nat) (f70 : Nat → Int32) (q80 q90 : Nat → Nat) (f100 f110 f120 f130 f140 f150 f160 f10_ f20_ f30_ : Nat → Int32) (r40 r50 r60 r70 : Nat → Nat) (f80 : Nat → Int32) (r90 r100 : Nat → Nat) (r110 : Nat → Int32) (c0 c1 p0 p1 e0 e1 b0 b1 : Nat) :
    ∃ u q8 q9 f10 f11 f12 f13 f14 f15 f16 fcn fpn f4 q5 q6 f7 fa fat ln p k v a nc np ne st0, sp_E_4_reads vl f fw fcn0 fpn0 f40 q50 q60 f70 q80 q90 f100 f110 f120 f130 f140 f150 f160 len = (u, q8, q9, f10, f11, f12, f13, f14, f15, f16, fcn, fpn, f4, q5, q6, f7, fa, fat, ln, p, k, v, a, nc, np, ne, st0) ∧
      ∃ r f1 r10 r11 f2 f3 r4 r5 r6 r7 f8 r9 c0' c1' p0' p1' e0' e1' b0' b1' th bk sz at_ be tok va fkd fpl w wa rb x29' x30' x33', sp_EM_automaton 0 len x27 x29 x30 x33 f10_ f20_ f30_ r40 r50 r60 r70 f80 r90 r100 r110 c0 c1 p0 p1 e0 e1 b0 b1 f = (r, f1, r10, r11, f2, f3, r4, r5, r6, r7, f8, r9, c0', c1', p0', p1', e0', e1', b0', b1', th, bk, sz, at_, be, tok, va, fkd, fpl, w, wa, rb, x29', x30', x33') ∧
      ((u = 0 ∧ r = -1 ∧ fkd = fa ∧ fpl = fat ∧ bk = 0) ∨ (u = 1 ∧ r = nI np ∧ fkd = fa ∧ fpl = fat ∧ bk = 1 ∧ np ≤ 8 ∧ MR_1 nc np ne st0 fcn fpn f4 q5 q6 f7 q8 q9 f10 f11 f1 f2 f3 r4 r5 r6 r7 f8 r9 r10 r11 c1' p1' e1' b1')) := by
  obtain ⟨z4, z8, hc, hz4, hz8⟩ := clear_1 f40 q80
  obtain ⟨⟨p, k, v, a⟩, h1⟩ : ∃ x, sp_E_4_advance len 0 vl f fw = x := ⟨_, rfl⟩
  obtain ⟨t1, w1, g1, n1, s1, l1⟩ := adv_ex hw hf hl (Nat.zero_le _) h1
  have hA : sp_E_4_reads vl f fw fcn0 fpn0 f40 q50 q60 f70 q80 q90 f100 f110 f120 f130 f140 f150 f160 len = itrv default (sp_E_4_reads_L1 f fw f140 f150 f160 len) (z8, q90, f100, f110, f120, f130, fcn0, fpn0, z4, q50, q60, f70, 0, -1, p, k, v, a, 0, 0, 0, -1, 0) := by
    simp only [sp_E_4_reads, slet, hc, h1]
  have hM0 : MR_1 0 0 0 (-1) fcn0 fpn0 z4 q50 q60 f70 z8 q90 f100 f110 f10_ f20_ f30_ r40 r50 r60 r70 f80 r90 r100 r110 0 0 0 0 := ⟨⟨rfl, by decide, rfl, by decide, rfl, by decide⟩, Or.inl ⟨rfl, rfl⟩, fun i h => absurd h (Nat.not_lt_zero i), fun i h => absurd h (Nat.not_lt_zero i), fun i h => absurd h (Nat.not_lt_zero i), fun i _ h => ⟨hz4 i h, hz8 _ (by omega)⟩, fun i _ h => hz8 i (by omega), fun i h => absurd h (Nat.not_lt_zero i), fun i h => absurd h (Nat.not_lt_zero i), fun i h => absurd h (Nat.not_lt_zero i)⟩
  obtain ⟨u, q8, q9, f10, f11, f12, f13, f14, f15, f16, fcn, fpn, f4, q5, q6, f7, fa, fat, ln, p', k', v', a', nc, np, ne, st0, hX, at_, be, tok, va, w, wa, f1, f2, f3, r4, r5, r6, r7, f8, r9, r10, r11, m12, m13, m14, m15, hY, hR⟩ := lines_1 hw hf hl f140 f150 f160 x27 (f120 := f120) (f130 := f130) hM0 s1
  rw [hX] at hA
  refine ⟨u, q8, q9, f10, f11, f12, f13, f14, f15, f16, fcn, fpn, f4, q5, q6, f7, fa, fat, ln, p', k', v', a', nc, np, ne, st0, hA, ?_⟩
  rcases hR with ⟨rfl, hb1, rfl, rfl⟩ | ⟨rfl, rfl, rfl, rfl, rfl, rfl⟩ | ⟨rfl, rfl, rfl, rfl, rfl, hb1, s0, hM, hs⟩
  · have hB : sp_EM_automaton 0 len x27 x29 x30 x33 f10_ f20_ f30_ r40 r50 r60 r70 f80 r90 r100 r110 c0 c1 p0 p1 e0 e1 b0 b1 f = (-1, f1, r10, r11, f2, f3, r4, r5, r6, r7, f8, r9, c0, m12, p0, m13, e0, m14, b0, m15, 0, 0, len, at_, be, tok, va, nI w, fat, w, fat, 1, x29, x30, x33) := by
      simp only [sp_EM_automaton, slet, Nat.one_ne_zero, reduceIte, n1, hY, good_n hb1, if_neg hb1]
      try rfl
    exact ⟨_, _, _, _, _, _, _, _, _, _, _, _, _, _, _, _, _, _, _, _, _, _, _, _, _, _, _, _, _, _, _, _, _, _, _, hB, Or.inl ⟨rfl, rfl, rfl, rfl, rfl⟩⟩
  · have hfl : sp_EM_fails fat 0 0 wa 6 = (6, fat) := by simp [sp_EM_fails]
    have hB : sp_EM_automaton 0 len x27 x29 x30 x33 f10_ f20_ f30_ r40 r50 r60 r70 f80 r90 r100 r110 c0 c1 p0 p1 e0 e1 b0 b1 f = (-1, f1, r10, r11, f2, f3, r4, r5, r6, r7, f8, r9, c0, m12, p0, 0, e0, m14, b0, m15, 0, 0, len, fat, be, 0, va, 6, fat, 6, fat, 1, x29, x30, x33) := by
      simp only [sp_EM_automaton, slet, Nat.one_ne_zero, reduceIte, n1, hY, good_0, hfl, good_n (show (6 : Nat) ≠ 0 by decide), if_neg (show ¬ (6 : Nat) = 0 by decide)]
      try rfl
    exact ⟨_, _, _, _, _, _, _, _, _, _, _, _, _, _, _, _, _, _, _, _, _, _, _, _, _, _, _, _, _, _, _, _, _, _, _, hB, Or.inl ⟨rfl, rfl, rfl, rfl, rfl⟩⟩
  · have hnp : m13 = np := hM.1.2.2.1
    have hn8 : np ≤ 8 := hM.1.2.2.2.1
    subst hnp
    by_cases h15 : m15 = 0
    · have hMR : MR_1 nc m13 ne st0 fcn fpn f4 q5 q6 f7 q8 q9 f10 f11 f1 f2 f3 r4 r5 r6 r7 f8 r9 r10 r11 m12 m13 m14 (0 + 1) := by
        refine ⟨hM.1, Or.inr ⟨0, by omega, ?_, rfl⟩, hM.2.2⟩
        rcases hM.2.1 with ⟨z1, -⟩ | ⟨s, -, -, z⟩
        · rcases hs with ⟨-, z⟩ | ⟨z, -⟩
          · exact z
          · exact absurd z1 z
        · omega
      have hB : sp_EM_automaton 0 len wa x29 x30 x33 f10_ f20_ f30_ r40 r50 r60 r70 f80 r90 r100 r110 c0 c1 p0 p1 e0 e1 b0 b1 f = (nI m13, f1, r10, r11, f2, f3, r4, r5, r6, r7, f8, r9, c0, m12, p0, m13, e0, m14, b0, 0 + 1, 0, 1, len, at_, be, tok, va, 0, -1, 0, wa, 1, 0, 0, 0) := by
        simp only [sp_EM_automaton, slet, Nat.one_ne_zero, reduceIte, n1, hY, good_0, if_neg hb1, if_pos h15, sp_EM_another]
        try rfl
      exact ⟨_, _, _, _, _, _, _, _, _, _, _, _, _, _, _, _, _, _, _, _, _, _, _, _, _, _, _, _, _, _, _, _, _, _, _, hB, Or.inr ⟨rfl, rfl, rfl, rfl, rfl, hn8, hMR⟩⟩
    · have hMR : MR_1 nc m13 ne st0 fcn fpn f4 q5 q6 f7 q8 q9 f10 f11 f1 f2 f3 r4 r5 r6 r7 f8 r9 r10 r11 m12 m13 m14 m15 := by
        obtain ⟨s, z1, z2, z3⟩ := hM.2.1.resolve_left (fun z => h15 z.2)
        have hs0 : s0 ≠ -1 := by rw [z2]; exact pu_nneg (n := s) (k := -1) (by omega) (by decide)
        rcases hs with ⟨z, -⟩ | ⟨-, z⟩
        · exact absurd z hs0
        · exact ⟨hM.1, Or.inr ⟨s, z1, z.trans z2, z3⟩, hM.2.2⟩
      have hB : sp_EM_automaton 0 len wa x29 x30 x33 f10_ f20_ f30_ r40 r50 r60 r70 f80 r90 r100 r110 c0 c1 p0 p1 e0 e1 b0 b1 f = (nI m13, f1, r10, r11, f2, f3, r4, r5, r6, r7, f8, r9, c0, m12, p0, m13, e0, m14, b0, m15, 0, 1, len, at_, be, tok, va, 0, -1, 0, wa, 1, 0, 0, 0) := by
        simp only [sp_EM_automaton, slet, Nat.one_ne_zero, reduceIte, n1, hY, good_0, if_neg hb1, if_neg h15, sp_EM_another]
        try rfl
      exact ⟨_, _, _, _, _, _, _, _, _, _, _, _, _, _, _, _, _, _, _, _, _, _, _, _, _, _, _, _, _, _, _, _, _, _, _, hB, Or.inr ⟨rfl, rfl, rfl, rfl, rfl, hn8, hMR⟩⟩
theorem by_ne (y : Int32) : (y &&& (255 : Int32)) ≠ -1 := by
  intro h
  have h2 := congrArg (fun z : Int32 => z.toBitVec.getLsbD 31) h
  simp only [Int32.toBitVec_and, BitVec.getLsbD_and] at h2
  have e1 : (255 : Int32).toBitVec.getLsbD 31 = false := by decide
  have e2 : (-1 : Int32).toBitVec.getLsbD 31 = true := by decide
  rw [e1, e2, Bool.and_false] at h2
  exact absurd h2 (by decide)
theorem up_ne {f : Nat → Int32} (hf : ∀ i, f i ≠ -1) (k : Nat) (y : Int32) : ∀ i, upd f k (y &&& (255 : Int32)) i ≠ -1 := fun i => by
  by_cases e : i = k
  · subst e; rw [upd_s]; exact by_ne y
  · rw [upd_n e]; exact hf i
theorem put_ne {f : Nat → Int32} (hf : ∀ i, f i ≠ -1) (tp : Nat) (p : Int32) : ∀ i, sp_E_8_putBytes tp f p i ≠ -1 := up_ne (up_ne (up_ne (up_ne hf _ _) _ _) _ _) _ _
theorem put_four (tp : Nat) (f : Nat → Int32) (p : Int32) : sp_EM_four tp f p = sp_E_8_putBytes tp f p := rfl
theorem feed_ne {f : Nat → Int32} (hf : ∀ i, f i ≠ -1) (tp : Nat) (p0 p1 p2 p3 p4 : Int32) : ∀ i, (sp_E_8_feed tp f p0 p1 p2 p3 p4).1 i ≠ -1 := by
  unfold sp_E_8_feed slet
  by_cases h : tp + 20 ≤ 900
  · rw [if_pos h]; exact put_ne (put_ne (put_ne (put_ne (put_ne hf _ _) _ _) _ _) _ _) _ _
  · rw [if_neg h]; exact hf
/-- both tapes take the same bytes -/
theorem feed_same (tp : Nat) (f : Nat → Int32) (p0 p1 p2 p3 p4 : Int32) : (sp_EM_feed tp f p0 p1 p2 p3 p4).1 = (sp_E_8_feed tp f p0 p1 p2 p3 p4).1 := by
  unfold sp_EM_feed sp_E_8_feed slet
  by_cases h : tp + 20 ≤ 900
  · rw [if_pos h, if_pos h]; rfl
  · rw [if_neg h, if_neg h]
theorem reads_c (vl : Int32) (f fw fcn fpn f4 : Nat → Int32) (q5 q6 : Nat → Nat) (f7 : Nat → Int32) (q8 q9 : Nat → Nat) (f10 f11 f12 f13 f14 f15 f16 : Nat → Int32) (len : Nat) : sp_E_4_reads_c vl f fw fcn fpn f4 q5 q6 f7 q8 q9 f10 f11 f12 f13 f14 f15 f16 len = sp_E_4_reads vl f fw fcn fpn f4 q5 q6 f7 q8 q9 f10 f11 f12 f13 f14 f15 f16 len := rfl
theorem fault_same (a b p : Int32) : (sp_EM_fault a b p).1 = sp_E_8_fault a b p := by
  unfold sp_EM_fault sp_E_8_fault
  by_cases h : p = 0
  · rw [if_pos h]; simp [h]
  · rw [if_neg h]
    by_cases g : p = 1
    · rw [if_pos g]; simp [g]
    · rw [if_neg g]; simp [h, g]
/-- the row of words as Reader() leaves it -/
abbrev fwC : Nat → Int32 := upd (upd (upd (upd (upd (upd (upd (upd (fun _ => 0) (0 : Int32).toNatClampNeg 3554411) (1 : Int32).toNatClampNeg 17171557) (2 : Int32).toNatClampNeg 723752404) (3 : Int32).toNatClampNeg 22499628) (4 : Int32).toNatClampNeg 20579924) (5 : Int32).toNatClampNeg 168165) (6 : Int32).toNatClampNeg 762030) (7 : Int32).toNatClampNeg 19057844
theorem fwC_ok : ∀ i, i < 8 → fwC i = WW i := by decide
theorem z_ne : ∀ i : Nat, (fun _ : Nat => (0 : Int32)) i ≠ -1 := fun _ => (by decide : (0 : Int32) ≠ -1)
/-- what the class's automaton answers over a tape, and the fault and place that it leaves -/
def xAu (f : Nat → Int32) (n : Nat) (r : Int32) (u : Int32 × Int32) : Prop := ∃ (hs : Nat) (ss : Nat) (vl : Int32) (fcn : Nat → Int32) (fpn : Nat → Int32) (df4 : Nat → Int32) (q5 : Nat → Nat) (q6 : Nat → Nat) (df7 : Nat → Int32) (q8 : Nat → Nat) (q9 : Nat → Nat) (df10 : Nat → Int32) (df11 : Nat → Int32) (df12 : Nat → Int32) (df13 : Nat → Int32) (df14 : Nat → Int32) (df15 : Nat → Int32) (df16 : Nat → Int32) (hk : Nat) (on : Nat), ∃ (z4 : Nat → Int32) (z5 : Nat → Nat) (z6 : Nat → Nat) (z7 : Nat → Int32) (z8 : Nat → Nat) (z9 : Nat → Nat) (z10 : Nat → Int32) (z11 : Nat → Int32) (z12 : Nat → Int32) (z13 : Nat → Int32) (z14 : Nat → Int32) (z15 : Nat → Int32) (z16 : Nat → Int32) (zcn : Nat → Int32) (zpn : Nat → Int32) (zss : Nat) (zhs : Nat) (zfa : Int32) (zfat : Int32) (zlen : Nat) (zpos : Nat) (zkd : Nat) (zvl : Int32) (ztka : Int32) (znc : Nat) (znp : Nat) (zne : Nat) (zst0 : Int32) (zhk : Nat) (zon : Nat), (r, z4, z5, z6, z7, z8, z9, z10, z11, z12, z13, z14, z15, z16, zcn, zpn, zss, zhs, zfa, zfat, zlen, zpos, zkd, zvl, ztka, znc, znp, zne, zst0, zhk, zon) = sp_E_8_automaton n hs ss vl f fwC fcn fpn df4 q5 q6 df7 q8 q9 df10 df11 df12 df13 df14 df15 df16 hk on ∧ u = (zfa, zfat)
/-- what the reference's answers -/
def mAu (f : Nat → Int32) (n : Nat) (r : Int32) (u : Int32 × Int32) : Prop := ∃ (x16 : Nat) (x27 : Int32) (x29 : Nat) (x30 : Nat) (x33 : Nat) (f1 : Nat → Int32) (f2 : Nat → Int32) (f3 : Nat → Int32) (r4 : Nat → Nat) (r5 : Nat → Nat) (r6 : Nat → Nat) (r7 : Nat → Nat) (f8 : Nat → Int32) (r9 : Nat → Nat) (r10 : Nat → Nat) (f11 : Nat → Int32) (m12_0 : Nat) (m12_1 : Nat) (m13_0 : Nat) (m13_1 : Nat) (m14_0 : Nat) (m14_1 : Nat) (m15_0 : Nat) (m15_1 : Nat), x16 ≤ 1 ∧ ∃ (z1 : Nat → Int32) (z10 : Nat → Nat) (z11 : Nat → Int32) (z2 : Nat → Int32) (z3 : Nat → Int32) (z4 : Nat → Nat) (z5 : Nat → Nat) (z6 : Nat → Nat) (z7 : Nat → Nat) (z8 : Nat → Int32) (z9 : Nat → Nat) (z12_0 : Nat) (z12_1 : Nat) (z13_0 : Nat) (z13_1 : Nat) (z14_0 : Nat) (z14_1 : Nat) (z15_0 : Nat) (z15_1 : Nat) (z0 : Int32) (z16 : Nat) (z19 : Nat) (z20 : Int32) (z21 : Nat) (z22 : Nat) (z23 : Int32) (z24 : Int32) (z25 : Int32) (z26 : Nat) (z27 : Int32) (z28 : Nat) (z29 : Nat) (z30 : Nat) (z33 : Nat), (r, z1, z10, z11, z2, z3, z4, z5, z6, z7, z8, z9, z12_0, z12_1, z13_0, z13_1, z14_0, z14_1, z15_0, z15_1, z0, z16, z19, z20, z21, z22, z23, z24, z25, z26, z27, z28, z29, z30, z33) = sp_EM_automaton x16 n x27 x29 x30 x33 f1 f2 f3 r4 r5 r6 r7 f8 r9 r10 f11 m12_0 m12_1 m13_0 m13_1 m14_0 m14_1 m15_0 m15_1 f ∧ u = (z24, z25)
theorem au_same {f : Nat → Int32} (hf : ∀ i, f i ≠ -1) {n : Nat} (hn : n ≤ 900) {r r' : Int32} {u u' : Int32 × Int32} (hx : xAu f n r u) (hm : mAu f n r' u') : r = r' ∧ u = u' := by
  obtain ⟨hs, ss, vl, fcn, fpn, df4, q5, q6, df7, q8, q9, df10, df11, df12, df13, df14, df15, df16, hk, on, w4, w5, w6, w7, w8, w9, w10, w11, w12, w13, w14, w15, w16, wcn, wpn, wss, whs, wfa, wfat, wlen, wpos, wkd, wvl, wtka, wnc, wnp, wne, wst0, whk, won, hX, rfl⟩ := hx
  obtain ⟨x16, x27, x29, x30, x33, f1, f2, f3, r4, r5, r6, r7, f8, r9, r10, f11, m12_0, m12_1, m13_0, m13_1, m14_0, m14_1, m15_0, m15_1, h16, z1, z10, z11, z2, z3, z4, z5, z6, z7, z8, z9, z12_0, z12_1, z13_0, z13_1, z14_0, z14_1, z15_0, z15_1, z0, z16, z19, z20, z21, z22, z23, z24, z25, z26, z27, z28, z29, z30, z33, hM, rfl⟩ := hm
  rcases (show x16 = 0 ∨ x16 = 1 by omega) with rfl | rfl
  · obtain ⟨u, y8, y9, y10, y11, y12, y13, y14, y15, y16, ycn, ypn, y4, y5, y6, y7, fa, fat, ln, p, k, v, a, nc, np, ne, st0, hE1, r2, g1, s10, s11, g2, g3, s4, s5, s6, s7, g8, s9, c0, c1, p0, p1, ee0, ee1, b0, b1, th, bk, sz, at_, be, tok, va, fkd, fpl, w, wa, rb, y29, y30, y33, hE2, hh⟩ := ra_1 fwC_ok hf hn vl x27 x29 x30 x33 fcn fpn df4 q5 q6 df7 q8 q9 df10 df11 df12 df13 df14 df15 df16 f1 f2 f3 r4 r5 r6 r7 f8 r9 r10 f11 m12_0 m12_1 m13_0 m13_1 m14_0 m14_1 m15_0 m15_1
    have hE1 := (reads_c vl f fwC fcn fpn df4 q5 q6 df7 q8 q9 df10 df11 df12 df13 df14 df15 df16 n).trans hE1
    rw [hE2] at hM
    have hX1 : r = (if u = 0 then (-1 : Int32) else nI np) ∧ wfa = fa ∧ wfat = fat := by
      simp only [sp_E_8_automaton, slet, hE1] at hX
      by_cases hu : u = 0
      · rw [if_pos hu] at hX ⊢
        simp only [Prod.mk.injEq] at hX
        simp only [hX, and_self]
      · rw [if_neg hu] at hX ⊢
        simp only [Prod.mk.injEq] at hX
        simp only [hX, and_self]
    have hM1 : r' = r2 ∧ z24 = fkd ∧ z25 = fpl := by
      simp only [Prod.mk.injEq] at hM
      simp only [hM, and_self]
    obtain ⟨rfl, rfl, rfl⟩ := hX1
    obtain ⟨rfl, rfl, rfl⟩ := hM1
    have hk : (if u = 0 then (-1 : Int32) else nI np) = r' ∧ wfa = z24 ∧ wfat = z25 := by
      rcases hh with ⟨rfl, rfl, rfl, rfl, -⟩ | ⟨rfl, rfl, rfl, rfl, -⟩
      · exact ⟨rfl, rfl, rfl⟩
      · exact ⟨rfl, rfl, rfl⟩
    obtain ⟨h1, rfl, rfl⟩ := hk
    exact ⟨h1, rfl⟩
  · obtain ⟨u, y8, y9, y10, y11, y12, y13, y14, y15, y16, ycn, ypn, y4, y5, y6, y7, fa, fat, ln, p, k, v, a, nc, np, ne, st0, hE1, r2, g1, s10, s11, g2, g3, s4, s5, s6, s7, g8, s9, c0, c1, p0, p1, ee0, ee1, b0, b1, th, bk, sz, at_, be, tok, va, fkd, fpl, w, wa, rb, y29, y30, y33, hE2, hh⟩ := ra_0 fwC_ok hf hn vl x27 x29 x30 x33 fcn fpn df4 q5 q6 df7 q8 q9 df10 df11 df12 df13 df14 df15 df16 f1 f2 f3 r4 r5 r6 r7 f8 r9 r10 f11 m12_0 m12_1 m13_0 m13_1 m14_0 m14_1 m15_0 m15_1
    have hE1 := (reads_c vl f fwC fcn fpn df4 q5 q6 df7 q8 q9 df10 df11 df12 df13 df14 df15 df16 n).trans hE1
    rw [hE2] at hM
    have hX1 : r = (if u = 0 then (-1 : Int32) else nI np) ∧ wfa = fa ∧ wfat = fat := by
      simp only [sp_E_8_automaton, slet, hE1] at hX
      by_cases hu : u = 0
      · rw [if_pos hu] at hX ⊢
        simp only [Prod.mk.injEq] at hX
        simp only [hX, and_self]
      · rw [if_neg hu] at hX ⊢
        simp only [Prod.mk.injEq] at hX
        simp only [hX, and_self]
    have hM1 : r' = r2 ∧ z24 = fkd ∧ z25 = fpl := by
      simp only [Prod.mk.injEq] at hM
      simp only [hM, and_self]
    obtain ⟨rfl, rfl, rfl⟩ := hX1
    obtain ⟨rfl, rfl, rfl⟩ := hM1
    have hk : (if u = 0 then (-1 : Int32) else nI np) = r' ∧ wfa = z24 ∧ wfat = z25 := by
      rcases hh with ⟨rfl, rfl, rfl, rfl, -⟩ | ⟨rfl, rfl, rfl, rfl, -⟩
      · exact ⟨rfl, rfl, rfl⟩
      · exact ⟨rfl, rfl, rfl⟩
    obtain ⟨h1, rfl, rfl⟩ := hk
    exact ⟨h1, rfl⟩
theorem au_keep {f fw : Nat → Int32} {n : Nat} {r : Int32} {hs : Nat} {ss : Nat} {vl : Int32} {fcn : Nat → Int32} {fpn : Nat → Int32} {df4 : Nat → Int32} {q5 : Nat → Nat} {q6 : Nat → Nat} {df7 : Nat → Int32} {q8 : Nat → Nat} {q9 : Nat → Nat} {df10 : Nat → Int32} {df11 : Nat → Int32} {df12 : Nat → Int32} {df13 : Nat → Int32} {df14 : Nat → Int32} {df15 : Nat → Int32} {df16 : Nat → Int32} {hk : Nat} {on : Nat} {z4 : Nat → Int32} {z5 : Nat → Nat} {z6 : Nat → Nat} {z7 : Nat → Int32} {z8 : Nat → Nat} {z9 : Nat → Nat} {z10 : Nat → Int32} {z11 : Nat → Int32} {z12 : Nat → Int32} {z13 : Nat → Int32} {z14 : Nat → Int32} {z15 : Nat → Int32} {z16 : Nat → Int32} {zcn : Nat → Int32} {zpn : Nat → Int32} {zss : Nat} {zhs : Nat} {zfa : Int32} {zfat : Int32} {zlen : Nat} {zpos : Nat} {zkd : Nat} {zvl : Int32} {ztka : Int32} {znc : Nat} {znp : Nat} {zne : Nat} {zst0 : Int32} {zhk : Nat} {zon : Nat} (hX : (r, z4, z5, z6, z7, z8, z9, z10, z11, z12, z13, z14, z15, z16, zcn, zpn, zss, zhs, zfa, zfat, zlen, zpos, zkd, zvl, ztka, znc, znp, zne, zst0, zhk, zon) = sp_E_8_automaton n hs ss vl f fw fcn fpn df4 q5 q6 df7 q8 q9 df10 df11 df12 df13 df14 df15 df16 hk on) : (zss = ss ∧ zhs = hs ∧ zhk = hk) ∨ (zss = 0 ∧ zhs = 0 ∧ zhk = 0) := by
  obtain ⟨⟨u, y8, y9, y10, y11, y12, y13, y14, y15, y16, ycn, ypn, y4, y5, y6, y7, fa, fat, ln, p, k, v, a, nc, np, ne, st0⟩, hE1⟩ : ∃ x, sp_E_4_reads_c vl f fw fcn fpn df4 q5 q6 df7 q8 q9 df10 df11 df12 df13 df14 df15 df16 n = x := ⟨_, rfl⟩
  simp only [sp_E_8_automaton, slet, hE1] at hX
  by_cases hu : u = 0
  · rw [if_pos hu] at hX
    simp only [Prod.mk.injEq] at hX
    left
    simp only [hX, and_self]
  · rw [if_neg hu] at hX
    simp only [Prod.mk.injEq] at hX
    right
    simp only [hX, and_self]
theorem UN.tr {α : Type} {b n : Nat} {f g h : Nat → α} (h1 : UN b n f g) (h2 : UN b n g h) : UN b n f h := fun s hs => (h1 s hs).trans (h2 s hs)
theorem it1 {β : Type} {P : β → Prop} {c : Prop} [Decidable c] {a b : β} (h1 : c → P a) (h2 : ¬ c → P b) : P (if c then a else b) := by
  by_cases h : c
  · rw [if_pos h]; exact h1 h
  · rw [if_neg h]; exact h2 h
theorem sl1 {α0 β : Type} {P : β → Prop} {v : α0} {f : α0 → β} (h : ∀ x0, v = x0 → P (f x0)) : P (slet v f) := h v rfl
theorem sq1 {α0 β : Type} {P : β → Prop} (Q : α0 → Prop) {v : α0} {f : α0 → β} (hv : Q v) (h : ∀ x0, Q x0 → P (f x0)) : P (slet v f) := h v hv
theorem sl2 {α0 α1 β : Type} {P : β → Prop} {v : α0 × α1} {f : α0 × α1 → β} (h : ∀ x0 x1, v = (x0, x1) → P (f (x0, x1))) : P (slet v f) := h v.1 v.2 rfl
theorem sq2 {α0 α1 β : Type} {P : β → Prop} (Q : (α0 × α1) → Prop) {v : α0 × α1} {f : α0 × α1 → β} (hv : Q v) (h : ∀ x0 x1, Q (x0, x1) → P (f (x0, x1))) : P (slet v f) := h v.1 v.2 hv
theorem sl3 {α0 α1 α2 β : Type} {P : β → Prop} {v : α0 × α1 × α2} {f : α0 × α1 × α2 → β} (h : ∀ x0 x1 x2, v = (x0, x1, x2) → P (f (x0, x1, x2))) : P (slet v f) := h v.1 v.2.1 v.2.2 rfl
theorem sq3 {α0 α1 α2 β : Type} {P : β → Prop} (Q : (α0 × α1 × α2) → Prop) {v : α0 × α1 × α2} {f : α0 × α1 × α2 → β} (hv : Q v) (h : ∀ x0 x1 x2, Q (x0, x1, x2) → P (f (x0, x1, x2))) : P (slet v f) := h v.1 v.2.1 v.2.2 hv
theorem sl4 {α0 α1 α2 α3 β : Type} {P : β → Prop} {v : α0 × α1 × α2 × α3} {f : α0 × α1 × α2 × α3 → β} (h : ∀ x0 x1 x2 x3, v = (x0, x1, x2, x3) → P (f (x0, x1, x2, x3))) : P (slet v f) := h v.1 v.2.1 v.2.2.1 v.2.2.2 rfl
theorem sq4 {α0 α1 α2 α3 β : Type} {P : β → Prop} (Q : (α0 × α1 × α2 × α3) → Prop) {v : α0 × α1 × α2 × α3} {f : α0 × α1 × α2 × α3 → β} (hv : Q v) (h : ∀ x0 x1 x2 x3, Q (x0, x1, x2, x3) → P (f (x0, x1, x2, x3))) : P (slet v f) := h v.1 v.2.1 v.2.2.1 v.2.2.2 hv
theorem sl5 {α0 α1 α2 α3 α4 β : Type} {P : β → Prop} {v : α0 × α1 × α2 × α3 × α4} {f : α0 × α1 × α2 × α3 × α4 → β} (h : ∀ x0 x1 x2 x3 x4, v = (x0, x1, x2, x3, x4) → P (f (x0, x1, x2, x3, x4))) : P (slet v f) := h v.1 v.2.1 v.2.2.1 v.2.2.2.1 v.2.2.2.2 rfl
theorem sq5 {α0 α1 α2 α3 α4 β : Type} {P : β → Prop} (Q : (α0 × α1 × α2 × α3 × α4) → Prop) {v : α0 × α1 × α2 × α3 × α4} {f : α0 × α1 × α2 × α3 × α4 → β} (hv : Q v) (h : ∀ x0 x1 x2 x3 x4, Q (x0, x1, x2, x3, x4) → P (f (x0, x1, x2, x3, x4))) : P (slet v f) := h v.1 v.2.1 v.2.2.1 v.2.2.2.1 v.2.2.2.2 hv
theorem sl6 {α0 α1 α2 α3 α4 α5 β : Type} {P : β → Prop} {v : α0 × α1 × α2 × α3 × α4 × α5} {f : α0 × α1 × α2 × α3 × α4 × α5 → β} (h : ∀ x0 x1 x2 x3 x4 x5, v = (x0, x1, x2, x3, x4, x5) → P (f (x0, x1, x2, x3, x4, x5))) : P (slet v f) := h v.1 v.2.1 v.2.2.1 v.2.2.2.1 v.2.2.2.2.1 v.2.2.2.2.2 rfl
theorem sq6 {α0 α1 α2 α3 α4 α5 β : Type} {P : β → Prop} (Q : (α0 × α1 × α2 × α3 × α4 × α5) → Prop) {v : α0 × α1 × α2 × α3 × α4 × α5} {f : α0 × α1 × α2 × α3 × α4 × α5 → β} (hv : Q v) (h : ∀ x0 x1 x2 x3 x4 x5, Q (x0, x1, x2, x3, x4, x5) → P (f (x0, x1, x2, x3, x4, x5))) : P (slet v f) := h v.1 v.2.1 v.2.2.1 v.2.2.2.1 v.2.2.2.2.1 v.2.2.2.2.2 hv
theorem sl7 {α0 α1 α2 α3 α4 α5 α6 β : Type} {P : β → Prop} {v : α0 × α1 × α2 × α3 × α4 × α5 × α6} {f : α0 × α1 × α2 × α3 × α4 × α5 × α6 → β} (h : ∀ x0 x1 x2 x3 x4 x5 x6, v = (x0, x1, x2, x3, x4, x5, x6) → P (f (x0, x1, x2, x3, x4, x5, x6))) : P (slet v f) := h v.1 v.2.1 v.2.2.1 v.2.2.2.1 v.2.2.2.2.1 v.2.2.2.2.2.1 v.2.2.2.2.2.2 rfl
theorem sq7 {α0 α1 α2 α3 α4 α5 α6 β : Type} {P : β → Prop} (Q : (α0 × α1 × α2 × α3 × α4 × α5 × α6) → Prop) {v : α0 × α1 × α2 × α3 × α4 × α5 × α6} {f : α0 × α1 × α2 × α3 × α4 × α5 × α6 → β} (hv : Q v) (h : ∀ x0 x1 x2 x3 x4 x5 x6, Q (x0, x1, x2, x3, x4, x5, x6) → P (f (x0, x1, x2, x3, x4, x5, x6))) : P (slet v f) := h v.1 v.2.1 v.2.2.1 v.2.2.2.1 v.2.2.2.2.1 v.2.2.2.2.2.1 v.2.2.2.2.2.2 hv
theorem sl9 {α0 α1 α2 α3 α4 α5 α6 α7 α8 β : Type} {P : β → Prop} {v : α0 × α1 × α2 × α3 × α4 × α5 × α6 × α7 × α8} {f : α0 × α1 × α2 × α3 × α4 × α5 × α6 × α7 × α8 → β} (h : ∀ x0 x1 x2 x3 x4 x5 x6 x7 x8, v = (x0, x1, x2, x3, x4, x5, x6, x7, x8) → P (f (x0, x1, x2, x3, x4, x5, x6, x7, x8))) : P (slet v f) := h v.1 v.2.1 v.2.2.1 v.2.2.2.1 v.2.2.2.2.1 v.2.2.2.2.2.1 v.2.2.2.2.2.2.1 v.2.2.2.2.2.2.2.1 v.2.2.2.2.2.2.2.2 rfl
theorem sq9 {α0 α1 α2 α3 α4 α5 α6 α7 α8 β : Type} {P : β → Prop} (Q : (α0 × α1 × α2 × α3 × α4 × α5 × α6 × α7 × α8) → Prop) {v : α0 × α1 × α2 × α3 × α4 × α5 × α6 × α7 × α8} {f : α0 × α1 × α2 × α3 × α4 × α5 × α6 × α7 × α8 → β} (hv : Q v) (h : ∀ x0 x1 x2 x3 x4 x5 x6 x7 x8, Q (x0, x1, x2, x3, x4, x5, x6, x7, x8) → P (f (x0, x1, x2, x3, x4, x5, x6, x7, x8))) : P (slet v f) := h v.1 v.2.1 v.2.2.1 v.2.2.2.1 v.2.2.2.2.1 v.2.2.2.2.2.1 v.2.2.2.2.2.2.1 v.2.2.2.2.2.2.2.1 v.2.2.2.2.2.2.2.2 hv
theorem sl13 {α0 α1 α2 α3 α4 α5 α6 α7 α8 α9 α10 α11 α12 β : Type} {P : β → Prop} {v : α0 × α1 × α2 × α3 × α4 × α5 × α6 × α7 × α8 × α9 × α10 × α11 × α12} {f : α0 × α1 × α2 × α3 × α4 × α5 × α6 × α7 × α8 × α9 × α10 × α11 × α12 → β} (h : ∀ x0 x1 x2 x3 x4 x5 x6 x7 x8 x9 x10 x11 x12, v = (x0, x1, x2, x3, x4, x5, x6, x7, x8, x9, x10, x11, x12) → P (f (x0, x1, x2, x3, x4, x5, x6, x7, x8, x9, x10, x11, x12))) : P (slet v f) := h v.1 v.2.1 v.2.2.1 v.2.2.2.1 v.2.2.2.2.1 v.2.2.2.2.2.1 v.2.2.2.2.2.2.1 v.2.2.2.2.2.2.2.1 v.2.2.2.2.2.2.2.2.1 v.2.2.2.2.2.2.2.2.2.1 v.2.2.2.2.2.2.2.2.2.2.1 v.2.2.2.2.2.2.2.2.2.2.2.1 v.2.2.2.2.2.2.2.2.2.2.2.2 rfl
theorem sq13 {α0 α1 α2 α3 α4 α5 α6 α7 α8 α9 α10 α11 α12 β : Type} {P : β → Prop} (Q : (α0 × α1 × α2 × α3 × α4 × α5 × α6 × α7 × α8 × α9 × α10 × α11 × α12) → Prop) {v : α0 × α1 × α2 × α3 × α4 × α5 × α6 × α7 × α8 × α9 × α10 × α11 × α12} {f : α0 × α1 × α2 × α3 × α4 × α5 × α6 × α7 × α8 × α9 × α10 × α11 × α12 → β} (hv : Q v) (h : ∀ x0 x1 x2 x3 x4 x5 x6 x7 x8 x9 x10 x11 x12, Q (x0, x1, x2, x3, x4, x5, x6, x7, x8, x9, x10, x11, x12) → P (f (x0, x1, x2, x3, x4, x5, x6, x7, x8, x9, x10, x11, x12))) : P (slet v f) := h v.1 v.2.1 v.2.2.1 v.2.2.2.1 v.2.2.2.2.1 v.2.2.2.2.2.1 v.2.2.2.2.2.2.1 v.2.2.2.2.2.2.2.1 v.2.2.2.2.2.2.2.2.1 v.2.2.2.2.2.2.2.2.2.1 v.2.2.2.2.2.2.2.2.2.2.1 v.2.2.2.2.2.2.2.2.2.2.2.1 v.2.2.2.2.2.2.2.2.2.2.2.2 hv
theorem sl14 {α0 α1 α2 α3 α4 α5 α6 α7 α8 α9 α10 α11 α12 α13 β : Type} {P : β → Prop} {v : α0 × α1 × α2 × α3 × α4 × α5 × α6 × α7 × α8 × α9 × α10 × α11 × α12 × α13} {f : α0 × α1 × α2 × α3 × α4 × α5 × α6 × α7 × α8 × α9 × α10 × α11 × α12 × α13 → β} (h : ∀ x0 x1 x2 x3 x4 x5 x6 x7 x8 x9 x10 x11 x12 x13, v = (x0, x1, x2, x3, x4, x5, x6, x7, x8, x9, x10, x11, x12, x13) → P (f (x0, x1, x2, x3, x4, x5, x6, x7, x8, x9, x10, x11, x12, x13))) : P (slet v f) := h v.1 v.2.1 v.2.2.1 v.2.2.2.1 v.2.2.2.2.1 v.2.2.2.2.2.1 v.2.2.2.2.2.2.1 v.2.2.2.2.2.2.2.1 v.2.2.2.2.2.2.2.2.1 v.2.2.2.2.2.2.2.2.2.1 v.2.2.2.2.2.2.2.2.2.2.1 v.2.2.2.2.2.2.2.2.2.2.2.1 v.2.2.2.2.2.2.2.2.2.2.2.2.1 v.2.2.2.2.2.2.2.2.2.2.2.2.2 rfl
theorem sq14 {α0 α1 α2 α3 α4 α5 α6 α7 α8 α9 α10 α11 α12 α13 β : Type} {P : β → Prop} (Q : (α0 × α1 × α2 × α3 × α4 × α5 × α6 × α7 × α8 × α9 × α10 × α11 × α12 × α13) → Prop) {v : α0 × α1 × α2 × α3 × α4 × α5 × α6 × α7 × α8 × α9 × α10 × α11 × α12 × α13} {f : α0 × α1 × α2 × α3 × α4 × α5 × α6 × α7 × α8 × α9 × α10 × α11 × α12 × α13 → β} (hv : Q v) (h : ∀ x0 x1 x2 x3 x4 x5 x6 x7 x8 x9 x10 x11 x12 x13, Q (x0, x1, x2, x3, x4, x5, x6, x7, x8, x9, x10, x11, x12, x13) → P (f (x0, x1, x2, x3, x4, x5, x6, x7, x8, x9, x10, x11, x12, x13))) : P (slet v f) := h v.1 v.2.1 v.2.2.1 v.2.2.2.1 v.2.2.2.2.1 v.2.2.2.2.2.1 v.2.2.2.2.2.2.1 v.2.2.2.2.2.2.2.1 v.2.2.2.2.2.2.2.2.1 v.2.2.2.2.2.2.2.2.2.1 v.2.2.2.2.2.2.2.2.2.2.1 v.2.2.2.2.2.2.2.2.2.2.2.1 v.2.2.2.2.2.2.2.2.2.2.2.2.1 v.2.2.2.2.2.2.2.2.2.2.2.2.2 hv
theorem sl21 {α0 α1 α2 α3 α4 α5 α6 α7 α8 α9 α10 α11 α12 α13 α14 α15 α16 α17 α18 α19 α20 β : Type} {P : β → Prop} {v : α0 × α1 × α2 × α3 × α4 × α5 × α6 × α7 × α8 × α9 × α10 × α11 × α12 × α13 × α14 × α15 × α16 × α17 × α18 × α19 × α20} {f : α0 × α1 × α2 × α3 × α4 × α5 × α6 × α7 × α8 × α9 × α10 × α11 × α12 × α13 × α14 × α15 × α16 × α17 × α18 × α19 × α20 → β} (h : ∀ x0 x1 x2 x3 x4 x5 x6 x7 x8 x9 x10 x11 x12 x13 x14 x15 x16 x17 x18 x19 x20, v = (x0, x1, x2, x3, x4, x5, x6, x7, x8, x9, x10, x11, x12, x13, x14, x15, x16, x17, x18, x19, x20) → P (f (x0, x1, x2, x3, x4, x5, x6, x7, x8, x9, x10, x11, x12, x13, x14, x15, x16, x17, x18, x19, x20))) : P (slet v f) := h v.1 v.2.1 v.2.2.1 v.2.2.2.1 v.2.2.2.2.1 v.2.2.2.2.2.1 v.2.2.2.2.2.2.1 v.2.2.2.2.2.2.2.1 v.2.2.2.2.2.2.2.2.1 v.2.2.2.2.2.2.2.2.2.1 v.2.2.2.2.2.2.2.2.2.2.1 v.2.2.2.2.2.2.2.2.2.2.2.1 v.2.2.2.2.2.2.2.2.2.2.2.2.1 v.2.2.2.2.2.2.2.2.2.2.2.2.2.1 v.2.2.2.2.2.2.2.2.2.2.2.2.2.2.1 v.2.2.2.2.2.2.2.2.2.2.2.2.2.2.2.1 v.2.2.2.2.2.2.2.2.2.2.2.2.2.2.2.2.1 v.2.2.2.2.2.2.2.2.2.2.2.2.2.2.2.2.2.1 v.2.2.2.2.2.2.2.2.2.2.2.2.2.2.2.2.2.2.1 v.2.2.2.2.2.2.2.2.2.2.2.2.2.2.2.2.2.2.2.1 v.2.2.2.2.2.2.2.2.2.2.2.2.2.2.2.2.2.2.2.2 rfl
theorem sq21 {α0 α1 α2 α3 α4 α5 α6 α7 α8 α9 α10 α11 α12 α13 α14 α15 α16 α17 α18 α19 α20 β : Type} {P : β → Prop} (Q : (α0 × α1 × α2 × α3 × α4 × α5 × α6 × α7 × α8 × α9 × α10 × α11 × α12 × α13 × α14 × α15 × α16 × α17 × α18 × α19 × α20) → Prop) {v : α0 × α1 × α2 × α3 × α4 × α5 × α6 × α7 × α8 × α9 × α10 × α11 × α12 × α13 × α14 × α15 × α16 × α17 × α18 × α19 × α20} {f : α0 × α1 × α2 × α3 × α4 × α5 × α6 × α7 × α8 × α9 × α10 × α11 × α12 × α13 × α14 × α15 × α16 × α17 × α18 × α19 × α20 → β} (hv : Q v) (h : ∀ x0 x1 x2 x3 x4 x5 x6 x7 x8 x9 x10 x11 x12 x13 x14 x15 x16 x17 x18 x19 x20, Q (x0, x1, x2, x3, x4, x5, x6, x7, x8, x9, x10, x11, x12, x13, x14, x15, x16, x17, x18, x19, x20) → P (f (x0, x1, x2, x3, x4, x5, x6, x7, x8, x9, x10, x11, x12, x13, x14, x15, x16, x17, x18, x19, x20))) : P (slet v f) := h v.1 v.2.1 v.2.2.1 v.2.2.2.1 v.2.2.2.2.1 v.2.2.2.2.2.1 v.2.2.2.2.2.2.1 v.2.2.2.2.2.2.2.1 v.2.2.2.2.2.2.2.2.1 v.2.2.2.2.2.2.2.2.2.1 v.2.2.2.2.2.2.2.2.2.2.1 v.2.2.2.2.2.2.2.2.2.2.2.1 v.2.2.2.2.2.2.2.2.2.2.2.2.1 v.2.2.2.2.2.2.2.2.2.2.2.2.2.1 v.2.2.2.2.2.2.2.2.2.2.2.2.2.2.1 v.2.2.2.2.2.2.2.2.2.2.2.2.2.2.2.1 v.2.2.2.2.2.2.2.2.2.2.2.2.2.2.2.2.1 v.2.2.2.2.2.2.2.2.2.2.2.2.2.2.2.2.2.1 v.2.2.2.2.2.2.2.2.2.2.2.2.2.2.2.2.2.2.1 v.2.2.2.2.2.2.2.2.2.2.2.2.2.2.2.2.2.2.2.1 v.2.2.2.2.2.2.2.2.2.2.2.2.2.2.2.2.2.2.2.2 hv
/-- a turn of a loop -/
def STP {α β : Type} (R : α → Prop) (Q : β → Prop) (M : α → Nat) (m : Nat) (s : α ⊕ β) : Prop := (∃ u, s = .inl u ∧ R u ∧ M u < m) ∨ (∃ b, s = .inr b ∧ Q b)
theorem itrv_stp {α β : Type} {d : β} {f : α → α ⊕ β} {R : α → Prop} {Q : β → Prop} {M : α → Nat} (hs : ∀ t, R t → STP R Q M (M t) (f t)) (t : α) (h : R t) : Q (itrv d f t) :=
  itrv_inv (d := d) (f := f) R Q M hs (M t) t (Nat.le_refl _) h
theorem fails_ne {at_ x27 : Int32} {tok w kind : Nat} (hk : kind ≠ 0) {z : Nat} {y : Int32} (h : sp_EM_fails at_ tok w x27 kind = (z, y)) : z ≠ 0 := by
  unfold sp_EM_fails at h
  by_cases hw : w = 0
  · rw [if_pos hw] at h
    by_cases ht : tok = 4
    · rw [if_pos ht] at h; injection h with h1 h2; rw [← h1]; decide
    · rw [if_neg ht] at h; injection h with h1 h2; rw [← h1]; exact hk
  · rw [if_neg hw] at h; injection h with h1 h2; rw [← h1]; exact hw
theorem good_w {w : Nat} (h : sp_EM_isGood w = 0) : w ≠ 0 := by
  intro e; subst e; exact absurd h (by decide)
theorem good_e {w : Nat} (h : ¬ sp_EM_isGood w = 0) : w = 0 := by
  by_cases e : w = 0
  · exact e
  · exact absurd (good_n e) h
theorem bc_or {B x : Int32} : bc B ≤ bc (B ||| x) := by
  unfold bc bt
  rw [Int32.toBitVec_or, BitVec.getLsbD_or, BitVec.getLsbD_or, BitVec.getLsbD_or]
  cases B.toBitVec.getLsbD 0 <;> cases B.toBitVec.getLsbD 1 <;> cases B.toBitVec.getLsbD 2 <;> cases x.toBitVec.getLsbD 0 <;> cases x.toBitVec.getLsbD 1 <;> cases x.toBitVec.getLsbD 2 <;> decide
def Q3 (b n : Nat) (q10 : Nat → Nat) (f11 : Nat → Int32) (q9 : Nat → Nat) (X : (Nat → Nat) × (Nat → Int32) × (Nat → Nat) × Int32 × Nat × Nat × Int32 × Nat × Int32) : Prop := UN b n X.1 q10 ∧ UN b n X.2.1 f11 ∧ UN b n X.2.2.1 q9
def cnt4 (a b c d : Nat) : Nat := a + b + c + (if d = 0 then 0 else 1)
theorem cnt4_le {a b c d : Nat} (h1 : a ≤ 3) (h2 : b ≤ 8) (h3 : c ≤ 14) : cnt4 a b c d ≤ 26 := by unfold cnt4; split <;> omega
def RP (b8 b80 np : Nat) (r10 : Nat → Nat) (r11 f2 f3 : Nat → Int32) (r4 r9 : Nat → Nat) (X : (Nat → Nat) × (Nat → Int32) × (Nat → Int32) × (Nat → Int32) × (Nat → Nat) × (Nat → Nat) × Nat × Int32 × Nat × Nat × Int32 × Nat × Int32) : Prop :=
  UN b80 80 X.1 r10 ∧ UN b80 80 X.2.1 r11 ∧ UN b8 8 X.2.2.1 f2 ∧ UN b8 8 X.2.2.2.1 f3 ∧ UN b8 8 X.2.2.2.2.1 r4 ∧ UN b80 80 X.2.2.2.2.2.1 r9 ∧ (X.2.2.2.2.2.2.1 = np + 1 ∨ (X.2.2.2.2.2.2.1 = np ∧ X.2.2.2.2.2.2.2.2.2.2.2.1 ≠ 0))
def PR (b8 b80 : Nat) (r10 : Nat → Nat) (r11 : Nat → Int32) (r4 r9 : Nat → Nat) (t : (Nat → Nat) × (Nat → Int32) × (Nat → Nat) × (Nat → Nat) × Int32 × Nat × Nat × Int32 × Nat × Int32) : Prop := UN b80 80 t.1 r10 ∧ UN b80 80 t.2.1 r11 ∧ UN b8 8 t.2.2.1 r4 ∧ UN b80 80 t.2.2.2.1 r9
def PM (k h : Nat) (t : (Nat → Nat) × (Nat → Int32) × (Nat → Nat) × (Nat → Nat) × Int32 × Nat × Nat × Int32 × Nat × Int32) : Nat := (h - t.2.2.1 k) + (if t.2.2.2.2.2.2.2.2.1 = 0 then 1 else 0)
def ER (b14 b80 : Nat) (r10 : Nat → Nat) (r11 : Nat → Int32) (r7 r9 : Nat → Nat) (t : (Nat → Nat) × (Nat → Int32) × (Nat → Nat) × (Nat → Nat) × Int32 × Nat × Nat × Int32 × Nat × Int32) : Prop := UN b80 80 t.1 r10 ∧ UN b80 80 t.2.1 r11 ∧ UN b14 14 t.2.2.1 r7 ∧ UN b80 80 t.2.2.2.1 r9
def RE (b14 b80 ne : Nat) (r10 : Nat → Nat) (r11 : Nat → Int32) (q5 q6 r7 : Nat → Nat) (f8 : Nat → Int32) (r9 : Nat → Nat) (X : (Nat → Nat) × (Nat → Int32) × (Nat → Nat) × (Nat → Nat) × (Nat → Nat) × (Nat → Int32) × (Nat → Nat) × Nat × Int32 × Nat × Nat × Int32 × Nat × Int32) : Prop :=
  UN b80 80 X.1 r10 ∧ UN b80 80 X.2.1 r11 ∧ UN b14 14 X.2.2.1 q5 ∧ UN b14 14 X.2.2.2.1 q6 ∧ UN b14 14 X.2.2.2.2.1 r7 ∧ UN b14 14 X.2.2.2.2.2.1 f8 ∧ UN b80 80 X.2.2.2.2.2.2.1 r9 ∧ (X.2.2.2.2.2.2.2.1 = ne + 1 ∨ (X.2.2.2.2.2.2.2.1 = ne ∧ X.2.2.2.2.2.2.2.2.2.2.2.2.1 ≠ 0))
def SR2 (b14 : Nat) (f8 : Nat → Int32) (t : (Nat → Int32) × Int32 × Nat × Nat × Int32 × Nat × Int32) : Prop := UN b14 14 t.1 f8
def SM2 (k : Nat) (t : (Nat → Int32) × Int32 × Nat × Nat × Int32 × Nat × Int32) : Nat := (3 - bc (t.1 k)) + (if t.2.2.2.2.2.1 = 0 then 1 else 0)
def SQ2 (b14 : Nat) (f8 : Nat → Int32) (X : Int32 × Nat × Nat × Int32 × Nat × Int32 × (Nat → Int32)) : Prop := UN b14 14 X.2.2.2.2.2.2 f8
def QL (b n : Nat) (f : Nat → Int32) (x : Int32 × Nat × Nat × Int32 × (Nat → Int32)) : Prop := UN b n x.2.2.2.2 f
/-- the rows of one bank alone have changed -/
def FRM (b : Nat) (f1 : Nat → Int32) (r10 : Nat → Nat) (r11 f2 f3 : Nat → Int32) (r4 r5 r6 r7 : Nat → Nat) (f8 : Nat → Int32) (r9 : Nat → Nat) (g1 : Nat → Int32) (s10 : Nat → Nat) (s11 g2 g3 : Nat → Int32) (s4 s5 s6 s7 : Nat → Nat) (g8 : Nat → Int32) (s9 : Nat → Nat) : Prop :=
  UN (3 * b) 3 f1 g1 ∧ UN (80 * b) 80 r10 s10 ∧ UN (80 * b) 80 r11 s11 ∧ UN (8 * b) 8 f2 g2 ∧ UN (8 * b) 8 f3 g3 ∧ UN (8 * b) 8 r4 s4 ∧ UN (14 * b) 14 r5 s5 ∧ UN (14 * b) 14 r6 s6 ∧ UN (14 * b) 14 r7 s7 ∧ UN (14 * b) 14 f8 g8 ∧ UN (80 * b) 80 r9 s9
theorem FRM.rf {b : Nat} {g1 : Nat → Int32} {s10 : Nat → Nat} {s11 g2 g3 : Nat → Int32} {s4 s5 s6 s7 : Nat → Nat} {g8 : Nat → Int32} {s9 : Nat → Nat} : FRM b g1 s10 s11 g2 g3 s4 s5 s6 s7 g8 s9 g1 s10 s11 g2 g3 s4 s5 s6 s7 g8 s9 := ⟨UN.rf, UN.rf, UN.rf, UN.rf, UN.rf, UN.rf, UN.rf, UN.rf, UN.rf, UN.rf, UN.rf⟩
theorem FRM.tr {b : Nat} {f1 : Nat → Int32} {r10 : Nat → Nat} {r11 f2 f3 : Nat → Int32} {r4 r5 r6 r7 : Nat → Nat} {f8 : Nat → Int32} {r9 : Nat → Nat} {g1 : Nat → Int32} {s10 : Nat → Nat} {s11 g2 g3 : Nat → Int32} {s4 s5 s6 s7 : Nat → Nat} {g8 : Nat → Int32} {s9 : Nat → Nat} {h1 : Nat → Int32} {t10 : Nat → Nat} {t11 h2 h3 : Nat → Int32} {t4 t5 t6 t7 : Nat → Nat} {h8 : Nat → Int32} {t9 : Nat → Nat}
    (a : FRM b f1 r10 r11 f2 f3 r4 r5 r6 r7 f8 r9 g1 s10 s11 g2 g3 s4 s5 s6 s7 g8 s9) (c : FRM b g1 s10 s11 g2 g3 s4 s5 s6 s7 g8 s9 h1 t10 t11 h2 h3 t4 t5 t6 t7 h8 t9) : FRM b f1 r10 r11 f2 f3 r4 r5 r6 r7 f8 r9 h1 t10 t11 h2 h3 t4 t5 t6 t7 h8 t9 := by
  obtain ⟨a1, a2, a3, a4, a5, a6, a7, a8, a9, a10, a11⟩ := a
  obtain ⟨c1, c2, c3, c4, c5, c6, c7, c8, c9, c10, c11⟩ := c
  exact ⟨a1.tr c1, a2.tr c2, a3.tr c3, a4.tr c4, a5.tr c5, a6.tr c6, a7.tr c7, a8.tr c8, a9.tr c9, a10.tr c10, a11.tr c11⟩
abbrev T21 := (Nat → Int32) × (Nat → Nat) × (Nat → Int32) × (Nat → Int32) × (Nat → Int32) × (Nat → Nat) × (Nat → Nat) × (Nat → Nat) × (Nat → Nat) × (Nat → Int32) × (Nat → Nat) × Nat × Nat × Nat × Nat × Int32 × Nat × Nat × Int32 × Nat × Int32
/-- a line read: one bank alone, and one more of the four numbers, or something is wrong -/
def LQ (b : Nat) (g1 : Nat → Int32) (s10 : Nat → Nat) (s11 g2 g3 : Nat → Int32) (s4 s5 s6 s7 : Nat → Nat) (g8 : Nat → Int32) (s9 : Nat → Nat) (c : Nat) (X : T21) : Prop :=
  match X with | (f1, r10, r11, f2, f3, r4, r5, r6, r7, f8, r9, m12, m13, m14, m15, _, _, _, _, w, _) => FRM b f1 r10 r11 f2 f3 r4 r5 r6 r7 f8 r9 g1 s10 s11 g2 g3 s4 s5 s6 s7 g8 s9 ∧ m12 ≤ 3 ∧ m13 ≤ 8 ∧ m14 ≤ 14 ∧ c ≤ cnt4 m12 m13 m14 m15 ∧ (w = 0 → cnt4 m12 m13 m14 m15 = c + 1)
def LR (b : Nat) (g1 : Nat → Int32) (s10 : Nat → Nat) (s11 g2 g3 : Nat → Int32) (s4 s5 s6 s7 : Nat → Nat) (g8 : Nat → Int32) (s9 : Nat → Nat) (X : T21) : Prop :=
  match X with | (f1, r10, r11, f2, f3, r4, r5, r6, r7, f8, r9, m12, m13, m14, _, _, _, _, _, _, _) => FRM b f1 r10 r11 f2 f3 r4 r5 r6 r7 f8 r9 g1 s10 s11 g2 g3 s4 s5 s6 s7 g8 s9 ∧ m12 ≤ 3 ∧ m13 ≤ 8 ∧ m14 ≤ 14
def LM (X : T21) : Nat := match X with | (_, _, _, _, _, _, _, _, _, _, _, m12, m13, m14, m15, _, _, _, _, w, _) => (26 - cnt4 m12 m13 m14 m15) + (if w = 0 then 1 else 0)
abbrev O21 := Int32 × Nat × Nat × Int32 × Nat × Int32 × (Nat → Int32) × (Nat → Int32) × (Nat → Int32) × (Nat → Nat) × (Nat → Nat) × (Nat → Nat) × (Nat → Nat) × (Nat → Int32) × (Nat → Nat) × (Nat → Nat) × (Nat → Int32) × Nat × Nat × Nat × Nat
def OQ (b : Nat) (g1 : Nat → Int32) (s10 : Nat → Nat) (s11 g2 g3 : Nat → Int32) (s4 s5 s6 s7 : Nat → Nat) (g8 : Nat → Int32) (s9 : Nat → Nat) (X : O21) : Prop :=
  match X with | (_, _, _, _, _, _, f1, f2, f3, r4, r5, r6, r7, f8, r9, r10, r11, _, _, _, _) => FRM b f1 r10 r11 f2 f3 r4 r5 r6 r7 f8 r9 g1 s10 s11 g2 g3 s4 s5 s6 s7 g8 s9
/-- what of a first choice of a line's word is known -/
def WQ (u2 u4 u6 u8 m12 m13 m14 m15 : Nat) (x : Nat × Int32) : Prop := x.1 = 0 → (u2 ≠ 0 → m12 ≠ 3) ∧ (u2 = 0 → u4 ≠ 0 → m13 ≠ 8) ∧ (u2 = 0 → u4 = 0 → u6 ≠ 0 → m15 = 0) ∧ (u2 = 0 → u4 = 0 → u6 = 0 → u8 ≠ 0 ∧ m14 ≠ 14)
theorem fails_as {at_ x27 : Int32} {tok w kind : Nat} {z : Nat} {y : Int32} (h : sp_EM_fails at_ tok w x27 kind = (z, y)) (hk : kind ≠ 0) : z ≠ 0 := fails_ne hk h
theorem c4a {a b c d : Nat} : cnt4 (a + 1) b c d = cnt4 a b c d + 1 := by unfold cnt4; split <;> omega
theorem c4b {a b c d : Nat} : cnt4 a (b + 1) c d = cnt4 a b c d + 1 := by unfold cnt4; split <;> omega
theorem c4c {a b c d : Nat} : cnt4 a b (c + 1) d = cnt4 a b c d + 1 := by unfold cnt4; split <;> omega
theorem c4d {a b c d : Nat} : cnt4 a b c (d + 1) = cnt4 a b c 0 + 1 := by unfold cnt4; rw [if_neg (Nat.succ_ne_zero d), if_pos rfl]
/-- an automaton read: of the other bank nothing has changed -/
def AQ (b : Nat) (g1 : Nat → Int32) (s10 : Nat → Nat) (s11 g2 g3 : Nat → Int32) (s4 s5 s6 s7 : Nat → Nat) (g8 : Nat → Int32) (s9 : Nat → Nat) (k12 k13 k14 k15 : Nat) (X : Int32 × (Nat → Int32) × (Nat → Nat) × (Nat → Int32) × (Nat → Int32) × (Nat → Int32) × (Nat → Nat) × (Nat → Nat) × (Nat → Nat) × (Nat → Nat) × (Nat → Int32) × (Nat → Nat) × Nat × Nat × Nat × Nat × Nat × Nat × Nat × Nat × Int32 × Nat × Nat × Int32 × Nat × Nat × Int32 × Int32 × Int32 × Nat × Int32 × Nat × Nat × Nat × Nat) : Prop :=
  match X with | (_, f1, r10, r11, f2, f3, r4, r5, r6, r7, f8, r9, a0, a1, b0, b1, c0, c1, d0, d1, _) => FRM b f1 r10 r11 f2 f3 r4 r5 r6 r7 f8 r9 g1 s10 s11 g2 g3 s4 s5 s6 s7 g8 s9 ∧ (if b = 1 then a0 else a1) = k12 ∧ (if b = 1 then b0 else b1) = k13 ∧ (if b = 1 then c0 else c1) = k14 ∧ (if b = 1 then d0 else d1) = k15
