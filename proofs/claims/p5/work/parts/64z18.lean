/-- what was read so far is the same: the class's automaton and the reference's bank -/
def MR_0 (nc np ne : Nat) (st0 : Int32) (fcn fpn f4 : Nat → Int32) (q5 q6 : Nat → Nat) (f7 : Nat → Int32) (q8 q9 : Nat → Nat) (f10 f11 : Nat → Int32) (f1 f2 f3 : Nat → Int32) (r4 r5 r6 r7 : Nat → Nat) (f8 : Nat → Int32) (r9 r10 : Nat → Nat) (r11 : Nat → Int32) (m12 m13 m14 m15 : Nat) : Prop :=
  (m12 = nc ∧ nc ≤ 3 ∧ m13 = np ∧ np ≤ 8 ∧ m14 = ne ∧ ne ≤ 14) ∧ ((st0 = -1 ∧ m15 = 0) ∨ (∃ s, s < np ∧ st0 = nI s ∧ m15 = s + 1)) ∧ (∀ i, i < nc → fcn i = f1 (0 + i)) ∧ (∀ i, i < np → fpn i = f2 (0 + i)) ∧
  (∀ i, i < np → f4 i = f3 (0 + i)) ∧ (∀ i, np ≤ i → i < 8 → f4 i = 0 ∧ q8 (14 + i) = 0) ∧ (∀ i, ne ≤ i → i < 14 → q8 i = 0) ∧
  (∀ i, i < np → q8 (14 + i) = r4 (0 + i) ∧ q8 (14 + i) ≤ 3 ∧ CI ((14 + i) * 4) (56 + 3 * i) (q8 (14 + i)) q9 f10 f11 r9 r10 r11) ∧
  (∀ i, i < ne → q8 i = r7 (0 + i) ∧ q8 i ≤ 4 ∧ CI (i * 4) (0 + 4 * i) (q8 i) q9 f10 f11 r9 r10 r11) ∧
  (∀ i, i < ne → q5 i = r5 (0 + i) ∧ q5 i < np ∧ q6 i = r6 (0 + i) ∧ q6 i < np ∧ f7 i = f8 (0 + i))
/-- the four words that a line may begin with -/
theorem lw4_0 {k t : Nat} {v w : Int32} (h : TokR k v t w) : sp_EM_isWord t w 3554411 = (if k = 8 then 1 else 0) ∧ sp_EM_isWord t w 17171557 = (if k = 9 then 1 else 0) ∧ sp_EM_isWord t w 20579924 = (if k = 12 then 1 else 0) ∧ sp_EM_isWord t w 168165 = (if k = 13 then 1 else 0) := ⟨word_iff h (i := 0) (by decide), word_iff h (i := 1) (by decide), word_iff h (i := 4) (by decide), word_iff h (i := 5) (by decide)⟩
/-- a clock's line -/
theorem lk_0 {f fw : Nat → Int32} (hw : ∀ i, i < 8 → fw i = WW i) (hf : ∀ i, f i ≠ -1) {len : Nat} (hl : len ≤ 900) {nc np ne : Nat} {st0 : Int32} {fcn fpn f4 : Nat → Int32} {q5 q6 : Nat → Nat} {f7 : Nat → Int32} {q8 q9 : Nat → Nat} {f10 f11 f1 f2 f3 : Nat → Int32} {r4 r5 r6 r7 : Nat → Nat} {f8 : Nat → Int32} {r9 r10 : Nat → Nat} {r11 : Nat → Int32} {m12 m13 m14 m15 : Nat}
    (hM : MR_0 nc np ne st0 fcn fpn f4 q5 q6 f7 q8 q9 f10 f11 f1 f2 f3 r4 r5 r6 r7 f8 r9 r10 r11 m12 m13 m14 m15) {fa fat x27 vl tka va at_ : Int32} {G pos be tok : Nat} (ht : TS len G pos 8 vl tka be tok va at_) :
    ∃ u fcn' fa' fat' p k v a nc', sp_E_4_readsClock fa fat len pos 8 vl tka f fw fcn fpn nc np = (u, fcn', fa', fat', p, k, v, a, nc') ∧ ∃ f1' r10' r11' f2' f3' r4' r5' r6' r7' f8' r9' m12' m13' m14' m15' at' be' tok' va' w wa, sp_EM_readLine_0 len at_ be tok va 0 x27 f1 f2 f3 r4 r5 r6 r7 f8 r9 r10 r11 m12 m13 m14 m15 f = (f1', r10', r11', f2', f3', r4', r5', r6', r7', f8', r9', m12', m13', m14', m15', at', be', tok', va', w, wa) ∧
      ((u = 0 ∧ w ≠ 0 ∧ fa' = nI w ∧ fat' = wa) ∨ (u = 1 ∧ fa' = fa ∧ fat' = fat ∧ w = 0 ∧ wa = x27 ∧ MR_0 nc' np ne st0 fcn' fpn f4 q5 q6 f7 q8 q9 f10 f11 f1' f2' f3' r4' r5' r6' r7' f8' r9' r10' r11' m12' m13' m14' m15' ∧ ∃ g, TS len g p k v a be' tok' va' at' ∧ pos ≤ g)) := by
  obtain ⟨⟨rfl, hc3, rfl, hp8, rfl, he14⟩, hst, hcn, hpn, h4⟩ := hM
  obtain ⟨u2, u4, u6, u8⟩ := lw4_0 ht.tok
  rw [if_pos rfl] at u2
  rw [if_neg (by decide)] at u4 u6 u8
  obtain ⟨rfl, rfl, hx⟩ := id ht
  by_cases h3 : m12 = 3
  · subst h3
    have hC : sp_E_4_readsClock fa fat len be 8 vl at_ f fw fcn fpn 3 m13 = (0, fcn, 5, at_, be, 8, vl, at_, 3) := by
      simp only [sp_E_4_readsClock, slet, sp_E_4_refuse, Nat.lt_irrefl, reduceIte]
    have hL : sp_EM_readLine_0 len at_ be tok va 0 x27 f1 f2 f3 r4 r5 r6 r7 f8 r9 r10 r11 3 m13 m14 m15 f = (f1, r10, r11, f2, f3, r4, r5, r6, r7, f8, r9, 3, m13, m14, m15, at_, be, tok, va, 5, at_) := by
      simp only [sp_EM_readLine_0, slet, u2, u4, u6, u8, Nat.one_ne_zero, reduceIte, fails_eq ht.tok, good_n (fk_0 (k := 8) (kind := 5) (by decide))]
      rfl
    exact ⟨_, _, _, _, _, _, _, _, _, hC, _, _, _, _, _, _, _, _, _, _, _, _, _, _, _, _, _, _, _, _, _, hL, Or.inl ⟨rfl, by decide, rfl, rfl⟩⟩
  · obtain ⟨⟨p1, k1, v1, a1⟩, h1⟩ : ∃ x, sp_E_4_advance len be vl f fw = x := ⟨_, rfl⟩
    obtain ⟨t1, w1, g1, n1, s1, l1⟩ := adv_ex hw hf hl ht.le h1
    obtain ⟨⟨u, fa1, fat1⟩, h2⟩ : ∃ x, sp_E_4_isNewName fa fat k1 v1 a1 fcn fpn m12 m13 = x := ⟨_, rfl⟩
    obtain ⟨⟨its, at1, be1, tok1, va1, w, wa⟩, e2⟩ : ∃ x, sp_EM_freshName_0 len a1 p1 t1 w1 0 x27 f1 f2 m12 m13 f = x := ⟨_, rfl⟩
    have hlt : m12 < 3 := by omega
    have hL : sp_EM_readLine_0 len at_ be tok va 0 x27 f1 f2 f3 r4 r5 r6 r7 f8 r9 r10 r11 m12 m13 m14 m15 f = (upd f1 (0 + m12) its, r10, r11, f2, f3, r4, r5, r6, r7, f8, r9, m12 + 1, m13, m14, m15, at1, be1, tok1, va1, w, wa) := by
      simp only [sp_EM_readLine_0, slet, u2, u4, u6, u8, Nat.one_ne_zero, reduceIte, if_neg h3, good_0, n1, e2]
    rcases fn_0 s1.tok hcn hpn h2 e2 with ⟨rfl, b1, b2, b3⟩ | ⟨rfl, rfl, rfl, rfl, rfl, e9, b4⟩
    · have hC : sp_E_4_readsClock fa fat len be 8 vl at_ f fw fcn fpn m12 m13 = (0, fcn, fa1, fat1, p1, k1, v1, a1, m12) := by
        simp only [sp_E_4_readsClock, slet, if_pos hlt, h1, h2, reduceIte]
      exact ⟨_, _, _, _, _, _, _, _, _, hC, _, _, _, _, _, _, _, _, _, _, _, _, _, _, _, _, _, _, _, _, _, hL, Or.inl ⟨rfl, b1, b2, b3⟩⟩
    · obtain ⟨⟨p2, k2, v2, a2⟩, h5⟩ : ∃ x, sp_E_4_advance len p1 v1 f fw = x := ⟨_, rfl⟩
      obtain ⟨t2, w2, g2, n2, s2, l2⟩ := adv_ex hw hf hl s1.le h5
      rw [n2] at b4
      simp only [Prod.mk.injEq] at b4
      obtain ⟨rfl, rfl, rfl, rfl⟩ := b4
      have hC : sp_E_4_readsClock fa1 fat1 len be 8 vl at_ f fw fcn fpn m12 m13 = (1, upd fcn m12 v1, fa1, fat1, p2, k2, v2, a2, m12 + 1) := by
        simp only [sp_E_4_readsClock, slet, if_pos hlt, h1, h2, reduceIte, Nat.one_ne_zero, h5]
      rw [e9] at hL
      refine ⟨_, _, _, _, _, _, _, _, _, hC, _, _, _, _, _, _, _, _, _, _, _, _, _, _, _, _, _, _, _, _, _, hL, Or.inr ⟨rfl, rfl, rfl, rfl, rfl, ⟨⟨rfl, by omega, rfl, hp8, rfl, he14⟩, hst, ?_, hpn, h4⟩, g2, s2, by have := s1.gle; omega⟩⟩
      intro i hi
      by_cases e : i = m12
      · subst e; rw [upd_s, upd_s]
      · rw [upd_n e, upd_n (by omega)]; exact hcn i (by omega)
