/-- the class's automaton and bank b of the reference are the same -/
def MB (b : Nat) (nc np ne : Nat) (st0 : Int32) (f4 : Nat → Int32) (q5 q6 : Nat → Nat) (f7 : Nat → Int32) (q8 q9 : Nat → Nat) (f10 f11 : Nat → Int32) (f3 : Nat → Int32) (r4 r5 r6 r7 : Nat → Nat) (f8 : Nat → Int32) (r9 r10 : Nat → Nat) (r11 : Nat → Int32) (m12 m13 m14 m15 : Nat) : Prop :=
  (m12 = nc ∧ nc ≤ 3 ∧ m13 = np ∧ np ≤ 8 ∧ m14 = ne ∧ ne ≤ 14) ∧ (np = 0 ∨ m15 = 0 ∨ ∃ s, s < np ∧ st0 = nI s ∧ m15 = s + 1) ∧
  (∀ i, i < np → f4 i = f3 (8 * b + i)) ∧ (∀ i, np ≤ i → i < 8 → f4 i = 0 ∧ q8 (14 + i) = 0) ∧ (∀ i, ne ≤ i → i < 14 → q8 i = 0) ∧
  (∀ i, i < np → q8 (14 + i) = r4 (8 * b + i) ∧ q8 (14 + i) ≤ 3 ∧ CI ((14 + i) * 4) (80 * b + 56 + 3 * i) (q8 (14 + i)) q9 f10 f11 r9 r10 r11) ∧
  (∀ i, i < ne → q8 i = r7 (14 * b + i) ∧ q8 i ≤ 4 ∧ CI (i * 4) (80 * b + 4 * i) (q8 i) q9 f10 f11 r9 r10 r11) ∧
  (∀ i, i < ne → q5 i = r5 (14 * b + i) ∧ q5 i < np ∧ q6 i = r6 (14 * b + i) ∧ q6 i < np ∧ f7 i = f8 (14 * b + i))
theorem mb_of_0 {nc np ne : Nat} {st0 st1 : Int32} {f4 : Nat → Int32} {q5 q6 : Nat → Nat} {f7 : Nat → Int32} {q8 q9 : Nat → Nat} {f10 f11 : Nat → Int32} {fcn fpn f1 f2 : Nat → Int32} {f3 : Nat → Int32} {r4 r5 r6 r7 : Nat → Nat} {f8 : Nat → Int32} {r9 r10 : Nat → Nat} {r11 : Nat → Int32} {m12 m13 m14 m15 : Nat} (h : MR_0 nc np ne st0 fcn fpn f4 q5 q6 f7 q8 q9 f10 f11 f1 f2 f3 r4 r5 r6 r7 f8 r9 r10 r11 m12 m13 m14 m15) (hs : ∀ s, s < np → st0 = nI s → st1 = nI s) : MB 0 nc np ne st1 f4 q5 q6 f7 q8 q9 f10 f11 f3 r4 r5 r6 r7 f8 r9 r10 r11 m12 m13 m14 m15 := by
  obtain ⟨h1, h2, -, -, h5, h6, h7, h8, h9, h10⟩ := h
  refine ⟨h1, ?_, fun i hi => h5 i hi, h6, h7, fun i hi => h8 i hi, fun i hi => h9 i hi, fun i hi => h10 i hi⟩
  rcases h2 with ⟨-, e⟩ | ⟨s, e1, e2, e3⟩
  · exact Or.inr (Or.inl e)
  · exact Or.inr (Or.inr ⟨s, e1, hs s e1 e2, e3⟩)
theorem mb_of_1 {nc np ne : Nat} {st0 st1 : Int32} {f4 : Nat → Int32} {q5 q6 : Nat → Nat} {f7 : Nat → Int32} {q8 q9 : Nat → Nat} {f10 f11 : Nat → Int32} {fcn fpn f1 f2 : Nat → Int32} {f3 : Nat → Int32} {r4 r5 r6 r7 : Nat → Nat} {f8 : Nat → Int32} {r9 r10 : Nat → Nat} {r11 : Nat → Int32} {m12 m13 m14 m15 : Nat} (h : MR_1 nc np ne st0 fcn fpn f4 q5 q6 f7 q8 q9 f10 f11 f1 f2 f3 r4 r5 r6 r7 f8 r9 r10 r11 m12 m13 m14 m15) (hs : ∀ s, s < np → st0 = nI s → st1 = nI s) : MB 1 nc np ne st1 f4 q5 q6 f7 q8 q9 f10 f11 f3 r4 r5 r6 r7 f8 r9 r10 r11 m12 m13 m14 m15 := by
  obtain ⟨h1, h2, -, -, h5, h6, h7, h8, h9, h10⟩ := h
  refine ⟨h1, ?_, fun i hi => h5 i hi, h6, h7, fun i hi => h8 i hi, fun i hi => h9 i hi, fun i hi => h10 i hi⟩
  rcases h2 with ⟨-, e⟩ | ⟨s, e1, e2, e3⟩
  · exact Or.inr (Or.inl e)
  · exact Or.inr (Or.inr ⟨s, e1, hs s e1 e2, e3⟩)
theorem CI.fr {b b' cnt : Nat} {q9 : Nat → Nat} {f10 f11 : Nat → Int32} {r9 r10 : Nat → Nat} {r11 : Nat → Int32} {s9 s10 : Nat → Nat} {s11 : Nat → Int32} (h : CI b b' cnt q9 f10 f11 r9 r10 r11) (h9 : ∀ j, j < cnt → s9 (b' + j) = r9 (b' + j)) (h10 : ∀ j, j < cnt → s10 (b' + j) = r10 (b' + j)) (h11 : ∀ j, j < cnt → s11 (b' + j) = r11 (b' + j)) : CI b b' cnt q9 f10 f11 s9 s10 s11 := by
  intro j hj
  rw [h9 j hj, h10 j hj, h11 j hj]
  exact h j hj
/-- reading into the other bank leaves it so -/
theorem MB.fr {b : Nat} (hb : b ≤ 1) {nc np ne : Nat} {st0 st1 : Int32} {f4 : Nat → Int32} {q5 q6 : Nat → Nat} {f7 : Nat → Int32} {q8 q9 : Nat → Nat} {f10 f11 : Nat → Int32} {f3 : Nat → Int32} {r4 r5 r6 r7 : Nat → Nat} {f8 : Nat → Int32} {r9 r10 : Nat → Nat} {r11 : Nat → Int32} {m12 m13 m14 m15 : Nat} {g1 g2 g3 : Nat → Int32} {s4 s5 s6 s7 : Nat → Nat} {g8 : Nat → Int32} {s9 s10 : Nat → Nat} {s11 f1 f2 : Nat → Int32} (h : MB b nc np ne st0 f4 q5 q6 f7 q8 q9 f10 f11 f3 r4 r5 r6 r7 f8 r9 r10 r11 m12 m13 m14 m15) (hF : FRM (1 - b) g1 s10 s11 g2 g3 s4 s5 s6 s7 g8 s9 f1 r10 r11 f2 f3 r4 r5 r6 r7 f8 r9) : MB b nc np ne st0 f4 q5 q6 f7 q8 q9 f10 f11 g3 s4 s5 s6 s7 g8 s9 s10 s11 m12 m13 m14 m15 := by
  obtain ⟨h1, h2, h5, h6, h7, h8, h9, h10⟩ := h
  obtain ⟨-, e10, e11, -, e3, e4, e5, e6, e7, e8, e9⟩ := hF
  have hnp : np ≤ 8 := h1.2.2.2.1
  have hne : ne ≤ 14 := h1.2.2.2.2.2
  have b3 : ∀ i, i < np → g3 (8 * b + i) = f3 (8 * b + i) := fun i hi => e3 _ (by omega)
  have b4 : ∀ i, i < np → s4 (8 * b + i) = r4 (8 * b + i) := fun i hi => e4 _ (by omega)
  have b5 : ∀ i, i < ne → s5 (14 * b + i) = r5 (14 * b + i) := fun i hi => e5 _ (by omega)
  have b6 : ∀ i, i < ne → s6 (14 * b + i) = r6 (14 * b + i) := fun i hi => e6 _ (by omega)
  have b7 : ∀ i, i < ne → s7 (14 * b + i) = r7 (14 * b + i) := fun i hi => e7 _ (by omega)
  have b8 : ∀ i, i < ne → g8 (14 * b + i) = f8 (14 * b + i) := fun i hi => e8 _ (by omega)
  have b9 : ∀ k, 80 * b ≤ k → k < 80 * b + 80 → s9 k = r9 k := fun k k1 k2 => e9 _ (by omega)
  have b10 : ∀ k, 80 * b ≤ k → k < 80 * b + 80 → s10 k = r10 k := fun k k1 k2 => e10 _ (by omega)
  have b11 : ∀ k, 80 * b ≤ k → k < 80 * b + 80 → s11 k = r11 k := fun k k1 k2 => e11 _ (by omega)
  refine ⟨h1, h2, fun i hi => (h5 i hi).trans (b3 i hi).symm, h6, h7, fun i hi => ?_, fun i hi => ?_, fun i hi => ?_⟩
  · obtain ⟨c1, c2, c3⟩ := h8 i hi
    exact ⟨c1.trans (b4 i hi).symm, c2, c3.fr (fun j hj => b9 _ (by omega) (by omega)) (fun j hj => b10 _ (by omega) (by omega)) (fun j hj => b11 _ (by omega) (by omega))⟩
  · obtain ⟨c1, c2, c3⟩ := h9 i hi
    exact ⟨c1.trans (b7 i hi).symm, c2, c3.fr (fun j hj => b9 _ (by omega) (by omega)) (fun j hj => b10 _ (by omega) (by omega)) (fun j hj => b11 _ (by omega) (by omega))⟩
  · obtain ⟨c1, c2, c3, c4, c5⟩ := h10 i hi
    exact ⟨c1.trans (b5 i hi).symm, c2, c3.trans (b6 i hi).symm, c4, c5.trans (b8 i hi).symm⟩
/-- of the edges alone -/
def EB (b ne : Nat) (q5 q6 : Nat → Nat) (f7 : Nat → Int32) (q8 r5 r6 r7 : Nat → Nat) (f8 : Nat → Int32) (m14 : Nat) : Prop := m14 = ne ∧ ne ≤ 14 ∧ ∀ i, i < ne → q5 i = r5 (14 * b + i) ∧ q6 i = r6 (14 * b + i) ∧ q8 i = r7 (14 * b + i) ∧ f7 i = f8 (14 * b + i)
theorem MB.eb {b : Nat} {nc np ne : Nat} {st0 st1 : Int32} {f4 : Nat → Int32} {q5 q6 : Nat → Nat} {f7 : Nat → Int32} {q8 q9 : Nat → Nat} {f10 f11 : Nat → Int32} {f3 : Nat → Int32} {r4 r5 r6 r7 : Nat → Nat} {f8 : Nat → Int32} {r9 r10 : Nat → Nat} {r11 : Nat → Int32} {m12 m13 m14 m15 : Nat} (h : MB b nc np ne st0 f4 q5 q6 f7 q8 q9 f10 f11 f3 r4 r5 r6 r7 f8 r9 r10 r11 m12 m13 m14 m15) : EB b ne q5 q6 f7 q8 r5 r6 r7 f8 m14 := by
  obtain ⟨⟨-, -, -, -, e, hne⟩, -, -, -, -, -, h9, h10⟩ := h
  exact ⟨e, hne, fun i hi => ⟨(h10 i hi).1, (h10 i hi).2.2.1, (h9 i hi).1, (h10 i hi).2.2.2.2⟩⟩
theorem EB.fr {b ne : Nat} (hb : b ≤ 1) {q5 q6 : Nat → Nat} {f7 : Nat → Int32} {q8 r5 r6 r7 : Nat → Nat} {f8 : Nat → Int32} {m14 : Nat} {g1 g2 g3 : Nat → Int32} {s4 s5 s6 s7 : Nat → Nat} {g8 : Nat → Int32} {s9 s10 : Nat → Nat} {s11 f1 f2 f3 : Nat → Int32} {r4 r9 r10 : Nat → Nat} {r11 : Nat → Int32} (h : EB b ne q5 q6 f7 q8 r5 r6 r7 f8 m14) (hF : FRM (1 - b) g1 s10 s11 g2 g3 s4 s5 s6 s7 g8 s9 f1 r10 r11 f2 f3 r4 r5 r6 r7 f8 r9) : EB b ne q5 q6 f7 q8 s5 s6 s7 g8 m14 := by
  obtain ⟨e, hne, h⟩ := h
  obtain ⟨-, -, -, -, -, -, e5, e6, e7, e8, -⟩ := hF
  refine ⟨e, hne, fun i hi => ?_⟩
  rw [e5 _ (by omega), e6 _ (by omega), e7 _ (by omega), e8 _ (by omega)]
  exact h i hi
