theorem la_out_1 {len : Nat} {f f1 : Nat → Int32} {r10 : Nat → Nat} {r11 f2 f3 : Nat → Int32} {r4 r5 r6 r7 : Nat → Nat} {f8 : Nat → Int32} {r9 : Nat → Nat} {m12 m13 m14 m15 : Nat} {at_ : Int32} {be tok : Nat} {va : Int32} {w : Nat} {wa : Int32} (h : w ≠ 0) : itrv default (sp_EM_automaton_L1 len f) (f1, r10, r11, f2, f3, r4, r5, r6, r7, f8, r9, m12, m13, m14, m15, at_, be, tok, va, w, wa) = (at_, be, tok, va, w, wa, f1, f2, f3, r4, r5, r6, r7, f8, r9, r10, r11, m12, m13, m14, m15) := itrv_inr (by simp [sp_EM_automaton_L1, slet, good_n h])
/-- a line that begins with none of the four words -/
theorem lO_1 {len : Nat} {f f1 f2 f3 : Nat → Int32} {r4 r5 r6 r7 : Nat → Nat} {f8 : Nat → Int32} {r9 r10 : Nat → Nat} {r11 : Nat → Int32} {m12 m13 m14 m15 : Nat} {x27 vl tka va at_ : Int32} {G pos k be tok : Nat} (ht : TS len G pos k vl tka be tok va at_) (h1 : k ≠ 8) (h2 : k ≠ 9) (h3 : k ≠ 12) (h4 : k ≠ 13) :
    sp_EM_readLine_1 len at_ be tok va 0 x27 f1 f2 f3 r4 r5 r6 r7 f8 r9 r10 r11 m12 m13 m14 m15 f = (f1, r10, r11, f2, f3, r4, r5, r6, r7, f8, r9, m12, m13, m14, m15, at_, be, tok, va, fk k 2, at_) := by
  obtain ⟨u2, u4, u6, u8⟩ := lw4_1 ht.tok
  rw [if_neg h1] at u2
  rw [if_neg h2] at u4
  rw [if_neg h3] at u6
  rw [if_neg h4] at u8
  simp only [sp_EM_readLine_1, slet, u2, u4, u6, u8, reduceIte, fails_eq ht.tok, good_n (fk_0 (k := k) (kind := 2) (by decide))]
abbrev LR_1 (len : Nat) (x27 : Int32) (t : (Nat → Nat) × (Nat → Nat) × (Nat → Int32) × (Nat → Int32) × (Nat → Int32) × (Nat → Int32) × (Nat → Int32) × (Nat → Int32) × (Nat → Int32) × (Nat → Nat) × (Nat → Nat) × (Nat → Int32) × Int32 × Int32 × Nat × Nat × Int32 × Int32 × Nat × Nat × Nat × Int32 × Nat) (t' : (Nat → Int32) × (Nat → Nat) × (Nat → Int32) × (Nat → Int32) × (Nat → Int32) × (Nat → Nat) × (Nat → Nat) × (Nat → Nat) × (Nat → Nat) × (Nat → Int32) × (Nat → Nat) × Nat × Nat × Nat × Nat × Int32 × Nat × Nat × Int32 × Nat × Int32) : Prop := ∃ q8 q9 f10 f11 f12 f13 fcn fpn f4 q5 q6 f7 p k v a nc np ne st0 line f1 r10 r11 f2 f3 r4 r5 r6 r7 f8 r9 m12 m13 m14 m15 at_ be tok va g, t = (q8, q9, f10, f11, f12, f13, fcn, fpn, f4, q5, q6, f7, 0, -1, p, k, v, a, nc, np, ne, st0, line) ∧ t' = (f1, r10, r11, f2, f3, r4, r5, r6, r7, f8, r9, m12, m13, m14, m15, at_, be, tok, va, 0, x27) ∧ MR_1 nc np ne st0 fcn fpn f4 q5 q6 f7 q8 q9 f10 f11 f1 f2 f3 r4 r5 r6 r7 f8 r9 r10 r11 m12 m13 m14 m15 ∧ TS len g p k v a be tok va at_ ∧ line ≤ g
abbrev LQ_1 (x27 : Int32) (b : Nat × (Nat → Nat) × (Nat → Nat) × (Nat → Int32) × (Nat → Int32) × (Nat → Int32) × (Nat → Int32) × (Nat → Int32) × (Nat → Int32) × (Nat → Int32) × (Nat → Int32) × (Nat → Int32) × (Nat → Int32) × (Nat → Nat) × (Nat → Nat) × (Nat → Int32) × Int32 × Int32 × Nat × Nat × Nat × Int32 × Int32 × Nat × Nat × Nat × Int32) (X : Int32 × Nat × Nat × Int32 × Nat × Int32 × (Nat → Int32) × (Nat → Int32) × (Nat → Int32) × (Nat → Nat) × (Nat → Nat) × (Nat → Nat) × (Nat → Nat) × (Nat → Int32) × (Nat → Nat) × (Nat → Nat) × (Nat → Int32) × Nat × Nat × Nat × Nat) : Prop := ∃ u q8 q9 f10 f11 f12 f13 f14' f15' f16' fcn fpn f4 q5 q6 f7 fa fat ln p k v a nc np ne st0, b = (u, q8, q9, f10, f11, f12, f13, f14', f15', f16', fcn, fpn, f4, q5, q6, f7, fa, fat, ln, p, k, v, a, nc, np, ne, st0) ∧
      ∃ at_ be tok va w wa f1 f2 f3 r4 r5 r6 r7 f8 r9 r10 r11 m12 m13 m14 m15, X = (at_, be, tok, va, w, wa, f1, f2, f3, r4, r5, r6, r7, f8, r9, r10, r11, m12, m13, m14, m15) ∧
      ((u = 0 ∧ w ≠ 0 ∧ fa = nI w ∧ fat = wa) ∨ (u = 0 ∧ w = 0 ∧ m13 = 0 ∧ tok = 0 ∧ fa = 6 ∧ fat = at_) ∨ (u = 1 ∧ w = 0 ∧ wa = x27 ∧ fa = 0 ∧ fat = -1 ∧ m13 ≠ 0 ∧ ∃ s0, MR_1 nc np ne s0 fcn fpn f4 q5 q6 f7 q8 q9 f10 f11 f1 f2 f3 r4 r5 r6 r7 f8 r9 r10 r11 m12 m13 m14 m15 ∧ ((s0 = -1 ∧ st0 = 0) ∨ (s0 ≠ -1 ∧ st0 = s0))))
/-- all lines, side by side -/
theorem lines_1 {f fw : Nat → Int32} (hw : ∀ i, i < 8 → fw i = WW i) (hf : ∀ i, f i ≠ -1) {len : Nat} (hl : len ≤ 900) (f14 f15 f16 : Nat → Int32) (x27 : Int32) {fcn0 fpn0 f40 : Nat → Int32} {q50 q60 : Nat → Nat} {f70 : Nat → Int32} {q80 q90 : Nat → Nat} {f100 f110 f120 f130 f10_ f20_ f30_ : Nat → Int32} {r40 r50 r60 r70 : Nat → Nat} {f80 : Nat → Int32} {r90 r100 : Nat → Nat} {r110 : Nat → Int32} {pos0 kd0 be0 tok0 G0 : Nat} {vl0 tka0 va0 at0 : Int32}
    (hM0 : MR_1 0 0 0 (-1) fcn0 fpn0 f40 q50 q60 f70 q80 q90 f100 f110 f10_ f20_ f30_ r40 r50 r60 r70 f80 r90 r100 r110 0 0 0 0) (ht0 : TS len G0 pos0 kd0 vl0 tka0 be0 tok0 va0 at0) :
    ∃ u q8 q9 f10 f11 f12 f13 f14' f15' f16' fcn fpn f4 q5 q6 f7 fa fat ln p k v a nc np ne st0, itrv default (sp_E_4_reads_L1 f fw f14 f15 f16 len) (q80, q90, f100, f110, f120, f130, fcn0, fpn0, f40, q50, q60, f70, 0, -1, pos0, kd0, vl0, tka0, 0, 0, 0, -1, 0) = (u, q8, q9, f10, f11, f12, f13, f14', f15', f16', fcn, fpn, f4, q5, q6, f7, fa, fat, ln, p, k, v, a, nc, np, ne, st0) ∧
      ∃ at_ be tok va w wa f1 f2 f3 r4 r5 r6 r7 f8 r9 r10 r11 m12 m13 m14 m15, itrv default (sp_EM_automaton_L1 len f) (f10_, r100, r110, f20_, f30_, r40, r50, r60, r70, f80, r90, 0, 0, 0, 0, at0, be0, tok0, va0, 0, x27) = (at_, be, tok, va, w, wa, f1, f2, f3, r4, r5, r6, r7, f8, r9, r10, r11, m12, m13, m14, m15) ∧
      ((u = 0 ∧ w ≠ 0 ∧ fa = nI w ∧ fat = wa) ∨ (u = 0 ∧ w = 0 ∧ m13 = 0 ∧ tok = 0 ∧ fa = 6 ∧ fat = at_) ∨ (u = 1 ∧ w = 0 ∧ wa = x27 ∧ fa = 0 ∧ fat = -1 ∧ m13 ≠ 0 ∧ ∃ s0, MR_1 nc np ne s0 fcn fpn f4 q5 q6 f7 q8 q9 f10 f11 f1 f2 f3 r4 r5 r6 r7 f8 r9 r10 r11 m12 m13 m14 m15 ∧ ((s0 = -1 ∧ st0 = 0) ∨ (s0 ≠ -1 ∧ st0 = s0)))) := by
  refine itrv_sim (d := default) (d' := default) (f := sp_E_4_reads_L1 f fw f14 f15 f16 len) (g := sp_EM_automaton_L1 len f)
    (LR_1 len x27)
    (LQ_1 x27)
    (fun t => len + 1 - t.2.2.2.2.2.2.2.2.2.2.2.2.2.2.2.2.2.2.2.2.2.2) ?_ (len + 1) _ _ (by show len + 1 - 0 ≤ len + 1; omega) ⟨_, _, _, _, _, _, _, _, _, _, _, _, _, _, _, _, _, _, _, _, _, _, _, _, _, _, _, _, _, _, _, _, _, _, _, _, _, _, _, _, G0, rfl, rfl, hM0, ht0, Nat.zero_le _⟩
  rintro t t' ⟨q8, q9, f10, f11, f12, f13, fcn, fpn, f4, q5, q6, f7, p, k, v, a, nc, np, ne, st0, line, f1, r10, r11, f2, f3, r4, r5, r6, r7, f8, r9, m12, m13, m14, m15, at_, be, tok, va, g, rfl, rfl, hM, ht, hline⟩
  have hgl : g ≤ len := ht.2.2.2.2.2.1
  have hln : ¬ len < line := by omega
  by_cases hk1 : k = 1
  · have htok := (tok_1 ht.tok).mp hk1
    have hat : at_ = a := ht.2.1
    have hX : itrv default (sp_EM_automaton_L1 len f) (f1, r10, r11, f2, f3, r4, r5, r6, r7, f8, r9, m12, m13, m14, m15, at_, be, tok, va, 0, x27) = (at_, be, tok, va, 0, x27, f1, f2, f3, r4, r5, r6, r7, f8, r9, r10, r11, m12, m13, m14, m15) := itrv_inr (by simp only [sp_EM_automaton_L1, slet, good_0, Nat.one_ne_zero, reduceIte, htok])
    have hnp : m13 = np := hM.1.2.2.1
    by_cases h0 : np = 0
    · have hs : sp_E_4_reads_L1 f fw f14 f15 f16 len (q8, q9, f10, f11, f12, f13, fcn, fpn, f4, q5, q6, f7, 0, -1, p, k, v, a, nc, np, ne, st0, line) = .inr (0, q8, q9, f10, f11, f12, f13, f14, f15, f16, fcn, fpn, f4, q5, q6, f7, 6, a, len, p, k, v, a, nc, np, ne, st0) := by
        simp only [sp_E_4_reads_L1, slet, if_neg hln, if_pos hk1, if_pos h0, sp_E_4_refuse]
      exact Or.inr ⟨_, hs, _, _, _, _, _, _, _, _, _, _, _, _, _, _, _, _, _, _, _, _, _, _, _, _, _, _, _, rfl, _, _, _, _, _, _, _, _, _, _, _, _, _, _, _, _, _, _, _, _, _, hX, Or.inr (Or.inl ⟨rfl, rfl, by omega, htok, rfl, hat.symm⟩)⟩
    · obtain ⟨⟨z14, z15, z16⟩, hz⟩ : ∃ x, sp_E_0_measure q8 q9 f10 f11 f14 f15 f16 = x := ⟨_, rfl⟩
      by_cases hst : st0 = -1
      · have hs : sp_E_4_reads_L1 f fw f14 f15 f16 len (q8, q9, f10, f11, f12, f13, fcn, fpn, f4, q5, q6, f7, 0, -1, p, k, v, a, nc, np, ne, st0, line) = .inr (1, q8, q9, f10, f11, f12, f13, z14, z15, z16, fcn, fpn, f4, q5, q6, f7, 0, -1, len, p, k, v, a, nc, np, ne, 0) := by
          simp only [sp_E_4_reads_L1, slet, if_neg hln, if_pos hk1, if_neg h0, if_pos hst, hz]
        exact Or.inr ⟨_, hs, _, _, _, _, _, _, _, _, _, _, _, _, _, _, _, _, _, _, _, _, _, _, _, _, _, _, _, rfl, _, _, _, _, _, _, _, _, _, _, _, _, _, _, _, _, _, _, _, _, _, hX, Or.inr (Or.inr ⟨rfl, rfl, rfl, rfl, rfl, by omega, st0, hM, Or.inl ⟨hst, rfl⟩⟩)⟩
      · obtain ⟨s, hs', e, -⟩ : ∃ s, s < np ∧ st0 = nI s ∧ m15 = s + 1 := hM.2.1.resolve_left (fun z => hst z.1)
        have hcl : nI st0.toNatClampNeg = st0 := by rw [e, nI_clamp (by have := hM.1.2.2.2.1; omega)]
        have hs : sp_E_4_reads_L1 f fw f14 f15 f16 len (q8, q9, f10, f11, f12, f13, fcn, fpn, f4, q5, q6, f7, 0, -1, p, k, v, a, nc, np, ne, st0, line) = .inr (1, q8, q9, f10, f11, f12, f13, z14, z15, z16, fcn, fpn, f4, q5, q6, f7, 0, -1, len, p, k, v, a, nc, np, ne, st0) := by
          simp only [sp_E_4_reads_L1, slet, if_neg hln, if_pos hk1, if_neg h0, if_neg hst, hz, hcl]
        exact Or.inr ⟨_, hs, _, _, _, _, _, _, _, _, _, _, _, _, _, _, _, _, _, _, _, _, _, _, _, _, _, _, _, rfl, _, _, _, _, _, _, _, _, _, _, _, _, _, _, _, _, _, _, _, _, _, hX, Or.inr (Or.inr ⟨rfl, rfl, rfl, rfl, rfl, by omega, st0, hM, Or.inr ⟨hst, rfl⟩⟩)⟩
  have htok : ¬ tok = 0 := fun z => hk1 ((tok_1 ht.tok).mpr z)
  have hpg : g < p := ht.2.2.2.2.2.2.2 hk1
  -- behind a line
  have fin : ∀ {u : Nat} {q8' q9' : Nat → Nat} {f10' f11' f12' f13' fcn' fpn' f4' : Nat → Int32} {q5' q6' : Nat → Nat} {f7' : Nat → Int32} {fa' fat' : Int32} {p' k' : Nat} {v' a' : Int32} {nc' np' ne' : Nat} {st0' : Int32} {f1' : Nat → Int32} {r10' : Nat → Nat} {r11' f2' f3' : Nat → Int32} {r4' r5' r6' r7' : Nat → Nat} {f8' : Nat → Int32} {r9' : Nat → Nat} {m12' m13' m14' m15' : Nat} {at' : Int32} {be' tok' : Nat} {va' : Int32} {w : Nat} {wa : Int32},
      sp_E_4_reads_L1 f fw f14 f15 f16 len (q8, q9, f10, f11, f12, f13, fcn, fpn, f4, q5, q6, f7, 0, -1, p, k, v, a, nc, np, ne, st0, line) = (if u = 0 then .inr (0, q8', q9', f10', f11', f12', f13', f14, f15, f16, fcn', fpn', f4', q5', q6', f7', fa', fat', len, p', k', v', a', nc', np', ne', st0') else (let s := sp_E_4_readsStop fa' fat' len p' k' v' a' f fw; if s.1 = 0 then .inr (0, q8', q9', f10', f11', f12', f13', f14, f15, f16, fcn', fpn', f4', q5', q6', f7', s.2.1, s.2.2.1, len, s.2.2.2.1, s.2.2.2.2.1, s.2.2.2.2.2.1, s.2.2.2.2.2.2, nc', np', ne', st0') else .inl (q8', q9', f10', f11', f12', f13', fcn', fpn', f4', q5', q6', f7', s.2.1, s.2.2.1, s.2.2.2.1, s.2.2.2.2.1, s.2.2.2.2.2.1, s.2.2.2.2.2.2, nc', np', ne', st0', line + 1))) →
      sp_EM_readLine_1 len at_ be tok va 0 x27 f1 f2 f3 r4 r5 r6 r7 f8 r9 r10 r11 m12 m13 m14 m15 f = (f1', r10', r11', f2', f3', r4', r5', r6', r7', f8', r9', m12', m13', m14', m15', at', be', tok', va', w, wa) →
      ((u = 0 ∧ w ≠ 0 ∧ fa' = nI w ∧ fat' = wa) ∨ (u = 1 ∧ fa' = 0 ∧ fat' = -1 ∧ w = 0 ∧ wa = x27 ∧ MR_1 nc' np' ne' st0' fcn' fpn' f4' q5' q6' f7' q8' q9' f10' f11' f1' f2' f3' r4' r5' r6' r7' f8' r9' r10' r11' m12' m13' m14' m15' ∧ ∃ g, TS len g p' k' v' a' be' tok' va' at' ∧ p ≤ g)) →
      (∃ u u', sp_E_4_reads_L1 f fw f14 f15 f16 len (q8, q9, f10, f11, f12, f13, fcn, fpn, f4, q5, q6, f7, 0, -1, p, k, v, a, nc, np, ne, st0, line) = .inl u ∧ sp_EM_automaton_L1 len f (f1, r10, r11, f2, f3, r4, r5, r6, r7, f8, r9, m12, m13, m14, m15, at_, be, tok, va, 0, x27) = .inl u' ∧ LR_1 len x27 u u' ∧ len + 1 - u.2.2.2.2.2.2.2.2.2.2.2.2.2.2.2.2.2.2.2.2.2.2 < len + 1 - line) ∨ (∃ b, sp_E_4_reads_L1 f fw f14 f15 f16 len (q8, q9, f10, f11, f12, f13, fcn, fpn, f4, q5, q6, f7, 0, -1, p, k, v, a, nc, np, ne, st0, line) = .inr b ∧ LQ_1 x27 b (itrv default (sp_EM_automaton_L1 len f) (f1, r10, r11, f2, f3, r4, r5, r6, r7, f8, r9, m12, m13, m14, m15, at_, be, tok, va, 0, x27))) := by
    intro u q8' q9' f10' f11' f12' f13' fcn' fpn' f4' q5' q6' f7' fa' fat' p' k' v' a' nc' np' ne' st0' f1' r10' r11' f2' f3' r4' r5' r6' r7' f8' r9' m12' m13' m14' m15' at' be' tok' va' w wa hS hL hR
    rcases hR with ⟨rfl, b1, b2, b3⟩ | ⟨rfl, rfl, rfl, rfl, rfl, hM', g', ht', hg'⟩
    · rw [if_pos rfl] at hS
      have hin : sp_EM_automaton_L1 len f (f1, r10, r11, f2, f3, r4, r5, r6, r7, f8, r9, m12, m13, m14, m15, at_, be, tok, va, 0, x27) = .inl (f1', r10', r11', f2', f3', r4', r5', r6', r7', f8', r9', m12', m13', m14', m15', at', be', tok', va', w, wa) := by
        simp only [sp_EM_automaton_L1, slet, good_0, Nat.one_ne_zero, reduceIte, if_neg htok, hL, good_n b1]
      have hX := (itrv_inl (d := default) hin).trans (la_out_1 b1)
      exact Or.inr ⟨_, hS, _, _, _, _, _, _, _, _, _, _, _, _, _, _, _, _, _, _, _, _, _, _, _, _, _, _, _, rfl, _, _, _, _, _, _, _, _, _, _, _, _, _, _, _, _, _, _, _, _, _, hX, Or.inl ⟨rfl, b1, b2, b3⟩⟩
    · rw [if_neg (by decide)] at hS
      have i59 := sign_iff ht'.tok (c := 59) (j := 7) (Or.inr (Or.inr (Or.inr ⟨rfl, rfl⟩)))
      obtain ⟨rfl, rfl, -⟩ := id ht'
      by_cases h7 : k' = 7
      · subst h7
        obtain ⟨⟨p2, k2, v2, a2⟩, h5⟩ : ∃ x, sp_E_4_advance len be' v' f fw = x := ⟨_, rfl⟩
        obtain ⟨t2, w2, g2, n2, s2, l2⟩ := adv_ex hw hf hl ht'.le h5
        rw [if_pos rfl] at i59
        have hst : sp_E_4_readsStop 0 (-1) len be' 7 v' at' f fw = (1, 0, -1, p2, k2, v2, a2) := by
          simp only [sp_E_4_readsStop, slet, reduceIte, h5]
        rw [hst] at hS
        have hin : sp_EM_automaton_L1 len f (f1, r10, r11, f2, f3, r4, r5, r6, r7, f8, r9, m12, m13, m14, m15, at_, be, tok, va, 0, wa) = .inl (f1', r10', r11', f2', f3', r4', r5', r6', r7', f8', r9', m12', m13', m14', m15', a2, p2, t2, w2, 0, wa) := by
          simp only [sp_EM_automaton_L1, slet, good_0, Nat.one_ne_zero, reduceIte, if_neg htok, hL, i59, n2]
        refine Or.inl ⟨_, _, hS, hin, ⟨_, _, _, _, _, _, _, _, _, _, _, _, _, _, _, _, _, _, _, _, _, _, _, _, _, _, _, _, _, _, _, _, _, _, _, _, _, _, _, _, g2, rfl, rfl, hM', s2, ?_⟩, ?_⟩
        · have := ht'.2.2.2.2.2.2.2 (by decide); omega
        · show len + 1 - (line + 1) < len + 1 - line; omega
      · rw [if_neg h7] at i59
        have hst : sp_E_4_readsStop 0 (-1) len be' k' v' at' f fw = (0, nI (fk k' 2), at', be', k', v', at') := by
          simp only [sp_E_4_readsStop, slet, if_neg h7, refT_eq]
        rw [hst] at hS
        have hz : fk k' 2 ≠ 0 := fk_0 (by decide)
        have hin : sp_EM_automaton_L1 len f (f1, r10, r11, f2, f3, r4, r5, r6, r7, f8, r9, m12, m13, m14, m15, at_, be, tok, va, 0, wa) = .inl (f1', r10', r11', f2', f3', r4', r5', r6', r7', f8', r9', m12', m13', m14', m15', at', be', tok', va', fk k' 2, at') := by
          simp only [sp_EM_automaton_L1, slet, good_0, Nat.one_ne_zero, reduceIte, if_neg htok, hL, i59, fails_eq ht'.tok, good_n hz]
        have hX := (itrv_inl (d := default) hin).trans (la_out_1 hz)
        exact Or.inr ⟨_, hS, _, _, _, _, _, _, _, _, _, _, _, _, _, _, _, _, _, _, _, _, _, _, _, _, _, _, _, rfl, _, _, _, _, _, _, _, _, _, _, _, _, _, _, _, _, _, _, _, _, _, hX, Or.inl ⟨rfl, hz, rfl, rfl⟩⟩
  by_cases e8 : k = 8
  · subst e8
    obtain ⟨u, x1, x2, x3, x4, x5, x6, x7, x8, hC, y1, y2, y3, y4, y5, y6, y7, y8, y9, y10, y11, y12, y13, y14, y15, y16, y17, y18, y19, y20, y21, hL, hR⟩ := lk_1 hw hf hl hM (fa := 0) (fat := -1) (x27 := x27) ht
    exact fin (by simp only [sp_E_4_reads_L1, slet, if_neg hln, if_neg hk1, reduceIte, hC]; rfl) hL hR
  by_cases e9 : k = 9
  · subst e9
    obtain ⟨u, x1, x2, x3, x4, x5, x6, x7, x8, x9, x10, x11, x12, x13, x14, x15, hC, y1, y2, y3, y4, y5, y6, y7, y8, y9, y10, y11, y12, y13, y14, y15, y16, y17, y18, y19, y20, y21, hL, hR⟩ := lP_1 hw hf hl (f12 := f12) (f13 := f13) hM (fa := 0) (fat := -1) (x27 := x27) ht
    exact fin (by simp only [sp_E_4_reads_L1, slet, if_neg hln, if_neg hk1, if_neg e8, reduceIte, hC]; rfl) hL hR
  by_cases e12 : k = 12
  · subst e12
    obtain ⟨u, x1, x2, x3, x4, x5, x6, x7, hC, y1, y2, y3, y4, y5, y6, y7, y8, y9, y10, y11, y12, y13, y14, y15, y16, y17, y18, y19, y20, y21, hL, hR⟩ := lS_1 hw hf hl hM (fa := 0) (fat := -1) (x27 := x27) ht
    exact fin (by simp only [sp_E_4_reads_L1, slet, if_neg hln, if_neg hk1, if_neg e8, if_neg e9, reduceIte, hC]; rfl) hL hR
  by_cases e13 : k = 13
  · subst e13
    obtain ⟨u, x1, x2, x3, x4, x5, x6, x7, x8, x9, x10, x11, x12, x13, x14, x15, x16, hC, y1, y2, y3, y4, y5, y6, y7, y8, y9, y10, y11, y12, y13, y14, y15, y16, y17, y18, y19, y20, y21, hL, hR⟩ := lE_1 hw hf hl (f12 := f12) (f13 := f13) hM (fa := 0) (fat := -1) (x27 := x27) ht
    exact fin (by simp only [sp_E_4_reads_L1, slet, if_neg hln, if_neg hk1, if_neg e8, if_neg e9, if_neg e12, reduceIte, hC]; rfl) hL hR
  · exact fin (u := 0) (by simp only [sp_E_4_reads_L1, slet, if_neg hln, if_neg hk1, if_neg e8, if_neg e9, if_neg e12, if_neg e13, reduceIte, refT_eq]; rfl) (lO_1 ht e8 e9 e12 e13) (Or.inl ⟨rfl, fk_0 (by decide), rfl, ht.2.1.symm⟩)
