noncomputable def restE_0 (len : Nat) (f1 : Nat → Int32) (nc ne : Nat) (f : Nat → Int32) (qa qb : Nat → Nat) (fs : Nat → Int32) (r10 : Nat → Nat) (r11 : Nat → Int32) (r7 r9 : Nat → Nat) (at_ : Int32) (be tok : Nat) (va : Int32) (w : Nat) (wa : Int32) : (Nat → Nat) × (Nat → Int32) × (Nat → Nat) × (Nat → Nat) × (Nat → Nat) × (Nat → Int32) × (Nat → Nat) × Nat × Int32 × Nat × Nat × Int32 × Nat × Int32 :=
  let x := itrv default (sp_EM_readEdge_0_L2 len f1 nc ne f) (fs, at_, be, tok, va, w, wa)
  (r10, r11, qa, qb, r7, x.2.2.2.2.2.2, r9, ne + 1, x.1, x.2.1, x.2.2.1, x.2.2.2.1, x.2.2.2.2.1, x.2.2.2.2.2.1)
theorem restE_bad_0 {len : Nat} {f1 : Nat → Int32} {nc ne : Nat} {f : Nat → Int32} {qa qb : Nat → Nat} {fs : Nat → Int32} {r10 : Nat → Nat} {r11 : Nat → Int32} {r7 r9 : Nat → Nat} {at_ : Int32} {be tok : Nat} {va : Int32} {w : Nat} {wa : Int32} (h : w ≠ 0) : restE_0 len f1 nc ne f qa qb fs r10 r11 r7 r9 at_ be tok va w wa = (r10, r11, qa, qb, r7, fs, r9, ne + 1, at_, be, tok, va, w, wa) := by
  unfold restE_0
  rw [itrv_inr (b := (at_, be, tok, va, w, wa, fs)) (by simp [sp_EM_readEdge_0_L2, slet, good_n h])]
theorem l3_out_0 {len : Nat} {f1 : Nat → Int32} {nc ne : Nat} {f : Nat → Int32} {qa qb : Nat → Nat} {fs : Nat → Int32} {r10 : Nat → Nat} {r11 : Nat → Int32} {r7 r9 : Nat → Nat} {at_ : Int32} {be tok : Nat} {va : Int32} {w : Nat} {wa : Int32} (h : w ≠ 0) : itrv default (sp_EM_readEdge_0_L3 len f1 nc ne f qa qb fs) (r10, r11, r7, r9, at_, be, tok, va, w, wa) = (r10, r11, qa, qb, r7, fs, r9, ne + 1, at_, be, tok, va, w, wa) := by
  rw [← restE_bad_0 h]
  exact itrv_inr (by simp [sp_EM_readEdge_0_L3, slet, good_n h] <;> rfl)
/-- the conditions of an edge, side by side -/
theorem cs14_0 {f fw fcn f1 : Nat → Int32} (hw : ∀ i, i < 8 → fw i = WW i) (hf : ∀ i, f i ≠ -1) {len nc ne : Nat} (hl : len ≤ 900) (hnc : nc ≤ 3) (hn : ∀ i, i < nc → fcn i = f1 (0 + i)) (fa fat x27 : Int32) (G : Nat) (qa qb : Nat → Nat) (fs : Nat → Int32)
    (q8o q9o : Nat → Nat) (f10o f11o f12o f13o : Nat → Int32) (r7o r9o r10o : Nat → Nat) (r11o : Nat → Int32) {pos kd be tok : Nat} {vl tka va at_ : Int32} (hq8 : q8o ne = 0) (hr7 : r7o (0 + ne) = 0) (hts : TS len G pos kd vl tka be tok va at_) :
    ∃ u q8 q9 f10 f11 f12 f13 fa' fat' p k v a, sp_E_4_readsConditions_14 fa fat len pos kd vl tka f fw fcn nc q8o q9o f10o f11o f12o f13o ne = (u, q8, q9, f10, f11, f12, f13, fa', fat', p, k, v, a) ∧
      ((u = 0 ∧ ∃ r10 r11 r7 f8 r9 e at' be' tok' va' w wa, itrv default (sp_EM_readEdge_0_L3 len f1 nc ne f qa qb fs) (r10o, r11o, r7o, r9o, at_, be, tok, va, 0, x27) = (r10, r11, qa, qb, r7, f8, r9, e, at', be', tok', va', w, wa) ∧ w ≠ 0 ∧ fa' = nI w ∧ fat' = wa) ∨
       (u = 1 ∧ fa' = fa ∧ fat' = fat ∧ k ≠ 14 ∧ ∃ cnt r10 r11 r7 r9 at' be' tok' va' g, cnt ≤ 4 ∧ itrv default (sp_EM_readEdge_0_L3 len f1 nc ne f qa qb fs) (r10o, r11o, r7o, r9o, at_, be, tok, va, 0, x27) = restE_0 len f1 nc ne f qa qb fs r10 r11 r7 r9 at' be' tok' va' 0 x27 ∧ TS len g p k v a be' tok' va' at' ∧ G ≤ g ∧ q8 ne = cnt ∧ r7 (0 + ne) = cnt ∧ UN ne 1 q8 q8o ∧ UN (0 + ne) 1 r7 r7o ∧ CI (ne * 4) (0 + 4 * ne) cnt q9 f10 f11 r9 r10 r11 ∧ UN (ne * 4) 4 q9 q9o ∧ UN (ne * 4) 4 f10 f10o ∧ UN (ne * 4) 4 f11 f11o ∧ UN (0 + 4 * ne) 4 r9 r9o ∧ UN (0 + 4 * ne) 4 r10 r10o ∧ UN (0 + 4 * ne) 4 r11 r11o)) := by
  refine itrv_sim (d := default) (d' := default) (f := sp_E_4_readsConditions_14_L1 len f fw fcn nc ne) (g := sp_EM_readEdge_0_L3 len f1 nc ne f qa qb fs)
    (fun t t' => ∃ q8 q9 f10 f11 f12 f13 p k v a cnt r10 r11 r7 r9 at' be' tok' va' g, t = (q8, q9, f10, f11, f12, f13, fa, fat, p, k, v, a, cnt) ∧ t' = (r10, r11, r7, r9, at', be', tok', va', 0, x27) ∧ cnt ≤ 4 ∧ TS len g p k v a be' tok' va' at' ∧ G ≤ g ∧ q8 ne = cnt ∧ r7 (0 + ne) = cnt ∧ UN ne 1 q8 q8o ∧ UN (0 + ne) 1 r7 r7o ∧ CI (ne * 4) (0 + 4 * ne) cnt q9 f10 f11 r9 r10 r11 ∧ UN (ne * 4) 4 q9 q9o ∧ UN (ne * 4) 4 f10 f10o ∧ UN (ne * 4) 4 f11 f11o ∧ UN (0 + 4 * ne) 4 r9 r9o ∧ UN (0 + 4 * ne) 4 r10 r10o ∧ UN (0 + 4 * ne) 4 r11 r11o)
    (fun b X => ∃ u q8 q9 f10 f11 f12 f13 fa' fat' p k v a, b = (u, q8, q9, f10, f11, f12, f13, fa', fat', p, k, v, a) ∧
      ((u = 0 ∧ ∃ r10 r11 r7 f8 r9 e at' be' tok' va' w wa, X = (r10, r11, qa, qb, r7, f8, r9, e, at', be', tok', va', w, wa) ∧ w ≠ 0 ∧ fa' = nI w ∧ fat' = wa) ∨
       (u = 1 ∧ fa' = fa ∧ fat' = fat ∧ k ≠ 14 ∧ ∃ cnt r10 r11 r7 r9 at' be' tok' va' g, cnt ≤ 4 ∧ X = restE_0 len f1 nc ne f qa qb fs r10 r11 r7 r9 at' be' tok' va' 0 x27 ∧ TS len g p k v a be' tok' va' at' ∧ G ≤ g ∧ q8 ne = cnt ∧ r7 (0 + ne) = cnt ∧ UN ne 1 q8 q8o ∧ UN (0 + ne) 1 r7 r7o ∧ CI (ne * 4) (0 + 4 * ne) cnt q9 f10 f11 r9 r10 r11 ∧ UN (ne * 4) 4 q9 q9o ∧ UN (ne * 4) 4 f10 f10o ∧ UN (ne * 4) 4 f11 f11o ∧ UN (0 + 4 * ne) 4 r9 r9o ∧ UN (0 + 4 * ne) 4 r10 r10o ∧ UN (0 + 4 * ne) 4 r11 r11o)))
    (fun t => 4 - t.2.2.2.2.2.2.2.2.2.2.2.2) ?_ 4 _ _ (by show 4 - 0 ≤ 4; omega) ⟨q8o, q9o, f10o, f11o, f12o, f13o, pos, kd, vl, tka, 0, r10o, r11o, r7o, r9o, at_, be, tok, va, G, rfl, rfl, by omega, hts, Nat.le_refl _, hq8, hr7, UN.rf, UN.rf, CI.z, UN.rf, UN.rf, UN.rf, UN.rf, UN.rf, UN.rf⟩
  rintro t t' ⟨q8, q9, f10, f11, f12, f13, p, k, v, a, cnt, r10, r11, r7, r9, at', be', tok', va', g, rfl, rfl, hcnt, ht, hG, e8, e7, u8, u7, hci, un1, un2, un3, un4, un5, un6⟩
  have hwd : sp_EM_isWord tok' va' 762030 = (if k = 8 + 6 then 1 else 0) := word_iff ht.tok (i := 6) (by decide)
  have hbe : be' = p := ht.1
  have hat : at' = a := ht.2.1
  subst hbe hat
  by_cases hk : k = 14
  · subst hk
    by_cases h4 : cnt = 4
    · subst h4
      refine Or.inr ⟨_, by simp [sp_E_4_readsConditions_14_L1, slet, sp_E_4_refuse]  <;> rfl, 0, q8, q9, f10, f11, f12, f13, 5, at', be', 14, v, at', rfl, Or.inl ⟨rfl, r10, r11, r7, fs, r9, ne, at', be', tok', va', 5, at', ?_, by decide, rfl, rfl⟩⟩
      refine itrv_inr ?_
      have hwd' : sp_EM_isWord tok' va' 762030 = 1 := hwd
      simp only [sp_EM_readEdge_0_L3, slet, good_0, Nat.one_ne_zero, reduceIte, hwd', e7, Nat.min_self, fails_eq ht.tok]
      rfl
    · obtain ⟨⟨p1, k1, v1, a1⟩, h1⟩ : ∃ x, sp_E_4_advance len be' v f fw = x := ⟨_, rfl⟩
      obtain ⟨⟨u, fa1, fat1⟩, h2⟩ : ∃ x, sp_E_4_toldName_c fa fat k1 v1 a1 fcn nc = x := ⟨_, rfl⟩
      obtain ⟨⟨p2, k2, v2, a2⟩, h3⟩ : ∃ x, sp_E_4_advance len p1 v1 f fw = x := ⟨_, rfl⟩
      obtain ⟨⟨hh, fa2, fat2, p3, k3, v3, a3⟩, h5⟩ : ∃ x, sp_E_4_readHow fa1 fat1 len p2 k2 v2 a2 f fw 0 = x := ⟨_, rfl⟩
      obtain ⟨⟨p4, k4, v4, a4⟩, h6⟩ : ∃ x, sp_E_4_advance len p3 v3 f fw = x := ⟨_, rfl⟩
      obtain ⟨⟨z10, z11, z9, z20, z21, z22, z23, z26, z27⟩, hB⟩ : ∃ x, sp_EM_readCondition0_0 len be' 0 x27 f1 r9 r10 r11 nc f ((0 + (4 * ne)) + cnt) = x := ⟨_, rfl⟩
      have hm : min (r7 (0 + ne)) 4 = cnt := by rw [e7]; omega
      have hin : sp_EM_readEdge_0_L3 len f1 nc ne f qa qb fs (r10, r11, r7, r9, at', be', tok', va', 0, x27) = .inl (z10, z11, updN r7 (0 + ne) (cnt + 1), z9, z20, z21, z22, z23, z26, z27) := by
        have hwd' : sp_EM_isWord tok' va' 762030 = 1 := hwd
        simp only [sp_EM_readEdge_0_L3, slet, good_0, Nat.one_ne_zero, reduceIte, hwd', hm, if_neg h4, hB]
      have bad : z26 ≠ 0 → itrv default (sp_EM_readEdge_0_L3 len f1 nc ne f qa qb fs) (r10, r11, r7, r9, at', be', tok', va', 0, x27) = (z10, z11, qa, qb, updN r7 (0 + ne) (cnt + 1), fs, z9, ne + 1, z20, z21, z22, z23, z26, z27) := fun h => by rw [itrv_inl hin, l3_out_0 h]
      rcases rc0_0 hw hf hl ht.le hn h1 h2 h3 h5 h6 hB with ⟨rfl, b1, b2, b3⟩ | ⟨b0, rfl, b1, b2, b3⟩ | ⟨b0, b1, b2, b3, b4⟩ | ⟨b0, b1, rfl, b2, b3, b4⟩ | ⟨b0, b1, rfl, b2, rfl, rfl, rfl, rfl, b3, b4, rfl, rfl, rfl, g', b5, b6⟩
      · refine Or.inr ⟨_, by simp [sp_E_4_readsConditions_14_L1, slet, h4, h1, h2]  <;> rfl, 0, q8, q9, f10, f11, f12, f13, fa1, fat1, p1, k1, v1, a1, rfl, Or.inl ⟨rfl, _, _, _, _, _, _, _, _, _, _, _, _, bad b1, b1, b2, b3⟩⟩
      · refine Or.inr ⟨_, by simp [sp_E_4_readsConditions_14_L1, slet, h4, h1, h2, b0, h3, h5]  <;> rfl, 0, q8, q9, f10, f11, f12, f13, fa2, fat2, p3, k3, v3, a3, rfl, Or.inl ⟨rfl, _, _, _, _, _, _, _, _, _, _, _, _, bad b1, b1, b2, b3⟩⟩
      · have hz : z26 ≠ 0 := by rw [b3]; exact fk_0 (by decide)
        refine Or.inr ⟨_, by simp [sp_E_4_readsConditions_14_L1, slet, h4, h1, h2, b0, h3, h5, b1, b2, refT_eq]  <;> rfl, 0, q8, q9, f10, f11, f12, f13, nI (fk k3 2), a3, p3, k3, v3, a3, rfl, Or.inl ⟨rfl, _, _, _, _, _, _, _, _, _, _, _, _, bad hz, hz, by rw [b3], b4.symm⟩⟩
      · have hz : z26 ≠ 0 := by rw [b3]; decide
        refine Or.inr ⟨_, by simp [sp_E_4_readsConditions_14_L1, slet, h4, h1, h2, b0, h3, h5, b1, b2, ref_eq]  <;> rfl, 0, q8, q9, f10, f11, f12, f13, 4, a3, p3, 3, v3, a3, rfl, Or.inl ⟨rfl, _, _, _, _, _, _, _, _, _, _, _, _, bad hz, hz, by rw [b3]  <;> rfl, b4.symm⟩⟩
      · obtain ⟨⟨sb1, sb2⟩, hsb⟩ : ∃ x, sp_E_0_setBounds (upd f10 (ne * 4 + cnt) (nI (hh - 1))) (upd f11 (ne * 4 + cnt) v3) f12 f13 (ne * 4 + cnt) = x := ⟨_, rfl⟩
        refine Or.inl ⟨(updN q8 ne (cnt + 1), updN q9 (ne * 4 + cnt) (u - 1), upd f10 (ne * 4 + cnt) (nI (hh - 1)), upd f11 (ne * 4 + cnt) v3, sb2, sb1, fa2, fat2, p4, k4, v4, a4, cnt + 1), _, ?_, hin, ⟨_, _, _, _, _, _, _, _, _, _, cnt + 1, _, _, _, _, _, _, _, _, g', rfl, rfl, by omega, b5, by have := ht.gle; omega, updN_s, updN_s, u8.up ⟨by omega, by omega⟩, u7.up ⟨by omega, by omega⟩, hci.step (by omega) (by omega), un1.up ⟨by omega, by omega⟩, un2.up' ⟨by omega, by omega⟩, un3.up' ⟨by omega, by omega⟩, un4.up ⟨by omega, by omega⟩, un5.up ⟨by omega, by omega⟩, un6.up' ⟨by omega, by omega⟩⟩, by show 4 - (cnt + 1) < 4 - cnt; omega⟩
        simp [sp_E_4_readsConditions_14_L1, slet, h4, h1, h2, b0, h3, h5, b1, b2, sp_E_0_addCondition, hsb, h6]
  · refine Or.inr ⟨_, by simp [sp_E_4_readsConditions_14_L1, hk]  <;> rfl, 1, q8, q9, f10, f11, f12, f13, fa, fat, be', k, v, at', rfl, Or.inr ⟨rfl, rfl, rfl, hk, cnt, r10, r11, r7, r9, at', be', tok', va', g, hcnt, ?_, ht, hG, e8, e7, u8, u7, hci, un1, un2, un3, un4, un5, un6⟩⟩
    exact itrv_inr (by simp [sp_EM_readEdge_0_L3, slet, good_0, hwd, hk] <;> rfl)
