theorem r2_out_0 {len : Nat} {f1 : Nat → Int32} {nc ne : Nat} {f fs : Nat → Int32} {at_ : Int32} {be tok : Nat} {va : Int32} {w : Nat} {wa : Int32} (h : w ≠ 0) : itrv default (sp_EM_readEdge_0_L2 len f1 nc ne f) (fs, at_, be, tok, va, w, wa) = (at_, be, tok, va, w, wa, fs) := itrv_inr (by simp [sp_EM_readEdge_0_L2, slet, good_n h])
/-- the clocks that an edge sets back, side by side -/
theorem rs_0 {f fw fcn f1 : Nat → Int32} (hw : ∀ i, i < 8 → fw i = WW i) (hf : ∀ i, f i ≠ -1) {len nc ne : Nat} (hl : len ≤ 900) (hnc : nc ≤ 3) (hn : ∀ i, i < nc → fcn i = f1 (0 + i)) (fa fat x27 : Int32) (G : Nat) (f7o f8o : Nat → Int32) {pos kd be tok : Nat} {vl tka va at_ : Int32} (h7 : f7o ne = 0) (h8 : f8o (0 + ne) = 0) (hts : TS len G pos kd vl tka be tok va at_) :
    ∃ u f7 fa' fat' p k v a, sp_E_4_readsResets fa fat len pos kd vl tka f fw fcn nc f7o ne = (u, f7, fa', fat', p, k, v, a) ∧
      ((u = 0 ∧ ∃ at' be' tok' va' w wa f8, itrv default (sp_EM_readEdge_0_L2 len f1 nc ne f) (f8o, at_, be, tok, va, 0, x27) = (at', be', tok', va', w, wa, f8) ∧ w ≠ 0 ∧ fa' = nI w ∧ fat' = wa) ∨
       (u = 1 ∧ fa' = fa ∧ fat' = fat ∧ k ≠ 15 ∧ ∃ at' be' tok' va' f8 g, itrv default (sp_EM_readEdge_0_L2 len f1 nc ne f) (f8o, at_, be, tok, va, 0, x27) = (at', be', tok', va', 0, x27, f8) ∧ TS len g p k v a be' tok' va' at' ∧ G ≤ g ∧ f7 ne = f8 (0 + ne) ∧ UN ne 1 f7 f7o ∧ UN (0 + ne) 1 f8 f8o)) := by
  refine itrv_sim (d := default) (d' := default) (f := sp_E_4_readsResets_L1 len f fw fcn nc ne) (g := sp_EM_readEdge_0_L2 len f1 nc ne f)
    (fun t t' => ∃ f7 p k v a cnt f8 at' be' tok' va' g, t = (f7, fa, fat, p, k, v, a, cnt) ∧ t' = (f8, at', be', tok', va', 0, x27) ∧ cnt = bc (f7 ne) ∧ TS len g p k v a be' tok' va' at' ∧ G ≤ g ∧ f7 ne = f8 (0 + ne) ∧ UN ne 1 f7 f7o ∧ UN (0 + ne) 1 f8 f8o)
    (fun b X => ∃ u f7 fa' fat' p k v a, b = (u, f7, fa', fat', p, k, v, a) ∧
      ((u = 0 ∧ ∃ at' be' tok' va' w wa f8, X = (at', be', tok', va', w, wa, f8) ∧ w ≠ 0 ∧ fa' = nI w ∧ fat' = wa) ∨
       (u = 1 ∧ fa' = fa ∧ fat' = fat ∧ k ≠ 15 ∧ ∃ at' be' tok' va' f8 g, X = (at', be', tok', va', 0, x27, f8) ∧ TS len g p k v a be' tok' va' at' ∧ G ≤ g ∧ f7 ne = f8 (0 + ne) ∧ UN ne 1 f7 f7o ∧ UN (0 + ne) 1 f8 f8o)))
    (fun t => 4 - t.2.2.2.2.2.2.2) ?_ 4 _ _ (by show 4 - 0 ≤ 4; omega) ⟨f7o, pos, kd, vl, tka, 0, f8o, at_, be, tok, va, G, rfl, rfl, by rw [h7]; exact bc_0.symm, hts, Nat.le_refl _, by rw [h7, h8], UN.rf, UN.rf⟩
  rintro t t' ⟨f7, p, k, v, a, cnt, f8, at', be', tok', va', g, rfl, rfl, hcnt, ht, hG, he, u7, u8⟩
  have hwd : sp_EM_isWord tok' va' 19057844 = (if k = 8 + 7 then 1 else 0) := word_iff ht.tok (i := 7) (by decide)
  have hbe : be' = p := ht.1
  have hat : at' = a := ht.2.1
  have hc3 : ¬ 3 < cnt := by have := bc_3 (B := f7 ne); omega
  subst hbe hat
  by_cases hk : k = 15
  · subst hk
    have hwd' : sp_EM_isWord tok' va' 19057844 = 1 := hwd
    obtain ⟨⟨p1, k1, v1, a1⟩, h1⟩ : ∃ x, sp_E_4_advance len be' v f fw = x := ⟨_, rfl⟩
    obtain ⟨⟨u, fa1, fat1⟩, h2⟩ : ∃ x, sp_E_4_toldName_c fa fat k1 v1 a1 fcn nc = x := ⟨_, rfl⟩
    obtain ⟨t1, w1, g1, n1, s1, l1⟩ := adv_ex hw hf hl ht.le h1
    obtain ⟨c, w, wa, e2⟩ : ∃ c w wa, sp_EM_toldClock_0 a1 t1 w1 0 x27 f1 nc = (c, w, wa) := ⟨_, _, _, rfl⟩
    rcases tc_0 s1.tok hn h2 e2 with ⟨rfl, hw0, r1, r2, rfl⟩ | ⟨rfl, hc, rfl, rfl, rfl, rfl, rfl⟩
    · have hX : itrv default (sp_EM_readEdge_0_L2 len f1 nc ne f) (f8, at', be', tok', va', 0, x27) = (a1, p1, t1, w1, w, wa, upd f8 (0 + ne) (f8 (0 + ne) ||| ((1 : Int32) <<< ((nI 0 : Int32) &&& 31)))) := by
        rw [itrv_inl (t' := (upd f8 (0 + ne) (f8 (0 + ne) ||| ((1 : Int32) <<< ((nI 0 : Int32) &&& 31))), a1, p1, t1, w1, w, wa)) (by simp only [sp_EM_readEdge_0_L2, slet, good_0, Nat.one_ne_zero, reduceIte, hwd', n1, e2, good_n hw0]), r2_out_0 hw0]
      exact Or.inr ⟨_, by simp [sp_E_4_readsResets_L1, slet, hc3, h1, h2] <;> rfl, 0, f7, fa1, fat1, p1, k1, v1, a1, rfl, Or.inl ⟨rfl, _, _, _, _, w, wa, _, hX, hw0, r1, r2⟩⟩
    · have hcl : c < 3 := by omega
      have isof : sp_EM_isOf (f8 (0 + ne)) (nI c) = (if bt (f7 ne) c = true then 1 else 0) := by
        have : sp_EM_isOf (f8 (0 + ne)) (nI c) = (if ((f8 (0 + ne) >>> ((nI c : Int32) &&& 31)) &&& (1 : Int32)) = 1 then 1 else 0) := rfl
        rw [this, ← he]
        by_cases hb : bt (f7 ne) c = true
        · rw [if_pos ((bt_iff hcl).mpr hb), if_pos hb]
        · rw [if_neg (fun z => hb ((bt_iff hcl).mp z)), if_neg hb]
      by_cases hb : bt (f7 ne) c = true
      · have hbi := (bt_iff hcl).mpr hb
        rw [if_pos hb] at isof
        have hX : itrv default (sp_EM_readEdge_0_L2 len f1 nc ne f) (f8, at', be', tok', va', 0, wa) = (a1, p1, t1, w1, 5, a1, upd f8 (0 + ne) (f8 (0 + ne) ||| ((1 : Int32) <<< ((nI c : Int32) &&& 31)))) := by
          rw [itrv_inl (t' := (upd f8 (0 + ne) (f8 (0 + ne) ||| ((1 : Int32) <<< ((nI c : Int32) &&& 31))), a1, p1, t1, w1, 5, a1)) (by simp only [sp_EM_readEdge_0_L2, slet, good_0, Nat.one_ne_zero, reduceIte, hwd', n1, e2, isof, fails_eq s1.tok]; rfl), r2_out_0 (by decide)]
        exact Or.inr ⟨_, by simp [sp_E_4_readsResets_L1, slet, hc3, h1, h2, hbi, ref_eq] <;> rfl, 0, f7, 5, a1, p1, 2, v1, a1, rfl, Or.inl ⟨rfl, _, _, _, _, 5, a1, _, hX, by decide, rfl, rfl⟩⟩
      · have hbf : bt (f7 ne) c = false := by cases h : bt (f7 ne) c
                                              · rfl
                                              · exact absurd h hb
        have hbi : ¬ ((f7 ne >>> ((nI c : Int32) &&& 31)) &&& (1 : Int32)) = 1 := fun z => hb ((bt_iff hcl).mp z)
        rw [if_neg hb] at isof
        obtain ⟨⟨p4, k4, v4, a4⟩, h6⟩ : ∃ x, sp_E_4_advance len p1 v1 f fw = x := ⟨_, rfl⟩
        obtain ⟨t4, w4, g4, n4, s4, l4⟩ := adv_ex hw hf hl s1.le h6
        have hc2 := bc_le hcl hbf
        refine Or.inl ⟨(upd f7 ne (f7 ne ||| ((1 : Int32) <<< ((nI c : Int32) &&& 31))), fa1, fat1, p4, k4, v4, a4, cnt + 1), (upd f8 (0 + ne) (f8 (0 + ne) ||| ((1 : Int32) <<< ((nI c : Int32) &&& 31))), a4, p4, t4, w4, 0, wa), ?_, ?_, ⟨_, _, _, _, _, _, _, _, _, _, _, g4, rfl, rfl, ?_, s4, ?_, ?_, u7.up' ⟨by omega, by omega⟩, u8.up' ⟨by omega, by omega⟩⟩, ?_⟩
        · simp [sp_E_4_readsResets_L1, slet, hc3, h1, h2, hbi, h6]
        · simp only [sp_EM_readEdge_0_L2, slet, good_0, Nat.one_ne_zero, reduceIte, hwd', n1, e2, isof, n4]
        · rw [upd_s, bc_up hcl hbf, hcnt]
        · have := ht.gle; have := s1.gle; omega
        · rw [upd_s, upd_s, he]
        · show 4 - (cnt + 1) < 4 - cnt; omega
  · have hwd' : sp_EM_isWord tok' va' 19057844 = 0 := by rw [hwd, if_neg hk]
    refine Or.inr ⟨_, by simp [sp_E_4_readsResets_L1, hc3, hk] <;> rfl, 1, f7, fa, fat, be', k, v, at', rfl, Or.inr ⟨rfl, rfl, rfl, hk, at', be', tok', va', f8, g, ?_, ht, hG, he, u7, u8⟩⟩
    exact itrv_inr (by simp [sp_EM_readEdge_0_L2, slet, good_0, hwd'])
