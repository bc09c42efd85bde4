theorem rcF0_0 {len pos w : Nat} {x27 : Int32} {f1 : Nat → Int32} {q9 q10 : Nat → Nat} {f11 : Nat → Int32} {nc : Nat} {f : Nat → Int32} {a0 b n : Nat} (h1 : b ≤ a0) (h2 : a0 < b + n) : Q3 b n q10 f11 q9 (sp_EM_readCondition0_0 len pos w x27 f1 q9 q10 f11 nc f a0) := by
  unfold sp_EM_readCondition0_0
  repeat' first | (with_reducible apply sl21; intro _ _ _ _ _ _ _ _ _ _ _ _ _ _ _ _ _ _ _ _ _ _; try dsimp only) | (with_reducible apply sl14; intro _ _ _ _ _ _ _ _ _ _ _ _ _ _ _; try dsimp only) | (with_reducible apply sl13; intro _ _ _ _ _ _ _ _ _ _ _ _ _ _; try dsimp only) | (with_reducible apply sl9; intro _ _ _ _ _ _ _ _ _ _; try dsimp only) | (with_reducible apply sl7; intro _ _ _ _ _ _ _ _; try dsimp only) | (with_reducible apply sl6; intro _ _ _ _ _ _ _; try dsimp only) | (with_reducible apply sl5; intro _ _ _ _ _ _; try dsimp only) | (with_reducible apply sl4; intro _ _ _ _ _; try dsimp only) | (with_reducible apply sl3; intro _ _ _ _; try dsimp only) | (with_reducible apply sl2; intro _ _ _; try dsimp only) | (with_reducible apply sl1; rintro _ rfl; try dsimp only) | (with_reducible apply it1 <;> intro _)
  all_goals exact And.intro (by first | exact UN.rf | exact UN.rf.up ⟨h1, h2⟩) (And.intro (by first | exact UN.rf | exact UN.rf.up' ⟨h1, h2⟩) (by first | exact UN.rf | exact UN.rf.up ⟨h1, h2⟩))
theorem rcF1_0 {len pos w : Nat} {x27 : Int32} {f1 : Nat → Int32} {q9 q10 : Nat → Nat} {f11 : Nat → Int32} {nc : Nat} {f : Nat → Int32} {a0 b n : Nat} (h1 : b ≤ a0) (h2 : a0 < b + n) : Q3 b n q10 f11 q9 (sp_EM_readCondition1_0 len pos w x27 f1 q9 q10 f11 nc f a0) := by
  unfold sp_EM_readCondition1_0
  repeat' first | (with_reducible apply sl21; intro _ _ _ _ _ _ _ _ _ _ _ _ _ _ _ _ _ _ _ _ _ _; try dsimp only) | (with_reducible apply sl14; intro _ _ _ _ _ _ _ _ _ _ _ _ _ _ _; try dsimp only) | (with_reducible apply sl13; intro _ _ _ _ _ _ _ _ _ _ _ _ _ _; try dsimp only) | (with_reducible apply sl9; intro _ _ _ _ _ _ _ _ _ _; try dsimp only) | (with_reducible apply sl7; intro _ _ _ _ _ _ _ _; try dsimp only) | (with_reducible apply sl6; intro _ _ _ _ _ _ _; try dsimp only) | (with_reducible apply sl5; intro _ _ _ _ _ _; try dsimp only) | (with_reducible apply sl4; intro _ _ _ _ _; try dsimp only) | (with_reducible apply sl3; intro _ _ _ _; try dsimp only) | (with_reducible apply sl2; intro _ _ _; try dsimp only) | (with_reducible apply sl1; rintro _ rfl; try dsimp only) | (with_reducible apply it1 <;> intro _)
  all_goals exact And.intro (by first | exact UN.rf | exact UN.rf.up ⟨h1, h2⟩) (And.intro (by first | exact UN.rf | exact UN.rf.up' ⟨h1, h2⟩) (by first | exact UN.rf | exact UN.rf.up ⟨h1, h2⟩))
/-- a place's conditions -/
theorem p1F_0 {len nc np : Nat} (hnp : np < 8) (f1 f ga gb : Nat → Int32) (r10o : Nat → Nat) (r11o : Nat → Int32) (r4o r9o : Nat → Nat) : ∀ t, PR 0 0 r10o r11o r4o r9o t → STP (PR 0 0 r10o r11o r4o r9o) (fun X => RP 0 0 np r10o r11o ga gb r4o r9o X ∧ X.2.2.1 = ga ∧ X.2.2.2.1 = gb) (PM (0 + np) 3) (PM (0 + np) 3 t) (sp_EM_readPlace_0_L1 len f1 nc np f ga gb t) := by
  rintro ⟨r10, r11, r4, r9, at_, be, tok, va, w, wa⟩ ⟨h1, h2, h3, h4⟩
  by_cases hw : w = 0
  · subst hw
    by_cases hd : sp_EM_isWord tok va 22499628 = 0
    · simp only [sp_EM_readPlace_0_L1, slet, good_0, Nat.one_ne_zero, reduceIte, hd]
      exact Or.inr ⟨_, rfl, ⟨h1, h2, UN.rf, UN.rf, h3, h4, Or.inl rfl⟩, rfl, rfl⟩
    · by_cases h5 : min (r4 (0 + np)) 3 = 3
      · obtain ⟨⟨z26, z27⟩, hf⟩ : ∃ x, sp_EM_fails at_ tok 0 wa 5 = x := ⟨_, rfl⟩
        simp only [sp_EM_readPlace_0_L1, slet, good_0, Nat.one_ne_zero, reduceIte, hd, h5, hf]
        exact Or.inr ⟨_, rfl, ⟨h1, h2, UN.rf, UN.rf, h3, h4, Or.inr ⟨rfl, fails_ne (by decide) hf⟩⟩, rfl, rfl⟩
      · obtain ⟨⟨z10, z11, z9, z20, z21, z22, z23, z26, z27⟩, hB⟩ : ∃ x, sp_EM_readCondition1_0 len be 0 wa f1 r9 r10 r11 nc f ((56 + (3 * np)) + min (r4 (0 + np)) 3) = x := ⟨_, rfl⟩
        have hm : min (r4 (0 + np)) 3 < 3 := by omega
        have hr := rcF1_0 (len := len) (pos := be) (w := 0) (x27 := wa) (f1 := f1) (q9 := r9) (q10 := r10) (f11 := r11) (nc := nc) (f := f) (a0 := (56 + (3 * np)) + min (r4 (0 + np)) 3) (b := 0) (n := 80) (by omega) (by omega)
        rw [hB] at hr
        simp only [sp_EM_readPlace_0_L1, slet, good_0, Nat.one_ne_zero, reduceIte, hd, h5, hB]
        refine Or.inl ⟨_, rfl, ⟨hr.1.tr h1, hr.2.1.tr h2, h3.up ⟨by omega, by omega⟩, hr.2.2.tr h4⟩, ?_⟩
        show (3 - updN r4 (0 + np) (min (r4 (0 + np)) 3 + 1) (0 + np)) + (if z26 = 0 then 1 else 0) < (3 - r4 (0 + np)) + 1
        rw [updN_s]
        split <;> omega
  · simp only [sp_EM_readPlace_0_L1, slet, good_n hw, reduceIte]
    exact Or.inr ⟨_, rfl, ⟨h1, h2, UN.rf, UN.rf, h3, h4, Or.inl rfl⟩, rfl, rfl⟩
theorem rpF_0 {len be tok w nc np : Nat} {at_ va x27 : Int32} {f1 f2 f3 : Nat → Int32} {r4 r9 r10 : Nat → Nat} {r11 f : Nat → Int32} (hnp : np < 8) : RP 0 0 np r10 r11 f2 f3 r4 r9 (sp_EM_readPlace_0 len at_ be tok va w x27 f1 f2 f3 r4 r9 r10 r11 nc np f) := by
  unfold sp_EM_readPlace_0
  apply sl7; intro s z20 z21 z22 z23 z26 z27 _; dsimp only
  apply sl1; rintro _ rfl
  apply sl1; rintro _ rfl
  apply sl1; rintro _ rfl
  apply sl1; rintro _ rfl
  apply sq5 (QL 0 8 f3)
  · repeat' first | (with_reducible apply sl21; intro _ _ _ _ _ _ _ _ _ _ _ _ _ _ _ _ _ _ _ _ _ _; try dsimp only) | (with_reducible apply sl14; intro _ _ _ _ _ _ _ _ _ _ _ _ _ _ _; try dsimp only) | (with_reducible apply sl13; intro _ _ _ _ _ _ _ _ _ _ _ _ _ _; try dsimp only) | (with_reducible apply sl9; intro _ _ _ _ _ _ _ _ _ _; try dsimp only) | (with_reducible apply sl7; intro _ _ _ _ _ _ _ _; try dsimp only) | (with_reducible apply sl6; intro _ _ _ _ _ _ _; try dsimp only) | (with_reducible apply sl5; intro _ _ _ _ _ _; try dsimp only) | (with_reducible apply sl4; intro _ _ _ _ _; try dsimp only) | (with_reducible apply sl3; intro _ _ _ _; try dsimp only) | (with_reducible apply sl2; intro _ _ _; try dsimp only) | (with_reducible apply sl1; rintro _ rfl; try dsimp only) | (with_reducible apply it1 <;> intro _)
    all_goals first | exact UN.rf.up' ⟨by omega, by omega⟩ | exact (UN.rf.up' ⟨by omega, by omega⟩).up' ⟨by omega, by omega⟩
  · intro g1 g2 g3 g4 g5 hg
    dsimp only
    have h := itrv_stp (d := default) (p1F_0 (len := len) (nc := nc) (np := np) hnp f1 f (upd f2 (0 + np) s) g5 r10 r11 r4 r9) (r10, r11, updN r4 (0 + np) 0, r9, g1, g2, g3, g4, z26, z27) ⟨UN.rf, UN.rf, UN.rf.up ⟨by omega, by omega⟩, UN.rf⟩
    obtain ⟨⟨e1, e2, -, -, e5, e6, e7⟩, ea, eb⟩ := h
    exact ⟨e1, e2, by rw [ea]; exact UN.rf.up' ⟨by omega, by omega⟩, by rw [eb]; exact hg, e5, e6, e7⟩
theorem tcF_0 {at_ va x27 : Int32} {tok n c w : Nat} {f1 : Nat → Int32} {wa : Int32} (h : sp_EM_toldClock_0 at_ tok va 0 x27 f1 n = (c, w, wa)) : w ≠ 0 ∨ (w = 0 ∧ c < n) := by
  obtain ⟨⟨z26, z27⟩, h1⟩ : ∃ x, sp_EM_mustBeName at_ tok va 0 x27 = x := ⟨_, rfl⟩
  by_cases hz : z26 = 0
  · subst hz
    by_cases hu : sp_EM_clockCalled_0 va f1 n = 0
    · obtain ⟨⟨y1, y2⟩, hf⟩ : ∃ x, sp_EM_fails at_ tok 0 z27 3 = x := ⟨_, rfl⟩
      simp only [sp_EM_toldClock_0, slet, h1, good_0, Nat.one_ne_zero, reduceIte, hu, hf, Prod.mk.injEq] at h
      obtain ⟨-, rfl, -⟩ := h
      exact Or.inl (fails_ne (by decide) hf)
    · have hle : sp_EM_clockCalled_0 va f1 n ≤ n := find_le (f := fun i => f1 (0 + i)) (v := va) (n := n)
      simp only [sp_EM_toldClock_0, slet, h1, good_0, Nat.one_ne_zero, reduceIte, hu, Prod.mk.injEq] at h
      obtain ⟨rfl, rfl, -⟩ := h
      exact Or.inr ⟨rfl, by omega⟩
  · simp only [sp_EM_toldClock_0, slet, h1, good_n hz, reduceIte, Prod.mk.injEq] at h
    obtain ⟨-, rfl, -⟩ := h
    exact Or.inl hz
/-- an edge's sets -/
theorem s2F_0 {len nc ne : Nat} (hnc : nc ≤ 3) (hne : ne < 14) (f1 f f8o : Nat → Int32) : ∀ t, SR2 0 f8o t → STP (SR2 0 f8o) (SQ2 0 f8o) (SM2 (0 + ne)) (SM2 (0 + ne) t) (sp_EM_readEdge_0_L2 len f1 nc ne f t) := by
  rintro ⟨f8, at_, be, tok, va, w, wa⟩ h1
  by_cases hw : w = 0
  · subst hw
    by_cases hd : sp_EM_isWord tok va 19057844 = 0
    · simp only [sp_EM_readEdge_0_L2, slet, good_0, Nat.one_ne_zero, reduceIte, hd]
      exact Or.inr ⟨_, rfl, h1⟩
    · obtain ⟨⟨a1, p1, t1, w1⟩, n1⟩ : ∃ x, sp_EM_next len be f = x := ⟨_, rfl⟩
      obtain ⟨⟨c, z26, z27⟩, e2⟩ : ∃ x, sp_EM_toldClock_0 a1 t1 w1 0 wa f1 nc = x := ⟨_, rfl⟩
      rcases tcF_0 e2 with hz | ⟨rfl, hc⟩
      · simp only [sp_EM_readEdge_0_L2, slet, good_0, Nat.one_ne_zero, reduceIte, hd, n1, e2, good_n hz]
        refine Or.inl ⟨_, rfl, UN.up' h1 ⟨by omega, by omega⟩, ?_⟩
        show (3 - bc (upd f8 (0 + ne) (f8 (0 + ne) ||| ((1 : Int32) <<< ((nI c : Int32) &&& 31))) (0 + ne))) + (if z26 = 0 then 1 else 0) < (3 - bc (f8 (0 + ne))) + 1
        rw [upd_s, if_neg hz]
        have := bc_or (B := f8 (0 + ne)) (x := (1 : Int32) <<< ((nI c : Int32) &&& 31))
        omega
      · have hcl : c < 3 := by omega
        have isof : sp_EM_isOf (f8 (0 + ne)) (nI c) = (if bt (f8 (0 + ne)) c = true then 1 else 0) := by
          have : sp_EM_isOf (f8 (0 + ne)) (nI c) = (if ((f8 (0 + ne) >>> ((nI c : Int32) &&& 31)) &&& (1 : Int32)) = 1 then 1 else 0) := rfl
          rw [this]
          by_cases hb : bt (f8 (0 + ne)) c = true
          · rw [if_pos ((bt_iff hcl).mpr hb), if_pos hb]
          · rw [if_neg (fun z => hb ((bt_iff hcl).mp z)), if_neg hb]
        by_cases hb : bt (f8 (0 + ne)) c = true
        · rw [if_pos hb] at isof
          obtain ⟨⟨y1, y2⟩, hf⟩ : ∃ x, sp_EM_fails a1 t1 0 z27 5 = x := ⟨_, rfl⟩
          have hy := fails_ne (by decide) hf
          simp only [sp_EM_readEdge_0_L2, slet, good_0, Nat.one_ne_zero, reduceIte, hd, n1, e2, isof, hf, good_n hy]
          refine Or.inl ⟨_, rfl, UN.up' h1 ⟨by omega, by omega⟩, ?_⟩
          show (3 - bc (upd f8 (0 + ne) (f8 (0 + ne) ||| ((1 : Int32) <<< ((nI c : Int32) &&& 31))) (0 + ne))) + (if y1 = 0 then 1 else 0) < (3 - bc (f8 (0 + ne))) + 1
          rw [upd_s, if_neg hy]
          have := bc_or (B := f8 (0 + ne)) (x := (1 : Int32) <<< ((nI c : Int32) &&& 31))
          omega
        · rw [if_neg hb] at isof
          have hbf : bt (f8 (0 + ne)) c = false := Bool.eq_false_iff.mpr hb
          obtain ⟨⟨a4, p4, t4, w4⟩, n4⟩ : ∃ x, sp_EM_next len p1 f = x := ⟨_, rfl⟩
          have hc2 := bc_le hcl hbf
          simp only [sp_EM_readEdge_0_L2, slet, good_0, Nat.one_ne_zero, reduceIte, hd, n1, e2, isof, n4]
          refine Or.inl ⟨_, rfl, UN.up' h1 ⟨by omega, by omega⟩, ?_⟩
          show (3 - bc (upd f8 (0 + ne) (f8 (0 + ne) ||| ((1 : Int32) <<< ((nI c : Int32) &&& 31))) (0 + ne))) + 1 < (3 - bc (f8 (0 + ne))) + 1
          rw [upd_s, bc_up hcl hbf]
          omega
  · simp only [sp_EM_readEdge_0_L2, slet, good_n hw, reduceIte]
    exact Or.inr ⟨_, rfl, h1⟩
/-- an edge's conditions and sets -/
theorem e3F_0 {len nc ne : Nat} (hnc : nc ≤ 3) (hne : ne < 14) (f1 f : Nat → Int32) (qa qb : Nat → Nat) (fs f8o : Nat → Int32) (hfs : UN 0 14 fs f8o) (r10o : Nat → Nat) (r11o : Nat → Int32) (r7o r9o : Nat → Nat) : ∀ t, ER 0 0 r10o r11o r7o r9o t → STP (ER 0 0 r10o r11o r7o r9o) (RE 0 0 ne r10o r11o qa qb r7o f8o r9o) (PM (0 + ne) 4) (PM (0 + ne) 4 t) (sp_EM_readEdge_0_L3 len f1 nc ne f qa qb fs t) := by
  rintro ⟨r10, r11, r7, r9, at_, be, tok, va, w, wa⟩ ⟨h1, h2, h3, h4⟩
  by_cases hw : w = 0
  · subst hw
    by_cases hd : sp_EM_isWord tok va 762030 = 0
    · have h := itrv_stp (d := default) (s2F_0 (len := len) (nc := nc) (ne := ne) hnc hne f1 f f8o) (fs, at_, be, tok, va, 0, wa) hfs
      obtain ⟨⟨y1, y2, y3, y4, y5, y6, y7⟩, hy⟩ : ∃ x, itrv default (sp_EM_readEdge_0_L2 len f1 nc ne f) (fs, at_, be, tok, va, 0, wa) = x := ⟨_, rfl⟩
      rw [hy] at h
      simp only [sp_EM_readEdge_0_L3, slet, good_0, Nat.one_ne_zero, reduceIte, hd, hy]
      exact Or.inr ⟨_, rfl, h1, h2, UN.rf, UN.rf, h3, h, h4, Or.inl rfl⟩
    · by_cases h5 : min (r7 (0 + ne)) 4 = 4
      · obtain ⟨⟨z26, z27⟩, hf⟩ : ∃ x, sp_EM_fails at_ tok 0 wa 5 = x := ⟨_, rfl⟩
        simp only [sp_EM_readEdge_0_L3, slet, good_0, Nat.one_ne_zero, reduceIte, hd, h5, hf]
        exact Or.inr ⟨_, rfl, h1, h2, UN.rf, UN.rf, h3, hfs, h4, Or.inr ⟨rfl, fails_ne (by decide) hf⟩⟩
      · obtain ⟨⟨z10, z11, z9, z20, z21, z22, z23, z26, z27⟩, hB⟩ : ∃ x, sp_EM_readCondition0_0 len be 0 wa f1 r9 r10 r11 nc f ((0 + (4 * ne)) + min (r7 (0 + ne)) 4) = x := ⟨_, rfl⟩
        have hm : min (r7 (0 + ne)) 4 < 4 := by omega
        have hr := rcF0_0 (len := len) (pos := be) (w := 0) (x27 := wa) (f1 := f1) (q9 := r9) (q10 := r10) (f11 := r11) (nc := nc) (f := f) (a0 := (0 + (4 * ne)) + min (r7 (0 + ne)) 4) (b := 0) (n := 80) (by omega) (by omega)
        rw [hB] at hr
        simp only [sp_EM_readEdge_0_L3, slet, good_0, Nat.one_ne_zero, reduceIte, hd, h5, hB]
        refine Or.inl ⟨_, rfl, ⟨hr.1.tr h1, hr.2.1.tr h2, h3.up ⟨by omega, by omega⟩, hr.2.2.tr h4⟩, ?_⟩
        show (4 - updN r7 (0 + ne) (min (r7 (0 + ne)) 4 + 1) (0 + ne)) + (if z26 = 0 then 1 else 0) < (4 - r7 (0 + ne)) + 1
        rw [updN_s]
        split <;> omega
  · have e1 : itrv default (sp_EM_readEdge_0_L1 len f1 nc ne f) (fs, at_, be, tok, va, w, wa) = (at_, be, tok, va, w, wa, fs) := itrv_inr (by simp [sp_EM_readEdge_0_L1, slet, good_n hw])
    simp only [sp_EM_readEdge_0_L3, slet, good_n hw, reduceIte, e1]
    exact Or.inr ⟨_, rfl, h1, h2, UN.rf, UN.rf, h3, hfs, h4, Or.inl rfl⟩
theorem reF_0 {len be tok w nc np ne : Nat} {at_ va x27 : Int32} {f1 f2 : Nat → Int32} {r5 r6 r7 : Nat → Nat} {f8 : Nat → Int32} {r9 r10 : Nat → Nat} {r11 f : Nat → Int32} (hnc : nc ≤ 3) (hne : ne < 14) : RE 0 0 ne r10 r11 r5 r6 r7 f8 r9 (sp_EM_readEdge_0 len at_ be tok va w x27 f1 f2 r5 r6 r7 f8 r9 r10 r11 nc np ne f) := by
  unfold sp_EM_readEdge_0
  apply sl7; intro u z20 z21 z22 z23 z26 z27 _; dsimp only
  apply sl1; rintro _ rfl
  apply sl1; rintro _ rfl
  apply sl7; intro g1 g2 g3 g4 g5 g6 g7 _; dsimp only
  apply sl1; rintro _ rfl
  apply sl1; rintro _ rfl
  apply sl1; rintro _ rfl
  have h := itrv_stp (d := default) (e3F_0 (len := len) (nc := nc) (ne := ne) hnc hne f1 f (updN r5 (0 + ne) u) (updN r6 (0 + ne) g7) (upd f8 (0 + ne) 0) f8 (UN.rf.up' ⟨by omega, by omega⟩) r10 r11 r7 r9) (r10, r11, updN r7 (0 + ne) 0, r9, g1, g2, g3, g4, g5, g6) ⟨UN.rf, UN.rf, UN.rf.up ⟨by omega, by omega⟩, UN.rf⟩
  obtain ⟨e1, e2, e3, e4, e5, e6, e7, e8⟩ := h
  exact ⟨e1, e2, e3.tr (UN.rf.up ⟨by omega, by omega⟩), e4.tr (UN.rf.up ⟨by omega, by omega⟩), e5, e6, e7, e8⟩
theorem rlF_0 {len be tok : Nat} {at_ va x27 : Int32} {f1 f2 f3 : Nat → Int32} {r4 r5 r6 r7 : Nat → Nat} {f8 : Nat → Int32} {r9 r10 : Nat → Nat} {r11 f : Nat → Int32} {m12 m13 m14 m15 : Nat} (h12 : m12 ≤ 3) (h13 : m13 ≤ 8) (h14 : m14 ≤ 14) : LQ 0 f1 r10 r11 f2 f3 r4 r5 r6 r7 f8 r9 (cnt4 m12 m13 m14 m15) (sp_EM_readLine_0 len at_ be tok va 0 x27 f1 f2 f3 r4 r5 r6 r7 f8 r9 r10 r11 m12 m13 m14 m15 f) := by
  unfold sp_EM_readLine_0
  apply sl1; intro u2 _
  apply sl1; intro u4 _
  apply sl1; intro u6 _
  apply sl1; intro u8 _
  apply sq2 (WQ u2 u4 u6 u8 m12 m13 m14 m15)
  · repeat' first | (with_reducible apply sl21; intro _ _ _ _ _ _ _ _ _ _ _ _ _ _ _ _ _ _ _ _ _ _; try dsimp only) | (with_reducible apply sl14; intro _ _ _ _ _ _ _ _ _ _ _ _ _ _ _; try dsimp only) | (with_reducible apply sl13; intro _ _ _ _ _ _ _ _ _ _ _ _ _ _; try dsimp only) | (with_reducible apply sl9; intro _ _ _ _ _ _ _ _ _ _; try dsimp only) | (with_reducible apply sl7; intro _ _ _ _ _ _ _ _; try dsimp only) | (with_reducible apply sl6; intro _ _ _ _ _ _ _; try dsimp only) | (with_reducible apply sl5; intro _ _ _ _ _ _; try dsimp only) | (with_reducible apply sl4; intro _ _ _ _ _; try dsimp only) | (with_reducible apply sl3; intro _ _ _ _; try dsimp only) | (with_reducible apply sl2; intro _ _ _; try dsimp only) | (with_reducible apply sl1; rintro _ rfl; try dsimp only) | (with_reducible apply it1 <;> intro _)
    all_goals first | (intro h0; exact absurd h0 (fails_as (by assumption) (by decide))) | (intro _; refine ⟨?_, ?_, ?_, ?_⟩ <;> omega)
  · intro g9 g10 hg
    dsimp only
    apply sl1; rintro _ rfl
    apply it1
    · intro hw
      exact ⟨FRM.rf, h12, h13, h14, Nat.le_refl _, fun e => absurd e (good_w hw)⟩
    · intro hw
      obtain ⟨k1, k2, k3, k4⟩ := hg (good_e hw)
      apply sl4; intro z20 z21 z22 z23 _; dsimp only
      apply it1
      · intro i2
        apply it1
        · intro i4
          apply it1
          · intro i6
            have h5 : m14 < 14 := by have := (k4 i2 i4 i6).2; omega
            have h := reF_0 (len := len) (be := z21) (tok := z22) (w := g9) (np := m13) (at_ := z20) (va := z23) (x27 := g10) (f1 := f1) (f2 := f2) (r5 := r5) (r6 := r6) (r7 := r7) (f8 := f8) (r9 := r9) (r10 := r10) (r11 := r11) (f := f) (nc := m12) (ne := m14) h12 h5
            obtain ⟨⟨y1, y2, y3, y4, y5, y6, y7, y8, y9, y10, y11, y12, y13, y14⟩, hX⟩ : ∃ x, sp_EM_readEdge_0 len z20 z21 z22 z23 g9 g10 f1 f2 r5 r6 r7 f8 r9 r10 r11 m12 m13 m14 f = x := ⟨_, rfl⟩
            rw [hX] at h ⊢
            dsimp only [slet]
            obtain ⟨e1, e2, e3, e4, e5, e6, e7, e8⟩ := h
            have e8 : y8 = m14 + 1 ∨ (y8 = m14 ∧ y13 ≠ 0) := e8
            rcases e8 with rfl | ⟨rfl, e9⟩
            · exact ⟨⟨UN.rf, e1, e2, UN.rf, UN.rf, UN.rf, e3, e4, e5, e6, e7⟩, h12, h13, by omega, by rw [c4c]; omega, fun _ => c4c⟩
            · exact ⟨⟨UN.rf, e1, e2, UN.rf, UN.rf, UN.rf, e3, e4, e5, e6, e7⟩, h12, h13, h14, Nat.le_refl _, fun e => absurd e e9⟩
          · intro i6
            have h15 := k3 i2 i4 i6
            subst h15
            apply sl7; intro u y20 y21 y22 y23 y26 y27 _; dsimp only
            exact ⟨FRM.rf, h12, h13, h14, by rw [c4d]; omega, fun _ => c4d⟩
        · intro i4
          have h5 : m13 < 8 := by have := k2 i2 i4; omega
          have h := rpF_0 (len := len) (be := z21) (tok := z22) (w := g9) (at_ := z20) (va := z23) (x27 := g10) (f1 := f1) (f2 := f2) (f3 := f3) (r4 := r4) (r9 := r9) (r10 := r10) (r11 := r11) (f := f) (nc := m12) (np := m13) h5
          obtain ⟨⟨y1, y2, y3, y4, y5, y6, y7, y8, y9, y10, y11, y12, y13⟩, hX⟩ : ∃ x, sp_EM_readPlace_0 len z20 z21 z22 z23 g9 g10 f1 f2 f3 r4 r9 r10 r11 m12 m13 f = x := ⟨_, rfl⟩
          rw [hX] at h ⊢
          dsimp only [slet]
          obtain ⟨e1, e2, e3, e4, e5, e6, e7⟩ := h
          have e7 : y7 = m13 + 1 ∨ (y7 = m13 ∧ y12 ≠ 0) := e7
          rcases e7 with rfl | ⟨rfl, e9⟩
          · exact ⟨⟨UN.rf, e1, e2, e3, e4, e5, UN.rf, UN.rf, UN.rf, UN.rf, e6⟩, h12, by omega, h14, by rw [c4b]; omega, fun _ => c4b⟩
          · exact ⟨⟨UN.rf, e1, e2, e3, e4, e5, UN.rf, UN.rf, UN.rf, UN.rf, e6⟩, h12, h13, h14, Nat.le_refl _, fun e => absurd e e9⟩
      · intro i2
        have h5 : m12 < 3 := by have := k1 i2; omega
        apply sl7; intro s y20 y21 y22 y23 y26 y27 _; dsimp only
        apply sl1; rintro _ rfl
        exact ⟨⟨UN.rf.up' ⟨by omega, by omega⟩, UN.rf, UN.rf, UN.rf, UN.rf, UN.rf, UN.rf, UN.rf, UN.rf, UN.rf, UN.rf⟩, by omega, h13, h14, by rw [c4a]; omega, fun _ => c4a⟩
/-- the lines -/
theorem laF_0 {len : Nat} {f : Nat → Int32} (g1 : Nat → Int32) (s10 : Nat → Nat) (s11 g2 g3 : Nat → Int32) (s4 s5 s6 s7 : Nat → Nat) (g8 : Nat → Int32) (s9 : Nat → Nat) : ∀ t, LR 0 g1 s10 s11 g2 g3 s4 s5 s6 s7 g8 s9 t → STP (LR 0 g1 s10 s11 g2 g3 s4 s5 s6 s7 g8 s9) (OQ 0 g1 s10 s11 g2 g3 s4 s5 s6 s7 g8 s9) LM (LM t) (sp_EM_automaton_L2 len f t) := by
  rintro ⟨f1, r10, r11, f2, f3, r4, r5, r6, r7, f8, r9, m12, m13, m14, m15, at_, be, tok, va, w, wa⟩ ⟨hF, h12, h13, h14⟩
  by_cases hw : w = 0
  · subst hw
    by_cases ht : tok = 0
    · simp only [sp_EM_automaton_L2, slet, good_0, Nat.one_ne_zero, reduceIte, ht]
      exact Or.inr ⟨_, rfl, hF⟩
    · have h := rlF_0 (len := len) (be := be) (tok := tok) (at_ := at_) (va := va) (x27 := wa) (f1 := f1) (f2 := f2) (f3 := f3) (r4 := r4) (r5 := r5) (r6 := r6) (r7 := r7) (f8 := f8) (r9 := r9) (r10 := r10) (r11 := r11) (f := f) (m15 := m15) h12 h13 h14
      obtain ⟨⟨y1, y10, y11, y2, y3, y4, y5, y6, y7, y8, y9, n12, n13, n14, n15, z20, z21, z22, z23, z26, z27⟩, hX⟩ : ∃ x, sp_EM_readLine_0 len at_ be tok va 0 wa f1 f2 f3 r4 r5 r6 r7 f8 r9 r10 r11 m12 m13 m14 m15 f = x := ⟨_, rfl⟩
      rw [hX] at h
      obtain ⟨hG, k12, k13, k14, hc, hc1⟩ := h
      have h26 := cnt4_le (d := n15) k12 k13 k14
      have h0 := cnt4_le (d := m15) h12 h13 h14
      by_cases hz : z26 = 0
      · subst hz
        have hc1 := hc1 rfl
        by_cases hs : sp_EM_isSign z22 z23 59 = 0
        · obtain ⟨⟨v1, v2⟩, hf⟩ : ∃ x, sp_EM_fails z20 z22 0 z27 2 = x := ⟨_, rfl⟩
          have hv := fails_ne (by decide) hf
          simp only [sp_EM_automaton_L2, slet, good_0, Nat.one_ne_zero, reduceIte, ht, hX, hs, hf, good_n hv]
          refine Or.inl ⟨_, rfl, ⟨hG.tr hF, k12, k13, k14⟩, ?_⟩
          show (26 - cnt4 n12 n13 n14 n15) + (if v1 = 0 then 1 else 0) < (26 - cnt4 m12 m13 m14 m15) + 1
          rw [if_neg hv]; omega
        · obtain ⟨⟨v1, v2, v3, v4⟩, hn⟩ : ∃ x, sp_EM_next len z21 f = x := ⟨_, rfl⟩
          simp only [sp_EM_automaton_L2, slet, good_0, Nat.one_ne_zero, reduceIte, ht, hX, hs, hn]
          refine Or.inl ⟨_, rfl, ⟨hG.tr hF, k12, k13, k14⟩, ?_⟩
          show (26 - cnt4 n12 n13 n14 n15) + 1 < (26 - cnt4 m12 m13 m14 m15) + 1
          omega
      · simp only [sp_EM_automaton_L2, slet, good_0, Nat.one_ne_zero, reduceIte, ht, hX, good_n hz]
        refine Or.inl ⟨_, rfl, ⟨hG.tr hF, k12, k13, k14⟩, ?_⟩
        show (26 - cnt4 n12 n13 n14 n15) + (if z26 = 0 then 1 else 0) < (26 - cnt4 m12 m13 m14 m15) + 1
        rw [if_neg hz]; omega
  · simp only [sp_EM_automaton_L2, slet, good_n hw, reduceIte]
    exact Or.inr ⟨_, rfl, hF⟩
theorem amF_0 {n x29 x30 x33 m12_0 m12_1 m13_0 m13_1 m14_0 m14_1 m15_0 m15_1 : Nat} {x27 : Int32} {f1 f2 f3 : Nat → Int32} {r4 r5 r6 r7 : Nat → Nat} {f8 : Nat → Int32} {r9 r10 : Nat → Nat} {r11 f : Nat → Int32} : AQ 0 f1 r10 r11 f2 f3 r4 r5 r6 r7 f8 r9 m12_1 m13_1 m14_1 m15_1 (sp_EM_automaton 1 n x27 x29 x30 x33 f1 f2 f3 r4 r5 r6 r7 f8 r9 r10 r11 m12_0 m12_1 m13_0 m13_1 m14_0 m14_1 m15_0 m15_1 f) := by
  unfold sp_EM_automaton
  apply it1
  · intro hx
    first
    | exact absurd hx (by decide)
    | (apply sl4; intro z20 z21 z22 z23 _; dsimp only
       apply sq21 (OQ 0 f1 r10 r11 f2 f3 r4 r5 r6 r7 f8 r9)
       · exact itrv_stp (d := default) (laF_0 (len := n) (f := f) f1 r10 r11 f2 f3 r4 r5 r6 r7 f8 r9) (f1, r10, r11, f2, f3, r4, r5, r6, r7, f8, r9, 0, 0, 0, 0, z20, z21, z22, z23, 0, x27) ⟨FRM.rf, by decide, by decide, by decide⟩
       · intro g1 g2 g3 g4 g5 g6 g7 g8 g9 g10 g11 g12 g13 g14 g15 g16 g17 g18 g19 g20 g21 hg
         dsimp only
         repeat' first | (with_reducible apply sl21; intro _ _ _ _ _ _ _ _ _ _ _ _ _ _ _ _ _ _ _ _ _ _; try dsimp only) | (with_reducible apply sl14; intro _ _ _ _ _ _ _ _ _ _ _ _ _ _ _; try dsimp only) | (with_reducible apply sl13; intro _ _ _ _ _ _ _ _ _ _ _ _ _ _; try dsimp only) | (with_reducible apply sl9; intro _ _ _ _ _ _ _ _ _ _; try dsimp only) | (with_reducible apply sl7; intro _ _ _ _ _ _ _ _; try dsimp only) | (with_reducible apply sl6; intro _ _ _ _ _ _ _; try dsimp only) | (with_reducible apply sl5; intro _ _ _ _ _ _; try dsimp only) | (with_reducible apply sl4; intro _ _ _ _ _; try dsimp only) | (with_reducible apply sl3; intro _ _ _ _; try dsimp only) | (with_reducible apply sl2; intro _ _ _; try dsimp only) | (with_reducible apply sl1; rintro _ rfl; try dsimp only) | (with_reducible apply it1 <;> intro _)
         all_goals exact ⟨hg, rfl, rfl, rfl, rfl⟩)
  · intro hx
    first
    | exact absurd rfl hx
    | (apply sl4; intro z20 z21 z22 z23 _; dsimp only
       apply sq21 (OQ 0 f1 r10 r11 f2 f3 r4 r5 r6 r7 f8 r9)
       · exact itrv_stp (d := default) (laF_0 (len := n) (f := f) f1 r10 r11 f2 f3 r4 r5 r6 r7 f8 r9) (f1, r10, r11, f2, f3, r4, r5, r6, r7, f8, r9, 0, 0, 0, 0, z20, z21, z22, z23, 0, x27) ⟨FRM.rf, by decide, by decide, by decide⟩
       · intro g1 g2 g3 g4 g5 g6 g7 g8 g9 g10 g11 g12 g13 g14 g15 g16 g17 g18 g19 g20 g21 hg
         dsimp only
         repeat' first | (with_reducible apply sl21; intro _ _ _ _ _ _ _ _ _ _ _ _ _ _ _ _ _ _ _ _ _ _; try dsimp only) | (with_reducible apply sl14; intro _ _ _ _ _ _ _ _ _ _ _ _ _ _ _; try dsimp only) | (with_reducible apply sl13; intro _ _ _ _ _ _ _ _ _ _ _ _ _ _; try dsimp only) | (with_reducible apply sl9; intro _ _ _ _ _ _ _ _ _ _; try dsimp only) | (with_reducible apply sl7; intro _ _ _ _ _ _ _ _; try dsimp only) | (with_reducible apply sl6; intro _ _ _ _ _ _ _; try dsimp only) | (with_reducible apply sl5; intro _ _ _ _ _ _; try dsimp only) | (with_reducible apply sl4; intro _ _ _ _ _; try dsimp only) | (with_reducible apply sl3; intro _ _ _ _; try dsimp only) | (with_reducible apply sl2; intro _ _ _; try dsimp only) | (with_reducible apply sl1; rintro _ rfl; try dsimp only) | (with_reducible apply it1 <;> intro _)
         all_goals exact ⟨hg, rfl, rfl, rfl, rfl⟩)
theorem rcF0_1 {len pos w : Nat} {x27 : Int32} {f1 : Nat → Int32} {q9 q10 : Nat → Nat} {f11 : Nat → Int32} {nc : Nat} {f : Nat → Int32} {a0 b n : Nat} (h1 : b ≤ a0) (h2 : a0 < b + n) : Q3 b n q10 f11 q9 (sp_EM_readCondition0_1 len pos w x27 f1 q9 q10 f11 nc f a0) := by
  unfold sp_EM_readCondition0_1
  repeat' first | (with_reducible apply sl21; intro _ _ _ _ _ _ _ _ _ _ _ _ _ _ _ _ _ _ _ _ _ _; try dsimp only) | (with_reducible apply sl14; intro _ _ _ _ _ _ _ _ _ _ _ _ _ _ _; try dsimp only) | (with_reducible apply sl13; intro _ _ _ _ _ _ _ _ _ _ _ _ _ _; try dsimp only) | (with_reducible apply sl9; intro _ _ _ _ _ _ _ _ _ _; try dsimp only) | (with_reducible apply sl7; intro _ _ _ _ _ _ _ _; try dsimp only) | (with_reducible apply sl6; intro _ _ _ _ _ _ _; try dsimp only) | (with_reducible apply sl5; intro _ _ _ _ _ _; try dsimp only) | (with_reducible apply sl4; intro _ _ _ _ _; try dsimp only) | (with_reducible apply sl3; intro _ _ _ _; try dsimp only) | (with_reducible apply sl2; intro _ _ _; try dsimp only) | (with_reducible apply sl1; rintro _ rfl; try dsimp only) | (with_reducible apply it1 <;> intro _)
  all_goals exact And.intro (by first | exact UN.rf | exact UN.rf.up ⟨h1, h2⟩) (And.intro (by first | exact UN.rf | exact UN.rf.up' ⟨h1, h2⟩) (by first | exact UN.rf | exact UN.rf.up ⟨h1, h2⟩))
theorem rcF1_1 {len pos w : Nat} {x27 : Int32} {f1 : Nat → Int32} {q9 q10 : Nat → Nat} {f11 : Nat → Int32} {nc : Nat} {f : Nat → Int32} {a0 b n : Nat} (h1 : b ≤ a0) (h2 : a0 < b + n) : Q3 b n q10 f11 q9 (sp_EM_readCondition1_1 len pos w x27 f1 q9 q10 f11 nc f a0) := by
  unfold sp_EM_readCondition1_1
  repeat' first | (with_reducible apply sl21; intro _ _ _ _ _ _ _ _ _ _ _ _ _ _ _ _ _ _ _ _ _ _; try dsimp only) | (with_reducible apply sl14; intro _ _ _ _ _ _ _ _ _ _ _ _ _ _ _; try dsimp only) | (with_reducible apply sl13; intro _ _ _ _ _ _ _ _ _ _ _ _ _ _; try dsimp only) | (with_reducible apply sl9; intro _ _ _ _ _ _ _ _ _ _; try dsimp only) | (with_reducible apply sl7; intro _ _ _ _ _ _ _ _; try dsimp only) | (with_reducible apply sl6; intro _ _ _ _ _ _ _; try dsimp only) | (with_reducible apply sl5; intro _ _ _ _ _ _; try dsimp only) | (with_reducible apply sl4; intro _ _ _ _ _; try dsimp only) | (with_reducible apply sl3; intro _ _ _ _; try dsimp only) | (with_reducible apply sl2; intro _ _ _; try dsimp only) | (with_reducible apply sl1; rintro _ rfl; try dsimp only) | (with_reducible apply it1 <;> intro _)
  all_goals exact And.intro (by first | exact UN.rf | exact UN.rf.up ⟨h1, h2⟩) (And.intro (by first | exact UN.rf | exact UN.rf.up' ⟨h1, h2⟩) (by first | exact UN.rf | exact UN.rf.up ⟨h1, h2⟩))
/-- a place's conditions -/
theorem p1F_1 {len nc np : Nat} (hnp : np < 8) (f1 f ga gb : Nat → Int32) (r10o : Nat → Nat) (r11o : Nat → Int32) (r4o r9o : Nat → Nat) : ∀ t, PR 8 80 r10o r11o r4o r9o t → STP (PR 8 80 r10o r11o r4o r9o) (fun X => RP 8 80 np r10o r11o ga gb r4o r9o X ∧ X.2.2.1 = ga ∧ X.2.2.2.1 = gb) (PM (8 + np) 3) (PM (8 + np) 3 t) (sp_EM_readPlace_1_L1 len f1 nc np f ga gb t) := by
  rintro ⟨r10, r11, r4, r9, at_, be, tok, va, w, wa⟩ ⟨h1, h2, h3, h4⟩
  by_cases hw : w = 0
  · subst hw
    by_cases hd : sp_EM_isWord tok va 22499628 = 0
    · simp only [sp_EM_readPlace_1_L1, slet, good_0, Nat.one_ne_zero, reduceIte, hd]
      exact Or.inr ⟨_, rfl, ⟨h1, h2, UN.rf, UN.rf, h3, h4, Or.inl rfl⟩, rfl, rfl⟩
    · by_cases h5 : min (r4 (8 + np)) 3 = 3
      · obtain ⟨⟨z26, z27⟩, hf⟩ : ∃ x, sp_EM_fails at_ tok 0 wa 5 = x := ⟨_, rfl⟩
        simp only [sp_EM_readPlace_1_L1, slet, good_0, Nat.one_ne_zero, reduceIte, hd, h5, hf]
        exact Or.inr ⟨_, rfl, ⟨h1, h2, UN.rf, UN.rf, h3, h4, Or.inr ⟨rfl, fails_ne (by decide) hf⟩⟩, rfl, rfl⟩
      · obtain ⟨⟨z10, z11, z9, z20, z21, z22, z23, z26, z27⟩, hB⟩ : ∃ x, sp_EM_readCondition1_1 len be 0 wa f1 r9 r10 r11 nc f ((136 + (3 * np)) + min (r4 (8 + np)) 3) = x := ⟨_, rfl⟩
        have hm : min (r4 (8 + np)) 3 < 3 := by omega
        have hr := rcF1_1 (len := len) (pos := be) (w := 0) (x27 := wa) (f1 := f1) (q9 := r9) (q10 := r10) (f11 := r11) (nc := nc) (f := f) (a0 := (136 + (3 * np)) + min (r4 (8 + np)) 3) (b := 80) (n := 80) (by omega) (by omega)
        rw [hB] at hr
        simp only [sp_EM_readPlace_1_L1, slet, good_0, Nat.one_ne_zero, reduceIte, hd, h5, hB]
        refine Or.inl ⟨_, rfl, ⟨hr.1.tr h1, hr.2.1.tr h2, h3.up ⟨by omega, by omega⟩, hr.2.2.tr h4⟩, ?_⟩
        show (3 - updN r4 (8 + np) (min (r4 (8 + np)) 3 + 1) (8 + np)) + (if z26 = 0 then 1 else 0) < (3 - r4 (8 + np)) + 1
        rw [updN_s]
        split <;> omega
  · simp only [sp_EM_readPlace_1_L1, slet, good_n hw, reduceIte]
    exact Or.inr ⟨_, rfl, ⟨h1, h2, UN.rf, UN.rf, h3, h4, Or.inl rfl⟩, rfl, rfl⟩
theorem rpF_1 {len be tok w nc np : Nat} {at_ va x27 : Int32} {f1 f2 f3 : Nat → Int32} {r4 r9 r10 : Nat → Nat} {r11 f : Nat → Int32} (hnp : np < 8) : RP 8 80 np r10 r11 f2 f3 r4 r9 (sp_EM_readPlace_1 len at_ be tok va w x27 f1 f2 f3 r4 r9 r10 r11 nc np f) := by
  unfold sp_EM_readPlace_1
  apply sl7; intro s z20 z21 z22 z23 z26 z27 _; dsimp only
  apply sl1; rintro _ rfl
  apply sl1; rintro _ rfl
  apply sl1; rintro _ rfl
  apply sl1; rintro _ rfl
  apply sq5 (QL 8 8 f3)
  · repeat' first | (with_reducible apply sl21; intro _ _ _ _ _ _ _ _ _ _ _ _ _ _ _ _ _ _ _ _ _ _; try dsimp only) | (with_reducible apply sl14; intro _ _ _ _ _ _ _ _ _ _ _ _ _ _ _; try dsimp only) | (with_reducible apply sl13; intro _ _ _ _ _ _ _ _ _ _ _ _ _ _; try dsimp only) | (with_reducible apply sl9; intro _ _ _ _ _ _ _ _ _ _; try dsimp only) | (with_reducible apply sl7; intro _ _ _ _ _ _ _ _; try dsimp only) | (with_reducible apply sl6; intro _ _ _ _ _ _ _; try dsimp only) | (with_reducible apply sl5; intro _ _ _ _ _ _; try dsimp only) | (with_reducible apply sl4; intro _ _ _ _ _; try dsimp only) | (with_reducible apply sl3; intro _ _ _ _; try dsimp only) | (with_reducible apply sl2; intro _ _ _; try dsimp only) | (with_reducible apply sl1; rintro _ rfl; try dsimp only) | (with_reducible apply it1 <;> intro _)
    all_goals first | exact UN.rf.up' ⟨by omega, by omega⟩ | exact (UN.rf.up' ⟨by omega, by omega⟩).up' ⟨by omega, by omega⟩
  · intro g1 g2 g3 g4 g5 hg
    dsimp only
    have h := itrv_stp (d := default) (p1F_1 (len := len) (nc := nc) (np := np) hnp f1 f (upd f2 (8 + np) s) g5 r10 r11 r4 r9) (r10, r11, updN r4 (8 + np) 0, r9, g1, g2, g3, g4, z26, z27) ⟨UN.rf, UN.rf, UN.rf.up ⟨by omega, by omega⟩, UN.rf⟩
    obtain ⟨⟨e1, e2, -, -, e5, e6, e7⟩, ea, eb⟩ := h
    exact ⟨e1, e2, by rw [ea]; exact UN.rf.up' ⟨by omega, by omega⟩, by rw [eb]; exact hg, e5, e6, e7⟩
theorem tcF_1 {at_ va x27 : Int32} {tok n c w : Nat} {f1 : Nat → Int32} {wa : Int32} (h : sp_EM_toldClock_1 at_ tok va 0 x27 f1 n = (c, w, wa)) : w ≠ 0 ∨ (w = 0 ∧ c < n) := by
  obtain ⟨⟨z26, z27⟩, h1⟩ : ∃ x, sp_EM_mustBeName at_ tok va 0 x27 = x := ⟨_, rfl⟩
  by_cases hz : z26 = 0
  · subst hz
    by_cases hu : sp_EM_clockCalled_1 va f1 n = 0
    · obtain ⟨⟨y1, y2⟩, hf⟩ : ∃ x, sp_EM_fails at_ tok 0 z27 3 = x := ⟨_, rfl⟩
      simp only [sp_EM_toldClock_1, slet, h1, good_0, Nat.one_ne_zero, reduceIte, hu, hf, Prod.mk.injEq] at h
      obtain ⟨-, rfl, -⟩ := h
      exact Or.inl (fails_ne (by decide) hf)
    · have hle : sp_EM_clockCalled_1 va f1 n ≤ n := find_le (f := fun i => f1 (3 + i)) (v := va) (n := n)
      simp only [sp_EM_toldClock_1, slet, h1, good_0, Nat.one_ne_zero, reduceIte, hu, Prod.mk.injEq] at h
      obtain ⟨rfl, rfl, -⟩ := h
      exact Or.inr ⟨rfl, by omega⟩
  · simp only [sp_EM_toldClock_1, slet, h1, good_n hz, reduceIte, Prod.mk.injEq] at h
    obtain ⟨-, rfl, -⟩ := h
    exact Or.inl hz
/-- an edge's sets -/
theorem s2F_1 {len nc ne : Nat} (hnc : nc ≤ 3) (hne : ne < 14) (f1 f f8o : Nat → Int32) : ∀ t, SR2 14 f8o t → STP (SR2 14 f8o) (SQ2 14 f8o) (SM2 (14 + ne)) (SM2 (14 + ne) t) (sp_EM_readEdge_1_L2 len f1 nc ne f t) := by
  rintro ⟨f8, at_, be, tok, va, w, wa⟩ h1
  by_cases hw : w = 0
  · subst hw
    by_cases hd : sp_EM_isWord tok va 19057844 = 0
    · simp only [sp_EM_readEdge_1_L2, slet, good_0, Nat.one_ne_zero, reduceIte, hd]
      exact Or.inr ⟨_, rfl, h1⟩
    · obtain ⟨⟨a1, p1, t1, w1⟩, n1⟩ : ∃ x, sp_EM_next len be f = x := ⟨_, rfl⟩
      obtain ⟨⟨c, z26, z27⟩, e2⟩ : ∃ x, sp_EM_toldClock_1 a1 t1 w1 0 wa f1 nc = x := ⟨_, rfl⟩
      rcases tcF_1 e2 with hz | ⟨rfl, hc⟩
      · simp only [sp_EM_readEdge_1_L2, slet, good_0, Nat.one_ne_zero, reduceIte, hd, n1, e2, good_n hz]
        refine Or.inl ⟨_, rfl, UN.up' h1 ⟨by omega, by omega⟩, ?_⟩
        show (3 - bc (upd f8 (14 + ne) (f8 (14 + ne) ||| ((1 : Int32) <<< ((nI c : Int32) &&& 31))) (14 + ne))) + (if z26 = 0 then 1 else 0) < (3 - bc (f8 (14 + ne))) + 1
        rw [upd_s, if_neg hz]
        have := bc_or (B := f8 (14 + ne)) (x := (1 : Int32) <<< ((nI c : Int32) &&& 31))
        omega
      · have hcl : c < 3 := by omega
        have isof : sp_EM_isOf (f8 (14 + ne)) (nI c) = (if bt (f8 (14 + ne)) c = true then 1 else 0) := by
          have : sp_EM_isOf (f8 (14 + ne)) (nI c) = (if ((f8 (14 + ne) >>> ((nI c : Int32) &&& 31)) &&& (1 : Int32)) = 1 then 1 else 0) := rfl
          rw [this]
          by_cases hb : bt (f8 (14 + ne)) c = true
          · rw [if_pos ((bt_iff hcl).mpr hb), if_pos hb]
          · rw [if_neg (fun z => hb ((bt_iff hcl).mp z)), if_neg hb]
        by_cases hb : bt (f8 (14 + ne)) c = true
        · rw [if_pos hb] at isof
          obtain ⟨⟨y1, y2⟩, hf⟩ : ∃ x, sp_EM_fails a1 t1 0 z27 5 = x := ⟨_, rfl⟩
          have hy := fails_ne (by decide) hf
          simp only [sp_EM_readEdge_1_L2, slet, good_0, Nat.one_ne_zero, reduceIte, hd, n1, e2, isof, hf, good_n hy]
          refine Or.inl ⟨_, rfl, UN.up' h1 ⟨by omega, by omega⟩, ?_⟩
          show (3 - bc (upd f8 (14 + ne) (f8 (14 + ne) ||| ((1 : Int32) <<< ((nI c : Int32) &&& 31))) (14 + ne))) + (if y1 = 0 then 1 else 0) < (3 - bc (f8 (14 + ne))) + 1
          rw [upd_s, if_neg hy]
          have := bc_or (B := f8 (14 + ne)) (x := (1 : Int32) <<< ((nI c : Int32) &&& 31))
          omega
        · rw [if_neg hb] at isof
          have hbf : bt (f8 (14 + ne)) c = false := Bool.eq_false_iff.mpr hb
          obtain ⟨⟨a4, p4, t4, w4⟩, n4⟩ : ∃ x, sp_EM_next len p1 f = x := ⟨_, rfl⟩
          have hc2 := bc_le hcl hbf
          simp only [sp_EM_readEdge_1_L2, slet, good_0, Nat.one_ne_zero, reduceIte, hd, n1, e2, isof, n4]
          refine Or.inl ⟨_, rfl, UN.up' h1 ⟨by omega, by omega⟩, ?_⟩
          show (3 - bc (upd f8 (14 + ne) (f8 (14 + ne) ||| ((1 : Int32) <<< ((nI c : Int32) &&& 31))) (14 + ne))) + 1 < (3 - bc (f8 (14 + ne))) + 1
          rw [upd_s, bc_up hcl hbf]
          omega
  · simp only [sp_EM_readEdge_1_L2, slet, good_n hw, reduceIte]
    exact Or.inr ⟨_, rfl, h1⟩
/-- an edge's conditions and sets -/
theorem e3F_1 {len nc ne : Nat} (hnc : nc ≤ 3) (hne : ne < 14) (f1 f : Nat → Int32) (qa qb : Nat → Nat) (fs f8o : Nat → Int32) (hfs : UN 14 14 fs f8o) (r10o : Nat → Nat) (r11o : Nat → Int32) (r7o r9o : Nat → Nat) : ∀ t, ER 14 80 r10o r11o r7o r9o t → STP (ER 14 80 r10o r11o r7o r9o) (RE 14 80 ne r10o r11o qa qb r7o f8o r9o) (PM (14 + ne) 4) (PM (14 + ne) 4 t) (sp_EM_readEdge_1_L3 len f1 nc ne f qa qb fs t) := by
  rintro ⟨r10, r11, r7, r9, at_, be, tok, va, w, wa⟩ ⟨h1, h2, h3, h4⟩
  by_cases hw : w = 0
  · subst hw
    by_cases hd : sp_EM_isWord tok va 762030 = 0
    · have h := itrv_stp (d := default) (s2F_1 (len := len) (nc := nc) (ne := ne) hnc hne f1 f f8o) (fs, at_, be, tok, va, 0, wa) hfs
      obtain ⟨⟨y1, y2, y3, y4, y5, y6, y7⟩, hy⟩ : ∃ x, itrv default (sp_EM_readEdge_1_L2 len f1 nc ne f) (fs, at_, be, tok, va, 0, wa) = x := ⟨_, rfl⟩
      rw [hy] at h
      simp only [sp_EM_readEdge_1_L3, slet, good_0, Nat.one_ne_zero, reduceIte, hd, hy]
      exact Or.inr ⟨_, rfl, h1, h2, UN.rf, UN.rf, h3, h, h4, Or.inl rfl⟩
    · by_cases h5 : min (r7 (14 + ne)) 4 = 4
      · obtain ⟨⟨z26, z27⟩, hf⟩ : ∃ x, sp_EM_fails at_ tok 0 wa 5 = x := ⟨_, rfl⟩
        simp only [sp_EM_readEdge_1_L3, slet, good_0, Nat.one_ne_zero, reduceIte, hd, h5, hf]
        exact Or.inr ⟨_, rfl, h1, h2, UN.rf, UN.rf, h3, hfs, h4, Or.inr ⟨rfl, fails_ne (by decide) hf⟩⟩
      · obtain ⟨⟨z10, z11, z9, z20, z21, z22, z23, z26, z27⟩, hB⟩ : ∃ x, sp_EM_readCondition0_1 len be 0 wa f1 r9 r10 r11 nc f ((80 + (4 * ne)) + min (r7 (14 + ne)) 4) = x := ⟨_, rfl⟩
        have hm : min (r7 (14 + ne)) 4 < 4 := by omega
        have hr := rcF0_1 (len := len) (pos := be) (w := 0) (x27 := wa) (f1 := f1) (q9 := r9) (q10 := r10) (f11 := r11) (nc := nc) (f := f) (a0 := (80 + (4 * ne)) + min (r7 (14 + ne)) 4) (b := 80) (n := 80) (by omega) (by omega)
        rw [hB] at hr
        simp only [sp_EM_readEdge_1_L3, slet, good_0, Nat.one_ne_zero, reduceIte, hd, h5, hB]
        refine Or.inl ⟨_, rfl, ⟨hr.1.tr h1, hr.2.1.tr h2, h3.up ⟨by omega, by omega⟩, hr.2.2.tr h4⟩, ?_⟩
        show (4 - updN r7 (14 + ne) (min (r7 (14 + ne)) 4 + 1) (14 + ne)) + (if z26 = 0 then 1 else 0) < (4 - r7 (14 + ne)) + 1
        rw [updN_s]
        split <;> omega
  · have e1 : itrv default (sp_EM_readEdge_1_L1 len f1 nc ne f) (fs, at_, be, tok, va, w, wa) = (at_, be, tok, va, w, wa, fs) := itrv_inr (by simp [sp_EM_readEdge_1_L1, slet, good_n hw])
    simp only [sp_EM_readEdge_1_L3, slet, good_n hw, reduceIte, e1]
    exact Or.inr ⟨_, rfl, h1, h2, UN.rf, UN.rf, h3, hfs, h4, Or.inl rfl⟩
theorem reF_1 {len be tok w nc np ne : Nat} {at_ va x27 : Int32} {f1 f2 : Nat → Int32} {r5 r6 r7 : Nat → Nat} {f8 : Nat → Int32} {r9 r10 : Nat → Nat} {r11 f : Nat → Int32} (hnc : nc ≤ 3) (hne : ne < 14) : RE 14 80 ne r10 r11 r5 r6 r7 f8 r9 (sp_EM_readEdge_1 len at_ be tok va w x27 f1 f2 r5 r6 r7 f8 r9 r10 r11 nc np ne f) := by
  unfold sp_EM_readEdge_1
  apply sl7; intro u z20 z21 z22 z23 z26 z27 _; dsimp only
  apply sl1; rintro _ rfl
  apply sl1; rintro _ rfl
  apply sl7; intro g1 g2 g3 g4 g5 g6 g7 _; dsimp only
  apply sl1; rintro _ rfl
  apply sl1; rintro _ rfl
  apply sl1; rintro _ rfl
  have h := itrv_stp (d := default) (e3F_1 (len := len) (nc := nc) (ne := ne) hnc hne f1 f (updN r5 (14 + ne) u) (updN r6 (14 + ne) g7) (upd f8 (14 + ne) 0) f8 (UN.rf.up' ⟨by omega, by omega⟩) r10 r11 r7 r9) (r10, r11, updN r7 (14 + ne) 0, r9, g1, g2, g3, g4, g5, g6) ⟨UN.rf, UN.rf, UN.rf.up ⟨by omega, by omega⟩, UN.rf⟩
  obtain ⟨e1, e2, e3, e4, e5, e6, e7, e8⟩ := h
  exact ⟨e1, e2, e3.tr (UN.rf.up ⟨by omega, by omega⟩), e4.tr (UN.rf.up ⟨by omega, by omega⟩), e5, e6, e7, e8⟩
theorem rlF_1 {len be tok : Nat} {at_ va x27 : Int32} {f1 f2 f3 : Nat → Int32} {r4 r5 r6 r7 : Nat → Nat} {f8 : Nat → Int32} {r9 r10 : Nat → Nat} {r11 f : Nat → Int32} {m12 m13 m14 m15 : Nat} (h12 : m12 ≤ 3) (h13 : m13 ≤ 8) (h14 : m14 ≤ 14) : LQ 1 f1 r10 r11 f2 f3 r4 r5 r6 r7 f8 r9 (cnt4 m12 m13 m14 m15) (sp_EM_readLine_1 len at_ be tok va 0 x27 f1 f2 f3 r4 r5 r6 r7 f8 r9 r10 r11 m12 m13 m14 m15 f) := by
  unfold sp_EM_readLine_1
  apply sl1; intro u2 _
  apply sl1; intro u4 _
  apply sl1; intro u6 _
  apply sl1; intro u8 _
  apply sq2 (WQ u2 u4 u6 u8 m12 m13 m14 m15)
  · repeat' first | (with_reducible apply sl21; intro _ _ _ _ _ _ _ _ _ _ _ _ _ _ _ _ _ _ _ _ _ _; try dsimp only) | (with_reducible apply sl14; intro _ _ _ _ _ _ _ _ _ _ _ _ _ _ _; try dsimp only) | (with_reducible apply sl13; intro _ _ _ _ _ _ _ _ _ _ _ _ _ _; try dsimp only) | (with_reducible apply sl9; intro _ _ _ _ _ _ _ _ _ _; try dsimp only) | (with_reducible apply sl7; intro _ _ _ _ _ _ _ _; try dsimp only) | (with_reducible apply sl6; intro _ _ _ _ _ _ _; try dsimp only) | (with_reducible apply sl5; intro _ _ _ _ _ _; try dsimp only) | (with_reducible apply sl4; intro _ _ _ _ _; try dsimp only) | (with_reducible apply sl3; intro _ _ _ _; try dsimp only) | (with_reducible apply sl2; intro _ _ _; try dsimp only) | (with_reducible apply sl1; rintro _ rfl; try dsimp only) | (with_reducible apply it1 <;> intro _)
    all_goals first | (intro h0; exact absurd h0 (fails_as (by assumption) (by decide))) | (intro _; refine ⟨?_, ?_, ?_, ?_⟩ <;> omega)
  · intro g9 g10 hg
    dsimp only
    apply sl1; rintro _ rfl
    apply it1
    · intro hw
      exact ⟨FRM.rf, h12, h13, h14, Nat.le_refl _, fun e => absurd e (good_w hw)⟩
    · intro hw
      obtain ⟨k1, k2, k3, k4⟩ := hg (good_e hw)
      apply sl4; intro z20 z21 z22 z23 _; dsimp only
      apply it1
      · intro i2
        apply it1
        · intro i4
          apply it1
          · intro i6
            have h5 : m14 < 14 := by have := (k4 i2 i4 i6).2; omega
            have h := reF_1 (len := len) (be := z21) (tok := z22) (w := g9) (np := m13) (at_ := z20) (va := z23) (x27 := g10) (f1 := f1) (f2 := f2) (r5 := r5) (r6 := r6) (r7 := r7) (f8 := f8) (r9 := r9) (r10 := r10) (r11 := r11) (f := f) (nc := m12) (ne := m14) h12 h5
            obtain ⟨⟨y1, y2, y3, y4, y5, y6, y7, y8, y9, y10, y11, y12, y13, y14⟩, hX⟩ : ∃ x, sp_EM_readEdge_1 len z20 z21 z22 z23 g9 g10 f1 f2 r5 r6 r7 f8 r9 r10 r11 m12 m13 m14 f = x := ⟨_, rfl⟩
            rw [hX] at h ⊢
            dsimp only [slet]
            obtain ⟨e1, e2, e3, e4, e5, e6, e7, e8⟩ := h
            have e8 : y8 = m14 + 1 ∨ (y8 = m14 ∧ y13 ≠ 0) := e8
            rcases e8 with rfl | ⟨rfl, e9⟩
            · exact ⟨⟨UN.rf, e1, e2, UN.rf, UN.rf, UN.rf, e3, e4, e5, e6, e7⟩, h12, h13, by omega, by rw [c4c]; omega, fun _ => c4c⟩
            · exact ⟨⟨UN.rf, e1, e2, UN.rf, UN.rf, UN.rf, e3, e4, e5, e6, e7⟩, h12, h13, h14, Nat.le_refl _, fun e => absurd e e9⟩
          · intro i6
            have h15 := k3 i2 i4 i6
            subst h15
            apply sl7; intro u y20 y21 y22 y23 y26 y27 _; dsimp only
            exact ⟨FRM.rf, h12, h13, h14, by rw [c4d]; omega, fun _ => c4d⟩
        · intro i4
          have h5 : m13 < 8 := by have := k2 i2 i4; omega
          have h := rpF_1 (len := len) (be := z21) (tok := z22) (w := g9) (at_ := z20) (va := z23) (x27 := g10) (f1 := f1) (f2 := f2) (f3 := f3) (r4 := r4) (r9 := r9) (r10 := r10) (r11 := r11) (f := f) (nc := m12) (np := m13) h5
          obtain ⟨⟨y1, y2, y3, y4, y5, y6, y7, y8, y9, y10, y11, y12, y13⟩, hX⟩ : ∃ x, sp_EM_readPlace_1 len z20 z21 z22 z23 g9 g10 f1 f2 f3 r4 r9 r10 r11 m12 m13 f = x := ⟨_, rfl⟩
          rw [hX] at h ⊢
          dsimp only [slet]
          obtain ⟨e1, e2, e3, e4, e5, e6, e7⟩ := h
          have e7 : y7 = m13 + 1 ∨ (y7 = m13 ∧ y12 ≠ 0) := e7
          rcases e7 with rfl | ⟨rfl, e9⟩
          · exact ⟨⟨UN.rf, e1, e2, e3, e4, e5, UN.rf, UN.rf, UN.rf, UN.rf, e6⟩, h12, by omega, h14, by rw [c4b]; omega, fun _ => c4b⟩
          · exact ⟨⟨UN.rf, e1, e2, e3, e4, e5, UN.rf, UN.rf, UN.rf, UN.rf, e6⟩, h12, h13, h14, Nat.le_refl _, fun e => absurd e e9⟩
      · intro i2
        have h5 : m12 < 3 := by have := k1 i2; omega
        apply sl7; intro s y20 y21 y22 y23 y26 y27 _; dsimp only
        apply sl1; rintro _ rfl
        exact ⟨⟨UN.rf.up' ⟨by omega, by omega⟩, UN.rf, UN.rf, UN.rf, UN.rf, UN.rf, UN.rf, UN.rf, UN.rf, UN.rf, UN.rf⟩, by omega, h13, h14, by rw [c4a]; omega, fun _ => c4a⟩
/-- the lines -/
theorem laF_1 {len : Nat} {f : Nat → Int32} (g1 : Nat → Int32) (s10 : Nat → Nat) (s11 g2 g3 : Nat → Int32) (s4 s5 s6 s7 : Nat → Nat) (g8 : Nat → Int32) (s9 : Nat → Nat) : ∀ t, LR 1 g1 s10 s11 g2 g3 s4 s5 s6 s7 g8 s9 t → STP (LR 1 g1 s10 s11 g2 g3 s4 s5 s6 s7 g8 s9) (OQ 1 g1 s10 s11 g2 g3 s4 s5 s6 s7 g8 s9) LM (LM t) (sp_EM_automaton_L1 len f t) := by
  rintro ⟨f1, r10, r11, f2, f3, r4, r5, r6, r7, f8, r9, m12, m13, m14, m15, at_, be, tok, va, w, wa⟩ ⟨hF, h12, h13, h14⟩
  by_cases hw : w = 0
  · subst hw
    by_cases ht : tok = 0
    · simp only [sp_EM_automaton_L1, slet, good_0, Nat.one_ne_zero, reduceIte, ht]
      exact Or.inr ⟨_, rfl, hF⟩
    · have h := rlF_1 (len := len) (be := be) (tok := tok) (at_ := at_) (va := va) (x27 := wa) (f1 := f1) (f2 := f2) (f3 := f3) (r4 := r4) (r5 := r5) (r6 := r6) (r7 := r7) (f8 := f8) (r9 := r9) (r10 := r10) (r11 := r11) (f := f) (m15 := m15) h12 h13 h14
      obtain ⟨⟨y1, y10, y11, y2, y3, y4, y5, y6, y7, y8, y9, n12, n13, n14, n15, z20, z21, z22, z23, z26, z27⟩, hX⟩ : ∃ x, sp_EM_readLine_1 len at_ be tok va 0 wa f1 f2 f3 r4 r5 r6 r7 f8 r9 r10 r11 m12 m13 m14 m15 f = x := ⟨_, rfl⟩
      rw [hX] at h
      obtain ⟨hG, k12, k13, k14, hc, hc1⟩ := h
      have h26 := cnt4_le (d := n15) k12 k13 k14
      have h0 := cnt4_le (d := m15) h12 h13 h14
      by_cases hz : z26 = 0
      · subst hz
        have hc1 := hc1 rfl
        by_cases hs : sp_EM_isSign z22 z23 59 = 0
        · obtain ⟨⟨v1, v2⟩, hf⟩ : ∃ x, sp_EM_fails z20 z22 0 z27 2 = x := ⟨_, rfl⟩
          have hv := fails_ne (by decide) hf
          simp only [sp_EM_automaton_L1, slet, good_0, Nat.one_ne_zero, reduceIte, ht, hX, hs, hf, good_n hv]
          refine Or.inl ⟨_, rfl, ⟨hG.tr hF, k12, k13, k14⟩, ?_⟩
          show (26 - cnt4 n12 n13 n14 n15) + (if v1 = 0 then 1 else 0) < (26 - cnt4 m12 m13 m14 m15) + 1
          rw [if_neg hv]; omega
        · obtain ⟨⟨v1, v2, v3, v4⟩, hn⟩ : ∃ x, sp_EM_next len z21 f = x := ⟨_, rfl⟩
          simp only [sp_EM_automaton_L1, slet, good_0, Nat.one_ne_zero, reduceIte, ht, hX, hs, hn]
          refine Or.inl ⟨_, rfl, ⟨hG.tr hF, k12, k13, k14⟩, ?_⟩
          show (26 - cnt4 n12 n13 n14 n15) + 1 < (26 - cnt4 m12 m13 m14 m15) + 1
          omega
      · simp only [sp_EM_automaton_L1, slet, good_0, Nat.one_ne_zero, reduceIte, ht, hX, good_n hz]
        refine Or.inl ⟨_, rfl, ⟨hG.tr hF, k12, k13, k14⟩, ?_⟩
        show (26 - cnt4 n12 n13 n14 n15) + (if z26 = 0 then 1 else 0) < (26 - cnt4 m12 m13 m14 m15) + 1
        rw [if_neg hz]; omega
  · simp only [sp_EM_automaton_L1, slet, good_n hw, reduceIte]
    exact Or.inr ⟨_, rfl, hF⟩
theorem amF_1 {n x29 x30 x33 m12_0 m12_1 m13_0 m13_1 m14_0 m14_1 m15_0 m15_1 : Nat} {x27 : Int32} {f1 f2 f3 : Nat → Int32} {r4 r5 r6 r7 : Nat → Nat} {f8 : Nat → Int32} {r9 r10 : Nat → Nat} {r11 f : Nat → Int32} : AQ 1 f1 r10 r11 f2 f3 r4 r5 r6 r7 f8 r9 m12_0 m13_0 m14_0 m15_0 (sp_EM_automaton 0 n x27 x29 x30 x33 f1 f2 f3 r4 r5 r6 r7 f8 r9 r10 r11 m12_0 m12_1 m13_0 m13_1 m14_0 m14_1 m15_0 m15_1 f) := by
  unfold sp_EM_automaton
  apply it1
  · intro hx
    first
    | exact absurd hx (by decide)
    | (apply sl4; intro z20 z21 z22 z23 _; dsimp only
       apply sq21 (OQ 1 f1 r10 r11 f2 f3 r4 r5 r6 r7 f8 r9)
       · exact itrv_stp (d := default) (laF_1 (len := n) (f := f) f1 r10 r11 f2 f3 r4 r5 r6 r7 f8 r9) (f1, r10, r11, f2, f3, r4, r5, r6, r7, f8, r9, 0, 0, 0, 0, z20, z21, z22, z23, 0, x27) ⟨FRM.rf, by decide, by decide, by decide⟩
       · intro g1 g2 g3 g4 g5 g6 g7 g8 g9 g10 g11 g12 g13 g14 g15 g16 g17 g18 g19 g20 g21 hg
         dsimp only
         repeat' first | (with_reducible apply sl21; intro _ _ _ _ _ _ _ _ _ _ _ _ _ _ _ _ _ _ _ _ _ _; try dsimp only) | (with_reducible apply sl14; intro _ _ _ _ _ _ _ _ _ _ _ _ _ _ _; try dsimp only) | (with_reducible apply sl13; intro _ _ _ _ _ _ _ _ _ _ _ _ _ _; try dsimp only) | (with_reducible apply sl9; intro _ _ _ _ _ _ _ _ _ _; try dsimp only) | (with_reducible apply sl7; intro _ _ _ _ _ _ _ _; try dsimp only) | (with_reducible apply sl6; intro _ _ _ _ _ _ _; try dsimp only) | (with_reducible apply sl5; intro _ _ _ _ _ _; try dsimp only) | (with_reducible apply sl4; intro _ _ _ _ _; try dsimp only) | (with_reducible apply sl3; intro _ _ _ _; try dsimp only) | (with_reducible apply sl2; intro _ _ _; try dsimp only) | (with_reducible apply sl1; rintro _ rfl; try dsimp only) | (with_reducible apply it1 <;> intro _)
         all_goals exact ⟨hg, rfl, rfl, rfl, rfl⟩)
  · intro hx
    first
    | exact absurd rfl hx
    | (apply sl4; intro z20 z21 z22 z23 _; dsimp only
       apply sq21 (OQ 1 f1 r10 r11 f2 f3 r4 r5 r6 r7 f8 r9)
       · exact itrv_stp (d := default) (laF_1 (len := n) (f := f) f1 r10 r11 f2 f3 r4 r5 r6 r7 f8 r9) (f1, r10, r11, f2, f3, r4, r5, r6, r7, f8, r9, 0, 0, 0, 0, z20, z21, z22, z23, 0, x27) ⟨FRM.rf, by decide, by decide, by decide⟩
       · intro g1 g2 g3 g4 g5 g6 g7 g8 g9 g10 g11 g12 g13 g14 g15 g16 g17 g18 g19 g20 g21 hg
         dsimp only
         repeat' first | (with_reducible apply sl21; intro _ _ _ _ _ _ _ _ _ _ _ _ _ _ _ _ _ _ _ _ _ _; try dsimp only) | (with_reducible apply sl14; intro _ _ _ _ _ _ _ _ _ _ _ _ _ _ _; try dsimp only) | (with_reducible apply sl13; intro _ _ _ _ _ _ _ _ _ _ _ _ _ _; try dsimp only) | (with_reducible apply sl9; intro _ _ _ _ _ _ _ _ _ _; try dsimp only) | (with_reducible apply sl7; intro _ _ _ _ _ _ _ _; try dsimp only) | (with_reducible apply sl6; intro _ _ _ _ _ _ _; try dsimp only) | (with_reducible apply sl5; intro _ _ _ _ _ _; try dsimp only) | (with_reducible apply sl4; intro _ _ _ _ _; try dsimp only) | (with_reducible apply sl3; intro _ _ _ _; try dsimp only) | (with_reducible apply sl2; intro _ _ _; try dsimp only) | (with_reducible apply sl1; rintro _ rfl; try dsimp only) | (with_reducible apply it1 <;> intro _)
         all_goals exact ⟨hg, rfl, rfl, rfl, rfl⟩)
/-- the class's automaton and bank b of the reference are the same -/
def MB (b : Nat) (nc np ne : Nat) (st0 : Int32) (f4 : Nat → Int32) (q5 q6 : Nat → Nat) (f7 : Nat → Int32) (q8 q9 : Nat → Nat) (f10 f11 : Nat → Int32) (f3 : Nat → Int32) (r4 r5 r6 r7 : Nat → Nat) (f8 : Nat → Int32) (r9 r10 : Nat → Nat) (r11 : Nat → Int32) (m12 m13 m14 m15 : Nat) : Prop :=
  (m12 = nc ∧ nc ≤ 3 ∧ m13 = np ∧ np ≤ 8 ∧ m14 = ne ∧ ne ≤ 14) ∧ (np = 0 ∨ m15 = 0 ∨ ∃ s, s < np ∧ st0 = nI s ∧ m15 = s + 1) ∧
  (∀ i, i < np → f4 i = f3 (8 * b + i)) ∧ (∀ i, np ≤ i → i < 8 → f4 i = 0 ∧ q8 (14 + i) = 0) ∧ (∀ i, ne ≤ i → i < 14 → q8 i = 0) ∧
  (∀ i, i < np → q8 (14 + i) = r4 (8 * b + i) ∧ q8 (14 + i) ≤ 3 ∧ CI ((14 + i) * 4) (80 * b + 56 + 3 * i) (q8 (14 + i)) q9 f10 f11 r9 r10 r11) ∧
  (∀ i, i < ne → q8 i = r7 (14 * b + i) ∧ q8 i ≤ 4 ∧ CI (i * 4) (80 * b + 4 * i) (q8 i) q9 f10 f11 r9 r10 r11) ∧
  (∀ i, i < ne → q5 i = r5 (14 * b + i) ∧ q5 i < np ∧ q6 i = r6 (14 * b + i) ∧ q6 i < np ∧ f7 i = f8 (14 * b + i))
theorem mb_of_0 {nc np ne : Nat} {st0 st1 : Int32} {f4 : Nat → Int32} {q5 q6 : Nat → Nat} {f7 : Nat → Int32} {q8 q9 : Nat → Nat} {f10 f11 : Nat → Int32} {fcn fpn f1 f2 : Nat → Int32} {f3 : Nat → Int32} {r4 r5 r6 r7 : Nat → Nat} {f8 : Nat → Int32} {r9 r10 : Nat → Nat} {r11 : Nat → Int32} {m12 m13 m14 m15 : Nat} (h : MR_0 nc np ne st0 fcn fpn f4 q5 q6 f7 q8 q9 f10 f11 f1 f2 f3 r4 r5 r6 r7 f8 r9 r10 r11 m12 m13 m14 m15) (hs : ∀ s, s < np → st0 = nI s → st1 = nI s) : MB 0 nc np ne st1 f4 q5 q6 f7 q8 q9 f10 f11 f3 r4 r5 r6 r7 f8 r9 r10 r11 m12 m13 m14 m15 := by
  obtain ⟨h1, h2, -, -, h5, h6, h7, h8, h9, h10⟩ := h
  refine ⟨h1, ?_, fun i hi => h5 i hi, h6, h7, fun i hi => h8 i hi, fun i hi => h9 i hi, fun i hi => h10 i hi⟩
  rcases h2 with ⟨-, e⟩ | ⟨s, e1, e2, e3⟩
  · exact Or.inr (Or.inl e)
  · exact Or.inr (Or.inr ⟨s, e1, hs s e1 e2, e3⟩)
theorem mb_of_1 {nc np ne : Nat} {st0 st1 : Int32} {f4 : Nat → Int32} {q5 q6 : Nat → Nat} {f7 : Nat → Int32} {q8 q9 : Nat → Nat} {f10 f11 : Nat → Int32} {fcn fpn f1 f2 : Nat → Int32} {f3 : Nat → Int32} {r4 r5 r6 r7 : Nat → Nat} {f8 : Nat → Int32} {r9 r10 : Nat → Nat} {r11 : Nat → Int32} {m12 m13 m14 m15 : Nat} (h : MR_1 nc np ne st0 fcn fpn f4 q5 q6 f7 q8 q9 f10 f11 f1 f2 f3 r4 r5 r6 r7 f8 r9 r10 r11 m12 m13 m14 m15) (hs : ∀ s, s < np → st0 = nI s → st1 = nI s) : MB 1 nc np ne st1 f4 q5 q6 f7 q8 q9 f10 f11 f3 r4 r5 r6 r7 f8 r9 r10 r11 m12 m13 m14 m15 := by
  obtain ⟨h1, h2, -, -, h5, h6, h7, h8, h9, h10⟩ := h
  refine ⟨h1, ?_, fun i hi => h5 i hi, h6, h7, fun i hi => h8 i hi, fun i hi => h9 i hi, fun i hi => h10 i hi⟩
  rcases h2 with ⟨-, e⟩ | ⟨s, e1, e2, e3⟩
  · exact Or.inr (Or.inl e)
  · exact Or.inr (Or.inr ⟨s, e1, hs s e1 e2, e3⟩)
theorem CI.fr {b b' cnt : Nat} {q9 : Nat → Nat} {f10 f11 : Nat → Int32} {r9 r10 : Nat → Nat} {r11 : Nat → Int32} {s9 s10 : Nat → Nat} {s11 : Nat → Int32} (h : CI b b' cnt q9 f10 f11 r9 r10 r11) (h9 : ∀ j, j < cnt → s9 (b' + j) = r9 (b' + j)) (h10 : ∀ j, j < cnt → s10 (b' + j) = r10 (b' + j)) (h11 : ∀ j, j < cnt → s11 (b' + j) = r11 (b' + j)) : CI b b' cnt q9 f10 f11 s9 s10 s11 := by
  intro j hj
  rw [h9 j hj, h10 j hj, h11 j hj]
  exact h j hj
/-- reading into the other bank leaves it so -/
theorem MB.fr {b : Nat} (hb : b ≤ 1) {nc np ne : Nat} {st0 st1 : Int32} {f4 : Nat → Int32} {q5 q6 : Nat → Nat} {f7 : Nat → Int32} {q8 q9 : Nat → Nat} {f10 f11 : Nat → Int32} {f3 : Nat → Int32} {r4 r5 r6 r7 : Nat → Nat} {f8 : Nat → Int32} {r9 r10 : Nat → Nat} {r11 : Nat → Int32} {m12 m13 m14 m15 : Nat} {g1 g2 g3 : Nat → Int32} {s4 s5 s6 s7 : Nat → Nat} {g8 : Nat → Int32} {s9 s10 : Nat → Nat} {s11 f1 f2 : Nat → Int32} (h : MB b nc np ne st0 f4 q5 q6 f7 q8 q9 f10 f11 f3 r4 r5 r6 r7 f8 r9 r10 r11 m12 m13 m14 m15) (hF : FRM (1 - b) g1 s10 s11 g2 g3 s4 s5 s6 s7 g8 s9 f1 r10 r11 f2 f3 r4 r5 r6 r7 f8 r9) : MB b nc np ne st0 f4 q5 q6 f7 q8 q9 f10 f11 g3 s4 s5 s6 s7 g8 s9 s10 s11 m12 m13 m14 m15 := by
  obtain ⟨h1, h2, h5, h6, h7, h8, h9, h10⟩ := h
  obtain ⟨-, e10, e11, -, e3, e4, e5, e6, e7, e8, e9⟩ := hF
  have hnp : np ≤ 8 := h1.2.2.2.1
  have hne : ne ≤ 14 := h1.2.2.2.2.2
  have b3 : ∀ i, i < np → g3 (8 * b + i) = f3 (8 * b + i) := fun i hi => e3 _ (by omega)
  have b4 : ∀ i, i < np → s4 (8 * b + i) = r4 (8 * b + i) := fun i hi => e4 _ (by omega)
  have b5 : ∀ i, i < ne → s5 (14 * b + i) = r5 (14 * b + i) := fun i hi => e5 _ (by omega)
  have b6 : ∀ i, i < ne → s6 (14 * b + i) = r6 (14 * b + i) := fun i hi => e6 _ (by omega)
  have b7 : ∀ i, i < ne → s7 (14 * b + i) = r7 (14 * b + i) := fun i hi => e7 _ (by omega)
  have b8 : ∀ i, i < ne → g8 (14 * b + i) = f8 (14 * b + i) := fun i hi => e8 _ (by omega)
  have b9 : ∀ k, 80 * b ≤ k → k < 80 * b + 80 → s9 k = r9 k := fun k k1 k2 => e9 _ (by omega)
  have b10 : ∀ k, 80 * b ≤ k → k < 80 * b + 80 → s10 k = r10 k := fun k k1 k2 => e10 _ (by omega)
  have b11 : ∀ k, 80 * b ≤ k → k < 80 * b + 80 → s11 k = r11 k := fun k k1 k2 => e11 _ (by omega)
  refine ⟨h1, h2, fun i hi => (h5 i hi).trans (b3 i hi).symm, h6, h7, fun i hi => ?_, fun i hi => ?_, fun i hi => ?_⟩
  · obtain ⟨c1, c2, c3⟩ := h8 i hi
    exact ⟨c1.trans (b4 i hi).symm, c2, c3.fr (fun j hj => b9 _ (by omega) (by omega)) (fun j hj => b10 _ (by omega) (by omega)) (fun j hj => b11 _ (by omega) (by omega))⟩
  · obtain ⟨c1, c2, c3⟩ := h9 i hi
    exact ⟨c1.trans (b7 i hi).symm, c2, c3.fr (fun j hj => b9 _ (by omega) (by omega)) (fun j hj => b10 _ (by omega) (by omega)) (fun j hj => b11 _ (by omega) (by omega))⟩
  · obtain ⟨c1, c2, c3, c4, c5⟩ := h10 i hi
    exact ⟨c1.trans (b5 i hi).symm, c2, c3.trans (b6 i hi).symm, c4, c5.trans (b8 i hi).symm⟩
/-- of the edges alone -/
def EB (b ne : Nat) (q5 q6 : Nat → Nat) (f7 : Nat → Int32) (q8 r5 r6 r7 : Nat → Nat) (f8 : Nat → Int32) (m14 : Nat) : Prop := m14 = ne ∧ ne ≤ 14 ∧ ∀ i, i < ne → q5 i = r5 (14 * b + i) ∧ q6 i = r6 (14 * b + i) ∧ q8 i = r7 (14 * b + i) ∧ f7 i = f8 (14 * b + i)
theorem MB.eb {b : Nat} {nc np ne : Nat} {st0 st1 : Int32} {f4 : Nat → Int32} {q5 q6 : Nat → Nat} {f7 : Nat → Int32} {q8 q9 : Nat → Nat} {f10 f11 : Nat → Int32} {f3 : Nat → Int32} {r4 r5 r6 r7 : Nat → Nat} {f8 : Nat → Int32} {r9 r10 : Nat → Nat} {r11 : Nat → Int32} {m12 m13 m14 m15 : Nat} (h : MB b nc np ne st0 f4 q5 q6 f7 q8 q9 f10 f11 f3 r4 r5 r6 r7 f8 r9 r10 r11 m12 m13 m14 m15) : EB b ne q5 q6 f7 q8 r5 r6 r7 f8 m14 := by
  obtain ⟨⟨-, -, -, -, e, hne⟩, -, -, -, -, -, h9, h10⟩ := h
  exact ⟨e, hne, fun i hi => ⟨(h10 i hi).1, (h10 i hi).2.2.1, (h9 i hi).1, (h10 i hi).2.2.2.2⟩⟩
theorem EB.fr {b ne : Nat} (hb : b ≤ 1) {q5 q6 : Nat → Nat} {f7 : Nat → Int32} {q8 r5 r6 r7 : Nat → Nat} {f8 : Nat → Int32} {m14 : Nat} {g1 g2 g3 : Nat → Int32} {s4 s5 s6 s7 : Nat → Nat} {g8 : Nat → Int32} {s9 s10 : Nat → Nat} {s11 f1 f2 f3 : Nat → Int32} {r4 r9 r10 : Nat → Nat} {r11 : Nat → Int32} (h : EB b ne q5 q6 f7 q8 r5 r6 r7 f8 m14) (hF : FRM (1 - b) g1 s10 s11 g2 g3 s4 s5 s6 s7 g8 s9 f1 r10 r11 f2 f3 r4 r5 r6 r7 f8 r9) : EB b ne q5 q6 f7 q8 s5 s6 s7 g8 m14 := by
  obtain ⟨e, hne, h⟩ := h
  obtain ⟨-, -, -, -, -, -, e5, e6, e7, e8, -⟩ := hF
  refine ⟨e, hne, fun i hi => ?_⟩
  rw [e5 _ (by omega), e6 _ (by omega), e7 _ (by omega), e8 _ (by omega)]
  exact h i hi
theorem au_mb0 {f : Nat → Int32} (hf : ∀ i, f i ≠ -1) {n : Nat} (hn : n ≤ 900) {r r' : Int32} {hs : Nat} {ss : Nat} {vl : Int32} {fcn : Nat → Int32} {fpn : Nat → Int32} {df4 : Nat → Int32} {q5 : Nat → Nat} {q6 : Nat → Nat} {df7 : Nat → Int32} {q8 : Nat → Nat} {q9 : Nat → Nat} {df10 : Nat → Int32} {df11 : Nat → Int32} {df12 : Nat → Int32} {df13 : Nat → Int32} {df14 : Nat → Int32} {df15 : Nat → Int32} {df16 : Nat → Int32} {hk : Nat} {on : Nat} {z4 : Nat → Int32} {z5 : Nat → Nat} {z6 : Nat → Nat} {z7 : Nat → Int32} {z8 : Nat → Nat} {z9 : Nat → Nat} {z10 : Nat → Int32} {z11 : Nat → Int32} {z12 : Nat → Int32} {z13 : Nat → Int32} {z14 : Nat → Int32} {z15 : Nat → Int32} {z16 : Nat → Int32} {zcn : Nat → Int32} {zpn : Nat → Int32} {zss : Nat} {zhs : Nat} {zfa : Int32} {zfat : Int32} {zlen : Nat} {zpos : Nat} {zkd : Nat} {zvl : Int32} {ztka : Int32} {znc : Nat} {znp : Nat} {zne : Nat} {zst0 : Int32} {zhk : Nat} {zon : Nat} {x27 : Int32} {x29 : Nat} {x30 : Nat} {x33 : Nat} {f1 : Nat → Int32} {f2 : Nat → Int32} {f3 : Nat → Int32} {r4 : Nat → Nat} {r5 : Nat → Nat} {r6 : Nat → Nat} {r7 : Nat → Nat} {f8 : Nat → Int32} {r9 : Nat → Nat} {r10 : Nat → Nat} {f11 : Nat → Int32} {m12_0 : Nat} {m12_1 : Nat} {m13_0 : Nat} {m13_1 : Nat} {m14_0 : Nat} {m14_1 : Nat} {m15_0 : Nat} {m15_1 : Nat} {w1 : Nat → Int32} {w10 : Nat → Nat} {w11 : Nat → Int32} {w2 : Nat → Int32} {w3 : Nat → Int32} {w4 : Nat → Nat} {w5 : Nat → Nat} {w6 : Nat → Nat} {w7 : Nat → Nat} {w8 : Nat → Int32} {w9 : Nat → Nat} {w12_0 : Nat} {w12_1 : Nat} {w13_0 : Nat} {w13_1 : Nat} {w14_0 : Nat} {w14_1 : Nat} {w15_0 : Nat} {w15_1 : Nat} {w0 : Int32} {w16 : Nat} {w19 : Nat} {w20 : Int32} {w21 : Nat} {w22 : Nat} {w23 : Int32} {w24 : Int32} {w25 : Int32} {w26 : Nat} {w27 : Int32} {w28 : Nat} {w29 : Nat} {w30 : Nat} {w33 : Nat} (hX : (r, z4, z5, z6, z7, z8, z9, z10, z11, z12, z13, z14, z15, z16, zcn, zpn, zss, zhs, zfa, zfat, zlen, zpos, zkd, zvl, ztka, znc, znp, zne, zst0, zhk, zon) = sp_E_8_automaton n hs ss vl f fwC fcn fpn df4 q5 q6 df7 q8 q9 df10 df11 df12 df13 df14 df15 df16 hk on) (hM : (r', w1, w10, w11, w2, w3, w4, w5, w6, w7, w8, w9, w12_0, w12_1, w13_0, w13_1, w14_0, w14_1, w15_0, w15_1, w0, w16, w19, w20, w21, w22, w23, w24, w25, w26, w27, w28, w29, w30, w33) = sp_EM_automaton 0 n x27 x29 x30 x33 f1 f2 f3 r4 r5 r6 r7 f8 r9 r10 f11 m12_0 m12_1 m13_0 m13_1 m14_0 m14_1 m15_0 m15_1 f) : (r = -1 ∧ w16 = 0 ∧ FRM (1 - 0) w1 w10 w11 w2 w3 w4 w5 w6 w7 w8 w9 f1 r10 f11 f2 f3 r4 r5 r6 r7 f8 r9 ∧ bkN 0 w12_0 w12_1 = bkN 0 m12_0 m12_1 ∧ bkN 0 w13_0 w13_1 = bkN 0 m13_0 m13_1 ∧ bkN 0 w14_0 w14_1 = bkN 0 m14_0 m14_1 ∧ bkN 0 w15_0 w15_1 = bkN 0 m15_0 m15_1) ∨ (r ≠ -1 ∧ w16 = 1 - 0 ∧ MB (1 - 0) znc znp zne zst0 z4 z5 z6 z7 z8 z9 z10 z11 w3 w4 w5 w6 w7 w8 w9 w10 w11 (bkN (1 - 0) w12_0 w12_1) (bkN (1 - 0) w13_0 w13_1) (bkN (1 - 0) w14_0 w14_1) (bkN (1 - 0) w15_0 w15_1)) := by
  obtain ⟨u, y8, y9, y10, y11, y12, y13, y14, y15, y16, ycn, ypn, y4, y5, y6, y7, fa, fat, ln, p, k, v, a, nc, np, ne, st0, hE1, r2, g1, s10, s11, g2, g3, s4, s5, s6, s7, g8, s9, c0, c1, p0, p1, ee0, ee1, b0, b1, th, bk, sz, at_, be, tok, va, fkd, fpl, w, wa, rb, y29, y30, y33, hE2, hh⟩ := ra_1 fwC_ok hf hn vl x27 x29 x30 x33 fcn fpn df4 q5 q6 df7 q8 q9 df10 df11 df12 df13 df14 df15 df16 f1 f2 f3 r4 r5 r6 r7 f8 r9 r10 f11 m12_0 m12_1 m13_0 m13_1 m14_0 m14_1 m15_0 m15_1
  have hE1 := (reads_c vl f fwC fcn fpn df4 q5 q6 df7 q8 q9 df10 df11 df12 df13 df14 df15 df16 n).trans hE1
  have hF := amF_1 (n := n) (x29 := x29) (x30 := x30) (x33 := x33) (m12_0 := m12_0) (m12_1 := m12_1) (m13_0 := m13_0) (m13_1 := m13_1) (m14_0 := m14_0) (m14_1 := m14_1) (m15_0 := m15_0) (m15_1 := m15_1) (x27 := x27) (f1 := f1) (f2 := f2) (f3 := f3) (r4 := r4) (r5 := r5) (r6 := r6) (r7 := r7) (f8 := f8) (r9 := r9) (r10 := r10) (r11 := f11) (f := f)
  rw [hE2] at hM hF
  simp only [Prod.mk.injEq] at hM
  obtain ⟨rfl, rfl, rfl, rfl, rfl, rfl, rfl, rfl, rfl, rfl, rfl, rfl, rfl, rfl, rfl, rfl, rfl, rfl, rfl, rfl, rfl, rfl, rfl, rfl, rfl, rfl, rfl, rfl, rfl, rfl, rfl, rfl, rfl, rfl, rfl⟩ := hM
  obtain ⟨hF1, hF2, hF3, hF4, hF5⟩ := hF
  simp only [sp_E_8_automaton, slet, hE1] at hX
  rcases hh with ⟨hu, -, -, -, hb⟩ | ⟨hu, -, -, -, hb, h8, hMR⟩
  · subst hu
    rw [if_pos rfl] at hX
    simp only [Prod.mk.injEq] at hX
    exact Or.inl ⟨hX.1, hb, hF1, hF2, hF3, hF4, hF5⟩
  · subst hu
    rw [if_neg (by decide)] at hX
    simp only [Prod.mk.injEq] at hX
    obtain ⟨hr, rfl, rfl, rfl, rfl, rfl, rfl, rfl, rfl, rfl, rfl, rfl, rfl, rfl, rfl, rfl, rfl, rfl, rfl, rfl, rfl, rfl, rfl, rfl, rfl, rfl, rfl, rfl, rfl, rfl, rfl⟩ := hX
    exact Or.inr ⟨by rw [hr]; exact pu_nneg (by omega) (by decide), hb, mb_of_1 hMR (fun s hs e => by rw [e, ← nI_cl (by omega)])⟩
theorem au_mb1 {f : Nat → Int32} (hf : ∀ i, f i ≠ -1) {n : Nat} (hn : n ≤ 900) {r r' : Int32} {hs : Nat} {ss : Nat} {vl : Int32} {fcn : Nat → Int32} {fpn : Nat → Int32} {df4 : Nat → Int32} {q5 : Nat → Nat} {q6 : Nat → Nat} {df7 : Nat → Int32} {q8 : Nat → Nat} {q9 : Nat → Nat} {df10 : Nat → Int32} {df11 : Nat → Int32} {df12 : Nat → Int32} {df13 : Nat → Int32} {df14 : Nat → Int32} {df15 : Nat → Int32} {df16 : Nat → Int32} {hk : Nat} {on : Nat} {z4 : Nat → Int32} {z5 : Nat → Nat} {z6 : Nat → Nat} {z7 : Nat → Int32} {z8 : Nat → Nat} {z9 : Nat → Nat} {z10 : Nat → Int32} {z11 : Nat → Int32} {z12 : Nat → Int32} {z13 : Nat → Int32} {z14 : Nat → Int32} {z15 : Nat → Int32} {z16 : Nat → Int32} {zcn : Nat → Int32} {zpn : Nat → Int32} {zss : Nat} {zhs : Nat} {zfa : Int32} {zfat : Int32} {zlen : Nat} {zpos : Nat} {zkd : Nat} {zvl : Int32} {ztka : Int32} {znc : Nat} {znp : Nat} {zne : Nat} {zst0 : Int32} {zhk : Nat} {zon : Nat} {x27 : Int32} {x29 : Nat} {x30 : Nat} {x33 : Nat} {f1 : Nat → Int32} {f2 : Nat → Int32} {f3 : Nat → Int32} {r4 : Nat → Nat} {r5 : Nat → Nat} {r6 : Nat → Nat} {r7 : Nat → Nat} {f8 : Nat → Int32} {r9 : Nat → Nat} {r10 : Nat → Nat} {f11 : Nat → Int32} {m12_0 : Nat} {m12_1 : Nat} {m13_0 : Nat} {m13_1 : Nat} {m14_0 : Nat} {m14_1 : Nat} {m15_0 : Nat} {m15_1 : Nat} {w1 : Nat → Int32} {w10 : Nat → Nat} {w11 : Nat → Int32} {w2 : Nat → Int32} {w3 : Nat → Int32} {w4 : Nat → Nat} {w5 : Nat → Nat} {w6 : Nat → Nat} {w7 : Nat → Nat} {w8 : Nat → Int32} {w9 : Nat → Nat} {w12_0 : Nat} {w12_1 : Nat} {w13_0 : Nat} {w13_1 : Nat} {w14_0 : Nat} {w14_1 : Nat} {w15_0 : Nat} {w15_1 : Nat} {w0 : Int32} {w16 : Nat} {w19 : Nat} {w20 : Int32} {w21 : Nat} {w22 : Nat} {w23 : Int32} {w24 : Int32} {w25 : Int32} {w26 : Nat} {w27 : Int32} {w28 : Nat} {w29 : Nat} {w30 : Nat} {w33 : Nat} (hX : (r, z4, z5, z6, z7, z8, z9, z10, z11, z12, z13, z14, z15, z16, zcn, zpn, zss, zhs, zfa, zfat, zlen, zpos, zkd, zvl, ztka, znc, znp, zne, zst0, zhk, zon) = sp_E_8_automaton n hs ss vl f fwC fcn fpn df4 q5 q6 df7 q8 q9 df10 df11 df12 df13 df14 df15 df16 hk on) (hM : (r', w1, w10, w11, w2, w3, w4, w5, w6, w7, w8, w9, w12_0, w12_1, w13_0, w13_1, w14_0, w14_1, w15_0, w15_1, w0, w16, w19, w20, w21, w22, w23, w24, w25, w26, w27, w28, w29, w30, w33) = sp_EM_automaton 1 n x27 x29 x30 x33 f1 f2 f3 r4 r5 r6 r7 f8 r9 r10 f11 m12_0 m12_1 m13_0 m13_1 m14_0 m14_1 m15_0 m15_1 f) : (r = -1 ∧ w16 = 1 ∧ FRM (1 - 1) w1 w10 w11 w2 w3 w4 w5 w6 w7 w8 w9 f1 r10 f11 f2 f3 r4 r5 r6 r7 f8 r9 ∧ bkN 1 w12_0 w12_1 = bkN 1 m12_0 m12_1 ∧ bkN 1 w13_0 w13_1 = bkN 1 m13_0 m13_1 ∧ bkN 1 w14_0 w14_1 = bkN 1 m14_0 m14_1 ∧ bkN 1 w15_0 w15_1 = bkN 1 m15_0 m15_1) ∨ (r ≠ -1 ∧ w16 = 1 - 1 ∧ MB (1 - 1) znc znp zne zst0 z4 z5 z6 z7 z8 z9 z10 z11 w3 w4 w5 w6 w7 w8 w9 w10 w11 (bkN (1 - 1) w12_0 w12_1) (bkN (1 - 1) w13_0 w13_1) (bkN (1 - 1) w14_0 w14_1) (bkN (1 - 1) w15_0 w15_1)) := by
  obtain ⟨u, y8, y9, y10, y11, y12, y13, y14, y15, y16, ycn, ypn, y4, y5, y6, y7, fa, fat, ln, p, k, v, a, nc, np, ne, st0, hE1, r2, g1, s10, s11, g2, g3, s4, s5, s6, s7, g8, s9, c0, c1, p0, p1, ee0, ee1, b0, b1, th, bk, sz, at_, be, tok, va, fkd, fpl, w, wa, rb, y29, y30, y33, hE2, hh⟩ := ra_0 fwC_ok hf hn vl x27 x29 x30 x33 fcn fpn df4 q5 q6 df7 q8 q9 df10 df11 df12 df13 df14 df15 df16 f1 f2 f3 r4 r5 r6 r7 f8 r9 r10 f11 m12_0 m12_1 m13_0 m13_1 m14_0 m14_1 m15_0 m15_1
  have hE1 := (reads_c vl f fwC fcn fpn df4 q5 q6 df7 q8 q9 df10 df11 df12 df13 df14 df15 df16 n).trans hE1
  have hF := amF_0 (n := n) (x29 := x29) (x30 := x30) (x33 := x33) (m12_0 := m12_0) (m12_1 := m12_1) (m13_0 := m13_0) (m13_1 := m13_1) (m14_0 := m14_0) (m14_1 := m14_1) (m15_0 := m15_0) (m15_1 := m15_1) (x27 := x27) (f1 := f1) (f2 := f2) (f3 := f3) (r4 := r4) (r5 := r5) (r6 := r6) (r7 := r7) (f8 := f8) (r9 := r9) (r10 := r10) (r11 := f11) (f := f)
  rw [hE2] at hM hF
  simp only [Prod.mk.injEq] at hM
  obtain ⟨rfl, rfl, rfl, rfl, rfl, rfl, rfl, rfl, rfl, rfl, rfl, rfl, rfl, rfl, rfl, rfl, rfl, rfl, rfl, rfl, rfl, rfl, rfl, rfl, rfl, rfl, rfl, rfl, rfl, rfl, rfl, rfl, rfl, rfl, rfl⟩ := hM
  obtain ⟨hF1, hF2, hF3, hF4, hF5⟩ := hF
  simp only [sp_E_8_automaton, slet, hE1] at hX
  rcases hh with ⟨hu, -, -, -, hb⟩ | ⟨hu, -, -, -, hb, h8, hMR⟩
  · subst hu
    rw [if_pos rfl] at hX
    simp only [Prod.mk.injEq] at hX
    exact Or.inl ⟨hX.1, hb, hF1, hF2, hF3, hF4, hF5⟩
  · subst hu
    rw [if_neg (by decide)] at hX
    simp only [Prod.mk.injEq] at hX
    obtain ⟨hr, rfl, rfl, rfl, rfl, rfl, rfl, rfl, rfl, rfl, rfl, rfl, rfl, rfl, rfl, rfl, rfl, rfl, rfl, rfl, rfl, rfl, rfl, rfl, rfl, rfl, rfl, rfl, rfl, rfl, rfl⟩ := hX
    exact Or.inr ⟨by rw [hr]; exact pu_nneg (by omega) (by decide), hb, mb_of_0 hMR (fun s hs e => by rw [e, ← nI_cl (by omega)])⟩
/-- an edge told: the same of both -/
theorem edge_same {b ne m13_0 m13_1 m14_0 m14_1 : Nat} {q5 q6 : Nat → Nat} {f7 : Nat → Int32} {q8 r5 r6 r7 : Nat → Nat} {f8 : Nat → Int32} (h : EB b ne q5 q6 f7 q8 r5 r6 r7 f8 (bkN b m14_0 m14_1)) (p0 p1 : Int32) : (sp_EM_edge b r5 r6 r7 f8 m13_0 m13_1 m14_0 m14_1 p0 p1).1 = sp_E_8_edge ne q5 q6 f7 q8 p0 p1 := by
  obtain ⟨e, hne, h10⟩ := h
  unfold sp_EM_edge sp_E_8_edge
  rw [e]
  by_cases hp : (0 : Int32) ≤ p0 ∧ p0 < nI ne
  · rw [if_pos hp, if_pos hp]
    obtain ⟨k, hk, rfl⟩ := pu_ult (x := p0) (b := ne) (by omega) (Int32.not_lt.mpr hp.1) hp.2
    have hn : (nI k : Int32).toNatClampNeg = k := (nI_cl (by omega)).symm
    simp only [slet, hn]
    obtain ⟨c1, c3, d1, c5⟩ := h10 k hk
    by_cases hq : (0 : Int32) ≤ p1 ∧ p1 ≤ 3
    · rw [if_pos hq]
      obtain ⟨j, hj, rfl⟩ := pu_ule (x := p1) (b := 3) (by decide) (Int32.not_lt.mpr hq.1) hq.2
      rcases (show j = 0 ∨ j = 1 ∨ j = 2 ∨ j = 3 by omega) with rfl | rfl | rfl | rfl
      · rw [if_pos (show (nI 0 : Int32).toNatClampNeg = 0 by decide), if_pos (show (nI 0 : Int32) = 0 by decide)]
        show nI (min (r5 (14 * b + k)) 7) = nI (min (q5 k) 7)
        rw [c1]
      · rw [if_neg (show ¬ (nI 1 : Int32).toNatClampNeg = 0 by decide), if_pos (show (nI 1 : Int32).toNatClampNeg = 1 by decide), if_neg (show ¬ (nI 1 : Int32) = 0 by decide), if_pos (show (nI 1 : Int32) = 1 by decide)]
        show nI (min (r6 (14 * b + k)) 7) = nI (min (q6 k) 7)
        rw [c3]
      · rw [if_neg (show ¬ (nI 2 : Int32).toNatClampNeg = 0 by decide), if_neg (show ¬ (nI 2 : Int32).toNatClampNeg = 1 by decide), if_pos (show (nI 2 : Int32).toNatClampNeg = 2 by decide), if_neg (show ¬ (nI 2 : Int32) = 0 by decide), if_neg (show ¬ (nI 2 : Int32) = 1 by decide), if_pos (show (nI 2 : Int32) = 2 by decide)]
        have hm : sp_EM_manyOf_e b r7 m13_0 m13_1 m14_0 m14_1 k = min (r7 (14 * b + k)) 4 + 1 := by
          have e2 : (if b = 0 then m14_0 else m14_1) = ne := e
          have hi : sp_EM_isEdge_k b m14_0 m14_1 k = 1 := by
            unfold sp_EM_isEdge_k
            simp only [slet, e2]
            have hk1 : (nI k : Int32) ≤ nI ne - 1 := by
              have e3 : (nI ne : Int32) - 1 = nI (ne - 1) := pk_sub (a := ne) (b := 1) (by omega)
              rw [e3]
              exact (nI_leI (by omega) (by omega)).mpr (by omega)
            exact if_pos ⟨Int32.not_lt.mp (nI_pos (by omega)), hk1⟩
          simp only [sp_EM_manyOf_e, slet, hi, Nat.one_ne_zero, reduceIte]
        rw [hm, if_neg (Nat.succ_ne_zero _)]
        show nI (min (r7 (14 * b + k)) 4 + 1 - 1) = nI (min (q8 k) 4)
        rw [Nat.add_sub_cancel, d1]
      · rw [if_neg (show ¬ (nI 3 : Int32).toNatClampNeg = 0 by decide), if_neg (show ¬ (nI 3 : Int32).toNatClampNeg = 1 by decide), if_neg (show ¬ (nI 3 : Int32).toNatClampNeg = 2 by decide), if_neg (show ¬ (nI 3 : Int32) = 0 by decide), if_neg (show ¬ (nI 3 : Int32) = 1 by decide), if_neg (show ¬ (nI 3 : Int32) = 2 by decide), if_pos (show (nI 3 : Int32) = 3 by decide)]
        show f8 (14 * b + k) = f7 k
        exact c5.symm
    · rw [if_neg hq, if_neg (fun z => hq (by rw [z]; decide)), if_neg (fun z => hq (by rw [z]; decide)), if_neg (fun z => hq (by rw [z]; decide)), if_neg (fun z => hq (by rw [z]; decide))]
  · rw [if_neg hp, if_neg hp]
