theorem uZ_s {f : Nat → Nat → Int32} {k : Nat} {g : Nat → Int32} : updZ f k g k = g := if_pos rfl
theorem uZ_n {f : Nat → Nat → Int32} {k j : Nat} {g : Nat → Int32} (h : j ≠ k) : updZ f k g j = f j := if_neg h
/-- ranges of the s-th state's bounds -/
def UU (wy : Int32) (s : Nat) : Int := if wy = 0 then 41 * (s : Int) + 163 else 1400
def VV (wy : Int32) (s : Nat) : Int := if wy = 0 then 504 * (s : Int) + 456 else 4000
theorem uv_ok {n s : Nat} {wy : Int32} (hn5 : n ≤ 5) (hw : wy = 0 → n ≤ 4 ∧ s ≤ 120) : RNG n (VV wy s + 336) ∧ RNG n (VV wy s + 168) ∧ 41 ≤ VV wy s ∧ 0 ≤ UU wy s ∧ UU wy s + 82 ≤ 32000 := by
  unfold UU VV RNG
  by_cases c : wy = 0
  · obtain ⟨a, b⟩ := hw c
    simp only [if_pos c]
    refine ⟨⟨by omega, Or.inl ⟨a, by omega⟩⟩, ⟨by omega, Or.inl ⟨a, by omega⟩⟩, by omega, by omega, by omega⟩
  · simp only [if_neg c]
    refine ⟨⟨by omega, Or.inr ⟨hn5, by omega⟩⟩, ⟨by omega, Or.inr ⟨hn5, by omega⟩⟩, by omega, by omega, by omega⟩
theorem uv_up {s s' : Nat} {wy : Int32} (c : wy = 0) (h : s < s') : UU wy s + 41 ≤ UU wy s' ∧ VV wy s + 504 ≤ VV wy s' := by
  unfold UU VV
  simp only [if_pos c]
  omega
/-- the numbers beyond which bounds are forgotten -/
def FGH (n : Nat) (hh ll : Nat → Nat) (fhi flo f47 f48 : Nat → Int32) : Prop := hh 0 = 0 ∧ ∀ i, i < n → fhi i = nI (hh i) ∧ flo i = nI (ll i) ∧ f47 i = nI (hh i) ∧ f48 i = nI (ll i) ∧ hh i ≤ 20 ∧ ll i ≤ 60
def FUL (gfull : Nat) (x : Int32) (gc room : Nat) : Prop := (gfull = 0 ∧ x = 0) ∨ (gfull = 1 ∧ x = 1 ∧ gc = room)
def FRM0 (r38 : Nat → Nat) (r39 r40 r41 r34 : Nat → Int32) (R38 : Nat → Nat) (R39 R40 R41 R34 : Nat → Int32) : Prop := True
def FRM1 (r38 : Nat → Nat) (r39 r40 r41 r34 : Nat → Int32) (R38 : Nat → Nat) (R39 R40 R41 R34 : Nat → Int32) : Prop := (∀ x, x < 120 → R38 x = r38 x ∧ R39 x = r39 x ∧ R40 x = r40 x ∧ R41 x = r41 x) ∧ ∀ x, x < 3000 → R34 x = r34 x
theorem KNW.cg {l n a cnt : Nat} {q q' : Nat → Nat} {Z : Nat → Nat → Nat → Option Int} {D : Nat → Nat → Option Int} (h : KNW l n a cnt q Z D) (e : ∀ s, s < cnt → q s = q' s) : KNW l n a cnt q' Z D := by
  obtain ⟨s, h1, h2, h3⟩ := h
  exact ⟨s, h1, by rw [← e s h1]; exact h2, h3⟩
theorem nar1 : vp_nar .boolean 1 = (1 : Int32) := by rfl
theorem nar0 : vp_nar .boolean 0 = (0 : Int32) := by rfl
theorem fgW_16 {n s' : Nat} (hn5 : n ≤ 5) (hn : 0 < n) {hh ll : Nat → Nat} {fhi flo f47 f48 : Nat → Int32} (hF : FGH n hh ll fhi flo f47 f48) {wy : Int32} {U V : Int} (hs : wy = 0 → U ≤ UU wy s' ∧ V ≤ VV wy s') {D : Nat → Nat → Option Int} (hO : ZOK n U V D) {z y : Nat → Int32} (hz : ZC n z D) (hy : ZR n y D) : ∃ D', ZC n (if wy = 0 then z else sp_E_7_forget_16 fhi flo n z) D' ∧ ZR n (sp_EM_forgets n y f47 f48 wy) D' ∧ ZOK n (UU wy s') (VV wy s') D' := by
  obtain ⟨h0, hF⟩ := hF
  by_cases c : wy = 0
  · refine ⟨D, ?_, ?_, hO.wide (hs c).1 (hs c).2⟩
    · rw [if_pos c]; exact hz
    · unfold sp_EM_forgets
      rw [if_pos c]; exact hy
  · obtain ⟨o1, o2, o3⟩ := frg_ok hn5 hn (lo := ll) (fun i hi => (hF i hi).2.2.2.2) h0 hO
    refine ⟨fwK n (frg hh ll D) n, ?_, ?_, ?_⟩
    · rw [if_neg c]
      exact forget_16 hn5 hn (fun i hi => ⟨(hF i hi).1, (hF i hi).2.1, (hF i hi).2.2.2.2⟩) h0 hO hz
    · exact forgets_z hn5 hn (fun i hi => ⟨(hF i hi).2.2.1, (hF i hi).2.2.2.1, (hF i hi).2.2.2.2⟩) hO c hy
    · unfold UU VV
      rw [if_neg c, if_neg c]; exact o2
theorem record1_16 {gc gf a0 a1 a2 : Nat} {ggoal : Int32} {q1 : Nat → Nat} {s2 s3 s4 s5 : Nat → Int32} (h : a1 < gc) : ∃ s4' s5', sp_E_1_record1_16 gc ggoal gf q1 s2 s3 s4 s5 a0 a1 a2 = (updN q1 gc a0, upd s2 gc (nI a1), upd s3 gc (nI a2), s4', s5', if (nI a0 : Int32) = ggoal then 1 else gf) ∧ s4' gc = s4 a1 + 1 ∧ ∀ s, s ≠ gc → s4' s = s4 s := by
  refine ⟨upd (upd s4 gc 0) gc (s4 a1 + 1), upd (upd s5 gc 0) a1 (upd s5 gc 0 a1 + 1), ?_, upd_s, fun s hs => by rw [upd_n hs, upd_n hs]⟩
  have e : upd s4 gc 0 a1 = s4 a1 := upd_n (by omega)
  by_cases c : (nI a0 : Int32) = ggoal
  · simp only [sp_E_1_record1_16, slet, if_pos c, e]
  · simp only [sp_E_1_record1_16, slet, if_neg c, e]
theorem fgW_25 {n s' : Nat} (hn5 : n ≤ 5) (hn : 0 < n) {hh ll : Nat → Nat} {fhi flo f47 f48 : Nat → Int32} (hF : FGH n hh ll fhi flo f47 f48) {wy : Int32} {U V : Int} (hs : wy = 0 → U ≤ UU wy s' ∧ V ≤ VV wy s') {D : Nat → Nat → Option Int} (hO : ZOK n U V D) {z y : Nat → Int32} (hz : ZC n z D) (hy : ZR n y D) : ∃ D', ZC n (if wy = 0 then z else sp_E_7_forget_25 fhi flo n z) D' ∧ ZR n (sp_EM_forgets n y f47 f48 wy) D' ∧ ZOK n (UU wy s') (VV wy s') D' := by
  obtain ⟨h0, hF⟩ := hF
  by_cases c : wy = 0
  · refine ⟨D, ?_, ?_, hO.wide (hs c).1 (hs c).2⟩
    · rw [if_pos c]; exact hz
    · unfold sp_EM_forgets
      rw [if_pos c]; exact hy
  · obtain ⟨o1, o2, o3⟩ := frg_ok hn5 hn (lo := ll) (fun i hi => (hF i hi).2.2.2.2) h0 hO
    refine ⟨fwK n (frg hh ll D) n, ?_, ?_, ?_⟩
    · rw [if_neg c]
      exact forget_25 hn5 hn (fun i hi => ⟨(hF i hi).1, (hF i hi).2.1, (hF i hi).2.2.2.2⟩) h0 hO hz
    · exact forgets_z hn5 hn (fun i hi => ⟨(hF i hi).2.2.1, (hF i hi).2.2.2.1, (hF i hi).2.2.2.2⟩) hO c hy
    · unfold UU VV
      rw [if_neg c, if_neg c]; exact o2
theorem record1_25 {gc gf a0 a1 a2 : Nat} {ggoal : Int32} {q1 : Nat → Nat} {s2 s3 s4 s5 : Nat → Int32} (h : a1 < gc) : ∃ s4' s5', sp_E_1_record1_25 gc ggoal gf q1 s2 s3 s4 s5 a0 a1 a2 = (updN q1 gc a0, upd s2 gc (nI a1), upd s3 gc (nI a2), s4', s5', if (nI a0 : Int32) = ggoal then 1 else gf) ∧ s4' gc = s4 a1 + 1 ∧ ∀ s, s ≠ gc → s4' s = s4 s := by
  refine ⟨upd (upd s4 gc 0) gc (s4 a1 + 1), upd (upd s5 gc 0) a1 (upd s5 gc 0 a1 + 1), ?_, upd_s, fun s hs => by rw [upd_n hs, upd_n hs]⟩
  have e : upd s4 gc 0 a1 = s4 a1 := upd_n (by omega)
  by_cases c : (nI a0 : Int32) = ggoal
  · simp only [sp_E_1_record1_25, slet, if_pos c, e]
  · simp only [sp_E_1_record1_25, slet, if_neg c, e]
/-- states of a graph, in the class and in the reference -/
def GS0 (n : Nat) (wy : Int32) (cnt np : Nat) (Z : Nat → Nat → Nat → Option Int) (q1 : Nat → Nat) (s2 s3 s4 : Nat → Int32) (o : Nat) (qs : Nat → Nat) (fz : Nat → Nat → Int32) (r38 : Nat → Nat) (r39 r40 r41 r34 : Nat → Int32) : Prop := ∀ s, s < cnt → (q1 s = r38 s ∧ q1 s < np ∧ s2 s = r39 s ∧ s3 s = r40 s ∧ s4 s = r41 s) ∧ qs (o + s) = n ∧ ZOK n (UU wy s) (VV wy s) (Z s) ∧ ZC n (fz (o + s)) (Z s) ∧ ZR n (fun x => r34 (25 * s + x)) (Z s)
/-- states of a graph, in the class and in the reference -/
def GS1 (n : Nat) (wy : Int32) (cnt np : Nat) (Z : Nat → Nat → Nat → Option Int) (q1 : Nat → Nat) (s2 s3 s4 : Nat → Int32) (o : Nat) (qs : Nat → Nat) (fz : Nat → Nat → Int32) (r38 : Nat → Nat) (r39 r40 r41 r34 : Nat → Int32) : Prop := ∀ s, s < cnt → (q1 s = r38 (120 + s) ∧ q1 s < np ∧ s2 s = r39 (120 + s) ∧ s3 s = r40 (120 + s) ∧ s4 s = r41 (120 + s)) ∧ qs (o + s) = n ∧ ZOK n (UU wy s) (VV wy s) (Z s) ∧ ZC n (fz (o + s)) (Z s) ∧ ZR n (fun x => r34 (25 * (120 + s) + x)) (Z s)
theorem comesL_0_120 {n l a1 a2 a3 cnt : Nat} {r34 z : Nat → Int32} {r38 : Nat → Nat} {r39 r40 r41 f44 : Nat → Int32} {Z : Nat → Nat → Nat → Option Int} {Dz : Nat → Nat → Option Int} (hz : ZR n z Dz) (hZ : ∀ s, s < cnt → ZR n (fun x => r34 (25 * s + x)) (Z s)) (hf : f44 0 = 0 ∨ cnt = 120) : (KNW l n a1 cnt (fun s => r38 s) Z Dz ∧ itrv default (sp_EM_comes_0_120_1_L1 n r34 r38 r39 r40 r41 cnt f44 a1 a2 a3 l z) 0 = (r34, z, r38, r39, r40, r41, f44, cnt)) ∨ (¬ KNW l n a1 cnt (fun s => r38 s) Z Dz ∧ cnt = 120 ∧ itrv default (sp_EM_comes_0_120_1_L1 n r34 r38 r39 r40 r41 cnt f44 a1 a2 a3 l z) 0 = (r34, z, r38, r39, r40, r41, upd f44 0 1, cnt)) ∨ (¬ KNW l n a1 cnt (fun s => r38 s) Z Dz ∧ ¬ cnt = 120 ∧ itrv default (sp_EM_comes_0_120_1_L1 n r34 r38 r39 r40 r41 cnt f44 a1 a2 a3 l z) 0 = (sp_EM_copies_zn r34 z (25 * cnt), z, updN r38 cnt a1, upd r39 cnt (nI a2), upd r40 cnt (nI a3), upd r41 cnt (r41 a2 + 1), f44, cnt + 1)) := by
  refine itrv_inv (d := default) (f := sp_EM_comes_0_120_1_L1 n r34 r38 r39 r40 r41 cnt f44 a1 a2 a3 l z) (fun k => k ≤ cnt ∧ ∀ s, s < k → ¬ (min (r38 s) 7 = a1 ∧ HSA l n Dz (Z s))) (fun r => (KNW l n a1 cnt (fun s => r38 s) Z Dz ∧ r = (r34, z, r38, r39, r40, r41, f44, cnt)) ∨ (¬ KNW l n a1 cnt (fun s => r38 s) Z Dz ∧ cnt = 120 ∧ r = (r34, z, r38, r39, r40, r41, upd f44 0 1, cnt)) ∨ (¬ KNW l n a1 cnt (fun s => r38 s) Z Dz ∧ ¬ cnt = 120 ∧ r = (sp_EM_copies_zn r34 z (25 * cnt), z, updN r38 cnt a1, upd r39 cnt (nI a2), upd r40 cnt (nI a3), upd r41 cnt (r41 a2 + 1), f44, cnt + 1))) (fun k => cnt - k) ?_ cnt 0 (Nat.sub_le _ _) ⟨Nat.zero_le _, fun x hx => absurd hx (Nat.not_lt_zero x)⟩
  rintro k ⟨hk, hI⟩
  by_cases ce : cnt ≤ k
  · have nk : ¬ KNW l n a1 cnt (fun s => r38 s) Z Dz := fun ⟨s, h1, h2⟩ => hI s (by omega) h2
    by_cases c : cnt = 120
    · exact Or.inr ⟨(r34, z, r38, r39, r40, r41, upd f44 0 1, cnt), by simp only [sp_EM_comes_0_120_1_L1, slet, if_pos ce, if_pos c, nar1], Or.inr (Or.inl ⟨nk, c, rfl⟩)⟩
    · have f0 : f44 0 = 0 := hf.resolve_right c
      exact Or.inr ⟨_, by simp only [sp_EM_comes_0_120_1_L1, slet, if_pos ce, if_neg c, if_pos f0], Or.inr (Or.inr ⟨nk, c, rfl⟩)⟩
  · have no : ¬ (min (r38 k) 7 = a1 ∧ HSA l n Dz (Z k)) → (k + 1 ≤ cnt ∧ ∀ s, s < k + 1 → ¬ (min (r38 s) 7 = a1 ∧ HSA l n Dz (Z s))) := fun h => ⟨by omega, fun s hs => by
      by_cases e : s = k
      · rw [e]; exact h
      · exact hI s (by omega)⟩
    by_cases c : min (r38 k) 7 = a1
    · rcases hasAll_z (l := l) rfl hz (hZ k (by omega)) with ⟨e, h⟩ | ⟨e, h⟩
      · exact Or.inr ⟨(r34, z, r38, r39, r40, r41, f44, cnt), by simp only [sp_EM_comes_0_120_1_L1, slet, if_neg ce, if_pos c, e, if_neg (show ¬ (1 : Nat) = 0 by omega)], Or.inl ⟨⟨k, by omega, c, h⟩, rfl⟩⟩
      · exact Or.inl ⟨k + 1, by simp only [sp_EM_comes_0_120_1_L1, slet, if_neg ce, if_pos c, e, if_pos], no (fun z => h z.2), by show cnt - (k + 1) < cnt - k; omega⟩
    · exact Or.inl ⟨k + 1, by simp only [sp_EM_comes_0_120_1_L1, slet, if_neg ce, if_neg c], no (fun z => c z.1), by show cnt - (k + 1) < cnt - k; omega⟩
theorem comesL_1_120 {n l a1 a2 a3 cnt : Nat} {r34 z : Nat → Int32} {r38 : Nat → Nat} {r39 r40 r41 f44 : Nat → Int32} {Z : Nat → Nat → Nat → Option Int} {Dz : Nat → Nat → Option Int} (hz : ZR n z Dz) (hZ : ∀ s, s < cnt → ZR n (fun x => r34 (25 * (120 + s) + x)) (Z s)) (hf : f44 1 = 0 ∨ cnt = 120) : (KNW l n a1 cnt (fun s => r38 (120 + s)) Z Dz ∧ itrv default (sp_EM_comes_1_120_1_L1 n r34 r38 r39 r40 r41 cnt f44 a1 a2 a3 l z) 0 = (r34, z, r38, r39, r40, r41, f44, cnt)) ∨ (¬ KNW l n a1 cnt (fun s => r38 (120 + s)) Z Dz ∧ cnt = 120 ∧ itrv default (sp_EM_comes_1_120_1_L1 n r34 r38 r39 r40 r41 cnt f44 a1 a2 a3 l z) 0 = (r34, z, r38, r39, r40, r41, upd f44 1 1, cnt)) ∨ (¬ KNW l n a1 cnt (fun s => r38 (120 + s)) Z Dz ∧ ¬ cnt = 120 ∧ itrv default (sp_EM_comes_1_120_1_L1 n r34 r38 r39 r40 r41 cnt f44 a1 a2 a3 l z) 0 = (sp_EM_copies_zn r34 z (25 * (120 + cnt)), z, updN r38 (120 + cnt) a1, upd r39 (120 + cnt) (nI a2), upd r40 (120 + cnt) (nI a3), upd r41 (120 + cnt) (r41 (120 + a2) + 1), f44, cnt + 1)) := by
  refine itrv_inv (d := default) (f := sp_EM_comes_1_120_1_L1 n r34 r38 r39 r40 r41 cnt f44 a1 a2 a3 l z) (fun k => k ≤ cnt ∧ ∀ s, s < k → ¬ (min (r38 (120 + s)) 7 = a1 ∧ HSA l n Dz (Z s))) (fun r => (KNW l n a1 cnt (fun s => r38 (120 + s)) Z Dz ∧ r = (r34, z, r38, r39, r40, r41, f44, cnt)) ∨ (¬ KNW l n a1 cnt (fun s => r38 (120 + s)) Z Dz ∧ cnt = 120 ∧ r = (r34, z, r38, r39, r40, r41, upd f44 1 1, cnt)) ∨ (¬ KNW l n a1 cnt (fun s => r38 (120 + s)) Z Dz ∧ ¬ cnt = 120 ∧ r = (sp_EM_copies_zn r34 z (25 * (120 + cnt)), z, updN r38 (120 + cnt) a1, upd r39 (120 + cnt) (nI a2), upd r40 (120 + cnt) (nI a3), upd r41 (120 + cnt) (r41 (120 + a2) + 1), f44, cnt + 1))) (fun k => cnt - k) ?_ cnt 0 (Nat.sub_le _ _) ⟨Nat.zero_le _, fun x hx => absurd hx (Nat.not_lt_zero x)⟩
  rintro k ⟨hk, hI⟩
  by_cases ce : cnt ≤ k
  · have nk : ¬ KNW l n a1 cnt (fun s => r38 (120 + s)) Z Dz := fun ⟨s, h1, h2⟩ => hI s (by omega) h2
    by_cases c : cnt = 120
    · exact Or.inr ⟨(r34, z, r38, r39, r40, r41, upd f44 1 1, cnt), by simp only [sp_EM_comes_1_120_1_L1, slet, if_pos ce, if_pos c, nar1], Or.inr (Or.inl ⟨nk, c, rfl⟩)⟩
    · have f0 : f44 1 = 0 := hf.resolve_right c
      exact Or.inr ⟨_, by simp only [sp_EM_comes_1_120_1_L1, slet, if_pos ce, if_neg c, if_pos f0], Or.inr (Or.inr ⟨nk, c, rfl⟩)⟩
  · have no : ¬ (min (r38 (120 + k)) 7 = a1 ∧ HSA l n Dz (Z k)) → (k + 1 ≤ cnt ∧ ∀ s, s < k + 1 → ¬ (min (r38 (120 + s)) 7 = a1 ∧ HSA l n Dz (Z s))) := fun h => ⟨by omega, fun s hs => by
      by_cases e : s = k
      · rw [e]; exact h
      · exact hI s (by omega)⟩
    by_cases c : min (r38 (120 + k)) 7 = a1
    · rcases hasAll_z (l := l) rfl hz (hZ k (by omega)) with ⟨e, h⟩ | ⟨e, h⟩
      · exact Or.inr ⟨(r34, z, r38, r39, r40, r41, f44, cnt), by simp only [sp_EM_comes_1_120_1_L1, slet, if_neg ce, if_pos c, e, if_neg (show ¬ (1 : Nat) = 0 by omega)], Or.inl ⟨⟨k, by omega, c, h⟩, rfl⟩⟩
      · exact Or.inl ⟨k + 1, by simp only [sp_EM_comes_1_120_1_L1, slet, if_neg ce, if_pos c, e, if_pos], no (fun z => h z.2), by show cnt - (k + 1) < cnt - k; omega⟩
    · exact Or.inl ⟨k + 1, by simp only [sp_EM_comes_1_120_1_L1, slet, if_neg ce, if_neg c], no (fun z => c z.1), by show cnt - (k + 1) < cnt - k; omega⟩
theorem comesL_1_400 {n l a1 a2 a3 cnt : Nat} {r34 z : Nat → Int32} {r38 : Nat → Nat} {r39 r40 r41 f44 : Nat → Int32} {Z : Nat → Nat → Nat → Option Int} {Dz : Nat → Nat → Option Int} (hz : ZR n z Dz) (hZ : ∀ s, s < cnt → ZR n (fun x => r34 (25 * (120 + s) + x)) (Z s)) (hf : f44 1 = 0 ∨ cnt = 400) : (KNW l n a1 cnt (fun s => r38 (120 + s)) Z Dz ∧ itrv default (sp_EM_comes_1_400_1_L1 n r34 r38 r39 r40 r41 cnt f44 a1 a2 a3 l z) 0 = (r34, z, r38, r39, r40, r41, f44, cnt)) ∨ (¬ KNW l n a1 cnt (fun s => r38 (120 + s)) Z Dz ∧ cnt = 400 ∧ itrv default (sp_EM_comes_1_400_1_L1 n r34 r38 r39 r40 r41 cnt f44 a1 a2 a3 l z) 0 = (r34, z, r38, r39, r40, r41, upd f44 1 1, cnt)) ∨ (¬ KNW l n a1 cnt (fun s => r38 (120 + s)) Z Dz ∧ ¬ cnt = 400 ∧ itrv default (sp_EM_comes_1_400_1_L1 n r34 r38 r39 r40 r41 cnt f44 a1 a2 a3 l z) 0 = (sp_EM_copies_zn r34 z (25 * (120 + cnt)), z, updN r38 (120 + cnt) a1, upd r39 (120 + cnt) (nI a2), upd r40 (120 + cnt) (nI a3), upd r41 (120 + cnt) (r41 (120 + a2) + 1), f44, cnt + 1)) := by
  refine itrv_inv (d := default) (f := sp_EM_comes_1_400_1_L1 n r34 r38 r39 r40 r41 cnt f44 a1 a2 a3 l z) (fun k => k ≤ cnt ∧ ∀ s, s < k → ¬ (min (r38 (120 + s)) 7 = a1 ∧ HSA l n Dz (Z s))) (fun r => (KNW l n a1 cnt (fun s => r38 (120 + s)) Z Dz ∧ r = (r34, z, r38, r39, r40, r41, f44, cnt)) ∨ (¬ KNW l n a1 cnt (fun s => r38 (120 + s)) Z Dz ∧ cnt = 400 ∧ r = (r34, z, r38, r39, r40, r41, upd f44 1 1, cnt)) ∨ (¬ KNW l n a1 cnt (fun s => r38 (120 + s)) Z Dz ∧ ¬ cnt = 400 ∧ r = (sp_EM_copies_zn r34 z (25 * (120 + cnt)), z, updN r38 (120 + cnt) a1, upd r39 (120 + cnt) (nI a2), upd r40 (120 + cnt) (nI a3), upd r41 (120 + cnt) (r41 (120 + a2) + 1), f44, cnt + 1))) (fun k => cnt - k) ?_ cnt 0 (Nat.sub_le _ _) ⟨Nat.zero_le _, fun x hx => absurd hx (Nat.not_lt_zero x)⟩
  rintro k ⟨hk, hI⟩
  by_cases ce : cnt ≤ k
  · have nk : ¬ KNW l n a1 cnt (fun s => r38 (120 + s)) Z Dz := fun ⟨s, h1, h2⟩ => hI s (by omega) h2
    by_cases c : cnt = 400
    · exact Or.inr ⟨(r34, z, r38, r39, r40, r41, upd f44 1 1, cnt), by simp only [sp_EM_comes_1_400_1_L1, slet, if_pos ce, if_pos c, nar1], Or.inr (Or.inl ⟨nk, c, rfl⟩)⟩
    · have f0 : f44 1 = 0 := hf.resolve_right c
      exact Or.inr ⟨_, by simp only [sp_EM_comes_1_400_1_L1, slet, if_pos ce, if_neg c, if_pos f0], Or.inr (Or.inr ⟨nk, c, rfl⟩)⟩
  · have no : ¬ (min (r38 (120 + k)) 7 = a1 ∧ HSA l n Dz (Z k)) → (k + 1 ≤ cnt ∧ ∀ s, s < k + 1 → ¬ (min (r38 (120 + s)) 7 = a1 ∧ HSA l n Dz (Z s))) := fun h => ⟨by omega, fun s hs => by
      by_cases e : s = k
      · rw [e]; exact h
      · exact hI s (by omega)⟩
    by_cases c : min (r38 (120 + k)) 7 = a1
    · rcases hasAll_z (l := l) rfl hz (hZ k (by omega)) with ⟨e, h⟩ | ⟨e, h⟩
      · exact Or.inr ⟨(r34, z, r38, r39, r40, r41, f44, cnt), by simp only [sp_EM_comes_1_400_1_L1, slet, if_neg ce, if_pos c, e, if_neg (show ¬ (1 : Nat) = 0 by omega)], Or.inl ⟨⟨k, by omega, c, h⟩, rfl⟩⟩
      · exact Or.inl ⟨k + 1, by simp only [sp_EM_comes_1_400_1_L1, slet, if_neg ce, if_pos c, e, if_pos], no (fun z => h z.2), by show cnt - (k + 1) < cnt - k; omega⟩
    · exact Or.inl ⟨k + 1, by simp only [sp_EM_comes_1_400_1_L1, slet, if_neg ce, if_neg c], no (fun z => c z.1), by show cnt - (k + 1) < cnt - k; omega⟩
/-- an edge tried from a state: the class, the reference -/
theorem step_0_120 {b n nc np ne e a1 gc gf gfull gl o : Nat} {st0 : Int32} {f4 : Nat → Int32} {q5 q6 : Nat → Nat} {f7 : Nat → Int32} {q8 q9 : Nat → Nat} {f10 f11 f12 f13 : Nat → Int32} {f3 : Nat → Int32} {r4 r5 r6 r7 : Nat → Nat} {f8 : Nat → Int32} {r9 r10 : Nat → Nat} {r11 : Nat → Int32} {m12_0 m12_1 m13_0 m13_1 m14_0 m14_1 m15 : Nat} (h : MB b nc np ne st0 f4 q5 q6 f7 q8 q9 f10 f11 f3 r4 r5 r6 r7 f8 r9 r10 r11 (bkN b m12_0 m12_1) (bkN b m13_0 m13_1) (bkN b m14_0 m14_1) m15) (w : WFm nc np ne f4 q8 q9 f10 f11 f12 f13) (hb : b ≤ 1) (hn : nc + 1 ≤ n) (hn4 : n ≤ 4) (he : e < ne) (ha : a1 < gc) (hgc : gc ≤ 120) {wy : Int32} (hw : wy = 0 → n ≤ 4 ∧ gc ≤ 120) {hh ll : Nat → Nat} {fhi flo f47 f48 : Nat → Int32} (hF : FGH n hh ll fhi flo f47 f48) {Z : Nat → Nat → Nat → Option Int} {q1 : Nat → Nat} {s2 s3 s4 s5 : Nat → Int32} {qs : Nat → Nat} {fz : Nat → Nat → Int32} {r38 : Nat → Nat} {r39 r40 r41 r34 r35 f44 : Nat → Int32} {gx ggoal : Int32} (hG : GS0 n wy gc np Z q1 s2 s3 s4 o qs fz r38 r39 r40 r41 r34) (hfu : FUL gfull (f44 0) gc 120) :
  (∃ fz' qs' k, sp_E_1_step_16 gc gfull gx wy ggoal gf gl q1 s2 s3 s4 s5 fhi flo nc f4 q6 f7 q8 q9 f12 f13 o qs fz a1 e = (q1, s2, s3, s4, s5, gf, gc, gfull, gx, fz', qs') ∧ sp_EM_goesBy b n r4 r6 r7 f8 r9 r10 r11 m12_0 m12_1 m13_0 m13_1 m14_0 m14_1 (sp_EM_copies_nz r34 r35 (25 * a1)) e = (0, k) ∧ GS0 n wy gc np Z q1 s2 s3 s4 o qs' fz' r38 r39 r40 r41 r34 ∧ ∀ x, x ≠ o + gc → fz' x = fz x ∧ qs' x = qs x)
  ∨ (∃ k q1' s2' s3' s4' s5' gf' gc' gfull' fz' qs' R34 R35 R38 R39 R40 R41 R44 Z', sp_E_1_step_16 gc gfull gx wy ggoal gf gl q1 s2 s3 s4 s5 fhi flo nc f4 q6 f7 q8 q9 f12 f13 o qs fz a1 e = (q1', s2', s3', s4', s5', gf', gc', gfull', gx ||| ((1 : Int32) <<< ((nI e : Int32) &&& 31)), fz', qs') ∧ sp_EM_goesBy b n r4 r6 r7 f8 r9 r10 r11 m12_0 m12_1 m13_0 m13_1 m14_0 m14_1 (sp_EM_copies_nz r34 r35 (25 * a1)) e = (1, k) ∧ sp_EM_comes_0_120_1 b n f3 r4 r9 r10 r11 m13_0 m13_1 r34 k r38 r39 r40 r41 gc f44 f47 f48 (q6 e) a1 e wy gl = (R34, R35, R38, R39, R40, R41, R44, gc') ∧ GS0 n wy gc' np Z' q1' s2' s3' s4' o qs' fz' R38 R39 R40 R41 R34 ∧ FUL gfull' (R44 0) gc' 120 ∧ gc ≤ gc' ∧ gc' ≤ 120 ∧ ((gc' = gc ∧ gf' = gf) ∨ (gc' = gc + 1 ∧ q1' gc = q6 e ∧ gf' = if (nI (q6 e) : Int32) = ggoal then 1 else gf)) ∧ (∀ s, s < gc → q1' s = q1 s) ∧ (∀ x, x ≠ o + gc → fz' x = fz x ∧ qs' x = qs x) ∧ (∀ j, j ≠ 0 → R44 j = f44 j) ∧ FRM0 r38 r39 r40 r41 r34 R38 R39 R40 R41 R34) := by
  have h0 : 0 < n := by omega
  have hn5 : n ≤ 5 := by omega
  have h10 := h.2.2.2.2.2.2.2
  obtain ⟨-, -, g3, g4, g5⟩ := h10 e he
  have hp8 := h.1.2.2.2.1
  have t7 : min (q6 e) 7 = q6 e := by omega
  obtain ⟨⟨p1, p2, p3, p4, p5⟩, p6, p7, p8, p9⟩ := hG a1 ha
  have em : min (qs (o + a1)) 4 = n := by omega
  have emn : min n 4 = n := by omega
  obtain ⟨u1, u2, u3, u4, u5⟩ := uv_ok (s := a1) hn5 (fun c => ⟨(hw c).1, by have := (hw c).2; omega⟩)
  have hy : ZR n (sp_EM_copies_nz r34 r35 (25 * a1)) (Z a1) := fun i j hi hj => by
    rw [copies_nz (5 * i + j) (by omega)]
    exact p9 i j hi hj
  have one0 : ¬ (1 : Nat) = 0 := by omega
  have ne1 : ∀ s, s < gc → o + s ≠ o + gc := fun s hs => by omega
  rcases taken_16 h w hb hn he p7 u2 u3 ⟨u4, by omega⟩ (copyOf_16 (fz := fz (o + gc)) p8) hy with ⟨g, k, D1, a1', b1, c1, d1, e1, l1⟩ | ⟨g, k, a1', b1⟩
  · obtain ⟨D2, c2, d2, e2⟩ := stays_16 h w hb hn g4 e1 u1 ⟨u4, u5⟩ c1 d1 l1
    obtain ⟨D3, c3, d3, e3⟩ := fgW_16 (s' := gc) hn5 h0 hF (fun c => ⟨(uv_up c ha).1, by have := (uv_up c ha).2; omega⟩) e2 c2 d2
    obtain ⟨s4', s5', er, er1, er2⟩ := record1_16 (gc := gc) (gf := gf) (a0 := q6 e) (a1 := a1) (a2 := e) (ggoal := ggoal) (q1 := q1) (s2 := s2) (s3 := s3) (s4 := s4) (s5 := s5) ha
    obtain ⟨FZ, w1, w2, w3⟩ : ∃ FZ, (∀ x, x ≠ o + gc → FZ x = fz x) ∧ FZ (o + gc) = (if wy = 0 then sp_E_0_stayIn_16 f4 q8 q9 f12 f13 n (sp_E_0_setBackIn_16 nc f7 n g e) (q6 e) else sp_E_7_forget_16 fhi flo n (sp_E_0_stayIn_16 f4 q8 q9 f12 f13 n (sp_E_0_setBackIn_16 nc f7 n g e) (q6 e))) ∧ ∀ K : Nat, sp_E_1_isKnown_16 gc gl q1 o (updN qs (o + gc) n) FZ (o + gc) (q6 e) = K → sp_E_1_step_16 gc gfull gx wy ggoal gf gl q1 s2 s3 s4 s5 fhi flo nc f4 q6 f7 q8 q9 f12 f13 o qs fz a1 e = (if K = 0 then (if gc = 120 then (q1, s2, s3, s4, s5, gf, gc, 1, gx ||| ((1 : Int32) <<< ((nI e : Int32) &&& 31)), FZ, updN qs (o + gc) n) else (updN q1 gc (q6 e), upd s2 gc (nI a1), upd s3 gc (nI e), s4', s5', (if (nI (q6 e) : Int32) = ggoal then 1 else gf), gc + 1, gfull, gx ||| ((1 : Int32) <<< ((nI e : Int32) &&& 31)), FZ, updN qs (o + gc) n)) else (q1, s2, s3, s4, s5, gf, gc, gfull, gx ||| ((1 : Int32) <<< ((nI e : Int32) &&& 31)), FZ, updN qs (o + gc) n)) := by
      by_cases cw : wy = 0
      · refine ⟨updZ (updZ (updZ (updZ fz (o + gc) (sp_E_7_copyOf_16 n (fz (o + a1)) (fz (o + gc)))) (o + gc) g) (o + gc) (sp_E_0_setBackIn_16 nc f7 n g e)) (o + gc) (sp_E_0_stayIn_16 f4 q8 q9 f12 f13 n (sp_E_0_setBackIn_16 nc f7 n g e) (q6 e)), fun x hx => by rw [uZ_n hx, uZ_n hx, uZ_n hx, uZ_n hx], by rw [uZ_s, if_pos cw], fun K hK => ?_⟩
        simp only [sp_E_1_step_16, slet, em, emn, updN_s, uZ_s, a1', t7, if_neg one0, if_pos cw, hK, er]
      · refine ⟨updZ (updZ (updZ (updZ (updZ fz (o + gc) (sp_E_7_copyOf_16 n (fz (o + a1)) (fz (o + gc)))) (o + gc) g) (o + gc) (sp_E_0_setBackIn_16 nc f7 n g e)) (o + gc) (sp_E_0_stayIn_16 f4 q8 q9 f12 f13 n (sp_E_0_setBackIn_16 nc f7 n g e) (q6 e))) (o + gc) (sp_E_7_forget_16 fhi flo n (sp_E_0_stayIn_16 f4 q8 q9 f12 f13 n (sp_E_0_setBackIn_16 nc f7 n g e) (q6 e))), fun x hx => by rw [uZ_n hx, uZ_n hx, uZ_n hx, uZ_n hx, uZ_n hx], by rw [uZ_s, if_neg cw], fun K hK => ?_⟩
        simp only [sp_E_1_step_16, slet, em, emn, updN_s, uZ_s, a1', t7, if_neg one0, if_neg cw, hK, er]
    have ec : sp_EM_comes_0_120_1 b n f3 r4 r9 r10 r11 m13_0 m13_1 r34 k r38 r39 r40 r41 gc f44 f47 f48 (q6 e) a1 e wy gl = itrv default (sp_EM_comes_0_120_1_L1 n r34 r38 r39 r40 r41 gc f44 (q6 e) a1 e gl (sp_EM_forgets n (if sp_EM_isUrgent b f3 (q6 e) = 0 then sp_EM_delays b n r4 r9 r10 r11 m13_0 m13_1 k (q6 e) else k) f47 f48 wy)) 0 := rfl
    rw [← w2] at c3
    have hG2 : GS0 n wy gc np Z q1 s2 s3 s4 o (updN qs (o + gc) n) FZ r38 r39 r40 r41 r34 := fun s hs => by
      obtain ⟨y1, y2, y3, y4, y5⟩ := hG s hs
      exact ⟨y1, by rw [updN_n (ne1 s hs)]; exact y2, y3, by rw [w1 _ (ne1 s hs)]; exact y4, y5⟩
    have fr : ∀ x, x ≠ o + gc → FZ x = fz x ∧ updN qs (o + gc) n x = qs x := fun x hx => ⟨w1 x hx, updN_n hx⟩
    have kn := isKnown_16 (gl := gl) (kk := o + gc) (a1 := q6 e) hn4 (q1 := q1) (fun s hs => ⟨(hG2 s hs).2.1, (hG2 s hs).2.2.2.1⟩) c3
    have rn := comesL_0_120 (l := gl) (a1 := q6 e) (a2 := a1) (a3 := e) (r38 := r38) (r39 := r39) (r40 := r40) (r41 := r41) (f44 := f44) d3 (fun s hs => (hG s hs).2.2.2.2) (hfu.elim (fun z => Or.inl z.2) (fun z => Or.inr z.2.2))
    have sw : ∀ s, s < gc → q1 s = r38 s := fun s hs => (hG s hs).1.1
    refine Or.inr ?_
    rcases kn with ⟨K, kn⟩ | ⟨K, kn⟩
    · have es := w3 1 K
      rw [if_neg one0] at es
      rcases rn with ⟨rk, re⟩ | ⟨rk, -⟩ | ⟨rk, -⟩
      · exact ⟨k, q1, s2, s3, s4, s5, gf, gc, gfull, FZ, _, _, _, _, _, _, _, _, Z, es, b1, ec.trans re, hG2, hfu, Nat.le_refl _, hgc, Or.inl ⟨rfl, rfl⟩, fun _ _ => rfl, fr, fun _ _ => rfl, trivial⟩
      · exact absurd (kn.cg sw) rk
      · exact absurd (kn.cg sw) rk
    · have es := w3 0 K
      rw [if_pos rfl] at es
      rcases rn with ⟨rk, -⟩ | ⟨rk, rr, re⟩ | ⟨rk, rr, re⟩
      · exact absurd (rk.cg (fun s hs => (sw s hs).symm)) kn
      · rw [if_pos rr] at es
        exact ⟨k, q1, s2, s3, s4, s5, gf, gc, 1, FZ, _, _, _, _, _, _, _, _, Z, es, b1, ec.trans re, hG2, Or.inr ⟨rfl, upd_s, rr⟩, Nat.le_refl _, hgc, Or.inl ⟨rfl, rfl⟩, fun _ _ => rfl, fr, fun j hj => upd_n hj, trivial⟩
      · rw [if_neg rr] at es
        have z0 : gfull = 0 ∧ f44 0 = 0 := hfu.elim (fun z => z) (fun z => absurd z.2.2 rr)
        refine ⟨k, updN q1 gc (q6 e), upd s2 gc (nI a1), upd s3 gc (nI e), s4', s5', _, gc + 1, gfull, FZ, _, _, _, _, _, _, _, _, fun s => if s = gc then D3 else Z s, es, b1, ec.trans re, fun s hs => ?_, Or.inl z0, Nat.le_succ _, by omega, Or.inr ⟨rfl, updN_s, rfl⟩, fun s hs => updN_n (by omega), fr, fun _ _ => rfl, trivial⟩
        obtain ⟨cz1, cz2⟩ := copies_zn (f34 := r34) (f35 := sp_EM_forgets n (if sp_EM_isUrgent b f3 (q6 e) = 0 then sp_EM_delays b n r4 r9 r10 r11 m13_0 m13_1 k (q6 e) else k) f47 f48 wy) (a3 := 25 * gc)
        by_cases cs : s = gc
        · subst cs
          refine ⟨⟨?_, ?_, ?_, ?_, ?_⟩, ?_, ?_, ?_, ?_⟩
          · rw [updN_s, updN_s]
          · rw [updN_s]; exact g4
          · rw [upd_s, upd_s]
          · rw [upd_s, upd_s]
          · rw [er1, upd_s, p5]
          · rw [updN_s]
          · show ZOK n (UU wy s) (VV wy s) (if s = s then D3 else Z s)
            rw [if_pos rfl]; exact e3
          · show ZC n (FZ (o + s)) (if s = s then D3 else Z s)
            rw [if_pos rfl]; exact c3
          · show ZR n _ (if s = s then D3 else Z s)
            rw [if_pos rfl]
            intro i j hi hj
            show RFC (sp_EM_copies_zn r34 _ (25 * s) (25 * s + (5 * i + j))) (D3 i j)
            rw [cz1 (5 * i + j) (by omega)]
            exact d3 i j hi hj
        · have hs2 : s < gc := by omega
          obtain ⟨⟨y1, y2, y3, y4, y5⟩, y6, y7, y8, y9⟩ := hG2 s hs2
          have no : s ≠ gc := by omega
          refine ⟨⟨?_, ?_, ?_, ?_, ?_⟩, y6, ?_, ?_, ?_⟩
          · rw [updN_n cs, updN_n no]; exact y1
          · rw [updN_n cs]; exact y2
          · rw [upd_n cs, upd_n no]; exact y3
          · rw [upd_n cs, upd_n no]; exact y4
          · rw [er2 s cs, upd_n no]; exact y5
          · show ZOK n (UU wy s) (VV wy s) (if s = gc then D3 else Z s)
            rw [if_neg cs]; exact y7
          · show ZC n (FZ (o + s)) (if s = gc then D3 else Z s)
            rw [if_neg cs]; exact y8
          · show ZR n _ (if s = gc then D3 else Z s)
            rw [if_neg cs]
            intro i j hi hj
            show RFC (sp_EM_copies_zn r34 _ (25 * gc) (25 * s + (5 * i + j))) (Z s i j)
            rw [cz2 (25 * s + (5 * i + j)) (by omega)]
            exact y9 i j hi hj
  · refine Or.inl ⟨updZ (updZ fz (o + gc) (sp_E_7_copyOf_16 n (fz (o + a1)) (fz (o + gc)))) (o + gc) g, updN qs (o + gc) n, k, ?_, b1, fun s hs => ?_, fun x hx => ⟨by rw [uZ_n hx, uZ_n hx], updN_n hx⟩⟩
    · simp only [sp_E_1_step_16, slet, em, emn, updN_s, uZ_s, a1', if_pos]
    · obtain ⟨y1, y2, y3, y4, y5⟩ := hG s hs
      exact ⟨y1, by rw [updN_n (ne1 s hs)]; exact y2, y3, by rw [uZ_n (ne1 s hs), uZ_n (ne1 s hs)]; exact y4, y5⟩
/-- an edge tried from a state: the class, the reference -/
theorem step_1_120 {b n nc np ne e a1 gc gf gfull gl o : Nat} {st0 : Int32} {f4 : Nat → Int32} {q5 q6 : Nat → Nat} {f7 : Nat → Int32} {q8 q9 : Nat → Nat} {f10 f11 f12 f13 : Nat → Int32} {f3 : Nat → Int32} {r4 r5 r6 r7 : Nat → Nat} {f8 : Nat → Int32} {r9 r10 : Nat → Nat} {r11 : Nat → Int32} {m12_0 m12_1 m13_0 m13_1 m14_0 m14_1 m15 : Nat} (h : MB b nc np ne st0 f4 q5 q6 f7 q8 q9 f10 f11 f3 r4 r5 r6 r7 f8 r9 r10 r11 (bkN b m12_0 m12_1) (bkN b m13_0 m13_1) (bkN b m14_0 m14_1) m15) (w : WFm nc np ne f4 q8 q9 f10 f11 f12 f13) (hb : b ≤ 1) (hn : nc + 1 ≤ n) (hn4 : n ≤ 4) (he : e < ne) (ha : a1 < gc) (hgc : gc ≤ 120) {wy : Int32} (hw : wy = 0 → n ≤ 4 ∧ gc ≤ 120) {hh ll : Nat → Nat} {fhi flo f47 f48 : Nat → Int32} (hF : FGH n hh ll fhi flo f47 f48) {Z : Nat → Nat → Nat → Option Int} {q1 : Nat → Nat} {s2 s3 s4 s5 : Nat → Int32} {qs : Nat → Nat} {fz : Nat → Nat → Int32} {r38 : Nat → Nat} {r39 r40 r41 r34 r35 f44 : Nat → Int32} {gx ggoal : Int32} (hG : GS1 n wy gc np Z q1 s2 s3 s4 o qs fz r38 r39 r40 r41 r34) (hfu : FUL gfull (f44 1) gc 120) :
  (∃ fz' qs' k, sp_E_1_step_16 gc gfull gx wy ggoal gf gl q1 s2 s3 s4 s5 fhi flo nc f4 q6 f7 q8 q9 f12 f13 o qs fz a1 e = (q1, s2, s3, s4, s5, gf, gc, gfull, gx, fz', qs') ∧ sp_EM_goesBy b n r4 r6 r7 f8 r9 r10 r11 m12_0 m12_1 m13_0 m13_1 m14_0 m14_1 (sp_EM_copies_nz r34 r35 (25 * (120 + a1))) e = (0, k) ∧ GS1 n wy gc np Z q1 s2 s3 s4 o qs' fz' r38 r39 r40 r41 r34 ∧ ∀ x, x ≠ o + gc → fz' x = fz x ∧ qs' x = qs x)
  ∨ (∃ k q1' s2' s3' s4' s5' gf' gc' gfull' fz' qs' R34 R35 R38 R39 R40 R41 R44 Z', sp_E_1_step_16 gc gfull gx wy ggoal gf gl q1 s2 s3 s4 s5 fhi flo nc f4 q6 f7 q8 q9 f12 f13 o qs fz a1 e = (q1', s2', s3', s4', s5', gf', gc', gfull', gx ||| ((1 : Int32) <<< ((nI e : Int32) &&& 31)), fz', qs') ∧ sp_EM_goesBy b n r4 r6 r7 f8 r9 r10 r11 m12_0 m12_1 m13_0 m13_1 m14_0 m14_1 (sp_EM_copies_nz r34 r35 (25 * (120 + a1))) e = (1, k) ∧ sp_EM_comes_1_120_1 b n f3 r4 r9 r10 r11 m13_0 m13_1 r34 k r38 r39 r40 r41 gc f44 f47 f48 (q6 e) a1 e wy gl = (R34, R35, R38, R39, R40, R41, R44, gc') ∧ GS1 n wy gc' np Z' q1' s2' s3' s4' o qs' fz' R38 R39 R40 R41 R34 ∧ FUL gfull' (R44 1) gc' 120 ∧ gc ≤ gc' ∧ gc' ≤ 120 ∧ ((gc' = gc ∧ gf' = gf) ∨ (gc' = gc + 1 ∧ q1' gc = q6 e ∧ gf' = if (nI (q6 e) : Int32) = ggoal then 1 else gf)) ∧ (∀ s, s < gc → q1' s = q1 s) ∧ (∀ x, x ≠ o + gc → fz' x = fz x ∧ qs' x = qs x) ∧ (∀ j, j ≠ 1 → R44 j = f44 j) ∧ FRM1 r38 r39 r40 r41 r34 R38 R39 R40 R41 R34) := by
  have h0 : 0 < n := by omega
  have hn5 : n ≤ 5 := by omega
  have h10 := h.2.2.2.2.2.2.2
  obtain ⟨-, -, g3, g4, g5⟩ := h10 e he
  have hp8 := h.1.2.2.2.1
  have t7 : min (q6 e) 7 = q6 e := by omega
  obtain ⟨⟨p1, p2, p3, p4, p5⟩, p6, p7, p8, p9⟩ := hG a1 ha
  have em : min (qs (o + a1)) 4 = n := by omega
  have emn : min n 4 = n := by omega
  obtain ⟨u1, u2, u3, u4, u5⟩ := uv_ok (s := a1) hn5 (fun c => ⟨(hw c).1, by have := (hw c).2; omega⟩)
  have hy : ZR n (sp_EM_copies_nz r34 r35 (25 * (120 + a1))) (Z a1) := fun i j hi hj => by
    rw [copies_nz (5 * i + j) (by omega)]
    exact p9 i j hi hj
  have one0 : ¬ (1 : Nat) = 0 := by omega
  have ne1 : ∀ s, s < gc → o + s ≠ o + gc := fun s hs => by omega
  rcases taken_16 h w hb hn he p7 u2 u3 ⟨u4, by omega⟩ (copyOf_16 (fz := fz (o + gc)) p8) hy with ⟨g, k, D1, a1', b1, c1, d1, e1, l1⟩ | ⟨g, k, a1', b1⟩
  · obtain ⟨D2, c2, d2, e2⟩ := stays_16 h w hb hn g4 e1 u1 ⟨u4, u5⟩ c1 d1 l1
    obtain ⟨D3, c3, d3, e3⟩ := fgW_16 (s' := gc) hn5 h0 hF (fun c => ⟨(uv_up c ha).1, by have := (uv_up c ha).2; omega⟩) e2 c2 d2
    obtain ⟨s4', s5', er, er1, er2⟩ := record1_16 (gc := gc) (gf := gf) (a0 := q6 e) (a1 := a1) (a2 := e) (ggoal := ggoal) (q1 := q1) (s2 := s2) (s3 := s3) (s4 := s4) (s5 := s5) ha
    obtain ⟨FZ, w1, w2, w3⟩ : ∃ FZ, (∀ x, x ≠ o + gc → FZ x = fz x) ∧ FZ (o + gc) = (if wy = 0 then sp_E_0_stayIn_16 f4 q8 q9 f12 f13 n (sp_E_0_setBackIn_16 nc f7 n g e) (q6 e) else sp_E_7_forget_16 fhi flo n (sp_E_0_stayIn_16 f4 q8 q9 f12 f13 n (sp_E_0_setBackIn_16 nc f7 n g e) (q6 e))) ∧ ∀ K : Nat, sp_E_1_isKnown_16 gc gl q1 o (updN qs (o + gc) n) FZ (o + gc) (q6 e) = K → sp_E_1_step_16 gc gfull gx wy ggoal gf gl q1 s2 s3 s4 s5 fhi flo nc f4 q6 f7 q8 q9 f12 f13 o qs fz a1 e = (if K = 0 then (if gc = 120 then (q1, s2, s3, s4, s5, gf, gc, 1, gx ||| ((1 : Int32) <<< ((nI e : Int32) &&& 31)), FZ, updN qs (o + gc) n) else (updN q1 gc (q6 e), upd s2 gc (nI a1), upd s3 gc (nI e), s4', s5', (if (nI (q6 e) : Int32) = ggoal then 1 else gf), gc + 1, gfull, gx ||| ((1 : Int32) <<< ((nI e : Int32) &&& 31)), FZ, updN qs (o + gc) n)) else (q1, s2, s3, s4, s5, gf, gc, gfull, gx ||| ((1 : Int32) <<< ((nI e : Int32) &&& 31)), FZ, updN qs (o + gc) n)) := by
      by_cases cw : wy = 0
      · refine ⟨updZ (updZ (updZ (updZ fz (o + gc) (sp_E_7_copyOf_16 n (fz (o + a1)) (fz (o + gc)))) (o + gc) g) (o + gc) (sp_E_0_setBackIn_16 nc f7 n g e)) (o + gc) (sp_E_0_stayIn_16 f4 q8 q9 f12 f13 n (sp_E_0_setBackIn_16 nc f7 n g e) (q6 e)), fun x hx => by rw [uZ_n hx, uZ_n hx, uZ_n hx, uZ_n hx], by rw [uZ_s, if_pos cw], fun K hK => ?_⟩
        simp only [sp_E_1_step_16, slet, em, emn, updN_s, uZ_s, a1', t7, if_neg one0, if_pos cw, hK, er]
      · refine ⟨updZ (updZ (updZ (updZ (updZ fz (o + gc) (sp_E_7_copyOf_16 n (fz (o + a1)) (fz (o + gc)))) (o + gc) g) (o + gc) (sp_E_0_setBackIn_16 nc f7 n g e)) (o + gc) (sp_E_0_stayIn_16 f4 q8 q9 f12 f13 n (sp_E_0_setBackIn_16 nc f7 n g e) (q6 e))) (o + gc) (sp_E_7_forget_16 fhi flo n (sp_E_0_stayIn_16 f4 q8 q9 f12 f13 n (sp_E_0_setBackIn_16 nc f7 n g e) (q6 e))), fun x hx => by rw [uZ_n hx, uZ_n hx, uZ_n hx, uZ_n hx, uZ_n hx], by rw [uZ_s, if_neg cw], fun K hK => ?_⟩
        simp only [sp_E_1_step_16, slet, em, emn, updN_s, uZ_s, a1', t7, if_neg one0, if_neg cw, hK, er]
    have ec : sp_EM_comes_1_120_1 b n f3 r4 r9 r10 r11 m13_0 m13_1 r34 k r38 r39 r40 r41 gc f44 f47 f48 (q6 e) a1 e wy gl = itrv default (sp_EM_comes_1_120_1_L1 n r34 r38 r39 r40 r41 gc f44 (q6 e) a1 e gl (sp_EM_forgets n (if sp_EM_isUrgent b f3 (q6 e) = 0 then sp_EM_delays b n r4 r9 r10 r11 m13_0 m13_1 k (q6 e) else k) f47 f48 wy)) 0 := rfl
    rw [← w2] at c3
    have hG2 : GS1 n wy gc np Z q1 s2 s3 s4 o (updN qs (o + gc) n) FZ r38 r39 r40 r41 r34 := fun s hs => by
      obtain ⟨y1, y2, y3, y4, y5⟩ := hG s hs
      exact ⟨y1, by rw [updN_n (ne1 s hs)]; exact y2, y3, by rw [w1 _ (ne1 s hs)]; exact y4, y5⟩
    have fr : ∀ x, x ≠ o + gc → FZ x = fz x ∧ updN qs (o + gc) n x = qs x := fun x hx => ⟨w1 x hx, updN_n hx⟩
    have kn := isKnown_16 (gl := gl) (kk := o + gc) (a1 := q6 e) hn4 (q1 := q1) (fun s hs => ⟨(hG2 s hs).2.1, (hG2 s hs).2.2.2.1⟩) c3
    have rn := comesL_1_120 (l := gl) (a1 := q6 e) (a2 := a1) (a3 := e) (r38 := r38) (r39 := r39) (r40 := r40) (r41 := r41) (f44 := f44) d3 (fun s hs => (hG s hs).2.2.2.2) (hfu.elim (fun z => Or.inl z.2) (fun z => Or.inr z.2.2))
    have sw : ∀ s, s < gc → q1 s = r38 (120 + s) := fun s hs => (hG s hs).1.1
    refine Or.inr ?_
    rcases kn with ⟨K, kn⟩ | ⟨K, kn⟩
    · have es := w3 1 K
      rw [if_neg one0] at es
      rcases rn with ⟨rk, re⟩ | ⟨rk, -⟩ | ⟨rk, -⟩
      · exact ⟨k, q1, s2, s3, s4, s5, gf, gc, gfull, FZ, _, _, _, _, _, _, _, _, Z, es, b1, ec.trans re, hG2, hfu, Nat.le_refl _, hgc, Or.inl ⟨rfl, rfl⟩, fun _ _ => rfl, fr, fun _ _ => rfl, ⟨fun _ _ => ⟨rfl, rfl, rfl, rfl⟩, fun _ _ => rfl⟩⟩
      · exact absurd (kn.cg sw) rk
      · exact absurd (kn.cg sw) rk
    · have es := w3 0 K
      rw [if_pos rfl] at es
      rcases rn with ⟨rk, -⟩ | ⟨rk, rr, re⟩ | ⟨rk, rr, re⟩
      · exact absurd (rk.cg (fun s hs => (sw s hs).symm)) kn
      · rw [if_pos rr] at es
        exact ⟨k, q1, s2, s3, s4, s5, gf, gc, 1, FZ, _, _, _, _, _, _, _, _, Z, es, b1, ec.trans re, hG2, Or.inr ⟨rfl, upd_s, rr⟩, Nat.le_refl _, hgc, Or.inl ⟨rfl, rfl⟩, fun _ _ => rfl, fr, fun j hj => upd_n hj, ⟨fun _ _ => ⟨rfl, rfl, rfl, rfl⟩, fun _ _ => rfl⟩⟩
      · rw [if_neg rr] at es
        have z0 : gfull = 0 ∧ f44 1 = 0 := hfu.elim (fun z => z) (fun z => absurd z.2.2 rr)
        refine ⟨k, updN q1 gc (q6 e), upd s2 gc (nI a1), upd s3 gc (nI e), s4', s5', _, gc + 1, gfull, FZ, _, _, _, _, _, _, _, _, fun s => if s = gc then D3 else Z s, es, b1, ec.trans re, fun s hs => ?_, Or.inl z0, Nat.le_succ _, by omega, Or.inr ⟨rfl, updN_s, rfl⟩, fun s hs => updN_n (by omega), fr, fun _ _ => rfl, ⟨fun x hx => ⟨updN_n (by omega), upd_n (by omega), upd_n (by omega), upd_n (by omega)⟩, fun x hx => copies_zn.2 x (by omega)⟩⟩
        obtain ⟨cz1, cz2⟩ := copies_zn (f34 := r34) (f35 := sp_EM_forgets n (if sp_EM_isUrgent b f3 (q6 e) = 0 then sp_EM_delays b n r4 r9 r10 r11 m13_0 m13_1 k (q6 e) else k) f47 f48 wy) (a3 := 25 * (120 + gc))
        by_cases cs : s = gc
        · subst cs
          refine ⟨⟨?_, ?_, ?_, ?_, ?_⟩, ?_, ?_, ?_, ?_⟩
          · rw [updN_s, updN_s]
          · rw [updN_s]; exact g4
          · rw [upd_s, upd_s]
          · rw [upd_s, upd_s]
          · rw [er1, upd_s, p5]
          · rw [updN_s]
          · show ZOK n (UU wy s) (VV wy s) (if s = s then D3 else Z s)
            rw [if_pos rfl]; exact e3
          · show ZC n (FZ (o + s)) (if s = s then D3 else Z s)
            rw [if_pos rfl]; exact c3
          · show ZR n _ (if s = s then D3 else Z s)
            rw [if_pos rfl]
            intro i j hi hj
            show RFC (sp_EM_copies_zn r34 _ (25 * (120 + s)) (25 * (120 + s) + (5 * i + j))) (D3 i j)
            rw [cz1 (5 * i + j) (by omega)]
            exact d3 i j hi hj
        · have hs2 : s < gc := by omega
          obtain ⟨⟨y1, y2, y3, y4, y5⟩, y6, y7, y8, y9⟩ := hG2 s hs2
          have no : (120 + s) ≠ (120 + gc) := by omega
          refine ⟨⟨?_, ?_, ?_, ?_, ?_⟩, y6, ?_, ?_, ?_⟩
          · rw [updN_n cs, updN_n no]; exact y1
          · rw [updN_n cs]; exact y2
          · rw [upd_n cs, upd_n no]; exact y3
          · rw [upd_n cs, upd_n no]; exact y4
          · rw [er2 s cs, upd_n no]; exact y5
          · show ZOK n (UU wy s) (VV wy s) (if s = gc then D3 else Z s)
            rw [if_neg cs]; exact y7
          · show ZC n (FZ (o + s)) (if s = gc then D3 else Z s)
            rw [if_neg cs]; exact y8
          · show ZR n _ (if s = gc then D3 else Z s)
            rw [if_neg cs]
            intro i j hi hj
            show RFC (sp_EM_copies_zn r34 _ (25 * (120 + gc)) (25 * (120 + s) + (5 * i + j))) (Z s i j)
            rw [cz2 (25 * (120 + s) + (5 * i + j)) (by omega)]
            exact y9 i j hi hj
  · refine Or.inl ⟨updZ (updZ fz (o + gc) (sp_E_7_copyOf_16 n (fz (o + a1)) (fz (o + gc)))) (o + gc) g, updN qs (o + gc) n, k, ?_, b1, fun s hs => ?_, fun x hx => ⟨by rw [uZ_n hx, uZ_n hx], updN_n hx⟩⟩
    · simp only [sp_E_1_step_16, slet, em, emn, updN_s, uZ_s, a1', if_pos]
    · obtain ⟨y1, y2, y3, y4, y5⟩ := hG s hs
      exact ⟨y1, by rw [updN_n (ne1 s hs)]; exact y2, y3, by rw [uZ_n (ne1 s hs), uZ_n (ne1 s hs)]; exact y4, y5⟩
/-- an edge tried from a state: the class, the reference -/
theorem step_1_400 {b n nc np ne e a1 gc gf gfull gl o : Nat} {st0 : Int32} {f4 : Nat → Int32} {q5 q6 : Nat → Nat} {f7 : Nat → Int32} {q8 q9 : Nat → Nat} {f10 f11 f12 f13 : Nat → Int32} {f3 : Nat → Int32} {r4 r5 r6 r7 : Nat → Nat} {f8 : Nat → Int32} {r9 r10 : Nat → Nat} {r11 : Nat → Int32} {m12_0 m12_1 m13_0 m13_1 m14_0 m14_1 m15 : Nat} (h : MB b nc np ne st0 f4 q5 q6 f7 q8 q9 f10 f11 f3 r4 r5 r6 r7 f8 r9 r10 r11 (bkN b m12_0 m12_1) (bkN b m13_0 m13_1) (bkN b m14_0 m14_1) m15) (w : WFm nc np ne f4 q8 q9 f10 f11 f12 f13) (hb : b ≤ 1) (hn : nc + 1 ≤ n) (hn4 : n ≤ 5) (he : e < ne) (ha : a1 < gc) (hgc : gc ≤ 400) {wy : Int32} (hw : wy = 0 → n ≤ 4 ∧ gc ≤ 120) {hh ll : Nat → Nat} {fhi flo f47 f48 : Nat → Int32} (hF : FGH n hh ll fhi flo f47 f48) {Z : Nat → Nat → Nat → Option Int} {q1 : Nat → Nat} {s2 s3 s4 s5 : Nat → Int32} {qs : Nat → Nat} {fz : Nat → Nat → Int32} {r38 : Nat → Nat} {r39 r40 r41 r34 r35 f44 : Nat → Int32} {gx ggoal : Int32} (hG : GS1 n wy gc np Z q1 s2 s3 s4 o qs fz r38 r39 r40 r41 r34) (hfu : FUL gfull (f44 1) gc 400) :
  (∃ fz' qs' k, sp_E_1_step_25 gc gfull gx wy ggoal gf gl q1 s2 s3 s4 s5 fhi flo nc f4 q6 f7 q8 q9 f12 f13 o qs fz a1 e = (q1, s2, s3, s4, s5, gf, gc, gfull, gx, fz', qs') ∧ sp_EM_goesBy b n r4 r6 r7 f8 r9 r10 r11 m12_0 m12_1 m13_0 m13_1 m14_0 m14_1 (sp_EM_copies_nz r34 r35 (25 * (120 + a1))) e = (0, k) ∧ GS1 n wy gc np Z q1 s2 s3 s4 o qs' fz' r38 r39 r40 r41 r34 ∧ ∀ x, x ≠ o + gc → fz' x = fz x ∧ qs' x = qs x)
  ∨ (∃ k q1' s2' s3' s4' s5' gf' gc' gfull' fz' qs' R34 R35 R38 R39 R40 R41 R44 Z', sp_E_1_step_25 gc gfull gx wy ggoal gf gl q1 s2 s3 s4 s5 fhi flo nc f4 q6 f7 q8 q9 f12 f13 o qs fz a1 e = (q1', s2', s3', s4', s5', gf', gc', gfull', gx ||| ((1 : Int32) <<< ((nI e : Int32) &&& 31)), fz', qs') ∧ sp_EM_goesBy b n r4 r6 r7 f8 r9 r10 r11 m12_0 m12_1 m13_0 m13_1 m14_0 m14_1 (sp_EM_copies_nz r34 r35 (25 * (120 + a1))) e = (1, k) ∧ sp_EM_comes_1_400_1 b n f3 r4 r9 r10 r11 m13_0 m13_1 r34 k r38 r39 r40 r41 gc f44 f47 f48 (q6 e) a1 e wy gl = (R34, R35, R38, R39, R40, R41, R44, gc') ∧ GS1 n wy gc' np Z' q1' s2' s3' s4' o qs' fz' R38 R39 R40 R41 R34 ∧ FUL gfull' (R44 1) gc' 400 ∧ gc ≤ gc' ∧ gc' ≤ 400 ∧ ((gc' = gc ∧ gf' = gf) ∨ (gc' = gc + 1 ∧ q1' gc = q6 e ∧ gf' = if (nI (q6 e) : Int32) = ggoal then 1 else gf)) ∧ (∀ s, s < gc → q1' s = q1 s) ∧ (∀ x, x ≠ o + gc → fz' x = fz x ∧ qs' x = qs x) ∧ (∀ j, j ≠ 1 → R44 j = f44 j) ∧ FRM1 r38 r39 r40 r41 r34 R38 R39 R40 R41 R34) := by
  have h0 : 0 < n := by omega
  have hn5 : n ≤ 5 := by omega
  have h10 := h.2.2.2.2.2.2.2
  obtain ⟨-, -, g3, g4, g5⟩ := h10 e he
  have hp8 := h.1.2.2.2.1
  have t7 : min (q6 e) 7 = q6 e := by omega
  obtain ⟨⟨p1, p2, p3, p4, p5⟩, p6, p7, p8, p9⟩ := hG a1 ha
  have em : min (qs (o + a1)) 5 = n := by omega
  have emn : min n 5 = n := by omega
  obtain ⟨u1, u2, u3, u4, u5⟩ := uv_ok (s := a1) hn5 (fun c => ⟨(hw c).1, by have := (hw c).2; omega⟩)
  have hy : ZR n (sp_EM_copies_nz r34 r35 (25 * (120 + a1))) (Z a1) := fun i j hi hj => by
    rw [copies_nz (5 * i + j) (by omega)]
    exact p9 i j hi hj
  have one0 : ¬ (1 : Nat) = 0 := by omega
  have ne1 : ∀ s, s < gc → o + s ≠ o + gc := fun s hs => by omega
  rcases taken_25 h w hb hn he p7 u2 u3 ⟨u4, by omega⟩ (copyOf_25 (fz := fz (o + gc)) p8) hy with ⟨g, k, D1, a1', b1, c1, d1, e1, l1⟩ | ⟨g, k, a1', b1⟩
  · obtain ⟨D2, c2, d2, e2⟩ := stays_25 h w hb hn g4 e1 u1 ⟨u4, u5⟩ c1 d1 l1
    obtain ⟨D3, c3, d3, e3⟩ := fgW_25 (s' := gc) hn5 h0 hF (fun c => ⟨(uv_up c ha).1, by have := (uv_up c ha).2; omega⟩) e2 c2 d2
    obtain ⟨s4', s5', er, er1, er2⟩ := record1_25 (gc := gc) (gf := gf) (a0 := q6 e) (a1 := a1) (a2 := e) (ggoal := ggoal) (q1 := q1) (s2 := s2) (s3 := s3) (s4 := s4) (s5 := s5) ha
    obtain ⟨FZ, w1, w2, w3⟩ : ∃ FZ, (∀ x, x ≠ o + gc → FZ x = fz x) ∧ FZ (o + gc) = (if wy = 0 then sp_E_0_stayIn_25 f4 q8 q9 f12 f13 n (sp_E_0_setBackIn_25 nc f7 n g e) (q6 e) else sp_E_7_forget_25 fhi flo n (sp_E_0_stayIn_25 f4 q8 q9 f12 f13 n (sp_E_0_setBackIn_25 nc f7 n g e) (q6 e))) ∧ ∀ K : Nat, sp_E_1_isKnown_25 gc gl q1 o (updN qs (o + gc) n) FZ (o + gc) (q6 e) = K → sp_E_1_step_25 gc gfull gx wy ggoal gf gl q1 s2 s3 s4 s5 fhi flo nc f4 q6 f7 q8 q9 f12 f13 o qs fz a1 e = (if K = 0 then (if gc = 400 then (q1, s2, s3, s4, s5, gf, gc, 1, gx ||| ((1 : Int32) <<< ((nI e : Int32) &&& 31)), FZ, updN qs (o + gc) n) else (updN q1 gc (q6 e), upd s2 gc (nI a1), upd s3 gc (nI e), s4', s5', (if (nI (q6 e) : Int32) = ggoal then 1 else gf), gc + 1, gfull, gx ||| ((1 : Int32) <<< ((nI e : Int32) &&& 31)), FZ, updN qs (o + gc) n)) else (q1, s2, s3, s4, s5, gf, gc, gfull, gx ||| ((1 : Int32) <<< ((nI e : Int32) &&& 31)), FZ, updN qs (o + gc) n)) := by
      by_cases cw : wy = 0
      · refine ⟨updZ (updZ (updZ (updZ fz (o + gc) (sp_E_7_copyOf_25 n (fz (o + a1)) (fz (o + gc)))) (o + gc) g) (o + gc) (sp_E_0_setBackIn_25 nc f7 n g e)) (o + gc) (sp_E_0_stayIn_25 f4 q8 q9 f12 f13 n (sp_E_0_setBackIn_25 nc f7 n g e) (q6 e)), fun x hx => by rw [uZ_n hx, uZ_n hx, uZ_n hx, uZ_n hx], by rw [uZ_s, if_pos cw], fun K hK => ?_⟩
        simp only [sp_E_1_step_25, slet, em, emn, updN_s, uZ_s, a1', t7, if_neg one0, if_pos cw, hK, er]
      · refine ⟨updZ (updZ (updZ (updZ (updZ fz (o + gc) (sp_E_7_copyOf_25 n (fz (o + a1)) (fz (o + gc)))) (o + gc) g) (o + gc) (sp_E_0_setBackIn_25 nc f7 n g e)) (o + gc) (sp_E_0_stayIn_25 f4 q8 q9 f12 f13 n (sp_E_0_setBackIn_25 nc f7 n g e) (q6 e))) (o + gc) (sp_E_7_forget_25 fhi flo n (sp_E_0_stayIn_25 f4 q8 q9 f12 f13 n (sp_E_0_setBackIn_25 nc f7 n g e) (q6 e))), fun x hx => by rw [uZ_n hx, uZ_n hx, uZ_n hx, uZ_n hx, uZ_n hx], by rw [uZ_s, if_neg cw], fun K hK => ?_⟩
        simp only [sp_E_1_step_25, slet, em, emn, updN_s, uZ_s, a1', t7, if_neg one0, if_neg cw, hK, er]
    have ec : sp_EM_comes_1_400_1 b n f3 r4 r9 r10 r11 m13_0 m13_1 r34 k r38 r39 r40 r41 gc f44 f47 f48 (q6 e) a1 e wy gl = itrv default (sp_EM_comes_1_400_1_L1 n r34 r38 r39 r40 r41 gc f44 (q6 e) a1 e gl (sp_EM_forgets n (if sp_EM_isUrgent b f3 (q6 e) = 0 then sp_EM_delays b n r4 r9 r10 r11 m13_0 m13_1 k (q6 e) else k) f47 f48 wy)) 0 := rfl
    rw [← w2] at c3
    have hG2 : GS1 n wy gc np Z q1 s2 s3 s4 o (updN qs (o + gc) n) FZ r38 r39 r40 r41 r34 := fun s hs => by
      obtain ⟨y1, y2, y3, y4, y5⟩ := hG s hs
      exact ⟨y1, by rw [updN_n (ne1 s hs)]; exact y2, y3, by rw [w1 _ (ne1 s hs)]; exact y4, y5⟩
    have fr : ∀ x, x ≠ o + gc → FZ x = fz x ∧ updN qs (o + gc) n x = qs x := fun x hx => ⟨w1 x hx, updN_n hx⟩
    have kn := isKnown_25 (gl := gl) (kk := o + gc) (a1 := q6 e) hn4 (q1 := q1) (fun s hs => ⟨(hG2 s hs).2.1, (hG2 s hs).2.2.2.1⟩) c3
    have rn := comesL_1_400 (l := gl) (a1 := q6 e) (a2 := a1) (a3 := e) (r38 := r38) (r39 := r39) (r40 := r40) (r41 := r41) (f44 := f44) d3 (fun s hs => (hG s hs).2.2.2.2) (hfu.elim (fun z => Or.inl z.2) (fun z => Or.inr z.2.2))
    have sw : ∀ s, s < gc → q1 s = r38 (120 + s) := fun s hs => (hG s hs).1.1
    refine Or.inr ?_
    rcases kn with ⟨K, kn⟩ | ⟨K, kn⟩
    · have es := w3 1 K
      rw [if_neg one0] at es
      rcases rn with ⟨rk, re⟩ | ⟨rk, -⟩ | ⟨rk, -⟩
      · exact ⟨k, q1, s2, s3, s4, s5, gf, gc, gfull, FZ, _, _, _, _, _, _, _, _, Z, es, b1, ec.trans re, hG2, hfu, Nat.le_refl _, hgc, Or.inl ⟨rfl, rfl⟩, fun _ _ => rfl, fr, fun _ _ => rfl, ⟨fun _ _ => ⟨rfl, rfl, rfl, rfl⟩, fun _ _ => rfl⟩⟩
      · exact absurd (kn.cg sw) rk
      · exact absurd (kn.cg sw) rk
    · have es := w3 0 K
      rw [if_pos rfl] at es
      rcases rn with ⟨rk, -⟩ | ⟨rk, rr, re⟩ | ⟨rk, rr, re⟩
      · exact absurd (rk.cg (fun s hs => (sw s hs).symm)) kn
      · rw [if_pos rr] at es
        exact ⟨k, q1, s2, s3, s4, s5, gf, gc, 1, FZ, _, _, _, _, _, _, _, _, Z, es, b1, ec.trans re, hG2, Or.inr ⟨rfl, upd_s, rr⟩, Nat.le_refl _, hgc, Or.inl ⟨rfl, rfl⟩, fun _ _ => rfl, fr, fun j hj => upd_n hj, ⟨fun _ _ => ⟨rfl, rfl, rfl, rfl⟩, fun _ _ => rfl⟩⟩
      · rw [if_neg rr] at es
        have z0 : gfull = 0 ∧ f44 1 = 0 := hfu.elim (fun z => z) (fun z => absurd z.2.2 rr)
        refine ⟨k, updN q1 gc (q6 e), upd s2 gc (nI a1), upd s3 gc (nI e), s4', s5', _, gc + 1, gfull, FZ, _, _, _, _, _, _, _, _, fun s => if s = gc then D3 else Z s, es, b1, ec.trans re, fun s hs => ?_, Or.inl z0, Nat.le_succ _, by omega, Or.inr ⟨rfl, updN_s, rfl⟩, fun s hs => updN_n (by omega), fr, fun _ _ => rfl, ⟨fun x hx => ⟨updN_n (by omega), upd_n (by omega), upd_n (by omega), upd_n (by omega)⟩, fun x hx => copies_zn.2 x (by omega)⟩⟩
        obtain ⟨cz1, cz2⟩ := copies_zn (f34 := r34) (f35 := sp_EM_forgets n (if sp_EM_isUrgent b f3 (q6 e) = 0 then sp_EM_delays b n r4 r9 r10 r11 m13_0 m13_1 k (q6 e) else k) f47 f48 wy) (a3 := 25 * (120 + gc))
        by_cases cs : s = gc
        · subst cs
          refine ⟨⟨?_, ?_, ?_, ?_, ?_⟩, ?_, ?_, ?_, ?_⟩
          · rw [updN_s, updN_s]
          · rw [updN_s]; exact g4
          · rw [upd_s, upd_s]
          · rw [upd_s, upd_s]
          · rw [er1, upd_s, p5]
          · rw [updN_s]
          · show ZOK n (UU wy s) (VV wy s) (if s = s then D3 else Z s)
            rw [if_pos rfl]; exact e3
          · show ZC n (FZ (o + s)) (if s = s then D3 else Z s)
            rw [if_pos rfl]; exact c3
          · show ZR n _ (if s = s then D3 else Z s)
            rw [if_pos rfl]
            intro i j hi hj
            show RFC (sp_EM_copies_zn r34 _ (25 * (120 + s)) (25 * (120 + s) + (5 * i + j))) (D3 i j)
            rw [cz1 (5 * i + j) (by omega)]
            exact d3 i j hi hj
        · have hs2 : s < gc := by omega
          obtain ⟨⟨y1, y2, y3, y4, y5⟩, y6, y7, y8, y9⟩ := hG2 s hs2
          have no : (120 + s) ≠ (120 + gc) := by omega
          refine ⟨⟨?_, ?_, ?_, ?_, ?_⟩, y6, ?_, ?_, ?_⟩
          · rw [updN_n cs, updN_n no]; exact y1
          · rw [updN_n cs]; exact y2
          · rw [upd_n cs, upd_n no]; exact y3
          · rw [upd_n cs, upd_n no]; exact y4
          · rw [er2 s cs, upd_n no]; exact y5
          · show ZOK n (UU wy s) (VV wy s) (if s = gc then D3 else Z s)
            rw [if_neg cs]; exact y7
          · show ZC n (FZ (o + s)) (if s = gc then D3 else Z s)
            rw [if_neg cs]; exact y8
          · show ZR n _ (if s = gc then D3 else Z s)
            rw [if_neg cs]
            intro i j hi hj
            show RFC (sp_EM_copies_zn r34 _ (25 * (120 + gc)) (25 * (120 + s) + (5 * i + j))) (Z s i j)
            rw [cz2 (25 * (120 + s) + (5 * i + j)) (by omega)]
            exact y9 i j hi hj
  · refine Or.inl ⟨updZ (updZ fz (o + gc) (sp_E_7_copyOf_25 n (fz (o + a1)) (fz (o + gc)))) (o + gc) g, updN qs (o + gc) n, k, ?_, b1, fun s hs => ?_, fun x hx => ⟨by rw [uZ_n hx, uZ_n hx], updN_n hx⟩⟩
    · simp only [sp_E_1_step_25, slet, em, emn, updN_s, uZ_s, a1', if_pos]
    · obtain ⟨y1, y2, y3, y4, y5⟩ := hG s hs
      exact ⟨y1, by rw [updN_n (ne1 s hs)]; exact y2, y3, by rw [uZ_n (ne1 s hs), uZ_n (ne1 s hs)]; exact y4, y5⟩
theorem FRM0.rf {r38 : Nat → Nat} {r39 r40 r41 r34 : Nat → Int32} : FRM0 r38 r39 r40 r41 r34 r38 r39 r40 r41 r34 := trivial
theorem FRM0.tr {r38 : Nat → Nat} {r39 r40 r41 r34 : Nat → Int32} {s38 : Nat → Nat} {s39 s40 s41 s34 : Nat → Int32} {t38 : Nat → Nat} {t39 t40 t41 t34 : Nat → Int32} (h : FRM0 r38 r39 r40 r41 r34 s38 s39 s40 s41 s34) (g : FRM0 s38 s39 s40 s41 s34 t38 t39 t40 t41 t34) : FRM0 r38 r39 r40 r41 r34 t38 t39 t40 t41 t34 := trivial
def HGL0 (goal : Int32) (cnt : Nat) (R38 : Nat → Nat) : Prop := ∃ s, s < cnt ∧ (nI (min (R38 s) 7) : Int32) = goal
def RFR0 (r38 : Nat → Nat) (r39 r40 r41 r34 r43 r44 : Nat → Int32) (R38 : Nat → Nat) (R39 R40 R41 R34 R43 R44 : Nat → Int32) : Prop := FRM0 r38 r39 r40 r41 r34 R38 R39 R40 R41 R34 ∧ ∀ j, j ≠ 0 → R43 j = r43 j ∧ R44 j = r44 j
def SIM0 (n : Nat) (wy : Int32) (np room : Nat) (goal gav : Int32) (o : Nat) (fz0 : Nat → Nat → Int32) (qs0 : Nat → Nat) (r38 : Nat → Nat) (r39 r40 r41 r34 r43 r44 : Nat → Int32) (lb gf gc gfull : Nat) (gx : Int32) (q1 : Nat → Nat) (s2 s3 s4 : Nat → Int32) (fz : Nat → Nat → Int32) (qs : Nat → Nat) (R38 : Nat → Nat) (R39 R40 R41 R34 R43 R44 : Nat → Int32) (cnt : Nat) : Prop :=
  (∀ x, (x < o ∨ o + room < x) → fz x = fz0 x ∧ qs x = qs0 x) ∧ RFR0 r38 r39 r40 r41 r34 r43 r44 R38 R39 R40 R41 R34 R43 R44 ∧ (lb ≤ cnt ∧ cnt ≤ room) ∧ ((gf = 0 ∧ gc = cnt ∧ (∃ Z, GS0 n wy cnt np Z q1 s2 s3 s4 o qs fz R38 R39 R40 R41 R34) ∧ FUL gfull (R44 0) cnt room ∧ gx = R43 0 ∧ ∀ s, s < cnt → ¬ (nI (min (R38 s) 7) : Int32) = goal) ∨ (gf = 1 ∧ HGL0 goal cnt R38 ∧ ¬ goal = gav))
theorem FRM1.rf {r38 : Nat → Nat} {r39 r40 r41 r34 : Nat → Int32} : FRM1 r38 r39 r40 r41 r34 r38 r39 r40 r41 r34 := ⟨fun _ _ => ⟨rfl, rfl, rfl, rfl⟩, fun _ _ => rfl⟩
theorem FRM1.tr {r38 : Nat → Nat} {r39 r40 r41 r34 : Nat → Int32} {s38 : Nat → Nat} {s39 s40 s41 s34 : Nat → Int32} {t38 : Nat → Nat} {t39 t40 t41 t34 : Nat → Int32} (h : FRM1 r38 r39 r40 r41 r34 s38 s39 s40 s41 s34) (g : FRM1 s38 s39 s40 s41 s34 t38 t39 t40 t41 t34) : FRM1 r38 r39 r40 r41 r34 t38 t39 t40 t41 t34 := ⟨fun x hx => ⟨(g.1 x hx).1.trans (h.1 x hx).1, (g.1 x hx).2.1.trans (h.1 x hx).2.1, (g.1 x hx).2.2.1.trans (h.1 x hx).2.2.1, (g.1 x hx).2.2.2.trans (h.1 x hx).2.2.2⟩, fun x hx => (g.2 x hx).trans (h.2 x hx)⟩
def HGL1 (goal : Int32) (cnt : Nat) (R38 : Nat → Nat) : Prop := ∃ s, s < cnt ∧ (nI (min (R38 (120 + s)) 7) : Int32) = goal
def RFR1 (r38 : Nat → Nat) (r39 r40 r41 r34 r43 r44 : Nat → Int32) (R38 : Nat → Nat) (R39 R40 R41 R34 R43 R44 : Nat → Int32) : Prop := FRM1 r38 r39 r40 r41 r34 R38 R39 R40 R41 R34 ∧ ∀ j, j ≠ 1 → R43 j = r43 j ∧ R44 j = r44 j
def SIM1 (n : Nat) (wy : Int32) (np room : Nat) (goal gav : Int32) (o : Nat) (fz0 : Nat → Nat → Int32) (qs0 : Nat → Nat) (r38 : Nat → Nat) (r39 r40 r41 r34 r43 r44 : Nat → Int32) (lb gf gc gfull : Nat) (gx : Int32) (q1 : Nat → Nat) (s2 s3 s4 : Nat → Int32) (fz : Nat → Nat → Int32) (qs : Nat → Nat) (R38 : Nat → Nat) (R39 R40 R41 R34 R43 R44 : Nat → Int32) (cnt : Nat) : Prop :=
  (∀ x, (x < o ∨ o + room < x) → fz x = fz0 x ∧ qs x = qs0 x) ∧ RFR1 r38 r39 r40 r41 r34 r43 r44 R38 R39 R40 R41 R34 R43 R44 ∧ (lb ≤ cnt ∧ cnt ≤ room) ∧ ((gf = 0 ∧ gc = cnt ∧ (∃ Z, GS1 n wy cnt np Z q1 s2 s3 s4 o qs fz R38 R39 R40 R41 R34) ∧ FUL gfull (R44 1) cnt room ∧ gx = R43 1 ∧ ∀ s, s < cnt → ¬ (nI (min (R38 (120 + s)) 7) : Int32) = goal) ∨ (gf = 1 ∧ HGL1 goal cnt R38 ∧ ¬ goal = gav))
theorem comesM_0_120 {b n t a1 e gl cnt m13_0 m13_1 : Nat} {wy : Int32} {f3 : Nat → Int32} {r4 r9 r10 : Nat → Nat} {r11 r34 k : Nat → Int32} {r38 : Nat → Nat} {r39 r40 r41 f44 f47 f48 : Nat → Int32} (hc : cnt ≤ 120) : ∃ R34 R35 R38 R39 R40 R41 R44 c', sp_EM_comes_0_120_1 b n f3 r4 r9 r10 r11 m13_0 m13_1 r34 k r38 r39 r40 r41 cnt f44 f47 f48 t a1 e wy gl = (R34, R35, R38, R39, R40, R41, R44, c') ∧ cnt ≤ c' ∧ c' ≤ 120 ∧ (∀ s, s < cnt → R38 s = r38 s) ∧ FRM0 r38 r39 r40 r41 r34 R38 R39 R40 R41 R34 ∧ ∀ j, j ≠ 0 → R44 j = f44 j := by
  obtain ⟨z, ez⟩ : ∃ z, sp_EM_forgets n (if sp_EM_isUrgent b f3 t = 0 then sp_EM_delays b n r4 r9 r10 r11 m13_0 m13_1 k t else k) f47 f48 wy = z := ⟨_, rfl⟩
  have ec : sp_EM_comes_0_120_1 b n f3 r4 r9 r10 r11 m13_0 m13_1 r34 k r38 r39 r40 r41 cnt f44 f47 f48 t a1 e wy gl = itrv default (sp_EM_comes_0_120_1_L1 n r34 r38 r39 r40 r41 cnt f44 t a1 e gl (sp_EM_forgets n (if sp_EM_isUrgent b f3 t = 0 then sp_EM_delays b n r4 r9 r10 r11 m13_0 m13_1 k t else k) f47 f48 wy)) 0 := rfl
  rw [ec, ez]
  refine itrv_inv (d := default) (f := sp_EM_comes_0_120_1_L1 n r34 r38 r39 r40 r41 cnt f44 t a1 e gl z) (fun k => k ≤ cnt) (fun r => ∃ R34 R35 R38 R39 R40 R41 R44 c', r = (R34, R35, R38, R39, R40, R41, R44, c') ∧ cnt ≤ c' ∧ c' ≤ 120 ∧ (∀ s, s < cnt → R38 s = r38 s) ∧ FRM0 r38 r39 r40 r41 r34 R38 R39 R40 R41 R34 ∧ ∀ j, j ≠ 0 → R44 j = f44 j) (fun k => cnt - k) ?_ cnt 0 (Nat.sub_le _ _) (Nat.zero_le _)
  intro k hk
  by_cases ce : cnt ≤ k
  · by_cases c : cnt = 120
    · exact Or.inr ⟨(r34, z, r38, r39, r40, r41, upd f44 0 1, cnt), by simp only [sp_EM_comes_0_120_1_L1, slet, if_pos ce, if_pos c, nar1], _, _, _, _, _, _, _, _, rfl, Nat.le_refl _, hc, fun _ _ => rfl, FRM0.rf, fun j hj => upd_n hj⟩
    · by_cases f0 : f44 0 = 0
      · exact Or.inr ⟨(sp_EM_copies_zn r34 z (25 * cnt), z, updN r38 cnt t, upd r39 cnt (nI a1), upd r40 cnt (nI e), upd r41 cnt (r41 a1 + 1), f44, cnt + 1), by simp only [sp_EM_comes_0_120_1_L1, slet, if_pos ce, if_neg c, if_pos f0], _, _, _, _, _, _, _, _, rfl, Nat.le_succ _, by omega, fun s hs => updN_n (by omega), trivial, fun _ _ => rfl⟩
      · exact Or.inr ⟨(r34, z, r38, r39, r40, r41, upd f44 0 1, cnt), by simp only [sp_EM_comes_0_120_1_L1, slet, if_pos ce, if_neg c, if_neg f0, nar1], _, _, _, _, _, _, _, _, rfl, Nat.le_refl _, hc, fun _ _ => rfl, FRM0.rf, fun j hj => upd_n hj⟩
  · by_cases c : min (r38 k) 7 = t
    · by_cases u : sp_EM_hasAll n r34 z k (if gl = 0 then 1 else 0) = 0
      · exact Or.inl ⟨k + 1, by simp only [sp_EM_comes_0_120_1_L1, slet, if_neg ce, if_pos c, if_pos u], by show k + 1 ≤ cnt; omega, by show cnt - (k + 1) < cnt - k; omega⟩
      · exact Or.inr ⟨(r34, z, r38, r39, r40, r41, f44, cnt), by simp only [sp_EM_comes_0_120_1_L1, slet, if_neg ce, if_pos c, if_neg u], _, _, _, _, _, _, _, _, rfl, Nat.le_refl _, hc, fun _ _ => rfl, FRM0.rf, fun _ _ => rfl⟩
    · exact Or.inl ⟨k + 1, by simp only [sp_EM_comes_0_120_1_L1, slet, if_neg ce, if_neg c], by show k + 1 ≤ cnt; omega, by show cnt - (k + 1) < cnt - k; omega⟩
/-- the reference alone goes on: what was come to stays -/
theorem exJ_0_120 {b n ne gl a1 lb m12_0 m12_1 m13_0 m13_1 m14_0 m14_1 : Nat} {wy gav goal : Int32} {f3 : Nat → Int32} {r4 r5 r6 r7 : Nat → Nat} {f8 : Nat → Int32} {r9 r10 : Nat → Nat} {r11 f47 f48 : Nat → Int32} {r38 : Nat → Nat} {r39 r40 r41 r34 r43 r44 : Nat → Int32} (e14 : (if b = 0 then m14_0 else m14_1) = ne) {T : (Nat → Int32) × (Nat → Int32) × (Nat → Nat) × (Nat → Int32) × (Nat → Int32) × (Nat → Int32) × (Nat → Int32) × (Nat → Int32) × Nat × Nat} (hT : ∃ R34 R35 R38 R39 R40 R41 R43 R44 cnt e, T = (R34, R35, R38, R39, R40, R41, R43, R44, cnt, e) ∧ RFR0 r38 r39 r40 r41 r34 r43 r44 R38 R39 R40 R41 R34 R43 R44 ∧ (lb ≤ cnt ∧ cnt ≤ 120) ∧ HGL0 goal cnt R38 ∧ e ≤ ne) : ∃ R34 R35 R38 R39 R40 R41 R43 R44 cnt, itrv (Sum.inr default) (sp_EM_explores_0_120_L1 b n f3 r4 r5 r6 r7 f8 r9 r10 r11 m12_0 m12_1 m13_0 m13_1 m14_0 m14_1 wy gl gav f47 f48 a1) T = .inl (R34, R35, R38, R39, R40, R41, R43, R44, cnt, a1 + 1) ∧ RFR0 r38 r39 r40 r41 r34 r43 r44 R38 R39 R40 R41 R34 R43 R44 ∧ (lb ≤ cnt ∧ cnt ≤ 120) ∧ HGL0 goal cnt R38 := by
  refine itrv_inv (d := Sum.inr default) (f := sp_EM_explores_0_120_L1 b n f3 r4 r5 r6 r7 f8 r9 r10 r11 m12_0 m12_1 m13_0 m13_1 m14_0 m14_1 wy gl gav f47 f48 a1) (fun T => ∃ R34 R35 R38 R39 R40 R41 R43 R44 cnt e, T = (R34, R35, R38, R39, R40, R41, R43, R44, cnt, e) ∧ RFR0 r38 r39 r40 r41 r34 r43 r44 R38 R39 R40 R41 R34 R43 R44 ∧ (lb ≤ cnt ∧ cnt ≤ 120) ∧ HGL0 goal cnt R38 ∧ e ≤ ne) (fun r => ∃ R34 R35 R38 R39 R40 R41 R43 R44 cnt, r = .inl (R34, R35, R38, R39, R40, R41, R43, R44, cnt, a1 + 1) ∧ RFR0 r38 r39 r40 r41 r34 r43 r44 R38 R39 R40 R41 R34 R43 R44 ∧ (lb ≤ cnt ∧ cnt ≤ 120) ∧ HGL0 goal cnt R38) (fun (_, _, _, _, _, _, _, _, _, e) => ne - e) ?_ _ T (Nat.le_refl _) hT
  rintro _ ⟨R34, R35, R38, R39, R40, R41, R43, R44, cnt, e, rfl, hR, hl, hh, he⟩
  by_cases ce : ne ≤ e
  · exact Or.inr ⟨.inl (R34, R35, R38, R39, R40, R41, R43, R44, cnt, a1 + 1), by simp only [sp_EM_explores_0_120_L1, slet, e14, if_pos ce], _, _, _, _, _, _, _, _, _, rfl, hR, hl, hh⟩
  · have ms : ne - (e + 1) < ne - e := by omega
    obtain ⟨⟨u, k⟩, eg⟩ : ∃ x, sp_EM_goesBy b n r4 r6 r7 f8 r9 r10 r11 m12_0 m12_1 m13_0 m13_1 m14_0 m14_1 (sp_EM_copies_nz R34 R35 (25 * a1)) e = x := ⟨_, rfl⟩
    obtain ⟨S34, S35, S38, S39, S40, S41, S44, c', ec, l1, l2, l3, l4, l5⟩ := comesM_0_120 (b := b) (n := n) (t := min (r6 (14 * b + e)) 7) (a1 := a1) (e := e) (gl := gl) (m13_0 := m13_0) (m13_1 := m13_1) (wy := wy) (f3 := f3) (r4 := r4) (r9 := r9) (r10 := r10) (r11 := r11) (r34 := R34) (k := k) (r38 := R38) (r39 := R39) (r40 := R40) (r41 := R41) (f44 := R44) (f47 := f47) (f48 := f48) hl.2
    by_cases c1 : min (r5 (14 * b + e)) 7 = min (R38 a1) 7
    · by_cases c2 : (nI (min (r6 (14 * b + e)) 7) : Int32) = gav
      · exact Or.inl ⟨(R34, R35, R38, R39, R40, R41, R43, R44, cnt, e + 1), by simp only [sp_EM_explores_0_120_L1, sp_EM_outOf, sp_EM_into, slet, e14, if_neg ce, if_pos c1, if_pos c2, eg, ec], ⟨_, _, _, _, _, _, _, _, _, _, rfl, hR, hl, hh, by omega⟩, ms⟩
      · by_cases u0 : u = 0
        · exact Or.inl ⟨(R34, k, R38, R39, R40, R41, R43, R44, cnt, e + 1), by simp only [sp_EM_explores_0_120_L1, sp_EM_outOf, sp_EM_into, slet, e14, if_neg ce, if_pos c1, if_neg c2, eg, ec, if_pos u0], ⟨_, _, _, _, _, _, _, _, _, _, rfl, hR, hl, hh, by omega⟩, ms⟩
        · refine Or.inl ⟨(S34, S35, S38, S39, S40, S41, upd R43 0 (R43 0 ||| ((1 : Int32) <<< ((nI e : Int32) &&& 31))), S44, c', e + 1), by simp only [sp_EM_explores_0_120_L1, sp_EM_outOf, sp_EM_into, slet, e14, if_neg ce, if_pos c1, if_neg c2, eg, if_neg u0, ec], ⟨_, _, _, _, _, _, _, _, _, _, rfl, ⟨hR.1.tr l4, fun j hj => ⟨by rw [upd_n hj]; exact (hR.2 j hj).1, (l5 j hj).trans (hR.2 j hj).2⟩⟩, ⟨by omega, l2⟩, ?_, by omega⟩, ms⟩
          obtain ⟨s, h1, h2⟩ := hh
          exact ⟨s, by omega, by rw [l3 s h1]; exact h2⟩
    · exact Or.inl ⟨(R34, R35, R38, R39, R40, R41, R43, R44, cnt, e + 1), by simp only [sp_EM_explores_0_120_L1, sp_EM_outOf, sp_EM_into, slet, e14, if_neg ce, if_neg c1, eg, ec], ⟨_, _, _, _, _, _, _, _, _, _, rfl, hR, hl, hh, by omega⟩, ms⟩
theorem exK_0_120 {b n ne gl : Nat} {m12_0 m12_1 m13_0 m13_1 m14_0 m14_1 : Nat} {wy gav goal : Int32} {f3 : Nat → Int32} {r4 r5 r6 r7 : Nat → Nat} {f8 : Nat → Int32} {r9 r10 : Nat → Nat} {r11 f47 f48 : Nat → Int32} {r38 : Nat → Nat} {r39 r40 r41 r34 r43 r44 : Nat → Int32} (e14 : (if b = 0 then m14_0 else m14_1) = ne) {T : (Nat → Int32) × (Nat → Int32) × (Nat → Nat) × (Nat → Int32) × (Nat → Int32) × (Nat → Int32) × (Nat → Int32) × (Nat → Int32) × Nat × Nat} (hT : ∃ R34 R35 R38 R39 R40 R41 R43 R44 cnt s, T = (R34, R35, R38, R39, R40, R41, R43, R44, cnt, s) ∧ RFR0 r38 r39 r40 r41 r34 r43 r44 R38 R39 R40 R41 R34 R43 R44 ∧ cnt ≤ 120 ∧ HGL0 goal cnt R38) : ∃ R34 R35 R38 R39 R40 R41 R43 R44 cnt, itrv default (sp_EM_explores_0_120_L2 b n f3 r4 r5 r6 r7 f8 r9 r10 r11 m12_0 m12_1 m13_0 m13_1 m14_0 m14_1 wy gl gav f47 f48) T = (R34, R35, R38, R39, R40, R41, R43, R44, f47, f48, cnt) ∧ RFR0 r38 r39 r40 r41 r34 r43 r44 R38 R39 R40 R41 R34 R43 R44 ∧ cnt ≤ 120 ∧ HGL0 goal cnt R38 := by
  refine itrv_inv (d := default) (f := sp_EM_explores_0_120_L2 b n f3 r4 r5 r6 r7 f8 r9 r10 r11 m12_0 m12_1 m13_0 m13_1 m14_0 m14_1 wy gl gav f47 f48) (fun T => ∃ R34 R35 R38 R39 R40 R41 R43 R44 cnt s, T = (R34, R35, R38, R39, R40, R41, R43, R44, cnt, s) ∧ RFR0 r38 r39 r40 r41 r34 r43 r44 R38 R39 R40 R41 R34 R43 R44 ∧ cnt ≤ 120 ∧ HGL0 goal cnt R38) (fun r => ∃ R34 R35 R38 R39 R40 R41 R43 R44 cnt, r = (R34, R35, R38, R39, R40, R41, R43, R44, f47, f48, cnt) ∧ RFR0 r38 r39 r40 r41 r34 r43 r44 R38 R39 R40 R41 R34 R43 R44 ∧ cnt ≤ 120 ∧ HGL0 goal cnt R38) (fun (_, _, _, _, _, _, _, _, _, s) => 120 - s) ?_ _ T (Nat.le_refl _) hT
  rintro _ ⟨R34, R35, R38, R39, R40, R41, R43, R44, cnt, s, rfl, hR, hl, hh⟩
  by_cases ce : cnt ≤ s
  · exact Or.inr ⟨(R34, R35, R38, R39, R40, R41, R43, R44, f47, f48, cnt), by simp only [sp_EM_explores_0_120_L2, if_pos ce], _, _, _, _, _, _, _, _, _, rfl, hR, hl, hh⟩
  · obtain ⟨S34, S35, S38, S39, S40, S41, S43, S44, c', ej, k1, k2, k3⟩ := exJ_0_120 (b := b) (n := n) (gl := gl) (a1 := s) (lb := 0) (m12_0 := m12_0) (m12_1 := m12_1) (m13_0 := m13_0) (m13_1 := m13_1) (wy := wy) (gav := gav) (goal := goal) (f3 := f3) (r4 := r4) (r5 := r5) (r6 := r6) (r7 := r7) (f8 := f8) (r9 := r9) (r10 := r10) (r11 := r11) (f47 := f47) (f48 := f48) e14 (T := (R34, R35, R38, R39, R40, R41, R43, R44, cnt, 0)) ⟨_, _, _, _, _, _, _, _, _, _, rfl, hR, ⟨Nat.zero_le _, hl⟩, hh, Nat.zero_le _⟩
    exact Or.inl ⟨(S34, S35, S38, S39, S40, S41, S43, S44, c', s + 1), by simp only [sp_EM_explores_0_120_L2, if_neg ce, ej], ⟨_, _, _, _, _, _, _, _, _, _, rfl, k1, k2.2, k3⟩, by show 120 - (s + 1) < 120 - s; omega⟩
theorem growJ_0_120 {b n nc np ne a1 gl o : Nat} {st0 : Int32} {f4 : Nat → Int32} {q5 q6 : Nat → Nat} {f7 : Nat → Int32} {q8 q9 : Nat → Nat} {f10 f11 f12 f13 : Nat → Int32} {f3 : Nat → Int32} {r4 r5 r6 r7 : Nat → Nat} {f8 : Nat → Int32} {r9 r10 : Nat → Nat} {r11 : Nat → Int32} {m12_0 m12_1 m13_0 m13_1 m14_0 m14_1 m15 : Nat} (h : MB b nc np ne st0 f4 q5 q6 f7 q8 q9 f10 f11 f3 r4 r5 r6 r7 f8 r9 r10 r11 (bkN b m12_0 m12_1) (bkN b m13_0 m13_1) (bkN b m14_0 m14_1) m15) (w : WFm nc np ne f4 q8 q9 f10 f11 f12 f13) (hb : b ≤ 1) (hn : nc + 1 ≤ n) (hn4 : n ≤ 4) {wy gav goal : Int32} (hw : wy = 0 → n ≤ 4 ∧ 120 ≤ 120) {hh ll : Nat → Nat} {fhi flo f47 f48 : Nat → Int32} (hF : FGH n hh ll fhi flo f47 f48) {fz0 : Nat → Nat → Int32} {qs0 : Nat → Nat} {r38 : Nat → Nat} {r39 r40 r41 r34 r43 r44 : Nat → Int32} {t : (Nat → Nat) × (Nat → Int32) × (Nat → Int32) × (Nat → Int32) × (Nat → Int32) × Nat × Nat × Nat × Int32 × Nat × (Nat → Nat → Int32) × (Nat → Nat)} {t' : (Nat → Int32) × (Nat → Int32) × (Nat → Nat) × (Nat → Int32) × (Nat → Int32) × (Nat → Int32) × (Nat → Int32) × (Nat → Int32) × Nat × Nat}
  (hT : ∃ q1 s2 s3 s4 s5 gf gc gfull gx e fz qs R34 R35 R38 R39 R40 R41 R43 R44 cnt, t = (q1, s2, s3, s4, s5, gf, gc, gfull, gx, e, fz, qs) ∧ t' = (R34, R35, R38, R39, R40, R41, R43, R44, cnt, e) ∧ e ≤ ne ∧ SIM0 n wy np 120 goal gav o fz0 qs0 r38 r39 r40 r41 r34 r43 r44 (a1 + 1) gf gc gfull gx q1 s2 s3 s4 fz qs R38 R39 R40 R41 R34 R43 R44 cnt) :
  ∃ e gc gfull gx gf q1 s2 s3 s4 s5 qs fz R34 R35 R38 R39 R40 R41 R43 R44 cnt, itrv default (sp_E_1_grow_16_L1 wy gav goal gl fhi flo nc ne f4 q5 q6 f7 q8 q9 f12 f13 o a1) t = (e, gc, gfull, gx, gf, q1, s2, s3, s4, s5, qs, fz) ∧ itrv (Sum.inr default) (sp_EM_explores_0_120_L1 b n f3 r4 r5 r6 r7 f8 r9 r10 r11 m12_0 m12_1 m13_0 m13_1 m14_0 m14_1 wy gl gav f47 f48 a1) t' = .inl (R34, R35, R38, R39, R40, R41, R43, R44, cnt, a1 + 1) ∧ SIM0 n wy np 120 goal gav o fz0 qs0 r38 r39 r40 r41 r34 r43 r44 (a1 + 1) gf gc gfull gx q1 s2 s3 s4 fz qs R38 R39 R40 R41 R34 R43 R44 cnt := by
  have e14 : (if b = 0 then m14_0 else m14_1) = ne := h.1.2.2.2.2.1
  have hp8 := h.1.2.2.2.1
  have h10 := h.2.2.2.2.2.2.2
  refine itrv_sim (d := default) (d' := Sum.inr default) (f := sp_E_1_grow_16_L1 wy gav goal gl fhi flo nc ne f4 q5 q6 f7 q8 q9 f12 f13 o a1) (g := sp_EM_explores_0_120_L1 b n f3 r4 r5 r6 r7 f8 r9 r10 r11 m12_0 m12_1 m13_0 m13_1 m14_0 m14_1 wy gl gav f47 f48 a1)
    (fun t t' => ∃ q1 s2 s3 s4 s5 gf gc gfull gx e fz qs R34 R35 R38 R39 R40 R41 R43 R44 cnt, t = (q1, s2, s3, s4, s5, gf, gc, gfull, gx, e, fz, qs) ∧ t' = (R34, R35, R38, R39, R40, R41, R43, R44, cnt, e) ∧ e ≤ ne ∧ SIM0 n wy np 120 goal gav o fz0 qs0 r38 r39 r40 r41 r34 r43 r44 (a1 + 1) gf gc gfull gx q1 s2 s3 s4 fz qs R38 R39 R40 R41 R34 R43 R44 cnt)
    (fun r r' => ∃ e gc gfull gx gf q1 s2 s3 s4 s5 qs fz R34 R35 R38 R39 R40 R41 R43 R44 cnt, r = (e, gc, gfull, gx, gf, q1, s2, s3, s4, s5, qs, fz) ∧ r' = .inl (R34, R35, R38, R39, R40, R41, R43, R44, cnt, a1 + 1) ∧ SIM0 n wy np 120 goal gav o fz0 qs0 r38 r39 r40 r41 r34 r43 r44 (a1 + 1) gf gc gfull gx q1 s2 s3 s4 fz qs R38 R39 R40 R41 R34 R43 R44 cnt)
    (fun (_, _, _, _, _, _, _, _, _, e, _, _) => ne - e) ?_ _ t t' (Nat.le_refl _) hT
  rintro _ _ ⟨q1, s2, s3, s4, s5, gf, gc, gfull, gx, e, fz, qs, R34, R35, R38, R39, R40, R41, R43, R44, cnt, rfl, rfl, he, k1, k2, k3, k4⟩
  by_cases ce : ne ≤ e
  · refine Or.inr ⟨(e, gc, gfull, gx, gf, q1, s2, s3, s4, s5, qs, fz), by simp only [sp_E_1_grow_16_L1, if_pos ce], _, _, _, _, _, _, _, _, _, _, _, _, R34, R35, R38, R39, R40, R41, R43, R44, cnt, rfl, ?_, k1, k2, k3, k4⟩
    exact itrv_inr (by simp only [sp_EM_explores_0_120_L1, slet, e14, if_pos ce])
  · have he2 : e < ne := by omega
    have ms : ne - (e + 1) < ne - e := by omega
    rcases k4 with ⟨gf0, rfl, ⟨Z, hG⟩, hfu, hx, ng⟩ | ⟨gf1, hg, hga⟩
    · obtain ⟨g1, g2, g3, g4, g5⟩ := h10 e he2
      have t7 : min (q6 e) 7 = q6 e := by omega
      have t7' : min (r6 (14 * b + e)) 7 = q6 e := by rw [← g3]; omega
      have sq : q1 a1 = R38 a1 := (hG a1 (by omega)).1.1
      obtain ⟨⟨u0, k0⟩, eg0⟩ : ∃ x, sp_EM_goesBy b n r4 r6 r7 f8 r9 r10 r11 m12_0 m12_1 m13_0 m13_1 m14_0 m14_1 (sp_EM_copies_nz R34 R35 (25 * a1)) e = x := ⟨_, rfl⟩
      obtain ⟨⟨v1, v2, v3, v4, v5, v6, v7, v8⟩, ec0⟩ : ∃ x, sp_EM_comes_0_120_1 b n f3 r4 r9 r10 r11 m13_0 m13_1 R34 k0 R38 R39 R40 R41 gc R44 f47 f48 (q6 e) a1 e wy gl = x := ⟨_, rfl⟩
      by_cases c1 : min (q5 e) 7 = min (q1 a1) 7
      · have c1' : min (r5 (14 * b + e)) 7 = min (R38 a1) 7 := by rw [← g1, ← sq]; exact c1
        by_cases c2 : (nI (q6 e) : Int32) = gav
        · exact Or.inl ⟨(q1, s2, s3, s4, s5, gf, gc, gfull, gx, e + 1, fz, qs), (R34, R35, R38, R39, R40, R41, R43, R44, gc, e + 1), by simp only [sp_E_1_grow_16_L1, slet, if_neg ce, if_pos gf0, if_pos c1, t7, if_pos c2], by simp only [sp_EM_explores_0_120_L1, sp_EM_outOf, sp_EM_into, slet, e14, if_neg ce, if_pos c1', t7', if_pos c2, eg0, ec0], ⟨_, _, _, _, _, _, _, _, _, _, _, _, _, _, _, _, _, _, _, _, _, rfl, rfl, by omega, k1, k2, k3, Or.inl ⟨gf0, rfl, ⟨Z, hG⟩, hfu, hx, ng⟩⟩, ms⟩
        · rcases step_0_120 h w hb hn hn4 he2 (show a1 < gc by omega) k3.2 (fun c => ⟨(hw c).1, by have := (hw c).2; omega⟩) hF hG (gf := gf) (gl := gl) (gx := gx) (ggoal := goal) (s5 := s5) (r35 := R35) (f44 := R44) hfu with ⟨fz', qs', k, x1, x2, x3, x4⟩ | ⟨k, q1', s2', s3', s4', s5', gf', gc', gfull', fz', qs', S34, S35, S38, S39, S40, S41, S44, Z', x1, x2, x3, x4, x5, x6, x7, x8, x9, x10, x11, x12⟩
          · exact Or.inl ⟨(q1, s2, s3, s4, s5, gf, gc, gfull, gx, e + 1, fz', qs'), (R34, k, R38, R39, R40, R41, R43, R44, gc, e + 1), by simp only [sp_E_1_grow_16_L1, slet, if_neg ce, if_pos gf0, if_pos c1, t7, if_neg c2, x1], by simp only [sp_EM_explores_0_120_L1, sp_EM_outOf, sp_EM_into, slet, e14, if_neg ce, if_pos c1', t7', if_neg c2, x2, if_pos], ⟨_, _, _, _, _, _, _, _, _, _, _, _, _, _, _, _, _, _, _, _, _, rfl, rfl, by omega, fun x hx => ⟨((x4 x (by omega)).1).trans (k1 x hx).1, ((x4 x (by omega)).2).trans (k1 x hx).2⟩, k2, k3, Or.inl ⟨gf0, rfl, ⟨Z, x3⟩, hfu, hx, ng⟩⟩, ms⟩
          · refine Or.inl ⟨(q1', s2', s3', s4', s5', gf', gc', gfull', gx ||| ((1 : Int32) <<< ((nI e : Int32) &&& 31)), e + 1, fz', qs'), (S34, S35, S38, S39, S40, S41, upd R43 0 (R43 0 ||| ((1 : Int32) <<< ((nI e : Int32) &&& 31))), S44, gc', e + 1), by simp only [sp_E_1_grow_16_L1, slet, if_neg ce, if_pos gf0, if_pos c1, t7, if_neg c2, x1], by simp only [sp_EM_explores_0_120_L1, sp_EM_outOf, sp_EM_into, slet, e14, if_neg ce, if_pos c1', t7', if_neg c2, x2, if_neg (show ¬ (1 : Nat) = 0 by omega), x3], ⟨_, _, _, _, _, _, _, _, _, _, _, _, _, _, _, _, _, _, _, _, _, rfl, rfl, by omega, fun x hx => ⟨((x10 x (by omega)).1).trans (k1 x hx).1, ((x10 x (by omega)).2).trans (k1 x hx).2⟩, ⟨k2.1.tr x12, fun j hj => ⟨by rw [upd_n hj]; exact (k2.2 j hj).1, (x11 j hj).trans (k2.2 j hj).2⟩⟩, ⟨by omega, x7⟩, ?_⟩, ms⟩
            have sS : ∀ s, s < gc → S38 s = R38 s := fun s hs => (x4 s (by omega)).1.1.symm.trans ((x9 s hs).trans (hG s hs).1.1)
            have m0 : gf' = 0 → (∀ s, s < gc' → ¬ (nI (min (S38 s) 7) : Int32) = goal) → (gf' = 0 ∧ gc' = gc' ∧ (∃ Z, GS0 n wy gc' np Z q1' s2' s3' s4' o qs' fz' S38 S39 S40 S41 S34) ∧ FUL gfull' (S44 0) gc' 120 ∧ (gx ||| ((1 : Int32) <<< ((nI e : Int32) &&& 31))) = upd R43 0 (R43 0 ||| ((1 : Int32) <<< ((nI e : Int32) &&& 31))) 0 ∧ ∀ s, s < gc' → ¬ (nI (min (S38 s) 7) : Int32) = goal) := fun z n1 => ⟨z, rfl, ⟨Z', x4⟩, x5, by rw [upd_s, hx], n1⟩
            rcases x8 with ⟨y1, y2⟩ | ⟨y1, y2, y3⟩
            · exact Or.inl (m0 (y2.trans gf0) (fun s hs => by rw [sS s (by omega)]; exact ng s (by omega)))
            · by_cases cg : (nI (q6 e) : Int32) = goal
              · rw [if_pos cg] at y3
                refine Or.inr ⟨y3, ⟨gc, by omega, ?_⟩, by rw [← cg]; exact c2⟩
                rw [← (x4 gc (by omega)).1.1, y2, t7]; exact cg
              · rw [if_neg cg] at y3
                refine Or.inl (m0 (y3.trans gf0) (fun s hs => ?_))
                by_cases cs : s = gc
                · rw [cs, ← (x4 gc (by omega)).1.1, y2, t7]; exact cg
                · rw [sS s (by omega)]; exact ng s (by omega)
      · have c1' : ¬ min (r5 (14 * b + e)) 7 = min (R38 a1) 7 := by rw [← g1, ← sq]; exact c1
        exact Or.inl ⟨(q1, s2, s3, s4, s5, gf, gc, gfull, gx, e + 1, fz, qs), (R34, R35, R38, R39, R40, R41, R43, R44, gc, e + 1), by simp only [sp_E_1_grow_16_L1, slet, if_neg ce, if_pos gf0, if_neg c1], by simp only [sp_EM_explores_0_120_L1, sp_EM_outOf, sp_EM_into, slet, e14, if_neg ce, t7', if_neg c1', eg0, ec0], ⟨_, _, _, _, _, _, _, _, _, _, _, _, _, _, _, _, _, _, _, _, _, rfl, rfl, by omega, k1, k2, k3, Or.inl ⟨gf0, rfl, ⟨Z, hG⟩, hfu, hx, ng⟩⟩, ms⟩
    · have gn : ¬ gf = 0 := by omega
      obtain ⟨S34, S35, S38, S39, S40, S41, S43, S44, c', ej, y1, y2, y3⟩ := exJ_0_120 (b := b) (n := n) (gl := gl) (a1 := a1) (lb := a1 + 1) (m12_0 := m12_0) (m12_1 := m12_1) (m13_0 := m13_0) (m13_1 := m13_1) (wy := wy) (gav := gav) (goal := goal) (f3 := f3) (r4 := r4) (r5 := r5) (r6 := r6) (r7 := r7) (f8 := f8) (r9 := r9) (r10 := r10) (r11 := r11) (f47 := f47) (f48 := f48) e14 (T := (R34, R35, R38, R39, R40, R41, R43, R44, cnt, e)) ⟨_, _, _, _, _, _, _, _, _, _, rfl, k2, k3, hg, he⟩
      exact Or.inr ⟨(e, gc, gfull, gx, gf, q1, s2, s3, s4, s5, qs, fz), by simp only [sp_E_1_grow_16_L1, if_neg ce, if_neg gn], _, _, _, _, _, _, _, _, _, _, _, _, _, _, _, _, _, _, _, _, _, rfl, ej, k1, y1, y2, Or.inr ⟨gf1, y3, hga⟩⟩
theorem growK_0_120 {b n nc np ne gl o : Nat} {st0 : Int32} {f4 : Nat → Int32} {q5 q6 : Nat → Nat} {f7 : Nat → Int32} {q8 q9 : Nat → Nat} {f10 f11 f12 f13 : Nat → Int32} {f3 : Nat → Int32} {r4 r5 r6 r7 : Nat → Nat} {f8 : Nat → Int32} {r9 r10 : Nat → Nat} {r11 : Nat → Int32} {m12_0 m12_1 m13_0 m13_1 m14_0 m14_1 m15 : Nat} (h : MB b nc np ne st0 f4 q5 q6 f7 q8 q9 f10 f11 f3 r4 r5 r6 r7 f8 r9 r10 r11 (bkN b m12_0 m12_1) (bkN b m13_0 m13_1) (bkN b m14_0 m14_1) m15) (w : WFm nc np ne f4 q8 q9 f10 f11 f12 f13) (hb : b ≤ 1) (hn : nc + 1 ≤ n) (hn4 : n ≤ 4) {wy gav goal : Int32} (hw : wy = 0 → n ≤ 4 ∧ 120 ≤ 120) {hh ll : Nat → Nat} {fhi flo f47 f48 : Nat → Int32} (hF : FGH n hh ll fhi flo f47 f48) {fz0 : Nat → Nat → Int32} {qs0 : Nat → Nat} {r38 : Nat → Nat} {r39 r40 r41 r34 r43 r44 : Nat → Int32} {t : (Nat → Nat) × (Nat → Int32) × (Nat → Int32) × (Nat → Int32) × (Nat → Int32) × Nat × Nat × Nat × Int32 × Nat × (Nat → Nat → Int32) × (Nat → Nat)} {t' : (Nat → Int32) × (Nat → Int32) × (Nat → Nat) × (Nat → Int32) × (Nat → Int32) × (Nat → Int32) × (Nat → Int32) × (Nat → Int32) × Nat × Nat}
  (hT : ∃ q1 s2 s3 s4 s5 gf gc gfull gx s fz qs R34 R35 R38 R39 R40 R41 R43 R44 cnt, t = (q1, s2, s3, s4, s5, gf, gc, gfull, gx, s, fz, qs) ∧ t' = (R34, R35, R38, R39, R40, R41, R43, R44, cnt, s) ∧ SIM0 n wy np 120 goal gav o fz0 qs0 r38 r39 r40 r41 r34 r43 r44 0 gf gc gfull gx q1 s2 s3 s4 fz qs R38 R39 R40 R41 R34 R43 R44 cnt) :
  ∃ q1 s2 s3 s4 s5 gf gc gfull gx fz qs R34 R35 R38 R39 R40 R41 R43 R44 cnt, itrv default (sp_E_1_grow_16_L2 wy gav goal gl fhi flo nc ne f4 q5 q6 f7 q8 q9 f12 f13 o) t = (q1, s2, s3, s4, s5, gf, gc, gfull, gx, fz, qs) ∧ itrv default (sp_EM_explores_0_120_L2 b n f3 r4 r5 r6 r7 f8 r9 r10 r11 m12_0 m12_1 m13_0 m13_1 m14_0 m14_1 wy gl gav f47 f48) t' = (R34, R35, R38, R39, R40, R41, R43, R44, f47, f48, cnt) ∧ SIM0 n wy np 120 goal gav o fz0 qs0 r38 r39 r40 r41 r34 r43 r44 0 gf gc gfull gx q1 s2 s3 s4 fz qs R38 R39 R40 R41 R34 R43 R44 cnt := by
  have e14 : (if b = 0 then m14_0 else m14_1) = ne := h.1.2.2.2.2.1
  refine itrv_sim (d := default) (d' := default) (f := sp_E_1_grow_16_L2 wy gav goal gl fhi flo nc ne f4 q5 q6 f7 q8 q9 f12 f13 o) (g := sp_EM_explores_0_120_L2 b n f3 r4 r5 r6 r7 f8 r9 r10 r11 m12_0 m12_1 m13_0 m13_1 m14_0 m14_1 wy gl gav f47 f48)
    (fun t t' => ∃ q1 s2 s3 s4 s5 gf gc gfull gx s fz qs R34 R35 R38 R39 R40 R41 R43 R44 cnt, t = (q1, s2, s3, s4, s5, gf, gc, gfull, gx, s, fz, qs) ∧ t' = (R34, R35, R38, R39, R40, R41, R43, R44, cnt, s) ∧ SIM0 n wy np 120 goal gav o fz0 qs0 r38 r39 r40 r41 r34 r43 r44 0 gf gc gfull gx q1 s2 s3 s4 fz qs R38 R39 R40 R41 R34 R43 R44 cnt)
    (fun r r' => ∃ q1 s2 s3 s4 s5 gf gc gfull gx fz qs R34 R35 R38 R39 R40 R41 R43 R44 cnt, r = (q1, s2, s3, s4, s5, gf, gc, gfull, gx, fz, qs) ∧ r' = (R34, R35, R38, R39, R40, R41, R43, R44, f47, f48, cnt) ∧ SIM0 n wy np 120 goal gav o fz0 qs0 r38 r39 r40 r41 r34 r43 r44 0 gf gc gfull gx q1 s2 s3 s4 fz qs R38 R39 R40 R41 R34 R43 R44 cnt)
    (fun (_, _, _, _, _, _, _, _, _, s, _, _) => 120 - s) ?_ _ t t' (Nat.le_refl _) hT
  rintro _ _ ⟨q1, s2, s3, s4, s5, gf, gc, gfull, gx, s, fz, qs, R34, R35, R38, R39, R40, R41, R43, R44, cnt, rfl, rfl, k1, k2, k3, k4⟩
  rcases k4 with ⟨gf0, rfl, hZ, hfu, hx, ng⟩ | ⟨gf1, hg, hga⟩
  · by_cases ce : gc ≤ s
    · exact Or.inr ⟨(q1, s2, s3, s4, s5, gf, gc, gfull, gx, fz, qs), by simp only [sp_E_1_grow_16_L2, if_pos ce], _, _, _, _, _, _, _, _, _, _, _, R34, R35, R38, R39, R40, R41, R43, R44, gc, rfl, itrv_inr (by simp only [sp_EM_explores_0_120_L2, if_pos ce]), k1, k2, k3, Or.inl ⟨gf0, rfl, hZ, hfu, hx, ng⟩⟩
    · obtain ⟨e, gc', gfull', gx', gf', q1', s2', s3', s4', s5', qs', fz', S34, S35, S38, S39, S40, S41, S43, S44, c', x1, x2, y1, y2, y3, y4⟩ := growJ_0_120 (a1 := s) (gl := gl) (gav := gav) h w hb hn hn4 hw hF (t := (q1, s2, s3, s4, s5, gf, gc, gfull, gx, 0, fz, qs)) (t' := (R34, R35, R38, R39, R40, R41, R43, R44, gc, 0)) ⟨_, _, _, _, _, _, _, _, _, _, _, _, _, _, _, _, _, _, _, _, _, rfl, rfl, Nat.zero_le _, k1, k2, ⟨by omega, k3.2⟩, Or.inl ⟨gf0, rfl, hZ, hfu, hx, ng⟩⟩
      exact Or.inl ⟨(q1', s2', s3', s4', s5', gf', gc', gfull', gx', s + 1, fz', qs'), (S34, S35, S38, S39, S40, S41, S43, S44, c', s + 1), by simp only [sp_E_1_grow_16_L2, slet, if_neg ce, if_pos gf0, x1], by simp only [sp_EM_explores_0_120_L2, if_neg ce, x2], ⟨_, _, _, _, _, _, _, _, _, _, _, _, _, _, _, _, _, _, _, _, _, rfl, rfl, y1, y2, ⟨Nat.zero_le _, y3.2⟩, y4⟩, by show 120 - (s + 1) < 120 - s; omega⟩
  · have gn : ¬ gf = 0 := by omega
    obtain ⟨S34, S35, S38, S39, S40, S41, S43, S44, c', ej, y1, y2, y3⟩ := exK_0_120 (b := b) (n := n) (gl := gl) (m12_0 := m12_0) (m12_1 := m12_1) (m13_0 := m13_0) (m13_1 := m13_1) (wy := wy) (gav := gav) (goal := goal) (f3 := f3) (r4 := r4) (r5 := r5) (r6 := r6) (r7 := r7) (f8 := f8) (r9 := r9) (r10 := r10) (r11 := r11) (f47 := f47) (f48 := f48) e14 (T := (R34, R35, R38, R39, R40, R41, R43, R44, cnt, s)) ⟨_, _, _, _, _, _, _, _, _, _, rfl, k2, k3.2, hg⟩
    refine Or.inr ⟨(q1, s2, s3, s4, s5, gf, gc, gfull, gx, fz, qs), ?_, _, _, _, _, _, _, _, _, _, _, _, _, _, _, _, _, _, _, _, _, rfl, ej, k1, y1, ⟨Nat.zero_le _, y2⟩, Or.inr ⟨gf1, y3, hga⟩⟩
    by_cases ce : gc ≤ s
    · simp only [sp_E_1_grow_16_L2, if_pos ce]
    · simp only [sp_E_1_grow_16_L2, if_neg ce, if_neg gn]
theorem comesM_1_120 {b n t a1 e gl cnt m13_0 m13_1 : Nat} {wy : Int32} {f3 : Nat → Int32} {r4 r9 r10 : Nat → Nat} {r11 r34 k : Nat → Int32} {r38 : Nat → Nat} {r39 r40 r41 f44 f47 f48 : Nat → Int32} (hc : cnt ≤ 120) : ∃ R34 R35 R38 R39 R40 R41 R44 c', sp_EM_comes_1_120_1 b n f3 r4 r9 r10 r11 m13_0 m13_1 r34 k r38 r39 r40 r41 cnt f44 f47 f48 t a1 e wy gl = (R34, R35, R38, R39, R40, R41, R44, c') ∧ cnt ≤ c' ∧ c' ≤ 120 ∧ (∀ s, s < cnt → R38 (120 + s) = r38 (120 + s)) ∧ FRM1 r38 r39 r40 r41 r34 R38 R39 R40 R41 R34 ∧ ∀ j, j ≠ 1 → R44 j = f44 j := by
  obtain ⟨z, ez⟩ : ∃ z, sp_EM_forgets n (if sp_EM_isUrgent b f3 t = 0 then sp_EM_delays b n r4 r9 r10 r11 m13_0 m13_1 k t else k) f47 f48 wy = z := ⟨_, rfl⟩
  have ec : sp_EM_comes_1_120_1 b n f3 r4 r9 r10 r11 m13_0 m13_1 r34 k r38 r39 r40 r41 cnt f44 f47 f48 t a1 e wy gl = itrv default (sp_EM_comes_1_120_1_L1 n r34 r38 r39 r40 r41 cnt f44 t a1 e gl (sp_EM_forgets n (if sp_EM_isUrgent b f3 t = 0 then sp_EM_delays b n r4 r9 r10 r11 m13_0 m13_1 k t else k) f47 f48 wy)) 0 := rfl
  rw [ec, ez]
  refine itrv_inv (d := default) (f := sp_EM_comes_1_120_1_L1 n r34 r38 r39 r40 r41 cnt f44 t a1 e gl z) (fun k => k ≤ cnt) (fun r => ∃ R34 R35 R38 R39 R40 R41 R44 c', r = (R34, R35, R38, R39, R40, R41, R44, c') ∧ cnt ≤ c' ∧ c' ≤ 120 ∧ (∀ s, s < cnt → R38 (120 + s) = r38 (120 + s)) ∧ FRM1 r38 r39 r40 r41 r34 R38 R39 R40 R41 R34 ∧ ∀ j, j ≠ 1 → R44 j = f44 j) (fun k => cnt - k) ?_ cnt 0 (Nat.sub_le _ _) (Nat.zero_le _)
  intro k hk
  by_cases ce : cnt ≤ k
  · by_cases c : cnt = 120
    · exact Or.inr ⟨(r34, z, r38, r39, r40, r41, upd f44 1 1, cnt), by simp only [sp_EM_comes_1_120_1_L1, slet, if_pos ce, if_pos c, nar1], _, _, _, _, _, _, _, _, rfl, Nat.le_refl _, hc, fun _ _ => rfl, FRM1.rf, fun j hj => upd_n hj⟩
    · by_cases f0 : f44 1 = 0
      · exact Or.inr ⟨(sp_EM_copies_zn r34 z (25 * (120 + cnt)), z, updN r38 (120 + cnt) t, upd r39 (120 + cnt) (nI a1), upd r40 (120 + cnt) (nI e), upd r41 (120 + cnt) (r41 (120 + a1) + 1), f44, cnt + 1), by simp only [sp_EM_comes_1_120_1_L1, slet, if_pos ce, if_neg c, if_pos f0], _, _, _, _, _, _, _, _, rfl, Nat.le_succ _, by omega, fun s hs => updN_n (by omega), ⟨fun x hx => ⟨updN_n (by omega), upd_n (by omega), upd_n (by omega), upd_n (by omega)⟩, fun x hx => copies_zn.2 x (by omega)⟩, fun _ _ => rfl⟩
      · exact Or.inr ⟨(r34, z, r38, r39, r40, r41, upd f44 1 1, cnt), by simp only [sp_EM_comes_1_120_1_L1, slet, if_pos ce, if_neg c, if_neg f0, nar1], _, _, _, _, _, _, _, _, rfl, Nat.le_refl _, hc, fun _ _ => rfl, FRM1.rf, fun j hj => upd_n hj⟩
  · by_cases c : min (r38 (120 + k)) 7 = t
    · by_cases u : sp_EM_hasAll n r34 z (120 + k) (if gl = 0 then 1 else 0) = 0
      · exact Or.inl ⟨k + 1, by simp only [sp_EM_comes_1_120_1_L1, slet, if_neg ce, if_pos c, if_pos u], by show k + 1 ≤ cnt; omega, by show cnt - (k + 1) < cnt - k; omega⟩
      · exact Or.inr ⟨(r34, z, r38, r39, r40, r41, f44, cnt), by simp only [sp_EM_comes_1_120_1_L1, slet, if_neg ce, if_pos c, if_neg u], _, _, _, _, _, _, _, _, rfl, Nat.le_refl _, hc, fun _ _ => rfl, FRM1.rf, fun _ _ => rfl⟩
    · exact Or.inl ⟨k + 1, by simp only [sp_EM_comes_1_120_1_L1, slet, if_neg ce, if_neg c], by show k + 1 ≤ cnt; omega, by show cnt - (k + 1) < cnt - k; omega⟩
/-- the reference alone goes on: what was come to stays -/
theorem exJ_1_120 {b n ne gl a1 lb m12_0 m12_1 m13_0 m13_1 m14_0 m14_1 : Nat} {wy gav goal : Int32} {f3 : Nat → Int32} {r4 r5 r6 r7 : Nat → Nat} {f8 : Nat → Int32} {r9 r10 : Nat → Nat} {r11 f47 f48 : Nat → Int32} {r38 : Nat → Nat} {r39 r40 r41 r34 r43 r44 : Nat → Int32} (e14 : (if b = 0 then m14_0 else m14_1) = ne) {T : (Nat → Int32) × (Nat → Int32) × (Nat → Nat) × (Nat → Int32) × (Nat → Int32) × (Nat → Int32) × (Nat → Int32) × (Nat → Int32) × Nat × Nat} (hT : ∃ R34 R35 R38 R39 R40 R41 R43 R44 cnt e, T = (R34, R35, R38, R39, R40, R41, R43, R44, cnt, e) ∧ RFR1 r38 r39 r40 r41 r34 r43 r44 R38 R39 R40 R41 R34 R43 R44 ∧ (lb ≤ cnt ∧ cnt ≤ 120) ∧ HGL1 goal cnt R38 ∧ e ≤ ne) : ∃ R34 R35 R38 R39 R40 R41 R43 R44 cnt, itrv (Sum.inr default) (sp_EM_explores_1_120_L1 b n f3 r4 r5 r6 r7 f8 r9 r10 r11 m12_0 m12_1 m13_0 m13_1 m14_0 m14_1 wy gl gav f47 f48 a1) T = .inl (R34, R35, R38, R39, R40, R41, R43, R44, cnt, a1 + 1) ∧ RFR1 r38 r39 r40 r41 r34 r43 r44 R38 R39 R40 R41 R34 R43 R44 ∧ (lb ≤ cnt ∧ cnt ≤ 120) ∧ HGL1 goal cnt R38 := by
  refine itrv_inv (d := Sum.inr default) (f := sp_EM_explores_1_120_L1 b n f3 r4 r5 r6 r7 f8 r9 r10 r11 m12_0 m12_1 m13_0 m13_1 m14_0 m14_1 wy gl gav f47 f48 a1) (fun T => ∃ R34 R35 R38 R39 R40 R41 R43 R44 cnt e, T = (R34, R35, R38, R39, R40, R41, R43, R44, cnt, e) ∧ RFR1 r38 r39 r40 r41 r34 r43 r44 R38 R39 R40 R41 R34 R43 R44 ∧ (lb ≤ cnt ∧ cnt ≤ 120) ∧ HGL1 goal cnt R38 ∧ e ≤ ne) (fun r => ∃ R34 R35 R38 R39 R40 R41 R43 R44 cnt, r = .inl (R34, R35, R38, R39, R40, R41, R43, R44, cnt, a1 + 1) ∧ RFR1 r38 r39 r40 r41 r34 r43 r44 R38 R39 R40 R41 R34 R43 R44 ∧ (lb ≤ cnt ∧ cnt ≤ 120) ∧ HGL1 goal cnt R38) (fun (_, _, _, _, _, _, _, _, _, e) => ne - e) ?_ _ T (Nat.le_refl _) hT
  rintro _ ⟨R34, R35, R38, R39, R40, R41, R43, R44, cnt, e, rfl, hR, hl, hh, he⟩
  by_cases ce : ne ≤ e
  · exact Or.inr ⟨.inl (R34, R35, R38, R39, R40, R41, R43, R44, cnt, a1 + 1), by simp only [sp_EM_explores_1_120_L1, slet, e14, if_pos ce], _, _, _, _, _, _, _, _, _, rfl, hR, hl, hh⟩
  · have ms : ne - (e + 1) < ne - e := by omega
    obtain ⟨⟨u, k⟩, eg⟩ : ∃ x, sp_EM_goesBy b n r4 r6 r7 f8 r9 r10 r11 m12_0 m12_1 m13_0 m13_1 m14_0 m14_1 (sp_EM_copies_nz R34 R35 (25 * (120 + a1))) e = x := ⟨_, rfl⟩
    obtain ⟨S34, S35, S38, S39, S40, S41, S44, c', ec, l1, l2, l3, l4, l5⟩ := comesM_1_120 (b := b) (n := n) (t := min (r6 (14 * b + e)) 7) (a1 := a1) (e := e) (gl := gl) (m13_0 := m13_0) (m13_1 := m13_1) (wy := wy) (f3 := f3) (r4 := r4) (r9 := r9) (r10 := r10) (r11 := r11) (r34 := R34) (k := k) (r38 := R38) (r39 := R39) (r40 := R40) (r41 := R41) (f44 := R44) (f47 := f47) (f48 := f48) hl.2
    by_cases c1 : min (r5 (14 * b + e)) 7 = min (R38 (120 + a1)) 7
    · by_cases c2 : (nI (min (r6 (14 * b + e)) 7) : Int32) = gav
      · exact Or.inl ⟨(R34, R35, R38, R39, R40, R41, R43, R44, cnt, e + 1), by simp only [sp_EM_explores_1_120_L1, sp_EM_outOf, sp_EM_into, slet, e14, if_neg ce, if_pos c1, if_pos c2, eg, ec], ⟨_, _, _, _, _, _, _, _, _, _, rfl, hR, hl, hh, by omega⟩, ms⟩
      · by_cases u0 : u = 0
        · exact Or.inl ⟨(R34, k, R38, R39, R40, R41, R43, R44, cnt, e + 1), by simp only [sp_EM_explores_1_120_L1, sp_EM_outOf, sp_EM_into, slet, e14, if_neg ce, if_pos c1, if_neg c2, eg, ec, if_pos u0], ⟨_, _, _, _, _, _, _, _, _, _, rfl, hR, hl, hh, by omega⟩, ms⟩
        · refine Or.inl ⟨(S34, S35, S38, S39, S40, S41, upd R43 1 (R43 1 ||| ((1 : Int32) <<< ((nI e : Int32) &&& 31))), S44, c', e + 1), by simp only [sp_EM_explores_1_120_L1, sp_EM_outOf, sp_EM_into, slet, e14, if_neg ce, if_pos c1, if_neg c2, eg, if_neg u0, ec], ⟨_, _, _, _, _, _, _, _, _, _, rfl, ⟨hR.1.tr l4, fun j hj => ⟨by rw [upd_n hj]; exact (hR.2 j hj).1, (l5 j hj).trans (hR.2 j hj).2⟩⟩, ⟨by omega, l2⟩, ?_, by omega⟩, ms⟩
          obtain ⟨s, h1, h2⟩ := hh
          exact ⟨s, by omega, by rw [l3 s h1]; exact h2⟩
    · exact Or.inl ⟨(R34, R35, R38, R39, R40, R41, R43, R44, cnt, e + 1), by simp only [sp_EM_explores_1_120_L1, sp_EM_outOf, sp_EM_into, slet, e14, if_neg ce, if_neg c1, eg, ec], ⟨_, _, _, _, _, _, _, _, _, _, rfl, hR, hl, hh, by omega⟩, ms⟩
theorem exK_1_120 {b n ne gl : Nat} {m12_0 m12_1 m13_0 m13_1 m14_0 m14_1 : Nat} {wy gav goal : Int32} {f3 : Nat → Int32} {r4 r5 r6 r7 : Nat → Nat} {f8 : Nat → Int32} {r9 r10 : Nat → Nat} {r11 f47 f48 : Nat → Int32} {r38 : Nat → Nat} {r39 r40 r41 r34 r43 r44 : Nat → Int32} (e14 : (if b = 0 then m14_0 else m14_1) = ne) {T : (Nat → Int32) × (Nat → Int32) × (Nat → Nat) × (Nat → Int32) × (Nat → Int32) × (Nat → Int32) × (Nat → Int32) × (Nat → Int32) × Nat × Nat} (hT : ∃ R34 R35 R38 R39 R40 R41 R43 R44 cnt s, T = (R34, R35, R38, R39, R40, R41, R43, R44, cnt, s) ∧ RFR1 r38 r39 r40 r41 r34 r43 r44 R38 R39 R40 R41 R34 R43 R44 ∧ cnt ≤ 120 ∧ HGL1 goal cnt R38) : ∃ R34 R35 R38 R39 R40 R41 R43 R44 cnt, itrv default (sp_EM_explores_1_120_L2 b n f3 r4 r5 r6 r7 f8 r9 r10 r11 m12_0 m12_1 m13_0 m13_1 m14_0 m14_1 wy gl gav f47 f48) T = (R34, R35, R38, R39, R40, R41, R43, R44, f47, f48, cnt) ∧ RFR1 r38 r39 r40 r41 r34 r43 r44 R38 R39 R40 R41 R34 R43 R44 ∧ cnt ≤ 120 ∧ HGL1 goal cnt R38 := by
  refine itrv_inv (d := default) (f := sp_EM_explores_1_120_L2 b n f3 r4 r5 r6 r7 f8 r9 r10 r11 m12_0 m12_1 m13_0 m13_1 m14_0 m14_1 wy gl gav f47 f48) (fun T => ∃ R34 R35 R38 R39 R40 R41 R43 R44 cnt s, T = (R34, R35, R38, R39, R40, R41, R43, R44, cnt, s) ∧ RFR1 r38 r39 r40 r41 r34 r43 r44 R38 R39 R40 R41 R34 R43 R44 ∧ cnt ≤ 120 ∧ HGL1 goal cnt R38) (fun r => ∃ R34 R35 R38 R39 R40 R41 R43 R44 cnt, r = (R34, R35, R38, R39, R40, R41, R43, R44, f47, f48, cnt) ∧ RFR1 r38 r39 r40 r41 r34 r43 r44 R38 R39 R40 R41 R34 R43 R44 ∧ cnt ≤ 120 ∧ HGL1 goal cnt R38) (fun (_, _, _, _, _, _, _, _, _, s) => 120 - s) ?_ _ T (Nat.le_refl _) hT
  rintro _ ⟨R34, R35, R38, R39, R40, R41, R43, R44, cnt, s, rfl, hR, hl, hh⟩
  by_cases ce : cnt ≤ s
  · exact Or.inr ⟨(R34, R35, R38, R39, R40, R41, R43, R44, f47, f48, cnt), by simp only [sp_EM_explores_1_120_L2, if_pos ce], _, _, _, _, _, _, _, _, _, rfl, hR, hl, hh⟩
  · obtain ⟨S34, S35, S38, S39, S40, S41, S43, S44, c', ej, k1, k2, k3⟩ := exJ_1_120 (b := b) (n := n) (gl := gl) (a1 := s) (lb := 0) (m12_0 := m12_0) (m12_1 := m12_1) (m13_0 := m13_0) (m13_1 := m13_1) (wy := wy) (gav := gav) (goal := goal) (f3 := f3) (r4 := r4) (r5 := r5) (r6 := r6) (r7 := r7) (f8 := f8) (r9 := r9) (r10 := r10) (r11 := r11) (f47 := f47) (f48 := f48) e14 (T := (R34, R35, R38, R39, R40, R41, R43, R44, cnt, 0)) ⟨_, _, _, _, _, _, _, _, _, _, rfl, hR, ⟨Nat.zero_le _, hl⟩, hh, Nat.zero_le _⟩
    exact Or.inl ⟨(S34, S35, S38, S39, S40, S41, S43, S44, c', s + 1), by simp only [sp_EM_explores_1_120_L2, if_neg ce, ej], ⟨_, _, _, _, _, _, _, _, _, _, rfl, k1, k2.2, k3⟩, by show 120 - (s + 1) < 120 - s; omega⟩
theorem growJ_1_120 {b n nc np ne a1 gl o : Nat} {st0 : Int32} {f4 : Nat → Int32} {q5 q6 : Nat → Nat} {f7 : Nat → Int32} {q8 q9 : Nat → Nat} {f10 f11 f12 f13 : Nat → Int32} {f3 : Nat → Int32} {r4 r5 r6 r7 : Nat → Nat} {f8 : Nat → Int32} {r9 r10 : Nat → Nat} {r11 : Nat → Int32} {m12_0 m12_1 m13_0 m13_1 m14_0 m14_1 m15 : Nat} (h : MB b nc np ne st0 f4 q5 q6 f7 q8 q9 f10 f11 f3 r4 r5 r6 r7 f8 r9 r10 r11 (bkN b m12_0 m12_1) (bkN b m13_0 m13_1) (bkN b m14_0 m14_1) m15) (w : WFm nc np ne f4 q8 q9 f10 f11 f12 f13) (hb : b ≤ 1) (hn : nc + 1 ≤ n) (hn4 : n ≤ 4) {wy gav goal : Int32} (hw : wy = 0 → n ≤ 4 ∧ 120 ≤ 120) {hh ll : Nat → Nat} {fhi flo f47 f48 : Nat → Int32} (hF : FGH n hh ll fhi flo f47 f48) {fz0 : Nat → Nat → Int32} {qs0 : Nat → Nat} {r38 : Nat → Nat} {r39 r40 r41 r34 r43 r44 : Nat → Int32} {t : (Nat → Nat) × (Nat → Int32) × (Nat → Int32) × (Nat → Int32) × (Nat → Int32) × Nat × Nat × Nat × Int32 × Nat × (Nat → Nat → Int32) × (Nat → Nat)} {t' : (Nat → Int32) × (Nat → Int32) × (Nat → Nat) × (Nat → Int32) × (Nat → Int32) × (Nat → Int32) × (Nat → Int32) × (Nat → Int32) × Nat × Nat}
  (hT : ∃ q1 s2 s3 s4 s5 gf gc gfull gx e fz qs R34 R35 R38 R39 R40 R41 R43 R44 cnt, t = (q1, s2, s3, s4, s5, gf, gc, gfull, gx, e, fz, qs) ∧ t' = (R34, R35, R38, R39, R40, R41, R43, R44, cnt, e) ∧ e ≤ ne ∧ SIM1 n wy np 120 goal gav o fz0 qs0 r38 r39 r40 r41 r34 r43 r44 (a1 + 1) gf gc gfull gx q1 s2 s3 s4 fz qs R38 R39 R40 R41 R34 R43 R44 cnt) :
  ∃ e gc gfull gx gf q1 s2 s3 s4 s5 qs fz R34 R35 R38 R39 R40 R41 R43 R44 cnt, itrv default (sp_E_1_grow_16_L1 wy gav goal gl fhi flo nc ne f4 q5 q6 f7 q8 q9 f12 f13 o a1) t = (e, gc, gfull, gx, gf, q1, s2, s3, s4, s5, qs, fz) ∧ itrv (Sum.inr default) (sp_EM_explores_1_120_L1 b n f3 r4 r5 r6 r7 f8 r9 r10 r11 m12_0 m12_1 m13_0 m13_1 m14_0 m14_1 wy gl gav f47 f48 a1) t' = .inl (R34, R35, R38, R39, R40, R41, R43, R44, cnt, a1 + 1) ∧ SIM1 n wy np 120 goal gav o fz0 qs0 r38 r39 r40 r41 r34 r43 r44 (a1 + 1) gf gc gfull gx q1 s2 s3 s4 fz qs R38 R39 R40 R41 R34 R43 R44 cnt := by
  have e14 : (if b = 0 then m14_0 else m14_1) = ne := h.1.2.2.2.2.1
  have hp8 := h.1.2.2.2.1
  have h10 := h.2.2.2.2.2.2.2
  refine itrv_sim (d := default) (d' := Sum.inr default) (f := sp_E_1_grow_16_L1 wy gav goal gl fhi flo nc ne f4 q5 q6 f7 q8 q9 f12 f13 o a1) (g := sp_EM_explores_1_120_L1 b n f3 r4 r5 r6 r7 f8 r9 r10 r11 m12_0 m12_1 m13_0 m13_1 m14_0 m14_1 wy gl gav f47 f48 a1)
    (fun t t' => ∃ q1 s2 s3 s4 s5 gf gc gfull gx e fz qs R34 R35 R38 R39 R40 R41 R43 R44 cnt, t = (q1, s2, s3, s4, s5, gf, gc, gfull, gx, e, fz, qs) ∧ t' = (R34, R35, R38, R39, R40, R41, R43, R44, cnt, e) ∧ e ≤ ne ∧ SIM1 n wy np 120 goal gav o fz0 qs0 r38 r39 r40 r41 r34 r43 r44 (a1 + 1) gf gc gfull gx q1 s2 s3 s4 fz qs R38 R39 R40 R41 R34 R43 R44 cnt)
    (fun r r' => ∃ e gc gfull gx gf q1 s2 s3 s4 s5 qs fz R34 R35 R38 R39 R40 R41 R43 R44 cnt, r = (e, gc, gfull, gx, gf, q1, s2, s3, s4, s5, qs, fz) ∧ r' = .inl (R34, R35, R38, R39, R40, R41, R43, R44, cnt, a1 + 1) ∧ SIM1 n wy np 120 goal gav o fz0 qs0 r38 r39 r40 r41 r34 r43 r44 (a1 + 1) gf gc gfull gx q1 s2 s3 s4 fz qs R38 R39 R40 R41 R34 R43 R44 cnt)
    (fun (_, _, _, _, _, _, _, _, _, e, _, _) => ne - e) ?_ _ t t' (Nat.le_refl _) hT
  rintro _ _ ⟨q1, s2, s3, s4, s5, gf, gc, gfull, gx, e, fz, qs, R34, R35, R38, R39, R40, R41, R43, R44, cnt, rfl, rfl, he, k1, k2, k3, k4⟩
  by_cases ce : ne ≤ e
  · refine Or.inr ⟨(e, gc, gfull, gx, gf, q1, s2, s3, s4, s5, qs, fz), by simp only [sp_E_1_grow_16_L1, if_pos ce], _, _, _, _, _, _, _, _, _, _, _, _, R34, R35, R38, R39, R40, R41, R43, R44, cnt, rfl, ?_, k1, k2, k3, k4⟩
    exact itrv_inr (by simp only [sp_EM_explores_1_120_L1, slet, e14, if_pos ce])
  · have he2 : e < ne := by omega
    have ms : ne - (e + 1) < ne - e := by omega
    rcases k4 with ⟨gf0, rfl, ⟨Z, hG⟩, hfu, hx, ng⟩ | ⟨gf1, hg, hga⟩
    · obtain ⟨g1, g2, g3, g4, g5⟩ := h10 e he2
      have t7 : min (q6 e) 7 = q6 e := by omega
      have t7' : min (r6 (14 * b + e)) 7 = q6 e := by rw [← g3]; omega
      have sq : q1 a1 = R38 (120 + a1) := (hG a1 (by omega)).1.1
      obtain ⟨⟨u0, k0⟩, eg0⟩ : ∃ x, sp_EM_goesBy b n r4 r6 r7 f8 r9 r10 r11 m12_0 m12_1 m13_0 m13_1 m14_0 m14_1 (sp_EM_copies_nz R34 R35 (25 * (120 + a1))) e = x := ⟨_, rfl⟩
      obtain ⟨⟨v1, v2, v3, v4, v5, v6, v7, v8⟩, ec0⟩ : ∃ x, sp_EM_comes_1_120_1 b n f3 r4 r9 r10 r11 m13_0 m13_1 R34 k0 R38 R39 R40 R41 gc R44 f47 f48 (q6 e) a1 e wy gl = x := ⟨_, rfl⟩
      by_cases c1 : min (q5 e) 7 = min (q1 a1) 7
      · have c1' : min (r5 (14 * b + e)) 7 = min (R38 (120 + a1)) 7 := by rw [← g1, ← sq]; exact c1
        by_cases c2 : (nI (q6 e) : Int32) = gav
        · exact Or.inl ⟨(q1, s2, s3, s4, s5, gf, gc, gfull, gx, e + 1, fz, qs), (R34, R35, R38, R39, R40, R41, R43, R44, gc, e + 1), by simp only [sp_E_1_grow_16_L1, slet, if_neg ce, if_pos gf0, if_pos c1, t7, if_pos c2], by simp only [sp_EM_explores_1_120_L1, sp_EM_outOf, sp_EM_into, slet, e14, if_neg ce, if_pos c1', t7', if_pos c2, eg0, ec0], ⟨_, _, _, _, _, _, _, _, _, _, _, _, _, _, _, _, _, _, _, _, _, rfl, rfl, by omega, k1, k2, k3, Or.inl ⟨gf0, rfl, ⟨Z, hG⟩, hfu, hx, ng⟩⟩, ms⟩
        · rcases step_1_120 h w hb hn hn4 he2 (show a1 < gc by omega) k3.2 (fun c => ⟨(hw c).1, by have := (hw c).2; omega⟩) hF hG (gf := gf) (gl := gl) (gx := gx) (ggoal := goal) (s5 := s5) (r35 := R35) (f44 := R44) hfu with ⟨fz', qs', k, x1, x2, x3, x4⟩ | ⟨k, q1', s2', s3', s4', s5', gf', gc', gfull', fz', qs', S34, S35, S38, S39, S40, S41, S44, Z', x1, x2, x3, x4, x5, x6, x7, x8, x9, x10, x11, x12⟩
          · exact Or.inl ⟨(q1, s2, s3, s4, s5, gf, gc, gfull, gx, e + 1, fz', qs'), (R34, k, R38, R39, R40, R41, R43, R44, gc, e + 1), by simp only [sp_E_1_grow_16_L1, slet, if_neg ce, if_pos gf0, if_pos c1, t7, if_neg c2, x1], by simp only [sp_EM_explores_1_120_L1, sp_EM_outOf, sp_EM_into, slet, e14, if_neg ce, if_pos c1', t7', if_neg c2, x2, if_pos], ⟨_, _, _, _, _, _, _, _, _, _, _, _, _, _, _, _, _, _, _, _, _, rfl, rfl, by omega, fun x hx => ⟨((x4 x (by omega)).1).trans (k1 x hx).1, ((x4 x (by omega)).2).trans (k1 x hx).2⟩, k2, k3, Or.inl ⟨gf0, rfl, ⟨Z, x3⟩, hfu, hx, ng⟩⟩, ms⟩
          · refine Or.inl ⟨(q1', s2', s3', s4', s5', gf', gc', gfull', gx ||| ((1 : Int32) <<< ((nI e : Int32) &&& 31)), e + 1, fz', qs'), (S34, S35, S38, S39, S40, S41, upd R43 1 (R43 1 ||| ((1 : Int32) <<< ((nI e : Int32) &&& 31))), S44, gc', e + 1), by simp only [sp_E_1_grow_16_L1, slet, if_neg ce, if_pos gf0, if_pos c1, t7, if_neg c2, x1], by simp only [sp_EM_explores_1_120_L1, sp_EM_outOf, sp_EM_into, slet, e14, if_neg ce, if_pos c1', t7', if_neg c2, x2, if_neg (show ¬ (1 : Nat) = 0 by omega), x3], ⟨_, _, _, _, _, _, _, _, _, _, _, _, _, _, _, _, _, _, _, _, _, rfl, rfl, by omega, fun x hx => ⟨((x10 x (by omega)).1).trans (k1 x hx).1, ((x10 x (by omega)).2).trans (k1 x hx).2⟩, ⟨k2.1.tr x12, fun j hj => ⟨by rw [upd_n hj]; exact (k2.2 j hj).1, (x11 j hj).trans (k2.2 j hj).2⟩⟩, ⟨by omega, x7⟩, ?_⟩, ms⟩
            have sS : ∀ s, s < gc → S38 (120 + s) = R38 (120 + s) := fun s hs => (x4 s (by omega)).1.1.symm.trans ((x9 s hs).trans (hG s hs).1.1)
            have m0 : gf' = 0 → (∀ s, s < gc' → ¬ (nI (min (S38 (120 + s)) 7) : Int32) = goal) → (gf' = 0 ∧ gc' = gc' ∧ (∃ Z, GS1 n wy gc' np Z q1' s2' s3' s4' o qs' fz' S38 S39 S40 S41 S34) ∧ FUL gfull' (S44 1) gc' 120 ∧ (gx ||| ((1 : Int32) <<< ((nI e : Int32) &&& 31))) = upd R43 1 (R43 1 ||| ((1 : Int32) <<< ((nI e : Int32) &&& 31))) 1 ∧ ∀ s, s < gc' → ¬ (nI (min (S38 (120 + s)) 7) : Int32) = goal) := fun z n1 => ⟨z, rfl, ⟨Z', x4⟩, x5, by rw [upd_s, hx], n1⟩
            rcases x8 with ⟨y1, y2⟩ | ⟨y1, y2, y3⟩
            · exact Or.inl (m0 (y2.trans gf0) (fun s hs => by rw [sS s (by omega)]; exact ng s (by omega)))
            · by_cases cg : (nI (q6 e) : Int32) = goal
              · rw [if_pos cg] at y3
                refine Or.inr ⟨y3, ⟨gc, by omega, ?_⟩, by rw [← cg]; exact c2⟩
                rw [← (x4 gc (by omega)).1.1, y2, t7]; exact cg
              · rw [if_neg cg] at y3
                refine Or.inl (m0 (y3.trans gf0) (fun s hs => ?_))
                by_cases cs : s = gc
                · rw [cs, ← (x4 gc (by omega)).1.1, y2, t7]; exact cg
                · rw [sS s (by omega)]; exact ng s (by omega)
      · have c1' : ¬ min (r5 (14 * b + e)) 7 = min (R38 (120 + a1)) 7 := by rw [← g1, ← sq]; exact c1
        exact Or.inl ⟨(q1, s2, s3, s4, s5, gf, gc, gfull, gx, e + 1, fz, qs), (R34, R35, R38, R39, R40, R41, R43, R44, gc, e + 1), by simp only [sp_E_1_grow_16_L1, slet, if_neg ce, if_pos gf0, if_neg c1], by simp only [sp_EM_explores_1_120_L1, sp_EM_outOf, sp_EM_into, slet, e14, if_neg ce, t7', if_neg c1', eg0, ec0], ⟨_, _, _, _, _, _, _, _, _, _, _, _, _, _, _, _, _, _, _, _, _, rfl, rfl, by omega, k1, k2, k3, Or.inl ⟨gf0, rfl, ⟨Z, hG⟩, hfu, hx, ng⟩⟩, ms⟩
    · have gn : ¬ gf = 0 := by omega
      obtain ⟨S34, S35, S38, S39, S40, S41, S43, S44, c', ej, y1, y2, y3⟩ := exJ_1_120 (b := b) (n := n) (gl := gl) (a1 := a1) (lb := a1 + 1) (m12_0 := m12_0) (m12_1 := m12_1) (m13_0 := m13_0) (m13_1 := m13_1) (wy := wy) (gav := gav) (goal := goal) (f3 := f3) (r4 := r4) (r5 := r5) (r6 := r6) (r7 := r7) (f8 := f8) (r9 := r9) (r10 := r10) (r11 := r11) (f47 := f47) (f48 := f48) e14 (T := (R34, R35, R38, R39, R40, R41, R43, R44, cnt, e)) ⟨_, _, _, _, _, _, _, _, _, _, rfl, k2, k3, hg, he⟩
      exact Or.inr ⟨(e, gc, gfull, gx, gf, q1, s2, s3, s4, s5, qs, fz), by simp only [sp_E_1_grow_16_L1, if_neg ce, if_neg gn], _, _, _, _, _, _, _, _, _, _, _, _, _, _, _, _, _, _, _, _, _, rfl, ej, k1, y1, y2, Or.inr ⟨gf1, y3, hga⟩⟩
theorem growK_1_120 {b n nc np ne gl o : Nat} {st0 : Int32} {f4 : Nat → Int32} {q5 q6 : Nat → Nat} {f7 : Nat → Int32} {q8 q9 : Nat → Nat} {f10 f11 f12 f13 : Nat → Int32} {f3 : Nat → Int32} {r4 r5 r6 r7 : Nat → Nat} {f8 : Nat → Int32} {r9 r10 : Nat → Nat} {r11 : Nat → Int32} {m12_0 m12_1 m13_0 m13_1 m14_0 m14_1 m15 : Nat} (h : MB b nc np ne st0 f4 q5 q6 f7 q8 q9 f10 f11 f3 r4 r5 r6 r7 f8 r9 r10 r11 (bkN b m12_0 m12_1) (bkN b m13_0 m13_1) (bkN b m14_0 m14_1) m15) (w : WFm nc np ne f4 q8 q9 f10 f11 f12 f13) (hb : b ≤ 1) (hn : nc + 1 ≤ n) (hn4 : n ≤ 4) {wy gav goal : Int32} (hw : wy = 0 → n ≤ 4 ∧ 120 ≤ 120) {hh ll : Nat → Nat} {fhi flo f47 f48 : Nat → Int32} (hF : FGH n hh ll fhi flo f47 f48) {fz0 : Nat → Nat → Int32} {qs0 : Nat → Nat} {r38 : Nat → Nat} {r39 r40 r41 r34 r43 r44 : Nat → Int32} {t : (Nat → Nat) × (Nat → Int32) × (Nat → Int32) × (Nat → Int32) × (Nat → Int32) × Nat × Nat × Nat × Int32 × Nat × (Nat → Nat → Int32) × (Nat → Nat)} {t' : (Nat → Int32) × (Nat → Int32) × (Nat → Nat) × (Nat → Int32) × (Nat → Int32) × (Nat → Int32) × (Nat → Int32) × (Nat → Int32) × Nat × Nat}
  (hT : ∃ q1 s2 s3 s4 s5 gf gc gfull gx s fz qs R34 R35 R38 R39 R40 R41 R43 R44 cnt, t = (q1, s2, s3, s4, s5, gf, gc, gfull, gx, s, fz, qs) ∧ t' = (R34, R35, R38, R39, R40, R41, R43, R44, cnt, s) ∧ SIM1 n wy np 120 goal gav o fz0 qs0 r38 r39 r40 r41 r34 r43 r44 0 gf gc gfull gx q1 s2 s3 s4 fz qs R38 R39 R40 R41 R34 R43 R44 cnt) :
  ∃ q1 s2 s3 s4 s5 gf gc gfull gx fz qs R34 R35 R38 R39 R40 R41 R43 R44 cnt, itrv default (sp_E_1_grow_16_L2 wy gav goal gl fhi flo nc ne f4 q5 q6 f7 q8 q9 f12 f13 o) t = (q1, s2, s3, s4, s5, gf, gc, gfull, gx, fz, qs) ∧ itrv default (sp_EM_explores_1_120_L2 b n f3 r4 r5 r6 r7 f8 r9 r10 r11 m12_0 m12_1 m13_0 m13_1 m14_0 m14_1 wy gl gav f47 f48) t' = (R34, R35, R38, R39, R40, R41, R43, R44, f47, f48, cnt) ∧ SIM1 n wy np 120 goal gav o fz0 qs0 r38 r39 r40 r41 r34 r43 r44 0 gf gc gfull gx q1 s2 s3 s4 fz qs R38 R39 R40 R41 R34 R43 R44 cnt := by
  have e14 : (if b = 0 then m14_0 else m14_1) = ne := h.1.2.2.2.2.1
  refine itrv_sim (d := default) (d' := default) (f := sp_E_1_grow_16_L2 wy gav goal gl fhi flo nc ne f4 q5 q6 f7 q8 q9 f12 f13 o) (g := sp_EM_explores_1_120_L2 b n f3 r4 r5 r6 r7 f8 r9 r10 r11 m12_0 m12_1 m13_0 m13_1 m14_0 m14_1 wy gl gav f47 f48)
    (fun t t' => ∃ q1 s2 s3 s4 s5 gf gc gfull gx s fz qs R34 R35 R38 R39 R40 R41 R43 R44 cnt, t = (q1, s2, s3, s4, s5, gf, gc, gfull, gx, s, fz, qs) ∧ t' = (R34, R35, R38, R39, R40, R41, R43, R44, cnt, s) ∧ SIM1 n wy np 120 goal gav o fz0 qs0 r38 r39 r40 r41 r34 r43 r44 0 gf gc gfull gx q1 s2 s3 s4 fz qs R38 R39 R40 R41 R34 R43 R44 cnt)
    (fun r r' => ∃ q1 s2 s3 s4 s5 gf gc gfull gx fz qs R34 R35 R38 R39 R40 R41 R43 R44 cnt, r = (q1, s2, s3, s4, s5, gf, gc, gfull, gx, fz, qs) ∧ r' = (R34, R35, R38, R39, R40, R41, R43, R44, f47, f48, cnt) ∧ SIM1 n wy np 120 goal gav o fz0 qs0 r38 r39 r40 r41 r34 r43 r44 0 gf gc gfull gx q1 s2 s3 s4 fz qs R38 R39 R40 R41 R34 R43 R44 cnt)
    (fun (_, _, _, _, _, _, _, _, _, s, _, _) => 120 - s) ?_ _ t t' (Nat.le_refl _) hT
  rintro _ _ ⟨q1, s2, s3, s4, s5, gf, gc, gfull, gx, s, fz, qs, R34, R35, R38, R39, R40, R41, R43, R44, cnt, rfl, rfl, k1, k2, k3, k4⟩
  rcases k4 with ⟨gf0, rfl, hZ, hfu, hx, ng⟩ | ⟨gf1, hg, hga⟩
  · by_cases ce : gc ≤ s
    · exact Or.inr ⟨(q1, s2, s3, s4, s5, gf, gc, gfull, gx, fz, qs), by simp only [sp_E_1_grow_16_L2, if_pos ce], _, _, _, _, _, _, _, _, _, _, _, R34, R35, R38, R39, R40, R41, R43, R44, gc, rfl, itrv_inr (by simp only [sp_EM_explores_1_120_L2, if_pos ce]), k1, k2, k3, Or.inl ⟨gf0, rfl, hZ, hfu, hx, ng⟩⟩
    · obtain ⟨e, gc', gfull', gx', gf', q1', s2', s3', s4', s5', qs', fz', S34, S35, S38, S39, S40, S41, S43, S44, c', x1, x2, y1, y2, y3, y4⟩ := growJ_1_120 (a1 := s) (gl := gl) (gav := gav) h w hb hn hn4 hw hF (t := (q1, s2, s3, s4, s5, gf, gc, gfull, gx, 0, fz, qs)) (t' := (R34, R35, R38, R39, R40, R41, R43, R44, gc, 0)) ⟨_, _, _, _, _, _, _, _, _, _, _, _, _, _, _, _, _, _, _, _, _, rfl, rfl, Nat.zero_le _, k1, k2, ⟨by omega, k3.2⟩, Or.inl ⟨gf0, rfl, hZ, hfu, hx, ng⟩⟩
      exact Or.inl ⟨(q1', s2', s3', s4', s5', gf', gc', gfull', gx', s + 1, fz', qs'), (S34, S35, S38, S39, S40, S41, S43, S44, c', s + 1), by simp only [sp_E_1_grow_16_L2, slet, if_neg ce, if_pos gf0, x1], by simp only [sp_EM_explores_1_120_L2, if_neg ce, x2], ⟨_, _, _, _, _, _, _, _, _, _, _, _, _, _, _, _, _, _, _, _, _, rfl, rfl, y1, y2, ⟨Nat.zero_le _, y3.2⟩, y4⟩, by show 120 - (s + 1) < 120 - s; omega⟩
  · have gn : ¬ gf = 0 := by omega
    obtain ⟨S34, S35, S38, S39, S40, S41, S43, S44, c', ej, y1, y2, y3⟩ := exK_1_120 (b := b) (n := n) (gl := gl) (m12_0 := m12_0) (m12_1 := m12_1) (m13_0 := m13_0) (m13_1 := m13_1) (wy := wy) (gav := gav) (goal := goal) (f3 := f3) (r4 := r4) (r5 := r5) (r6 := r6) (r7 := r7) (f8 := f8) (r9 := r9) (r10 := r10) (r11 := r11) (f47 := f47) (f48 := f48) e14 (T := (R34, R35, R38, R39, R40, R41, R43, R44, cnt, s)) ⟨_, _, _, _, _, _, _, _, _, _, rfl, k2, k3.2, hg⟩
    refine Or.inr ⟨(q1, s2, s3, s4, s5, gf, gc, gfull, gx, fz, qs), ?_, _, _, _, _, _, _, _, _, _, _, _, _, _, _, _, _, _, _, _, _, rfl, ej, k1, y1, ⟨Nat.zero_le _, y2⟩, Or.inr ⟨gf1, y3, hga⟩⟩
    by_cases ce : gc ≤ s
    · simp only [sp_E_1_grow_16_L2, if_pos ce]
    · simp only [sp_E_1_grow_16_L2, if_neg ce, if_neg gn]
theorem comesM_1_400 {b n t a1 e gl cnt m13_0 m13_1 : Nat} {wy : Int32} {f3 : Nat → Int32} {r4 r9 r10 : Nat → Nat} {r11 r34 k : Nat → Int32} {r38 : Nat → Nat} {r39 r40 r41 f44 f47 f48 : Nat → Int32} (hc : cnt ≤ 400) : ∃ R34 R35 R38 R39 R40 R41 R44 c', sp_EM_comes_1_400_1 b n f3 r4 r9 r10 r11 m13_0 m13_1 r34 k r38 r39 r40 r41 cnt f44 f47 f48 t a1 e wy gl = (R34, R35, R38, R39, R40, R41, R44, c') ∧ cnt ≤ c' ∧ c' ≤ 400 ∧ (∀ s, s < cnt → R38 (120 + s) = r38 (120 + s)) ∧ FRM1 r38 r39 r40 r41 r34 R38 R39 R40 R41 R34 ∧ ∀ j, j ≠ 1 → R44 j = f44 j := by
  obtain ⟨z, ez⟩ : ∃ z, sp_EM_forgets n (if sp_EM_isUrgent b f3 t = 0 then sp_EM_delays b n r4 r9 r10 r11 m13_0 m13_1 k t else k) f47 f48 wy = z := ⟨_, rfl⟩
  have ec : sp_EM_comes_1_400_1 b n f3 r4 r9 r10 r11 m13_0 m13_1 r34 k r38 r39 r40 r41 cnt f44 f47 f48 t a1 e wy gl = itrv default (sp_EM_comes_1_400_1_L1 n r34 r38 r39 r40 r41 cnt f44 t a1 e gl (sp_EM_forgets n (if sp_EM_isUrgent b f3 t = 0 then sp_EM_delays b n r4 r9 r10 r11 m13_0 m13_1 k t else k) f47 f48 wy)) 0 := rfl
  rw [ec, ez]
  refine itrv_inv (d := default) (f := sp_EM_comes_1_400_1_L1 n r34 r38 r39 r40 r41 cnt f44 t a1 e gl z) (fun k => k ≤ cnt) (fun r => ∃ R34 R35 R38 R39 R40 R41 R44 c', r = (R34, R35, R38, R39, R40, R41, R44, c') ∧ cnt ≤ c' ∧ c' ≤ 400 ∧ (∀ s, s < cnt → R38 (120 + s) = r38 (120 + s)) ∧ FRM1 r38 r39 r40 r41 r34 R38 R39 R40 R41 R34 ∧ ∀ j, j ≠ 1 → R44 j = f44 j) (fun k => cnt - k) ?_ cnt 0 (Nat.sub_le _ _) (Nat.zero_le _)
  intro k hk
  by_cases ce : cnt ≤ k
  · by_cases c : cnt = 400
    · exact Or.inr ⟨(r34, z, r38, r39, r40, r41, upd f44 1 1, cnt), by simp only [sp_EM_comes_1_400_1_L1, slet, if_pos ce, if_pos c, nar1], _, _, _, _, _, _, _, _, rfl, Nat.le_refl _, hc, fun _ _ => rfl, FRM1.rf, fun j hj => upd_n hj⟩
    · by_cases f0 : f44 1 = 0
      · exact Or.inr ⟨(sp_EM_copies_zn r34 z (25 * (120 + cnt)), z, updN r38 (120 + cnt) t, upd r39 (120 + cnt) (nI a1), upd r40 (120 + cnt) (nI e), upd r41 (120 + cnt) (r41 (120 + a1) + 1), f44, cnt + 1), by simp only [sp_EM_comes_1_400_1_L1, slet, if_pos ce, if_neg c, if_pos f0], _, _, _, _, _, _, _, _, rfl, Nat.le_succ _, by omega, fun s hs => updN_n (by omega), ⟨fun x hx => ⟨updN_n (by omega), upd_n (by omega), upd_n (by omega), upd_n (by omega)⟩, fun x hx => copies_zn.2 x (by omega)⟩, fun _ _ => rfl⟩
      · exact Or.inr ⟨(r34, z, r38, r39, r40, r41, upd f44 1 1, cnt), by simp only [sp_EM_comes_1_400_1_L1, slet, if_pos ce, if_neg c, if_neg f0, nar1], _, _, _, _, _, _, _, _, rfl, Nat.le_refl _, hc, fun _ _ => rfl, FRM1.rf, fun j hj => upd_n hj⟩
  · by_cases c : min (r38 (120 + k)) 7 = t
    · by_cases u : sp_EM_hasAll n r34 z (120 + k) (if gl = 0 then 1 else 0) = 0
      · exact Or.inl ⟨k + 1, by simp only [sp_EM_comes_1_400_1_L1, slet, if_neg ce, if_pos c, if_pos u], by show k + 1 ≤ cnt; omega, by show cnt - (k + 1) < cnt - k; omega⟩
      · exact Or.inr ⟨(r34, z, r38, r39, r40, r41, f44, cnt), by simp only [sp_EM_comes_1_400_1_L1, slet, if_neg ce, if_pos c, if_neg u], _, _, _, _, _, _, _, _, rfl, Nat.le_refl _, hc, fun _ _ => rfl, FRM1.rf, fun _ _ => rfl⟩
    · exact Or.inl ⟨k + 1, by simp only [sp_EM_comes_1_400_1_L1, slet, if_neg ce, if_neg c], by show k + 1 ≤ cnt; omega, by show cnt - (k + 1) < cnt - k; omega⟩
/-- the reference alone goes on: what was come to stays -/
theorem exJ_1_400 {b n ne gl a1 lb m12_0 m12_1 m13_0 m13_1 m14_0 m14_1 : Nat} {wy gav goal : Int32} {f3 : Nat → Int32} {r4 r5 r6 r7 : Nat → Nat} {f8 : Nat → Int32} {r9 r10 : Nat → Nat} {r11 f47 f48 : Nat → Int32} {r38 : Nat → Nat} {r39 r40 r41 r34 r43 r44 : Nat → Int32} (e14 : (if b = 0 then m14_0 else m14_1) = ne) {T : (Nat → Int32) × (Nat → Int32) × (Nat → Nat) × (Nat → Int32) × (Nat → Int32) × (Nat → Int32) × (Nat → Int32) × (Nat → Int32) × Nat × Nat} (hT : ∃ R34 R35 R38 R39 R40 R41 R43 R44 cnt e, T = (R34, R35, R38, R39, R40, R41, R43, R44, cnt, e) ∧ RFR1 r38 r39 r40 r41 r34 r43 r44 R38 R39 R40 R41 R34 R43 R44 ∧ (lb ≤ cnt ∧ cnt ≤ 400) ∧ HGL1 goal cnt R38 ∧ e ≤ ne) : ∃ R34 R35 R38 R39 R40 R41 R43 R44 cnt, itrv (Sum.inr default) (sp_EM_explores_1_400_L1 b n f3 r4 r5 r6 r7 f8 r9 r10 r11 m12_0 m12_1 m13_0 m13_1 m14_0 m14_1 wy gl gav f47 f48 a1) T = .inl (R34, R35, R38, R39, R40, R41, R43, R44, cnt, a1 + 1) ∧ RFR1 r38 r39 r40 r41 r34 r43 r44 R38 R39 R40 R41 R34 R43 R44 ∧ (lb ≤ cnt ∧ cnt ≤ 400) ∧ HGL1 goal cnt R38 := by
  refine itrv_inv (d := Sum.inr default) (f := sp_EM_explores_1_400_L1 b n f3 r4 r5 r6 r7 f8 r9 r10 r11 m12_0 m12_1 m13_0 m13_1 m14_0 m14_1 wy gl gav f47 f48 a1) (fun T => ∃ R34 R35 R38 R39 R40 R41 R43 R44 cnt e, T = (R34, R35, R38, R39, R40, R41, R43, R44, cnt, e) ∧ RFR1 r38 r39 r40 r41 r34 r43 r44 R38 R39 R40 R41 R34 R43 R44 ∧ (lb ≤ cnt ∧ cnt ≤ 400) ∧ HGL1 goal cnt R38 ∧ e ≤ ne) (fun r => ∃ R34 R35 R38 R39 R40 R41 R43 R44 cnt, r = .inl (R34, R35, R38, R39, R40, R41, R43, R44, cnt, a1 + 1) ∧ RFR1 r38 r39 r40 r41 r34 r43 r44 R38 R39 R40 R41 R34 R43 R44 ∧ (lb ≤ cnt ∧ cnt ≤ 400) ∧ HGL1 goal cnt R38) (fun (_, _, _, _, _, _, _, _, _, e) => ne - e) ?_ _ T (Nat.le_refl _) hT
  rintro _ ⟨R34, R35, R38, R39, R40, R41, R43, R44, cnt, e, rfl, hR, hl, hh, he⟩
  by_cases ce : ne ≤ e
  · exact Or.inr ⟨.inl (R34, R35, R38, R39, R40, R41, R43, R44, cnt, a1 + 1), by simp only [sp_EM_explores_1_400_L1, slet, e14, if_pos ce], _, _, _, _, _, _, _, _, _, rfl, hR, hl, hh⟩
  · have ms : ne - (e + 1) < ne - e := by omega
    obtain ⟨⟨u, k⟩, eg⟩ : ∃ x, sp_EM_goesBy b n r4 r6 r7 f8 r9 r10 r11 m12_0 m12_1 m13_0 m13_1 m14_0 m14_1 (sp_EM_copies_nz R34 R35 (25 * (120 + a1))) e = x := ⟨_, rfl⟩
    obtain ⟨S34, S35, S38, S39, S40, S41, S44, c', ec, l1, l2, l3, l4, l5⟩ := comesM_1_400 (b := b) (n := n) (t := min (r6 (14 * b + e)) 7) (a1 := a1) (e := e) (gl := gl) (m13_0 := m13_0) (m13_1 := m13_1) (wy := wy) (f3 := f3) (r4 := r4) (r9 := r9) (r10 := r10) (r11 := r11) (r34 := R34) (k := k) (r38 := R38) (r39 := R39) (r40 := R40) (r41 := R41) (f44 := R44) (f47 := f47) (f48 := f48) hl.2
    by_cases c1 : min (r5 (14 * b + e)) 7 = min (R38 (120 + a1)) 7
    · by_cases c2 : (nI (min (r6 (14 * b + e)) 7) : Int32) = gav
      · exact Or.inl ⟨(R34, R35, R38, R39, R40, R41, R43, R44, cnt, e + 1), by simp only [sp_EM_explores_1_400_L1, sp_EM_outOf, sp_EM_into, slet, e14, if_neg ce, if_pos c1, if_pos c2, eg, ec], ⟨_, _, _, _, _, _, _, _, _, _, rfl, hR, hl, hh, by omega⟩, ms⟩
      · by_cases u0 : u = 0
        · exact Or.inl ⟨(R34, k, R38, R39, R40, R41, R43, R44, cnt, e + 1), by simp only [sp_EM_explores_1_400_L1, sp_EM_outOf, sp_EM_into, slet, e14, if_neg ce, if_pos c1, if_neg c2, eg, ec, if_pos u0], ⟨_, _, _, _, _, _, _, _, _, _, rfl, hR, hl, hh, by omega⟩, ms⟩
        · refine Or.inl ⟨(S34, S35, S38, S39, S40, S41, upd R43 1 (R43 1 ||| ((1 : Int32) <<< ((nI e : Int32) &&& 31))), S44, c', e + 1), by simp only [sp_EM_explores_1_400_L1, sp_EM_outOf, sp_EM_into, slet, e14, if_neg ce, if_pos c1, if_neg c2, eg, if_neg u0, ec], ⟨_, _, _, _, _, _, _, _, _, _, rfl, ⟨hR.1.tr l4, fun j hj => ⟨by rw [upd_n hj]; exact (hR.2 j hj).1, (l5 j hj).trans (hR.2 j hj).2⟩⟩, ⟨by omega, l2⟩, ?_, by omega⟩, ms⟩
          obtain ⟨s, h1, h2⟩ := hh
          exact ⟨s, by omega, by rw [l3 s h1]; exact h2⟩
    · exact Or.inl ⟨(R34, R35, R38, R39, R40, R41, R43, R44, cnt, e + 1), by simp only [sp_EM_explores_1_400_L1, sp_EM_outOf, sp_EM_into, slet, e14, if_neg ce, if_neg c1, eg, ec], ⟨_, _, _, _, _, _, _, _, _, _, rfl, hR, hl, hh, by omega⟩, ms⟩
theorem exK_1_400 {b n ne gl : Nat} {m12_0 m12_1 m13_0 m13_1 m14_0 m14_1 : Nat} {wy gav goal : Int32} {f3 : Nat → Int32} {r4 r5 r6 r7 : Nat → Nat} {f8 : Nat → Int32} {r9 r10 : Nat → Nat} {r11 f47 f48 : Nat → Int32} {r38 : Nat → Nat} {r39 r40 r41 r34 r43 r44 : Nat → Int32} (e14 : (if b = 0 then m14_0 else m14_1) = ne) {T : (Nat → Int32) × (Nat → Int32) × (Nat → Nat) × (Nat → Int32) × (Nat → Int32) × (Nat → Int32) × (Nat → Int32) × (Nat → Int32) × Nat × Nat} (hT : ∃ R34 R35 R38 R39 R40 R41 R43 R44 cnt s, T = (R34, R35, R38, R39, R40, R41, R43, R44, cnt, s) ∧ RFR1 r38 r39 r40 r41 r34 r43 r44 R38 R39 R40 R41 R34 R43 R44 ∧ cnt ≤ 400 ∧ HGL1 goal cnt R38) : ∃ R34 R35 R38 R39 R40 R41 R43 R44 cnt, itrv default (sp_EM_explores_1_400_L2 b n f3 r4 r5 r6 r7 f8 r9 r10 r11 m12_0 m12_1 m13_0 m13_1 m14_0 m14_1 wy gl gav f47 f48) T = (R34, R35, R38, R39, R40, R41, R43, R44, f47, f48, cnt) ∧ RFR1 r38 r39 r40 r41 r34 r43 r44 R38 R39 R40 R41 R34 R43 R44 ∧ cnt ≤ 400 ∧ HGL1 goal cnt R38 := by
  refine itrv_inv (d := default) (f := sp_EM_explores_1_400_L2 b n f3 r4 r5 r6 r7 f8 r9 r10 r11 m12_0 m12_1 m13_0 m13_1 m14_0 m14_1 wy gl gav f47 f48) (fun T => ∃ R34 R35 R38 R39 R40 R41 R43 R44 cnt s, T = (R34, R35, R38, R39, R40, R41, R43, R44, cnt, s) ∧ RFR1 r38 r39 r40 r41 r34 r43 r44 R38 R39 R40 R41 R34 R43 R44 ∧ cnt ≤ 400 ∧ HGL1 goal cnt R38) (fun r => ∃ R34 R35 R38 R39 R40 R41 R43 R44 cnt, r = (R34, R35, R38, R39, R40, R41, R43, R44, f47, f48, cnt) ∧ RFR1 r38 r39 r40 r41 r34 r43 r44 R38 R39 R40 R41 R34 R43 R44 ∧ cnt ≤ 400 ∧ HGL1 goal cnt R38) (fun (_, _, _, _, _, _, _, _, _, s) => 400 - s) ?_ _ T (Nat.le_refl _) hT
  rintro _ ⟨R34, R35, R38, R39, R40, R41, R43, R44, cnt, s, rfl, hR, hl, hh⟩
  by_cases ce : cnt ≤ s
  · exact Or.inr ⟨(R34, R35, R38, R39, R40, R41, R43, R44, f47, f48, cnt), by simp only [sp_EM_explores_1_400_L2, if_pos ce], _, _, _, _, _, _, _, _, _, rfl, hR, hl, hh⟩
  · obtain ⟨S34, S35, S38, S39, S40, S41, S43, S44, c', ej, k1, k2, k3⟩ := exJ_1_400 (b := b) (n := n) (gl := gl) (a1 := s) (lb := 0) (m12_0 := m12_0) (m12_1 := m12_1) (m13_0 := m13_0) (m13_1 := m13_1) (wy := wy) (gav := gav) (goal := goal) (f3 := f3) (r4 := r4) (r5 := r5) (r6 := r6) (r7 := r7) (f8 := f8) (r9 := r9) (r10 := r10) (r11 := r11) (f47 := f47) (f48 := f48) e14 (T := (R34, R35, R38, R39, R40, R41, R43, R44, cnt, 0)) ⟨_, _, _, _, _, _, _, _, _, _, rfl, hR, ⟨Nat.zero_le _, hl⟩, hh, Nat.zero_le _⟩
    exact Or.inl ⟨(S34, S35, S38, S39, S40, S41, S43, S44, c', s + 1), by simp only [sp_EM_explores_1_400_L2, if_neg ce, ej], ⟨_, _, _, _, _, _, _, _, _, _, rfl, k1, k2.2, k3⟩, by show 400 - (s + 1) < 400 - s; omega⟩
theorem growJ_1_400 {b n nc np ne a1 gl o : Nat} {st0 : Int32} {f4 : Nat → Int32} {q5 q6 : Nat → Nat} {f7 : Nat → Int32} {q8 q9 : Nat → Nat} {f10 f11 f12 f13 : Nat → Int32} {f3 : Nat → Int32} {r4 r5 r6 r7 : Nat → Nat} {f8 : Nat → Int32} {r9 r10 : Nat → Nat} {r11 : Nat → Int32} {m12_0 m12_1 m13_0 m13_1 m14_0 m14_1 m15 : Nat} (h : MB b nc np ne st0 f4 q5 q6 f7 q8 q9 f10 f11 f3 r4 r5 r6 r7 f8 r9 r10 r11 (bkN b m12_0 m12_1) (bkN b m13_0 m13_1) (bkN b m14_0 m14_1) m15) (w : WFm nc np ne f4 q8 q9 f10 f11 f12 f13) (hb : b ≤ 1) (hn : nc + 1 ≤ n) (hn4 : n ≤ 5) {wy gav goal : Int32} (hw : wy = 0 → n ≤ 4 ∧ 400 ≤ 120) {hh ll : Nat → Nat} {fhi flo f47 f48 : Nat → Int32} (hF : FGH n hh ll fhi flo f47 f48) {fz0 : Nat → Nat → Int32} {qs0 : Nat → Nat} {r38 : Nat → Nat} {r39 r40 r41 r34 r43 r44 : Nat → Int32} {t : (Nat → Nat) × (Nat → Int32) × (Nat → Int32) × (Nat → Int32) × (Nat → Int32) × Nat × Nat × Nat × Int32 × Nat × (Nat → Nat → Int32) × (Nat → Nat)} {t' : (Nat → Int32) × (Nat → Int32) × (Nat → Nat) × (Nat → Int32) × (Nat → Int32) × (Nat → Int32) × (Nat → Int32) × (Nat → Int32) × Nat × Nat}
  (hT : ∃ q1 s2 s3 s4 s5 gf gc gfull gx e fz qs R34 R35 R38 R39 R40 R41 R43 R44 cnt, t = (q1, s2, s3, s4, s5, gf, gc, gfull, gx, e, fz, qs) ∧ t' = (R34, R35, R38, R39, R40, R41, R43, R44, cnt, e) ∧ e ≤ ne ∧ SIM1 n wy np 400 goal gav o fz0 qs0 r38 r39 r40 r41 r34 r43 r44 (a1 + 1) gf gc gfull gx q1 s2 s3 s4 fz qs R38 R39 R40 R41 R34 R43 R44 cnt) :
  ∃ e gc gfull gx gf q1 s2 s3 s4 s5 qs fz R34 R35 R38 R39 R40 R41 R43 R44 cnt, itrv default (sp_E_1_grow_25_L1 wy gav goal gl fhi flo nc ne f4 q5 q6 f7 q8 q9 f12 f13 o a1) t = (e, gc, gfull, gx, gf, q1, s2, s3, s4, s5, qs, fz) ∧ itrv (Sum.inr default) (sp_EM_explores_1_400_L1 b n f3 r4 r5 r6 r7 f8 r9 r10 r11 m12_0 m12_1 m13_0 m13_1 m14_0 m14_1 wy gl gav f47 f48 a1) t' = .inl (R34, R35, R38, R39, R40, R41, R43, R44, cnt, a1 + 1) ∧ SIM1 n wy np 400 goal gav o fz0 qs0 r38 r39 r40 r41 r34 r43 r44 (a1 + 1) gf gc gfull gx q1 s2 s3 s4 fz qs R38 R39 R40 R41 R34 R43 R44 cnt := by
  have e14 : (if b = 0 then m14_0 else m14_1) = ne := h.1.2.2.2.2.1
  have hp8 := h.1.2.2.2.1
  have h10 := h.2.2.2.2.2.2.2
  refine itrv_sim (d := default) (d' := Sum.inr default) (f := sp_E_1_grow_25_L1 wy gav goal gl fhi flo nc ne f4 q5 q6 f7 q8 q9 f12 f13 o a1) (g := sp_EM_explores_1_400_L1 b n f3 r4 r5 r6 r7 f8 r9 r10 r11 m12_0 m12_1 m13_0 m13_1 m14_0 m14_1 wy gl gav f47 f48 a1)
    (fun t t' => ∃ q1 s2 s3 s4 s5 gf gc gfull gx e fz qs R34 R35 R38 R39 R40 R41 R43 R44 cnt, t = (q1, s2, s3, s4, s5, gf, gc, gfull, gx, e, fz, qs) ∧ t' = (R34, R35, R38, R39, R40, R41, R43, R44, cnt, e) ∧ e ≤ ne ∧ SIM1 n wy np 400 goal gav o fz0 qs0 r38 r39 r40 r41 r34 r43 r44 (a1 + 1) gf gc gfull gx q1 s2 s3 s4 fz qs R38 R39 R40 R41 R34 R43 R44 cnt)
    (fun r r' => ∃ e gc gfull gx gf q1 s2 s3 s4 s5 qs fz R34 R35 R38 R39 R40 R41 R43 R44 cnt, r = (e, gc, gfull, gx, gf, q1, s2, s3, s4, s5, qs, fz) ∧ r' = .inl (R34, R35, R38, R39, R40, R41, R43, R44, cnt, a1 + 1) ∧ SIM1 n wy np 400 goal gav o fz0 qs0 r38 r39 r40 r41 r34 r43 r44 (a1 + 1) gf gc gfull gx q1 s2 s3 s4 fz qs R38 R39 R40 R41 R34 R43 R44 cnt)
    (fun (_, _, _, _, _, _, _, _, _, e, _, _) => ne - e) ?_ _ t t' (Nat.le_refl _) hT
  rintro _ _ ⟨q1, s2, s3, s4, s5, gf, gc, gfull, gx, e, fz, qs, R34, R35, R38, R39, R40, R41, R43, R44, cnt, rfl, rfl, he, k1, k2, k3, k4⟩
  by_cases ce : ne ≤ e
  · refine Or.inr ⟨(e, gc, gfull, gx, gf, q1, s2, s3, s4, s5, qs, fz), by simp only [sp_E_1_grow_25_L1, if_pos ce], _, _, _, _, _, _, _, _, _, _, _, _, R34, R35, R38, R39, R40, R41, R43, R44, cnt, rfl, ?_, k1, k2, k3, k4⟩
    exact itrv_inr (by simp only [sp_EM_explores_1_400_L1, slet, e14, if_pos ce])
  · have he2 : e < ne := by omega
    have ms : ne - (e + 1) < ne - e := by omega
    rcases k4 with ⟨gf0, rfl, ⟨Z, hG⟩, hfu, hx, ng⟩ | ⟨gf1, hg, hga⟩
    · obtain ⟨g1, g2, g3, g4, g5⟩ := h10 e he2
      have t7 : min (q6 e) 7 = q6 e := by omega
      have t7' : min (r6 (14 * b + e)) 7 = q6 e := by rw [← g3]; omega
      have sq : q1 a1 = R38 (120 + a1) := (hG a1 (by omega)).1.1
      obtain ⟨⟨u0, k0⟩, eg0⟩ : ∃ x, sp_EM_goesBy b n r4 r6 r7 f8 r9 r10 r11 m12_0 m12_1 m13_0 m13_1 m14_0 m14_1 (sp_EM_copies_nz R34 R35 (25 * (120 + a1))) e = x := ⟨_, rfl⟩
      obtain ⟨⟨v1, v2, v3, v4, v5, v6, v7, v8⟩, ec0⟩ : ∃ x, sp_EM_comes_1_400_1 b n f3 r4 r9 r10 r11 m13_0 m13_1 R34 k0 R38 R39 R40 R41 gc R44 f47 f48 (q6 e) a1 e wy gl = x := ⟨_, rfl⟩
      by_cases c1 : min (q5 e) 7 = min (q1 a1) 7
      · have c1' : min (r5 (14 * b + e)) 7 = min (R38 (120 + a1)) 7 := by rw [← g1, ← sq]; exact c1
        by_cases c2 : (nI (q6 e) : Int32) = gav
        · exact Or.inl ⟨(q1, s2, s3, s4, s5, gf, gc, gfull, gx, e + 1, fz, qs), (R34, R35, R38, R39, R40, R41, R43, R44, gc, e + 1), by simp only [sp_E_1_grow_25_L1, slet, if_neg ce, if_pos gf0, if_pos c1, t7, if_pos c2], by simp only [sp_EM_explores_1_400_L1, sp_EM_outOf, sp_EM_into, slet, e14, if_neg ce, if_pos c1', t7', if_pos c2, eg0, ec0], ⟨_, _, _, _, _, _, _, _, _, _, _, _, _, _, _, _, _, _, _, _, _, rfl, rfl, by omega, k1, k2, k3, Or.inl ⟨gf0, rfl, ⟨Z, hG⟩, hfu, hx, ng⟩⟩, ms⟩
        · rcases step_1_400 h w hb hn hn4 he2 (show a1 < gc by omega) k3.2 (fun c => ⟨(hw c).1, by have := (hw c).2; omega⟩) hF hG (gf := gf) (gl := gl) (gx := gx) (ggoal := goal) (s5 := s5) (r35 := R35) (f44 := R44) hfu with ⟨fz', qs', k, x1, x2, x3, x4⟩ | ⟨k, q1', s2', s3', s4', s5', gf', gc', gfull', fz', qs', S34, S35, S38, S39, S40, S41, S44, Z', x1, x2, x3, x4, x5, x6, x7, x8, x9, x10, x11, x12⟩
          · exact Or.inl ⟨(q1, s2, s3, s4, s5, gf, gc, gfull, gx, e + 1, fz', qs'), (R34, k, R38, R39, R40, R41, R43, R44, gc, e + 1), by simp only [sp_E_1_grow_25_L1, slet, if_neg ce, if_pos gf0, if_pos c1, t7, if_neg c2, x1], by simp only [sp_EM_explores_1_400_L1, sp_EM_outOf, sp_EM_into, slet, e14, if_neg ce, if_pos c1', t7', if_neg c2, x2, if_pos], ⟨_, _, _, _, _, _, _, _, _, _, _, _, _, _, _, _, _, _, _, _, _, rfl, rfl, by omega, fun x hx => ⟨((x4 x (by omega)).1).trans (k1 x hx).1, ((x4 x (by omega)).2).trans (k1 x hx).2⟩, k2, k3, Or.inl ⟨gf0, rfl, ⟨Z, x3⟩, hfu, hx, ng⟩⟩, ms⟩
          · refine Or.inl ⟨(q1', s2', s3', s4', s5', gf', gc', gfull', gx ||| ((1 : Int32) <<< ((nI e : Int32) &&& 31)), e + 1, fz', qs'), (S34, S35, S38, S39, S40, S41, upd R43 1 (R43 1 ||| ((1 : Int32) <<< ((nI e : Int32) &&& 31))), S44, gc', e + 1), by simp only [sp_E_1_grow_25_L1, slet, if_neg ce, if_pos gf0, if_pos c1, t7, if_neg c2, x1], by simp only [sp_EM_explores_1_400_L1, sp_EM_outOf, sp_EM_into, slet, e14, if_neg ce, if_pos c1', t7', if_neg c2, x2, if_neg (show ¬ (1 : Nat) = 0 by omega), x3], ⟨_, _, _, _, _, _, _, _, _, _, _, _, _, _, _, _, _, _, _, _, _, rfl, rfl, by omega, fun x hx => ⟨((x10 x (by omega)).1).trans (k1 x hx).1, ((x10 x (by omega)).2).trans (k1 x hx).2⟩, ⟨k2.1.tr x12, fun j hj => ⟨by rw [upd_n hj]; exact (k2.2 j hj).1, (x11 j hj).trans (k2.2 j hj).2⟩⟩, ⟨by omega, x7⟩, ?_⟩, ms⟩
            have sS : ∀ s, s < gc → S38 (120 + s) = R38 (120 + s) := fun s hs => (x4 s (by omega)).1.1.symm.trans ((x9 s hs).trans (hG s hs).1.1)
            have m0 : gf' = 0 → (∀ s, s < gc' → ¬ (nI (min (S38 (120 + s)) 7) : Int32) = goal) → (gf' = 0 ∧ gc' = gc' ∧ (∃ Z, GS1 n wy gc' np Z q1' s2' s3' s4' o qs' fz' S38 S39 S40 S41 S34) ∧ FUL gfull' (S44 1) gc' 400 ∧ (gx ||| ((1 : Int32) <<< ((nI e : Int32) &&& 31))) = upd R43 1 (R43 1 ||| ((1 : Int32) <<< ((nI e : Int32) &&& 31))) 1 ∧ ∀ s, s < gc' → ¬ (nI (min (S38 (120 + s)) 7) : Int32) = goal) := fun z n1 => ⟨z, rfl, ⟨Z', x4⟩, x5, by rw [upd_s, hx], n1⟩
            rcases x8 with ⟨y1, y2⟩ | ⟨y1, y2, y3⟩
            · exact Or.inl (m0 (y2.trans gf0) (fun s hs => by rw [sS s (by omega)]; exact ng s (by omega)))
            · by_cases cg : (nI (q6 e) : Int32) = goal
              · rw [if_pos cg] at y3
                refine Or.inr ⟨y3, ⟨gc, by omega, ?_⟩, by rw [← cg]; exact c2⟩
                rw [← (x4 gc (by omega)).1.1, y2, t7]; exact cg
              · rw [if_neg cg] at y3
                refine Or.inl (m0 (y3.trans gf0) (fun s hs => ?_))
                by_cases cs : s = gc
                · rw [cs, ← (x4 gc (by omega)).1.1, y2, t7]; exact cg
                · rw [sS s (by omega)]; exact ng s (by omega)
      · have c1' : ¬ min (r5 (14 * b + e)) 7 = min (R38 (120 + a1)) 7 := by rw [← g1, ← sq]; exact c1
        exact Or.inl ⟨(q1, s2, s3, s4, s5, gf, gc, gfull, gx, e + 1, fz, qs), (R34, R35, R38, R39, R40, R41, R43, R44, gc, e + 1), by simp only [sp_E_1_grow_25_L1, slet, if_neg ce, if_pos gf0, if_neg c1], by simp only [sp_EM_explores_1_400_L1, sp_EM_outOf, sp_EM_into, slet, e14, if_neg ce, t7', if_neg c1', eg0, ec0], ⟨_, _, _, _, _, _, _, _, _, _, _, _, _, _, _, _, _, _, _, _, _, rfl, rfl, by omega, k1, k2, k3, Or.inl ⟨gf0, rfl, ⟨Z, hG⟩, hfu, hx, ng⟩⟩, ms⟩
    · have gn : ¬ gf = 0 := by omega
      obtain ⟨S34, S35, S38, S39, S40, S41, S43, S44, c', ej, y1, y2, y3⟩ := exJ_1_400 (b := b) (n := n) (gl := gl) (a1 := a1) (lb := a1 + 1) (m12_0 := m12_0) (m12_1 := m12_1) (m13_0 := m13_0) (m13_1 := m13_1) (wy := wy) (gav := gav) (goal := goal) (f3 := f3) (r4 := r4) (r5 := r5) (r6 := r6) (r7 := r7) (f8 := f8) (r9 := r9) (r10 := r10) (r11 := r11) (f47 := f47) (f48 := f48) e14 (T := (R34, R35, R38, R39, R40, R41, R43, R44, cnt, e)) ⟨_, _, _, _, _, _, _, _, _, _, rfl, k2, k3, hg, he⟩
      exact Or.inr ⟨(e, gc, gfull, gx, gf, q1, s2, s3, s4, s5, qs, fz), by simp only [sp_E_1_grow_25_L1, if_neg ce, if_neg gn], _, _, _, _, _, _, _, _, _, _, _, _, _, _, _, _, _, _, _, _, _, rfl, ej, k1, y1, y2, Or.inr ⟨gf1, y3, hga⟩⟩
theorem growK_1_400 {b n nc np ne gl o : Nat} {st0 : Int32} {f4 : Nat → Int32} {q5 q6 : Nat → Nat} {f7 : Nat → Int32} {q8 q9 : Nat → Nat} {f10 f11 f12 f13 : Nat → Int32} {f3 : Nat → Int32} {r4 r5 r6 r7 : Nat → Nat} {f8 : Nat → Int32} {r9 r10 : Nat → Nat} {r11 : Nat → Int32} {m12_0 m12_1 m13_0 m13_1 m14_0 m14_1 m15 : Nat} (h : MB b nc np ne st0 f4 q5 q6 f7 q8 q9 f10 f11 f3 r4 r5 r6 r7 f8 r9 r10 r11 (bkN b m12_0 m12_1) (bkN b m13_0 m13_1) (bkN b m14_0 m14_1) m15) (w : WFm nc np ne f4 q8 q9 f10 f11 f12 f13) (hb : b ≤ 1) (hn : nc + 1 ≤ n) (hn4 : n ≤ 5) {wy gav goal : Int32} (hw : wy = 0 → n ≤ 4 ∧ 400 ≤ 120) {hh ll : Nat → Nat} {fhi flo f47 f48 : Nat → Int32} (hF : FGH n hh ll fhi flo f47 f48) {fz0 : Nat → Nat → Int32} {qs0 : Nat → Nat} {r38 : Nat → Nat} {r39 r40 r41 r34 r43 r44 : Nat → Int32} {t : (Nat → Nat) × (Nat → Int32) × (Nat → Int32) × (Nat → Int32) × (Nat → Int32) × Nat × Nat × Nat × Int32 × Nat × (Nat → Nat → Int32) × (Nat → Nat)} {t' : (Nat → Int32) × (Nat → Int32) × (Nat → Nat) × (Nat → Int32) × (Nat → Int32) × (Nat → Int32) × (Nat → Int32) × (Nat → Int32) × Nat × Nat}
  (hT : ∃ q1 s2 s3 s4 s5 gf gc gfull gx s fz qs R34 R35 R38 R39 R40 R41 R43 R44 cnt, t = (q1, s2, s3, s4, s5, gf, gc, gfull, gx, s, fz, qs) ∧ t' = (R34, R35, R38, R39, R40, R41, R43, R44, cnt, s) ∧ SIM1 n wy np 400 goal gav o fz0 qs0 r38 r39 r40 r41 r34 r43 r44 0 gf gc gfull gx q1 s2 s3 s4 fz qs R38 R39 R40 R41 R34 R43 R44 cnt) :
  ∃ q1 s2 s3 s4 s5 gf gc gfull gx fz qs R34 R35 R38 R39 R40 R41 R43 R44 cnt, itrv default (sp_E_1_grow_25_L2 wy gav goal gl fhi flo nc ne f4 q5 q6 f7 q8 q9 f12 f13 o) t = (q1, s2, s3, s4, s5, gf, gc, gfull, gx, fz, qs) ∧ itrv default (sp_EM_explores_1_400_L2 b n f3 r4 r5 r6 r7 f8 r9 r10 r11 m12_0 m12_1 m13_0 m13_1 m14_0 m14_1 wy gl gav f47 f48) t' = (R34, R35, R38, R39, R40, R41, R43, R44, f47, f48, cnt) ∧ SIM1 n wy np 400 goal gav o fz0 qs0 r38 r39 r40 r41 r34 r43 r44 0 gf gc gfull gx q1 s2 s3 s4 fz qs R38 R39 R40 R41 R34 R43 R44 cnt := by
  have e14 : (if b = 0 then m14_0 else m14_1) = ne := h.1.2.2.2.2.1
  refine itrv_sim (d := default) (d' := default) (f := sp_E_1_grow_25_L2 wy gav goal gl fhi flo nc ne f4 q5 q6 f7 q8 q9 f12 f13 o) (g := sp_EM_explores_1_400_L2 b n f3 r4 r5 r6 r7 f8 r9 r10 r11 m12_0 m12_1 m13_0 m13_1 m14_0 m14_1 wy gl gav f47 f48)
    (fun t t' => ∃ q1 s2 s3 s4 s5 gf gc gfull gx s fz qs R34 R35 R38 R39 R40 R41 R43 R44 cnt, t = (q1, s2, s3, s4, s5, gf, gc, gfull, gx, s, fz, qs) ∧ t' = (R34, R35, R38, R39, R40, R41, R43, R44, cnt, s) ∧ SIM1 n wy np 400 goal gav o fz0 qs0 r38 r39 r40 r41 r34 r43 r44 0 gf gc gfull gx q1 s2 s3 s4 fz qs R38 R39 R40 R41 R34 R43 R44 cnt)
    (fun r r' => ∃ q1 s2 s3 s4 s5 gf gc gfull gx fz qs R34 R35 R38 R39 R40 R41 R43 R44 cnt, r = (q1, s2, s3, s4, s5, gf, gc, gfull, gx, fz, qs) ∧ r' = (R34, R35, R38, R39, R40, R41, R43, R44, f47, f48, cnt) ∧ SIM1 n wy np 400 goal gav o fz0 qs0 r38 r39 r40 r41 r34 r43 r44 0 gf gc gfull gx q1 s2 s3 s4 fz qs R38 R39 R40 R41 R34 R43 R44 cnt)
    (fun (_, _, _, _, _, _, _, _, _, s, _, _) => 400 - s) ?_ _ t t' (Nat.le_refl _) hT
  rintro _ _ ⟨q1, s2, s3, s4, s5, gf, gc, gfull, gx, s, fz, qs, R34, R35, R38, R39, R40, R41, R43, R44, cnt, rfl, rfl, k1, k2, k3, k4⟩
  rcases k4 with ⟨gf0, rfl, hZ, hfu, hx, ng⟩ | ⟨gf1, hg, hga⟩
  · by_cases ce : gc ≤ s
    · exact Or.inr ⟨(q1, s2, s3, s4, s5, gf, gc, gfull, gx, fz, qs), by simp only [sp_E_1_grow_25_L2, if_pos ce], _, _, _, _, _, _, _, _, _, _, _, R34, R35, R38, R39, R40, R41, R43, R44, gc, rfl, itrv_inr (by simp only [sp_EM_explores_1_400_L2, if_pos ce]), k1, k2, k3, Or.inl ⟨gf0, rfl, hZ, hfu, hx, ng⟩⟩
    · obtain ⟨e, gc', gfull', gx', gf', q1', s2', s3', s4', s5', qs', fz', S34, S35, S38, S39, S40, S41, S43, S44, c', x1, x2, y1, y2, y3, y4⟩ := growJ_1_400 (a1 := s) (gl := gl) (gav := gav) h w hb hn hn4 hw hF (t := (q1, s2, s3, s4, s5, gf, gc, gfull, gx, 0, fz, qs)) (t' := (R34, R35, R38, R39, R40, R41, R43, R44, gc, 0)) ⟨_, _, _, _, _, _, _, _, _, _, _, _, _, _, _, _, _, _, _, _, _, rfl, rfl, Nat.zero_le _, k1, k2, ⟨by omega, k3.2⟩, Or.inl ⟨gf0, rfl, hZ, hfu, hx, ng⟩⟩
      exact Or.inl ⟨(q1', s2', s3', s4', s5', gf', gc', gfull', gx', s + 1, fz', qs'), (S34, S35, S38, S39, S40, S41, S43, S44, c', s + 1), by simp only [sp_E_1_grow_25_L2, slet, if_neg ce, if_pos gf0, x1], by simp only [sp_EM_explores_1_400_L2, if_neg ce, x2], ⟨_, _, _, _, _, _, _, _, _, _, _, _, _, _, _, _, _, _, _, _, _, rfl, rfl, y1, y2, ⟨Nat.zero_le _, y3.2⟩, y4⟩, by show 400 - (s + 1) < 400 - s; omega⟩
  · have gn : ¬ gf = 0 := by omega
    obtain ⟨S34, S35, S38, S39, S40, S41, S43, S44, c', ej, y1, y2, y3⟩ := exK_1_400 (b := b) (n := n) (gl := gl) (m12_0 := m12_0) (m12_1 := m12_1) (m13_0 := m13_0) (m13_1 := m13_1) (wy := wy) (gav := gav) (goal := goal) (f3 := f3) (r4 := r4) (r5 := r5) (r6 := r6) (r7 := r7) (f8 := f8) (r9 := r9) (r10 := r10) (r11 := r11) (f47 := f47) (f48 := f48) e14 (T := (R34, R35, R38, R39, R40, R41, R43, R44, cnt, s)) ⟨_, _, _, _, _, _, _, _, _, _, rfl, k2, k3.2, hg⟩
    refine Or.inr ⟨(q1, s2, s3, s4, s5, gf, gc, gfull, gx, fz, qs), ?_, _, _, _, _, _, _, _, _, _, _, _, _, _, _, _, _, _, _, _, _, rfl, ej, k1, y1, ⟨Nat.zero_le _, y2⟩, Or.inr ⟨gf1, y3, hga⟩⟩
    by_cases ce : gc ≤ s
    · simp only [sp_E_1_grow_25_L2, if_pos ce]
    · simp only [sp_E_1_grow_25_L2, if_neg ce, if_neg gn]
