theorem vD_one {A : Nat → Prop} {q : Nat} {x : va_E} (h : A q) : va_D A [(q, x)] := by
  refine ⟨fun i j p r hp hr e => ?_, fun k r hr => ?_⟩
  · match i, j, hp, hr with
    | 0, 0, _, _ => rfl
    | i + 1, _, hp, _ => cases hp
    | 0, j + 1, _, hr => cases hr
  · match k, hr with
    | 0, hr => cases hr; exact h
    | k + 1, hr => cases hr
def kB_L (D : va_G) (kI kB kQ kL : ClassId) (J : Heap → Prop) (qo : Nat) (OA A : Nat → Prop) (sz : Nat) : State → Prop := fun U => U.heap.size = sz ∧ J U.heap ∧ va_K D vwCl (k3 kI kB kQ ++ [(kL, .long)]) U ∧ sy_E (fun q => q = qo ∨ sz ≤ q) U U.heap ∧ ∃ fq : Nat → Int64, va_P D vwCl [(qo, .inl (kL, 1, .inr (.inl fq)))] U.heap
set_option maxHeartbeats 4000000 in
set_option maxRecDepth 100000 in
theorem k_L_clock (l : Launch) (hlt : l.stackTraces = false) (dC : Nat → ClassId) (dI : Nat → Nat → Nat) (sz : Nat) (kI kB kQ kL : ClassId) (xa : Nat) (XA : Nat → Prop) (S : CX) (p0 : Int32) (qo : Nat) (hqo : ¬ XA qo) (OA A : Nat → Prop) : Met l yL_clock vs_L_clock ({ frames := 7, cells := 1, slots := 6, locals := 102 }) (va_Pc [.ref xa, .int p0, .ref qo] (kB_L (dC, dI) kI kB kQ kL (XInv (dC, dI) kI kB kQ xa XA S) qo OA A sz)) (va_Qi (fun (_ : Int32) (_ : Unit) => True) (fun _ t => ∃ fr : Nat → Int64, va_P (dC, dI) vwCl [(qo, .inl (kL, 1, .inr (.inl fr)))] t.heap) (fun q => q = qo ∨ sz ≤ q)) 1 6 (fun q => q = qo ∨ sz ≤ q) := by
  refine met_by (fun a s h => ?_)
  obtain ⟨rfl, rfl, hJ, hK, hY, fq, hPo⟩ := h
  obtain ⟨nv, iv, vv, fv, qv, fcv, qs, fz, ps, gz⟩ := S
  obtain ⟨⟨⟨hr, hmst0, hdst0⟩, hhi, hgg, hgt, hgu, hst⟩, ad, az, ac, bz, bc, rfl, hcv, hP, hD⟩ := hJ
  have hPc : va_P (dC, dI) vwCl (xc__w (ad 0) (ad 1) (nI (nv 0)) (ad 2) (ad 6) (ad 20) (ad 34) (ad 37) (nI (nv 1)) (ad 46) (ad 55) (nI (nv 2)) (ad 64) (ad 70) (ad 80) (ad 83) (ad 84) (nI (nv 6)) (nI (nv 7)) (nI (nv 8)) (iv 4) (ad 7) (ad 8) (ad 9) (ad 10) (ad 11) (ad 12) (ad 13) (ad 14) (ad 15) (ad 16) (ad 17) (ad 18) (ad 19) (nI (nv 33)) (nI (nv 34)) (iv 18) (ad 81) (ad 82) kI (fv 46)) s.heap := (vL_P hP).sub [0, 6, 80, 81] rfl
  have hDc : va_D XA (xc__w (ad 0) (ad 1) (nI (nv 0)) (ad 2) (ad 6) (ad 20) (ad 34) (ad 37) (nI (nv 1)) (ad 46) (ad 55) (nI (nv 2)) (ad 64) (ad 70) (ad 80) (ad 83) (ad 84) (nI (nv 6)) (nI (nv 7)) (nI (nv 8)) (iv 4) (ad 7) (ad 8) (ad 9) (ad 10) (ad 11) (ad 12) (ad 13) (ad 14) (ad 15) (ad 16) (ad 17) (ad 18) (ad 19) (nI (nv 33)) (nI (nv 34)) (iv 18) (ad 81) (ad 82) kI (fv 46)) := (zp_left hD).sub [0, 6, 80, 81] (by decide) rfl
  have hAo : ∀ q : Nat, va_A [(qo, .inl (kL, 1, .inr (.inl fq)))] s.heap.size q → q = qo ∨ s.heap.size ≤ q := fun q h => by
    rcases h with ⟨k, e, h⟩ | h
    · match k, h with
      | 0, h => cases h; exact Or.inl rfl
      | k + 1, h => cases h
    · exact Or.inr h
  have hDo : va_D (fun _ => True) ([(qo, .inl (kL, 1, .inr (.inl fq)))] : va_W) := vD_one trivial
  have hDw : va_D (fun _ => True) ((xc__w (ad 0) (ad 1) (nI (nv 0)) (ad 2) (ad 6) (ad 20) (ad 34) (ad 37) (nI (nv 1)) (ad 46) (ad 55) (nI (nv 2)) (ad 64) (ad 70) (ad 80) (ad 83) (ad 84) (nI (nv 6)) (nI (nv 7)) (nI (nv 8)) (iv 4) (ad 7) (ad 8) (ad 9) (ad 10) (ad 11) (ad 12) (ad 13) (ad 14) (ad 15) (ad 16) (ad 17) (ad 18) (ad 19) (nI (nv 33)) (nI (nv 34)) (iv 18) (ad 81) (ad 82) kI (fv 46)) ++ [(qo, .inl (kL, 1, .inr (.inl fq)))]) := (hDc.weaken (fun _ _ _ _ => trivial)).app hDo (fun i j p q hp hq e => by
    match j, hq with
    | 0, hq => cases hq; exact hqo (by have := hDc.2 i p hp; rw [e] at this; exact this)
    | j + 1, hq => cases hq)
  obtain ⟨y1, y2, y3, y4, y5, y6⟩ := hY
  refine ⟨_, _, _, c_L_clock l hlt dC dI _ (ad 0) (ad 1) (nv 0) (ad 2) (ad 6) (ad 20) (ad 34) (ad 37) (nv 1) (ad 46) (ad 55) (nv 2) (ad 64) (ad 70) (ad 80) (ad 83) (ad 84) (nv 6) (nv 7) (nv 8) (iv 4) (ad 7) (ad 8) (ad 9) (ad 10) (ad 11) (ad 12) (ad 13) (ad 14) (ad 15) (ad 16) (ad 17) (ad 18) (ad 19) (nv 33) (nv 34) (iv 18) (ad 81) (ad 82) kI (fv 46) (hr.1) (hr.2.1) (hr.2.2.1) (hr.2.2.2.2.2.2.1) (hr.2.2.2.2.2.2.2.1) (hr.2.2.2.2.2.2.2.2.1) (hmst0) (hr.2.2.2.2.2.2.2.2.2.2.2.2.2.2.2.2.2.2.2.2.2.2.2.2.2.2.2.2.2.2.2.2.2.1) (hr.2.2.2.2.2.2.2.2.2.2.2.2.2.2.2.2.2.2.2.2.2.2.2.2.2.2.2.2.2.2.2.2.2.2) p0 qo kL fq, ⟨rfl, ⟨rfl, va_P.app hPc hPo, hK.sub [0, 3] rfl, hDw⟩, ⟨y1, y2, y3, y4, y5.narrow hAo, y6.narrow hAo⟩⟩, fun o t hq => ?_, hAo⟩
  obtain ⟨⟨r, u, ho, hw, hB⟩, hF⟩ := hq
  exact ⟨⟨r, (), ho, trivial, hB⟩, hF.1, fun q h1 h2 => hF.2 q h1 (fun h => h2 (hAo q h))⟩
