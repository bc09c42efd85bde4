def kB_L (D : va_G) (kI kB kQ kL : ClassId) (J : Heap → Prop) (qo : Nat) (OA A : Nat → Prop) (sz : Nat) : State → Prop := fun U => U.heap.size = sz ∧ J U.heap ∧ va_K D vwCl (k3 kI kB kQ ++ [(kL, .long)]) U ∧ sy_E (fun q => q = qo ∨ sz ≤ q) U U.heap ∧ ∃ fq : Nat → Int64, va_P D vwCl [(qo, .inl (kL, 1, .inr (.inl fq)))] U.heap
set_option maxHeartbeats 4000000 in
set_option maxRecDepth 100000 in
theorem k_L_clock (l : Launch) (hlt : l.stackTraces = false) (dC : Nat → ClassId) (dI : Nat → Nat → Nat) (sz : Nat) (kI kB kQ kL : ClassId) (xa : Nat) (XA : Nat → Prop) (tp : Nat) (p0 : Int32) (qo : Nat) (hqo : ¬ XA qo) (OA A : Nat → Prop) : Met l yL_clock vs_L_clock ({ frames := 7, cells := 1, slots := 6, locals := 102 }) (va_Pc [.ref xa, .int p0, .ref qo] (kB_L (dC, dI) kI kB kQ kL (XInv (dC, dI) kI kB kQ xa XA tp) qo OA A sz)) (va_Qi (fun (_ : Int32) (_ : Unit) => True) (fun _ t => ∃ fr : Nat → Int64, va_P (dC, dI) vwCl [(qo, .inl (kL, 1, .inr (.inl fr)))] t.heap) (fun q => q = qo ∨ sz ≤ q)) 1 6 (fun q => q = qo ∨ sz ≤ q) := by
  refine met_by (fun a s h => ?_)
  obtain ⟨rfl, rfl, hJ, hK, hY, fq, hPo⟩ := h
  obtain ⟨ad, hs, ss, ft, fa, fat, tx0, len, pos, kd, vl, tka, in0, fw, fcn, fpn, mnc, mnp, mne, mst0, mf4, q_mf5, q_mf6, mf7, q_mf8, q_mf9, mf10, mf11, mf12, mf13, mf14, mf15, mf16, dnc, dnp, dne, dst0, df4, q_df5, q_df6, df7, q_df8, q_df9, df10, df11, df12, df13, df14, df15, df16, hk, fo, fl, gc, gfull, gx, gway, gav, ggoal, gfound, gl, gsz, q_gs1, gs2, gs3, gs4, gs5, ghi, glo, tc, tfull, tx, tway, tav, tgoal, tfound, tl, tsz, q_ts1, ts2, ts3, ts4, ts5, thi, tlo, uc, ufull, ux, uway, uav, ugoal, ufound, ul, usz, q_us1, us2, us3, us4, us5, uhi, ulo, rk, ru, fcv, fct, q_fce, ln, nr, q_j0, j2, q_j3, q_j4, j5, q_j7, j8, tzn, ftz, on, si, ti0, ftm, fbh, fbu, fsm, az, ac, qs, fz, bz, bc, ps, gz, rfl, htp, hhs, hss, hlen, hpos, hkd, hmnc, hmnp, hmne, hmst0, hdnc, hdnp, hdne, hdst0, hhk, hgc, hgfull, hgfound, hgl, hgsz, htc, htfull, htfound, htl, htsz, huc, hufull, hufound, hul, husz, hrk, hru, hln, hnr, htzn, hon, hsi, hhi, hgg, hgt, hgu, hcv, hst, hP, hD⟩ := hJ
  have hPc : va_P (dC, dI) vwCl (xc__w (ad 0) (ad 1) (nI tp) (ad 2) (ad 6) (ad 20) (ad 34) (ad 37) (nI hs) (ad 46) (ad 55) (nI ss) (ad 64) (ad 70) (ad 80) (ad 83) (ad 84) (nI mnc) (nI mnp) (nI mne) mst0 (ad 7) (ad 8) (ad 9) (ad 10) (ad 11) (ad 12) (ad 13) (ad 14) (ad 15) (ad 16) (ad 17) (ad 18) (ad 19) (nI on) (nI si) ti0 (ad 81) (ad 82) kI ftm) s.heap := (vL_P hP).sub [0, 6, 80, 81] rfl
  have hDc : va_D XA (xc__w (ad 0) (ad 1) (nI tp) (ad 2) (ad 6) (ad 20) (ad 34) (ad 37) (nI hs) (ad 46) (ad 55) (nI ss) (ad 64) (ad 70) (ad 80) (ad 83) (ad 84) (nI mnc) (nI mnp) (nI mne) mst0 (ad 7) (ad 8) (ad 9) (ad 10) (ad 11) (ad 12) (ad 13) (ad 14) (ad 15) (ad 16) (ad 17) (ad 18) (ad 19) (nI on) (nI si) ti0 (ad 81) (ad 82) kI ftm) := (zp_left hD).sub [0, 6, 80, 81] (by decide) rfl
  have hAo : ∀ q : Nat, va_A [(qo, .inl (kL, 1, .inr (.inl fq)))] s.heap.size q → q = qo ∨ s.heap.size ≤ q := fun q h => by
    rcases h with ⟨k, e, h⟩ | h
    · match k, h with
      | 0, h => cases h; exact Or.inl rfl
      | k + 1, h => cases h
    · exact Or.inr h
  have hDo : va_D (fun _ => True) ([(qo, .inl (kL, 1, .inr (.inl fq)))] : va_W) := ⟨fun i j p q hp hq e => by
    match i, j, hp, hq with
    | 0, 0, _, _ => rfl
    | i + 1, _, hp, _ => cases hp
    | 0, j + 1, _, hq => cases hq, fun _ _ _ => trivial⟩
  have hDw : va_D (fun _ => True) ((xc__w (ad 0) (ad 1) (nI tp) (ad 2) (ad 6) (ad 20) (ad 34) (ad 37) (nI hs) (ad 46) (ad 55) (nI ss) (ad 64) (ad 70) (ad 80) (ad 83) (ad 84) (nI mnc) (nI mnp) (nI mne) mst0 (ad 7) (ad 8) (ad 9) (ad 10) (ad 11) (ad 12) (ad 13) (ad 14) (ad 15) (ad 16) (ad 17) (ad 18) (ad 19) (nI on) (nI si) ti0 (ad 81) (ad 82) kI ftm) ++ [(qo, .inl (kL, 1, .inr (.inl fq)))]) := (hDc.weaken (fun _ _ _ _ => trivial)).app hDo (fun i j p q hp hq e => by
    match j, hq with
    | 0, hq => cases hq; exact hqo (by have := hDc.2 i p hp; rw [e] at this; exact this)
    | j + 1, hq => cases hq)
  obtain ⟨y1, y2, y3, y4, y5, y6⟩ := hY
  refine ⟨_, _, _, c_L_clock l hlt dC dI _ (ad 0) (ad 1) tp (ad 2) (ad 6) (ad 20) (ad 34) (ad 37) hs (ad 46) (ad 55) ss (ad 64) (ad 70) (ad 80) (ad 83) (ad 84) mnc mnp mne mst0 (ad 7) (ad 8) (ad 9) (ad 10) (ad 11) (ad 12) (ad 13) (ad 14) (ad 15) (ad 16) (ad 17) (ad 18) (ad 19) on si ti0 (ad 81) (ad 82) kI ftm htp hhs hss hmnc hmnp hmne (hmst0) hon hsi p0 qo kL fq, ⟨rfl, ⟨rfl, va_P.app hPc hPo, hK.sub [0, 3] rfl, hDw⟩, ⟨y1, y2, y3, y4, y5.narrow hAo, y6.narrow hAo⟩⟩, fun o t hq => ?_, hAo⟩
  obtain ⟨⟨r, u, ho, hw, hB⟩, hF⟩ := hq
  exact ⟨⟨r, (), ho, trivial, hB⟩, hF.1, fun q h1 h2 => hF.2 q h1 (fun h => h2 (hAo q h))⟩
