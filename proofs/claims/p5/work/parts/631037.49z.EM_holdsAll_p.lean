abbrev vs_EM_holdsAll_p : List Cond := .code yX9_holdsAll cX9_holdsAll 4 none :: VM
theorem g_EM_holdsAll_p_EM_manyOf_p : GoodIn vs_EM_holdsAll_p (wsV RX9 295 RX9 yX9_manyOf vs_EM_manyOf_p) := gm_V vm_152 vm_153 vm_154 vm_19 vm_155
theorem g_EM_holdsAll_p_EM_spot_p : GoodIn vs_EM_holdsAll_p (wsV RX9 311 RX9 yX9_spot vs_EM_spot_p) := gm_V vm_160 vm_161 vm_162 vm_19 vm_163
theorem g_EM_holdsAll_p_EM_holds : GoodIn vs_EM_holdsAll_p (wsV RX9 338 RX9 yX9_holds vs_EM_holds) := gm_V vm_200 vm_201 vm_202 vm_19 vm_203
noncomputable def sp_EM_holdsAll_p_L1 (x16 : Nat) (q4 : Nat → Nat) (q9 : Nat → Nat) (q10 : Nat → Nat) (f11 : Nat → Int32) (m13_0 : Nat) (m13_1 : Nat) (a1 : Nat) : ((Nat → Int32) × Nat) → ((Nat → Int32) × Nat) ⊕ ((Nat → Int32)) := fun (g_3, g_4) => (slet (sp_EM_manyOf_p x16 q4 m13_0 m13_1 a1) (fun u_12 => (if u_12 = 0 then (Sum.inr g_3) else (slet (u_12 - 1) (fun n_13 => (if n_13 ≤ g_4 then (Sum.inr g_3) else (slet (sp_EM_holds q9 q10 f11 g_3 (80 * x16 + (56 + 3 * (a1 - 100)) + g_4)) (fun z35_17 => (Sum.inl (z35_17, (g_4 + 1)))))))))))
noncomputable def sp_EM_holdsAll_p (x16 : Nat) (q4 : Nat → Nat) (q9 : Nat → Nat) (q10 : Nat → Nat) (f11 : Nat → Int32) (m13_0 : Nat) (m13_1 : Nat) (f35 : Nat → Int32) (a1 : Nat) : (Nat → Int32) := (itrv (α := (Nat → Int32) × Nat) (β := ((Nat → Int32))) default (sp_EM_holdsAll_p_L1 x16 q4 q9 q10 f11 m13_0 m13_1 a1) (f35, 0))
set_option maxHeartbeats 4000000 in
set_option maxRecDepth 100000 in
theorem c_EM_holdsAll_p (l : Launch) (dC : Nat → ClassId) (dI : Nat → Nat → Nat) (sz : Nat) (ad : Nat → Nat) (ck : Nat → ClassId) (x0 : Int32) (x16 : Nat) (x18 : Nat) (x19 : Nat) (x20 : Int32) (x21 : Nat) (x22 : Nat) (x23 : Int32) (x24 : Int32) (x25 : Int32) (x26 : Nat) (x27 : Int32) (x28 : Nat) (x29 : Nat) (x30 : Nat) (x33 : Nat) (x45 : Int32) (x46 : Nat) (x52 : Nat) (x53 : Nat) (x61 : Nat) (x62 : Nat) (x63 : Nat) (x65 : Nat) (x66 : Int32) (f1 : Nat → Int32) (f2 : Nat → Int32) (f3 : Nat → Int32) (q4 : Nat → Nat) (q5 : Nat → Nat) (q6 : Nat → Nat) (q7 : Nat → Nat) (f8 : Nat → Int32) (q9 : Nat → Nat) (q10 : Nat → Nat) (f11 : Nat → Int32) (m12_0 m12_1 : Nat) (m13_0 m13_1 : Nat) (m14_0 m14_1 : Nat) (m15_0 m15_1 : Nat) (f17 : Nat → Int32) (q31 : Nat → Nat) (f32 : Nat → Int32) (f34 : Nat → Int32) (f35 : Nat → Int32) (f36 : Nat → Int32) (f37 : Nat → Int32) (q38 : Nat → Nat) (f39 : Nat → Int32) (f40 : Nat → Int32) (f41 : Nat → Int32) (m42_0 m42_1 : Nat) (f43 : Nat → Int32) (f44 : Nat → Int32) (f47 : Nat → Int32) (f48 : Nat → Int32) (f49 : Nat → Int32) (f50 : Nat → Int32) (f51 : Nat → Int32) (q54 : Nat → Nat) (q55 : Nat → Nat) (q56 : Nat → Nat) (f57 : Nat → Int32) (q58 : Nat → Nat) (f59 : Nat → Int32) (f60 : Nat → Int32) (f64 : Nat → Int32) (a1 : Nat) (hx16 : x16 ≤ 1) (hx18 : x18 ≤ 900) (hx19 : x19 ≤ 900) (hx21 : x21 ≤ 900) (hx22 : x22 ≤ 4) (hx26 : x26 ≤ 6) (hx28 : x28 ≤ 1) (hx29 : x29 ≤ 1) (hx30 : x30 ≤ 1) (hx33 : x33 ≤ 20) (hx46 : x46 ≤ 5) (hx52 : x52 ≤ 2400) (hx53 : x53 ≤ 119) (hx61 : x61 ≤ 119) (hx62 : x62 ≤ 2000) (hx63 : x63 ≤ 1) (hx65 : x65 ≤ 7) (hm12_0 : m12_0 ≤ 3) (hm12_1 : m12_1 ≤ 3) (hm13_0 : m13_0 ≤ 8) (hm13_1 : m13_1 ≤ 8) (hm14_0 : m14_0 ≤ 14) (hm14_1 : m14_1 ≤ 14) (hm15_0 : m15_0 ≤ 8) (hm15_1 : m15_1 ≤ 8) (hm42_0 : m42_0 ≤ 120) (hm42_1 : m42_1 ≤ 400) (ha1 : a1 ≤ 107) (hb1 : 100 ≤ a1) : Met l yX9_holdsAll vs_EM_holdsAll_p ({ frames := 3, cells := 0, slots := 0, locals := 67 }) (va_Pc [.ref (ad 0), .ref (ad 35), .int (nI a1)] (pu_B (dC, dI) (mo_w ad ck x0 (nI x16) (nI x18) (nI x19) x20 (nI x21) (nI x22) x23 x24 x25 (nI x26) x27 (nI x28) (nI x29) (nI x30) (nI x33) x45 (nI x46) (nI x52) (nI x53) (nI x61) (nI x62) (nI x63) (nI x65) x66 f1 f2 f3 (bN 3 q4) (bN 7 q5) (bN 7 q6) (bN 4 q7) f8 (bN 2 q9) (bH q10) f11 (b2 m12_0 m12_1) (b2 m13_0 m13_1) (b2 m14_0 m14_1) (b2m m15_0 m15_1) f17 (bA 159 q31) f32 f34 f35 f36 f37 (bN 7 q38) f39 f40 f41 (b2 m42_0 m42_1) f43 f44 f47 f48 f49 f50 f51 (bN 13 q54) (bN 120 q55) (bN 120 q56) f57 (bN 120 q58) f59 f60 f64) (mo_t ck) sz)) (va_Qv (fun (_ : Unit) => True) (fun _ t => ∃ (z35 : Nat → Int32), pu_E (dC, dI) (mo_w ad ck x0 (nI x16) (nI x18) (nI x19) x20 (nI x21) (nI x22) x23 x24 x25 (nI x26) x27 (nI x28) (nI x29) (nI x30) (nI x33) x45 (nI x46) (nI x52) (nI x53) (nI x61) (nI x62) (nI x63) (nI x65) x66 f1 f2 f3 (bN 3 q4) (bN 7 q5) (bN 7 q6) (bN 4 q7) f8 (bN 2 q9) (bH q10) f11 (b2 m12_0 m12_1) (b2 m13_0 m13_1) (b2 m14_0 m14_1) (b2m m15_0 m15_1) f17 (bA 159 q31) f32 f34 z35 f36 f37 (bN 7 q38) f39 f40 f41 (b2 m42_0 m42_1) f43 f44 f47 f48 f49 f50 f51 (bN 13 q54) (bN 120 q55) (bN 120 q56) f57 (bN 120 q58) f59 f60 f64) (mo_t ck) (va_A ((mo_w ad ck x0 (nI x16) (nI x18) (nI x19) x20 (nI x21) (nI x22) x23 x24 x25 (nI x26) x27 (nI x28) (nI x29) (nI x30) (nI x33) x45 (nI x46) (nI x52) (nI x53) (nI x61) (nI x62) (nI x63) (nI x65) x66 f1 f2 f3 (bN 3 q4) (bN 7 q5) (bN 7 q6) (bN 4 q7) f8 (bN 2 q9) (bH q10) f11 (b2 m12_0 m12_1) (b2 m13_0 m13_1) (b2 m14_0 m14_1) (b2m m15_0 m15_1) f17 (bA 159 q31) f32 f34 f35 f36 f37 (bN 7 q38) f39 f40 f41 (b2 m42_0 m42_1) f43 f44 f47 f48 f49 f50 f51 (bN 13 q54) (bN 120 q55) (bN 120 q56) f57 (bN 120 q58) f59 f60 f64)) sz) t ∧ (z35 = (sp_EM_holdsAll_p x16 q4 q9 q10 f11 m13_0 m13_1 f35 a1))) (va_A ((mo_w ad ck x0 (nI x16) (nI x18) (nI x19) x20 (nI x21) (nI x22) x23 x24 x25 (nI x26) x27 (nI x28) (nI x29) (nI x30) (nI x33) x45 (nI x46) (nI x52) (nI x53) (nI x61) (nI x62) (nI x63) (nI x65) x66 f1 f2 f3 (bN 3 q4) (bN 7 q5) (bN 7 q6) (bN 4 q7) f8 (bN 2 q9) (bH q10) f11 (b2 m12_0 m12_1) (b2 m13_0 m13_1) (b2 m14_0 m14_1) (b2m m15_0 m15_1) f17 (bA 159 q31) f32 f34 f35 f36 f37 (bN 7 q38) f39 f40 f41 (b2 m42_0 m42_1) f43 f44 f47 f48 f49 f50 f51 (bN 13 q54) (bN 120 q55) (bN 120 q56) f57 (bN 120 q58) f59 f60 f64)) sz)) 0 0 (va_A ((mo_w ad ck x0 (nI x16) (nI x18) (nI x19) x20 (nI x21) (nI x22) x23 x24 x25 (nI x26) x27 (nI x28) (nI x29) (nI x30) (nI x33) x45 (nI x46) (nI x52) (nI x53) (nI x61) (nI x62) (nI x63) (nI x65) x66 f1 f2 f3 (bN 3 q4) (bN 7 q5) (bN 7 q6) (bN 4 q7) f8 (bN 2 q9) (bH q10) f11 (b2 m12_0 m12_1) (b2 m13_0 m13_1) (b2 m14_0 m14_1) (b2m m15_0 m15_1) f17 (bA 159 q31) f32 f34 f35 f36 f37 (bN 7 q38) f39 f40 f41 (b2 m42_0 m42_1) f43 f44 f47 f48 f49 f50 f51 (bN 13 q54) (bN 120 q55) (bN 120 q56) f57 (bN 120 q58) f59 f60 f64)) sz) := by
  refine Met.ofW (cc := cX9_holdsAll) (maxL := 4) (ret := none) (by decide) rfl ?_
  intro p e s m args below meth c s₁ B hml hv
  obtain ⟨rfl, rfl, hP, hK, hD0⟩ := hv
  have hx := B.exec
  have hb := B.bytes
  have hr := B.returns
  have hts := atoms_spec (ws := vs_EM_holdsAll_p) B.pre
  have hown : s.vm.findClass RX9 = some m.cls := findClass_of_methodNamed B.named
  have hlocks := B.notSynchronized
  have hD := hD0.self (sz := s.heap.size)
  generalize hAe : va_A ((mo_w ad ck x0 (nI x16) (nI x18) (nI x19) x20 (nI x21) (nI x22) x23 x24 x25 (nI x26) x27 (nI x28) (nI x29) (nI x30) (nI x33) x45 (nI x46) (nI x52) (nI x53) (nI x61) (nI x62) (nI x63) (nI x65) x66 f1 f2 f3 (bN 3 q4) (bN 7 q5) (bN 7 q6) (bN 4 q7) f8 (bN 2 q9) (bH q10) f11 (b2 m12_0 m12_1) (b2 m13_0 m13_1) (b2 m14_0 m14_1) (b2m m15_0 m15_1) f17 (bA 159 q31) f32 f34 f35 f36 f37 (bN 7 q38) f39 f40 f41 (b2 m42_0 m42_1) f43 f44 f47 f48 f49 f50 f51 (bN 13 q54) (bN 120 q55) (bN 120 q56) f57 (bN 120 q58) f59 f60 f64)) s.heap.size = A at hD ⊢
  have hA : ∀ q : Nat, s.heap.size ≤ q → A q := fun q h => by rw [← hAe]; exact Or.inr h
  have hS : va_S A s.heap s.heap [] := va_S.rf
  have hl := lv_entry ([.ref (ad 0), .ref (ad 35), .int (nI a1)]) (n := 4) (Nat.le_of_ble_eq_true rfl)
  rw [lg_entry_eq]
  generalize (lg_sl ([.ref (ad 0), .ref (ad 35), .int (nI a1)]) ++ List.replicate (4 - (lg_sl ([.ref (ad 0), .ref (ad 35), .int (nI a1)])).length) Slot.unset).toArray = ls at hl ⊢
  have hl : lv_has ls 4 [(0, .ref (ad 0)), (1, .ref (ad 35)), (2, .int (nI a1))] := hl
  obtain ⟨RR, hRR⟩ : ∃ x, x = (sp_EM_holdsAll_p x16 q4 q9 q10 f11 m13_0 m13_1 f35 a1) := ⟨_, rfl⟩
  have hsp := hRR
  refine lv_iconst (v := 0) hx hb dX9_holdsAll_0 (by decide) ?_
  refine lv_istore_n (lv' := [(3, .int 0), (0, .ref (ad 0)), (1, .ref (ad 35)), (2, .int (nI a1))]) hx hb dX9_holdsAll_1 rfl hl (by decide) rfl (fun ls hl => ?_)
  obtain ⟨lf_6, dlf_6, hlf_6, hsp⟩ := itr_ex hsp
  delta sp_EM_holdsAll_p_L1 at hlf_6
  refine pu_while (fun nn H locs ls => ∃ (g_3 : Nat → Int32) (g_4 : Nat), nn = 3 - g_4 ∧ g_4 ≤ 3 ∧ RR = itrv dlf_6 lf_6 (g_3, g_4) ∧ va_P (dC, dI) vwCl (mo_w ad ck x0 (nI x16) (nI x18) (nI x19) x20 (nI x21) (nI x22) x23 x24 x25 (nI x26) x27 (nI x28) (nI x29) (nI x30) (nI x33) x45 (nI x46) (nI x52) (nI x53) (nI x61) (nI x62) (nI x63) (nI x65) x66 f1 f2 f3 (bN 3 q4) (bN 7 q5) (bN 7 q6) (bN 4 q7) f8 (bN 2 q9) (bH q10) f11 (b2 m12_0 m12_1) (b2 m13_0 m13_1) (b2 m14_0 m14_1) (b2m m15_0 m15_1) f17 (bA 159 q31) f32 f34 g_3 f36 f37 (bN 7 q38) f39 f40 f41 (b2 m42_0 m42_1) f43 f44 f47 f48 f49 f50 f51 (bN 13 q54) (bN 120 q55) (bN 120 q56) f57 (bN 120 q58) f59 f60 f64) H ∧ va_D A (mo_w ad ck x0 (nI x16) (nI x18) (nI x19) x20 (nI x21) (nI x22) x23 x24 x25 (nI x26) x27 (nI x28) (nI x29) (nI x30) (nI x33) x45 (nI x46) (nI x52) (nI x53) (nI x61) (nI x62) (nI x63) (nI x65) x66 f1 f2 f3 (bN 3 q4) (bN 7 q5) (bN 7 q6) (bN 4 q7) f8 (bN 2 q9) (bH q10) f11 (b2 m12_0 m12_1) (b2 m13_0 m13_1) (b2 m14_0 m14_1) (b2m m15_0 m15_1) f17 (bA 159 q31) f32 f34 g_3 f36 f37 (bN 7 q38) f39 f40 f41 (b2 m42_0 m42_1) f43 f44 f47 f48 f49 f50 f51 (bN 13 q54) (bN 120 q55) (bN 120 q56) f57 (bN 120 q58) f59 f60 f64) ∧ va_S A s.heap H locs ∧ lv_has ls 4 [(0, .ref (ad 0)), (1, .ref (ad 35)), (2, .int (nI a1)), (3, .int (nI g_4))]) 2 ?_ _ _ _ _ ⟨f35, 0, rfl, (Nat.le_of_ble_eq_true rfl), hsp, hP, hD, hS, lv_sub hl [1, 2, 3, 0] rfl⟩
  rintro nn ih_5 H locs ls ⟨g_3, g_4, rfl, hg_4, he_8, hP, hD, hS, hl⟩
  obtain ⟨S_7, hsp, hin_9, hout_10⟩ := itr_step hlf_6 he_8
  refine lv_iload_n hx hb dX9_holdsAll_2 rfl (lv_at hl 3 rfl) ?_
  refine lv_aload_n hx hb dX9_holdsAll_3 rfl (lv_at hl 0 rfl) ?_
  refine lv_iload_n hx hb dX9_holdsAll_4 rfl (lv_at hl 2 rfl) ?_
  refine va_calli (va_runV (As := [.int (nI a1)]) (rest := [.int (nI g_4)]) ⟨hx, hb, hml, hown, hts⟩ (c_EM_manyOf_p l dC dI _ ad ck x0 x16 x18 x19 x20 x21 x22 x23 x24 x25 x26 x27 x28 x29 x30 x33 x45 x46 x52 x53 x61 x62 x63 x65 x66 f1 f2 f3 q4 q5 q6 q7 f8 q9 q10 f11 m12_0 m12_1 m13_0 m13_1 m14_0 m14_1 m15_0 m15_1 f17 q31 f32 f34 g_3 f36 f37 q38 f39 f40 f41 m42_0 m42_1 f43 f44 f47 f48 f49 f50 f51 q54 q55 q56 f57 q58 f59 f60 f64 a1 hx16 hx18 hx19 hx21 hx22 hx26 hx28 hx29 hx30 hx33 hx46 hx52 hx53 hx61 hx62 hx63 hx65 hm12_0 hm12_1 hm13_0 hm13_1 hm14_0 hm14_1 hm15_0 hm15_1 hm42_0 hm42_1 ha1 (by omega)) (cwV 1 hts g_EM_holdsAll_p_EM_manyOf_p rfl rfl rfl (by decide +kernel) ⟨Nat.le_of_ble_eq_true rfl, Nat.le_of_ble_eq_true rfl⟩) ⟨pu_bl, va_recv hK hP (ci := 9) (q0 := 0) rfl rfl, pu_in hP hK hD⟩ rfl rfl hl.1 rfl (lv_room (Nat.le_of_ble_eq_true rfl)) dX9_holdsAll_5 ⟨Nat.le_of_ble_eq_true rfl, Nat.le_of_ble_eq_true rfl⟩) hS (fun q _ h => pu_fr hS hA q h) (pu_fr hS hA) (fun r_11 u t H1 locs ht hvm hw hB hz1 hk1 hS => ?_)
  have hP := pu_keep hP hk1
  clear hk1 hz1 ht hvm
  generalize H1 = H at hP hS ⊢
  obtain ⟨u_12, hu_12, mu_12, iu_12⟩ := hw
  replace hsp := hsp.trans (slet_eq iu_12)
  rcases mI_get u_12 with ⟨zn_13, wn_13⟩ | ⟨n_13, zn_13, wn_13⟩
  · obtain rfl : r_11 = -1 := mu_12.trans wn_13
    replace hsp := hsp.trans (if_pos zn_13)
    refine lv_icmp_ge (tgt := 28) hx hb dX9_holdsAll_8 (by decide) (fun _ => ?_) (fun z => absurd (pu_negle (n := g_4) (by omega) (by decide)) z)
    have hsp := hout_10 _ hsp
    exact W.vret hx hb hr (fun t ht hW => ⟨⟨(), rfl, trivial, ⟨g_3, ⟨by rw [ht]; exact hP, va_K.moved hW.alike hK, hD⟩, (hsp.symm.trans hRR)⟩⟩, hS.F ht⟩) hS.2.2 dX9_holdsAll_28
  · obtain rfl : r_11 = nI n_13 := mu_12.trans wn_13
    have hn_13 : n_13 ≤ 3 := by omega
    replace hsp := hsp.trans (if_neg (by omega))
    replace hsp := hsp.trans (slet_eq (by omega : n_13 = u_12 - 1))
    refine lv_icmp_ge (tgt := 28) hx hb dX9_holdsAll_8 (by decide) (fun c_14 => ?_) (fun c_14 => ?_)
    · have c_14 : n_13 ≤ g_4 := (nI_leI (a := n_13) (b := g_4) (Nat.lt_of_le_of_lt hn_13 (Nat.le_of_ble_eq_true rfl)) (Nat.lt_of_le_of_lt hg_4 (Nat.le_of_ble_eq_true rfl))).mp c_14
      replace hsp := hsp.trans (if_pos c_14)
      have hsp := hout_10 _ hsp
      exact W.vret hx hb hr (fun t ht hW => ⟨⟨(), rfl, trivial, ⟨g_3, ⟨by rw [ht]; exact hP, va_K.moved hW.alike hK, hD⟩, (hsp.symm.trans hRR)⟩⟩, hS.F ht⟩) hS.2.2 dX9_holdsAll_28
    · have c_14 : ¬ n_13 ≤ g_4 := fun z => c_14 ((nI_leI (a := n_13) (b := g_4) (Nat.lt_of_le_of_lt hn_13 (Nat.le_of_ble_eq_true rfl)) (Nat.lt_of_le_of_lt hg_4 (Nat.le_of_ble_eq_true rfl))).mpr z)
      replace hsp := hsp.trans (if_neg c_14)
      refine lv_aload_n hx hb dX9_holdsAll_11 rfl (lv_at hl 0 rfl) ?_
      refine lv_aload_n hx hb dX9_holdsAll_12 rfl (lv_at hl 1 rfl) ?_
      refine lv_aload_n hx hb dX9_holdsAll_13 rfl (lv_at hl 0 rfl) ?_
      refine lv_iload_n hx hb dX9_holdsAll_14 rfl (lv_at hl 2 rfl) ?_
      refine lv_iload_n hx hb dX9_holdsAll_15 rfl (lv_at hl 3 rfl) ?_
      refine va_calli (va_runV (As := [.int (nI a1), .int (nI g_4)]) (rest := [.ref (ad 35), .ref (ad 0)]) ⟨hx, hb, hml, hown, hts⟩ (c_EM_spot_p l dC dI _ ad ck x0 x16 x18 x19 x20 x21 x22 x23 x24 x25 x26 x27 x28 x29 x30 x33 x45 x46 x52 x53 x61 x62 x63 x65 x66 f1 f2 f3 q4 q5 q6 q7 f8 q9 q10 f11 m12_0 m12_1 m13_0 m13_1 m14_0 m14_1 m15_0 m15_1 f17 q31 f32 f34 g_3 f36 f37 q38 f39 f40 f41 m42_0 m42_1 f43 f44 f47 f48 f49 f50 f51 q54 q55 q56 f57 q58 f59 f60 f64 a1 g_4 hx16 hx18 hx19 hx21 hx22 hx26 hx28 hx29 hx30 hx33 hx46 hx52 hx53 hx61 hx62 hx63 hx65 hm12_0 hm12_1 hm13_0 hm13_1 hm14_0 hm14_1 hm15_0 hm15_1 hm42_0 hm42_1 ha1 (by omega) (by omega)) (cwV 2 hts g_EM_holdsAll_p_EM_spot_p rfl rfl rfl (by decide +kernel) ⟨Nat.le_of_ble_eq_true rfl, Nat.le_of_ble_eq_true rfl⟩) ⟨pu_bl, va_recv hK hP (ci := 9) (q0 := 0) rfl rfl, pu_in hP hK hD⟩ rfl rfl hl.1 rfl (lv_room (Nat.le_of_ble_eq_true rfl)) dX9_holdsAll_16 ⟨Nat.le_of_ble_eq_true rfl, Nat.le_of_ble_eq_true rfl⟩) hS (fun q _ h => pu_fr hS hA q h) (pu_fr hS hA) (fun r_15 u t H1 locs ht hvm hw hB hz1 hk1 hS => ?_)
      have hP := pu_keep hP hk1
      clear hk1 hz1 ht hvm
      generalize H1 = H at hP hS ⊢
      obtain rfl : r_15 = nI (80 * x16 + (56 + 3 * (a1 - 100)) + g_4) := hw
      have hFc := pu_free hD hS hA
      refine va_callv (va_runV (As := [.ref (ad 35), .int (nI (80 * x16 + (56 + 3 * (a1 - 100)) + g_4))]) (rest := []) ⟨hx, hb, hml, hown, hts⟩ (c_EM_holds l dC dI _ ad ck x0 x16 x18 x19 x20 x21 x22 x23 x24 x25 x26 x27 x28 x29 x30 x33 x45 x46 x52 x53 x61 x62 x63 x65 x66 f1 f2 f3 q4 q5 q6 q7 f8 q9 q10 f11 m12_0 m12_1 m13_0 m13_1 m14_0 m14_1 m15_0 m15_1 f17 q31 f32 f34 g_3 f36 f37 q38 f39 f40 f41 m42_0 m42_1 f43 f44 f47 f48 f49 f50 f51 q54 q55 q56 f57 q58 f59 f60 f64 (80 * x16 + (56 + 3 * (a1 - 100)) + g_4) hx16 hx18 hx19 hx21 hx22 hx26 hx28 hx29 hx30 hx33 hx46 hx52 hx53 hx61 hx62 hx63 hx65 hm12_0 hm12_1 hm13_0 hm13_1 hm14_0 hm14_1 hm15_0 hm15_1 hm42_0 hm42_1 (by omega)) (cwV 2 hts g_EM_holdsAll_p_EM_holds rfl rfl rfl (by decide +kernel) ⟨Nat.le_of_ble_eq_true rfl, Nat.le_of_ble_eq_true rfl⟩) ⟨pu_bl, va_recv hK hP (ci := 9) (q0 := 0) rfl rfl, pu_in hP hK hD⟩ rfl rfl hl.1 rfl (lv_room (Nat.le_of_ble_eq_true rfl)) dX9_holdsAll_19 ⟨Nat.le_of_ble_eq_true rfl, Nat.le_of_ble_eq_true rfl⟩) hS (fun q _ h => hFc q h) hFc (fun u t H1 locs ht hvm hw hB hz1 hk1 hS => ?_)
      obtain ⟨z35_17, ⟨hP1, -, hD1⟩, xr_16_0⟩ := hB
      rw [ht] at hP1
      have hP := hP1
      have hD := pu_all hFc hD1
      clear hP1 hD1 hFc
      clear hk1 hz1 ht hvm
      generalize H1 = H at hP hS ⊢
      replace hsp := hsp.trans (slet_eq xr_16_0)
      refine lv_iinc (v := (nI (g_4 + 1))) (lv' := [(3, .int (nI (g_4 + 1))), (0, .ref (ad 0)), (1, .ref (ad 35)), (2, .int (nI a1))]) hx hb dX9_holdsAll_22 hl (k := 3) rfl (nI_1 _) (by decide) rfl (fun ls hl => ?_)
      refine lv_goto (tgt := 2) hx hb dX9_holdsAll_25 (by decide) ?_
      exact ih_5 (3 - (g_4 + 1)) (by omega) _ _ _ ⟨z35_17, (g_4 + 1), rfl, (by omega), hin_9 _ hsp, hP, hD, hS, lv_sub hl [1, 2, 3, 0] rfl⟩
