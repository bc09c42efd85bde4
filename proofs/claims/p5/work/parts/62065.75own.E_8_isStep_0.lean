theorem eX8_isStep_0 : decode cX8_isStep 0 = .ok (.aload_n 0, 1) := by decide +kernel
theorem eX8_isStep_1 : decode cX8_isStep 1 = .ok (.iload_n 1, 1) := by decide +kernel
theorem eX8_isStep_2 : decode cX8_isStep 2 = .ok (.invokevirtual 228, 3) := by decide +kernel
theorem eX8_isStep_5 : decode cX8_isStep 5 = .ok (.ifCond .eq 24, 3) := by decide +kernel
theorem eX8_isStep_29 : decode cX8_isStep 29 = .ok (.iconst 0, 1) := by decide +kernel
theorem eX8_isStep_30 : decode cX8_isStep 30 = .ok (.ireturn, 1) := by decide +kernel
abbrev vs_E_8_isStep_0 : List Cond := .code yX8_isStep cX8_isStep 3 (some .boolean) :: CM
theorem g_E_8_isStep_0_E_8_isState_0 : GoodIn vs_E_8_isStep_0 (wsV RX8 228 RX8 yX8_isState vs_E_8_isState_0) := cm_gV cm_537 cm_538 cm_539 cm_427 cm_530
noncomputable def sp_E_8_isStep_0 : Unit := ()
set_option maxHeartbeats 4000000 in
set_option maxRecDepth 100000 in
theorem c_E_8_isStep_0 (l : Launch) (dC : Nat → ClassId) (dI : Nat → Nat → Nat) (sz : Nat) (xa : Nat) (xtape : Nat) (tp : Nat) (rd : Nat) (au : Nat) (xdr : Nat) (hy : Nat) (g : Nat) (tg : Nat) (sg : Nat) (ss : Nat) (rm : Nat) (ti : Nat) (py : Nat) (bu : Nat) (sm : Nat) (gz : Nat) (g1 : Nat) (g2 : Nat) (g3 : Nat) (g4 : Nat) (g5 : Nat) (gc : Nat) (gfull : Nat) (gx : Int32) (gway : Int32) (gav : Int32) (ggoal : Int32) (gfound : Nat) (gl : Nat) (gsz : Nat) (g16 : Nat) (g17 : Nat) (k_fs2 : ClassId) (fs2 : Nat → Int32) (k_fs3 : ClassId) (fs3 : Nat → Int32) (k_fs4 : ClassId) (fs4 : Nat → Int32) (p0 : Int32) (p1 : Int32) (htp : tp ≤ 900) (hss : ss ≤ 1) (hgc : gc ≤ 120) (hgfull : gfull ≤ 1) (hgfound : gfound ≤ 1) (hgl : gl ≤ 1) (hgsz : gsz ≤ 4) : Met l yX8_isStep vs_E_8_isStep_0 ({ frames := 1, cells := 0, slots := 0, locals := 21 }) (va_Pc [.ref xa, .int p0, .int p1] (pu_B (dC, dI) (xgl__w xa xtape (nI tp) rd au xdr hy g 0 tg sg (nI ss) rm ti py bu sm gz g1 g2 g3 g4 g5 (nI gc) (nI gfull) gx gway gav ggoal (nI gfound) 120 (nI gl) (nI gsz) g16 g17 k_fs2 fs2 k_fs3 fs3 k_fs4 fs4) (xgl__t k_fs2 k_fs3 k_fs4) sz)) (va_Qi (fun (r : Int32) (_ : Unit) => r = 0) (fun _ _ => True) (va_A [] sz)) 0 0 (va_A [] sz) := by
  refine Met.ofW (cc := cX8_isStep) (maxL := 3) (ret := (some .boolean)) (by decide) rfl ?_
  intro p e s m args below meth c s₁ B hml hv
  obtain ⟨rfl, rfl, hP, hK, hD0⟩ := hv
  have hx := B.exec
  have hb := B.bytes
  have hr := B.returns
  have hts := atoms_spec (ws := vs_E_8_isStep_0) B.pre
  have hown : s.vm.findClass RX8 = some m.cls := findClass_of_methodNamed B.named
  have hlocks := B.notSynchronized
  have hD := hD0
  have hA : ∀ q : Nat, s.heap.size ≤ q → va_A [] s.heap.size q := fun _ h => Or.inr h
  have hS : va_S (va_A [] s.heap.size) s.heap s.heap [] := va_S.rf
  have hl := lv_entry ([.ref xa, .int p0, .int p1]) (n := 3) (Nat.le_of_ble_eq_true rfl)
  rw [lg_entry_eq]
  generalize (lg_sl ([.ref xa, .int p0, .int p1]) ++ List.replicate (3 - (lg_sl ([.ref xa, .int p0, .int p1])).length) Slot.unset).toArray = ls at hl ⊢
  have hl : lv_has ls 3 [(0, .ref xa), (1, .int p0), (2, .int p1)] := hl
  obtain ⟨RR, hRR⟩ : ∃ x, x = sp_E_8_isStep_0 := ⟨_, rfl⟩
  have hsp := hRR
  refine lv_aload_n hx hb eX8_isStep_0 rfl (lv_at hl 0 rfl) ?_
  refine lv_iload_n hx hb eX8_isStep_1 rfl (lv_at hl 1 rfl) ?_
  have hPc : va_P (dC, dI) vwCl (xg0__w xa xtape (nI tp) rd au xdr hy g 0 tg sg (nI ss) rm ti py bu sm gz g1 g2 g3 g4 g5 (nI gc) (nI gfull) gx gway gav ggoal (nI gfound) 120 (nI gl) (nI gsz) g16 g17) _ := hP.sub [0, 1] rfl
  have hDc := hD.sub (ws' := (xg0__w xa xtape (nI tp) rd au xdr hy g 0 tg sg (nI ss) rm ti py bu sm gz g1 g2 g3 g4 g5 (nI gc) (nI gfull) gx gway gav ggoal (nI gfound) 120 (nI gl) (nI gsz) g16 g17)) [0, 1] (by decide) rfl
  have hKc : va_K (dC, dI) vwCl (xg0__t ) s := hK.sub [] rfl
  refine va_calli (va_runV (As := [.int p0]) (rest := []) ⟨hx, hb, hml, hown, hts⟩ (c_E_8_isState_0 l dC dI _ xa xtape tp rd au xdr hy g tg sg ss rm ti py bu sm gz g1 g2 g3 g4 g5 gc gfull gx gway gav ggoal gfound gl gsz g16 g17 p0 htp hss hgc hgfull hgfound hgl hgsz) (cwV 1 hts g_E_8_isStep_0_E_8_isState_0 rfl rfl rfl (by decide +kernel) ⟨Nat.le_of_ble_eq_true rfl, Nat.le_of_ble_eq_true rfl⟩) ⟨pu_bl, va_recv hK hP (ci := 8) (q0 := 0) rfl rfl, pu_in hPc hKc hDc⟩ rfl rfl hl.1 rfl (lv_room (Nat.le_of_ble_eq_true rfl)) eX8_isStep_2 ⟨Nat.le_of_ble_eq_true rfl, Nat.le_of_ble_eq_true rfl⟩) hS (fun q _ h => pu_fr hS hA q h) (pu_fr hS hA) (fun r_1 u t H1 locs ht hvm hw hB hz1 hk1 hS => ?_)
  have hP := pu_keep hP hk1
  clear hk1 hz1 ht hvm
  generalize H1 = H at hP hS ⊢
  obtain rfl : r_1 = 0 := hw
  refine lv_if_eq (tgt := 29) hx hb eX8_isStep_5 (by decide) (fun _ => ?_) (fun z => absurd z (by decide))
  refine lv_iconst (v := 0) hx hb eX8_isStep_29 (by decide) ?_
  exact W.zret (v := 0) (ty := .boolean) hx hb hr (rfl) (fun t ht hW => ⟨⟨0, (), rfl, rfl, trivial⟩, hS.F ht⟩) hS.2.2 eX8_isStep_30
