theorem dJ3_checkIndex_8e157_0 : decode cJ3_checkIndex_8e157 0 = .ok (.iload_n 0, 1) := by decide +kernel
theorem dJ3_checkIndex_8e157_1 : decode cJ3_checkIndex_8e157 1 = .ok (.ifCond .lt 8, 3) := by decide +kernel
theorem dJ3_checkIndex_8e157_4 : decode cJ3_checkIndex_8e157 4 = .ok (.iload_n 0, 1) := by decide +kernel
theorem dJ3_checkIndex_8e157_5 : decode cJ3_checkIndex_8e157 5 = .ok (.iload_n 1, 1) := by decide +kernel
theorem dJ3_checkIndex_8e157_6 : decode cJ3_checkIndex_8e157 6 = .ok (.if_icmp .lt 10, 3) := by decide +kernel
theorem dJ3_checkIndex_8e157_16 : decode cJ3_checkIndex_8e157 16 = .ok (.iload_n 0, 1) := by decide +kernel
theorem dJ3_checkIndex_8e157_17 : decode cJ3_checkIndex_8e157 17 = .ok (.ireturn, 1) := by decide +kernel
def vs_J3_cki_n : List Cond := .code yJ3_checkIndex_8e157 cJ3_checkIndex_8e157 3 (some .int) :: ([])
set_option maxHeartbeats 4000000 in
set_option maxRecDepth 100000 in
theorem c_J3_cki_n (l : Launch) (dC : Nat → ClassId) (dI : Nat → Nat → Nat) (sz : Nat) (p0 p1 : Int32) (hlo : ¬ p0 < 0) (hlt : p0 < p1) : Met l yJ3_checkIndex_8e157 vs_J3_cki_n ({ frames := 0, cells := 0, slots := 0, locals := 0 }) (va_Pc [.int p0, .int p1, .null] (pu_B (dC, dI) [] [] sz)) (va_Qi (fun (r : Int32) (_ : Unit) => r = p0) (fun _ _ => True) (va_A [] sz)) 0 0 (va_A [] sz) := by
  refine Met.ofW (cc := cJ3_checkIndex_8e157) (maxL := 3) (ret := (some .int)) (by decide) rfl ?_
  intro p e s m args below meth c s₁ B hml hv
  obtain ⟨rfl, rfl, hP, hK, hD0⟩ := hv
  have hx := B.exec
  have hb := B.bytes
  have hr := B.returns
  have hts := atoms_spec (ws := vs_J3_cki_n) B.pre
  have hown : s.vm.findClass RJ3 = some m.cls := findClass_of_methodNamed B.named
  have hlocks := B.notSynchronized
  have hD := hD0
  have hA : ∀ q : Nat, s.heap.size ≤ q → va_A [] s.heap.size q := fun _ h => Or.inr h
  have hS : va_S (va_A [] s.heap.size) s.heap s.heap [] := va_S.rf
  have hl := lv_entry ([.int p0, .int p1, .null]) (n := 3) (Nat.le_of_ble_eq_true rfl)
  rw [lg_entry_eq]
  generalize (lg_sl ([.int p0, .int p1, .null]) ++ List.replicate (3 - (lg_sl ([.int p0, .int p1, .null])).length) Slot.unset).toArray = ls at hl ⊢
  have hl : lv_has ls 3 [(0, .int p0), (1, .int p1), (2, .null)] := hl
  refine lv_iload_n hx hb dJ3_checkIndex_8e157_0 rfl (lv_at hl 0 rfl) ?_
  refine lv_if_lt (tgt := 9) hx hb dJ3_checkIndex_8e157_1 (by decide) (fun z => absurd z hlo) (fun _ => ?_)
  refine lv_iload_n hx hb dJ3_checkIndex_8e157_4 rfl (lv_at hl 0 rfl) ?_
  refine lv_iload_n hx hb dJ3_checkIndex_8e157_5 rfl (lv_at hl 1 rfl) ?_
  refine lv_icmp_lt (tgt := 16) hx hb dJ3_checkIndex_8e157_6 (by decide) (fun _ => ?_) (fun z => absurd hlt z)
  refine lv_iload_n hx hb dJ3_checkIndex_8e157_16 rfl (lv_at hl 0 rfl) ?_
  exact W.iret (v := p0) hx hb hr (fun t ht hW => ⟨⟨p0, (), rfl, by first | rfl | decide | simp_all, trivial⟩, hS.F ht⟩) hS.2.2 dJ3_checkIndex_8e157_17
def vs_J3_cki_r : List Cond := .code yJ3_checkIndex_8e157 cJ3_checkIndex_8e157 3 (some .int) :: ([])
set_option maxHeartbeats 4000000 in
set_option maxRecDepth 100000 in
theorem c_J3_cki_r (l : Launch) (dC : Nat → ClassId) (dI : Nat → Nat → Nat) (sz : Nat) (p0 p1 : Int32) (hlo : ¬ p0 < 0) (hlt : p0 < p1) (t0 : Nat) : Met l yJ3_checkIndex_8e157 vs_J3_cki_r ({ frames := 0, cells := 0, slots := 0, locals := 0 }) (va_Pc [.int p0, .int p1, .ref t0] (pu_B (dC, dI) [] [] sz)) (va_Qi (fun (r : Int32) (_ : Unit) => r = p0) (fun _ _ => True) (va_A [] sz)) 0 0 (va_A [] sz) := by
  refine Met.ofW (cc := cJ3_checkIndex_8e157) (maxL := 3) (ret := (some .int)) (by decide) rfl ?_
  intro p e s m args below meth c s₁ B hml hv
  obtain ⟨rfl, rfl, hP, hK, hD0⟩ := hv
  have hx := B.exec
  have hb := B.bytes
  have hr := B.returns
  have hts := atoms_spec (ws := vs_J3_cki_r) B.pre
  have hown : s.vm.findClass RJ3 = some m.cls := findClass_of_methodNamed B.named
  have hlocks := B.notSynchronized
  have hD := hD0
  have hA : ∀ q : Nat, s.heap.size ≤ q → va_A [] s.heap.size q := fun _ h => Or.inr h
  have hS : va_S (va_A [] s.heap.size) s.heap s.heap [] := va_S.rf
  have hl := lv_entry ([.int p0, .int p1, .ref t0]) (n := 3) (Nat.le_of_ble_eq_true rfl)
  rw [lg_entry_eq]
  generalize (lg_sl ([.int p0, .int p1, .ref t0]) ++ List.replicate (3 - (lg_sl ([.int p0, .int p1, .ref t0])).length) Slot.unset).toArray = ls at hl ⊢
  have hl : lv_has ls 3 [(0, .int p0), (1, .int p1), (2, .ref t0)] := hl
  refine lv_iload_n hx hb dJ3_checkIndex_8e157_0 rfl (lv_at hl 0 rfl) ?_
  refine lv_if_lt (tgt := 9) hx hb dJ3_checkIndex_8e157_1 (by decide) (fun z => absurd z hlo) (fun _ => ?_)
  refine lv_iload_n hx hb dJ3_checkIndex_8e157_4 rfl (lv_at hl 0 rfl) ?_
  refine lv_iload_n hx hb dJ3_checkIndex_8e157_5 rfl (lv_at hl 1 rfl) ?_
  refine lv_icmp_lt (tgt := 16) hx hb dJ3_checkIndex_8e157_6 (by decide) (fun _ => ?_) (fun z => absurd hlt z)
  refine lv_iload_n hx hb dJ3_checkIndex_8e157_16 rfl (lv_at hl 0 rfl) ?_
  exact W.iret (v := p0) hx hb hr (fun t ht hW => ⟨⟨p0, (), rfl, by first | rfl | decide | simp_all, trivial⟩, hS.F ht⟩) hS.2.2 dJ3_checkIndex_8e157_17
theorem dJ0_checkIndex_df160_0 : decode cJ0_checkIndex_df160 0 = .ok (.iload_n 0, 1) := by decide +kernel
theorem dJ0_checkIndex_df160_1 : decode cJ0_checkIndex_df160 1 = .ok (.iload_n 1, 1) := by decide +kernel
theorem dJ0_checkIndex_df160_2 : decode cJ0_checkIndex_df160 2 = .ok (.getstatic 1053, 3) := by decide +kernel
theorem dJ0_checkIndex_df160_5 : decode cJ0_checkIndex_df160 5 = .ok (.invokestatic 1059, 3) := by decide +kernel
theorem dJ0_checkIndex_df160_8 : decode cJ0_checkIndex_df160 8 = .ok (.pop, 1) := by decide +kernel
theorem dJ0_checkIndex_df160_9 : decode cJ0_checkIndex_df160 9 = .ok (.return_, 1) := by decide +kernel
def vs_J0_cki : List Cond := .code yJ0_checkIndex_df160 cJ0_checkIndex_df160 2 none :: ([.fieldLink RJ0 1053 "jdk/internal/util/Preconditions" "SIOOBE_FORMATTER" "Ljava/util/function/BiFunction;", .methodLink RJ0 1059 yJ3_checkIndex_8e157, .static yJ3_checkIndex_8e157, .initialized RJ3, .code yJ3_checkIndex_8e157 cJ3_checkIndex_8e157 3 (some .int)])
theorem g_J0_cki_J3_cki_n : GoodIn vs_J0_cki (va_wsS RJ0 1059 yJ3_checkIndex_8e157 vs_J3_cki_n) := goodIn_r _ [2, 3, 4, 5] (by decide +kernel) (by decide +kernel)
theorem g_J0_cki_J3_cki_r : GoodIn vs_J0_cki (va_wsS RJ0 1059 yJ3_checkIndex_8e157 vs_J3_cki_r) := goodIn_r _ [2, 3, 4, 5] (by decide +kernel) (by decide +kernel)
set_option maxHeartbeats 4000000 in
set_option maxRecDepth 100000 in
theorem c_J0_cki (l : Launch) (dC : Nat → ClassId) (dI : Nat → Nat → Nat) (sz : Nat) (adK adV : Nat → Nat) (fz : Option Nat) (p0 p1 : Int32) (hlo : ¬ p0 < 0) (hlt : p0 < p1) : Met l yJ0_checkIndex_df160 vs_J0_cki ({ frames := 1, cells := 0, slots := 0, locals := 22 }) (va_Pc [.int p0, .int p1] (pu_X adK adV fz (dC, dI) [] [] sz)) (va_Qv (fun (_ : Unit) => True) (fun _ _ => True) (va_A [] sz)) 0 0 (va_A [] sz) := by
  refine Met.ofW (cc := cJ0_checkIndex_df160) (maxL := 2) (ret := none) (by decide) rfl ?_
  intro p e s m args below meth c s₁ B hml hv
  obtain ⟨rfl, ⟨rfl, hP, hK, hD0⟩, hE⟩ := hv
  have hx := B.exec
  have hb := B.bytes
  have hr := B.returns
  have hts := atoms_spec (ws := vs_J0_cki) B.pre
  have v_1 := hts (.fieldLink RJ0 1053 "jdk/internal/util/Preconditions" "SIOOBE_FORMATTER" "Ljava/util/function/BiFunction;") (List.mem_of_getElem? (i := 1) rfl)
  have hown : s.vm.findClass RJ0 = some m.cls := findClass_of_methodNamed B.named
  have hlocks := B.notSynchronized
  have hD := hD0
  have hA : ∀ q : Nat, s.heap.size ≤ q → va_A [] s.heap.size q := fun _ h => Or.inr h
  have hS : va_S (va_A [] s.heap.size) s.heap s.heap [] := va_S.rf
  have hE : sx_E adK adV fz (va_A [] s.heap.size) s s.heap := hE
  have hl := lv_entry ([.int p0, .int p1]) (n := 2) (Nat.le_of_ble_eq_true rfl)
  rw [lg_entry_eq]
  generalize (lg_sl ([.int p0, .int p1]) ++ List.replicate (2 - (lg_sl ([.int p0, .int p1])).length) Slot.unset).toArray = ls at hl ⊢
  have hl : lv_has ls 2 [(0, .int p0), (1, .int p1)] := hl
  cases fz with
  | none =>
    refine lv_iload_n hx hb dJ0_checkIndex_df160_0 rfl (lv_at hl 0 rfl) ?_
    refine lv_iload_n hx hb dJ0_checkIndex_df160_1 rfl (lv_at hl 1 rfl) ?_
    refine va_gets (v := .null) hx hb hE.2.2.2.2 hS hown v_1 (fun _ h9 => h9) dJ0_checkIndex_df160_2 ?_
    refine va_calli (va_runS (As := [.int p0, .int p1, .null]) (rest := []) ⟨hx, hb, hml, hown, hts⟩ (c_J3_cki_n l dC dI _ p0 p1 hlo hlt) (va_cwS 3 hts g_J0_cki_J3_cki_n rfl rfl rfl (by decide +kernel) ⟨Nat.le_of_ble_eq_true rfl, Nat.le_of_ble_eq_true rfl⟩) ⟨pu_bl, pu_in hP hK hD⟩ rfl rfl hl.1 rfl (lv_room (Nat.le_of_ble_eq_true rfl)) dJ0_checkIndex_df160_5 ⟨Nat.le_of_ble_eq_true rfl, Nat.le_of_ble_eq_true rfl⟩) hS (fun q _ h => pu_fr hS hA q h) (pu_fr hS hA) (fun r_1 u t H1 locs ht hvm hw hB hz1 hk1 hS => ?_)
    have hP := pu_keep hP hk1
    clear hk1 hz1 ht hvm
    generalize H1 = H at hP hS ⊢
    obtain rfl : r_1 = p0 := hw
    refine lv_pop hx hb dJ0_checkIndex_df160_8 rfl ?_
    exact W.vret hx hb hr (fun t ht hW => ⟨⟨(), rfl, trivial, trivial⟩, hS.F ht⟩) hS.2.2 dJ0_checkIndex_df160_9
  | some t =>
    refine lv_iload_n hx hb dJ0_checkIndex_df160_0 rfl (lv_at hl 0 rfl) ?_
    refine lv_iload_n hx hb dJ0_checkIndex_df160_1 rfl (lv_at hl 1 rfl) ?_
    refine va_gets (v := .ref t) hx hb hE.2.2.2.2 hS hown v_1 (fun _ h9 => h9) dJ0_checkIndex_df160_2 ?_
    refine va_calli (va_runS (As := [.int p0, .int p1, .ref t]) (rest := []) ⟨hx, hb, hml, hown, hts⟩ (c_J3_cki_r l dC dI _ p0 p1 hlo hlt t) (va_cwS 3 hts g_J0_cki_J3_cki_r rfl rfl rfl (by decide +kernel) ⟨Nat.le_of_ble_eq_true rfl, Nat.le_of_ble_eq_true rfl⟩) ⟨pu_bl, pu_in hP hK hD⟩ rfl rfl hl.1 rfl (lv_room (Nat.le_of_ble_eq_true rfl)) dJ0_checkIndex_df160_5 ⟨Nat.le_of_ble_eq_true rfl, Nat.le_of_ble_eq_true rfl⟩) hS (fun q _ h => pu_fr hS hA q h) (pu_fr hS hA) (fun r_2 u t H1 locs ht hvm hw hB hz1 hk1 hS => ?_)
    have hP := pu_keep hP hk1
    clear hk1 hz1 ht hvm
    generalize H1 = H at hP hS ⊢
    obtain rfl : r_2 = p0 := hw
    refine lv_pop hx hb dJ0_checkIndex_df160_8 rfl ?_
    exact W.vret hx hb hr (fun t ht hW => ⟨⟨(), rfl, trivial, trivial⟩, hS.F ht⟩) hS.2.2 dJ0_checkIndex_df160_9
theorem dJ0_coder_7d493_0 : decode cJ0_coder_7d493 0 = .ok (.getstatic 38, 3) := by decide +kernel
theorem dJ0_coder_7d493_3 : decode cJ0_coder_7d493 3 = .ok (.ifCond .eq 10, 3) := by decide +kernel
theorem dJ0_coder_7d493_6 : decode cJ0_coder_7d493 6 = .ok (.aload_n 0, 1) := by decide +kernel
theorem dJ0_coder_7d493_7 : decode cJ0_coder_7d493 7 = .ok (.getfield 15, 3) := by decide +kernel
theorem dJ0_coder_7d493_10 : decode cJ0_coder_7d493 10 = .ok (.goto 4, 3) := by decide +kernel
theorem dJ0_coder_7d493_14 : decode cJ0_coder_7d493 14 = .ok (.ireturn, 1) := by decide +kernel
def vs_J0_coder : List Cond := .code yJ0_coder_7d493 cJ0_coder_7d493 1 (some .byte) :: ([.fieldLink RJ0 38 "java/lang/String" "COMPACT_STRINGS" "Z", .fieldLink RJ0 15 "java/lang/String" "coder" "B"])
set_option maxHeartbeats 4000000 in
set_option maxRecDepth 100000 in
theorem c_J0_coder (l : Launch) (dC : Nat → ClassId) (dI : Nat → Nat → Nat) (sz : Nat) (adK adV : Nat → Nat) (fz : Option Nat) (i : Nat) (hi : i < 8) : Met l yJ0_coder_7d493 vs_J0_coder ({ frames := 0, cells := 0, slots := 0, locals := 0 }) (va_Pc [.ref (adK i)] (pu_X adK adV fz (dC, dI) [] [] sz)) (va_Qi (fun (r : Int32) (_ : Unit) => r = 0) (fun _ _ => True) (va_A [] sz)) 0 0 (va_A [] sz) := by
  refine Met.ofW (cc := cJ0_coder_7d493) (maxL := 1) (ret := (some .byte)) (by decide) rfl ?_
  intro p e s m args below meth c s₁ B hml hv
  obtain ⟨rfl, ⟨rfl, hP, hK, hD0⟩, hE⟩ := hv
  have hx := B.exec
  have hb := B.bytes
  have hr := B.returns
  have hts := atoms_spec (ws := vs_J0_coder) B.pre
  have v_1 := hts (.fieldLink RJ0 38 "java/lang/String" "COMPACT_STRINGS" "Z") (List.mem_of_getElem? (i := 1) rfl)
  have v_2 := hts (.fieldLink RJ0 15 "java/lang/String" "coder" "B") (List.mem_of_getElem? (i := 2) rfl)
  have hown : s.vm.findClass RJ0 = some m.cls := findClass_of_methodNamed B.named
  have hlocks := B.notSynchronized
  have hD := hD0
  have hA : ∀ q : Nat, s.heap.size ≤ q → va_A [] s.heap.size q := fun _ h => Or.inr h
  have hS : va_S (va_A [] s.heap.size) s.heap s.heap [] := va_S.rf
  have hE : sx_E adK adV fz (va_A [] s.heap.size) s s.heap := hE
  have hl := lv_entry ([.ref (adK i)]) (n := 1) (Nat.le_of_ble_eq_true rfl)
  rw [lg_entry_eq]
  generalize (lg_sl ([.ref (adK i)]) ++ List.replicate (1 - (lg_sl ([.ref (adK i)])).length) Slot.unset).toArray = ls at hl ⊢
  have hl : lv_has ls 1 [(0, .ref (adK i))] := hl
  refine va_gets (v := .int 1) hx hb hE.2.2.2.1 hS hown v_1 (fun _ h9 => h9) dJ0_coder_7d493_0 ?_
  refine lv_if_eq (tgt := 13) hx hb dJ0_coder_7d493_3 (by decide) (fun z => absurd z (by decide)) (fun _ => ?_)
  refine lv_aload_n hx hb dJ0_coder_7d493_6 rfl (lv_at hl 0 rfl) ?_
  refine vk_getf (v := .int 0) hx hb (hE.2.1.1 i hi).2.1 hS hown v_2 (fun _ h9 => h9) dJ0_coder_7d493_7 ?_
  refine lv_goto (tgt := 14) hx hb dJ0_coder_7d493_10 (by decide) ?_
  exact W.zret (v := 0) (ty := .byte) hx hb hr rfl (fun t ht hW => ⟨⟨0, (), rfl, by first | rfl | decide | simp_all, trivial⟩, hS.F ht⟩) hS.2.2 dJ0_coder_7d493_14
theorem dJ0_isLatin1_aae02_0 : decode cJ0_isLatin1_aae02 0 = .ok (.getstatic 38, 3) := by decide +kernel
theorem dJ0_isLatin1_aae02_3 : decode cJ0_isLatin1_aae02 3 = .ok (.ifCond .eq 14, 3) := by decide +kernel
theorem dJ0_isLatin1_aae02_6 : decode cJ0_isLatin1_aae02 6 = .ok (.aload_n 0, 1) := by decide +kernel
theorem dJ0_isLatin1_aae02_7 : decode cJ0_isLatin1_aae02 7 = .ok (.getfield 15, 3) := by decide +kernel
theorem dJ0_isLatin1_aae02_10 : decode cJ0_isLatin1_aae02 10 = .ok (.ifCond .ne 7, 3) := by decide +kernel
theorem dJ0_isLatin1_aae02_13 : decode cJ0_isLatin1_aae02 13 = .ok (.iconst 1, 1) := by decide +kernel
theorem dJ0_isLatin1_aae02_14 : decode cJ0_isLatin1_aae02 14 = .ok (.goto 4, 3) := by decide +kernel
theorem dJ0_isLatin1_aae02_18 : decode cJ0_isLatin1_aae02 18 = .ok (.ireturn, 1) := by decide +kernel
def vs_J0_isLatin1 : List Cond := .code yJ0_isLatin1_aae02 cJ0_isLatin1_aae02 1 (some .boolean) :: ([.fieldLink RJ0 38 "java/lang/String" "COMPACT_STRINGS" "Z", .fieldLink RJ0 15 "java/lang/String" "coder" "B"])
set_option maxHeartbeats 4000000 in
set_option maxRecDepth 100000 in
theorem c_J0_isLatin1 (l : Launch) (dC : Nat → ClassId) (dI : Nat → Nat → Nat) (sz : Nat) (adK adV : Nat → Nat) (fz : Option Nat) (i : Nat) (hi : i < 8) : Met l yJ0_isLatin1_aae02 vs_J0_isLatin1 ({ frames := 0, cells := 0, slots := 0, locals := 0 }) (va_Pc [.ref (adK i)] (pu_X adK adV fz (dC, dI) [] [] sz)) (va_Qi (fun (r : Int32) (_ : Unit) => r = 1) (fun _ _ => True) (va_A [] sz)) 0 0 (va_A [] sz) := by
  refine Met.ofW (cc := cJ0_isLatin1_aae02) (maxL := 1) (ret := (some .boolean)) (by decide) rfl ?_
  intro p e s m args below meth c s₁ B hml hv
  obtain ⟨rfl, ⟨rfl, hP, hK, hD0⟩, hE⟩ := hv
  have hx := B.exec
  have hb := B.bytes
  have hr := B.returns
  have hts := atoms_spec (ws := vs_J0_isLatin1) B.pre
  have v_1 := hts (.fieldLink RJ0 38 "java/lang/String" "COMPACT_STRINGS" "Z") (List.mem_of_getElem? (i := 1) rfl)
  have v_2 := hts (.fieldLink RJ0 15 "java/lang/String" "coder" "B") (List.mem_of_getElem? (i := 2) rfl)
  have hown : s.vm.findClass RJ0 = some m.cls := findClass_of_methodNamed B.named
  have hlocks := B.notSynchronized
  have hD := hD0
  have hA : ∀ q : Nat, s.heap.size ≤ q → va_A [] s.heap.size q := fun _ h => Or.inr h
  have hS : va_S (va_A [] s.heap.size) s.heap s.heap [] := va_S.rf
  have hE : sx_E adK adV fz (va_A [] s.heap.size) s s.heap := hE
  have hl := lv_entry ([.ref (adK i)]) (n := 1) (Nat.le_of_ble_eq_true rfl)
  rw [lg_entry_eq]
  generalize (lg_sl ([.ref (adK i)]) ++ List.replicate (1 - (lg_sl ([.ref (adK i)])).length) Slot.unset).toArray = ls at hl ⊢
  have hl : lv_has ls 1 [(0, .ref (adK i))] := hl
  refine va_gets (v := .int 1) hx hb hE.2.2.2.1 hS hown v_1 (fun _ h9 => h9) dJ0_isLatin1_aae02_0 ?_
  refine lv_if_eq (tgt := 17) hx hb dJ0_isLatin1_aae02_3 (by decide) (fun z => absurd z (by decide)) (fun _ => ?_)
  refine lv_aload_n hx hb dJ0_isLatin1_aae02_6 rfl (lv_at hl 0 rfl) ?_
  refine vk_getf (v := .int 0) hx hb (hE.2.1.1 i hi).2.1 hS hown v_2 (fun _ h9 => h9) dJ0_isLatin1_aae02_7 ?_
  refine lv_if_ne (tgt := 17) hx hb dJ0_isLatin1_aae02_10 (by decide) (fun z => absurd z (by decide)) (fun _ => ?_)
  refine lv_iconst (v := 1) hx hb dJ0_isLatin1_aae02_13 (by decide) ?_
  refine lv_goto (tgt := 18) hx hb dJ0_isLatin1_aae02_14 (by decide) ?_
  exact W.zret (v := 1) (ty := .boolean) hx hb hr rfl (fun t ht hW => ⟨⟨1, (), rfl, by first | rfl | decide | simp_all, trivial⟩, hS.F ht⟩) hS.2.2 dJ0_isLatin1_aae02_18
theorem dJ0_length_8abf5_0 : decode cJ0_length_8abf5 0 = .ok (.aload_n 0, 1) := by decide +kernel
theorem dJ0_length_8abf5_1 : decode cJ0_length_8abf5 1 = .ok (.getfield 9, 3) := by decide +kernel
theorem dJ0_length_8abf5_4 : decode cJ0_length_8abf5 4 = .ok (.arraylength, 1) := by decide +kernel
theorem dJ0_length_8abf5_5 : decode cJ0_length_8abf5 5 = .ok (.aload_n 0, 1) := by decide +kernel
theorem dJ0_length_8abf5_6 : decode cJ0_length_8abf5 6 = .ok (.invokevirtual 335, 3) := by decide +kernel
theorem dJ0_length_8abf5_9 : decode cJ0_length_8abf5 9 = .ok (.ishr, 1) := by decide +kernel
theorem dJ0_length_8abf5_10 : decode cJ0_length_8abf5 10 = .ok (.ireturn, 1) := by decide +kernel
def vs_J0_length : List Cond := .code yJ0_length_8abf5 cJ0_length_8abf5 1 (some .int) :: ([.fieldLink RJ0 9 "java/lang/String" "value" "[B", .methodLink RJ0 335 yJ0_coder_7d493, .instanceMethod yJ0_coder_7d493, .selects RJ0 yJ0_coder_7d493 yJ0_coder_7d493, .initialized RJ0, .code yJ0_coder_7d493 cJ0_coder_7d493 1 (some .byte), .fieldLink RJ0 38 "java/lang/String" "COMPACT_STRINGS" "Z", .fieldLink RJ0 15 "java/lang/String" "coder" "B"])
theorem g_J0_length_J0_coder : GoodIn vs_J0_length (wsV RJ0 335 RJ0 yJ0_coder_7d493 vs_J0_coder) := goodIn_r _ [2, 3, 4, 5, 6, 7, 8] (by decide +kernel) (by decide +kernel)
set_option maxHeartbeats 4000000 in
set_option maxRecDepth 100000 in
theorem c_J0_length (l : Launch) (dC : Nat → ClassId) (dI : Nat → Nat → Nat) (sz : Nat) (adK adV : Nat → Nat) (fz : Option Nat) (i : Nat) (hi : i < 8) : Met l yJ0_length_8abf5 vs_J0_length ({ frames := 1, cells := 0, slots := 0, locals := 20 }) (va_Pc [.ref (adK i)] (pu_X adK adV fz (dC, dI) [] [] sz)) (va_Qi (fun (r : Int32) (_ : Unit) => r = nI (tx_len.getD i 0)) (fun _ _ => True) (va_A [] sz)) 0 0 (va_A [] sz) := by
  refine Met.ofW (cc := cJ0_length_8abf5) (maxL := 1) (ret := (some .int)) (by decide) rfl ?_
  intro p e s m args below meth c s₁ B hml hv
  obtain ⟨rfl, ⟨rfl, hP, hK, hD0⟩, hE⟩ := hv
  have hx := B.exec
  have hb := B.bytes
  have hr := B.returns
  have hts := atoms_spec (ws := vs_J0_length) B.pre
  have v_1 := hts (.fieldLink RJ0 9 "java/lang/String" "value" "[B") (List.mem_of_getElem? (i := 1) rfl)
  have hown : s.vm.findClass RJ0 = some m.cls := findClass_of_methodNamed B.named
  have hlocks := B.notSynchronized
  have hD := hD0
  have hA : ∀ q : Nat, s.heap.size ≤ q → va_A [] s.heap.size q := fun _ h => Or.inr h
  have hS : va_S (va_A [] s.heap.size) s.heap s.heap [] := va_S.rf
  have hE : sx_E adK adV fz (va_A [] s.heap.size) s s.heap := hE
  have hl := lv_entry ([.ref (adK i)]) (n := 1) (Nat.le_of_ble_eq_true rfl)
  rw [lg_entry_eq]
  generalize (lg_sl ([.ref (adK i)]) ++ List.replicate (1 - (lg_sl ([.ref (adK i)])).length) Slot.unset).toArray = ls at hl ⊢
  have hl : lv_has ls 1 [(0, .ref (adK i))] := hl
  refine lv_aload_n hx hb dJ0_length_8abf5_0 rfl (lv_at hl 0 rfl) ?_
  refine vk_getf (v := .ref (adV i)) hx hb (hE.2.1.1 i hi).2.2.1 hS hown v_1 (fun _ h9 => h9) dJ0_length_8abf5_1 ?_
  refine va_tlen (v := (nI (tx_len.getD i 0))) hx hb (hE.2.1.1 i hi).2.2.2 hS rfl dJ0_length_8abf5_4 ?_
  refine lv_aload_n hx hb dJ0_length_8abf5_5 rfl (lv_at hl 0 rfl) ?_
  refine va_calli (va_runV (As := []) (rest := [.int (nI (tx_len.getD i 0))]) ⟨hx, hb, hml, hown, hts⟩ (c_J0_coder l dC dI _ adK adV fz i hi) (cwV 0 hts g_J0_length_J0_coder rfl rfl rfl (by decide +kernel) ⟨Nat.le_of_ble_eq_true rfl, Nat.le_of_ble_eq_true rfl⟩) ⟨pu_blx, vk_recv (i := i) hE.2.1 hi hS, pu_inx hP hK hD hE hS (pu_fr hS hA)⟩ rfl rfl hl.1 rfl (lv_room (Nat.le_of_ble_eq_true rfl)) dJ0_length_8abf5_6 ⟨Nat.le_of_ble_eq_true rfl, Nat.le_of_ble_eq_true rfl⟩) hS (fun q _ h => pu_fr hS hA q h) (pu_fr hS hA) (fun r_1 u t H1 locs ht hvm hw hB hz1 hk1 hS => ?_)
  have hP := pu_keep hP hk1
  clear hk1 hz1 ht hvm
  generalize H1 = H at hP hS ⊢
  obtain rfl : r_1 = 0 := hw
  refine lv_ishr hx hb dJ0_length_8abf5_9 ?_
  exact W.iret (v := (((nI (tx_len.getD i 0)) : Int32) >>> ((0 : Int32) &&& 31))) hx hb hr (fun t ht hW => ⟨⟨(((nI (tx_len.getD i 0)) : Int32) >>> ((0 : Int32) &&& 31)), (), rfl, sc_shr0 (tx_lt i hi), trivial⟩, hS.F ht⟩) hS.2.2 dJ0_length_8abf5_10
theorem dJ1_charAt_3b067_0 : decode cJ1_charAt_3b067 0 = .ok (.iload_n 1, 1) := by decide +kernel
theorem dJ1_charAt_3b067_1 : decode cJ1_charAt_3b067 1 = .ok (.aload_n 0, 1) := by decide +kernel
theorem dJ1_charAt_3b067_2 : decode cJ1_charAt_3b067 2 = .ok (.arraylength, 1) := by decide +kernel
theorem dJ1_charAt_3b067_3 : decode cJ1_charAt_3b067 3 = .ok (.invokestatic 9, 3) := by decide +kernel
theorem dJ1_charAt_3b067_6 : decode cJ1_charAt_3b067 6 = .ok (.aload_n 0, 1) := by decide +kernel
theorem dJ1_charAt_3b067_7 : decode cJ1_charAt_3b067 7 = .ok (.iload_n 1, 1) := by decide +kernel
theorem dJ1_charAt_3b067_8 : decode cJ1_charAt_3b067 8 = .ok (.baload, 1) := by decide +kernel
theorem dJ1_charAt_3b067_9 : decode cJ1_charAt_3b067 9 = .ok (.sipush 255, 3) := by decide +kernel
theorem dJ1_charAt_3b067_12 : decode cJ1_charAt_3b067 12 = .ok (.iand, 1) := by decide +kernel
theorem dJ1_charAt_3b067_13 : decode cJ1_charAt_3b067 13 = .ok (.i2c, 1) := by decide +kernel
theorem dJ1_charAt_3b067_14 : decode cJ1_charAt_3b067 14 = .ok (.ireturn, 1) := by decide +kernel
def vs_J1_charAt : List Cond := .code yJ1_charAt_3b067 cJ1_charAt_3b067 2 (some .char) :: ([.methodLink RJ1 9 yJ0_checkIndex_df160, .static yJ0_checkIndex_df160, .initialized RJ0, .code yJ0_checkIndex_df160 cJ0_checkIndex_df160 2 none, .fieldLink RJ0 1053 "jdk/internal/util/Preconditions" "SIOOBE_FORMATTER" "Ljava/util/function/BiFunction;", .methodLink RJ0 1059 yJ3_checkIndex_8e157, .static yJ3_checkIndex_8e157, .initialized RJ3, .code yJ3_checkIndex_8e157 cJ3_checkIndex_8e157 3 (some .int)])
theorem g_J1_charAt_J0_cki : GoodIn vs_J1_charAt (va_wsS RJ1 9 yJ0_checkIndex_df160 vs_J0_cki) := goodIn_r _ [1, 2, 3, 4, 5, 6, 7, 8, 9] (by decide +kernel) (by decide +kernel)
def tx_ch (i : Nat) (p0 : Int32) : Int32 := ((((((tx_byt.getD i []).getD (p0).toNatClampNeg 0) &&& 255)).toUInt32 % 65536).toInt32)
set_option maxHeartbeats 4000000 in
set_option maxRecDepth 100000 in
theorem c_J1_charAt (l : Launch) (dC : Nat → ClassId) (dI : Nat → Nat → Nat) (sz : Nat) (adK adV : Nat → Nat) (fz : Option Nat) (i : Nat) (hi : i < 8) (p0 : Int32) (hin : vp_in p0 (tx_len.getD i 0)) : Met l yJ1_charAt_3b067 vs_J1_charAt ({ frames := 2, cells := 0, slots := 0, locals := 43 }) (va_Pc [.ref (adV i), .int p0] (pu_X adK adV fz (dC, dI) [] [] sz)) (va_Qi (fun (r : Int32) (_ : Unit) => narrow .char (.int r) = .int r ∧ r = tx_ch i p0) (fun _ _ => True) (va_A [] sz)) 0 0 (va_A [] sz) := by
  refine Met.ofW (cc := cJ1_charAt_3b067) (maxL := 2) (ret := (some .char)) (by decide) rfl ?_
  intro p e s m args below meth c s₁ B hml hv
  obtain ⟨rfl, ⟨rfl, hP, hK, hD0⟩, hE⟩ := hv
  have hx := B.exec
  have hb := B.bytes
  have hr := B.returns
  have hts := atoms_spec (ws := vs_J1_charAt) B.pre
  have hown : s.vm.findClass RJ1 = some m.cls := findClass_of_methodNamed B.named
  have hlocks := B.notSynchronized
  have hD := hD0
  have hA : ∀ q : Nat, s.heap.size ≤ q → va_A [] s.heap.size q := fun _ h => Or.inr h
  have hS : va_S (va_A [] s.heap.size) s.heap s.heap [] := va_S.rf
  have hE : sx_E adK adV fz (va_A [] s.heap.size) s s.heap := hE
  have hl := lv_entry ([.ref (adV i), .int p0]) (n := 2) (Nat.le_of_ble_eq_true rfl)
  rw [lg_entry_eq]
  generalize (lg_sl ([.ref (adV i), .int p0]) ++ List.replicate (2 - (lg_sl ([.ref (adV i), .int p0])).length) Slot.unset).toArray = ls at hl ⊢
  have hl : lv_has ls 2 [(0, .ref (adV i)), (1, .int p0)] := hl
  refine lv_iload_n hx hb dJ1_charAt_3b067_0 rfl (lv_at hl 1 rfl) ?_
  refine lv_aload_n hx hb dJ1_charAt_3b067_1 rfl (lv_at hl 0 rfl) ?_
  refine va_tlen (v := (nI (tx_len.getD i 0))) hx hb (hE.2.1.1 i hi).2.2.2 hS rfl dJ1_charAt_3b067_2 ?_
  refine va_callv (va_runS (As := [.int p0, .int (nI (tx_len.getD i 0))]) (rest := []) ⟨hx, hb, hml, hown, hts⟩ (c_J0_cki l dC dI _ adK adV fz p0 (nI (tx_len.getD i 0)) ((pu_vin hin (tx_lt i hi)).1) ((pu_vin hin (tx_lt i hi)).2)) (va_cwS 2 hts g_J1_charAt_J0_cki rfl rfl rfl (by decide +kernel) ⟨Nat.le_of_ble_eq_true rfl, Nat.le_of_ble_eq_true rfl⟩) ⟨pu_blx, pu_inx hP hK hD hE hS (pu_fr hS hA)⟩ rfl rfl hl.1 rfl (lv_room (Nat.le_of_ble_eq_true rfl)) dJ1_charAt_3b067_3 ⟨Nat.le_of_ble_eq_true rfl, Nat.le_of_ble_eq_true rfl⟩) hS (fun q _ h => pu_fr hS hA q h) (pu_fr hS hA) (fun u t H1 locs ht hvm hw hB hz1 hk1 hS => ?_)
  have hP := pu_keep hP hk1
  clear hk1 hz1 ht hvm
  generalize H1 = H at hP hS ⊢
  refine lv_aload_n hx hb dJ1_charAt_3b067_6 rfl (lv_at hl 0 rfl) ?_
  refine lv_iload_n hx hb dJ1_charAt_3b067_7 rfl (lv_at hl 1 rfl) ?_
  refine va_tb hx hb (hE.2.1.1 i hi).2.2.2 hS hin rfl dJ1_charAt_3b067_8 ?_
  refine lv_sipush (v := 255) hx hb dJ1_charAt_3b067_9 (by decide) ?_
  refine lv_iand hx hb dJ1_charAt_3b067_12 ?_
  refine lv_i2c (v := ((((((tx_byt.getD i []).getD (p0).toNatClampNeg 0) &&& 255)).toUInt32 % 65536).toInt32)) hx hb dJ1_charAt_3b067_13 rfl ?_
  exact W.zret (v := ((((((tx_byt.getD i []).getD (p0).toNatClampNeg 0) &&& 255)).toUInt32 % 65536).toInt32)) (ty := .char) hx hb hr (pk_nc _) (fun t ht hW => ⟨⟨((((((tx_byt.getD i []).getD (p0).toNatClampNeg 0) &&& 255)).toUInt32 % 65536).toInt32), (), rfl, ⟨pk_nc _, rfl⟩, trivial⟩, hS.F ht⟩) hS.2.2 dJ1_charAt_3b067_14
theorem dJ0_charAt_5068e_0 : decode cJ0_charAt_5068e 0 = .ok (.aload_n 0, 1) := by decide +kernel
theorem dJ0_charAt_5068e_1 : decode cJ0_charAt_5068e 1 = .ok (.invokevirtual 492, 3) := by decide +kernel
theorem dJ0_charAt_5068e_4 : decode cJ0_charAt_5068e 4 = .ok (.ifCond .eq 12, 3) := by decide +kernel
theorem dJ0_charAt_5068e_7 : decode cJ0_charAt_5068e 7 = .ok (.aload_n 0, 1) := by decide +kernel
theorem dJ0_charAt_5068e_8 : decode cJ0_charAt_5068e 8 = .ok (.getfield 9, 3) := by decide +kernel
theorem dJ0_charAt_5068e_11 : decode cJ0_charAt_5068e 11 = .ok (.iload_n 1, 1) := by decide +kernel
theorem dJ0_charAt_5068e_12 : decode cJ0_charAt_5068e 12 = .ok (.invokestatic 495, 3) := by decide +kernel
theorem dJ0_charAt_5068e_15 : decode cJ0_charAt_5068e 15 = .ok (.ireturn, 1) := by decide +kernel
def vs_J0_charAt : List Cond := .code yJ0_charAt_5068e cJ0_charAt_5068e 2 (some .char) :: ([.methodLink RJ0 492 yJ0_isLatin1_aae02, .instanceMethod yJ0_isLatin1_aae02, .selects RJ0 yJ0_isLatin1_aae02 yJ0_isLatin1_aae02, .initialized RJ0, .code yJ0_isLatin1_aae02 cJ0_isLatin1_aae02 1 (some .boolean), .fieldLink RJ0 38 "java/lang/String" "COMPACT_STRINGS" "Z", .fieldLink RJ0 15 "java/lang/String" "coder" "B", .fieldLink RJ0 9 "java/lang/String" "value" "[B", .methodLink RJ0 495 yJ1_charAt_3b067, .static yJ1_charAt_3b067, .initialized RJ1, .code yJ1_charAt_3b067 cJ1_charAt_3b067 2 (some .char), .methodLink RJ1 9 yJ0_checkIndex_df160, .static yJ0_checkIndex_df160, .code yJ0_checkIndex_df160 cJ0_checkIndex_df160 2 none, .fieldLink RJ0 1053 "jdk/internal/util/Preconditions" "SIOOBE_FORMATTER" "Ljava/util/function/BiFunction;", .methodLink RJ0 1059 yJ3_checkIndex_8e157, .static yJ3_checkIndex_8e157, .initialized RJ3, .code yJ3_checkIndex_8e157 cJ3_checkIndex_8e157 3 (some .int)])
theorem g_J0_charAt_J0_isLatin1 : GoodIn vs_J0_charAt (wsV RJ0 492 RJ0 yJ0_isLatin1_aae02 vs_J0_isLatin1) := goodIn_r _ [1, 2, 3, 4, 5, 6, 7] (by decide +kernel) (by decide +kernel)
theorem g_J0_charAt_J1_charAt : GoodIn vs_J0_charAt (va_wsS RJ0 495 yJ1_charAt_3b067 vs_J1_charAt) := goodIn_r _ [9, 10, 11, 12, 13, 14, 4, 15, 16, 17, 18, 19, 20] (by decide +kernel) (by decide +kernel)
set_option maxHeartbeats 4000000 in
set_option maxRecDepth 100000 in
theorem c_J0_charAt (l : Launch) (dC : Nat → ClassId) (dI : Nat → Nat → Nat) (sz : Nat) (adK adV : Nat → Nat) (fz : Option Nat) (i : Nat) (hi : i < 8) (p0 : Int32) (hin : vp_in p0 (tx_len.getD i 0)) : Met l yJ0_charAt_5068e vs_J0_charAt ({ frames := 3, cells := 0, slots := 0, locals := 64 }) (va_Pc [.ref (adK i), .int p0] (pu_X adK adV fz (dC, dI) [] [] sz)) (va_Qi (fun (r : Int32) (_ : Unit) => narrow .char (.int r) = .int r ∧ r = tx_ch i p0) (fun _ _ => True) (va_A [] sz)) 0 0 (va_A [] sz) := by
  refine Met.ofW (cc := cJ0_charAt_5068e) (maxL := 2) (ret := (some .char)) (by decide) rfl ?_
  intro p e s m args below meth c s₁ B hml hv
  obtain ⟨rfl, ⟨rfl, hP, hK, hD0⟩, hE⟩ := hv
  have hx := B.exec
  have hb := B.bytes
  have hr := B.returns
  have hts := atoms_spec (ws := vs_J0_charAt) B.pre
  have v_8 := hts (.fieldLink RJ0 9 "java/lang/String" "value" "[B") (List.mem_of_getElem? (i := 8) rfl)
  have hown : s.vm.findClass RJ0 = some m.cls := findClass_of_methodNamed B.named
  have hlocks := B.notSynchronized
  have hD := hD0
  have hA : ∀ q : Nat, s.heap.size ≤ q → va_A [] s.heap.size q := fun _ h => Or.inr h
  have hS : va_S (va_A [] s.heap.size) s.heap s.heap [] := va_S.rf
  have hE : sx_E adK adV fz (va_A [] s.heap.size) s s.heap := hE
  have hl := lv_entry ([.ref (adK i), .int p0]) (n := 2) (Nat.le_of_ble_eq_true rfl)
  rw [lg_entry_eq]
  generalize (lg_sl ([.ref (adK i), .int p0]) ++ List.replicate (2 - (lg_sl ([.ref (adK i), .int p0])).length) Slot.unset).toArray = ls at hl ⊢
  have hl : lv_has ls 2 [(0, .ref (adK i)), (1, .int p0)] := hl
  refine lv_aload_n hx hb dJ0_charAt_5068e_0 rfl (lv_at hl 0 rfl) ?_
  refine va_calli (va_runV (As := []) (rest := []) ⟨hx, hb, hml, hown, hts⟩ (c_J0_isLatin1 l dC dI _ adK adV fz i hi) (cwV 0 hts g_J0_charAt_J0_isLatin1 rfl rfl rfl (by decide +kernel) ⟨Nat.le_of_ble_eq_true rfl, Nat.le_of_ble_eq_true rfl⟩) ⟨pu_blx, vk_recv (i := i) hE.2.1 hi hS, pu_inx hP hK hD hE hS (pu_fr hS hA)⟩ rfl rfl hl.1 rfl (lv_room (Nat.le_of_ble_eq_true rfl)) dJ0_charAt_5068e_1 ⟨Nat.le_of_ble_eq_true rfl, Nat.le_of_ble_eq_true rfl⟩) hS (fun q _ h => pu_fr hS hA q h) (pu_fr hS hA) (fun r_1 u t H1 locs ht hvm hw hB hz1 hk1 hS => ?_)
  have hP := pu_keep hP hk1
  clear hk1 hz1 ht hvm
  generalize H1 = H at hP hS ⊢
  obtain rfl : r_1 = 1 := hw
  refine lv_if_eq (tgt := 16) hx hb dJ0_charAt_5068e_4 (by decide) (fun z => absurd z (by decide)) (fun _ => ?_)
  refine lv_aload_n hx hb dJ0_charAt_5068e_7 rfl (lv_at hl 0 rfl) ?_
  refine vk_getf (v := .ref (adV i)) hx hb (hE.2.1.1 i hi).2.2.1 hS hown v_8 (fun _ h9 => h9) dJ0_charAt_5068e_8 ?_
  refine lv_iload_n hx hb dJ0_charAt_5068e_11 rfl (lv_at hl 1 rfl) ?_
  refine va_calli (va_runS (As := [.ref (adV i), .int p0]) (rest := []) ⟨hx, hb, hml, hown, hts⟩ (c_J1_charAt l dC dI _ adK adV fz i hi p0 hin) (va_cwS 2 hts g_J0_charAt_J1_charAt rfl rfl rfl (by decide +kernel) ⟨Nat.le_of_ble_eq_true rfl, Nat.le_of_ble_eq_true rfl⟩) ⟨pu_blx, pu_inx hP hK hD hE hS (pu_fr hS hA)⟩ rfl rfl hl.1 rfl (lv_room (Nat.le_of_ble_eq_true rfl)) dJ0_charAt_5068e_12 ⟨Nat.le_of_ble_eq_true rfl, Nat.le_of_ble_eq_true rfl⟩) hS (fun q _ h => pu_fr hS hA q h) (pu_fr hS hA) (fun r_2 u t H1 locs ht hvm hw hB hz1 hk1 hS => ?_)
  have hP := pu_keep hP hk1
  clear hk1 hz1 ht hvm
  generalize H1 = H at hP hS ⊢
  exact W.zret (v := r_2) (ty := .char) hx hb hr hw.1 (fun t ht hW => ⟨⟨r_2, (), rfl, hw, trivial⟩, hS.F ht⟩) hS.2.2 dJ0_charAt_5068e_15
theorem dX4_code_0 : decode cX4_code 0 = .ok (.iconst 0, 1) := by decide +kernel
theorem dX4_code_1 : decode cX4_code 1 = .ok (.istore_n 1, 1) := by decide +kernel
theorem dX4_code_2 : decode cX4_code 2 = .ok (.iconst 0, 1) := by decide +kernel
theorem dX4_code_3 : decode cX4_code 3 = .ok (.istore_n 2, 1) := by decide +kernel
theorem dX4_code_4 : decode cX4_code 4 = .ok (.iload_n 2, 1) := by decide +kernel
theorem dX4_code_5 : decode cX4_code 5 = .ok (.aload_n 0, 1) := by decide +kernel
theorem dX4_code_6 : decode cX4_code 6 = .ok (.invokevirtual 45, 3) := by decide +kernel
theorem dX4_code_9 : decode cX4_code 9 = .ok (.if_icmp .ge 25, 3) := by decide +kernel
theorem dX4_code_12 : decode cX4_code 12 = .ok (.iload_n 1, 1) := by decide +kernel
theorem dX4_code_13 : decode cX4_code 13 = .ok (.bipush 32, 2) := by decide +kernel
theorem dX4_code_15 : decode cX4_code 15 = .ok (.imul, 1) := by decide +kernel
theorem dX4_code_16 : decode cX4_code 16 = .ok (.aload_n 0, 1) := by decide +kernel
theorem dX4_code_17 : decode cX4_code 17 = .ok (.iload_n 2, 1) := by decide +kernel
theorem dX4_code_18 : decode cX4_code 18 = .ok (.invokevirtual 51, 3) := by decide +kernel
theorem dX4_code_21 : decode cX4_code 21 = .ok (.iadd, 1) := by decide +kernel
theorem dX4_code_22 : decode cX4_code 22 = .ok (.bipush 97, 2) := by decide +kernel
theorem dX4_code_24 : decode cX4_code 24 = .ok (.isub, 1) := by decide +kernel
theorem dX4_code_25 : decode cX4_code 25 = .ok (.iconst 1, 1) := by decide +kernel
theorem dX4_code_26 : decode cX4_code 26 = .ok (.iadd, 1) := by decide +kernel
theorem dX4_code_27 : decode cX4_code 27 = .ok (.istore_n 1, 1) := by decide +kernel
theorem dX4_code_28 : decode cX4_code 28 = .ok (.iinc 2 1, 3) := by decide +kernel
theorem dX4_code_31 : decode cX4_code 31 = .ok (.goto (-27), 3) := by decide +kernel
theorem dX4_code_34 : decode cX4_code 34 = .ok (.iload_n 1, 1) := by decide +kernel
theorem dX4_code_35 : decode cX4_code 35 = .ok (.ireturn, 1) := by decide +kernel
def vs_X4_code_0 : List Cond := .code yX4_code cX4_code 3 (some .int) :: ([.methodLink RX4 45 yJ0_length_8abf5, .instanceMethod yJ0_length_8abf5, .selects RJ0 yJ0_length_8abf5 yJ0_length_8abf5, .initialized RJ0, .code yJ0_length_8abf5 cJ0_length_8abf5 1 (some .int), .fieldLink RJ0 9 "java/lang/String" "value" "[B", .methodLink RJ0 335 yJ0_coder_7d493, .instanceMethod yJ0_coder_7d493, .selects RJ0 yJ0_coder_7d493 yJ0_coder_7d493, .code yJ0_coder_7d493 cJ0_coder_7d493 1 (some .byte), .fieldLink RJ0 38 "java/lang/String" "COMPACT_STRINGS" "Z", .fieldLink RJ0 15 "java/lang/String" "coder" "B", .methodLink RX4 51 yJ0_charAt_5068e, .instanceMethod yJ0_charAt_5068e, .selects RJ0 yJ0_charAt_5068e yJ0_charAt_5068e, .code yJ0_charAt_5068e cJ0_charAt_5068e 2 (some .char), .methodLink RJ0 492 yJ0_isLatin1_aae02, .instanceMethod yJ0_isLatin1_aae02, .selects RJ0 yJ0_isLatin1_aae02 yJ0_isLatin1_aae02, .code yJ0_isLatin1_aae02 cJ0_isLatin1_aae02 1 (some .boolean), .methodLink RJ0 495 yJ1_charAt_3b067, .static yJ1_charAt_3b067, .initialized RJ1, .code yJ1_charAt_3b067 cJ1_charAt_3b067 2 (some .char), .methodLink RJ1 9 yJ0_checkIndex_df160, .static yJ0_checkIndex_df160, .code yJ0_checkIndex_df160 cJ0_checkIndex_df160 2 none, .fieldLink RJ0 1053 "jdk/internal/util/Preconditions" "SIOOBE_FORMATTER" "Ljava/util/function/BiFunction;", .methodLink RJ0 1059 yJ3_checkIndex_8e157, .static yJ3_checkIndex_8e157, .initialized RJ3, .code yJ3_checkIndex_8e157 cJ3_checkIndex_8e157 3 (some .int)])
theorem g_X4_code_0_J0_length : GoodIn vs_X4_code_0 (wsV RX4 45 RJ0 yJ0_length_8abf5 vs_J0_length) := goodIn_r _ [1, 2, 3, 4, 5, 6, 7, 8, 9, 4, 10, 11, 12] (by decide +kernel) (by decide +kernel)
theorem g_X4_code_0_J0_charAt : GoodIn vs_X4_code_0 (wsV RX4 51 RJ0 yJ0_charAt_5068e vs_J0_charAt) := goodIn_r _ [13, 14, 15, 4, 16, 17, 18, 19, 4, 20, 11, 12, 6, 21, 22, 23, 24, 25, 26, 27, 28, 29, 30, 31, 32] (by decide +kernel) (by decide +kernel)
set_option maxHeartbeats 4000000 in
set_option maxRecDepth 100000 in
theorem c_X4_code_0 (l : Launch) (dC : Nat → ClassId) (dI : Nat → Nat → Nat) (sz : Nat) (adK adV : Nat → Nat) (fz : Option Nat) : Met l yX4_code vs_X4_code_0 ({ frames := 4, cells := 0, slots := 0, locals := 85 }) (va_Pc [.ref (adK 0)] (pu_X adK adV fz (dC, dI) [] [] sz)) (va_Qi (fun (r : Int32) (_ : Unit) => r = 3554411) (fun _ _ => True) (va_A [] sz)) 0 0 (va_A [] sz) := by
  refine Met.ofW (cc := cX4_code) (maxL := 3) (ret := (some .int)) (by decide) rfl ?_
  intro p e s m args below meth c s₁ B hml hv
  obtain ⟨rfl, ⟨rfl, hP, hK, hD0⟩, hE⟩ := hv
  have hx := B.exec
  have hb := B.bytes
  have hr := B.returns
  have hts := atoms_spec (ws := vs_X4_code_0) B.pre
  have hown : s.vm.findClass RX4 = some m.cls := findClass_of_methodNamed B.named
  have hlocks := B.notSynchronized
  have hD := hD0
  have hA : ∀ q : Nat, s.heap.size ≤ q → va_A [] s.heap.size q := fun _ h => Or.inr h
  have hS : va_S (va_A [] s.heap.size) s.heap s.heap [] := va_S.rf
  have hE : sx_E adK adV fz (va_A [] s.heap.size) s s.heap := hE
  have hl := lv_entry ([.ref (adK 0)]) (n := 3) (Nat.le_of_ble_eq_true rfl)
  rw [lg_entry_eq]
  generalize (lg_sl ([.ref (adK 0)]) ++ List.replicate (3 - (lg_sl ([.ref (adK 0)])).length) Slot.unset).toArray = ls at hl ⊢
  have hl : lv_has ls 3 [(0, .ref (adK 0))] := hl
  refine lv_iconst (v := 0) hx hb dX4_code_0 (by decide) ?_
  refine lv_istore_n (lv' := [(1, .int 0), (0, .ref (adK 0))]) hx hb dX4_code_1 rfl hl (by decide) rfl (fun ls hl => ?_)
  refine lv_iconst (v := 0) hx hb dX4_code_2 (by decide) ?_
  refine lv_istore_n (lv' := [(2, .int 0), (1, .int 0), (0, .ref (adK 0))]) hx hb dX4_code_3 rfl hl (by decide) rfl (fun ls hl => ?_)
  refine lv_iload_n hx hb dX4_code_4 rfl (lv_at hl 0 rfl) ?_
  refine lv_aload_n hx hb dX4_code_5 rfl (lv_at hl 2 rfl) ?_
  refine va_calli (va_runV (As := []) (rest := [.int 0]) ⟨hx, hb, hml, hown, hts⟩ (c_J0_length l dC dI _ adK adV fz 0 (by decide)) (cwV 0 hts g_X4_code_0_J0_length rfl rfl rfl (by decide +kernel) ⟨Nat.le_of_ble_eq_true rfl, Nat.le_of_ble_eq_true rfl⟩) ⟨pu_blx, vk_recv (i := 0) hE.2.1 (by decide) hS, pu_inx hP hK hD hE hS (pu_fr hS hA)⟩ rfl rfl hl.1 rfl (lv_room (Nat.le_of_ble_eq_true rfl)) dX4_code_6 ⟨Nat.le_of_ble_eq_true rfl, Nat.le_of_ble_eq_true rfl⟩) hS (fun q _ h => pu_fr hS hA q h) (pu_fr hS hA) (fun r_1 u t H1 locs ht hvm hw hB hz1 hk1 hS => ?_)
  have hP := pu_keep hP hk1
  clear hk1 hz1 ht hvm
  generalize H1 = H at hP hS ⊢
  obtain rfl : r_1 = 5 := hw.trans (by decide)
  refine lv_icmp_ge (tgt := 34) hx hb dX4_code_9 (by decide) (fun z => absurd z (by decide)) (fun _ => ?_)
  refine lv_iload_n hx hb dX4_code_12 rfl (lv_at hl 1 rfl) ?_
  refine lv_bipush (v := 32) hx hb dX4_code_13 (by decide) ?_
  refine lv_imul hx hb dX4_code_15 ?_
  refine lv_topi (fun y_2 ey_2 => ?_)
  obtain rfl : y_2 = 0 := ey_2.trans (by decide)
  refine lv_aload_n hx hb dX4_code_16 rfl (lv_at hl 2 rfl) ?_
  refine lv_iload_n hx hb dX4_code_17 rfl (lv_at hl 0 rfl) ?_
  refine va_calli (va_runV (As := [.int 0]) (rest := [.int 0]) ⟨hx, hb, hml, hown, hts⟩ (c_J0_charAt l dC dI _ adK adV fz 0 (by decide) 0 (show ¬ (_ ∨ _) by decide)) (cwV 1 hts g_X4_code_0_J0_charAt rfl rfl rfl (by decide +kernel) ⟨Nat.le_of_ble_eq_true rfl, Nat.le_of_ble_eq_true rfl⟩) ⟨pu_blx, vk_recv (i := 0) hE.2.1 (by decide) hS, pu_inx hP hK hD hE hS (pu_fr hS hA)⟩ rfl rfl hl.1 rfl (lv_room (Nat.le_of_ble_eq_true rfl)) dX4_code_18 ⟨Nat.le_of_ble_eq_true rfl, Nat.le_of_ble_eq_true rfl⟩) hS (fun q _ h => pu_fr hS hA q h) (pu_fr hS hA) (fun r_3 u t H1 locs ht hvm hw hB hz1 hk1 hS => ?_)
  have hP := pu_keep hP hk1
  clear hk1 hz1 ht hvm
  generalize H1 = H at hP hS ⊢
  obtain rfl : r_3 = 99 := hw.2.trans (by decide)
  refine lv_iadd hx hb dX4_code_21 ?_
  refine lv_bipush (v := 97) hx hb dX4_code_22 (by decide) ?_
  refine lv_isub hx hb dX4_code_24 ?_
  refine lv_iconst (v := 1) hx hb dX4_code_25 (by decide) ?_
  refine lv_iadd hx hb dX4_code_26 ?_
  refine lv_istore_n (lv' := [(1, .int (((0 + 99) - 97) + 1)), (2, .int 0), (0, .ref (adK 0))]) hx hb dX4_code_27 rfl hl (by decide) rfl (fun ls hl => ?_)
  refine lv_iinc (v := 1) (lv' := [(2, .int 1), (1, .int (((0 + 99) - 97) + 1)), (0, .ref (adK 0))]) hx hb dX4_code_28 hl (k := 1) rfl (by decide) (by decide) rfl (fun ls hl => ?_)
  refine lv_goto (tgt := 4) hx hb dX4_code_31 (by decide) ?_
  refine lv_iload_n hx hb dX4_code_4 rfl (lv_at hl 0 rfl) ?_
  refine lv_aload_n hx hb dX4_code_5 rfl (lv_at hl 2 rfl) ?_
  refine va_calli (va_runV (As := []) (rest := [.int 1]) ⟨hx, hb, hml, hown, hts⟩ (c_J0_length l dC dI _ adK adV fz 0 (by decide)) (cwV 0 hts g_X4_code_0_J0_length rfl rfl rfl (by decide +kernel) ⟨Nat.le_of_ble_eq_true rfl, Nat.le_of_ble_eq_true rfl⟩) ⟨pu_blx, vk_recv (i := 0) hE.2.1 (by decide) hS, pu_inx hP hK hD hE hS (pu_fr hS hA)⟩ rfl rfl hl.1 rfl (lv_room (Nat.le_of_ble_eq_true rfl)) dX4_code_6 ⟨Nat.le_of_ble_eq_true rfl, Nat.le_of_ble_eq_true rfl⟩) hS (fun q _ h => pu_fr hS hA q h) (pu_fr hS hA) (fun r_4 u t H1 locs ht hvm hw hB hz1 hk1 hS => ?_)
  have hP := pu_keep hP hk1
  clear hk1 hz1 ht hvm
  generalize H1 = H at hP hS ⊢
  obtain rfl : r_4 = 5 := hw.trans (by decide)
  refine lv_icmp_ge (tgt := 34) hx hb dX4_code_9 (by decide) (fun z => absurd z (by decide)) (fun _ => ?_)
  refine lv_iload_n hx hb dX4_code_12 rfl (lv_at hl 1 rfl) ?_
  refine lv_bipush (v := 32) hx hb dX4_code_13 (by decide) ?_
  refine lv_imul hx hb dX4_code_15 ?_
  refine lv_aload_n hx hb dX4_code_16 rfl (lv_at hl 2 rfl) ?_
  refine lv_iload_n hx hb dX4_code_17 rfl (lv_at hl 0 rfl) ?_
  refine va_calli (va_runV (As := [.int 1]) (rest := [.int ((((0 + 99) - 97) + 1) * 32)]) ⟨hx, hb, hml, hown, hts⟩ (c_J0_charAt l dC dI _ adK adV fz 0 (by decide) 1 (show ¬ (_ ∨ _) by decide)) (cwV 1 hts g_X4_code_0_J0_charAt rfl rfl rfl (by decide +kernel) ⟨Nat.le_of_ble_eq_true rfl, Nat.le_of_ble_eq_true rfl⟩) ⟨pu_blx, vk_recv (i := 0) hE.2.1 (by decide) hS, pu_inx hP hK hD hE hS (pu_fr hS hA)⟩ rfl rfl hl.1 rfl (lv_room (Nat.le_of_ble_eq_true rfl)) dX4_code_18 ⟨Nat.le_of_ble_eq_true rfl, Nat.le_of_ble_eq_true rfl⟩) hS (fun q _ h => pu_fr hS hA q h) (pu_fr hS hA) (fun r_5 u t H1 locs ht hvm hw hB hz1 hk1 hS => ?_)
  have hP := pu_keep hP hk1
  clear hk1 hz1 ht hvm
  generalize H1 = H at hP hS ⊢
  obtain rfl : r_5 = 108 := hw.2.trans (by decide)
  refine lv_iadd hx hb dX4_code_21 ?_
  refine lv_bipush (v := 97) hx hb dX4_code_22 (by decide) ?_
  refine lv_isub hx hb dX4_code_24 ?_
  refine lv_iconst (v := 1) hx hb dX4_code_25 (by decide) ?_
  refine lv_iadd hx hb dX4_code_26 ?_
  refine lv_istore_n (lv' := [(1, .int (((((((0 + 99) - 97) + 1) * 32) + 108) - 97) + 1)), (2, .int 1), (0, .ref (adK 0))]) hx hb dX4_code_27 rfl hl (by decide) rfl (fun ls hl => ?_)
  refine lv_iinc (v := 2) (lv' := [(2, .int 2), (1, .int (((((((0 + 99) - 97) + 1) * 32) + 108) - 97) + 1)), (0, .ref (adK 0))]) hx hb dX4_code_28 hl (k := 1) rfl (by decide) (by decide) rfl (fun ls hl => ?_)
  refine lv_goto (tgt := 4) hx hb dX4_code_31 (by decide) ?_
  refine lv_iload_n hx hb dX4_code_4 rfl (lv_at hl 0 rfl) ?_
  refine lv_aload_n hx hb dX4_code_5 rfl (lv_at hl 2 rfl) ?_
  refine va_calli (va_runV (As := []) (rest := [.int 2]) ⟨hx, hb, hml, hown, hts⟩ (c_J0_length l dC dI _ adK adV fz 0 (by decide)) (cwV 0 hts g_X4_code_0_J0_length rfl rfl rfl (by decide +kernel) ⟨Nat.le_of_ble_eq_true rfl, Nat.le_of_ble_eq_true rfl⟩) ⟨pu_blx, vk_recv (i := 0) hE.2.1 (by decide) hS, pu_inx hP hK hD hE hS (pu_fr hS hA)⟩ rfl rfl hl.1 rfl (lv_room (Nat.le_of_ble_eq_true rfl)) dX4_code_6 ⟨Nat.le_of_ble_eq_true rfl, Nat.le_of_ble_eq_true rfl⟩) hS (fun q _ h => pu_fr hS hA q h) (pu_fr hS hA) (fun r_6 u t H1 locs ht hvm hw hB hz1 hk1 hS => ?_)
  have hP := pu_keep hP hk1
  clear hk1 hz1 ht hvm
  generalize H1 = H at hP hS ⊢
  obtain rfl : r_6 = 5 := hw.trans (by decide)
  refine lv_icmp_ge (tgt := 34) hx hb dX4_code_9 (by decide) (fun z => absurd z (by decide)) (fun _ => ?_)
  refine lv_iload_n hx hb dX4_code_12 rfl (lv_at hl 1 rfl) ?_
  refine lv_bipush (v := 32) hx hb dX4_code_13 (by decide) ?_
  refine lv_imul hx hb dX4_code_15 ?_
  refine lv_aload_n hx hb dX4_code_16 rfl (lv_at hl 2 rfl) ?_
  refine lv_iload_n hx hb dX4_code_17 rfl (lv_at hl 0 rfl) ?_
  refine va_calli (va_runV (As := [.int 2]) (rest := [.int ((((((((0 + 99) - 97) + 1) * 32) + 108) - 97) + 1) * 32)]) ⟨hx, hb, hml, hown, hts⟩ (c_J0_charAt l dC dI _ adK adV fz 0 (by decide) 2 (show ¬ (_ ∨ _) by decide)) (cwV 1 hts g_X4_code_0_J0_charAt rfl rfl rfl (by decide +kernel) ⟨Nat.le_of_ble_eq_true rfl, Nat.le_of_ble_eq_true rfl⟩) ⟨pu_blx, vk_recv (i := 0) hE.2.1 (by decide) hS, pu_inx hP hK hD hE hS (pu_fr hS hA)⟩ rfl rfl hl.1 rfl (lv_room (Nat.le_of_ble_eq_true rfl)) dX4_code_18 ⟨Nat.le_of_ble_eq_true rfl, Nat.le_of_ble_eq_true rfl⟩) hS (fun q _ h => pu_fr hS hA q h) (pu_fr hS hA) (fun r_7 u t H1 locs ht hvm hw hB hz1 hk1 hS => ?_)
  have hP := pu_keep hP hk1
  clear hk1 hz1 ht hvm
  generalize H1 = H at hP hS ⊢
  obtain rfl : r_7 = 111 := hw.2.trans (by decide)
  refine lv_iadd hx hb dX4_code_21 ?_
  refine lv_bipush (v := 97) hx hb dX4_code_22 (by decide) ?_
  refine lv_isub hx hb dX4_code_24 ?_
  refine lv_iconst (v := 1) hx hb dX4_code_25 (by decide) ?_
  refine lv_iadd hx hb dX4_code_26 ?_
  refine lv_istore_n (lv' := [(1, .int (((((((((((0 + 99) - 97) + 1) * 32) + 108) - 97) + 1) * 32) + 111) - 97) + 1)), (2, .int 2), (0, .ref (adK 0))]) hx hb dX4_code_27 rfl hl (by decide) rfl (fun ls hl => ?_)
  refine lv_iinc (v := 3) (lv' := [(2, .int 3), (1, .int (((((((((((0 + 99) - 97) + 1) * 32) + 108) - 97) + 1) * 32) + 111) - 97) + 1)), (0, .ref (adK 0))]) hx hb dX4_code_28 hl (k := 1) rfl (by decide) (by decide) rfl (fun ls hl => ?_)
  refine lv_goto (tgt := 4) hx hb dX4_code_31 (by decide) ?_
  refine lv_iload_n hx hb dX4_code_4 rfl (lv_at hl 0 rfl) ?_
  refine lv_aload_n hx hb dX4_code_5 rfl (lv_at hl 2 rfl) ?_
  refine va_calli (va_runV (As := []) (rest := [.int 3]) ⟨hx, hb, hml, hown, hts⟩ (c_J0_length l dC dI _ adK adV fz 0 (by decide)) (cwV 0 hts g_X4_code_0_J0_length rfl rfl rfl (by decide +kernel) ⟨Nat.le_of_ble_eq_true rfl, Nat.le_of_ble_eq_true rfl⟩) ⟨pu_blx, vk_recv (i := 0) hE.2.1 (by decide) hS, pu_inx hP hK hD hE hS (pu_fr hS hA)⟩ rfl rfl hl.1 rfl (lv_room (Nat.le_of_ble_eq_true rfl)) dX4_code_6 ⟨Nat.le_of_ble_eq_true rfl, Nat.le_of_ble_eq_true rfl⟩) hS (fun q _ h => pu_fr hS hA q h) (pu_fr hS hA) (fun r_8 u t H1 locs ht hvm hw hB hz1 hk1 hS => ?_)
  have hP := pu_keep hP hk1
  clear hk1 hz1 ht hvm
  generalize H1 = H at hP hS ⊢
  obtain rfl : r_8 = 5 := hw.trans (by decide)
  refine lv_icmp_ge (tgt := 34) hx hb dX4_code_9 (by decide) (fun z => absurd z (by decide)) (fun _ => ?_)
  refine lv_iload_n hx hb dX4_code_12 rfl (lv_at hl 1 rfl) ?_
  refine lv_bipush (v := 32) hx hb dX4_code_13 (by decide) ?_
  refine lv_imul hx hb dX4_code_15 ?_
  refine lv_aload_n hx hb dX4_code_16 rfl (lv_at hl 2 rfl) ?_
  refine lv_iload_n hx hb dX4_code_17 rfl (lv_at hl 0 rfl) ?_
  refine va_calli (va_runV (As := [.int 3]) (rest := [.int ((((((((((((0 + 99) - 97) + 1) * 32) + 108) - 97) + 1) * 32) + 111) - 97) + 1) * 32)]) ⟨hx, hb, hml, hown, hts⟩ (c_J0_charAt l dC dI _ adK adV fz 0 (by decide) 3 (show ¬ (_ ∨ _) by decide)) (cwV 1 hts g_X4_code_0_J0_charAt rfl rfl rfl (by decide +kernel) ⟨Nat.le_of_ble_eq_true rfl, Nat.le_of_ble_eq_true rfl⟩) ⟨pu_blx, vk_recv (i := 0) hE.2.1 (by decide) hS, pu_inx hP hK hD hE hS (pu_fr hS hA)⟩ rfl rfl hl.1 rfl (lv_room (Nat.le_of_ble_eq_true rfl)) dX4_code_18 ⟨Nat.le_of_ble_eq_true rfl, Nat.le_of_ble_eq_true rfl⟩) hS (fun q _ h => pu_fr hS hA q h) (pu_fr hS hA) (fun r_9 u t H1 locs ht hvm hw hB hz1 hk1 hS => ?_)
  have hP := pu_keep hP hk1
  clear hk1 hz1 ht hvm
  generalize H1 = H at hP hS ⊢
  obtain rfl : r_9 = 99 := hw.2.trans (by decide)
  refine lv_iadd hx hb dX4_code_21 ?_
  refine lv_bipush (v := 97) hx hb dX4_code_22 (by decide) ?_
  refine lv_isub hx hb dX4_code_24 ?_
  refine lv_iconst (v := 1) hx hb dX4_code_25 (by decide) ?_
  refine lv_iadd hx hb dX4_code_26 ?_
  refine lv_istore_n (lv' := [(1, .int (((((((((((((((0 + 99) - 97) + 1) * 32) + 108) - 97) + 1) * 32) + 111) - 97) + 1) * 32) + 99) - 97) + 1)), (2, .int 3), (0, .ref (adK 0))]) hx hb dX4_code_27 rfl hl (by decide) rfl (fun ls hl => ?_)
  refine lv_iinc (v := 4) (lv' := [(2, .int 4), (1, .int (((((((((((((((0 + 99) - 97) + 1) * 32) + 108) - 97) + 1) * 32) + 111) - 97) + 1) * 32) + 99) - 97) + 1)), (0, .ref (adK 0))]) hx hb dX4_code_28 hl (k := 1) rfl (by decide) (by decide) rfl (fun ls hl => ?_)
  refine lv_goto (tgt := 4) hx hb dX4_code_31 (by decide) ?_
  refine lv_iload_n hx hb dX4_code_4 rfl (lv_at hl 0 rfl) ?_
  refine lv_aload_n hx hb dX4_code_5 rfl (lv_at hl 2 rfl) ?_
  refine va_calli (va_runV (As := []) (rest := [.int 4]) ⟨hx, hb, hml, hown, hts⟩ (c_J0_length l dC dI _ adK adV fz 0 (by decide)) (cwV 0 hts g_X4_code_0_J0_length rfl rfl rfl (by decide +kernel) ⟨Nat.le_of_ble_eq_true rfl, Nat.le_of_ble_eq_true rfl⟩) ⟨pu_blx, vk_recv (i := 0) hE.2.1 (by decide) hS, pu_inx hP hK hD hE hS (pu_fr hS hA)⟩ rfl rfl hl.1 rfl (lv_room (Nat.le_of_ble_eq_true rfl)) dX4_code_6 ⟨Nat.le_of_ble_eq_true rfl, Nat.le_of_ble_eq_true rfl⟩) hS (fun q _ h => pu_fr hS hA q h) (pu_fr hS hA) (fun r_10 u t H1 locs ht hvm hw hB hz1 hk1 hS => ?_)
  have hP := pu_keep hP hk1
  clear hk1 hz1 ht hvm
  generalize H1 = H at hP hS ⊢
  obtain rfl : r_10 = 5 := hw.trans (by decide)
  refine lv_icmp_ge (tgt := 34) hx hb dX4_code_9 (by decide) (fun z => absurd z (by decide)) (fun _ => ?_)
  refine lv_iload_n hx hb dX4_code_12 rfl (lv_at hl 1 rfl) ?_
  refine lv_bipush (v := 32) hx hb dX4_code_13 (by decide) ?_
  refine lv_imul hx hb dX4_code_15 ?_
  refine lv_aload_n hx hb dX4_code_16 rfl (lv_at hl 2 rfl) ?_
  refine lv_iload_n hx hb dX4_code_17 rfl (lv_at hl 0 rfl) ?_
  refine va_calli (va_runV (As := [.int 4]) (rest := [.int ((((((((((((((((0 + 99) - 97) + 1) * 32) + 108) - 97) + 1) * 32) + 111) - 97) + 1) * 32) + 99) - 97) + 1) * 32)]) ⟨hx, hb, hml, hown, hts⟩ (c_J0_charAt l dC dI _ adK adV fz 0 (by decide) 4 (show ¬ (_ ∨ _) by decide)) (cwV 1 hts g_X4_code_0_J0_charAt rfl rfl rfl (by decide +kernel) ⟨Nat.le_of_ble_eq_true rfl, Nat.le_of_ble_eq_true rfl⟩) ⟨pu_blx, vk_recv (i := 0) hE.2.1 (by decide) hS, pu_inx hP hK hD hE hS (pu_fr hS hA)⟩ rfl rfl hl.1 rfl (lv_room (Nat.le_of_ble_eq_true rfl)) dX4_code_18 ⟨Nat.le_of_ble_eq_true rfl, Nat.le_of_ble_eq_true rfl⟩) hS (fun q _ h => pu_fr hS hA q h) (pu_fr hS hA) (fun r_11 u t H1 locs ht hvm hw hB hz1 hk1 hS => ?_)
  have hP := pu_keep hP hk1
  clear hk1 hz1 ht hvm
  generalize H1 = H at hP hS ⊢
  obtain rfl : r_11 = 107 := hw.2.trans (by decide)
  refine lv_iadd hx hb dX4_code_21 ?_
  refine lv_bipush (v := 97) hx hb dX4_code_22 (by decide) ?_
  refine lv_isub hx hb dX4_code_24 ?_
  refine lv_iconst (v := 1) hx hb dX4_code_25 (by decide) ?_
  refine lv_iadd hx hb dX4_code_26 ?_
  refine lv_istore_n (lv' := [(1, .int (((((((((((((((((((0 + 99) - 97) + 1) * 32) + 108) - 97) + 1) * 32) + 111) - 97) + 1) * 32) + 99) - 97) + 1) * 32) + 107) - 97) + 1)), (2, .int 4), (0, .ref (adK 0))]) hx hb dX4_code_27 rfl hl (by decide) rfl (fun ls hl => ?_)
  refine lv_iinc (v := 5) (lv' := [(2, .int 5), (1, .int (((((((((((((((((((0 + 99) - 97) + 1) * 32) + 108) - 97) + 1) * 32) + 111) - 97) + 1) * 32) + 99) - 97) + 1) * 32) + 107) - 97) + 1)), (0, .ref (adK 0))]) hx hb dX4_code_28 hl (k := 1) rfl (by decide) (by decide) rfl (fun ls hl => ?_)
  refine lv_goto (tgt := 4) hx hb dX4_code_31 (by decide) ?_
  refine lv_iload_n hx hb dX4_code_4 rfl (lv_at hl 0 rfl) ?_
  refine lv_aload_n hx hb dX4_code_5 rfl (lv_at hl 2 rfl) ?_
  refine va_calli (va_runV (As := []) (rest := [.int 5]) ⟨hx, hb, hml, hown, hts⟩ (c_J0_length l dC dI _ adK adV fz 0 (by decide)) (cwV 0 hts g_X4_code_0_J0_length rfl rfl rfl (by decide +kernel) ⟨Nat.le_of_ble_eq_true rfl, Nat.le_of_ble_eq_true rfl⟩) ⟨pu_blx, vk_recv (i := 0) hE.2.1 (by decide) hS, pu_inx hP hK hD hE hS (pu_fr hS hA)⟩ rfl rfl hl.1 rfl (lv_room (Nat.le_of_ble_eq_true rfl)) dX4_code_6 ⟨Nat.le_of_ble_eq_true rfl, Nat.le_of_ble_eq_true rfl⟩) hS (fun q _ h => pu_fr hS hA q h) (pu_fr hS hA) (fun r_12 u t H1 locs ht hvm hw hB hz1 hk1 hS => ?_)
  have hP := pu_keep hP hk1
  clear hk1 hz1 ht hvm
  generalize H1 = H at hP hS ⊢
  obtain rfl : r_12 = 5 := hw.trans (by decide)
  refine lv_icmp_ge (tgt := 34) hx hb dX4_code_9 (by decide) (fun _ => ?_) (fun z => absurd z (by decide))
  refine lv_iload_n hx hb dX4_code_34 rfl (lv_at hl 1 rfl) ?_
  exact W.iret (v := (((((((((((((((((((0 + 99) - 97) + 1) * 32) + 108) - 97) + 1) * 32) + 111) - 97) + 1) * 32) + 99) - 97) + 1) * 32) + 107) - 97) + 1)) hx hb hr (fun t ht hW => ⟨⟨(((((((((((((((((((0 + 99) - 97) + 1) * 32) + 108) - 97) + 1) * 32) + 111) - 97) + 1) * 32) + 99) - 97) + 1) * 32) + 107) - 97) + 1), (), rfl, (by decide), trivial⟩, hS.F ht⟩) hS.2.2 dX4_code_35
def vs_X4_code_1 : List Cond := .code yX4_code cX4_code 3 (some .int) :: ([.methodLink RX4 45 yJ0_length_8abf5, .instanceMethod yJ0_length_8abf5, .selects RJ0 yJ0_length_8abf5 yJ0_length_8abf5, .initialized RJ0, .code yJ0_length_8abf5 cJ0_length_8abf5 1 (some .int), .fieldLink RJ0 9 "java/lang/String" "value" "[B", .methodLink RJ0 335 yJ0_coder_7d493, .instanceMethod yJ0_coder_7d493, .selects RJ0 yJ0_coder_7d493 yJ0_coder_7d493, .code yJ0_coder_7d493 cJ0_coder_7d493 1 (some .byte), .fieldLink RJ0 38 "java/lang/String" "COMPACT_STRINGS" "Z", .fieldLink RJ0 15 "java/lang/String" "coder" "B", .methodLink RX4 51 yJ0_charAt_5068e, .instanceMethod yJ0_charAt_5068e, .selects RJ0 yJ0_charAt_5068e yJ0_charAt_5068e, .code yJ0_charAt_5068e cJ0_charAt_5068e 2 (some .char), .methodLink RJ0 492 yJ0_isLatin1_aae02, .instanceMethod yJ0_isLatin1_aae02, .selects RJ0 yJ0_isLatin1_aae02 yJ0_isLatin1_aae02, .code yJ0_isLatin1_aae02 cJ0_isLatin1_aae02 1 (some .boolean), .methodLink RJ0 495 yJ1_charAt_3b067, .static yJ1_charAt_3b067, .initialized RJ1, .code yJ1_charAt_3b067 cJ1_charAt_3b067 2 (some .char), .methodLink RJ1 9 yJ0_checkIndex_df160, .static yJ0_checkIndex_df160, .code yJ0_checkIndex_df160 cJ0_checkIndex_df160 2 none, .fieldLink RJ0 1053 "jdk/internal/util/Preconditions" "SIOOBE_FORMATTER" "Ljava/util/function/BiFunction;", .methodLink RJ0 1059 yJ3_checkIndex_8e157, .static yJ3_checkIndex_8e157, .initialized RJ3, .code yJ3_checkIndex_8e157 cJ3_checkIndex_8e157 3 (some .int)])
theorem g_X4_code_1_J0_length : GoodIn vs_X4_code_1 (wsV RX4 45 RJ0 yJ0_length_8abf5 vs_J0_length) := goodIn_r _ [1, 2, 3, 4, 5, 6, 7, 8, 9, 4, 10, 11, 12] (by decide +kernel) (by decide +kernel)
theorem g_X4_code_1_J0_charAt : GoodIn vs_X4_code_1 (wsV RX4 51 RJ0 yJ0_charAt_5068e vs_J0_charAt) := goodIn_r _ [13, 14, 15, 4, 16, 17, 18, 19, 4, 20, 11, 12, 6, 21, 22, 23, 24, 25, 26, 27, 28, 29, 30, 31, 32] (by decide +kernel) (by decide +kernel)
set_option maxHeartbeats 4000000 in
set_option maxRecDepth 100000 in
theorem c_X4_code_1 (l : Launch) (dC : Nat → ClassId) (dI : Nat → Nat → Nat) (sz : Nat) (adK adV : Nat → Nat) (fz : Option Nat) : Met l yX4_code vs_X4_code_1 ({ frames := 4, cells := 0, slots := 0, locals := 85 }) (va_Pc [.ref (adK 1)] (pu_X adK adV fz (dC, dI) [] [] sz)) (va_Qi (fun (r : Int32) (_ : Unit) => r = 17171557) (fun _ _ => True) (va_A [] sz)) 0 0 (va_A [] sz) := by
  refine Met.ofW (cc := cX4_code) (maxL := 3) (ret := (some .int)) (by decide) rfl ?_
  intro p e s m args below meth c s₁ B hml hv
  obtain ⟨rfl, ⟨rfl, hP, hK, hD0⟩, hE⟩ := hv
  have hx := B.exec
  have hb := B.bytes
  have hr := B.returns
  have hts := atoms_spec (ws := vs_X4_code_1) B.pre
  have hown : s.vm.findClass RX4 = some m.cls := findClass_of_methodNamed B.named
  have hlocks := B.notSynchronized
  have hD := hD0
  have hA : ∀ q : Nat, s.heap.size ≤ q → va_A [] s.heap.size q := fun _ h => Or.inr h
  have hS : va_S (va_A [] s.heap.size) s.heap s.heap [] := va_S.rf
  have hE : sx_E adK adV fz (va_A [] s.heap.size) s s.heap := hE
  have hl := lv_entry ([.ref (adK 1)]) (n := 3) (Nat.le_of_ble_eq_true rfl)
  rw [lg_entry_eq]
  generalize (lg_sl ([.ref (adK 1)]) ++ List.replicate (3 - (lg_sl ([.ref (adK 1)])).length) Slot.unset).toArray = ls at hl ⊢
  have hl : lv_has ls 3 [(0, .ref (adK 1))] := hl
  refine lv_iconst (v := 0) hx hb dX4_code_0 (by decide) ?_
  refine lv_istore_n (lv' := [(1, .int 0), (0, .ref (adK 1))]) hx hb dX4_code_1 rfl hl (by decide) rfl (fun ls hl => ?_)
  refine lv_iconst (v := 0) hx hb dX4_code_2 (by decide) ?_
  refine lv_istore_n (lv' := [(2, .int 0), (1, .int 0), (0, .ref (adK 1))]) hx hb dX4_code_3 rfl hl (by decide) rfl (fun ls hl => ?_)
  refine lv_iload_n hx hb dX4_code_4 rfl (lv_at hl 0 rfl) ?_
  refine lv_aload_n hx hb dX4_code_5 rfl (lv_at hl 2 rfl) ?_
  refine va_calli (va_runV (As := []) (rest := [.int 0]) ⟨hx, hb, hml, hown, hts⟩ (c_J0_length l dC dI _ adK adV fz 1 (by decide)) (cwV 0 hts g_X4_code_1_J0_length rfl rfl rfl (by decide +kernel) ⟨Nat.le_of_ble_eq_true rfl, Nat.le_of_ble_eq_true rfl⟩) ⟨pu_blx, vk_recv (i := 1) hE.2.1 (by decide) hS, pu_inx hP hK hD hE hS (pu_fr hS hA)⟩ rfl rfl hl.1 rfl (lv_room (Nat.le_of_ble_eq_true rfl)) dX4_code_6 ⟨Nat.le_of_ble_eq_true rfl, Nat.le_of_ble_eq_true rfl⟩) hS (fun q _ h => pu_fr hS hA q h) (pu_fr hS hA) (fun r_1 u t H1 locs ht hvm hw hB hz1 hk1 hS => ?_)
  have hP := pu_keep hP hk1
  clear hk1 hz1 ht hvm
  generalize H1 = H at hP hS ⊢
  obtain rfl : r_1 = 5 := hw.trans (by decide)
  refine lv_icmp_ge (tgt := 34) hx hb dX4_code_9 (by decide) (fun z => absurd z (by decide)) (fun _ => ?_)
  refine lv_iload_n hx hb dX4_code_12 rfl (lv_at hl 1 rfl) ?_
  refine lv_bipush (v := 32) hx hb dX4_code_13 (by decide) ?_
  refine lv_imul hx hb dX4_code_15 ?_
  refine lv_topi (fun y_2 ey_2 => ?_)
  obtain rfl : y_2 = 0 := ey_2.trans (by decide)
  refine lv_aload_n hx hb dX4_code_16 rfl (lv_at hl 2 rfl) ?_
  refine lv_iload_n hx hb dX4_code_17 rfl (lv_at hl 0 rfl) ?_
  refine va_calli (va_runV (As := [.int 0]) (rest := [.int 0]) ⟨hx, hb, hml, hown, hts⟩ (c_J0_charAt l dC dI _ adK adV fz 1 (by decide) 0 (show ¬ (_ ∨ _) by decide)) (cwV 1 hts g_X4_code_1_J0_charAt rfl rfl rfl (by decide +kernel) ⟨Nat.le_of_ble_eq_true rfl, Nat.le_of_ble_eq_true rfl⟩) ⟨pu_blx, vk_recv (i := 1) hE.2.1 (by decide) hS, pu_inx hP hK hD hE hS (pu_fr hS hA)⟩ rfl rfl hl.1 rfl (lv_room (Nat.le_of_ble_eq_true rfl)) dX4_code_18 ⟨Nat.le_of_ble_eq_true rfl, Nat.le_of_ble_eq_true rfl⟩) hS (fun q _ h => pu_fr hS hA q h) (pu_fr hS hA) (fun r_3 u t H1 locs ht hvm hw hB hz1 hk1 hS => ?_)
  have hP := pu_keep hP hk1
  clear hk1 hz1 ht hvm
  generalize H1 = H at hP hS ⊢
  obtain rfl : r_3 = 112 := hw.2.trans (by decide)
  refine lv_iadd hx hb dX4_code_21 ?_
  refine lv_bipush (v := 97) hx hb dX4_code_22 (by decide) ?_
  refine lv_isub hx hb dX4_code_24 ?_
  refine lv_iconst (v := 1) hx hb dX4_code_25 (by decide) ?_
  refine lv_iadd hx hb dX4_code_26 ?_
  refine lv_istore_n (lv' := [(1, .int (((0 + 112) - 97) + 1)), (2, .int 0), (0, .ref (adK 1))]) hx hb dX4_code_27 rfl hl (by decide) rfl (fun ls hl => ?_)
  refine lv_iinc (v := 1) (lv' := [(2, .int 1), (1, .int (((0 + 112) - 97) + 1)), (0, .ref (adK 1))]) hx hb dX4_code_28 hl (k := 1) rfl (by decide) (by decide) rfl (fun ls hl => ?_)
  refine lv_goto (tgt := 4) hx hb dX4_code_31 (by decide) ?_
  refine lv_iload_n hx hb dX4_code_4 rfl (lv_at hl 0 rfl) ?_
  refine lv_aload_n hx hb dX4_code_5 rfl (lv_at hl 2 rfl) ?_
  refine va_calli (va_runV (As := []) (rest := [.int 1]) ⟨hx, hb, hml, hown, hts⟩ (c_J0_length l dC dI _ adK adV fz 1 (by decide)) (cwV 0 hts g_X4_code_1_J0_length rfl rfl rfl (by decide +kernel) ⟨Nat.le_of_ble_eq_true rfl, Nat.le_of_ble_eq_true rfl⟩) ⟨pu_blx, vk_recv (i := 1) hE.2.1 (by decide) hS, pu_inx hP hK hD hE hS (pu_fr hS hA)⟩ rfl rfl hl.1 rfl (lv_room (Nat.le_of_ble_eq_true rfl)) dX4_code_6 ⟨Nat.le_of_ble_eq_true rfl, Nat.le_of_ble_eq_true rfl⟩) hS (fun q _ h => pu_fr hS hA q h) (pu_fr hS hA) (fun r_4 u t H1 locs ht hvm hw hB hz1 hk1 hS => ?_)
  have hP := pu_keep hP hk1
  clear hk1 hz1 ht hvm
  generalize H1 = H at hP hS ⊢
  obtain rfl : r_4 = 5 := hw.trans (by decide)
  refine lv_icmp_ge (tgt := 34) hx hb dX4_code_9 (by decide) (fun z => absurd z (by decide)) (fun _ => ?_)
  refine lv_iload_n hx hb dX4_code_12 rfl (lv_at hl 1 rfl) ?_
  refine lv_bipush (v := 32) hx hb dX4_code_13 (by decide) ?_
  refine lv_imul hx hb dX4_code_15 ?_
  refine lv_aload_n hx hb dX4_code_16 rfl (lv_at hl 2 rfl) ?_
  refine lv_iload_n hx hb dX4_code_17 rfl (lv_at hl 0 rfl) ?_
  refine va_calli (va_runV (As := [.int 1]) (rest := [.int ((((0 + 112) - 97) + 1) * 32)]) ⟨hx, hb, hml, hown, hts⟩ (c_J0_charAt l dC dI _ adK adV fz 1 (by decide) 1 (show ¬ (_ ∨ _) by decide)) (cwV 1 hts g_X4_code_1_J0_charAt rfl rfl rfl (by decide +kernel) ⟨Nat.le_of_ble_eq_true rfl, Nat.le_of_ble_eq_true rfl⟩) ⟨pu_blx, vk_recv (i := 1) hE.2.1 (by decide) hS, pu_inx hP hK hD hE hS (pu_fr hS hA)⟩ rfl rfl hl.1 rfl (lv_room (Nat.le_of_ble_eq_true rfl)) dX4_code_18 ⟨Nat.le_of_ble_eq_true rfl, Nat.le_of_ble_eq_true rfl⟩) hS (fun q _ h => pu_fr hS hA q h) (pu_fr hS hA) (fun r_5 u t H1 locs ht hvm hw hB hz1 hk1 hS => ?_)
  have hP := pu_keep hP hk1
  clear hk1 hz1 ht hvm
  generalize H1 = H at hP hS ⊢
  obtain rfl : r_5 = 108 := hw.2.trans (by decide)
  refine lv_iadd hx hb dX4_code_21 ?_
  refine lv_bipush (v := 97) hx hb dX4_code_22 (by decide) ?_
  refine lv_isub hx hb dX4_code_24 ?_
  refine lv_iconst (v := 1) hx hb dX4_code_25 (by decide) ?_
  refine lv_iadd hx hb dX4_code_26 ?_
  refine lv_istore_n (lv' := [(1, .int (((((((0 + 112) - 97) + 1) * 32) + 108) - 97) + 1)), (2, .int 1), (0, .ref (adK 1))]) hx hb dX4_code_27 rfl hl (by decide) rfl (fun ls hl => ?_)
  refine lv_iinc (v := 2) (lv' := [(2, .int 2), (1, .int (((((((0 + 112) - 97) + 1) * 32) + 108) - 97) + 1)), (0, .ref (adK 1))]) hx hb dX4_code_28 hl (k := 1) rfl (by decide) (by decide) rfl (fun ls hl => ?_)
  refine lv_goto (tgt := 4) hx hb dX4_code_31 (by decide) ?_
  refine lv_iload_n hx hb dX4_code_4 rfl (lv_at hl 0 rfl) ?_
  refine lv_aload_n hx hb dX4_code_5 rfl (lv_at hl 2 rfl) ?_
  refine va_calli (va_runV (As := []) (rest := [.int 2]) ⟨hx, hb, hml, hown, hts⟩ (c_J0_length l dC dI _ adK adV fz 1 (by decide)) (cwV 0 hts g_X4_code_1_J0_length rfl rfl rfl (by decide +kernel) ⟨Nat.le_of_ble_eq_true rfl, Nat.le_of_ble_eq_true rfl⟩) ⟨pu_blx, vk_recv (i := 1) hE.2.1 (by decide) hS, pu_inx hP hK hD hE hS (pu_fr hS hA)⟩ rfl rfl hl.1 rfl (lv_room (Nat.le_of_ble_eq_true rfl)) dX4_code_6 ⟨Nat.le_of_ble_eq_true rfl, Nat.le_of_ble_eq_true rfl⟩) hS (fun q _ h => pu_fr hS hA q h) (pu_fr hS hA) (fun r_6 u t H1 locs ht hvm hw hB hz1 hk1 hS => ?_)
  have hP := pu_keep hP hk1
  clear hk1 hz1 ht hvm
  generalize H1 = H at hP hS ⊢
  obtain rfl : r_6 = 5 := hw.trans (by decide)
  refine lv_icmp_ge (tgt := 34) hx hb dX4_code_9 (by decide) (fun z => absurd z (by decide)) (fun _ => ?_)
  refine lv_iload_n hx hb dX4_code_12 rfl (lv_at hl 1 rfl) ?_
  refine lv_bipush (v := 32) hx hb dX4_code_13 (by decide) ?_
  refine lv_imul hx hb dX4_code_15 ?_
  refine lv_aload_n hx hb dX4_code_16 rfl (lv_at hl 2 rfl) ?_
  refine lv_iload_n hx hb dX4_code_17 rfl (lv_at hl 0 rfl) ?_
  refine va_calli (va_runV (As := [.int 2]) (rest := [.int ((((((((0 + 112) - 97) + 1) * 32) + 108) - 97) + 1) * 32)]) ⟨hx, hb, hml, hown, hts⟩ (c_J0_charAt l dC dI _ adK adV fz 1 (by decide) 2 (show ¬ (_ ∨ _) by decide)) (cwV 1 hts g_X4_code_1_J0_charAt rfl rfl rfl (by decide +kernel) ⟨Nat.le_of_ble_eq_true rfl, Nat.le_of_ble_eq_true rfl⟩) ⟨pu_blx, vk_recv (i := 1) hE.2.1 (by decide) hS, pu_inx hP hK hD hE hS (pu_fr hS hA)⟩ rfl rfl hl.1 rfl (lv_room (Nat.le_of_ble_eq_true rfl)) dX4_code_18 ⟨Nat.le_of_ble_eq_true rfl, Nat.le_of_ble_eq_true rfl⟩) hS (fun q _ h => pu_fr hS hA q h) (pu_fr hS hA) (fun r_7 u t H1 locs ht hvm hw hB hz1 hk1 hS => ?_)
  have hP := pu_keep hP hk1
  clear hk1 hz1 ht hvm
  generalize H1 = H at hP hS ⊢
  obtain rfl : r_7 = 97 := hw.2.trans (by decide)
  refine lv_iadd hx hb dX4_code_21 ?_
  refine lv_bipush (v := 97) hx hb dX4_code_22 (by decide) ?_
  refine lv_isub hx hb dX4_code_24 ?_
  refine lv_iconst (v := 1) hx hb dX4_code_25 (by decide) ?_
  refine lv_iadd hx hb dX4_code_26 ?_
  refine lv_istore_n (lv' := [(1, .int (((((((((((0 + 112) - 97) + 1) * 32) + 108) - 97) + 1) * 32) + 97) - 97) + 1)), (2, .int 2), (0, .ref (adK 1))]) hx hb dX4_code_27 rfl hl (by decide) rfl (fun ls hl => ?_)
  refine lv_iinc (v := 3) (lv' := [(2, .int 3), (1, .int (((((((((((0 + 112) - 97) + 1) * 32) + 108) - 97) + 1) * 32) + 97) - 97) + 1)), (0, .ref (adK 1))]) hx hb dX4_code_28 hl (k := 1) rfl (by decide) (by decide) rfl (fun ls hl => ?_)
  refine lv_goto (tgt := 4) hx hb dX4_code_31 (by decide) ?_
  refine lv_iload_n hx hb dX4_code_4 rfl (lv_at hl 0 rfl) ?_
  refine lv_aload_n hx hb dX4_code_5 rfl (lv_at hl 2 rfl) ?_
  refine va_calli (va_runV (As := []) (rest := [.int 3]) ⟨hx, hb, hml, hown, hts⟩ (c_J0_length l dC dI _ adK adV fz 1 (by decide)) (cwV 0 hts g_X4_code_1_J0_length rfl rfl rfl (by decide +kernel) ⟨Nat.le_of_ble_eq_true rfl, Nat.le_of_ble_eq_true rfl⟩) ⟨pu_blx, vk_recv (i := 1) hE.2.1 (by decide) hS, pu_inx hP hK hD hE hS (pu_fr hS hA)⟩ rfl rfl hl.1 rfl (lv_room (Nat.le_of_ble_eq_true rfl)) dX4_code_6 ⟨Nat.le_of_ble_eq_true rfl, Nat.le_of_ble_eq_true rfl⟩) hS (fun q _ h => pu_fr hS hA q h) (pu_fr hS hA) (fun r_8 u t H1 locs ht hvm hw hB hz1 hk1 hS => ?_)
  have hP := pu_keep hP hk1
  clear hk1 hz1 ht hvm
  generalize H1 = H at hP hS ⊢
  obtain rfl : r_8 = 5 := hw.trans (by decide)
  refine lv_icmp_ge (tgt := 34) hx hb dX4_code_9 (by decide) (fun z => absurd z (by decide)) (fun _ => ?_)
  refine lv_iload_n hx hb dX4_code_12 rfl (lv_at hl 1 rfl) ?_
  refine lv_bipush (v := 32) hx hb dX4_code_13 (by decide) ?_
  refine lv_imul hx hb dX4_code_15 ?_
  refine lv_aload_n hx hb dX4_code_16 rfl (lv_at hl 2 rfl) ?_
  refine lv_iload_n hx hb dX4_code_17 rfl (lv_at hl 0 rfl) ?_
  refine va_calli (va_runV (As := [.int 3]) (rest := [.int ((((((((((((0 + 112) - 97) + 1) * 32) + 108) - 97) + 1) * 32) + 97) - 97) + 1) * 32)]) ⟨hx, hb, hml, hown, hts⟩ (c_J0_charAt l dC dI _ adK adV fz 1 (by decide) 3 (show ¬ (_ ∨ _) by decide)) (cwV 1 hts g_X4_code_1_J0_charAt rfl rfl rfl (by decide +kernel) ⟨Nat.le_of_ble_eq_true rfl, Nat.le_of_ble_eq_true rfl⟩) ⟨pu_blx, vk_recv (i := 1) hE.2.1 (by decide) hS, pu_inx hP hK hD hE hS (pu_fr hS hA)⟩ rfl rfl hl.1 rfl (lv_room (Nat.le_of_ble_eq_true rfl)) dX4_code_18 ⟨Nat.le_of_ble_eq_true rfl, Nat.le_of_ble_eq_true rfl⟩) hS (fun q _ h => pu_fr hS hA q h) (pu_fr hS hA) (fun r_9 u t H1 locs ht hvm hw hB hz1 hk1 hS => ?_)
  have hP := pu_keep hP hk1
  clear hk1 hz1 ht hvm
  generalize H1 = H at hP hS ⊢
  obtain rfl : r_9 = 99 := hw.2.trans (by decide)
  refine lv_iadd hx hb dX4_code_21 ?_
  refine lv_bipush (v := 97) hx hb dX4_code_22 (by decide) ?_
  refine lv_isub hx hb dX4_code_24 ?_
  refine lv_iconst (v := 1) hx hb dX4_code_25 (by decide) ?_
  refine lv_iadd hx hb dX4_code_26 ?_
  refine lv_istore_n (lv' := [(1, .int (((((((((((((((0 + 112) - 97) + 1) * 32) + 108) - 97) + 1) * 32) + 97) - 97) + 1) * 32) + 99) - 97) + 1)), (2, .int 3), (0, .ref (adK 1))]) hx hb dX4_code_27 rfl hl (by decide) rfl (fun ls hl => ?_)
  refine lv_iinc (v := 4) (lv' := [(2, .int 4), (1, .int (((((((((((((((0 + 112) - 97) + 1) * 32) + 108) - 97) + 1) * 32) + 97) - 97) + 1) * 32) + 99) - 97) + 1)), (0, .ref (adK 1))]) hx hb dX4_code_28 hl (k := 1) rfl (by decide) (by decide) rfl (fun ls hl => ?_)
  refine lv_goto (tgt := 4) hx hb dX4_code_31 (by decide) ?_
  refine lv_iload_n hx hb dX4_code_4 rfl (lv_at hl 0 rfl) ?_
  refine lv_aload_n hx hb dX4_code_5 rfl (lv_at hl 2 rfl) ?_
  refine va_calli (va_runV (As := []) (rest := [.int 4]) ⟨hx, hb, hml, hown, hts⟩ (c_J0_length l dC dI _ adK adV fz 1 (by decide)) (cwV 0 hts g_X4_code_1_J0_length rfl rfl rfl (by decide +kernel) ⟨Nat.le_of_ble_eq_true rfl, Nat.le_of_ble_eq_true rfl⟩) ⟨pu_blx, vk_recv (i := 1) hE.2.1 (by decide) hS, pu_inx hP hK hD hE hS (pu_fr hS hA)⟩ rfl rfl hl.1 rfl (lv_room (Nat.le_of_ble_eq_true rfl)) dX4_code_6 ⟨Nat.le_of_ble_eq_true rfl, Nat.le_of_ble_eq_true rfl⟩) hS (fun q _ h => pu_fr hS hA q h) (pu_fr hS hA) (fun r_10 u t H1 locs ht hvm hw hB hz1 hk1 hS => ?_)
  have hP := pu_keep hP hk1
  clear hk1 hz1 ht hvm
  generalize H1 = H at hP hS ⊢
  obtain rfl : r_10 = 5 := hw.trans (by decide)
  refine lv_icmp_ge (tgt := 34) hx hb dX4_code_9 (by decide) (fun z => absurd z (by decide)) (fun _ => ?_)
  refine lv_iload_n hx hb dX4_code_12 rfl (lv_at hl 1 rfl) ?_
  refine lv_bipush (v := 32) hx hb dX4_code_13 (by decide) ?_
  refine lv_imul hx hb dX4_code_15 ?_
  refine lv_aload_n hx hb dX4_code_16 rfl (lv_at hl 2 rfl) ?_
  refine lv_iload_n hx hb dX4_code_17 rfl (lv_at hl 0 rfl) ?_
  refine va_calli (va_runV (As := [.int 4]) (rest := [.int ((((((((((((((((0 + 112) - 97) + 1) * 32) + 108) - 97) + 1) * 32) + 97) - 97) + 1) * 32) + 99) - 97) + 1) * 32)]) ⟨hx, hb, hml, hown, hts⟩ (c_J0_charAt l dC dI _ adK adV fz 1 (by decide) 4 (show ¬ (_ ∨ _) by decide)) (cwV 1 hts g_X4_code_1_J0_charAt rfl rfl rfl (by decide +kernel) ⟨Nat.le_of_ble_eq_true rfl, Nat.le_of_ble_eq_true rfl⟩) ⟨pu_blx, vk_recv (i := 1) hE.2.1 (by decide) hS, pu_inx hP hK hD hE hS (pu_fr hS hA)⟩ rfl rfl hl.1 rfl (lv_room (Nat.le_of_ble_eq_true rfl)) dX4_code_18 ⟨Nat.le_of_ble_eq_true rfl, Nat.le_of_ble_eq_true rfl⟩) hS (fun q _ h => pu_fr hS hA q h) (pu_fr hS hA) (fun r_11 u t H1 locs ht hvm hw hB hz1 hk1 hS => ?_)
  have hP := pu_keep hP hk1
  clear hk1 hz1 ht hvm
  generalize H1 = H at hP hS ⊢
  obtain rfl : r_11 = 101 := hw.2.trans (by decide)
  refine lv_iadd hx hb dX4_code_21 ?_
  refine lv_bipush (v := 97) hx hb dX4_code_22 (by decide) ?_
  refine lv_isub hx hb dX4_code_24 ?_
  refine lv_iconst (v := 1) hx hb dX4_code_25 (by decide) ?_
  refine lv_iadd hx hb dX4_code_26 ?_
  refine lv_istore_n (lv' := [(1, .int (((((((((((((((((((0 + 112) - 97) + 1) * 32) + 108) - 97) + 1) * 32) + 97) - 97) + 1) * 32) + 99) - 97) + 1) * 32) + 101) - 97) + 1)), (2, .int 4), (0, .ref (adK 1))]) hx hb dX4_code_27 rfl hl (by decide) rfl (fun ls hl => ?_)
  refine lv_iinc (v := 5) (lv' := [(2, .int 5), (1, .int (((((((((((((((((((0 + 112) - 97) + 1) * 32) + 108) - 97) + 1) * 32) + 97) - 97) + 1) * 32) + 99) - 97) + 1) * 32) + 101) - 97) + 1)), (0, .ref (adK 1))]) hx hb dX4_code_28 hl (k := 1) rfl (by decide) (by decide) rfl (fun ls hl => ?_)
  refine lv_goto (tgt := 4) hx hb dX4_code_31 (by decide) ?_
  refine lv_iload_n hx hb dX4_code_4 rfl (lv_at hl 0 rfl) ?_
  refine lv_aload_n hx hb dX4_code_5 rfl (lv_at hl 2 rfl) ?_
  refine va_calli (va_runV (As := []) (rest := [.int 5]) ⟨hx, hb, hml, hown, hts⟩ (c_J0_length l dC dI _ adK adV fz 1 (by decide)) (cwV 0 hts g_X4_code_1_J0_length rfl rfl rfl (by decide +kernel) ⟨Nat.le_of_ble_eq_true rfl, Nat.le_of_ble_eq_true rfl⟩) ⟨pu_blx, vk_recv (i := 1) hE.2.1 (by decide) hS, pu_inx hP hK hD hE hS (pu_fr hS hA)⟩ rfl rfl hl.1 rfl (lv_room (Nat.le_of_ble_eq_true rfl)) dX4_code_6 ⟨Nat.le_of_ble_eq_true rfl, Nat.le_of_ble_eq_true rfl⟩) hS (fun q _ h => pu_fr hS hA q h) (pu_fr hS hA) (fun r_12 u t H1 locs ht hvm hw hB hz1 hk1 hS => ?_)
  have hP := pu_keep hP hk1
  clear hk1 hz1 ht hvm
  generalize H1 = H at hP hS ⊢
  obtain rfl : r_12 = 5 := hw.trans (by decide)
  refine lv_icmp_ge (tgt := 34) hx hb dX4_code_9 (by decide) (fun _ => ?_) (fun z => absurd z (by decide))
  refine lv_iload_n hx hb dX4_code_34 rfl (lv_at hl 1 rfl) ?_
  exact W.iret (v := (((((((((((((((((((0 + 112) - 97) + 1) * 32) + 108) - 97) + 1) * 32) + 97) - 97) + 1) * 32) + 99) - 97) + 1) * 32) + 101) - 97) + 1)) hx hb hr (fun t ht hW => ⟨⟨(((((((((((((((((((0 + 112) - 97) + 1) * 32) + 108) - 97) + 1) * 32) + 97) - 97) + 1) * 32) + 99) - 97) + 1) * 32) + 101) - 97) + 1), (), rfl, (by decide), trivial⟩, hS.F ht⟩) hS.2.2 dX4_code_35
def vs_X4_code_2 : List Cond := .code yX4_code cX4_code 3 (some .int) :: ([.methodLink RX4 45 yJ0_length_8abf5, .instanceMethod yJ0_length_8abf5, .selects RJ0 yJ0_length_8abf5 yJ0_length_8abf5, .initialized RJ0, .code yJ0_length_8abf5 cJ0_length_8abf5 1 (some .int), .fieldLink RJ0 9 "java/lang/String" "value" "[B", .methodLink RJ0 335 yJ0_coder_7d493, .instanceMethod yJ0_coder_7d493, .selects RJ0 yJ0_coder_7d493 yJ0_coder_7d493, .code yJ0_coder_7d493 cJ0_coder_7d493 1 (some .byte), .fieldLink RJ0 38 "java/lang/String" "COMPACT_STRINGS" "Z", .fieldLink RJ0 15 "java/lang/String" "coder" "B", .methodLink RX4 51 yJ0_charAt_5068e, .instanceMethod yJ0_charAt_5068e, .selects RJ0 yJ0_charAt_5068e yJ0_charAt_5068e, .code yJ0_charAt_5068e cJ0_charAt_5068e 2 (some .char), .methodLink RJ0 492 yJ0_isLatin1_aae02, .instanceMethod yJ0_isLatin1_aae02, .selects RJ0 yJ0_isLatin1_aae02 yJ0_isLatin1_aae02, .code yJ0_isLatin1_aae02 cJ0_isLatin1_aae02 1 (some .boolean), .methodLink RJ0 495 yJ1_charAt_3b067, .static yJ1_charAt_3b067, .initialized RJ1, .code yJ1_charAt_3b067 cJ1_charAt_3b067 2 (some .char), .methodLink RJ1 9 yJ0_checkIndex_df160, .static yJ0_checkIndex_df160, .code yJ0_checkIndex_df160 cJ0_checkIndex_df160 2 none, .fieldLink RJ0 1053 "jdk/internal/util/Preconditions" "SIOOBE_FORMATTER" "Ljava/util/function/BiFunction;", .methodLink RJ0 1059 yJ3_checkIndex_8e157, .static yJ3_checkIndex_8e157, .initialized RJ3, .code yJ3_checkIndex_8e157 cJ3_checkIndex_8e157 3 (some .int)])
theorem g_X4_code_2_J0_length : GoodIn vs_X4_code_2 (wsV RX4 45 RJ0 yJ0_length_8abf5 vs_J0_length) := goodIn_r _ [1, 2, 3, 4, 5, 6, 7, 8, 9, 4, 10, 11, 12] (by decide +kernel) (by decide +kernel)
theorem g_X4_code_2_J0_charAt : GoodIn vs_X4_code_2 (wsV RX4 51 RJ0 yJ0_charAt_5068e vs_J0_charAt) := goodIn_r _ [13, 14, 15, 4, 16, 17, 18, 19, 4, 20, 11, 12, 6, 21, 22, 23, 24, 25, 26, 27, 28, 29, 30, 31, 32] (by decide +kernel) (by decide +kernel)
set_option maxHeartbeats 4000000 in
set_option maxRecDepth 100000 in
theorem c_X4_code_2 (l : Launch) (dC : Nat → ClassId) (dI : Nat → Nat → Nat) (sz : Nat) (adK adV : Nat → Nat) (fz : Option Nat) : Met l yX4_code vs_X4_code_2 ({ frames := 4, cells := 0, slots := 0, locals := 85 }) (va_Pc [.ref (adK 2)] (pu_X adK adV fz (dC, dI) [] [] sz)) (va_Qi (fun (r : Int32) (_ : Unit) => r = 723752404) (fun _ _ => True) (va_A [] sz)) 0 0 (va_A [] sz) := by
  refine Met.ofW (cc := cX4_code) (maxL := 3) (ret := (some .int)) (by decide) rfl ?_
  intro p e s m args below meth c s₁ B hml hv
  obtain ⟨rfl, ⟨rfl, hP, hK, hD0⟩, hE⟩ := hv
  have hx := B.exec
  have hb := B.bytes
  have hr := B.returns
  have hts := atoms_spec (ws := vs_X4_code_2) B.pre
  have hown : s.vm.findClass RX4 = some m.cls := findClass_of_methodNamed B.named
  have hlocks := B.notSynchronized
  have hD := hD0
  have hA : ∀ q : Nat, s.heap.size ≤ q → va_A [] s.heap.size q := fun _ h => Or.inr h
  have hS : va_S (va_A [] s.heap.size) s.heap s.heap [] := va_S.rf
  have hE : sx_E adK adV fz (va_A [] s.heap.size) s s.heap := hE
  have hl := lv_entry ([.ref (adK 2)]) (n := 3) (Nat.le_of_ble_eq_true rfl)
  rw [lg_entry_eq]
  generalize (lg_sl ([.ref (adK 2)]) ++ List.replicate (3 - (lg_sl ([.ref (adK 2)])).length) Slot.unset).toArray = ls at hl ⊢
  have hl : lv_has ls 3 [(0, .ref (adK 2))] := hl
  refine lv_iconst (v := 0) hx hb dX4_code_0 (by decide) ?_
  refine lv_istore_n (lv' := [(1, .int 0), (0, .ref (adK 2))]) hx hb dX4_code_1 rfl hl (by decide) rfl (fun ls hl => ?_)
  refine lv_iconst (v := 0) hx hb dX4_code_2 (by decide) ?_
  refine lv_istore_n (lv' := [(2, .int 0), (1, .int 0), (0, .ref (adK 2))]) hx hb dX4_code_3 rfl hl (by decide) rfl (fun ls hl => ?_)
  refine lv_iload_n hx hb dX4_code_4 rfl (lv_at hl 0 rfl) ?_
  refine lv_aload_n hx hb dX4_code_5 rfl (lv_at hl 2 rfl) ?_
  refine va_calli (va_runV (As := []) (rest := [.int 0]) ⟨hx, hb, hml, hown, hts⟩ (c_J0_length l dC dI _ adK adV fz 2 (by decide)) (cwV 0 hts g_X4_code_2_J0_length rfl rfl rfl (by decide +kernel) ⟨Nat.le_of_ble_eq_true rfl, Nat.le_of_ble_eq_true rfl⟩) ⟨pu_blx, vk_recv (i := 2) hE.2.1 (by decide) hS, pu_inx hP hK hD hE hS (pu_fr hS hA)⟩ rfl rfl hl.1 rfl (lv_room (Nat.le_of_ble_eq_true rfl)) dX4_code_6 ⟨Nat.le_of_ble_eq_true rfl, Nat.le_of_ble_eq_true rfl⟩) hS (fun q _ h => pu_fr hS hA q h) (pu_fr hS hA) (fun r_1 u t H1 locs ht hvm hw hB hz1 hk1 hS => ?_)
  have hP := pu_keep hP hk1
  clear hk1 hz1 ht hvm
  generalize H1 = H at hP hS ⊢
  obtain rfl : r_1 = 6 := hw.trans (by decide)
  refine lv_icmp_ge (tgt := 34) hx hb dX4_code_9 (by decide) (fun z => absurd z (by decide)) (fun _ => ?_)
  refine lv_iload_n hx hb dX4_code_12 rfl (lv_at hl 1 rfl) ?_
  refine lv_bipush (v := 32) hx hb dX4_code_13 (by decide) ?_
  refine lv_imul hx hb dX4_code_15 ?_
  refine lv_topi (fun y_2 ey_2 => ?_)
  obtain rfl : y_2 = 0 := ey_2.trans (by decide)
  refine lv_aload_n hx hb dX4_code_16 rfl (lv_at hl 2 rfl) ?_
  refine lv_iload_n hx hb dX4_code_17 rfl (lv_at hl 0 rfl) ?_
  refine va_calli (va_runV (As := [.int 0]) (rest := [.int 0]) ⟨hx, hb, hml, hown, hts⟩ (c_J0_charAt l dC dI _ adK adV fz 2 (by decide) 0 (show ¬ (_ ∨ _) by decide)) (cwV 1 hts g_X4_code_2_J0_charAt rfl rfl rfl (by decide +kernel) ⟨Nat.le_of_ble_eq_true rfl, Nat.le_of_ble_eq_true rfl⟩) ⟨pu_blx, vk_recv (i := 2) hE.2.1 (by decide) hS, pu_inx hP hK hD hE hS (pu_fr hS hA)⟩ rfl rfl hl.1 rfl (lv_room (Nat.le_of_ble_eq_true rfl)) dX4_code_18 ⟨Nat.le_of_ble_eq_true rfl, Nat.le_of_ble_eq_true rfl⟩) hS (fun q _ h => pu_fr hS hA q h) (pu_fr hS hA) (fun r_3 u t H1 locs ht hvm hw hB hz1 hk1 hS => ?_)
  have hP := pu_keep hP hk1
  clear hk1 hz1 ht hvm
  generalize H1 = H at hP hS ⊢
  obtain rfl : r_3 = 117 := hw.2.trans (by decide)
  refine lv_iadd hx hb dX4_code_21 ?_
  refine lv_bipush (v := 97) hx hb dX4_code_22 (by decide) ?_
  refine lv_isub hx hb dX4_code_24 ?_
  refine lv_iconst (v := 1) hx hb dX4_code_25 (by decide) ?_
  refine lv_iadd hx hb dX4_code_26 ?_
  refine lv_istore_n (lv' := [(1, .int (((0 + 117) - 97) + 1)), (2, .int 0), (0, .ref (adK 2))]) hx hb dX4_code_27 rfl hl (by decide) rfl (fun ls hl => ?_)
  refine lv_iinc (v := 1) (lv' := [(2, .int 1), (1, .int (((0 + 117) - 97) + 1)), (0, .ref (adK 2))]) hx hb dX4_code_28 hl (k := 1) rfl (by decide) (by decide) rfl (fun ls hl => ?_)
  refine lv_goto (tgt := 4) hx hb dX4_code_31 (by decide) ?_
  refine lv_iload_n hx hb dX4_code_4 rfl (lv_at hl 0 rfl) ?_
  refine lv_aload_n hx hb dX4_code_5 rfl (lv_at hl 2 rfl) ?_
  refine va_calli (va_runV (As := []) (rest := [.int 1]) ⟨hx, hb, hml, hown, hts⟩ (c_J0_length l dC dI _ adK adV fz 2 (by decide)) (cwV 0 hts g_X4_code_2_J0_length rfl rfl rfl (by decide +kernel) ⟨Nat.le_of_ble_eq_true rfl, Nat.le_of_ble_eq_true rfl⟩) ⟨pu_blx, vk_recv (i := 2) hE.2.1 (by decide) hS, pu_inx hP hK hD hE hS (pu_fr hS hA)⟩ rfl rfl hl.1 rfl (lv_room (Nat.le_of_ble_eq_true rfl)) dX4_code_6 ⟨Nat.le_of_ble_eq_true rfl, Nat.le_of_ble_eq_true rfl⟩) hS (fun q _ h => pu_fr hS hA q h) (pu_fr hS hA) (fun r_4 u t H1 locs ht hvm hw hB hz1 hk1 hS => ?_)
  have hP := pu_keep hP hk1
  clear hk1 hz1 ht hvm
  generalize H1 = H at hP hS ⊢
  obtain rfl : r_4 = 6 := hw.trans (by decide)
  refine lv_icmp_ge (tgt := 34) hx hb dX4_code_9 (by decide) (fun z => absurd z (by decide)) (fun _ => ?_)
  refine lv_iload_n hx hb dX4_code_12 rfl (lv_at hl 1 rfl) ?_
  refine lv_bipush (v := 32) hx hb dX4_code_13 (by decide) ?_
  refine lv_imul hx hb dX4_code_15 ?_
  refine lv_aload_n hx hb dX4_code_16 rfl (lv_at hl 2 rfl) ?_
  refine lv_iload_n hx hb dX4_code_17 rfl (lv_at hl 0 rfl) ?_
  refine va_calli (va_runV (As := [.int 1]) (rest := [.int ((((0 + 117) - 97) + 1) * 32)]) ⟨hx, hb, hml, hown, hts⟩ (c_J0_charAt l dC dI _ adK adV fz 2 (by decide) 1 (show ¬ (_ ∨ _) by decide)) (cwV 1 hts g_X4_code_2_J0_charAt rfl rfl rfl (by decide +kernel) ⟨Nat.le_of_ble_eq_true rfl, Nat.le_of_ble_eq_true rfl⟩) ⟨pu_blx, vk_recv (i := 2) hE.2.1 (by decide) hS, pu_inx hP hK hD hE hS (pu_fr hS hA)⟩ rfl rfl hl.1 rfl (lv_room (Nat.le_of_ble_eq_true rfl)) dX4_code_18 ⟨Nat.le_of_ble_eq_true rfl, Nat.le_of_ble_eq_true rfl⟩) hS (fun q _ h => pu_fr hS hA q h) (pu_fr hS hA) (fun r_5 u t H1 locs ht hvm hw hB hz1 hk1 hS => ?_)
  have hP := pu_keep hP hk1
  clear hk1 hz1 ht hvm
  generalize H1 = H at hP hS ⊢
  obtain rfl : r_5 = 114 := hw.2.trans (by decide)
  refine lv_iadd hx hb dX4_code_21 ?_
  refine lv_bipush (v := 97) hx hb dX4_code_22 (by decide) ?_
  refine lv_isub hx hb dX4_code_24 ?_
  refine lv_iconst (v := 1) hx hb dX4_code_25 (by decide) ?_
  refine lv_iadd hx hb dX4_code_26 ?_
  refine lv_istore_n (lv' := [(1, .int (((((((0 + 117) - 97) + 1) * 32) + 114) - 97) + 1)), (2, .int 1), (0, .ref (adK 2))]) hx hb dX4_code_27 rfl hl (by decide) rfl (fun ls hl => ?_)
  refine lv_iinc (v := 2) (lv' := [(2, .int 2), (1, .int (((((((0 + 117) - 97) + 1) * 32) + 114) - 97) + 1)), (0, .ref (adK 2))]) hx hb dX4_code_28 hl (k := 1) rfl (by decide) (by decide) rfl (fun ls hl => ?_)
  refine lv_goto (tgt := 4) hx hb dX4_code_31 (by decide) ?_
  refine lv_iload_n hx hb dX4_code_4 rfl (lv_at hl 0 rfl) ?_
  refine lv_aload_n hx hb dX4_code_5 rfl (lv_at hl 2 rfl) ?_
  refine va_calli (va_runV (As := []) (rest := [.int 2]) ⟨hx, hb, hml, hown, hts⟩ (c_J0_length l dC dI _ adK adV fz 2 (by decide)) (cwV 0 hts g_X4_code_2_J0_length rfl rfl rfl (by decide +kernel) ⟨Nat.le_of_ble_eq_true rfl, Nat.le_of_ble_eq_true rfl⟩) ⟨pu_blx, vk_recv (i := 2) hE.2.1 (by decide) hS, pu_inx hP hK hD hE hS (pu_fr hS hA)⟩ rfl rfl hl.1 rfl (lv_room (Nat.le_of_ble_eq_true rfl)) dX4_code_6 ⟨Nat.le_of_ble_eq_true rfl, Nat.le_of_ble_eq_true rfl⟩) hS (fun q _ h => pu_fr hS hA q h) (pu_fr hS hA) (fun r_6 u t H1 locs ht hvm hw hB hz1 hk1 hS => ?_)
  have hP := pu_keep hP hk1
  clear hk1 hz1 ht hvm
  generalize H1 = H at hP hS ⊢
  obtain rfl : r_6 = 6 := hw.trans (by decide)
  refine lv_icmp_ge (tgt := 34) hx hb dX4_code_9 (by decide) (fun z => absurd z (by decide)) (fun _ => ?_)
  refine lv_iload_n hx hb dX4_code_12 rfl (lv_at hl 1 rfl) ?_
  refine lv_bipush (v := 32) hx hb dX4_code_13 (by decide) ?_
  refine lv_imul hx hb dX4_code_15 ?_
  refine lv_aload_n hx hb dX4_code_16 rfl (lv_at hl 2 rfl) ?_
  refine lv_iload_n hx hb dX4_code_17 rfl (lv_at hl 0 rfl) ?_
  refine va_calli (va_runV (As := [.int 2]) (rest := [.int ((((((((0 + 117) - 97) + 1) * 32) + 114) - 97) + 1) * 32)]) ⟨hx, hb, hml, hown, hts⟩ (c_J0_charAt l dC dI _ adK adV fz 2 (by decide) 2 (show ¬ (_ ∨ _) by decide)) (cwV 1 hts g_X4_code_2_J0_charAt rfl rfl rfl (by decide +kernel) ⟨Nat.le_of_ble_eq_true rfl, Nat.le_of_ble_eq_true rfl⟩) ⟨pu_blx, vk_recv (i := 2) hE.2.1 (by decide) hS, pu_inx hP hK hD hE hS (pu_fr hS hA)⟩ rfl rfl hl.1 rfl (lv_room (Nat.le_of_ble_eq_true rfl)) dX4_code_18 ⟨Nat.le_of_ble_eq_true rfl, Nat.le_of_ble_eq_true rfl⟩) hS (fun q _ h => pu_fr hS hA q h) (pu_fr hS hA) (fun r_7 u t H1 locs ht hvm hw hB hz1 hk1 hS => ?_)
  have hP := pu_keep hP hk1
  clear hk1 hz1 ht hvm
  generalize H1 = H at hP hS ⊢
  obtain rfl : r_7 = 103 := hw.2.trans (by decide)
  refine lv_iadd hx hb dX4_code_21 ?_
  refine lv_bipush (v := 97) hx hb dX4_code_22 (by decide) ?_
  refine lv_isub hx hb dX4_code_24 ?_
  refine lv_iconst (v := 1) hx hb dX4_code_25 (by decide) ?_
  refine lv_iadd hx hb dX4_code_26 ?_
  refine lv_istore_n (lv' := [(1, .int (((((((((((0 + 117) - 97) + 1) * 32) + 114) - 97) + 1) * 32) + 103) - 97) + 1)), (2, .int 2), (0, .ref (adK 2))]) hx hb dX4_code_27 rfl hl (by decide) rfl (fun ls hl => ?_)
  refine lv_iinc (v := 3) (lv' := [(2, .int 3), (1, .int (((((((((((0 + 117) - 97) + 1) * 32) + 114) - 97) + 1) * 32) + 103) - 97) + 1)), (0, .ref (adK 2))]) hx hb dX4_code_28 hl (k := 1) rfl (by decide) (by decide) rfl (fun ls hl => ?_)
  refine lv_goto (tgt := 4) hx hb dX4_code_31 (by decide) ?_
  refine lv_iload_n hx hb dX4_code_4 rfl (lv_at hl 0 rfl) ?_
  refine lv_aload_n hx hb dX4_code_5 rfl (lv_at hl 2 rfl) ?_
  refine va_calli (va_runV (As := []) (rest := [.int 3]) ⟨hx, hb, hml, hown, hts⟩ (c_J0_length l dC dI _ adK adV fz 2 (by decide)) (cwV 0 hts g_X4_code_2_J0_length rfl rfl rfl (by decide +kernel) ⟨Nat.le_of_ble_eq_true rfl, Nat.le_of_ble_eq_true rfl⟩) ⟨pu_blx, vk_recv (i := 2) hE.2.1 (by decide) hS, pu_inx hP hK hD hE hS (pu_fr hS hA)⟩ rfl rfl hl.1 rfl (lv_room (Nat.le_of_ble_eq_true rfl)) dX4_code_6 ⟨Nat.le_of_ble_eq_true rfl, Nat.le_of_ble_eq_true rfl⟩) hS (fun q _ h => pu_fr hS hA q h) (pu_fr hS hA) (fun r_8 u t H1 locs ht hvm hw hB hz1 hk1 hS => ?_)
  have hP := pu_keep hP hk1
  clear hk1 hz1 ht hvm
  generalize H1 = H at hP hS ⊢
  obtain rfl : r_8 = 6 := hw.trans (by decide)
  refine lv_icmp_ge (tgt := 34) hx hb dX4_code_9 (by decide) (fun z => absurd z (by decide)) (fun _ => ?_)
  refine lv_iload_n hx hb dX4_code_12 rfl (lv_at hl 1 rfl) ?_
  refine lv_bipush (v := 32) hx hb dX4_code_13 (by decide) ?_
  refine lv_imul hx hb dX4_code_15 ?_
  refine lv_aload_n hx hb dX4_code_16 rfl (lv_at hl 2 rfl) ?_
  refine lv_iload_n hx hb dX4_code_17 rfl (lv_at hl 0 rfl) ?_
  refine va_calli (va_runV (As := [.int 3]) (rest := [.int ((((((((((((0 + 117) - 97) + 1) * 32) + 114) - 97) + 1) * 32) + 103) - 97) + 1) * 32)]) ⟨hx, hb, hml, hown, hts⟩ (c_J0_charAt l dC dI _ adK adV fz 2 (by decide) 3 (show ¬ (_ ∨ _) by decide)) (cwV 1 hts g_X4_code_2_J0_charAt rfl rfl rfl (by decide +kernel) ⟨Nat.le_of_ble_eq_true rfl, Nat.le_of_ble_eq_true rfl⟩) ⟨pu_blx, vk_recv (i := 2) hE.2.1 (by decide) hS, pu_inx hP hK hD hE hS (pu_fr hS hA)⟩ rfl rfl hl.1 rfl (lv_room (Nat.le_of_ble_eq_true rfl)) dX4_code_18 ⟨Nat.le_of_ble_eq_true rfl, Nat.le_of_ble_eq_true rfl⟩) hS (fun q _ h => pu_fr hS hA q h) (pu_fr hS hA) (fun r_9 u t H1 locs ht hvm hw hB hz1 hk1 hS => ?_)
  have hP := pu_keep hP hk1
  clear hk1 hz1 ht hvm
  generalize H1 = H at hP hS ⊢
  obtain rfl : r_9 = 101 := hw.2.trans (by decide)
  refine lv_iadd hx hb dX4_code_21 ?_
  refine lv_bipush (v := 97) hx hb dX4_code_22 (by decide) ?_
  refine lv_isub hx hb dX4_code_24 ?_
  refine lv_iconst (v := 1) hx hb dX4_code_25 (by decide) ?_
  refine lv_iadd hx hb dX4_code_26 ?_
  refine lv_istore_n (lv' := [(1, .int (((((((((((((((0 + 117) - 97) + 1) * 32) + 114) - 97) + 1) * 32) + 103) - 97) + 1) * 32) + 101) - 97) + 1)), (2, .int 3), (0, .ref (adK 2))]) hx hb dX4_code_27 rfl hl (by decide) rfl (fun ls hl => ?_)
  refine lv_iinc (v := 4) (lv' := [(2, .int 4), (1, .int (((((((((((((((0 + 117) - 97) + 1) * 32) + 114) - 97) + 1) * 32) + 103) - 97) + 1) * 32) + 101) - 97) + 1)), (0, .ref (adK 2))]) hx hb dX4_code_28 hl (k := 1) rfl (by decide) (by decide) rfl (fun ls hl => ?_)
  refine lv_goto (tgt := 4) hx hb dX4_code_31 (by decide) ?_
  refine lv_iload_n hx hb dX4_code_4 rfl (lv_at hl 0 rfl) ?_
  refine lv_aload_n hx hb dX4_code_5 rfl (lv_at hl 2 rfl) ?_
  refine va_calli (va_runV (As := []) (rest := [.int 4]) ⟨hx, hb, hml, hown, hts⟩ (c_J0_length l dC dI _ adK adV fz 2 (by decide)) (cwV 0 hts g_X4_code_2_J0_length rfl rfl rfl (by decide +kernel) ⟨Nat.le_of_ble_eq_true rfl, Nat.le_of_ble_eq_true rfl⟩) ⟨pu_blx, vk_recv (i := 2) hE.2.1 (by decide) hS, pu_inx hP hK hD hE hS (pu_fr hS hA)⟩ rfl rfl hl.1 rfl (lv_room (Nat.le_of_ble_eq_true rfl)) dX4_code_6 ⟨Nat.le_of_ble_eq_true rfl, Nat.le_of_ble_eq_true rfl⟩) hS (fun q _ h => pu_fr hS hA q h) (pu_fr hS hA) (fun r_10 u t H1 locs ht hvm hw hB hz1 hk1 hS => ?_)
  have hP := pu_keep hP hk1
  clear hk1 hz1 ht hvm
  generalize H1 = H at hP hS ⊢
  obtain rfl : r_10 = 6 := hw.trans (by decide)
  refine lv_icmp_ge (tgt := 34) hx hb dX4_code_9 (by decide) (fun z => absurd z (by decide)) (fun _ => ?_)
  refine lv_iload_n hx hb dX4_code_12 rfl (lv_at hl 1 rfl) ?_
  refine lv_bipush (v := 32) hx hb dX4_code_13 (by decide) ?_
  refine lv_imul hx hb dX4_code_15 ?_
  refine lv_aload_n hx hb dX4_code_16 rfl (lv_at hl 2 rfl) ?_
  refine lv_iload_n hx hb dX4_code_17 rfl (lv_at hl 0 rfl) ?_
  refine va_calli (va_runV (As := [.int 4]) (rest := [.int ((((((((((((((((0 + 117) - 97) + 1) * 32) + 114) - 97) + 1) * 32) + 103) - 97) + 1) * 32) + 101) - 97) + 1) * 32)]) ⟨hx, hb, hml, hown, hts⟩ (c_J0_charAt l dC dI _ adK adV fz 2 (by decide) 4 (show ¬ (_ ∨ _) by decide)) (cwV 1 hts g_X4_code_2_J0_charAt rfl rfl rfl (by decide +kernel) ⟨Nat.le_of_ble_eq_true rfl, Nat.le_of_ble_eq_true rfl⟩) ⟨pu_blx, vk_recv (i := 2) hE.2.1 (by decide) hS, pu_inx hP hK hD hE hS (pu_fr hS hA)⟩ rfl rfl hl.1 rfl (lv_room (Nat.le_of_ble_eq_true rfl)) dX4_code_18 ⟨Nat.le_of_ble_eq_true rfl, Nat.le_of_ble_eq_true rfl⟩) hS (fun q _ h => pu_fr hS hA q h) (pu_fr hS hA) (fun r_11 u t H1 locs ht hvm hw hB hz1 hk1 hS => ?_)
  have hP := pu_keep hP hk1
  clear hk1 hz1 ht hvm
  generalize H1 = H at hP hS ⊢
  obtain rfl : r_11 = 110 := hw.2.trans (by decide)
  refine lv_iadd hx hb dX4_code_21 ?_
  refine lv_bipush (v := 97) hx hb dX4_code_22 (by decide) ?_
  refine lv_isub hx hb dX4_code_24 ?_
  refine lv_iconst (v := 1) hx hb dX4_code_25 (by decide) ?_
  refine lv_iadd hx hb dX4_code_26 ?_
  refine lv_istore_n (lv' := [(1, .int (((((((((((((((((((0 + 117) - 97) + 1) * 32) + 114) - 97) + 1) * 32) + 103) - 97) + 1) * 32) + 101) - 97) + 1) * 32) + 110) - 97) + 1)), (2, .int 4), (0, .ref (adK 2))]) hx hb dX4_code_27 rfl hl (by decide) rfl (fun ls hl => ?_)
  refine lv_iinc (v := 5) (lv' := [(2, .int 5), (1, .int (((((((((((((((((((0 + 117) - 97) + 1) * 32) + 114) - 97) + 1) * 32) + 103) - 97) + 1) * 32) + 101) - 97) + 1) * 32) + 110) - 97) + 1)), (0, .ref (adK 2))]) hx hb dX4_code_28 hl (k := 1) rfl (by decide) (by decide) rfl (fun ls hl => ?_)
  refine lv_goto (tgt := 4) hx hb dX4_code_31 (by decide) ?_
  refine lv_iload_n hx hb dX4_code_4 rfl (lv_at hl 0 rfl) ?_
  refine lv_aload_n hx hb dX4_code_5 rfl (lv_at hl 2 rfl) ?_
  refine va_calli (va_runV (As := []) (rest := [.int 5]) ⟨hx, hb, hml, hown, hts⟩ (c_J0_length l dC dI _ adK adV fz 2 (by decide)) (cwV 0 hts g_X4_code_2_J0_length rfl rfl rfl (by decide +kernel) ⟨Nat.le_of_ble_eq_true rfl, Nat.le_of_ble_eq_true rfl⟩) ⟨pu_blx, vk_recv (i := 2) hE.2.1 (by decide) hS, pu_inx hP hK hD hE hS (pu_fr hS hA)⟩ rfl rfl hl.1 rfl (lv_room (Nat.le_of_ble_eq_true rfl)) dX4_code_6 ⟨Nat.le_of_ble_eq_true rfl, Nat.le_of_ble_eq_true rfl⟩) hS (fun q _ h => pu_fr hS hA q h) (pu_fr hS hA) (fun r_12 u t H1 locs ht hvm hw hB hz1 hk1 hS => ?_)
  have hP := pu_keep hP hk1
  clear hk1 hz1 ht hvm
  generalize H1 = H at hP hS ⊢
  obtain rfl : r_12 = 6 := hw.trans (by decide)
  refine lv_icmp_ge (tgt := 34) hx hb dX4_code_9 (by decide) (fun z => absurd z (by decide)) (fun _ => ?_)
  refine lv_iload_n hx hb dX4_code_12 rfl (lv_at hl 1 rfl) ?_
  refine lv_bipush (v := 32) hx hb dX4_code_13 (by decide) ?_
  refine lv_imul hx hb dX4_code_15 ?_
  refine lv_aload_n hx hb dX4_code_16 rfl (lv_at hl 2 rfl) ?_
  refine lv_iload_n hx hb dX4_code_17 rfl (lv_at hl 0 rfl) ?_
  refine va_calli (va_runV (As := [.int 5]) (rest := [.int ((((((((((((((((((((0 + 117) - 97) + 1) * 32) + 114) - 97) + 1) * 32) + 103) - 97) + 1) * 32) + 101) - 97) + 1) * 32) + 110) - 97) + 1) * 32)]) ⟨hx, hb, hml, hown, hts⟩ (c_J0_charAt l dC dI _ adK adV fz 2 (by decide) 5 (show ¬ (_ ∨ _) by decide)) (cwV 1 hts g_X4_code_2_J0_charAt rfl rfl rfl (by decide +kernel) ⟨Nat.le_of_ble_eq_true rfl, Nat.le_of_ble_eq_true rfl⟩) ⟨pu_blx, vk_recv (i := 2) hE.2.1 (by decide) hS, pu_inx hP hK hD hE hS (pu_fr hS hA)⟩ rfl rfl hl.1 rfl (lv_room (Nat.le_of_ble_eq_true rfl)) dX4_code_18 ⟨Nat.le_of_ble_eq_true rfl, Nat.le_of_ble_eq_true rfl⟩) hS (fun q _ h => pu_fr hS hA q h) (pu_fr hS hA) (fun r_13 u t H1 locs ht hvm hw hB hz1 hk1 hS => ?_)
  have hP := pu_keep hP hk1
  clear hk1 hz1 ht hvm
  generalize H1 = H at hP hS ⊢
  obtain rfl : r_13 = 116 := hw.2.trans (by decide)
  refine lv_iadd hx hb dX4_code_21 ?_
  refine lv_bipush (v := 97) hx hb dX4_code_22 (by decide) ?_
  refine lv_isub hx hb dX4_code_24 ?_
  refine lv_iconst (v := 1) hx hb dX4_code_25 (by decide) ?_
  refine lv_iadd hx hb dX4_code_26 ?_
  refine lv_istore_n (lv' := [(1, .int (((((((((((((((((((((((0 + 117) - 97) + 1) * 32) + 114) - 97) + 1) * 32) + 103) - 97) + 1) * 32) + 101) - 97) + 1) * 32) + 110) - 97) + 1) * 32) + 116) - 97) + 1)), (2, .int 5), (0, .ref (adK 2))]) hx hb dX4_code_27 rfl hl (by decide) rfl (fun ls hl => ?_)
  refine lv_iinc (v := 6) (lv' := [(2, .int 6), (1, .int (((((((((((((((((((((((0 + 117) - 97) + 1) * 32) + 114) - 97) + 1) * 32) + 103) - 97) + 1) * 32) + 101) - 97) + 1) * 32) + 110) - 97) + 1) * 32) + 116) - 97) + 1)), (0, .ref (adK 2))]) hx hb dX4_code_28 hl (k := 1) rfl (by decide) (by decide) rfl (fun ls hl => ?_)
  refine lv_goto (tgt := 4) hx hb dX4_code_31 (by decide) ?_
  refine lv_iload_n hx hb dX4_code_4 rfl (lv_at hl 0 rfl) ?_
  refine lv_aload_n hx hb dX4_code_5 rfl (lv_at hl 2 rfl) ?_
  refine va_calli (va_runV (As := []) (rest := [.int 6]) ⟨hx, hb, hml, hown, hts⟩ (c_J0_length l dC dI _ adK adV fz 2 (by decide)) (cwV 0 hts g_X4_code_2_J0_length rfl rfl rfl (by decide +kernel) ⟨Nat.le_of_ble_eq_true rfl, Nat.le_of_ble_eq_true rfl⟩) ⟨pu_blx, vk_recv (i := 2) hE.2.1 (by decide) hS, pu_inx hP hK hD hE hS (pu_fr hS hA)⟩ rfl rfl hl.1 rfl (lv_room (Nat.le_of_ble_eq_true rfl)) dX4_code_6 ⟨Nat.le_of_ble_eq_true rfl, Nat.le_of_ble_eq_true rfl⟩) hS (fun q _ h => pu_fr hS hA q h) (pu_fr hS hA) (fun r_14 u t H1 locs ht hvm hw hB hz1 hk1 hS => ?_)
  have hP := pu_keep hP hk1
  clear hk1 hz1 ht hvm
  generalize H1 = H at hP hS ⊢
  obtain rfl : r_14 = 6 := hw.trans (by decide)
  refine lv_icmp_ge (tgt := 34) hx hb dX4_code_9 (by decide) (fun _ => ?_) (fun z => absurd z (by decide))
  refine lv_iload_n hx hb dX4_code_34 rfl (lv_at hl 1 rfl) ?_
  exact W.iret (v := (((((((((((((((((((((((0 + 117) - 97) + 1) * 32) + 114) - 97) + 1) * 32) + 103) - 97) + 1) * 32) + 101) - 97) + 1) * 32) + 110) - 97) + 1) * 32) + 116) - 97) + 1)) hx hb hr (fun t ht hW => ⟨⟨(((((((((((((((((((((((0 + 117) - 97) + 1) * 32) + 114) - 97) + 1) * 32) + 103) - 97) + 1) * 32) + 101) - 97) + 1) * 32) + 110) - 97) + 1) * 32) + 116) - 97) + 1), (), rfl, (by decide), trivial⟩, hS.F ht⟩) hS.2.2 dX4_code_35
def vs_X4_code_3 : List Cond := .code yX4_code cX4_code 3 (some .int) :: ([.methodLink RX4 45 yJ0_length_8abf5, .instanceMethod yJ0_length_8abf5, .selects RJ0 yJ0_length_8abf5 yJ0_length_8abf5, .initialized RJ0, .code yJ0_length_8abf5 cJ0_length_8abf5 1 (some .int), .fieldLink RJ0 9 "java/lang/String" "value" "[B", .methodLink RJ0 335 yJ0_coder_7d493, .instanceMethod yJ0_coder_7d493, .selects RJ0 yJ0_coder_7d493 yJ0_coder_7d493, .code yJ0_coder_7d493 cJ0_coder_7d493 1 (some .byte), .fieldLink RJ0 38 "java/lang/String" "COMPACT_STRINGS" "Z", .fieldLink RJ0 15 "java/lang/String" "coder" "B", .methodLink RX4 51 yJ0_charAt_5068e, .instanceMethod yJ0_charAt_5068e, .selects RJ0 yJ0_charAt_5068e yJ0_charAt_5068e, .code yJ0_charAt_5068e cJ0_charAt_5068e 2 (some .char), .methodLink RJ0 492 yJ0_isLatin1_aae02, .instanceMethod yJ0_isLatin1_aae02, .selects RJ0 yJ0_isLatin1_aae02 yJ0_isLatin1_aae02, .code yJ0_isLatin1_aae02 cJ0_isLatin1_aae02 1 (some .boolean), .methodLink RJ0 495 yJ1_charAt_3b067, .static yJ1_charAt_3b067, .initialized RJ1, .code yJ1_charAt_3b067 cJ1_charAt_3b067 2 (some .char), .methodLink RJ1 9 yJ0_checkIndex_df160, .static yJ0_checkIndex_df160, .code yJ0_checkIndex_df160 cJ0_checkIndex_df160 2 none, .fieldLink RJ0 1053 "jdk/internal/util/Preconditions" "SIOOBE_FORMATTER" "Ljava/util/function/BiFunction;", .methodLink RJ0 1059 yJ3_checkIndex_8e157, .static yJ3_checkIndex_8e157, .initialized RJ3, .code yJ3_checkIndex_8e157 cJ3_checkIndex_8e157 3 (some .int)])
theorem g_X4_code_3_J0_length : GoodIn vs_X4_code_3 (wsV RX4 45 RJ0 yJ0_length_8abf5 vs_J0_length) := goodIn_r _ [1, 2, 3, 4, 5, 6, 7, 8, 9, 4, 10, 11, 12] (by decide +kernel) (by decide +kernel)
theorem g_X4_code_3_J0_charAt : GoodIn vs_X4_code_3 (wsV RX4 51 RJ0 yJ0_charAt_5068e vs_J0_charAt) := goodIn_r _ [13, 14, 15, 4, 16, 17, 18, 19, 4, 20, 11, 12, 6, 21, 22, 23, 24, 25, 26, 27, 28, 29, 30, 31, 32] (by decide +kernel) (by decide +kernel)
set_option maxHeartbeats 4000000 in
set_option maxRecDepth 100000 in
theorem c_X4_code_3 (l : Launch) (dC : Nat → ClassId) (dI : Nat → Nat → Nat) (sz : Nat) (adK adV : Nat → Nat) (fz : Option Nat) : Met l yX4_code vs_X4_code_3 ({ frames := 4, cells := 0, slots := 0, locals := 85 }) (va_Pc [.ref (adK 3)] (pu_X adK adV fz (dC, dI) [] [] sz)) (va_Qi (fun (r : Int32) (_ : Unit) => r = 22499628) (fun _ _ => True) (va_A [] sz)) 0 0 (va_A [] sz) := by
  refine Met.ofW (cc := cX4_code) (maxL := 3) (ret := (some .int)) (by decide) rfl ?_
  intro p e s m args below meth c s₁ B hml hv
  obtain ⟨rfl, ⟨rfl, hP, hK, hD0⟩, hE⟩ := hv
  have hx := B.exec
  have hb := B.bytes
  have hr := B.returns
  have hts := atoms_spec (ws := vs_X4_code_3) B.pre
  have hown : s.vm.findClass RX4 = some m.cls := findClass_of_methodNamed B.named
  have hlocks := B.notSynchronized
  have hD := hD0
  have hA : ∀ q : Nat, s.heap.size ≤ q → va_A [] s.heap.size q := fun _ h => Or.inr h
  have hS : va_S (va_A [] s.heap.size) s.heap s.heap [] := va_S.rf
  have hE : sx_E adK adV fz (va_A [] s.heap.size) s s.heap := hE
  have hl := lv_entry ([.ref (adK 3)]) (n := 3) (Nat.le_of_ble_eq_true rfl)
  rw [lg_entry_eq]
  generalize (lg_sl ([.ref (adK 3)]) ++ List.replicate (3 - (lg_sl ([.ref (adK 3)])).length) Slot.unset).toArray = ls at hl ⊢
  have hl : lv_has ls 3 [(0, .ref (adK 3))] := hl
  refine lv_iconst (v := 0) hx hb dX4_code_0 (by decide) ?_
  refine lv_istore_n (lv' := [(1, .int 0), (0, .ref (adK 3))]) hx hb dX4_code_1 rfl hl (by decide) rfl (fun ls hl => ?_)
  refine lv_iconst (v := 0) hx hb dX4_code_2 (by decide) ?_
  refine lv_istore_n (lv' := [(2, .int 0), (1, .int 0), (0, .ref (adK 3))]) hx hb dX4_code_3 rfl hl (by decide) rfl (fun ls hl => ?_)
  refine lv_iload_n hx hb dX4_code_4 rfl (lv_at hl 0 rfl) ?_
  refine lv_aload_n hx hb dX4_code_5 rfl (lv_at hl 2 rfl) ?_
  refine va_calli (va_runV (As := []) (rest := [.int 0]) ⟨hx, hb, hml, hown, hts⟩ (c_J0_length l dC dI _ adK adV fz 3 (by decide)) (cwV 0 hts g_X4_code_3_J0_length rfl rfl rfl (by decide +kernel) ⟨Nat.le_of_ble_eq_true rfl, Nat.le_of_ble_eq_true rfl⟩) ⟨pu_blx, vk_recv (i := 3) hE.2.1 (by decide) hS, pu_inx hP hK hD hE hS (pu_fr hS hA)⟩ rfl rfl hl.1 rfl (lv_room (Nat.le_of_ble_eq_true rfl)) dX4_code_6 ⟨Nat.le_of_ble_eq_true rfl, Nat.le_of_ble_eq_true rfl⟩) hS (fun q _ h => pu_fr hS hA q h) (pu_fr hS hA) (fun r_1 u t H1 locs ht hvm hw hB hz1 hk1 hS => ?_)
  have hP := pu_keep hP hk1
  clear hk1 hz1 ht hvm
  generalize H1 = H at hP hS ⊢
  obtain rfl : r_1 = 5 := hw.trans (by decide)
  refine lv_icmp_ge (tgt := 34) hx hb dX4_code_9 (by decide) (fun z => absurd z (by decide)) (fun _ => ?_)
  refine lv_iload_n hx hb dX4_code_12 rfl (lv_at hl 1 rfl) ?_
  refine lv_bipush (v := 32) hx hb dX4_code_13 (by decide) ?_
  refine lv_imul hx hb dX4_code_15 ?_
  refine lv_topi (fun y_2 ey_2 => ?_)
  obtain rfl : y_2 = 0 := ey_2.trans (by decide)
  refine lv_aload_n hx hb dX4_code_16 rfl (lv_at hl 2 rfl) ?_
  refine lv_iload_n hx hb dX4_code_17 rfl (lv_at hl 0 rfl) ?_
  refine va_calli (va_runV (As := [.int 0]) (rest := [.int 0]) ⟨hx, hb, hml, hown, hts⟩ (c_J0_charAt l dC dI _ adK adV fz 3 (by decide) 0 (show ¬ (_ ∨ _) by decide)) (cwV 1 hts g_X4_code_3_J0_charAt rfl rfl rfl (by decide +kernel) ⟨Nat.le_of_ble_eq_true rfl, Nat.le_of_ble_eq_true rfl⟩) ⟨pu_blx, vk_recv (i := 3) hE.2.1 (by decide) hS, pu_inx hP hK hD hE hS (pu_fr hS hA)⟩ rfl rfl hl.1 rfl (lv_room (Nat.le_of_ble_eq_true rfl)) dX4_code_18 ⟨Nat.le_of_ble_eq_true rfl, Nat.le_of_ble_eq_true rfl⟩) hS (fun q _ h => pu_fr hS hA q h) (pu_fr hS hA) (fun r_3 u t H1 locs ht hvm hw hB hz1 hk1 hS => ?_)
  have hP := pu_keep hP hk1
  clear hk1 hz1 ht hvm
  generalize H1 = H at hP hS ⊢
  obtain rfl : r_3 = 117 := hw.2.trans (by decide)
  refine lv_iadd hx hb dX4_code_21 ?_
  refine lv_bipush (v := 97) hx hb dX4_code_22 (by decide) ?_
  refine lv_isub hx hb dX4_code_24 ?_
  refine lv_iconst (v := 1) hx hb dX4_code_25 (by decide) ?_
  refine lv_iadd hx hb dX4_code_26 ?_
  refine lv_istore_n (lv' := [(1, .int (((0 + 117) - 97) + 1)), (2, .int 0), (0, .ref (adK 3))]) hx hb dX4_code_27 rfl hl (by decide) rfl (fun ls hl => ?_)
  refine lv_iinc (v := 1) (lv' := [(2, .int 1), (1, .int (((0 + 117) - 97) + 1)), (0, .ref (adK 3))]) hx hb dX4_code_28 hl (k := 1) rfl (by decide) (by decide) rfl (fun ls hl => ?_)
  refine lv_goto (tgt := 4) hx hb dX4_code_31 (by decide) ?_
  refine lv_iload_n hx hb dX4_code_4 rfl (lv_at hl 0 rfl) ?_
  refine lv_aload_n hx hb dX4_code_5 rfl (lv_at hl 2 rfl) ?_
  refine va_calli (va_runV (As := []) (rest := [.int 1]) ⟨hx, hb, hml, hown, hts⟩ (c_J0_length l dC dI _ adK adV fz 3 (by decide)) (cwV 0 hts g_X4_code_3_J0_length rfl rfl rfl (by decide +kernel) ⟨Nat.le_of_ble_eq_true rfl, Nat.le_of_ble_eq_true rfl⟩) ⟨pu_blx, vk_recv (i := 3) hE.2.1 (by decide) hS, pu_inx hP hK hD hE hS (pu_fr hS hA)⟩ rfl rfl hl.1 rfl (lv_room (Nat.le_of_ble_eq_true rfl)) dX4_code_6 ⟨Nat.le_of_ble_eq_true rfl, Nat.le_of_ble_eq_true rfl⟩) hS (fun q _ h => pu_fr hS hA q h) (pu_fr hS hA) (fun r_4 u t H1 locs ht hvm hw hB hz1 hk1 hS => ?_)
  have hP := pu_keep hP hk1
  clear hk1 hz1 ht hvm
  generalize H1 = H at hP hS ⊢
  obtain rfl : r_4 = 5 := hw.trans (by decide)
  refine lv_icmp_ge (tgt := 34) hx hb dX4_code_9 (by decide) (fun z => absurd z (by decide)) (fun _ => ?_)
  refine lv_iload_n hx hb dX4_code_12 rfl (lv_at hl 1 rfl) ?_
  refine lv_bipush (v := 32) hx hb dX4_code_13 (by decide) ?_
  refine lv_imul hx hb dX4_code_15 ?_
  refine lv_aload_n hx hb dX4_code_16 rfl (lv_at hl 2 rfl) ?_
  refine lv_iload_n hx hb dX4_code_17 rfl (lv_at hl 0 rfl) ?_
  refine va_calli (va_runV (As := [.int 1]) (rest := [.int ((((0 + 117) - 97) + 1) * 32)]) ⟨hx, hb, hml, hown, hts⟩ (c_J0_charAt l dC dI _ adK adV fz 3 (by decide) 1 (show ¬ (_ ∨ _) by decide)) (cwV 1 hts g_X4_code_3_J0_charAt rfl rfl rfl (by decide +kernel) ⟨Nat.le_of_ble_eq_true rfl, Nat.le_of_ble_eq_true rfl⟩) ⟨pu_blx, vk_recv (i := 3) hE.2.1 (by decide) hS, pu_inx hP hK hD hE hS (pu_fr hS hA)⟩ rfl rfl hl.1 rfl (lv_room (Nat.le_of_ble_eq_true rfl)) dX4_code_18 ⟨Nat.le_of_ble_eq_true rfl, Nat.le_of_ble_eq_true rfl⟩) hS (fun q _ h => pu_fr hS hA q h) (pu_fr hS hA) (fun r_5 u t H1 locs ht hvm hw hB hz1 hk1 hS => ?_)
  have hP := pu_keep hP hk1
  clear hk1 hz1 ht hvm
  generalize H1 = H at hP hS ⊢
  obtain rfl : r_5 = 110 := hw.2.trans (by decide)
  refine lv_iadd hx hb dX4_code_21 ?_
  refine lv_bipush (v := 97) hx hb dX4_code_22 (by decide) ?_
  refine lv_isub hx hb dX4_code_24 ?_
  refine lv_iconst (v := 1) hx hb dX4_code_25 (by decide) ?_
  refine lv_iadd hx hb dX4_code_26 ?_
  refine lv_istore_n (lv' := [(1, .int (((((((0 + 117) - 97) + 1) * 32) + 110) - 97) + 1)), (2, .int 1), (0, .ref (adK 3))]) hx hb dX4_code_27 rfl hl (by decide) rfl (fun ls hl => ?_)
  refine lv_iinc (v := 2) (lv' := [(2, .int 2), (1, .int (((((((0 + 117) - 97) + 1) * 32) + 110) - 97) + 1)), (0, .ref (adK 3))]) hx hb dX4_code_28 hl (k := 1) rfl (by decide) (by decide) rfl (fun ls hl => ?_)
  refine lv_goto (tgt := 4) hx hb dX4_code_31 (by decide) ?_
  refine lv_iload_n hx hb dX4_code_4 rfl (lv_at hl 0 rfl) ?_
  refine lv_aload_n hx hb dX4_code_5 rfl (lv_at hl 2 rfl) ?_
  refine va_calli (va_runV (As := []) (rest := [.int 2]) ⟨hx, hb, hml, hown, hts⟩ (c_J0_length l dC dI _ adK adV fz 3 (by decide)) (cwV 0 hts g_X4_code_3_J0_length rfl rfl rfl (by decide +kernel) ⟨Nat.le_of_ble_eq_true rfl, Nat.le_of_ble_eq_true rfl⟩) ⟨pu_blx, vk_recv (i := 3) hE.2.1 (by decide) hS, pu_inx hP hK hD hE hS (pu_fr hS hA)⟩ rfl rfl hl.1 rfl (lv_room (Nat.le_of_ble_eq_true rfl)) dX4_code_6 ⟨Nat.le_of_ble_eq_true rfl, Nat.le_of_ble_eq_true rfl⟩) hS (fun q _ h => pu_fr hS hA q h) (pu_fr hS hA) (fun r_6 u t H1 locs ht hvm hw hB hz1 hk1 hS => ?_)
  have hP := pu_keep hP hk1
  clear hk1 hz1 ht hvm
  generalize H1 = H at hP hS ⊢
  obtain rfl : r_6 = 5 := hw.trans (by decide)
  refine lv_icmp_ge (tgt := 34) hx hb dX4_code_9 (by decide) (fun z => absurd z (by decide)) (fun _ => ?_)
  refine lv_iload_n hx hb dX4_code_12 rfl (lv_at hl 1 rfl) ?_
  refine lv_bipush (v := 32) hx hb dX4_code_13 (by decide) ?_
  refine lv_imul hx hb dX4_code_15 ?_
  refine lv_aload_n hx hb dX4_code_16 rfl (lv_at hl 2 rfl) ?_
  refine lv_iload_n hx hb dX4_code_17 rfl (lv_at hl 0 rfl) ?_
  refine va_calli (va_runV (As := [.int 2]) (rest := [.int ((((((((0 + 117) - 97) + 1) * 32) + 110) - 97) + 1) * 32)]) ⟨hx, hb, hml, hown, hts⟩ (c_J0_charAt l dC dI _ adK adV fz 3 (by decide) 2 (show ¬ (_ ∨ _) by decide)) (cwV 1 hts g_X4_code_3_J0_charAt rfl rfl rfl (by decide +kernel) ⟨Nat.le_of_ble_eq_true rfl, Nat.le_of_ble_eq_true rfl⟩) ⟨pu_blx, vk_recv (i := 3) hE.2.1 (by decide) hS, pu_inx hP hK hD hE hS (pu_fr hS hA)⟩ rfl rfl hl.1 rfl (lv_room (Nat.le_of_ble_eq_true rfl)) dX4_code_18 ⟨Nat.le_of_ble_eq_true rfl, Nat.le_of_ble_eq_true rfl⟩) hS (fun q _ h => pu_fr hS hA q h) (pu_fr hS hA) (fun r_7 u t H1 locs ht hvm hw hB hz1 hk1 hS => ?_)
  have hP := pu_keep hP hk1
  clear hk1 hz1 ht hvm
  generalize H1 = H at hP hS ⊢
  obtain rfl : r_7 = 116 := hw.2.trans (by decide)
  refine lv_iadd hx hb dX4_code_21 ?_
  refine lv_bipush (v := 97) hx hb dX4_code_22 (by decide) ?_
  refine lv_isub hx hb dX4_code_24 ?_
  refine lv_iconst (v := 1) hx hb dX4_code_25 (by decide) ?_
  refine lv_iadd hx hb dX4_code_26 ?_
  refine lv_istore_n (lv' := [(1, .int (((((((((((0 + 117) - 97) + 1) * 32) + 110) - 97) + 1) * 32) + 116) - 97) + 1)), (2, .int 2), (0, .ref (adK 3))]) hx hb dX4_code_27 rfl hl (by decide) rfl (fun ls hl => ?_)
  refine lv_iinc (v := 3) (lv' := [(2, .int 3), (1, .int (((((((((((0 + 117) - 97) + 1) * 32) + 110) - 97) + 1) * 32) + 116) - 97) + 1)), (0, .ref (adK 3))]) hx hb dX4_code_28 hl (k := 1) rfl (by decide) (by decide) rfl (fun ls hl => ?_)
  refine lv_goto (tgt := 4) hx hb dX4_code_31 (by decide) ?_
  refine lv_iload_n hx hb dX4_code_4 rfl (lv_at hl 0 rfl) ?_
  refine lv_aload_n hx hb dX4_code_5 rfl (lv_at hl 2 rfl) ?_
  refine va_calli (va_runV (As := []) (rest := [.int 3]) ⟨hx, hb, hml, hown, hts⟩ (c_J0_length l dC dI _ adK adV fz 3 (by decide)) (cwV 0 hts g_X4_code_3_J0_length rfl rfl rfl (by decide +kernel) ⟨Nat.le_of_ble_eq_true rfl, Nat.le_of_ble_eq_true rfl⟩) ⟨pu_blx, vk_recv (i := 3) hE.2.1 (by decide) hS, pu_inx hP hK hD hE hS (pu_fr hS hA)⟩ rfl rfl hl.1 rfl (lv_room (Nat.le_of_ble_eq_true rfl)) dX4_code_6 ⟨Nat.le_of_ble_eq_true rfl, Nat.le_of_ble_eq_true rfl⟩) hS (fun q _ h => pu_fr hS hA q h) (pu_fr hS hA) (fun r_8 u t H1 locs ht hvm hw hB hz1 hk1 hS => ?_)
  have hP := pu_keep hP hk1
  clear hk1 hz1 ht hvm
  generalize H1 = H at hP hS ⊢
  obtain rfl : r_8 = 5 := hw.trans (by decide)
  refine lv_icmp_ge (tgt := 34) hx hb dX4_code_9 (by decide) (fun z => absurd z (by decide)) (fun _ => ?_)
  refine lv_iload_n hx hb dX4_code_12 rfl (lv_at hl 1 rfl) ?_
  refine lv_bipush (v := 32) hx hb dX4_code_13 (by decide) ?_
  refine lv_imul hx hb dX4_code_15 ?_
  refine lv_aload_n hx hb dX4_code_16 rfl (lv_at hl 2 rfl) ?_
  refine lv_iload_n hx hb dX4_code_17 rfl (lv_at hl 0 rfl) ?_
  refine va_calli (va_runV (As := [.int 3]) (rest := [.int ((((((((((((0 + 117) - 97) + 1) * 32) + 110) - 97) + 1) * 32) + 116) - 97) + 1) * 32)]) ⟨hx, hb, hml, hown, hts⟩ (c_J0_charAt l dC dI _ adK adV fz 3 (by decide) 3 (show ¬ (_ ∨ _) by decide)) (cwV 1 hts g_X4_code_3_J0_charAt rfl rfl rfl (by decide +kernel) ⟨Nat.le_of_ble_eq_true rfl, Nat.le_of_ble_eq_true rfl⟩) ⟨pu_blx, vk_recv (i := 3) hE.2.1 (by decide) hS, pu_inx hP hK hD hE hS (pu_fr hS hA)⟩ rfl rfl hl.1 rfl (lv_room (Nat.le_of_ble_eq_true rfl)) dX4_code_18 ⟨Nat.le_of_ble_eq_true rfl, Nat.le_of_ble_eq_true rfl⟩) hS (fun q _ h => pu_fr hS hA q h) (pu_fr hS hA) (fun r_9 u t H1 locs ht hvm hw hB hz1 hk1 hS => ?_)
  have hP := pu_keep hP hk1
  clear hk1 hz1 ht hvm
  generalize H1 = H at hP hS ⊢
  obtain rfl : r_9 = 105 := hw.2.trans (by decide)
  refine lv_iadd hx hb dX4_code_21 ?_
  refine lv_bipush (v := 97) hx hb dX4_code_22 (by decide) ?_
  refine lv_isub hx hb dX4_code_24 ?_
  refine lv_iconst (v := 1) hx hb dX4_code_25 (by decide) ?_
  refine lv_iadd hx hb dX4_code_26 ?_
  refine lv_istore_n (lv' := [(1, .int (((((((((((((((0 + 117) - 97) + 1) * 32) + 110) - 97) + 1) * 32) + 116) - 97) + 1) * 32) + 105) - 97) + 1)), (2, .int 3), (0, .ref (adK 3))]) hx hb dX4_code_27 rfl hl (by decide) rfl (fun ls hl => ?_)
  refine lv_iinc (v := 4) (lv' := [(2, .int 4), (1, .int (((((((((((((((0 + 117) - 97) + 1) * 32) + 110) - 97) + 1) * 32) + 116) - 97) + 1) * 32) + 105) - 97) + 1)), (0, .ref (adK 3))]) hx hb dX4_code_28 hl (k := 1) rfl (by decide) (by decide) rfl (fun ls hl => ?_)
  refine lv_goto (tgt := 4) hx hb dX4_code_31 (by decide) ?_
  refine lv_iload_n hx hb dX4_code_4 rfl (lv_at hl 0 rfl) ?_
  refine lv_aload_n hx hb dX4_code_5 rfl (lv_at hl 2 rfl) ?_
  refine va_calli (va_runV (As := []) (rest := [.int 4]) ⟨hx, hb, hml, hown, hts⟩ (c_J0_length l dC dI _ adK adV fz 3 (by decide)) (cwV 0 hts g_X4_code_3_J0_length rfl rfl rfl (by decide +kernel) ⟨Nat.le_of_ble_eq_true rfl, Nat.le_of_ble_eq_true rfl⟩) ⟨pu_blx, vk_recv (i := 3) hE.2.1 (by decide) hS, pu_inx hP hK hD hE hS (pu_fr hS hA)⟩ rfl rfl hl.1 rfl (lv_room (Nat.le_of_ble_eq_true rfl)) dX4_code_6 ⟨Nat.le_of_ble_eq_true rfl, Nat.le_of_ble_eq_true rfl⟩) hS (fun q _ h => pu_fr hS hA q h) (pu_fr hS hA) (fun r_10 u t H1 locs ht hvm hw hB hz1 hk1 hS => ?_)
  have hP := pu_keep hP hk1
  clear hk1 hz1 ht hvm
  generalize H1 = H at hP hS ⊢
  obtain rfl : r_10 = 5 := hw.trans (by decide)
  refine lv_icmp_ge (tgt := 34) hx hb dX4_code_9 (by decide) (fun z => absurd z (by decide)) (fun _ => ?_)
  refine lv_iload_n hx hb dX4_code_12 rfl (lv_at hl 1 rfl) ?_
  refine lv_bipush (v := 32) hx hb dX4_code_13 (by decide) ?_
  refine lv_imul hx hb dX4_code_15 ?_
  refine lv_aload_n hx hb dX4_code_16 rfl (lv_at hl 2 rfl) ?_
  refine lv_iload_n hx hb dX4_code_17 rfl (lv_at hl 0 rfl) ?_
  refine va_calli (va_runV (As := [.int 4]) (rest := [.int ((((((((((((((((0 + 117) - 97) + 1) * 32) + 110) - 97) + 1) * 32) + 116) - 97) + 1) * 32) + 105) - 97) + 1) * 32)]) ⟨hx, hb, hml, hown, hts⟩ (c_J0_charAt l dC dI _ adK adV fz 3 (by decide) 4 (show ¬ (_ ∨ _) by decide)) (cwV 1 hts g_X4_code_3_J0_charAt rfl rfl rfl (by decide +kernel) ⟨Nat.le_of_ble_eq_true rfl, Nat.le_of_ble_eq_true rfl⟩) ⟨pu_blx, vk_recv (i := 3) hE.2.1 (by decide) hS, pu_inx hP hK hD hE hS (pu_fr hS hA)⟩ rfl rfl hl.1 rfl (lv_room (Nat.le_of_ble_eq_true rfl)) dX4_code_18 ⟨Nat.le_of_ble_eq_true rfl, Nat.le_of_ble_eq_true rfl⟩) hS (fun q _ h => pu_fr hS hA q h) (pu_fr hS hA) (fun r_11 u t H1 locs ht hvm hw hB hz1 hk1 hS => ?_)
  have hP := pu_keep hP hk1
  clear hk1 hz1 ht hvm
  generalize H1 = H at hP hS ⊢
  obtain rfl : r_11 = 108 := hw.2.trans (by decide)
  refine lv_iadd hx hb dX4_code_21 ?_
  refine lv_bipush (v := 97) hx hb dX4_code_22 (by decide) ?_
  refine lv_isub hx hb dX4_code_24 ?_
  refine lv_iconst (v := 1) hx hb dX4_code_25 (by decide) ?_
  refine lv_iadd hx hb dX4_code_26 ?_
  refine lv_istore_n (lv' := [(1, .int (((((((((((((((((((0 + 117) - 97) + 1) * 32) + 110) - 97) + 1) * 32) + 116) - 97) + 1) * 32) + 105) - 97) + 1) * 32) + 108) - 97) + 1)), (2, .int 4), (0, .ref (adK 3))]) hx hb dX4_code_27 rfl hl (by decide) rfl (fun ls hl => ?_)
  refine lv_iinc (v := 5) (lv' := [(2, .int 5), (1, .int (((((((((((((((((((0 + 117) - 97) + 1) * 32) + 110) - 97) + 1) * 32) + 116) - 97) + 1) * 32) + 105) - 97) + 1) * 32) + 108) - 97) + 1)), (0, .ref (adK 3))]) hx hb dX4_code_28 hl (k := 1) rfl (by decide) (by decide) rfl (fun ls hl => ?_)
  refine lv_goto (tgt := 4) hx hb dX4_code_31 (by decide) ?_
  refine lv_iload_n hx hb dX4_code_4 rfl (lv_at hl 0 rfl) ?_
  refine lv_aload_n hx hb dX4_code_5 rfl (lv_at hl 2 rfl) ?_
  refine va_calli (va_runV (As := []) (rest := [.int 5]) ⟨hx, hb, hml, hown, hts⟩ (c_J0_length l dC dI _ adK adV fz 3 (by decide)) (cwV 0 hts g_X4_code_3_J0_length rfl rfl rfl (by decide +kernel) ⟨Nat.le_of_ble_eq_true rfl, Nat.le_of_ble_eq_true rfl⟩) ⟨pu_blx, vk_recv (i := 3) hE.2.1 (by decide) hS, pu_inx hP hK hD hE hS (pu_fr hS hA)⟩ rfl rfl hl.1 rfl (lv_room (Nat.le_of_ble_eq_true rfl)) dX4_code_6 ⟨Nat.le_of_ble_eq_true rfl, Nat.le_of_ble_eq_true rfl⟩) hS (fun q _ h => pu_fr hS hA q h) (pu_fr hS hA) (fun r_12 u t H1 locs ht hvm hw hB hz1 hk1 hS => ?_)
  have hP := pu_keep hP hk1
  clear hk1 hz1 ht hvm
  generalize H1 = H at hP hS ⊢
  obtain rfl : r_12 = 5 := hw.trans (by decide)
  refine lv_icmp_ge (tgt := 34) hx hb dX4_code_9 (by decide) (fun _ => ?_) (fun z => absurd z (by decide))
  refine lv_iload_n hx hb dX4_code_34 rfl (lv_at hl 1 rfl) ?_
  exact W.iret (v := (((((((((((((((((((0 + 117) - 97) + 1) * 32) + 110) - 97) + 1) * 32) + 116) - 97) + 1) * 32) + 105) - 97) + 1) * 32) + 108) - 97) + 1)) hx hb hr (fun t ht hW => ⟨⟨(((((((((((((((((((0 + 117) - 97) + 1) * 32) + 110) - 97) + 1) * 32) + 116) - 97) + 1) * 32) + 105) - 97) + 1) * 32) + 108) - 97) + 1), (), rfl, (by decide), trivial⟩, hS.F ht⟩) hS.2.2 dX4_code_35
def vs_X4_code_4 : List Cond := .code yX4_code cX4_code 3 (some .int) :: ([.methodLink RX4 45 yJ0_length_8abf5, .instanceMethod yJ0_length_8abf5, .selects RJ0 yJ0_length_8abf5 yJ0_length_8abf5, .initialized RJ0, .code yJ0_length_8abf5 cJ0_length_8abf5 1 (some .int), .fieldLink RJ0 9 "java/lang/String" "value" "[B", .methodLink RJ0 335 yJ0_coder_7d493, .instanceMethod yJ0_coder_7d493, .selects RJ0 yJ0_coder_7d493 yJ0_coder_7d493, .code yJ0_coder_7d493 cJ0_coder_7d493 1 (some .byte), .fieldLink RJ0 38 "java/lang/String" "COMPACT_STRINGS" "Z", .fieldLink RJ0 15 "java/lang/String" "coder" "B", .methodLink RX4 51 yJ0_charAt_5068e, .instanceMethod yJ0_charAt_5068e, .selects RJ0 yJ0_charAt_5068e yJ0_charAt_5068e, .code yJ0_charAt_5068e cJ0_charAt_5068e 2 (some .char), .methodLink RJ0 492 yJ0_isLatin1_aae02, .instanceMethod yJ0_isLatin1_aae02, .selects RJ0 yJ0_isLatin1_aae02 yJ0_isLatin1_aae02, .code yJ0_isLatin1_aae02 cJ0_isLatin1_aae02 1 (some .boolean), .methodLink RJ0 495 yJ1_charAt_3b067, .static yJ1_charAt_3b067, .initialized RJ1, .code yJ1_charAt_3b067 cJ1_charAt_3b067 2 (some .char), .methodLink RJ1 9 yJ0_checkIndex_df160, .static yJ0_checkIndex_df160, .code yJ0_checkIndex_df160 cJ0_checkIndex_df160 2 none, .fieldLink RJ0 1053 "jdk/internal/util/Preconditions" "SIOOBE_FORMATTER" "Ljava/util/function/BiFunction;", .methodLink RJ0 1059 yJ3_checkIndex_8e157, .static yJ3_checkIndex_8e157, .initialized RJ3, .code yJ3_checkIndex_8e157 cJ3_checkIndex_8e157 3 (some .int)])
theorem g_X4_code_4_J0_length : GoodIn vs_X4_code_4 (wsV RX4 45 RJ0 yJ0_length_8abf5 vs_J0_length) := goodIn_r _ [1, 2, 3, 4, 5, 6, 7, 8, 9, 4, 10, 11, 12] (by decide +kernel) (by decide +kernel)
theorem g_X4_code_4_J0_charAt : GoodIn vs_X4_code_4 (wsV RX4 51 RJ0 yJ0_charAt_5068e vs_J0_charAt) := goodIn_r _ [13, 14, 15, 4, 16, 17, 18, 19, 4, 20, 11, 12, 6, 21, 22, 23, 24, 25, 26, 27, 28, 29, 30, 31, 32] (by decide +kernel) (by decide +kernel)
set_option maxHeartbeats 4000000 in
set_option maxRecDepth 100000 in
theorem c_X4_code_4 (l : Launch) (dC : Nat → ClassId) (dI : Nat → Nat → Nat) (sz : Nat) (adK adV : Nat → Nat) (fz : Option Nat) : Met l yX4_code vs_X4_code_4 ({ frames := 4, cells := 0, slots := 0, locals := 85 }) (va_Pc [.ref (adK 4)] (pu_X adK adV fz (dC, dI) [] [] sz)) (va_Qi (fun (r : Int32) (_ : Unit) => r = 20579924) (fun _ _ => True) (va_A [] sz)) 0 0 (va_A [] sz) := by
  refine Met.ofW (cc := cX4_code) (maxL := 3) (ret := (some .int)) (by decide) rfl ?_
  intro p e s m args below meth c s₁ B hml hv
  obtain ⟨rfl, ⟨rfl, hP, hK, hD0⟩, hE⟩ := hv
  have hx := B.exec
  have hb := B.bytes
  have hr := B.returns
  have hts := atoms_spec (ws := vs_X4_code_4) B.pre
  have hown : s.vm.findClass RX4 = some m.cls := findClass_of_methodNamed B.named
  have hlocks := B.notSynchronized
  have hD := hD0
  have hA : ∀ q : Nat, s.heap.size ≤ q → va_A [] s.heap.size q := fun _ h => Or.inr h
  have hS : va_S (va_A [] s.heap.size) s.heap s.heap [] := va_S.rf
  have hE : sx_E adK adV fz (va_A [] s.heap.size) s s.heap := hE
  have hl := lv_entry ([.ref (adK 4)]) (n := 3) (Nat.le_of_ble_eq_true rfl)
  rw [lg_entry_eq]
  generalize (lg_sl ([.ref (adK 4)]) ++ List.replicate (3 - (lg_sl ([.ref (adK 4)])).length) Slot.unset).toArray = ls at hl ⊢
  have hl : lv_has ls 3 [(0, .ref (adK 4))] := hl
  refine lv_iconst (v := 0) hx hb dX4_code_0 (by decide) ?_
  refine lv_istore_n (lv' := [(1, .int 0), (0, .ref (adK 4))]) hx hb dX4_code_1 rfl hl (by decide) rfl (fun ls hl => ?_)
  refine lv_iconst (v := 0) hx hb dX4_code_2 (by decide) ?_
  refine lv_istore_n (lv' := [(2, .int 0), (1, .int 0), (0, .ref (adK 4))]) hx hb dX4_code_3 rfl hl (by decide) rfl (fun ls hl => ?_)
  refine lv_iload_n hx hb dX4_code_4 rfl (lv_at hl 0 rfl) ?_
  refine lv_aload_n hx hb dX4_code_5 rfl (lv_at hl 2 rfl) ?_
  refine va_calli (va_runV (As := []) (rest := [.int 0]) ⟨hx, hb, hml, hown, hts⟩ (c_J0_length l dC dI _ adK adV fz 4 (by decide)) (cwV 0 hts g_X4_code_4_J0_length rfl rfl rfl (by decide +kernel) ⟨Nat.le_of_ble_eq_true rfl, Nat.le_of_ble_eq_true rfl⟩) ⟨pu_blx, vk_recv (i := 4) hE.2.1 (by decide) hS, pu_inx hP hK hD hE hS (pu_fr hS hA)⟩ rfl rfl hl.1 rfl (lv_room (Nat.le_of_ble_eq_true rfl)) dX4_code_6 ⟨Nat.le_of_ble_eq_true rfl, Nat.le_of_ble_eq_true rfl⟩) hS (fun q _ h => pu_fr hS hA q h) (pu_fr hS hA) (fun r_1 u t H1 locs ht hvm hw hB hz1 hk1 hS => ?_)
  have hP := pu_keep hP hk1
  clear hk1 hz1 ht hvm
  generalize H1 = H at hP hS ⊢
  obtain rfl : r_1 = 5 := hw.trans (by decide)
  refine lv_icmp_ge (tgt := 34) hx hb dX4_code_9 (by decide) (fun z => absurd z (by decide)) (fun _ => ?_)
  refine lv_iload_n hx hb dX4_code_12 rfl (lv_at hl 1 rfl) ?_
  refine lv_bipush (v := 32) hx hb dX4_code_13 (by decide) ?_
  refine lv_imul hx hb dX4_code_15 ?_
  refine lv_topi (fun y_2 ey_2 => ?_)
  obtain rfl : y_2 = 0 := ey_2.trans (by decide)
  refine lv_aload_n hx hb dX4_code_16 rfl (lv_at hl 2 rfl) ?_
  refine lv_iload_n hx hb dX4_code_17 rfl (lv_at hl 0 rfl) ?_
  refine va_calli (va_runV (As := [.int 0]) (rest := [.int 0]) ⟨hx, hb, hml, hown, hts⟩ (c_J0_charAt l dC dI _ adK adV fz 4 (by decide) 0 (show ¬ (_ ∨ _) by decide)) (cwV 1 hts g_X4_code_4_J0_charAt rfl rfl rfl (by decide +kernel) ⟨Nat.le_of_ble_eq_true rfl, Nat.le_of_ble_eq_true rfl⟩) ⟨pu_blx, vk_recv (i := 4) hE.2.1 (by decide) hS, pu_inx hP hK hD hE hS (pu_fr hS hA)⟩ rfl rfl hl.1 rfl (lv_room (Nat.le_of_ble_eq_true rfl)) dX4_code_18 ⟨Nat.le_of_ble_eq_true rfl, Nat.le_of_ble_eq_true rfl⟩) hS (fun q _ h => pu_fr hS hA q h) (pu_fr hS hA) (fun r_3 u t H1 locs ht hvm hw hB hz1 hk1 hS => ?_)
  have hP := pu_keep hP hk1
  clear hk1 hz1 ht hvm
  generalize H1 = H at hP hS ⊢
  obtain rfl : r_3 = 115 := hw.2.trans (by decide)
  refine lv_iadd hx hb dX4_code_21 ?_
  refine lv_bipush (v := 97) hx hb dX4_code_22 (by decide) ?_
  refine lv_isub hx hb dX4_code_24 ?_
  refine lv_iconst (v := 1) hx hb dX4_code_25 (by decide) ?_
  refine lv_iadd hx hb dX4_code_26 ?_
  refine lv_istore_n (lv' := [(1, .int (((0 + 115) - 97) + 1)), (2, .int 0), (0, .ref (adK 4))]) hx hb dX4_code_27 rfl hl (by decide) rfl (fun ls hl => ?_)
  refine lv_iinc (v := 1) (lv' := [(2, .int 1), (1, .int (((0 + 115) - 97) + 1)), (0, .ref (adK 4))]) hx hb dX4_code_28 hl (k := 1) rfl (by decide) (by decide) rfl (fun ls hl => ?_)
  refine lv_goto (tgt := 4) hx hb dX4_code_31 (by decide) ?_
  refine lv_iload_n hx hb dX4_code_4 rfl (lv_at hl 0 rfl) ?_
  refine lv_aload_n hx hb dX4_code_5 rfl (lv_at hl 2 rfl) ?_
  refine va_calli (va_runV (As := []) (rest := [.int 1]) ⟨hx, hb, hml, hown, hts⟩ (c_J0_length l dC dI _ adK adV fz 4 (by decide)) (cwV 0 hts g_X4_code_4_J0_length rfl rfl rfl (by decide +kernel) ⟨Nat.le_of_ble_eq_true rfl, Nat.le_of_ble_eq_true rfl⟩) ⟨pu_blx, vk_recv (i := 4) hE.2.1 (by decide) hS, pu_inx hP hK hD hE hS (pu_fr hS hA)⟩ rfl rfl hl.1 rfl (lv_room (Nat.le_of_ble_eq_true rfl)) dX4_code_6 ⟨Nat.le_of_ble_eq_true rfl, Nat.le_of_ble_eq_true rfl⟩) hS (fun q _ h => pu_fr hS hA q h) (pu_fr hS hA) (fun r_4 u t H1 locs ht hvm hw hB hz1 hk1 hS => ?_)
  have hP := pu_keep hP hk1
  clear hk1 hz1 ht hvm
  generalize H1 = H at hP hS ⊢
  obtain rfl : r_4 = 5 := hw.trans (by decide)
  refine lv_icmp_ge (tgt := 34) hx hb dX4_code_9 (by decide) (fun z => absurd z (by decide)) (fun _ => ?_)
  refine lv_iload_n hx hb dX4_code_12 rfl (lv_at hl 1 rfl) ?_
  refine lv_bipush (v := 32) hx hb dX4_code_13 (by decide) ?_
  refine lv_imul hx hb dX4_code_15 ?_
  refine lv_aload_n hx hb dX4_code_16 rfl (lv_at hl 2 rfl) ?_
  refine lv_iload_n hx hb dX4_code_17 rfl (lv_at hl 0 rfl) ?_
  refine va_calli (va_runV (As := [.int 1]) (rest := [.int ((((0 + 115) - 97) + 1) * 32)]) ⟨hx, hb, hml, hown, hts⟩ (c_J0_charAt l dC dI _ adK adV fz 4 (by decide) 1 (show ¬ (_ ∨ _) by decide)) (cwV 1 hts g_X4_code_4_J0_charAt rfl rfl rfl (by decide +kernel) ⟨Nat.le_of_ble_eq_true rfl, Nat.le_of_ble_eq_true rfl⟩) ⟨pu_blx, vk_recv (i := 4) hE.2.1 (by decide) hS, pu_inx hP hK hD hE hS (pu_fr hS hA)⟩ rfl rfl hl.1 rfl (lv_room (Nat.le_of_ble_eq_true rfl)) dX4_code_18 ⟨Nat.le_of_ble_eq_true rfl, Nat.le_of_ble_eq_true rfl⟩) hS (fun q _ h => pu_fr hS hA q h) (pu_fr hS hA) (fun r_5 u t H1 locs ht hvm hw hB hz1 hk1 hS => ?_)
  have hP := pu_keep hP hk1
  clear hk1 hz1 ht hvm
  generalize H1 = H at hP hS ⊢
  obtain rfl : r_5 = 116 := hw.2.trans (by decide)
  refine lv_iadd hx hb dX4_code_21 ?_
  refine lv_bipush (v := 97) hx hb dX4_code_22 (by decide) ?_
  refine lv_isub hx hb dX4_code_24 ?_
  refine lv_iconst (v := 1) hx hb dX4_code_25 (by decide) ?_
  refine lv_iadd hx hb dX4_code_26 ?_
  refine lv_istore_n (lv' := [(1, .int (((((((0 + 115) - 97) + 1) * 32) + 116) - 97) + 1)), (2, .int 1), (0, .ref (adK 4))]) hx hb dX4_code_27 rfl hl (by decide) rfl (fun ls hl => ?_)
  refine lv_iinc (v := 2) (lv' := [(2, .int 2), (1, .int (((((((0 + 115) - 97) + 1) * 32) + 116) - 97) + 1)), (0, .ref (adK 4))]) hx hb dX4_code_28 hl (k := 1) rfl (by decide) (by decide) rfl (fun ls hl => ?_)
  refine lv_goto (tgt := 4) hx hb dX4_code_31 (by decide) ?_
  refine lv_iload_n hx hb dX4_code_4 rfl (lv_at hl 0 rfl) ?_
  refine lv_aload_n hx hb dX4_code_5 rfl (lv_at hl 2 rfl) ?_
  refine va_calli (va_runV (As := []) (rest := [.int 2]) ⟨hx, hb, hml, hown, hts⟩ (c_J0_length l dC dI _ adK adV fz 4 (by decide)) (cwV 0 hts g_X4_code_4_J0_length rfl rfl rfl (by decide +kernel) ⟨Nat.le_of_ble_eq_true rfl, Nat.le_of_ble_eq_true rfl⟩) ⟨pu_blx, vk_recv (i := 4) hE.2.1 (by decide) hS, pu_inx hP hK hD hE hS (pu_fr hS hA)⟩ rfl rfl hl.1 rfl (lv_room (Nat.le_of_ble_eq_true rfl)) dX4_code_6 ⟨Nat.le_of_ble_eq_true rfl, Nat.le_of_ble_eq_true rfl⟩) hS (fun q _ h => pu_fr hS hA q h) (pu_fr hS hA) (fun r_6 u t H1 locs ht hvm hw hB hz1 hk1 hS => ?_)
  have hP := pu_keep hP hk1
  clear hk1 hz1 ht hvm
  generalize H1 = H at hP hS ⊢
  obtain rfl : r_6 = 5 := hw.trans (by decide)
  refine lv_icmp_ge (tgt := 34) hx hb dX4_code_9 (by decide) (fun z => absurd z (by decide)) (fun _ => ?_)
  refine lv_iload_n hx hb dX4_code_12 rfl (lv_at hl 1 rfl) ?_
  refine lv_bipush (v := 32) hx hb dX4_code_13 (by decide) ?_
  refine lv_imul hx hb dX4_code_15 ?_
  refine lv_aload_n hx hb dX4_code_16 rfl (lv_at hl 2 rfl) ?_
  refine lv_iload_n hx hb dX4_code_17 rfl (lv_at hl 0 rfl) ?_
  refine va_calli (va_runV (As := [.int 2]) (rest := [.int ((((((((0 + 115) - 97) + 1) * 32) + 116) - 97) + 1) * 32)]) ⟨hx, hb, hml, hown, hts⟩ (c_J0_charAt l dC dI _ adK adV fz 4 (by decide) 2 (show ¬ (_ ∨ _) by decide)) (cwV 1 hts g_X4_code_4_J0_charAt rfl rfl rfl (by decide +kernel) ⟨Nat.le_of_ble_eq_true rfl, Nat.le_of_ble_eq_true rfl⟩) ⟨pu_blx, vk_recv (i := 4) hE.2.1 (by decide) hS, pu_inx hP hK hD hE hS (pu_fr hS hA)⟩ rfl rfl hl.1 rfl (lv_room (Nat.le_of_ble_eq_true rfl)) dX4_code_18 ⟨Nat.le_of_ble_eq_true rfl, Nat.le_of_ble_eq_true rfl⟩) hS (fun q _ h => pu_fr hS hA q h) (pu_fr hS hA) (fun r_7 u t H1 locs ht hvm hw hB hz1 hk1 hS => ?_)
  have hP := pu_keep hP hk1
  clear hk1 hz1 ht hvm
  generalize H1 = H at hP hS ⊢
  obtain rfl : r_7 = 97 := hw.2.trans (by decide)
  refine lv_iadd hx hb dX4_code_21 ?_
  refine lv_bipush (v := 97) hx hb dX4_code_22 (by decide) ?_
  refine lv_isub hx hb dX4_code_24 ?_
  refine lv_iconst (v := 1) hx hb dX4_code_25 (by decide) ?_
  refine lv_iadd hx hb dX4_code_26 ?_
  refine lv_istore_n (lv' := [(1, .int (((((((((((0 + 115) - 97) + 1) * 32) + 116) - 97) + 1) * 32) + 97) - 97) + 1)), (2, .int 2), (0, .ref (adK 4))]) hx hb dX4_code_27 rfl hl (by decide) rfl (fun ls hl => ?_)
  refine lv_iinc (v := 3) (lv' := [(2, .int 3), (1, .int (((((((((((0 + 115) - 97) + 1) * 32) + 116) - 97) + 1) * 32) + 97) - 97) + 1)), (0, .ref (adK 4))]) hx hb dX4_code_28 hl (k := 1) rfl (by decide) (by decide) rfl (fun ls hl => ?_)
  refine lv_goto (tgt := 4) hx hb dX4_code_31 (by decide) ?_
  refine lv_iload_n hx hb dX4_code_4 rfl (lv_at hl 0 rfl) ?_
  refine lv_aload_n hx hb dX4_code_5 rfl (lv_at hl 2 rfl) ?_
  refine va_calli (va_runV (As := []) (rest := [.int 3]) ⟨hx, hb, hml, hown, hts⟩ (c_J0_length l dC dI _ adK adV fz 4 (by decide)) (cwV 0 hts g_X4_code_4_J0_length rfl rfl rfl (by decide +kernel) ⟨Nat.le_of_ble_eq_true rfl, Nat.le_of_ble_eq_true rfl⟩) ⟨pu_blx, vk_recv (i := 4) hE.2.1 (by decide) hS, pu_inx hP hK hD hE hS (pu_fr hS hA)⟩ rfl rfl hl.1 rfl (lv_room (Nat.le_of_ble_eq_true rfl)) dX4_code_6 ⟨Nat.le_of_ble_eq_true rfl, Nat.le_of_ble_eq_true rfl⟩) hS (fun q _ h => pu_fr hS hA q h) (pu_fr hS hA) (fun r_8 u t H1 locs ht hvm hw hB hz1 hk1 hS => ?_)
  have hP := pu_keep hP hk1
  clear hk1 hz1 ht hvm
  generalize H1 = H at hP hS ⊢
  obtain rfl : r_8 = 5 := hw.trans (by decide)
  refine lv_icmp_ge (tgt := 34) hx hb dX4_code_9 (by decide) (fun z => absurd z (by decide)) (fun _ => ?_)
  refine lv_iload_n hx hb dX4_code_12 rfl (lv_at hl 1 rfl) ?_
  refine lv_bipush (v := 32) hx hb dX4_code_13 (by decide) ?_
  refine lv_imul hx hb dX4_code_15 ?_
  refine lv_aload_n hx hb dX4_code_16 rfl (lv_at hl 2 rfl) ?_
  refine lv_iload_n hx hb dX4_code_17 rfl (lv_at hl 0 rfl) ?_
  refine va_calli (va_runV (As := [.int 3]) (rest := [.int ((((((((((((0 + 115) - 97) + 1) * 32) + 116) - 97) + 1) * 32) + 97) - 97) + 1) * 32)]) ⟨hx, hb, hml, hown, hts⟩ (c_J0_charAt l dC dI _ adK adV fz 4 (by decide) 3 (show ¬ (_ ∨ _) by decide)) (cwV 1 hts g_X4_code_4_J0_charAt rfl rfl rfl (by decide +kernel) ⟨Nat.le_of_ble_eq_true rfl, Nat.le_of_ble_eq_true rfl⟩) ⟨pu_blx, vk_recv (i := 4) hE.2.1 (by decide) hS, pu_inx hP hK hD hE hS (pu_fr hS hA)⟩ rfl rfl hl.1 rfl (lv_room (Nat.le_of_ble_eq_true rfl)) dX4_code_18 ⟨Nat.le_of_ble_eq_true rfl, Nat.le_of_ble_eq_true rfl⟩) hS (fun q _ h => pu_fr hS hA q h) (pu_fr hS hA) (fun r_9 u t H1 locs ht hvm hw hB hz1 hk1 hS => ?_)
  have hP := pu_keep hP hk1
  clear hk1 hz1 ht hvm
  generalize H1 = H at hP hS ⊢
  obtain rfl : r_9 = 114 := hw.2.trans (by decide)
  refine lv_iadd hx hb dX4_code_21 ?_
  refine lv_bipush (v := 97) hx hb dX4_code_22 (by decide) ?_
  refine lv_isub hx hb dX4_code_24 ?_
  refine lv_iconst (v := 1) hx hb dX4_code_25 (by decide) ?_
  refine lv_iadd hx hb dX4_code_26 ?_
  refine lv_istore_n (lv' := [(1, .int (((((((((((((((0 + 115) - 97) + 1) * 32) + 116) - 97) + 1) * 32) + 97) - 97) + 1) * 32) + 114) - 97) + 1)), (2, .int 3), (0, .ref (adK 4))]) hx hb dX4_code_27 rfl hl (by decide) rfl (fun ls hl => ?_)
  refine lv_iinc (v := 4) (lv' := [(2, .int 4), (1, .int (((((((((((((((0 + 115) - 97) + 1) * 32) + 116) - 97) + 1) * 32) + 97) - 97) + 1) * 32) + 114) - 97) + 1)), (0, .ref (adK 4))]) hx hb dX4_code_28 hl (k := 1) rfl (by decide) (by decide) rfl (fun ls hl => ?_)
  refine lv_goto (tgt := 4) hx hb dX4_code_31 (by decide) ?_
  refine lv_iload_n hx hb dX4_code_4 rfl (lv_at hl 0 rfl) ?_
  refine lv_aload_n hx hb dX4_code_5 rfl (lv_at hl 2 rfl) ?_
  refine va_calli (va_runV (As := []) (rest := [.int 4]) ⟨hx, hb, hml, hown, hts⟩ (c_J0_length l dC dI _ adK adV fz 4 (by decide)) (cwV 0 hts g_X4_code_4_J0_length rfl rfl rfl (by decide +kernel) ⟨Nat.le_of_ble_eq_true rfl, Nat.le_of_ble_eq_true rfl⟩) ⟨pu_blx, vk_recv (i := 4) hE.2.1 (by decide) hS, pu_inx hP hK hD hE hS (pu_fr hS hA)⟩ rfl rfl hl.1 rfl (lv_room (Nat.le_of_ble_eq_true rfl)) dX4_code_6 ⟨Nat.le_of_ble_eq_true rfl, Nat.le_of_ble_eq_true rfl⟩) hS (fun q _ h => pu_fr hS hA q h) (pu_fr hS hA) (fun r_10 u t H1 locs ht hvm hw hB hz1 hk1 hS => ?_)
  have hP := pu_keep hP hk1
  clear hk1 hz1 ht hvm
  generalize H1 = H at hP hS ⊢
  obtain rfl : r_10 = 5 := hw.trans (by decide)
  refine lv_icmp_ge (tgt := 34) hx hb dX4_code_9 (by decide) (fun z => absurd z (by decide)) (fun _ => ?_)
  refine lv_iload_n hx hb dX4_code_12 rfl (lv_at hl 1 rfl) ?_
  refine lv_bipush (v := 32) hx hb dX4_code_13 (by decide) ?_
  refine lv_imul hx hb dX4_code_15 ?_
  refine lv_aload_n hx hb dX4_code_16 rfl (lv_at hl 2 rfl) ?_
  refine lv_iload_n hx hb dX4_code_17 rfl (lv_at hl 0 rfl) ?_
  refine va_calli (va_runV (As := [.int 4]) (rest := [.int ((((((((((((((((0 + 115) - 97) + 1) * 32) + 116) - 97) + 1) * 32) + 97) - 97) + 1) * 32) + 114) - 97) + 1) * 32)]) ⟨hx, hb, hml, hown, hts⟩ (c_J0_charAt l dC dI _ adK adV fz 4 (by decide) 4 (show ¬ (_ ∨ _) by decide)) (cwV 1 hts g_X4_code_4_J0_charAt rfl rfl rfl (by decide +kernel) ⟨Nat.le_of_ble_eq_true rfl, Nat.le_of_ble_eq_true rfl⟩) ⟨pu_blx, vk_recv (i := 4) hE.2.1 (by decide) hS, pu_inx hP hK hD hE hS (pu_fr hS hA)⟩ rfl rfl hl.1 rfl (lv_room (Nat.le_of_ble_eq_true rfl)) dX4_code_18 ⟨Nat.le_of_ble_eq_true rfl, Nat.le_of_ble_eq_true rfl⟩) hS (fun q _ h => pu_fr hS hA q h) (pu_fr hS hA) (fun r_11 u t H1 locs ht hvm hw hB hz1 hk1 hS => ?_)
  have hP := pu_keep hP hk1
  clear hk1 hz1 ht hvm
  generalize H1 = H at hP hS ⊢
  obtain rfl : r_11 = 116 := hw.2.trans (by decide)
  refine lv_iadd hx hb dX4_code_21 ?_
  refine lv_bipush (v := 97) hx hb dX4_code_22 (by decide) ?_
  refine lv_isub hx hb dX4_code_24 ?_
  refine lv_iconst (v := 1) hx hb dX4_code_25 (by decide) ?_
  refine lv_iadd hx hb dX4_code_26 ?_
  refine lv_istore_n (lv' := [(1, .int (((((((((((((((((((0 + 115) - 97) + 1) * 32) + 116) - 97) + 1) * 32) + 97) - 97) + 1) * 32) + 114) - 97) + 1) * 32) + 116) - 97) + 1)), (2, .int 4), (0, .ref (adK 4))]) hx hb dX4_code_27 rfl hl (by decide) rfl (fun ls hl => ?_)
  refine lv_iinc (v := 5) (lv' := [(2, .int 5), (1, .int (((((((((((((((((((0 + 115) - 97) + 1) * 32) + 116) - 97) + 1) * 32) + 97) - 97) + 1) * 32) + 114) - 97) + 1) * 32) + 116) - 97) + 1)), (0, .ref (adK 4))]) hx hb dX4_code_28 hl (k := 1) rfl (by decide) (by decide) rfl (fun ls hl => ?_)
  refine lv_goto (tgt := 4) hx hb dX4_code_31 (by decide) ?_
  refine lv_iload_n hx hb dX4_code_4 rfl (lv_at hl 0 rfl) ?_
  refine lv_aload_n hx hb dX4_code_5 rfl (lv_at hl 2 rfl) ?_
  refine va_calli (va_runV (As := []) (rest := [.int 5]) ⟨hx, hb, hml, hown, hts⟩ (c_J0_length l dC dI _ adK adV fz 4 (by decide)) (cwV 0 hts g_X4_code_4_J0_length rfl rfl rfl (by decide +kernel) ⟨Nat.le_of_ble_eq_true rfl, Nat.le_of_ble_eq_true rfl⟩) ⟨pu_blx, vk_recv (i := 4) hE.2.1 (by decide) hS, pu_inx hP hK hD hE hS (pu_fr hS hA)⟩ rfl rfl hl.1 rfl (lv_room (Nat.le_of_ble_eq_true rfl)) dX4_code_6 ⟨Nat.le_of_ble_eq_true rfl, Nat.le_of_ble_eq_true rfl⟩) hS (fun q _ h => pu_fr hS hA q h) (pu_fr hS hA) (fun r_12 u t H1 locs ht hvm hw hB hz1 hk1 hS => ?_)
  have hP := pu_keep hP hk1
  clear hk1 hz1 ht hvm
  generalize H1 = H at hP hS ⊢
  obtain rfl : r_12 = 5 := hw.trans (by decide)
  refine lv_icmp_ge (tgt := 34) hx hb dX4_code_9 (by decide) (fun _ => ?_) (fun z => absurd z (by decide))
  refine lv_iload_n hx hb dX4_code_34 rfl (lv_at hl 1 rfl) ?_
  exact W.iret (v := (((((((((((((((((((0 + 115) - 97) + 1) * 32) + 116) - 97) + 1) * 32) + 97) - 97) + 1) * 32) + 114) - 97) + 1) * 32) + 116) - 97) + 1)) hx hb hr (fun t ht hW => ⟨⟨(((((((((((((((((((0 + 115) - 97) + 1) * 32) + 116) - 97) + 1) * 32) + 97) - 97) + 1) * 32) + 114) - 97) + 1) * 32) + 116) - 97) + 1), (), rfl, (by decide), trivial⟩, hS.F ht⟩) hS.2.2 dX4_code_35
def vs_X4_code_5 : List Cond := .code yX4_code cX4_code 3 (some .int) :: ([.methodLink RX4 45 yJ0_length_8abf5, .instanceMethod yJ0_length_8abf5, .selects RJ0 yJ0_length_8abf5 yJ0_length_8abf5, .initialized RJ0, .code yJ0_length_8abf5 cJ0_length_8abf5 1 (some .int), .fieldLink RJ0 9 "java/lang/String" "value" "[B", .methodLink RJ0 335 yJ0_coder_7d493, .instanceMethod yJ0_coder_7d493, .selects RJ0 yJ0_coder_7d493 yJ0_coder_7d493, .code yJ0_coder_7d493 cJ0_coder_7d493 1 (some .byte), .fieldLink RJ0 38 "java/lang/String" "COMPACT_STRINGS" "Z", .fieldLink RJ0 15 "java/lang/String" "coder" "B", .methodLink RX4 51 yJ0_charAt_5068e, .instanceMethod yJ0_charAt_5068e, .selects RJ0 yJ0_charAt_5068e yJ0_charAt_5068e, .code yJ0_charAt_5068e cJ0_charAt_5068e 2 (some .char), .methodLink RJ0 492 yJ0_isLatin1_aae02, .instanceMethod yJ0_isLatin1_aae02, .selects RJ0 yJ0_isLatin1_aae02 yJ0_isLatin1_aae02, .code yJ0_isLatin1_aae02 cJ0_isLatin1_aae02 1 (some .boolean), .methodLink RJ0 495 yJ1_charAt_3b067, .static yJ1_charAt_3b067, .initialized RJ1, .code yJ1_charAt_3b067 cJ1_charAt_3b067 2 (some .char), .methodLink RJ1 9 yJ0_checkIndex_df160, .static yJ0_checkIndex_df160, .code yJ0_checkIndex_df160 cJ0_checkIndex_df160 2 none, .fieldLink RJ0 1053 "jdk/internal/util/Preconditions" "SIOOBE_FORMATTER" "Ljava/util/function/BiFunction;", .methodLink RJ0 1059 yJ3_checkIndex_8e157, .static yJ3_checkIndex_8e157, .initialized RJ3, .code yJ3_checkIndex_8e157 cJ3_checkIndex_8e157 3 (some .int)])
theorem g_X4_code_5_J0_length : GoodIn vs_X4_code_5 (wsV RX4 45 RJ0 yJ0_length_8abf5 vs_J0_length) := goodIn_r _ [1, 2, 3, 4, 5, 6, 7, 8, 9, 4, 10, 11, 12] (by decide +kernel) (by decide +kernel)
theorem g_X4_code_5_J0_charAt : GoodIn vs_X4_code_5 (wsV RX4 51 RJ0 yJ0_charAt_5068e vs_J0_charAt) := goodIn_r _ [13, 14, 15, 4, 16, 17, 18, 19, 4, 20, 11, 12, 6, 21, 22, 23, 24, 25, 26, 27, 28, 29, 30, 31, 32] (by decide +kernel) (by decide +kernel)
set_option maxHeartbeats 4000000 in
set_option maxRecDepth 100000 in
theorem c_X4_code_5 (l : Launch) (dC : Nat → ClassId) (dI : Nat → Nat → Nat) (sz : Nat) (adK adV : Nat → Nat) (fz : Option Nat) : Met l yX4_code vs_X4_code_5 ({ frames := 4, cells := 0, slots := 0, locals := 85 }) (va_Pc [.ref (adK 5)] (pu_X adK adV fz (dC, dI) [] [] sz)) (va_Qi (fun (r : Int32) (_ : Unit) => r = 168165) (fun _ _ => True) (va_A [] sz)) 0 0 (va_A [] sz) := by
  refine Met.ofW (cc := cX4_code) (maxL := 3) (ret := (some .int)) (by decide) rfl ?_
  intro p e s m args below meth c s₁ B hml hv
  obtain ⟨rfl, ⟨rfl, hP, hK, hD0⟩, hE⟩ := hv
  have hx := B.exec
  have hb := B.bytes
  have hr := B.returns
  have hts := atoms_spec (ws := vs_X4_code_5) B.pre
  have hown : s.vm.findClass RX4 = some m.cls := findClass_of_methodNamed B.named
  have hlocks := B.notSynchronized
  have hD := hD0
  have hA : ∀ q : Nat, s.heap.size ≤ q → va_A [] s.heap.size q := fun _ h => Or.inr h
  have hS : va_S (va_A [] s.heap.size) s.heap s.heap [] := va_S.rf
  have hE : sx_E adK adV fz (va_A [] s.heap.size) s s.heap := hE
  have hl := lv_entry ([.ref (adK 5)]) (n := 3) (Nat.le_of_ble_eq_true rfl)
  rw [lg_entry_eq]
  generalize (lg_sl ([.ref (adK 5)]) ++ List.replicate (3 - (lg_sl ([.ref (adK 5)])).length) Slot.unset).toArray = ls at hl ⊢
  have hl : lv_has ls 3 [(0, .ref (adK 5))] := hl
  refine lv_iconst (v := 0) hx hb dX4_code_0 (by decide) ?_
  refine lv_istore_n (lv' := [(1, .int 0), (0, .ref (adK 5))]) hx hb dX4_code_1 rfl hl (by decide) rfl (fun ls hl => ?_)
  refine lv_iconst (v := 0) hx hb dX4_code_2 (by decide) ?_
  refine lv_istore_n (lv' := [(2, .int 0), (1, .int 0), (0, .ref (adK 5))]) hx hb dX4_code_3 rfl hl (by decide) rfl (fun ls hl => ?_)
  refine lv_iload_n hx hb dX4_code_4 rfl (lv_at hl 0 rfl) ?_
  refine lv_aload_n hx hb dX4_code_5 rfl (lv_at hl 2 rfl) ?_
  refine va_calli (va_runV (As := []) (rest := [.int 0]) ⟨hx, hb, hml, hown, hts⟩ (c_J0_length l dC dI _ adK adV fz 5 (by decide)) (cwV 0 hts g_X4_code_5_J0_length rfl rfl rfl (by decide +kernel) ⟨Nat.le_of_ble_eq_true rfl, Nat.le_of_ble_eq_true rfl⟩) ⟨pu_blx, vk_recv (i := 5) hE.2.1 (by decide) hS, pu_inx hP hK hD hE hS (pu_fr hS hA)⟩ rfl rfl hl.1 rfl (lv_room (Nat.le_of_ble_eq_true rfl)) dX4_code_6 ⟨Nat.le_of_ble_eq_true rfl, Nat.le_of_ble_eq_true rfl⟩) hS (fun q _ h => pu_fr hS hA q h) (pu_fr hS hA) (fun r_1 u t H1 locs ht hvm hw hB hz1 hk1 hS => ?_)
  have hP := pu_keep hP hk1
  clear hk1 hz1 ht hvm
  generalize H1 = H at hP hS ⊢
  obtain rfl : r_1 = 4 := hw.trans (by decide)
  refine lv_icmp_ge (tgt := 34) hx hb dX4_code_9 (by decide) (fun z => absurd z (by decide)) (fun _ => ?_)
  refine lv_iload_n hx hb dX4_code_12 rfl (lv_at hl 1 rfl) ?_
  refine lv_bipush (v := 32) hx hb dX4_code_13 (by decide) ?_
  refine lv_imul hx hb dX4_code_15 ?_
  refine lv_topi (fun y_2 ey_2 => ?_)
  obtain rfl : y_2 = 0 := ey_2.trans (by decide)
  refine lv_aload_n hx hb dX4_code_16 rfl (lv_at hl 2 rfl) ?_
  refine lv_iload_n hx hb dX4_code_17 rfl (lv_at hl 0 rfl) ?_
  refine va_calli (va_runV (As := [.int 0]) (rest := [.int 0]) ⟨hx, hb, hml, hown, hts⟩ (c_J0_charAt l dC dI _ adK adV fz 5 (by decide) 0 (show ¬ (_ ∨ _) by decide)) (cwV 1 hts g_X4_code_5_J0_charAt rfl rfl rfl (by decide +kernel) ⟨Nat.le_of_ble_eq_true rfl, Nat.le_of_ble_eq_true rfl⟩) ⟨pu_blx, vk_recv (i := 5) hE.2.1 (by decide) hS, pu_inx hP hK hD hE hS (pu_fr hS hA)⟩ rfl rfl hl.1 rfl (lv_room (Nat.le_of_ble_eq_true rfl)) dX4_code_18 ⟨Nat.le_of_ble_eq_true rfl, Nat.le_of_ble_eq_true rfl⟩) hS (fun q _ h => pu_fr hS hA q h) (pu_fr hS hA) (fun r_3 u t H1 locs ht hvm hw hB hz1 hk1 hS => ?_)
  have hP := pu_keep hP hk1
  clear hk1 hz1 ht hvm
  generalize H1 = H at hP hS ⊢
  obtain rfl : r_3 = 101 := hw.2.trans (by decide)
  refine lv_iadd hx hb dX4_code_21 ?_
  refine lv_bipush (v := 97) hx hb dX4_code_22 (by decide) ?_
  refine lv_isub hx hb dX4_code_24 ?_
  refine lv_iconst (v := 1) hx hb dX4_code_25 (by decide) ?_
  refine lv_iadd hx hb dX4_code_26 ?_
  refine lv_istore_n (lv' := [(1, .int (((0 + 101) - 97) + 1)), (2, .int 0), (0, .ref (adK 5))]) hx hb dX4_code_27 rfl hl (by decide) rfl (fun ls hl => ?_)
  refine lv_iinc (v := 1) (lv' := [(2, .int 1), (1, .int (((0 + 101) - 97) + 1)), (0, .ref (adK 5))]) hx hb dX4_code_28 hl (k := 1) rfl (by decide) (by decide) rfl (fun ls hl => ?_)
  refine lv_goto (tgt := 4) hx hb dX4_code_31 (by decide) ?_
  refine lv_iload_n hx hb dX4_code_4 rfl (lv_at hl 0 rfl) ?_
  refine lv_aload_n hx hb dX4_code_5 rfl (lv_at hl 2 rfl) ?_
  refine va_calli (va_runV (As := []) (rest := [.int 1]) ⟨hx, hb, hml, hown, hts⟩ (c_J0_length l dC dI _ adK adV fz 5 (by decide)) (cwV 0 hts g_X4_code_5_J0_length rfl rfl rfl (by decide +kernel) ⟨Nat.le_of_ble_eq_true rfl, Nat.le_of_ble_eq_true rfl⟩) ⟨pu_blx, vk_recv (i := 5) hE.2.1 (by decide) hS, pu_inx hP hK hD hE hS (pu_fr hS hA)⟩ rfl rfl hl.1 rfl (lv_room (Nat.le_of_ble_eq_true rfl)) dX4_code_6 ⟨Nat.le_of_ble_eq_true rfl, Nat.le_of_ble_eq_true rfl⟩) hS (fun q _ h => pu_fr hS hA q h) (pu_fr hS hA) (fun r_4 u t H1 locs ht hvm hw hB hz1 hk1 hS => ?_)
  have hP := pu_keep hP hk1
  clear hk1 hz1 ht hvm
  generalize H1 = H at hP hS ⊢
  obtain rfl : r_4 = 4 := hw.trans (by decide)
  refine lv_icmp_ge (tgt := 34) hx hb dX4_code_9 (by decide) (fun z => absurd z (by decide)) (fun _ => ?_)
  refine lv_iload_n hx hb dX4_code_12 rfl (lv_at hl 1 rfl) ?_
  refine lv_bipush (v := 32) hx hb dX4_code_13 (by decide) ?_
  refine lv_imul hx hb dX4_code_15 ?_
  refine lv_aload_n hx hb dX4_code_16 rfl (lv_at hl 2 rfl) ?_
  refine lv_iload_n hx hb dX4_code_17 rfl (lv_at hl 0 rfl) ?_
  refine va_calli (va_runV (As := [.int 1]) (rest := [.int ((((0 + 101) - 97) + 1) * 32)]) ⟨hx, hb, hml, hown, hts⟩ (c_J0_charAt l dC dI _ adK adV fz 5 (by decide) 1 (show ¬ (_ ∨ _) by decide)) (cwV 1 hts g_X4_code_5_J0_charAt rfl rfl rfl (by decide +kernel) ⟨Nat.le_of_ble_eq_true rfl, Nat.le_of_ble_eq_true rfl⟩) ⟨pu_blx, vk_recv (i := 5) hE.2.1 (by decide) hS, pu_inx hP hK hD hE hS (pu_fr hS hA)⟩ rfl rfl hl.1 rfl (lv_room (Nat.le_of_ble_eq_true rfl)) dX4_code_18 ⟨Nat.le_of_ble_eq_true rfl, Nat.le_of_ble_eq_true rfl⟩) hS (fun q _ h => pu_fr hS hA q h) (pu_fr hS hA) (fun r_5 u t H1 locs ht hvm hw hB hz1 hk1 hS => ?_)
  have hP := pu_keep hP hk1
  clear hk1 hz1 ht hvm
  generalize H1 = H at hP hS ⊢
  obtain rfl : r_5 = 100 := hw.2.trans (by decide)
  refine lv_iadd hx hb dX4_code_21 ?_
  refine lv_bipush (v := 97) hx hb dX4_code_22 (by decide) ?_
  refine lv_isub hx hb dX4_code_24 ?_
  refine lv_iconst (v := 1) hx hb dX4_code_25 (by decide) ?_
  refine lv_iadd hx hb dX4_code_26 ?_
  refine lv_istore_n (lv' := [(1, .int (((((((0 + 101) - 97) + 1) * 32) + 100) - 97) + 1)), (2, .int 1), (0, .ref (adK 5))]) hx hb dX4_code_27 rfl hl (by decide) rfl (fun ls hl => ?_)
  refine lv_iinc (v := 2) (lv' := [(2, .int 2), (1, .int (((((((0 + 101) - 97) + 1) * 32) + 100) - 97) + 1)), (0, .ref (adK 5))]) hx hb dX4_code_28 hl (k := 1) rfl (by decide) (by decide) rfl (fun ls hl => ?_)
  refine lv_goto (tgt := 4) hx hb dX4_code_31 (by decide) ?_
  refine lv_iload_n hx hb dX4_code_4 rfl (lv_at hl 0 rfl) ?_
  refine lv_aload_n hx hb dX4_code_5 rfl (lv_at hl 2 rfl) ?_
  refine va_calli (va_runV (As := []) (rest := [.int 2]) ⟨hx, hb, hml, hown, hts⟩ (c_J0_length l dC dI _ adK adV fz 5 (by decide)) (cwV 0 hts g_X4_code_5_J0_length rfl rfl rfl (by decide +kernel) ⟨Nat.le_of_ble_eq_true rfl, Nat.le_of_ble_eq_true rfl⟩) ⟨pu_blx, vk_recv (i := 5) hE.2.1 (by decide) hS, pu_inx hP hK hD hE hS (pu_fr hS hA)⟩ rfl rfl hl.1 rfl (lv_room (Nat.le_of_ble_eq_true rfl)) dX4_code_6 ⟨Nat.le_of_ble_eq_true rfl, Nat.le_of_ble_eq_true rfl⟩) hS (fun q _ h => pu_fr hS hA q h) (pu_fr hS hA) (fun r_6 u t H1 locs ht hvm hw hB hz1 hk1 hS => ?_)
  have hP := pu_keep hP hk1
  clear hk1 hz1 ht hvm
  generalize H1 = H at hP hS ⊢
  obtain rfl : r_6 = 4 := hw.trans (by decide)
  refine lv_icmp_ge (tgt := 34) hx hb dX4_code_9 (by decide) (fun z => absurd z (by decide)) (fun _ => ?_)
  refine lv_iload_n hx hb dX4_code_12 rfl (lv_at hl 1 rfl) ?_
  refine lv_bipush (v := 32) hx hb dX4_code_13 (by decide) ?_
  refine lv_imul hx hb dX4_code_15 ?_
  refine lv_aload_n hx hb dX4_code_16 rfl (lv_at hl 2 rfl) ?_
  refine lv_iload_n hx hb dX4_code_17 rfl (lv_at hl 0 rfl) ?_
  refine va_calli (va_runV (As := [.int 2]) (rest := [.int ((((((((0 + 101) - 97) + 1) * 32) + 100) - 97) + 1) * 32)]) ⟨hx, hb, hml, hown, hts⟩ (c_J0_charAt l dC dI _ adK adV fz 5 (by decide) 2 (show ¬ (_ ∨ _) by decide)) (cwV 1 hts g_X4_code_5_J0_charAt rfl rfl rfl (by decide +kernel) ⟨Nat.le_of_ble_eq_true rfl, Nat.le_of_ble_eq_true rfl⟩) ⟨pu_blx, vk_recv (i := 5) hE.2.1 (by decide) hS, pu_inx hP hK hD hE hS (pu_fr hS hA)⟩ rfl rfl hl.1 rfl (lv_room (Nat.le_of_ble_eq_true rfl)) dX4_code_18 ⟨Nat.le_of_ble_eq_true rfl, Nat.le_of_ble_eq_true rfl⟩) hS (fun q _ h => pu_fr hS hA q h) (pu_fr hS hA) (fun r_7 u t H1 locs ht hvm hw hB hz1 hk1 hS => ?_)
  have hP := pu_keep hP hk1
  clear hk1 hz1 ht hvm
  generalize H1 = H at hP hS ⊢
  obtain rfl : r_7 = 103 := hw.2.trans (by decide)
  refine lv_iadd hx hb dX4_code_21 ?_
  refine lv_bipush (v := 97) hx hb dX4_code_22 (by decide) ?_
  refine lv_isub hx hb dX4_code_24 ?_
  refine lv_iconst (v := 1) hx hb dX4_code_25 (by decide) ?_
  refine lv_iadd hx hb dX4_code_26 ?_
  refine lv_istore_n (lv' := [(1, .int (((((((((((0 + 101) - 97) + 1) * 32) + 100) - 97) + 1) * 32) + 103) - 97) + 1)), (2, .int 2), (0, .ref (adK 5))]) hx hb dX4_code_27 rfl hl (by decide) rfl (fun ls hl => ?_)
  refine lv_iinc (v := 3) (lv' := [(2, .int 3), (1, .int (((((((((((0 + 101) - 97) + 1) * 32) + 100) - 97) + 1) * 32) + 103) - 97) + 1)), (0, .ref (adK 5))]) hx hb dX4_code_28 hl (k := 1) rfl (by decide) (by decide) rfl (fun ls hl => ?_)
  refine lv_goto (tgt := 4) hx hb dX4_code_31 (by decide) ?_
  refine lv_iload_n hx hb dX4_code_4 rfl (lv_at hl 0 rfl) ?_
  refine lv_aload_n hx hb dX4_code_5 rfl (lv_at hl 2 rfl) ?_
  refine va_calli (va_runV (As := []) (rest := [.int 3]) ⟨hx, hb, hml, hown, hts⟩ (c_J0_length l dC dI _ adK adV fz 5 (by decide)) (cwV 0 hts g_X4_code_5_J0_length rfl rfl rfl (by decide +kernel) ⟨Nat.le_of_ble_eq_true rfl, Nat.le_of_ble_eq_true rfl⟩) ⟨pu_blx, vk_recv (i := 5) hE.2.1 (by decide) hS, pu_inx hP hK hD hE hS (pu_fr hS hA)⟩ rfl rfl hl.1 rfl (lv_room (Nat.le_of_ble_eq_true rfl)) dX4_code_6 ⟨Nat.le_of_ble_eq_true rfl, Nat.le_of_ble_eq_true rfl⟩) hS (fun q _ h => pu_fr hS hA q h) (pu_fr hS hA) (fun r_8 u t H1 locs ht hvm hw hB hz1 hk1 hS => ?_)
  have hP := pu_keep hP hk1
  clear hk1 hz1 ht hvm
  generalize H1 = H at hP hS ⊢
  obtain rfl : r_8 = 4 := hw.trans (by decide)
  refine lv_icmp_ge (tgt := 34) hx hb dX4_code_9 (by decide) (fun z => absurd z (by decide)) (fun _ => ?_)
  refine lv_iload_n hx hb dX4_code_12 rfl (lv_at hl 1 rfl) ?_
  refine lv_bipush (v := 32) hx hb dX4_code_13 (by decide) ?_
  refine lv_imul hx hb dX4_code_15 ?_
  refine lv_aload_n hx hb dX4_code_16 rfl (lv_at hl 2 rfl) ?_
  refine lv_iload_n hx hb dX4_code_17 rfl (lv_at hl 0 rfl) ?_
  refine va_calli (va_runV (As := [.int 3]) (rest := [.int ((((((((((((0 + 101) - 97) + 1) * 32) + 100) - 97) + 1) * 32) + 103) - 97) + 1) * 32)]) ⟨hx, hb, hml, hown, hts⟩ (c_J0_charAt l dC dI _ adK adV fz 5 (by decide) 3 (show ¬ (_ ∨ _) by decide)) (cwV 1 hts g_X4_code_5_J0_charAt rfl rfl rfl (by decide +kernel) ⟨Nat.le_of_ble_eq_true rfl, Nat.le_of_ble_eq_true rfl⟩) ⟨pu_blx, vk_recv (i := 5) hE.2.1 (by decide) hS, pu_inx hP hK hD hE hS (pu_fr hS hA)⟩ rfl rfl hl.1 rfl (lv_room (Nat.le_of_ble_eq_true rfl)) dX4_code_18 ⟨Nat.le_of_ble_eq_true rfl, Nat.le_of_ble_eq_true rfl⟩) hS (fun q _ h => pu_fr hS hA q h) (pu_fr hS hA) (fun r_9 u t H1 locs ht hvm hw hB hz1 hk1 hS => ?_)
  have hP := pu_keep hP hk1
  clear hk1 hz1 ht hvm
  generalize H1 = H at hP hS ⊢
  obtain rfl : r_9 = 101 := hw.2.trans (by decide)
  refine lv_iadd hx hb dX4_code_21 ?_
  refine lv_bipush (v := 97) hx hb dX4_code_22 (by decide) ?_
  refine lv_isub hx hb dX4_code_24 ?_
  refine lv_iconst (v := 1) hx hb dX4_code_25 (by decide) ?_
  refine lv_iadd hx hb dX4_code_26 ?_
  refine lv_istore_n (lv' := [(1, .int (((((((((((((((0 + 101) - 97) + 1) * 32) + 100) - 97) + 1) * 32) + 103) - 97) + 1) * 32) + 101) - 97) + 1)), (2, .int 3), (0, .ref (adK 5))]) hx hb dX4_code_27 rfl hl (by decide) rfl (fun ls hl => ?_)
  refine lv_iinc (v := 4) (lv' := [(2, .int 4), (1, .int (((((((((((((((0 + 101) - 97) + 1) * 32) + 100) - 97) + 1) * 32) + 103) - 97) + 1) * 32) + 101) - 97) + 1)), (0, .ref (adK 5))]) hx hb dX4_code_28 hl (k := 1) rfl (by decide) (by decide) rfl (fun ls hl => ?_)
  refine lv_goto (tgt := 4) hx hb dX4_code_31 (by decide) ?_
  refine lv_iload_n hx hb dX4_code_4 rfl (lv_at hl 0 rfl) ?_
  refine lv_aload_n hx hb dX4_code_5 rfl (lv_at hl 2 rfl) ?_
  refine va_calli (va_runV (As := []) (rest := [.int 4]) ⟨hx, hb, hml, hown, hts⟩ (c_J0_length l dC dI _ adK adV fz 5 (by decide)) (cwV 0 hts g_X4_code_5_J0_length rfl rfl rfl (by decide +kernel) ⟨Nat.le_of_ble_eq_true rfl, Nat.le_of_ble_eq_true rfl⟩) ⟨pu_blx, vk_recv (i := 5) hE.2.1 (by decide) hS, pu_inx hP hK hD hE hS (pu_fr hS hA)⟩ rfl rfl hl.1 rfl (lv_room (Nat.le_of_ble_eq_true rfl)) dX4_code_6 ⟨Nat.le_of_ble_eq_true rfl, Nat.le_of_ble_eq_true rfl⟩) hS (fun q _ h => pu_fr hS hA q h) (pu_fr hS hA) (fun r_10 u t H1 locs ht hvm hw hB hz1 hk1 hS => ?_)
  have hP := pu_keep hP hk1
  clear hk1 hz1 ht hvm
  generalize H1 = H at hP hS ⊢
  obtain rfl : r_10 = 4 := hw.trans (by decide)
  refine lv_icmp_ge (tgt := 34) hx hb dX4_code_9 (by decide) (fun _ => ?_) (fun z => absurd z (by decide))
  refine lv_iload_n hx hb dX4_code_34 rfl (lv_at hl 1 rfl) ?_
  exact W.iret (v := (((((((((((((((0 + 101) - 97) + 1) * 32) + 100) - 97) + 1) * 32) + 103) - 97) + 1) * 32) + 101) - 97) + 1)) hx hb hr (fun t ht hW => ⟨⟨(((((((((((((((0 + 101) - 97) + 1) * 32) + 100) - 97) + 1) * 32) + 103) - 97) + 1) * 32) + 101) - 97) + 1), (), rfl, (by decide), trivial⟩, hS.F ht⟩) hS.2.2 dX4_code_35
def vs_X4_code_6 : List Cond := .code yX4_code cX4_code 3 (some .int) :: ([.methodLink RX4 45 yJ0_length_8abf5, .instanceMethod yJ0_length_8abf5, .selects RJ0 yJ0_length_8abf5 yJ0_length_8abf5, .initialized RJ0, .code yJ0_length_8abf5 cJ0_length_8abf5 1 (some .int), .fieldLink RJ0 9 "java/lang/String" "value" "[B", .methodLink RJ0 335 yJ0_coder_7d493, .instanceMethod yJ0_coder_7d493, .selects RJ0 yJ0_coder_7d493 yJ0_coder_7d493, .code yJ0_coder_7d493 cJ0_coder_7d493 1 (some .byte), .fieldLink RJ0 38 "java/lang/String" "COMPACT_STRINGS" "Z", .fieldLink RJ0 15 "java/lang/String" "coder" "B", .methodLink RX4 51 yJ0_charAt_5068e, .instanceMethod yJ0_charAt_5068e, .selects RJ0 yJ0_charAt_5068e yJ0_charAt_5068e, .code yJ0_charAt_5068e cJ0_charAt_5068e 2 (some .char), .methodLink RJ0 492 yJ0_isLatin1_aae02, .instanceMethod yJ0_isLatin1_aae02, .selects RJ0 yJ0_isLatin1_aae02 yJ0_isLatin1_aae02, .code yJ0_isLatin1_aae02 cJ0_isLatin1_aae02 1 (some .boolean), .methodLink RJ0 495 yJ1_charAt_3b067, .static yJ1_charAt_3b067, .initialized RJ1, .code yJ1_charAt_3b067 cJ1_charAt_3b067 2 (some .char), .methodLink RJ1 9 yJ0_checkIndex_df160, .static yJ0_checkIndex_df160, .code yJ0_checkIndex_df160 cJ0_checkIndex_df160 2 none, .fieldLink RJ0 1053 "jdk/internal/util/Preconditions" "SIOOBE_FORMATTER" "Ljava/util/function/BiFunction;", .methodLink RJ0 1059 yJ3_checkIndex_8e157, .static yJ3_checkIndex_8e157, .initialized RJ3, .code yJ3_checkIndex_8e157 cJ3_checkIndex_8e157 3 (some .int)])
theorem g_X4_code_6_J0_length : GoodIn vs_X4_code_6 (wsV RX4 45 RJ0 yJ0_length_8abf5 vs_J0_length) := goodIn_r _ [1, 2, 3, 4, 5, 6, 7, 8, 9, 4, 10, 11, 12] (by decide +kernel) (by decide +kernel)
theorem g_X4_code_6_J0_charAt : GoodIn vs_X4_code_6 (wsV RX4 51 RJ0 yJ0_charAt_5068e vs_J0_charAt) := goodIn_r _ [13, 14, 15, 4, 16, 17, 18, 19, 4, 20, 11, 12, 6, 21, 22, 23, 24, 25, 26, 27, 28, 29, 30, 31, 32] (by decide +kernel) (by decide +kernel)
set_option maxHeartbeats 4000000 in
set_option maxRecDepth 100000 in
theorem c_X4_code_6 (l : Launch) (dC : Nat → ClassId) (dI : Nat → Nat → Nat) (sz : Nat) (adK adV : Nat → Nat) (fz : Option Nat) : Met l yX4_code vs_X4_code_6 ({ frames := 4, cells := 0, slots := 0, locals := 85 }) (va_Pc [.ref (adK 6)] (pu_X adK adV fz (dC, dI) [] [] sz)) (va_Qi (fun (r : Int32) (_ : Unit) => r = 762030) (fun _ _ => True) (va_A [] sz)) 0 0 (va_A [] sz) := by
  refine Met.ofW (cc := cX4_code) (maxL := 3) (ret := (some .int)) (by decide) rfl ?_
  intro p e s m args below meth c s₁ B hml hv
  obtain ⟨rfl, ⟨rfl, hP, hK, hD0⟩, hE⟩ := hv
  have hx := B.exec
  have hb := B.bytes
  have hr := B.returns
  have hts := atoms_spec (ws := vs_X4_code_6) B.pre
  have hown : s.vm.findClass RX4 = some m.cls := findClass_of_methodNamed B.named
  have hlocks := B.notSynchronized
  have hD := hD0
  have hA : ∀ q : Nat, s.heap.size ≤ q → va_A [] s.heap.size q := fun _ h => Or.inr h
  have hS : va_S (va_A [] s.heap.size) s.heap s.heap [] := va_S.rf
  have hE : sx_E adK adV fz (va_A [] s.heap.size) s s.heap := hE
  have hl := lv_entry ([.ref (adK 6)]) (n := 3) (Nat.le_of_ble_eq_true rfl)
  rw [lg_entry_eq]
  generalize (lg_sl ([.ref (adK 6)]) ++ List.replicate (3 - (lg_sl ([.ref (adK 6)])).length) Slot.unset).toArray = ls at hl ⊢
  have hl : lv_has ls 3 [(0, .ref (adK 6))] := hl
  refine lv_iconst (v := 0) hx hb dX4_code_0 (by decide) ?_
  refine lv_istore_n (lv' := [(1, .int 0), (0, .ref (adK 6))]) hx hb dX4_code_1 rfl hl (by decide) rfl (fun ls hl => ?_)
  refine lv_iconst (v := 0) hx hb dX4_code_2 (by decide) ?_
  refine lv_istore_n (lv' := [(2, .int 0), (1, .int 0), (0, .ref (adK 6))]) hx hb dX4_code_3 rfl hl (by decide) rfl (fun ls hl => ?_)
  refine lv_iload_n hx hb dX4_code_4 rfl (lv_at hl 0 rfl) ?_
  refine lv_aload_n hx hb dX4_code_5 rfl (lv_at hl 2 rfl) ?_
  refine va_calli (va_runV (As := []) (rest := [.int 0]) ⟨hx, hb, hml, hown, hts⟩ (c_J0_length l dC dI _ adK adV fz 6 (by decide)) (cwV 0 hts g_X4_code_6_J0_length rfl rfl rfl (by decide +kernel) ⟨Nat.le_of_ble_eq_true rfl, Nat.le_of_ble_eq_true rfl⟩) ⟨pu_blx, vk_recv (i := 6) hE.2.1 (by decide) hS, pu_inx hP hK hD hE hS (pu_fr hS hA)⟩ rfl rfl hl.1 rfl (lv_room (Nat.le_of_ble_eq_true rfl)) dX4_code_6 ⟨Nat.le_of_ble_eq_true rfl, Nat.le_of_ble_eq_true rfl⟩) hS (fun q _ h => pu_fr hS hA q h) (pu_fr hS hA) (fun r_1 u t H1 locs ht hvm hw hB hz1 hk1 hS => ?_)
  have hP := pu_keep hP hk1
  clear hk1 hz1 ht hvm
  generalize H1 = H at hP hS ⊢
  obtain rfl : r_1 = 4 := hw.trans (by decide)
  refine lv_icmp_ge (tgt := 34) hx hb dX4_code_9 (by decide) (fun z => absurd z (by decide)) (fun _ => ?_)
  refine lv_iload_n hx hb dX4_code_12 rfl (lv_at hl 1 rfl) ?_
  refine lv_bipush (v := 32) hx hb dX4_code_13 (by decide) ?_
  refine lv_imul hx hb dX4_code_15 ?_
  refine lv_topi (fun y_2 ey_2 => ?_)
  obtain rfl : y_2 = 0 := ey_2.trans (by decide)
  refine lv_aload_n hx hb dX4_code_16 rfl (lv_at hl 2 rfl) ?_
  refine lv_iload_n hx hb dX4_code_17 rfl (lv_at hl 0 rfl) ?_
  refine va_calli (va_runV (As := [.int 0]) (rest := [.int 0]) ⟨hx, hb, hml, hown, hts⟩ (c_J0_charAt l dC dI _ adK adV fz 6 (by decide) 0 (show ¬ (_ ∨ _) by decide)) (cwV 1 hts g_X4_code_6_J0_charAt rfl rfl rfl (by decide +kernel) ⟨Nat.le_of_ble_eq_true rfl, Nat.le_of_ble_eq_true rfl⟩) ⟨pu_blx, vk_recv (i := 6) hE.2.1 (by decide) hS, pu_inx hP hK hD hE hS (pu_fr hS hA)⟩ rfl rfl hl.1 rfl (lv_room (Nat.le_of_ble_eq_true rfl)) dX4_code_18 ⟨Nat.le_of_ble_eq_true rfl, Nat.le_of_ble_eq_true rfl⟩) hS (fun q _ h => pu_fr hS hA q h) (pu_fr hS hA) (fun r_3 u t H1 locs ht hvm hw hB hz1 hk1 hS => ?_)
  have hP := pu_keep hP hk1
  clear hk1 hz1 ht hvm
  generalize H1 = H at hP hS ⊢
  obtain rfl : r_3 = 119 := hw.2.trans (by decide)
  refine lv_iadd hx hb dX4_code_21 ?_
  refine lv_bipush (v := 97) hx hb dX4_code_22 (by decide) ?_
  refine lv_isub hx hb dX4_code_24 ?_
  refine lv_iconst (v := 1) hx hb dX4_code_25 (by decide) ?_
  refine lv_iadd hx hb dX4_code_26 ?_
  refine lv_istore_n (lv' := [(1, .int (((0 + 119) - 97) + 1)), (2, .int 0), (0, .ref (adK 6))]) hx hb dX4_code_27 rfl hl (by decide) rfl (fun ls hl => ?_)
  refine lv_iinc (v := 1) (lv' := [(2, .int 1), (1, .int (((0 + 119) - 97) + 1)), (0, .ref (adK 6))]) hx hb dX4_code_28 hl (k := 1) rfl (by decide) (by decide) rfl (fun ls hl => ?_)
  refine lv_goto (tgt := 4) hx hb dX4_code_31 (by decide) ?_
  refine lv_iload_n hx hb dX4_code_4 rfl (lv_at hl 0 rfl) ?_
  refine lv_aload_n hx hb dX4_code_5 rfl (lv_at hl 2 rfl) ?_
  refine va_calli (va_runV (As := []) (rest := [.int 1]) ⟨hx, hb, hml, hown, hts⟩ (c_J0_length l dC dI _ adK adV fz 6 (by decide)) (cwV 0 hts g_X4_code_6_J0_length rfl rfl rfl (by decide +kernel) ⟨Nat.le_of_ble_eq_true rfl, Nat.le_of_ble_eq_true rfl⟩) ⟨pu_blx, vk_recv (i := 6) hE.2.1 (by decide) hS, pu_inx hP hK hD hE hS (pu_fr hS hA)⟩ rfl rfl hl.1 rfl (lv_room (Nat.le_of_ble_eq_true rfl)) dX4_code_6 ⟨Nat.le_of_ble_eq_true rfl, Nat.le_of_ble_eq_true rfl⟩) hS (fun q _ h => pu_fr hS hA q h) (pu_fr hS hA) (fun r_4 u t H1 locs ht hvm hw hB hz1 hk1 hS => ?_)
  have hP := pu_keep hP hk1
  clear hk1 hz1 ht hvm
  generalize H1 = H at hP hS ⊢
  obtain rfl : r_4 = 4 := hw.trans (by decide)
  refine lv_icmp_ge (tgt := 34) hx hb dX4_code_9 (by decide) (fun z => absurd z (by decide)) (fun _ => ?_)
  refine lv_iload_n hx hb dX4_code_12 rfl (lv_at hl 1 rfl) ?_
  refine lv_bipush (v := 32) hx hb dX4_code_13 (by decide) ?_
  refine lv_imul hx hb dX4_code_15 ?_
  refine lv_aload_n hx hb dX4_code_16 rfl (lv_at hl 2 rfl) ?_
  refine lv_iload_n hx hb dX4_code_17 rfl (lv_at hl 0 rfl) ?_
  refine va_calli (va_runV (As := [.int 1]) (rest := [.int ((((0 + 119) - 97) + 1) * 32)]) ⟨hx, hb, hml, hown, hts⟩ (c_J0_charAt l dC dI _ adK adV fz 6 (by decide) 1 (show ¬ (_ ∨ _) by decide)) (cwV 1 hts g_X4_code_6_J0_charAt rfl rfl rfl (by decide +kernel) ⟨Nat.le_of_ble_eq_true rfl, Nat.le_of_ble_eq_true rfl⟩) ⟨pu_blx, vk_recv (i := 6) hE.2.1 (by decide) hS, pu_inx hP hK hD hE hS (pu_fr hS hA)⟩ rfl rfl hl.1 rfl (lv_room (Nat.le_of_ble_eq_true rfl)) dX4_code_18 ⟨Nat.le_of_ble_eq_true rfl, Nat.le_of_ble_eq_true rfl⟩) hS (fun q _ h => pu_fr hS hA q h) (pu_fr hS hA) (fun r_5 u t H1 locs ht hvm hw hB hz1 hk1 hS => ?_)
  have hP := pu_keep hP hk1
  clear hk1 hz1 ht hvm
  generalize H1 = H at hP hS ⊢
  obtain rfl : r_5 = 104 := hw.2.trans (by decide)
  refine lv_iadd hx hb dX4_code_21 ?_
  refine lv_bipush (v := 97) hx hb dX4_code_22 (by decide) ?_
  refine lv_isub hx hb dX4_code_24 ?_
  refine lv_iconst (v := 1) hx hb dX4_code_25 (by decide) ?_
  refine lv_iadd hx hb dX4_code_26 ?_
  refine lv_istore_n (lv' := [(1, .int (((((((0 + 119) - 97) + 1) * 32) + 104) - 97) + 1)), (2, .int 1), (0, .ref (adK 6))]) hx hb dX4_code_27 rfl hl (by decide) rfl (fun ls hl => ?_)
  refine lv_iinc (v := 2) (lv' := [(2, .int 2), (1, .int (((((((0 + 119) - 97) + 1) * 32) + 104) - 97) + 1)), (0, .ref (adK 6))]) hx hb dX4_code_28 hl (k := 1) rfl (by decide) (by decide) rfl (fun ls hl => ?_)
  refine lv_goto (tgt := 4) hx hb dX4_code_31 (by decide) ?_
  refine lv_iload_n hx hb dX4_code_4 rfl (lv_at hl 0 rfl) ?_
  refine lv_aload_n hx hb dX4_code_5 rfl (lv_at hl 2 rfl) ?_
  refine va_calli (va_runV (As := []) (rest := [.int 2]) ⟨hx, hb, hml, hown, hts⟩ (c_J0_length l dC dI _ adK adV fz 6 (by decide)) (cwV 0 hts g_X4_code_6_J0_length rfl rfl rfl (by decide +kernel) ⟨Nat.le_of_ble_eq_true rfl, Nat.le_of_ble_eq_true rfl⟩) ⟨pu_blx, vk_recv (i := 6) hE.2.1 (by decide) hS, pu_inx hP hK hD hE hS (pu_fr hS hA)⟩ rfl rfl hl.1 rfl (lv_room (Nat.le_of_ble_eq_true rfl)) dX4_code_6 ⟨Nat.le_of_ble_eq_true rfl, Nat.le_of_ble_eq_true rfl⟩) hS (fun q _ h => pu_fr hS hA q h) (pu_fr hS hA) (fun r_6 u t H1 locs ht hvm hw hB hz1 hk1 hS => ?_)
  have hP := pu_keep hP hk1
  clear hk1 hz1 ht hvm
  generalize H1 = H at hP hS ⊢
  obtain rfl : r_6 = 4 := hw.trans (by decide)
  refine lv_icmp_ge (tgt := 34) hx hb dX4_code_9 (by decide) (fun z => absurd z (by decide)) (fun _ => ?_)
  refine lv_iload_n hx hb dX4_code_12 rfl (lv_at hl 1 rfl) ?_
  refine lv_bipush (v := 32) hx hb dX4_code_13 (by decide) ?_
  refine lv_imul hx hb dX4_code_15 ?_
  refine lv_aload_n hx hb dX4_code_16 rfl (lv_at hl 2 rfl) ?_
  refine lv_iload_n hx hb dX4_code_17 rfl (lv_at hl 0 rfl) ?_
  refine va_calli (va_runV (As := [.int 2]) (rest := [.int ((((((((0 + 119) - 97) + 1) * 32) + 104) - 97) + 1) * 32)]) ⟨hx, hb, hml, hown, hts⟩ (c_J0_charAt l dC dI _ adK adV fz 6 (by decide) 2 (show ¬ (_ ∨ _) by decide)) (cwV 1 hts g_X4_code_6_J0_charAt rfl rfl rfl (by decide +kernel) ⟨Nat.le_of_ble_eq_true rfl, Nat.le_of_ble_eq_true rfl⟩) ⟨pu_blx, vk_recv (i := 6) hE.2.1 (by decide) hS, pu_inx hP hK hD hE hS (pu_fr hS hA)⟩ rfl rfl hl.1 rfl (lv_room (Nat.le_of_ble_eq_true rfl)) dX4_code_18 ⟨Nat.le_of_ble_eq_true rfl, Nat.le_of_ble_eq_true rfl⟩) hS (fun q _ h => pu_fr hS hA q h) (pu_fr hS hA) (fun r_7 u t H1 locs ht hvm hw hB hz1 hk1 hS => ?_)
  have hP := pu_keep hP hk1
  clear hk1 hz1 ht hvm
  generalize H1 = H at hP hS ⊢
  obtain rfl : r_7 = 101 := hw.2.trans (by decide)
  refine lv_iadd hx hb dX4_code_21 ?_
  refine lv_bipush (v := 97) hx hb dX4_code_22 (by decide) ?_
  refine lv_isub hx hb dX4_code_24 ?_
  refine lv_iconst (v := 1) hx hb dX4_code_25 (by decide) ?_
  refine lv_iadd hx hb dX4_code_26 ?_
  refine lv_istore_n (lv' := [(1, .int (((((((((((0 + 119) - 97) + 1) * 32) + 104) - 97) + 1) * 32) + 101) - 97) + 1)), (2, .int 2), (0, .ref (adK 6))]) hx hb dX4_code_27 rfl hl (by decide) rfl (fun ls hl => ?_)
  refine lv_iinc (v := 3) (lv' := [(2, .int 3), (1, .int (((((((((((0 + 119) - 97) + 1) * 32) + 104) - 97) + 1) * 32) + 101) - 97) + 1)), (0, .ref (adK 6))]) hx hb dX4_code_28 hl (k := 1) rfl (by decide) (by decide) rfl (fun ls hl => ?_)
  refine lv_goto (tgt := 4) hx hb dX4_code_31 (by decide) ?_
  refine lv_iload_n hx hb dX4_code_4 rfl (lv_at hl 0 rfl) ?_
  refine lv_aload_n hx hb dX4_code_5 rfl (lv_at hl 2 rfl) ?_
  refine va_calli (va_runV (As := []) (rest := [.int 3]) ⟨hx, hb, hml, hown, hts⟩ (c_J0_length l dC dI _ adK adV fz 6 (by decide)) (cwV 0 hts g_X4_code_6_J0_length rfl rfl rfl (by decide +kernel) ⟨Nat.le_of_ble_eq_true rfl, Nat.le_of_ble_eq_true rfl⟩) ⟨pu_blx, vk_recv (i := 6) hE.2.1 (by decide) hS, pu_inx hP hK hD hE hS (pu_fr hS hA)⟩ rfl rfl hl.1 rfl (lv_room (Nat.le_of_ble_eq_true rfl)) dX4_code_6 ⟨Nat.le_of_ble_eq_true rfl, Nat.le_of_ble_eq_true rfl⟩) hS (fun q _ h => pu_fr hS hA q h) (pu_fr hS hA) (fun r_8 u t H1 locs ht hvm hw hB hz1 hk1 hS => ?_)
  have hP := pu_keep hP hk1
  clear hk1 hz1 ht hvm
  generalize H1 = H at hP hS ⊢
  obtain rfl : r_8 = 4 := hw.trans (by decide)
  refine lv_icmp_ge (tgt := 34) hx hb dX4_code_9 (by decide) (fun z => absurd z (by decide)) (fun _ => ?_)
  refine lv_iload_n hx hb dX4_code_12 rfl (lv_at hl 1 rfl) ?_
  refine lv_bipush (v := 32) hx hb dX4_code_13 (by decide) ?_
  refine lv_imul hx hb dX4_code_15 ?_
  refine lv_aload_n hx hb dX4_code_16 rfl (lv_at hl 2 rfl) ?_
  refine lv_iload_n hx hb dX4_code_17 rfl (lv_at hl 0 rfl) ?_
  refine va_calli (va_runV (As := [.int 3]) (rest := [.int ((((((((((((0 + 119) - 97) + 1) * 32) + 104) - 97) + 1) * 32) + 101) - 97) + 1) * 32)]) ⟨hx, hb, hml, hown, hts⟩ (c_J0_charAt l dC dI _ adK adV fz 6 (by decide) 3 (show ¬ (_ ∨ _) by decide)) (cwV 1 hts g_X4_code_6_J0_charAt rfl rfl rfl (by decide +kernel) ⟨Nat.le_of_ble_eq_true rfl, Nat.le_of_ble_eq_true rfl⟩) ⟨pu_blx, vk_recv (i := 6) hE.2.1 (by decide) hS, pu_inx hP hK hD hE hS (pu_fr hS hA)⟩ rfl rfl hl.1 rfl (lv_room (Nat.le_of_ble_eq_true rfl)) dX4_code_18 ⟨Nat.le_of_ble_eq_true rfl, Nat.le_of_ble_eq_true rfl⟩) hS (fun q _ h => pu_fr hS hA q h) (pu_fr hS hA) (fun r_9 u t H1 locs ht hvm hw hB hz1 hk1 hS => ?_)
  have hP := pu_keep hP hk1
  clear hk1 hz1 ht hvm
  generalize H1 = H at hP hS ⊢
  obtain rfl : r_9 = 110 := hw.2.trans (by decide)
  refine lv_iadd hx hb dX4_code_21 ?_
  refine lv_bipush (v := 97) hx hb dX4_code_22 (by decide) ?_
  refine lv_isub hx hb dX4_code_24 ?_
  refine lv_iconst (v := 1) hx hb dX4_code_25 (by decide) ?_
  refine lv_iadd hx hb dX4_code_26 ?_
  refine lv_istore_n (lv' := [(1, .int (((((((((((((((0 + 119) - 97) + 1) * 32) + 104) - 97) + 1) * 32) + 101) - 97) + 1) * 32) + 110) - 97) + 1)), (2, .int 3), (0, .ref (adK 6))]) hx hb dX4_code_27 rfl hl (by decide) rfl (fun ls hl => ?_)
  refine lv_iinc (v := 4) (lv' := [(2, .int 4), (1, .int (((((((((((((((0 + 119) - 97) + 1) * 32) + 104) - 97) + 1) * 32) + 101) - 97) + 1) * 32) + 110) - 97) + 1)), (0, .ref (adK 6))]) hx hb dX4_code_28 hl (k := 1) rfl (by decide) (by decide) rfl (fun ls hl => ?_)
  refine lv_goto (tgt := 4) hx hb dX4_code_31 (by decide) ?_
  refine lv_iload_n hx hb dX4_code_4 rfl (lv_at hl 0 rfl) ?_
  refine lv_aload_n hx hb dX4_code_5 rfl (lv_at hl 2 rfl) ?_
  refine va_calli (va_runV (As := []) (rest := [.int 4]) ⟨hx, hb, hml, hown, hts⟩ (c_J0_length l dC dI _ adK adV fz 6 (by decide)) (cwV 0 hts g_X4_code_6_J0_length rfl rfl rfl (by decide +kernel) ⟨Nat.le_of_ble_eq_true rfl, Nat.le_of_ble_eq_true rfl⟩) ⟨pu_blx, vk_recv (i := 6) hE.2.1 (by decide) hS, pu_inx hP hK hD hE hS (pu_fr hS hA)⟩ rfl rfl hl.1 rfl (lv_room (Nat.le_of_ble_eq_true rfl)) dX4_code_6 ⟨Nat.le_of_ble_eq_true rfl, Nat.le_of_ble_eq_true rfl⟩) hS (fun q _ h => pu_fr hS hA q h) (pu_fr hS hA) (fun r_10 u t H1 locs ht hvm hw hB hz1 hk1 hS => ?_)
  have hP := pu_keep hP hk1
  clear hk1 hz1 ht hvm
  generalize H1 = H at hP hS ⊢
  obtain rfl : r_10 = 4 := hw.trans (by decide)
  refine lv_icmp_ge (tgt := 34) hx hb dX4_code_9 (by decide) (fun _ => ?_) (fun z => absurd z (by decide))
  refine lv_iload_n hx hb dX4_code_34 rfl (lv_at hl 1 rfl) ?_
  exact W.iret (v := (((((((((((((((0 + 119) - 97) + 1) * 32) + 104) - 97) + 1) * 32) + 101) - 97) + 1) * 32) + 110) - 97) + 1)) hx hb hr (fun t ht hW => ⟨⟨(((((((((((((((0 + 119) - 97) + 1) * 32) + 104) - 97) + 1) * 32) + 101) - 97) + 1) * 32) + 110) - 97) + 1), (), rfl, (by decide), trivial⟩, hS.F ht⟩) hS.2.2 dX4_code_35
def vs_X4_code_7 : List Cond := .code yX4_code cX4_code 3 (some .int) :: ([.methodLink RX4 45 yJ0_length_8abf5, .instanceMethod yJ0_length_8abf5, .selects RJ0 yJ0_length_8abf5 yJ0_length_8abf5, .initialized RJ0, .code yJ0_length_8abf5 cJ0_length_8abf5 1 (some .int), .fieldLink RJ0 9 "java/lang/String" "value" "[B", .methodLink RJ0 335 yJ0_coder_7d493, .instanceMethod yJ0_coder_7d493, .selects RJ0 yJ0_coder_7d493 yJ0_coder_7d493, .code yJ0_coder_7d493 cJ0_coder_7d493 1 (some .byte), .fieldLink RJ0 38 "java/lang/String" "COMPACT_STRINGS" "Z", .fieldLink RJ0 15 "java/lang/String" "coder" "B", .methodLink RX4 51 yJ0_charAt_5068e, .instanceMethod yJ0_charAt_5068e, .selects RJ0 yJ0_charAt_5068e yJ0_charAt_5068e, .code yJ0_charAt_5068e cJ0_charAt_5068e 2 (some .char), .methodLink RJ0 492 yJ0_isLatin1_aae02, .instanceMethod yJ0_isLatin1_aae02, .selects RJ0 yJ0_isLatin1_aae02 yJ0_isLatin1_aae02, .code yJ0_isLatin1_aae02 cJ0_isLatin1_aae02 1 (some .boolean), .methodLink RJ0 495 yJ1_charAt_3b067, .static yJ1_charAt_3b067, .initialized RJ1, .code yJ1_charAt_3b067 cJ1_charAt_3b067 2 (some .char), .methodLink RJ1 9 yJ0_checkIndex_df160, .static yJ0_checkIndex_df160, .code yJ0_checkIndex_df160 cJ0_checkIndex_df160 2 none, .fieldLink RJ0 1053 "jdk/internal/util/Preconditions" "SIOOBE_FORMATTER" "Ljava/util/function/BiFunction;", .methodLink RJ0 1059 yJ3_checkIndex_8e157, .static yJ3_checkIndex_8e157, .initialized RJ3, .code yJ3_checkIndex_8e157 cJ3_checkIndex_8e157 3 (some .int)])
theorem g_X4_code_7_J0_length : GoodIn vs_X4_code_7 (wsV RX4 45 RJ0 yJ0_length_8abf5 vs_J0_length) := goodIn_r _ [1, 2, 3, 4, 5, 6, 7, 8, 9, 4, 10, 11, 12] (by decide +kernel) (by decide +kernel)
theorem g_X4_code_7_J0_charAt : GoodIn vs_X4_code_7 (wsV RX4 51 RJ0 yJ0_charAt_5068e vs_J0_charAt) := goodIn_r _ [13, 14, 15, 4, 16, 17, 18, 19, 4, 20, 11, 12, 6, 21, 22, 23, 24, 25, 26, 27, 28, 29, 30, 31, 32] (by decide +kernel) (by decide +kernel)
set_option maxHeartbeats 4000000 in
set_option maxRecDepth 100000 in
theorem c_X4_code_7 (l : Launch) (dC : Nat → ClassId) (dI : Nat → Nat → Nat) (sz : Nat) (adK adV : Nat → Nat) (fz : Option Nat) : Met l yX4_code vs_X4_code_7 ({ frames := 4, cells := 0, slots := 0, locals := 85 }) (va_Pc [.ref (adK 7)] (pu_X adK adV fz (dC, dI) [] [] sz)) (va_Qi (fun (r : Int32) (_ : Unit) => r = 19057844) (fun _ _ => True) (va_A [] sz)) 0 0 (va_A [] sz) := by
  refine Met.ofW (cc := cX4_code) (maxL := 3) (ret := (some .int)) (by decide) rfl ?_
  intro p e s m args below meth c s₁ B hml hv
  obtain ⟨rfl, ⟨rfl, hP, hK, hD0⟩, hE⟩ := hv
  have hx := B.exec
  have hb := B.bytes
  have hr := B.returns
  have hts := atoms_spec (ws := vs_X4_code_7) B.pre
  have hown : s.vm.findClass RX4 = some m.cls := findClass_of_methodNamed B.named
  have hlocks := B.notSynchronized
  have hD := hD0
  have hA : ∀ q : Nat, s.heap.size ≤ q → va_A [] s.heap.size q := fun _ h => Or.inr h
  have hS : va_S (va_A [] s.heap.size) s.heap s.heap [] := va_S.rf
  have hE : sx_E adK adV fz (va_A [] s.heap.size) s s.heap := hE
  have hl := lv_entry ([.ref (adK 7)]) (n := 3) (Nat.le_of_ble_eq_true rfl)
  rw [lg_entry_eq]
  generalize (lg_sl ([.ref (adK 7)]) ++ List.replicate (3 - (lg_sl ([.ref (adK 7)])).length) Slot.unset).toArray = ls at hl ⊢
  have hl : lv_has ls 3 [(0, .ref (adK 7))] := hl
  refine lv_iconst (v := 0) hx hb dX4_code_0 (by decide) ?_
  refine lv_istore_n (lv' := [(1, .int 0), (0, .ref (adK 7))]) hx hb dX4_code_1 rfl hl (by decide) rfl (fun ls hl => ?_)
  refine lv_iconst (v := 0) hx hb dX4_code_2 (by decide) ?_
  refine lv_istore_n (lv' := [(2, .int 0), (1, .int 0), (0, .ref (adK 7))]) hx hb dX4_code_3 rfl hl (by decide) rfl (fun ls hl => ?_)
  refine lv_iload_n hx hb dX4_code_4 rfl (lv_at hl 0 rfl) ?_
  refine lv_aload_n hx hb dX4_code_5 rfl (lv_at hl 2 rfl) ?_
  refine va_calli (va_runV (As := []) (rest := [.int 0]) ⟨hx, hb, hml, hown, hts⟩ (c_J0_length l dC dI _ adK adV fz 7 (by decide)) (cwV 0 hts g_X4_code_7_J0_length rfl rfl rfl (by decide +kernel) ⟨Nat.le_of_ble_eq_true rfl, Nat.le_of_ble_eq_true rfl⟩) ⟨pu_blx, vk_recv (i := 7) hE.2.1 (by decide) hS, pu_inx hP hK hD hE hS (pu_fr hS hA)⟩ rfl rfl hl.1 rfl (lv_room (Nat.le_of_ble_eq_true rfl)) dX4_code_6 ⟨Nat.le_of_ble_eq_true rfl, Nat.le_of_ble_eq_true rfl⟩) hS (fun q _ h => pu_fr hS hA q h) (pu_fr hS hA) (fun r_1 u t H1 locs ht hvm hw hB hz1 hk1 hS => ?_)
  have hP := pu_keep hP hk1
  clear hk1 hz1 ht hvm
  generalize H1 = H at hP hS ⊢
  obtain rfl : r_1 = 5 := hw.trans (by decide)
  refine lv_icmp_ge (tgt := 34) hx hb dX4_code_9 (by decide) (fun z => absurd z (by decide)) (fun _ => ?_)
  refine lv_iload_n hx hb dX4_code_12 rfl (lv_at hl 1 rfl) ?_
  refine lv_bipush (v := 32) hx hb dX4_code_13 (by decide) ?_
  refine lv_imul hx hb dX4_code_15 ?_
  refine lv_topi (fun y_2 ey_2 => ?_)
  obtain rfl : y_2 = 0 := ey_2.trans (by decide)
  refine lv_aload_n hx hb dX4_code_16 rfl (lv_at hl 2 rfl) ?_
  refine lv_iload_n hx hb dX4_code_17 rfl (lv_at hl 0 rfl) ?_
  refine va_calli (va_runV (As := [.int 0]) (rest := [.int 0]) ⟨hx, hb, hml, hown, hts⟩ (c_J0_charAt l dC dI _ adK adV fz 7 (by decide) 0 (show ¬ (_ ∨ _) by decide)) (cwV 1 hts g_X4_code_7_J0_charAt rfl rfl rfl (by decide +kernel) ⟨Nat.le_of_ble_eq_true rfl, Nat.le_of_ble_eq_true rfl⟩) ⟨pu_blx, vk_recv (i := 7) hE.2.1 (by decide) hS, pu_inx hP hK hD hE hS (pu_fr hS hA)⟩ rfl rfl hl.1 rfl (lv_room (Nat.le_of_ble_eq_true rfl)) dX4_code_18 ⟨Nat.le_of_ble_eq_true rfl, Nat.le_of_ble_eq_true rfl⟩) hS (fun q _ h => pu_fr hS hA q h) (pu_fr hS hA) (fun r_3 u t H1 locs ht hvm hw hB hz1 hk1 hS => ?_)
  have hP := pu_keep hP hk1
  clear hk1 hz1 ht hvm
  generalize H1 = H at hP hS ⊢
  obtain rfl : r_3 = 114 := hw.2.trans (by decide)
  refine lv_iadd hx hb dX4_code_21 ?_
  refine lv_bipush (v := 97) hx hb dX4_code_22 (by decide) ?_
  refine lv_isub hx hb dX4_code_24 ?_
  refine lv_iconst (v := 1) hx hb dX4_code_25 (by decide) ?_
  refine lv_iadd hx hb dX4_code_26 ?_
  refine lv_istore_n (lv' := [(1, .int (((0 + 114) - 97) + 1)), (2, .int 0), (0, .ref (adK 7))]) hx hb dX4_code_27 rfl hl (by decide) rfl (fun ls hl => ?_)
  refine lv_iinc (v := 1) (lv' := [(2, .int 1), (1, .int (((0 + 114) - 97) + 1)), (0, .ref (adK 7))]) hx hb dX4_code_28 hl (k := 1) rfl (by decide) (by decide) rfl (fun ls hl => ?_)
  refine lv_goto (tgt := 4) hx hb dX4_code_31 (by decide) ?_
  refine lv_iload_n hx hb dX4_code_4 rfl (lv_at hl 0 rfl) ?_
  refine lv_aload_n hx hb dX4_code_5 rfl (lv_at hl 2 rfl) ?_
  refine va_calli (va_runV (As := []) (rest := [.int 1]) ⟨hx, hb, hml, hown, hts⟩ (c_J0_length l dC dI _ adK adV fz 7 (by decide)) (cwV 0 hts g_X4_code_7_J0_length rfl rfl rfl (by decide +kernel) ⟨Nat.le_of_ble_eq_true rfl, Nat.le_of_ble_eq_true rfl⟩) ⟨pu_blx, vk_recv (i := 7) hE.2.1 (by decide) hS, pu_inx hP hK hD hE hS (pu_fr hS hA)⟩ rfl rfl hl.1 rfl (lv_room (Nat.le_of_ble_eq_true rfl)) dX4_code_6 ⟨Nat.le_of_ble_eq_true rfl, Nat.le_of_ble_eq_true rfl⟩) hS (fun q _ h => pu_fr hS hA q h) (pu_fr hS hA) (fun r_4 u t H1 locs ht hvm hw hB hz1 hk1 hS => ?_)
  have hP := pu_keep hP hk1
  clear hk1 hz1 ht hvm
  generalize H1 = H at hP hS ⊢
  obtain rfl : r_4 = 5 := hw.trans (by decide)
  refine lv_icmp_ge (tgt := 34) hx hb dX4_code_9 (by decide) (fun z => absurd z (by decide)) (fun _ => ?_)
  refine lv_iload_n hx hb dX4_code_12 rfl (lv_at hl 1 rfl) ?_
  refine lv_bipush (v := 32) hx hb dX4_code_13 (by decide) ?_
  refine lv_imul hx hb dX4_code_15 ?_
  refine lv_aload_n hx hb dX4_code_16 rfl (lv_at hl 2 rfl) ?_
  refine lv_iload_n hx hb dX4_code_17 rfl (lv_at hl 0 rfl) ?_
  refine va_calli (va_runV (As := [.int 1]) (rest := [.int ((((0 + 114) - 97) + 1) * 32)]) ⟨hx, hb, hml, hown, hts⟩ (c_J0_charAt l dC dI _ adK adV fz 7 (by decide) 1 (show ¬ (_ ∨ _) by decide)) (cwV 1 hts g_X4_code_7_J0_charAt rfl rfl rfl (by decide +kernel) ⟨Nat.le_of_ble_eq_true rfl, Nat.le_of_ble_eq_true rfl⟩) ⟨pu_blx, vk_recv (i := 7) hE.2.1 (by decide) hS, pu_inx hP hK hD hE hS (pu_fr hS hA)⟩ rfl rfl hl.1 rfl (lv_room (Nat.le_of_ble_eq_true rfl)) dX4_code_18 ⟨Nat.le_of_ble_eq_true rfl, Nat.le_of_ble_eq_true rfl⟩) hS (fun q _ h => pu_fr hS hA q h) (pu_fr hS hA) (fun r_5 u t H1 locs ht hvm hw hB hz1 hk1 hS => ?_)
  have hP := pu_keep hP hk1
  clear hk1 hz1 ht hvm
  generalize H1 = H at hP hS ⊢
  obtain rfl : r_5 = 101 := hw.2.trans (by decide)
  refine lv_iadd hx hb dX4_code_21 ?_
  refine lv_bipush (v := 97) hx hb dX4_code_22 (by decide) ?_
  refine lv_isub hx hb dX4_code_24 ?_
  refine lv_iconst (v := 1) hx hb dX4_code_25 (by decide) ?_
  refine lv_iadd hx hb dX4_code_26 ?_
  refine lv_istore_n (lv' := [(1, .int (((((((0 + 114) - 97) + 1) * 32) + 101) - 97) + 1)), (2, .int 1), (0, .ref (adK 7))]) hx hb dX4_code_27 rfl hl (by decide) rfl (fun ls hl => ?_)
  refine lv_iinc (v := 2) (lv' := [(2, .int 2), (1, .int (((((((0 + 114) - 97) + 1) * 32) + 101) - 97) + 1)), (0, .ref (adK 7))]) hx hb dX4_code_28 hl (k := 1) rfl (by decide) (by decide) rfl (fun ls hl => ?_)
  refine lv_goto (tgt := 4) hx hb dX4_code_31 (by decide) ?_
  refine lv_iload_n hx hb dX4_code_4 rfl (lv_at hl 0 rfl) ?_
  refine lv_aload_n hx hb dX4_code_5 rfl (lv_at hl 2 rfl) ?_
  refine va_calli (va_runV (As := []) (rest := [.int 2]) ⟨hx, hb, hml, hown, hts⟩ (c_J0_length l dC dI _ adK adV fz 7 (by decide)) (cwV 0 hts g_X4_code_7_J0_length rfl rfl rfl (by decide +kernel) ⟨Nat.le_of_ble_eq_true rfl, Nat.le_of_ble_eq_true rfl⟩) ⟨pu_blx, vk_recv (i := 7) hE.2.1 (by decide) hS, pu_inx hP hK hD hE hS (pu_fr hS hA)⟩ rfl rfl hl.1 rfl (lv_room (Nat.le_of_ble_eq_true rfl)) dX4_code_6 ⟨Nat.le_of_ble_eq_true rfl, Nat.le_of_ble_eq_true rfl⟩) hS (fun q _ h => pu_fr hS hA q h) (pu_fr hS hA) (fun r_6 u t H1 locs ht hvm hw hB hz1 hk1 hS => ?_)
  have hP := pu_keep hP hk1
  clear hk1 hz1 ht hvm
  generalize H1 = H at hP hS ⊢
  obtain rfl : r_6 = 5 := hw.trans (by decide)
  refine lv_icmp_ge (tgt := 34) hx hb dX4_code_9 (by decide) (fun z => absurd z (by decide)) (fun _ => ?_)
  refine lv_iload_n hx hb dX4_code_12 rfl (lv_at hl 1 rfl) ?_
  refine lv_bipush (v := 32) hx hb dX4_code_13 (by decide) ?_
  refine lv_imul hx hb dX4_code_15 ?_
  refine lv_aload_n hx hb dX4_code_16 rfl (lv_at hl 2 rfl) ?_
  refine lv_iload_n hx hb dX4_code_17 rfl (lv_at hl 0 rfl) ?_
  refine va_calli (va_runV (As := [.int 2]) (rest := [.int ((((((((0 + 114) - 97) + 1) * 32) + 101) - 97) + 1) * 32)]) ⟨hx, hb, hml, hown, hts⟩ (c_J0_charAt l dC dI _ adK adV fz 7 (by decide) 2 (show ¬ (_ ∨ _) by decide)) (cwV 1 hts g_X4_code_7_J0_charAt rfl rfl rfl (by decide +kernel) ⟨Nat.le_of_ble_eq_true rfl, Nat.le_of_ble_eq_true rfl⟩) ⟨pu_blx, vk_recv (i := 7) hE.2.1 (by decide) hS, pu_inx hP hK hD hE hS (pu_fr hS hA)⟩ rfl rfl hl.1 rfl (lv_room (Nat.le_of_ble_eq_true rfl)) dX4_code_18 ⟨Nat.le_of_ble_eq_true rfl, Nat.le_of_ble_eq_true rfl⟩) hS (fun q _ h => pu_fr hS hA q h) (pu_fr hS hA) (fun r_7 u t H1 locs ht hvm hw hB hz1 hk1 hS => ?_)
  have hP := pu_keep hP hk1
  clear hk1 hz1 ht hvm
  generalize H1 = H at hP hS ⊢
  obtain rfl : r_7 = 115 := hw.2.trans (by decide)
  refine lv_iadd hx hb dX4_code_21 ?_
  refine lv_bipush (v := 97) hx hb dX4_code_22 (by decide) ?_
  refine lv_isub hx hb dX4_code_24 ?_
  refine lv_iconst (v := 1) hx hb dX4_code_25 (by decide) ?_
  refine lv_iadd hx hb dX4_code_26 ?_
  refine lv_istore_n (lv' := [(1, .int (((((((((((0 + 114) - 97) + 1) * 32) + 101) - 97) + 1) * 32) + 115) - 97) + 1)), (2, .int 2), (0, .ref (adK 7))]) hx hb dX4_code_27 rfl hl (by decide) rfl (fun ls hl => ?_)
  refine lv_iinc (v := 3) (lv' := [(2, .int 3), (1, .int (((((((((((0 + 114) - 97) + 1) * 32) + 101) - 97) + 1) * 32) + 115) - 97) + 1)), (0, .ref (adK 7))]) hx hb dX4_code_28 hl (k := 1) rfl (by decide) (by decide) rfl (fun ls hl => ?_)
  refine lv_goto (tgt := 4) hx hb dX4_code_31 (by decide) ?_
  refine lv_iload_n hx hb dX4_code_4 rfl (lv_at hl 0 rfl) ?_
  refine lv_aload_n hx hb dX4_code_5 rfl (lv_at hl 2 rfl) ?_
  refine va_calli (va_runV (As := []) (rest := [.int 3]) ⟨hx, hb, hml, hown, hts⟩ (c_J0_length l dC dI _ adK adV fz 7 (by decide)) (cwV 0 hts g_X4_code_7_J0_length rfl rfl rfl (by decide +kernel) ⟨Nat.le_of_ble_eq_true rfl, Nat.le_of_ble_eq_true rfl⟩) ⟨pu_blx, vk_recv (i := 7) hE.2.1 (by decide) hS, pu_inx hP hK hD hE hS (pu_fr hS hA)⟩ rfl rfl hl.1 rfl (lv_room (Nat.le_of_ble_eq_true rfl)) dX4_code_6 ⟨Nat.le_of_ble_eq_true rfl, Nat.le_of_ble_eq_true rfl⟩) hS (fun q _ h => pu_fr hS hA q h) (pu_fr hS hA) (fun r_8 u t H1 locs ht hvm hw hB hz1 hk1 hS => ?_)
  have hP := pu_keep hP hk1
  clear hk1 hz1 ht hvm
  generalize H1 = H at hP hS ⊢
  obtain rfl : r_8 = 5 := hw.trans (by decide)
  refine lv_icmp_ge (tgt := 34) hx hb dX4_code_9 (by decide) (fun z => absurd z (by decide)) (fun _ => ?_)
  refine lv_iload_n hx hb dX4_code_12 rfl (lv_at hl 1 rfl) ?_
  refine lv_bipush (v := 32) hx hb dX4_code_13 (by decide) ?_
  refine lv_imul hx hb dX4_code_15 ?_
  refine lv_aload_n hx hb dX4_code_16 rfl (lv_at hl 2 rfl) ?_
  refine lv_iload_n hx hb dX4_code_17 rfl (lv_at hl 0 rfl) ?_
  refine va_calli (va_runV (As := [.int 3]) (rest := [.int ((((((((((((0 + 114) - 97) + 1) * 32) + 101) - 97) + 1) * 32) + 115) - 97) + 1) * 32)]) ⟨hx, hb, hml, hown, hts⟩ (c_J0_charAt l dC dI _ adK adV fz 7 (by decide) 3 (show ¬ (_ ∨ _) by decide)) (cwV 1 hts g_X4_code_7_J0_charAt rfl rfl rfl (by decide +kernel) ⟨Nat.le_of_ble_eq_true rfl, Nat.le_of_ble_eq_true rfl⟩) ⟨pu_blx, vk_recv (i := 7) hE.2.1 (by decide) hS, pu_inx hP hK hD hE hS (pu_fr hS hA)⟩ rfl rfl hl.1 rfl (lv_room (Nat.le_of_ble_eq_true rfl)) dX4_code_18 ⟨Nat.le_of_ble_eq_true rfl, Nat.le_of_ble_eq_true rfl⟩) hS (fun q _ h => pu_fr hS hA q h) (pu_fr hS hA) (fun r_9 u t H1 locs ht hvm hw hB hz1 hk1 hS => ?_)
  have hP := pu_keep hP hk1
  clear hk1 hz1 ht hvm
  generalize H1 = H at hP hS ⊢
  obtain rfl : r_9 = 101 := hw.2.trans (by decide)
  refine lv_iadd hx hb dX4_code_21 ?_
  refine lv_bipush (v := 97) hx hb dX4_code_22 (by decide) ?_
  refine lv_isub hx hb dX4_code_24 ?_
  refine lv_iconst (v := 1) hx hb dX4_code_25 (by decide) ?_
  refine lv_iadd hx hb dX4_code_26 ?_
  refine lv_istore_n (lv' := [(1, .int (((((((((((((((0 + 114) - 97) + 1) * 32) + 101) - 97) + 1) * 32) + 115) - 97) + 1) * 32) + 101) - 97) + 1)), (2, .int 3), (0, .ref (adK 7))]) hx hb dX4_code_27 rfl hl (by decide) rfl (fun ls hl => ?_)
  refine lv_iinc (v := 4) (lv' := [(2, .int 4), (1, .int (((((((((((((((0 + 114) - 97) + 1) * 32) + 101) - 97) + 1) * 32) + 115) - 97) + 1) * 32) + 101) - 97) + 1)), (0, .ref (adK 7))]) hx hb dX4_code_28 hl (k := 1) rfl (by decide) (by decide) rfl (fun ls hl => ?_)
  refine lv_goto (tgt := 4) hx hb dX4_code_31 (by decide) ?_
  refine lv_iload_n hx hb dX4_code_4 rfl (lv_at hl 0 rfl) ?_
  refine lv_aload_n hx hb dX4_code_5 rfl (lv_at hl 2 rfl) ?_
  refine va_calli (va_runV (As := []) (rest := [.int 4]) ⟨hx, hb, hml, hown, hts⟩ (c_J0_length l dC dI _ adK adV fz 7 (by decide)) (cwV 0 hts g_X4_code_7_J0_length rfl rfl rfl (by decide +kernel) ⟨Nat.le_of_ble_eq_true rfl, Nat.le_of_ble_eq_true rfl⟩) ⟨pu_blx, vk_recv (i := 7) hE.2.1 (by decide) hS, pu_inx hP hK hD hE hS (pu_fr hS hA)⟩ rfl rfl hl.1 rfl (lv_room (Nat.le_of_ble_eq_true rfl)) dX4_code_6 ⟨Nat.le_of_ble_eq_true rfl, Nat.le_of_ble_eq_true rfl⟩) hS (fun q _ h => pu_fr hS hA q h) (pu_fr hS hA) (fun r_10 u t H1 locs ht hvm hw hB hz1 hk1 hS => ?_)
  have hP := pu_keep hP hk1
  clear hk1 hz1 ht hvm
  generalize H1 = H at hP hS ⊢
  obtain rfl : r_10 = 5 := hw.trans (by decide)
  refine lv_icmp_ge (tgt := 34) hx hb dX4_code_9 (by decide) (fun z => absurd z (by decide)) (fun _ => ?_)
  refine lv_iload_n hx hb dX4_code_12 rfl (lv_at hl 1 rfl) ?_
  refine lv_bipush (v := 32) hx hb dX4_code_13 (by decide) ?_
  refine lv_imul hx hb dX4_code_15 ?_
  refine lv_aload_n hx hb dX4_code_16 rfl (lv_at hl 2 rfl) ?_
  refine lv_iload_n hx hb dX4_code_17 rfl (lv_at hl 0 rfl) ?_
  refine va_calli (va_runV (As := [.int 4]) (rest := [.int ((((((((((((((((0 + 114) - 97) + 1) * 32) + 101) - 97) + 1) * 32) + 115) - 97) + 1) * 32) + 101) - 97) + 1) * 32)]) ⟨hx, hb, hml, hown, hts⟩ (c_J0_charAt l dC dI _ adK adV fz 7 (by decide) 4 (show ¬ (_ ∨ _) by decide)) (cwV 1 hts g_X4_code_7_J0_charAt rfl rfl rfl (by decide +kernel) ⟨Nat.le_of_ble_eq_true rfl, Nat.le_of_ble_eq_true rfl⟩) ⟨pu_blx, vk_recv (i := 7) hE.2.1 (by decide) hS, pu_inx hP hK hD hE hS (pu_fr hS hA)⟩ rfl rfl hl.1 rfl (lv_room (Nat.le_of_ble_eq_true rfl)) dX4_code_18 ⟨Nat.le_of_ble_eq_true rfl, Nat.le_of_ble_eq_true rfl⟩) hS (fun q _ h => pu_fr hS hA q h) (pu_fr hS hA) (fun r_11 u t H1 locs ht hvm hw hB hz1 hk1 hS => ?_)
  have hP := pu_keep hP hk1
  clear hk1 hz1 ht hvm
  generalize H1 = H at hP hS ⊢
  obtain rfl : r_11 = 116 := hw.2.trans (by decide)
  refine lv_iadd hx hb dX4_code_21 ?_
  refine lv_bipush (v := 97) hx hb dX4_code_22 (by decide) ?_
  refine lv_isub hx hb dX4_code_24 ?_
  refine lv_iconst (v := 1) hx hb dX4_code_25 (by decide) ?_
  refine lv_iadd hx hb dX4_code_26 ?_
  refine lv_istore_n (lv' := [(1, .int (((((((((((((((((((0 + 114) - 97) + 1) * 32) + 101) - 97) + 1) * 32) + 115) - 97) + 1) * 32) + 101) - 97) + 1) * 32) + 116) - 97) + 1)), (2, .int 4), (0, .ref (adK 7))]) hx hb dX4_code_27 rfl hl (by decide) rfl (fun ls hl => ?_)
  refine lv_iinc (v := 5) (lv' := [(2, .int 5), (1, .int (((((((((((((((((((0 + 114) - 97) + 1) * 32) + 101) - 97) + 1) * 32) + 115) - 97) + 1) * 32) + 101) - 97) + 1) * 32) + 116) - 97) + 1)), (0, .ref (adK 7))]) hx hb dX4_code_28 hl (k := 1) rfl (by decide) (by decide) rfl (fun ls hl => ?_)
  refine lv_goto (tgt := 4) hx hb dX4_code_31 (by decide) ?_
  refine lv_iload_n hx hb dX4_code_4 rfl (lv_at hl 0 rfl) ?_
  refine lv_aload_n hx hb dX4_code_5 rfl (lv_at hl 2 rfl) ?_
  refine va_calli (va_runV (As := []) (rest := [.int 5]) ⟨hx, hb, hml, hown, hts⟩ (c_J0_length l dC dI _ adK adV fz 7 (by decide)) (cwV 0 hts g_X4_code_7_J0_length rfl rfl rfl (by decide +kernel) ⟨Nat.le_of_ble_eq_true rfl, Nat.le_of_ble_eq_true rfl⟩) ⟨pu_blx, vk_recv (i := 7) hE.2.1 (by decide) hS, pu_inx hP hK hD hE hS (pu_fr hS hA)⟩ rfl rfl hl.1 rfl (lv_room (Nat.le_of_ble_eq_true rfl)) dX4_code_6 ⟨Nat.le_of_ble_eq_true rfl, Nat.le_of_ble_eq_true rfl⟩) hS (fun q _ h => pu_fr hS hA q h) (pu_fr hS hA) (fun r_12 u t H1 locs ht hvm hw hB hz1 hk1 hS => ?_)
  have hP := pu_keep hP hk1
  clear hk1 hz1 ht hvm
  generalize H1 = H at hP hS ⊢
  obtain rfl : r_12 = 5 := hw.trans (by decide)
  refine lv_icmp_ge (tgt := 34) hx hb dX4_code_9 (by decide) (fun _ => ?_) (fun z => absurd z (by decide))
  refine lv_iload_n hx hb dX4_code_34 rfl (lv_at hl 1 rfl) ?_
  exact W.iret (v := (((((((((((((((((((0 + 114) - 97) + 1) * 32) + 101) - 97) + 1) * 32) + 115) - 97) + 1) * 32) + 101) - 97) + 1) * 32) + 116) - 97) + 1)) hx hb hr (fun t ht hW => ⟨⟨(((((((((((((((((((0 + 114) - 97) + 1) * 32) + 101) - 97) + 1) * 32) + 115) - 97) + 1) * 32) + 101) - 97) + 1) * 32) + 116) - 97) + 1), (), rfl, (by decide), trivial⟩, hS.F ht⟩) hS.2.2 dX4_code_35
