theorem dX4_init_0 : decode cX4_init 0 = .ok (.aload_n 0, 1) := by decide +kernel
theorem dX4_init_1 : decode cX4_init 1 = .ok (.invokespecial 3, 3) := by decide +kernel
theorem dX4_init_4 : decode cX4_init 4 = .ok (.aload_n 0, 1) := by decide +kernel
theorem dX4_init_5 : decode cX4_init 5 = .ok (.iconst (-1), 1) := by decide +kernel
theorem dX4_init_6 : decode cX4_init 6 = .ok (.putfield 9, 3) := by decide +kernel
theorem dX4_init_9 : decode cX4_init 9 = .ok (.aload_n 0, 1) := by decide +kernel
theorem dX4_init_10 : decode cX4_init 10 = .ok (.bipush 8, 2) := by decide +kernel
theorem dX4_init_12 : decode cX4_init 12 = .ok (.newarray .int, 2) := by decide +kernel
theorem dX4_init_14 : decode cX4_init 14 = .ok (.dup, 1) := by decide +kernel
theorem dX4_init_15 : decode cX4_init 15 = .ok (.iconst 0, 1) := by decide +kernel
theorem dX4_init_16 : decode cX4_init 16 = .ok (.ldc 15, 2) := by decide +kernel
theorem dX4_init_18 : decode cX4_init 18 = .ok (.invokestatic 17, 3) := by decide +kernel
theorem dX4_init_21 : decode cX4_init 21 = .ok (.iastore, 1) := by decide +kernel
theorem dX4_init_22 : decode cX4_init 22 = .ok (.dup, 1) := by decide +kernel
theorem dX4_init_23 : decode cX4_init 23 = .ok (.iconst 1, 1) := by decide +kernel
theorem dX4_init_24 : decode cX4_init 24 = .ok (.ldc 21, 2) := by decide +kernel
theorem dX4_init_26 : decode cX4_init 26 = .ok (.invokestatic 17, 3) := by decide +kernel
theorem dX4_init_29 : decode cX4_init 29 = .ok (.iastore, 1) := by decide +kernel
theorem dX4_init_30 : decode cX4_init 30 = .ok (.dup, 1) := by decide +kernel
theorem dX4_init_31 : decode cX4_init 31 = .ok (.iconst 2, 1) := by decide +kernel
theorem dX4_init_32 : decode cX4_init 32 = .ok (.ldc 23, 2) := by decide +kernel
theorem dX4_init_34 : decode cX4_init 34 = .ok (.invokestatic 17, 3) := by decide +kernel
theorem dX4_init_37 : decode cX4_init 37 = .ok (.iastore, 1) := by decide +kernel
theorem dX4_init_38 : decode cX4_init 38 = .ok (.dup, 1) := by decide +kernel
theorem dX4_init_39 : decode cX4_init 39 = .ok (.iconst 3, 1) := by decide +kernel
theorem dX4_init_40 : decode cX4_init 40 = .ok (.ldc 25, 2) := by decide +kernel
theorem dX4_init_42 : decode cX4_init 42 = .ok (.invokestatic 17, 3) := by decide +kernel
theorem dX4_init_45 : decode cX4_init 45 = .ok (.iastore, 1) := by decide +kernel
theorem dX4_init_46 : decode cX4_init 46 = .ok (.dup, 1) := by decide +kernel
theorem dX4_init_47 : decode cX4_init 47 = .ok (.iconst 4, 1) := by decide +kernel
theorem dX4_init_48 : decode cX4_init 48 = .ok (.ldc 27, 2) := by decide +kernel
theorem dX4_init_50 : decode cX4_init 50 = .ok (.invokestatic 17, 3) := by decide +kernel
theorem dX4_init_53 : decode cX4_init 53 = .ok (.iastore, 1) := by decide +kernel
theorem dX4_init_54 : decode cX4_init 54 = .ok (.dup, 1) := by decide +kernel
theorem dX4_init_55 : decode cX4_init 55 = .ok (.iconst 5, 1) := by decide +kernel
theorem dX4_init_56 : decode cX4_init 56 = .ok (.ldc 29, 2) := by decide +kernel
theorem dX4_init_58 : decode cX4_init 58 = .ok (.invokestatic 17, 3) := by decide +kernel
theorem dX4_init_61 : decode cX4_init 61 = .ok (.iastore, 1) := by decide +kernel
theorem dX4_init_62 : decode cX4_init 62 = .ok (.dup, 1) := by decide +kernel
theorem dX4_init_63 : decode cX4_init 63 = .ok (.bipush 6, 2) := by decide +kernel
theorem dX4_init_65 : decode cX4_init 65 = .ok (.ldc 31, 2) := by decide +kernel
theorem dX4_init_67 : decode cX4_init 67 = .ok (.invokestatic 17, 3) := by decide +kernel
theorem dX4_init_70 : decode cX4_init 70 = .ok (.iastore, 1) := by decide +kernel
theorem dX4_init_71 : decode cX4_init 71 = .ok (.dup, 1) := by decide +kernel
theorem dX4_init_72 : decode cX4_init 72 = .ok (.bipush 7, 2) := by decide +kernel
theorem dX4_init_74 : decode cX4_init 74 = .ok (.ldc 33, 2) := by decide +kernel
theorem dX4_init_76 : decode cX4_init 76 = .ok (.invokestatic 17, 3) := by decide +kernel
theorem dX4_init_79 : decode cX4_init 79 = .ok (.iastore, 1) := by decide +kernel
theorem dX4_init_80 : decode cX4_init 80 = .ok (.putfield 35, 3) := by decide +kernel
theorem dX4_init_83 : decode cX4_init 83 = .ok (.aload_n 0, 1) := by decide +kernel
theorem dX4_init_84 : decode cX4_init 84 = .ok (.iconst 3, 1) := by decide +kernel
theorem dX4_init_85 : decode cX4_init 85 = .ok (.newarray .int, 2) := by decide +kernel
theorem dX4_init_87 : decode cX4_init 87 = .ok (.putfield 39, 3) := by decide +kernel
theorem dX4_init_90 : decode cX4_init 90 = .ok (.aload_n 0, 1) := by decide +kernel
theorem dX4_init_91 : decode cX4_init 91 = .ok (.bipush 8, 2) := by decide +kernel
theorem dX4_init_93 : decode cX4_init 93 = .ok (.newarray .int, 2) := by decide +kernel
theorem dX4_init_95 : decode cX4_init 95 = .ok (.putfield 42, 3) := by decide +kernel
theorem dX4_init_98 : decode cX4_init 98 = .ok (.return_, 1) := by decide +kernel
def vs_X4_init : List Cond := .code yX4_init cX4_init 1 none :: ([.methodLink RX4 3 objectInit, .instanceMethod objectInit, .code objectInit ⟨#[0xb1]⟩ 1 none, .fieldLink RX4 9 "ClockReach$Reader" "faultAt" "I", .arrayClass .int, .methodLink RX4 17 yX4_code, .static yX4_code, .initialized RX4, .code yX4_code cX4_code 3 (some .int), .methodLink RX4 45 yJ0_length_8abf5, .instanceMethod yJ0_length_8abf5, .selects RJ0 yJ0_length_8abf5 yJ0_length_8abf5, .initialized RJ0, .code yJ0_length_8abf5 cJ0_length_8abf5 1 (some .int), .fieldLink RJ0 9 "java/lang/String" "value" "[B", .methodLink RJ0 335 yJ0_coder_7d493, .instanceMethod yJ0_coder_7d493, .selects RJ0 yJ0_coder_7d493 yJ0_coder_7d493, .code yJ0_coder_7d493 cJ0_coder_7d493 1 (some .byte), .fieldLink RJ0 38 "java/lang/String" "COMPACT_STRINGS" "Z", .fieldLink RJ0 15 "java/lang/String" "coder" "B", .methodLink RX4 51 yJ0_charAt_5068e, .instanceMethod yJ0_charAt_5068e, .selects RJ0 yJ0_charAt_5068e yJ0_charAt_5068e, .code yJ0_charAt_5068e cJ0_charAt_5068e 2 (some .char), .methodLink RJ0 492 yJ0_isLatin1_aae02, .instanceMethod yJ0_isLatin1_aae02, .selects RJ0 yJ0_isLatin1_aae02 yJ0_isLatin1_aae02, .code yJ0_isLatin1_aae02 cJ0_isLatin1_aae02 1 (some .boolean), .methodLink RJ0 495 yJ1_charAt_3b067, .static yJ1_charAt_3b067, .initialized RJ1, .code yJ1_charAt_3b067 cJ1_charAt_3b067 2 (some .char), .methodLink RJ1 9 yJ0_checkIndex_df160, .static yJ0_checkIndex_df160, .code yJ0_checkIndex_df160 cJ0_checkIndex_df160 2 none, .fieldLink RJ0 1053 "jdk/internal/util/Preconditions" "SIOOBE_FORMATTER" "Ljava/util/function/BiFunction;", .methodLink RJ0 1059 yJ3_checkIndex_8e157, .static yJ3_checkIndex_8e157, .initialized RJ3, .code yJ3_checkIndex_8e157 cJ3_checkIndex_8e157 3 (some .int), .fieldLink RX4 35 "ClockReach$Reader" "words" "[I", .fieldLink RX4 39 "ClockReach$Reader" "clockNames" "[I", .fieldLink RX4 42 "ClockReach$Reader" "placeNames" "[I"] ++ wsX40)
theorem g_X4_init_X4_code_0 : GoodIn vs_X4_init (va_wsS RX4 17 yX4_code vs_X4_code_0) := goodIn_r _ [6, 7, 8, 9, 10, 11, 12, 13, 14, 15, 16, 17, 18, 19, 20, 21, 22, 23, 24, 25, 26, 27, 28, 29, 30, 31, 32, 33, 34, 35, 36, 37, 38, 39, 40, 41] (by decide +kernel) (by decide +kernel)
theorem g_X4_init_X4_code_1 : GoodIn vs_X4_init (va_wsS RX4 17 yX4_code vs_X4_code_1) := goodIn_r _ [6, 7, 8, 9, 10, 11, 12, 13, 14, 15, 16, 17, 18, 19, 20, 21, 22, 23, 24, 25, 26, 27, 28, 29, 30, 31, 32, 33, 34, 35, 36, 37, 38, 39, 40, 41] (by decide +kernel) (by decide +kernel)
theorem g_X4_init_X4_code_2 : GoodIn vs_X4_init (va_wsS RX4 17 yX4_code vs_X4_code_2) := goodIn_r _ [6, 7, 8, 9, 10, 11, 12, 13, 14, 15, 16, 17, 18, 19, 20, 21, 22, 23, 24, 25, 26, 27, 28, 29, 30, 31, 32, 33, 34, 35, 36, 37, 38, 39, 40, 41] (by decide +kernel) (by decide +kernel)
theorem g_X4_init_X4_code_3 : GoodIn vs_X4_init (va_wsS RX4 17 yX4_code vs_X4_code_3) := goodIn_r _ [6, 7, 8, 9, 10, 11, 12, 13, 14, 15, 16, 17, 18, 19, 20, 21, 22, 23, 24, 25, 26, 27, 28, 29, 30, 31, 32, 33, 34, 35, 36, 37, 38, 39, 40, 41] (by decide +kernel) (by decide +kernel)
theorem g_X4_init_X4_code_4 : GoodIn vs_X4_init (va_wsS RX4 17 yX4_code vs_X4_code_4) := goodIn_r _ [6, 7, 8, 9, 10, 11, 12, 13, 14, 15, 16, 17, 18, 19, 20, 21, 22, 23, 24, 25, 26, 27, 28, 29, 30, 31, 32, 33, 34, 35, 36, 37, 38, 39, 40, 41] (by decide +kernel) (by decide +kernel)
theorem g_X4_init_X4_code_5 : GoodIn vs_X4_init (va_wsS RX4 17 yX4_code vs_X4_code_5) := goodIn_r _ [6, 7, 8, 9, 10, 11, 12, 13, 14, 15, 16, 17, 18, 19, 20, 21, 22, 23, 24, 25, 26, 27, 28, 29, 30, 31, 32, 33, 34, 35, 36, 37, 38, 39, 40, 41] (by decide +kernel) (by decide +kernel)
theorem g_X4_init_X4_code_6 : GoodIn vs_X4_init (va_wsS RX4 17 yX4_code vs_X4_code_6) := goodIn_r _ [6, 7, 8, 9, 10, 11, 12, 13, 14, 15, 16, 17, 18, 19, 20, 21, 22, 23, 24, 25, 26, 27, 28, 29, 30, 31, 32, 33, 34, 35, 36, 37, 38, 39, 40, 41] (by decide +kernel) (by decide +kernel)
theorem g_X4_init_X4_code_7 : GoodIn vs_X4_init (va_wsS RX4 17 yX4_code vs_X4_code_7) := goodIn_r _ [6, 7, 8, 9, 10, 11, 12, 13, 14, 15, 16, 17, 18, 19, 20, 21, 22, 23, 24, 25, 26, 27, 28, 29, 30, 31, 32, 33, 34, 35, 36, 37, 38, 39, 40, 41] (by decide +kernel) (by decide +kernel)
set_option maxHeartbeats 4000000 in
set_option maxRecDepth 100000 in
theorem c_X4_init (l : Launch) (dC : Nat → ClassId) (dI : Nat → Nat → Nat) (sz : Nat) (adK adV : Nat → Nat) (fz : Option Nat) (h0 : Nat) : Met l yX4_init vs_X4_init ({ frames := 5, cells := 3, slots := 19, locals := 107 }) (va_Pc [.ref h0] (pu_X adK adV fz (dC, dI) [(h0, .inr (4, [.int 0, .int 0, .null, .int 0, .int 0, .int 0, .int 0, .int 0, .null, .null, .null, .null]))] [] sz)) (va_Qv (fun (_ : Unit) => True) (fun _ t => ∃ (q1 q2 q3 : Nat) (k1 k2 k3 : ClassId), pu_E (dC, dI) [(h0, .inr (4, [.int 0, .int (-1), .null, .int 0, .int 0, .int 0, .int 0, .int 0, .null, .ref q1, .ref q2, .ref q3])), (q1, .inl (k1, 8, .inl (upd (upd (upd (upd (upd (upd (upd (upd (fun _ => 0) (0 : Int32).toNatClampNeg 3554411) (1 : Int32).toNatClampNeg 17171557) (2 : Int32).toNatClampNeg 723752404) (3 : Int32).toNatClampNeg 22499628) (4 : Int32).toNatClampNeg 20579924) (5 : Int32).toNatClampNeg 168165) (6 : Int32).toNatClampNeg 762030) (7 : Int32).toNatClampNeg 19057844))), (q2, .inl (k2, 3, .inl (fun _ => 0))), (q3, .inl (k3, 8, .inl (fun _ => 0)))] [(k1, .int), (k2, .int), (k3, .int)] (va_A ([(h0, .inr (4, [.int 0, .int 0, .null, .int 0, .int 0, .int 0, .int 0, .int 0, .null, .null, .null, .null]))]) sz) t) (va_A ([(h0, .inr (4, [.int 0, .int 0, .null, .int 0, .int 0, .int 0, .int 0, .int 0, .null, .null, .null, .null]))]) sz)) 3 19 (va_A ([(h0, .inr (4, [.int 0, .int 0, .null, .int 0, .int 0, .int 0, .int 0, .int 0, .null, .null, .null, .null]))]) sz) := by
  refine Met.ofW (cc := cX4_init) (maxL := 1) (ret := none) (by decide) rfl ?_
  intro p e s m args below meth c s₁ B hml hv
  obtain ⟨rfl, ⟨rfl, hP, hK, hD0⟩, hE⟩ := hv
  have hx := B.exec
  have hb := B.bytes
  have hr := B.returns
  have hts := atoms_spec (ws := vs_X4_init) B.pre
  have v_1 := hts (.methodLink RX4 3 objectInit) (List.mem_of_getElem? (i := 1) rfl)
  have v_2 := hts (.instanceMethod objectInit) (List.mem_of_getElem? (i := 2) rfl)
  have v_3 := hts (.code objectInit ⟨#[0xb1]⟩ 1 none) (List.mem_of_getElem? (i := 3) rfl)
  have v_4 := hts (.fieldLink RX4 9 "ClockReach$Reader" "faultAt" "I") (List.mem_of_getElem? (i := 4) rfl)
  have v_5 := hts (.arrayClass .int) (List.mem_of_getElem? (i := 5) rfl)
  have v_42 := hts (.fieldLink RX4 35 "ClockReach$Reader" "words" "[I") (List.mem_of_getElem? (i := 42) rfl)
  have v_43 := hts (.fieldLink RX4 39 "ClockReach$Reader" "clockNames" "[I") (List.mem_of_getElem? (i := 43) rfl)
  have v_44 := hts (.fieldLink RX4 42 "ClockReach$Reader" "placeNames" "[I") (List.mem_of_getElem? (i := 44) rfl)
  have hown : s.vm.findClass RX4 = some m.cls := findClass_of_methodNamed B.named
  have hlocks := B.notSynchronized
  have hin : meth.name = "<init>" := (name_of_methodNamed B.named B.method).1
  have hiX4 : ∀ w ∈ wsX40, w ∈ vs_X4_init := fun _ h => List.mem_cons_of_mem _ (List.mem_append_right _ h)
  have hD := hD0.self (sz := s.heap.size)
  generalize hAe : va_A ([(h0, .inr (4, [.int 0, .int 0, .null, .int 0, .int 0, .int 0, .int 0, .int 0, .null, .null, .null, .null]))]) s.heap.size = A at hD hE ⊢
  have hA : ∀ q : Nat, s.heap.size ≤ q → A q := fun q h => by rw [← hAe]; exact Or.inr h
  have hS : va_S A s.heap s.heap [] := va_S.rf
  have hl := lv_entry ([.ref h0]) (n := 1) (Nat.le_of_ble_eq_true rfl)
  rw [lg_entry_eq]
  generalize (lg_sl ([.ref h0]) ++ List.replicate (1 - (lg_sl ([.ref h0])).length) Slot.unset).toArray = ls at hl ⊢
  have hl : lv_has ls 1 [(0, .ref h0)] := hl
  refine lv_aload_n hx hb dX4_init_0 rfl (lv_at hl 0 rfl) ?_
  refine W.objInit hx hb hown v_1 v_2 v_3 rfl (by rw [hml]; exact hl.1) rfl dX4_init_1 (Nat.le_of_ble_eq_true rfl) (Nat.le_of_ble_eq_true rfl) ?_
  refine W.eq (g2 := F0 m 4 ls []) rfl ?_
  refine lv_aload_n hx hb dX4_init_4 rfl (lv_at hl 0 rfl) ?_
  refine lv_iconst (v := (-1)) hx hb dX4_init_5 (by decide) ?_
  refine va_put (D := (dC, dI)) (ci := 4) (v := .int (-1)) (ty := .int) (C := RX4) (T := TX4) (N := 12) hx hb hts hiX4 tyX4 tyX4_ok nmX4 hown hK hP hD hS 0 rfl rfl 1 (by decide) v_4 (fun _ h9 => h9) rfl (by decide +kernel) rfl rfl (Nat.le_of_ble_eq_true rfl) dX4_init_6 (fun H locs hP hD hS => ?_)
  have hP : va_P (dC, dI) vwCl [(h0, .inr (4, [.int 0, .int (-1), .null, .int 0, .int 0, .int 0, .int 0, .int 0, .null, .null, .null, .null]))] H := hP
  have hD : va_D A [(h0, .inr (4, [.int 0, .int (-1), .null, .int 0, .int 0, .int 0, .int 0, .int 0, .null, .null, .null, .null]))] := hD
  refine lv_aload_n hx hb dX4_init_9 rfl (lv_at hl 0 rfl) ?_
  refine lv_bipush (v := 8) hx hb dX4_init_10 (by decide) ?_
  refine va_newa (atype := .int) (ty := .int) (N' := 8) (a0 := (8, .inl (fun _ => 0))) hx hb v_5 rfl hK hP hD hS hA (fun _ => rfl) (by decide) (by decide) (Nat.le_of_ble_eq_true rfl) (Nat.le_of_ble_eq_true rfl) (Nat.le_of_ble_eq_true rfl) dX4_init_12 (fun q_1 k_2 H hK hP hD hS => ?_)
  have hP : va_P (dC, dI) vwCl [(h0, .inr (4, [.int 0, .int (-1), .null, .int 0, .int 0, .int 0, .int 0, .int 0, .null, .null, .null, .null])), (q_1, .inl (k_2, 8, .inl (fun _ => 0)))] H := hP
  have hD : va_D A [(h0, .inr (4, [.int 0, .int (-1), .null, .int 0, .int 0, .int 0, .int 0, .int 0, .null, .null, .null, .null])), (q_1, .inl (k_2, 8, .inl (fun _ => 0)))] := hD
  have hK : va_K (dC, dI) vwCl [(k_2, .int)] s := hK
  refine W.widen (k := 1) (n := 8) (by omega) (by omega) ?_
  refine lv_dup hx hb dX4_init_14 rfl ?_
  refine lv_iconst (v := 0) hx hb dX4_init_15 (by decide) ?_
  refine va_ldcS hx hb hown (hE.2.2.1 0 (by decide)) dX4_init_16 ?_
  refine va_calli (va_runS (As := [.ref (adK 0)]) (rest := [.int 0, .ref q_1, .ref q_1, .ref h0]) ⟨hx, hb, hml, hown, hts⟩ (c_X4_code_0 l dC dI _ adK adV fz) (va_cwS 1 hts g_X4_init_X4_code_0 rfl rfl rfl (by decide +kernel) ⟨Nat.le_of_ble_eq_true rfl, Nat.le_of_ble_eq_true rfl⟩) ⟨pu_blx, pu_inx (hP.sub [] rfl) (hK.sub [] rfl) (hD.sub [] (by decide) rfl) hE hS (pu_fr hS hA)⟩ rfl rfl hl.1 rfl (lv_room (Nat.le_of_ble_eq_true rfl)) dX4_init_18 ⟨Nat.le_of_ble_eq_true rfl, Nat.le_of_ble_eq_true rfl⟩) hS (fun q _ h => pu_fr hS hA q h) (pu_fr hS hA) (fun r_3 u t H1 locs ht hvm hw hB hz1 hk1 hS => ?_)
  have hP := pu_keep hP hk1
  clear hk1 hz1 ht hvm
  generalize H1 = H at hP hS ⊢
  obtain rfl : r_3 = 3554411 := hw
  refine va_iast hx hb hK hP hD hS 1 0 rfl rfl (show ¬ (_ ∨ _) by decide) dX4_init_21 (fun H locs hP hD hS => ?_)
  have hP : va_P (dC, dI) vwCl [(h0, .inr (4, [.int 0, .int (-1), .null, .int 0, .int 0, .int 0, .int 0, .int 0, .null, .null, .null, .null])), (q_1, .inl (k_2, 8, .inl (upd (fun _ => 0) (0 : Int32).toNatClampNeg 3554411)))] H := hP
  have hD : va_D A [(h0, .inr (4, [.int 0, .int (-1), .null, .int 0, .int 0, .int 0, .int 0, .int 0, .null, .null, .null, .null])), (q_1, .inl (k_2, 8, .inl (upd (fun _ => 0) (0 : Int32).toNatClampNeg 3554411)))] := hD
  refine lv_dup hx hb dX4_init_22 rfl ?_
  refine lv_iconst (v := 1) hx hb dX4_init_23 (by decide) ?_
  refine va_ldcS hx hb hown (hE.2.2.1 1 (by decide)) dX4_init_24 ?_
  refine va_calli (va_runS (As := [.ref (adK 1)]) (rest := [.int 1, .ref q_1, .ref q_1, .ref h0]) ⟨hx, hb, hml, hown, hts⟩ (c_X4_code_1 l dC dI _ adK adV fz) (va_cwS 1 hts g_X4_init_X4_code_1 rfl rfl rfl (by decide +kernel) ⟨Nat.le_of_ble_eq_true rfl, Nat.le_of_ble_eq_true rfl⟩) ⟨pu_blx, pu_inx (hP.sub [] rfl) (hK.sub [] rfl) (hD.sub [] (by decide) rfl) hE hS (pu_fr hS hA)⟩ rfl rfl hl.1 rfl (lv_room (Nat.le_of_ble_eq_true rfl)) dX4_init_26 ⟨Nat.le_of_ble_eq_true rfl, Nat.le_of_ble_eq_true rfl⟩) hS (fun q _ h => pu_fr hS hA q h) (pu_fr hS hA) (fun r_4 u t H1 locs ht hvm hw hB hz1 hk1 hS => ?_)
  have hP := pu_keep hP hk1
  clear hk1 hz1 ht hvm
  generalize H1 = H at hP hS ⊢
  obtain rfl : r_4 = 17171557 := hw
  refine va_iast hx hb hK hP hD hS 1 0 rfl rfl (show ¬ (_ ∨ _) by decide) dX4_init_29 (fun H locs hP hD hS => ?_)
  have hP : va_P (dC, dI) vwCl [(h0, .inr (4, [.int 0, .int (-1), .null, .int 0, .int 0, .int 0, .int 0, .int 0, .null, .null, .null, .null])), (q_1, .inl (k_2, 8, .inl (upd (upd (fun _ => 0) (0 : Int32).toNatClampNeg 3554411) (1 : Int32).toNatClampNeg 17171557)))] H := hP
  have hD : va_D A [(h0, .inr (4, [.int 0, .int (-1), .null, .int 0, .int 0, .int 0, .int 0, .int 0, .null, .null, .null, .null])), (q_1, .inl (k_2, 8, .inl (upd (upd (fun _ => 0) (0 : Int32).toNatClampNeg 3554411) (1 : Int32).toNatClampNeg 17171557)))] := hD
  refine lv_dup hx hb dX4_init_30 rfl ?_
  refine lv_iconst (v := 2) hx hb dX4_init_31 (by decide) ?_
  refine va_ldcS hx hb hown (hE.2.2.1 2 (by decide)) dX4_init_32 ?_
  refine va_calli (va_runS (As := [.ref (adK 2)]) (rest := [.int 2, .ref q_1, .ref q_1, .ref h0]) ⟨hx, hb, hml, hown, hts⟩ (c_X4_code_2 l dC dI _ adK adV fz) (va_cwS 1 hts g_X4_init_X4_code_2 rfl rfl rfl (by decide +kernel) ⟨Nat.le_of_ble_eq_true rfl, Nat.le_of_ble_eq_true rfl⟩) ⟨pu_blx, pu_inx (hP.sub [] rfl) (hK.sub [] rfl) (hD.sub [] (by decide) rfl) hE hS (pu_fr hS hA)⟩ rfl rfl hl.1 rfl (lv_room (Nat.le_of_ble_eq_true rfl)) dX4_init_34 ⟨Nat.le_of_ble_eq_true rfl, Nat.le_of_ble_eq_true rfl⟩) hS (fun q _ h => pu_fr hS hA q h) (pu_fr hS hA) (fun r_5 u t H1 locs ht hvm hw hB hz1 hk1 hS => ?_)
  have hP := pu_keep hP hk1
  clear hk1 hz1 ht hvm
  generalize H1 = H at hP hS ⊢
  obtain rfl : r_5 = 723752404 := hw
  refine va_iast hx hb hK hP hD hS 1 0 rfl rfl (show ¬ (_ ∨ _) by decide) dX4_init_37 (fun H locs hP hD hS => ?_)
  have hP : va_P (dC, dI) vwCl [(h0, .inr (4, [.int 0, .int (-1), .null, .int 0, .int 0, .int 0, .int 0, .int 0, .null, .null, .null, .null])), (q_1, .inl (k_2, 8, .inl (upd (upd (upd (fun _ => 0) (0 : Int32).toNatClampNeg 3554411) (1 : Int32).toNatClampNeg 17171557) (2 : Int32).toNatClampNeg 723752404)))] H := hP
  have hD : va_D A [(h0, .inr (4, [.int 0, .int (-1), .null, .int 0, .int 0, .int 0, .int 0, .int 0, .null, .null, .null, .null])), (q_1, .inl (k_2, 8, .inl (upd (upd (upd (fun _ => 0) (0 : Int32).toNatClampNeg 3554411) (1 : Int32).toNatClampNeg 17171557) (2 : Int32).toNatClampNeg 723752404)))] := hD
  refine lv_dup hx hb dX4_init_38 rfl ?_
  refine lv_iconst (v := 3) hx hb dX4_init_39 (by decide) ?_
  refine va_ldcS hx hb hown (hE.2.2.1 3 (by decide)) dX4_init_40 ?_
  refine va_calli (va_runS (As := [.ref (adK 3)]) (rest := [.int 3, .ref q_1, .ref q_1, .ref h0]) ⟨hx, hb, hml, hown, hts⟩ (c_X4_code_3 l dC dI _ adK adV fz) (va_cwS 1 hts g_X4_init_X4_code_3 rfl rfl rfl (by decide +kernel) ⟨Nat.le_of_ble_eq_true rfl, Nat.le_of_ble_eq_true rfl⟩) ⟨pu_blx, pu_inx (hP.sub [] rfl) (hK.sub [] rfl) (hD.sub [] (by decide) rfl) hE hS (pu_fr hS hA)⟩ rfl rfl hl.1 rfl (lv_room (Nat.le_of_ble_eq_true rfl)) dX4_init_42 ⟨Nat.le_of_ble_eq_true rfl, Nat.le_of_ble_eq_true rfl⟩) hS (fun q _ h => pu_fr hS hA q h) (pu_fr hS hA) (fun r_6 u t H1 locs ht hvm hw hB hz1 hk1 hS => ?_)
  have hP := pu_keep hP hk1
  clear hk1 hz1 ht hvm
  generalize H1 = H at hP hS ⊢
  obtain rfl : r_6 = 22499628 := hw
  refine va_iast hx hb hK hP hD hS 1 0 rfl rfl (show ¬ (_ ∨ _) by decide) dX4_init_45 (fun H locs hP hD hS => ?_)
  have hP : va_P (dC, dI) vwCl [(h0, .inr (4, [.int 0, .int (-1), .null, .int 0, .int 0, .int 0, .int 0, .int 0, .null, .null, .null, .null])), (q_1, .inl (k_2, 8, .inl (upd (upd (upd (upd (fun _ => 0) (0 : Int32).toNatClampNeg 3554411) (1 : Int32).toNatClampNeg 17171557) (2 : Int32).toNatClampNeg 723752404) (3 : Int32).toNatClampNeg 22499628)))] H := hP
  have hD : va_D A [(h0, .inr (4, [.int 0, .int (-1), .null, .int 0, .int 0, .int 0, .int 0, .int 0, .null, .null, .null, .null])), (q_1, .inl (k_2, 8, .inl (upd (upd (upd (upd (fun _ => 0) (0 : Int32).toNatClampNeg 3554411) (1 : Int32).toNatClampNeg 17171557) (2 : Int32).toNatClampNeg 723752404) (3 : Int32).toNatClampNeg 22499628)))] := hD
  refine lv_dup hx hb dX4_init_46 rfl ?_
  refine lv_iconst (v := 4) hx hb dX4_init_47 (by decide) ?_
  refine va_ldcS hx hb hown (hE.2.2.1 4 (by decide)) dX4_init_48 ?_
  refine va_calli (va_runS (As := [.ref (adK 4)]) (rest := [.int 4, .ref q_1, .ref q_1, .ref h0]) ⟨hx, hb, hml, hown, hts⟩ (c_X4_code_4 l dC dI _ adK adV fz) (va_cwS 1 hts g_X4_init_X4_code_4 rfl rfl rfl (by decide +kernel) ⟨Nat.le_of_ble_eq_true rfl, Nat.le_of_ble_eq_true rfl⟩) ⟨pu_blx, pu_inx (hP.sub [] rfl) (hK.sub [] rfl) (hD.sub [] (by decide) rfl) hE hS (pu_fr hS hA)⟩ rfl rfl hl.1 rfl (lv_room (Nat.le_of_ble_eq_true rfl)) dX4_init_50 ⟨Nat.le_of_ble_eq_true rfl, Nat.le_of_ble_eq_true rfl⟩) hS (fun q _ h => pu_fr hS hA q h) (pu_fr hS hA) (fun r_7 u t H1 locs ht hvm hw hB hz1 hk1 hS => ?_)
  have hP := pu_keep hP hk1
  clear hk1 hz1 ht hvm
  generalize H1 = H at hP hS ⊢
  obtain rfl : r_7 = 20579924 := hw
  refine va_iast hx hb hK hP hD hS 1 0 rfl rfl (show ¬ (_ ∨ _) by decide) dX4_init_53 (fun H locs hP hD hS => ?_)
  have hP : va_P (dC, dI) vwCl [(h0, .inr (4, [.int 0, .int (-1), .null, .int 0, .int 0, .int 0, .int 0, .int 0, .null, .null, .null, .null])), (q_1, .inl (k_2, 8, .inl (upd (upd (upd (upd (upd (fun _ => 0) (0 : Int32).toNatClampNeg 3554411) (1 : Int32).toNatClampNeg 17171557) (2 : Int32).toNatClampNeg 723752404) (3 : Int32).toNatClampNeg 22499628) (4 : Int32).toNatClampNeg 20579924)))] H := hP
  have hD : va_D A [(h0, .inr (4, [.int 0, .int (-1), .null, .int 0, .int 0, .int 0, .int 0, .int 0, .null, .null, .null, .null])), (q_1, .inl (k_2, 8, .inl (upd (upd (upd (upd (upd (fun _ => 0) (0 : Int32).toNatClampNeg 3554411) (1 : Int32).toNatClampNeg 17171557) (2 : Int32).toNatClampNeg 723752404) (3 : Int32).toNatClampNeg 22499628) (4 : Int32).toNatClampNeg 20579924)))] := hD
  refine lv_dup hx hb dX4_init_54 rfl ?_
  refine lv_iconst (v := 5) hx hb dX4_init_55 (by decide) ?_
  refine va_ldcS hx hb hown (hE.2.2.1 5 (by decide)) dX4_init_56 ?_
  refine va_calli (va_runS (As := [.ref (adK 5)]) (rest := [.int 5, .ref q_1, .ref q_1, .ref h0]) ⟨hx, hb, hml, hown, hts⟩ (c_X4_code_5 l dC dI _ adK adV fz) (va_cwS 1 hts g_X4_init_X4_code_5 rfl rfl rfl (by decide +kernel) ⟨Nat.le_of_ble_eq_true rfl, Nat.le_of_ble_eq_true rfl⟩) ⟨pu_blx, pu_inx (hP.sub [] rfl) (hK.sub [] rfl) (hD.sub [] (by decide) rfl) hE hS (pu_fr hS hA)⟩ rfl rfl hl.1 rfl (lv_room (Nat.le_of_ble_eq_true rfl)) dX4_init_58 ⟨Nat.le_of_ble_eq_true rfl, Nat.le_of_ble_eq_true rfl⟩) hS (fun q _ h => pu_fr hS hA q h) (pu_fr hS hA) (fun r_8 u t H1 locs ht hvm hw hB hz1 hk1 hS => ?_)
  have hP := pu_keep hP hk1
  clear hk1 hz1 ht hvm
  generalize H1 = H at hP hS ⊢
  obtain rfl : r_8 = 168165 := hw
  refine va_iast hx hb hK hP hD hS 1 0 rfl rfl (show ¬ (_ ∨ _) by decide) dX4_init_61 (fun H locs hP hD hS => ?_)
  have hP : va_P (dC, dI) vwCl [(h0, .inr (4, [.int 0, .int (-1), .null, .int 0, .int 0, .int 0, .int 0, .int 0, .null, .null, .null, .null])), (q_1, .inl (k_2, 8, .inl (upd (upd (upd (upd (upd (upd (fun _ => 0) (0 : Int32).toNatClampNeg 3554411) (1 : Int32).toNatClampNeg 17171557) (2 : Int32).toNatClampNeg 723752404) (3 : Int32).toNatClampNeg 22499628) (4 : Int32).toNatClampNeg 20579924) (5 : Int32).toNatClampNeg 168165)))] H := hP
  have hD : va_D A [(h0, .inr (4, [.int 0, .int (-1), .null, .int 0, .int 0, .int 0, .int 0, .int 0, .null, .null, .null, .null])), (q_1, .inl (k_2, 8, .inl (upd (upd (upd (upd (upd (upd (fun _ => 0) (0 : Int32).toNatClampNeg 3554411) (1 : Int32).toNatClampNeg 17171557) (2 : Int32).toNatClampNeg 723752404) (3 : Int32).toNatClampNeg 22499628) (4 : Int32).toNatClampNeg 20579924) (5 : Int32).toNatClampNeg 168165)))] := hD
  refine lv_dup hx hb dX4_init_62 rfl ?_
  refine lv_bipush (v := 6) hx hb dX4_init_63 (by decide) ?_
  refine va_ldcS hx hb hown (hE.2.2.1 6 (by decide)) dX4_init_65 ?_
  refine va_calli (va_runS (As := [.ref (adK 6)]) (rest := [.int 6, .ref q_1, .ref q_1, .ref h0]) ⟨hx, hb, hml, hown, hts⟩ (c_X4_code_6 l dC dI _ adK adV fz) (va_cwS 1 hts g_X4_init_X4_code_6 rfl rfl rfl (by decide +kernel) ⟨Nat.le_of_ble_eq_true rfl, Nat.le_of_ble_eq_true rfl⟩) ⟨pu_blx, pu_inx (hP.sub [] rfl) (hK.sub [] rfl) (hD.sub [] (by decide) rfl) hE hS (pu_fr hS hA)⟩ rfl rfl hl.1 rfl (lv_room (Nat.le_of_ble_eq_true rfl)) dX4_init_67 ⟨Nat.le_of_ble_eq_true rfl, Nat.le_of_ble_eq_true rfl⟩) hS (fun q _ h => pu_fr hS hA q h) (pu_fr hS hA) (fun r_9 u t H1 locs ht hvm hw hB hz1 hk1 hS => ?_)
  have hP := pu_keep hP hk1
  clear hk1 hz1 ht hvm
  generalize H1 = H at hP hS ⊢
  obtain rfl : r_9 = 762030 := hw
  refine va_iast hx hb hK hP hD hS 1 0 rfl rfl (show ¬ (_ ∨ _) by decide) dX4_init_70 (fun H locs hP hD hS => ?_)
  have hP : va_P (dC, dI) vwCl [(h0, .inr (4, [.int 0, .int (-1), .null, .int 0, .int 0, .int 0, .int 0, .int 0, .null, .null, .null, .null])), (q_1, .inl (k_2, 8, .inl (upd (upd (upd (upd (upd (upd (upd (fun _ => 0) (0 : Int32).toNatClampNeg 3554411) (1 : Int32).toNatClampNeg 17171557) (2 : Int32).toNatClampNeg 723752404) (3 : Int32).toNatClampNeg 22499628) (4 : Int32).toNatClampNeg 20579924) (5 : Int32).toNatClampNeg 168165) (6 : Int32).toNatClampNeg 762030)))] H := hP
  have hD : va_D A [(h0, .inr (4, [.int 0, .int (-1), .null, .int 0, .int 0, .int 0, .int 0, .int 0, .null, .null, .null, .null])), (q_1, .inl (k_2, 8, .inl (upd (upd (upd (upd (upd (upd (upd (fun _ => 0) (0 : Int32).toNatClampNeg 3554411) (1 : Int32).toNatClampNeg 17171557) (2 : Int32).toNatClampNeg 723752404) (3 : Int32).toNatClampNeg 22499628) (4 : Int32).toNatClampNeg 20579924) (5 : Int32).toNatClampNeg 168165) (6 : Int32).toNatClampNeg 762030)))] := hD
  refine lv_dup hx hb dX4_init_71 rfl ?_
  refine lv_bipush (v := 7) hx hb dX4_init_72 (by decide) ?_
  refine va_ldcS hx hb hown (hE.2.2.1 7 (by decide)) dX4_init_74 ?_
  refine va_calli (va_runS (As := [.ref (adK 7)]) (rest := [.int 7, .ref q_1, .ref q_1, .ref h0]) ⟨hx, hb, hml, hown, hts⟩ (c_X4_code_7 l dC dI _ adK adV fz) (va_cwS 1 hts g_X4_init_X4_code_7 rfl rfl rfl (by decide +kernel) ⟨Nat.le_of_ble_eq_true rfl, Nat.le_of_ble_eq_true rfl⟩) ⟨pu_blx, pu_inx (hP.sub [] rfl) (hK.sub [] rfl) (hD.sub [] (by decide) rfl) hE hS (pu_fr hS hA)⟩ rfl rfl hl.1 rfl (lv_room (Nat.le_of_ble_eq_true rfl)) dX4_init_76 ⟨Nat.le_of_ble_eq_true rfl, Nat.le_of_ble_eq_true rfl⟩) hS (fun q _ h => pu_fr hS hA q h) (pu_fr hS hA) (fun r_10 u t H1 locs ht hvm hw hB hz1 hk1 hS => ?_)
  have hP := pu_keep hP hk1
  clear hk1 hz1 ht hvm
  generalize H1 = H at hP hS ⊢
  obtain rfl : r_10 = 19057844 := hw
  refine va_iast hx hb hK hP hD hS 1 0 rfl rfl (show ¬ (_ ∨ _) by decide) dX4_init_79 (fun H locs hP hD hS => ?_)
  have hP : va_P (dC, dI) vwCl [(h0, .inr (4, [.int 0, .int (-1), .null, .int 0, .int 0, .int 0, .int 0, .int 0, .null, .null, .null, .null])), (q_1, .inl (k_2, 8, .inl (upd (upd (upd (upd (upd (upd (upd (upd (fun _ => 0) (0 : Int32).toNatClampNeg 3554411) (1 : Int32).toNatClampNeg 17171557) (2 : Int32).toNatClampNeg 723752404) (3 : Int32).toNatClampNeg 22499628) (4 : Int32).toNatClampNeg 20579924) (5 : Int32).toNatClampNeg 168165) (6 : Int32).toNatClampNeg 762030) (7 : Int32).toNatClampNeg 19057844)))] H := hP
  have hD : va_D A [(h0, .inr (4, [.int 0, .int (-1), .null, .int 0, .int 0, .int 0, .int 0, .int 0, .null, .null, .null, .null])), (q_1, .inl (k_2, 8, .inl (upd (upd (upd (upd (upd (upd (upd (upd (fun _ => 0) (0 : Int32).toNatClampNeg 3554411) (1 : Int32).toNatClampNeg 17171557) (2 : Int32).toNatClampNeg 723752404) (3 : Int32).toNatClampNeg 22499628) (4 : Int32).toNatClampNeg 20579924) (5 : Int32).toNatClampNeg 168165) (6 : Int32).toNatClampNeg 762030) (7 : Int32).toNatClampNeg 19057844)))] := hD
  refine va_putF (D := (dC, dI)) (ci := 4) (v := .ref q_1) (ty := .array .int) (C := RX4) (T := TX4) (N := 12) hx hb hts hiX4 tyX4 tyX4_ok nmX4 hown hK hP hD hS 0 rfl rfl 9 (by decide) v_42 (fun _ h9 => h9) rfl hin rfl (by decide +kernel) rfl rfl (Nat.le_of_ble_eq_true rfl) dX4_init_80 (fun H locs hP hD hS => ?_)
  have hP : va_P (dC, dI) vwCl [(h0, .inr (4, [.int 0, .int (-1), .null, .int 0, .int 0, .int 0, .int 0, .int 0, .null, .ref q_1, .null, .null])), (q_1, .inl (k_2, 8, .inl (upd (upd (upd (upd (upd (upd (upd (upd (fun _ => 0) (0 : Int32).toNatClampNeg 3554411) (1 : Int32).toNatClampNeg 17171557) (2 : Int32).toNatClampNeg 723752404) (3 : Int32).toNatClampNeg 22499628) (4 : Int32).toNatClampNeg 20579924) (5 : Int32).toNatClampNeg 168165) (6 : Int32).toNatClampNeg 762030) (7 : Int32).toNatClampNeg 19057844)))] H := hP
  have hD : va_D A [(h0, .inr (4, [.int 0, .int (-1), .null, .int 0, .int 0, .int 0, .int 0, .int 0, .null, .ref q_1, .null, .null])), (q_1, .inl (k_2, 8, .inl (upd (upd (upd (upd (upd (upd (upd (upd (fun _ => 0) (0 : Int32).toNatClampNeg 3554411) (1 : Int32).toNatClampNeg 17171557) (2 : Int32).toNatClampNeg 723752404) (3 : Int32).toNatClampNeg 22499628) (4 : Int32).toNatClampNeg 20579924) (5 : Int32).toNatClampNeg 168165) (6 : Int32).toNatClampNeg 762030) (7 : Int32).toNatClampNeg 19057844)))] := hD
  refine lv_aload_n hx hb dX4_init_83 rfl (lv_at hl 0 rfl) ?_
  refine lv_iconst (v := 3) hx hb dX4_init_84 (by decide) ?_
  refine va_newa (atype := .int) (ty := .int) (N' := 3) (a0 := (3, .inl (fun _ => 0))) hx hb v_5 rfl hK hP hD hS hA (fun _ => rfl) (by decide) (by decide) (Nat.le_of_ble_eq_true rfl) (Nat.le_of_ble_eq_true rfl) (Nat.le_of_ble_eq_true rfl) dX4_init_85 (fun q_11 k_12 H hK hP hD hS => ?_)
  have hP : va_P (dC, dI) vwCl [(h0, .inr (4, [.int 0, .int (-1), .null, .int 0, .int 0, .int 0, .int 0, .int 0, .null, .ref q_1, .null, .null])), (q_1, .inl (k_2, 8, .inl (upd (upd (upd (upd (upd (upd (upd (upd (fun _ => 0) (0 : Int32).toNatClampNeg 3554411) (1 : Int32).toNatClampNeg 17171557) (2 : Int32).toNatClampNeg 723752404) (3 : Int32).toNatClampNeg 22499628) (4 : Int32).toNatClampNeg 20579924) (5 : Int32).toNatClampNeg 168165) (6 : Int32).toNatClampNeg 762030) (7 : Int32).toNatClampNeg 19057844))), (q_11, .inl (k_12, 3, .inl (fun _ => 0)))] H := hP
  have hD : va_D A [(h0, .inr (4, [.int 0, .int (-1), .null, .int 0, .int 0, .int 0, .int 0, .int 0, .null, .ref q_1, .null, .null])), (q_1, .inl (k_2, 8, .inl (upd (upd (upd (upd (upd (upd (upd (upd (fun _ => 0) (0 : Int32).toNatClampNeg 3554411) (1 : Int32).toNatClampNeg 17171557) (2 : Int32).toNatClampNeg 723752404) (3 : Int32).toNatClampNeg 22499628) (4 : Int32).toNatClampNeg 20579924) (5 : Int32).toNatClampNeg 168165) (6 : Int32).toNatClampNeg 762030) (7 : Int32).toNatClampNeg 19057844))), (q_11, .inl (k_12, 3, .inl (fun _ => 0)))] := hD
  have hK : va_K (dC, dI) vwCl [(k_2, .int), (k_12, .int)] s := hK
  refine W.widen (k := 2) (n := 11) (by omega) (by omega) ?_
  refine va_putF (D := (dC, dI)) (ci := 4) (v := .ref q_11) (ty := .array .int) (C := RX4) (T := TX4) (N := 12) hx hb hts hiX4 tyX4 tyX4_ok nmX4 hown hK hP hD hS 0 rfl rfl 10 (by decide) v_43 (fun _ h9 => h9) rfl hin rfl (by decide +kernel) rfl rfl (Nat.le_of_ble_eq_true rfl) dX4_init_87 (fun H locs hP hD hS => ?_)
  have hP : va_P (dC, dI) vwCl [(h0, .inr (4, [.int 0, .int (-1), .null, .int 0, .int 0, .int 0, .int 0, .int 0, .null, .ref q_1, .ref q_11, .null])), (q_1, .inl (k_2, 8, .inl (upd (upd (upd (upd (upd (upd (upd (upd (fun _ => 0) (0 : Int32).toNatClampNeg 3554411) (1 : Int32).toNatClampNeg 17171557) (2 : Int32).toNatClampNeg 723752404) (3 : Int32).toNatClampNeg 22499628) (4 : Int32).toNatClampNeg 20579924) (5 : Int32).toNatClampNeg 168165) (6 : Int32).toNatClampNeg 762030) (7 : Int32).toNatClampNeg 19057844))), (q_11, .inl (k_12, 3, .inl (fun _ => 0)))] H := hP
  have hD : va_D A [(h0, .inr (4, [.int 0, .int (-1), .null, .int 0, .int 0, .int 0, .int 0, .int 0, .null, .ref q_1, .ref q_11, .null])), (q_1, .inl (k_2, 8, .inl (upd (upd (upd (upd (upd (upd (upd (upd (fun _ => 0) (0 : Int32).toNatClampNeg 3554411) (1 : Int32).toNatClampNeg 17171557) (2 : Int32).toNatClampNeg 723752404) (3 : Int32).toNatClampNeg 22499628) (4 : Int32).toNatClampNeg 20579924) (5 : Int32).toNatClampNeg 168165) (6 : Int32).toNatClampNeg 762030) (7 : Int32).toNatClampNeg 19057844))), (q_11, .inl (k_12, 3, .inl (fun _ => 0)))] := hD
  refine lv_aload_n hx hb dX4_init_90 rfl (lv_at hl 0 rfl) ?_
  refine lv_bipush (v := 8) hx hb dX4_init_91 (by decide) ?_
  refine va_newa (atype := .int) (ty := .int) (N' := 8) (a0 := (8, .inl (fun _ => 0))) hx hb v_5 rfl hK hP hD hS hA (fun _ => rfl) (by decide) (by decide) (Nat.le_of_ble_eq_true rfl) (Nat.le_of_ble_eq_true rfl) (Nat.le_of_ble_eq_true rfl) dX4_init_93 (fun q_13 k_14 H hK hP hD hS => ?_)
  have hP : va_P (dC, dI) vwCl [(h0, .inr (4, [.int 0, .int (-1), .null, .int 0, .int 0, .int 0, .int 0, .int 0, .null, .ref q_1, .ref q_11, .null])), (q_1, .inl (k_2, 8, .inl (upd (upd (upd (upd (upd (upd (upd (upd (fun _ => 0) (0 : Int32).toNatClampNeg 3554411) (1 : Int32).toNatClampNeg 17171557) (2 : Int32).toNatClampNeg 723752404) (3 : Int32).toNatClampNeg 22499628) (4 : Int32).toNatClampNeg 20579924) (5 : Int32).toNatClampNeg 168165) (6 : Int32).toNatClampNeg 762030) (7 : Int32).toNatClampNeg 19057844))), (q_11, .inl (k_12, 3, .inl (fun _ => 0))), (q_13, .inl (k_14, 8, .inl (fun _ => 0)))] H := hP
  have hD : va_D A [(h0, .inr (4, [.int 0, .int (-1), .null, .int 0, .int 0, .int 0, .int 0, .int 0, .null, .ref q_1, .ref q_11, .null])), (q_1, .inl (k_2, 8, .inl (upd (upd (upd (upd (upd (upd (upd (upd (fun _ => 0) (0 : Int32).toNatClampNeg 3554411) (1 : Int32).toNatClampNeg 17171557) (2 : Int32).toNatClampNeg 723752404) (3 : Int32).toNatClampNeg 22499628) (4 : Int32).toNatClampNeg 20579924) (5 : Int32).toNatClampNeg 168165) (6 : Int32).toNatClampNeg 762030) (7 : Int32).toNatClampNeg 19057844))), (q_11, .inl (k_12, 3, .inl (fun _ => 0))), (q_13, .inl (k_14, 8, .inl (fun _ => 0)))] := hD
  have hK : va_K (dC, dI) vwCl [(k_2, .int), (k_12, .int), (k_14, .int)] s := hK
  refine W.widen (k := 3) (n := 19) (by omega) (by omega) ?_
  refine va_putF (D := (dC, dI)) (ci := 4) (v := .ref q_13) (ty := .array .int) (C := RX4) (T := TX4) (N := 12) hx hb hts hiX4 tyX4 tyX4_ok nmX4 hown hK hP hD hS 0 rfl rfl 11 (by decide) v_44 (fun _ h9 => h9) rfl hin rfl (by decide +kernel) rfl rfl (Nat.le_of_ble_eq_true rfl) dX4_init_95 (fun H locs hP hD hS => ?_)
  have hP : va_P (dC, dI) vwCl [(h0, .inr (4, [.int 0, .int (-1), .null, .int 0, .int 0, .int 0, .int 0, .int 0, .null, .ref q_1, .ref q_11, .ref q_13])), (q_1, .inl (k_2, 8, .inl (upd (upd (upd (upd (upd (upd (upd (upd (fun _ => 0) (0 : Int32).toNatClampNeg 3554411) (1 : Int32).toNatClampNeg 17171557) (2 : Int32).toNatClampNeg 723752404) (3 : Int32).toNatClampNeg 22499628) (4 : Int32).toNatClampNeg 20579924) (5 : Int32).toNatClampNeg 168165) (6 : Int32).toNatClampNeg 762030) (7 : Int32).toNatClampNeg 19057844))), (q_11, .inl (k_12, 3, .inl (fun _ => 0))), (q_13, .inl (k_14, 8, .inl (fun _ => 0)))] H := hP
  have hD : va_D A [(h0, .inr (4, [.int 0, .int (-1), .null, .int 0, .int 0, .int 0, .int 0, .int 0, .null, .ref q_1, .ref q_11, .ref q_13])), (q_1, .inl (k_2, 8, .inl (upd (upd (upd (upd (upd (upd (upd (upd (fun _ => 0) (0 : Int32).toNatClampNeg 3554411) (1 : Int32).toNatClampNeg 17171557) (2 : Int32).toNatClampNeg 723752404) (3 : Int32).toNatClampNeg 22499628) (4 : Int32).toNatClampNeg 20579924) (5 : Int32).toNatClampNeg 168165) (6 : Int32).toNatClampNeg 762030) (7 : Int32).toNatClampNeg 19057844))), (q_11, .inl (k_12, 3, .inl (fun _ => 0))), (q_13, .inl (k_14, 8, .inl (fun _ => 0)))] := hD
  refine W.widen (k := 3) (n := 19) (by first | omega | exact Nat.le_of_ble_eq_true rfl) (by first | omega | exact Nat.le_of_ble_eq_true rfl) ?_
  have hP9 := hP.sub (ws' := [(h0, .inr (4, [.int 0, .int (-1), .null, .int 0, .int 0, .int 0, .int 0, .int 0, .null, .ref q_1, .ref q_11, .ref q_13])), (q_1, .inl (k_2, 8, .inl (upd (upd (upd (upd (upd (upd (upd (upd (fun _ => 0) (0 : Int32).toNatClampNeg 3554411) (1 : Int32).toNatClampNeg 17171557) (2 : Int32).toNatClampNeg 723752404) (3 : Int32).toNatClampNeg 22499628) (4 : Int32).toNatClampNeg 20579924) (5 : Int32).toNatClampNeg 168165) (6 : Int32).toNatClampNeg 762030) (7 : Int32).toNatClampNeg 19057844))), (q_11, .inl (k_12, 3, .inl (fun _ => 0))), (q_13, .inl (k_14, 8, .inl (fun _ => 0)))]) [0, 1, 2, 3] rfl
  have hD9 := hD.sub (ws' := [(h0, .inr (4, [.int 0, .int (-1), .null, .int 0, .int 0, .int 0, .int 0, .int 0, .null, .ref q_1, .ref q_11, .ref q_13])), (q_1, .inl (k_2, 8, .inl (upd (upd (upd (upd (upd (upd (upd (upd (fun _ => 0) (0 : Int32).toNatClampNeg 3554411) (1 : Int32).toNatClampNeg 17171557) (2 : Int32).toNatClampNeg 723752404) (3 : Int32).toNatClampNeg 22499628) (4 : Int32).toNatClampNeg 20579924) (5 : Int32).toNatClampNeg 168165) (6 : Int32).toNatClampNeg 762030) (7 : Int32).toNatClampNeg 19057844))), (q_11, .inl (k_12, 3, .inl (fun _ => 0))), (q_13, .inl (k_14, 8, .inl (fun _ => 0)))]) [0, 1, 2, 3] (by decide) rfl
  have hK9 := hK.sub (tys' := [(k_2, .int), (k_12, .int), (k_14, .int)]) [0, 1, 2] rfl
  exact W.vret hx hb hr (fun t ht hW => ⟨⟨(), rfl, trivial, ⟨q_1, q_11, q_13, k_2, k_12, k_14, by rw [ht]; exact hP9, va_K.moved hW.alike hK9, hD9⟩⟩, hS.F ht⟩) hS.2.2 dX4_init_98
theorem dX8_init_0 : decode cX8_init 0 = .ok (.aload_n 0, 1) := by decide +kernel
theorem dX8_init_1 : decode cX8_init 1 = .ok (.invokespecial 1, 3) := by decide +kernel
theorem dX8_init_4 : decode cX8_init 4 = .ok (.aload_n 0, 1) := by decide +kernel
theorem dX8_init_5 : decode cX8_init 5 = .ok (.sipush 900, 3) := by decide +kernel
theorem dX8_init_8 : decode cX8_init 8 = .ok (.newarray .int, 2) := by decide +kernel
theorem dX8_init_10 : decode cX8_init 10 = .ok (.putfield 9, 3) := by decide +kernel
theorem dX8_init_13 : decode cX8_init 13 = .ok (.aload_n 0, 1) := by decide +kernel
theorem dX8_init_14 : decode cX8_init 14 = .ok (.new 13, 3) := by decide +kernel
theorem dX8_init_17 : decode cX8_init 17 = .ok (.dup, 1) := by decide +kernel
theorem dX8_init_18 : decode cX8_init 18 = .ok (.invokespecial 15, 3) := by decide +kernel
theorem dX8_init_21 : decode cX8_init 21 = .ok (.putfield 16, 3) := by decide +kernel
theorem dX8_init_24 : decode cX8_init 24 = .ok (.aload_n 0, 1) := by decide +kernel
theorem dX8_init_25 : decode cX8_init 25 = .ok (.new 20, 3) := by decide +kernel
theorem dX8_init_28 : decode cX8_init 28 = .ok (.dup, 1) := by decide +kernel
theorem dX8_init_29 : decode cX8_init 29 = .ok (.invokespecial 22, 3) := by decide +kernel
theorem dX8_init_32 : decode cX8_init 32 = .ok (.putfield 23, 3) := by decide +kernel
theorem dX8_init_35 : decode cX8_init 35 = .ok (.aload_n 0, 1) := by decide +kernel
theorem dX8_init_36 : decode cX8_init 36 = .ok (.new 20, 3) := by decide +kernel
theorem dX8_init_39 : decode cX8_init 39 = .ok (.dup, 1) := by decide +kernel
theorem dX8_init_40 : decode cX8_init 40 = .ok (.invokespecial 22, 3) := by decide +kernel
theorem dX8_init_43 : decode cX8_init 43 = .ok (.putfield 27, 3) := by decide +kernel
theorem dX8_init_46 : decode cX8_init 46 = .ok (.aload_n 0, 1) := by decide +kernel
theorem dX8_init_47 : decode cX8_init 47 = .ok (.new 30, 3) := by decide +kernel
theorem dX8_init_50 : decode cX8_init 50 = .ok (.dup, 1) := by decide +kernel
theorem dX8_init_51 : decode cX8_init 51 = .ok (.invokespecial 32, 3) := by decide +kernel
theorem dX8_init_54 : decode cX8_init 54 = .ok (.putfield 33, 3) := by decide +kernel
theorem dX8_init_57 : decode cX8_init 57 = .ok (.aload_n 0, 1) := by decide +kernel
theorem dX8_init_58 : decode cX8_init 58 = .ok (.new 37, 3) := by decide +kernel
theorem dX8_init_61 : decode cX8_init 61 = .ok (.dup, 1) := by decide +kernel
theorem dX8_init_62 : decode cX8_init 62 = .ok (.bipush 120, 2) := by decide +kernel
theorem dX8_init_64 : decode cX8_init 64 = .ok (.iconst 4, 1) := by decide +kernel
theorem dX8_init_65 : decode cX8_init 65 = .ok (.invokespecial 39, 3) := by decide +kernel
theorem dX8_init_68 : decode cX8_init 68 = .ok (.putfield 42, 3) := by decide +kernel
theorem dX8_init_71 : decode cX8_init 71 = .ok (.aload_n 0, 1) := by decide +kernel
theorem dX8_init_72 : decode cX8_init 72 = .ok (.new 37, 3) := by decide +kernel
theorem dX8_init_75 : decode cX8_init 75 = .ok (.dup, 1) := by decide +kernel
theorem dX8_init_76 : decode cX8_init 76 = .ok (.bipush 120, 2) := by decide +kernel
theorem dX8_init_78 : decode cX8_init 78 = .ok (.iconst 4, 1) := by decide +kernel
theorem dX8_init_79 : decode cX8_init 79 = .ok (.invokespecial 39, 3) := by decide +kernel
theorem dX8_init_82 : decode cX8_init 82 = .ok (.putfield 46, 3) := by decide +kernel
theorem dX8_init_85 : decode cX8_init 85 = .ok (.aload_n 0, 1) := by decide +kernel
theorem dX8_init_86 : decode cX8_init 86 = .ok (.new 37, 3) := by decide +kernel
theorem dX8_init_89 : decode cX8_init 89 = .ok (.dup, 1) := by decide +kernel
theorem dX8_init_90 : decode cX8_init 90 = .ok (.sipush 400, 3) := by decide +kernel
theorem dX8_init_93 : decode cX8_init 93 = .ok (.iconst 5, 1) := by decide +kernel
theorem dX8_init_94 : decode cX8_init 94 = .ok (.invokespecial 39, 3) := by decide +kernel
theorem dX8_init_97 : decode cX8_init 97 = .ok (.putfield 49, 3) := by decide +kernel
theorem dX8_init_100 : decode cX8_init 100 = .ok (.aload_n 0, 1) := by decide +kernel
theorem dX8_init_101 : decode cX8_init 101 = .ok (.new 52, 3) := by decide +kernel
theorem dX8_init_104 : decode cX8_init 104 = .ok (.dup, 1) := by decide +kernel
theorem dX8_init_105 : decode cX8_init 105 = .ok (.invokespecial 54, 3) := by decide +kernel
theorem dX8_init_108 : decode cX8_init 108 = .ok (.putfield 55, 3) := by decide +kernel
theorem dX8_init_111 : decode cX8_init 111 = .ok (.aload_n 0, 1) := by decide +kernel
theorem dX8_init_112 : decode cX8_init 112 = .ok (.new 59, 3) := by decide +kernel
theorem dX8_init_115 : decode cX8_init 115 = .ok (.dup, 1) := by decide +kernel
theorem dX8_init_116 : decode cX8_init 116 = .ok (.invokespecial 61, 3) := by decide +kernel
theorem dX8_init_119 : decode cX8_init 119 = .ok (.putfield 62, 3) := by decide +kernel
theorem dX8_init_122 : decode cX8_init 122 = .ok (.aload_n 0, 1) := by decide +kernel
theorem dX8_init_123 : decode cX8_init 123 = .ok (.new 66, 3) := by decide +kernel
theorem dX8_init_126 : decode cX8_init 126 = .ok (.dup, 1) := by decide +kernel
theorem dX8_init_127 : decode cX8_init 127 = .ok (.invokespecial 68, 3) := by decide +kernel
theorem dX8_init_130 : decode cX8_init 130 = .ok (.putfield 69, 3) := by decide +kernel
theorem dX8_init_133 : decode cX8_init 133 = .ok (.aload_n 0, 1) := by decide +kernel
theorem dX8_init_134 : decode cX8_init 134 = .ok (.iconst 5, 1) := by decide +kernel
theorem dX8_init_135 : decode cX8_init 135 = .ok (.newarray .int, 2) := by decide +kernel
theorem dX8_init_137 : decode cX8_init 137 = .ok (.putfield 73, 3) := by decide +kernel
theorem dX8_init_140 : decode cX8_init 140 = .ok (.aload_n 0, 1) := by decide +kernel
theorem dX8_init_141 : decode cX8_init 141 = .ok (.iconst 4, 1) := by decide +kernel
theorem dX8_init_142 : decode cX8_init 142 = .ok (.newarray .int, 2) := by decide +kernel
theorem dX8_init_144 : decode cX8_init 144 = .ok (.putfield 76, 3) := by decide +kernel
theorem dX8_init_147 : decode cX8_init 147 = .ok (.return_, 1) := by decide +kernel
def vs_X8_init : List Cond := .code yX8_init cX8_init 1 none :: ([.methodLink RX8 1 objectInit, .instanceMethod objectInit, .code objectInit ⟨#[0xb1]⟩ 1 none, .arrayClass .int, .fieldLink RX8 9 "ClockReach" "tape" "[I", .classLink RX8 13 RX4, .instantiable RX4 12, .initialized RX4, .code yX4_init cX4_init 1 none, .methodLink RX4 3 objectInit, .fieldLink RX4 9 "ClockReach$Reader" "faultAt" "I", .methodLink RX4 17 yX4_code, .static yX4_code, .code yX4_code cX4_code 3 (some .int), .methodLink RX4 45 yJ0_length_8abf5, .instanceMethod yJ0_length_8abf5, .selects RJ0 yJ0_length_8abf5 yJ0_length_8abf5, .initialized RJ0, .code yJ0_length_8abf5 cJ0_length_8abf5 1 (some .int), .fieldLink RJ0 9 "java/lang/String" "value" "[B", .methodLink RJ0 335 yJ0_coder_7d493, .instanceMethod yJ0_coder_7d493, .selects RJ0 yJ0_coder_7d493 yJ0_coder_7d493, .code yJ0_coder_7d493 cJ0_coder_7d493 1 (some .byte), .fieldLink RJ0 38 "java/lang/String" "COMPACT_STRINGS" "Z", .fieldLink RJ0 15 "java/lang/String" "coder" "B", .methodLink RX4 51 yJ0_charAt_5068e, .instanceMethod yJ0_charAt_5068e, .selects RJ0 yJ0_charAt_5068e yJ0_charAt_5068e, .code yJ0_charAt_5068e cJ0_charAt_5068e 2 (some .char), .methodLink RJ0 492 yJ0_isLatin1_aae02, .instanceMethod yJ0_isLatin1_aae02, .selects RJ0 yJ0_isLatin1_aae02 yJ0_isLatin1_aae02, .code yJ0_isLatin1_aae02 cJ0_isLatin1_aae02 1 (some .boolean), .methodLink RJ0 495 yJ1_charAt_3b067, .static yJ1_charAt_3b067, .initialized RJ1, .code yJ1_charAt_3b067 cJ1_charAt_3b067 2 (some .char), .methodLink RJ1 9 yJ0_checkIndex_df160, .static yJ0_checkIndex_df160, .code yJ0_checkIndex_df160 cJ0_checkIndex_df160 2 none, .fieldLink RJ0 1053 "jdk/internal/util/Preconditions" "SIOOBE_FORMATTER" "Ljava/util/function/BiFunction;", .methodLink RJ0 1059 yJ3_checkIndex_8e157, .static yJ3_checkIndex_8e157, .initialized RJ3, .code yJ3_checkIndex_8e157 cJ3_checkIndex_8e157 3 (some .int), .fieldLink RX4 35 "ClockReach$Reader" "words" "[I", .fieldLink RX4 39 "ClockReach$Reader" "clockNames" "[I", .fieldLink RX4 42 "ClockReach$Reader" "placeNames" "[I", .methodLink RX8 15 yX4_init, .instanceMethod yX4_init, .fieldLink RX8 16 "ClockReach" "reader" "LClockReach$Reader;", .classLink RX8 20 RX0, .instantiable RX0 17, .initialized RX0, .code yX0_init cX0_init 1 none, .methodLink RX0 3 objectInit, .fieldLink RX0 9 "ClockReach$Automaton" "start" "I", .arrayClass .boolean, .fieldLink RX0 15 "ClockReach$Automaton" "hurried" "[Z", .fieldLink RX0 19 "ClockReach$Automaton" "sources" "[I", .fieldLink RX0 23 "ClockReach$Automaton" "targets" "[I", .fieldLink RX0 26 "ClockReach$Automaton" "resets" "[I", .fieldLink RX0 29 "ClockReach$Automaton" "counts" "[I", .fieldLink RX0 32 "ClockReach$Automaton" "conditionClocks" "[I", .fieldLink RX0 35 "ClockReach$Automaton" "hows" "[I", .fieldLink RX0 38 "ClockReach$Automaton" "numbers" "[I", .fieldLink RX0 41 "ClockReach$Automaton" "ceilings" "[I", .fieldLink RX0 44 "ClockReach$Automaton" "floors" "[I", .fieldLink RX0 47 "ClockReach$Automaton" "greatest" "[I", .fieldLink RX0 50 "ClockReach$Automaton" "lower" "[I", .fieldLink RX0 53 "ClockReach$Automaton" "upper" "[I", .methodLink RX8 22 yX0_init, .instanceMethod yX0_init, .fieldLink RX8 23 "ClockReach" "model" "LClockReach$Automaton;", .fieldLink RX8 27 "ClockReach" "draft" "LClockReach$Automaton;", .classLink RX8 30 RX2, .instantiable RX2 3, .initialized RX2, .code yX2_init cX2_init 1 none, .methodLink RX2 3 objectInit, .fieldLink RX2 9 "ClockReach$History" "codes" "[I", .fieldLink RX2 15 "ClockReach$History" "olds" "[I", .methodLink RX8 32 yX2_init, .instanceMethod yX2_init, .fieldLink RX8 33 "ClockReach" "history" "LClockReach$History;", .classLink RX8 37 RX1, .instantiable RX1 18, .initialized RX1, .code yX1_init cX1_init 4 none, .methodLink RX1 3 objectInit, .fieldLink RX1 9 "ClockReach$Graph" "most" "I", .classLink RX1 15 RX7, .fieldLink RX1 17 "ClockReach$Graph" "zones" "[LClockReach$Zone;", .fieldLink RX1 24 "ClockReach$Graph" "sites" "[I", .fieldLink RX1 28 "ClockReach$Graph" "parents" "[I", .fieldLink RX1 31 "ClockReach$Graph" "entries" "[I", .fieldLink RX1 34 "ClockReach$Graph" "depths" "[I", .fieldLink RX1 37 "ClockReach$Graph" "broods" "[I", .fieldLink RX1 40 "ClockReach$Graph" "high" "[I", .fieldLink RX1 43 "ClockReach$Graph" "low" "[I", .instantiable RX7 2, .initialized RX7, .code yX7_init cX7_init 2 none, .methodLink RX7 5 objectInit, .fieldLink RX7 11 "ClockReach$Zone" "cells" "[I", .methodLink RX1 21 yX7_init, .instanceMethod yX7_init, .methodLink RX8 39 yX1_init, .instanceMethod yX1_init, .fieldLink RX8 42 "ClockReach" "shown" "LClockReach$Graph;", .fieldLink RX8 46 "ClockReach" "tried" "LClockReach$Graph;", .fieldLink RX8 49 "ClockReach" "soon" "LClockReach$Graph;", .classLink RX8 52 RX5, .instantiable RX5 8, .initialized RX5, .code yX5_init cX5_init 2 none, .methodLink RX5 3 objectInit, .classLink RX5 9 RX7, .fieldLink RX5 11 "ClockReach$Remainder" "covers" "[LClockReach$Zone;", .fieldLink RX5 17 "ClockReach$Remainder" "made" "[LClockReach$Zone;", .fieldLink RX5 23 "ClockReach$Remainder" "pieces" "[LClockReach$Zone;", .fieldLink RX5 26 "ClockReach$Remainder" "cutting" "[I", .fieldLink RX5 30 "ClockReach$Remainder" "cells" "[I", .methodLink RX5 20 yX7_init, .fieldLink RX5 33 "ClockReach$Remainder" "scratch" "LClockReach$Zone;", .methodLink RX8 54 yX5_init, .instanceMethod yX5_init, .fieldLink RX8 55 "ClockReach" "remainder" "LClockReach$Remainder;", .classLink RX8 59 RX6, .instantiable RX6 10, .initialized RX6, .code yX6_init cX6_init 1 none, .methodLink RX6 3 objectInit, .fieldLink RX6 9 "ClockReach$Timing" "path" "[I", .fieldLink RX6 15 "ClockReach$Timing" "at" "[I", .fieldLink RX6 18 "ClockReach$Timing" "laters" "[I", .fieldLink RX6 21 "ClockReach$Timing" "earliers" "[I", .fieldLink RX6 24 "ClockReach$Timing" "gaps" "[I", .fieldLink RX6 27 "ClockReach$Timing" "since" "[I", .fieldLink RX6 30 "ClockReach$Timing" "zeros" "[I", .classLink RX6 33 RX7, .methodLink RX6 35 yX7_init, .fieldLink RX6 38 "ClockReach$Timing" "zone" "LClockReach$Zone;", .methodLink RX8 61 yX6_init, .instanceMethod yX6_init, .fieldLink RX8 62 "ClockReach" "timing" "LClockReach$Timing;", .classLink RX8 66 RX3, .instantiable RX3 5, .initialized RX3, .code yX3_init cX3_init 1 none, .methodLink RX3 3 objectInit, .fieldLink RX3 9 "ClockReach$Play" "times" "[I", .fieldLink RX3 15 "ClockReach$Play" "behind" "[I", .methodLink RX8 68 yX3_init, .instanceMethod yX3_init, .fieldLink RX8 69 "ClockReach" "play" "LClockReach$Play;", .fieldLink RX8 73 "ClockReach" "beginUnits" "[I", .fieldLink RX8 76 "ClockReach" "sample" "[I"] ++ wsX80 ++ wsX40 ++ wsX00 ++ wsX20 ++ wsX10 ++ wsX70 ++ wsX50 ++ wsX60 ++ wsX30)
theorem g_X8_init_X4_init : GoodIn vs_X8_init vs_X4_init := goodIn_r _ [9, 10, 2, 3, 11, 4, 12, 13, 8, 14, 15, 16, 17, 18, 19, 20, 21, 22, 23, 24, 25, 26, 27, 28, 29, 30, 31, 32, 33, 34, 35, 36, 37, 38, 39, 40, 41, 42, 43, 44, 45, 46, 47, 48, 49, 176, 177, 178, 179, 180, 181, 182, 183, 184, 185, 186, 187] (by decide +kernel) (by decide +kernel)
theorem g_X8_init_X0_init : GoodIn vs_X8_init vs_X0_init := goodIn_r _ [56, 57, 2, 3, 58, 59, 60, 4, 61, 62, 63, 64, 65, 66, 67, 68, 69, 70, 71, 72, 188, 189, 190, 191, 192, 193, 194, 195, 196, 197, 198, 199, 200, 201, 202, 203, 204] (by decide +kernel) (by decide +kernel)
theorem g_X8_init_X2_init : GoodIn vs_X8_init vs_X2_init := goodIn_r _ [80, 81, 2, 3, 4, 82, 83, 205, 206, 207] (by decide +kernel) (by decide +kernel)
theorem g_X8_init_X1_init_120 : GoodIn vs_X8_init vs_X1_init_120 := goodIn_r _ [90, 91, 2, 3, 92, 93, 94, 4, 95, 96, 97, 98, 99, 100, 101, 102, 103, 104, 105, 106, 107, 108, 208, 209, 210, 211, 212, 213, 214, 215, 216, 217, 218, 219, 220, 221, 222, 223, 224, 225, 226, 227] (by decide +kernel) (by decide +kernel)
theorem g_X8_init_X1_init_400 : GoodIn vs_X8_init vs_X1_init_400 := goodIn_r _ [90, 91, 2, 3, 92, 93, 94, 4, 95, 96, 97, 98, 99, 100, 101, 102, 103, 104, 105, 106, 107, 108, 208, 209, 210, 211, 212, 213, 214, 215, 216, 217, 218, 219, 220, 221, 222, 223, 224, 225, 226, 227] (by decide +kernel) (by decide +kernel)
theorem g_X8_init_X5_init : GoodIn vs_X8_init vs_X5_init := goodIn_r _ [117, 118, 2, 3, 119, 120, 121, 122, 4, 123, 124, 102, 103, 104, 105, 106, 125, 108, 126, 228, 229, 230, 231, 232, 233, 234, 235, 226, 227] (by decide +kernel) (by decide +kernel)
theorem g_X8_init_X6_init : GoodIn vs_X8_init vs_X6_init := goodIn_r _ [133, 134, 2, 3, 4, 135, 136, 137, 138, 139, 140, 141, 142, 102, 103, 104, 105, 106, 143, 108, 144, 236, 237, 238, 239, 240, 241, 242, 243, 244, 245, 226, 227] (by decide +kernel) (by decide +kernel)
theorem g_X8_init_X3_init : GoodIn vs_X8_init vs_X3_init := goodIn_r _ [151, 152, 2, 3, 4, 153, 154, 246, 247, 248, 249, 250] (by decide +kernel) (by decide +kernel)
