theorem hbg_bk {b m0 m1 k0 k1 : Nat} (h : (b = 0 ∧ (m0 = 0 ∨ 1 ≤ k0)) ∨ (b = 1 ∧ (m1 = 0 ∨ 1 ≤ k1))) : bkN b m0 m1 = 0 ∨ 1 ≤ (if b = 0 then k0 else k1) := by
  rcases h with ⟨rfl, h⟩ | ⟨rfl, h⟩
  · first | exact h | simpa [bkN] using h
  · first | exact h | simpa [bkN] using h
theorem dX9_avoids_0 : decode cX9_avoids 0 = .ok (.aload_n 0, 1) := by decide +kernel
theorem dX9_avoids_1 : decode cX9_avoids 1 = .ok (.iconst 0, 1) := by decide +kernel
theorem dX9_avoids_2 : decode cX9_avoids 2 = .ok (.putfield 142, 3) := by decide +kernel
theorem dX9_avoids_5 : decode cX9_avoids 5 = .ok (.aload_n 0, 1) := by decide +kernel
theorem dX9_avoids_6 : decode cX9_avoids 6 = .ok (.iload_n 1, 1) := by decide +kernel
theorem dX9_avoids_7 : decode cX9_avoids 7 = .ok (.invokevirtual 286, 3) := by decide +kernel
theorem dX9_avoids_10 : decode cX9_avoids 10 = .ok (.ifCond .eq 11, 3) := by decide +kernel
theorem dX9_avoids_13 : decode cX9_avoids 13 = .ok (.aload_n 0, 1) := by decide +kernel
theorem dX9_avoids_14 : decode cX9_avoids 14 = .ok (.iload_n 2, 1) := by decide +kernel
theorem dX9_avoids_15 : decode cX9_avoids 15 = .ok (.invokevirtual 286, 3) := by decide +kernel
theorem dX9_avoids_18 : decode cX9_avoids 18 = .ok (.ifCond .ne 5, 3) := by decide +kernel
theorem dX9_avoids_21 : decode cX9_avoids 21 = .ok (.iconst (-1), 1) := by decide +kernel
theorem dX9_avoids_22 : decode cX9_avoids 22 = .ok (.ireturn, 1) := by decide +kernel
theorem dX9_avoids_23 : decode cX9_avoids 23 = .ok (.iload_n 1, 1) := by decide +kernel
theorem dX9_avoids_24 : decode cX9_avoids 24 = .ok (.iload_n 2, 1) := by decide +kernel
theorem dX9_avoids_25 : decode cX9_avoids 25 = .ok (.if_icmp .eq 16, 3) := by decide +kernel
theorem dX9_avoids_28 : decode cX9_avoids 28 = .ok (.iload_n 1, 1) := by decide +kernel
theorem dX9_avoids_29 : decode cX9_avoids 29 = .ok (.aload_n 0, 1) := by decide +kernel
theorem dX9_avoids_30 : decode cX9_avoids 30 = .ok (.getfield 52, 3) := by decide +kernel
theorem dX9_avoids_33 : decode cX9_avoids 33 = .ok (.aload_n 0, 1) := by decide +kernel
theorem dX9_avoids_34 : decode cX9_avoids 34 = .ok (.getfield 258, 3) := by decide +kernel
theorem dX9_avoids_37 : decode cX9_avoids 37 = .ok (.iaload, 1) := by decide +kernel
theorem dX9_avoids_38 : decode cX9_avoids 38 = .ok (.if_icmp .ne 5, 3) := by decide +kernel
theorem dX9_avoids_41 : decode cX9_avoids 41 = .ok (.iconst 0, 1) := by decide +kernel
theorem dX9_avoids_42 : decode cX9_avoids 42 = .ok (.ireturn, 1) := by decide +kernel
theorem dX9_avoids_43 : decode cX9_avoids 43 = .ok (.aload_n 0, 1) := by decide +kernel
theorem dX9_avoids_44 : decode cX9_avoids 44 = .ok (.aload_n 0, 1) := by decide +kernel
theorem dX9_avoids_45 : decode cX9_avoids 45 = .ok (.invokevirtual 280, 3) := by decide +kernel
theorem dX9_avoids_48 : decode cX9_avoids 48 = .ok (.iconst 1, 1) := by decide +kernel
theorem dX9_avoids_49 : decode cX9_avoids 49 = .ok (.iadd, 1) := by decide +kernel
theorem dX9_avoids_50 : decode cX9_avoids 50 = .ok (.putfield 328, 3) := by decide +kernel
theorem dX9_avoids_53 : decode cX9_avoids 53 = .ok (.aload_n 0, 1) := by decide +kernel
theorem dX9_avoids_54 : decode cX9_avoids 54 = .ok (.iconst 0, 1) := by decide +kernel
theorem dX9_avoids_55 : decode cX9_avoids 55 = .ok (.iconst 0, 1) := by decide +kernel
theorem dX9_avoids_56 : decode cX9_avoids 56 = .ok (.iconst 0, 1) := by decide +kernel
theorem dX9_avoids_57 : decode cX9_avoids 57 = .ok (.invokevirtual 379, 3) := by decide +kernel
theorem dX9_avoids_60 : decode cX9_avoids 60 = .ok (.aload_n 0, 1) := by decide +kernel
theorem dX9_avoids_61 : decode cX9_avoids 61 = .ok (.iconst 1, 1) := by decide +kernel
theorem dX9_avoids_62 : decode cX9_avoids 62 = .ok (.aload_n 0, 1) := by decide +kernel
theorem dX9_avoids_63 : decode cX9_avoids 63 = .ok (.getfield 52, 3) := by decide +kernel
theorem dX9_avoids_66 : decode cX9_avoids 66 = .ok (.aload_n 0, 1) := by decide +kernel
theorem dX9_avoids_67 : decode cX9_avoids 67 = .ok (.getfield 258, 3) := by decide +kernel
theorem dX9_avoids_70 : decode cX9_avoids 70 = .ok (.iaload, 1) := by decide +kernel
theorem dX9_avoids_71 : decode cX9_avoids 71 = .ok (.iconst 2, 1) := by decide +kernel
theorem dX9_avoids_72 : decode cX9_avoids 72 = .ok (.iconst 1, 1) := by decide +kernel
theorem dX9_avoids_73 : decode cX9_avoids 73 = .ok (.bipush 120, 2) := by decide +kernel
theorem dX9_avoids_75 : decode cX9_avoids 75 = .ok (.iload_n 1, 1) := by decide +kernel
theorem dX9_avoids_76 : decode cX9_avoids 76 = .ok (.invokevirtual 383, 3) := by decide +kernel
theorem dX9_avoids_79 : decode cX9_avoids 79 = .ok (.aload_n 0, 1) := by decide +kernel
theorem dX9_avoids_80 : decode cX9_avoids 80 = .ok (.iconst 1, 1) := by decide +kernel
theorem dX9_avoids_81 : decode cX9_avoids 81 = .ok (.iload_n 2, 1) := by decide +kernel
theorem dX9_avoids_82 : decode cX9_avoids 82 = .ok (.invokevirtual 426, 3) := by decide +kernel
theorem dX9_avoids_85 : decode cX9_avoids 85 = .ok (.ifCond .eq 7, 3) := by decide +kernel
theorem dX9_avoids_88 : decode cX9_avoids 88 = .ok (.iconst 1, 1) := by decide +kernel
theorem dX9_avoids_89 : decode cX9_avoids 89 = .ok (.goto 4, 3) := by decide +kernel
theorem dX9_avoids_92 : decode cX9_avoids 92 = .ok (.iconst 0, 1) := by decide +kernel
theorem dX9_avoids_93 : decode cX9_avoids 93 = .ok (.ireturn, 1) := by decide +kernel
abbrev vs_EM_avoids : List Cond := .code yX9_avoids cX9_avoids 3 (some .int) :: VM
theorem g_EM_avoids_EM_isPlace : GoodIn vs_EM_avoids (wsV RX9 286 RX9 yX9_isPlace vs_EM_isPlace) := gm_V vm_148 vm_149 vm_150 vm_19 vm_151
theorem g_EM_avoids_EM_clocks : GoodIn vs_EM_avoids (wsV RX9 280 RX9 yX9_clocks vs_EM_clocks) := gm_V vm_140 vm_141 vm_142 vm_19 vm_143
theorem g_EM_avoids_EM_layPoint : GoodIn vs_EM_avoids (wsV RX9 379 RX9 yX9_layPoint vs_EM_layPoint) := gm_V vm_255 vm_256 vm_257 vm_19 vm_258
theorem g_EM_avoids_EM_explores_1_120 : GoodIn vs_EM_avoids (wsV RX9 383 RX9 yX9_explores vs_EM_explores_1_120) := gm_V vm_259 vm_260 vm_261 vm_19 vm_262
theorem g_EM_avoids_EM_hasPlace_1 : GoodIn vs_EM_avoids (wsV RX9 426 RX9 yX9_hasPlace vs_EM_hasPlace_1) := gm_V vm_354 vm_355 vm_356 vm_19 vm_357
noncomputable def sp_EM_avoids (x16 : Nat) (x46 : Nat) (f3 : Nat → Int32) (q4 : Nat → Nat) (q5 : Nat → Nat) (q6 : Nat → Nat) (q7 : Nat → Nat) (f8 : Nat → Int32) (q9 : Nat → Nat) (q10 : Nat → Nat) (f11 : Nat → Int32) (m12_0 : Nat) (m12_1 : Nat) (m13_0 : Nat) (m13_1 : Nat) (m14_0 : Nat) (m14_1 : Nat) (m15_0 : Nat) (m15_1 : Nat) (f34 : Nat → Int32) (f35 : Nat → Int32) (q38 : Nat → Nat) (f39 : Nat → Int32) (f40 : Nat → Int32) (f41 : Nat → Int32) (m42_1 : Nat) (f43 : Nat → Int32) (f44 : Nat → Int32) (f47 : Nat → Int32) (f48 : Nat → Int32) (p0 : Int32) (p1 : Int32) : Int32 × (Nat → Int32) × (Nat → Int32) × (Nat → Nat) × (Nat → Int32) × (Nat → Int32) × (Nat → Int32) × (Nat → Int32) × (Nat → Int32) × (Nat → Int32) × (Nat → Int32) × Nat × Int32 × Nat := (if (0 : Int32) ≤ p0 ∧ p0 < nI (bkN x16 m13_0 m13_1) then (slet ((p0 : Int32).toNatClampNeg) (fun n_2 => (if (0 : Int32) ≤ p1 ∧ p1 < nI (bkN x16 m13_0 m13_1) then (slet ((p1 : Int32).toNatClampNeg) (fun n_4 => (if n_2 = n_4 then (0, f34, f35, q38, f39, f40, f41, f43, f44, f47, f48, m42_1, 0, x46) else (slet (if x16 = 0 then m15_0 else m15_1) (fun u_7 => (slet (u_7 - 1) (fun vy_6 => (if n_2 = vy_6 then (0, f34, f35, q38, f39, f40, f41, f43, f44, f47, f48, m42_1, 0, x46) else (slet (sp_EM_clocks x16 m12_0 m12_1) (fun u_10 => (slet (sp_EM_layPoint f35 0 0 0) (fun z35_13 => (slet (u_7 - 1) (fun vy_14 => (slet (sp_EM_explores_1_120 x16 (u_10 + 1) f3 q4 q5 q6 q7 f8 q9 q10 f11 m12_0 m12_1 m13_0 m13_1 m14_0 m14_1 f34 z35_13 q38 f39 f40 f41 f43 f44 f47 f48 vy_14 2 1 (nI n_2)) (fun (z34_16, z35_17, z38_18, z39_19, z40_20, z41_21, z43_22, z44_23, z47_24, z48_25, z42_1_26) => (slet (sp_EM_hasPlace_1 z38_18 z42_1_26 (nI n_4)) (fun u_28 => (if u_28 = 0 then (0, z34_16, z35_17, z38_18, z39_19, z40_20, z41_21, z43_22, z44_23, z47_24, z48_25, z42_1_26, 0, (u_10 + 1)) else (1, z34_16, z35_17, z38_18, z39_19, z40_20, z41_21, z43_22, z44_23, z47_24, z48_25, z42_1_26, 0, (u_10 + 1))))))))))))))))))))) else ((-1), f34, f35, q38, f39, f40, f41, f43, f44, f47, f48, m42_1, 0, x46)))) else ((-1), f34, f35, q38, f39, f40, f41, f43, f44, f47, f48, m42_1, 0, x46))
set_option maxHeartbeats 4000000 in
set_option maxRecDepth 100000 in
theorem c_EM_avoids (l : Launch) (dC : Nat → ClassId) (dI : Nat → Nat → Nat) (sz : Nat) (ad : Nat → Nat) (ck : Nat → ClassId) (x0 : Int32) (x16 : Nat) (x18 : Nat) (x19 : Nat) (x20 : Int32) (x21 : Nat) (x22 : Nat) (x23 : Int32) (x24 : Int32) (x25 : Int32) (x26 : Nat) (x27 : Int32) (x28 : Nat) (x29 : Nat) (x30 : Nat) (x33 : Nat) (x45 : Int32) (x46 : Nat) (x52 : Nat) (x53 : Nat) (x61 : Nat) (x62 : Nat) (x63 : Nat) (x65 : Nat) (x66 : Int32) (f1 : Nat → Int32) (f2 : Nat → Int32) (f3 : Nat → Int32) (q4 : Nat → Nat) (q5 : Nat → Nat) (q6 : Nat → Nat) (q7 : Nat → Nat) (f8 : Nat → Int32) (q9 : Nat → Nat) (q10 : Nat → Nat) (f11 : Nat → Int32) (m12_0 m12_1 : Nat) (m13_0 m13_1 : Nat) (m14_0 m14_1 : Nat) (m15_0 m15_1 : Nat) (f17 : Nat → Int32) (q31 : Nat → Nat) (f32 : Nat → Int32) (f34 : Nat → Int32) (f35 : Nat → Int32) (f36 : Nat → Int32) (f37 : Nat → Int32) (q38 : Nat → Nat) (f39 : Nat → Int32) (f40 : Nat → Int32) (f41 : Nat → Int32) (m42_0 m42_1 : Nat) (f43 : Nat → Int32) (f44 : Nat → Int32) (f47 : Nat → Int32) (f48 : Nat → Int32) (f49 : Nat → Int32) (f50 : Nat → Int32) (f51 : Nat → Int32) (q54 : Nat → Nat) (q55 : Nat → Nat) (q56 : Nat → Nat) (f57 : Nat → Int32) (q58 : Nat → Nat) (f59 : Nat → Int32) (f60 : Nat → Int32) (f64 : Nat → Int32) (p0 : Int32) (p1 : Int32) (hx16 : x16 ≤ 1) (hx18 : x18 ≤ 900) (hx19 : x19 ≤ 900) (hx21 : x21 ≤ 900) (hx22 : x22 ≤ 4) (hx26 : x26 ≤ 6) (hx28 : x28 ≤ 1) (hx29 : x29 ≤ 1) (hx30 : x30 ≤ 1) (hx33 : x33 ≤ 20) (hx46 : x46 ≤ 5) (hx52 : x52 ≤ 2400) (hx53 : x53 ≤ 119) (hx61 : x61 ≤ 119) (hx62 : x62 ≤ 2000) (hx63 : x63 ≤ 1) (hx65 : x65 ≤ 7) (hm12_0 : m12_0 ≤ 3) (hm12_1 : m12_1 ≤ 3) (hm13_0 : m13_0 ≤ 8) (hm13_1 : m13_1 ≤ 8) (hm14_0 : m14_0 ≤ 14) (hm14_1 : m14_1 ≤ 14) (hm15_0 : m15_0 ≤ 8) (hm15_1 : m15_1 ≤ 8) (hm42_0 : m42_0 ≤ 120) (hm42_1 : m42_1 ≤ 400) (hbg : (x16 = 0 ∧ (m13_0 = 0 ∨ 1 ≤ m15_0)) ∨ (x16 = 1 ∧ (m13_1 = 0 ∨ 1 ≤ m15_1))) (hgr : gz_ok m42_0 f39 f40 f41) : Met l yX9_avoids vs_EM_avoids ({ frames := 7, cells := 0, slots := 0, locals := 171 }) (va_Pc [.ref (ad 0), .int p0, .int p1] (pu_B (dC, dI) (mo_w ad ck x0 (nI x16) (nI x18) (nI x19) x20 (nI x21) (nI x22) x23 x24 x25 (nI x26) x27 (nI x28) (nI x29) (nI x30) (nI x33) x45 (nI x46) (nI x52) (nI x53) (nI x61) (nI x62) (nI x63) (nI x65) x66 f1 f2 f3 (bN 3 q4) (bN 7 q5) (bN 7 q6) (bN 4 q7) f8 (bN 2 q9) (bH q10) f11 (b2 m12_0 m12_1) (b2 m13_0 m13_1) (b2 m14_0 m14_1) (b2m m15_0 m15_1) f17 (bA 159 q31) f32 f34 f35 f36 f37 (bN 7 q38) f39 f40 f41 (b2 m42_0 m42_1) f43 f44 f47 f48 f49 f50 f51 (bN 13 q54) (bN 120 q55) (bN 120 q56) f57 (bN 120 q58) f59 f60 f64) (mo_t ck) sz)) (va_Qi (fun (r : Int32) (_ : Unit) => r = (sp_EM_avoids x16 x46 f3 q4 q5 q6 q7 f8 q9 q10 f11 m12_0 m12_1 m13_0 m13_1 m14_0 m14_1 m15_0 m15_1 f34 f35 q38 f39 f40 f41 m42_1 f43 f44 f47 f48 p0 p1).1) (fun _ t => ∃ (z34 : Nat → Int32) (z35 : Nat → Int32) (z38 : Nat → Nat) (z39 : Nat → Int32) (z40 : Nat → Int32) (z41 : Nat → Int32) (z43 : Nat → Int32) (z44 : Nat → Int32) (z47 : Nat → Int32) (z48 : Nat → Int32) (z42_1 : Nat) (z0 : Int32) (z46 : Nat), pu_E (dC, dI) (mo_w ad ck z0 (nI x16) (nI x18) (nI x19) x20 (nI x21) (nI x22) x23 x24 x25 (nI x26) x27 (nI x28) (nI x29) (nI x30) (nI x33) x45 (nI z46) (nI x52) (nI x53) (nI x61) (nI x62) (nI x63) (nI x65) x66 f1 f2 f3 (bN 3 q4) (bN 7 q5) (bN 7 q6) (bN 4 q7) f8 (bN 2 q9) (bH q10) f11 (b2 m12_0 m12_1) (b2 m13_0 m13_1) (b2 m14_0 m14_1) (b2m m15_0 m15_1) f17 (bA 159 q31) f32 z34 z35 f36 f37 (bN 7 z38) z39 z40 z41 (b2 m42_0 z42_1) z43 z44 z47 z48 f49 f50 f51 (bN 13 q54) (bN 120 q55) (bN 120 q56) f57 (bN 120 q58) f59 f60 f64) (mo_t ck) (va_A ((mo_w ad ck x0 (nI x16) (nI x18) (nI x19) x20 (nI x21) (nI x22) x23 x24 x25 (nI x26) x27 (nI x28) (nI x29) (nI x30) (nI x33) x45 (nI x46) (nI x52) (nI x53) (nI x61) (nI x62) (nI x63) (nI x65) x66 f1 f2 f3 (bN 3 q4) (bN 7 q5) (bN 7 q6) (bN 4 q7) f8 (bN 2 q9) (bH q10) f11 (b2 m12_0 m12_1) (b2 m13_0 m13_1) (b2 m14_0 m14_1) (b2m m15_0 m15_1) f17 (bA 159 q31) f32 f34 f35 f36 f37 (bN 7 q38) f39 f40 f41 (b2 m42_0 m42_1) f43 f44 f47 f48 f49 f50 f51 (bN 13 q54) (bN 120 q55) (bN 120 q56) f57 (bN 120 q58) f59 f60 f64)) sz) t ∧ (z42_1 ≤ 400) ∧ (z46 ≤ 5) ∧ (gz_ok m42_0 z39 z40 z41) ∧ ((z34, z35, z38, z39, z40, z41, z43, z44, z47, z48, z42_1, z0, z46) = (sp_EM_avoids x16 x46 f3 q4 q5 q6 q7 f8 q9 q10 f11 m12_0 m12_1 m13_0 m13_1 m14_0 m14_1 m15_0 m15_1 f34 f35 q38 f39 f40 f41 m42_1 f43 f44 f47 f48 p0 p1).2)) (va_A ((mo_w ad ck x0 (nI x16) (nI x18) (nI x19) x20 (nI x21) (nI x22) x23 x24 x25 (nI x26) x27 (nI x28) (nI x29) (nI x30) (nI x33) x45 (nI x46) (nI x52) (nI x53) (nI x61) (nI x62) (nI x63) (nI x65) x66 f1 f2 f3 (bN 3 q4) (bN 7 q5) (bN 7 q6) (bN 4 q7) f8 (bN 2 q9) (bH q10) f11 (b2 m12_0 m12_1) (b2 m13_0 m13_1) (b2 m14_0 m14_1) (b2m m15_0 m15_1) f17 (bA 159 q31) f32 f34 f35 f36 f37 (bN 7 q38) f39 f40 f41 (b2 m42_0 m42_1) f43 f44 f47 f48 f49 f50 f51 (bN 13 q54) (bN 120 q55) (bN 120 q56) f57 (bN 120 q58) f59 f60 f64)) sz)) 0 0 (va_A ((mo_w ad ck x0 (nI x16) (nI x18) (nI x19) x20 (nI x21) (nI x22) x23 x24 x25 (nI x26) x27 (nI x28) (nI x29) (nI x30) (nI x33) x45 (nI x46) (nI x52) (nI x53) (nI x61) (nI x62) (nI x63) (nI x65) x66 f1 f2 f3 (bN 3 q4) (bN 7 q5) (bN 7 q6) (bN 4 q7) f8 (bN 2 q9) (bH q10) f11 (b2 m12_0 m12_1) (b2 m13_0 m13_1) (b2 m14_0 m14_1) (b2m m15_0 m15_1) f17 (bA 159 q31) f32 f34 f35 f36 f37 (bN 7 q38) f39 f40 f41 (b2 m42_0 m42_1) f43 f44 f47 f48 f49 f50 f51 (bN 13 q54) (bN 120 q55) (bN 120 q56) f57 (bN 120 q58) f59 f60 f64)) sz) := by
  refine Met.ofW (cc := cX9_avoids) (maxL := 3) (ret := (some .int)) (by decide) rfl ?_
  intro p e s m args below meth c s₁ B hml hv
  obtain ⟨rfl, rfl, hP, hK, hD0⟩ := hv
  have hx := B.exec
  have hb := B.bytes
  have hr := B.returns
  have hts := atoms_spec (ws := vs_EM_avoids) B.pre
  have v_1 := hts (.fieldLink RX9 142 "ClockReachModel" "thrown" "I") (List.mem_cons_of_mem _ vm_5)
  have v_7 := hts (.fieldLink RX9 52 "ClockReachModel" "begins" "[I") (List.mem_cons_of_mem _ vm_126)
  have v_8 := hts (.fieldLink RX9 258 "ClockReachModel" "bank" "I") (List.mem_cons_of_mem _ vm_4)
  have v_13 := hts (.fieldLink RX9 328 "ClockReachModel" "side" "I") (List.mem_cons_of_mem _ vm_196)
  have hown : s.vm.findClass RX9 = some m.cls := findClass_of_methodNamed B.named
  have hlocks := B.notSynchronized
  have hiX9 : ∀ w ∈ wsX90, w ∈ vs_EM_avoids := fun _ h => List.mem_cons_of_mem _ (vmi_L h)
  have hD := hD0.self (sz := s.heap.size)
  generalize hAe : va_A ((mo_w ad ck x0 (nI x16) (nI x18) (nI x19) x20 (nI x21) (nI x22) x23 x24 x25 (nI x26) x27 (nI x28) (nI x29) (nI x30) (nI x33) x45 (nI x46) (nI x52) (nI x53) (nI x61) (nI x62) (nI x63) (nI x65) x66 f1 f2 f3 (bN 3 q4) (bN 7 q5) (bN 7 q6) (bN 4 q7) f8 (bN 2 q9) (bH q10) f11 (b2 m12_0 m12_1) (b2 m13_0 m13_1) (b2 m14_0 m14_1) (b2m m15_0 m15_1) f17 (bA 159 q31) f32 f34 f35 f36 f37 (bN 7 q38) f39 f40 f41 (b2 m42_0 m42_1) f43 f44 f47 f48 f49 f50 f51 (bN 13 q54) (bN 120 q55) (bN 120 q56) f57 (bN 120 q58) f59 f60 f64)) s.heap.size = A at hD ⊢
  have hA : ∀ q : Nat, s.heap.size ≤ q → A q := fun q h => by rw [← hAe]; exact Or.inr h
  have hS : va_S A s.heap s.heap [] := va_S.rf
  have hl := lv_entry ([.ref (ad 0), .int p0, .int p1]) (n := 3) (Nat.le_of_ble_eq_true rfl)
  rw [lg_entry_eq]
  generalize (lg_sl ([.ref (ad 0), .int p0, .int p1]) ++ List.replicate (3 - (lg_sl ([.ref (ad 0), .int p0, .int p1])).length) Slot.unset).toArray = ls at hl ⊢
  have hl : lv_has ls 3 [(0, .ref (ad 0)), (1, .int p0), (2, .int p1)] := hl
  obtain ⟨RR, hRR⟩ : ∃ x, x = (sp_EM_avoids x16 x46 f3 q4 q5 q6 q7 f8 q9 q10 f11 m12_0 m12_1 m13_0 m13_1 m14_0 m14_1 m15_0 m15_1 f34 f35 q38 f39 f40 f41 m42_1 f43 f44 f47 f48 p0 p1) := ⟨_, rfl⟩
  have hsp := hRR
  refine lv_aload_n hx hb dX9_avoids_0 rfl (lv_at hl 0 rfl) ?_
  refine lv_iconst (v := 0) hx hb dX9_avoids_1 (by decide) ?_
  refine va_put (D := (dC, dI)) (ci := 9) (v := .int 0) (ty := .int) (C := RX9) (T := TX9) (N := 67) hx hb hts hiX9 tyX9 tyX9_ok nmX9 hown hK hP hD hS 0 rfl rfl 0 (by decide) v_1 (fun _ h9 => h9) rfl (by decide +kernel) rfl rfl (Nat.le_of_ble_eq_true rfl) dX9_avoids_2 (fun H locs hP hD hS => ?_)
  have hP : va_P (dC, dI) vwCl (mo_w ad ck 0 (nI x16) (nI x18) (nI x19) x20 (nI x21) (nI x22) x23 x24 x25 (nI x26) x27 (nI x28) (nI x29) (nI x30) (nI x33) x45 (nI x46) (nI x52) (nI x53) (nI x61) (nI x62) (nI x63) (nI x65) x66 f1 f2 f3 (bN 3 q4) (bN 7 q5) (bN 7 q6) (bN 4 q7) f8 (bN 2 q9) (bH q10) f11 (b2 m12_0 m12_1) (b2 m13_0 m13_1) (b2 m14_0 m14_1) (b2m m15_0 m15_1) f17 (bA 159 q31) f32 f34 f35 f36 f37 (bN 7 q38) f39 f40 f41 (b2 m42_0 m42_1) f43 f44 f47 f48 f49 f50 f51 (bN 13 q54) (bN 120 q55) (bN 120 q56) f57 (bN 120 q58) f59 f60 f64) H := hP
  have hD : va_D A (mo_w ad ck 0 (nI x16) (nI x18) (nI x19) x20 (nI x21) (nI x22) x23 x24 x25 (nI x26) x27 (nI x28) (nI x29) (nI x30) (nI x33) x45 (nI x46) (nI x52) (nI x53) (nI x61) (nI x62) (nI x63) (nI x65) x66 f1 f2 f3 (bN 3 q4) (bN 7 q5) (bN 7 q6) (bN 4 q7) f8 (bN 2 q9) (bH q10) f11 (b2 m12_0 m12_1) (b2 m13_0 m13_1) (b2 m14_0 m14_1) (b2m m15_0 m15_1) f17 (bA 159 q31) f32 f34 f35 f36 f37 (bN 7 q38) f39 f40 f41 (b2 m42_0 m42_1) f43 f44 f47 f48 f49 f50 f51 (bN 13 q54) (bN 120 q55) (bN 120 q56) f57 (bN 120 q58) f59 f60 f64) := hD
  refine lv_aload_n hx hb dX9_avoids_5 rfl (lv_at hl 0 rfl) ?_
  refine lv_iload_n hx hb dX9_avoids_6 rfl (lv_at hl 1 rfl) ?_
  refine va_calli (va_runV (As := [.int p0]) (rest := []) ⟨hx, hb, hml, hown, hts⟩ (c_EM_isPlace l dC dI _ ad ck 0 x16 x18 x19 x20 x21 x22 x23 x24 x25 x26 x27 x28 x29 x30 x33 x45 x46 x52 x53 x61 x62 x63 x65 x66 f1 f2 f3 q4 q5 q6 q7 f8 q9 q10 f11 m12_0 m12_1 m13_0 m13_1 m14_0 m14_1 m15_0 m15_1 f17 q31 f32 f34 f35 f36 f37 q38 f39 f40 f41 m42_0 m42_1 f43 f44 f47 f48 f49 f50 f51 q54 q55 q56 f57 q58 f59 f60 f64 p0 hx16 hx18 hx19 hx21 hx22 hx26 hx28 hx29 hx30 hx33 hx46 hx52 hx53 hx61 hx62 hx63 hx65 hm12_0 hm12_1 hm13_0 hm13_1 hm14_0 hm14_1 hm15_0 hm15_1 hm42_0 hm42_1) (cwV 1 hts g_EM_avoids_EM_isPlace rfl rfl rfl (by decide +kernel) ⟨Nat.le_of_ble_eq_true rfl, Nat.le_of_ble_eq_true rfl⟩) ⟨pu_bl, va_recv hK hP (ci := 9) (q0 := 0) rfl rfl, pu_in hP hK hD⟩ rfl rfl hl.1 rfl (lv_room (Nat.le_of_ble_eq_true rfl)) dX9_avoids_7 ⟨Nat.le_of_ble_eq_true rfl, Nat.le_of_ble_eq_true rfl⟩) hS (fun q _ h => pu_fr hS hA q h) (pu_fr hS hA) (fun r_1 u t H1 locs ht hvm hw hB hz1 hk1 hS => ?_)
  have hP := pu_keep hP hk1
  clear hk1 hz1 ht hvm
  generalize H1 = H at hP hS ⊢
  rcases hw with ⟨rfl, hw⟩ | ⟨rfl, hn⟩
  · obtain ⟨n_2, hn_2, en_2⟩ := hw
    replace hsp := hsp.trans (if_pos (in_c hn_2 ⟨by omega, by omega⟩ en_2))
    subst en_2
    replace hsp := hsp.trans (slet_eq (nI_cl (n := n_2) (by omega)))
    refine lv_if_eq (tgt := 21) hx hb dX9_avoids_10 (by decide) (fun z => absurd z (by decide)) (fun _ => ?_)
    refine lv_aload_n hx hb dX9_avoids_13 rfl (lv_at hl 0 rfl) ?_
    refine lv_iload_n hx hb dX9_avoids_14 rfl (lv_at hl 2 rfl) ?_
    refine va_calli (va_runV (As := [.int p1]) (rest := []) ⟨hx, hb, hml, hown, hts⟩ (c_EM_isPlace l dC dI _ ad ck 0 x16 x18 x19 x20 x21 x22 x23 x24 x25 x26 x27 x28 x29 x30 x33 x45 x46 x52 x53 x61 x62 x63 x65 x66 f1 f2 f3 q4 q5 q6 q7 f8 q9 q10 f11 m12_0 m12_1 m13_0 m13_1 m14_0 m14_1 m15_0 m15_1 f17 q31 f32 f34 f35 f36 f37 q38 f39 f40 f41 m42_0 m42_1 f43 f44 f47 f48 f49 f50 f51 q54 q55 q56 f57 q58 f59 f60 f64 p1 hx16 hx18 hx19 hx21 hx22 hx26 hx28 hx29 hx30 hx33 hx46 hx52 hx53 hx61 hx62 hx63 hx65 hm12_0 hm12_1 hm13_0 hm13_1 hm14_0 hm14_1 hm15_0 hm15_1 hm42_0 hm42_1) (cwV 1 hts g_EM_avoids_EM_isPlace rfl rfl rfl (by decide +kernel) ⟨Nat.le_of_ble_eq_true rfl, Nat.le_of_ble_eq_true rfl⟩) ⟨pu_bl, va_recv hK hP (ci := 9) (q0 := 0) rfl rfl, pu_in hP hK hD⟩ rfl rfl hl.1 rfl (lv_room (Nat.le_of_ble_eq_true rfl)) dX9_avoids_15 ⟨Nat.le_of_ble_eq_true rfl, Nat.le_of_ble_eq_true rfl⟩) hS (fun q _ h => pu_fr hS hA q h) (pu_fr hS hA) (fun r_3 u t H1 locs ht hvm hw hB hz1 hk1 hS => ?_)
    have hP := pu_keep hP hk1
    clear hk1 hz1 ht hvm
    generalize H1 = H at hP hS ⊢
    rcases hw with ⟨rfl, hw⟩ | ⟨rfl, hn⟩
    · obtain ⟨n_4, hn_4, en_4⟩ := hw
      replace hsp := hsp.trans (if_pos (in_c hn_4 ⟨by omega, by omega⟩ en_4))
      subst en_4
      replace hsp := hsp.trans (slet_eq (nI_cl (n := n_4) (by omega)))
      refine lv_if_ne (tgt := 23) hx hb dX9_avoids_18 (by decide) (fun _ => ?_) (fun z => absurd z (by decide))
      refine lv_iload_n hx hb dX9_avoids_23 rfl (lv_at hl 1 rfl) ?_
      refine lv_iload_n hx hb dX9_avoids_24 rfl (lv_at hl 2 rfl) ?_
      refine lv_icmp_eq (tgt := 41) hx hb dX9_avoids_25 (by decide) (fun c_5 => ?_) (fun c_5 => ?_)
      · have c_5 : n_2 = n_4 := (nI_eq (a := n_2) (b := n_4) (by omega) (by omega)).mp c_5
        replace hsp := hsp.trans (if_pos c_5)
        refine lv_iconst (v := 0) hx hb dX9_avoids_41 (by decide) ?_
        exact W.iret (v := 0) hx hb hr (fun t ht hW => ⟨⟨0, (), rfl, (congrArg Prod.fst (hsp.symm.trans hRR)), ⟨f34, f35, q38, f39, f40, f41, f43, f44, f47, f48, m42_1, 0, x46, ⟨by rw [ht]; exact hP, va_K.moved hW.alike hK, hD⟩, hm42_1, hx46, by first | assumption | exact gz_0, (congrArg Prod.snd (hsp.symm.trans hRR))⟩⟩, hS.F ht⟩) hS.2.2 dX9_avoids_42
      · have c_5 : ¬ n_2 = n_4 := fun z => c_5 ((nI_eq (a := n_2) (b := n_4) (by omega) (by omega)).mpr z)
        replace hsp := hsp.trans (if_neg c_5)
        refine lv_iload_n hx hb dX9_avoids_28 rfl (lv_at hl 1 rfl) ?_
        refine lv_aload_n hx hb dX9_avoids_29 rfl (lv_at hl 0 rfl) ?_
        refine va_get (D := (dC, dI)) (ci := 9) (v := .ref (ad 15)) (C := RX9) (T := TX9) (N := 67) hx hb hts hiX9 hown hK hP 0 rfl rfl 15 (by decide) v_7 (fun _ h9 => h9) rfl dX9_avoids_30 ?_
        refine lv_aload_n hx hb dX9_avoids_33 rfl (lv_at hl 0 rfl) ?_
        refine va_get (D := (dC, dI)) (ci := 9) (v := .int (nI x16)) (C := RX9) (T := TX9) (N := 67) hx hb hts hiX9 hown hK hP 0 rfl rfl 16 (by decide) v_8 (fun _ h9 => h9) rfl dX9_avoids_34 ?_
        refine va_iald hx hb hK hP 15 14 rfl rfl (vp_in_nI (n := x16) (Nat.lt_of_le_of_lt hx16 (Nat.le_of_ble_eq_true rfl)) (Nat.le_of_ble_eq_true rfl)) dX9_avoids_37 ?_
        refine lv_topi (fun y_6 ey_6 => ?_)
        obtain ⟨u_7, hu_7, fu_7, xu_7⟩ := b2m_getx (a := m15_0) (b := m15_1) (i := x16) (by omega)
        have qy_6 := ey_6.trans fu_7
        replace hsp := hsp.trans (slet_eq xu_7)
        rcases mI_get u_7 with ⟨zy_6, wy_6⟩ | ⟨vy_6, zy_6, wy_6⟩
        · exfalso
          have hbq : bkN x16 m13_0 m13_1 = (if x16 = 0 then m13_0 else m13_1) := rfl
          have hbk := hbg_bk hbg
          omega
        · obtain rfl : y_6 = nI vy_6 := qy_6.trans wy_6
          replace hsp := hsp.trans (slet_eq (by omega : vy_6 = u_7 - 1))
          refine lv_icmp_ne (tgt := 43) hx hb dX9_avoids_38 (by decide) (fun c_8 => ?_) (fun c_8 => ?_)
          · have c_8 : ¬ n_2 = vy_6 := fun z => c_8 ((nI_eq (a := n_2) (b := vy_6) (by omega) (by omega)).mpr z)
            replace hsp := hsp.trans (if_neg c_8)
            refine lv_aload_n hx hb dX9_avoids_43 rfl (lv_at hl 0 rfl) ?_
            refine lv_aload_n hx hb dX9_avoids_44 rfl (lv_at hl 0 rfl) ?_
            refine va_calli (va_runV (As := []) (rest := [.ref (ad 0)]) ⟨hx, hb, hml, hown, hts⟩ (c_EM_clocks l dC dI _ ad ck 0 x16 x18 x19 x20 x21 x22 x23 x24 x25 x26 x27 x28 x29 x30 x33 x45 x46 x52 x53 x61 x62 x63 x65 x66 f1 f2 f3 q4 q5 q6 q7 f8 q9 q10 f11 m12_0 m12_1 m13_0 m13_1 m14_0 m14_1 m15_0 m15_1 f17 q31 f32 f34 f35 f36 f37 q38 f39 f40 f41 m42_0 m42_1 f43 f44 f47 f48 f49 f50 f51 q54 q55 q56 f57 q58 f59 f60 f64 hx16 hx18 hx19 hx21 hx22 hx26 hx28 hx29 hx30 hx33 hx46 hx52 hx53 hx61 hx62 hx63 hx65 hm12_0 hm12_1 hm13_0 hm13_1 hm14_0 hm14_1 hm15_0 hm15_1 hm42_0 hm42_1) (cwV 0 hts g_EM_avoids_EM_clocks rfl rfl rfl (by decide +kernel) ⟨Nat.le_of_ble_eq_true rfl, Nat.le_of_ble_eq_true rfl⟩) ⟨pu_bl, va_recv hK hP (ci := 9) (q0 := 0) rfl rfl, pu_in hP hK hD⟩ rfl rfl hl.1 rfl (lv_room (Nat.le_of_ble_eq_true rfl)) dX9_avoids_45 ⟨Nat.le_of_ble_eq_true rfl, Nat.le_of_ble_eq_true rfl⟩) hS (fun q _ h => pu_fr hS hA q h) (pu_fr hS hA) (fun r_9 u t H1 locs ht hvm hw hB hz1 hk1 hS => ?_)
            have hP := pu_keep hP hk1
            clear hk1 hz1 ht hvm
            generalize H1 = H at hP hS ⊢
            obtain ⟨u_10, hu_10, rfl, iu_10⟩ := hw
            replace hsp := hsp.trans (slet_eq iu_10)
            refine lv_iconst (v := 1) hx hb dX9_avoids_48 (by decide) ?_
            refine lv_iadd hx hb dX9_avoids_49 ?_
            refine lv_topi (fun y_11 ey_11 => ?_)
            obtain rfl : y_11 = (nI (u_10 + 1)) := ey_11.trans (nI_add u_10 1)
            refine va_put (D := (dC, dI)) (ci := 9) (v := .int (nI (u_10 + 1))) (ty := .int) (C := RX9) (T := TX9) (N := 67) hx hb hts hiX9 tyX9 tyX9_ok nmX9 hown hK hP hD hS 0 rfl rfl 46 (by decide) v_13 (fun _ h9 => h9) rfl (by decide +kernel) rfl rfl (Nat.le_of_ble_eq_true rfl) dX9_avoids_50 (fun H locs hP hD hS => ?_)
            have hP : va_P (dC, dI) vwCl (mo_w ad ck 0 (nI x16) (nI x18) (nI x19) x20 (nI x21) (nI x22) x23 x24 x25 (nI x26) x27 (nI x28) (nI x29) (nI x30) (nI x33) x45 (nI (u_10 + 1)) (nI x52) (nI x53) (nI x61) (nI x62) (nI x63) (nI x65) x66 f1 f2 f3 (bN 3 q4) (bN 7 q5) (bN 7 q6) (bN 4 q7) f8 (bN 2 q9) (bH q10) f11 (b2 m12_0 m12_1) (b2 m13_0 m13_1) (b2 m14_0 m14_1) (b2m m15_0 m15_1) f17 (bA 159 q31) f32 f34 f35 f36 f37 (bN 7 q38) f39 f40 f41 (b2 m42_0 m42_1) f43 f44 f47 f48 f49 f50 f51 (bN 13 q54) (bN 120 q55) (bN 120 q56) f57 (bN 120 q58) f59 f60 f64) H := hP
            have hD : va_D A (mo_w ad ck 0 (nI x16) (nI x18) (nI x19) x20 (nI x21) (nI x22) x23 x24 x25 (nI x26) x27 (nI x28) (nI x29) (nI x30) (nI x33) x45 (nI (u_10 + 1)) (nI x52) (nI x53) (nI x61) (nI x62) (nI x63) (nI x65) x66 f1 f2 f3 (bN 3 q4) (bN 7 q5) (bN 7 q6) (bN 4 q7) f8 (bN 2 q9) (bH q10) f11 (b2 m12_0 m12_1) (b2 m13_0 m13_1) (b2 m14_0 m14_1) (b2m m15_0 m15_1) f17 (bA 159 q31) f32 f34 f35 f36 f37 (bN 7 q38) f39 f40 f41 (b2 m42_0 m42_1) f43 f44 f47 f48 f49 f50 f51 (bN 13 q54) (bN 120 q55) (bN 120 q56) f57 (bN 120 q58) f59 f60 f64) := hD
            refine lv_aload_n hx hb dX9_avoids_53 rfl (lv_at hl 0 rfl) ?_
            refine lv_iconst (v := 0) hx hb dX9_avoids_54 (by decide) ?_
            refine lv_iconst (v := 0) hx hb dX9_avoids_55 (by decide) ?_
            refine lv_iconst (v := 0) hx hb dX9_avoids_56 (by decide) ?_
            have hFc := pu_free hD hS hA
            refine va_callv (va_runV (As := [.int 0, .int 0, .int 0]) (rest := []) ⟨hx, hb, hml, hown, hts⟩ (c_EM_layPoint l dC dI _ ad ck 0 x16 x18 x19 x20 x21 x22 x23 x24 x25 x26 x27 x28 x29 x30 x33 x45 (u_10 + 1) x52 x53 x61 x62 x63 x65 x66 f1 f2 f3 q4 q5 q6 q7 f8 q9 q10 f11 m12_0 m12_1 m13_0 m13_1 m14_0 m14_1 m15_0 m15_1 f17 q31 f32 f34 f35 f36 f37 q38 f39 f40 f41 m42_0 m42_1 f43 f44 f47 f48 f49 f50 f51 q54 q55 q56 f57 q58 f59 f60 f64 0 0 0 hx16 hx18 hx19 hx21 hx22 hx26 hx28 hx29 hx30 hx33 (by omega) hx52 hx53 hx61 hx62 hx63 hx65 hm12_0 hm12_1 hm13_0 hm13_1 hm14_0 hm14_1 hm15_0 hm15_1 hm42_0 hm42_1) (cwV 3 hts g_EM_avoids_EM_layPoint rfl rfl rfl (by decide +kernel) ⟨Nat.le_of_ble_eq_true rfl, Nat.le_of_ble_eq_true rfl⟩) ⟨pu_bl, va_recv hK hP (ci := 9) (q0 := 0) rfl rfl, pu_in hP hK hD⟩ rfl rfl hl.1 rfl (lv_room (Nat.le_of_ble_eq_true rfl)) dX9_avoids_57 ⟨Nat.le_of_ble_eq_true rfl, Nat.le_of_ble_eq_true rfl⟩) hS (fun q _ h => hFc q h) hFc (fun u t H1 locs ht hvm hw hB hz1 hk1 hS => ?_)
            obtain ⟨z35_13, ⟨hP1, -, hD1⟩, xr_12_0⟩ := hB
            rw [ht] at hP1
            have hP := hP1
            have hD := pu_all hFc hD1
            clear hP1 hD1 hFc
            clear hk1 hz1 ht hvm
            generalize H1 = H at hP hS ⊢
            replace hsp := hsp.trans (slet_eq xr_12_0)
            refine lv_aload_n hx hb dX9_avoids_60 rfl (lv_at hl 0 rfl) ?_
            refine lv_iconst (v := 1) hx hb dX9_avoids_61 (by decide) ?_
            refine lv_aload_n hx hb dX9_avoids_62 rfl (lv_at hl 0 rfl) ?_
            refine va_get (D := (dC, dI)) (ci := 9) (v := .ref (ad 15)) (C := RX9) (T := TX9) (N := 67) hx hb hts hiX9 hown hK hP 0 rfl rfl 15 (by decide) v_7 (fun _ h9 => h9) rfl dX9_avoids_63 ?_
            refine lv_aload_n hx hb dX9_avoids_66 rfl (lv_at hl 0 rfl) ?_
            refine va_get (D := (dC, dI)) (ci := 9) (v := .int (nI x16)) (C := RX9) (T := TX9) (N := 67) hx hb hts hiX9 hown hK hP 0 rfl rfl 16 (by decide) v_8 (fun _ h9 => h9) rfl dX9_avoids_67 ?_
            refine va_iald hx hb hK hP 15 14 rfl rfl (vp_in_nI (n := x16) (Nat.lt_of_le_of_lt hx16 (Nat.le_of_ble_eq_true rfl)) (Nat.le_of_ble_eq_true rfl)) dX9_avoids_70 ?_
            refine lv_topi (fun y_14 ey_14 => ?_)
            have qy_14 := ey_14.trans fu_7
            rcases mI_get u_7 with ⟨zy_14, wy_14⟩ | ⟨vy_14, zy_14, wy_14⟩
            · exfalso
              have hbq : bkN x16 m13_0 m13_1 = (if x16 = 0 then m13_0 else m13_1) := rfl
              have hbk := hbg_bk hbg
              omega
            · obtain rfl : y_14 = nI vy_14 := qy_14.trans wy_14
              replace hsp := hsp.trans (slet_eq (by omega : vy_14 = u_7 - 1))
              refine lv_iconst (v := 2) hx hb dX9_avoids_71 (by decide) ?_
              refine lv_iconst (v := 1) hx hb dX9_avoids_72 (by decide) ?_
              refine lv_bipush (v := 120) hx hb dX9_avoids_73 (by decide) ?_
              refine lv_iload_n hx hb dX9_avoids_75 rfl (lv_at hl 1 rfl) ?_
              have hFc := pu_free hD hS hA
              refine va_callv (va_runV (As := [.int 1, .int (nI vy_14), .int 2, .int 1, .int 120, .int (nI n_2)]) (rest := []) ⟨hx, hb, hml, hown, hts⟩ (c_EM_explores_1_120 l dC dI _ ad ck 0 x16 x18 x19 x20 x21 x22 x23 x24 x25 x26 x27 x28 x29 x30 x33 x45 (u_10 + 1) x52 x53 x61 x62 x63 x65 x66 f1 f2 f3 q4 q5 q6 q7 f8 q9 q10 f11 m12_0 m12_1 m13_0 m13_1 m14_0 m14_1 m15_0 m15_1 f17 q31 f32 f34 z35_13 f36 f37 q38 f39 f40 f41 m42_0 m42_1 f43 f44 f47 f48 f49 f50 f51 q54 q55 q56 f57 q58 f59 f60 f64 vy_14 2 1 (nI n_2) hx16 hx18 hx19 hx21 hx22 hx26 hx28 hx29 hx30 hx33 (by omega) hx52 hx53 hx61 hx62 hx63 hx65 hm12_0 hm12_1 hm13_0 hm13_1 hm14_0 hm14_1 hm15_0 hm15_1 hm42_0 hm42_1 (by omega) (Nat.le_of_ble_eq_true rfl) (by first | assumption | exact gz_0)) (cwV 6 hts g_EM_avoids_EM_explores_1_120 rfl rfl rfl (by decide +kernel) ⟨Nat.le_of_ble_eq_true rfl, Nat.le_of_ble_eq_true rfl⟩) ⟨pu_bl, va_recv hK hP (ci := 9) (q0 := 0) rfl rfl, pu_in hP hK hD⟩ rfl rfl hl.1 rfl (lv_room (Nat.le_of_ble_eq_true rfl)) dX9_avoids_76 ⟨Nat.le_of_ble_eq_true rfl, Nat.le_of_ble_eq_true rfl⟩) hS (fun q _ h => hFc q h) hFc (fun u t H1 locs ht hvm hw hB hz1 hk1 hS => ?_)
              obtain ⟨z34_16, z35_17, z38_18, z39_19, z40_20, z41_21, z43_22, z44_23, z47_24, z48_25, z42_1_26, ⟨hP1, -, hD1⟩, hz42_1_26, xr_15_0, xr_15_1⟩ := hB
              rw [ht] at hP1
              have hP := hP1
              have hD := pu_all hFc hD1
              clear hP1 hD1 hFc
              clear hk1 hz1 ht hvm
              generalize H1 = H at hP hS ⊢
              replace hsp := hsp.trans (slet_eq xr_15_1)
              refine lv_aload_n hx hb dX9_avoids_79 rfl (lv_at hl 0 rfl) ?_
              refine lv_iconst (v := 1) hx hb dX9_avoids_80 (by decide) ?_
              refine lv_iload_n hx hb dX9_avoids_81 rfl (lv_at hl 2 rfl) ?_
              refine va_calli (va_runV (As := [.int 1, .int (nI n_4)]) (rest := []) ⟨hx, hb, hml, hown, hts⟩ (c_EM_hasPlace_1 l dC dI _ ad ck 0 x16 x18 x19 x20 x21 x22 x23 x24 x25 x26 x27 x28 x29 x30 x33 x45 (u_10 + 1) x52 x53 x61 x62 x63 x65 x66 f1 f2 f3 q4 q5 q6 q7 f8 q9 q10 f11 m12_0 m12_1 m13_0 m13_1 m14_0 m14_1 m15_0 m15_1 f17 q31 f32 z34_16 z35_17 f36 f37 z38_18 z39_19 z40_20 z41_21 m42_0 z42_1_26 z43_22 z44_23 z47_24 z48_25 f49 f50 f51 q54 q55 q56 f57 q58 f59 f60 f64 (nI n_4) hx16 hx18 hx19 hx21 hx22 hx26 hx28 hx29 hx30 hx33 (by omega) hx52 hx53 hx61 hx62 hx63 hx65 hm12_0 hm12_1 hm13_0 hm13_1 hm14_0 hm14_1 hm15_0 hm15_1 hm42_0 (Nat.le_trans hz42_1_26 (Nat.le_of_ble_eq_true rfl))) (cwV 2 hts g_EM_avoids_EM_hasPlace_1 rfl rfl rfl (by decide +kernel) ⟨Nat.le_of_ble_eq_true rfl, Nat.le_of_ble_eq_true rfl⟩) ⟨pu_bl, va_recv hK hP (ci := 9) (q0 := 0) rfl rfl, pu_in hP hK hD⟩ rfl rfl hl.1 rfl (lv_room (Nat.le_of_ble_eq_true rfl)) dX9_avoids_82 ⟨Nat.le_of_ble_eq_true rfl, Nat.le_of_ble_eq_true rfl⟩) hS (fun q _ h => pu_fr hS hA q h) (pu_fr hS hA) (fun r_27 u t H1 locs ht hvm hw hB hz1 hk1 hS => ?_)
              have hP := pu_keep hP hk1
              clear hk1 hz1 ht hvm
              generalize H1 = H at hP hS ⊢
              obtain ⟨u_28, hu_28, rfl, iu_28⟩ := hw
              replace hsp := hsp.trans (slet_eq iu_28)
              refine lv_if_eq (tgt := 92) hx hb dX9_avoids_85 (by decide) (fun c_29 => ?_) (fun c_29 => ?_)
              · have c_29 : u_28 = 0 := (nI_eq (a := u_28) (b := 0) (Nat.lt_of_le_of_lt hu_28 (Nat.le_of_ble_eq_true rfl)) (Nat.le_of_ble_eq_true rfl)).mp c_29
                replace hsp := hsp.trans (if_pos c_29)
                refine lv_iconst (v := 0) hx hb dX9_avoids_92 (by decide) ?_
                exact W.iret (v := 0) hx hb hr (fun t ht hW => ⟨⟨0, (), rfl, (congrArg Prod.fst (hsp.symm.trans hRR)), ⟨z34_16, z35_17, z38_18, z39_19, z40_20, z41_21, z43_22, z44_23, z47_24, z48_25, z42_1_26, 0, (u_10 + 1), ⟨by rw [ht]; exact hP, va_K.moved hW.alike hK, hD⟩, (Nat.le_trans hz42_1_26 (Nat.le_of_ble_eq_true rfl)), (by omega), by first | assumption | exact gz_0, (congrArg Prod.snd (hsp.symm.trans hRR))⟩⟩, hS.F ht⟩) hS.2.2 dX9_avoids_93
              · have c_29 : ¬ u_28 = 0 := fun z => c_29 ((nI_eq (a := u_28) (b := 0) (Nat.lt_of_le_of_lt hu_28 (Nat.le_of_ble_eq_true rfl)) (Nat.le_of_ble_eq_true rfl)).mpr z)
                replace hsp := hsp.trans (if_neg c_29)
                refine lv_iconst (v := 1) hx hb dX9_avoids_88 (by decide) ?_
                refine lv_goto (tgt := 93) hx hb dX9_avoids_89 (by decide) ?_
                exact W.iret (v := 1) hx hb hr (fun t ht hW => ⟨⟨1, (), rfl, (congrArg Prod.fst (hsp.symm.trans hRR)), ⟨z34_16, z35_17, z38_18, z39_19, z40_20, z41_21, z43_22, z44_23, z47_24, z48_25, z42_1_26, 0, (u_10 + 1), ⟨by rw [ht]; exact hP, va_K.moved hW.alike hK, hD⟩, (Nat.le_trans hz42_1_26 (Nat.le_of_ble_eq_true rfl)), (by omega), by first | assumption | exact gz_0, (congrArg Prod.snd (hsp.symm.trans hRR))⟩⟩, hS.F ht⟩) hS.2.2 dX9_avoids_93
          · have c_8 : n_2 = vy_6 := (nI_eq (a := n_2) (b := vy_6) (by omega) (by omega)).mp c_8
            replace hsp := hsp.trans (if_pos c_8)
            refine lv_iconst (v := 0) hx hb dX9_avoids_41 (by decide) ?_
            exact W.iret (v := 0) hx hb hr (fun t ht hW => ⟨⟨0, (), rfl, (congrArg Prod.fst (hsp.symm.trans hRR)), ⟨f34, f35, q38, f39, f40, f41, f43, f44, f47, f48, m42_1, 0, x46, ⟨by rw [ht]; exact hP, va_K.moved hW.alike hK, hD⟩, hm42_1, hx46, by first | assumption | exact gz_0, (congrArg Prod.snd (hsp.symm.trans hRR))⟩⟩, hS.F ht⟩) hS.2.2 dX9_avoids_42
    · replace hsp := hsp.trans (if_neg hn)
      refine lv_if_ne (tgt := 23) hx hb dX9_avoids_18 (by decide) (fun z => absurd z (by decide)) (fun _ => ?_)
      refine lv_iconst (v := (-1)) hx hb dX9_avoids_21 (by decide) ?_
      exact W.iret (v := (-1)) hx hb hr (fun t ht hW => ⟨⟨(-1), (), rfl, (congrArg Prod.fst (hsp.symm.trans hRR)), ⟨f34, f35, q38, f39, f40, f41, f43, f44, f47, f48, m42_1, 0, x46, ⟨by rw [ht]; exact hP, va_K.moved hW.alike hK, hD⟩, hm42_1, hx46, by first | assumption | exact gz_0, (congrArg Prod.snd (hsp.symm.trans hRR))⟩⟩, hS.F ht⟩) hS.2.2 dX9_avoids_22
  · replace hsp := hsp.trans (if_neg hn)
    refine lv_if_eq (tgt := 21) hx hb dX9_avoids_10 (by decide) (fun _ => ?_) (fun z => absurd z (by decide))
    refine lv_iconst (v := (-1)) hx hb dX9_avoids_21 (by decide) ?_
    exact W.iret (v := (-1)) hx hb hr (fun t ht hW => ⟨⟨(-1), (), rfl, (congrArg Prod.fst (hsp.symm.trans hRR)), ⟨f34, f35, q38, f39, f40, f41, f43, f44, f47, f48, m42_1, 0, x46, ⟨by rw [ht]; exact hP, va_K.moved hW.alike hK, hD⟩, hm42_1, hx46, by first | assumption | exact gz_0, (congrArg Prod.snd (hsp.symm.trans hRR))⟩⟩, hS.F ht⟩) hS.2.2 dX9_avoids_22
theorem dX9_soonest_0 : decode cX9_soonest 0 = .ok (.aload_n 0, 1) := by decide +kernel
theorem dX9_soonest_1 : decode cX9_soonest 1 = .ok (.iconst 0, 1) := by decide +kernel
theorem dX9_soonest_2 : decode cX9_soonest 2 = .ok (.putfield 142, 3) := by decide +kernel
theorem dX9_soonest_5 : decode cX9_soonest 5 = .ok (.aload_n 0, 1) := by decide +kernel
theorem dX9_soonest_6 : decode cX9_soonest 6 = .ok (.iload_n 1, 1) := by decide +kernel
theorem dX9_soonest_7 : decode cX9_soonest 7 = .ok (.invokevirtual 286, 3) := by decide +kernel
theorem dX9_soonest_10 : decode cX9_soonest 10 = .ok (.ifCond .eq 12, 3) := by decide +kernel
theorem dX9_soonest_13 : decode cX9_soonest 13 = .ok (.iload_n 2, 1) := by decide +kernel
theorem dX9_soonest_14 : decode cX9_soonest 14 = .ok (.iconst 0, 1) := by decide +kernel
theorem dX9_soonest_15 : decode cX9_soonest 15 = .ok (.iconst 1, 1) := by decide +kernel
theorem dX9_soonest_16 : decode cX9_soonest 16 = .ok (.invokestatic 152, 3) := by decide +kernel
theorem dX9_soonest_19 : decode cX9_soonest 19 = .ok (.ifCond .ne 5, 3) := by decide +kernel
theorem dX9_soonest_22 : decode cX9_soonest 22 = .ok (.iconst (-1), 1) := by decide +kernel
theorem dX9_soonest_23 : decode cX9_soonest 23 = .ok (.ireturn, 1) := by decide +kernel
theorem dX9_soonest_24 : decode cX9_soonest 24 = .ok (.aload_n 0, 1) := by decide +kernel
theorem dX9_soonest_25 : decode cX9_soonest 25 = .ok (.aload_n 0, 1) := by decide +kernel
theorem dX9_soonest_26 : decode cX9_soonest 26 = .ok (.invokevirtual 280, 3) := by decide +kernel
theorem dX9_soonest_29 : decode cX9_soonest 29 = .ok (.iconst 2, 1) := by decide +kernel
theorem dX9_soonest_30 : decode cX9_soonest 30 = .ok (.iadd, 1) := by decide +kernel
theorem dX9_soonest_31 : decode cX9_soonest 31 = .ok (.putfield 328, 3) := by decide +kernel
theorem dX9_soonest_34 : decode cX9_soonest 34 = .ok (.aload_n 0, 1) := by decide +kernel
theorem dX9_soonest_35 : decode cX9_soonest 35 = .ok (.iconst 0, 1) := by decide +kernel
theorem dX9_soonest_36 : decode cX9_soonest 36 = .ok (.iconst 0, 1) := by decide +kernel
theorem dX9_soonest_37 : decode cX9_soonest 37 = .ok (.iconst 0, 1) := by decide +kernel
theorem dX9_soonest_38 : decode cX9_soonest 38 = .ok (.invokevirtual 379, 3) := by decide +kernel
theorem dX9_soonest_41 : decode cX9_soonest 41 = .ok (.aload_n 0, 1) := by decide +kernel
theorem dX9_soonest_42 : decode cX9_soonest 42 = .ok (.iconst 1, 1) := by decide +kernel
theorem dX9_soonest_43 : decode cX9_soonest 43 = .ok (.aload_n 0, 1) := by decide +kernel
theorem dX9_soonest_44 : decode cX9_soonest 44 = .ok (.getfield 52, 3) := by decide +kernel
theorem dX9_soonest_47 : decode cX9_soonest 47 = .ok (.aload_n 0, 1) := by decide +kernel
theorem dX9_soonest_48 : decode cX9_soonest 48 = .ok (.getfield 258, 3) := by decide +kernel
theorem dX9_soonest_51 : decode cX9_soonest 51 = .ok (.iaload, 1) := by decide +kernel
theorem dX9_soonest_52 : decode cX9_soonest 52 = .ok (.iconst 2, 1) := by decide +kernel
theorem dX9_soonest_53 : decode cX9_soonest 53 = .ok (.iconst 1, 1) := by decide +kernel
theorem dX9_soonest_54 : decode cX9_soonest 54 = .ok (.sipush 400, 3) := by decide +kernel
theorem dX9_soonest_57 : decode cX9_soonest 57 = .ok (.iconst (-1), 1) := by decide +kernel
theorem dX9_soonest_58 : decode cX9_soonest 58 = .ok (.invokevirtual 383, 3) := by decide +kernel
theorem dX9_soonest_61 : decode cX9_soonest 61 = .ok (.bipush (-120), 2) := by decide +kernel
theorem dX9_soonest_63 : decode cX9_soonest 63 = .ok (.istore_n 3, 1) := by decide +kernel
theorem dX9_soonest_64 : decode cX9_soonest 64 = .ok (.iconst 0, 1) := by decide +kernel
theorem dX9_soonest_65 : decode cX9_soonest 65 = .ok (.istore 4, 2) := by decide +kernel
theorem dX9_soonest_67 : decode cX9_soonest 67 = .ok (.iload 4, 2) := by decide +kernel
theorem dX9_soonest_69 : decode cX9_soonest 69 = .ok (.aload_n 0, 1) := by decide +kernel
theorem dX9_soonest_70 : decode cX9_soonest 70 = .ok (.getfield 92, 3) := by decide +kernel
theorem dX9_soonest_73 : decode cX9_soonest 73 = .ok (.iconst 1, 1) := by decide +kernel
theorem dX9_soonest_74 : decode cX9_soonest 74 = .ok (.iaload, 1) := by decide +kernel
theorem dX9_soonest_75 : decode cX9_soonest 75 = .ok (.if_icmp .ge 50, 3) := by decide +kernel
theorem dX9_soonest_78 : decode cX9_soonest 78 = .ok (.iconst 1, 1) := by decide +kernel
theorem dX9_soonest_79 : decode cX9_soonest 79 = .ok (.iload 4, 2) := by decide +kernel
theorem dX9_soonest_81 : decode cX9_soonest 81 = .ok (.invokestatic 355, 3) := by decide +kernel
theorem dX9_soonest_84 : decode cX9_soonest 84 = .ok (.istore 5, 2) := by decide +kernel
theorem dX9_soonest_86 : decode cX9_soonest 86 = .ok (.aload_n 0, 1) := by decide +kernel
theorem dX9_soonest_87 : decode cX9_soonest 87 = .ok (.getfield 80, 3) := by decide +kernel
theorem dX9_soonest_90 : decode cX9_soonest 90 = .ok (.iload 5, 2) := by decide +kernel
theorem dX9_soonest_92 : decode cX9_soonest 92 = .ok (.iaload, 1) := by decide +kernel
theorem dX9_soonest_93 : decode cX9_soonest 93 = .ok (.iload_n 1, 1) := by decide +kernel
theorem dX9_soonest_94 : decode cX9_soonest 94 = .ok (.if_icmp .ne 25, 3) := by decide +kernel
theorem dX9_soonest_97 : decode cX9_soonest 97 = .ok (.iload_n 3, 1) := by decide +kernel
theorem dX9_soonest_98 : decode cX9_soonest 98 = .ok (.aload_n 0, 1) := by decide +kernel
theorem dX9_soonest_99 : decode cX9_soonest 99 = .ok (.getfield 68, 3) := by decide +kernel
theorem dX9_soonest_102 : decode cX9_soonest 102 = .ok (.bipush 25, 2) := by decide +kernel
theorem dX9_soonest_104 : decode cX9_soonest 104 = .ok (.iload 5, 2) := by decide +kernel
theorem dX9_soonest_106 : decode cX9_soonest 106 = .ok (.imul, 1) := by decide +kernel
theorem dX9_soonest_107 : decode cX9_soonest 107 = .ok (.aload_n 0, 1) := by decide +kernel
theorem dX9_soonest_108 : decode cX9_soonest 108 = .ok (.getfield 328, 3) := by decide +kernel
theorem dX9_soonest_111 : decode cX9_soonest 111 = .ok (.iadd, 1) := by decide +kernel
theorem dX9_soonest_112 : decode cX9_soonest 112 = .ok (.iconst 1, 1) := by decide +kernel
theorem dX9_soonest_113 : decode cX9_soonest 113 = .ok (.isub, 1) := by decide +kernel
theorem dX9_soonest_114 : decode cX9_soonest 114 = .ok (.iaload, 1) := by decide +kernel
theorem dX9_soonest_115 : decode cX9_soonest 115 = .ok (.invokestatic 229, 3) := by decide +kernel
theorem dX9_soonest_118 : decode cX9_soonest 118 = .ok (.istore_n 3, 1) := by decide +kernel
theorem dX9_soonest_119 : decode cX9_soonest 119 = .ok (.iinc 4 1, 3) := by decide +kernel
theorem dX9_soonest_122 : decode cX9_soonest 122 = .ok (.goto (-55), 3) := by decide +kernel
theorem dX9_soonest_125 : decode cX9_soonest 125 = .ok (.aload_n 0, 1) := by decide +kernel
theorem dX9_soonest_126 : decode cX9_soonest 126 = .ok (.getfield 98, 3) := by decide +kernel
theorem dX9_soonest_129 : decode cX9_soonest 129 = .ok (.iconst 1, 1) := by decide +kernel
theorem dX9_soonest_130 : decode cX9_soonest 130 = .ok (.baload, 1) := by decide +kernel
theorem dX9_soonest_131 : decode cX9_soonest 131 = .ok (.ifCond .eq 6, 3) := by decide +kernel
theorem dX9_soonest_134 : decode cX9_soonest 134 = .ok (.bipush (-2), 2) := by decide +kernel
theorem dX9_soonest_136 : decode cX9_soonest 136 = .ok (.ireturn, 1) := by decide +kernel
theorem dX9_soonest_137 : decode cX9_soonest 137 = .ok (.iload_n 3, 1) := by decide +kernel
theorem dX9_soonest_138 : decode cX9_soonest 138 = .ok (.bipush (-120), 2) := by decide +kernel
theorem dX9_soonest_140 : decode cX9_soonest 140 = .ok (.if_icmp .ne 7, 3) := by decide +kernel
theorem dX9_soonest_143 : decode cX9_soonest 143 = .ok (.iconst (-1), 1) := by decide +kernel
theorem dX9_soonest_144 : decode cX9_soonest 144 = .ok (.goto 17, 3) := by decide +kernel
theorem dX9_soonest_147 : decode cX9_soonest 147 = .ok (.iload_n 2, 1) := by decide +kernel
theorem dX9_soonest_148 : decode cX9_soonest 148 = .ok (.ifCond .ne 10, 3) := by decide +kernel
theorem dX9_soonest_151 : decode cX9_soonest 151 = .ok (.iload_n 3, 1) := by decide +kernel
theorem dX9_soonest_152 : decode cX9_soonest 152 = .ok (.iconst 1, 1) := by decide +kernel
theorem dX9_soonest_153 : decode cX9_soonest 153 = .ok (.ishr, 1) := by decide +kernel
theorem dX9_soonest_154 : decode cX9_soonest 154 = .ok (.ineg, 1) := by decide +kernel
theorem dX9_soonest_155 : decode cX9_soonest 155 = .ok (.goto 6, 3) := by decide +kernel
theorem dX9_soonest_158 : decode cX9_soonest 158 = .ok (.iload_n 3, 1) := by decide +kernel
theorem dX9_soonest_159 : decode cX9_soonest 159 = .ok (.iconst 1, 1) := by decide +kernel
theorem dX9_soonest_160 : decode cX9_soonest 160 = .ok (.iand, 1) := by decide +kernel
theorem dX9_soonest_161 : decode cX9_soonest 161 = .ok (.ireturn, 1) := by decide +kernel
abbrev vs_EM_soonest : List Cond := .code yX9_soonest cX9_soonest 6 (some .int) :: VM
theorem g_EM_soonest_X9_in : GoodIn vs_EM_soonest (va_wsS RX9 152 yX9_in vs_X9_in) := gm_0 (fun w h => by
  rcases List.mem_cons.mp h with rfl | h
  · exact vm_137
  rcases List.mem_cons.mp h with rfl | h
  · exact vm_138
  rcases List.mem_cons.mp h with rfl | h
  · exact vm_19
  rcases List.mem_cons.mp h with rfl | h
  · exact vm_139
  exact absurd h (List.not_mem_nil))
theorem g_EM_soonest_EM_isPlace : GoodIn vs_EM_soonest (wsV RX9 286 RX9 yX9_isPlace vs_EM_isPlace) := gm_V vm_148 vm_149 vm_150 vm_19 vm_151
theorem g_EM_soonest_EM_clocks : GoodIn vs_EM_soonest (wsV RX9 280 RX9 yX9_clocks vs_EM_clocks) := gm_V vm_140 vm_141 vm_142 vm_19 vm_143
theorem g_EM_soonest_EM_layPoint : GoodIn vs_EM_soonest (wsV RX9 379 RX9 yX9_layPoint vs_EM_layPoint) := gm_V vm_255 vm_256 vm_257 vm_19 vm_258
theorem g_EM_soonest_EM_explores_1_400 : GoodIn vs_EM_soonest (wsV RX9 383 RX9 yX9_explores vs_EM_explores_1_400) := gm_V vm_259 vm_260 vm_261 vm_19 vm_262
theorem g_EM_soonest_EM_spotOf_1 : GoodIn vs_EM_soonest (va_wsS RX9 355 yX9_spotOf vs_EM_spotOf_1) := gm_S vm_220 vm_221 vm_19 vm_222
theorem g_EM_soonest_EM_greater : GoodIn vs_EM_soonest (va_wsS RX9 229 yX9_greater vs_EM_greater) := gm_S vm_87 vm_88 vm_19 vm_89
noncomputable def sp_EM_soonest_L1 (n_2 : Nat) (n_4 : Nat) (u_6 : Nat) (z34_13 : Nat → Int32) (z35_14 : Nat → Int32) (z38_15 : Nat → Nat) (z39_16 : Nat → Int32) (z40_17 : Nat → Int32) (z41_18 : Nat → Int32) (z43_19 : Nat → Int32) (z44_20 : Nat → Int32) (z47_21 : Nat → Int32) (z48_22 : Nat → Int32) (z42_1_23 : Nat) : (Int32 × Nat) → (Int32 × Nat) ⊕ (Int32 × (Nat → Int32) × (Nat → Int32) × (Nat → Nat) × (Nat → Int32) × (Nat → Int32) × (Nat → Int32) × (Nat → Int32) × (Nat → Int32) × (Nat → Int32) × (Nat → Int32) × Nat × Int32 × Nat) := fun (g_26, g_27) => (if z42_1_23 ≤ g_27 then (Sum.inr (slet (z44_20 1) (fun y_36 => (if (y_36 : Int32) = 0 then (if (g_26 : Int32) = (-120) then ((-1), z34_13, z35_14, z38_15, z39_16, z40_17, z41_18, z43_19, z44_20, z47_21, z48_22, z42_1_23, 0, (u_6 + 2)) else (if n_4 = 0 then (slet ((g_26 : Int32) >>> ((1 : Int32) &&& 31)) (fun y_41 => (slet (-(y_41 : Int32)) (fun y_42 => (y_42, z34_13, z35_14, z38_15, z39_16, z40_17, z41_18, z43_19, z44_20, z47_21, z48_22, z42_1_23, 0, (u_6 + 2)))))) else (slet ((g_26 : Int32) &&& (1 : Int32)) (fun y_40 => (y_40, z34_13, z35_14, z38_15, z39_16, z40_17, z41_18, z43_19, z44_20, z47_21, z48_22, z42_1_23, 0, (u_6 + 2)))))) else ((-2), z34_13, z35_14, z38_15, z39_16, z40_17, z41_18, z43_19, z44_20, z47_21, z48_22, z42_1_23, 0, (u_6 + 2)))))) else (slet (min (z38_15 (120 + g_27)) 7) (fun u_45 => (slet (α := Int32) (if u_45 = n_2 then (slet (z34_13 (((25 * (120 + g_27)) + (u_6 + 2)) - 1)) (fun y_54 => (slet (sp_EM_greater g_26 y_54) (fun r_55 => r_55)))) else g_26) (fun g_46 => (Sum.inl (g_46, (g_27 + 1))))))))
noncomputable def sp_EM_soonest (x16 : Nat) (x46 : Nat) (f3 : Nat → Int32) (q4 : Nat → Nat) (q5 : Nat → Nat) (q6 : Nat → Nat) (q7 : Nat → Nat) (f8 : Nat → Int32) (q9 : Nat → Nat) (q10 : Nat → Nat) (f11 : Nat → Int32) (m12_0 : Nat) (m12_1 : Nat) (m13_0 : Nat) (m13_1 : Nat) (m14_0 : Nat) (m14_1 : Nat) (m15_0 : Nat) (m15_1 : Nat) (f34 : Nat → Int32) (f35 : Nat → Int32) (q38 : Nat → Nat) (f39 : Nat → Int32) (f40 : Nat → Int32) (f41 : Nat → Int32) (m42_1 : Nat) (f43 : Nat → Int32) (f44 : Nat → Int32) (f47 : Nat → Int32) (f48 : Nat → Int32) (p0 : Int32) (p1 : Int32) : Int32 × (Nat → Int32) × (Nat → Int32) × (Nat → Nat) × (Nat → Int32) × (Nat → Int32) × (Nat → Int32) × (Nat → Int32) × (Nat → Int32) × (Nat → Int32) × (Nat → Int32) × Nat × Int32 × Nat := (if (0 : Int32) ≤ p0 ∧ p0 < nI (bkN x16 m13_0 m13_1) then (slet ((p0 : Int32).toNatClampNeg) (fun n_2 => (if (0 : Int32) ≤ p1 ∧ p1 ≤ 1 then (slet ((p1 : Int32).toNatClampNeg) (fun n_4 => (slet (sp_EM_clocks x16 m12_0 m12_1) (fun u_6 => (slet (sp_EM_layPoint f35 0 0 0) (fun z35_9 => (slet (if x16 = 0 then m15_0 else m15_1) (fun u_11 => (slet (u_11 - 1) (fun vy_10 => (slet (sp_EM_explores_1_400 x16 (u_6 + 2) f3 q4 q5 q6 q7 f8 q9 q10 f11 m12_0 m12_1 m13_0 m13_1 m14_0 m14_1 f34 z35_9 q38 f39 f40 f41 f43 f44 f47 f48 vy_10 2 1 (-1)) (fun (z34_13, z35_14, z38_15, z39_16, z40_17, z41_18, z43_19, z44_20, z47_21, z48_22, z42_1_23) => (itrv (α := Int32 × Nat) (β := (Int32 × (Nat → Int32) × (Nat → Int32) × (Nat → Nat) × (Nat → Int32) × (Nat → Int32) × (Nat → Int32) × (Nat → Int32) × (Nat → Int32) × (Nat → Int32) × (Nat → Int32) × Nat × Int32 × Nat)) default (sp_EM_soonest_L1 n_2 n_4 u_6 z34_13 z35_14 z38_15 z39_16 z40_17 z41_18 z43_19 z44_20 z47_21 z48_22 z42_1_23) ((-120), 0)))))))))))))) else ((-1), f34, f35, q38, f39, f40, f41, f43, f44, f47, f48, m42_1, 0, x46)))) else ((-1), f34, f35, q38, f39, f40, f41, f43, f44, f47, f48, m42_1, 0, x46))
set_option maxHeartbeats 4000000 in
set_option maxRecDepth 100000 in
theorem c_EM_soonest (l : Launch) (dC : Nat → ClassId) (dI : Nat → Nat → Nat) (sz : Nat) (ad : Nat → Nat) (ck : Nat → ClassId) (x0 : Int32) (x16 : Nat) (x18 : Nat) (x19 : Nat) (x20 : Int32) (x21 : Nat) (x22 : Nat) (x23 : Int32) (x24 : Int32) (x25 : Int32) (x26 : Nat) (x27 : Int32) (x28 : Nat) (x29 : Nat) (x30 : Nat) (x33 : Nat) (x45 : Int32) (x46 : Nat) (x52 : Nat) (x53 : Nat) (x61 : Nat) (x62 : Nat) (x63 : Nat) (x65 : Nat) (x66 : Int32) (f1 : Nat → Int32) (f2 : Nat → Int32) (f3 : Nat → Int32) (q4 : Nat → Nat) (q5 : Nat → Nat) (q6 : Nat → Nat) (q7 : Nat → Nat) (f8 : Nat → Int32) (q9 : Nat → Nat) (q10 : Nat → Nat) (f11 : Nat → Int32) (m12_0 m12_1 : Nat) (m13_0 m13_1 : Nat) (m14_0 m14_1 : Nat) (m15_0 m15_1 : Nat) (f17 : Nat → Int32) (q31 : Nat → Nat) (f32 : Nat → Int32) (f34 : Nat → Int32) (f35 : Nat → Int32) (f36 : Nat → Int32) (f37 : Nat → Int32) (q38 : Nat → Nat) (f39 : Nat → Int32) (f40 : Nat → Int32) (f41 : Nat → Int32) (m42_0 m42_1 : Nat) (f43 : Nat → Int32) (f44 : Nat → Int32) (f47 : Nat → Int32) (f48 : Nat → Int32) (f49 : Nat → Int32) (f50 : Nat → Int32) (f51 : Nat → Int32) (q54 : Nat → Nat) (q55 : Nat → Nat) (q56 : Nat → Nat) (f57 : Nat → Int32) (q58 : Nat → Nat) (f59 : Nat → Int32) (f60 : Nat → Int32) (f64 : Nat → Int32) (p0 : Int32) (p1 : Int32) (hx16 : x16 ≤ 1) (hx18 : x18 ≤ 900) (hx19 : x19 ≤ 900) (hx21 : x21 ≤ 900) (hx22 : x22 ≤ 4) (hx26 : x26 ≤ 6) (hx28 : x28 ≤ 1) (hx29 : x29 ≤ 1) (hx30 : x30 ≤ 1) (hx33 : x33 ≤ 20) (hx46 : x46 ≤ 5) (hx52 : x52 ≤ 2400) (hx53 : x53 ≤ 119) (hx61 : x61 ≤ 119) (hx62 : x62 ≤ 2000) (hx63 : x63 ≤ 1) (hx65 : x65 ≤ 7) (hm12_0 : m12_0 ≤ 3) (hm12_1 : m12_1 ≤ 3) (hm13_0 : m13_0 ≤ 8) (hm13_1 : m13_1 ≤ 8) (hm14_0 : m14_0 ≤ 14) (hm14_1 : m14_1 ≤ 14) (hm15_0 : m15_0 ≤ 8) (hm15_1 : m15_1 ≤ 8) (hm42_0 : m42_0 ≤ 120) (hm42_1 : m42_1 ≤ 400) (hbg : (x16 = 0 ∧ (m13_0 = 0 ∨ 1 ≤ m15_0)) ∨ (x16 = 1 ∧ (m13_1 = 0 ∨ 1 ≤ m15_1))) (hgr : gz_ok m42_0 f39 f40 f41) : Met l yX9_soonest vs_EM_soonest ({ frames := 7, cells := 0, slots := 0, locals := 171 }) (va_Pc [.ref (ad 0), .int p0, .int p1] (pu_B (dC, dI) (mo_w ad ck x0 (nI x16) (nI x18) (nI x19) x20 (nI x21) (nI x22) x23 x24 x25 (nI x26) x27 (nI x28) (nI x29) (nI x30) (nI x33) x45 (nI x46) (nI x52) (nI x53) (nI x61) (nI x62) (nI x63) (nI x65) x66 f1 f2 f3 (bN 3 q4) (bN 7 q5) (bN 7 q6) (bN 4 q7) f8 (bN 2 q9) (bH q10) f11 (b2 m12_0 m12_1) (b2 m13_0 m13_1) (b2 m14_0 m14_1) (b2m m15_0 m15_1) f17 (bA 159 q31) f32 f34 f35 f36 f37 (bN 7 q38) f39 f40 f41 (b2 m42_0 m42_1) f43 f44 f47 f48 f49 f50 f51 (bN 13 q54) (bN 120 q55) (bN 120 q56) f57 (bN 120 q58) f59 f60 f64) (mo_t ck) sz)) (va_Qi (fun (r : Int32) (_ : Unit) => r = (sp_EM_soonest x16 x46 f3 q4 q5 q6 q7 f8 q9 q10 f11 m12_0 m12_1 m13_0 m13_1 m14_0 m14_1 m15_0 m15_1 f34 f35 q38 f39 f40 f41 m42_1 f43 f44 f47 f48 p0 p1).1) (fun _ t => ∃ (z34 : Nat → Int32) (z35 : Nat → Int32) (z38 : Nat → Nat) (z39 : Nat → Int32) (z40 : Nat → Int32) (z41 : Nat → Int32) (z43 : Nat → Int32) (z44 : Nat → Int32) (z47 : Nat → Int32) (z48 : Nat → Int32) (z42_1 : Nat) (z0 : Int32) (z46 : Nat), pu_E (dC, dI) (mo_w ad ck z0 (nI x16) (nI x18) (nI x19) x20 (nI x21) (nI x22) x23 x24 x25 (nI x26) x27 (nI x28) (nI x29) (nI x30) (nI x33) x45 (nI z46) (nI x52) (nI x53) (nI x61) (nI x62) (nI x63) (nI x65) x66 f1 f2 f3 (bN 3 q4) (bN 7 q5) (bN 7 q6) (bN 4 q7) f8 (bN 2 q9) (bH q10) f11 (b2 m12_0 m12_1) (b2 m13_0 m13_1) (b2 m14_0 m14_1) (b2m m15_0 m15_1) f17 (bA 159 q31) f32 z34 z35 f36 f37 (bN 7 z38) z39 z40 z41 (b2 m42_0 z42_1) z43 z44 z47 z48 f49 f50 f51 (bN 13 q54) (bN 120 q55) (bN 120 q56) f57 (bN 120 q58) f59 f60 f64) (mo_t ck) (va_A ((mo_w ad ck x0 (nI x16) (nI x18) (nI x19) x20 (nI x21) (nI x22) x23 x24 x25 (nI x26) x27 (nI x28) (nI x29) (nI x30) (nI x33) x45 (nI x46) (nI x52) (nI x53) (nI x61) (nI x62) (nI x63) (nI x65) x66 f1 f2 f3 (bN 3 q4) (bN 7 q5) (bN 7 q6) (bN 4 q7) f8 (bN 2 q9) (bH q10) f11 (b2 m12_0 m12_1) (b2 m13_0 m13_1) (b2 m14_0 m14_1) (b2m m15_0 m15_1) f17 (bA 159 q31) f32 f34 f35 f36 f37 (bN 7 q38) f39 f40 f41 (b2 m42_0 m42_1) f43 f44 f47 f48 f49 f50 f51 (bN 13 q54) (bN 120 q55) (bN 120 q56) f57 (bN 120 q58) f59 f60 f64)) sz) t ∧ (z42_1 ≤ 400) ∧ (z46 ≤ 5) ∧ (gz_ok m42_0 z39 z40 z41) ∧ ((z34, z35, z38, z39, z40, z41, z43, z44, z47, z48, z42_1, z0, z46) = (sp_EM_soonest x16 x46 f3 q4 q5 q6 q7 f8 q9 q10 f11 m12_0 m12_1 m13_0 m13_1 m14_0 m14_1 m15_0 m15_1 f34 f35 q38 f39 f40 f41 m42_1 f43 f44 f47 f48 p0 p1).2)) (va_A ((mo_w ad ck x0 (nI x16) (nI x18) (nI x19) x20 (nI x21) (nI x22) x23 x24 x25 (nI x26) x27 (nI x28) (nI x29) (nI x30) (nI x33) x45 (nI x46) (nI x52) (nI x53) (nI x61) (nI x62) (nI x63) (nI x65) x66 f1 f2 f3 (bN 3 q4) (bN 7 q5) (bN 7 q6) (bN 4 q7) f8 (bN 2 q9) (bH q10) f11 (b2 m12_0 m12_1) (b2 m13_0 m13_1) (b2 m14_0 m14_1) (b2m m15_0 m15_1) f17 (bA 159 q31) f32 f34 f35 f36 f37 (bN 7 q38) f39 f40 f41 (b2 m42_0 m42_1) f43 f44 f47 f48 f49 f50 f51 (bN 13 q54) (bN 120 q55) (bN 120 q56) f57 (bN 120 q58) f59 f60 f64)) sz)) 0 0 (va_A ((mo_w ad ck x0 (nI x16) (nI x18) (nI x19) x20 (nI x21) (nI x22) x23 x24 x25 (nI x26) x27 (nI x28) (nI x29) (nI x30) (nI x33) x45 (nI x46) (nI x52) (nI x53) (nI x61) (nI x62) (nI x63) (nI x65) x66 f1 f2 f3 (bN 3 q4) (bN 7 q5) (bN 7 q6) (bN 4 q7) f8 (bN 2 q9) (bH q10) f11 (b2 m12_0 m12_1) (b2 m13_0 m13_1) (b2 m14_0 m14_1) (b2m m15_0 m15_1) f17 (bA 159 q31) f32 f34 f35 f36 f37 (bN 7 q38) f39 f40 f41 (b2 m42_0 m42_1) f43 f44 f47 f48 f49 f50 f51 (bN 13 q54) (bN 120 q55) (bN 120 q56) f57 (bN 120 q58) f59 f60 f64)) sz) := by
  refine Met.ofW (cc := cX9_soonest) (maxL := 6) (ret := (some .int)) (by decide) rfl ?_
  intro p e s m args below meth c s₁ B hml hv
  obtain ⟨rfl, rfl, hP, hK, hD0⟩ := hv
  have hx := B.exec
  have hb := B.bytes
  have hr := B.returns
  have hts := atoms_spec (ws := vs_EM_soonest) B.pre
  have v_1 := hts (.fieldLink RX9 142 "ClockReachModel" "thrown" "I") (List.mem_cons_of_mem _ vm_5)
  have v_14 := hts (.fieldLink RX9 328 "ClockReachModel" "side" "I") (List.mem_cons_of_mem _ vm_196)
  have v_19 := hts (.fieldLink RX9 52 "ClockReachModel" "begins" "[I") (List.mem_cons_of_mem _ vm_126)
  have v_20 := hts (.fieldLink RX9 258 "ClockReachModel" "bank" "I") (List.mem_cons_of_mem _ vm_4)
  have v_25 := hts (.fieldLink RX9 92 "ClockReachModel" "stateMany" "[I") (List.mem_cons_of_mem _ vm_164)
  have v_29 := hts (.fieldLink RX9 80 "ClockReachModel" "statePlace" "[I") (List.mem_cons_of_mem _ vm_223)
  have v_30 := hts (.fieldLink RX9 68 "ClockReachModel" "zone" "[I") (List.mem_cons_of_mem _ vm_214)
  have v_34 := hts (.fieldLink RX9 98 "ClockReachModel" "isFull" "[Z") (List.mem_cons_of_mem _ vm_165)
  have hown : s.vm.findClass RX9 = some m.cls := findClass_of_methodNamed B.named
  have hlocks := B.notSynchronized
  have hiX9 : ∀ w ∈ wsX90, w ∈ vs_EM_soonest := fun _ h => List.mem_cons_of_mem _ (vmi_L h)
  have hD := hD0.self (sz := s.heap.size)
  generalize hAe : va_A ((mo_w ad ck x0 (nI x16) (nI x18) (nI x19) x20 (nI x21) (nI x22) x23 x24 x25 (nI x26) x27 (nI x28) (nI x29) (nI x30) (nI x33) x45 (nI x46) (nI x52) (nI x53) (nI x61) (nI x62) (nI x63) (nI x65) x66 f1 f2 f3 (bN 3 q4) (bN 7 q5) (bN 7 q6) (bN 4 q7) f8 (bN 2 q9) (bH q10) f11 (b2 m12_0 m12_1) (b2 m13_0 m13_1) (b2 m14_0 m14_1) (b2m m15_0 m15_1) f17 (bA 159 q31) f32 f34 f35 f36 f37 (bN 7 q38) f39 f40 f41 (b2 m42_0 m42_1) f43 f44 f47 f48 f49 f50 f51 (bN 13 q54) (bN 120 q55) (bN 120 q56) f57 (bN 120 q58) f59 f60 f64)) s.heap.size = A at hD ⊢
  have hA : ∀ q : Nat, s.heap.size ≤ q → A q := fun q h => by rw [← hAe]; exact Or.inr h
  have hS : va_S A s.heap s.heap [] := va_S.rf
  have hl := lv_entry ([.ref (ad 0), .int p0, .int p1]) (n := 6) (Nat.le_of_ble_eq_true rfl)
  rw [lg_entry_eq]
  generalize (lg_sl ([.ref (ad 0), .int p0, .int p1]) ++ List.replicate (6 - (lg_sl ([.ref (ad 0), .int p0, .int p1])).length) Slot.unset).toArray = ls at hl ⊢
  have hl : lv_has ls 6 [(0, .ref (ad 0)), (1, .int p0), (2, .int p1)] := hl
  obtain ⟨RR, hRR⟩ : ∃ x, x = (sp_EM_soonest x16 x46 f3 q4 q5 q6 q7 f8 q9 q10 f11 m12_0 m12_1 m13_0 m13_1 m14_0 m14_1 m15_0 m15_1 f34 f35 q38 f39 f40 f41 m42_1 f43 f44 f47 f48 p0 p1) := ⟨_, rfl⟩
  have hsp := hRR
  refine lv_aload_n hx hb dX9_soonest_0 rfl (lv_at hl 0 rfl) ?_
  refine lv_iconst (v := 0) hx hb dX9_soonest_1 (by decide) ?_
  refine va_put (D := (dC, dI)) (ci := 9) (v := .int 0) (ty := .int) (C := RX9) (T := TX9) (N := 67) hx hb hts hiX9 tyX9 tyX9_ok nmX9 hown hK hP hD hS 0 rfl rfl 0 (by decide) v_1 (fun _ h9 => h9) rfl (by decide +kernel) rfl rfl (Nat.le_of_ble_eq_true rfl) dX9_soonest_2 (fun H locs hP hD hS => ?_)
  have hP : va_P (dC, dI) vwCl (mo_w ad ck 0 (nI x16) (nI x18) (nI x19) x20 (nI x21) (nI x22) x23 x24 x25 (nI x26) x27 (nI x28) (nI x29) (nI x30) (nI x33) x45 (nI x46) (nI x52) (nI x53) (nI x61) (nI x62) (nI x63) (nI x65) x66 f1 f2 f3 (bN 3 q4) (bN 7 q5) (bN 7 q6) (bN 4 q7) f8 (bN 2 q9) (bH q10) f11 (b2 m12_0 m12_1) (b2 m13_0 m13_1) (b2 m14_0 m14_1) (b2m m15_0 m15_1) f17 (bA 159 q31) f32 f34 f35 f36 f37 (bN 7 q38) f39 f40 f41 (b2 m42_0 m42_1) f43 f44 f47 f48 f49 f50 f51 (bN 13 q54) (bN 120 q55) (bN 120 q56) f57 (bN 120 q58) f59 f60 f64) H := hP
  have hD : va_D A (mo_w ad ck 0 (nI x16) (nI x18) (nI x19) x20 (nI x21) (nI x22) x23 x24 x25 (nI x26) x27 (nI x28) (nI x29) (nI x30) (nI x33) x45 (nI x46) (nI x52) (nI x53) (nI x61) (nI x62) (nI x63) (nI x65) x66 f1 f2 f3 (bN 3 q4) (bN 7 q5) (bN 7 q6) (bN 4 q7) f8 (bN 2 q9) (bH q10) f11 (b2 m12_0 m12_1) (b2 m13_0 m13_1) (b2 m14_0 m14_1) (b2m m15_0 m15_1) f17 (bA 159 q31) f32 f34 f35 f36 f37 (bN 7 q38) f39 f40 f41 (b2 m42_0 m42_1) f43 f44 f47 f48 f49 f50 f51 (bN 13 q54) (bN 120 q55) (bN 120 q56) f57 (bN 120 q58) f59 f60 f64) := hD
  refine lv_aload_n hx hb dX9_soonest_5 rfl (lv_at hl 0 rfl) ?_
  refine lv_iload_n hx hb dX9_soonest_6 rfl (lv_at hl 1 rfl) ?_
  refine va_calli (va_runV (As := [.int p0]) (rest := []) ⟨hx, hb, hml, hown, hts⟩ (c_EM_isPlace l dC dI _ ad ck 0 x16 x18 x19 x20 x21 x22 x23 x24 x25 x26 x27 x28 x29 x30 x33 x45 x46 x52 x53 x61 x62 x63 x65 x66 f1 f2 f3 q4 q5 q6 q7 f8 q9 q10 f11 m12_0 m12_1 m13_0 m13_1 m14_0 m14_1 m15_0 m15_1 f17 q31 f32 f34 f35 f36 f37 q38 f39 f40 f41 m42_0 m42_1 f43 f44 f47 f48 f49 f50 f51 q54 q55 q56 f57 q58 f59 f60 f64 p0 hx16 hx18 hx19 hx21 hx22 hx26 hx28 hx29 hx30 hx33 hx46 hx52 hx53 hx61 hx62 hx63 hx65 hm12_0 hm12_1 hm13_0 hm13_1 hm14_0 hm14_1 hm15_0 hm15_1 hm42_0 hm42_1) (cwV 1 hts g_EM_soonest_EM_isPlace rfl rfl rfl (by decide +kernel) ⟨Nat.le_of_ble_eq_true rfl, Nat.le_of_ble_eq_true rfl⟩) ⟨pu_bl, va_recv hK hP (ci := 9) (q0 := 0) rfl rfl, pu_in hP hK hD⟩ rfl rfl hl.1 rfl (lv_room (Nat.le_of_ble_eq_true rfl)) dX9_soonest_7 ⟨Nat.le_of_ble_eq_true rfl, Nat.le_of_ble_eq_true rfl⟩) hS (fun q _ h => pu_fr hS hA q h) (pu_fr hS hA) (fun r_1 u t H1 locs ht hvm hw hB hz1 hk1 hS => ?_)
  have hP := pu_keep hP hk1
  clear hk1 hz1 ht hvm
  generalize H1 = H at hP hS ⊢
  rcases hw with ⟨rfl, hw⟩ | ⟨rfl, hn⟩
  · obtain ⟨n_2, hn_2, en_2⟩ := hw
    replace hsp := hsp.trans (if_pos (in_c hn_2 ⟨by omega, by omega⟩ en_2))
    subst en_2
    replace hsp := hsp.trans (slet_eq (nI_cl (n := n_2) (by omega)))
    refine lv_if_eq (tgt := 22) hx hb dX9_soonest_10 (by decide) (fun z => absurd z (by decide)) (fun _ => ?_)
    refine lv_iload_n hx hb dX9_soonest_13 rfl (lv_at hl 2 rfl) ?_
    refine lv_iconst (v := 0) hx hb dX9_soonest_14 (by decide) ?_
    refine lv_iconst (v := 1) hx hb dX9_soonest_15 (by decide) ?_
    refine va_calli (va_runS (As := [.int p1, .int 0, .int 1]) (rest := []) ⟨hx, hb, hml, hown, hts⟩ (c_X9_in l dC dI _ p1 0 1) (va_cwS 3 hts g_EM_soonest_X9_in rfl rfl rfl (by decide +kernel) ⟨Nat.le_of_ble_eq_true rfl, Nat.le_of_ble_eq_true rfl⟩) ⟨pu_bl, pu_in (hP.sub [] rfl) (hK.sub [] rfl) (hD.sub [] (by decide) rfl)⟩ rfl rfl hl.1 rfl (lv_room (Nat.le_of_ble_eq_true rfl)) dX9_soonest_16 ⟨Nat.le_of_ble_eq_true rfl, Nat.le_of_ble_eq_true rfl⟩) hS (fun q _ h => pu_fr hS hA q h) (pu_fr hS hA) (fun r_3 u t H1 locs ht hvm hw hB hz1 hk1 hS => ?_)
    have hP := pu_keep hP hk1
    clear hk1 hz1 ht hvm
    generalize H1 = H at hP hS ⊢
    rcases hw with ⟨rfl, hi1, hi2⟩ | ⟨rfl, hi3⟩
    · replace hsp := hsp.trans (if_pos ⟨hi1, hi2⟩)
      obtain ⟨n_4, hn_4, rfl⟩ := pu_in0 (n := 1) (by omega) hi1 hi2
      replace hsp := hsp.trans (slet_eq (nI_cl (n := n_4) (by omega)))
      refine lv_if_ne (tgt := 24) hx hb dX9_soonest_19 (by decide) (fun _ => ?_) (fun z => absurd z (by decide))
      refine lv_aload_n hx hb dX9_soonest_24 rfl (lv_at hl 0 rfl) ?_
      refine lv_aload_n hx hb dX9_soonest_25 rfl (lv_at hl 0 rfl) ?_
      refine va_calli (va_runV (As := []) (rest := [.ref (ad 0)]) ⟨hx, hb, hml, hown, hts⟩ (c_EM_clocks l dC dI _ ad ck 0 x16 x18 x19 x20 x21 x22 x23 x24 x25 x26 x27 x28 x29 x30 x33 x45 x46 x52 x53 x61 x62 x63 x65 x66 f1 f2 f3 q4 q5 q6 q7 f8 q9 q10 f11 m12_0 m12_1 m13_0 m13_1 m14_0 m14_1 m15_0 m15_1 f17 q31 f32 f34 f35 f36 f37 q38 f39 f40 f41 m42_0 m42_1 f43 f44 f47 f48 f49 f50 f51 q54 q55 q56 f57 q58 f59 f60 f64 hx16 hx18 hx19 hx21 hx22 hx26 hx28 hx29 hx30 hx33 hx46 hx52 hx53 hx61 hx62 hx63 hx65 hm12_0 hm12_1 hm13_0 hm13_1 hm14_0 hm14_1 hm15_0 hm15_1 hm42_0 hm42_1) (cwV 0 hts g_EM_soonest_EM_clocks rfl rfl rfl (by decide +kernel) ⟨Nat.le_of_ble_eq_true rfl, Nat.le_of_ble_eq_true rfl⟩) ⟨pu_bl, va_recv hK hP (ci := 9) (q0 := 0) rfl rfl, pu_in hP hK hD⟩ rfl rfl hl.1 rfl (lv_room (Nat.le_of_ble_eq_true rfl)) dX9_soonest_26 ⟨Nat.le_of_ble_eq_true rfl, Nat.le_of_ble_eq_true rfl⟩) hS (fun q _ h => pu_fr hS hA q h) (pu_fr hS hA) (fun r_5 u t H1 locs ht hvm hw hB hz1 hk1 hS => ?_)
      have hP := pu_keep hP hk1
      clear hk1 hz1 ht hvm
      generalize H1 = H at hP hS ⊢
      obtain ⟨u_6, hu_6, rfl, iu_6⟩ := hw
      replace hsp := hsp.trans (slet_eq iu_6)
      refine lv_iconst (v := 2) hx hb dX9_soonest_29 (by decide) ?_
      refine lv_iadd hx hb dX9_soonest_30 ?_
      refine lv_topi (fun y_7 ey_7 => ?_)
      obtain rfl : y_7 = (nI (u_6 + 2)) := ey_7.trans (nI_add u_6 2)
      refine va_put (D := (dC, dI)) (ci := 9) (v := .int (nI (u_6 + 2))) (ty := .int) (C := RX9) (T := TX9) (N := 67) hx hb hts hiX9 tyX9 tyX9_ok nmX9 hown hK hP hD hS 0 rfl rfl 46 (by decide) v_14 (fun _ h9 => h9) rfl (by decide +kernel) rfl rfl (Nat.le_of_ble_eq_true rfl) dX9_soonest_31 (fun H locs hP hD hS => ?_)
      have hP : va_P (dC, dI) vwCl (mo_w ad ck 0 (nI x16) (nI x18) (nI x19) x20 (nI x21) (nI x22) x23 x24 x25 (nI x26) x27 (nI x28) (nI x29) (nI x30) (nI x33) x45 (nI (u_6 + 2)) (nI x52) (nI x53) (nI x61) (nI x62) (nI x63) (nI x65) x66 f1 f2 f3 (bN 3 q4) (bN 7 q5) (bN 7 q6) (bN 4 q7) f8 (bN 2 q9) (bH q10) f11 (b2 m12_0 m12_1) (b2 m13_0 m13_1) (b2 m14_0 m14_1) (b2m m15_0 m15_1) f17 (bA 159 q31) f32 f34 f35 f36 f37 (bN 7 q38) f39 f40 f41 (b2 m42_0 m42_1) f43 f44 f47 f48 f49 f50 f51 (bN 13 q54) (bN 120 q55) (bN 120 q56) f57 (bN 120 q58) f59 f60 f64) H := hP
      have hD : va_D A (mo_w ad ck 0 (nI x16) (nI x18) (nI x19) x20 (nI x21) (nI x22) x23 x24 x25 (nI x26) x27 (nI x28) (nI x29) (nI x30) (nI x33) x45 (nI (u_6 + 2)) (nI x52) (nI x53) (nI x61) (nI x62) (nI x63) (nI x65) x66 f1 f2 f3 (bN 3 q4) (bN 7 q5) (bN 7 q6) (bN 4 q7) f8 (bN 2 q9) (bH q10) f11 (b2 m12_0 m12_1) (b2 m13_0 m13_1) (b2 m14_0 m14_1) (b2m m15_0 m15_1) f17 (bA 159 q31) f32 f34 f35 f36 f37 (bN 7 q38) f39 f40 f41 (b2 m42_0 m42_1) f43 f44 f47 f48 f49 f50 f51 (bN 13 q54) (bN 120 q55) (bN 120 q56) f57 (bN 120 q58) f59 f60 f64) := hD
      refine lv_aload_n hx hb dX9_soonest_34 rfl (lv_at hl 0 rfl) ?_
      refine lv_iconst (v := 0) hx hb dX9_soonest_35 (by decide) ?_
      refine lv_iconst (v := 0) hx hb dX9_soonest_36 (by decide) ?_
      refine lv_iconst (v := 0) hx hb dX9_soonest_37 (by decide) ?_
      have hFc := pu_free hD hS hA
      refine va_callv (va_runV (As := [.int 0, .int 0, .int 0]) (rest := []) ⟨hx, hb, hml, hown, hts⟩ (c_EM_layPoint l dC dI _ ad ck 0 x16 x18 x19 x20 x21 x22 x23 x24 x25 x26 x27 x28 x29 x30 x33 x45 (u_6 + 2) x52 x53 x61 x62 x63 x65 x66 f1 f2 f3 q4 q5 q6 q7 f8 q9 q10 f11 m12_0 m12_1 m13_0 m13_1 m14_0 m14_1 m15_0 m15_1 f17 q31 f32 f34 f35 f36 f37 q38 f39 f40 f41 m42_0 m42_1 f43 f44 f47 f48 f49 f50 f51 q54 q55 q56 f57 q58 f59 f60 f64 0 0 0 hx16 hx18 hx19 hx21 hx22 hx26 hx28 hx29 hx30 hx33 (by omega) hx52 hx53 hx61 hx62 hx63 hx65 hm12_0 hm12_1 hm13_0 hm13_1 hm14_0 hm14_1 hm15_0 hm15_1 hm42_0 hm42_1) (cwV 3 hts g_EM_soonest_EM_layPoint rfl rfl rfl (by decide +kernel) ⟨Nat.le_of_ble_eq_true rfl, Nat.le_of_ble_eq_true rfl⟩) ⟨pu_bl, va_recv hK hP (ci := 9) (q0 := 0) rfl rfl, pu_in hP hK hD⟩ rfl rfl hl.1 rfl (lv_room (Nat.le_of_ble_eq_true rfl)) dX9_soonest_38 ⟨Nat.le_of_ble_eq_true rfl, Nat.le_of_ble_eq_true rfl⟩) hS (fun q _ h => hFc q h) hFc (fun u t H1 locs ht hvm hw hB hz1 hk1 hS => ?_)
      obtain ⟨z35_9, ⟨hP1, -, hD1⟩, xr_8_0⟩ := hB
      rw [ht] at hP1
      have hP := hP1
      have hD := pu_all hFc hD1
      clear hP1 hD1 hFc
      clear hk1 hz1 ht hvm
      generalize H1 = H at hP hS ⊢
      replace hsp := hsp.trans (slet_eq xr_8_0)
      refine lv_aload_n hx hb dX9_soonest_41 rfl (lv_at hl 0 rfl) ?_
      refine lv_iconst (v := 1) hx hb dX9_soonest_42 (by decide) ?_
      refine lv_aload_n hx hb dX9_soonest_43 rfl (lv_at hl 0 rfl) ?_
      refine va_get (D := (dC, dI)) (ci := 9) (v := .ref (ad 15)) (C := RX9) (T := TX9) (N := 67) hx hb hts hiX9 hown hK hP 0 rfl rfl 15 (by decide) v_19 (fun _ h9 => h9) rfl dX9_soonest_44 ?_
      refine lv_aload_n hx hb dX9_soonest_47 rfl (lv_at hl 0 rfl) ?_
      refine va_get (D := (dC, dI)) (ci := 9) (v := .int (nI x16)) (C := RX9) (T := TX9) (N := 67) hx hb hts hiX9 hown hK hP 0 rfl rfl 16 (by decide) v_20 (fun _ h9 => h9) rfl dX9_soonest_48 ?_
      refine va_iald hx hb hK hP 15 14 rfl rfl (vp_in_nI (n := x16) (Nat.lt_of_le_of_lt hx16 (Nat.le_of_ble_eq_true rfl)) (Nat.le_of_ble_eq_true rfl)) dX9_soonest_51 ?_
      refine lv_topi (fun y_10 ey_10 => ?_)
      obtain ⟨u_11, hu_11, fu_11, xu_11⟩ := b2m_getx (a := m15_0) (b := m15_1) (i := x16) (by omega)
      have qy_10 := ey_10.trans fu_11
      replace hsp := hsp.trans (slet_eq xu_11)
      rcases mI_get u_11 with ⟨zy_10, wy_10⟩ | ⟨vy_10, zy_10, wy_10⟩
      · exfalso
        have hbq : bkN x16 m13_0 m13_1 = (if x16 = 0 then m13_0 else m13_1) := rfl
        have hbk := hbg_bk hbg
        omega
      · obtain rfl : y_10 = nI vy_10 := qy_10.trans wy_10
        replace hsp := hsp.trans (slet_eq (by omega : vy_10 = u_11 - 1))
        refine lv_iconst (v := 2) hx hb dX9_soonest_52 (by decide) ?_
        refine lv_iconst (v := 1) hx hb dX9_soonest_53 (by decide) ?_
        refine lv_sipush (v := 400) hx hb dX9_soonest_54 (by decide) ?_
        refine lv_iconst (v := (-1)) hx hb dX9_soonest_57 (by decide) ?_
        have hFc := pu_free hD hS hA
        refine va_callv (va_runV (As := [.int 1, .int (nI vy_10), .int 2, .int 1, .int 400, .int (-1)]) (rest := []) ⟨hx, hb, hml, hown, hts⟩ (c_EM_explores_1_400 l dC dI _ ad ck 0 x16 x18 x19 x20 x21 x22 x23 x24 x25 x26 x27 x28 x29 x30 x33 x45 (u_6 + 2) x52 x53 x61 x62 x63 x65 x66 f1 f2 f3 q4 q5 q6 q7 f8 q9 q10 f11 m12_0 m12_1 m13_0 m13_1 m14_0 m14_1 m15_0 m15_1 f17 q31 f32 f34 z35_9 f36 f37 q38 f39 f40 f41 m42_0 m42_1 f43 f44 f47 f48 f49 f50 f51 q54 q55 q56 f57 q58 f59 f60 f64 vy_10 2 1 (-1) hx16 hx18 hx19 hx21 hx22 hx26 hx28 hx29 hx30 hx33 (by omega) hx52 hx53 hx61 hx62 hx63 hx65 hm12_0 hm12_1 hm13_0 hm13_1 hm14_0 hm14_1 hm15_0 hm15_1 hm42_0 hm42_1 (by omega) (Nat.le_of_ble_eq_true rfl) (by first | assumption | exact gz_0)) (cwV 6 hts g_EM_soonest_EM_explores_1_400 rfl rfl rfl (by decide +kernel) ⟨Nat.le_of_ble_eq_true rfl, Nat.le_of_ble_eq_true rfl⟩) ⟨pu_bl, va_recv hK hP (ci := 9) (q0 := 0) rfl rfl, pu_in hP hK hD⟩ rfl rfl hl.1 rfl (lv_room (Nat.le_of_ble_eq_true rfl)) dX9_soonest_58 ⟨Nat.le_of_ble_eq_true rfl, Nat.le_of_ble_eq_true rfl⟩) hS (fun q _ h => hFc q h) hFc (fun u t H1 locs ht hvm hw hB hz1 hk1 hS => ?_)
        obtain ⟨z34_13, z35_14, z38_15, z39_16, z40_17, z41_18, z43_19, z44_20, z47_21, z48_22, z42_1_23, ⟨hP1, -, hD1⟩, hz42_1_23, xr_12_0, xr_12_1⟩ := hB
        rw [ht] at hP1
        have hP := hP1
        have hD := pu_all hFc hD1
        clear hP1 hD1 hFc
        clear hk1 hz1 ht hvm
        generalize H1 = H at hP hS ⊢
        replace hsp := hsp.trans (slet_eq xr_12_1)
        refine lv_bipush (v := (-120)) hx hb dX9_soonest_61 (by decide) ?_
        refine lv_istore_n (lv' := [(3, .int (-120)), (0, .ref (ad 0)), (1, .int (nI n_2)), (2, .int (nI n_4))]) hx hb dX9_soonest_63 rfl hl (by decide) rfl (fun ls hl => ?_)
        refine lv_iconst (v := 0) hx hb dX9_soonest_64 (by decide) ?_
        refine lv_istore (lv' := [(4, .int 0), (3, .int (-120)), (0, .ref (ad 0)), (1, .int (nI n_2)), (2, .int (nI n_4))]) hx hb dX9_soonest_65 hl (by decide) rfl (fun ls hl => ?_)
        obtain ⟨lf_29, dlf_29, hlf_29, hsp⟩ := itr_ex hsp
        delta sp_EM_soonest_L1 at hlf_29
        refine pu_while (fun nn H locs ls => ∃ (g_26 : Int32) (g_27 : Nat), nn = 400 - g_27 ∧ g_27 ≤ 400 ∧ RR = itrv dlf_29 lf_29 (g_26, g_27) ∧ va_P (dC, dI) vwCl (mo_w ad ck 0 (nI x16) (nI x18) (nI x19) x20 (nI x21) (nI x22) x23 x24 x25 (nI x26) x27 (nI x28) (nI x29) (nI x30) (nI x33) x45 (nI (u_6 + 2)) (nI x52) (nI x53) (nI x61) (nI x62) (nI x63) (nI x65) x66 f1 f2 f3 (bN 3 q4) (bN 7 q5) (bN 7 q6) (bN 4 q7) f8 (bN 2 q9) (bH q10) f11 (b2 m12_0 m12_1) (b2 m13_0 m13_1) (b2 m14_0 m14_1) (b2m m15_0 m15_1) f17 (bA 159 q31) f32 z34_13 z35_14 f36 f37 (bN 7 z38_15) z39_16 z40_17 z41_18 (b2 m42_0 z42_1_23) z43_19 z44_20 z47_21 z48_22 f49 f50 f51 (bN 13 q54) (bN 120 q55) (bN 120 q56) f57 (bN 120 q58) f59 f60 f64) H ∧ va_D A (mo_w ad ck 0 (nI x16) (nI x18) (nI x19) x20 (nI x21) (nI x22) x23 x24 x25 (nI x26) x27 (nI x28) (nI x29) (nI x30) (nI x33) x45 (nI (u_6 + 2)) (nI x52) (nI x53) (nI x61) (nI x62) (nI x63) (nI x65) x66 f1 f2 f3 (bN 3 q4) (bN 7 q5) (bN 7 q6) (bN 4 q7) f8 (bN 2 q9) (bH q10) f11 (b2 m12_0 m12_1) (b2 m13_0 m13_1) (b2 m14_0 m14_1) (b2m m15_0 m15_1) f17 (bA 159 q31) f32 z34_13 z35_14 f36 f37 (bN 7 z38_15) z39_16 z40_17 z41_18 (b2 m42_0 z42_1_23) z43_19 z44_20 z47_21 z48_22 f49 f50 f51 (bN 13 q54) (bN 120 q55) (bN 120 q56) f57 (bN 120 q58) f59 f60 f64) ∧ va_S A s.heap H locs ∧ lv_has ls 6 [(0, .ref (ad 0)), (1, .int (nI n_2)), (2, .int (nI n_4)), (3, .int g_26), (4, .int (nI g_27))]) 67 ?_ _ _ _ _ ⟨(-120), 0, rfl, (Nat.le_of_ble_eq_true rfl), hsp, hP, hD, hS, lv_sub hl [2, 3, 4, 1, 0] rfl⟩
        rintro nn ih_28 H locs ls ⟨g_26, g_27, rfl, hg_27, he_31, hP, hD, hS, hl⟩
        obtain ⟨S_30, hsp, hin_32, hout_33⟩ := itr_step hlf_29 he_31
        refine lv_iload hx hb dX9_soonest_67 (lv_at hl 4 rfl) ?_
        refine lv_aload_n hx hb dX9_soonest_69 rfl (lv_at hl 0 rfl) ?_
        refine va_get (D := (dC, dI)) (ci := 9) (v := .ref (ad 42)) (C := RX9) (T := TX9) (N := 67) hx hb hts hiX9 hown hK hP 0 rfl rfl 42 (by decide) v_25 (fun _ h9 => h9) rfl dX9_soonest_70 ?_
        refine lv_iconst (v := 1) hx hb dX9_soonest_73 (by decide) ?_
        refine va_iald hx hb hK hP 27 26 rfl rfl (vp_in_nI (n := 1) (Nat.le_of_ble_eq_true rfl) (Nat.le_of_ble_eq_true rfl)) dX9_soonest_74 ?_
        refine lv_topi (fun y_34 ey_34 => ?_)
        have qy_34 := ey_34.trans b2_1
        clear ey_34
        obtain rfl : y_34 = nI z42_1_23 := qy_34
        refine lv_icmp_ge (tgt := 125) hx hb dX9_soonest_75 (by decide) (fun c_35 => ?_) (fun c_35 => ?_)
        · have c_35 : z42_1_23 ≤ g_27 := (nI_leI (a := z42_1_23) (b := g_27) (Nat.lt_of_le_of_lt hz42_1_23 (Nat.le_of_ble_eq_true rfl)) (Nat.lt_of_le_of_lt hg_27 (Nat.le_of_ble_eq_true rfl))).mp c_35
          replace hsp := hsp.trans (if_pos c_35)
          replace hsp := hout_33 _ hsp
          refine lv_aload_n hx hb dX9_soonest_125 rfl (lv_at hl 0 rfl) ?_
          refine va_get (D := (dC, dI)) (ci := 9) (v := .ref (ad 44)) (C := RX9) (T := TX9) (N := 67) hx hb hts hiX9 hown hK hP 0 rfl rfl 44 (by decide) v_34 (fun _ h9 => h9) rfl dX9_soonest_126 ?_
          refine lv_iconst (v := 1) hx hb dX9_soonest_129 (by decide) ?_
          refine va_zald hx hb hK hP 29 28 rfl rfl (vp_in_nI (n := 1) (Nat.le_of_ble_eq_true rfl) (Nat.le_of_ble_eq_true rfl)) dX9_soonest_130 ?_
          refine lv_topi (fun y_36 ey_36 => ?_)
          have ey_36 : y_36 = z44_20 1 := ey_36.trans (congrArg z44_20 (nI_clamp (n := 1) (Nat.le_of_ble_eq_true rfl)))
          replace hsp := hsp.trans (slet_eq ey_36)
          refine lv_if_eq (tgt := 137) hx hb dX9_soonest_131 (by decide) (fun c_37 => ?_) (fun c_37 => ?_)
          · have hcc_37 := c_37
            replace hsp := hsp.trans (if_pos c_37)
            refine lv_iload_n hx hb dX9_soonest_137 rfl (lv_at hl 3 rfl) ?_
            refine lv_bipush (v := (-120)) hx hb dX9_soonest_138 (by decide) ?_
            refine lv_icmp_ne (tgt := 147) hx hb dX9_soonest_140 (by decide) (fun c_38 => ?_) (fun c_38 => ?_)
            · have hcc_38 := c_38
              replace hsp := hsp.trans (if_neg c_38)
              refine lv_iload_n hx hb dX9_soonest_147 rfl (lv_at hl 2 rfl) ?_
              refine lv_if_ne (tgt := 158) hx hb dX9_soonest_148 (by decide) (fun c_39 => ?_) (fun c_39 => ?_)
              · have c_39 : ¬ n_4 = 0 := fun z => c_39 ((nI_eq (a := n_4) (b := 0) (by omega) (Nat.le_of_ble_eq_true rfl)).mpr z)
                replace hsp := hsp.trans (if_neg c_39)
                refine lv_iload_n hx hb dX9_soonest_158 rfl (lv_at hl 3 rfl) ?_
                refine lv_iconst (v := 1) hx hb dX9_soonest_159 (by decide) ?_
                refine lv_iand hx hb dX9_soonest_160 ?_
                refine lv_topi (fun y_40 ey_40 => ?_)
                replace hsp := hsp.trans (slet_eq ey_40)
                exact W.iret (v := y_40) hx hb hr (fun t ht hW => ⟨⟨y_40, (), rfl, (congrArg Prod.fst (hsp.symm.trans hRR)), ⟨z34_13, z35_14, z38_15, z39_16, z40_17, z41_18, z43_19, z44_20, z47_21, z48_22, z42_1_23, 0, (u_6 + 2), ⟨by rw [ht]; exact hP, va_K.moved hW.alike hK, hD⟩, hz42_1_23, (by omega), by first | assumption | exact gz_0, (congrArg Prod.snd (hsp.symm.trans hRR))⟩⟩, hS.F ht⟩) hS.2.2 dX9_soonest_161
              · have c_39 : n_4 = 0 := (nI_eq (a := n_4) (b := 0) (by omega) (Nat.le_of_ble_eq_true rfl)).mp c_39
                replace hsp := hsp.trans (if_pos c_39)
                refine lv_iload_n hx hb dX9_soonest_151 rfl (lv_at hl 3 rfl) ?_
                refine lv_iconst (v := 1) hx hb dX9_soonest_152 (by decide) ?_
                refine lv_ishr hx hb dX9_soonest_153 ?_
                refine lv_topi (fun y_41 ey_41 => ?_)
                replace hsp := hsp.trans (slet_eq ey_41)
                refine lv_ineg hx hb dX9_soonest_154 ?_
                refine lv_topi (fun y_42 ey_42 => ?_)
                replace hsp := hsp.trans (slet_eq ey_42)
                refine lv_goto (tgt := 161) hx hb dX9_soonest_155 (by decide) ?_
                exact W.iret (v := y_42) hx hb hr (fun t ht hW => ⟨⟨y_42, (), rfl, (congrArg Prod.fst (hsp.symm.trans hRR)), ⟨z34_13, z35_14, z38_15, z39_16, z40_17, z41_18, z43_19, z44_20, z47_21, z48_22, z42_1_23, 0, (u_6 + 2), ⟨by rw [ht]; exact hP, va_K.moved hW.alike hK, hD⟩, hz42_1_23, (by omega), by first | assumption | exact gz_0, (congrArg Prod.snd (hsp.symm.trans hRR))⟩⟩, hS.F ht⟩) hS.2.2 dX9_soonest_161
            · have hcc_38 := c_38
              replace hsp := hsp.trans (if_pos c_38)
              refine lv_iconst (v := (-1)) hx hb dX9_soonest_143 (by decide) ?_
              refine lv_goto (tgt := 161) hx hb dX9_soonest_144 (by decide) ?_
              exact W.iret (v := (-1)) hx hb hr (fun t ht hW => ⟨⟨(-1), (), rfl, (congrArg Prod.fst (hsp.symm.trans hRR)), ⟨z34_13, z35_14, z38_15, z39_16, z40_17, z41_18, z43_19, z44_20, z47_21, z48_22, z42_1_23, 0, (u_6 + 2), ⟨by rw [ht]; exact hP, va_K.moved hW.alike hK, hD⟩, hz42_1_23, (by omega), by first | assumption | exact gz_0, (congrArg Prod.snd (hsp.symm.trans hRR))⟩⟩, hS.F ht⟩) hS.2.2 dX9_soonest_161
          · have hcc_37 := c_37
            replace hsp := hsp.trans (if_neg c_37)
            refine lv_bipush (v := (-2)) hx hb dX9_soonest_134 (by decide) ?_
            exact W.iret (v := (-2)) hx hb hr (fun t ht hW => ⟨⟨(-2), (), rfl, (congrArg Prod.fst (hsp.symm.trans hRR)), ⟨z34_13, z35_14, z38_15, z39_16, z40_17, z41_18, z43_19, z44_20, z47_21, z48_22, z42_1_23, 0, (u_6 + 2), ⟨by rw [ht]; exact hP, va_K.moved hW.alike hK, hD⟩, hz42_1_23, (by omega), by first | assumption | exact gz_0, (congrArg Prod.snd (hsp.symm.trans hRR))⟩⟩, hS.F ht⟩) hS.2.2 dX9_soonest_136
        · have c_35 : ¬ z42_1_23 ≤ g_27 := fun z => c_35 ((nI_leI (a := z42_1_23) (b := g_27) (Nat.lt_of_le_of_lt hz42_1_23 (Nat.le_of_ble_eq_true rfl)) (Nat.lt_of_le_of_lt hg_27 (Nat.le_of_ble_eq_true rfl))).mpr z)
          replace hsp := hsp.trans (if_neg c_35)
          refine lv_iconst (v := 1) hx hb dX9_soonest_78 (by decide) ?_
          refine lv_iload hx hb dX9_soonest_79 (lv_at hl 4 rfl) ?_
          refine va_calli (va_runS (As := [.int 1, .int (nI g_27)]) (rest := []) ⟨hx, hb, hml, hown, hts⟩ (c_EM_spotOf_1 l dC dI _ ad ck 0 x16 x18 x19 x20 x21 x22 x23 x24 x25 x26 x27 x28 x29 x30 x33 x45 (u_6 + 2) x52 x53 x61 x62 x63 x65 x66 f1 f2 f3 q4 q5 q6 q7 f8 q9 q10 f11 m12_0 m12_1 m13_0 m13_1 m14_0 m14_1 m15_0 m15_1 f17 q31 f32 z34_13 z35_14 f36 f37 z38_15 z39_16 z40_17 z41_18 m42_0 z42_1_23 z43_19 z44_20 z47_21 z48_22 f49 f50 f51 q54 q55 q56 f57 q58 f59 f60 f64 g_27 hx16 hx18 hx19 hx21 hx22 hx26 hx28 hx29 hx30 hx33 (by omega) hx52 hx53 hx61 hx62 hx63 hx65 hm12_0 hm12_1 hm13_0 hm13_1 hm14_0 hm14_1 hm15_0 hm15_1 hm42_0 hz42_1_23 (by omega)) (va_cwS 2 hts g_EM_soonest_EM_spotOf_1 rfl rfl rfl (by decide +kernel) ⟨Nat.le_of_ble_eq_true rfl, Nat.le_of_ble_eq_true rfl⟩) ⟨pu_bl, pu_in hP hK hD⟩ rfl rfl hl.1 rfl (lv_room (Nat.le_of_ble_eq_true rfl)) dX9_soonest_81 ⟨Nat.le_of_ble_eq_true rfl, Nat.le_of_ble_eq_true rfl⟩) hS (fun q _ h => pu_fr hS hA q h) (pu_fr hS hA) (fun r_43 u t H1 locs ht hvm hw hB hz1 hk1 hS => ?_)
          have hP := pu_keep hP hk1
          clear hk1 hz1 ht hvm
          generalize H1 = H at hP hS ⊢
          obtain rfl : r_43 = nI (120 + g_27) := hw
          refine lv_istore (lv' := [(5, .int (nI (120 + g_27))), (0, .ref (ad 0)), (1, .int (nI n_2)), (2, .int (nI n_4)), (3, .int g_26), (4, .int (nI g_27))]) hx hb dX9_soonest_84 hl (by decide) rfl (fun ls hl => ?_)
          refine lv_aload_n hx hb dX9_soonest_86 rfl (lv_at hl 1 rfl) ?_
          refine va_get (D := (dC, dI)) (ci := 9) (v := .ref (ad 38)) (C := RX9) (T := TX9) (N := 67) hx hb hts hiX9 hown hK hP 0 rfl rfl 38 (by decide) v_29 (fun _ h9 => h9) rfl dX9_soonest_87 ?_
          refine lv_iload hx hb dX9_soonest_90 (lv_at hl 0 rfl) ?_
          refine va_iald hx hb hK hP 23 22 rfl rfl (vp_in_nI (n := (120 + g_27)) (by omega) (Nat.le_of_ble_eq_true rfl)) dX9_soonest_92 ?_
          refine lv_topi (fun y_44 ey_44 => ?_)
          obtain ⟨u_45, hu_45, qu_45, xu_45⟩ := bN_getx 7 z38_15 (n := (120 + g_27)) (by omega)
          obtain rfl : y_44 = nI u_45 := ey_44.trans qu_45
          replace hsp := hsp.trans (slet_eq xu_45)
          refine lv_iload_n hx hb dX9_soonest_93 rfl (lv_at hl 2 rfl) ?_
          obtain ⟨JR_48, hJR_48, hsp⟩ := slet_ex hsp
          refine pu_join (fun H locs ls st => ∃ (g_46 : Int32), st = [] ∧ g_46 = JR_48 ∧ va_P (dC, dI) vwCl (mo_w ad ck 0 (nI x16) (nI x18) (nI x19) x20 (nI x21) (nI x22) x23 x24 x25 (nI x26) x27 (nI x28) (nI x29) (nI x30) (nI x33) x45 (nI (u_6 + 2)) (nI x52) (nI x53) (nI x61) (nI x62) (nI x63) (nI x65) x66 f1 f2 f3 (bN 3 q4) (bN 7 q5) (bN 7 q6) (bN 4 q7) f8 (bN 2 q9) (bH q10) f11 (b2 m12_0 m12_1) (b2 m13_0 m13_1) (b2 m14_0 m14_1) (b2m m15_0 m15_1) f17 (bA 159 q31) f32 z34_13 z35_14 f36 f37 (bN 7 z38_15) z39_16 z40_17 z41_18 (b2 m42_0 z42_1_23) z43_19 z44_20 z47_21 z48_22 f49 f50 f51 (bN 13 q54) (bN 120 q55) (bN 120 q56) f57 (bN 120 q58) f59 f60 f64) H ∧ va_D A (mo_w ad ck 0 (nI x16) (nI x18) (nI x19) x20 (nI x21) (nI x22) x23 x24 x25 (nI x26) x27 (nI x28) (nI x29) (nI x30) (nI x33) x45 (nI (u_6 + 2)) (nI x52) (nI x53) (nI x61) (nI x62) (nI x63) (nI x65) x66 f1 f2 f3 (bN 3 q4) (bN 7 q5) (bN 7 q6) (bN 4 q7) f8 (bN 2 q9) (bH q10) f11 (b2 m12_0 m12_1) (b2 m13_0 m13_1) (b2 m14_0 m14_1) (b2m m15_0 m15_1) f17 (bA 159 q31) f32 z34_13 z35_14 f36 f37 (bN 7 z38_15) z39_16 z40_17 z41_18 (b2 m42_0 z42_1_23) z43_19 z44_20 z47_21 z48_22 f49 f50 f51 (bN 13 q54) (bN 120 q55) (bN 120 q56) f57 (bN 120 q58) f59 f60 f64) ∧ va_S A s.heap H locs ∧ lv_has ls 6 [(0, .ref (ad 0)), (1, .int (nI n_2)), (2, .int (nI n_4)), (3, .int g_46), (4, .int (nI g_27)), (5, .int (nI (120 + g_27)))]) 119 ?_ (fun j_47 => ?_)
          · rintro H locs ls st ⟨g_46, rfl, he_49, hP, hD, hS, hl⟩
            rw [← he_49] at hsp
            refine lv_iinc (v := (nI (g_27 + 1))) (lv' := [(4, .int (nI (g_27 + 1))), (0, .ref (ad 0)), (1, .int (nI n_2)), (2, .int (nI n_4)), (3, .int g_46), (5, .int (nI (120 + g_27)))]) hx hb dX9_soonest_119 hl (k := 4) rfl (nI_1 _) (by decide) rfl (fun ls hl => ?_)
            refine lv_goto (tgt := 67) hx hb dX9_soonest_122 (by decide) ?_
            exact ih_28 (400 - (g_27 + 1)) (by omega) _ _ _ ⟨g_46, (g_27 + 1), rfl, (by omega), hin_32 _ hsp, hP, hD, hS, lv_sub hl [1, 2, 3, 4, 0] rfl⟩
          have hsp := hJR_48
          refine lv_icmp_ne (tgt := 119) hx hb dX9_soonest_94 (by decide) (fun c_50 => ?_) (fun c_50 => ?_)
          · have c_50 : ¬ u_45 = n_2 := fun z => c_50 ((nI_eq (a := u_45) (b := n_2) (Nat.lt_of_le_of_lt hu_45 (Nat.le_of_ble_eq_true rfl)) (by omega)).mpr z)
            replace hsp := hsp.trans (if_neg c_50)
            exact j_47 _ _ _ _ ⟨g_26, rfl, hsp.symm, hP, hD, hS, lv_sub hl [1, 2, 3, 4, 5, 0] rfl⟩
          · have c_50 : u_45 = n_2 := (nI_eq (a := u_45) (b := n_2) (Nat.lt_of_le_of_lt hu_45 (Nat.le_of_ble_eq_true rfl)) (by omega)).mp c_50
            replace hsp := hsp.trans (if_pos c_50)
            refine lv_iload_n hx hb dX9_soonest_97 rfl (lv_at hl 4 rfl) ?_
            refine lv_aload_n hx hb dX9_soonest_98 rfl (lv_at hl 1 rfl) ?_
            refine va_get (D := (dC, dI)) (ci := 9) (v := .ref (ad 34)) (C := RX9) (T := TX9) (N := 67) hx hb hts hiX9 hown hK hP 0 rfl rfl 34 (by decide) v_30 (fun _ h9 => h9) rfl dX9_soonest_99 ?_
            refine lv_bipush (v := 25) hx hb dX9_soonest_102 (by decide) ?_
            refine lv_iload hx hb dX9_soonest_104 (lv_at hl 0 rfl) ?_
            refine lv_imul hx hb dX9_soonest_106 ?_
            refine lv_topi (fun y_51 ey_51 => ?_)
            obtain rfl : y_51 = (nI (25 * (120 + g_27))) := ey_51.trans (pk_mul 25 (120 + g_27))
            refine lv_aload_n hx hb dX9_soonest_107 rfl (lv_at hl 1 rfl) ?_
            refine va_get (D := (dC, dI)) (ci := 9) (v := .int (nI (u_6 + 2))) (C := RX9) (T := TX9) (N := 67) hx hb hts hiX9 hown hK hP 0 rfl rfl 46 (by decide) v_14 (fun _ h9 => h9) rfl dX9_soonest_108 ?_
            refine lv_iadd hx hb dX9_soonest_111 ?_
            refine lv_topi (fun y_52 ey_52 => ?_)
            obtain rfl : y_52 = (nI ((25 * (120 + g_27)) + (u_6 + 2))) := ey_52.trans (nI_add (25 * (120 + g_27)) (u_6 + 2))
            refine lv_iconst (v := 1) hx hb dX9_soonest_112 (by decide) ?_
            refine lv_isub hx hb dX9_soonest_113 ?_
            refine lv_topi (fun y_53 ey_53 => ?_)
            obtain rfl : y_53 = (nI (((25 * (120 + g_27)) + (u_6 + 2)) - 1)) := ey_53.trans (pk_sub (a := ((25 * (120 + g_27)) + (u_6 + 2))) (b := 1) (by omega))
            refine va_iald hx hb hK hP 19 18 rfl rfl (vp_in_nI (n := (((25 * (120 + g_27)) + (u_6 + 2)) - 1)) (by omega) (Nat.le_of_ble_eq_true rfl)) dX9_soonest_114 ?_
            refine lv_topi (fun y_54 ey_54 => ?_)
            have ey_54 : y_54 = z34_13 (((25 * (120 + g_27)) + (u_6 + 2)) - 1) := ey_54.trans (congrArg z34_13 (nI_clamp (n := (((25 * (120 + g_27)) + (u_6 + 2)) - 1)) (by first | omega | exact Nat.lt_trans (sp_ix (by omega) (by omega) (by omega)) (by decide : 14641 < 2 ^ 31) | exact Nat.lt_trans (sp_ix0 (by omega) (by omega)) (by decide : 14641 < 2 ^ 31) | exact Nat.lt_trans (zx16 (by omega) (by omega) (by omega)) (Nat.le_of_ble_eq_true rfl) | exact Nat.lt_trans (zy16 (by omega) (by omega)) (Nat.le_of_ble_eq_true rfl) | exact Nat.lt_trans (zx25 (by omega) (by omega) (by omega)) (Nat.le_of_ble_eq_true rfl) | exact Nat.lt_trans (zy25 (by omega) (by omega)) (Nat.le_of_ble_eq_true rfl))))
            replace hsp := hsp.trans (slet_eq ey_54)
            refine va_calli (va_runS (As := [.int g_26, .int y_54]) (rest := []) ⟨hx, hb, hml, hown, hts⟩ (c_EM_greater l dC dI _ ad ck 0 x16 x18 x19 x20 x21 x22 x23 x24 x25 x26 x27 x28 x29 x30 x33 x45 (u_6 + 2) x52 x53 x61 x62 x63 x65 x66 f1 f2 f3 q4 q5 q6 q7 f8 q9 q10 f11 m12_0 m12_1 m13_0 m13_1 m14_0 m14_1 m15_0 m15_1 f17 q31 f32 z34_13 z35_14 f36 f37 z38_15 z39_16 z40_17 z41_18 m42_0 z42_1_23 z43_19 z44_20 z47_21 z48_22 f49 f50 f51 q54 q55 q56 f57 q58 f59 f60 f64 g_26 y_54 hx16 hx18 hx19 hx21 hx22 hx26 hx28 hx29 hx30 hx33 (by omega) hx52 hx53 hx61 hx62 hx63 hx65 hm12_0 hm12_1 hm13_0 hm13_1 hm14_0 hm14_1 hm15_0 hm15_1 hm42_0 hz42_1_23) (va_cwS 2 hts g_EM_soonest_EM_greater rfl rfl rfl (by decide +kernel) ⟨Nat.le_of_ble_eq_true rfl, Nat.le_of_ble_eq_true rfl⟩) ⟨pu_bl, pu_in hP hK hD⟩ rfl rfl hl.1 rfl (lv_room (Nat.le_of_ble_eq_true rfl)) dX9_soonest_115 ⟨Nat.le_of_ble_eq_true rfl, Nat.le_of_ble_eq_true rfl⟩) hS (fun q _ h => pu_fr hS hA q h) (pu_fr hS hA) (fun r_55 u t H1 locs ht hvm hw hB hz1 hk1 hS => ?_)
            have hP := pu_keep hP hk1
            clear hk1 hz1 ht hvm
            generalize H1 = H at hP hS ⊢
            have ir_55 := hw
            replace hsp := hsp.trans (slet_eq ir_55)
            refine lv_istore_n (lv' := [(3, .int r_55), (5, .int (nI (120 + g_27))), (0, .ref (ad 0)), (1, .int (nI n_2)), (2, .int (nI n_4)), (4, .int (nI g_27))]) hx hb dX9_soonest_118 rfl hl (by decide) rfl (fun ls hl => ?_)
            exact j_47 _ _ _ _ ⟨r_55, rfl, hsp.symm, hP, hD, hS, lv_sub hl [2, 3, 4, 0, 5, 1] rfl⟩
    · replace hsp := hsp.trans (if_neg hi3)
      refine lv_if_ne (tgt := 24) hx hb dX9_soonest_19 (by decide) (fun z => absurd z (by decide)) (fun _ => ?_)
      refine lv_iconst (v := (-1)) hx hb dX9_soonest_22 (by decide) ?_
      exact W.iret (v := (-1)) hx hb hr (fun t ht hW => ⟨⟨(-1), (), rfl, (congrArg Prod.fst (hsp.symm.trans hRR)), ⟨f34, f35, q38, f39, f40, f41, f43, f44, f47, f48, m42_1, 0, x46, ⟨by rw [ht]; exact hP, va_K.moved hW.alike hK, hD⟩, hm42_1, hx46, by first | assumption | exact gz_0, (congrArg Prod.snd (hsp.symm.trans hRR))⟩⟩, hS.F ht⟩) hS.2.2 dX9_soonest_23
  · replace hsp := hsp.trans (if_neg hn)
    refine lv_if_eq (tgt := 22) hx hb dX9_soonest_10 (by decide) (fun _ => ?_) (fun z => absurd z (by decide))
    refine lv_iconst (v := (-1)) hx hb dX9_soonest_22 (by decide) ?_
    exact W.iret (v := (-1)) hx hb hr (fun t ht hW => ⟨⟨(-1), (), rfl, (congrArg Prod.fst (hsp.symm.trans hRR)), ⟨f34, f35, q38, f39, f40, f41, f43, f44, f47, f48, m42_1, 0, x46, ⟨by rw [ht]; exact hP, va_K.moved hW.alike hK, hD⟩, hm42_1, hx46, by first | assumption | exact gz_0, (congrArg Prod.snd (hsp.symm.trans hRR))⟩⟩, hS.F ht⟩) hS.2.2 dX9_soonest_23
