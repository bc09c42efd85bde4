theorem hbg_bk {b m0 m1 k0 k1 : Nat} (h : (b = 0 ∧ (m0 = 0 ∨ 1 ≤ k0)) ∨ (b = 1 ∧ (m1 = 0 ∨ 1 ≤ k1))) : bkN b m0 m1 = 0 ∨ 1 ≤ (if b = 0 then k0 else k1) := by
  rcases h with ⟨rfl, h⟩ | ⟨rfl, h⟩
  · first | exact h | simpa [bkN] using h
  · first | exact h | simpa [bkN] using h
theorem dX9_avoids_0 : decode cX9_avoids 0 = .ok (.aload_n 0, 1) := by decide +kernel
theorem dX9_avoids_1 : decode cX9_avoids 1 = .ok (.iconst 0, 1) := by decide +kernel
theorem dX9_avoids_2 : decode cX9_avoids 2 = .ok (.putfield 142, 3) := by decide +kernel
theorem dX9_avoids_5 : decode cX9_avoids 5 = .ok (.aload_n 0, 1) := by decide +kernel
theorem dX9_avoids_6 : decode cX9_avoids 6 = .ok (.iload_n 1, 1) := by decide +kernel
theorem dX9_avoids_7 : decode cX9_avoids 7 = .ok (.invokevirtual 286, 3) := by decide +kernel
theorem dX9_avoids_10 : decode cX9_avoids 10 = .ok (.ifCond .eq 11, 3) := by decide +kernel
theorem dX9_avoids_13 : decode cX9_avoids 13 = .ok (.aload_n 0, 1) := by decide +kernel
theorem dX9_avoids_14 : decode cX9_avoids 14 = .ok (.iload_n 2, 1) := by decide +kernel
theorem dX9_avoids_15 : decode cX9_avoids 15 = .ok (.invokevirtual 286, 3) := by decide +kernel
theorem dX9_avoids_18 : decode cX9_avoids 18 = .ok (.ifCond .ne 5, 3) := by decide +kernel
theorem dX9_avoids_21 : decode cX9_avoids 21 = .ok (.iconst (-1), 1) := by decide +kernel
theorem dX9_avoids_22 : decode cX9_avoids 22 = .ok (.ireturn, 1) := by decide +kernel
theorem dX9_avoids_23 : decode cX9_avoids 23 = .ok (.iload_n 1, 1) := by decide +kernel
theorem dX9_avoids_24 : decode cX9_avoids 24 = .ok (.iload_n 2, 1) := by decide +kernel
theorem dX9_avoids_25 : decode cX9_avoids 25 = .ok (.if_icmp .eq 16, 3) := by decide +kernel
theorem dX9_avoids_28 : decode cX9_avoids 28 = .ok (.iload_n 1, 1) := by decide +kernel
theorem dX9_avoids_29 : decode cX9_avoids 29 = .ok (.aload_n 0, 1) := by decide +kernel
theorem dX9_avoids_30 : decode cX9_avoids 30 = .ok (.getfield 52, 3) := by decide +kernel
theorem dX9_avoids_33 : decode cX9_avoids 33 = .ok (.aload_n 0, 1) := by decide +kernel
theorem dX9_avoids_34 : decode cX9_avoids 34 = .ok (.getfield 258, 3) := by decide +kernel
theorem dX9_avoids_37 : decode cX9_avoids 37 = .ok (.iaload, 1) := by decide +kernel
theorem dX9_avoids_38 : decode cX9_avoids 38 = .ok (.if_icmp .ne 5, 3) := by decide +kernel
theorem dX9_avoids_41 : decode cX9_avoids 41 = .ok (.iconst 0, 1) := by decide +kernel
theorem dX9_avoids_42 : decode cX9_avoids 42 = .ok (.ireturn, 1) := by decide +kernel
theorem dX9_avoids_43 : decode cX9_avoids 43 = .ok (.aload_n 0, 1) := by decide +kernel
theorem dX9_avoids_44 : decode cX9_avoids 44 = .ok (.aload_n 0, 1) := by decide +kernel
theorem dX9_avoids_45 : decode cX9_avoids 45 = .ok (.invokevirtual 280, 3) := by decide +kernel
theorem dX9_avoids_48 : decode cX9_avoids 48 = .ok (.iconst 1, 1) := by decide +kernel
theorem dX9_avoids_49 : decode cX9_avoids 49 = .ok (.iadd, 1) := by decide +kernel
theorem dX9_avoids_50 : decode cX9_avoids 50 = .ok (.putfield 328, 3) := by decide +kernel
theorem dX9_avoids_53 : decode cX9_avoids 53 = .ok (.aload_n 0, 1) := by decide +kernel
theorem dX9_avoids_54 : decode cX9_avoids 54 = .ok (.iconst 0, 1) := by decide +kernel
theorem dX9_avoids_55 : decode cX9_avoids 55 = .ok (.iconst 0, 1) := by decide +kernel
theorem dX9_avoids_56 : decode cX9_avoids 56 = .ok (.iconst 0, 1) := by decide +kernel
theorem dX9_avoids_57 : decode cX9_avoids 57 = .ok (.invokevirtual 379, 3) := by decide +kernel
theorem dX9_avoids_60 : decode cX9_avoids 60 = .ok (.aload_n 0, 1) := by decide +kernel
theorem dX9_avoids_61 : decode cX9_avoids 61 = .ok (.iconst 1, 1) := by decide +kernel
theorem dX9_avoids_62 : decode cX9_avoids 62 = .ok (.aload_n 0, 1) := by decide +kernel
theorem dX9_avoids_63 : decode cX9_avoids 63 = .ok (.getfield 52, 3) := by decide +kernel
theorem dX9_avoids_66 : decode cX9_avoids 66 = .ok (.aload_n 0, 1) := by decide +kernel
theorem dX9_avoids_67 : decode cX9_avoids 67 = .ok (.getfield 258, 3) := by decide +kernel
theorem dX9_avoids_70 : decode cX9_avoids 70 = .ok (.iaload, 1) := by decide +kernel
theorem dX9_avoids_71 : decode cX9_avoids 71 = .ok (.iconst 2, 1) := by decide +kernel
theorem dX9_avoids_72 : decode cX9_avoids 72 = .ok (.iconst 1, 1) := by decide +kernel
theorem dX9_avoids_73 : decode cX9_avoids 73 = .ok (.bipush 120, 2) := by decide +kernel
theorem dX9_avoids_75 : decode cX9_avoids 75 = .ok (.iload_n 1, 1) := by decide +kernel
theorem dX9_avoids_76 : decode cX9_avoids 76 = .ok (.invokevirtual 383, 3) := by decide +kernel
theorem dX9_avoids_79 : decode cX9_avoids 79 = .ok (.aload_n 0, 1) := by decide +kernel
theorem dX9_avoids_80 : decode cX9_avoids 80 = .ok (.iconst 1, 1) := by decide +kernel
theorem dX9_avoids_81 : decode cX9_avoids 81 = .ok (.iload_n 2, 1) := by decide +kernel
theorem dX9_avoids_82 : decode cX9_avoids 82 = .ok (.invokevirtual 426, 3) := by decide +kernel
theorem dX9_avoids_85 : decode cX9_avoids 85 = .ok (.ifCond .eq 7, 3) := by decide +kernel
theorem dX9_avoids_88 : decode cX9_avoids 88 = .ok (.iconst 1, 1) := by decide +kernel
theorem dX9_avoids_89 : decode cX9_avoids 89 = .ok (.goto 4, 3) := by decide +kernel
theorem dX9_avoids_92 : decode cX9_avoids 92 = .ok (.iconst 0, 1) := by decide +kernel
theorem dX9_avoids_93 : decode cX9_avoids 93 = .ok (.ireturn, 1) := by decide +kernel
abbrev vs_EM_avoids : List Cond := .code yX9_avoids cX9_avoids 3 (some .int) :: VM
theorem g_EM_avoids_EM_isPlace : GoodIn vs_EM_avoids (wsV RX9 286 RX9 yX9_isPlace vs_EM_isPlace) := gm_V vm_148 vm_149 vm_150 vm_19 vm_151
theorem g_EM_avoids_EM_clocks : GoodIn vs_EM_avoids (wsV RX9 280 RX9 yX9_clocks vs_EM_clocks) := gm_V vm_140 vm_141 vm_142 vm_19 vm_143
theorem g_EM_avoids_EM_layPoint : GoodIn vs_EM_avoids (wsV RX9 379 RX9 yX9_layPoint vs_EM_layPoint) := gm_V vm_255 vm_256 vm_257 vm_19 vm_258
theorem g_EM_avoids_EM_explores_1_120 : GoodIn vs_EM_avoids (wsV RX9 383 RX9 yX9_explores vs_EM_explores_1_120) := gm_V vm_259 vm_260 vm_261 vm_19 vm_262
theorem g_EM_avoids_EM_hasPlace_1 : GoodIn vs_EM_avoids (wsV RX9 426 RX9 yX9_hasPlace vs_EM_hasPlace_1) := gm_V vm_354 vm_355 vm_356 vm_19 vm_357
noncomputable def sp_EM_avoids (x16 : Nat) (x46 : Nat) (f3 : Nat → Int32) (q4 : Nat → Nat) (q5 : Nat → Nat) (q6 : Nat → Nat) (q7 : Nat → Nat) (f8 : Nat → Int32) (q9 : Nat → Nat) (q10 : Nat → Nat) (f11 : Nat → Int32) (m12_0 : Nat) (m12_1 : Nat) (m13_0 : Nat) (m13_1 : Nat) (m14_0 : Nat) (m14_1 : Nat) (m15_0 : Nat) (m15_1 : Nat) (f34 : Nat → Int32) (f35 : Nat → Int32) (q38 : Nat → Nat) (f39 : Nat → Int32) (f40 : Nat → Int32) (f41 : Nat → Int32) (m42_1 : Nat) (f43 : Nat → Int32) (f44 : Nat → Int32) (f47 : Nat → Int32) (f48 : Nat → Int32) (p0 : Int32) (p1 : Int32) : Int32 × (Nat → Int32) × (Nat → Int32) × (Nat → Nat) × (Nat → Int32) × (Nat → Int32) × (Nat → Int32) × (Nat → Int32) × (Nat → Int32) × (Nat → Int32) × (Nat → Int32) × Nat × Int32 × Nat := (if (0 : Int32) ≤ p0 ∧ p0 < nI (bkN x16 m13_0 m13_1) then (slet ((p0 : Int32).toNatClampNeg) (fun n_2 => (if (0 : Int32) ≤ p1 ∧ p1 < nI (bkN x16 m13_0 m13_1) then (slet ((p1 : Int32).toNatClampNeg) (fun n_4 => (if n_2 = n_4 then (0, f34, f35, q38, f39, f40, f41, f43, f44, f47, f48, m42_1, 0, x46) else (slet (if x16 = 0 then m15_0 else m15_1) (fun u_7 => (slet (u_7 - 1) (fun vy_6 => (if n_2 = vy_6 then (0, f34, f35, q38, f39, f40, f41, f43, f44, f47, f48, m42_1, 0, x46) else (slet (sp_EM_clocks x16 m12_0 m12_1) (fun u_10 => (slet (sp_EM_layPoint f35 0 0 0) (fun z35_13 => (slet (u_7 - 1) (fun vy_14 => (slet (sp_EM_explores_1_120 x16 (u_10 + 1) f3 q4 q5 q6 q7 f8 q9 q10 f11 m12_0 m12_1 m13_0 m13_1 m14_0 m14_1 f34 z35_13 q38 f39 f40 f41 f43 f44 f47 f48 vy_14 2 1 (nI n_2)) (fun (z34_16, z35_17, z38_18, z39_19, z40_20, z41_21, z43_22, z44_23, z47_24, z48_25, z42_1_26) => (slet (sp_EM_hasPlace_1 z38_18 z42_1_26 (nI n_4)) (fun u_28 => (if u_28 = 0 then (0, z34_16, z35_17, z38_18, z39_19, z40_20, z41_21, z43_22, z44_23, z47_24, z48_25, z42_1_26, 0, (u_10 + 1)) else (1, z34_16, z35_17, z38_18, z39_19, z40_20, z41_21, z43_22, z44_23, z47_24, z48_25, z42_1_26, 0, (u_10 + 1))))))))))))))))))))) else ((-1), f34, f35, q38, f39, f40, f41, f43, f44, f47, f48, m42_1, 0, x46)))) else ((-1), f34, f35, q38, f39, f40, f41, f43, f44, f47, f48, m42_1, 0, x46))
set_option maxHeartbeats 4000000 in
set_option maxRecDepth 100000 in
theorem c_EM_avoids (l : Launch) (dC : Nat → ClassId) (dI : Nat → Nat → Nat) (sz : Nat) (ad : Nat → Nat) (ck : Nat → ClassId) (x0 : Int32) (x16 : Nat) (x18 : Nat) (x19 : Nat) (x20 : Int32) (x21 : Nat) (x22 : Nat) (x23 : Int32) (x24 : Int32) (x25 : Int32) (x26 : Nat) (x27 : Int32) (x28 : Nat) (x29 : Nat) (x30 : Nat) (x33 : Nat) (x45 : Int32) (x46 : Nat) (x52 : Nat) (x53 : Nat) (x61 : Nat) (x62 : Nat) (x63 : Nat) (x65 : Nat) (x66 : Int32) (f1 : Nat → Int32) (f2 : Nat → Int32) (f3 : Nat → Int32) (q4 : Nat → Nat) (q5 : Nat → Nat) (q6 : Nat → Nat) (q7 : Nat → Nat) (f8 : Nat → Int32) (q9 : Nat → Nat) (q10 : Nat → Nat) (f11 : Nat → Int32) (m12_0 m12_1 : Nat) (m13_0 m13_1 : Nat) (m14_0 m14_1 : Nat) (m15_0 m15_1 : Nat) (f17 : Nat → Int32) (q31 : Nat → Nat) (f32 : Nat → Int32) (f34 : Nat → Int32) (f35 : Nat → Int32) (f36 : Nat → Int32) (f37 : Nat → Int32) (q38 : Nat → Nat) (f39 : Nat → Int32) (f40 : Nat → Int32) (f41 : Nat → Int32) (m42_0 m42_1 : Nat) (f43 : Nat → Int32) (f44 : Nat → Int32) (f47 : Nat → Int32) (f48 : Nat → Int32) (f49 : Nat → Int32) (f50 : Nat → Int32) (f51 : Nat → Int32) (q54 : Nat → Nat) (q55 : Nat → Nat) (q56 : Nat → Nat) (f57 : Nat → Int32) (q58 : Nat → Nat) (f59 : Nat → Int32) (f60 : Nat → Int32) (f64 : Nat → Int32) (p0 : Int32) (p1 : Int32) (hx16 : x16 ≤ 1) (hx18 : x18 ≤ 900) (hx19 : x19 ≤ 900) (hx21 : x21 ≤ 900) (hx22 : x22 ≤ 4) (hx26 : x26 ≤ 6) (hx28 : x28 ≤ 1) (hx29 : x29 ≤ 1) (hx30 : x30 ≤ 1) (hx33 : x33 ≤ 20) (hx46 : x46 ≤ 5) (hx52 : x52 ≤ 2400) (hx53 : x53 ≤ 119) (hx61 : x61 ≤ 119) (hx62 : x62 ≤ 2000) (hx63 : x63 ≤ 1) (hx65 : x65 ≤ 7) (hm12_0 : m12_0 ≤ 3) (hm12_1 : m12_1 ≤ 3) (hm13_0 : m13_0 ≤ 8) (hm13_1 : m13_1 ≤ 8) (hm14_0 : m14_0 ≤ 14) (hm14_1 : m14_1 ≤ 14) (hm15_0 : m15_0 ≤ 8) (hm15_1 : m15_1 ≤ 8) (hm42_0 : m42_0 ≤ 120) (hm42_1 : m42_1 ≤ 400) (hbg : (x16 = 0 ∧ (m13_0 = 0 ∨ 1 ≤ m15_0)) ∨ (x16 = 1 ∧ (m13_1 = 0 ∨ 1 ≤ m15_1))) (hgr : gz_ok m42_0 f39 f40 f41) : Met l yX9_avoids vs_EM_avoids ({ frames := 7, cells := 0, slots := 0, locals := 171 }) (va_Pc [.ref (ad 0), .int p0, .int p1] (pu_B (dC, dI) (mo_w ad ck x0 (nI x16) (nI x18) (nI x19) x20 (nI x21) (nI x22) x23 x24 x25 (nI x26) x27 (nI x28) (nI x29) (nI x30) (nI x33) x45 (nI x46) (nI x52) (nI x53) (nI x61) (nI x62) (nI x63) (nI x65) x66 f1 f2 f3 (bN 3 q4) (bN 7 q5) (bN 7 q6) (bN 4 q7) f8 (bN 2 q9) (bH q10) f11 (b2 m12_0 m12_1) (b2 m13_0 m13_1) (b2 m14_0 m14_1) (b2m m15_0 m15_1) f17 (bA 159 q31) f32 f34 f35 f36 f37 (bN 7 q38) f39 f40 f41 (b2 m42_0 m42_1) f43 f44 f47 f48 f49 f50 f51 (bN 13 q54) (bN 120 q55) (bN 120 q56) f57 (bN 120 q58) f59 f60 f64) (mo_t ck) sz)) (va_Qi (fun (r : Int32) (_ : Unit) => r = (sp_EM_avoids x16 x46 f3 q4 q5 q6 q7 f8 q9 q10 f11 m12_0 m12_1 m13_0 m13_1 m14_0 m14_1 m15_0 m15_1 f34 f35 q38 f39 f40 f41 m42_1 f43 f44 f47 f48 p0 p1).1) (fun _ t => ∃ (z34 : Nat → Int32) (z35 : Nat → Int32) (z38 : Nat → Nat) (z39 : Nat → Int32) (z40 : Nat → Int32) (z41 : Nat → Int32) (z43 : Nat → Int32) (z44 : Nat → Int32) (z47 : Nat → Int32) (z48 : Nat → Int32) (z42_1 : Nat) (z0 : Int32) (z46 : Nat), pu_E (dC, dI) (mo_w ad ck z0 (nI x16) (nI x18) (nI x19) x20 (nI x21) (nI x22) x23 x24 x25 (nI x26) x27 (nI x28) (nI x29) (nI x30) (nI x33) x45 (nI z46) (nI x52) (nI x53) (nI x61) (nI x62) (nI x63) (nI x65) x66 f1 f2 f3 (bN 3 q4) (bN 7 q5) (bN 7 q6) (bN 4 q7) f8 (bN 2 q9) (bH q10) f11 (b2 m12_0 m12_1) (b2 m13_0 m13_1) (b2 m14_0 m14_1) (b2m m15_0 m15_1) f17 (bA 159 q31) f32 z34 z35 f36 f37 (bN 7 z38) z39 z40 z41 (b2 m42_0 z42_1) z43 z44 z47 z48 f49 f50 f51 (bN 13 q54) (bN 120 q55) (bN 120 q56) f57 (bN 120 q58) f59 f60 f64) (mo_t ck) (va_A ((mo_w ad ck x0 (nI x16) (nI x18) (nI x19) x20 (nI x21) (nI x22) x23 x24 x25 (nI x26) x27 (nI x28) (nI x29) (nI x30) (nI x33) x45 (nI x46) (nI x52) (nI x53) (nI x61) (nI x62) (nI x63) (nI x65) x66 f1 f2 f3 (bN 3 q4) (bN 7 q5) (bN 7 q6) (bN 4 q7) f8 (bN 2 q9) (bH q10) f11 (b2 m12_0 m12_1) (b2 m13_0 m13_1) (b2 m14_0 m14_1) (b2m m15_0 m15_1) f17 (bA 159 q31) f32 f34 f35 f36 f37 (bN 7 q38) f39 f40 f41 (b2 m42_0 m42_1) f43 f44 f47 f48 f49 f50 f51 (bN 13 q54) (bN 120 q55) (bN 120 q56) f57 (bN 120 q58) f59 f60 f64)) sz) t ∧ (z42_1 ≤ 400) ∧ (z46 ≤ 5) ∧ (gz_ok m42_0 z39 z40 z41) ∧ ((z34, z35, z38, z39, z40, z41, z43, z44, z47, z48, z42_1, z0, z46) = (sp_EM_avoids x16 x46 f3 q4 q5 q6 q7 f8 q9 q10 f11 m12_0 m12_1 m13_0 m13_1 m14_0 m14_1 m15_0 m15_1 f34 f35 q38 f39 f40 f41 m42_1 f43 f44 f47 f48 p0 p1).2)) (va_A ((mo_w ad ck x0 (nI x16) (nI x18) (nI x19) x20 (nI x21) (nI x22) x23 x24 x25 (nI x26) x27 (nI x28) (nI x29) (nI x30) (nI x33) x45 (nI x46) (nI x52) (nI x53) (nI x61) (nI x62) (nI x63) (nI x65) x66 f1 f2 f3 (bN 3 q4) (bN 7 q5) (bN 7 q6) (bN 4 q7) f8 (bN 2 q9) (bH q10) f11 (b2 m12_0 m12_1) (b2 m13_0 m13_1) (b2 m14_0 m14_1) (b2m m15_0 m15_1) f17 (bA 159 q31) f32 f34 f35 f36 f37 (bN 7 q38) f39 f40 f41 (b2 m42_0 m42_1) f43 f44 f47 f48 f49 f50 f51 (bN 13 q54) (bN 120 q55) (bN 120 q56) f57 (bN 120 q58) f59 f60 f64)) sz)) 0 0 (va_A ((mo_w ad ck x0 (nI x16) (nI x18) (nI x19) x20 (nI x21) (nI x22) x23 x24 x25 (nI x26) x27 (nI x28) (nI x29) (nI x30) (nI x33) x45 (nI x46) (nI x52) (nI x53) (nI x61) (nI x62) (nI x63) (nI x65) x66 f1 f2 f3 (bN 3 q4) (bN 7 q5) (bN 7 q6) (bN 4 q7) f8 (bN 2 q9) (bH q10) f11 (b2 m12_0 m12_1) (b2 m13_0 m13_1) (b2 m14_0 m14_1) (b2m m15_0 m15_1) f17 (bA 159 q31) f32 f34 f35 f36 f37 (bN 7 q38) f39 f40 f41 (b2 m42_0 m42_1) f43 f44 f47 f48 f49 f50 f51 (bN 13 q54) (bN 120 q55) (bN 120 q56) f57 (bN 120 q58) f59 f60 f64)) sz) := by
  refine Met.ofW (cc := cX9_avoids) (maxL := 3) (ret := (some .int)) (by decide) rfl ?_
  intro p e s m args below meth c s₁ B hml hv
  obtain ⟨rfl, rfl, hP, hK, hD0⟩ := hv
  have hx := B.exec
  have hb := B.bytes
  have hr := B.returns
  have hts := atoms_spec (ws := vs_EM_avoids) B.pre
  have v_1 := hts (.fieldLink RX9 142 "ClockReachModel" "thrown" "I") (List.mem_cons_of_mem _ vm_5)
  have v_7 := hts (.fieldLink RX9 52 "ClockReachModel" "begins" "[I") (List.mem_cons_of_mem _ vm_126)
  have v_8 := hts (.fieldLink RX9 258 "ClockReachModel" "bank" "I") (List.mem_cons_of_mem _ vm_4)
  have v_13 := hts (.fieldLink RX9 328 "ClockReachModel" "side" "I") (List.mem_cons_of_mem _ vm_196)
  have hown : s.vm.findClass RX9 = some m.cls := findClass_of_methodNamed B.named
  have hlocks := B.notSynchronized
  have hiX9 : ∀ w ∈ wsX90, w ∈ vs_EM_avoids := fun _ h => List.mem_cons_of_mem _ (vmi_L h)
  have hD := hD0.self (sz := s.heap.size)
  generalize hAe : va_A ((mo_w ad ck x0 (nI x16) (nI x18) (nI x19) x20 (nI x21) (nI x22) x23 x24 x25 (nI x26) x27 (nI x28) (nI x29) (nI x30) (nI x33) x45 (nI x46) (nI x52) (nI x53) (nI x61) (nI x62) (nI x63) (nI x65) x66 f1 f2 f3 (bN 3 q4) (bN 7 q5) (bN 7 q6) (bN 4 q7) f8 (bN 2 q9) (bH q10) f11 (b2 m12_0 m12_1) (b2 m13_0 m13_1) (b2 m14_0 m14_1) (b2m m15_0 m15_1) f17 (bA 159 q31) f32 f34 f35 f36 f37 (bN 7 q38) f39 f40 f41 (b2 m42_0 m42_1) f43 f44 f47 f48 f49 f50 f51 (bN 13 q54) (bN 120 q55) (bN 120 q56) f57 (bN 120 q58) f59 f60 f64)) s.heap.size = A at hD ⊢
  have hA : ∀ q : Nat, s.heap.size ≤ q → A q := fun q h => by rw [← hAe]; exact Or.inr h
  have hS : va_S A s.heap s.heap [] := va_S.rf
  have hl := lv_entry ([.ref (ad 0), .int p0, .int p1]) (n := 3) (Nat.le_of_ble_eq_true rfl)
  rw [lg_entry_eq]
  generalize (lg_sl ([.ref (ad 0), .int p0, .int p1]) ++ List.replicate (3 - (lg_sl ([.ref (ad 0), .int p0, .int p1])).length) Slot.unset).toArray = ls at hl ⊢
  have hl : lv_has ls 3 [(0, .ref (ad 0)), (1, .int p0), (2, .int p1)] := hl
  obtain ⟨RR, hRR⟩ : ∃ x, x = (sp_EM_avoids x16 x46 f3 q4 q5 q6 q7 f8 q9 q10 f11 m12_0 m12_1 m13_0 m13_1 m14_0 m14_1 m15_0 m15_1 f34 f35 q38 f39 f40 f41 m42_1 f43 f44 f47 f48 p0 p1) := ⟨_, rfl⟩
  have hsp := hRR
  refine lv_aload_n hx hb dX9_avoids_0 rfl (lv_at hl 0 rfl) ?_
  refine lv_iconst (v := 0) hx hb dX9_avoids_1 (by decide) ?_
  refine va_put (D := (dC, dI)) (ci := 9) (v := .int 0) (ty := .int) (C := RX9) (T := TX9) (N := 67) hx hb hts hiX9 tyX9 tyX9_ok nmX9 hown hK hP hD hS 0 rfl rfl 0 (by decide) v_1 (fun _ h9 => h9) rfl (by decide +kernel) rfl rfl (Nat.le_of_ble_eq_true rfl) dX9_avoids_2 (fun H locs hP hD hS => ?_)
  have hP : va_P (dC, dI) vwCl (mo_w ad ck 0 (nI x16) (nI x18) (nI x19) x20 (nI x21) (nI x22) x23 x24 x25 (nI x26) x27 (nI x28) (nI x29) (nI x30) (nI x33) x45 (nI x46) (nI x52) (nI x53) (nI x61) (nI x62) (nI x63) (nI x65) x66 f1 f2 f3 (bN 3 q4) (bN 7 q5) (bN 7 q6) (bN 4 q7) f8 (bN 2 q9) (bH q10) f11 (b2 m12_0 m12_1) (b2 m13_0 m13_1) (b2 m14_0 m14_1) (b2m m15_0 m15_1) f17 (bA 159 q31) f32 f34 f35 f36 f37 (bN 7 q38) f39 f40 f41 (b2 m42_0 m42_1) f43 f44 f47 f48 f49 f50 f51 (bN 13 q54) (bN 120 q55) (bN 120 q56) f57 (bN 120 q58) f59 f60 f64) H := hP
  have hD : va_D A (mo_w ad ck 0 (nI x16) (nI x18) (nI x19) x20 (nI x21) (nI x22) x23 x24 x25 (nI x26) x27 (nI x28) (nI x29) (nI x30) (nI x33) x45 (nI x46) (nI x52) (nI x53) (nI x61) (nI x62) (nI x63) (nI x65) x66 f1 f2 f3 (bN 3 q4) (bN 7 q5) (bN 7 q6) (bN 4 q7) f8 (bN 2 q9) (bH q10) f11 (b2 m12_0 m12_1) (b2 m13_0 m13_1) (b2 m14_0 m14_1) (b2m m15_0 m15_1) f17 (bA 159 q31) f32 f34 f35 f36 f37 (bN 7 q38) f39 f40 f41 (b2 m42_0 m42_1) f43 f44 f47 f48 f49 f50 f51 (bN 13 q54) (bN 120 q55) (bN 120 q56) f57 (bN 120 q58) f59 f60 f64) := hD
  refine lv_aload_n hx hb dX9_avoids_5 rfl (lv_at hl 0 rfl) ?_
  refine lv_iload_n hx hb dX9_avoids_6 rfl (lv_at hl 1 rfl) ?_
  refine va_calli (va_runV (As := [.int p0]) (rest := []) ⟨hx, hb, hml, hown, hts⟩ (c_EM_isPlace l dC dI _ ad ck 0 x16 x18 x19 x20 x21 x22 x23 x24 x25 x26 x27 x28 x29 x30 x33 x45 x46 x52 x53 x61 x62 x63 x65 x66 f1 f2 f3 q4 q5 q6 q7 f8 q9 q10 f11 m12_0 m12_1 m13_0 m13_1 m14_0 m14_1 m15_0 m15_1 f17 q31 f32 f34 f35 f36 f37 q38 f39 f40 f41 m42_0 m42_1 f43 f44 f47 f48 f49 f50 f51 q54 q55 q56 f57 q58 f59 f60 f64 p0 hx16 hx18 hx19 hx21 hx22 hx26 hx28 hx29 hx30 hx33 hx46 hx52 hx53 hx61 hx62 hx63 hx65 hm12_0 hm12_1 hm13_0 hm13_1 hm14_0 hm14_1 hm15_0 hm15_1 hm42_0 hm42_1) (cwV 1 hts g_EM_avoids_EM_isPlace rfl rfl rfl (by decide +kernel) ⟨Nat.le_of_ble_eq_true rfl, Nat.le_of_ble_eq_true rfl⟩) ⟨pu_bl, va_recv hK hP (ci := 9) (q0 := 0) rfl rfl, pu_in hP hK hD⟩ rfl rfl hl.1 rfl (lv_room (Nat.le_of_ble_eq_true rfl)) dX9_avoids_7 ⟨Nat.le_of_ble_eq_true rfl, Nat.le_of_ble_eq_true rfl⟩) hS (fun q _ h => pu_fr hS hA q h) (pu_fr hS hA) (fun r_1 u t H1 locs ht hvm hw hB hz1 hk1 hS => ?_)
  have hP := pu_keep hP hk1
  clear hk1 hz1 ht hvm
  generalize H1 = H at hP hS ⊢
  rcases hw with ⟨rfl, hw⟩ | ⟨rfl, hn⟩
  · obtain ⟨n_2, hn_2, en_2⟩ := hw
    replace hsp := hsp.trans (if_pos (in_c hn_2 ⟨by omega, by omega⟩ en_2))
    subst en_2
    replace hsp := hsp.trans (slet_eq (nI_cl (n := n_2) (by omega)))
    refine lv_if_eq (tgt := 21) hx hb dX9_avoids_10 (by decide) (fun z => absurd z (by decide)) (fun _ => ?_)
    refine lv_aload_n hx hb dX9_avoids_13 rfl (lv_at hl 0 rfl) ?_
    refine lv_iload_n hx hb dX9_avoids_14 rfl (lv_at hl 2 rfl) ?_
    refine va_calli (va_runV (As := [.int p1]) (rest := []) ⟨hx, hb, hml, hown, hts⟩ (c_EM_isPlace l dC dI _ ad ck 0 x16 x18 x19 x20 x21 x22 x23 x24 x25 x26 x27 x28 x29 x30 x33 x45 x46 x52 x53 x61 x62 x63 x65 x66 f1 f2 f3 q4 q5 q6 q7 f8 q9 q10 f11 m12_0 m12_1 m13_0 m13_1 m14_0 m14_1 m15_0 m15_1 f17 q31 f32 f34 f35 f36 f37 q38 f39 f40 f41 m42_0 m42_1 f43 f44 f47 f48 f49 f50 f51 q54 q55 q56 f57 q58 f59 f60 f64 p1 hx16 hx18 hx19 hx21 hx22 hx26 hx28 hx29 hx30 hx33 hx46 hx52 hx53 hx61 hx62 hx63 hx65 hm12_0 hm12_1 hm13_0 hm13_1 hm14_0 hm14_1 hm15_0 hm15_1 hm42_0 hm42_1) (cwV 1 hts g_EM_avoids_EM_isPlace rfl rfl rfl (by decide +kernel) ⟨Nat.le_of_ble_eq_true rfl, Nat.le_of_ble_eq_true rfl⟩) ⟨pu_bl, va_recv hK hP (ci := 9) (q0 := 0) rfl rfl, pu_in hP hK hD⟩ rfl rfl hl.1 rfl (lv_room (Nat.le_of_ble_eq_true rfl)) dX9_avoids_15 ⟨Nat.le_of_ble_eq_true rfl, Nat.le_of_ble_eq_true rfl⟩) hS (fun q _ h => pu_fr hS hA q h) (pu_fr hS hA) (fun r_3 u t H1 locs ht hvm hw hB hz1 hk1 hS => ?_)
    have hP := pu_keep hP hk1
    clear hk1 hz1 ht hvm
    generalize H1 = H at hP hS ⊢
    rcases hw with ⟨rfl, hw⟩ | ⟨rfl, hn⟩
    · obtain ⟨n_4, hn_4, en_4⟩ := hw
      replace hsp := hsp.trans (if_pos (in_c hn_4 ⟨by omega, by omega⟩ en_4))
      subst en_4
      replace hsp := hsp.trans (slet_eq (nI_cl (n := n_4) (by omega)))
      refine lv_if_ne (tgt := 23) hx hb dX9_avoids_18 (by decide) (fun _ => ?_) (fun z => absurd z (by decide))
      refine lv_iload_n hx hb dX9_avoids_23 rfl (lv_at hl 1 rfl) ?_
      refine lv_iload_n hx hb dX9_avoids_24 rfl (lv_at hl 2 rfl) ?_
      refine lv_icmp_eq (tgt := 41) hx hb dX9_avoids_25 (by decide) (fun c_5 => ?_) (fun c_5 => ?_)
      · have c_5 : n_2 = n_4 := (nI_eq (a := n_2) (b := n_4) (by omega) (by omega)).mp c_5
        replace hsp := hsp.trans (if_pos c_5)
        refine lv_iconst (v := 0) hx hb dX9_avoids_41 (by decide) ?_
        exact W.iret (v := 0) hx hb hr (fun t ht hW => ⟨⟨0, (), rfl, (congrArg Prod.fst (hsp.symm.trans hRR)), ⟨f34, f35, q38, f39, f40, f41, f43, f44, f47, f48, m42_1, 0, x46, ⟨by rw [ht]; exact hP, va_K.moved hW.alike hK, hD⟩, hm42_1, hx46, by first | assumption | exact gz_0, (congrArg Prod.snd (hsp.symm.trans hRR))⟩⟩, hS.F ht⟩) hS.2.2 dX9_avoids_42
      · have c_5 : ¬ n_2 = n_4 := fun z => c_5 ((nI_eq (a := n_2) (b := n_4) (by omega) (by omega)).mpr z)
        replace hsp := hsp.trans (if_neg c_5)
        refine lv_iload_n hx hb dX9_avoids_28 rfl (lv_at hl 1 rfl) ?_
        refine lv_aload_n hx hb dX9_avoids_29 rfl (lv_at hl 0 rfl) ?_
        refine va_get (D := (dC, dI)) (ci := 9) (v := .ref (ad 15)) (C := RX9) (T := TX9) (N := 67) hx hb hts hiX9 hown hK hP 0 rfl rfl 15 (by decide) v_7 (fun _ h9 => h9) rfl dX9_avoids_30 ?_
        refine lv_aload_n hx hb dX9_avoids_33 rfl (lv_at hl 0 rfl) ?_
        refine va_get (D := (dC, dI)) (ci := 9) (v := .int (nI x16)) (C := RX9) (T := TX9) (N := 67) hx hb hts hiX9 hown hK hP 0 rfl rfl 16 (by decide) v_8 (fun _ h9 => h9) rfl dX9_avoids_34 ?_
        refine va_iald hx hb hK hP 15 14 rfl rfl (vp_in_nI (n := x16) (Nat.lt_of_le_of_lt hx16 (Nat.le_of_ble_eq_true rfl)) (Nat.le_of_ble_eq_true rfl)) dX9_avoids_37 ?_
        refine lv_topi (fun y_6 ey_6 => ?_)
        obtain ⟨u_7, hu_7, fu_7, xu_7⟩ := b2m_getx (a := m15_0) (b := m15_1) (i := x16) (by omega)
        have qy_6 := ey_6.trans fu_7
        replace hsp := hsp.trans (slet_eq xu_7)
        rcases mI_get u_7 with ⟨zy_6, wy_6⟩ | ⟨vy_6, zy_6, wy_6⟩
        · exfalso
          have hbq : bkN x16 m13_0 m13_1 = (if x16 = 0 then m13_0 else m13_1) := rfl
          have hbk := hbg_bk hbg
          omega
        · obtain rfl : y_6 = nI vy_6 := qy_6.trans wy_6
          replace hsp := hsp.trans (slet_eq (by omega : vy_6 = u_7 - 1))
          refine lv_icmp_ne (tgt := 43) hx hb dX9_avoids_38 (by decide) (fun c_8 => ?_) (fun c_8 => ?_)
          · have c_8 : ¬ n_2 = vy_6 := fun z => c_8 ((nI_eq (a := n_2) (b := vy_6) (by omega) (by omega)).mpr z)
            replace hsp := hsp.trans (if_neg c_8)
            refine lv_aload_n hx hb dX9_avoids_43 rfl (lv_at hl 0 rfl) ?_
            refine lv_aload_n hx hb dX9_avoids_44 rfl (lv_at hl 0 rfl) ?_
            refine va_calli (va_runV (As := []) (rest := [.ref (ad 0)]) ⟨hx, hb, hml, hown, hts⟩ (c_EM_clocks l dC dI _ ad ck 0 x16 x18 x19 x20 x21 x22 x23 x24 x25 x26 x27 x28 x29 x30 x33 x45 x46 x52 x53 x61 x62 x63 x65 x66 f1 f2 f3 q4 q5 q6 q7 f8 q9 q10 f11 m12_0 m12_1 m13_0 m13_1 m14_0 m14_1 m15_0 m15_1 f17 q31 f32 f34 f35 f36 f37 q38 f39 f40 f41 m42_0 m42_1 f43 f44 f47 f48 f49 f50 f51 q54 q55 q56 f57 q58 f59 f60 f64 hx16 hx18 hx19 hx21 hx22 hx26 hx28 hx29 hx30 hx33 hx46 hx52 hx53 hx61 hx62 hx63 hx65 hm12_0 hm12_1 hm13_0 hm13_1 hm14_0 hm14_1 hm15_0 hm15_1 hm42_0 hm42_1) (cwV 0 hts g_EM_avoids_EM_clocks rfl rfl rfl (by decide +kernel) ⟨Nat.le_of_ble_eq_true rfl, Nat.le_of_ble_eq_true rfl⟩) ⟨pu_bl, va_recv hK hP (ci := 9) (q0 := 0) rfl rfl, pu_in hP hK hD⟩ rfl rfl hl.1 rfl (lv_room (Nat.le_of_ble_eq_true rfl)) dX9_avoids_45 ⟨Nat.le_of_ble_eq_true rfl, Nat.le_of_ble_eq_true rfl⟩) hS (fun q _ h => pu_fr hS hA q h) (pu_fr hS hA) (fun r_9 u t H1 locs ht hvm hw hB hz1 hk1 hS => ?_)
            have hP := pu_keep hP hk1
            clear hk1 hz1 ht hvm
            generalize H1 = H at hP hS ⊢
            obtain ⟨u_10, hu_10, rfl, iu_10⟩ := hw
            replace hsp := hsp.trans (slet_eq iu_10)
            refine lv_iconst (v := 1) hx hb dX9_avoids_48 (by decide) ?_
            refine lv_iadd hx hb dX9_avoids_49 ?_
            refine lv_topi (fun y_11 ey_11 => ?_)
            obtain rfl : y_11 = (nI (u_10 + 1)) := ey_11.trans (nI_add u_10 1)
            refine va_put (D := (dC, dI)) (ci := 9) (v := .int (nI (u_10 + 1))) (ty := .int) (C := RX9) (T := TX9) (N := 67) hx hb hts hiX9 tyX9 tyX9_ok nmX9 hown hK hP hD hS 0 rfl rfl 46 (by decide) v_13 (fun _ h9 => h9) rfl (by decide +kernel) rfl rfl (Nat.le_of_ble_eq_true rfl) dX9_avoids_50 (fun H locs hP hD hS => ?_)
            have hP : va_P (dC, dI) vwCl (mo_w ad ck 0 (nI x16) (nI x18) (nI x19) x20 (nI x21) (nI x22) x23 x24 x25 (nI x26) x27 (nI x28) (nI x29) (nI x30) (nI x33) x45 (nI (u_10 + 1)) (nI x52) (nI x53) (nI x61) (nI x62) (nI x63) (nI x65) x66 f1 f2 f3 (bN 3 q4) (bN 7 q5) (bN 7 q6) (bN 4 q7) f8 (bN 2 q9) (bH q10) f11 (b2 m12_0 m12_1) (b2 m13_0 m13_1) (b2 m14_0 m14_1) (b2m m15_0 m15_1) f17 (bA 159 q31) f32 f34 f35 f36 f37 (bN 7 q38) f39 f40 f41 (b2 m42_0 m42_1) f43 f44 f47 f48 f49 f50 f51 (bN 13 q54) (bN 120 q55) (bN 120 q56) f57 (bN 120 q58) f59 f60 f64) H := hP
            have hD : va_D A (mo_w ad ck 0 (nI x16) (nI x18) (nI x19) x20 (nI x21) (nI x22) x23 x24 x25 (nI x26) x27 (nI x28) (nI x29) (nI x30) (nI x33) x45 (nI (u_10 + 1)) (nI x52) (nI x53) (nI x61) (nI x62) (nI x63) (nI x65) x66 f1 f2 f3 (bN 3 q4) (bN 7 q5) (bN 7 q6) (bN 4 q7) f8 (bN 2 q9) (bH q10) f11 (b2 m12_0 m12_1) (b2 m13_0 m13_1) (b2 m14_0 m14_1) (b2m m15_0 m15_1) f17 (bA 159 q31) f32 f34 f35 f36 f37 (bN 7 q38) f39 f40 f41 (b2 m42_0 m42_1) f43 f44 f47 f48 f49 f50 f51 (bN 13 q54) (bN 120 q55) (bN 120 q56) f57 (bN 120 q58) f59 f60 f64) := hD
            refine lv_aload_n hx hb dX9_avoids_53 rfl (lv_at hl 0 rfl) ?_
            refine lv_iconst (v := 0) hx hb dX9_avoids_54 (by decide) ?_
            refine lv_iconst (v := 0) hx hb dX9_avoids_55 (by decide) ?_
            refine lv_iconst (v := 0) hx hb dX9_avoids_56 (by decide) ?_
            have hFc := pu_free hD hS hA
            refine va_callv (va_runV (As := [.int 0, .int 0, .int 0]) (rest := []) ⟨hx, hb, hml, hown, hts⟩ (c_EM_layPoint l dC dI _ ad ck 0 x16 x18 x19 x20 x21 x22 x23 x24 x25 x26 x27 x28 x29 x30 x33 x45 (u_10 + 1) x52 x53 x61 x62 x63 x65 x66 f1 f2 f3 q4 q5 q6 q7 f8 q9 q10 f11 m12_0 m12_1 m13_0 m13_1 m14_0 m14_1 m15_0 m15_1 f17 q31 f32 f34 f35 f36 f37 q38 f39 f40 f41 m42_0 m42_1 f43 f44 f47 f48 f49 f50 f51 q54 q55 q56 f57 q58 f59 f60 f64 0 0 0 hx16 hx18 hx19 hx21 hx22 hx26 hx28 hx29 hx30 hx33 (by omega) hx52 hx53 hx61 hx62 hx63 hx65 hm12_0 hm12_1 hm13_0 hm13_1 hm14_0 hm14_1 hm15_0 hm15_1 hm42_0 hm42_1) (cwV 3 hts g_EM_avoids_EM_layPoint rfl rfl rfl (by decide +kernel) ⟨Nat.le_of_ble_eq_true rfl, Nat.le_of_ble_eq_true rfl⟩) ⟨pu_bl, va_recv hK hP (ci := 9) (q0 := 0) rfl rfl, pu_in hP hK hD⟩ rfl rfl hl.1 rfl (lv_room (Nat.le_of_ble_eq_true rfl)) dX9_avoids_57 ⟨Nat.le_of_ble_eq_true rfl, Nat.le_of_ble_eq_true rfl⟩) hS (fun q _ h => hFc q h) hFc (fun u t H1 locs ht hvm hw hB hz1 hk1 hS => ?_)
            obtain ⟨z35_13, ⟨hP1, -, hD1⟩, xr_12_0⟩ := hB
            rw [ht] at hP1
            have hP := hP1
            have hD := pu_all hFc hD1
            clear hP1 hD1 hFc
            clear hk1 hz1 ht hvm
            generalize H1 = H at hP hS ⊢
            replace hsp := hsp.trans (slet_eq xr_12_0)
            refine lv_aload_n hx hb dX9_avoids_60 rfl (lv_at hl 0 rfl) ?_
            refine lv_iconst (v := 1) hx hb dX9_avoids_61 (by decide) ?_
            refine lv_aload_n hx hb dX9_avoids_62 rfl (lv_at hl 0 rfl) ?_
            refine va_get (D := (dC, dI)) (ci := 9) (v := .ref (ad 15)) (C := RX9) (T := TX9) (N := 67) hx hb hts hiX9 hown hK hP 0 rfl rfl 15 (by decide) v_7 (fun _ h9 => h9) rfl dX9_avoids_63 ?_
            refine lv_aload_n hx hb dX9_avoids_66 rfl (lv_at hl 0 rfl) ?_
            refine va_get (D := (dC, dI)) (ci := 9) (v := .int (nI x16)) (C := RX9) (T := TX9) (N := 67) hx hb hts hiX9 hown hK hP 0 rfl rfl 16 (by decide) v_8 (fun _ h9 => h9) rfl dX9_avoids_67 ?_
            refine va_iald hx hb hK hP 15 14 rfl rfl (vp_in_nI (n := x16) (Nat.lt_of_le_of_lt hx16 (Nat.le_of_ble_eq_true rfl)) (Nat.le_of_ble_eq_true rfl)) dX9_avoids_70 ?_
            refine lv_topi (fun y_14 ey_14 => ?_)
            have qy_14 := ey_14.trans fu_7
            rcases mI_get u_7 with ⟨zy_14, wy_14⟩ | ⟨vy_14, zy_14, wy_14⟩
            · exfalso
              have hbq : bkN x16 m13_0 m13_1 = (if x16 = 0 then m13_0 else m13_1) := rfl
              have hbk := hbg_bk hbg
              omega
            · obtain rfl : y_14 = nI vy_14 := qy_14.trans wy_14
              replace hsp := hsp.trans (slet_eq (by omega : vy_14 = u_7 - 1))
              refine lv_iconst (v := 2) hx hb dX9_avoids_71 (by decide) ?_
              refine lv_iconst (v := 1) hx hb dX9_avoids_72 (by decide) ?_
              refine lv_bipush (v := 120) hx hb dX9_avoids_73 (by decide) ?_
              refine lv_iload_n hx hb dX9_avoids_75 rfl (lv_at hl 1 rfl) ?_
              have hFc := pu_free hD hS hA
              refine va_callv (va_runV (As := [.int 1, .int (nI vy_14), .int 2, .int 1, .int 120, .int (nI n_2)]) (rest := []) ⟨hx, hb, hml, hown, hts⟩ (c_EM_explores_1_120 l dC dI _ ad ck 0 x16 x18 x19 x20 x21 x22 x23 x24 x25 x26 x27 x28 x29 x30 x33 x45 (u_10 + 1) x52 x53 x61 x62 x63 x65 x66 f1 f2 f3 q4 q5 q6 q7 f8 q9 q10 f11 m12_0 m12_1 m13_0 m13_1 m14_0 m14_1 m15_0 m15_1 f17 q31 f32 f34 z35_13 f36 f37 q38 f39 f40 f41 m42_0 m42_1 f43 f44 f47 f48 f49 f50 f51 q54 q55 q56 f57 q58 f59 f60 f64 vy_14 2 1 (nI n_2) hx16 hx18 hx19 hx21 hx22 hx26 hx28 hx29 hx30 hx33 (by omega) hx52 hx53 hx61 hx62 hx63 hx65 hm12_0 hm12_1 hm13_0 hm13_1 hm14_0 hm14_1 hm15_0 hm15_1 hm42_0 hm42_1 (by omega) (Nat.le_of_ble_eq_true rfl) (by first | assumption | exact gz_0)) (cwV 6 hts g_EM_avoids_EM_explores_1_120 rfl rfl rfl (by decide +kernel) ⟨Nat.le_of_ble_eq_true rfl, Nat.le_of_ble_eq_true rfl⟩) ⟨pu_bl, va_recv hK hP (ci := 9) (q0 := 0) rfl rfl, pu_in hP hK hD⟩ rfl rfl hl.1 rfl (lv_room (Nat.le_of_ble_eq_true rfl)) dX9_avoids_76 ⟨Nat.le_of_ble_eq_true rfl, Nat.le_of_ble_eq_true rfl⟩) hS (fun q _ h => hFc q h) hFc (fun u t H1 locs ht hvm hw hB hz1 hk1 hS => ?_)
              obtain ⟨z34_16, z35_17, z38_18, z39_19, z40_20, z41_21, z43_22, z44_23, z47_24, z48_25, z42_1_26, ⟨hP1, -, hD1⟩, hz42_1_26, xr_15_0, xr_15_1⟩ := hB
              rw [ht] at hP1
              have hP := hP1
              have hD := pu_all hFc hD1
              clear hP1 hD1 hFc
              clear hk1 hz1 ht hvm
              generalize H1 = H at hP hS ⊢
              replace hsp := hsp.trans (slet_eq xr_15_1)
              refine lv_aload_n hx hb dX9_avoids_79 rfl (lv_at hl 0 rfl) ?_
              refine lv_iconst (v := 1) hx hb dX9_avoids_80 (by decide) ?_
              refine lv_iload_n hx hb dX9_avoids_81 rfl (lv_at hl 2 rfl) ?_
              refine va_calli (va_runV (As := [.int 1, .int (nI n_4)]) (rest := []) ⟨hx, hb, hml, hown, hts⟩ (c_EM_hasPlace_1 l dC dI _ ad ck 0 x16 x18 x19 x20 x21 x22 x23 x24 x25 x26 x27 x28 x29 x30 x33 x45 (u_10 + 1) x52 x53 x61 x62 x63 x65 x66 f1 f2 f3 q4 q5 q6 q7 f8 q9 q10 f11 m12_0 m12_1 m13_0 m13_1 m14_0 m14_1 m15_0 m15_1 f17 q31 f32 z34_16 z35_17 f36 f37 z38_18 z39_19 z40_20 z41_21 m42_0 z42_1_26 z43_22 z44_23 z47_24 z48_25 f49 f50 f51 q54 q55 q56 f57 q58 f59 f60 f64 (nI n_4) hx16 hx18 hx19 hx21 hx22 hx26 hx28 hx29 hx30 hx33 (by omega) hx52 hx53 hx61 hx62 hx63 hx65 hm12_0 hm12_1 hm13_0 hm13_1 hm14_0 hm14_1 hm15_0 hm15_1 hm42_0 (Nat.le_trans hz42_1_26 (Nat.le_of_ble_eq_true rfl))) (cwV 2 hts g_EM_avoids_EM_hasPlace_1 rfl rfl rfl (by decide +kernel) ⟨Nat.le_of_ble_eq_true rfl, Nat.le_of_ble_eq_true rfl⟩) ⟨pu_bl, va_recv hK hP (ci := 9) (q0 := 0) rfl rfl, pu_in hP hK hD⟩ rfl rfl hl.1 rfl (lv_room (Nat.le_of_ble_eq_true rfl)) dX9_avoids_82 ⟨Nat.le_of_ble_eq_true rfl, Nat.le_of_ble_eq_true rfl⟩) hS (fun q _ h => pu_fr hS hA q h) (pu_fr hS hA) (fun r_27 u t H1 locs ht hvm hw hB hz1 hk1 hS => ?_)
              have hP := pu_keep hP hk1
              clear hk1 hz1 ht hvm
              generalize H1 = H at hP hS ⊢
              obtain ⟨u_28, hu_28, rfl, iu_28⟩ := hw
              replace hsp := hsp.trans (slet_eq iu_28)
              refine lv_if_eq (tgt := 92) hx hb dX9_avoids_85 (by decide) (fun c_29 => ?_) (fun c_29 => ?_)
              · have c_29 : u_28 = 0 := (nI_eq (a := u_28) (b := 0) (Nat.lt_of_le_of_lt hu_28 (Nat.le_of_ble_eq_true rfl)) (Nat.le_of_ble_eq_true rfl)).mp c_29
                replace hsp := hsp.trans (if_pos c_29)
                refine lv_iconst (v := 0) hx hb dX9_avoids_92 (by decide) ?_
                exact W.iret (v := 0) hx hb hr (fun t ht hW => ⟨⟨0, (), rfl, (congrArg Prod.fst (hsp.symm.trans hRR)), ⟨z34_16, z35_17, z38_18, z39_19, z40_20, z41_21, z43_22, z44_23, z47_24, z48_25, z42_1_26, 0, (u_10 + 1), ⟨by rw [ht]; exact hP, va_K.moved hW.alike hK, hD⟩, (Nat.le_trans hz42_1_26 (Nat.le_of_ble_eq_true rfl)), (by omega), by first | assumption | exact gz_0, (congrArg Prod.snd (hsp.symm.trans hRR))⟩⟩, hS.F ht⟩) hS.2.2 dX9_avoids_93
              · have c_29 : ¬ u_28 = 0 := fun z => c_29 ((nI_eq (a := u_28) (b := 0) (Nat.lt_of_le_of_lt hu_28 (Nat.le_of_ble_eq_true rfl)) (Nat.le_of_ble_eq_true rfl)).mpr z)
                replace hsp := hsp.trans (if_neg c_29)
                refine lv_iconst (v := 1) hx hb dX9_avoids_88 (by decide) ?_
                refine lv_goto (tgt := 93) hx hb dX9_avoids_89 (by decide) ?_
                exact W.iret (v := 1) hx hb hr (fun t ht hW => ⟨⟨1, (), rfl, (congrArg Prod.fst (hsp.symm.trans hRR)), ⟨z34_16, z35_17, z38_18, z39_19, z40_20, z41_21, z43_22, z44_23, z47_24, z48_25, z42_1_26, 0, (u_10 + 1), ⟨by rw [ht]; exact hP, va_K.moved hW.alike hK, hD⟩, (Nat.le_trans hz42_1_26 (Nat.le_of_ble_eq_true rfl)), (by omega), by first | assumption | exact gz_0, (congrArg Prod.snd (hsp.symm.trans hRR))⟩⟩, hS.F ht⟩) hS.2.2 dX9_avoids_93
          · have c_8 : n_2 = vy_6 := (nI_eq (a := n_2) (b := vy_6) (by omega) (by omega)).mp c_8
            replace hsp := hsp.trans (if_pos c_8)
            refine lv_iconst (v := 0) hx hb dX9_avoids_41 (by decide) ?_
            exact W.iret (v := 0) hx hb hr (fun t ht hW => ⟨⟨0, (), rfl, (congrArg Prod.fst (hsp.symm.trans hRR)), ⟨f34, f35, q38, f39, f40, f41, f43, f44, f47, f48, m42_1, 0, x46, ⟨by rw [ht]; exact hP, va_K.moved hW.alike hK, hD⟩, hm42_1, hx46, by first | assumption | exact gz_0, (congrArg Prod.snd (hsp.symm.trans hRR))⟩⟩, hS.F ht⟩) hS.2.2 dX9_avoids_42
    · replace hsp := hsp.trans (if_neg hn)
      refine lv_if_ne (tgt := 23) hx hb dX9_avoids_18 (by decide) (fun z => absurd z (by decide)) (fun _ => ?_)
      refine lv_iconst (v := (-1)) hx hb dX9_avoids_21 (by decide) ?_
      exact W.iret (v := (-1)) hx hb hr (fun t ht hW => ⟨⟨(-1), (), rfl, (congrArg Prod.fst (hsp.symm.trans hRR)), ⟨f34, f35, q38, f39, f40, f41, f43, f44, f47, f48, m42_1, 0, x46, ⟨by rw [ht]; exact hP, va_K.moved hW.alike hK, hD⟩, hm42_1, hx46, by first | assumption | exact gz_0, (congrArg Prod.snd (hsp.symm.trans hRR))⟩⟩, hS.F ht⟩) hS.2.2 dX9_avoids_22
  · replace hsp := hsp.trans (if_neg hn)
    refine lv_if_eq (tgt := 21) hx hb dX9_avoids_10 (by decide) (fun _ => ?_) (fun z => absurd z (by decide))
    refine lv_iconst (v := (-1)) hx hb dX9_avoids_21 (by decide) ?_
    exact W.iret (v := (-1)) hx hb hr (fun t ht hW => ⟨⟨(-1), (), rfl, (congrArg Prod.fst (hsp.symm.trans hRR)), ⟨f34, f35, q38, f39, f40, f41, f43, f44, f47, f48, m42_1, 0, x46, ⟨by rw [ht]; exact hP, va_K.moved hW.alike hK, hD⟩, hm42_1, hx46, by first | assumption | exact gz_0, (congrArg Prod.snd (hsp.symm.trans hRR))⟩⟩, hS.F ht⟩) hS.2.2 dX9_avoids_22
