theorem kk_i {D : va_G} {tys : List (ClassId × FieldType)} {U : State} {c c' : ClassId} (hK : va_K D vwCl tys U) (h1 : (c, FieldType.int) ∈ tys) (h2 : (c', FieldType.int) ∈ tys) : c = c' := by
  obtain ⟨i, hi⟩ := List.getElem?_of_mem h1
  obtain ⟨j, hj⟩ := List.getElem?_of_mem h2
  have g1 : U.vm.findClass ("[" ++ FieldType.int.toString) = some c := (hK.2 i _ hi).2
  have g2 : U.vm.findClass ("[" ++ FieldType.int.toString) = some c' := (hK.2 j _ hj).2
  exact Option.some.inj (g1.symm.trans g2)
theorem kk_b {D : va_G} {tys : List (ClassId × FieldType)} {U : State} {c c' : ClassId} (hK : va_K D vwCl tys U) (h1 : (c, FieldType.boolean) ∈ tys) (h2 : (c', FieldType.boolean) ∈ tys) : c = c' := by
  obtain ⟨i, hi⟩ := List.getElem?_of_mem h1
  obtain ⟨j, hj⟩ := List.getElem?_of_mem h2
  have g1 : U.vm.findClass ("[" ++ FieldType.boolean.toString) = some c := (hK.2 i _ hi).2
  have g2 : U.vm.findClass ("[" ++ FieldType.boolean.toString) = some c' := (hK.2 j _ hj).2
  exact Option.some.inj (g1.symm.trans g2)
theorem kk_q {D : va_G} {tys : List (ClassId × FieldType)} {U : State} {C : String} {c c' : ClassId} (hK : va_K D vwCl tys U) (h1 : (c, FieldType.object C) ∈ tys) (h2 : (c', FieldType.object C) ∈ tys) : c = c' := by
  obtain ⟨i, hi⟩ := List.getElem?_of_mem h1
  obtain ⟨j, hj⟩ := List.getElem?_of_mem h2
  obtain ⟨-, -, -, -, -, g1⟩ := (hK.2 i _ hi).2
  obtain ⟨-, -, -, -, -, g2⟩ := (hK.2 j _ hj).2
  exact Option.some.inj (g1.symm.trans g2)
theorem zp_kc {n c N : Nat} {az ac : Nat → Nat} {kz : Nat → ClassId} {kI : ClassId} {q : Nat → Nat} {f : Nat → Nat → Int32} (h : ∀ j : Nat, j < N → kI = kz j) : zp n c N az ac kz q f = zp n c N az ac (fun _ => kI) q f := by
  unfold zp
  congr 1
  refine List.map_congr_left (fun j hj => ?_)
  unfold zpa
  rw [h j (List.mem_range.mp hj)]
theorem zt_in {N j : Nat} {kz : Nat → ClassId} (h : j < N) : (kz j, FieldType.int) ∈ zt N kz := List.mem_map.mpr ⟨j, List.mem_range.mpr h, rfl⟩
theorem m14 {x tp rd md dr hy g t u rm S ti py bu sm P0 P1 P2 P3 P4 : va_W} : ∀ q ∈ (x ++ (tp ++ (rd ++ (md ++ (dr ++ (hy ++ (g ++ (t ++ (u ++ (rm ++ (ti ++ (py ++ (bu ++ sm))))))))))))) ++ ((P1 ++ (P0 ++ (P3 ++ (P4 ++ S)))) ++ P2), q ∈ x ++ (sm ++ (bu ++ (py ++ (ti ++ (((rm ++ S) ++ (P4 ++ (P3 ++ []))) ++ ((u ++ (P2 ++ [])) ++ ((t ++ (P1 ++ [])) ++ ((g ++ (P0 ++ [])) ++ (hy ++ (dr ++ (md ++ (rd ++ (tp ++ []))))))))))))) := fun q hq => by
  simp only [List.mem_append] at hq ⊢
  rcases hq with (hq | hq | hq | hq | hq | hq | hq | hq | hq | hq | hq | hq | hq | hq) | ((hq | hq | hq | hq | hq) | hq) <;> simp only [hq, true_or, or_true]
theorem vP14 {D : va_G} {H : Heap} {x tp rd md dr hy g t u rm S ti py bu sm P0 P1 P2 P3 P4 : va_W} (h : va_P D vwCl (x ++ (sm ++ (bu ++ (py ++ (ti ++ (((rm ++ S) ++ (P4 ++ (P3 ++ []))) ++ ((u ++ (P2 ++ [])) ++ ((t ++ (P1 ++ [])) ++ ((g ++ (P0 ++ [])) ++ (hy ++ (dr ++ (md ++ (rd ++ (tp ++ [])))))))))))))) H) : va_P D vwCl ((x ++ (tp ++ (rd ++ (md ++ (dr ++ (hy ++ (g ++ (t ++ (u ++ (rm ++ (ti ++ (py ++ (bu ++ sm))))))))))))) ++ ((P1 ++ (P0 ++ (P3 ++ (P4 ++ S)))) ++ P2)) H := wm_P m14 h
theorem vD14 {A : Nat → Prop} {x tp rd md dr hy g t u rm S ti py bu sm P0 P1 P2 P3 P4 : va_W} (h : va_D A (x ++ (sm ++ (bu ++ (py ++ (ti ++ (((rm ++ S) ++ (P4 ++ (P3 ++ []))) ++ ((u ++ (P2 ++ [])) ++ ((t ++ (P1 ++ [])) ++ ((g ++ (P0 ++ [])) ++ (hy ++ (dr ++ (md ++ (rd ++ (tp ++ []))))))))))))))) : va_D A ((x ++ (tp ++ (rd ++ (md ++ (dr ++ (hy ++ (g ++ (t ++ (u ++ (rm ++ (ti ++ (py ++ (bu ++ sm))))))))))))) ++ ((P1 ++ (P0 ++ (P3 ++ (P4 ++ S)))) ++ P2)) := vD_of ((List.perm_iff_count.mpr (fun a => by
  simp only [List.map_append, List.count_append, List.map_nil, List.count_nil]
  omega)).nodup (vD_nd h)) (fun q hq => by
  obtain ⟨k, hk⟩ := List.getElem?_of_mem (m14 q hq)
  exact h.2 k q hk)
theorem zp_one {n c q q1 : Nat} {k1 : ClassId} : ([(q, .inr (7, [.ref q1, .int 0])), (q1, .inl (k1, c, .inl (fun _ => 0)))] : va_W) = zp n c 1 (fun _ => q) (fun _ => q1) (fun _ => k1) q0z f0z := by
  have h := zp_succ (n := n) (c := c) (i := 0) (q := q) (q1 := q1) (k1 := k1) (az := fun _ => q) (ac := fun _ => q1) (kz := fun _ => k1)
  have e1 : pz 0 q (fun _ => q) = fun _ => q := by funext j; unfold pz; split <;> rfl
  have e2 : pz 0 q1 (fun _ => q1) = fun _ => q1 := by funext j; unfold pz; split <;> rfl
  have e3 : pz 0 k1 (fun _ => k1) = fun _ => k1 := by funext j; unfold pz; split <;> rfl
  rw [e1, e2, e3] at h
  exact h.symm
theorem ct2_k {kI : ClassId} {a : Nat} : ct2 a (fun _ => kI) (fun _ => kI) = fun _ => kI := by
  funext j
  unfold ct2
  split <;> rfl
theorem vD_self {A : Nat → Prop} {ws : va_W} (h : va_D A ws) : va_D (fun q => q ∈ ws.map Prod.fst) ws := ⟨h.1, fun _ q hq => List.mem_map.mpr ⟨q, List.mem_of_getElem? hq, rfl⟩⟩
