theorem vD_nd {A : Nat → Prop} {ws : va_W} (h : va_D A ws) : (ws.map Prod.fst).Nodup := by
  refine List.pairwise_iff_getElem.mpr (fun i j hi hj hij e => ?_)
  rw [List.length_map] at hi hj
  rw [List.getElem_map, List.getElem_map] at e
  have := h.1 i j ws[i] ws[j] (List.getElem?_eq_getElem hi) (List.getElem?_eq_getElem hj) e
  omega
theorem vD_of {A : Nat → Prop} {ws : va_W} (h : (ws.map Prod.fst).Nodup) (g : ∀ q ∈ ws, A q.1) : va_D A ws := by
  refine ⟨fun i j p q hp hq e => ?_, fun k q hq => g q (List.mem_of_getElem? hq)⟩
  refine (List.getElem?_inj (by rw [List.length_map]; exact (List.getElem?_eq_some_iff.mp hp).1) h).mp ?_
  rw [List.getElem?_map, List.getElem?_map, hp, hq]
  exact congrArg some e
theorem wp_D {A : Nat → Prop} {ws ws' : va_W} (p : ws.Perm ws') (h : va_D A ws) : va_D A ws' := vD_of ((p.map Prod.fst).nodup (vD_nd h)) (fun q hq => by
  obtain ⟨k, hk⟩ := List.getElem?_of_mem (p.mem_iff.mpr hq)
  exact h.2 k q hk)
theorem wm_P {D : va_G} {ws ws' : va_W} {H : Heap} (p : ∀ q ∈ ws', q ∈ ws) (h : va_P D vwCl ws H) : va_P D vwCl ws' H := fun k q hq => by
  obtain ⟨i, hi⟩ := List.getElem?_of_mem (p q (List.mem_of_getElem? hq))
  exact h i q hi
theorem wp_P {D : va_G} {ws ws' : va_W} {H : Heap} (p : ws.Perm ws') (h : va_P D vwCl ws H) : va_P D vwCl ws' H := wm_P (fun _ hq => p.mem_iff.mpr hq) h
theorem wm_K {D : va_G} {t t' : List (ClassId × FieldType)} {U : State} (p : ∀ q ∈ t', q ∈ t) (h : va_K D vwCl t U) : va_K D vwCl t' U := ⟨h.1, fun k q hq => by
  obtain ⟨i, hi⟩ := List.getElem?_of_mem (p q (List.mem_of_getElem? hq))
  exact h.2 i q hi⟩
theorem wk_swap {D : va_G} {a b c : List (ClassId × FieldType)} {U : State} (h : va_K D vwCl ((a ++ b) ++ c) U) : va_K D vwCl ((a ++ c) ++ b) U := wm_K (fun q hq => by
  rcases List.mem_append.mp hq with hq | hq
  · rcases List.mem_append.mp hq with hq | hq
    · exact List.mem_append_left _ (List.mem_append_left _ hq)
    · exact List.mem_append_right _ hq
  · exact List.mem_append_left _ (List.mem_append_right _ hq)) h
theorem wk_ins {D : va_G} {a b c : List (ClassId × FieldType)} {U : State} (h : va_K D vwCl (a ++ b) U) (g : va_K D vwCl c U) : va_K D vwCl ((a ++ c) ++ b) U := wk_swap (h.app g)
theorem wk_as {D : va_G} {a b c d : List (ClassId × FieldType)} {U : State} (h : va_K D vwCl ((a ++ (b ++ c)) ++ d) U) : va_K D vwCl ((a ++ b) ++ (c ++ d)) U := by
  rw [List.append_assoc, List.append_assoc] at h
  rw [List.append_assoc]; exact h
theorem wa_P {D : va_G} {a b c d : va_W} {H : Heap} (h : va_P D vwCl ((a ++ (b ++ c)) ++ d) H) : va_P D vwCl ((a ++ b) ++ (c ++ d)) H := by
  rw [List.append_assoc, List.append_assoc] at h
  rw [List.append_assoc]; exact h
theorem wa_D {A : Nat → Prop} {a b c d : va_W} (h : va_D A ((a ++ (b ++ c)) ++ d)) : va_D A ((a ++ b) ++ (c ++ d)) := by
  rw [List.append_assoc, List.append_assoc] at h
  rw [List.append_assoc]; exact h
theorem pm_swap {α : Type} {a b c : List α} : ((a ++ b) ++ c).Perm ((a ++ c) ++ b) := by
  rw [List.append_assoc, List.append_assoc]
  exact List.Perm.append_left a List.perm_append_comm
/-- the object that was just made has got its world; all else is as it was -/
theorem jn_last {A : Nat → Prop} {D : va_G} {X T wc w1 : va_W} {H H1 : Heap} (hP : va_P D vwCl ((X ++ wc) ++ T) H) (hD : va_D A ((X ++ wc) ++ T)) (hk : ∀ q : Nat, q < H.size → ¬ va_A wc H.size q → H1[q]? = H[q]?) (hF : ∀ q, va_A wc H.size q → A q) (hP1 : va_P D vwCl w1 H1) (hD1 : va_D (va_A wc H.size) w1) : va_P D vwCl ((X ++ w1) ++ T) H1 ∧ va_D A ((X ++ w1) ++ T) := by
  have hP' := wp_P pm_swap hP
  have hD' := wp_D pm_swap hD
  have apart : ∀ p ∈ X ++ T, ∀ q ∈ wc, p.1 ≠ q.1 := by
    intro p hp q hq e
    obtain ⟨i, hi⟩ := List.getElem?_of_mem hp
    obtain ⟨j, hj⟩ := List.getElem?_of_mem hq
    have hl := (List.getElem?_eq_some_iff.mp hi).1
    have := hD'.1 i ((X ++ T).length + j) p q (by rw [List.getElem?_append_left hl]; exact hi) (by rw [List.getElem?_append_right (by omega), Nat.add_sub_cancel_left]; exact hj) e
    omega
  have hR : va_P D vwCl (X ++ T) H := wm_P (fun q hq => List.mem_append_left _ hq) hP'
  have hnA : ∀ (k : Nat) (q : Nat × va_E), (X ++ T)[k]? = some q → ¬ va_A wc H.size q.1 := by
    intro k q hq ha
    rcases ha with ⟨j, e, hj⟩ | ha
    · exact apart q (List.mem_of_getElem? hq) (q.1, e) (List.mem_of_getElem? hj) rfl
    · exact absurd (hR k q hq).lt (by omega)
  have hR1 : va_P D vwCl (X ++ T) H1 := fun k q hq => (hR k q hq).kept (hk q.1 (hR k q hq).lt (hnA k q hq))
  exact ⟨wp_P pm_swap (va_P.app hR1 hP1), wp_D pm_swap ((zp_left hD').app ⟨hD1.1, fun k q hq => hF _ (hD1.2 k q hq)⟩ (fun i j p q hp hq e => hnA i p hp (by rw [e]; exact hD1.2 j q hq)))⟩
/-- a row of zones that grows -/
def pz {α : Type} (i : Nat) (q : α) (az : Nat → α) : Nat → α := fun j => if j = i then q else az j
theorem pz_self {α : Type} (i : Nat) (q : α) (az : Nat → α) : pz i q az i = q := if_pos rfl
theorem pz_ne {α : Type} {i j : Nat} (q : α) (az : Nat → α) (h : j ≠ i) : pz i q az j = az j := if_neg h
theorem zs_0 {o : Nat} {az : Nat → Nat} : zs o 0 az = fun _ => none := by
  funext k
  unfold zs
  rw [if_neg (Nat.not_lt_zero k)]
theorem zs_push {i q : Nat} {az : Nat → Nat} (hi : i < 2 ^ 31) : va_up (zs 0 i az) (nI i).toNatClampNeg (some q) = zs 0 (i + 1) (pz i q az) := by
  rw [nI_clamp hi]
  funext k
  by_cases e : k = i
  · subst e
    rw [va_up_self]
    unfold zs
    rw [if_pos (by omega), Nat.zero_add, pz_self]
  · rw [va_up_ne _ _ e]
    unfold zs
    by_cases h : k < i
    · rw [if_pos h, if_pos (by omega), Nat.zero_add, pz_ne _ _ e]
    · rw [if_neg h, if_neg (by omega)]
abbrev q0z : Nat → Nat := fun _ => 0
abbrev f0z : Nat → Nat → Int32 := fun _ _ => 0
theorem zp_succ {n c i q q1 : Nat} {k1 : ClassId} {az ac : Nat → Nat} {kz : Nat → ClassId} : zp n c (i + 1) (pz i q az) (pz i q1 ac) (pz i k1 kz) q0z f0z = ((List.range i).map (zpo n az ac q0z) ++ [(q, .inr (7, [.ref q1, .int 0]))]) ++ ((List.range i).map (zpa c ac kz f0z) ++ [(q1, .inl (k1, c, .inl (fun _ => 0)))]) := by
  unfold zp
  rw [List.range_succ, List.map_append, List.map_append]
  congr 1
  · congr 1
    · refine List.map_congr_left (fun j hj => ?_)
      have hj := List.mem_range.mp hj
      unfold zpo
      rw [pz_ne _ _ (by omega), pz_ne _ _ (by omega)]
    · show [zpo n (pz i q az) (pz i q1 ac) q0z i] = _
      unfold zpo
      rw [pz_self, pz_self, Nat.zero_min]
      rfl
  · congr 1
    · refine List.map_congr_left (fun j hj => ?_)
      have hj := List.mem_range.mp hj
      unfold zpa
      rw [pz_ne _ _ (by omega), pz_ne _ _ (by omega)]
    · show [zpa c (pz i q1 ac) (pz i k1 kz) f0z i] = _
      unfold zpa
      rw [pz_self, pz_self]
theorem pm_push {α : Type} {X O R T : List α} {o a : α} : ((X ++ [o, a]) ++ ((O ++ R) ++ T)).Perm (X ++ (((O ++ [o]) ++ (R ++ [a])) ++ T)) := by
  have h1 : (X ++ [o, a]) ++ ((O ++ R) ++ T) = X ++ (o :: a :: ((O ++ R) ++ T)) := by rw [List.append_assoc]; rfl
  have h2 : X ++ (((O ++ [o]) ++ (R ++ [a])) ++ T) = X ++ (O ++ o :: (R ++ a :: T)) := by
    congr 1
    rw [List.append_assoc, List.append_assoc, List.append_assoc]
    rfl
  rw [h1, h2]
  refine List.Perm.append_left X ?_
  refine List.Perm.trans ?_ List.perm_middle.symm
  refine List.Perm.cons o ?_
  rw [← List.append_assoc]
  exact List.perm_middle.symm
theorem zp_pushP {D : va_G} {X T : va_W} {n c i q q1 : Nat} {k1 : ClassId} {az ac : Nat → Nat} {kz : Nat → ClassId} {H : Heap} (h : va_P D vwCl ((X ++ [(q, .inr (7, [.ref q1, .int 0])), (q1, .inl (k1, c, .inl (fun _ => 0)))]) ++ (zp n c i az ac kz q0z f0z ++ T)) H) : va_P D vwCl (X ++ (zp n c (i + 1) (pz i q az) (pz i q1 ac) (pz i k1 kz) q0z f0z ++ T)) H := by
  rw [zp_succ]
  exact wp_P pm_push h
theorem zp_pushD {A : Nat → Prop} {X T : va_W} {n c i q q1 : Nat} {k1 : ClassId} {az ac : Nat → Nat} {kz : Nat → ClassId} (h : va_D A ((X ++ [(q, .inr (7, [.ref q1, .int 0])), (q1, .inl (k1, c, .inl (fun _ => 0)))]) ++ (zp n c i az ac kz q0z f0z ++ T))) : va_D A (X ++ (zp n c (i + 1) (pz i q az) (pz i q1 ac) (pz i k1 kz) q0z f0z ++ T)) := by
  rw [zp_succ]
  exact wp_D pm_push h
theorem zt_push {D : va_G} {X T : List (ClassId × FieldType)} {i : Nat} {k1 : ClassId} {kz : Nat → ClassId} {U : State} (h : va_K D vwCl ((X ++ [(k1, .int)]) ++ (zt i kz ++ T)) U) : va_K D vwCl (X ++ (zt (i + 1) (pz i k1 kz) ++ T)) U := wm_K (fun q hq => by
  rcases List.mem_append.mp hq with hq | hq
  · exact List.mem_append_left _ (List.mem_append_left _ hq)
  · rcases List.mem_append.mp hq with hq | hq
    · obtain ⟨j, hj, rfl⟩ := List.mem_map.mp hq
      have hj := List.mem_range.mp hj
      by_cases e : j = i
      · subst e; rw [pz_self]; exact List.mem_append_left _ (List.mem_append_right _ List.mem_cons_self)
      · rw [pz_ne _ _ e]; exact List.mem_append_right _ (List.mem_append_left _ (List.mem_map.mpr ⟨j, List.mem_range.mpr (by omega), rfl⟩))
    · exact List.mem_append_right _ (List.mem_append_right _ hq)) h
/-- two rows of zones as one -/
def ct2 {α : Type} (a : Nat) (f g : Nat → α) : Nat → α := fun j => if j < a then f j else g (j - a)
theorem ct2_l {α : Type} {a j : Nat} {f g : Nat → α} (h : j < a) : ct2 a f g j = f j := if_pos h
theorem ct2_r {α : Type} {a j : Nat} {f g : Nat → α} : ct2 a f g (a + j) = g j := by
  unfold ct2
  rw [if_neg (by omega), Nat.add_sub_cancel_left]
theorem zp_cat {n c a b : Nat} {az ac az' ac' : Nat → Nat} {kz kz' : Nat → ClassId} : (zp n c a az ac kz q0z f0z ++ zp n c b az' ac' kz' q0z f0z).Perm (zp n c (a + b) (ct2 a az az') (ct2 a ac ac') (ct2 a kz kz') q0z f0z) := by
  have h : zp n c (a + b) (ct2 a az az') (ct2 a ac ac') (ct2 a kz kz') q0z f0z = ((List.range a).map (zpo n az ac q0z) ++ (List.range b).map (zpo n az' ac' q0z)) ++ ((List.range a).map (zpa c ac kz f0z) ++ (List.range b).map (zpa c ac' kz' f0z)) := by
    unfold zp
    rw [List.range_add, List.map_append, List.map_append, List.map_map, List.map_map]
    congr 1
    · congr 1
      · refine List.map_congr_left (fun j hj => ?_)
        have hj := List.mem_range.mp hj
        unfold zpo
        rw [ct2_l hj, ct2_l hj]
      · refine List.map_congr_left (fun j _ => ?_)
        show zpo n _ _ _ (a + j) = _
        unfold zpo
        rw [ct2_r, ct2_r]
    · congr 1
      · refine List.map_congr_left (fun j hj => ?_)
        have hj := List.mem_range.mp hj
        unfold zpa
        rw [ct2_l hj, ct2_l hj]
      · refine List.map_congr_left (fun j _ => ?_)
        show zpa c _ _ _ (a + j) = _
        unfold zpa
        rw [ct2_r, ct2_r]
  rw [h]
  unfold zp
  have e : ∀ {α : Type} (p q r t : List α), ((p ++ q) ++ (r ++ t)).Perm ((p ++ r) ++ (q ++ t)) := by
    intro α p q r t
    rw [List.append_assoc, List.append_assoc]
    refine List.Perm.append_left p ?_
    rw [← List.append_assoc, ← List.append_assoc]
    exact List.Perm.append_right t List.perm_append_comm
  exact e _ _ _ _
theorem zs_ct {a o m : Nat} {az az' : Nat → Nat} : zs (a + o) m (ct2 a az az') = zs o m az' := by
  funext k
  unfold zs
  rw [Nat.add_assoc, ct2_r]
theorem zs_cl {a o m : Nat} {az az' : Nat → Nat} (h : o + m ≤ a) : zs o m (ct2 a az az') = zs o m az := by
  funext k
  unfold zs
  by_cases e : k < m
  · rw [if_pos e, if_pos e, ct2_l (by omega)]
  · rw [if_neg e, if_neg e]
theorem bN_0 {h : Nat} : (fun _ => 0 : Nat → Int32) = bN h (fun _ => 0) := by
  funext j
  show 0 = nI (min 0 h)
  rw [Nat.zero_min]
  rfl
/-- what the class's texts are -/
def tx_len : List Nat := [5, 5, 6, 5, 5, 4, 4, 5]
def tx_byt : List (List Int32) := [[99, 108, 111, 99, 107], [112, 108, 97, 99, 101], [117, 114, 103, 101, 110, 116], [117, 110, 116, 105, 108], [115, 116, 97, 114, 116], [101, 100, 103, 101], [119, 104, 101, 110], [114, 101, 115, 101, 116]]
def tx_ix : List (Nat × String) := [(15, "clock"), (21, "place"), (23, "urgent"), (25, "until"), (27, "start"), (29, "edge"), (31, "when"), (33, "reset")]
/-- what a constructor takes as given beside its world: rows of zones can be made; the texts; two statics -/
def sx_E (adK adV : Nat → Nat) (fz : Option Nat) (A : Nat → Prop) (U : State) (H : Heap) : Prop := va_AO RX7 U ∧ vk_S 8 tx_len tx_byt adK adV A U H ∧ (∀ i : Nat, i < 8 → vk_R RX4 (tx_ix.getD i (0, "")).1 (tx_ix.getD i (0, "")).2 (adK i) U) ∧ va_Z "java/lang/String" "COMPACT_STRINGS" "Z" (.int 1) A U H ∧ va_Z "jdk/internal/util/Preconditions" "SIOOBE_FORMATTER" "Ljava/util/function/BiFunction;" (va_rf fz) A U H
def pu_X (adK adV : Nat → Nat) (fz : Option Nat) (D : va_G) (ws : va_W) (tys : List (ClassId × FieldType)) (sz : Nat) : State → Prop := fun U => pu_B D ws tys sz U ∧ sx_E adK adV fz (va_A ws sz) U U.heap
theorem pu_blx {adK adV : Nat → Nat} {fz : Option Nat} {D : va_G} {ws : va_W} {tys : List (ClassId × FieldType)} {sz : Nat} {av : List Value} : FrameBlind (va_Pc av (pu_X adK adV fz D ws tys sz)) := by
  intro a U g mk q
  obtain ⟨q0, ⟨q1, qP, qK, qD⟩, e1, e2, e3, e4, e5⟩ := q
  exact ⟨q0, ⟨q1, qP, va_K.moved (u := U) (U := U.calling g mk a) (Vm.Alike.refl U.vm) qK, qD⟩, va_AO.moved (u := U) (U := U.calling g mk a) (Vm.Alike.refl U.vm) e1, vk_S.moved (u := U) (U := U.calling g mk a) (Vm.Alike.refl U.vm) e2, fun i hi => vk_R.same (u := U) rfl (e3 i hi), va_Z.moved (u := U) (U := U.calling g mk a) (Vm.Alike.refl U.vm) e4, va_Z.moved (u := U) (U := U.calling g mk a) (Vm.Alike.refl U.vm) e5⟩
theorem pu_inx {adK adV : Nat → Nat} {fz : Option Nat} {D : va_G} {ws : va_W} {tys : List (ClassId × FieldType)} {s : State} {H : Heap} {A A0 : Nat → Prop} {locs : List Loc} {av : List Value} (hP : va_P D vwCl ws H) (hK : va_K D vwCl tys s) (hD : va_D A ws) (hE : sx_E adK adV fz A0 s s.heap) (hS : va_S A0 s.heap H locs) (hF : ∀ q, va_A ws H.size q → A0 q) : ∀ U : State, U.heap = H → s.WarmedH U.vm → va_Pc av (pu_X adK adV fz D ws tys H.size) av.toArray U := by
  intro U hU hW
  obtain ⟨e1, e2, e3, e4, e5⟩ := hE
  refine ⟨rfl, ⟨by rw [hU], by rw [hU]; exact hP, va_K.moved hW.alike hK, hD.weaken (fun _ _ _ _ => trivial)⟩, va_AO.moved hW.alike e1, ?_, fun i hi => vk_R.warm hW (e3 i hi), ?_, ?_⟩
  · rw [hU]; exact ((e2.kept hS.2.1).narrow hF).moved hW.alike
  · rw [hU]; exact ((e4.kept hS.2.1).narrow hF).moved hW.alike
  · rw [hU]; exact ((e5.kept hS.2.1).narrow hF).moved hW.alike
theorem pu_vin {x : Int32} {n : Nat} (h : vp_in x n) (hn : n < 2 ^ 31) : ¬ x < 0 ∧ x < nI n := by
  obtain ⟨j, hj, rfl⟩ := vp_in_of h hn
  exact ⟨nI_pos (by omega), nI_lt hj hn⟩
theorem tx_lt : ∀ i : Nat, i < 8 → tx_len.getD i 0 < 2 ^ 31 := by decide +kernel
