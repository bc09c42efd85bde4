/-- what the class's texts are -/
def tx_len : List Nat := [5, 5, 6, 5, 5, 4, 4, 5]
def tx_byt : List (List Int32) := [[99, 108, 111, 99, 107], [112, 108, 97, 99, 101], [117, 114, 103, 101, 110, 116], [117, 110, 116, 105, 108], [115, 116, 97, 114, 116], [101, 100, 103, 101], [119, 104, 101, 110], [114, 101, 115, 101, 116]]
def tx_ix : List (Nat × String) := [(15, "clock"), (21, "place"), (23, "urgent"), (25, "until"), (27, "start"), (29, "edge"), (31, "when"), (33, "reset")]
/-- what a constructor takes as given beside its world: rows of zones can be made; the texts; two statics -/
def sx_E (adK adV : Nat → Nat) (fz : Option Nat) (A : Nat → Prop) (U : State) (H : Heap) : Prop := va_AO RX7 U ∧ vk_S 8 tx_len tx_byt adK adV A U H ∧ (∀ i : Nat, i < 8 → vk_R RX4 (tx_ix.getD i (0, "")).1 (tx_ix.getD i (0, "")).2 (adK i) U) ∧ va_Z "java/lang/String" "COMPACT_STRINGS" "Z" (.int 1) A U H ∧ va_Z "jdk/internal/util/Preconditions" "SIOOBE_FORMATTER" "Ljava/util/function/BiFunction;" (va_rf fz) A U H
def pu_X (adK adV : Nat → Nat) (fz : Option Nat) (D : va_G) (ws : va_W) (tys : List (ClassId × FieldType)) (sz : Nat) : State → Prop := fun U => pu_B D ws tys sz U ∧ sx_E adK adV fz (va_A ws sz) U U.heap
theorem pu_blx {adK adV : Nat → Nat} {fz : Option Nat} {D : va_G} {ws : va_W} {tys : List (ClassId × FieldType)} {sz : Nat} {av : List Value} : FrameBlind (va_Pc av (pu_X adK adV fz D ws tys sz)) := by
  intro a U g mk q
  obtain ⟨q0, ⟨q1, qP, qK, qD⟩, e1, e2, e3, e4, e5⟩ := q
  exact ⟨q0, ⟨q1, qP, va_K.moved (u := U) (U := U.calling g mk a) (Vm.Alike.refl U.vm) qK, qD⟩, va_AO.moved (u := U) (U := U.calling g mk a) (Vm.Alike.refl U.vm) e1, vk_S.moved (u := U) (U := U.calling g mk a) (Vm.Alike.refl U.vm) e2, fun i hi => vk_R.same (u := U) rfl (e3 i hi), va_Z.moved (u := U) (U := U.calling g mk a) (Vm.Alike.refl U.vm) e4, va_Z.moved (u := U) (U := U.calling g mk a) (Vm.Alike.refl U.vm) e5⟩
theorem pu_inx {adK adV : Nat → Nat} {fz : Option Nat} {D : va_G} {ws : va_W} {tys : List (ClassId × FieldType)} {s : State} {H : Heap} {A A0 : Nat → Prop} {locs : List Loc} {av : List Value} (hP : va_P D vwCl ws H) (hK : va_K D vwCl tys s) (hD : va_D A ws) (hE : sx_E adK adV fz A0 s s.heap) (hS : va_S A0 s.heap H locs) (hF : ∀ q, va_A ws H.size q → A0 q) : ∀ U : State, U.heap = H → s.WarmedH U.vm → va_Pc av (pu_X adK adV fz D ws tys H.size) av.toArray U := by
  intro U hU hW
  obtain ⟨e1, e2, e3, e4, e5⟩ := hE
  refine ⟨rfl, ⟨by rw [hU], by rw [hU]; exact hP, va_K.moved hW.alike hK, hD.weaken (fun _ _ _ _ => trivial)⟩, va_AO.moved hW.alike e1, ?_, fun i hi => vk_R.warm hW (e3 i hi), ?_, ?_⟩
  · rw [hU]; exact ((e2.kept hS.2.1).narrow hF).moved hW.alike
  · rw [hU]; exact ((e4.kept hS.2.1).narrow hF).moved hW.alike
  · rw [hU]; exact ((e5.kept hS.2.1).narrow hF).moved hW.alike
theorem pu_vin {x : Int32} {n : Nat} (h : vp_in x n) (hn : n < 2 ^ 31) : ¬ x < 0 ∧ x < nI n := by
  obtain ⟨j, hj, rfl⟩ := vp_in_of h hn
  exact ⟨nI_pos (by omega), nI_lt hj hn⟩
theorem tx_lt : ∀ i : Nat, i < 8 → tx_len.getD i 0 < 2 ^ 31 := by decide +kernel
