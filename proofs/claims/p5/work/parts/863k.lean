theorem mi_keep {D : va_G} {kI kB : ClassId} {ma : Nat} {MA : Nat → Prop} {S : CMx} {H H1 : Heap} (h : MInv D kI kB ma MA S H) (hk : ∀ q : Nat, q < H.size → MA q → H1[q]? = H[q]?) : MInv D kI kB ma MA S H1 := by
  obtain ⟨nv, iv, fv, qv⟩ := S
  obtain ⟨⟨hr, hbg, hgr⟩, ad, rfl, hP, hD⟩ := h
  have hP2 := hP.kept (H1 := H1) (fun k q hq => hk q.1 (hP k q hq).lt (hD.2 k q hq))
  exact ⟨⟨hr, hbg, hgr⟩, ad, rfl, hP2, hD⟩
theorem mi_recv {D : va_G} {kI kB : ClassId} {ma : Nat} {MA : Nat → Prop} {S : CMx} {H : Heap} (h : MInv D kI kB ma MA S H) : ∃ fs : List Value, va_P D vwCl [(ma, .inr (9, fs))] H := by
  obtain ⟨nv, iv, fv, qv⟩ := S
  obtain ⟨⟨hr, hbg, hgr⟩, ad, rfl, hP, hD⟩ := h
  exact ⟨_, hP.sub [0] rfl⟩
