theorem mi_keep {D : va_G} {kI kB : ClassId} {ma : Nat} {MA : Nat → Prop} {tp : Nat} {S : CT} {H H1 : Heap} (h : MInv D kI kB ma MA tp S H) (hk : ∀ q : Nat, q < H.size → MA q → H1[q]? = H[q]?) : MInv D kI kB ma MA tp S H1 := by
  obtain ⟨ad, nv, iv, fv, qv, rfl, hSv, hx18, hr, hbg, hgr, hP, hD⟩ := h
  have hP2 := hP.kept (H1 := H1) (fun k q hq => hk q.1 (hP k q hq).lt (hD.2 k q hq))
  exact ⟨ad, nv, iv, fv, qv, rfl, hSv, hx18, hr, hbg, hgr, hP2, hD⟩
theorem mi_recv {D : va_G} {kI kB : ClassId} {ma : Nat} {MA : Nat → Prop} {tp : Nat} {S : CT} {H : Heap} (h : MInv D kI kB ma MA tp S H) : ∃ fs : List Value, va_P D vwCl [(ma, .inr (9, fs))] H := by
  obtain ⟨ad, nv, iv, fv, qv, rfl, hSv, hx18, hr, hbg, hgr, hP, hD⟩ := h
  exact ⟨_, hP.sub [0] rfl⟩
