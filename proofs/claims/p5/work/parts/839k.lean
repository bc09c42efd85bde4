theorem xi_keep {D : va_G} {kI kB kQ : ClassId} {xa : Nat} {XA : Nat → Prop} {S : CX} {H H1 : Heap} (h : XInv D kI kB kQ xa XA S H) (hk : ∀ q : Nat, q < H.size → XA q → H1[q]? = H[q]?) : XInv D kI kB kQ xa XA S H1 := by
  obtain ⟨nv, iv, vv, fv, qv, fcv, qs, fz, ps, gz⟩ := S
  obtain ⟨⟨⟨hr, hmst0, hdst0⟩, hhi, hgg, hgt, hgu, hst⟩, ad, az, ac, bz, bc, rfl, hcv, hP, hD⟩ := h
  have hP2 := hP.kept (H1 := H1) (fun k q hq => hk q.1 (hP k q hq).lt (hD.2 k q hq))
  exact ⟨⟨⟨hr, hmst0, hdst0⟩, hhi, hgg, hgt, hgu, hst⟩, ad, az, ac, bz, bc, rfl, hcv, hP2, hD⟩
theorem xi_recv {D : va_G} {kI kB kQ : ClassId} {xa : Nat} {XA : Nat → Prop} {S : CX} {H : Heap} (h : XInv D kI kB kQ xa XA S H) : ∃ fs : List Value, va_P D vwCl [(xa, .inr (8, fs))] H := by
  obtain ⟨nv, iv, vv, fv, qv, fcv, qs, fz, ps, gz⟩ := S
  obtain ⟨⟨⟨hr, hmst0, hdst0⟩, hhi, hgg, hgt, hgu, hst⟩, ad, az, ac, bz, bc, rfl, hcv, hP, hD⟩ := h
  exact ⟨_, (vL_P hP).sub [0] rfl⟩
