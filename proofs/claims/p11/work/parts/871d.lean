theorem r_u1 {c : ByteArray} {p : Nat} {b : UInt8} (h : c.data.toList[p]? = some b) : (Jvm.ClassFile.Reader.u1 : Jvm.ClassFile.Decoder Nat) c p = Except.ok (b.toNat, p + 1) := by
  obtain ⟨g, e⟩ := List.getElem?_eq_some_iff.mp h
  have hp : p < c.size := g
  have hb : c[p]'hp = b := e
  have e1 : (Jvm.ClassFile.Reader.u1 : Jvm.ClassFile.Decoder Nat) c p = (dite (p < c.size) (fun h => fun (_ : ByteArray) (_ : Nat) => Except.ok ((c[p]'h).toNat, p + 1)) (fun _ => fun _ _ => Except.error _)) c p := rfl
  rw [e1, dif_pos hp, hb]
theorem r_u2 {c : ByteArray} {p : Nat} {a b : UInt8} (h : c.data.toList[p]? = some a) (h1 : c.data.toList[p + 1]? = some b) : (Jvm.ClassFile.Reader.u2 : Jvm.ClassFile.Decoder Nat) c p = Except.ok (a.toNat * 256 + b.toNat, p + 2) := by
  show Except.bind ((Jvm.ClassFile.Reader.u1 : Jvm.ClassFile.Decoder Nat) c p) (fun q => Except.bind ((Jvm.ClassFile.Reader.u1 : Jvm.ClassFile.Decoder Nat) c q.2) (fun r => Except.ok (q.1 * 256 + r.1, r.2))) = _
  rw [r_u1 h]
  show Except.bind ((Jvm.ClassFile.Reader.u1 : Jvm.ClassFile.Decoder Nat) c (p + 1)) (fun r => Except.ok (a.toNat * 256 + r.1, r.2)) = _
  rw [r_u1 h1]
  rfl
def dKs (pc : Nat) : { K : Nat → Jvm.ClassFile.Decoder Instr // Jvm.ClassFile.Decoder.instr pc = Jvm.ClassFile.Reader.u1 >>= K } := ⟨_, rfl⟩
def dK (pc : Nat) : Nat → Jvm.ClassFile.Decoder Instr := (dKs pc).1
theorem dec_of {c : ByteArray} {pc : Nat} {b : UInt8} {i : Instr} {s' : Nat} (h : c.data.toList[pc]? = some b) (hk : dK pc b.toNat c (pc + 1) = Except.ok (i, s')) : decode c pc = Except.ok (i, s' - pc) := by
  have h1 := r_u1 h
  have e : Jvm.ClassFile.Decoder.instr pc c pc = Except.ok (i, s') := by
    rw [(dKs pc).2]
    show Except.bind ((Jvm.ClassFile.Reader.u1 : Jvm.ClassFile.Decoder Nat) c pc) (fun q => dK pc q.1 c q.2) = _
    rw [h1]
    exact hk
  unfold decode
  show Except.bind (Jvm.ClassFile.Decoder.instr pc c pc) (fun q => Except.ok (q.1, q.2 - pc)) = _
  rw [e]
  rfl
theorem dec_u1 {c : ByteArray} {pc : Nat} {b x : UInt8} {g : Nat → Instr} (h : c.data.toList[pc]? = some b) (h1 : c.data.toList[pc + 1]? = some x) (hk : dK pc b.toNat = fun c s => Except.bind ((Jvm.ClassFile.Reader.u1 : Jvm.ClassFile.Decoder Nat) c s) (fun q => Except.ok (g q.1, q.2))) : decode c pc = Except.ok (g x.toNat, 2) := by
  have e := dec_of (i := g x.toNat) (s' := pc + 2) h (by
    rw [hk]
    show Except.bind ((Jvm.ClassFile.Reader.u1 : Jvm.ClassFile.Decoder Nat) c (pc + 1)) (fun q => Except.ok (g q.1, q.2)) = _
    rw [r_u1 h1]
    rfl)
  rw [e, Nat.add_sub_cancel_left]
theorem dec_s1 {c : ByteArray} {pc : Nat} {b x : UInt8} {g : Int → Instr} (h : c.data.toList[pc]? = some b) (h1 : c.data.toList[pc + 1]? = some x) (hk : dK pc b.toNat = fun c s => Except.bind ((Jvm.ClassFile.Reader.u1 : Jvm.ClassFile.Decoder Nat) c s) (fun q => Except.ok (g (Jvm.ClassFile.Reader.signed 8 q.1), q.2))) : decode c pc = Except.ok (g (Jvm.ClassFile.Reader.signed 8 x.toNat), 2) := by
  have e := dec_of (i := g (Jvm.ClassFile.Reader.signed 8 x.toNat)) (s' := pc + 2) h (by
    rw [hk]
    show Except.bind ((Jvm.ClassFile.Reader.u1 : Jvm.ClassFile.Decoder Nat) c (pc + 1)) (fun q => Except.ok (g (Jvm.ClassFile.Reader.signed 8 q.1), q.2)) = _
    rw [r_u1 h1]
    rfl)
  rw [e, Nat.add_sub_cancel_left]
theorem dec_u2 {c : ByteArray} {pc : Nat} {b x y : UInt8} {g : Nat → Instr} (h : c.data.toList[pc]? = some b) (h1 : c.data.toList[pc + 1]? = some x) (h2 : c.data.toList[pc + 2]? = some y) (hk : dK pc b.toNat = fun c s => Except.bind ((Jvm.ClassFile.Reader.u2 : Jvm.ClassFile.Decoder Nat) c s) (fun q => Except.ok (g q.1, q.2))) : decode c pc = Except.ok (g (x.toNat * 256 + y.toNat), 3) := by
  have e := dec_of (i := g (x.toNat * 256 + y.toNat)) (s' := pc + 3) h (by
    rw [hk]
    show Except.bind ((Jvm.ClassFile.Reader.u2 : Jvm.ClassFile.Decoder Nat) c (pc + 1)) (fun q => Except.ok (g q.1, q.2)) = _
    rw [r_u2 h1 h2]
    rfl)
  rw [e, Nat.add_sub_cancel_left]
theorem dec_s2 {c : ByteArray} {pc : Nat} {b x y : UInt8} {g : Int → Instr} (h : c.data.toList[pc]? = some b) (h1 : c.data.toList[pc + 1]? = some x) (h2 : c.data.toList[pc + 2]? = some y) (hk : dK pc b.toNat = fun c s => Except.bind ((Jvm.ClassFile.Reader.u2 : Jvm.ClassFile.Decoder Nat) c s) (fun q => Except.ok (g (Jvm.ClassFile.Reader.signed 16 q.1), q.2))) : decode c pc = Except.ok (g (Jvm.ClassFile.Reader.signed 16 (x.toNat * 256 + y.toNat)), 3) := by
  have e := dec_of (i := g (Jvm.ClassFile.Reader.signed 16 (x.toNat * 256 + y.toNat))) (s' := pc + 3) h (by
    rw [hk]
    show Except.bind ((Jvm.ClassFile.Reader.u2 : Jvm.ClassFile.Decoder Nat) c (pc + 1)) (fun q => Except.ok (g (Jvm.ClassFile.Reader.signed 16 q.1), q.2)) = _
    rw [r_u2 h1 h2]
    rfl)
  rw [e, Nat.add_sub_cancel_left]
theorem at_of {l R : List UInt8} {k r pc : Nat} {b : UInt8} (h : l.drop k = R) (e : R[r]? = some b) (hp : pc = k + r) : l[pc]? = some b := by
  subst hp
  rw [← List.getElem?_drop, h]
  exact e
def zLb_53 : List UInt8 := 0x03 :: 0x84 :: 0x04 :: 0x07 :: 0xa7 :: 0xf9 :: 0x73 :: 0x04 :: 0xac :: []
def zLb_52 : List UInt8 := 0xb6 :: 0x00 :: 0xba :: 0x36 :: 0x06 :: 0xa7 :: 0x00 :: 0x1c :: 0x2b :: 0x2a :: 0x15 :: 0x04 :: 0x04 :: 0x60 :: 0x2e :: 0xb6 :: 0x00 :: 0xbb :: 0x57 :: 0x2c :: 0x2a :: 0x15 :: 0x04 :: 0x04 :: 0x60 :: 0x2e :: 0xb6 :: 0x00 :: 0xbe :: 0x57 :: 0xa7 :: 0x00 :: zLb_53
def zLb_51 : List UInt8 := 0x15 :: 0x04 :: 0x04 :: 0x60 :: 0x2e :: 0xb6 :: 0x00 :: 0xb4 :: 0x57 :: 0xa7 :: 0x00 :: 0x38 :: 0x2b :: 0x2a :: 0x15 :: 0x04 :: 0x04 :: 0x60 :: 0x2e :: 0x2d :: 0xb8 :: 0x00 :: 0xb5 :: 0x36 :: 0x05 :: 0x2c :: 0x2a :: 0x15 :: 0x04 :: 0x04 :: 0x60 :: 0x2e :: zLb_52
def zLb_50 : List UInt8 := 0x2e :: 0xb6 :: 0x00 :: 0xad :: 0x57 :: 0x2c :: 0x2a :: 0x15 :: 0x04 :: 0x04 :: 0x60 :: 0x2e :: 0xb6 :: 0x00 :: 0xb0 :: 0x57 :: 0xa7 :: 0x00 :: 0x51 :: 0x2b :: 0x2a :: 0x15 :: 0x04 :: 0x04 :: 0x60 :: 0x2e :: 0xb6 :: 0x00 :: 0xb1 :: 0x57 :: 0x2c :: 0x2a :: zLb_51
def zLb_49 : List UInt8 := 0x83 :: 0x2b :: 0x2a :: 0x15 :: 0x04 :: 0x04 :: 0x60 :: 0x2e :: 0xb6 :: 0x00 :: 0xa8 :: 0x57 :: 0x2c :: 0x2a :: 0x15 :: 0x04 :: 0x04 :: 0x60 :: 0x2e :: 0xb6 :: 0x00 :: 0xac :: 0x57 :: 0xa7 :: 0x00 :: 0x6a :: 0x2b :: 0x2a :: 0x15 :: 0x04 :: 0x04 :: 0x60 :: zLb_50
def zLb_48 : List UInt8 := 0x2e :: 0x2a :: 0x15 :: 0x04 :: 0x06 :: 0x60 :: 0x2e :: 0x2a :: 0x15 :: 0x04 :: 0x07 :: 0x60 :: 0x2e :: 0xb6 :: 0x00 :: 0xa3 :: 0x57 :: 0xa7 :: 0x00 :: 0x90 :: 0x2b :: 0xb6 :: 0x00 :: 0xa4 :: 0x57 :: 0x2c :: 0xb6 :: 0x00 :: 0xa7 :: 0x57 :: 0xa7 :: 0x00 :: zLb_49
def zLb_47 : List UInt8 := 0x04 :: 0x05 :: 0x60 :: 0x2e :: 0x2a :: 0x15 :: 0x04 :: 0x06 :: 0x60 :: 0x2e :: 0x2a :: 0x15 :: 0x04 :: 0x07 :: 0x60 :: 0x2e :: 0xb6 :: 0x00 :: 0xa0 :: 0x57 :: 0x2c :: 0x2a :: 0x15 :: 0x04 :: 0x04 :: 0x60 :: 0x2e :: 0x2a :: 0x15 :: 0x04 :: 0x05 :: 0x60 :: zLb_48
def zLb_46 : List UInt8 := 0x00 :: 0x9c :: 0x57 :: 0x2c :: 0x2a :: 0x15 :: 0x04 :: 0x04 :: 0x60 :: 0x2e :: 0x2a :: 0x15 :: 0x04 :: 0x05 :: 0x60 :: 0x2e :: 0xb6 :: 0x00 :: 0x9f :: 0x57 :: 0xa7 :: 0x00 :: 0xcd :: 0x2b :: 0x2a :: 0x15 :: 0x04 :: 0x04 :: 0x60 :: 0x2e :: 0x2a :: 0x15 :: zLb_47
def zLb_45 : List UInt8 := 0x15 :: 0x04 :: 0x05 :: 0x60 :: 0x2e :: 0x2a :: 0x15 :: 0x04 :: 0x06 :: 0x60 :: 0x2e :: 0xb6 :: 0x00 :: 0x9b :: 0x57 :: 0xa7 :: 0x00 :: 0xf2 :: 0x2b :: 0x2a :: 0x15 :: 0x04 :: 0x04 :: 0x60 :: 0x2e :: 0x2a :: 0x15 :: 0x04 :: 0x05 :: 0x60 :: 0x2e :: 0xb6 :: zLb_46
def zLb_44 : List UInt8 := 0x23 :: 0x2b :: 0x2a :: 0x15 :: 0x04 :: 0x04 :: 0x60 :: 0x2e :: 0x2a :: 0x15 :: 0x04 :: 0x05 :: 0x60 :: 0x2e :: 0x2a :: 0x15 :: 0x04 :: 0x06 :: 0x60 :: 0x2e :: 0xb6 :: 0x00 :: 0x98 :: 0x57 :: 0x2c :: 0x2a :: 0x15 :: 0x04 :: 0x04 :: 0x60 :: 0x2e :: 0x2a :: zLb_45
def zLb_43 : List UInt8 := 0x2e :: 0x2a :: 0x15 :: 0x04 :: 0x06 :: 0x60 :: 0x2e :: 0x2a :: 0x15 :: 0x04 :: 0x07 :: 0x60 :: 0x2e :: 0x2a :: 0x15 :: 0x04 :: 0x08 :: 0x60 :: 0x2e :: 0x2a :: 0x15 :: 0x04 :: 0x10 :: 0x06 :: 0x60 :: 0x2e :: 0xb6 :: 0x00 :: 0x97 :: 0x57 :: 0xa7 :: 0x01 :: zLb_44
def zLb_42 : List UInt8 := 0x07 :: 0x60 :: 0x2e :: 0x2a :: 0x15 :: 0x04 :: 0x08 :: 0x60 :: 0x2e :: 0x2a :: 0x15 :: 0x04 :: 0x10 :: 0x06 :: 0x60 :: 0x2e :: 0xb6 :: 0x00 :: 0x93 :: 0x57 :: 0x2c :: 0x2a :: 0x15 :: 0x04 :: 0x04 :: 0x60 :: 0x2e :: 0x2a :: 0x15 :: 0x04 :: 0x05 :: 0x60 :: zLb_43
def zLb_41 : List UInt8 := 0x05 :: 0x60 :: 0x2e :: 0xb6 :: 0x00 :: 0x92 :: 0x57 :: 0xa7 :: 0x01 :: 0x7a :: 0x2b :: 0x2a :: 0x15 :: 0x04 :: 0x04 :: 0x60 :: 0x2e :: 0x2a :: 0x15 :: 0x04 :: 0x05 :: 0x60 :: 0x2e :: 0x2a :: 0x15 :: 0x04 :: 0x06 :: 0x60 :: 0x2e :: 0x2a :: 0x15 :: 0x04 :: zLb_42
def zLb_40 : List UInt8 := 0x8e :: 0x57 :: 0xa7 :: 0x01 :: 0x9f :: 0x2b :: 0x2a :: 0x15 :: 0x04 :: 0x04 :: 0x60 :: 0x2e :: 0x2a :: 0x15 :: 0x04 :: 0x05 :: 0x60 :: 0x2e :: 0xb6 :: 0x00 :: 0x8f :: 0x57 :: 0x2c :: 0x2a :: 0x15 :: 0x04 :: 0x04 :: 0x60 :: 0x2e :: 0x2a :: 0x15 :: 0x04 :: zLb_41
def zLb_39 : List UInt8 := 0x2e :: 0x2a :: 0x15 :: 0x04 :: 0x06 :: 0x60 :: 0x2e :: 0xb6 :: 0x00 :: 0x8b :: 0x57 :: 0x2c :: 0x2a :: 0x15 :: 0x04 :: 0x04 :: 0x60 :: 0x2e :: 0x2a :: 0x15 :: 0x04 :: 0x05 :: 0x60 :: 0x2e :: 0x2a :: 0x15 :: 0x04 :: 0x06 :: 0x60 :: 0x2e :: 0xb6 :: 0x00 :: zLb_40
def zLb_38 : List UInt8 := 0x2c :: 0x2a :: 0x15 :: 0x04 :: 0x04 :: 0x60 :: 0x2e :: 0x2a :: 0x15 :: 0x04 :: 0x05 :: 0x60 :: 0x2e :: 0xb6 :: 0x00 :: 0x8a :: 0x57 :: 0xa7 :: 0x01 :: 0xd0 :: 0x2b :: 0x2a :: 0x15 :: 0x04 :: 0x04 :: 0x60 :: 0x2e :: 0x2a :: 0x15 :: 0x04 :: 0x05 :: 0x60 :: zLb_39
def zLb_37 : List UInt8 := 0x60 :: 0x2e :: 0x2a :: 0x15 :: 0x04 :: 0x05 :: 0x60 :: 0x2e :: 0xb6 :: 0x00 :: 0x86 :: 0x57 :: 0xa7 :: 0x01 :: 0xf5 :: 0x2b :: 0x2a :: 0x15 :: 0x04 :: 0x04 :: 0x60 :: 0x2e :: 0x2a :: 0x15 :: 0x04 :: 0x05 :: 0x60 :: 0x2e :: 0xb6 :: 0x00 :: 0x87 :: 0x57 :: zLb_38
def zLb_36 : List UInt8 := 0x05 :: 0x60 :: 0x2e :: 0xb6 :: 0x00 :: 0x82 :: 0x57 :: 0xa7 :: 0x02 :: 0x1a :: 0x2b :: 0x2a :: 0x15 :: 0x04 :: 0x04 :: 0x60 :: 0x2e :: 0x2a :: 0x15 :: 0x04 :: 0x05 :: 0x60 :: 0x2e :: 0xb6 :: 0x00 :: 0x83 :: 0x57 :: 0x2c :: 0x2a :: 0x15 :: 0x04 :: 0x04 :: zLb_37
def zLb_35 : List UInt8 := 0x7e :: 0x57 :: 0xa7 :: 0x02 :: 0x3f :: 0x2b :: 0x2a :: 0x15 :: 0x04 :: 0x04 :: 0x60 :: 0x2e :: 0x2a :: 0x15 :: 0x04 :: 0x05 :: 0x60 :: 0x2e :: 0xb6 :: 0x00 :: 0x7f :: 0x57 :: 0x2c :: 0x2a :: 0x15 :: 0x04 :: 0x04 :: 0x60 :: 0x2e :: 0x2a :: 0x15 :: 0x04 :: zLb_36
def zLb_34 : List UInt8 := 0x2a :: 0x15 :: 0x04 :: 0x04 :: 0x60 :: 0x2e :: 0x2a :: 0x15 :: 0x04 :: 0x05 :: 0x60 :: 0x2e :: 0x2a :: 0x15 :: 0x04 :: 0x06 :: 0x60 :: 0x2e :: 0x2a :: 0x15 :: 0x04 :: 0x07 :: 0x60 :: 0x2e :: 0x2a :: 0x15 :: 0x04 :: 0x08 :: 0x60 :: 0x2e :: 0xb6 :: 0x00 :: zLb_35
def zLb_33 : List UInt8 := 0x04 :: 0x60 :: 0x2e :: 0x2a :: 0x15 :: 0x04 :: 0x05 :: 0x60 :: 0x2e :: 0x2a :: 0x15 :: 0x04 :: 0x06 :: 0x60 :: 0x2e :: 0x2a :: 0x15 :: 0x04 :: 0x07 :: 0x60 :: 0x2e :: 0x2a :: 0x15 :: 0x04 :: 0x08 :: 0x60 :: 0x2e :: 0xb6 :: 0x00 :: 0x7b :: 0x57 :: 0x2c :: zLb_34
def zLb_32 : List UInt8 := 0x57 :: 0x2c :: 0x2a :: 0x15 :: 0x04 :: 0x04 :: 0x60 :: 0x2e :: 0xb6 :: 0x00 :: 0x76 :: 0x57 :: 0xa7 :: 0x02 :: 0x95 :: 0x2b :: 0xb6 :: 0x00 :: 0x77 :: 0x57 :: 0x2c :: 0xb6 :: 0x00 :: 0x7a :: 0x57 :: 0xa7 :: 0x02 :: 0x88 :: 0x2b :: 0x2a :: 0x15 :: 0x04 :: zLb_33
def zLb_31 : List UInt8 := 0x04 :: 0x04 :: 0x60 :: 0x2e :: 0xb6 :: 0x00 :: 0x6f :: 0x57 :: 0x2c :: 0x2a :: 0x15 :: 0x04 :: 0x04 :: 0x60 :: 0x2e :: 0xb6 :: 0x00 :: 0x72 :: 0x57 :: 0xa7 :: 0x02 :: 0xae :: 0x2b :: 0x2a :: 0x15 :: 0x04 :: 0x04 :: 0x60 :: 0x2e :: 0xb6 :: 0x00 :: 0x73 :: zLb_32
def zLb_30 : List UInt8 := 0x15 :: 0x04 :: 0x05 :: 0x60 :: 0x2e :: 0xb6 :: 0x00 :: 0x6b :: 0x57 :: 0x2c :: 0x2a :: 0x15 :: 0x04 :: 0x04 :: 0x60 :: 0x2e :: 0x2a :: 0x15 :: 0x04 :: 0x05 :: 0x60 :: 0x2e :: 0xb6 :: 0x00 :: 0x6e :: 0x57 :: 0xa7 :: 0x02 :: 0xc7 :: 0x2b :: 0x2a :: 0x15 :: zLb_31
def zLb_29 : List UInt8 := 0x00 :: 0x63 :: 0x57 :: 0x2c :: 0xb6 :: 0x00 :: 0x66 :: 0x57 :: 0xa7 :: 0x02 :: 0xf9 :: 0x2b :: 0xb6 :: 0x00 :: 0x67 :: 0x57 :: 0x2c :: 0xb6 :: 0x00 :: 0x6a :: 0x57 :: 0xa7 :: 0x02 :: 0xec :: 0x2b :: 0x2a :: 0x15 :: 0x04 :: 0x04 :: 0x60 :: 0x2e :: 0x2a :: zLb_30
def zLb_28 : List UInt8 := 0x5e :: 0x57 :: 0xa7 :: 0x03 :: 0x1f :: 0x2b :: 0x2a :: 0x15 :: 0x04 :: 0x04 :: 0x60 :: 0x2e :: 0xb6 :: 0x00 :: 0x5f :: 0x57 :: 0x2c :: 0x2a :: 0x15 :: 0x04 :: 0x04 :: 0x60 :: 0x2e :: 0xb6 :: 0x00 :: 0x62 :: 0x57 :: 0xa7 :: 0x03 :: 0x06 :: 0x2b :: 0xb6 :: zLb_29
def zLb_27 : List UInt8 := 0x2e :: 0xb6 :: 0x00 :: 0x5b :: 0x57 :: 0x2c :: 0x2a :: 0x15 :: 0x04 :: 0x04 :: 0x60 :: 0x2e :: 0x2a :: 0x15 :: 0x04 :: 0x05 :: 0x60 :: 0x2e :: 0x2a :: 0x15 :: 0x04 :: 0x06 :: 0x60 :: 0x2e :: 0x2a :: 0x15 :: 0x04 :: 0x07 :: 0x60 :: 0x2e :: 0xb6 :: 0x00 :: zLb_28
def zLb_26 : List UInt8 := 0x2e :: 0xb6 :: 0x00 :: 0x5a :: 0x57 :: 0xa7 :: 0x03 :: 0x5c :: 0x2b :: 0x2a :: 0x15 :: 0x04 :: 0x04 :: 0x60 :: 0x2e :: 0x2a :: 0x15 :: 0x04 :: 0x05 :: 0x60 :: 0x2e :: 0x2a :: 0x15 :: 0x04 :: 0x06 :: 0x60 :: 0x2e :: 0x2a :: 0x15 :: 0x04 :: 0x07 :: 0x60 :: zLb_27
def zLb_25 : List UInt8 := 0xa7 :: 0x03 :: 0x81 :: 0x2b :: 0x2a :: 0x15 :: 0x04 :: 0x04 :: 0x60 :: 0x2e :: 0x2a :: 0x15 :: 0x04 :: 0x05 :: 0x60 :: 0x2e :: 0xb6 :: 0x00 :: 0x57 :: 0x57 :: 0x2c :: 0x2a :: 0x15 :: 0x04 :: 0x04 :: 0x60 :: 0x2e :: 0x2a :: 0x15 :: 0x04 :: 0x05 :: 0x60 :: zLb_26
def zLb_24 : List UInt8 := 0x00 :: 0x52 :: 0x57 :: 0x2c :: 0x2a :: 0x15 :: 0x04 :: 0x04 :: 0x60 :: 0x2e :: 0x2a :: 0x15 :: 0x04 :: 0x05 :: 0x60 :: 0x2e :: 0x2a :: 0x15 :: 0x04 :: 0x06 :: 0x60 :: 0x2e :: 0x2a :: 0x15 :: 0x04 :: 0x07 :: 0x60 :: 0x2e :: 0xb6 :: 0x00 :: 0x56 :: 0x57 :: zLb_25
def zLb_23 : List UInt8 := 0x00 :: 0x51 :: 0x57 :: 0xa7 :: 0x03 :: 0xbe :: 0x2b :: 0x2a :: 0x15 :: 0x04 :: 0x04 :: 0x60 :: 0x2e :: 0x2a :: 0x15 :: 0x04 :: 0x05 :: 0x60 :: 0x2e :: 0x2a :: 0x15 :: 0x04 :: 0x06 :: 0x60 :: 0x2e :: 0x2a :: 0x15 :: 0x04 :: 0x07 :: 0x60 :: 0x2e :: 0xb6 :: zLb_24
def zLb_22 : List UInt8 := 0xe3 :: 0x2b :: 0x2a :: 0x15 :: 0x04 :: 0x04 :: 0x60 :: 0x2e :: 0x2a :: 0x15 :: 0x04 :: 0x05 :: 0x60 :: 0x2e :: 0xb6 :: 0x00 :: 0x4e :: 0x57 :: 0x2c :: 0x2a :: 0x15 :: 0x04 :: 0x04 :: 0x60 :: 0x2e :: 0x2a :: 0x15 :: 0x04 :: 0x05 :: 0x60 :: 0x2e :: 0xb6 :: zLb_23
def zLb_21 : List UInt8 := 0x03 :: 0xb6 :: 0x00 :: 0x49 :: 0x57 :: 0x2c :: 0x2a :: 0x15 :: 0x04 :: 0x04 :: 0x60 :: 0x2e :: 0x2a :: 0x15 :: 0x04 :: 0x05 :: 0x60 :: 0x2e :: 0x99 :: 0x00 :: 0x07 :: 0x04 :: 0xa7 :: 0x00 :: 0x04 :: 0x03 :: 0xb6 :: 0x00 :: 0x4d :: 0x57 :: 0xa7 :: 0x03 :: zLb_22
def zLb_20 : List UInt8 := 0xb6 :: 0x00 :: 0x44 :: 0x57 :: 0x2c :: 0xb6 :: 0x00 :: 0x48 :: 0x57 :: 0xa7 :: 0x04 :: 0x18 :: 0x2b :: 0x2a :: 0x15 :: 0x04 :: 0x04 :: 0x60 :: 0x2e :: 0x2a :: 0x15 :: 0x04 :: 0x05 :: 0x60 :: 0x2e :: 0x99 :: 0x00 :: 0x07 :: 0x04 :: 0xa7 :: 0x00 :: 0x04 :: zLb_21
def zLb_19 : List UInt8 := 0x00 :: 0x3f :: 0x57 :: 0x2c :: 0x2a :: 0x15 :: 0x04 :: 0x04 :: 0x60 :: 0x2e :: 0x2a :: 0x15 :: 0x04 :: 0x05 :: 0x60 :: 0x2e :: 0x99 :: 0x00 :: 0x07 :: 0x04 :: 0xa7 :: 0x00 :: 0x04 :: 0x03 :: 0xb6 :: 0x00 :: 0x43 :: 0x57 :: 0xa7 :: 0x04 :: 0x25 :: 0x2b :: zLb_20
def zLb_18 : List UInt8 := 0x60 :: 0x2e :: 0xb6 :: 0x00 :: 0x3e :: 0x9f :: 0x04 :: 0x5c :: 0x03 :: 0xac :: 0x2b :: 0x2a :: 0x15 :: 0x04 :: 0x04 :: 0x60 :: 0x2e :: 0x2a :: 0x15 :: 0x04 :: 0x05 :: 0x60 :: 0x2e :: 0x99 :: 0x00 :: 0x07 :: 0x04 :: 0xa7 :: 0x00 :: 0x04 :: 0x03 :: 0xb6 :: zLb_19
def zLb_17 : List UInt8 := 0x2a :: 0x15 :: 0x04 :: 0x05 :: 0x60 :: 0x2e :: 0x2a :: 0x15 :: 0x04 :: 0x06 :: 0x60 :: 0x2e :: 0xb6 :: 0x00 :: 0x3b :: 0x2c :: 0x2a :: 0x15 :: 0x04 :: 0x04 :: 0x60 :: 0x2e :: 0x2a :: 0x15 :: 0x04 :: 0x05 :: 0x60 :: 0x2e :: 0x2a :: 0x15 :: 0x04 :: 0x06 :: zLb_18
def zLb_16 : List UInt8 := 0x2e :: 0xb6 :: 0x00 :: 0x37 :: 0x57 :: 0x2c :: 0x2a :: 0x15 :: 0x04 :: 0x04 :: 0x60 :: 0x2e :: 0x2a :: 0x15 :: 0x04 :: 0x05 :: 0x60 :: 0x2e :: 0xb6 :: 0x00 :: 0x3a :: 0x57 :: 0xa7 :: 0x04 :: 0x8b :: 0x2b :: 0x2a :: 0x15 :: 0x04 :: 0x04 :: 0x60 :: 0x2e :: zLb_17
def zLb_15 : List UInt8 := 0x2e :: 0x2a :: 0x15 :: 0x04 :: 0x05 :: 0x60 :: 0x2e :: 0x2a :: 0x15 :: 0x04 :: 0x06 :: 0x60 :: 0x2e :: 0xb6 :: 0x00 :: 0x36 :: 0x57 :: 0xa7 :: 0x04 :: 0xb0 :: 0x2b :: 0x2a :: 0x15 :: 0x04 :: 0x04 :: 0x60 :: 0x2e :: 0x2a :: 0x15 :: 0x04 :: 0x05 :: 0x60 :: zLb_16
def zLb_14 : List UInt8 := 0xa7 :: 0x04 :: 0xe1 :: 0x2b :: 0x2a :: 0x15 :: 0x04 :: 0x04 :: 0x60 :: 0x2e :: 0x2a :: 0x15 :: 0x04 :: 0x05 :: 0x60 :: 0x2e :: 0x2a :: 0x15 :: 0x04 :: 0x06 :: 0x60 :: 0x2e :: 0xb6 :: 0x00 :: 0x32 :: 0x57 :: 0x2c :: 0x2a :: 0x15 :: 0x04 :: 0x04 :: 0x60 :: zLb_15
def zLb_13 : List UInt8 := 0x15 :: 0x04 :: 0x04 :: 0x60 :: 0x2e :: 0x2a :: 0x15 :: 0x04 :: 0x05 :: 0x60 :: 0x2e :: 0xb6 :: 0x00 :: 0x2e :: 0x57 :: 0x2c :: 0x2a :: 0x15 :: 0x04 :: 0x04 :: 0x60 :: 0x2e :: 0x2a :: 0x15 :: 0x04 :: 0x05 :: 0x60 :: 0x2e :: 0xb6 :: 0x00 :: 0x31 :: 0x57 :: zLb_14
def zLb_12 : List UInt8 := 0x2a :: 0x15 :: 0x04 :: 0x05 :: 0x60 :: 0x2e :: 0xb6 :: 0x00 :: 0x29 :: 0x57 :: 0x2c :: 0x2a :: 0x15 :: 0x04 :: 0x04 :: 0x60 :: 0x2e :: 0x2a :: 0x15 :: 0x04 :: 0x05 :: 0x60 :: 0x2e :: 0xb6 :: 0x00 :: 0x2d :: 0x57 :: 0xa7 :: 0x05 :: 0x06 :: 0x2b :: 0x2a :: zLb_13
def zLb_11 : List UInt8 := 0x2b :: 0x2a :: 0x15 :: 0x04 :: 0x04 :: 0x60 :: 0x2e :: 0xb6 :: 0x00 :: 0x25 :: 0x57 :: 0x2c :: 0x2a :: 0x15 :: 0x04 :: 0x04 :: 0x60 :: 0x2e :: 0xb6 :: 0x00 :: 0x28 :: 0x57 :: 0xa7 :: 0x05 :: 0x2b :: 0x2b :: 0x2a :: 0x15 :: 0x04 :: 0x04 :: 0x60 :: 0x2e :: zLb_12
def zLb_10 : List UInt8 := 0xb6 :: 0x00 :: 0x20 :: 0x57 :: 0xa7 :: 0x05 :: 0x5d :: 0x2b :: 0x2a :: 0x15 :: 0x04 :: 0x04 :: 0x60 :: 0x2e :: 0xb6 :: 0x00 :: 0x21 :: 0x57 :: 0x2c :: 0x2a :: 0x15 :: 0x04 :: 0x04 :: 0x60 :: 0x2e :: 0xb6 :: 0x00 :: 0x24 :: 0x57 :: 0xa7 :: 0x05 :: 0x44 :: zLb_11
def zLb_9 : List UInt8 := 0x83 :: 0x2b :: 0x2a :: 0x15 :: 0x04 :: 0x04 :: 0x60 :: 0x2e :: 0xb6 :: 0x00 :: 0x18 :: 0x57 :: 0x2c :: 0x2a :: 0x15 :: 0x04 :: 0x04 :: 0x60 :: 0x2e :: 0xb6 :: 0x00 :: 0x1b :: 0x57 :: 0xa7 :: 0x05 :: 0x6a :: 0x2b :: 0xb6 :: 0x00 :: 0x1c :: 0x57 :: 0x2c :: zLb_10
def zLb_8 : List UInt8 := 0x60 :: 0x2e :: 0x2a :: 0x15 :: 0x04 :: 0x05 :: 0x60 :: 0x2e :: 0x2a :: 0x15 :: 0x04 :: 0x06 :: 0x60 :: 0x2e :: 0x2a :: 0x15 :: 0x04 :: 0x07 :: 0x60 :: 0x2e :: 0x2a :: 0x15 :: 0x04 :: 0x08 :: 0x60 :: 0x2e :: 0xb6 :: 0x00 :: 0x17 :: 0x57 :: 0xa7 :: 0x05 :: zLb_9
def zLb_7 : List UInt8 := 0x15 :: 0x04 :: 0x05 :: 0x60 :: 0x2e :: 0x2a :: 0x15 :: 0x04 :: 0x06 :: 0x60 :: 0x2e :: 0x2a :: 0x15 :: 0x04 :: 0x07 :: 0x60 :: 0x2e :: 0x2a :: 0x15 :: 0x04 :: 0x08 :: 0x60 :: 0x2e :: 0xb6 :: 0x00 :: 0x13 :: 0x57 :: 0x2c :: 0x2a :: 0x15 :: 0x04 :: 0x04 :: zLb_8
def zLb_6 : List UInt8 := 0x00 :: 0x00 :: 0x05 :: 0xec :: 0x00 :: 0x00 :: 0x05 :: 0xf9 :: 0x00 :: 0x00 :: 0x06 :: 0x12 :: 0x00 :: 0x00 :: 0x06 :: 0x2b :: 0x00 :: 0x00 :: 0x06 :: 0x44 :: 0x00 :: 0x00 :: 0x06 :: 0x60 :: 0x2b :: 0x2a :: 0x15 :: 0x04 :: 0x04 :: 0x60 :: 0x2e :: 0x2a :: zLb_7
def zLb_5 : List UInt8 := 0x00 :: 0x00 :: 0x04 :: 0x62 :: 0x00 :: 0x00 :: 0x04 :: 0x87 :: 0x00 :: 0x00 :: 0x04 :: 0xac :: 0x00 :: 0x00 :: 0x04 :: 0xdd :: 0x00 :: 0x00 :: 0x05 :: 0x02 :: 0x00 :: 0x00 :: 0x05 :: 0x59 :: 0x00 :: 0x00 :: 0x05 :: 0x8a :: 0x00 :: 0x00 :: 0x05 :: 0xaf :: zLb_6
def zLb_4 : List UInt8 := 0x00 :: 0x00 :: 0x03 :: 0x76 :: 0x00 :: 0x00 :: 0x03 :: 0x83 :: 0x00 :: 0x00 :: 0x03 :: 0x90 :: 0x00 :: 0x00 :: 0x03 :: 0xb5 :: 0x00 :: 0x00 :: 0x03 :: 0xce :: 0x00 :: 0x00 :: 0x03 :: 0xe7 :: 0x00 :: 0x00 :: 0x03 :: 0xf4 :: 0x00 :: 0x00 :: 0x04 :: 0x3d :: zLb_5
def zLb_3 : List UInt8 := 0x00 :: 0x00 :: 0x02 :: 0x22 :: 0x00 :: 0x00 :: 0x02 :: 0x57 :: 0x00 :: 0x00 :: 0x02 :: 0x64 :: 0x00 :: 0x00 :: 0x02 :: 0x99 :: 0x00 :: 0x00 :: 0x02 :: 0xbe :: 0x00 :: 0x00 :: 0x02 :: 0xfb :: 0x00 :: 0x00 :: 0x03 :: 0x20 :: 0x00 :: 0x00 :: 0x03 :: 0x5d :: zLb_4
def zLb_2 : List UInt8 := 0x00 :: 0x00 :: 0x01 :: 0x12 :: 0x00 :: 0x00 :: 0x01 :: 0x1f :: 0x00 :: 0x00 :: 0x01 :: 0x38 :: 0x00 :: 0x00 :: 0x01 :: 0x51 :: 0x00 :: 0x00 :: 0x01 :: 0x76 :: 0x00 :: 0x00 :: 0x01 :: 0x9b :: 0x00 :: 0x00 :: 0x01 :: 0xcc :: 0x00 :: 0x00 :: 0x01 :: 0xf1 :: zLb_3
def zLb_1 : List UInt8 := 0x89 :: 0x2a :: 0x15 :: 0x04 :: 0x2e :: 0x10 :: 0x3f :: 0x7e :: 0xaa :: 0x00 :: 0x00 :: 0x00 :: 0x00 :: 0x00 :: 0x06 :: 0x79 :: 0x00 :: 0x00 :: 0x00 :: 0x00 :: 0x00 :: 0x00 :: 0x00 :: 0x27 :: 0x00 :: 0x00 :: 0x00 :: 0xb0 :: 0x00 :: 0x00 :: 0x00 :: 0xf9 :: zLb_2
def zLb_0 : List UInt8 := 0xbb :: 0x00 :: 0x08 :: 0x59 :: 0xb7 :: 0x00 :: 0x0f :: 0x4c :: 0xbb :: 0x00 :: 0x10 :: 0x59 :: 0xb7 :: 0x00 :: 0x12 :: 0x4d :: 0x04 :: 0xbc :: 0x0b :: 0x4e :: 0x03 :: 0x36 :: 0x04 :: 0x15 :: 0x04 :: 0x2a :: 0xbe :: 0x10 :: 0x07 :: 0x64 :: 0xa3 :: 0x06 :: zLb_1
theorem zLd_0 : cL_law.data.toList.drop 0 = zLb_0 := by decide +kernel
theorem zLd_1 : cL_law.data.toList.drop 32 = zLb_1 := by decide +kernel
theorem zLd_2 : cL_law.data.toList.drop 64 = zLb_2 := by decide +kernel
theorem zLd_3 : cL_law.data.toList.drop 96 = zLb_3 := by decide +kernel
theorem zLd_4 : cL_law.data.toList.drop 128 = zLb_4 := by decide +kernel
theorem zLd_5 : cL_law.data.toList.drop 160 = zLb_5 := by decide +kernel
theorem zLd_6 : cL_law.data.toList.drop 192 = zLb_6 := by decide +kernel
theorem zLd_7 : cL_law.data.toList.drop 224 = zLb_7 := by decide +kernel
theorem zLd_8 : cL_law.data.toList.drop 256 = zLb_8 := by decide +kernel
theorem zLd_9 : cL_law.data.toList.drop 288 = zLb_9 := by decide +kernel
theorem zLd_10 : cL_law.data.toList.drop 320 = zLb_10 := by decide +kernel
theorem zLd_11 : cL_law.data.toList.drop 352 = zLb_11 := by decide +kernel
theorem zLd_12 : cL_law.data.toList.drop 384 = zLb_12 := by decide +kernel
theorem zLd_13 : cL_law.data.toList.drop 416 = zLb_13 := by decide +kernel
theorem zLd_14 : cL_law.data.toList.drop 448 = zLb_14 := by decide +kernel
theorem zLd_15 : cL_law.data.toList.drop 480 = zLb_15 := by decide +kernel
theorem zLd_16 : cL_law.data.toList.drop 512 = zLb_16 := by decide +kernel
theorem zLd_17 : cL_law.data.toList.drop 544 = zLb_17 := by decide +kernel
theorem zLd_18 : cL_law.data.toList.drop 576 = zLb_18 := by decide +kernel
theorem zLd_19 : cL_law.data.toList.drop 608 = zLb_19 := by decide +kernel
theorem zLd_20 : cL_law.data.toList.drop 640 = zLb_20 := by decide +kernel
theorem zLd_21 : cL_law.data.toList.drop 672 = zLb_21 := by decide +kernel
theorem zLd_22 : cL_law.data.toList.drop 704 = zLb_22 := by decide +kernel
theorem zLd_23 : cL_law.data.toList.drop 736 = zLb_23 := by decide +kernel
theorem zLd_24 : cL_law.data.toList.drop 768 = zLb_24 := by decide +kernel
theorem zLd_25 : cL_law.data.toList.drop 800 = zLb_25 := by decide +kernel
theorem zLd_26 : cL_law.data.toList.drop 832 = zLb_26 := by decide +kernel
theorem zLd_27 : cL_law.data.toList.drop 864 = zLb_27 := by decide +kernel
theorem zLd_28 : cL_law.data.toList.drop 896 = zLb_28 := by decide +kernel
theorem zLd_29 : cL_law.data.toList.drop 928 = zLb_29 := by decide +kernel
theorem zLd_30 : cL_law.data.toList.drop 960 = zLb_30 := by decide +kernel
theorem zLd_31 : cL_law.data.toList.drop 992 = zLb_31 := by decide +kernel
theorem zLd_32 : cL_law.data.toList.drop 1024 = zLb_32 := by decide +kernel
theorem zLd_33 : cL_law.data.toList.drop 1056 = zLb_33 := by decide +kernel
theorem zLd_34 : cL_law.data.toList.drop 1088 = zLb_34 := by decide +kernel
theorem zLd_35 : cL_law.data.toList.drop 1120 = zLb_35 := by decide +kernel
theorem zLd_36 : cL_law.data.toList.drop 1152 = zLb_36 := by decide +kernel
theorem zLd_37 : cL_law.data.toList.drop 1184 = zLb_37 := by decide +kernel
theorem zLd_38 : cL_law.data.toList.drop 1216 = zLb_38 := by decide +kernel
theorem zLd_39 : cL_law.data.toList.drop 1248 = zLb_39 := by decide +kernel
theorem zLd_40 : cL_law.data.toList.drop 1280 = zLb_40 := by decide +kernel
theorem zLd_41 : cL_law.data.toList.drop 1312 = zLb_41 := by decide +kernel
theorem zLd_42 : cL_law.data.toList.drop 1344 = zLb_42 := by decide +kernel
theorem zLd_43 : cL_law.data.toList.drop 1376 = zLb_43 := by decide +kernel
theorem zLd_44 : cL_law.data.toList.drop 1408 = zLb_44 := by decide +kernel
theorem zLd_45 : cL_law.data.toList.drop 1440 = zLb_45 := by decide +kernel
theorem zLd_46 : cL_law.data.toList.drop 1472 = zLb_46 := by decide +kernel
theorem zLd_47 : cL_law.data.toList.drop 1504 = zLb_47 := by decide +kernel
theorem zLd_48 : cL_law.data.toList.drop 1536 = zLb_48 := by decide +kernel
theorem zLd_49 : cL_law.data.toList.drop 1568 = zLb_49 := by decide +kernel
theorem zLd_50 : cL_law.data.toList.drop 1600 = zLb_50 := by decide +kernel
theorem zLd_51 : cL_law.data.toList.drop 1632 = zLb_51 := by decide +kernel
theorem zLd_52 : cL_law.data.toList.drop 1664 = zLb_52 := by decide +kernel
theorem zLd_53 : cL_law.data.toList.drop 1696 = zLb_53 := by decide +kernel
theorem zLo_03 (pc : Nat) (c : ByteArray) : dK pc (0x03 : UInt8).toNat c (pc + 1) = Except.ok (.iconst 0, pc + 1) := rfl
theorem zLo_04 (pc : Nat) (c : ByteArray) : dK pc (0x04 : UInt8).toNat c (pc + 1) = Except.ok (.iconst 1, pc + 1) := rfl
theorem zLo_05 (pc : Nat) (c : ByteArray) : dK pc (0x05 : UInt8).toNat c (pc + 1) = Except.ok (.iconst 2, pc + 1) := rfl
theorem zLo_06 (pc : Nat) (c : ByteArray) : dK pc (0x06 : UInt8).toNat c (pc + 1) = Except.ok (.iconst 3, pc + 1) := rfl
theorem zLo_07 (pc : Nat) (c : ByteArray) : dK pc (0x07 : UInt8).toNat c (pc + 1) = Except.ok (.iconst 4, pc + 1) := rfl
theorem zLo_08 (pc : Nat) (c : ByteArray) : dK pc (0x08 : UInt8).toNat c (pc + 1) = Except.ok (.iconst 5, pc + 1) := rfl
theorem zLo_15 (pc : Nat) : dK pc (0x15 : UInt8).toNat = fun c s => Except.bind ((Jvm.ClassFile.Reader.u1 : Jvm.ClassFile.Decoder Nat) c s) (fun q => Except.ok ((fun n => (.iload n : Instr)) q.1, q.2)) := rfl
theorem zLo_2a (pc : Nat) (c : ByteArray) : dK pc (0x2a : UInt8).toNat c (pc + 1) = Except.ok (.aload_n 0, pc + 1) := rfl
theorem zLo_2b (pc : Nat) (c : ByteArray) : dK pc (0x2b : UInt8).toNat c (pc + 1) = Except.ok (.aload_n 1, pc + 1) := rfl
theorem zLo_2c (pc : Nat) (c : ByteArray) : dK pc (0x2c : UInt8).toNat c (pc + 1) = Except.ok (.aload_n 2, pc + 1) := rfl
theorem zLo_2d (pc : Nat) (c : ByteArray) : dK pc (0x2d : UInt8).toNat c (pc + 1) = Except.ok (.aload_n 3, pc + 1) := rfl
theorem zLo_2e (pc : Nat) (c : ByteArray) : dK pc (0x2e : UInt8).toNat c (pc + 1) = Except.ok (.iaload, pc + 1) := rfl
theorem zLo_36 (pc : Nat) : dK pc (0x36 : UInt8).toNat = fun c s => Except.bind ((Jvm.ClassFile.Reader.u1 : Jvm.ClassFile.Decoder Nat) c s) (fun q => Except.ok ((fun n => (.istore n : Instr)) q.1, q.2)) := rfl
theorem zLo_4c (pc : Nat) (c : ByteArray) : dK pc (0x4c : UInt8).toNat c (pc + 1) = Except.ok (.astore_n 1, pc + 1) := rfl
theorem zLo_4d (pc : Nat) (c : ByteArray) : dK pc (0x4d : UInt8).toNat c (pc + 1) = Except.ok (.astore_n 2, pc + 1) := rfl
theorem zLo_4e (pc : Nat) (c : ByteArray) : dK pc (0x4e : UInt8).toNat c (pc + 1) = Except.ok (.astore_n 3, pc + 1) := rfl
theorem zLo_57 (pc : Nat) (c : ByteArray) : dK pc (0x57 : UInt8).toNat c (pc + 1) = Except.ok (.pop, pc + 1) := rfl
theorem zLo_59 (pc : Nat) (c : ByteArray) : dK pc (0x59 : UInt8).toNat c (pc + 1) = Except.ok (.dup, pc + 1) := rfl
theorem zLo_60 (pc : Nat) (c : ByteArray) : dK pc (0x60 : UInt8).toNat c (pc + 1) = Except.ok (.iadd, pc + 1) := rfl
theorem zLo_64 (pc : Nat) (c : ByteArray) : dK pc (0x64 : UInt8).toNat c (pc + 1) = Except.ok (.isub, pc + 1) := rfl
theorem zLo_7e (pc : Nat) (c : ByteArray) : dK pc (0x7e : UInt8).toNat c (pc + 1) = Except.ok (.iand, pc + 1) := rfl
theorem zLo_ac (pc : Nat) (c : ByteArray) : dK pc (0xac : UInt8).toNat c (pc + 1) = Except.ok (.ireturn, pc + 1) := rfl
theorem zLo_b6 (pc : Nat) : dK pc (0xb6 : UInt8).toNat = fun c s => Except.bind ((Jvm.ClassFile.Reader.u2 : Jvm.ClassFile.Decoder Nat) c s) (fun q => Except.ok ((fun n => (.invokevirtual n : Instr)) q.1, q.2)) := rfl
theorem zLo_b7 (pc : Nat) : dK pc (0xb7 : UInt8).toNat = fun c s => Except.bind ((Jvm.ClassFile.Reader.u2 : Jvm.ClassFile.Decoder Nat) c s) (fun q => Except.ok ((fun n => (.invokespecial n : Instr)) q.1, q.2)) := rfl
theorem zLo_b8 (pc : Nat) : dK pc (0xb8 : UInt8).toNat = fun c s => Except.bind ((Jvm.ClassFile.Reader.u2 : Jvm.ClassFile.Decoder Nat) c s) (fun q => Except.ok ((fun n => (.invokestatic n : Instr)) q.1, q.2)) := rfl
theorem zLo_bb (pc : Nat) : dK pc (0xbb : UInt8).toNat = fun c s => Except.bind ((Jvm.ClassFile.Reader.u2 : Jvm.ClassFile.Decoder Nat) c s) (fun q => Except.ok ((fun n => (.new n : Instr)) q.1, q.2)) := rfl
theorem zLo_be (pc : Nat) (c : ByteArray) : dK pc (0xbe : UInt8).toNat c (pc + 1) = Except.ok (.arraylength, pc + 1) := rfl
theorem dL_law_0 : decode cL_law 0 = .ok (.new 8, 3) := dec_u2 (g := fun n => .new n) (at_of zLd_0 (show zLb_0[0]? = some 0xbb from rfl) rfl) (at_of zLd_0 (show zLb_0[1]? = some 0x00 from rfl) rfl) (at_of zLd_0 (show zLb_0[2]? = some 0x08 from rfl) rfl) (zLo_bb 0)
theorem dL_law_3 : decode cL_law 3 = .ok (.dup, 1) := dec_of (s' := 4) (at_of zLd_0 (show zLb_0[3]? = some 0x59 from rfl) rfl) (zLo_59 3 _)
theorem dL_law_4 : decode cL_law 4 = .ok (.invokespecial 15, 3) := dec_u2 (g := fun n => .invokespecial n) (at_of zLd_0 (show zLb_0[4]? = some 0xb7 from rfl) rfl) (at_of zLd_0 (show zLb_0[5]? = some 0x00 from rfl) rfl) (at_of zLd_0 (show zLb_0[6]? = some 0x0f from rfl) rfl) (zLo_b7 4)
theorem dL_law_7 : decode cL_law 7 = .ok (.astore_n 1, 1) := dec_of (s' := 8) (at_of zLd_0 (show zLb_0[7]? = some 0x4c from rfl) rfl) (zLo_4c 7 _)
theorem dL_law_8 : decode cL_law 8 = .ok (.new 16, 3) := dec_u2 (g := fun n => .new n) (at_of zLd_0 (show zLb_0[8]? = some 0xbb from rfl) rfl) (at_of zLd_0 (show zLb_0[9]? = some 0x00 from rfl) rfl) (at_of zLd_0 (show zLb_0[10]? = some 0x10 from rfl) rfl) (zLo_bb 8)
theorem dL_law_11 : decode cL_law 11 = .ok (.dup, 1) := dec_of (s' := 12) (at_of zLd_0 (show zLb_0[11]? = some 0x59 from rfl) rfl) (zLo_59 11 _)
theorem dL_law_12 : decode cL_law 12 = .ok (.invokespecial 18, 3) := dec_u2 (g := fun n => .invokespecial n) (at_of zLd_0 (show zLb_0[12]? = some 0xb7 from rfl) rfl) (at_of zLd_0 (show zLb_0[13]? = some 0x00 from rfl) rfl) (at_of zLd_0 (show zLb_0[14]? = some 0x12 from rfl) rfl) (zLo_b7 12)
theorem dL_law_15 : decode cL_law 15 = .ok (.astore_n 2, 1) := dec_of (s' := 16) (at_of zLd_0 (show zLb_0[15]? = some 0x4d from rfl) rfl) (zLo_4d 15 _)
theorem dL_law_16 : decode cL_law 16 = .ok (.iconst 1, 1) := dec_of (s' := 17) (at_of zLd_0 (show zLb_0[16]? = some 0x04 from rfl) rfl) (zLo_04 16 _)
theorem dL_law_17 : decode cL_law 17 = .ok (.newarray .long, 2) := by decide +kernel
theorem dL_law_19 : decode cL_law 19 = .ok (.astore_n 3, 1) := dec_of (s' := 20) (at_of zLd_0 (show zLb_0[19]? = some 0x4e from rfl) rfl) (zLo_4e 19 _)
theorem dL_law_20 : decode cL_law 20 = .ok (.iconst 0, 1) := dec_of (s' := 21) (at_of zLd_0 (show zLb_0[20]? = some 0x03 from rfl) rfl) (zLo_03 20 _)
theorem dL_law_21 : decode cL_law 21 = .ok (.istore 4, 2) := dec_u1 (g := fun n => .istore n) (at_of zLd_0 (show zLb_0[21]? = some 0x36 from rfl) rfl) (at_of zLd_0 (show zLb_0[22]? = some 0x04 from rfl) rfl) (zLo_36 21)
theorem dL_law_23 : decode cL_law 23 = .ok (.iload 4, 2) := dec_u1 (g := fun n => .iload n) (at_of zLd_0 (show zLb_0[23]? = some 0x15 from rfl) rfl) (at_of zLd_0 (show zLb_0[24]? = some 0x04 from rfl) rfl) (zLo_15 23)
theorem dL_law_25 : decode cL_law 25 = .ok (.aload_n 0, 1) := dec_of (s' := 26) (at_of zLd_0 (show zLb_0[25]? = some 0x2a from rfl) rfl) (zLo_2a 25 _)
theorem dL_law_26 : decode cL_law 26 = .ok (.arraylength, 1) := dec_of (s' := 27) (at_of zLd_0 (show zLb_0[26]? = some 0xbe from rfl) rfl) (zLo_be 26 _)
theorem dL_law_27 : decode cL_law 27 = .ok (.bipush 7, 2) := by decide +kernel
theorem dL_law_29 : decode cL_law 29 = .ok (.isub, 1) := dec_of (s' := 30) (at_of zLd_0 (show zLb_0[29]? = some 0x64 from rfl) rfl) (zLo_64 29 _)
theorem dL_law_30 : decode cL_law 30 = .ok (.if_icmp .gt 1673, 3) := by decide +kernel
theorem dL_law_33 : decode cL_law 33 = .ok (.aload_n 0, 1) := dec_of (s' := 34) (at_of zLd_1 (show zLb_1[1]? = some 0x2a from rfl) rfl) (zLo_2a 33 _)
theorem dL_law_34 : decode cL_law 34 = .ok (.iload 4, 2) := dec_u1 (g := fun n => .iload n) (at_of zLd_1 (show zLb_1[2]? = some 0x15 from rfl) rfl) (at_of zLd_1 (show zLb_1[3]? = some 0x04 from rfl) rfl) (zLo_15 34)
theorem dL_law_36 : decode cL_law 36 = .ok (.iaload, 1) := dec_of (s' := 37) (at_of zLd_1 (show zLb_1[4]? = some 0x2e from rfl) rfl) (zLo_2e 36 _)
theorem dL_law_37 : decode cL_law 37 = .ok (.bipush 63, 2) := by decide +kernel
theorem dL_law_39 : decode cL_law 39 = .ok (.iand, 1) := dec_of (s' := 40) (at_of zLd_1 (show zLb_1[7]? = some 0x7e from rfl) rfl) (zLo_7e 39 _)
theorem dL_law_40 : decode cL_law 40 = .ok (.tableswitch 1657 0 39 #[176, 249, 274, 287, 312, 337, 374, 411, 460, 497, 546, 599, 612, 665, 702, 763, 800, 861, 886, 899, 912, 949, 974, 999, 1012, 1085, 1122, 1159, 1196, 1245, 1282, 1369, 1418, 1455, 1516, 1529, 1554, 1579, 1604, 1632], 176) := by decide +kernel
theorem dL_law_216 : decode cL_law 216 = .ok (.aload_n 1, 1) := dec_of (s' := 217) (at_of zLd_6 (show zLb_6[24]? = some 0x2b from rfl) rfl) (zLo_2b 216 _)
theorem dL_law_217 : decode cL_law 217 = .ok (.aload_n 0, 1) := dec_of (s' := 218) (at_of zLd_6 (show zLb_6[25]? = some 0x2a from rfl) rfl) (zLo_2a 217 _)
theorem dL_law_218 : decode cL_law 218 = .ok (.iload 4, 2) := dec_u1 (g := fun n => .iload n) (at_of zLd_6 (show zLb_6[26]? = some 0x15 from rfl) rfl) (at_of zLd_6 (show zLb_6[27]? = some 0x04 from rfl) rfl) (zLo_15 218)
theorem dL_law_220 : decode cL_law 220 = .ok (.iconst 1, 1) := dec_of (s' := 221) (at_of zLd_6 (show zLb_6[28]? = some 0x04 from rfl) rfl) (zLo_04 220 _)
theorem dL_law_221 : decode cL_law 221 = .ok (.iadd, 1) := dec_of (s' := 222) (at_of zLd_6 (show zLb_6[29]? = some 0x60 from rfl) rfl) (zLo_60 221 _)
theorem dL_law_222 : decode cL_law 222 = .ok (.iaload, 1) := dec_of (s' := 223) (at_of zLd_6 (show zLb_6[30]? = some 0x2e from rfl) rfl) (zLo_2e 222 _)
theorem dL_law_223 : decode cL_law 223 = .ok (.aload_n 0, 1) := dec_of (s' := 224) (at_of zLd_6 (show zLb_6[31]? = some 0x2a from rfl) rfl) (zLo_2a 223 _)
theorem dL_law_224 : decode cL_law 224 = .ok (.iload 4, 2) := dec_u1 (g := fun n => .iload n) (at_of zLd_7 (show zLb_7[0]? = some 0x15 from rfl) rfl) (at_of zLd_7 (show zLb_7[1]? = some 0x04 from rfl) rfl) (zLo_15 224)
theorem dL_law_226 : decode cL_law 226 = .ok (.iconst 2, 1) := dec_of (s' := 227) (at_of zLd_7 (show zLb_7[2]? = some 0x05 from rfl) rfl) (zLo_05 226 _)
theorem dL_law_227 : decode cL_law 227 = .ok (.iadd, 1) := dec_of (s' := 228) (at_of zLd_7 (show zLb_7[3]? = some 0x60 from rfl) rfl) (zLo_60 227 _)
theorem dL_law_228 : decode cL_law 228 = .ok (.iaload, 1) := dec_of (s' := 229) (at_of zLd_7 (show zLb_7[4]? = some 0x2e from rfl) rfl) (zLo_2e 228 _)
theorem dL_law_229 : decode cL_law 229 = .ok (.aload_n 0, 1) := dec_of (s' := 230) (at_of zLd_7 (show zLb_7[5]? = some 0x2a from rfl) rfl) (zLo_2a 229 _)
theorem dL_law_230 : decode cL_law 230 = .ok (.iload 4, 2) := dec_u1 (g := fun n => .iload n) (at_of zLd_7 (show zLb_7[6]? = some 0x15 from rfl) rfl) (at_of zLd_7 (show zLb_7[7]? = some 0x04 from rfl) rfl) (zLo_15 230)
theorem dL_law_232 : decode cL_law 232 = .ok (.iconst 3, 1) := dec_of (s' := 233) (at_of zLd_7 (show zLb_7[8]? = some 0x06 from rfl) rfl) (zLo_06 232 _)
theorem dL_law_233 : decode cL_law 233 = .ok (.iadd, 1) := dec_of (s' := 234) (at_of zLd_7 (show zLb_7[9]? = some 0x60 from rfl) rfl) (zLo_60 233 _)
theorem dL_law_234 : decode cL_law 234 = .ok (.iaload, 1) := dec_of (s' := 235) (at_of zLd_7 (show zLb_7[10]? = some 0x2e from rfl) rfl) (zLo_2e 234 _)
theorem dL_law_235 : decode cL_law 235 = .ok (.aload_n 0, 1) := dec_of (s' := 236) (at_of zLd_7 (show zLb_7[11]? = some 0x2a from rfl) rfl) (zLo_2a 235 _)
theorem dL_law_236 : decode cL_law 236 = .ok (.iload 4, 2) := dec_u1 (g := fun n => .iload n) (at_of zLd_7 (show zLb_7[12]? = some 0x15 from rfl) rfl) (at_of zLd_7 (show zLb_7[13]? = some 0x04 from rfl) rfl) (zLo_15 236)
theorem dL_law_238 : decode cL_law 238 = .ok (.iconst 4, 1) := dec_of (s' := 239) (at_of zLd_7 (show zLb_7[14]? = some 0x07 from rfl) rfl) (zLo_07 238 _)
theorem dL_law_239 : decode cL_law 239 = .ok (.iadd, 1) := dec_of (s' := 240) (at_of zLd_7 (show zLb_7[15]? = some 0x60 from rfl) rfl) (zLo_60 239 _)
theorem dL_law_240 : decode cL_law 240 = .ok (.iaload, 1) := dec_of (s' := 241) (at_of zLd_7 (show zLb_7[16]? = some 0x2e from rfl) rfl) (zLo_2e 240 _)
theorem dL_law_241 : decode cL_law 241 = .ok (.aload_n 0, 1) := dec_of (s' := 242) (at_of zLd_7 (show zLb_7[17]? = some 0x2a from rfl) rfl) (zLo_2a 241 _)
theorem dL_law_242 : decode cL_law 242 = .ok (.iload 4, 2) := dec_u1 (g := fun n => .iload n) (at_of zLd_7 (show zLb_7[18]? = some 0x15 from rfl) rfl) (at_of zLd_7 (show zLb_7[19]? = some 0x04 from rfl) rfl) (zLo_15 242)
theorem dL_law_244 : decode cL_law 244 = .ok (.iconst 5, 1) := dec_of (s' := 245) (at_of zLd_7 (show zLb_7[20]? = some 0x08 from rfl) rfl) (zLo_08 244 _)
theorem dL_law_245 : decode cL_law 245 = .ok (.iadd, 1) := dec_of (s' := 246) (at_of zLd_7 (show zLb_7[21]? = some 0x60 from rfl) rfl) (zLo_60 245 _)
theorem dL_law_246 : decode cL_law 246 = .ok (.iaload, 1) := dec_of (s' := 247) (at_of zLd_7 (show zLb_7[22]? = some 0x2e from rfl) rfl) (zLo_2e 246 _)
theorem dL_law_247 : decode cL_law 247 = .ok (.invokevirtual 19, 3) := dec_u2 (g := fun n => .invokevirtual n) (at_of zLd_7 (show zLb_7[23]? = some 0xb6 from rfl) rfl) (at_of zLd_7 (show zLb_7[24]? = some 0x00 from rfl) rfl) (at_of zLd_7 (show zLb_7[25]? = some 0x13 from rfl) rfl) (zLo_b6 247)
theorem dL_law_250 : decode cL_law 250 = .ok (.pop, 1) := dec_of (s' := 251) (at_of zLd_7 (show zLb_7[26]? = some 0x57 from rfl) rfl) (zLo_57 250 _)
theorem dL_law_251 : decode cL_law 251 = .ok (.aload_n 2, 1) := dec_of (s' := 252) (at_of zLd_7 (show zLb_7[27]? = some 0x2c from rfl) rfl) (zLo_2c 251 _)
theorem dL_law_252 : decode cL_law 252 = .ok (.aload_n 0, 1) := dec_of (s' := 253) (at_of zLd_7 (show zLb_7[28]? = some 0x2a from rfl) rfl) (zLo_2a 252 _)
theorem dL_law_253 : decode cL_law 253 = .ok (.iload 4, 2) := dec_u1 (g := fun n => .iload n) (at_of zLd_7 (show zLb_7[29]? = some 0x15 from rfl) rfl) (at_of zLd_7 (show zLb_7[30]? = some 0x04 from rfl) rfl) (zLo_15 253)
theorem dL_law_255 : decode cL_law 255 = .ok (.iconst 1, 1) := dec_of (s' := 256) (at_of zLd_7 (show zLb_7[31]? = some 0x04 from rfl) rfl) (zLo_04 255 _)
theorem dL_law_256 : decode cL_law 256 = .ok (.iadd, 1) := dec_of (s' := 257) (at_of zLd_8 (show zLb_8[0]? = some 0x60 from rfl) rfl) (zLo_60 256 _)
theorem dL_law_257 : decode cL_law 257 = .ok (.iaload, 1) := dec_of (s' := 258) (at_of zLd_8 (show zLb_8[1]? = some 0x2e from rfl) rfl) (zLo_2e 257 _)
theorem dL_law_258 : decode cL_law 258 = .ok (.aload_n 0, 1) := dec_of (s' := 259) (at_of zLd_8 (show zLb_8[2]? = some 0x2a from rfl) rfl) (zLo_2a 258 _)
theorem dL_law_259 : decode cL_law 259 = .ok (.iload 4, 2) := dec_u1 (g := fun n => .iload n) (at_of zLd_8 (show zLb_8[3]? = some 0x15 from rfl) rfl) (at_of zLd_8 (show zLb_8[4]? = some 0x04 from rfl) rfl) (zLo_15 259)
theorem dL_law_261 : decode cL_law 261 = .ok (.iconst 2, 1) := dec_of (s' := 262) (at_of zLd_8 (show zLb_8[5]? = some 0x05 from rfl) rfl) (zLo_05 261 _)
theorem dL_law_262 : decode cL_law 262 = .ok (.iadd, 1) := dec_of (s' := 263) (at_of zLd_8 (show zLb_8[6]? = some 0x60 from rfl) rfl) (zLo_60 262 _)
theorem dL_law_263 : decode cL_law 263 = .ok (.iaload, 1) := dec_of (s' := 264) (at_of zLd_8 (show zLb_8[7]? = some 0x2e from rfl) rfl) (zLo_2e 263 _)
theorem dL_law_264 : decode cL_law 264 = .ok (.aload_n 0, 1) := dec_of (s' := 265) (at_of zLd_8 (show zLb_8[8]? = some 0x2a from rfl) rfl) (zLo_2a 264 _)
theorem dL_law_265 : decode cL_law 265 = .ok (.iload 4, 2) := dec_u1 (g := fun n => .iload n) (at_of zLd_8 (show zLb_8[9]? = some 0x15 from rfl) rfl) (at_of zLd_8 (show zLb_8[10]? = some 0x04 from rfl) rfl) (zLo_15 265)
theorem dL_law_267 : decode cL_law 267 = .ok (.iconst 3, 1) := dec_of (s' := 268) (at_of zLd_8 (show zLb_8[11]? = some 0x06 from rfl) rfl) (zLo_06 267 _)
theorem dL_law_268 : decode cL_law 268 = .ok (.iadd, 1) := dec_of (s' := 269) (at_of zLd_8 (show zLb_8[12]? = some 0x60 from rfl) rfl) (zLo_60 268 _)
theorem dL_law_269 : decode cL_law 269 = .ok (.iaload, 1) := dec_of (s' := 270) (at_of zLd_8 (show zLb_8[13]? = some 0x2e from rfl) rfl) (zLo_2e 269 _)
theorem dL_law_270 : decode cL_law 270 = .ok (.aload_n 0, 1) := dec_of (s' := 271) (at_of zLd_8 (show zLb_8[14]? = some 0x2a from rfl) rfl) (zLo_2a 270 _)
theorem dL_law_271 : decode cL_law 271 = .ok (.iload 4, 2) := dec_u1 (g := fun n => .iload n) (at_of zLd_8 (show zLb_8[15]? = some 0x15 from rfl) rfl) (at_of zLd_8 (show zLb_8[16]? = some 0x04 from rfl) rfl) (zLo_15 271)
theorem dL_law_273 : decode cL_law 273 = .ok (.iconst 4, 1) := dec_of (s' := 274) (at_of zLd_8 (show zLb_8[17]? = some 0x07 from rfl) rfl) (zLo_07 273 _)
theorem dL_law_274 : decode cL_law 274 = .ok (.iadd, 1) := dec_of (s' := 275) (at_of zLd_8 (show zLb_8[18]? = some 0x60 from rfl) rfl) (zLo_60 274 _)
theorem dL_law_275 : decode cL_law 275 = .ok (.iaload, 1) := dec_of (s' := 276) (at_of zLd_8 (show zLb_8[19]? = some 0x2e from rfl) rfl) (zLo_2e 275 _)
theorem dL_law_276 : decode cL_law 276 = .ok (.aload_n 0, 1) := dec_of (s' := 277) (at_of zLd_8 (show zLb_8[20]? = some 0x2a from rfl) rfl) (zLo_2a 276 _)
theorem dL_law_277 : decode cL_law 277 = .ok (.iload 4, 2) := dec_u1 (g := fun n => .iload n) (at_of zLd_8 (show zLb_8[21]? = some 0x15 from rfl) rfl) (at_of zLd_8 (show zLb_8[22]? = some 0x04 from rfl) rfl) (zLo_15 277)
theorem dL_law_279 : decode cL_law 279 = .ok (.iconst 5, 1) := dec_of (s' := 280) (at_of zLd_8 (show zLb_8[23]? = some 0x08 from rfl) rfl) (zLo_08 279 _)
theorem dL_law_280 : decode cL_law 280 = .ok (.iadd, 1) := dec_of (s' := 281) (at_of zLd_8 (show zLb_8[24]? = some 0x60 from rfl) rfl) (zLo_60 280 _)
theorem dL_law_281 : decode cL_law 281 = .ok (.iaload, 1) := dec_of (s' := 282) (at_of zLd_8 (show zLb_8[25]? = some 0x2e from rfl) rfl) (zLo_2e 281 _)
theorem dL_law_282 : decode cL_law 282 = .ok (.invokevirtual 23, 3) := dec_u2 (g := fun n => .invokevirtual n) (at_of zLd_8 (show zLb_8[26]? = some 0xb6 from rfl) rfl) (at_of zLd_8 (show zLb_8[27]? = some 0x00 from rfl) rfl) (at_of zLd_8 (show zLb_8[28]? = some 0x17 from rfl) rfl) (zLo_b6 282)
theorem dL_law_285 : decode cL_law 285 = .ok (.pop, 1) := dec_of (s' := 286) (at_of zLd_8 (show zLb_8[29]? = some 0x57 from rfl) rfl) (zLo_57 285 _)
theorem dL_law_286 : decode cL_law 286 = .ok (.goto 1411, 3) := by decide +kernel
theorem dL_law_289 : decode cL_law 289 = .ok (.aload_n 1, 1) := dec_of (s' := 290) (at_of zLd_9 (show zLb_9[1]? = some 0x2b from rfl) rfl) (zLo_2b 289 _)
theorem dL_law_290 : decode cL_law 290 = .ok (.aload_n 0, 1) := dec_of (s' := 291) (at_of zLd_9 (show zLb_9[2]? = some 0x2a from rfl) rfl) (zLo_2a 290 _)
theorem dL_law_291 : decode cL_law 291 = .ok (.iload 4, 2) := dec_u1 (g := fun n => .iload n) (at_of zLd_9 (show zLb_9[3]? = some 0x15 from rfl) rfl) (at_of zLd_9 (show zLb_9[4]? = some 0x04 from rfl) rfl) (zLo_15 291)
theorem dL_law_293 : decode cL_law 293 = .ok (.iconst 1, 1) := dec_of (s' := 294) (at_of zLd_9 (show zLb_9[5]? = some 0x04 from rfl) rfl) (zLo_04 293 _)
theorem dL_law_294 : decode cL_law 294 = .ok (.iadd, 1) := dec_of (s' := 295) (at_of zLd_9 (show zLb_9[6]? = some 0x60 from rfl) rfl) (zLo_60 294 _)
theorem dL_law_295 : decode cL_law 295 = .ok (.iaload, 1) := dec_of (s' := 296) (at_of zLd_9 (show zLb_9[7]? = some 0x2e from rfl) rfl) (zLo_2e 295 _)
theorem dL_law_296 : decode cL_law 296 = .ok (.invokevirtual 24, 3) := dec_u2 (g := fun n => .invokevirtual n) (at_of zLd_9 (show zLb_9[8]? = some 0xb6 from rfl) rfl) (at_of zLd_9 (show zLb_9[9]? = some 0x00 from rfl) rfl) (at_of zLd_9 (show zLb_9[10]? = some 0x18 from rfl) rfl) (zLo_b6 296)
theorem dL_law_299 : decode cL_law 299 = .ok (.pop, 1) := dec_of (s' := 300) (at_of zLd_9 (show zLb_9[11]? = some 0x57 from rfl) rfl) (zLo_57 299 _)
theorem dL_law_300 : decode cL_law 300 = .ok (.aload_n 2, 1) := dec_of (s' := 301) (at_of zLd_9 (show zLb_9[12]? = some 0x2c from rfl) rfl) (zLo_2c 300 _)
theorem dL_law_301 : decode cL_law 301 = .ok (.aload_n 0, 1) := dec_of (s' := 302) (at_of zLd_9 (show zLb_9[13]? = some 0x2a from rfl) rfl) (zLo_2a 301 _)
theorem dL_law_302 : decode cL_law 302 = .ok (.iload 4, 2) := dec_u1 (g := fun n => .iload n) (at_of zLd_9 (show zLb_9[14]? = some 0x15 from rfl) rfl) (at_of zLd_9 (show zLb_9[15]? = some 0x04 from rfl) rfl) (zLo_15 302)
theorem dL_law_304 : decode cL_law 304 = .ok (.iconst 1, 1) := dec_of (s' := 305) (at_of zLd_9 (show zLb_9[16]? = some 0x04 from rfl) rfl) (zLo_04 304 _)
theorem dL_law_305 : decode cL_law 305 = .ok (.iadd, 1) := dec_of (s' := 306) (at_of zLd_9 (show zLb_9[17]? = some 0x60 from rfl) rfl) (zLo_60 305 _)
theorem dL_law_306 : decode cL_law 306 = .ok (.iaload, 1) := dec_of (s' := 307) (at_of zLd_9 (show zLb_9[18]? = some 0x2e from rfl) rfl) (zLo_2e 306 _)
theorem dL_law_307 : decode cL_law 307 = .ok (.invokevirtual 27, 3) := dec_u2 (g := fun n => .invokevirtual n) (at_of zLd_9 (show zLb_9[19]? = some 0xb6 from rfl) rfl) (at_of zLd_9 (show zLb_9[20]? = some 0x00 from rfl) rfl) (at_of zLd_9 (show zLb_9[21]? = some 0x1b from rfl) rfl) (zLo_b6 307)
theorem dL_law_310 : decode cL_law 310 = .ok (.pop, 1) := dec_of (s' := 311) (at_of zLd_9 (show zLb_9[22]? = some 0x57 from rfl) rfl) (zLo_57 310 _)
theorem dL_law_311 : decode cL_law 311 = .ok (.goto 1386, 3) := by decide +kernel
theorem dL_law_314 : decode cL_law 314 = .ok (.aload_n 1, 1) := dec_of (s' := 315) (at_of zLd_9 (show zLb_9[26]? = some 0x2b from rfl) rfl) (zLo_2b 314 _)
theorem dL_law_315 : decode cL_law 315 = .ok (.invokevirtual 28, 3) := dec_u2 (g := fun n => .invokevirtual n) (at_of zLd_9 (show zLb_9[27]? = some 0xb6 from rfl) rfl) (at_of zLd_9 (show zLb_9[28]? = some 0x00 from rfl) rfl) (at_of zLd_9 (show zLb_9[29]? = some 0x1c from rfl) rfl) (zLo_b6 315)
theorem dL_law_318 : decode cL_law 318 = .ok (.pop, 1) := dec_of (s' := 319) (at_of zLd_9 (show zLb_9[30]? = some 0x57 from rfl) rfl) (zLo_57 318 _)
theorem dL_law_319 : decode cL_law 319 = .ok (.aload_n 2, 1) := dec_of (s' := 320) (at_of zLd_9 (show zLb_9[31]? = some 0x2c from rfl) rfl) (zLo_2c 319 _)
theorem dL_law_320 : decode cL_law 320 = .ok (.invokevirtual 32, 3) := dec_u2 (g := fun n => .invokevirtual n) (at_of zLd_10 (show zLb_10[0]? = some 0xb6 from rfl) rfl) (at_of zLd_10 (show zLb_10[1]? = some 0x00 from rfl) rfl) (at_of zLd_10 (show zLb_10[2]? = some 0x20 from rfl) rfl) (zLo_b6 320)
theorem dL_law_323 : decode cL_law 323 = .ok (.pop, 1) := dec_of (s' := 324) (at_of zLd_10 (show zLb_10[3]? = some 0x57 from rfl) rfl) (zLo_57 323 _)
theorem dL_law_324 : decode cL_law 324 = .ok (.goto 1373, 3) := by decide +kernel
theorem dL_law_327 : decode cL_law 327 = .ok (.aload_n 1, 1) := dec_of (s' := 328) (at_of zLd_10 (show zLb_10[7]? = some 0x2b from rfl) rfl) (zLo_2b 327 _)
theorem dL_law_328 : decode cL_law 328 = .ok (.aload_n 0, 1) := dec_of (s' := 329) (at_of zLd_10 (show zLb_10[8]? = some 0x2a from rfl) rfl) (zLo_2a 328 _)
theorem dL_law_329 : decode cL_law 329 = .ok (.iload 4, 2) := dec_u1 (g := fun n => .iload n) (at_of zLd_10 (show zLb_10[9]? = some 0x15 from rfl) rfl) (at_of zLd_10 (show zLb_10[10]? = some 0x04 from rfl) rfl) (zLo_15 329)
theorem dL_law_331 : decode cL_law 331 = .ok (.iconst 1, 1) := dec_of (s' := 332) (at_of zLd_10 (show zLb_10[11]? = some 0x04 from rfl) rfl) (zLo_04 331 _)
theorem dL_law_332 : decode cL_law 332 = .ok (.iadd, 1) := dec_of (s' := 333) (at_of zLd_10 (show zLb_10[12]? = some 0x60 from rfl) rfl) (zLo_60 332 _)
theorem dL_law_333 : decode cL_law 333 = .ok (.iaload, 1) := dec_of (s' := 334) (at_of zLd_10 (show zLb_10[13]? = some 0x2e from rfl) rfl) (zLo_2e 333 _)
theorem dL_law_334 : decode cL_law 334 = .ok (.invokevirtual 33, 3) := dec_u2 (g := fun n => .invokevirtual n) (at_of zLd_10 (show zLb_10[14]? = some 0xb6 from rfl) rfl) (at_of zLd_10 (show zLb_10[15]? = some 0x00 from rfl) rfl) (at_of zLd_10 (show zLb_10[16]? = some 0x21 from rfl) rfl) (zLo_b6 334)
theorem dL_law_337 : decode cL_law 337 = .ok (.pop, 1) := dec_of (s' := 338) (at_of zLd_10 (show zLb_10[17]? = some 0x57 from rfl) rfl) (zLo_57 337 _)
theorem dL_law_338 : decode cL_law 338 = .ok (.aload_n 2, 1) := dec_of (s' := 339) (at_of zLd_10 (show zLb_10[18]? = some 0x2c from rfl) rfl) (zLo_2c 338 _)
theorem dL_law_339 : decode cL_law 339 = .ok (.aload_n 0, 1) := dec_of (s' := 340) (at_of zLd_10 (show zLb_10[19]? = some 0x2a from rfl) rfl) (zLo_2a 339 _)
theorem dL_law_340 : decode cL_law 340 = .ok (.iload 4, 2) := dec_u1 (g := fun n => .iload n) (at_of zLd_10 (show zLb_10[20]? = some 0x15 from rfl) rfl) (at_of zLd_10 (show zLb_10[21]? = some 0x04 from rfl) rfl) (zLo_15 340)
theorem dL_law_342 : decode cL_law 342 = .ok (.iconst 1, 1) := dec_of (s' := 343) (at_of zLd_10 (show zLb_10[22]? = some 0x04 from rfl) rfl) (zLo_04 342 _)
theorem dL_law_343 : decode cL_law 343 = .ok (.iadd, 1) := dec_of (s' := 344) (at_of zLd_10 (show zLb_10[23]? = some 0x60 from rfl) rfl) (zLo_60 343 _)
theorem dL_law_344 : decode cL_law 344 = .ok (.iaload, 1) := dec_of (s' := 345) (at_of zLd_10 (show zLb_10[24]? = some 0x2e from rfl) rfl) (zLo_2e 344 _)
theorem dL_law_345 : decode cL_law 345 = .ok (.invokevirtual 36, 3) := dec_u2 (g := fun n => .invokevirtual n) (at_of zLd_10 (show zLb_10[25]? = some 0xb6 from rfl) rfl) (at_of zLd_10 (show zLb_10[26]? = some 0x00 from rfl) rfl) (at_of zLd_10 (show zLb_10[27]? = some 0x24 from rfl) rfl) (zLo_b6 345)
theorem dL_law_348 : decode cL_law 348 = .ok (.pop, 1) := dec_of (s' := 349) (at_of zLd_10 (show zLb_10[28]? = some 0x57 from rfl) rfl) (zLo_57 348 _)
theorem dL_law_349 : decode cL_law 349 = .ok (.goto 1348, 3) := by decide +kernel
theorem dL_law_352 : decode cL_law 352 = .ok (.aload_n 1, 1) := dec_of (s' := 353) (at_of zLd_11 (show zLb_11[0]? = some 0x2b from rfl) rfl) (zLo_2b 352 _)
theorem dL_law_353 : decode cL_law 353 = .ok (.aload_n 0, 1) := dec_of (s' := 354) (at_of zLd_11 (show zLb_11[1]? = some 0x2a from rfl) rfl) (zLo_2a 353 _)
theorem dL_law_354 : decode cL_law 354 = .ok (.iload 4, 2) := dec_u1 (g := fun n => .iload n) (at_of zLd_11 (show zLb_11[2]? = some 0x15 from rfl) rfl) (at_of zLd_11 (show zLb_11[3]? = some 0x04 from rfl) rfl) (zLo_15 354)
theorem dL_law_356 : decode cL_law 356 = .ok (.iconst 1, 1) := dec_of (s' := 357) (at_of zLd_11 (show zLb_11[4]? = some 0x04 from rfl) rfl) (zLo_04 356 _)
theorem dL_law_357 : decode cL_law 357 = .ok (.iadd, 1) := dec_of (s' := 358) (at_of zLd_11 (show zLb_11[5]? = some 0x60 from rfl) rfl) (zLo_60 357 _)
theorem dL_law_358 : decode cL_law 358 = .ok (.iaload, 1) := dec_of (s' := 359) (at_of zLd_11 (show zLb_11[6]? = some 0x2e from rfl) rfl) (zLo_2e 358 _)
theorem dL_law_359 : decode cL_law 359 = .ok (.invokevirtual 37, 3) := dec_u2 (g := fun n => .invokevirtual n) (at_of zLd_11 (show zLb_11[7]? = some 0xb6 from rfl) rfl) (at_of zLd_11 (show zLb_11[8]? = some 0x00 from rfl) rfl) (at_of zLd_11 (show zLb_11[9]? = some 0x25 from rfl) rfl) (zLo_b6 359)
theorem dL_law_362 : decode cL_law 362 = .ok (.pop, 1) := dec_of (s' := 363) (at_of zLd_11 (show zLb_11[10]? = some 0x57 from rfl) rfl) (zLo_57 362 _)
theorem dL_law_363 : decode cL_law 363 = .ok (.aload_n 2, 1) := dec_of (s' := 364) (at_of zLd_11 (show zLb_11[11]? = some 0x2c from rfl) rfl) (zLo_2c 363 _)
theorem dL_law_364 : decode cL_law 364 = .ok (.aload_n 0, 1) := dec_of (s' := 365) (at_of zLd_11 (show zLb_11[12]? = some 0x2a from rfl) rfl) (zLo_2a 364 _)
theorem dL_law_365 : decode cL_law 365 = .ok (.iload 4, 2) := dec_u1 (g := fun n => .iload n) (at_of zLd_11 (show zLb_11[13]? = some 0x15 from rfl) rfl) (at_of zLd_11 (show zLb_11[14]? = some 0x04 from rfl) rfl) (zLo_15 365)
theorem dL_law_367 : decode cL_law 367 = .ok (.iconst 1, 1) := dec_of (s' := 368) (at_of zLd_11 (show zLb_11[15]? = some 0x04 from rfl) rfl) (zLo_04 367 _)
theorem dL_law_368 : decode cL_law 368 = .ok (.iadd, 1) := dec_of (s' := 369) (at_of zLd_11 (show zLb_11[16]? = some 0x60 from rfl) rfl) (zLo_60 368 _)
theorem dL_law_369 : decode cL_law 369 = .ok (.iaload, 1) := dec_of (s' := 370) (at_of zLd_11 (show zLb_11[17]? = some 0x2e from rfl) rfl) (zLo_2e 369 _)
theorem dL_law_370 : decode cL_law 370 = .ok (.invokevirtual 40, 3) := dec_u2 (g := fun n => .invokevirtual n) (at_of zLd_11 (show zLb_11[18]? = some 0xb6 from rfl) rfl) (at_of zLd_11 (show zLb_11[19]? = some 0x00 from rfl) rfl) (at_of zLd_11 (show zLb_11[20]? = some 0x28 from rfl) rfl) (zLo_b6 370)
theorem dL_law_373 : decode cL_law 373 = .ok (.pop, 1) := dec_of (s' := 374) (at_of zLd_11 (show zLb_11[21]? = some 0x57 from rfl) rfl) (zLo_57 373 _)
theorem dL_law_374 : decode cL_law 374 = .ok (.goto 1323, 3) := by decide +kernel
theorem dL_law_377 : decode cL_law 377 = .ok (.aload_n 1, 1) := dec_of (s' := 378) (at_of zLd_11 (show zLb_11[25]? = some 0x2b from rfl) rfl) (zLo_2b 377 _)
theorem dL_law_378 : decode cL_law 378 = .ok (.aload_n 0, 1) := dec_of (s' := 379) (at_of zLd_11 (show zLb_11[26]? = some 0x2a from rfl) rfl) (zLo_2a 378 _)
theorem dL_law_379 : decode cL_law 379 = .ok (.iload 4, 2) := dec_u1 (g := fun n => .iload n) (at_of zLd_11 (show zLb_11[27]? = some 0x15 from rfl) rfl) (at_of zLd_11 (show zLb_11[28]? = some 0x04 from rfl) rfl) (zLo_15 379)
theorem dL_law_381 : decode cL_law 381 = .ok (.iconst 1, 1) := dec_of (s' := 382) (at_of zLd_11 (show zLb_11[29]? = some 0x04 from rfl) rfl) (zLo_04 381 _)
theorem dL_law_382 : decode cL_law 382 = .ok (.iadd, 1) := dec_of (s' := 383) (at_of zLd_11 (show zLb_11[30]? = some 0x60 from rfl) rfl) (zLo_60 382 _)
theorem dL_law_383 : decode cL_law 383 = .ok (.iaload, 1) := dec_of (s' := 384) (at_of zLd_11 (show zLb_11[31]? = some 0x2e from rfl) rfl) (zLo_2e 383 _)
theorem dL_law_384 : decode cL_law 384 = .ok (.aload_n 0, 1) := dec_of (s' := 385) (at_of zLd_12 (show zLb_12[0]? = some 0x2a from rfl) rfl) (zLo_2a 384 _)
theorem dL_law_385 : decode cL_law 385 = .ok (.iload 4, 2) := dec_u1 (g := fun n => .iload n) (at_of zLd_12 (show zLb_12[1]? = some 0x15 from rfl) rfl) (at_of zLd_12 (show zLb_12[2]? = some 0x04 from rfl) rfl) (zLo_15 385)
theorem dL_law_387 : decode cL_law 387 = .ok (.iconst 2, 1) := dec_of (s' := 388) (at_of zLd_12 (show zLb_12[3]? = some 0x05 from rfl) rfl) (zLo_05 387 _)
theorem dL_law_388 : decode cL_law 388 = .ok (.iadd, 1) := dec_of (s' := 389) (at_of zLd_12 (show zLb_12[4]? = some 0x60 from rfl) rfl) (zLo_60 388 _)
theorem dL_law_389 : decode cL_law 389 = .ok (.iaload, 1) := dec_of (s' := 390) (at_of zLd_12 (show zLb_12[5]? = some 0x2e from rfl) rfl) (zLo_2e 389 _)
theorem dL_law_390 : decode cL_law 390 = .ok (.invokevirtual 41, 3) := dec_u2 (g := fun n => .invokevirtual n) (at_of zLd_12 (show zLb_12[6]? = some 0xb6 from rfl) rfl) (at_of zLd_12 (show zLb_12[7]? = some 0x00 from rfl) rfl) (at_of zLd_12 (show zLb_12[8]? = some 0x29 from rfl) rfl) (zLo_b6 390)
theorem dL_law_393 : decode cL_law 393 = .ok (.pop, 1) := dec_of (s' := 394) (at_of zLd_12 (show zLb_12[9]? = some 0x57 from rfl) rfl) (zLo_57 393 _)
theorem dL_law_394 : decode cL_law 394 = .ok (.aload_n 2, 1) := dec_of (s' := 395) (at_of zLd_12 (show zLb_12[10]? = some 0x2c from rfl) rfl) (zLo_2c 394 _)
theorem dL_law_395 : decode cL_law 395 = .ok (.aload_n 0, 1) := dec_of (s' := 396) (at_of zLd_12 (show zLb_12[11]? = some 0x2a from rfl) rfl) (zLo_2a 395 _)
theorem dL_law_396 : decode cL_law 396 = .ok (.iload 4, 2) := dec_u1 (g := fun n => .iload n) (at_of zLd_12 (show zLb_12[12]? = some 0x15 from rfl) rfl) (at_of zLd_12 (show zLb_12[13]? = some 0x04 from rfl) rfl) (zLo_15 396)
theorem dL_law_398 : decode cL_law 398 = .ok (.iconst 1, 1) := dec_of (s' := 399) (at_of zLd_12 (show zLb_12[14]? = some 0x04 from rfl) rfl) (zLo_04 398 _)
theorem dL_law_399 : decode cL_law 399 = .ok (.iadd, 1) := dec_of (s' := 400) (at_of zLd_12 (show zLb_12[15]? = some 0x60 from rfl) rfl) (zLo_60 399 _)
theorem dL_law_400 : decode cL_law 400 = .ok (.iaload, 1) := dec_of (s' := 401) (at_of zLd_12 (show zLb_12[16]? = some 0x2e from rfl) rfl) (zLo_2e 400 _)
theorem dL_law_401 : decode cL_law 401 = .ok (.aload_n 0, 1) := dec_of (s' := 402) (at_of zLd_12 (show zLb_12[17]? = some 0x2a from rfl) rfl) (zLo_2a 401 _)
theorem dL_law_402 : decode cL_law 402 = .ok (.iload 4, 2) := dec_u1 (g := fun n => .iload n) (at_of zLd_12 (show zLb_12[18]? = some 0x15 from rfl) rfl) (at_of zLd_12 (show zLb_12[19]? = some 0x04 from rfl) rfl) (zLo_15 402)
theorem dL_law_404 : decode cL_law 404 = .ok (.iconst 2, 1) := dec_of (s' := 405) (at_of zLd_12 (show zLb_12[20]? = some 0x05 from rfl) rfl) (zLo_05 404 _)
theorem dL_law_405 : decode cL_law 405 = .ok (.iadd, 1) := dec_of (s' := 406) (at_of zLd_12 (show zLb_12[21]? = some 0x60 from rfl) rfl) (zLo_60 405 _)
theorem dL_law_406 : decode cL_law 406 = .ok (.iaload, 1) := dec_of (s' := 407) (at_of zLd_12 (show zLb_12[22]? = some 0x2e from rfl) rfl) (zLo_2e 406 _)
theorem dL_law_407 : decode cL_law 407 = .ok (.invokevirtual 45, 3) := dec_u2 (g := fun n => .invokevirtual n) (at_of zLd_12 (show zLb_12[23]? = some 0xb6 from rfl) rfl) (at_of zLd_12 (show zLb_12[24]? = some 0x00 from rfl) rfl) (at_of zLd_12 (show zLb_12[25]? = some 0x2d from rfl) rfl) (zLo_b6 407)
theorem dL_law_410 : decode cL_law 410 = .ok (.pop, 1) := dec_of (s' := 411) (at_of zLd_12 (show zLb_12[26]? = some 0x57 from rfl) rfl) (zLo_57 410 _)
theorem dL_law_411 : decode cL_law 411 = .ok (.goto 1286, 3) := by decide +kernel
theorem dL_law_414 : decode cL_law 414 = .ok (.aload_n 1, 1) := dec_of (s' := 415) (at_of zLd_12 (show zLb_12[30]? = some 0x2b from rfl) rfl) (zLo_2b 414 _)
theorem dL_law_415 : decode cL_law 415 = .ok (.aload_n 0, 1) := dec_of (s' := 416) (at_of zLd_12 (show zLb_12[31]? = some 0x2a from rfl) rfl) (zLo_2a 415 _)
theorem dL_law_416 : decode cL_law 416 = .ok (.iload 4, 2) := dec_u1 (g := fun n => .iload n) (at_of zLd_13 (show zLb_13[0]? = some 0x15 from rfl) rfl) (at_of zLd_13 (show zLb_13[1]? = some 0x04 from rfl) rfl) (zLo_15 416)
theorem dL_law_418 : decode cL_law 418 = .ok (.iconst 1, 1) := dec_of (s' := 419) (at_of zLd_13 (show zLb_13[2]? = some 0x04 from rfl) rfl) (zLo_04 418 _)
theorem dL_law_419 : decode cL_law 419 = .ok (.iadd, 1) := dec_of (s' := 420) (at_of zLd_13 (show zLb_13[3]? = some 0x60 from rfl) rfl) (zLo_60 419 _)
theorem dL_law_420 : decode cL_law 420 = .ok (.iaload, 1) := dec_of (s' := 421) (at_of zLd_13 (show zLb_13[4]? = some 0x2e from rfl) rfl) (zLo_2e 420 _)
theorem dL_law_421 : decode cL_law 421 = .ok (.aload_n 0, 1) := dec_of (s' := 422) (at_of zLd_13 (show zLb_13[5]? = some 0x2a from rfl) rfl) (zLo_2a 421 _)
theorem dL_law_422 : decode cL_law 422 = .ok (.iload 4, 2) := dec_u1 (g := fun n => .iload n) (at_of zLd_13 (show zLb_13[6]? = some 0x15 from rfl) rfl) (at_of zLd_13 (show zLb_13[7]? = some 0x04 from rfl) rfl) (zLo_15 422)
theorem dL_law_424 : decode cL_law 424 = .ok (.iconst 2, 1) := dec_of (s' := 425) (at_of zLd_13 (show zLb_13[8]? = some 0x05 from rfl) rfl) (zLo_05 424 _)
theorem dL_law_425 : decode cL_law 425 = .ok (.iadd, 1) := dec_of (s' := 426) (at_of zLd_13 (show zLb_13[9]? = some 0x60 from rfl) rfl) (zLo_60 425 _)
theorem dL_law_426 : decode cL_law 426 = .ok (.iaload, 1) := dec_of (s' := 427) (at_of zLd_13 (show zLb_13[10]? = some 0x2e from rfl) rfl) (zLo_2e 426 _)
theorem dL_law_427 : decode cL_law 427 = .ok (.invokevirtual 46, 3) := dec_u2 (g := fun n => .invokevirtual n) (at_of zLd_13 (show zLb_13[11]? = some 0xb6 from rfl) rfl) (at_of zLd_13 (show zLb_13[12]? = some 0x00 from rfl) rfl) (at_of zLd_13 (show zLb_13[13]? = some 0x2e from rfl) rfl) (zLo_b6 427)
theorem dL_law_430 : decode cL_law 430 = .ok (.pop, 1) := dec_of (s' := 431) (at_of zLd_13 (show zLb_13[14]? = some 0x57 from rfl) rfl) (zLo_57 430 _)
theorem dL_law_431 : decode cL_law 431 = .ok (.aload_n 2, 1) := dec_of (s' := 432) (at_of zLd_13 (show zLb_13[15]? = some 0x2c from rfl) rfl) (zLo_2c 431 _)
theorem dL_law_432 : decode cL_law 432 = .ok (.aload_n 0, 1) := dec_of (s' := 433) (at_of zLd_13 (show zLb_13[16]? = some 0x2a from rfl) rfl) (zLo_2a 432 _)
theorem dL_law_433 : decode cL_law 433 = .ok (.iload 4, 2) := dec_u1 (g := fun n => .iload n) (at_of zLd_13 (show zLb_13[17]? = some 0x15 from rfl) rfl) (at_of zLd_13 (show zLb_13[18]? = some 0x04 from rfl) rfl) (zLo_15 433)
theorem dL_law_435 : decode cL_law 435 = .ok (.iconst 1, 1) := dec_of (s' := 436) (at_of zLd_13 (show zLb_13[19]? = some 0x04 from rfl) rfl) (zLo_04 435 _)
theorem dL_law_436 : decode cL_law 436 = .ok (.iadd, 1) := dec_of (s' := 437) (at_of zLd_13 (show zLb_13[20]? = some 0x60 from rfl) rfl) (zLo_60 436 _)
theorem dL_law_437 : decode cL_law 437 = .ok (.iaload, 1) := dec_of (s' := 438) (at_of zLd_13 (show zLb_13[21]? = some 0x2e from rfl) rfl) (zLo_2e 437 _)
theorem dL_law_438 : decode cL_law 438 = .ok (.aload_n 0, 1) := dec_of (s' := 439) (at_of zLd_13 (show zLb_13[22]? = some 0x2a from rfl) rfl) (zLo_2a 438 _)
theorem dL_law_439 : decode cL_law 439 = .ok (.iload 4, 2) := dec_u1 (g := fun n => .iload n) (at_of zLd_13 (show zLb_13[23]? = some 0x15 from rfl) rfl) (at_of zLd_13 (show zLb_13[24]? = some 0x04 from rfl) rfl) (zLo_15 439)
theorem dL_law_441 : decode cL_law 441 = .ok (.iconst 2, 1) := dec_of (s' := 442) (at_of zLd_13 (show zLb_13[25]? = some 0x05 from rfl) rfl) (zLo_05 441 _)
theorem dL_law_442 : decode cL_law 442 = .ok (.iadd, 1) := dec_of (s' := 443) (at_of zLd_13 (show zLb_13[26]? = some 0x60 from rfl) rfl) (zLo_60 442 _)
theorem dL_law_443 : decode cL_law 443 = .ok (.iaload, 1) := dec_of (s' := 444) (at_of zLd_13 (show zLb_13[27]? = some 0x2e from rfl) rfl) (zLo_2e 443 _)
theorem dL_law_444 : decode cL_law 444 = .ok (.invokevirtual 49, 3) := dec_u2 (g := fun n => .invokevirtual n) (at_of zLd_13 (show zLb_13[28]? = some 0xb6 from rfl) rfl) (at_of zLd_13 (show zLb_13[29]? = some 0x00 from rfl) rfl) (at_of zLd_13 (show zLb_13[30]? = some 0x31 from rfl) rfl) (zLo_b6 444)
theorem dL_law_447 : decode cL_law 447 = .ok (.pop, 1) := dec_of (s' := 448) (at_of zLd_13 (show zLb_13[31]? = some 0x57 from rfl) rfl) (zLo_57 447 _)
theorem dL_law_448 : decode cL_law 448 = .ok (.goto 1249, 3) := by decide +kernel
theorem dL_law_451 : decode cL_law 451 = .ok (.aload_n 1, 1) := dec_of (s' := 452) (at_of zLd_14 (show zLb_14[3]? = some 0x2b from rfl) rfl) (zLo_2b 451 _)
theorem dL_law_452 : decode cL_law 452 = .ok (.aload_n 0, 1) := dec_of (s' := 453) (at_of zLd_14 (show zLb_14[4]? = some 0x2a from rfl) rfl) (zLo_2a 452 _)
theorem dL_law_453 : decode cL_law 453 = .ok (.iload 4, 2) := dec_u1 (g := fun n => .iload n) (at_of zLd_14 (show zLb_14[5]? = some 0x15 from rfl) rfl) (at_of zLd_14 (show zLb_14[6]? = some 0x04 from rfl) rfl) (zLo_15 453)
theorem dL_law_455 : decode cL_law 455 = .ok (.iconst 1, 1) := dec_of (s' := 456) (at_of zLd_14 (show zLb_14[7]? = some 0x04 from rfl) rfl) (zLo_04 455 _)
theorem dL_law_456 : decode cL_law 456 = .ok (.iadd, 1) := dec_of (s' := 457) (at_of zLd_14 (show zLb_14[8]? = some 0x60 from rfl) rfl) (zLo_60 456 _)
theorem dL_law_457 : decode cL_law 457 = .ok (.iaload, 1) := dec_of (s' := 458) (at_of zLd_14 (show zLb_14[9]? = some 0x2e from rfl) rfl) (zLo_2e 457 _)
theorem dL_law_458 : decode cL_law 458 = .ok (.aload_n 0, 1) := dec_of (s' := 459) (at_of zLd_14 (show zLb_14[10]? = some 0x2a from rfl) rfl) (zLo_2a 458 _)
theorem dL_law_459 : decode cL_law 459 = .ok (.iload 4, 2) := dec_u1 (g := fun n => .iload n) (at_of zLd_14 (show zLb_14[11]? = some 0x15 from rfl) rfl) (at_of zLd_14 (show zLb_14[12]? = some 0x04 from rfl) rfl) (zLo_15 459)
theorem dL_law_461 : decode cL_law 461 = .ok (.iconst 2, 1) := dec_of (s' := 462) (at_of zLd_14 (show zLb_14[13]? = some 0x05 from rfl) rfl) (zLo_05 461 _)
theorem dL_law_462 : decode cL_law 462 = .ok (.iadd, 1) := dec_of (s' := 463) (at_of zLd_14 (show zLb_14[14]? = some 0x60 from rfl) rfl) (zLo_60 462 _)
theorem dL_law_463 : decode cL_law 463 = .ok (.iaload, 1) := dec_of (s' := 464) (at_of zLd_14 (show zLb_14[15]? = some 0x2e from rfl) rfl) (zLo_2e 463 _)
theorem dL_law_464 : decode cL_law 464 = .ok (.aload_n 0, 1) := dec_of (s' := 465) (at_of zLd_14 (show zLb_14[16]? = some 0x2a from rfl) rfl) (zLo_2a 464 _)
theorem dL_law_465 : decode cL_law 465 = .ok (.iload 4, 2) := dec_u1 (g := fun n => .iload n) (at_of zLd_14 (show zLb_14[17]? = some 0x15 from rfl) rfl) (at_of zLd_14 (show zLb_14[18]? = some 0x04 from rfl) rfl) (zLo_15 465)
theorem dL_law_467 : decode cL_law 467 = .ok (.iconst 3, 1) := dec_of (s' := 468) (at_of zLd_14 (show zLb_14[19]? = some 0x06 from rfl) rfl) (zLo_06 467 _)
theorem dL_law_468 : decode cL_law 468 = .ok (.iadd, 1) := dec_of (s' := 469) (at_of zLd_14 (show zLb_14[20]? = some 0x60 from rfl) rfl) (zLo_60 468 _)
theorem dL_law_469 : decode cL_law 469 = .ok (.iaload, 1) := dec_of (s' := 470) (at_of zLd_14 (show zLb_14[21]? = some 0x2e from rfl) rfl) (zLo_2e 469 _)
theorem dL_law_470 : decode cL_law 470 = .ok (.invokevirtual 50, 3) := dec_u2 (g := fun n => .invokevirtual n) (at_of zLd_14 (show zLb_14[22]? = some 0xb6 from rfl) rfl) (at_of zLd_14 (show zLb_14[23]? = some 0x00 from rfl) rfl) (at_of zLd_14 (show zLb_14[24]? = some 0x32 from rfl) rfl) (zLo_b6 470)
theorem dL_law_473 : decode cL_law 473 = .ok (.pop, 1) := dec_of (s' := 474) (at_of zLd_14 (show zLb_14[25]? = some 0x57 from rfl) rfl) (zLo_57 473 _)
theorem dL_law_474 : decode cL_law 474 = .ok (.aload_n 2, 1) := dec_of (s' := 475) (at_of zLd_14 (show zLb_14[26]? = some 0x2c from rfl) rfl) (zLo_2c 474 _)
theorem dL_law_475 : decode cL_law 475 = .ok (.aload_n 0, 1) := dec_of (s' := 476) (at_of zLd_14 (show zLb_14[27]? = some 0x2a from rfl) rfl) (zLo_2a 475 _)
theorem dL_law_476 : decode cL_law 476 = .ok (.iload 4, 2) := dec_u1 (g := fun n => .iload n) (at_of zLd_14 (show zLb_14[28]? = some 0x15 from rfl) rfl) (at_of zLd_14 (show zLb_14[29]? = some 0x04 from rfl) rfl) (zLo_15 476)
theorem dL_law_478 : decode cL_law 478 = .ok (.iconst 1, 1) := dec_of (s' := 479) (at_of zLd_14 (show zLb_14[30]? = some 0x04 from rfl) rfl) (zLo_04 478 _)
theorem dL_law_479 : decode cL_law 479 = .ok (.iadd, 1) := dec_of (s' := 480) (at_of zLd_14 (show zLb_14[31]? = some 0x60 from rfl) rfl) (zLo_60 479 _)
theorem dL_law_480 : decode cL_law 480 = .ok (.iaload, 1) := dec_of (s' := 481) (at_of zLd_15 (show zLb_15[0]? = some 0x2e from rfl) rfl) (zLo_2e 480 _)
theorem dL_law_481 : decode cL_law 481 = .ok (.aload_n 0, 1) := dec_of (s' := 482) (at_of zLd_15 (show zLb_15[1]? = some 0x2a from rfl) rfl) (zLo_2a 481 _)
theorem dL_law_482 : decode cL_law 482 = .ok (.iload 4, 2) := dec_u1 (g := fun n => .iload n) (at_of zLd_15 (show zLb_15[2]? = some 0x15 from rfl) rfl) (at_of zLd_15 (show zLb_15[3]? = some 0x04 from rfl) rfl) (zLo_15 482)
theorem dL_law_484 : decode cL_law 484 = .ok (.iconst 2, 1) := dec_of (s' := 485) (at_of zLd_15 (show zLb_15[4]? = some 0x05 from rfl) rfl) (zLo_05 484 _)
theorem dL_law_485 : decode cL_law 485 = .ok (.iadd, 1) := dec_of (s' := 486) (at_of zLd_15 (show zLb_15[5]? = some 0x60 from rfl) rfl) (zLo_60 485 _)
theorem dL_law_486 : decode cL_law 486 = .ok (.iaload, 1) := dec_of (s' := 487) (at_of zLd_15 (show zLb_15[6]? = some 0x2e from rfl) rfl) (zLo_2e 486 _)
theorem dL_law_487 : decode cL_law 487 = .ok (.aload_n 0, 1) := dec_of (s' := 488) (at_of zLd_15 (show zLb_15[7]? = some 0x2a from rfl) rfl) (zLo_2a 487 _)
theorem dL_law_488 : decode cL_law 488 = .ok (.iload 4, 2) := dec_u1 (g := fun n => .iload n) (at_of zLd_15 (show zLb_15[8]? = some 0x15 from rfl) rfl) (at_of zLd_15 (show zLb_15[9]? = some 0x04 from rfl) rfl) (zLo_15 488)
theorem dL_law_490 : decode cL_law 490 = .ok (.iconst 3, 1) := dec_of (s' := 491) (at_of zLd_15 (show zLb_15[10]? = some 0x06 from rfl) rfl) (zLo_06 490 _)
theorem dL_law_491 : decode cL_law 491 = .ok (.iadd, 1) := dec_of (s' := 492) (at_of zLd_15 (show zLb_15[11]? = some 0x60 from rfl) rfl) (zLo_60 491 _)
theorem dL_law_492 : decode cL_law 492 = .ok (.iaload, 1) := dec_of (s' := 493) (at_of zLd_15 (show zLb_15[12]? = some 0x2e from rfl) rfl) (zLo_2e 492 _)
theorem dL_law_493 : decode cL_law 493 = .ok (.invokevirtual 54, 3) := dec_u2 (g := fun n => .invokevirtual n) (at_of zLd_15 (show zLb_15[13]? = some 0xb6 from rfl) rfl) (at_of zLd_15 (show zLb_15[14]? = some 0x00 from rfl) rfl) (at_of zLd_15 (show zLb_15[15]? = some 0x36 from rfl) rfl) (zLo_b6 493)
theorem dL_law_496 : decode cL_law 496 = .ok (.pop, 1) := dec_of (s' := 497) (at_of zLd_15 (show zLb_15[16]? = some 0x57 from rfl) rfl) (zLo_57 496 _)
theorem dL_law_497 : decode cL_law 497 = .ok (.goto 1200, 3) := by decide +kernel
theorem dL_law_500 : decode cL_law 500 = .ok (.aload_n 1, 1) := dec_of (s' := 501) (at_of zLd_15 (show zLb_15[20]? = some 0x2b from rfl) rfl) (zLo_2b 500 _)
theorem dL_law_501 : decode cL_law 501 = .ok (.aload_n 0, 1) := dec_of (s' := 502) (at_of zLd_15 (show zLb_15[21]? = some 0x2a from rfl) rfl) (zLo_2a 501 _)
theorem dL_law_502 : decode cL_law 502 = .ok (.iload 4, 2) := dec_u1 (g := fun n => .iload n) (at_of zLd_15 (show zLb_15[22]? = some 0x15 from rfl) rfl) (at_of zLd_15 (show zLb_15[23]? = some 0x04 from rfl) rfl) (zLo_15 502)
theorem dL_law_504 : decode cL_law 504 = .ok (.iconst 1, 1) := dec_of (s' := 505) (at_of zLd_15 (show zLb_15[24]? = some 0x04 from rfl) rfl) (zLo_04 504 _)
theorem dL_law_505 : decode cL_law 505 = .ok (.iadd, 1) := dec_of (s' := 506) (at_of zLd_15 (show zLb_15[25]? = some 0x60 from rfl) rfl) (zLo_60 505 _)
theorem dL_law_506 : decode cL_law 506 = .ok (.iaload, 1) := dec_of (s' := 507) (at_of zLd_15 (show zLb_15[26]? = some 0x2e from rfl) rfl) (zLo_2e 506 _)
theorem dL_law_507 : decode cL_law 507 = .ok (.aload_n 0, 1) := dec_of (s' := 508) (at_of zLd_15 (show zLb_15[27]? = some 0x2a from rfl) rfl) (zLo_2a 507 _)
theorem dL_law_508 : decode cL_law 508 = .ok (.iload 4, 2) := dec_u1 (g := fun n => .iload n) (at_of zLd_15 (show zLb_15[28]? = some 0x15 from rfl) rfl) (at_of zLd_15 (show zLb_15[29]? = some 0x04 from rfl) rfl) (zLo_15 508)
theorem dL_law_510 : decode cL_law 510 = .ok (.iconst 2, 1) := dec_of (s' := 511) (at_of zLd_15 (show zLb_15[30]? = some 0x05 from rfl) rfl) (zLo_05 510 _)
theorem dL_law_511 : decode cL_law 511 = .ok (.iadd, 1) := dec_of (s' := 512) (at_of zLd_15 (show zLb_15[31]? = some 0x60 from rfl) rfl) (zLo_60 511 _)
theorem dL_law_512 : decode cL_law 512 = .ok (.iaload, 1) := dec_of (s' := 513) (at_of zLd_16 (show zLb_16[0]? = some 0x2e from rfl) rfl) (zLo_2e 512 _)
theorem dL_law_513 : decode cL_law 513 = .ok (.invokevirtual 55, 3) := dec_u2 (g := fun n => .invokevirtual n) (at_of zLd_16 (show zLb_16[1]? = some 0xb6 from rfl) rfl) (at_of zLd_16 (show zLb_16[2]? = some 0x00 from rfl) rfl) (at_of zLd_16 (show zLb_16[3]? = some 0x37 from rfl) rfl) (zLo_b6 513)
theorem dL_law_516 : decode cL_law 516 = .ok (.pop, 1) := dec_of (s' := 517) (at_of zLd_16 (show zLb_16[4]? = some 0x57 from rfl) rfl) (zLo_57 516 _)
theorem dL_law_517 : decode cL_law 517 = .ok (.aload_n 2, 1) := dec_of (s' := 518) (at_of zLd_16 (show zLb_16[5]? = some 0x2c from rfl) rfl) (zLo_2c 517 _)
theorem dL_law_518 : decode cL_law 518 = .ok (.aload_n 0, 1) := dec_of (s' := 519) (at_of zLd_16 (show zLb_16[6]? = some 0x2a from rfl) rfl) (zLo_2a 518 _)
theorem dL_law_519 : decode cL_law 519 = .ok (.iload 4, 2) := dec_u1 (g := fun n => .iload n) (at_of zLd_16 (show zLb_16[7]? = some 0x15 from rfl) rfl) (at_of zLd_16 (show zLb_16[8]? = some 0x04 from rfl) rfl) (zLo_15 519)
theorem dL_law_521 : decode cL_law 521 = .ok (.iconst 1, 1) := dec_of (s' := 522) (at_of zLd_16 (show zLb_16[9]? = some 0x04 from rfl) rfl) (zLo_04 521 _)
theorem dL_law_522 : decode cL_law 522 = .ok (.iadd, 1) := dec_of (s' := 523) (at_of zLd_16 (show zLb_16[10]? = some 0x60 from rfl) rfl) (zLo_60 522 _)
theorem dL_law_523 : decode cL_law 523 = .ok (.iaload, 1) := dec_of (s' := 524) (at_of zLd_16 (show zLb_16[11]? = some 0x2e from rfl) rfl) (zLo_2e 523 _)
theorem dL_law_524 : decode cL_law 524 = .ok (.aload_n 0, 1) := dec_of (s' := 525) (at_of zLd_16 (show zLb_16[12]? = some 0x2a from rfl) rfl) (zLo_2a 524 _)
theorem dL_law_525 : decode cL_law 525 = .ok (.iload 4, 2) := dec_u1 (g := fun n => .iload n) (at_of zLd_16 (show zLb_16[13]? = some 0x15 from rfl) rfl) (at_of zLd_16 (show zLb_16[14]? = some 0x04 from rfl) rfl) (zLo_15 525)
theorem dL_law_527 : decode cL_law 527 = .ok (.iconst 2, 1) := dec_of (s' := 528) (at_of zLd_16 (show zLb_16[15]? = some 0x05 from rfl) rfl) (zLo_05 527 _)
theorem dL_law_528 : decode cL_law 528 = .ok (.iadd, 1) := dec_of (s' := 529) (at_of zLd_16 (show zLb_16[16]? = some 0x60 from rfl) rfl) (zLo_60 528 _)
theorem dL_law_529 : decode cL_law 529 = .ok (.iaload, 1) := dec_of (s' := 530) (at_of zLd_16 (show zLb_16[17]? = some 0x2e from rfl) rfl) (zLo_2e 529 _)
theorem dL_law_530 : decode cL_law 530 = .ok (.invokevirtual 58, 3) := dec_u2 (g := fun n => .invokevirtual n) (at_of zLd_16 (show zLb_16[18]? = some 0xb6 from rfl) rfl) (at_of zLd_16 (show zLb_16[19]? = some 0x00 from rfl) rfl) (at_of zLd_16 (show zLb_16[20]? = some 0x3a from rfl) rfl) (zLo_b6 530)
theorem dL_law_533 : decode cL_law 533 = .ok (.pop, 1) := dec_of (s' := 534) (at_of zLd_16 (show zLb_16[21]? = some 0x57 from rfl) rfl) (zLo_57 533 _)
theorem dL_law_534 : decode cL_law 534 = .ok (.goto 1163, 3) := by decide +kernel
theorem dL_law_537 : decode cL_law 537 = .ok (.aload_n 1, 1) := dec_of (s' := 538) (at_of zLd_16 (show zLb_16[25]? = some 0x2b from rfl) rfl) (zLo_2b 537 _)
theorem dL_law_538 : decode cL_law 538 = .ok (.aload_n 0, 1) := dec_of (s' := 539) (at_of zLd_16 (show zLb_16[26]? = some 0x2a from rfl) rfl) (zLo_2a 538 _)
theorem dL_law_539 : decode cL_law 539 = .ok (.iload 4, 2) := dec_u1 (g := fun n => .iload n) (at_of zLd_16 (show zLb_16[27]? = some 0x15 from rfl) rfl) (at_of zLd_16 (show zLb_16[28]? = some 0x04 from rfl) rfl) (zLo_15 539)
theorem dL_law_541 : decode cL_law 541 = .ok (.iconst 1, 1) := dec_of (s' := 542) (at_of zLd_16 (show zLb_16[29]? = some 0x04 from rfl) rfl) (zLo_04 541 _)
theorem dL_law_542 : decode cL_law 542 = .ok (.iadd, 1) := dec_of (s' := 543) (at_of zLd_16 (show zLb_16[30]? = some 0x60 from rfl) rfl) (zLo_60 542 _)
theorem dL_law_543 : decode cL_law 543 = .ok (.iaload, 1) := dec_of (s' := 544) (at_of zLd_16 (show zLb_16[31]? = some 0x2e from rfl) rfl) (zLo_2e 543 _)
theorem dL_law_544 : decode cL_law 544 = .ok (.aload_n 0, 1) := dec_of (s' := 545) (at_of zLd_17 (show zLb_17[0]? = some 0x2a from rfl) rfl) (zLo_2a 544 _)
theorem dL_law_545 : decode cL_law 545 = .ok (.iload 4, 2) := dec_u1 (g := fun n => .iload n) (at_of zLd_17 (show zLb_17[1]? = some 0x15 from rfl) rfl) (at_of zLd_17 (show zLb_17[2]? = some 0x04 from rfl) rfl) (zLo_15 545)
theorem dL_law_547 : decode cL_law 547 = .ok (.iconst 2, 1) := dec_of (s' := 548) (at_of zLd_17 (show zLb_17[3]? = some 0x05 from rfl) rfl) (zLo_05 547 _)
theorem dL_law_548 : decode cL_law 548 = .ok (.iadd, 1) := dec_of (s' := 549) (at_of zLd_17 (show zLb_17[4]? = some 0x60 from rfl) rfl) (zLo_60 548 _)
theorem dL_law_549 : decode cL_law 549 = .ok (.iaload, 1) := dec_of (s' := 550) (at_of zLd_17 (show zLb_17[5]? = some 0x2e from rfl) rfl) (zLo_2e 549 _)
theorem dL_law_550 : decode cL_law 550 = .ok (.aload_n 0, 1) := dec_of (s' := 551) (at_of zLd_17 (show zLb_17[6]? = some 0x2a from rfl) rfl) (zLo_2a 550 _)
theorem dL_law_551 : decode cL_law 551 = .ok (.iload 4, 2) := dec_u1 (g := fun n => .iload n) (at_of zLd_17 (show zLb_17[7]? = some 0x15 from rfl) rfl) (at_of zLd_17 (show zLb_17[8]? = some 0x04 from rfl) rfl) (zLo_15 551)
theorem dL_law_553 : decode cL_law 553 = .ok (.iconst 3, 1) := dec_of (s' := 554) (at_of zLd_17 (show zLb_17[9]? = some 0x06 from rfl) rfl) (zLo_06 553 _)
theorem dL_law_554 : decode cL_law 554 = .ok (.iadd, 1) := dec_of (s' := 555) (at_of zLd_17 (show zLb_17[10]? = some 0x60 from rfl) rfl) (zLo_60 554 _)
theorem dL_law_555 : decode cL_law 555 = .ok (.iaload, 1) := dec_of (s' := 556) (at_of zLd_17 (show zLb_17[11]? = some 0x2e from rfl) rfl) (zLo_2e 555 _)
theorem dL_law_556 : decode cL_law 556 = .ok (.invokevirtual 59, 3) := dec_u2 (g := fun n => .invokevirtual n) (at_of zLd_17 (show zLb_17[12]? = some 0xb6 from rfl) rfl) (at_of zLd_17 (show zLb_17[13]? = some 0x00 from rfl) rfl) (at_of zLd_17 (show zLb_17[14]? = some 0x3b from rfl) rfl) (zLo_b6 556)
theorem dL_law_559 : decode cL_law 559 = .ok (.aload_n 2, 1) := dec_of (s' := 560) (at_of zLd_17 (show zLb_17[15]? = some 0x2c from rfl) rfl) (zLo_2c 559 _)
theorem dL_law_560 : decode cL_law 560 = .ok (.aload_n 0, 1) := dec_of (s' := 561) (at_of zLd_17 (show zLb_17[16]? = some 0x2a from rfl) rfl) (zLo_2a 560 _)
theorem dL_law_561 : decode cL_law 561 = .ok (.iload 4, 2) := dec_u1 (g := fun n => .iload n) (at_of zLd_17 (show zLb_17[17]? = some 0x15 from rfl) rfl) (at_of zLd_17 (show zLb_17[18]? = some 0x04 from rfl) rfl) (zLo_15 561)
theorem dL_law_563 : decode cL_law 563 = .ok (.iconst 1, 1) := dec_of (s' := 564) (at_of zLd_17 (show zLb_17[19]? = some 0x04 from rfl) rfl) (zLo_04 563 _)
theorem dL_law_564 : decode cL_law 564 = .ok (.iadd, 1) := dec_of (s' := 565) (at_of zLd_17 (show zLb_17[20]? = some 0x60 from rfl) rfl) (zLo_60 564 _)
theorem dL_law_565 : decode cL_law 565 = .ok (.iaload, 1) := dec_of (s' := 566) (at_of zLd_17 (show zLb_17[21]? = some 0x2e from rfl) rfl) (zLo_2e 565 _)
theorem dL_law_566 : decode cL_law 566 = .ok (.aload_n 0, 1) := dec_of (s' := 567) (at_of zLd_17 (show zLb_17[22]? = some 0x2a from rfl) rfl) (zLo_2a 566 _)
theorem dL_law_567 : decode cL_law 567 = .ok (.iload 4, 2) := dec_u1 (g := fun n => .iload n) (at_of zLd_17 (show zLb_17[23]? = some 0x15 from rfl) rfl) (at_of zLd_17 (show zLb_17[24]? = some 0x04 from rfl) rfl) (zLo_15 567)
theorem dL_law_569 : decode cL_law 569 = .ok (.iconst 2, 1) := dec_of (s' := 570) (at_of zLd_17 (show zLb_17[25]? = some 0x05 from rfl) rfl) (zLo_05 569 _)
theorem dL_law_570 : decode cL_law 570 = .ok (.iadd, 1) := dec_of (s' := 571) (at_of zLd_17 (show zLb_17[26]? = some 0x60 from rfl) rfl) (zLo_60 570 _)
theorem dL_law_571 : decode cL_law 571 = .ok (.iaload, 1) := dec_of (s' := 572) (at_of zLd_17 (show zLb_17[27]? = some 0x2e from rfl) rfl) (zLo_2e 571 _)
theorem dL_law_572 : decode cL_law 572 = .ok (.aload_n 0, 1) := dec_of (s' := 573) (at_of zLd_17 (show zLb_17[28]? = some 0x2a from rfl) rfl) (zLo_2a 572 _)
theorem dL_law_573 : decode cL_law 573 = .ok (.iload 4, 2) := dec_u1 (g := fun n => .iload n) (at_of zLd_17 (show zLb_17[29]? = some 0x15 from rfl) rfl) (at_of zLd_17 (show zLb_17[30]? = some 0x04 from rfl) rfl) (zLo_15 573)
theorem dL_law_575 : decode cL_law 575 = .ok (.iconst 3, 1) := dec_of (s' := 576) (at_of zLd_17 (show zLb_17[31]? = some 0x06 from rfl) rfl) (zLo_06 575 _)
theorem dL_law_576 : decode cL_law 576 = .ok (.iadd, 1) := dec_of (s' := 577) (at_of zLd_18 (show zLb_18[0]? = some 0x60 from rfl) rfl) (zLo_60 576 _)
theorem dL_law_577 : decode cL_law 577 = .ok (.iaload, 1) := dec_of (s' := 578) (at_of zLd_18 (show zLb_18[1]? = some 0x2e from rfl) rfl) (zLo_2e 577 _)
theorem dL_law_578 : decode cL_law 578 = .ok (.invokevirtual 62, 3) := dec_u2 (g := fun n => .invokevirtual n) (at_of zLd_18 (show zLb_18[2]? = some 0xb6 from rfl) rfl) (at_of zLd_18 (show zLb_18[3]? = some 0x00 from rfl) rfl) (at_of zLd_18 (show zLb_18[4]? = some 0x3e from rfl) rfl) (zLo_b6 578)
theorem dL_law_581 : decode cL_law 581 = .ok (.if_icmp .eq 1116, 3) := by decide +kernel
theorem dL_law_584 : decode cL_law 584 = .ok (.iconst 0, 1) := dec_of (s' := 585) (at_of zLd_18 (show zLb_18[8]? = some 0x03 from rfl) rfl) (zLo_03 584 _)
theorem dL_law_585 : decode cL_law 585 = .ok (.ireturn, 1) := dec_of (s' := 586) (at_of zLd_18 (show zLb_18[9]? = some 0xac from rfl) rfl) (zLo_ac 585 _)
theorem dL_law_586 : decode cL_law 586 = .ok (.aload_n 1, 1) := dec_of (s' := 587) (at_of zLd_18 (show zLb_18[10]? = some 0x2b from rfl) rfl) (zLo_2b 586 _)
theorem dL_law_587 : decode cL_law 587 = .ok (.aload_n 0, 1) := dec_of (s' := 588) (at_of zLd_18 (show zLb_18[11]? = some 0x2a from rfl) rfl) (zLo_2a 587 _)
theorem dL_law_588 : decode cL_law 588 = .ok (.iload 4, 2) := dec_u1 (g := fun n => .iload n) (at_of zLd_18 (show zLb_18[12]? = some 0x15 from rfl) rfl) (at_of zLd_18 (show zLb_18[13]? = some 0x04 from rfl) rfl) (zLo_15 588)
theorem dL_law_590 : decode cL_law 590 = .ok (.iconst 1, 1) := dec_of (s' := 591) (at_of zLd_18 (show zLb_18[14]? = some 0x04 from rfl) rfl) (zLo_04 590 _)
theorem dL_law_591 : decode cL_law 591 = .ok (.iadd, 1) := dec_of (s' := 592) (at_of zLd_18 (show zLb_18[15]? = some 0x60 from rfl) rfl) (zLo_60 591 _)
theorem dL_law_592 : decode cL_law 592 = .ok (.iaload, 1) := dec_of (s' := 593) (at_of zLd_18 (show zLb_18[16]? = some 0x2e from rfl) rfl) (zLo_2e 592 _)
theorem dL_law_593 : decode cL_law 593 = .ok (.aload_n 0, 1) := dec_of (s' := 594) (at_of zLd_18 (show zLb_18[17]? = some 0x2a from rfl) rfl) (zLo_2a 593 _)
theorem dL_law_594 : decode cL_law 594 = .ok (.iload 4, 2) := dec_u1 (g := fun n => .iload n) (at_of zLd_18 (show zLb_18[18]? = some 0x15 from rfl) rfl) (at_of zLd_18 (show zLb_18[19]? = some 0x04 from rfl) rfl) (zLo_15 594)
theorem dL_law_596 : decode cL_law 596 = .ok (.iconst 2, 1) := dec_of (s' := 597) (at_of zLd_18 (show zLb_18[20]? = some 0x05 from rfl) rfl) (zLo_05 596 _)
theorem dL_law_597 : decode cL_law 597 = .ok (.iadd, 1) := dec_of (s' := 598) (at_of zLd_18 (show zLb_18[21]? = some 0x60 from rfl) rfl) (zLo_60 597 _)
theorem dL_law_598 : decode cL_law 598 = .ok (.iaload, 1) := dec_of (s' := 599) (at_of zLd_18 (show zLb_18[22]? = some 0x2e from rfl) rfl) (zLo_2e 598 _)
theorem dL_law_599 : decode cL_law 599 = .ok (.ifCond .eq 7, 3) := by decide +kernel
theorem dL_law_602 : decode cL_law 602 = .ok (.iconst 1, 1) := dec_of (s' := 603) (at_of zLd_18 (show zLb_18[26]? = some 0x04 from rfl) rfl) (zLo_04 602 _)
theorem dL_law_603 : decode cL_law 603 = .ok (.goto 4, 3) := by decide +kernel
theorem dL_law_606 : decode cL_law 606 = .ok (.iconst 0, 1) := dec_of (s' := 607) (at_of zLd_18 (show zLb_18[30]? = some 0x03 from rfl) rfl) (zLo_03 606 _)
theorem dL_law_607 : decode cL_law 607 = .ok (.invokevirtual 63, 3) := dec_u2 (g := fun n => .invokevirtual n) (at_of zLd_18 (show zLb_18[31]? = some 0xb6 from rfl) rfl) (at_of zLd_19 (show zLb_19[0]? = some 0x00 from rfl) rfl) (at_of zLd_19 (show zLb_19[1]? = some 0x3f from rfl) rfl) (zLo_b6 607)
theorem dL_law_610 : decode cL_law 610 = .ok (.pop, 1) := dec_of (s' := 611) (at_of zLd_19 (show zLb_19[2]? = some 0x57 from rfl) rfl) (zLo_57 610 _)
theorem dL_law_611 : decode cL_law 611 = .ok (.aload_n 2, 1) := dec_of (s' := 612) (at_of zLd_19 (show zLb_19[3]? = some 0x2c from rfl) rfl) (zLo_2c 611 _)
theorem dL_law_612 : decode cL_law 612 = .ok (.aload_n 0, 1) := dec_of (s' := 613) (at_of zLd_19 (show zLb_19[4]? = some 0x2a from rfl) rfl) (zLo_2a 612 _)
theorem dL_law_613 : decode cL_law 613 = .ok (.iload 4, 2) := dec_u1 (g := fun n => .iload n) (at_of zLd_19 (show zLb_19[5]? = some 0x15 from rfl) rfl) (at_of zLd_19 (show zLb_19[6]? = some 0x04 from rfl) rfl) (zLo_15 613)
theorem dL_law_615 : decode cL_law 615 = .ok (.iconst 1, 1) := dec_of (s' := 616) (at_of zLd_19 (show zLb_19[7]? = some 0x04 from rfl) rfl) (zLo_04 615 _)
theorem dL_law_616 : decode cL_law 616 = .ok (.iadd, 1) := dec_of (s' := 617) (at_of zLd_19 (show zLb_19[8]? = some 0x60 from rfl) rfl) (zLo_60 616 _)
theorem dL_law_617 : decode cL_law 617 = .ok (.iaload, 1) := dec_of (s' := 618) (at_of zLd_19 (show zLb_19[9]? = some 0x2e from rfl) rfl) (zLo_2e 617 _)
theorem dL_law_618 : decode cL_law 618 = .ok (.aload_n 0, 1) := dec_of (s' := 619) (at_of zLd_19 (show zLb_19[10]? = some 0x2a from rfl) rfl) (zLo_2a 618 _)
theorem dL_law_619 : decode cL_law 619 = .ok (.iload 4, 2) := dec_u1 (g := fun n => .iload n) (at_of zLd_19 (show zLb_19[11]? = some 0x15 from rfl) rfl) (at_of zLd_19 (show zLb_19[12]? = some 0x04 from rfl) rfl) (zLo_15 619)
theorem dL_law_621 : decode cL_law 621 = .ok (.iconst 2, 1) := dec_of (s' := 622) (at_of zLd_19 (show zLb_19[13]? = some 0x05 from rfl) rfl) (zLo_05 621 _)
theorem dL_law_622 : decode cL_law 622 = .ok (.iadd, 1) := dec_of (s' := 623) (at_of zLd_19 (show zLb_19[14]? = some 0x60 from rfl) rfl) (zLo_60 622 _)
theorem dL_law_623 : decode cL_law 623 = .ok (.iaload, 1) := dec_of (s' := 624) (at_of zLd_19 (show zLb_19[15]? = some 0x2e from rfl) rfl) (zLo_2e 623 _)
theorem dL_law_624 : decode cL_law 624 = .ok (.ifCond .eq 7, 3) := by decide +kernel
theorem dL_law_627 : decode cL_law 627 = .ok (.iconst 1, 1) := dec_of (s' := 628) (at_of zLd_19 (show zLb_19[19]? = some 0x04 from rfl) rfl) (zLo_04 627 _)
theorem dL_law_628 : decode cL_law 628 = .ok (.goto 4, 3) := by decide +kernel
theorem dL_law_631 : decode cL_law 631 = .ok (.iconst 0, 1) := dec_of (s' := 632) (at_of zLd_19 (show zLb_19[23]? = some 0x03 from rfl) rfl) (zLo_03 631 _)
theorem dL_law_632 : decode cL_law 632 = .ok (.invokevirtual 67, 3) := dec_u2 (g := fun n => .invokevirtual n) (at_of zLd_19 (show zLb_19[24]? = some 0xb6 from rfl) rfl) (at_of zLd_19 (show zLb_19[25]? = some 0x00 from rfl) rfl) (at_of zLd_19 (show zLb_19[26]? = some 0x43 from rfl) rfl) (zLo_b6 632)
theorem dL_law_635 : decode cL_law 635 = .ok (.pop, 1) := dec_of (s' := 636) (at_of zLd_19 (show zLb_19[27]? = some 0x57 from rfl) rfl) (zLo_57 635 _)
theorem dL_law_636 : decode cL_law 636 = .ok (.goto 1061, 3) := by decide +kernel
theorem dL_law_639 : decode cL_law 639 = .ok (.aload_n 1, 1) := dec_of (s' := 640) (at_of zLd_19 (show zLb_19[31]? = some 0x2b from rfl) rfl) (zLo_2b 639 _)
theorem dL_law_640 : decode cL_law 640 = .ok (.invokevirtual 68, 3) := dec_u2 (g := fun n => .invokevirtual n) (at_of zLd_20 (show zLb_20[0]? = some 0xb6 from rfl) rfl) (at_of zLd_20 (show zLb_20[1]? = some 0x00 from rfl) rfl) (at_of zLd_20 (show zLb_20[2]? = some 0x44 from rfl) rfl) (zLo_b6 640)
theorem dL_law_643 : decode cL_law 643 = .ok (.pop, 1) := dec_of (s' := 644) (at_of zLd_20 (show zLb_20[3]? = some 0x57 from rfl) rfl) (zLo_57 643 _)
theorem dL_law_644 : decode cL_law 644 = .ok (.aload_n 2, 1) := dec_of (s' := 645) (at_of zLd_20 (show zLb_20[4]? = some 0x2c from rfl) rfl) (zLo_2c 644 _)
theorem dL_law_645 : decode cL_law 645 = .ok (.invokevirtual 72, 3) := dec_u2 (g := fun n => .invokevirtual n) (at_of zLd_20 (show zLb_20[5]? = some 0xb6 from rfl) rfl) (at_of zLd_20 (show zLb_20[6]? = some 0x00 from rfl) rfl) (at_of zLd_20 (show zLb_20[7]? = some 0x48 from rfl) rfl) (zLo_b6 645)
theorem dL_law_648 : decode cL_law 648 = .ok (.pop, 1) := dec_of (s' := 649) (at_of zLd_20 (show zLb_20[8]? = some 0x57 from rfl) rfl) (zLo_57 648 _)
theorem dL_law_649 : decode cL_law 649 = .ok (.goto 1048, 3) := by decide +kernel
theorem dL_law_652 : decode cL_law 652 = .ok (.aload_n 1, 1) := dec_of (s' := 653) (at_of zLd_20 (show zLb_20[12]? = some 0x2b from rfl) rfl) (zLo_2b 652 _)
theorem dL_law_653 : decode cL_law 653 = .ok (.aload_n 0, 1) := dec_of (s' := 654) (at_of zLd_20 (show zLb_20[13]? = some 0x2a from rfl) rfl) (zLo_2a 653 _)
theorem dL_law_654 : decode cL_law 654 = .ok (.iload 4, 2) := dec_u1 (g := fun n => .iload n) (at_of zLd_20 (show zLb_20[14]? = some 0x15 from rfl) rfl) (at_of zLd_20 (show zLb_20[15]? = some 0x04 from rfl) rfl) (zLo_15 654)
theorem dL_law_656 : decode cL_law 656 = .ok (.iconst 1, 1) := dec_of (s' := 657) (at_of zLd_20 (show zLb_20[16]? = some 0x04 from rfl) rfl) (zLo_04 656 _)
theorem dL_law_657 : decode cL_law 657 = .ok (.iadd, 1) := dec_of (s' := 658) (at_of zLd_20 (show zLb_20[17]? = some 0x60 from rfl) rfl) (zLo_60 657 _)
theorem dL_law_658 : decode cL_law 658 = .ok (.iaload, 1) := dec_of (s' := 659) (at_of zLd_20 (show zLb_20[18]? = some 0x2e from rfl) rfl) (zLo_2e 658 _)
theorem dL_law_659 : decode cL_law 659 = .ok (.aload_n 0, 1) := dec_of (s' := 660) (at_of zLd_20 (show zLb_20[19]? = some 0x2a from rfl) rfl) (zLo_2a 659 _)
theorem dL_law_660 : decode cL_law 660 = .ok (.iload 4, 2) := dec_u1 (g := fun n => .iload n) (at_of zLd_20 (show zLb_20[20]? = some 0x15 from rfl) rfl) (at_of zLd_20 (show zLb_20[21]? = some 0x04 from rfl) rfl) (zLo_15 660)
theorem dL_law_662 : decode cL_law 662 = .ok (.iconst 2, 1) := dec_of (s' := 663) (at_of zLd_20 (show zLb_20[22]? = some 0x05 from rfl) rfl) (zLo_05 662 _)
theorem dL_law_663 : decode cL_law 663 = .ok (.iadd, 1) := dec_of (s' := 664) (at_of zLd_20 (show zLb_20[23]? = some 0x60 from rfl) rfl) (zLo_60 663 _)
theorem dL_law_664 : decode cL_law 664 = .ok (.iaload, 1) := dec_of (s' := 665) (at_of zLd_20 (show zLb_20[24]? = some 0x2e from rfl) rfl) (zLo_2e 664 _)
theorem dL_law_665 : decode cL_law 665 = .ok (.ifCond .eq 7, 3) := by decide +kernel
theorem dL_law_668 : decode cL_law 668 = .ok (.iconst 1, 1) := dec_of (s' := 669) (at_of zLd_20 (show zLb_20[28]? = some 0x04 from rfl) rfl) (zLo_04 668 _)
theorem dL_law_669 : decode cL_law 669 = .ok (.goto 4, 3) := by decide +kernel
theorem dL_law_672 : decode cL_law 672 = .ok (.iconst 0, 1) := dec_of (s' := 673) (at_of zLd_21 (show zLb_21[0]? = some 0x03 from rfl) rfl) (zLo_03 672 _)
theorem dL_law_673 : decode cL_law 673 = .ok (.invokevirtual 73, 3) := dec_u2 (g := fun n => .invokevirtual n) (at_of zLd_21 (show zLb_21[1]? = some 0xb6 from rfl) rfl) (at_of zLd_21 (show zLb_21[2]? = some 0x00 from rfl) rfl) (at_of zLd_21 (show zLb_21[3]? = some 0x49 from rfl) rfl) (zLo_b6 673)
theorem dL_law_676 : decode cL_law 676 = .ok (.pop, 1) := dec_of (s' := 677) (at_of zLd_21 (show zLb_21[4]? = some 0x57 from rfl) rfl) (zLo_57 676 _)
theorem dL_law_677 : decode cL_law 677 = .ok (.aload_n 2, 1) := dec_of (s' := 678) (at_of zLd_21 (show zLb_21[5]? = some 0x2c from rfl) rfl) (zLo_2c 677 _)
theorem dL_law_678 : decode cL_law 678 = .ok (.aload_n 0, 1) := dec_of (s' := 679) (at_of zLd_21 (show zLb_21[6]? = some 0x2a from rfl) rfl) (zLo_2a 678 _)
theorem dL_law_679 : decode cL_law 679 = .ok (.iload 4, 2) := dec_u1 (g := fun n => .iload n) (at_of zLd_21 (show zLb_21[7]? = some 0x15 from rfl) rfl) (at_of zLd_21 (show zLb_21[8]? = some 0x04 from rfl) rfl) (zLo_15 679)
theorem dL_law_681 : decode cL_law 681 = .ok (.iconst 1, 1) := dec_of (s' := 682) (at_of zLd_21 (show zLb_21[9]? = some 0x04 from rfl) rfl) (zLo_04 681 _)
theorem dL_law_682 : decode cL_law 682 = .ok (.iadd, 1) := dec_of (s' := 683) (at_of zLd_21 (show zLb_21[10]? = some 0x60 from rfl) rfl) (zLo_60 682 _)
theorem dL_law_683 : decode cL_law 683 = .ok (.iaload, 1) := dec_of (s' := 684) (at_of zLd_21 (show zLb_21[11]? = some 0x2e from rfl) rfl) (zLo_2e 683 _)
theorem dL_law_684 : decode cL_law 684 = .ok (.aload_n 0, 1) := dec_of (s' := 685) (at_of zLd_21 (show zLb_21[12]? = some 0x2a from rfl) rfl) (zLo_2a 684 _)
theorem dL_law_685 : decode cL_law 685 = .ok (.iload 4, 2) := dec_u1 (g := fun n => .iload n) (at_of zLd_21 (show zLb_21[13]? = some 0x15 from rfl) rfl) (at_of zLd_21 (show zLb_21[14]? = some 0x04 from rfl) rfl) (zLo_15 685)
theorem dL_law_687 : decode cL_law 687 = .ok (.iconst 2, 1) := dec_of (s' := 688) (at_of zLd_21 (show zLb_21[15]? = some 0x05 from rfl) rfl) (zLo_05 687 _)
theorem dL_law_688 : decode cL_law 688 = .ok (.iadd, 1) := dec_of (s' := 689) (at_of zLd_21 (show zLb_21[16]? = some 0x60 from rfl) rfl) (zLo_60 688 _)
theorem dL_law_689 : decode cL_law 689 = .ok (.iaload, 1) := dec_of (s' := 690) (at_of zLd_21 (show zLb_21[17]? = some 0x2e from rfl) rfl) (zLo_2e 689 _)
theorem dL_law_690 : decode cL_law 690 = .ok (.ifCond .eq 7, 3) := by decide +kernel
theorem dL_law_693 : decode cL_law 693 = .ok (.iconst 1, 1) := dec_of (s' := 694) (at_of zLd_21 (show zLb_21[21]? = some 0x04 from rfl) rfl) (zLo_04 693 _)
theorem dL_law_694 : decode cL_law 694 = .ok (.goto 4, 3) := by decide +kernel
theorem dL_law_697 : decode cL_law 697 = .ok (.iconst 0, 1) := dec_of (s' := 698) (at_of zLd_21 (show zLb_21[25]? = some 0x03 from rfl) rfl) (zLo_03 697 _)
theorem dL_law_698 : decode cL_law 698 = .ok (.invokevirtual 77, 3) := dec_u2 (g := fun n => .invokevirtual n) (at_of zLd_21 (show zLb_21[26]? = some 0xb6 from rfl) rfl) (at_of zLd_21 (show zLb_21[27]? = some 0x00 from rfl) rfl) (at_of zLd_21 (show zLb_21[28]? = some 0x4d from rfl) rfl) (zLo_b6 698)
theorem dL_law_701 : decode cL_law 701 = .ok (.pop, 1) := dec_of (s' := 702) (at_of zLd_21 (show zLb_21[29]? = some 0x57 from rfl) rfl) (zLo_57 701 _)
theorem dL_law_702 : decode cL_law 702 = .ok (.goto 995, 3) := by decide +kernel
theorem dL_law_705 : decode cL_law 705 = .ok (.aload_n 1, 1) := dec_of (s' := 706) (at_of zLd_22 (show zLb_22[1]? = some 0x2b from rfl) rfl) (zLo_2b 705 _)
theorem dL_law_706 : decode cL_law 706 = .ok (.aload_n 0, 1) := dec_of (s' := 707) (at_of zLd_22 (show zLb_22[2]? = some 0x2a from rfl) rfl) (zLo_2a 706 _)
theorem dL_law_707 : decode cL_law 707 = .ok (.iload 4, 2) := dec_u1 (g := fun n => .iload n) (at_of zLd_22 (show zLb_22[3]? = some 0x15 from rfl) rfl) (at_of zLd_22 (show zLb_22[4]? = some 0x04 from rfl) rfl) (zLo_15 707)
theorem dL_law_709 : decode cL_law 709 = .ok (.iconst 1, 1) := dec_of (s' := 710) (at_of zLd_22 (show zLb_22[5]? = some 0x04 from rfl) rfl) (zLo_04 709 _)
theorem dL_law_710 : decode cL_law 710 = .ok (.iadd, 1) := dec_of (s' := 711) (at_of zLd_22 (show zLb_22[6]? = some 0x60 from rfl) rfl) (zLo_60 710 _)
theorem dL_law_711 : decode cL_law 711 = .ok (.iaload, 1) := dec_of (s' := 712) (at_of zLd_22 (show zLb_22[7]? = some 0x2e from rfl) rfl) (zLo_2e 711 _)
theorem dL_law_712 : decode cL_law 712 = .ok (.aload_n 0, 1) := dec_of (s' := 713) (at_of zLd_22 (show zLb_22[8]? = some 0x2a from rfl) rfl) (zLo_2a 712 _)
theorem dL_law_713 : decode cL_law 713 = .ok (.iload 4, 2) := dec_u1 (g := fun n => .iload n) (at_of zLd_22 (show zLb_22[9]? = some 0x15 from rfl) rfl) (at_of zLd_22 (show zLb_22[10]? = some 0x04 from rfl) rfl) (zLo_15 713)
theorem dL_law_715 : decode cL_law 715 = .ok (.iconst 2, 1) := dec_of (s' := 716) (at_of zLd_22 (show zLb_22[11]? = some 0x05 from rfl) rfl) (zLo_05 715 _)
theorem dL_law_716 : decode cL_law 716 = .ok (.iadd, 1) := dec_of (s' := 717) (at_of zLd_22 (show zLb_22[12]? = some 0x60 from rfl) rfl) (zLo_60 716 _)
theorem dL_law_717 : decode cL_law 717 = .ok (.iaload, 1) := dec_of (s' := 718) (at_of zLd_22 (show zLb_22[13]? = some 0x2e from rfl) rfl) (zLo_2e 717 _)
theorem dL_law_718 : decode cL_law 718 = .ok (.invokevirtual 78, 3) := dec_u2 (g := fun n => .invokevirtual n) (at_of zLd_22 (show zLb_22[14]? = some 0xb6 from rfl) rfl) (at_of zLd_22 (show zLb_22[15]? = some 0x00 from rfl) rfl) (at_of zLd_22 (show zLb_22[16]? = some 0x4e from rfl) rfl) (zLo_b6 718)
theorem dL_law_721 : decode cL_law 721 = .ok (.pop, 1) := dec_of (s' := 722) (at_of zLd_22 (show zLb_22[17]? = some 0x57 from rfl) rfl) (zLo_57 721 _)
theorem dL_law_722 : decode cL_law 722 = .ok (.aload_n 2, 1) := dec_of (s' := 723) (at_of zLd_22 (show zLb_22[18]? = some 0x2c from rfl) rfl) (zLo_2c 722 _)
theorem dL_law_723 : decode cL_law 723 = .ok (.aload_n 0, 1) := dec_of (s' := 724) (at_of zLd_22 (show zLb_22[19]? = some 0x2a from rfl) rfl) (zLo_2a 723 _)
theorem dL_law_724 : decode cL_law 724 = .ok (.iload 4, 2) := dec_u1 (g := fun n => .iload n) (at_of zLd_22 (show zLb_22[20]? = some 0x15 from rfl) rfl) (at_of zLd_22 (show zLb_22[21]? = some 0x04 from rfl) rfl) (zLo_15 724)
theorem dL_law_726 : decode cL_law 726 = .ok (.iconst 1, 1) := dec_of (s' := 727) (at_of zLd_22 (show zLb_22[22]? = some 0x04 from rfl) rfl) (zLo_04 726 _)
theorem dL_law_727 : decode cL_law 727 = .ok (.iadd, 1) := dec_of (s' := 728) (at_of zLd_22 (show zLb_22[23]? = some 0x60 from rfl) rfl) (zLo_60 727 _)
theorem dL_law_728 : decode cL_law 728 = .ok (.iaload, 1) := dec_of (s' := 729) (at_of zLd_22 (show zLb_22[24]? = some 0x2e from rfl) rfl) (zLo_2e 728 _)
theorem dL_law_729 : decode cL_law 729 = .ok (.aload_n 0, 1) := dec_of (s' := 730) (at_of zLd_22 (show zLb_22[25]? = some 0x2a from rfl) rfl) (zLo_2a 729 _)
theorem dL_law_730 : decode cL_law 730 = .ok (.iload 4, 2) := dec_u1 (g := fun n => .iload n) (at_of zLd_22 (show zLb_22[26]? = some 0x15 from rfl) rfl) (at_of zLd_22 (show zLb_22[27]? = some 0x04 from rfl) rfl) (zLo_15 730)
theorem dL_law_732 : decode cL_law 732 = .ok (.iconst 2, 1) := dec_of (s' := 733) (at_of zLd_22 (show zLb_22[28]? = some 0x05 from rfl) rfl) (zLo_05 732 _)
theorem dL_law_733 : decode cL_law 733 = .ok (.iadd, 1) := dec_of (s' := 734) (at_of zLd_22 (show zLb_22[29]? = some 0x60 from rfl) rfl) (zLo_60 733 _)
theorem dL_law_734 : decode cL_law 734 = .ok (.iaload, 1) := dec_of (s' := 735) (at_of zLd_22 (show zLb_22[30]? = some 0x2e from rfl) rfl) (zLo_2e 734 _)
theorem dL_law_735 : decode cL_law 735 = .ok (.invokevirtual 81, 3) := dec_u2 (g := fun n => .invokevirtual n) (at_of zLd_22 (show zLb_22[31]? = some 0xb6 from rfl) rfl) (at_of zLd_23 (show zLb_23[0]? = some 0x00 from rfl) rfl) (at_of zLd_23 (show zLb_23[1]? = some 0x51 from rfl) rfl) (zLo_b6 735)
theorem dL_law_738 : decode cL_law 738 = .ok (.pop, 1) := dec_of (s' := 739) (at_of zLd_23 (show zLb_23[2]? = some 0x57 from rfl) rfl) (zLo_57 738 _)
theorem dL_law_739 : decode cL_law 739 = .ok (.goto 958, 3) := by decide +kernel
theorem dL_law_742 : decode cL_law 742 = .ok (.aload_n 1, 1) := dec_of (s' := 743) (at_of zLd_23 (show zLb_23[6]? = some 0x2b from rfl) rfl) (zLo_2b 742 _)
theorem dL_law_743 : decode cL_law 743 = .ok (.aload_n 0, 1) := dec_of (s' := 744) (at_of zLd_23 (show zLb_23[7]? = some 0x2a from rfl) rfl) (zLo_2a 743 _)
theorem dL_law_744 : decode cL_law 744 = .ok (.iload 4, 2) := dec_u1 (g := fun n => .iload n) (at_of zLd_23 (show zLb_23[8]? = some 0x15 from rfl) rfl) (at_of zLd_23 (show zLb_23[9]? = some 0x04 from rfl) rfl) (zLo_15 744)
theorem dL_law_746 : decode cL_law 746 = .ok (.iconst 1, 1) := dec_of (s' := 747) (at_of zLd_23 (show zLb_23[10]? = some 0x04 from rfl) rfl) (zLo_04 746 _)
theorem dL_law_747 : decode cL_law 747 = .ok (.iadd, 1) := dec_of (s' := 748) (at_of zLd_23 (show zLb_23[11]? = some 0x60 from rfl) rfl) (zLo_60 747 _)
theorem dL_law_748 : decode cL_law 748 = .ok (.iaload, 1) := dec_of (s' := 749) (at_of zLd_23 (show zLb_23[12]? = some 0x2e from rfl) rfl) (zLo_2e 748 _)
theorem dL_law_749 : decode cL_law 749 = .ok (.aload_n 0, 1) := dec_of (s' := 750) (at_of zLd_23 (show zLb_23[13]? = some 0x2a from rfl) rfl) (zLo_2a 749 _)
theorem dL_law_750 : decode cL_law 750 = .ok (.iload 4, 2) := dec_u1 (g := fun n => .iload n) (at_of zLd_23 (show zLb_23[14]? = some 0x15 from rfl) rfl) (at_of zLd_23 (show zLb_23[15]? = some 0x04 from rfl) rfl) (zLo_15 750)
theorem dL_law_752 : decode cL_law 752 = .ok (.iconst 2, 1) := dec_of (s' := 753) (at_of zLd_23 (show zLb_23[16]? = some 0x05 from rfl) rfl) (zLo_05 752 _)
theorem dL_law_753 : decode cL_law 753 = .ok (.iadd, 1) := dec_of (s' := 754) (at_of zLd_23 (show zLb_23[17]? = some 0x60 from rfl) rfl) (zLo_60 753 _)
theorem dL_law_754 : decode cL_law 754 = .ok (.iaload, 1) := dec_of (s' := 755) (at_of zLd_23 (show zLb_23[18]? = some 0x2e from rfl) rfl) (zLo_2e 754 _)
theorem dL_law_755 : decode cL_law 755 = .ok (.aload_n 0, 1) := dec_of (s' := 756) (at_of zLd_23 (show zLb_23[19]? = some 0x2a from rfl) rfl) (zLo_2a 755 _)
theorem dL_law_756 : decode cL_law 756 = .ok (.iload 4, 2) := dec_u1 (g := fun n => .iload n) (at_of zLd_23 (show zLb_23[20]? = some 0x15 from rfl) rfl) (at_of zLd_23 (show zLb_23[21]? = some 0x04 from rfl) rfl) (zLo_15 756)
theorem dL_law_758 : decode cL_law 758 = .ok (.iconst 3, 1) := dec_of (s' := 759) (at_of zLd_23 (show zLb_23[22]? = some 0x06 from rfl) rfl) (zLo_06 758 _)
theorem dL_law_759 : decode cL_law 759 = .ok (.iadd, 1) := dec_of (s' := 760) (at_of zLd_23 (show zLb_23[23]? = some 0x60 from rfl) rfl) (zLo_60 759 _)
theorem dL_law_760 : decode cL_law 760 = .ok (.iaload, 1) := dec_of (s' := 761) (at_of zLd_23 (show zLb_23[24]? = some 0x2e from rfl) rfl) (zLo_2e 760 _)
theorem dL_law_761 : decode cL_law 761 = .ok (.aload_n 0, 1) := dec_of (s' := 762) (at_of zLd_23 (show zLb_23[25]? = some 0x2a from rfl) rfl) (zLo_2a 761 _)
theorem dL_law_762 : decode cL_law 762 = .ok (.iload 4, 2) := dec_u1 (g := fun n => .iload n) (at_of zLd_23 (show zLb_23[26]? = some 0x15 from rfl) rfl) (at_of zLd_23 (show zLb_23[27]? = some 0x04 from rfl) rfl) (zLo_15 762)
theorem dL_law_764 : decode cL_law 764 = .ok (.iconst 4, 1) := dec_of (s' := 765) (at_of zLd_23 (show zLb_23[28]? = some 0x07 from rfl) rfl) (zLo_07 764 _)
theorem dL_law_765 : decode cL_law 765 = .ok (.iadd, 1) := dec_of (s' := 766) (at_of zLd_23 (show zLb_23[29]? = some 0x60 from rfl) rfl) (zLo_60 765 _)
theorem dL_law_766 : decode cL_law 766 = .ok (.iaload, 1) := dec_of (s' := 767) (at_of zLd_23 (show zLb_23[30]? = some 0x2e from rfl) rfl) (zLo_2e 766 _)
theorem dL_law_767 : decode cL_law 767 = .ok (.invokevirtual 82, 3) := dec_u2 (g := fun n => .invokevirtual n) (at_of zLd_23 (show zLb_23[31]? = some 0xb6 from rfl) rfl) (at_of zLd_24 (show zLb_24[0]? = some 0x00 from rfl) rfl) (at_of zLd_24 (show zLb_24[1]? = some 0x52 from rfl) rfl) (zLo_b6 767)
theorem dL_law_770 : decode cL_law 770 = .ok (.pop, 1) := dec_of (s' := 771) (at_of zLd_24 (show zLb_24[2]? = some 0x57 from rfl) rfl) (zLo_57 770 _)
theorem dL_law_771 : decode cL_law 771 = .ok (.aload_n 2, 1) := dec_of (s' := 772) (at_of zLd_24 (show zLb_24[3]? = some 0x2c from rfl) rfl) (zLo_2c 771 _)
theorem dL_law_772 : decode cL_law 772 = .ok (.aload_n 0, 1) := dec_of (s' := 773) (at_of zLd_24 (show zLb_24[4]? = some 0x2a from rfl) rfl) (zLo_2a 772 _)
theorem dL_law_773 : decode cL_law 773 = .ok (.iload 4, 2) := dec_u1 (g := fun n => .iload n) (at_of zLd_24 (show zLb_24[5]? = some 0x15 from rfl) rfl) (at_of zLd_24 (show zLb_24[6]? = some 0x04 from rfl) rfl) (zLo_15 773)
theorem dL_law_775 : decode cL_law 775 = .ok (.iconst 1, 1) := dec_of (s' := 776) (at_of zLd_24 (show zLb_24[7]? = some 0x04 from rfl) rfl) (zLo_04 775 _)
theorem dL_law_776 : decode cL_law 776 = .ok (.iadd, 1) := dec_of (s' := 777) (at_of zLd_24 (show zLb_24[8]? = some 0x60 from rfl) rfl) (zLo_60 776 _)
theorem dL_law_777 : decode cL_law 777 = .ok (.iaload, 1) := dec_of (s' := 778) (at_of zLd_24 (show zLb_24[9]? = some 0x2e from rfl) rfl) (zLo_2e 777 _)
theorem dL_law_778 : decode cL_law 778 = .ok (.aload_n 0, 1) := dec_of (s' := 779) (at_of zLd_24 (show zLb_24[10]? = some 0x2a from rfl) rfl) (zLo_2a 778 _)
theorem dL_law_779 : decode cL_law 779 = .ok (.iload 4, 2) := dec_u1 (g := fun n => .iload n) (at_of zLd_24 (show zLb_24[11]? = some 0x15 from rfl) rfl) (at_of zLd_24 (show zLb_24[12]? = some 0x04 from rfl) rfl) (zLo_15 779)
theorem dL_law_781 : decode cL_law 781 = .ok (.iconst 2, 1) := dec_of (s' := 782) (at_of zLd_24 (show zLb_24[13]? = some 0x05 from rfl) rfl) (zLo_05 781 _)
theorem dL_law_782 : decode cL_law 782 = .ok (.iadd, 1) := dec_of (s' := 783) (at_of zLd_24 (show zLb_24[14]? = some 0x60 from rfl) rfl) (zLo_60 782 _)
theorem dL_law_783 : decode cL_law 783 = .ok (.iaload, 1) := dec_of (s' := 784) (at_of zLd_24 (show zLb_24[15]? = some 0x2e from rfl) rfl) (zLo_2e 783 _)
theorem dL_law_784 : decode cL_law 784 = .ok (.aload_n 0, 1) := dec_of (s' := 785) (at_of zLd_24 (show zLb_24[16]? = some 0x2a from rfl) rfl) (zLo_2a 784 _)
theorem dL_law_785 : decode cL_law 785 = .ok (.iload 4, 2) := dec_u1 (g := fun n => .iload n) (at_of zLd_24 (show zLb_24[17]? = some 0x15 from rfl) rfl) (at_of zLd_24 (show zLb_24[18]? = some 0x04 from rfl) rfl) (zLo_15 785)
theorem dL_law_787 : decode cL_law 787 = .ok (.iconst 3, 1) := dec_of (s' := 788) (at_of zLd_24 (show zLb_24[19]? = some 0x06 from rfl) rfl) (zLo_06 787 _)
theorem dL_law_788 : decode cL_law 788 = .ok (.iadd, 1) := dec_of (s' := 789) (at_of zLd_24 (show zLb_24[20]? = some 0x60 from rfl) rfl) (zLo_60 788 _)
theorem dL_law_789 : decode cL_law 789 = .ok (.iaload, 1) := dec_of (s' := 790) (at_of zLd_24 (show zLb_24[21]? = some 0x2e from rfl) rfl) (zLo_2e 789 _)
theorem dL_law_790 : decode cL_law 790 = .ok (.aload_n 0, 1) := dec_of (s' := 791) (at_of zLd_24 (show zLb_24[22]? = some 0x2a from rfl) rfl) (zLo_2a 790 _)
theorem dL_law_791 : decode cL_law 791 = .ok (.iload 4, 2) := dec_u1 (g := fun n => .iload n) (at_of zLd_24 (show zLb_24[23]? = some 0x15 from rfl) rfl) (at_of zLd_24 (show zLb_24[24]? = some 0x04 from rfl) rfl) (zLo_15 791)
theorem dL_law_793 : decode cL_law 793 = .ok (.iconst 4, 1) := dec_of (s' := 794) (at_of zLd_24 (show zLb_24[25]? = some 0x07 from rfl) rfl) (zLo_07 793 _)
theorem dL_law_794 : decode cL_law 794 = .ok (.iadd, 1) := dec_of (s' := 795) (at_of zLd_24 (show zLb_24[26]? = some 0x60 from rfl) rfl) (zLo_60 794 _)
theorem dL_law_795 : decode cL_law 795 = .ok (.iaload, 1) := dec_of (s' := 796) (at_of zLd_24 (show zLb_24[27]? = some 0x2e from rfl) rfl) (zLo_2e 795 _)
theorem dL_law_796 : decode cL_law 796 = .ok (.invokevirtual 86, 3) := dec_u2 (g := fun n => .invokevirtual n) (at_of zLd_24 (show zLb_24[28]? = some 0xb6 from rfl) rfl) (at_of zLd_24 (show zLb_24[29]? = some 0x00 from rfl) rfl) (at_of zLd_24 (show zLb_24[30]? = some 0x56 from rfl) rfl) (zLo_b6 796)
theorem dL_law_799 : decode cL_law 799 = .ok (.pop, 1) := dec_of (s' := 800) (at_of zLd_24 (show zLb_24[31]? = some 0x57 from rfl) rfl) (zLo_57 799 _)
theorem dL_law_800 : decode cL_law 800 = .ok (.goto 897, 3) := by decide +kernel
theorem dL_law_803 : decode cL_law 803 = .ok (.aload_n 1, 1) := dec_of (s' := 804) (at_of zLd_25 (show zLb_25[3]? = some 0x2b from rfl) rfl) (zLo_2b 803 _)
theorem dL_law_804 : decode cL_law 804 = .ok (.aload_n 0, 1) := dec_of (s' := 805) (at_of zLd_25 (show zLb_25[4]? = some 0x2a from rfl) rfl) (zLo_2a 804 _)
theorem dL_law_805 : decode cL_law 805 = .ok (.iload 4, 2) := dec_u1 (g := fun n => .iload n) (at_of zLd_25 (show zLb_25[5]? = some 0x15 from rfl) rfl) (at_of zLd_25 (show zLb_25[6]? = some 0x04 from rfl) rfl) (zLo_15 805)
theorem dL_law_807 : decode cL_law 807 = .ok (.iconst 1, 1) := dec_of (s' := 808) (at_of zLd_25 (show zLb_25[7]? = some 0x04 from rfl) rfl) (zLo_04 807 _)
theorem dL_law_808 : decode cL_law 808 = .ok (.iadd, 1) := dec_of (s' := 809) (at_of zLd_25 (show zLb_25[8]? = some 0x60 from rfl) rfl) (zLo_60 808 _)
theorem dL_law_809 : decode cL_law 809 = .ok (.iaload, 1) := dec_of (s' := 810) (at_of zLd_25 (show zLb_25[9]? = some 0x2e from rfl) rfl) (zLo_2e 809 _)
theorem dL_law_810 : decode cL_law 810 = .ok (.aload_n 0, 1) := dec_of (s' := 811) (at_of zLd_25 (show zLb_25[10]? = some 0x2a from rfl) rfl) (zLo_2a 810 _)
theorem dL_law_811 : decode cL_law 811 = .ok (.iload 4, 2) := dec_u1 (g := fun n => .iload n) (at_of zLd_25 (show zLb_25[11]? = some 0x15 from rfl) rfl) (at_of zLd_25 (show zLb_25[12]? = some 0x04 from rfl) rfl) (zLo_15 811)
theorem dL_law_813 : decode cL_law 813 = .ok (.iconst 2, 1) := dec_of (s' := 814) (at_of zLd_25 (show zLb_25[13]? = some 0x05 from rfl) rfl) (zLo_05 813 _)
theorem dL_law_814 : decode cL_law 814 = .ok (.iadd, 1) := dec_of (s' := 815) (at_of zLd_25 (show zLb_25[14]? = some 0x60 from rfl) rfl) (zLo_60 814 _)
theorem dL_law_815 : decode cL_law 815 = .ok (.iaload, 1) := dec_of (s' := 816) (at_of zLd_25 (show zLb_25[15]? = some 0x2e from rfl) rfl) (zLo_2e 815 _)
theorem dL_law_816 : decode cL_law 816 = .ok (.invokevirtual 87, 3) := dec_u2 (g := fun n => .invokevirtual n) (at_of zLd_25 (show zLb_25[16]? = some 0xb6 from rfl) rfl) (at_of zLd_25 (show zLb_25[17]? = some 0x00 from rfl) rfl) (at_of zLd_25 (show zLb_25[18]? = some 0x57 from rfl) rfl) (zLo_b6 816)
theorem dL_law_819 : decode cL_law 819 = .ok (.pop, 1) := dec_of (s' := 820) (at_of zLd_25 (show zLb_25[19]? = some 0x57 from rfl) rfl) (zLo_57 819 _)
theorem dL_law_820 : decode cL_law 820 = .ok (.aload_n 2, 1) := dec_of (s' := 821) (at_of zLd_25 (show zLb_25[20]? = some 0x2c from rfl) rfl) (zLo_2c 820 _)
theorem dL_law_821 : decode cL_law 821 = .ok (.aload_n 0, 1) := dec_of (s' := 822) (at_of zLd_25 (show zLb_25[21]? = some 0x2a from rfl) rfl) (zLo_2a 821 _)
theorem dL_law_822 : decode cL_law 822 = .ok (.iload 4, 2) := dec_u1 (g := fun n => .iload n) (at_of zLd_25 (show zLb_25[22]? = some 0x15 from rfl) rfl) (at_of zLd_25 (show zLb_25[23]? = some 0x04 from rfl) rfl) (zLo_15 822)
theorem dL_law_824 : decode cL_law 824 = .ok (.iconst 1, 1) := dec_of (s' := 825) (at_of zLd_25 (show zLb_25[24]? = some 0x04 from rfl) rfl) (zLo_04 824 _)
theorem dL_law_825 : decode cL_law 825 = .ok (.iadd, 1) := dec_of (s' := 826) (at_of zLd_25 (show zLb_25[25]? = some 0x60 from rfl) rfl) (zLo_60 825 _)
theorem dL_law_826 : decode cL_law 826 = .ok (.iaload, 1) := dec_of (s' := 827) (at_of zLd_25 (show zLb_25[26]? = some 0x2e from rfl) rfl) (zLo_2e 826 _)
theorem dL_law_827 : decode cL_law 827 = .ok (.aload_n 0, 1) := dec_of (s' := 828) (at_of zLd_25 (show zLb_25[27]? = some 0x2a from rfl) rfl) (zLo_2a 827 _)
theorem dL_law_828 : decode cL_law 828 = .ok (.iload 4, 2) := dec_u1 (g := fun n => .iload n) (at_of zLd_25 (show zLb_25[28]? = some 0x15 from rfl) rfl) (at_of zLd_25 (show zLb_25[29]? = some 0x04 from rfl) rfl) (zLo_15 828)
theorem dL_law_830 : decode cL_law 830 = .ok (.iconst 2, 1) := dec_of (s' := 831) (at_of zLd_25 (show zLb_25[30]? = some 0x05 from rfl) rfl) (zLo_05 830 _)
theorem dL_law_831 : decode cL_law 831 = .ok (.iadd, 1) := dec_of (s' := 832) (at_of zLd_25 (show zLb_25[31]? = some 0x60 from rfl) rfl) (zLo_60 831 _)
theorem dL_law_832 : decode cL_law 832 = .ok (.iaload, 1) := dec_of (s' := 833) (at_of zLd_26 (show zLb_26[0]? = some 0x2e from rfl) rfl) (zLo_2e 832 _)
theorem dL_law_833 : decode cL_law 833 = .ok (.invokevirtual 90, 3) := dec_u2 (g := fun n => .invokevirtual n) (at_of zLd_26 (show zLb_26[1]? = some 0xb6 from rfl) rfl) (at_of zLd_26 (show zLb_26[2]? = some 0x00 from rfl) rfl) (at_of zLd_26 (show zLb_26[3]? = some 0x5a from rfl) rfl) (zLo_b6 833)
theorem dL_law_836 : decode cL_law 836 = .ok (.pop, 1) := dec_of (s' := 837) (at_of zLd_26 (show zLb_26[4]? = some 0x57 from rfl) rfl) (zLo_57 836 _)
theorem dL_law_837 : decode cL_law 837 = .ok (.goto 860, 3) := by decide +kernel
theorem dL_law_840 : decode cL_law 840 = .ok (.aload_n 1, 1) := dec_of (s' := 841) (at_of zLd_26 (show zLb_26[8]? = some 0x2b from rfl) rfl) (zLo_2b 840 _)
theorem dL_law_841 : decode cL_law 841 = .ok (.aload_n 0, 1) := dec_of (s' := 842) (at_of zLd_26 (show zLb_26[9]? = some 0x2a from rfl) rfl) (zLo_2a 841 _)
theorem dL_law_842 : decode cL_law 842 = .ok (.iload 4, 2) := dec_u1 (g := fun n => .iload n) (at_of zLd_26 (show zLb_26[10]? = some 0x15 from rfl) rfl) (at_of zLd_26 (show zLb_26[11]? = some 0x04 from rfl) rfl) (zLo_15 842)
theorem dL_law_844 : decode cL_law 844 = .ok (.iconst 1, 1) := dec_of (s' := 845) (at_of zLd_26 (show zLb_26[12]? = some 0x04 from rfl) rfl) (zLo_04 844 _)
theorem dL_law_845 : decode cL_law 845 = .ok (.iadd, 1) := dec_of (s' := 846) (at_of zLd_26 (show zLb_26[13]? = some 0x60 from rfl) rfl) (zLo_60 845 _)
theorem dL_law_846 : decode cL_law 846 = .ok (.iaload, 1) := dec_of (s' := 847) (at_of zLd_26 (show zLb_26[14]? = some 0x2e from rfl) rfl) (zLo_2e 846 _)
theorem dL_law_847 : decode cL_law 847 = .ok (.aload_n 0, 1) := dec_of (s' := 848) (at_of zLd_26 (show zLb_26[15]? = some 0x2a from rfl) rfl) (zLo_2a 847 _)
theorem dL_law_848 : decode cL_law 848 = .ok (.iload 4, 2) := dec_u1 (g := fun n => .iload n) (at_of zLd_26 (show zLb_26[16]? = some 0x15 from rfl) rfl) (at_of zLd_26 (show zLb_26[17]? = some 0x04 from rfl) rfl) (zLo_15 848)
theorem dL_law_850 : decode cL_law 850 = .ok (.iconst 2, 1) := dec_of (s' := 851) (at_of zLd_26 (show zLb_26[18]? = some 0x05 from rfl) rfl) (zLo_05 850 _)
theorem dL_law_851 : decode cL_law 851 = .ok (.iadd, 1) := dec_of (s' := 852) (at_of zLd_26 (show zLb_26[19]? = some 0x60 from rfl) rfl) (zLo_60 851 _)
theorem dL_law_852 : decode cL_law 852 = .ok (.iaload, 1) := dec_of (s' := 853) (at_of zLd_26 (show zLb_26[20]? = some 0x2e from rfl) rfl) (zLo_2e 852 _)
theorem dL_law_853 : decode cL_law 853 = .ok (.aload_n 0, 1) := dec_of (s' := 854) (at_of zLd_26 (show zLb_26[21]? = some 0x2a from rfl) rfl) (zLo_2a 853 _)
theorem dL_law_854 : decode cL_law 854 = .ok (.iload 4, 2) := dec_u1 (g := fun n => .iload n) (at_of zLd_26 (show zLb_26[22]? = some 0x15 from rfl) rfl) (at_of zLd_26 (show zLb_26[23]? = some 0x04 from rfl) rfl) (zLo_15 854)
theorem dL_law_856 : decode cL_law 856 = .ok (.iconst 3, 1) := dec_of (s' := 857) (at_of zLd_26 (show zLb_26[24]? = some 0x06 from rfl) rfl) (zLo_06 856 _)
theorem dL_law_857 : decode cL_law 857 = .ok (.iadd, 1) := dec_of (s' := 858) (at_of zLd_26 (show zLb_26[25]? = some 0x60 from rfl) rfl) (zLo_60 857 _)
theorem dL_law_858 : decode cL_law 858 = .ok (.iaload, 1) := dec_of (s' := 859) (at_of zLd_26 (show zLb_26[26]? = some 0x2e from rfl) rfl) (zLo_2e 858 _)
theorem dL_law_859 : decode cL_law 859 = .ok (.aload_n 0, 1) := dec_of (s' := 860) (at_of zLd_26 (show zLb_26[27]? = some 0x2a from rfl) rfl) (zLo_2a 859 _)
theorem dL_law_860 : decode cL_law 860 = .ok (.iload 4, 2) := dec_u1 (g := fun n => .iload n) (at_of zLd_26 (show zLb_26[28]? = some 0x15 from rfl) rfl) (at_of zLd_26 (show zLb_26[29]? = some 0x04 from rfl) rfl) (zLo_15 860)
theorem dL_law_862 : decode cL_law 862 = .ok (.iconst 4, 1) := dec_of (s' := 863) (at_of zLd_26 (show zLb_26[30]? = some 0x07 from rfl) rfl) (zLo_07 862 _)
theorem dL_law_863 : decode cL_law 863 = .ok (.iadd, 1) := dec_of (s' := 864) (at_of zLd_26 (show zLb_26[31]? = some 0x60 from rfl) rfl) (zLo_60 863 _)
theorem dL_law_864 : decode cL_law 864 = .ok (.iaload, 1) := dec_of (s' := 865) (at_of zLd_27 (show zLb_27[0]? = some 0x2e from rfl) rfl) (zLo_2e 864 _)
theorem dL_law_865 : decode cL_law 865 = .ok (.invokevirtual 91, 3) := dec_u2 (g := fun n => .invokevirtual n) (at_of zLd_27 (show zLb_27[1]? = some 0xb6 from rfl) rfl) (at_of zLd_27 (show zLb_27[2]? = some 0x00 from rfl) rfl) (at_of zLd_27 (show zLb_27[3]? = some 0x5b from rfl) rfl) (zLo_b6 865)
theorem dL_law_868 : decode cL_law 868 = .ok (.pop, 1) := dec_of (s' := 869) (at_of zLd_27 (show zLb_27[4]? = some 0x57 from rfl) rfl) (zLo_57 868 _)
theorem dL_law_869 : decode cL_law 869 = .ok (.aload_n 2, 1) := dec_of (s' := 870) (at_of zLd_27 (show zLb_27[5]? = some 0x2c from rfl) rfl) (zLo_2c 869 _)
theorem dL_law_870 : decode cL_law 870 = .ok (.aload_n 0, 1) := dec_of (s' := 871) (at_of zLd_27 (show zLb_27[6]? = some 0x2a from rfl) rfl) (zLo_2a 870 _)
theorem dL_law_871 : decode cL_law 871 = .ok (.iload 4, 2) := dec_u1 (g := fun n => .iload n) (at_of zLd_27 (show zLb_27[7]? = some 0x15 from rfl) rfl) (at_of zLd_27 (show zLb_27[8]? = some 0x04 from rfl) rfl) (zLo_15 871)
theorem dL_law_873 : decode cL_law 873 = .ok (.iconst 1, 1) := dec_of (s' := 874) (at_of zLd_27 (show zLb_27[9]? = some 0x04 from rfl) rfl) (zLo_04 873 _)
theorem dL_law_874 : decode cL_law 874 = .ok (.iadd, 1) := dec_of (s' := 875) (at_of zLd_27 (show zLb_27[10]? = some 0x60 from rfl) rfl) (zLo_60 874 _)
theorem dL_law_875 : decode cL_law 875 = .ok (.iaload, 1) := dec_of (s' := 876) (at_of zLd_27 (show zLb_27[11]? = some 0x2e from rfl) rfl) (zLo_2e 875 _)
theorem dL_law_876 : decode cL_law 876 = .ok (.aload_n 0, 1) := dec_of (s' := 877) (at_of zLd_27 (show zLb_27[12]? = some 0x2a from rfl) rfl) (zLo_2a 876 _)
theorem dL_law_877 : decode cL_law 877 = .ok (.iload 4, 2) := dec_u1 (g := fun n => .iload n) (at_of zLd_27 (show zLb_27[13]? = some 0x15 from rfl) rfl) (at_of zLd_27 (show zLb_27[14]? = some 0x04 from rfl) rfl) (zLo_15 877)
theorem dL_law_879 : decode cL_law 879 = .ok (.iconst 2, 1) := dec_of (s' := 880) (at_of zLd_27 (show zLb_27[15]? = some 0x05 from rfl) rfl) (zLo_05 879 _)
theorem dL_law_880 : decode cL_law 880 = .ok (.iadd, 1) := dec_of (s' := 881) (at_of zLd_27 (show zLb_27[16]? = some 0x60 from rfl) rfl) (zLo_60 880 _)
theorem dL_law_881 : decode cL_law 881 = .ok (.iaload, 1) := dec_of (s' := 882) (at_of zLd_27 (show zLb_27[17]? = some 0x2e from rfl) rfl) (zLo_2e 881 _)
theorem dL_law_882 : decode cL_law 882 = .ok (.aload_n 0, 1) := dec_of (s' := 883) (at_of zLd_27 (show zLb_27[18]? = some 0x2a from rfl) rfl) (zLo_2a 882 _)
theorem dL_law_883 : decode cL_law 883 = .ok (.iload 4, 2) := dec_u1 (g := fun n => .iload n) (at_of zLd_27 (show zLb_27[19]? = some 0x15 from rfl) rfl) (at_of zLd_27 (show zLb_27[20]? = some 0x04 from rfl) rfl) (zLo_15 883)
theorem dL_law_885 : decode cL_law 885 = .ok (.iconst 3, 1) := dec_of (s' := 886) (at_of zLd_27 (show zLb_27[21]? = some 0x06 from rfl) rfl) (zLo_06 885 _)
theorem dL_law_886 : decode cL_law 886 = .ok (.iadd, 1) := dec_of (s' := 887) (at_of zLd_27 (show zLb_27[22]? = some 0x60 from rfl) rfl) (zLo_60 886 _)
theorem dL_law_887 : decode cL_law 887 = .ok (.iaload, 1) := dec_of (s' := 888) (at_of zLd_27 (show zLb_27[23]? = some 0x2e from rfl) rfl) (zLo_2e 887 _)
theorem dL_law_888 : decode cL_law 888 = .ok (.aload_n 0, 1) := dec_of (s' := 889) (at_of zLd_27 (show zLb_27[24]? = some 0x2a from rfl) rfl) (zLo_2a 888 _)
theorem dL_law_889 : decode cL_law 889 = .ok (.iload 4, 2) := dec_u1 (g := fun n => .iload n) (at_of zLd_27 (show zLb_27[25]? = some 0x15 from rfl) rfl) (at_of zLd_27 (show zLb_27[26]? = some 0x04 from rfl) rfl) (zLo_15 889)
theorem dL_law_891 : decode cL_law 891 = .ok (.iconst 4, 1) := dec_of (s' := 892) (at_of zLd_27 (show zLb_27[27]? = some 0x07 from rfl) rfl) (zLo_07 891 _)
theorem dL_law_892 : decode cL_law 892 = .ok (.iadd, 1) := dec_of (s' := 893) (at_of zLd_27 (show zLb_27[28]? = some 0x60 from rfl) rfl) (zLo_60 892 _)
theorem dL_law_893 : decode cL_law 893 = .ok (.iaload, 1) := dec_of (s' := 894) (at_of zLd_27 (show zLb_27[29]? = some 0x2e from rfl) rfl) (zLo_2e 893 _)
theorem dL_law_894 : decode cL_law 894 = .ok (.invokevirtual 94, 3) := dec_u2 (g := fun n => .invokevirtual n) (at_of zLd_27 (show zLb_27[30]? = some 0xb6 from rfl) rfl) (at_of zLd_27 (show zLb_27[31]? = some 0x00 from rfl) rfl) (at_of zLd_28 (show zLb_28[0]? = some 0x5e from rfl) rfl) (zLo_b6 894)
theorem dL_law_897 : decode cL_law 897 = .ok (.pop, 1) := dec_of (s' := 898) (at_of zLd_28 (show zLb_28[1]? = some 0x57 from rfl) rfl) (zLo_57 897 _)
theorem dL_law_898 : decode cL_law 898 = .ok (.goto 799, 3) := by decide +kernel
theorem dL_law_901 : decode cL_law 901 = .ok (.aload_n 1, 1) := dec_of (s' := 902) (at_of zLd_28 (show zLb_28[5]? = some 0x2b from rfl) rfl) (zLo_2b 901 _)
theorem dL_law_902 : decode cL_law 902 = .ok (.aload_n 0, 1) := dec_of (s' := 903) (at_of zLd_28 (show zLb_28[6]? = some 0x2a from rfl) rfl) (zLo_2a 902 _)
theorem dL_law_903 : decode cL_law 903 = .ok (.iload 4, 2) := dec_u1 (g := fun n => .iload n) (at_of zLd_28 (show zLb_28[7]? = some 0x15 from rfl) rfl) (at_of zLd_28 (show zLb_28[8]? = some 0x04 from rfl) rfl) (zLo_15 903)
theorem dL_law_905 : decode cL_law 905 = .ok (.iconst 1, 1) := dec_of (s' := 906) (at_of zLd_28 (show zLb_28[9]? = some 0x04 from rfl) rfl) (zLo_04 905 _)
theorem dL_law_906 : decode cL_law 906 = .ok (.iadd, 1) := dec_of (s' := 907) (at_of zLd_28 (show zLb_28[10]? = some 0x60 from rfl) rfl) (zLo_60 906 _)
theorem dL_law_907 : decode cL_law 907 = .ok (.iaload, 1) := dec_of (s' := 908) (at_of zLd_28 (show zLb_28[11]? = some 0x2e from rfl) rfl) (zLo_2e 907 _)
theorem dL_law_908 : decode cL_law 908 = .ok (.invokevirtual 95, 3) := dec_u2 (g := fun n => .invokevirtual n) (at_of zLd_28 (show zLb_28[12]? = some 0xb6 from rfl) rfl) (at_of zLd_28 (show zLb_28[13]? = some 0x00 from rfl) rfl) (at_of zLd_28 (show zLb_28[14]? = some 0x5f from rfl) rfl) (zLo_b6 908)
theorem dL_law_911 : decode cL_law 911 = .ok (.pop, 1) := dec_of (s' := 912) (at_of zLd_28 (show zLb_28[15]? = some 0x57 from rfl) rfl) (zLo_57 911 _)
theorem dL_law_912 : decode cL_law 912 = .ok (.aload_n 2, 1) := dec_of (s' := 913) (at_of zLd_28 (show zLb_28[16]? = some 0x2c from rfl) rfl) (zLo_2c 912 _)
theorem dL_law_913 : decode cL_law 913 = .ok (.aload_n 0, 1) := dec_of (s' := 914) (at_of zLd_28 (show zLb_28[17]? = some 0x2a from rfl) rfl) (zLo_2a 913 _)
theorem dL_law_914 : decode cL_law 914 = .ok (.iload 4, 2) := dec_u1 (g := fun n => .iload n) (at_of zLd_28 (show zLb_28[18]? = some 0x15 from rfl) rfl) (at_of zLd_28 (show zLb_28[19]? = some 0x04 from rfl) rfl) (zLo_15 914)
theorem dL_law_916 : decode cL_law 916 = .ok (.iconst 1, 1) := dec_of (s' := 917) (at_of zLd_28 (show zLb_28[20]? = some 0x04 from rfl) rfl) (zLo_04 916 _)
theorem dL_law_917 : decode cL_law 917 = .ok (.iadd, 1) := dec_of (s' := 918) (at_of zLd_28 (show zLb_28[21]? = some 0x60 from rfl) rfl) (zLo_60 917 _)
theorem dL_law_918 : decode cL_law 918 = .ok (.iaload, 1) := dec_of (s' := 919) (at_of zLd_28 (show zLb_28[22]? = some 0x2e from rfl) rfl) (zLo_2e 918 _)
theorem dL_law_919 : decode cL_law 919 = .ok (.invokevirtual 98, 3) := dec_u2 (g := fun n => .invokevirtual n) (at_of zLd_28 (show zLb_28[23]? = some 0xb6 from rfl) rfl) (at_of zLd_28 (show zLb_28[24]? = some 0x00 from rfl) rfl) (at_of zLd_28 (show zLb_28[25]? = some 0x62 from rfl) rfl) (zLo_b6 919)
theorem dL_law_922 : decode cL_law 922 = .ok (.pop, 1) := dec_of (s' := 923) (at_of zLd_28 (show zLb_28[26]? = some 0x57 from rfl) rfl) (zLo_57 922 _)
theorem dL_law_923 : decode cL_law 923 = .ok (.goto 774, 3) := by decide +kernel
theorem dL_law_926 : decode cL_law 926 = .ok (.aload_n 1, 1) := dec_of (s' := 927) (at_of zLd_28 (show zLb_28[30]? = some 0x2b from rfl) rfl) (zLo_2b 926 _)
theorem dL_law_927 : decode cL_law 927 = .ok (.invokevirtual 99, 3) := dec_u2 (g := fun n => .invokevirtual n) (at_of zLd_28 (show zLb_28[31]? = some 0xb6 from rfl) rfl) (at_of zLd_29 (show zLb_29[0]? = some 0x00 from rfl) rfl) (at_of zLd_29 (show zLb_29[1]? = some 0x63 from rfl) rfl) (zLo_b6 927)
theorem dL_law_930 : decode cL_law 930 = .ok (.pop, 1) := dec_of (s' := 931) (at_of zLd_29 (show zLb_29[2]? = some 0x57 from rfl) rfl) (zLo_57 930 _)
theorem dL_law_931 : decode cL_law 931 = .ok (.aload_n 2, 1) := dec_of (s' := 932) (at_of zLd_29 (show zLb_29[3]? = some 0x2c from rfl) rfl) (zLo_2c 931 _)
theorem dL_law_932 : decode cL_law 932 = .ok (.invokevirtual 102, 3) := dec_u2 (g := fun n => .invokevirtual n) (at_of zLd_29 (show zLb_29[4]? = some 0xb6 from rfl) rfl) (at_of zLd_29 (show zLb_29[5]? = some 0x00 from rfl) rfl) (at_of zLd_29 (show zLb_29[6]? = some 0x66 from rfl) rfl) (zLo_b6 932)
theorem dL_law_935 : decode cL_law 935 = .ok (.pop, 1) := dec_of (s' := 936) (at_of zLd_29 (show zLb_29[7]? = some 0x57 from rfl) rfl) (zLo_57 935 _)
theorem dL_law_936 : decode cL_law 936 = .ok (.goto 761, 3) := by decide +kernel
theorem dL_law_939 : decode cL_law 939 = .ok (.aload_n 1, 1) := dec_of (s' := 940) (at_of zLd_29 (show zLb_29[11]? = some 0x2b from rfl) rfl) (zLo_2b 939 _)
theorem dL_law_940 : decode cL_law 940 = .ok (.invokevirtual 103, 3) := dec_u2 (g := fun n => .invokevirtual n) (at_of zLd_29 (show zLb_29[12]? = some 0xb6 from rfl) rfl) (at_of zLd_29 (show zLb_29[13]? = some 0x00 from rfl) rfl) (at_of zLd_29 (show zLb_29[14]? = some 0x67 from rfl) rfl) (zLo_b6 940)
theorem dL_law_943 : decode cL_law 943 = .ok (.pop, 1) := dec_of (s' := 944) (at_of zLd_29 (show zLb_29[15]? = some 0x57 from rfl) rfl) (zLo_57 943 _)
theorem dL_law_944 : decode cL_law 944 = .ok (.aload_n 2, 1) := dec_of (s' := 945) (at_of zLd_29 (show zLb_29[16]? = some 0x2c from rfl) rfl) (zLo_2c 944 _)
