/-! PARTS 08.a to 08.walk -/
section
/-! PART 08a: an instruction out of the bytes from its place on. -/
theorem zrb {α β : Type} {x : Jvm.ClassFile.Decoder α} {f : α → Jvm.ClassFile.Decoder β} {c : ByteArray} {p q : Nat} {a : α} (h : x c p = .ok (a, q)) : (x >>= f) c p = f a c q := by
  show Except.bind (x c p) _ = _
  rw [h]
  rfl
theorem zrm {α β : Type} {x : Jvm.ClassFile.Decoder α} {f : α → β} {c : ByteArray} {p q : Nat} {a : α} (h : x c p = .ok (a, q)) : (f <$> x) c p = .ok (f a, q) := by
  show Except.map _ (x c p) = _
  rw [h]
  rfl
theorem zuB {c : ByteArray} {p : Nat} {b : UInt8} {r : List UInt8} (h : c.data.toList.drop p = b :: r) : (Jvm.ClassFile.Reader.u1 : Jvm.ClassFile.Decoder Nat) c p = .ok (b.toNat, p + 1) := by
  have hl : p < c.data.toList.length := by
    rcases Nat.lt_or_ge p c.data.toList.length with q | q
    · exact q
    · rw [List.drop_eq_nil_of_le q] at h
      cases h
  have hb : c.data.toList[p] = b := by
    rw [List.drop_eq_getElem_cons hl] at h
    exact (List.cons.inj h).1
  have hs : p < c.size := hl
  have e : c[p] = b := hb
  unfold Jvm.ClassFile.Reader.u1
  show (dite (p < c.size) _ _ : Jvm.ClassFile.Decoder Nat) c p = _
  rw [dif_pos hs]
  show Except.ok (c[p].toNat, p + 1) = _
  rw [e]
theorem zuD {c : ByteArray} {p : Nat} {b : UInt8} {r : List UInt8} (h : c.data.toList.drop p = b :: r) : c.data.toList.drop (p + 1) = r := by
  rw [← List.tail_drop, h]
  rfl
theorem zu2 {c : ByteArray} {p : Nat} {b0 b1 : UInt8} {r : List UInt8} (h : c.data.toList.drop p = b0 :: b1 :: r) : (Jvm.ClassFile.Reader.u2 : Jvm.ClassFile.Decoder Nat) c p = .ok (b0.toNat * 256 + b1.toNat, p + 2) := by
  unfold Jvm.ClassFile.Reader.u2
  exact (zrb (zuB h)).trans ((zrb (zuB (zuD h))).trans rfl)
theorem zdI {c : ByteArray} {pc n : Nat} {i : Instr} (h : Jvm.ClassFile.Decoder.instr pc c pc = .ok (i, pc + n)) : decode c pc = .ok (i, n) := by
  unfold decode
  show Except.bind (Jvm.ClassFile.Decoder.instr pc c pc) _ = _
  rw [h]
  show Except.ok (i, pc + n - pc) = _
  rw [Nat.add_sub_cancel_left]
theorem zd_2 {c : ByteArray} {pc : Nat} {r : List UInt8} (h : c.data.toList.drop pc = 2 :: r) : decode c pc = .ok ((.iconst (-1)), 1) := zdI (by
  unfold Jvm.ClassFile.Decoder.instr
  exact (zrb (zuB h)).trans (rfl))
theorem zd_3 {c : ByteArray} {pc : Nat} {r : List UInt8} (h : c.data.toList.drop pc = 3 :: r) : decode c pc = .ok ((.iconst 0), 1) := zdI (by
  unfold Jvm.ClassFile.Decoder.instr
  exact (zrb (zuB h)).trans (rfl))
theorem zd_4 {c : ByteArray} {pc : Nat} {r : List UInt8} (h : c.data.toList.drop pc = 4 :: r) : decode c pc = .ok ((.iconst 1), 1) := zdI (by
  unfold Jvm.ClassFile.Decoder.instr
  exact (zrb (zuB h)).trans (rfl))
theorem zd_5 {c : ByteArray} {pc : Nat} {r : List UInt8} (h : c.data.toList.drop pc = 5 :: r) : decode c pc = .ok ((.iconst 2), 1) := zdI (by
  unfold Jvm.ClassFile.Decoder.instr
  exact (zrb (zuB h)).trans (rfl))
theorem zd_6 {c : ByteArray} {pc : Nat} {r : List UInt8} (h : c.data.toList.drop pc = 6 :: r) : decode c pc = .ok ((.iconst 3), 1) := zdI (by
  unfold Jvm.ClassFile.Decoder.instr
  exact (zrb (zuB h)).trans (rfl))
theorem zd_7 {c : ByteArray} {pc : Nat} {r : List UInt8} (h : c.data.toList.drop pc = 7 :: r) : decode c pc = .ok ((.iconst 4), 1) := zdI (by
  unfold Jvm.ClassFile.Decoder.instr
  exact (zrb (zuB h)).trans (rfl))
theorem zd_8 {c : ByteArray} {pc : Nat} {r : List UInt8} (h : c.data.toList.drop pc = 8 :: r) : decode c pc = .ok ((.iconst 5), 1) := zdI (by
  unfold Jvm.ClassFile.Decoder.instr
  exact (zrb (zuB h)).trans (rfl))
theorem zd_9 {c : ByteArray} {pc : Nat} {r : List UInt8} (h : c.data.toList.drop pc = 9 :: r) : decode c pc = .ok ((.lconst 0), 1) := zdI (by
  unfold Jvm.ClassFile.Decoder.instr
  exact (zrb (zuB h)).trans (rfl))
theorem zd_10 {c : ByteArray} {pc : Nat} {r : List UInt8} (h : c.data.toList.drop pc = 10 :: r) : decode c pc = .ok ((.lconst 1), 1) := zdI (by
  unfold Jvm.ClassFile.Decoder.instr
  exact (zrb (zuB h)).trans (rfl))
theorem zd_16 {c : ByteArray} {pc : Nat} {b0 : UInt8} {r : List UInt8} (h : c.data.toList.drop pc = 16 :: b0 :: r) : decode c pc = .ok ((.bipush ((Jvm.ClassFile.Reader.signed 8 b0.toNat))), 2) := zdI (by
  unfold Jvm.ClassFile.Decoder.instr
  exact (zrb (zuB h)).trans ((zrb (zrm (zuB (zuD h)))).trans (rfl)))
theorem zd_17 {c : ByteArray} {pc : Nat} {b0 b1 : UInt8} {r : List UInt8} (h : c.data.toList.drop pc = 17 :: b0 :: b1 :: r) : decode c pc = .ok ((.sipush ((Jvm.ClassFile.Reader.signed 16 (b0.toNat * 256 + b1.toNat)))), 3) := zdI (by
  unfold Jvm.ClassFile.Decoder.instr
  exact (zrb (zuB h)).trans ((zrb (zrm (zu2 (zuD h)))).trans (rfl)))
theorem zd_18 {c : ByteArray} {pc : Nat} {b0 : UInt8} {r : List UInt8} (h : c.data.toList.drop pc = 18 :: b0 :: r) : decode c pc = .ok ((.ldc (b0.toNat)), 2) := zdI (by
  unfold Jvm.ClassFile.Decoder.instr
  exact (zrb (zuB h)).trans ((zrb (zuB (zuD h))).trans (rfl)))
theorem zd_19 {c : ByteArray} {pc : Nat} {b0 b1 : UInt8} {r : List UInt8} (h : c.data.toList.drop pc = 19 :: b0 :: b1 :: r) : decode c pc = .ok ((.ldc_w ((b0.toNat * 256 + b1.toNat))), 3) := zdI (by
  unfold Jvm.ClassFile.Decoder.instr
  exact (zrb (zuB h)).trans ((zrb (zu2 (zuD h))).trans (rfl)))
theorem zd_20 {c : ByteArray} {pc : Nat} {b0 b1 : UInt8} {r : List UInt8} (h : c.data.toList.drop pc = 20 :: b0 :: b1 :: r) : decode c pc = .ok ((.ldc2_w ((b0.toNat * 256 + b1.toNat))), 3) := zdI (by
  unfold Jvm.ClassFile.Decoder.instr
  exact (zrb (zuB h)).trans ((zrb (zu2 (zuD h))).trans (rfl)))
theorem zd_21 {c : ByteArray} {pc : Nat} {b0 : UInt8} {r : List UInt8} (h : c.data.toList.drop pc = 21 :: b0 :: r) : decode c pc = .ok ((.iload (b0.toNat)), 2) := zdI (by
  unfold Jvm.ClassFile.Decoder.instr
  exact (zrb (zuB h)).trans ((zrb (zuB (zuD h))).trans (rfl)))
theorem zd_22 {c : ByteArray} {pc : Nat} {b0 : UInt8} {r : List UInt8} (h : c.data.toList.drop pc = 22 :: b0 :: r) : decode c pc = .ok ((.lload (b0.toNat)), 2) := zdI (by
  unfold Jvm.ClassFile.Decoder.instr
  exact (zrb (zuB h)).trans ((zrb (zuB (zuD h))).trans (rfl)))
theorem zd_25 {c : ByteArray} {pc : Nat} {b0 : UInt8} {r : List UInt8} (h : c.data.toList.drop pc = 25 :: b0 :: r) : decode c pc = .ok ((.aload (b0.toNat)), 2) := zdI (by
  unfold Jvm.ClassFile.Decoder.instr
  exact (zrb (zuB h)).trans ((zrb (zuB (zuD h))).trans (rfl)))
theorem zd_26 {c : ByteArray} {pc : Nat} {r : List UInt8} (h : c.data.toList.drop pc = 26 :: r) : decode c pc = .ok ((.iload_n 0), 1) := zdI (by
  unfold Jvm.ClassFile.Decoder.instr
  exact (zrb (zuB h)).trans (rfl))
theorem zd_27 {c : ByteArray} {pc : Nat} {r : List UInt8} (h : c.data.toList.drop pc = 27 :: r) : decode c pc = .ok ((.iload_n 1), 1) := zdI (by
  unfold Jvm.ClassFile.Decoder.instr
  exact (zrb (zuB h)).trans (rfl))
theorem zd_28 {c : ByteArray} {pc : Nat} {r : List UInt8} (h : c.data.toList.drop pc = 28 :: r) : decode c pc = .ok ((.iload_n 2), 1) := zdI (by
  unfold Jvm.ClassFile.Decoder.instr
  exact (zrb (zuB h)).trans (rfl))
theorem zd_29 {c : ByteArray} {pc : Nat} {r : List UInt8} (h : c.data.toList.drop pc = 29 :: r) : decode c pc = .ok ((.iload_n 3), 1) := zdI (by
  unfold Jvm.ClassFile.Decoder.instr
  exact (zrb (zuB h)).trans (rfl))
theorem zd_30 {c : ByteArray} {pc : Nat} {r : List UInt8} (h : c.data.toList.drop pc = 30 :: r) : decode c pc = .ok ((.lload_n 0), 1) := zdI (by
  unfold Jvm.ClassFile.Decoder.instr
  exact (zrb (zuB h)).trans (rfl))
theorem zd_31 {c : ByteArray} {pc : Nat} {r : List UInt8} (h : c.data.toList.drop pc = 31 :: r) : decode c pc = .ok ((.lload_n 1), 1) := zdI (by
  unfold Jvm.ClassFile.Decoder.instr
  exact (zrb (zuB h)).trans (rfl))
theorem zd_32 {c : ByteArray} {pc : Nat} {r : List UInt8} (h : c.data.toList.drop pc = 32 :: r) : decode c pc = .ok ((.lload_n 2), 1) := zdI (by
  unfold Jvm.ClassFile.Decoder.instr
  exact (zrb (zuB h)).trans (rfl))
theorem zd_33 {c : ByteArray} {pc : Nat} {r : List UInt8} (h : c.data.toList.drop pc = 33 :: r) : decode c pc = .ok ((.lload_n 3), 1) := zdI (by
  unfold Jvm.ClassFile.Decoder.instr
  exact (zrb (zuB h)).trans (rfl))
theorem zd_42 {c : ByteArray} {pc : Nat} {r : List UInt8} (h : c.data.toList.drop pc = 42 :: r) : decode c pc = .ok ((.aload_n 0), 1) := zdI (by
  unfold Jvm.ClassFile.Decoder.instr
  exact (zrb (zuB h)).trans (rfl))
theorem zd_43 {c : ByteArray} {pc : Nat} {r : List UInt8} (h : c.data.toList.drop pc = 43 :: r) : decode c pc = .ok ((.aload_n 1), 1) := zdI (by
  unfold Jvm.ClassFile.Decoder.instr
  exact (zrb (zuB h)).trans (rfl))
theorem zd_44 {c : ByteArray} {pc : Nat} {r : List UInt8} (h : c.data.toList.drop pc = 44 :: r) : decode c pc = .ok ((.aload_n 2), 1) := zdI (by
  unfold Jvm.ClassFile.Decoder.instr
  exact (zrb (zuB h)).trans (rfl))
theorem zd_46 {c : ByteArray} {pc : Nat} {r : List UInt8} (h : c.data.toList.drop pc = 46 :: r) : decode c pc = .ok (.iaload, 1) := zdI (by
  unfold Jvm.ClassFile.Decoder.instr
  exact (zrb (zuB h)).trans (rfl))
theorem zd_47 {c : ByteArray} {pc : Nat} {r : List UInt8} (h : c.data.toList.drop pc = 47 :: r) : decode c pc = .ok (.laload, 1) := zdI (by
  unfold Jvm.ClassFile.Decoder.instr
  exact (zrb (zuB h)).trans (rfl))
theorem zd_50 {c : ByteArray} {pc : Nat} {r : List UInt8} (h : c.data.toList.drop pc = 50 :: r) : decode c pc = .ok (.aaload, 1) := zdI (by
  unfold Jvm.ClassFile.Decoder.instr
  exact (zrb (zuB h)).trans (rfl))
theorem zd_54 {c : ByteArray} {pc : Nat} {b0 : UInt8} {r : List UInt8} (h : c.data.toList.drop pc = 54 :: b0 :: r) : decode c pc = .ok ((.istore (b0.toNat)), 2) := zdI (by
  unfold Jvm.ClassFile.Decoder.instr
  exact (zrb (zuB h)).trans ((zrb (zuB (zuD h))).trans (rfl)))
theorem zd_58 {c : ByteArray} {pc : Nat} {b0 : UInt8} {r : List UInt8} (h : c.data.toList.drop pc = 58 :: b0 :: r) : decode c pc = .ok ((.astore (b0.toNat)), 2) := zdI (by
  unfold Jvm.ClassFile.Decoder.instr
  exact (zrb (zuB h)).trans ((zrb (zuB (zuD h))).trans (rfl)))
theorem zd_59 {c : ByteArray} {pc : Nat} {r : List UInt8} (h : c.data.toList.drop pc = 59 :: r) : decode c pc = .ok ((.istore_n 0), 1) := zdI (by
  unfold Jvm.ClassFile.Decoder.instr
  exact (zrb (zuB h)).trans (rfl))
theorem zd_60 {c : ByteArray} {pc : Nat} {r : List UInt8} (h : c.data.toList.drop pc = 60 :: r) : decode c pc = .ok ((.istore_n 1), 1) := zdI (by
  unfold Jvm.ClassFile.Decoder.instr
  exact (zrb (zuB h)).trans (rfl))
theorem zd_61 {c : ByteArray} {pc : Nat} {r : List UInt8} (h : c.data.toList.drop pc = 61 :: r) : decode c pc = .ok ((.istore_n 2), 1) := zdI (by
  unfold Jvm.ClassFile.Decoder.instr
  exact (zrb (zuB h)).trans (rfl))
theorem zd_62 {c : ByteArray} {pc : Nat} {r : List UInt8} (h : c.data.toList.drop pc = 62 :: r) : decode c pc = .ok ((.istore_n 3), 1) := zdI (by
  unfold Jvm.ClassFile.Decoder.instr
  exact (zrb (zuB h)).trans (rfl))
theorem zd_76 {c : ByteArray} {pc : Nat} {r : List UInt8} (h : c.data.toList.drop pc = 76 :: r) : decode c pc = .ok ((.astore_n 1), 1) := zdI (by
  unfold Jvm.ClassFile.Decoder.instr
  exact (zrb (zuB h)).trans (rfl))
theorem zd_77 {c : ByteArray} {pc : Nat} {r : List UInt8} (h : c.data.toList.drop pc = 77 :: r) : decode c pc = .ok ((.astore_n 2), 1) := zdI (by
  unfold Jvm.ClassFile.Decoder.instr
  exact (zrb (zuB h)).trans (rfl))
theorem zd_79 {c : ByteArray} {pc : Nat} {r : List UInt8} (h : c.data.toList.drop pc = 79 :: r) : decode c pc = .ok (.iastore, 1) := zdI (by
  unfold Jvm.ClassFile.Decoder.instr
  exact (zrb (zuB h)).trans (rfl))
theorem zd_80 {c : ByteArray} {pc : Nat} {r : List UInt8} (h : c.data.toList.drop pc = 80 :: r) : decode c pc = .ok (.lastore, 1) := zdI (by
  unfold Jvm.ClassFile.Decoder.instr
  exact (zrb (zuB h)).trans (rfl))
theorem zd_83 {c : ByteArray} {pc : Nat} {r : List UInt8} (h : c.data.toList.drop pc = 83 :: r) : decode c pc = .ok (.aastore, 1) := zdI (by
  unfold Jvm.ClassFile.Decoder.instr
  exact (zrb (zuB h)).trans (rfl))
theorem zd_87 {c : ByteArray} {pc : Nat} {r : List UInt8} (h : c.data.toList.drop pc = 87 :: r) : decode c pc = .ok (.pop, 1) := zdI (by
  unfold Jvm.ClassFile.Decoder.instr
  exact (zrb (zuB h)).trans (rfl))
theorem zd_88 {c : ByteArray} {pc : Nat} {r : List UInt8} (h : c.data.toList.drop pc = 88 :: r) : decode c pc = .ok (.pop2, 1) := zdI (by
  unfold Jvm.ClassFile.Decoder.instr
  exact (zrb (zuB h)).trans (rfl))
theorem zd_89 {c : ByteArray} {pc : Nat} {r : List UInt8} (h : c.data.toList.drop pc = 89 :: r) : decode c pc = .ok (.dup, 1) := zdI (by
  unfold Jvm.ClassFile.Decoder.instr
  exact (zrb (zuB h)).trans (rfl))
theorem zd_92 {c : ByteArray} {pc : Nat} {r : List UInt8} (h : c.data.toList.drop pc = 92 :: r) : decode c pc = .ok (.dup2, 1) := zdI (by
  unfold Jvm.ClassFile.Decoder.instr
  exact (zrb (zuB h)).trans (rfl))
theorem zd_96 {c : ByteArray} {pc : Nat} {r : List UInt8} (h : c.data.toList.drop pc = 96 :: r) : decode c pc = .ok (.iadd, 1) := zdI (by
  unfold Jvm.ClassFile.Decoder.instr
  exact (zrb (zuB h)).trans (rfl))
theorem zd_100 {c : ByteArray} {pc : Nat} {r : List UInt8} (h : c.data.toList.drop pc = 100 :: r) : decode c pc = .ok (.isub, 1) := zdI (by
  unfold Jvm.ClassFile.Decoder.instr
  exact (zrb (zuB h)).trans (rfl))
theorem zd_104 {c : ByteArray} {pc : Nat} {r : List UInt8} (h : c.data.toList.drop pc = 104 :: r) : decode c pc = .ok (.imul, 1) := zdI (by
  unfold Jvm.ClassFile.Decoder.instr
  exact (zrb (zuB h)).trans (rfl))
theorem zd_108 {c : ByteArray} {pc : Nat} {r : List UInt8} (h : c.data.toList.drop pc = 108 :: r) : decode c pc = .ok (.idiv, 1) := zdI (by
  unfold Jvm.ClassFile.Decoder.instr
  exact (zrb (zuB h)).trans (rfl))
theorem zd_109 {c : ByteArray} {pc : Nat} {r : List UInt8} (h : c.data.toList.drop pc = 109 :: r) : decode c pc = .ok (.ldiv, 1) := zdI (by
  unfold Jvm.ClassFile.Decoder.instr
  exact (zrb (zuB h)).trans (rfl))
theorem zd_112 {c : ByteArray} {pc : Nat} {r : List UInt8} (h : c.data.toList.drop pc = 112 :: r) : decode c pc = .ok (.irem, 1) := zdI (by
  unfold Jvm.ClassFile.Decoder.instr
  exact (zrb (zuB h)).trans (rfl))
theorem zd_113 {c : ByteArray} {pc : Nat} {r : List UInt8} (h : c.data.toList.drop pc = 113 :: r) : decode c pc = .ok (.lrem, 1) := zdI (by
  unfold Jvm.ClassFile.Decoder.instr
  exact (zrb (zuB h)).trans (rfl))
theorem zd_116 {c : ByteArray} {pc : Nat} {r : List UInt8} (h : c.data.toList.drop pc = 116 :: r) : decode c pc = .ok (.ineg, 1) := zdI (by
  unfold Jvm.ClassFile.Decoder.instr
  exact (zrb (zuB h)).trans (rfl))
theorem zd_120 {c : ByteArray} {pc : Nat} {r : List UInt8} (h : c.data.toList.drop pc = 120 :: r) : decode c pc = .ok (.ishl, 1) := zdI (by
  unfold Jvm.ClassFile.Decoder.instr
  exact (zrb (zuB h)).trans (rfl))
theorem zd_121 {c : ByteArray} {pc : Nat} {r : List UInt8} (h : c.data.toList.drop pc = 121 :: r) : decode c pc = .ok (.lshl, 1) := zdI (by
  unfold Jvm.ClassFile.Decoder.instr
  exact (zrb (zuB h)).trans (rfl))
theorem zd_122 {c : ByteArray} {pc : Nat} {r : List UInt8} (h : c.data.toList.drop pc = 122 :: r) : decode c pc = .ok (.ishr, 1) := zdI (by
  unfold Jvm.ClassFile.Decoder.instr
  exact (zrb (zuB h)).trans (rfl))
theorem zd_124 {c : ByteArray} {pc : Nat} {r : List UInt8} (h : c.data.toList.drop pc = 124 :: r) : decode c pc = .ok (.iushr, 1) := zdI (by
  unfold Jvm.ClassFile.Decoder.instr
  exact (zrb (zuB h)).trans (rfl))
theorem zd_126 {c : ByteArray} {pc : Nat} {r : List UInt8} (h : c.data.toList.drop pc = 126 :: r) : decode c pc = .ok (.iand, 1) := zdI (by
  unfold Jvm.ClassFile.Decoder.instr
  exact (zrb (zuB h)).trans (rfl))
theorem zd_127 {c : ByteArray} {pc : Nat} {r : List UInt8} (h : c.data.toList.drop pc = 127 :: r) : decode c pc = .ok (.land, 1) := zdI (by
  unfold Jvm.ClassFile.Decoder.instr
  exact (zrb (zuB h)).trans (rfl))
theorem zd_128 {c : ByteArray} {pc : Nat} {r : List UInt8} (h : c.data.toList.drop pc = 128 :: r) : decode c pc = .ok (.ior, 1) := zdI (by
  unfold Jvm.ClassFile.Decoder.instr
  exact (zrb (zuB h)).trans (rfl))
theorem zd_129 {c : ByteArray} {pc : Nat} {r : List UInt8} (h : c.data.toList.drop pc = 129 :: r) : decode c pc = .ok (.lor, 1) := zdI (by
  unfold Jvm.ClassFile.Decoder.instr
  exact (zrb (zuB h)).trans (rfl))
theorem zd_130 {c : ByteArray} {pc : Nat} {r : List UInt8} (h : c.data.toList.drop pc = 130 :: r) : decode c pc = .ok (.ixor, 1) := zdI (by
  unfold Jvm.ClassFile.Decoder.instr
  exact (zrb (zuB h)).trans (rfl))
theorem zd_132 {c : ByteArray} {pc : Nat} {b0 b1 : UInt8} {r : List UInt8} (h : c.data.toList.drop pc = 132 :: b0 :: b1 :: r) : decode c pc = .ok ((.iinc (b0.toNat) ((Jvm.ClassFile.Reader.signed 8 b1.toNat))), 3) := zdI (by
  unfold Jvm.ClassFile.Decoder.instr
  exact (zrb (zuB h)).trans ((zrb (zuB (zuD h))).trans ((zrb (zrm (zuB (zuD (zuD h))))).trans (rfl))))
theorem zd_133 {c : ByteArray} {pc : Nat} {r : List UInt8} (h : c.data.toList.drop pc = 133 :: r) : decode c pc = .ok (.i2l, 1) := zdI (by
  unfold Jvm.ClassFile.Decoder.instr
  exact (zrb (zuB h)).trans (rfl))
theorem zd_136 {c : ByteArray} {pc : Nat} {r : List UInt8} (h : c.data.toList.drop pc = 136 :: r) : decode c pc = .ok (.l2i, 1) := zdI (by
  unfold Jvm.ClassFile.Decoder.instr
  exact (zrb (zuB h)).trans (rfl))
theorem zd_145 {c : ByteArray} {pc : Nat} {r : List UInt8} (h : c.data.toList.drop pc = 145 :: r) : decode c pc = .ok (.i2b, 1) := zdI (by
  unfold Jvm.ClassFile.Decoder.instr
  exact (zrb (zuB h)).trans (rfl))
theorem zd_147 {c : ByteArray} {pc : Nat} {r : List UInt8} (h : c.data.toList.drop pc = 147 :: r) : decode c pc = .ok (.i2s, 1) := zdI (by
  unfold Jvm.ClassFile.Decoder.instr
  exact (zrb (zuB h)).trans (rfl))
theorem zd_148 {c : ByteArray} {pc : Nat} {r : List UInt8} (h : c.data.toList.drop pc = 148 :: r) : decode c pc = .ok (.lcmp, 1) := zdI (by
  unfold Jvm.ClassFile.Decoder.instr
  exact (zrb (zuB h)).trans (rfl))
theorem zd_153 {c : ByteArray} {pc : Nat} {b0 b1 : UInt8} {r : List UInt8} (h : c.data.toList.drop pc = 153 :: b0 :: b1 :: r) : decode c pc = .ok ((.ifCond .eq ((Jvm.ClassFile.Reader.signed 16 (b0.toNat * 256 + b1.toNat)))), 3) := zdI (by
  unfold Jvm.ClassFile.Decoder.instr
  exact (zrb (zuB h)).trans ((zrb (zrm (zu2 (zuD h)))).trans (rfl)))
theorem zd_154 {c : ByteArray} {pc : Nat} {b0 b1 : UInt8} {r : List UInt8} (h : c.data.toList.drop pc = 154 :: b0 :: b1 :: r) : decode c pc = .ok ((.ifCond .ne ((Jvm.ClassFile.Reader.signed 16 (b0.toNat * 256 + b1.toNat)))), 3) := zdI (by
  unfold Jvm.ClassFile.Decoder.instr
  exact (zrb (zuB h)).trans ((zrb (zrm (zu2 (zuD h)))).trans (rfl)))
theorem zd_155 {c : ByteArray} {pc : Nat} {b0 b1 : UInt8} {r : List UInt8} (h : c.data.toList.drop pc = 155 :: b0 :: b1 :: r) : decode c pc = .ok ((.ifCond .lt ((Jvm.ClassFile.Reader.signed 16 (b0.toNat * 256 + b1.toNat)))), 3) := zdI (by
  unfold Jvm.ClassFile.Decoder.instr
  exact (zrb (zuB h)).trans ((zrb (zrm (zu2 (zuD h)))).trans (rfl)))
theorem zd_156 {c : ByteArray} {pc : Nat} {b0 b1 : UInt8} {r : List UInt8} (h : c.data.toList.drop pc = 156 :: b0 :: b1 :: r) : decode c pc = .ok ((.ifCond .ge ((Jvm.ClassFile.Reader.signed 16 (b0.toNat * 256 + b1.toNat)))), 3) := zdI (by
  unfold Jvm.ClassFile.Decoder.instr
  exact (zrb (zuB h)).trans ((zrb (zrm (zu2 (zuD h)))).trans (rfl)))
theorem zd_157 {c : ByteArray} {pc : Nat} {b0 b1 : UInt8} {r : List UInt8} (h : c.data.toList.drop pc = 157 :: b0 :: b1 :: r) : decode c pc = .ok ((.ifCond .gt ((Jvm.ClassFile.Reader.signed 16 (b0.toNat * 256 + b1.toNat)))), 3) := zdI (by
  unfold Jvm.ClassFile.Decoder.instr
  exact (zrb (zuB h)).trans ((zrb (zrm (zu2 (zuD h)))).trans (rfl)))
theorem zd_158 {c : ByteArray} {pc : Nat} {b0 b1 : UInt8} {r : List UInt8} (h : c.data.toList.drop pc = 158 :: b0 :: b1 :: r) : decode c pc = .ok ((.ifCond .le ((Jvm.ClassFile.Reader.signed 16 (b0.toNat * 256 + b1.toNat)))), 3) := zdI (by
  unfold Jvm.ClassFile.Decoder.instr
  exact (zrb (zuB h)).trans ((zrb (zrm (zu2 (zuD h)))).trans (rfl)))
theorem zd_159 {c : ByteArray} {pc : Nat} {b0 b1 : UInt8} {r : List UInt8} (h : c.data.toList.drop pc = 159 :: b0 :: b1 :: r) : decode c pc = .ok ((.if_icmp .eq ((Jvm.ClassFile.Reader.signed 16 (b0.toNat * 256 + b1.toNat)))), 3) := zdI (by
  unfold Jvm.ClassFile.Decoder.instr
  exact (zrb (zuB h)).trans ((zrb (zrm (zu2 (zuD h)))).trans (rfl)))
theorem zd_160 {c : ByteArray} {pc : Nat} {b0 b1 : UInt8} {r : List UInt8} (h : c.data.toList.drop pc = 160 :: b0 :: b1 :: r) : decode c pc = .ok ((.if_icmp .ne ((Jvm.ClassFile.Reader.signed 16 (b0.toNat * 256 + b1.toNat)))), 3) := zdI (by
  unfold Jvm.ClassFile.Decoder.instr
  exact (zrb (zuB h)).trans ((zrb (zrm (zu2 (zuD h)))).trans (rfl)))
theorem zd_161 {c : ByteArray} {pc : Nat} {b0 b1 : UInt8} {r : List UInt8} (h : c.data.toList.drop pc = 161 :: b0 :: b1 :: r) : decode c pc = .ok ((.if_icmp .lt ((Jvm.ClassFile.Reader.signed 16 (b0.toNat * 256 + b1.toNat)))), 3) := zdI (by
  unfold Jvm.ClassFile.Decoder.instr
  exact (zrb (zuB h)).trans ((zrb (zrm (zu2 (zuD h)))).trans (rfl)))
theorem zd_162 {c : ByteArray} {pc : Nat} {b0 b1 : UInt8} {r : List UInt8} (h : c.data.toList.drop pc = 162 :: b0 :: b1 :: r) : decode c pc = .ok ((.if_icmp .ge ((Jvm.ClassFile.Reader.signed 16 (b0.toNat * 256 + b1.toNat)))), 3) := zdI (by
  unfold Jvm.ClassFile.Decoder.instr
  exact (zrb (zuB h)).trans ((zrb (zrm (zu2 (zuD h)))).trans (rfl)))
theorem zd_163 {c : ByteArray} {pc : Nat} {b0 b1 : UInt8} {r : List UInt8} (h : c.data.toList.drop pc = 163 :: b0 :: b1 :: r) : decode c pc = .ok ((.if_icmp .gt ((Jvm.ClassFile.Reader.signed 16 (b0.toNat * 256 + b1.toNat)))), 3) := zdI (by
  unfold Jvm.ClassFile.Decoder.instr
  exact (zrb (zuB h)).trans ((zrb (zrm (zu2 (zuD h)))).trans (rfl)))
theorem zd_164 {c : ByteArray} {pc : Nat} {b0 b1 : UInt8} {r : List UInt8} (h : c.data.toList.drop pc = 164 :: b0 :: b1 :: r) : decode c pc = .ok ((.if_icmp .le ((Jvm.ClassFile.Reader.signed 16 (b0.toNat * 256 + b1.toNat)))), 3) := zdI (by
  unfold Jvm.ClassFile.Decoder.instr
  exact (zrb (zuB h)).trans ((zrb (zrm (zu2 (zuD h)))).trans (rfl)))
theorem zd_167 {c : ByteArray} {pc : Nat} {b0 b1 : UInt8} {r : List UInt8} (h : c.data.toList.drop pc = 167 :: b0 :: b1 :: r) : decode c pc = .ok ((.goto ((Jvm.ClassFile.Reader.signed 16 (b0.toNat * 256 + b1.toNat)))), 3) := zdI (by
  unfold Jvm.ClassFile.Decoder.instr
  exact (zrb (zuB h)).trans ((zrb (zrm (zu2 (zuD h)))).trans (rfl)))
theorem zd_172 {c : ByteArray} {pc : Nat} {r : List UInt8} (h : c.data.toList.drop pc = 172 :: r) : decode c pc = .ok (.ireturn, 1) := zdI (by
  unfold Jvm.ClassFile.Decoder.instr
  exact (zrb (zuB h)).trans (rfl))
theorem zd_173 {c : ByteArray} {pc : Nat} {r : List UInt8} (h : c.data.toList.drop pc = 173 :: r) : decode c pc = .ok (.lreturn, 1) := zdI (by
  unfold Jvm.ClassFile.Decoder.instr
  exact (zrb (zuB h)).trans (rfl))
theorem zd_177 {c : ByteArray} {pc : Nat} {r : List UInt8} (h : c.data.toList.drop pc = 177 :: r) : decode c pc = .ok (.return_, 1) := zdI (by
  unfold Jvm.ClassFile.Decoder.instr
  exact (zrb (zuB h)).trans (rfl))
theorem zd_178 {c : ByteArray} {pc : Nat} {b0 b1 : UInt8} {r : List UInt8} (h : c.data.toList.drop pc = 178 :: b0 :: b1 :: r) : decode c pc = .ok ((.getstatic ((b0.toNat * 256 + b1.toNat))), 3) := zdI (by
  unfold Jvm.ClassFile.Decoder.instr
  exact (zrb (zuB h)).trans ((zrb (zu2 (zuD h))).trans (rfl)))
theorem zd_180 {c : ByteArray} {pc : Nat} {b0 b1 : UInt8} {r : List UInt8} (h : c.data.toList.drop pc = 180 :: b0 :: b1 :: r) : decode c pc = .ok ((.getfield ((b0.toNat * 256 + b1.toNat))), 3) := zdI (by
  unfold Jvm.ClassFile.Decoder.instr
  exact (zrb (zuB h)).trans ((zrb (zu2 (zuD h))).trans (rfl)))
theorem zd_181 {c : ByteArray} {pc : Nat} {b0 b1 : UInt8} {r : List UInt8} (h : c.data.toList.drop pc = 181 :: b0 :: b1 :: r) : decode c pc = .ok ((.putfield ((b0.toNat * 256 + b1.toNat))), 3) := zdI (by
  unfold Jvm.ClassFile.Decoder.instr
  exact (zrb (zuB h)).trans ((zrb (zu2 (zuD h))).trans (rfl)))
theorem zd_182 {c : ByteArray} {pc : Nat} {b0 b1 : UInt8} {r : List UInt8} (h : c.data.toList.drop pc = 182 :: b0 :: b1 :: r) : decode c pc = .ok ((.invokevirtual ((b0.toNat * 256 + b1.toNat))), 3) := zdI (by
  unfold Jvm.ClassFile.Decoder.instr
  exact (zrb (zuB h)).trans ((zrb (zu2 (zuD h))).trans (rfl)))
theorem zd_183 {c : ByteArray} {pc : Nat} {b0 b1 : UInt8} {r : List UInt8} (h : c.data.toList.drop pc = 183 :: b0 :: b1 :: r) : decode c pc = .ok ((.invokespecial ((b0.toNat * 256 + b1.toNat))), 3) := zdI (by
  unfold Jvm.ClassFile.Decoder.instr
  exact (zrb (zuB h)).trans ((zrb (zu2 (zuD h))).trans (rfl)))
theorem zd_184 {c : ByteArray} {pc : Nat} {b0 b1 : UInt8} {r : List UInt8} (h : c.data.toList.drop pc = 184 :: b0 :: b1 :: r) : decode c pc = .ok ((.invokestatic ((b0.toNat * 256 + b1.toNat))), 3) := zdI (by
  unfold Jvm.ClassFile.Decoder.instr
  exact (zrb (zuB h)).trans ((zrb (zu2 (zuD h))).trans (rfl)))
theorem zd_187 {c : ByteArray} {pc : Nat} {b0 b1 : UInt8} {r : List UInt8} (h : c.data.toList.drop pc = 187 :: b0 :: b1 :: r) : decode c pc = .ok ((.new ((b0.toNat * 256 + b1.toNat))), 3) := zdI (by
  unfold Jvm.ClassFile.Decoder.instr
  exact (zrb (zuB h)).trans ((zrb (zu2 (zuD h))).trans (rfl)))
theorem zd_189 {c : ByteArray} {pc : Nat} {b0 b1 : UInt8} {r : List UInt8} (h : c.data.toList.drop pc = 189 :: b0 :: b1 :: r) : decode c pc = .ok ((.anewarray ((b0.toNat * 256 + b1.toNat))), 3) := zdI (by
  unfold Jvm.ClassFile.Decoder.instr
  exact (zrb (zuB h)).trans ((zrb (zu2 (zuD h))).trans (rfl)))
theorem zd_190 {c : ByteArray} {pc : Nat} {r : List UInt8} (h : c.data.toList.drop pc = 190 :: r) : decode c pc = .ok (.arraylength, 1) := zdI (by
  unfold Jvm.ClassFile.Decoder.instr
  exact (zrb (zuB h)).trans (rfl))
/-- what an opcode makes of the bytes after it -/
abbrev zdT : Type := UInt8 → List UInt8 → Option (Instr × Nat)
def zdP (f : zdT) : Prop := ∀ (b : UInt8) (r : List UInt8) (i : Instr) (n : Nat), f b r = some (i, n) → ∀ (c : ByteArray) (pc : Nat), c.data.toList.drop pc = b :: r → decode c pc = .ok (i, n)
def zdf_2 : zdT := fun b r => bif Nat.beq b.toNat 2 then (some ((.iconst (-1)), 1)) else none
theorem zdp_2 : zdP zdf_2 := by
  intro b r i n h c pc hd
  unfold zdf_2 at h
  cases hb : Nat.beq b.toNat 2 with
  | false =>
    rw [hb] at h
    cases h
  | true =>
    have e : b = 2 := UInt8.toNat_inj.mp (Nat.eq_of_beq_eq_true hb)
    rw [hb] at h
    subst e
    cases h
    exact zd_2 hd
def zdf_3 : zdT := fun b r => bif Nat.beq b.toNat 3 then (some ((.iconst 0), 1)) else none
theorem zdp_3 : zdP zdf_3 := by
  intro b r i n h c pc hd
  unfold zdf_3 at h
  cases hb : Nat.beq b.toNat 3 with
  | false =>
    rw [hb] at h
    cases h
  | true =>
    have e : b = 3 := UInt8.toNat_inj.mp (Nat.eq_of_beq_eq_true hb)
    rw [hb] at h
    subst e
    cases h
    exact zd_3 hd
def zdf_4 : zdT := fun b r => bif Nat.beq b.toNat 4 then (some ((.iconst 1), 1)) else none
theorem zdp_4 : zdP zdf_4 := by
  intro b r i n h c pc hd
  unfold zdf_4 at h
  cases hb : Nat.beq b.toNat 4 with
  | false =>
    rw [hb] at h
    cases h
  | true =>
    have e : b = 4 := UInt8.toNat_inj.mp (Nat.eq_of_beq_eq_true hb)
    rw [hb] at h
    subst e
    cases h
    exact zd_4 hd
def zdf_5 : zdT := fun b r => bif Nat.beq b.toNat 5 then (some ((.iconst 2), 1)) else none
theorem zdp_5 : zdP zdf_5 := by
  intro b r i n h c pc hd
  unfold zdf_5 at h
  cases hb : Nat.beq b.toNat 5 with
  | false =>
    rw [hb] at h
    cases h
  | true =>
    have e : b = 5 := UInt8.toNat_inj.mp (Nat.eq_of_beq_eq_true hb)
    rw [hb] at h
    subst e
    cases h
    exact zd_5 hd
def zdf_6 : zdT := fun b r => bif Nat.beq b.toNat 6 then (some ((.iconst 3), 1)) else none
theorem zdp_6 : zdP zdf_6 := by
  intro b r i n h c pc hd
  unfold zdf_6 at h
  cases hb : Nat.beq b.toNat 6 with
  | false =>
    rw [hb] at h
    cases h
  | true =>
    have e : b = 6 := UInt8.toNat_inj.mp (Nat.eq_of_beq_eq_true hb)
    rw [hb] at h
    subst e
    cases h
    exact zd_6 hd
def zdf_7 : zdT := fun b r => bif Nat.beq b.toNat 7 then (some ((.iconst 4), 1)) else none
theorem zdp_7 : zdP zdf_7 := by
  intro b r i n h c pc hd
  unfold zdf_7 at h
  cases hb : Nat.beq b.toNat 7 with
  | false =>
    rw [hb] at h
    cases h
  | true =>
    have e : b = 7 := UInt8.toNat_inj.mp (Nat.eq_of_beq_eq_true hb)
    rw [hb] at h
    subst e
    cases h
    exact zd_7 hd
def zdf_8 : zdT := fun b r => bif Nat.beq b.toNat 8 then (some ((.iconst 5), 1)) else none
theorem zdp_8 : zdP zdf_8 := by
  intro b r i n h c pc hd
  unfold zdf_8 at h
  cases hb : Nat.beq b.toNat 8 with
  | false =>
    rw [hb] at h
    cases h
  | true =>
    have e : b = 8 := UInt8.toNat_inj.mp (Nat.eq_of_beq_eq_true hb)
    rw [hb] at h
    subst e
    cases h
    exact zd_8 hd
def zdf_9 : zdT := fun b r => bif Nat.beq b.toNat 9 then (some ((.lconst 0), 1)) else none
theorem zdp_9 : zdP zdf_9 := by
  intro b r i n h c pc hd
  unfold zdf_9 at h
  cases hb : Nat.beq b.toNat 9 with
  | false =>
    rw [hb] at h
    cases h
  | true =>
    have e : b = 9 := UInt8.toNat_inj.mp (Nat.eq_of_beq_eq_true hb)
    rw [hb] at h
    subst e
    cases h
    exact zd_9 hd
def zdf_10 : zdT := fun b r => bif Nat.beq b.toNat 10 then (some ((.lconst 1), 1)) else none
theorem zdp_10 : zdP zdf_10 := by
  intro b r i n h c pc hd
  unfold zdf_10 at h
  cases hb : Nat.beq b.toNat 10 with
  | false =>
    rw [hb] at h
    cases h
  | true =>
    have e : b = 10 := UInt8.toNat_inj.mp (Nat.eq_of_beq_eq_true hb)
    rw [hb] at h
    subst e
    cases h
    exact zd_10 hd
def zdf_16 : zdT := fun b r => bif Nat.beq b.toNat 16 then (match r with | b0 :: _ => some ((.bipush ((Jvm.ClassFile.Reader.signed 8 b0.toNat))), 2) | _ => none) else none
theorem zdp_16 : zdP zdf_16 := by
  intro b r i n h c pc hd
  unfold zdf_16 at h
  cases hb : Nat.beq b.toNat 16 with
  | false =>
    rw [hb] at h
    cases h
  | true =>
    have e : b = 16 := UInt8.toNat_inj.mp (Nat.eq_of_beq_eq_true hb)
    rw [hb] at h
    subst e
    cases r with
    | nil => cases h
    | cons b0 r =>
      cases h
      exact zd_16 hd
def zdf_17 : zdT := fun b r => bif Nat.beq b.toNat 17 then (match r with | b0 :: b1 :: _ => some ((.sipush ((Jvm.ClassFile.Reader.signed 16 (b0.toNat * 256 + b1.toNat)))), 3) | _ => none) else none
theorem zdp_17 : zdP zdf_17 := by
  intro b r i n h c pc hd
  unfold zdf_17 at h
  cases hb : Nat.beq b.toNat 17 with
  | false =>
    rw [hb] at h
    cases h
  | true =>
    have e : b = 17 := UInt8.toNat_inj.mp (Nat.eq_of_beq_eq_true hb)
    rw [hb] at h
    subst e
    cases r with
    | nil => cases h
    | cons b0 r =>
      cases r with
      | nil => cases h
      | cons b1 r =>
        cases h
        exact zd_17 hd
def zdf_18 : zdT := fun b r => bif Nat.beq b.toNat 18 then (match r with | b0 :: _ => some ((.ldc (b0.toNat)), 2) | _ => none) else none
theorem zdp_18 : zdP zdf_18 := by
  intro b r i n h c pc hd
  unfold zdf_18 at h
  cases hb : Nat.beq b.toNat 18 with
  | false =>
    rw [hb] at h
    cases h
  | true =>
    have e : b = 18 := UInt8.toNat_inj.mp (Nat.eq_of_beq_eq_true hb)
    rw [hb] at h
    subst e
    cases r with
    | nil => cases h
    | cons b0 r =>
      cases h
      exact zd_18 hd
def zdf_19 : zdT := fun b r => bif Nat.beq b.toNat 19 then (match r with | b0 :: b1 :: _ => some ((.ldc_w ((b0.toNat * 256 + b1.toNat))), 3) | _ => none) else none
theorem zdp_19 : zdP zdf_19 := by
  intro b r i n h c pc hd
  unfold zdf_19 at h
  cases hb : Nat.beq b.toNat 19 with
  | false =>
    rw [hb] at h
    cases h
  | true =>
    have e : b = 19 := UInt8.toNat_inj.mp (Nat.eq_of_beq_eq_true hb)
    rw [hb] at h
    subst e
    cases r with
    | nil => cases h
    | cons b0 r =>
      cases r with
      | nil => cases h
      | cons b1 r =>
        cases h
        exact zd_19 hd
def zdf_20 : zdT := fun b r => bif Nat.beq b.toNat 20 then (match r with | b0 :: b1 :: _ => some ((.ldc2_w ((b0.toNat * 256 + b1.toNat))), 3) | _ => none) else none
theorem zdp_20 : zdP zdf_20 := by
  intro b r i n h c pc hd
  unfold zdf_20 at h
  cases hb : Nat.beq b.toNat 20 with
  | false =>
    rw [hb] at h
    cases h
  | true =>
    have e : b = 20 := UInt8.toNat_inj.mp (Nat.eq_of_beq_eq_true hb)
    rw [hb] at h
    subst e
    cases r with
    | nil => cases h
    | cons b0 r =>
      cases r with
      | nil => cases h
      | cons b1 r =>
        cases h
        exact zd_20 hd
def zdf_21 : zdT := fun b r => bif Nat.beq b.toNat 21 then (match r with | b0 :: _ => some ((.iload (b0.toNat)), 2) | _ => none) else none
theorem zdp_21 : zdP zdf_21 := by
  intro b r i n h c pc hd
  unfold zdf_21 at h
  cases hb : Nat.beq b.toNat 21 with
  | false =>
    rw [hb] at h
    cases h
  | true =>
    have e : b = 21 := UInt8.toNat_inj.mp (Nat.eq_of_beq_eq_true hb)
    rw [hb] at h
    subst e
    cases r with
    | nil => cases h
    | cons b0 r =>
      cases h
      exact zd_21 hd
def zdf_22 : zdT := fun b r => bif Nat.beq b.toNat 22 then (match r with | b0 :: _ => some ((.lload (b0.toNat)), 2) | _ => none) else none
theorem zdp_22 : zdP zdf_22 := by
  intro b r i n h c pc hd
  unfold zdf_22 at h
  cases hb : Nat.beq b.toNat 22 with
  | false =>
    rw [hb] at h
    cases h
  | true =>
    have e : b = 22 := UInt8.toNat_inj.mp (Nat.eq_of_beq_eq_true hb)
    rw [hb] at h
    subst e
    cases r with
    | nil => cases h
    | cons b0 r =>
      cases h
      exact zd_22 hd
def zdf_25 : zdT := fun b r => bif Nat.beq b.toNat 25 then (match r with | b0 :: _ => some ((.aload (b0.toNat)), 2) | _ => none) else none
theorem zdp_25 : zdP zdf_25 := by
  intro b r i n h c pc hd
  unfold zdf_25 at h
  cases hb : Nat.beq b.toNat 25 with
  | false =>
    rw [hb] at h
    cases h
  | true =>
    have e : b = 25 := UInt8.toNat_inj.mp (Nat.eq_of_beq_eq_true hb)
    rw [hb] at h
    subst e
    cases r with
    | nil => cases h
    | cons b0 r =>
      cases h
      exact zd_25 hd
def zdf_26 : zdT := fun b r => bif Nat.beq b.toNat 26 then (some ((.iload_n 0), 1)) else none
theorem zdp_26 : zdP zdf_26 := by
  intro b r i n h c pc hd
  unfold zdf_26 at h
  cases hb : Nat.beq b.toNat 26 with
  | false =>
    rw [hb] at h
    cases h
  | true =>
    have e : b = 26 := UInt8.toNat_inj.mp (Nat.eq_of_beq_eq_true hb)
    rw [hb] at h
    subst e
    cases h
    exact zd_26 hd
def zdf_27 : zdT := fun b r => bif Nat.beq b.toNat 27 then (some ((.iload_n 1), 1)) else none
theorem zdp_27 : zdP zdf_27 := by
  intro b r i n h c pc hd
  unfold zdf_27 at h
  cases hb : Nat.beq b.toNat 27 with
  | false =>
    rw [hb] at h
    cases h
  | true =>
    have e : b = 27 := UInt8.toNat_inj.mp (Nat.eq_of_beq_eq_true hb)
    rw [hb] at h
    subst e
    cases h
    exact zd_27 hd
def zdf_28 : zdT := fun b r => bif Nat.beq b.toNat 28 then (some ((.iload_n 2), 1)) else none
theorem zdp_28 : zdP zdf_28 := by
  intro b r i n h c pc hd
  unfold zdf_28 at h
  cases hb : Nat.beq b.toNat 28 with
  | false =>
    rw [hb] at h
    cases h
  | true =>
    have e : b = 28 := UInt8.toNat_inj.mp (Nat.eq_of_beq_eq_true hb)
    rw [hb] at h
    subst e
    cases h
    exact zd_28 hd
def zdf_29 : zdT := fun b r => bif Nat.beq b.toNat 29 then (some ((.iload_n 3), 1)) else none
theorem zdp_29 : zdP zdf_29 := by
  intro b r i n h c pc hd
  unfold zdf_29 at h
  cases hb : Nat.beq b.toNat 29 with
  | false =>
    rw [hb] at h
    cases h
  | true =>
    have e : b = 29 := UInt8.toNat_inj.mp (Nat.eq_of_beq_eq_true hb)
    rw [hb] at h
    subst e
    cases h
    exact zd_29 hd
def zdf_30 : zdT := fun b r => bif Nat.beq b.toNat 30 then (some ((.lload_n 0), 1)) else none
theorem zdp_30 : zdP zdf_30 := by
  intro b r i n h c pc hd
  unfold zdf_30 at h
  cases hb : Nat.beq b.toNat 30 with
  | false =>
    rw [hb] at h
    cases h
  | true =>
    have e : b = 30 := UInt8.toNat_inj.mp (Nat.eq_of_beq_eq_true hb)
    rw [hb] at h
    subst e
    cases h
    exact zd_30 hd
def zdf_31 : zdT := fun b r => bif Nat.beq b.toNat 31 then (some ((.lload_n 1), 1)) else none
theorem zdp_31 : zdP zdf_31 := by
  intro b r i n h c pc hd
  unfold zdf_31 at h
  cases hb : Nat.beq b.toNat 31 with
  | false =>
    rw [hb] at h
    cases h
  | true =>
    have e : b = 31 := UInt8.toNat_inj.mp (Nat.eq_of_beq_eq_true hb)
    rw [hb] at h
    subst e
    cases h
    exact zd_31 hd
def zdf_32 : zdT := fun b r => bif Nat.beq b.toNat 32 then (some ((.lload_n 2), 1)) else none
theorem zdp_32 : zdP zdf_32 := by
  intro b r i n h c pc hd
  unfold zdf_32 at h
  cases hb : Nat.beq b.toNat 32 with
  | false =>
    rw [hb] at h
    cases h
  | true =>
    have e : b = 32 := UInt8.toNat_inj.mp (Nat.eq_of_beq_eq_true hb)
    rw [hb] at h
    subst e
    cases h
    exact zd_32 hd
def zdf_33 : zdT := fun b r => bif Nat.beq b.toNat 33 then (some ((.lload_n 3), 1)) else none
theorem zdp_33 : zdP zdf_33 := by
  intro b r i n h c pc hd
  unfold zdf_33 at h
  cases hb : Nat.beq b.toNat 33 with
  | false =>
    rw [hb] at h
    cases h
  | true =>
    have e : b = 33 := UInt8.toNat_inj.mp (Nat.eq_of_beq_eq_true hb)
    rw [hb] at h
    subst e
    cases h
    exact zd_33 hd
def zdf_42 : zdT := fun b r => bif Nat.beq b.toNat 42 then (some ((.aload_n 0), 1)) else none
theorem zdp_42 : zdP zdf_42 := by
  intro b r i n h c pc hd
  unfold zdf_42 at h
  cases hb : Nat.beq b.toNat 42 with
  | false =>
    rw [hb] at h
    cases h
  | true =>
    have e : b = 42 := UInt8.toNat_inj.mp (Nat.eq_of_beq_eq_true hb)
    rw [hb] at h
    subst e
    cases h
    exact zd_42 hd
def zdf_43 : zdT := fun b r => bif Nat.beq b.toNat 43 then (some ((.aload_n 1), 1)) else none
theorem zdp_43 : zdP zdf_43 := by
  intro b r i n h c pc hd
  unfold zdf_43 at h
  cases hb : Nat.beq b.toNat 43 with
  | false =>
    rw [hb] at h
    cases h
  | true =>
    have e : b = 43 := UInt8.toNat_inj.mp (Nat.eq_of_beq_eq_true hb)
    rw [hb] at h
    subst e
    cases h
    exact zd_43 hd
def zdf_44 : zdT := fun b r => bif Nat.beq b.toNat 44 then (some ((.aload_n 2), 1)) else none
theorem zdp_44 : zdP zdf_44 := by
  intro b r i n h c pc hd
  unfold zdf_44 at h
  cases hb : Nat.beq b.toNat 44 with
  | false =>
    rw [hb] at h
    cases h
  | true =>
    have e : b = 44 := UInt8.toNat_inj.mp (Nat.eq_of_beq_eq_true hb)
    rw [hb] at h
    subst e
    cases h
    exact zd_44 hd
def zdf_46 : zdT := fun b r => bif Nat.beq b.toNat 46 then (some (.iaload, 1)) else none
theorem zdp_46 : zdP zdf_46 := by
  intro b r i n h c pc hd
  unfold zdf_46 at h
  cases hb : Nat.beq b.toNat 46 with
  | false =>
    rw [hb] at h
    cases h
  | true =>
    have e : b = 46 := UInt8.toNat_inj.mp (Nat.eq_of_beq_eq_true hb)
    rw [hb] at h
    subst e
    cases h
    exact zd_46 hd
def zdf_47 : zdT := fun b r => bif Nat.beq b.toNat 47 then (some (.laload, 1)) else none
theorem zdp_47 : zdP zdf_47 := by
  intro b r i n h c pc hd
  unfold zdf_47 at h
  cases hb : Nat.beq b.toNat 47 with
  | false =>
    rw [hb] at h
    cases h
  | true =>
    have e : b = 47 := UInt8.toNat_inj.mp (Nat.eq_of_beq_eq_true hb)
    rw [hb] at h
    subst e
    cases h
    exact zd_47 hd
def zdf_50 : zdT := fun b r => bif Nat.beq b.toNat 50 then (some (.aaload, 1)) else none
theorem zdp_50 : zdP zdf_50 := by
  intro b r i n h c pc hd
  unfold zdf_50 at h
  cases hb : Nat.beq b.toNat 50 with
  | false =>
    rw [hb] at h
    cases h
  | true =>
    have e : b = 50 := UInt8.toNat_inj.mp (Nat.eq_of_beq_eq_true hb)
    rw [hb] at h
    subst e
    cases h
    exact zd_50 hd
def zdf_54 : zdT := fun b r => bif Nat.beq b.toNat 54 then (match r with | b0 :: _ => some ((.istore (b0.toNat)), 2) | _ => none) else none
theorem zdp_54 : zdP zdf_54 := by
  intro b r i n h c pc hd
  unfold zdf_54 at h
  cases hb : Nat.beq b.toNat 54 with
  | false =>
    rw [hb] at h
    cases h
  | true =>
    have e : b = 54 := UInt8.toNat_inj.mp (Nat.eq_of_beq_eq_true hb)
    rw [hb] at h
    subst e
    cases r with
    | nil => cases h
    | cons b0 r =>
      cases h
      exact zd_54 hd
def zdf_58 : zdT := fun b r => bif Nat.beq b.toNat 58 then (match r with | b0 :: _ => some ((.astore (b0.toNat)), 2) | _ => none) else none
theorem zdp_58 : zdP zdf_58 := by
  intro b r i n h c pc hd
  unfold zdf_58 at h
  cases hb : Nat.beq b.toNat 58 with
  | false =>
    rw [hb] at h
    cases h
  | true =>
    have e : b = 58 := UInt8.toNat_inj.mp (Nat.eq_of_beq_eq_true hb)
    rw [hb] at h
    subst e
    cases r with
    | nil => cases h
    | cons b0 r =>
      cases h
      exact zd_58 hd
def zdf_59 : zdT := fun b r => bif Nat.beq b.toNat 59 then (some ((.istore_n 0), 1)) else none
theorem zdp_59 : zdP zdf_59 := by
  intro b r i n h c pc hd
  unfold zdf_59 at h
  cases hb : Nat.beq b.toNat 59 with
  | false =>
    rw [hb] at h
    cases h
  | true =>
    have e : b = 59 := UInt8.toNat_inj.mp (Nat.eq_of_beq_eq_true hb)
    rw [hb] at h
    subst e
    cases h
    exact zd_59 hd
def zdf_60 : zdT := fun b r => bif Nat.beq b.toNat 60 then (some ((.istore_n 1), 1)) else none
theorem zdp_60 : zdP zdf_60 := by
  intro b r i n h c pc hd
  unfold zdf_60 at h
  cases hb : Nat.beq b.toNat 60 with
  | false =>
    rw [hb] at h
    cases h
  | true =>
    have e : b = 60 := UInt8.toNat_inj.mp (Nat.eq_of_beq_eq_true hb)
    rw [hb] at h
    subst e
    cases h
    exact zd_60 hd
def zdf_61 : zdT := fun b r => bif Nat.beq b.toNat 61 then (some ((.istore_n 2), 1)) else none
theorem zdp_61 : zdP zdf_61 := by
  intro b r i n h c pc hd
  unfold zdf_61 at h
  cases hb : Nat.beq b.toNat 61 with
  | false =>
    rw [hb] at h
    cases h
  | true =>
    have e : b = 61 := UInt8.toNat_inj.mp (Nat.eq_of_beq_eq_true hb)
    rw [hb] at h
    subst e
    cases h
    exact zd_61 hd
def zdf_62 : zdT := fun b r => bif Nat.beq b.toNat 62 then (some ((.istore_n 3), 1)) else none
theorem zdp_62 : zdP zdf_62 := by
  intro b r i n h c pc hd
  unfold zdf_62 at h
  cases hb : Nat.beq b.toNat 62 with
  | false =>
    rw [hb] at h
    cases h
  | true =>
    have e : b = 62 := UInt8.toNat_inj.mp (Nat.eq_of_beq_eq_true hb)
    rw [hb] at h
    subst e
    cases h
    exact zd_62 hd
def zdf_76 : zdT := fun b r => bif Nat.beq b.toNat 76 then (some ((.astore_n 1), 1)) else none
theorem zdp_76 : zdP zdf_76 := by
  intro b r i n h c pc hd
  unfold zdf_76 at h
  cases hb : Nat.beq b.toNat 76 with
  | false =>
    rw [hb] at h
    cases h
  | true =>
    have e : b = 76 := UInt8.toNat_inj.mp (Nat.eq_of_beq_eq_true hb)
    rw [hb] at h
    subst e
    cases h
    exact zd_76 hd
def zdf_77 : zdT := fun b r => bif Nat.beq b.toNat 77 then (some ((.astore_n 2), 1)) else none
theorem zdp_77 : zdP zdf_77 := by
  intro b r i n h c pc hd
  unfold zdf_77 at h
  cases hb : Nat.beq b.toNat 77 with
  | false =>
    rw [hb] at h
    cases h
  | true =>
    have e : b = 77 := UInt8.toNat_inj.mp (Nat.eq_of_beq_eq_true hb)
    rw [hb] at h
    subst e
    cases h
    exact zd_77 hd
def zdf_79 : zdT := fun b r => bif Nat.beq b.toNat 79 then (some (.iastore, 1)) else none
theorem zdp_79 : zdP zdf_79 := by
  intro b r i n h c pc hd
  unfold zdf_79 at h
  cases hb : Nat.beq b.toNat 79 with
  | false =>
    rw [hb] at h
    cases h
  | true =>
    have e : b = 79 := UInt8.toNat_inj.mp (Nat.eq_of_beq_eq_true hb)
    rw [hb] at h
    subst e
    cases h
    exact zd_79 hd
def zdf_80 : zdT := fun b r => bif Nat.beq b.toNat 80 then (some (.lastore, 1)) else none
theorem zdp_80 : zdP zdf_80 := by
  intro b r i n h c pc hd
  unfold zdf_80 at h
  cases hb : Nat.beq b.toNat 80 with
  | false =>
    rw [hb] at h
    cases h
  | true =>
    have e : b = 80 := UInt8.toNat_inj.mp (Nat.eq_of_beq_eq_true hb)
    rw [hb] at h
    subst e
    cases h
    exact zd_80 hd
def zdf_83 : zdT := fun b r => bif Nat.beq b.toNat 83 then (some (.aastore, 1)) else none
theorem zdp_83 : zdP zdf_83 := by
  intro b r i n h c pc hd
  unfold zdf_83 at h
  cases hb : Nat.beq b.toNat 83 with
  | false =>
    rw [hb] at h
    cases h
  | true =>
    have e : b = 83 := UInt8.toNat_inj.mp (Nat.eq_of_beq_eq_true hb)
    rw [hb] at h
    subst e
    cases h
    exact zd_83 hd
def zdf_87 : zdT := fun b r => bif Nat.beq b.toNat 87 then (some (.pop, 1)) else none
theorem zdp_87 : zdP zdf_87 := by
  intro b r i n h c pc hd
  unfold zdf_87 at h
  cases hb : Nat.beq b.toNat 87 with
  | false =>
    rw [hb] at h
    cases h
  | true =>
    have e : b = 87 := UInt8.toNat_inj.mp (Nat.eq_of_beq_eq_true hb)
    rw [hb] at h
    subst e
    cases h
    exact zd_87 hd
def zdf_88 : zdT := fun b r => bif Nat.beq b.toNat 88 then (some (.pop2, 1)) else none
theorem zdp_88 : zdP zdf_88 := by
  intro b r i n h c pc hd
  unfold zdf_88 at h
  cases hb : Nat.beq b.toNat 88 with
  | false =>
    rw [hb] at h
    cases h
  | true =>
    have e : b = 88 := UInt8.toNat_inj.mp (Nat.eq_of_beq_eq_true hb)
    rw [hb] at h
    subst e
    cases h
    exact zd_88 hd
def zdf_89 : zdT := fun b r => bif Nat.beq b.toNat 89 then (some (.dup, 1)) else none
theorem zdp_89 : zdP zdf_89 := by
  intro b r i n h c pc hd
  unfold zdf_89 at h
  cases hb : Nat.beq b.toNat 89 with
  | false =>
    rw [hb] at h
    cases h
  | true =>
    have e : b = 89 := UInt8.toNat_inj.mp (Nat.eq_of_beq_eq_true hb)
    rw [hb] at h
    subst e
    cases h
    exact zd_89 hd
def zdf_92 : zdT := fun b r => bif Nat.beq b.toNat 92 then (some (.dup2, 1)) else none
theorem zdp_92 : zdP zdf_92 := by
  intro b r i n h c pc hd
  unfold zdf_92 at h
  cases hb : Nat.beq b.toNat 92 with
  | false =>
    rw [hb] at h
    cases h
  | true =>
    have e : b = 92 := UInt8.toNat_inj.mp (Nat.eq_of_beq_eq_true hb)
    rw [hb] at h
    subst e
    cases h
    exact zd_92 hd
def zdf_96 : zdT := fun b r => bif Nat.beq b.toNat 96 then (some (.iadd, 1)) else none
theorem zdp_96 : zdP zdf_96 := by
  intro b r i n h c pc hd
  unfold zdf_96 at h
  cases hb : Nat.beq b.toNat 96 with
  | false =>
    rw [hb] at h
    cases h
  | true =>
    have e : b = 96 := UInt8.toNat_inj.mp (Nat.eq_of_beq_eq_true hb)
    rw [hb] at h
    subst e
    cases h
    exact zd_96 hd
def zdf_100 : zdT := fun b r => bif Nat.beq b.toNat 100 then (some (.isub, 1)) else none
theorem zdp_100 : zdP zdf_100 := by
  intro b r i n h c pc hd
  unfold zdf_100 at h
  cases hb : Nat.beq b.toNat 100 with
  | false =>
    rw [hb] at h
    cases h
  | true =>
    have e : b = 100 := UInt8.toNat_inj.mp (Nat.eq_of_beq_eq_true hb)
    rw [hb] at h
    subst e
    cases h
    exact zd_100 hd
def zdf_104 : zdT := fun b r => bif Nat.beq b.toNat 104 then (some (.imul, 1)) else none
theorem zdp_104 : zdP zdf_104 := by
  intro b r i n h c pc hd
  unfold zdf_104 at h
  cases hb : Nat.beq b.toNat 104 with
  | false =>
    rw [hb] at h
    cases h
  | true =>
    have e : b = 104 := UInt8.toNat_inj.mp (Nat.eq_of_beq_eq_true hb)
    rw [hb] at h
    subst e
    cases h
    exact zd_104 hd
def zdf_108 : zdT := fun b r => bif Nat.beq b.toNat 108 then (some (.idiv, 1)) else none
theorem zdp_108 : zdP zdf_108 := by
  intro b r i n h c pc hd
  unfold zdf_108 at h
  cases hb : Nat.beq b.toNat 108 with
  | false =>
    rw [hb] at h
    cases h
  | true =>
    have e : b = 108 := UInt8.toNat_inj.mp (Nat.eq_of_beq_eq_true hb)
    rw [hb] at h
    subst e
    cases h
    exact zd_108 hd
def zdf_109 : zdT := fun b r => bif Nat.beq b.toNat 109 then (some (.ldiv, 1)) else none
theorem zdp_109 : zdP zdf_109 := by
  intro b r i n h c pc hd
  unfold zdf_109 at h
  cases hb : Nat.beq b.toNat 109 with
  | false =>
    rw [hb] at h
    cases h
  | true =>
    have e : b = 109 := UInt8.toNat_inj.mp (Nat.eq_of_beq_eq_true hb)
    rw [hb] at h
    subst e
    cases h
    exact zd_109 hd
def zdf_112 : zdT := fun b r => bif Nat.beq b.toNat 112 then (some (.irem, 1)) else none
theorem zdp_112 : zdP zdf_112 := by
  intro b r i n h c pc hd
  unfold zdf_112 at h
  cases hb : Nat.beq b.toNat 112 with
  | false =>
    rw [hb] at h
    cases h
  | true =>
    have e : b = 112 := UInt8.toNat_inj.mp (Nat.eq_of_beq_eq_true hb)
    rw [hb] at h
    subst e
    cases h
    exact zd_112 hd
def zdf_113 : zdT := fun b r => bif Nat.beq b.toNat 113 then (some (.lrem, 1)) else none
theorem zdp_113 : zdP zdf_113 := by
  intro b r i n h c pc hd
  unfold zdf_113 at h
  cases hb : Nat.beq b.toNat 113 with
  | false =>
    rw [hb] at h
    cases h
  | true =>
    have e : b = 113 := UInt8.toNat_inj.mp (Nat.eq_of_beq_eq_true hb)
    rw [hb] at h
    subst e
    cases h
    exact zd_113 hd
def zdf_116 : zdT := fun b r => bif Nat.beq b.toNat 116 then (some (.ineg, 1)) else none
theorem zdp_116 : zdP zdf_116 := by
  intro b r i n h c pc hd
  unfold zdf_116 at h
  cases hb : Nat.beq b.toNat 116 with
  | false =>
    rw [hb] at h
    cases h
  | true =>
    have e : b = 116 := UInt8.toNat_inj.mp (Nat.eq_of_beq_eq_true hb)
    rw [hb] at h
    subst e
    cases h
    exact zd_116 hd
def zdf_120 : zdT := fun b r => bif Nat.beq b.toNat 120 then (some (.ishl, 1)) else none
theorem zdp_120 : zdP zdf_120 := by
  intro b r i n h c pc hd
  unfold zdf_120 at h
  cases hb : Nat.beq b.toNat 120 with
  | false =>
    rw [hb] at h
    cases h
  | true =>
    have e : b = 120 := UInt8.toNat_inj.mp (Nat.eq_of_beq_eq_true hb)
    rw [hb] at h
    subst e
    cases h
    exact zd_120 hd
def zdf_121 : zdT := fun b r => bif Nat.beq b.toNat 121 then (some (.lshl, 1)) else none
theorem zdp_121 : zdP zdf_121 := by
  intro b r i n h c pc hd
  unfold zdf_121 at h
  cases hb : Nat.beq b.toNat 121 with
  | false =>
    rw [hb] at h
    cases h
  | true =>
    have e : b = 121 := UInt8.toNat_inj.mp (Nat.eq_of_beq_eq_true hb)
    rw [hb] at h
    subst e
    cases h
    exact zd_121 hd
def zdf_122 : zdT := fun b r => bif Nat.beq b.toNat 122 then (some (.ishr, 1)) else none
theorem zdp_122 : zdP zdf_122 := by
  intro b r i n h c pc hd
  unfold zdf_122 at h
  cases hb : Nat.beq b.toNat 122 with
  | false =>
    rw [hb] at h
    cases h
  | true =>
    have e : b = 122 := UInt8.toNat_inj.mp (Nat.eq_of_beq_eq_true hb)
    rw [hb] at h
    subst e
    cases h
    exact zd_122 hd
def zdf_124 : zdT := fun b r => bif Nat.beq b.toNat 124 then (some (.iushr, 1)) else none
theorem zdp_124 : zdP zdf_124 := by
  intro b r i n h c pc hd
  unfold zdf_124 at h
  cases hb : Nat.beq b.toNat 124 with
  | false =>
    rw [hb] at h
    cases h
  | true =>
    have e : b = 124 := UInt8.toNat_inj.mp (Nat.eq_of_beq_eq_true hb)
    rw [hb] at h
    subst e
    cases h
    exact zd_124 hd
def zdf_126 : zdT := fun b r => bif Nat.beq b.toNat 126 then (some (.iand, 1)) else none
theorem zdp_126 : zdP zdf_126 := by
  intro b r i n h c pc hd
  unfold zdf_126 at h
  cases hb : Nat.beq b.toNat 126 with
  | false =>
    rw [hb] at h
    cases h
  | true =>
    have e : b = 126 := UInt8.toNat_inj.mp (Nat.eq_of_beq_eq_true hb)
    rw [hb] at h
    subst e
    cases h
    exact zd_126 hd
def zdf_127 : zdT := fun b r => bif Nat.beq b.toNat 127 then (some (.land, 1)) else none
theorem zdp_127 : zdP zdf_127 := by
  intro b r i n h c pc hd
  unfold zdf_127 at h
  cases hb : Nat.beq b.toNat 127 with
  | false =>
    rw [hb] at h
    cases h
  | true =>
    have e : b = 127 := UInt8.toNat_inj.mp (Nat.eq_of_beq_eq_true hb)
    rw [hb] at h
    subst e
    cases h
    exact zd_127 hd
def zdf_128 : zdT := fun b r => bif Nat.beq b.toNat 128 then (some (.ior, 1)) else none
theorem zdp_128 : zdP zdf_128 := by
  intro b r i n h c pc hd
  unfold zdf_128 at h
  cases hb : Nat.beq b.toNat 128 with
  | false =>
    rw [hb] at h
    cases h
  | true =>
    have e : b = 128 := UInt8.toNat_inj.mp (Nat.eq_of_beq_eq_true hb)
    rw [hb] at h
    subst e
    cases h
    exact zd_128 hd
def zdf_129 : zdT := fun b r => bif Nat.beq b.toNat 129 then (some (.lor, 1)) else none
theorem zdp_129 : zdP zdf_129 := by
  intro b r i n h c pc hd
  unfold zdf_129 at h
  cases hb : Nat.beq b.toNat 129 with
  | false =>
    rw [hb] at h
    cases h
  | true =>
    have e : b = 129 := UInt8.toNat_inj.mp (Nat.eq_of_beq_eq_true hb)
    rw [hb] at h
    subst e
    cases h
    exact zd_129 hd
def zdf_130 : zdT := fun b r => bif Nat.beq b.toNat 130 then (some (.ixor, 1)) else none
theorem zdp_130 : zdP zdf_130 := by
  intro b r i n h c pc hd
  unfold zdf_130 at h
  cases hb : Nat.beq b.toNat 130 with
  | false =>
    rw [hb] at h
    cases h
  | true =>
    have e : b = 130 := UInt8.toNat_inj.mp (Nat.eq_of_beq_eq_true hb)
    rw [hb] at h
    subst e
    cases h
    exact zd_130 hd
def zdf_132 : zdT := fun b r => bif Nat.beq b.toNat 132 then (match r with | b0 :: b1 :: _ => some ((.iinc (b0.toNat) ((Jvm.ClassFile.Reader.signed 8 b1.toNat))), 3) | _ => none) else none
theorem zdp_132 : zdP zdf_132 := by
  intro b r i n h c pc hd
  unfold zdf_132 at h
  cases hb : Nat.beq b.toNat 132 with
  | false =>
    rw [hb] at h
    cases h
  | true =>
    have e : b = 132 := UInt8.toNat_inj.mp (Nat.eq_of_beq_eq_true hb)
    rw [hb] at h
    subst e
    cases r with
    | nil => cases h
    | cons b0 r =>
      cases r with
      | nil => cases h
      | cons b1 r =>
        cases h
        exact zd_132 hd
def zdf_133 : zdT := fun b r => bif Nat.beq b.toNat 133 then (some (.i2l, 1)) else none
theorem zdp_133 : zdP zdf_133 := by
  intro b r i n h c pc hd
  unfold zdf_133 at h
  cases hb : Nat.beq b.toNat 133 with
  | false =>
    rw [hb] at h
    cases h
  | true =>
    have e : b = 133 := UInt8.toNat_inj.mp (Nat.eq_of_beq_eq_true hb)
    rw [hb] at h
    subst e
    cases h
    exact zd_133 hd
def zdf_136 : zdT := fun b r => bif Nat.beq b.toNat 136 then (some (.l2i, 1)) else none
theorem zdp_136 : zdP zdf_136 := by
  intro b r i n h c pc hd
  unfold zdf_136 at h
  cases hb : Nat.beq b.toNat 136 with
  | false =>
    rw [hb] at h
    cases h
  | true =>
    have e : b = 136 := UInt8.toNat_inj.mp (Nat.eq_of_beq_eq_true hb)
    rw [hb] at h
    subst e
    cases h
    exact zd_136 hd
def zdf_145 : zdT := fun b r => bif Nat.beq b.toNat 145 then (some (.i2b, 1)) else none
theorem zdp_145 : zdP zdf_145 := by
  intro b r i n h c pc hd
  unfold zdf_145 at h
  cases hb : Nat.beq b.toNat 145 with
  | false =>
    rw [hb] at h
    cases h
  | true =>
    have e : b = 145 := UInt8.toNat_inj.mp (Nat.eq_of_beq_eq_true hb)
    rw [hb] at h
    subst e
    cases h
    exact zd_145 hd
def zdf_147 : zdT := fun b r => bif Nat.beq b.toNat 147 then (some (.i2s, 1)) else none
theorem zdp_147 : zdP zdf_147 := by
  intro b r i n h c pc hd
  unfold zdf_147 at h
  cases hb : Nat.beq b.toNat 147 with
  | false =>
    rw [hb] at h
    cases h
  | true =>
    have e : b = 147 := UInt8.toNat_inj.mp (Nat.eq_of_beq_eq_true hb)
    rw [hb] at h
    subst e
    cases h
    exact zd_147 hd
def zdf_148 : zdT := fun b r => bif Nat.beq b.toNat 148 then (some (.lcmp, 1)) else none
theorem zdp_148 : zdP zdf_148 := by
  intro b r i n h c pc hd
  unfold zdf_148 at h
  cases hb : Nat.beq b.toNat 148 with
  | false =>
    rw [hb] at h
    cases h
  | true =>
    have e : b = 148 := UInt8.toNat_inj.mp (Nat.eq_of_beq_eq_true hb)
    rw [hb] at h
    subst e
    cases h
    exact zd_148 hd
def zdf_153 : zdT := fun b r => bif Nat.beq b.toNat 153 then (match r with | b0 :: b1 :: _ => some ((.ifCond .eq ((Jvm.ClassFile.Reader.signed 16 (b0.toNat * 256 + b1.toNat)))), 3) | _ => none) else none
theorem zdp_153 : zdP zdf_153 := by
  intro b r i n h c pc hd
  unfold zdf_153 at h
  cases hb : Nat.beq b.toNat 153 with
  | false =>
    rw [hb] at h
    cases h
  | true =>
    have e : b = 153 := UInt8.toNat_inj.mp (Nat.eq_of_beq_eq_true hb)
    rw [hb] at h
    subst e
    cases r with
    | nil => cases h
    | cons b0 r =>
      cases r with
      | nil => cases h
      | cons b1 r =>
        cases h
        exact zd_153 hd
def zdf_154 : zdT := fun b r => bif Nat.beq b.toNat 154 then (match r with | b0 :: b1 :: _ => some ((.ifCond .ne ((Jvm.ClassFile.Reader.signed 16 (b0.toNat * 256 + b1.toNat)))), 3) | _ => none) else none
theorem zdp_154 : zdP zdf_154 := by
  intro b r i n h c pc hd
  unfold zdf_154 at h
  cases hb : Nat.beq b.toNat 154 with
  | false =>
    rw [hb] at h
    cases h
  | true =>
    have e : b = 154 := UInt8.toNat_inj.mp (Nat.eq_of_beq_eq_true hb)
    rw [hb] at h
    subst e
    cases r with
    | nil => cases h
    | cons b0 r =>
      cases r with
      | nil => cases h
      | cons b1 r =>
        cases h
        exact zd_154 hd
def zdf_155 : zdT := fun b r => bif Nat.beq b.toNat 155 then (match r with | b0 :: b1 :: _ => some ((.ifCond .lt ((Jvm.ClassFile.Reader.signed 16 (b0.toNat * 256 + b1.toNat)))), 3) | _ => none) else none
theorem zdp_155 : zdP zdf_155 := by
  intro b r i n h c pc hd
  unfold zdf_155 at h
  cases hb : Nat.beq b.toNat 155 with
  | false =>
    rw [hb] at h
    cases h
  | true =>
    have e : b = 155 := UInt8.toNat_inj.mp (Nat.eq_of_beq_eq_true hb)
    rw [hb] at h
    subst e
    cases r with
    | nil => cases h
    | cons b0 r =>
      cases r with
      | nil => cases h
      | cons b1 r =>
        cases h
        exact zd_155 hd
def zdf_156 : zdT := fun b r => bif Nat.beq b.toNat 156 then (match r with | b0 :: b1 :: _ => some ((.ifCond .ge ((Jvm.ClassFile.Reader.signed 16 (b0.toNat * 256 + b1.toNat)))), 3) | _ => none) else none
theorem zdp_156 : zdP zdf_156 := by
  intro b r i n h c pc hd
  unfold zdf_156 at h
  cases hb : Nat.beq b.toNat 156 with
  | false =>
    rw [hb] at h
    cases h
  | true =>
    have e : b = 156 := UInt8.toNat_inj.mp (Nat.eq_of_beq_eq_true hb)
    rw [hb] at h
    subst e
    cases r with
    | nil => cases h
    | cons b0 r =>
      cases r with
      | nil => cases h
      | cons b1 r =>
        cases h
        exact zd_156 hd
def zdf_157 : zdT := fun b r => bif Nat.beq b.toNat 157 then (match r with | b0 :: b1 :: _ => some ((.ifCond .gt ((Jvm.ClassFile.Reader.signed 16 (b0.toNat * 256 + b1.toNat)))), 3) | _ => none) else none
theorem zdp_157 : zdP zdf_157 := by
  intro b r i n h c pc hd
  unfold zdf_157 at h
  cases hb : Nat.beq b.toNat 157 with
  | false =>
    rw [hb] at h
    cases h
  | true =>
    have e : b = 157 := UInt8.toNat_inj.mp (Nat.eq_of_beq_eq_true hb)
    rw [hb] at h
    subst e
    cases r with
    | nil => cases h
    | cons b0 r =>
      cases r with
      | nil => cases h
      | cons b1 r =>
        cases h
        exact zd_157 hd
def zdf_158 : zdT := fun b r => bif Nat.beq b.toNat 158 then (match r with | b0 :: b1 :: _ => some ((.ifCond .le ((Jvm.ClassFile.Reader.signed 16 (b0.toNat * 256 + b1.toNat)))), 3) | _ => none) else none
theorem zdp_158 : zdP zdf_158 := by
  intro b r i n h c pc hd
  unfold zdf_158 at h
  cases hb : Nat.beq b.toNat 158 with
  | false =>
    rw [hb] at h
    cases h
  | true =>
    have e : b = 158 := UInt8.toNat_inj.mp (Nat.eq_of_beq_eq_true hb)
    rw [hb] at h
    subst e
    cases r with
    | nil => cases h
    | cons b0 r =>
      cases r with
      | nil => cases h
      | cons b1 r =>
        cases h
        exact zd_158 hd
def zdf_159 : zdT := fun b r => bif Nat.beq b.toNat 159 then (match r with | b0 :: b1 :: _ => some ((.if_icmp .eq ((Jvm.ClassFile.Reader.signed 16 (b0.toNat * 256 + b1.toNat)))), 3) | _ => none) else none
theorem zdp_159 : zdP zdf_159 := by
  intro b r i n h c pc hd
  unfold zdf_159 at h
  cases hb : Nat.beq b.toNat 159 with
  | false =>
    rw [hb] at h
    cases h
  | true =>
    have e : b = 159 := UInt8.toNat_inj.mp (Nat.eq_of_beq_eq_true hb)
    rw [hb] at h
    subst e
    cases r with
    | nil => cases h
    | cons b0 r =>
      cases r with
      | nil => cases h
      | cons b1 r =>
        cases h
        exact zd_159 hd
def zdf_160 : zdT := fun b r => bif Nat.beq b.toNat 160 then (match r with | b0 :: b1 :: _ => some ((.if_icmp .ne ((Jvm.ClassFile.Reader.signed 16 (b0.toNat * 256 + b1.toNat)))), 3) | _ => none) else none
theorem zdp_160 : zdP zdf_160 := by
  intro b r i n h c pc hd
  unfold zdf_160 at h
  cases hb : Nat.beq b.toNat 160 with
  | false =>
    rw [hb] at h
    cases h
  | true =>
    have e : b = 160 := UInt8.toNat_inj.mp (Nat.eq_of_beq_eq_true hb)
    rw [hb] at h
    subst e
    cases r with
    | nil => cases h
    | cons b0 r =>
      cases r with
      | nil => cases h
      | cons b1 r =>
        cases h
        exact zd_160 hd
def zdf_161 : zdT := fun b r => bif Nat.beq b.toNat 161 then (match r with | b0 :: b1 :: _ => some ((.if_icmp .lt ((Jvm.ClassFile.Reader.signed 16 (b0.toNat * 256 + b1.toNat)))), 3) | _ => none) else none
theorem zdp_161 : zdP zdf_161 := by
  intro b r i n h c pc hd
  unfold zdf_161 at h
  cases hb : Nat.beq b.toNat 161 with
  | false =>
    rw [hb] at h
    cases h
  | true =>
    have e : b = 161 := UInt8.toNat_inj.mp (Nat.eq_of_beq_eq_true hb)
    rw [hb] at h
    subst e
    cases r with
    | nil => cases h
    | cons b0 r =>
      cases r with
      | nil => cases h
      | cons b1 r =>
        cases h
        exact zd_161 hd
def zdf_162 : zdT := fun b r => bif Nat.beq b.toNat 162 then (match r with | b0 :: b1 :: _ => some ((.if_icmp .ge ((Jvm.ClassFile.Reader.signed 16 (b0.toNat * 256 + b1.toNat)))), 3) | _ => none) else none
theorem zdp_162 : zdP zdf_162 := by
  intro b r i n h c pc hd
  unfold zdf_162 at h
  cases hb : Nat.beq b.toNat 162 with
  | false =>
    rw [hb] at h
    cases h
  | true =>
    have e : b = 162 := UInt8.toNat_inj.mp (Nat.eq_of_beq_eq_true hb)
    rw [hb] at h
    subst e
    cases r with
    | nil => cases h
    | cons b0 r =>
      cases r with
      | nil => cases h
      | cons b1 r =>
        cases h
        exact zd_162 hd
def zdf_163 : zdT := fun b r => bif Nat.beq b.toNat 163 then (match r with | b0 :: b1 :: _ => some ((.if_icmp .gt ((Jvm.ClassFile.Reader.signed 16 (b0.toNat * 256 + b1.toNat)))), 3) | _ => none) else none
theorem zdp_163 : zdP zdf_163 := by
  intro b r i n h c pc hd
  unfold zdf_163 at h
  cases hb : Nat.beq b.toNat 163 with
  | false =>
    rw [hb] at h
    cases h
  | true =>
    have e : b = 163 := UInt8.toNat_inj.mp (Nat.eq_of_beq_eq_true hb)
    rw [hb] at h
    subst e
    cases r with
    | nil => cases h
    | cons b0 r =>
      cases r with
      | nil => cases h
      | cons b1 r =>
        cases h
        exact zd_163 hd
def zdf_164 : zdT := fun b r => bif Nat.beq b.toNat 164 then (match r with | b0 :: b1 :: _ => some ((.if_icmp .le ((Jvm.ClassFile.Reader.signed 16 (b0.toNat * 256 + b1.toNat)))), 3) | _ => none) else none
theorem zdp_164 : zdP zdf_164 := by
  intro b r i n h c pc hd
  unfold zdf_164 at h
  cases hb : Nat.beq b.toNat 164 with
  | false =>
    rw [hb] at h
    cases h
  | true =>
    have e : b = 164 := UInt8.toNat_inj.mp (Nat.eq_of_beq_eq_true hb)
    rw [hb] at h
    subst e
    cases r with
    | nil => cases h
    | cons b0 r =>
      cases r with
      | nil => cases h
      | cons b1 r =>
        cases h
        exact zd_164 hd
def zdf_167 : zdT := fun b r => bif Nat.beq b.toNat 167 then (match r with | b0 :: b1 :: _ => some ((.goto ((Jvm.ClassFile.Reader.signed 16 (b0.toNat * 256 + b1.toNat)))), 3) | _ => none) else none
theorem zdp_167 : zdP zdf_167 := by
  intro b r i n h c pc hd
  unfold zdf_167 at h
  cases hb : Nat.beq b.toNat 167 with
  | false =>
    rw [hb] at h
    cases h
  | true =>
    have e : b = 167 := UInt8.toNat_inj.mp (Nat.eq_of_beq_eq_true hb)
    rw [hb] at h
    subst e
    cases r with
    | nil => cases h
    | cons b0 r =>
      cases r with
      | nil => cases h
      | cons b1 r =>
        cases h
        exact zd_167 hd
def zdf_172 : zdT := fun b r => bif Nat.beq b.toNat 172 then (some (.ireturn, 1)) else none
theorem zdp_172 : zdP zdf_172 := by
  intro b r i n h c pc hd
  unfold zdf_172 at h
  cases hb : Nat.beq b.toNat 172 with
  | false =>
    rw [hb] at h
    cases h
  | true =>
    have e : b = 172 := UInt8.toNat_inj.mp (Nat.eq_of_beq_eq_true hb)
    rw [hb] at h
    subst e
    cases h
    exact zd_172 hd
def zdf_173 : zdT := fun b r => bif Nat.beq b.toNat 173 then (some (.lreturn, 1)) else none
theorem zdp_173 : zdP zdf_173 := by
  intro b r i n h c pc hd
  unfold zdf_173 at h
  cases hb : Nat.beq b.toNat 173 with
  | false =>
    rw [hb] at h
    cases h
  | true =>
    have e : b = 173 := UInt8.toNat_inj.mp (Nat.eq_of_beq_eq_true hb)
    rw [hb] at h
    subst e
    cases h
    exact zd_173 hd
def zdf_177 : zdT := fun b r => bif Nat.beq b.toNat 177 then (some (.return_, 1)) else none
theorem zdp_177 : zdP zdf_177 := by
  intro b r i n h c pc hd
  unfold zdf_177 at h
  cases hb : Nat.beq b.toNat 177 with
  | false =>
    rw [hb] at h
    cases h
  | true =>
    have e : b = 177 := UInt8.toNat_inj.mp (Nat.eq_of_beq_eq_true hb)
    rw [hb] at h
    subst e
    cases h
    exact zd_177 hd
def zdf_178 : zdT := fun b r => bif Nat.beq b.toNat 178 then (match r with | b0 :: b1 :: _ => some ((.getstatic ((b0.toNat * 256 + b1.toNat))), 3) | _ => none) else none
theorem zdp_178 : zdP zdf_178 := by
  intro b r i n h c pc hd
  unfold zdf_178 at h
  cases hb : Nat.beq b.toNat 178 with
  | false =>
    rw [hb] at h
    cases h
  | true =>
    have e : b = 178 := UInt8.toNat_inj.mp (Nat.eq_of_beq_eq_true hb)
    rw [hb] at h
    subst e
    cases r with
    | nil => cases h
    | cons b0 r =>
      cases r with
      | nil => cases h
      | cons b1 r =>
        cases h
        exact zd_178 hd
def zdf_180 : zdT := fun b r => bif Nat.beq b.toNat 180 then (match r with | b0 :: b1 :: _ => some ((.getfield ((b0.toNat * 256 + b1.toNat))), 3) | _ => none) else none
theorem zdp_180 : zdP zdf_180 := by
  intro b r i n h c pc hd
  unfold zdf_180 at h
  cases hb : Nat.beq b.toNat 180 with
  | false =>
    rw [hb] at h
    cases h
  | true =>
    have e : b = 180 := UInt8.toNat_inj.mp (Nat.eq_of_beq_eq_true hb)
    rw [hb] at h
    subst e
    cases r with
    | nil => cases h
    | cons b0 r =>
      cases r with
      | nil => cases h
      | cons b1 r =>
        cases h
        exact zd_180 hd
def zdf_181 : zdT := fun b r => bif Nat.beq b.toNat 181 then (match r with | b0 :: b1 :: _ => some ((.putfield ((b0.toNat * 256 + b1.toNat))), 3) | _ => none) else none
theorem zdp_181 : zdP zdf_181 := by
  intro b r i n h c pc hd
  unfold zdf_181 at h
  cases hb : Nat.beq b.toNat 181 with
  | false =>
    rw [hb] at h
    cases h
  | true =>
    have e : b = 181 := UInt8.toNat_inj.mp (Nat.eq_of_beq_eq_true hb)
    rw [hb] at h
    subst e
    cases r with
    | nil => cases h
    | cons b0 r =>
      cases r with
      | nil => cases h
      | cons b1 r =>
        cases h
        exact zd_181 hd
def zdf_182 : zdT := fun b r => bif Nat.beq b.toNat 182 then (match r with | b0 :: b1 :: _ => some ((.invokevirtual ((b0.toNat * 256 + b1.toNat))), 3) | _ => none) else none
theorem zdp_182 : zdP zdf_182 := by
  intro b r i n h c pc hd
  unfold zdf_182 at h
  cases hb : Nat.beq b.toNat 182 with
  | false =>
    rw [hb] at h
    cases h
  | true =>
    have e : b = 182 := UInt8.toNat_inj.mp (Nat.eq_of_beq_eq_true hb)
    rw [hb] at h
    subst e
    cases r with
    | nil => cases h
    | cons b0 r =>
      cases r with
      | nil => cases h
      | cons b1 r =>
        cases h
        exact zd_182 hd
def zdf_183 : zdT := fun b r => bif Nat.beq b.toNat 183 then (match r with | b0 :: b1 :: _ => some ((.invokespecial ((b0.toNat * 256 + b1.toNat))), 3) | _ => none) else none
theorem zdp_183 : zdP zdf_183 := by
  intro b r i n h c pc hd
  unfold zdf_183 at h
  cases hb : Nat.beq b.toNat 183 with
  | false =>
    rw [hb] at h
    cases h
  | true =>
    have e : b = 183 := UInt8.toNat_inj.mp (Nat.eq_of_beq_eq_true hb)
    rw [hb] at h
    subst e
    cases r with
    | nil => cases h
    | cons b0 r =>
      cases r with
      | nil => cases h
      | cons b1 r =>
        cases h
        exact zd_183 hd
def zdf_184 : zdT := fun b r => bif Nat.beq b.toNat 184 then (match r with | b0 :: b1 :: _ => some ((.invokestatic ((b0.toNat * 256 + b1.toNat))), 3) | _ => none) else none
theorem zdp_184 : zdP zdf_184 := by
  intro b r i n h c pc hd
  unfold zdf_184 at h
  cases hb : Nat.beq b.toNat 184 with
  | false =>
    rw [hb] at h
    cases h
  | true =>
    have e : b = 184 := UInt8.toNat_inj.mp (Nat.eq_of_beq_eq_true hb)
    rw [hb] at h
    subst e
    cases r with
    | nil => cases h
    | cons b0 r =>
      cases r with
      | nil => cases h
      | cons b1 r =>
        cases h
        exact zd_184 hd
def zdf_187 : zdT := fun b r => bif Nat.beq b.toNat 187 then (match r with | b0 :: b1 :: _ => some ((.new ((b0.toNat * 256 + b1.toNat))), 3) | _ => none) else none
theorem zdp_187 : zdP zdf_187 := by
  intro b r i n h c pc hd
  unfold zdf_187 at h
  cases hb : Nat.beq b.toNat 187 with
  | false =>
    rw [hb] at h
    cases h
  | true =>
    have e : b = 187 := UInt8.toNat_inj.mp (Nat.eq_of_beq_eq_true hb)
    rw [hb] at h
    subst e
    cases r with
    | nil => cases h
    | cons b0 r =>
      cases r with
      | nil => cases h
      | cons b1 r =>
        cases h
        exact zd_187 hd
def zdf_189 : zdT := fun b r => bif Nat.beq b.toNat 189 then (match r with | b0 :: b1 :: _ => some ((.anewarray ((b0.toNat * 256 + b1.toNat))), 3) | _ => none) else none
theorem zdp_189 : zdP zdf_189 := by
  intro b r i n h c pc hd
  unfold zdf_189 at h
  cases hb : Nat.beq b.toNat 189 with
  | false =>
    rw [hb] at h
    cases h
  | true =>
    have e : b = 189 := UInt8.toNat_inj.mp (Nat.eq_of_beq_eq_true hb)
    rw [hb] at h
    subst e
    cases r with
    | nil => cases h
    | cons b0 r =>
      cases r with
      | nil => cases h
      | cons b1 r =>
        cases h
        exact zd_189 hd
def zdf_190 : zdT := fun b r => bif Nat.beq b.toNat 190 then (some (.arraylength, 1)) else none
theorem zdp_190 : zdP zdf_190 := by
  intro b r i n h c pc hd
  unfold zdf_190 at h
  cases hb : Nat.beq b.toNat 190 with
  | false =>
    rw [hb] at h
    cases h
  | true =>
    have e : b = 190 := UInt8.toNat_inj.mp (Nat.eq_of_beq_eq_true hb)
    rw [hb] at h
    subst e
    cases h
    exact zd_190 hd
def zd_T : Lean.RArray zdT := .branch 100 (.branch 32 (.branch 18 (.branch 7 (.branch 4 (.branch 3 (.leaf zdf_2) (.leaf zdf_3)) (.branch 5 (.leaf zdf_4) (.branch 6 (.leaf zdf_5) (.leaf zdf_6)))) (.branch 10 (.branch 8 (.leaf zdf_7) (.branch 9 (.leaf zdf_8) (.leaf zdf_9))) (.branch 16 (.leaf zdf_10) (.branch 17 (.leaf zdf_16) (.leaf zdf_17))))) (.branch 26 (.branch 21 (.branch 19 (.leaf zdf_18) (.branch 20 (.leaf zdf_19) (.leaf zdf_20))) (.branch 22 (.leaf zdf_21) (.branch 25 (.leaf zdf_22) (.leaf zdf_25)))) (.branch 29 (.branch 27 (.leaf zdf_26) (.branch 28 (.leaf zdf_27) (.leaf zdf_28))) (.branch 30 (.leaf zdf_29) (.branch 31 (.leaf zdf_30) (.leaf zdf_31)))))) (.branch 61 (.branch 47 (.branch 43 (.branch 33 (.leaf zdf_32) (.branch 42 (.leaf zdf_33) (.leaf zdf_42))) (.branch 44 (.leaf zdf_43) (.branch 46 (.leaf zdf_44) (.leaf zdf_46)))) (.branch 58 (.branch 50 (.leaf zdf_47) (.branch 54 (.leaf zdf_50) (.leaf zdf_54))) (.branch 59 (.leaf zdf_58) (.branch 60 (.leaf zdf_59) (.leaf zdf_60))))) (.branch 83 (.branch 77 (.branch 62 (.leaf zdf_61) (.branch 76 (.leaf zdf_62) (.leaf zdf_76))) (.branch 79 (.leaf zdf_77) (.branch 80 (.leaf zdf_79) (.leaf zdf_80)))) (.branch 89 (.branch 87 (.leaf zdf_83) (.branch 88 (.leaf zdf_87) (.leaf zdf_88))) (.branch 92 (.leaf zdf_89) (.branch 96 (.leaf zdf_92) (.leaf zdf_96))))))) (.branch 154 (.branch 126 (.branch 113 (.branch 108 (.branch 104 (.leaf zdf_100) (.leaf zdf_104)) (.branch 109 (.leaf zdf_108) (.branch 112 (.leaf zdf_109) (.leaf zdf_112)))) (.branch 121 (.branch 116 (.leaf zdf_113) (.branch 120 (.leaf zdf_116) (.leaf zdf_120))) (.branch 122 (.leaf zdf_121) (.branch 124 (.leaf zdf_122) (.leaf zdf_124))))) (.branch 133 (.branch 129 (.branch 127 (.leaf zdf_126) (.branch 128 (.leaf zdf_127) (.leaf zdf_128))) (.branch 130 (.leaf zdf_129) (.branch 132 (.leaf zdf_130) (.leaf zdf_132)))) (.branch 147 (.branch 136 (.leaf zdf_133) (.branch 145 (.leaf zdf_136) (.leaf zdf_145))) (.branch 148 (.leaf zdf_147) (.branch 153 (.leaf zdf_148) (.leaf zdf_153)))))) (.branch 172 (.branch 160 (.branch 157 (.branch 155 (.leaf zdf_154) (.branch 156 (.leaf zdf_155) (.leaf zdf_156))) (.branch 158 (.leaf zdf_157) (.branch 159 (.leaf zdf_158) (.leaf zdf_159)))) (.branch 163 (.branch 161 (.leaf zdf_160) (.branch 162 (.leaf zdf_161) (.leaf zdf_162))) (.branch 164 (.leaf zdf_163) (.branch 167 (.leaf zdf_164) (.leaf zdf_167))))) (.branch 182 (.branch 178 (.branch 173 (.leaf zdf_172) (.branch 177 (.leaf zdf_173) (.leaf zdf_177))) (.branch 180 (.leaf zdf_178) (.branch 181 (.leaf zdf_180) (.leaf zdf_181)))) (.branch 187 (.branch 183 (.leaf zdf_182) (.branch 184 (.leaf zdf_183) (.leaf zdf_184))) (.branch 189 (.leaf zdf_187) (.branch 190 (.leaf zdf_189) (.leaf zdf_190)))))))
def zRal {α : Type} (P : α → Prop) : Lean.RArray α → Prop
  | .leaf x => P x
  | .branch _ l r => zRal P l ∧ zRal P r
theorem zRal_g {α : Type} {P : α → Prop} (n : Nat) : ∀ (a : Lean.RArray α), zRal P a → P (Lean.RArray.get a n)
  | .leaf _, h => h
  | .branch p l r, h => by
    cases hb : Nat.ble p n with
    | true =>
      have e : Lean.RArray.get (.branch p l r) n = Lean.RArray.get r n := by
        show (@Bool.rec (fun _ => α) (Lean.RArray.get l n) (Lean.RArray.get r n) (Nat.ble p n) : α) = _
        rw [hb]
      rw [e]
      exact zRal_g n r h.2
    | false =>
      have e : Lean.RArray.get (.branch p l r) n = Lean.RArray.get l n := by
        show (@Bool.rec (fun _ => α) (Lean.RArray.get l n) (Lean.RArray.get r n) (Nat.ble p n) : α) = _
        rw [hb]
      rw [e]
      exact zRal_g n l h.1
theorem zd_al : zRal zdP zd_T := ⟨⟨⟨⟨⟨⟨zdp_2, zdp_3⟩, ⟨zdp_4, ⟨zdp_5, zdp_6⟩⟩⟩, ⟨⟨zdp_7, ⟨zdp_8, zdp_9⟩⟩, ⟨zdp_10, ⟨zdp_16, zdp_17⟩⟩⟩⟩, ⟨⟨⟨zdp_18, ⟨zdp_19, zdp_20⟩⟩, ⟨zdp_21, ⟨zdp_22, zdp_25⟩⟩⟩, ⟨⟨zdp_26, ⟨zdp_27, zdp_28⟩⟩, ⟨zdp_29, ⟨zdp_30, zdp_31⟩⟩⟩⟩⟩, ⟨⟨⟨⟨zdp_32, ⟨zdp_33, zdp_42⟩⟩, ⟨zdp_43, ⟨zdp_44, zdp_46⟩⟩⟩, ⟨⟨zdp_47, ⟨zdp_50, zdp_54⟩⟩, ⟨zdp_58, ⟨zdp_59, zdp_60⟩⟩⟩⟩, ⟨⟨⟨zdp_61, ⟨zdp_62, zdp_76⟩⟩, ⟨zdp_77, ⟨zdp_79, zdp_80⟩⟩⟩, ⟨⟨zdp_83, ⟨zdp_87, zdp_88⟩⟩, ⟨zdp_89, ⟨zdp_92, zdp_96⟩⟩⟩⟩⟩⟩, ⟨⟨⟨⟨⟨zdp_100, zdp_104⟩, ⟨zdp_108, ⟨zdp_109, zdp_112⟩⟩⟩, ⟨⟨zdp_113, ⟨zdp_116, zdp_120⟩⟩, ⟨zdp_121, ⟨zdp_122, zdp_124⟩⟩⟩⟩, ⟨⟨⟨zdp_126, ⟨zdp_127, zdp_128⟩⟩, ⟨zdp_129, ⟨zdp_130, zdp_132⟩⟩⟩, ⟨⟨zdp_133, ⟨zdp_136, zdp_145⟩⟩, ⟨zdp_147, ⟨zdp_148, zdp_153⟩⟩⟩⟩⟩, ⟨⟨⟨⟨zdp_154, ⟨zdp_155, zdp_156⟩⟩, ⟨zdp_157, ⟨zdp_158, zdp_159⟩⟩⟩, ⟨⟨zdp_160, ⟨zdp_161, zdp_162⟩⟩, ⟨zdp_163, ⟨zdp_164, zdp_167⟩⟩⟩⟩, ⟨⟨⟨zdp_172, ⟨zdp_173, zdp_177⟩⟩, ⟨zdp_178, ⟨zdp_180, zdp_181⟩⟩⟩, ⟨⟨zdp_182, ⟨zdp_183, zdp_184⟩⟩, ⟨zdp_187, ⟨zdp_189, zdp_190⟩⟩⟩⟩⟩⟩⟩
noncomputable def zdcd (b : UInt8) (r : List UInt8) : Option (Instr × Nat) := Lean.RArray.get zd_T b.toNat b r
theorem zdcd_g {b : UInt8} {r : List UInt8} {q : Instr × Nat} (h : zdcd b r = some q) {c : ByteArray} {pc : Nat} (hd : c.data.toList.drop pc = b :: r) : decode c pc = .ok q :=
  zRal_g (P := zdP) b.toNat zd_T zd_al b r q.1 q.2 h c pc hd
end
section
/-! PART 08: what an instruction of mine is checked against. -/
def y_fillI : zx_Y := (⟨"java/util/Arrays", "fill", "([II)V"⟩, prog_18_method_103_code, 4, none)
def y_fillJ : zx_Y := (⟨"java/util/Arrays", "fill", "([JJ)V"⟩, prog_18_method_101_code, 5, none)
def zf4 (i : Int) : Fin 4 := ⟨i.toNat % 4, Nat.mod_lt _ (by decide)⟩
theorem zw_or {a b : Bool} (h : (a || b) = true) : a = true ∨ b = true := by simpa using h
noncomputable def ck0 (y : zx_Y) (pc nx : Nat) (o : List Int) (ins : Instr) (len : Nat) : Bool := match o with
  | [i] => decide (ins = .aload_n (zf4 i) ∧ len = 1 ∧ (((zf4 i).val : Nat) : Int) = i ∧ nx = pc + 1) || decide (ins = .aload i.toNat ∧ len = 2 ∧ nx = pc + 2)
  | _ => false
noncomputable def ck2 (y : zx_Y) (pc nx : Nat) (o : List Int) (ins : Instr) (len : Nat) : Bool := match o with
  | [i] => decide (ins = .iload_n (zf4 i) ∧ len = 1 ∧ (((zf4 i).val : Nat) : Int) = i ∧ nx = pc + 1) || decide (ins = .iload i.toNat ∧ len = 2 ∧ nx = pc + 2)
  | _ => false
noncomputable def ck37 (y : zx_Y) (pc nx : Nat) (o : List Int) (ins : Instr) (len : Nat) : Bool := match o with
  | [i] => decide (ins = .lload_n (zf4 i) ∧ len = 1 ∧ (((zf4 i).val : Nat) : Int) = i ∧ nx = pc + 1) || decide (ins = .lload i.toNat ∧ len = 2 ∧ nx = pc + 2)
  | _ => false
noncomputable def ck23 (y : zx_Y) (pc nx : Nat) (o : List Int) (ins : Instr) (len : Nat) : Bool := match o with
  | [i] => decide (i.toNat < y.2.2.1) && (decide (ins = .istore_n (zf4 i) ∧ len = 1 ∧ (((zf4 i).val : Nat) : Int) = i ∧ nx = pc + 1) || decide (ins = .istore i.toNat ∧ len = 2 ∧ nx = pc + 2))
  | _ => false
noncomputable def ck39 (y : zx_Y) (pc nx : Nat) (o : List Int) (ins : Instr) (len : Nat) : Bool := match o with
  | [i] => decide (i.toNat < y.2.2.1) && (decide (ins = .astore_n (zf4 i) ∧ len = 1 ∧ (((zf4 i).val : Nat) : Int) = i ∧ nx = pc + 1) || decide (ins = .astore i.toNat ∧ len = 2 ∧ nx = pc + 2))
  | _ => false
noncomputable def ck38 (y : zx_Y) (pc nx : Nat) (o : List Int) (ins : Instr) (len : Nat) : Bool := match o with
  | [i] => decide (i.toNat + 1 < y.2.2.1) && (decide (ins = .lstore_n (zf4 i) ∧ len = 1 ∧ (((zf4 i).val : Nat) : Int) = i ∧ nx = pc + 1) || decide (ins = .lstore i.toNat ∧ len = 2 ∧ nx = pc + 2))
  | _ => false
noncomputable def ck3 (y : zx_Y) (pc nx : Nat) (o : List Int) (ins : Instr) (len : Nat) : Bool := match o with
  | [c] => decide (ins = .iconst c ∧ len = 1 ∧ nx = pc + 1 ∧ (Int32.ofInt c).toInt = c) || (decide (ins = .bipush c ∧ len = 2 ∧ nx = pc + 2 ∧ (Int8.ofInt c).toInt32.toInt = c) || decide (ins = .sipush c ∧ len = 3 ∧ nx = pc + 3 ∧ (Int16.ofInt c).toInt32.toInt = c))
  | [c, w, j] => (decide (ins = .ldc j.toNat ∧ len = 2 ∧ nx = pc + 2 ∧ (Int32.ofInt c).toInt = c) || decide (ins = .ldc_w j.toNat ∧ len = 3 ∧ nx = pc + 3 ∧ (Int32.ofInt c).toInt = c)) && zx_q w.toNat (.constant y.1.cls j.toNat (Int32.ofInt c))
  | _ => false
def zf2 (i : Int) : Fin 2 := ⟨i.toNat % 2, Nat.mod_lt _ (by decide)⟩
noncomputable def ck36 (y : zx_Y) (pc nx : Nat) (o : List Int) (ins : Instr) (len : Nat) : Bool := match o with
  | [c] => decide (ins = .lconst (zf2 c) ∧ len = 1 ∧ nx = pc + 1 ∧ (Int64.ofNat ((zf2 c) : Nat)).toInt = c)
  | [c, w, j] => decide (ins = .ldc2_w j.toNat ∧ len = 3 ∧ nx = pc + 3 ∧ (Int64.ofInt c).toInt = c) && zx_q w.toNat (.constantLong y.1.cls j.toNat (Int64.ofInt c))
  | _ => false
noncomputable def ck1 (y : zx_Y) (pc nx : Nat) (o : List Int) (ins : Instr) (len : Nat) : Bool := match o with
  | [k, ci, w, j] => match zc[ci.toNat]? with
      | some q => decide (ins = .getfield j.toNat ∧ len = 3 ∧ nx = pc + 3 ∧ k.toNat < q.2.2) && zx_q w.toNat (.fieldLink y.1.cls j.toNat (q.2.1 k.toNat).1 (q.2.1 k.toNat).2.1 (q.2.1 k.toNat).2.2.1)
      | none => false
  | _ => false
def zx_tc (tc : Int) (ty : FieldType) : Bool := match ty with
  | .int => decide (tc = 0)
  | .boolean => decide (tc = 1)
  | .object _ => decide (tc = 2)
  | .array _ => decide (tc = 2)
  | _ => false
noncomputable def ck52 (y : zx_Y) (pc nx : Nat) (o : List Int) (ins : Instr) (len : Nat) : Bool := match o with
  | [k, ci, tc, w, j] => match zc[ci.toNat]? with
      | some q => decide (ins = .putfield j.toNat ∧ len = 3 ∧ nx = pc + 3 ∧ k.toNat < q.2.2 ∧ (q.2.1 k.toNat).2.2.2 = false) && (zx_tc tc (zc_ty q k.toNat) && zx_q w.toNat (.fieldLink y.1.cls j.toNat (q.2.1 k.toNat).1 (q.2.1 k.toNat).2.1 (q.2.1 k.toNat).2.2.1))
      | none => false
  | _ => false
noncomputable def ck53 (y : zx_Y) (pc nx : Nat) (o : List Int) (ins : Instr) (len : Nat) : Bool := match o with
  | [k, ci, tc, w, j] => match zc[ci.toNat]? with
      | some q => decide (ins = .putfield j.toNat ∧ len = 3 ∧ nx = pc + 3 ∧ k.toNat < q.2.2 ∧ (q.2.1 k.toNat).2.2.2 = true ∧ y.1.name = "<init>" ∧ (q.2.1 k.toNat).1 = y.1.cls) && (zx_tc tc (zc_ty q k.toNat) && zx_q w.toNat (.fieldLink y.1.cls j.toNat (q.2.1 k.toNat).1 (q.2.1 k.toNat).2.1 (q.2.1 k.toNat).2.2.1))
      | none => false
  | _ => false
noncomputable def ck10 (y : zx_Y) (pc nx : Nat) (o : List Int) (ins : Instr) (len : Nat) : Bool := decide (ins = .iadd ∧ len = 1 ∧ nx = pc + 1)
noncomputable def ck11 (y : zx_Y) (pc nx : Nat) (o : List Int) (ins : Instr) (len : Nat) : Bool := decide (ins = .isub ∧ len = 1 ∧ nx = pc + 1)
noncomputable def ck12 (y : zx_Y) (pc nx : Nat) (o : List Int) (ins : Instr) (len : Nat) : Bool := decide (ins = .imul ∧ len = 1 ∧ nx = pc + 1)
noncomputable def ck13 (y : zx_Y) (pc nx : Nat) (o : List Int) (ins : Instr) (len : Nat) : Bool := decide (ins = .iand ∧ len = 1 ∧ nx = pc + 1)
noncomputable def ck14 (y : zx_Y) (pc nx : Nat) (o : List Int) (ins : Instr) (len : Nat) : Bool := decide (ins = .ior ∧ len = 1 ∧ nx = pc + 1)
noncomputable def ck15 (y : zx_Y) (pc nx : Nat) (o : List Int) (ins : Instr) (len : Nat) : Bool := decide (ins = .ixor ∧ len = 1 ∧ nx = pc + 1)
noncomputable def ck16 (y : zx_Y) (pc nx : Nat) (o : List Int) (ins : Instr) (len : Nat) : Bool := decide (ins = .ishl ∧ len = 1 ∧ nx = pc + 1)
noncomputable def ck17 (y : zx_Y) (pc nx : Nat) (o : List Int) (ins : Instr) (len : Nat) : Bool := decide (ins = .ishr ∧ len = 1 ∧ nx = pc + 1)
noncomputable def ck18 (y : zx_Y) (pc nx : Nat) (o : List Int) (ins : Instr) (len : Nat) : Bool := decide (ins = .iushr ∧ len = 1 ∧ nx = pc + 1)
noncomputable def ck19 (y : zx_Y) (pc nx : Nat) (o : List Int) (ins : Instr) (len : Nat) : Bool := decide (ins = .idiv ∧ len = 1 ∧ nx = pc + 1)
noncomputable def ck20 (y : zx_Y) (pc nx : Nat) (o : List Int) (ins : Instr) (len : Nat) : Bool := decide (ins = .irem ∧ len = 1 ∧ nx = pc + 1)
noncomputable def ck21 (y : zx_Y) (pc nx : Nat) (o : List Int) (ins : Instr) (len : Nat) : Bool := decide (ins = .ineg ∧ len = 1 ∧ nx = pc + 1)
noncomputable def ck26 (y : zx_Y) (pc nx : Nat) (o : List Int) (ins : Instr) (len : Nat) : Bool := decide (ins = .iaload ∧ len = 1 ∧ nx = pc + 1)
noncomputable def ck30 (y : zx_Y) (pc nx : Nat) (o : List Int) (ins : Instr) (len : Nat) : Bool := decide (ins = .laload ∧ len = 1 ∧ nx = pc + 1)
noncomputable def ck28 (y : zx_Y) (pc nx : Nat) (o : List Int) (ins : Instr) (len : Nat) : Bool := decide (ins = .aaload ∧ len = 1 ∧ nx = pc + 1)
noncomputable def ck27 (y : zx_Y) (pc nx : Nat) (o : List Int) (ins : Instr) (len : Nat) : Bool := decide (ins = .iastore ∧ len = 1 ∧ nx = pc + 1)
noncomputable def ck31 (y : zx_Y) (pc nx : Nat) (o : List Int) (ins : Instr) (len : Nat) : Bool := decide (ins = .lastore ∧ len = 1 ∧ nx = pc + 1)
noncomputable def ck29 (y : zx_Y) (pc nx : Nat) (o : List Int) (ins : Instr) (len : Nat) : Bool := decide (ins = .aastore ∧ len = 1 ∧ nx = pc + 1)
noncomputable def ck32 (y : zx_Y) (pc nx : Nat) (o : List Int) (ins : Instr) (len : Nat) : Bool := decide (ins = .arraylength ∧ len = 1 ∧ nx = pc + 1)
noncomputable def ck33 (y : zx_Y) (pc nx : Nat) (o : List Int) (ins : Instr) (len : Nat) : Bool := decide (ins = .dup ∧ len = 1 ∧ nx = pc + 1)
noncomputable def ck34 (y : zx_Y) (pc nx : Nat) (o : List Int) (ins : Instr) (len : Nat) : Bool := decide (ins = .pop ∧ len = 1 ∧ nx = pc + 1)
noncomputable def ck35 (y : zx_Y) (pc nx : Nat) (o : List Int) (ins : Instr) (len : Nat) : Bool := decide (ins = .dup2 ∧ len = 1 ∧ nx = pc + 1)
noncomputable def ck41 (y : zx_Y) (pc nx : Nat) (o : List Int) (ins : Instr) (len : Nat) : Bool := decide (ins = .l2i ∧ len = 1 ∧ nx = pc + 1)
noncomputable def ck42 (y : zx_Y) (pc nx : Nat) (o : List Int) (ins : Instr) (len : Nat) : Bool := decide (ins = .i2b ∧ len = 1 ∧ nx = pc + 1)
noncomputable def ck43 (y : zx_Y) (pc nx : Nat) (o : List Int) (ins : Instr) (len : Nat) : Bool := decide (ins = .i2s ∧ len = 1 ∧ nx = pc + 1)
noncomputable def ck48 (y : zx_Y) (pc nx : Nat) (o : List Int) (ins : Instr) (len : Nat) : Bool := decide (ins = .ldiv ∧ len = 1 ∧ nx = pc + 1)
noncomputable def ck49 (y : zx_Y) (pc nx : Nat) (o : List Int) (ins : Instr) (len : Nat) : Bool := decide (ins = .lrem ∧ len = 1 ∧ nx = pc + 1)
noncomputable def ck70 (y : zx_Y) (pc nx : Nat) (o : List Int) (ins : Instr) (len : Nat) : Bool := decide (ins = .pop2 ∧ len = 1 ∧ nx = pc + 1)
noncomputable def ck40 (y : zx_Y) (pc nx : Nat) (o : List Int) (ins : Instr) (len : Nat) : Bool := decide (ins = .i2l ∧ len = 1 ∧ nx = pc + 1)
noncomputable def ck44 (y : zx_Y) (pc nx : Nat) (o : List Int) (ins : Instr) (len : Nat) : Bool := decide (ins = .lcmp ∧ len = 1 ∧ nx = pc + 1)
noncomputable def ck45 (y : zx_Y) (pc nx : Nat) (o : List Int) (ins : Instr) (len : Nat) : Bool := decide (ins = .land ∧ len = 1 ∧ nx = pc + 1)
noncomputable def ck46 (y : zx_Y) (pc nx : Nat) (o : List Int) (ins : Instr) (len : Nat) : Bool := decide (ins = .lor ∧ len = 1 ∧ nx = pc + 1)
noncomputable def ck47 (y : zx_Y) (pc nx : Nat) (o : List Int) (ins : Instr) (len : Nat) : Bool := decide (ins = .lshl ∧ len = 1 ∧ nx = pc + 1)
noncomputable def ck22 (y : zx_Y) (pc nx : Nat) (o : List Int) (ins : Instr) (len : Nat) : Bool := match o with
  | [i, c] => decide (ins = .iinc i.toNat c ∧ len = 3 ∧ nx = pc + 3 ∧ i.toNat < y.2.2.1 ∧ (Int32.ofInt c).toInt = c)
  | _ => false
def zcd (c : Int) : Jvm.ClassFile.Cond := if c = 0 then .eq else if c = 1 then .ne else if c = 2 then .lt else if c = 3 then .ge else if c = 4 then .gt else .le
noncomputable def ck24 (y : zx_Y) (pc nx : Nat) (o : List Int) (ins : Instr) (len : Nat) : Bool := match o with
  | [c, tg] => decide (ins = .ifCond (zcd c) (tg - pc) ∧ len = 3 ∧ 0 ≤ tg ∧ nx = pc + 3 ∧ 0 ≤ c ∧ c ≤ 5)
  | _ => false
noncomputable def ck25 (y : zx_Y) (pc nx : Nat) (o : List Int) (ins : Instr) (len : Nat) : Bool := match o with
  | [c, tg] => decide (ins = .if_icmp (zcd c) (tg - pc) ∧ len = 3 ∧ 0 ≤ tg ∧ nx = pc + 3 ∧ 0 ≤ c ∧ c ≤ 5)
  | _ => false
noncomputable def ck6 (y : zx_Y) (pc nx : Nat) (o : List Int) (ins : Instr) (len : Nat) : Bool := match o with
  | [off] => decide (ins = .goto off ∧ len = 3 ∧ (pc : Int) + off = (nx : Int))
  | _ => false
noncomputable def ck50 (y : zx_Y) (pc nx : Nat) (o : List Int) (ins : Instr) (len : Nat) : Bool := match o with
  | lo :: d2 :: gs => decide (ins = .tableswitch (d2 - pc) lo (lo + gs.length - 1) (gs.map (fun g => g - (pc : Int))).toArray ∧ 0 ≤ d2) && gs.all (fun g => decide (0 ≤ g))
  | _ => false
def zpair : List Int → List (Int × Int)
  | a :: b :: r => (a, b) :: zpair r
  | _ => []
noncomputable def ck51 (y : zx_Y) (pc nx : Nat) (o : List Int) (ins : Instr) (len : Nat) : Bool := match o with
  | d2 :: qs => decide (ins = .lookupswitch (d2 - pc) ((zpair qs).map (fun q => (q.1, q.2 - (pc : Int)))).toArray ∧ 0 ≤ d2) && ((zpair qs).all (fun q => decide (0 ≤ q.2)) && (((zpair qs).map (fun q => (q.1, q.2 - (pc : Int)))).toArray.toList.zip (((zpair qs).map (fun q => (q.1, q.2 - (pc : Int)))).toArray.toList.drop 1)).all (fun (a, next) => a.1 < next.1))
  | _ => false
noncomputable def ck54 (y : zx_Y) (pc nx : Nat) (o : List Int) (ins : Instr) (len : Nat) : Bool := match o with
  | [i, w, j] => decide (ins = .getstatic j.toNat ∧ len = 3 ∧ nx = pc + 3) && ((decide (i = 0) && zx_q w.toNat (.fieldLink y.1.cls j.toNat zs_B "OWN" "[I")) || (decide (i = 1) && zx_q w.toNat (.fieldLink y.1.cls j.toNat zs_B "ABOVE" "[I")))
  | _ => false
noncomputable def ck55 (y : zx_Y) (pc nx : Nat) (o : List Int) (ins : Instr) (len : Nat) : Bool := decide (ins = .newarray .int ∧ len = 2 ∧ nx = pc + 2)
noncomputable def ck56 (y : zx_Y) (pc nx : Nat) (o : List Int) (ins : Instr) (len : Nat) : Bool := decide (ins = .newarray .long ∧ len = 2 ∧ nx = pc + 2)
noncomputable def ck57 (y : zx_Y) (pc nx : Nat) (o : List Int) (ins : Instr) (len : Nat) : Bool := match o with
  | [w, j] => decide (ins = .anewarray j.toNat ∧ len = 3 ∧ nx = pc + 3) && zx_q w.toNat (.classLink y.1.cls j.toNat zs_S)
  | _ => false
noncomputable def ck58 (y : zx_Y) (pc nx : Nat) (o : List Int) (ins : Instr) (len : Nat) : Bool := match o with
  | [ci, w1, w2, w3, j] => match zc[ci.toNat]? with
      | some q => decide (ins = .new j.toNat ∧ len = 3 ∧ nx = pc + 3) && (zx_q w1.toNat (.classLink y.1.cls j.toNat q.1) && (zx_q w2.toNat (.instantiable q.1 q.2.2) && zx_q w3.toNat (.initialized q.1)))
      | none => false
  | _ => false
noncomputable def ck59 (y : zx_Y) (pc nx : Nat) (o : List Int) (ins : Instr) (len : Nat) : Bool := match o with
  | [w, j] => decide (ins = .invokespecial j.toNat ∧ len = 3 ∧ nx = pc + 3) && zx_q w.toNat (.methodLink y.1.cls j.toNat Lib.objectInit)
  | _ => false
noncomputable def ck64 (y : zx_Y) (pc nx : Nat) (o : List Int) (ins : Instr) (len : Nat) : Bool := match o with
  | [w, j] => decide (ins = .invokestatic j.toNat ∧ len = 3 ∧ nx = pc + 3) && zx_q w.toNat (.methodLink y.1.cls j.toNat arraycopyName)
  | _ => false
/-- the places of a method's own words; how many parameters it has -/
def zm_P : List (Nat × Nat × Nat) := [(0, 72, 1), (94, 73, 0), (97, 0, 0), (102, 74, 0), (146, 75, 0), (168, 76, 0), (196, 77, 2), (221, 78, 2), (241, 79, 1), (251, 80, 1), (284, 81, 1), (314, 82, 0), (338, 83, 0), (393, 73, 1), (397, 74, 2), (401, 74, 0), (405, 74, 2), (409, 73, 3), (412, 73, 1), (416, 83, 0), (420, 83, 0), (424, 83, 1), (428, 73, 2), (432, 83, 2), (436, 73, 3), (440, 74, 2), (443, 73, 1), (447, 74, 2), (451, 74, 3), (455, 81, 4), (459, 81, 0), (466, 73, 2), (470, 73, 2), (474, 73, 1), (478, 76, 0), (482, 76, 1), (486, 73, 0), (490, 76, 0), (494, 76, 0), (498, 76, 2), (502, 76, 1), (506, 76, 0), (509, 76, 1), (513, 76, 0), (517, 76, 1), (520, 76, 1), (524, 76, 1), (527, 76, 1), (531, 75, 2), (536, 76, 0), (540, 73, 2), (544, 74, 0), (548, 77, 2), (552, 86, 2), (556, 77, 2), (560, 77, 3), (563, 77, 3), (566, 73, 2), (570, 77, 3), (575, 77, 4), (578, 73, 2), (581, 77, 2), (584, 87, 1), (587, 88, 1), (594, 75, 6), (598, 75, 0), (602, 75, 1), (606, 75, 0), (609, 87, 2), (612, 87, 2), (616, 75, 2), (619, 75, 3), (624, 73, 1), (628, 77, 1), (632, 77, 0), (639, 73, 1), (643, 77, 0), (647, 77, 0), (651, 77, 0), (655, 77, 2), (659, 77, 3), (663, 77, 2), (667, 77, 0), (672, 73, 2), (675, 73, 1), (679, 77, 1), (683, 74, 1), (687, 73, 1), (691, 77, 2), (695, 73, 1), (699, 77, 0), (703, 74, 0), (707, 74, 0), (712, 73, 1), (716, 79, 0), (722, 79, 1), (726, 74, 2), (731, 79, 1), (735, 79, 1), (740, 79, 0), (745, 73, 2), (749, 79, 1), (754, 73, 1), (759, 73, 2), (764, 78, 3), (770, 78, 4), (777, 73, 2), (781, 83, 1), (786, 89, 2), (789, 89, 1), (792, 89, 2), (797, 89, 3), (802, 73, 3), (805, 89, 2), (808, 89, 3), (811, 73, 1), (815, 73, 2), (819, 73, 1), (822, 89, 1), (828, 73, 2), (832, 79, 2), (836, 79, 3), (841, 79, 2), (845, 73, 1), (849, 79, 1), (854, 73, 1), (858, 79, 0), (862, 79, 1), (866, 79, 2), (871, 73, 3), (875, 77, 4), (880, 73, 1), (886, 80, 1), (891, 73, 1), (895, 80, 1), (899, 73, 1), (903, 80, 1), (907, 73, 2), (912, 80, 2), (916, 73, 1), (920, 73, 0), (924, 80, 0), (930, 73, 0), (934, 80, 0), (938, 73, 0), (942, 81, 0), (947, 73, 0), (951, 81, 0), (955, 73, 1), (958, 82, 1), (962, 82, 0), (966, 82, 1), (970, 73, 3), (974, 82, 3), (978, 82, 1), (982, 82, 5), (991, 82, 1), (995, 82, 4), (999, 82, 5), (1003, 73, 1), (1007, 82, 0), (1012, 73, 2), (1017, 83, 1), (1021, 73, 3), (1025, 83, 2), (1028, 86, 2), (1032, 73, 3), (1036, 83, 1), (1041, 83, 2), (1045, 83, 1), (1049, 73, 2), (1054, 73, 5), (1060, 73, 2), (1063, 82, 2), (1067, 73, 1), (1072, 84, 0), (1192, 84, 0), (1196, 84, 0), (1200, 84, 1), (1204, 84, 3), (1208, 84, 2), (1212, 84, 3), (1215, 84, 1), (1222, 84, 3), (1226, 84, 2), (1230, 84, 1), (1233, 84, 1), (1238, 84, 2), (1242, 84, 2), (1246, 84, 1), (1251, 84, 0), (1255, 84, 2), (1259, 84, 0), (1263, 84, 0), (1267, 84, 0), (1271, 84, 0), (1275, 84, 0), (1279, 84, 0), (1283, 84, 0), (1287, 84, 0), (1291, 84, 1), (1294, 84, 1), (1298, 84, 2), (1303, 84, 0), (1307, 84, 3), (1311, 84, 2), (1314, 84, 2), (1317, 84, 3), (1320, 84, 2), (1323, 84, 1), (1327, 84, 1), (1331, 84, 2), (1335, 84, 1), (1339, 84, 2), (1343, 84, 1), (1347, 84, 1), (1351, 84, 2), (1356, 84, 2), (1360, 84, 1), (1364, 84, 1), (1368, 84, 1), (1373, 84, 2), (1377, 84, 2), (1381, 84, 1), (1385, 84, 2), (1389, 84, 1), (1393, 84, 2), (1399, 84, 5), (1403, 84, 2), (1407, 84, 1), (1411, 84, 2), (1415, 84, 3), (1419, 84, 3), (1424, 84, 2), (1428, 84, 2), (1432, 84, 2), (1436, 84, 1), (1440, 84, 1), (1444, 84, 1), (1448, 84, 3), (1454, 84, 1), (1458, 84, 1), (1462, 84, 1), (1466, 84, 2), (1470, 84, 1), (1474, 84, 0), (1478, 84, 0), (1482, 84, 1), (1487, 84, 3), (1491, 84, 1), (1495, 84, 2), (1499, 84, 1), (1503, 84, 2), (1507, 84, 2), (1511, 84, 2), (1515, 84, 1), (1519, 84, 2), (1523, 84, 3), (1527, 84, 3), (1531, 84, 2), (1534, 84, 2), (1538, 84, 2), (1543, 84, 5), (1547, 84, 2), (1551, 84, 1), (1554, 84, 1), (1558, 84, 1)]
noncomputable def zm_B (t : Nat) : Bool := match zm_P[t]? with
  | some q => zx_q q.1 (.code (zm t).1 (zm t).2.1 (zm t).2.2.1 (zm t).2.2.2) && (zx_q q.2.1 (.initialized (zm t).1.cls) &&
      decide ((zm t).1.cls ≠ "java/lang/invoke/MethodHandle" ∧ (zm t).1.cls ≠ "java/lang/invoke/VarHandle" ∧ (parseMethodDescriptor (zm t).1.desc).map (fun d => d.parameters.length) = some q.2.2 ∧ (zm t).2.2.1 ≤ 21 ∧ plainFor (zm t).1 = true))
  | none => false
/-- the methods that are called -/
def zm_K : Nat := 237142198758023568227473377297746067231102339701849357238162210982569900406472698
def zm_N (t : Nat) : Nat := match zm_P[t]? with
  | some q => q.2.2
  | none => 0
noncomputable def ck67 (y : zx_Y) (pc nx : Nat) (o : List Int) (ins : Instr) (len : Nat) : Bool := match o with
  | [_, _, _, w, _, _, j] => decide (ins = .invokestatic j.toNat ∧ len = 3 ∧ nx = pc + 3) && zx_q w.toNat (.methodLink y.1.cls j.toNat y_fillI.1)
  | _ => false
noncomputable def ck68 (y : zx_Y) (pc nx : Nat) (o : List Int) (ins : Instr) (len : Nat) : Bool := match o with
  | [_, _, _, w, _, _, j] => decide (ins = .invokestatic j.toNat ∧ len = 3 ∧ nx = pc + 3) && zx_q w.toNat (.methodLink y.1.cls j.toNat y_fillJ.1)
  | _ => false
/-- what it is checked against -/
noncomputable def zck (y : zx_Y) (pc op nx : Nat) (o : List Int) (ins : Instr) (len : Nat) : Bool := if op = 0 then ck0 y pc nx o ins len else if op = 1 then ck1 y pc nx o ins len else if op = 2 then ck2 y pc nx o ins len else if op = 3 then ck3 y pc nx o ins len else if op = 6 then ck6 y pc nx o ins len else if op = 10 then ck10 y pc nx o ins len else if op = 26 then ck26 y pc nx o ins len else if op = 24 then ck24 y pc nx o ins len else if op = 25 then ck25 y pc nx o ins len else if op = 23 then ck23 y pc nx o ins len else if op = 52 then ck52 y pc nx o ins len else if op = 22 then ck22 y pc nx o ins len else if op = 27 then ck27 y pc nx o ins len else if op = 11 then ck11 y pc nx o ins len else if op = 12 then ck12 y pc nx o ins len else if op = 13 then ck13 y pc nx o ins len else if op = 14 then ck14 y pc nx o ins len else if op = 15 then ck15 y pc nx o ins len else if op = 16 then ck16 y pc nx o ins len else if op = 17 then ck17 y pc nx o ins len else if op = 18 then ck18 y pc nx o ins len else if op = 19 then ck19 y pc nx o ins len else if op = 20 then ck20 y pc nx o ins len else if op = 33 then ck33 y pc nx o ins len else if op = 40 then ck40 y pc nx o ins len else if op = 36 then ck36 y pc nx o ins len else if op = 44 then ck44 y pc nx o ins len else if op = 28 then ck28 y pc nx o ins len else if op = 30 then ck30 y pc nx o ins len else if op = 21 then ck21 y pc nx o ins len else if op = 31 then ck31 y pc nx o ins len else if op = 29 then ck29 y pc nx o ins len else if op = 32 then ck32 y pc nx o ins len else if op = 34 then ck34 y pc nx o ins len else if op = 35 then ck35 y pc nx o ins len else if op = 37 then ck37 y pc nx o ins len else if op = 38 then ck38 y pc nx o ins len else if op = 39 then ck39 y pc nx o ins len else if op = 45 then ck45 y pc nx o ins len else if op = 46 then ck46 y pc nx o ins len else if op = 47 then ck47 y pc nx o ins len else if op = 50 then ck50 y pc nx o ins len else if op = 51 then ck51 y pc nx o ins len else if op = 53 then ck53 y pc nx o ins len else if op = 54 then ck54 y pc nx o ins len else if op = 55 then ck55 y pc nx o ins len else if op = 56 then ck56 y pc nx o ins len else if op = 57 then ck57 y pc nx o ins len else if op = 58 then ck58 y pc nx o ins len else if op = 59 then ck59 y pc nx o ins len else if op = 64 then ck64 y pc nx o ins len else if op = 67 then ck67 y pc nx o ins len else if op = 68 then ck68 y pc nx o ins len else if op = 41 then ck41 y pc nx o ins len else if op = 42 then ck42 y pc nx o ins len else if op = 43 then ck43 y pc nx o ins len else if op = 48 then ck48 y pc nx o ins len else if op = 49 then ck49 y pc nx o ins len else if op = 70 then ck70 y pc nx o ins len else true
/-- what a call is checked against -/
noncomputable def zcc (op : Nat) (y : zx_Y) (pc nx : Nat) (o : List Int) (ins : Instr) (len : Nat) : Bool := match o with
  | t :: na :: ml :: w :: o2 => decide (t.toNat < 267 ∧ na.toNat = zm_N t.toNat ∧ ml.toNat = (zm t.toNat).2.2.1 ∧ len = 3 ∧ nx = pc + 3) && (Nat.testBit zm_K t.toNat && (match o2 with
    | [s, _, j] => if op = 60 then decide (ins = .invokestatic j.toNat) && (zx_q w.toNat (.methodLink y.1.cls j.toNat (zm t.toNat).1) && zx_q s.toNat (.static (zm t.toNat).1))
        else if op = 61 then decide (ins = .invokestatic j.toNat) && (decide ((y.1.cls, j.toNat, (zm t.toNat).1, "NineOpinions") ∈ zn_L) && zx_q s.toNat (.static (zm t.toNat).1))
        else if op = 62 then decide (ins = .invokespecial j.toNat ∧ (zm t.toNat).2.2.2 = none ∧ (zm t.toNat).1.name = "<init>") && (zx_q w.toNat (.methodLink y.1.cls j.toNat (zm t.toNat).1) && zx_q s.toNat (.instanceMethod (zm t.toNat).1))
        else if op = 63 then decide (ins = .invokespecial j.toNat ∧ (zm t.toNat).2.2.2 = none ∧ (zm t.toNat).1.name = "<init>") && (decide ((y.1.cls, j.toNat, (zm t.toNat).1, "NineOpinions") ∈ zn_L) && zx_q s.toNat (.instanceMethod (zm t.toNat).1))
        else false
    | [im, se, _, ci, j] => if op = 5 then decide (ins = .invokevirtual j.toNat) && (zx_q w.toNat (.methodLink y.1.cls j.toNat (zm t.toNat).1) && (zx_q im.toNat (.instanceMethod (zm t.toNat).1) && (zx_q se.toNat (.selects (zm t.toNat).1.cls (zm t.toNat).1 (zm t.toNat).1) && (match zc[ci.toNat]? with
        | some q => decide (q.1 = (zm t.toNat).1.cls)
        | none => false)))) else false
    | _ => false))
  | _ => false
def zcr (op : Nat) (y : zx_Y) (o : List Int) (ins : Instr) (len : Nat) : Bool :=
  if op = 66 then decide (ins = .return_ ∧ len = 1 ∧ y.2.2.2 = none) else if op = 65 then decide (ins = .lreturn ∧ len = 1 ∧ y.2.2.2 = some .long)
  else if op = 4 then decide (ins = .ireturn ∧ len = 1 ∧ (o = [0] ∧ y.2.2.2 = some .int ∨ o ≠ [0] ∧ y.2.2.2 = some .boolean)) else false
noncomputable def zcko (y : zx_Y) (pc op nx : Nat) (o : List Int) (ins : Instr) (len : Nat) : Bool :=
  if op = 4 then zcr op y o ins len else if op = 5 then zcc op y pc nx o ins len else if op < 60 then zck y pc op nx o ins len else if op < 64 then zcc op y pc nx o ins len else if op = 65 then zcr op y o ins len else if op = 66 then zcr op y o ins len else zck y pc op nx o ins len
noncomputable def zchk (m pc : Nat) : Bool := match zi_get m pc with
  | none => true
  | some I => (match decode (zm m).2.1 pc with
      | .ok q => zcko (zm m) pc I.1 I.2.1 I.2.2 q.1 q.2
      | .error _ => false)
def zbd (m : Nat) : Nat := bif Nat.beq m 0 then 1500 else 512
end
section
/-! PART 08w: a method's code looked at from its first byte to its last. -/
noncomputable def zwk1 (m pc : Nat) (b : UInt8) (r : List UInt8) : Bool := match zi_get m pc with
  | none => true
  | some I => (match zdcd b r with
    | some q => zcko (zm m) pc I.1 I.2.1 I.2.2 q.1 q.2
    | none => zchk m pc)
noncomputable def zwk (m : Nat) (L : List UInt8) : Nat → Bool := List.rec (fun _ => true) (fun b r ih pc => zwk1 m pc b r && ih (pc + 1)) L
theorem zwk_g {m : Nat} : ∀ (L : List UInt8) (p : Nat), zwk m L p = true → (zm m).2.1.data.toList.drop p = L → ∀ k, k < L.length → zchk m (p + k) = true
  | [], _, _, _, k, hk => absurd hk (Nat.not_lt_zero k)
  | b :: r, p, h, hd, k, hk => by
    have h : (zwk1 m p b r && zwk m r (p + 1)) = true := h
    obtain ⟨h1, h2⟩ := (Bool.and_eq_true_iff.mp h)
    cases k with
    | zero =>
      show zchk m p = true
      unfold zwk1 at h1
      split at h1
      · next hi => simp only [zchk, hi]
      · next I hi =>
        split at h1
        · next q hq =>
          simp only [zchk, hi, zdcd_g hq hd]
          exact h1
        · exact h1
    | succ k =>
      have := zwk_g r (p + 1) h2 (zuD hd) k (Nat.lt_of_succ_lt_succ hk)
      rw [show p + (k + 1) = p + 1 + k by omega]
      exact this
noncomputable def zwr (m n : Nat) : Bool := (List.range' n (zbd m - n)).all (fun pc => match zi_get m pc with
  | none => true
  | some _ => false)
noncomputable def zchkF (m : Nat) : Bool := zwk m (zm m).2.1.data.toList 0 && zwr m (zm m).2.1.data.toList.length
theorem zchkF_g {m : Nat} (h : zchkF m = true) (pc : Nat) (hpc : pc < zbd m) : zchk m pc = true := by
  obtain ⟨h1, h2⟩ := (Bool.and_eq_true_iff.mp h)
  rcases Nat.lt_or_ge pc (zm m).2.1.data.toList.length with q | q
  · have := zwk_g _ 0 h1 rfl pc q
    rw [Nat.zero_add] at this
    exact this
  · have := List.all_eq_true.mp h2 pc (List.mem_range'_1.mpr ⟨q, by omega⟩)
    unfold zchk
    split at this
    · next hi => simp only [hi]
    · cases this
end
