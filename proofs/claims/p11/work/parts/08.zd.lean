abbrev z_DR := Jvm.ClassFile.Reader Jvm.ClassFile.DecodeError
def z_at (c : ByteArray) (p n : Nat) : Prop := ∃ b : UInt8, c.data.toList[p]? = some b ∧ b.toNat = n
theorem z_wat {c : ByteArray} {q m j n : Nat} {w : List Nat} (hw : ((c.data.toList.drop q).take m).map UInt8.toNat = w) (hj : w[j]? = some n) : z_at c (q + j) n := by
  rw [← hw, List.getElem?_map] at hj
  cases hb : ((c.data.toList.drop q).take m)[j]? with
  | none => rw [hb] at hj; exact absurd hj (by simp)
  | some b =>
    rw [hb] at hj
    have hn : b.toNat = n := by simpa using hj
    rw [List.getElem?_take] at hb
    split at hb
    · rw [List.getElem?_drop] at hb; exact ⟨b, hb, hn⟩
    · exact absurd hb (by simp)
theorem z_u1 {c : ByteArray} {p n : Nat} (h : z_at c p n) : Jvm.ClassFile.Reader.runAt (Jvm.ClassFile.Reader.u1 : z_DR Nat) c p = .ok (n, p + 1) := by
  obtain ⟨b, hb, hn⟩ := h
  obtain ⟨hl, hv⟩ := List.getElem?_eq_some_iff.mp hb
  obtain ⟨⟨l⟩⟩ := c
  have hs : p < (ByteArray.mk (Array.mk l)).size := hl
  show (if h : p < (ByteArray.mk (Array.mk l)).size then (do set (p + 1); pure (ByteArray.mk (Array.mk l))[p].toNat : z_DR Nat) else throw (Jvm.ClassFile.HasTruncated.truncated p)) (ByteArray.mk (Array.mk l)) p = _
  rw [dif_pos hs]
  show Except.ok ((l[p]'hl).toNat, p + 1) = _
  rw [show l[p]'hl = b from hv, hn]
theorem z_bd {α β : Type} {r : z_DR α} {k : α → z_DR β} {c : ByteArray} {p q : Nat} {a : α} (h : Jvm.ClassFile.Reader.runAt r c p = .ok (a, q)) : Jvm.ClassFile.Reader.runAt (r >>= k) c p = Jvm.ClassFile.Reader.runAt (k a) c q := by
  show Except.bind (r c p) (fun x => k x.1 c x.2) = k a c q
  rw [show r c p = .ok (a, q) from h]; rfl
theorem z_mp {α β : Type} {r : z_DR α} {f : α → β} {c : ByteArray} {p q : Nat} {a : α} (h : Jvm.ClassFile.Reader.runAt r c p = .ok (a, q)) : Jvm.ClassFile.Reader.runAt (f <$> r) c p = .ok (f a, q) := by
  show Except.bind (r c p) (fun x => Except.ok (f x.1, x.2)) = _
  rw [show r c p = .ok (a, q) from h]; rfl
theorem z_u2 {c : ByteArray} {p a b : Nat} (h : z_at c p a) (h1 : z_at c (p + 1) b) : Jvm.ClassFile.Reader.runAt (Jvm.ClassFile.Reader.u2 : z_DR Nat) c p = .ok (a * 256 + b, p + 2) := (z_bd (z_u1 h)).trans ((z_bd (z_u1 h1)).trans rfl)
theorem z_s1 {c : ByteArray} {p a : Nat} (h : z_at c p a) : Jvm.ClassFile.Reader.runAt (Jvm.ClassFile.Reader.s1 : z_DR Int) c p = .ok (Jvm.ClassFile.Reader.signed 8 a, p + 1) := z_mp (z_u1 h)
theorem z_s2 {c : ByteArray} {p a b : Nat} (h : z_at c p a) (h1 : z_at c (p + 1) b) : Jvm.ClassFile.Reader.runAt (Jvm.ClassFile.Reader.s2 : z_DR Int) c p = .ok (Jvm.ClassFile.Reader.signed 16 (a * 256 + b), p + 2) := z_mp (z_u2 h h1)
noncomputable def z_KK (p : Nat) : { K : Nat → z_DR Jvm.ClassFile.Instr // Jvm.ClassFile.Decoder.instr p = Jvm.ClassFile.Reader.u1 >>= K } := ⟨_, rfl⟩
theorem z_ins {c : ByteArray} {p n : Nat} (h : z_at c p n) : Jvm.ClassFile.Reader.runAt (Jvm.ClassFile.Decoder.instr p) c p = Jvm.ClassFile.Reader.runAt ((z_KK p).1 n) c (p + 1) := (congrArg (fun r => Jvm.ClassFile.Reader.runAt r c p) (z_KK p).2).trans (z_bd (z_u1 h))
theorem z_dec {c : ByteArray} {p k : Nat} {I : Jvm.ClassFile.Instr} (h : Jvm.ClassFile.Reader.runAt (Jvm.ClassFile.Decoder.instr p) c p = .ok (I, p + k)) : Jvm.ClassFile.decode c p = .ok (I, k) := by
  unfold Jvm.ClassFile.decode
  rw [h]
  show Except.ok (I, p + k - p) = _
  rw [Nat.add_sub_cancel_left]
theorem z_o2 {c : ByteArray} {p : Nat} (h : z_at c p 2) : decode c p = .ok (.iconst (-1), 1) := z_dec (k := 1) ((z_ins h).trans rfl)
theorem z_o3 {c : ByteArray} {p : Nat} (h : z_at c p 3) : decode c p = .ok (.iconst 0, 1) := z_dec (k := 1) ((z_ins h).trans rfl)
theorem z_o4 {c : ByteArray} {p : Nat} (h : z_at c p 4) : decode c p = .ok (.iconst 1, 1) := z_dec (k := 1) ((z_ins h).trans rfl)
theorem z_o5 {c : ByteArray} {p : Nat} (h : z_at c p 5) : decode c p = .ok (.iconst 2, 1) := z_dec (k := 1) ((z_ins h).trans rfl)
theorem z_o6 {c : ByteArray} {p : Nat} (h : z_at c p 6) : decode c p = .ok (.iconst 3, 1) := z_dec (k := 1) ((z_ins h).trans rfl)
theorem z_o7 {c : ByteArray} {p : Nat} (h : z_at c p 7) : decode c p = .ok (.iconst 4, 1) := z_dec (k := 1) ((z_ins h).trans rfl)
theorem z_o8 {c : ByteArray} {p : Nat} (h : z_at c p 8) : decode c p = .ok (.iconst 5, 1) := z_dec (k := 1) ((z_ins h).trans rfl)
theorem z_o9 {c : ByteArray} {p : Nat} (h : z_at c p 9) : decode c p = .ok (.lconst 0, 1) := z_dec (k := 1) ((z_ins h).trans rfl)
theorem z_o10 {c : ByteArray} {p : Nat} (h : z_at c p 10) : decode c p = .ok (.lconst 1, 1) := z_dec (k := 1) ((z_ins h).trans rfl)
theorem z_o16 {c : ByteArray} {p : Nat} {a : Nat} {i : Int} (h : z_at c p 16) (h1 : z_at c (p + 1) a) (e : Jvm.ClassFile.Reader.signed 8 a = i) : decode c p = .ok (.bipush i, 2) := by subst e; exact z_dec (k := 2) ((z_ins h).trans ((z_bd (z_s1 h1)).trans rfl))
theorem z_o17 {c : ByteArray} {p : Nat} {a b : Nat} {i : Int} (h : z_at c p 17) (h1 : z_at c (p + 1) a) (h2 : z_at c (p + 2) b) (e : Jvm.ClassFile.Reader.signed 16 (a * 256 + b) = i) : decode c p = .ok (.sipush i, 3) := by subst e; exact z_dec (k := 3) ((z_ins h).trans ((z_bd (z_s2 h1 h2)).trans rfl))
theorem z_o18 {c : ByteArray} {p : Nat} {i : Nat} (h : z_at c p 18) (h1 : z_at c (p + 1) i) : decode c p = .ok (.ldc i, 2) := z_dec (k := 2) ((z_ins h).trans ((z_bd (z_u1 h1)).trans rfl))
theorem z_o19 {c : ByteArray} {p : Nat} {a b i : Nat} (h : z_at c p 19) (h1 : z_at c (p + 1) a) (h2 : z_at c (p + 2) b) (e : a * 256 + b = i) : decode c p = .ok (.ldc_w i, 3) := by subst e; exact z_dec (k := 3) ((z_ins h).trans ((z_bd (z_u2 h1 h2)).trans rfl))
theorem z_o20 {c : ByteArray} {p : Nat} {a b i : Nat} (h : z_at c p 20) (h1 : z_at c (p + 1) a) (h2 : z_at c (p + 2) b) (e : a * 256 + b = i) : decode c p = .ok (.ldc2_w i, 3) := by subst e; exact z_dec (k := 3) ((z_ins h).trans ((z_bd (z_u2 h1 h2)).trans rfl))
theorem z_o21 {c : ByteArray} {p : Nat} {i : Nat} (h : z_at c p 21) (h1 : z_at c (p + 1) i) : decode c p = .ok (.iload i, 2) := z_dec (k := 2) ((z_ins h).trans ((z_bd (z_u1 h1)).trans rfl))
theorem z_o22 {c : ByteArray} {p : Nat} {i : Nat} (h : z_at c p 22) (h1 : z_at c (p + 1) i) : decode c p = .ok (.lload i, 2) := z_dec (k := 2) ((z_ins h).trans ((z_bd (z_u1 h1)).trans rfl))
theorem z_o25 {c : ByteArray} {p : Nat} {i : Nat} (h : z_at c p 25) (h1 : z_at c (p + 1) i) : decode c p = .ok (.aload i, 2) := z_dec (k := 2) ((z_ins h).trans ((z_bd (z_u1 h1)).trans rfl))
theorem z_o26 {c : ByteArray} {p : Nat} (h : z_at c p 26) : decode c p = .ok (.iload_n 0, 1) := z_dec (k := 1) ((z_ins h).trans rfl)
theorem z_o27 {c : ByteArray} {p : Nat} (h : z_at c p 27) : decode c p = .ok (.iload_n 1, 1) := z_dec (k := 1) ((z_ins h).trans rfl)
theorem z_o28 {c : ByteArray} {p : Nat} (h : z_at c p 28) : decode c p = .ok (.iload_n 2, 1) := z_dec (k := 1) ((z_ins h).trans rfl)
theorem z_o29 {c : ByteArray} {p : Nat} (h : z_at c p 29) : decode c p = .ok (.iload_n 3, 1) := z_dec (k := 1) ((z_ins h).trans rfl)
theorem z_o30 {c : ByteArray} {p : Nat} (h : z_at c p 30) : decode c p = .ok (.lload_n 0, 1) := z_dec (k := 1) ((z_ins h).trans rfl)
theorem z_o31 {c : ByteArray} {p : Nat} (h : z_at c p 31) : decode c p = .ok (.lload_n 1, 1) := z_dec (k := 1) ((z_ins h).trans rfl)
theorem z_o32 {c : ByteArray} {p : Nat} (h : z_at c p 32) : decode c p = .ok (.lload_n 2, 1) := z_dec (k := 1) ((z_ins h).trans rfl)
theorem z_o33 {c : ByteArray} {p : Nat} (h : z_at c p 33) : decode c p = .ok (.lload_n 3, 1) := z_dec (k := 1) ((z_ins h).trans rfl)
theorem z_o42 {c : ByteArray} {p : Nat} (h : z_at c p 42) : decode c p = .ok (.aload_n 0, 1) := z_dec (k := 1) ((z_ins h).trans rfl)
theorem z_o43 {c : ByteArray} {p : Nat} (h : z_at c p 43) : decode c p = .ok (.aload_n 1, 1) := z_dec (k := 1) ((z_ins h).trans rfl)
theorem z_o44 {c : ByteArray} {p : Nat} (h : z_at c p 44) : decode c p = .ok (.aload_n 2, 1) := z_dec (k := 1) ((z_ins h).trans rfl)
theorem z_o45 {c : ByteArray} {p : Nat} (h : z_at c p 45) : decode c p = .ok (.aload_n 3, 1) := z_dec (k := 1) ((z_ins h).trans rfl)
theorem z_o46 {c : ByteArray} {p : Nat} (h : z_at c p 46) : decode c p = .ok (.iaload, 1) := z_dec (k := 1) ((z_ins h).trans rfl)
theorem z_o47 {c : ByteArray} {p : Nat} (h : z_at c p 47) : decode c p = .ok (.laload, 1) := z_dec (k := 1) ((z_ins h).trans rfl)
theorem z_o51 {c : ByteArray} {p : Nat} (h : z_at c p 51) : decode c p = .ok (.baload, 1) := z_dec (k := 1) ((z_ins h).trans rfl)
theorem z_o54 {c : ByteArray} {p : Nat} {i : Nat} (h : z_at c p 54) (h1 : z_at c (p + 1) i) : decode c p = .ok (.istore i, 2) := z_dec (k := 2) ((z_ins h).trans ((z_bd (z_u1 h1)).trans rfl))
theorem z_o55 {c : ByteArray} {p : Nat} {i : Nat} (h : z_at c p 55) (h1 : z_at c (p + 1) i) : decode c p = .ok (.lstore i, 2) := z_dec (k := 2) ((z_ins h).trans ((z_bd (z_u1 h1)).trans rfl))
theorem z_o60 {c : ByteArray} {p : Nat} (h : z_at c p 60) : decode c p = .ok (.istore_n 1, 1) := z_dec (k := 1) ((z_ins h).trans rfl)
theorem z_o61 {c : ByteArray} {p : Nat} (h : z_at c p 61) : decode c p = .ok (.istore_n 2, 1) := z_dec (k := 1) ((z_ins h).trans rfl)
theorem z_o62 {c : ByteArray} {p : Nat} (h : z_at c p 62) : decode c p = .ok (.istore_n 3, 1) := z_dec (k := 1) ((z_ins h).trans rfl)
theorem z_o64 {c : ByteArray} {p : Nat} (h : z_at c p 64) : decode c p = .ok (.lstore_n 1, 1) := z_dec (k := 1) ((z_ins h).trans rfl)
theorem z_o65 {c : ByteArray} {p : Nat} (h : z_at c p 65) : decode c p = .ok (.lstore_n 2, 1) := z_dec (k := 1) ((z_ins h).trans rfl)
theorem z_o66 {c : ByteArray} {p : Nat} (h : z_at c p 66) : decode c p = .ok (.lstore_n 3, 1) := z_dec (k := 1) ((z_ins h).trans rfl)
theorem z_o76 {c : ByteArray} {p : Nat} (h : z_at c p 76) : decode c p = .ok (.astore_n 1, 1) := z_dec (k := 1) ((z_ins h).trans rfl)
theorem z_o77 {c : ByteArray} {p : Nat} (h : z_at c p 77) : decode c p = .ok (.astore_n 2, 1) := z_dec (k := 1) ((z_ins h).trans rfl)
theorem z_o78 {c : ByteArray} {p : Nat} (h : z_at c p 78) : decode c p = .ok (.astore_n 3, 1) := z_dec (k := 1) ((z_ins h).trans rfl)
theorem z_o79 {c : ByteArray} {p : Nat} (h : z_at c p 79) : decode c p = .ok (.iastore, 1) := z_dec (k := 1) ((z_ins h).trans rfl)
theorem z_o80 {c : ByteArray} {p : Nat} (h : z_at c p 80) : decode c p = .ok (.lastore, 1) := z_dec (k := 1) ((z_ins h).trans rfl)
theorem z_o84 {c : ByteArray} {p : Nat} (h : z_at c p 84) : decode c p = .ok (.bastore, 1) := z_dec (k := 1) ((z_ins h).trans rfl)
theorem z_o87 {c : ByteArray} {p : Nat} (h : z_at c p 87) : decode c p = .ok (.pop, 1) := z_dec (k := 1) ((z_ins h).trans rfl)
theorem z_o88 {c : ByteArray} {p : Nat} (h : z_at c p 88) : decode c p = .ok (.pop2, 1) := z_dec (k := 1) ((z_ins h).trans rfl)
theorem z_o89 {c : ByteArray} {p : Nat} (h : z_at c p 89) : decode c p = .ok (.dup, 1) := z_dec (k := 1) ((z_ins h).trans rfl)
theorem z_o92 {c : ByteArray} {p : Nat} (h : z_at c p 92) : decode c p = .ok (.dup2, 1) := z_dec (k := 1) ((z_ins h).trans rfl)
theorem z_o96 {c : ByteArray} {p : Nat} (h : z_at c p 96) : decode c p = .ok (.iadd, 1) := z_dec (k := 1) ((z_ins h).trans rfl)
theorem z_o97 {c : ByteArray} {p : Nat} (h : z_at c p 97) : decode c p = .ok (.ladd, 1) := z_dec (k := 1) ((z_ins h).trans rfl)
theorem z_o100 {c : ByteArray} {p : Nat} (h : z_at c p 100) : decode c p = .ok (.isub, 1) := z_dec (k := 1) ((z_ins h).trans rfl)
theorem z_o101 {c : ByteArray} {p : Nat} (h : z_at c p 101) : decode c p = .ok (.lsub, 1) := z_dec (k := 1) ((z_ins h).trans rfl)
theorem z_o104 {c : ByteArray} {p : Nat} (h : z_at c p 104) : decode c p = .ok (.imul, 1) := z_dec (k := 1) ((z_ins h).trans rfl)
theorem z_o105 {c : ByteArray} {p : Nat} (h : z_at c p 105) : decode c p = .ok (.lmul, 1) := z_dec (k := 1) ((z_ins h).trans rfl)
theorem z_o108 {c : ByteArray} {p : Nat} (h : z_at c p 108) : decode c p = .ok (.idiv, 1) := z_dec (k := 1) ((z_ins h).trans rfl)
theorem z_o109 {c : ByteArray} {p : Nat} (h : z_at c p 109) : decode c p = .ok (.ldiv, 1) := z_dec (k := 1) ((z_ins h).trans rfl)
theorem z_o112 {c : ByteArray} {p : Nat} (h : z_at c p 112) : decode c p = .ok (.irem, 1) := z_dec (k := 1) ((z_ins h).trans rfl)
theorem z_o117 {c : ByteArray} {p : Nat} (h : z_at c p 117) : decode c p = .ok (.lneg, 1) := z_dec (k := 1) ((z_ins h).trans rfl)
theorem z_o120 {c : ByteArray} {p : Nat} (h : z_at c p 120) : decode c p = .ok (.ishl, 1) := z_dec (k := 1) ((z_ins h).trans rfl)
theorem z_o122 {c : ByteArray} {p : Nat} (h : z_at c p 122) : decode c p = .ok (.ishr, 1) := z_dec (k := 1) ((z_ins h).trans rfl)
theorem z_o124 {c : ByteArray} {p : Nat} (h : z_at c p 124) : decode c p = .ok (.iushr, 1) := z_dec (k := 1) ((z_ins h).trans rfl)
theorem z_o126 {c : ByteArray} {p : Nat} (h : z_at c p 126) : decode c p = .ok (.iand, 1) := z_dec (k := 1) ((z_ins h).trans rfl)
theorem z_o128 {c : ByteArray} {p : Nat} (h : z_at c p 128) : decode c p = .ok (.ior, 1) := z_dec (k := 1) ((z_ins h).trans rfl)
theorem z_o132 {c : ByteArray} {p : Nat} {a b : Nat} {i : Int} (h : z_at c p 132) (h1 : z_at c (p + 1) a) (h2 : z_at c (p + 2) b) (e : Jvm.ClassFile.Reader.signed 8 b = i) : decode c p = .ok (.iinc a i, 3) := by subst e; exact z_dec (k := 3) ((z_ins h).trans ((z_bd (z_u1 h1)).trans ((z_bd (z_s1 h2)).trans rfl)))
theorem z_o133 {c : ByteArray} {p : Nat} (h : z_at c p 133) : decode c p = .ok (.i2l, 1) := z_dec (k := 1) ((z_ins h).trans rfl)
theorem z_o136 {c : ByteArray} {p : Nat} (h : z_at c p 136) : decode c p = .ok (.l2i, 1) := z_dec (k := 1) ((z_ins h).trans rfl)
theorem z_o148 {c : ByteArray} {p : Nat} (h : z_at c p 148) : decode c p = .ok (.lcmp, 1) := z_dec (k := 1) ((z_ins h).trans rfl)
theorem z_o153 {c : ByteArray} {p : Nat} {a b : Nat} {i : Int} (h : z_at c p 153) (h1 : z_at c (p + 1) a) (h2 : z_at c (p + 2) b) (e : Jvm.ClassFile.Reader.signed 16 (a * 256 + b) = i) : decode c p = .ok (.ifCond .eq i, 3) := by subst e; exact z_dec (k := 3) ((z_ins h).trans ((z_bd (z_s2 h1 h2)).trans rfl))
theorem z_o154 {c : ByteArray} {p : Nat} {a b : Nat} {i : Int} (h : z_at c p 154) (h1 : z_at c (p + 1) a) (h2 : z_at c (p + 2) b) (e : Jvm.ClassFile.Reader.signed 16 (a * 256 + b) = i) : decode c p = .ok (.ifCond .ne i, 3) := by subst e; exact z_dec (k := 3) ((z_ins h).trans ((z_bd (z_s2 h1 h2)).trans rfl))
theorem z_o155 {c : ByteArray} {p : Nat} {a b : Nat} {i : Int} (h : z_at c p 155) (h1 : z_at c (p + 1) a) (h2 : z_at c (p + 2) b) (e : Jvm.ClassFile.Reader.signed 16 (a * 256 + b) = i) : decode c p = .ok (.ifCond .lt i, 3) := by subst e; exact z_dec (k := 3) ((z_ins h).trans ((z_bd (z_s2 h1 h2)).trans rfl))
theorem z_o156 {c : ByteArray} {p : Nat} {a b : Nat} {i : Int} (h : z_at c p 156) (h1 : z_at c (p + 1) a) (h2 : z_at c (p + 2) b) (e : Jvm.ClassFile.Reader.signed 16 (a * 256 + b) = i) : decode c p = .ok (.ifCond .ge i, 3) := by subst e; exact z_dec (k := 3) ((z_ins h).trans ((z_bd (z_s2 h1 h2)).trans rfl))
theorem z_o157 {c : ByteArray} {p : Nat} {a b : Nat} {i : Int} (h : z_at c p 157) (h1 : z_at c (p + 1) a) (h2 : z_at c (p + 2) b) (e : Jvm.ClassFile.Reader.signed 16 (a * 256 + b) = i) : decode c p = .ok (.ifCond .gt i, 3) := by subst e; exact z_dec (k := 3) ((z_ins h).trans ((z_bd (z_s2 h1 h2)).trans rfl))
theorem z_o158 {c : ByteArray} {p : Nat} {a b : Nat} {i : Int} (h : z_at c p 158) (h1 : z_at c (p + 1) a) (h2 : z_at c (p + 2) b) (e : Jvm.ClassFile.Reader.signed 16 (a * 256 + b) = i) : decode c p = .ok (.ifCond .le i, 3) := by subst e; exact z_dec (k := 3) ((z_ins h).trans ((z_bd (z_s2 h1 h2)).trans rfl))
theorem z_o159 {c : ByteArray} {p : Nat} {a b : Nat} {i : Int} (h : z_at c p 159) (h1 : z_at c (p + 1) a) (h2 : z_at c (p + 2) b) (e : Jvm.ClassFile.Reader.signed 16 (a * 256 + b) = i) : decode c p = .ok (.if_icmp .eq i, 3) := by subst e; exact z_dec (k := 3) ((z_ins h).trans ((z_bd (z_s2 h1 h2)).trans rfl))
theorem z_o160 {c : ByteArray} {p : Nat} {a b : Nat} {i : Int} (h : z_at c p 160) (h1 : z_at c (p + 1) a) (h2 : z_at c (p + 2) b) (e : Jvm.ClassFile.Reader.signed 16 (a * 256 + b) = i) : decode c p = .ok (.if_icmp .ne i, 3) := by subst e; exact z_dec (k := 3) ((z_ins h).trans ((z_bd (z_s2 h1 h2)).trans rfl))
theorem z_o161 {c : ByteArray} {p : Nat} {a b : Nat} {i : Int} (h : z_at c p 161) (h1 : z_at c (p + 1) a) (h2 : z_at c (p + 2) b) (e : Jvm.ClassFile.Reader.signed 16 (a * 256 + b) = i) : decode c p = .ok (.if_icmp .lt i, 3) := by subst e; exact z_dec (k := 3) ((z_ins h).trans ((z_bd (z_s2 h1 h2)).trans rfl))
theorem z_o162 {c : ByteArray} {p : Nat} {a b : Nat} {i : Int} (h : z_at c p 162) (h1 : z_at c (p + 1) a) (h2 : z_at c (p + 2) b) (e : Jvm.ClassFile.Reader.signed 16 (a * 256 + b) = i) : decode c p = .ok (.if_icmp .ge i, 3) := by subst e; exact z_dec (k := 3) ((z_ins h).trans ((z_bd (z_s2 h1 h2)).trans rfl))
theorem z_o163 {c : ByteArray} {p : Nat} {a b : Nat} {i : Int} (h : z_at c p 163) (h1 : z_at c (p + 1) a) (h2 : z_at c (p + 2) b) (e : Jvm.ClassFile.Reader.signed 16 (a * 256 + b) = i) : decode c p = .ok (.if_icmp .gt i, 3) := by subst e; exact z_dec (k := 3) ((z_ins h).trans ((z_bd (z_s2 h1 h2)).trans rfl))
theorem z_o164 {c : ByteArray} {p : Nat} {a b : Nat} {i : Int} (h : z_at c p 164) (h1 : z_at c (p + 1) a) (h2 : z_at c (p + 2) b) (e : Jvm.ClassFile.Reader.signed 16 (a * 256 + b) = i) : decode c p = .ok (.if_icmp .le i, 3) := by subst e; exact z_dec (k := 3) ((z_ins h).trans ((z_bd (z_s2 h1 h2)).trans rfl))
theorem z_o167 {c : ByteArray} {p : Nat} {a b : Nat} {i : Int} (h : z_at c p 167) (h1 : z_at c (p + 1) a) (h2 : z_at c (p + 2) b) (e : Jvm.ClassFile.Reader.signed 16 (a * 256 + b) = i) : decode c p = .ok (.goto i, 3) := by subst e; exact z_dec (k := 3) ((z_ins h).trans ((z_bd (z_s2 h1 h2)).trans rfl))
theorem z_o172 {c : ByteArray} {p : Nat} (h : z_at c p 172) : decode c p = .ok (.ireturn, 1) := z_dec (k := 1) ((z_ins h).trans rfl)
theorem z_o173 {c : ByteArray} {p : Nat} (h : z_at c p 173) : decode c p = .ok (.lreturn, 1) := z_dec (k := 1) ((z_ins h).trans rfl)
theorem z_o177 {c : ByteArray} {p : Nat} (h : z_at c p 177) : decode c p = .ok (.return_, 1) := z_dec (k := 1) ((z_ins h).trans rfl)
theorem z_o180 {c : ByteArray} {p : Nat} {a b i : Nat} (h : z_at c p 180) (h1 : z_at c (p + 1) a) (h2 : z_at c (p + 2) b) (e : a * 256 + b = i) : decode c p = .ok (.getfield i, 3) := by subst e; exact z_dec (k := 3) ((z_ins h).trans ((z_bd (z_u2 h1 h2)).trans rfl))
theorem z_o181 {c : ByteArray} {p : Nat} {a b i : Nat} (h : z_at c p 181) (h1 : z_at c (p + 1) a) (h2 : z_at c (p + 2) b) (e : a * 256 + b = i) : decode c p = .ok (.putfield i, 3) := by subst e; exact z_dec (k := 3) ((z_ins h).trans ((z_bd (z_u2 h1 h2)).trans rfl))
theorem z_o182 {c : ByteArray} {p : Nat} {a b i : Nat} (h : z_at c p 182) (h1 : z_at c (p + 1) a) (h2 : z_at c (p + 2) b) (e : a * 256 + b = i) : decode c p = .ok (.invokevirtual i, 3) := by subst e; exact z_dec (k := 3) ((z_ins h).trans ((z_bd (z_u2 h1 h2)).trans rfl))
theorem z_o183 {c : ByteArray} {p : Nat} {a b i : Nat} (h : z_at c p 183) (h1 : z_at c (p + 1) a) (h2 : z_at c (p + 2) b) (e : a * 256 + b = i) : decode c p = .ok (.invokespecial i, 3) := by subst e; exact z_dec (k := 3) ((z_ins h).trans ((z_bd (z_u2 h1 h2)).trans rfl))
theorem z_o184 {c : ByteArray} {p : Nat} {a b i : Nat} (h : z_at c p 184) (h1 : z_at c (p + 1) a) (h2 : z_at c (p + 2) b) (e : a * 256 + b = i) : decode c p = .ok (.invokestatic i, 3) := by subst e; exact z_dec (k := 3) ((z_ins h).trans ((z_bd (z_u2 h1 h2)).trans rfl))
theorem z_o187 {c : ByteArray} {p : Nat} {a b i : Nat} (h : z_at c p 187) (h1 : z_at c (p + 1) a) (h2 : z_at c (p + 2) b) (e : a * 256 + b = i) : decode c p = .ok (.new i, 3) := by subst e; exact z_dec (k := 3) ((z_ins h).trans ((z_bd (z_u2 h1 h2)).trans rfl))
theorem z_o188_10 {c : ByteArray} {p : Nat} (h : z_at c p 188) (h1 : z_at c (p + 1) 10) : decode c p = .ok (.newarray .int, 2) := z_dec (k := 2) ((z_ins h).trans ((z_bd (z_u1 h1)).trans rfl))
theorem z_o188_4 {c : ByteArray} {p : Nat} (h : z_at c p 188) (h1 : z_at c (p + 1) 4) : decode c p = .ok (.newarray .boolean, 2) := z_dec (k := 2) ((z_ins h).trans ((z_bd (z_u1 h1)).trans rfl))
theorem z_o188_11 {c : ByteArray} {p : Nat} (h : z_at c p 188) (h1 : z_at c (p + 1) 11) : decode c p = .ok (.newarray .long, 2) := z_dec (k := 2) ((z_ins h).trans ((z_bd (z_u1 h1)).trans rfl))
theorem z_o190 {c : ByteArray} {p : Nat} (h : z_at c p 190) : decode c p = .ok (.arraylength, 1) := z_dec (k := 1) ((z_ins h).trans rfl)
theorem z_o191 {c : ByteArray} {p : Nat} (h : z_at c p 191) : decode c p = .ok (.athrow, 1) := z_dec (k := 1) ((z_ins h).trans rfl)
