/-! own rows: a decoded instruction out of bytes, an opcode a row -/
def dk_l (c : ByteArray) : List Nat := c.data.toList.map UInt8.toNat
theorem dk_u1 {c : ByteArray} {p x : Nat} {r : List Nat} (h : (dk_l c).drop p = x :: r) : (Jvm.ClassFile.Reader.u1 : Jvm.ClassFile.Decoder Nat) c p = .ok (x, p + 1) ∧ (dk_l c).drop (p + 1) = r := by
  have hl : p < (dk_l c).length := by
    rcases Nat.lt_or_ge p (dk_l c).length with q | q
    · exact q
    · rw [List.drop_eq_nil_of_le q] at h
      exact absurd h (by simp)
  have hc : p < c.size := by
    have e : (dk_l c).length = c.size := by
      unfold dk_l
      rw [List.length_map]
      rfl
    omega
  rw [List.drop_eq_getElem_cons hl] at h
  obtain ⟨h1, h2⟩ := List.cons.inj h
  refine ⟨?_, h2⟩
  have e1 : c[p].toNat = x := by
    have e2 : ∀ (l : List UInt8) (q : p < (l.map UInt8.toNat).length) (q2 : p < l.length), (l.map UInt8.toNat)[p] = (l[p]).toNat := fun l q q2 => by rw [List.getElem_map]
    exact (e2 c.data.toList hl hc).symm.trans h1
  have e : (Jvm.ClassFile.Reader.u1 : Jvm.ClassFile.Decoder Nat) c p = ((if h : p < c.size then (do set (p + 1); pure c[p].toNat) else throw (Jvm.ClassFile.HasTruncated.truncated p)) : Jvm.ClassFile.Decoder Nat) c p := rfl
  rw [e, dif_pos hc]
  show Except.ok (c[p].toNat, p + 1) = Except.ok (x, p + 1)
  rw [e1]
theorem dk_bind {α β : Type} {m : Jvm.ClassFile.Decoder α} {f : α → Jvm.ClassFile.Decoder β} {c : ByteArray} {p q : Nat} {v : α} (h : m c p = .ok (v, q)) : (m >>= f) c p = f v c q := by
  show Except.bind (m c p) (fun x => f x.1 c x.2) = f v c q
  rw [h]
  rfl
theorem dk_map {α β : Type} {m : Jvm.ClassFile.Decoder α} {g : α → β} {c : ByteArray} {p q : Nat} {v : α} (h : m c p = .ok (v, q)) : (g <$> m : Jvm.ClassFile.Decoder β) c p = .ok (g v, q) := by
  show Except.bind (m c p) (fun x => .ok (g x.1, x.2)) = .ok (g v, q)
  rw [h]
  rfl
theorem dk_u2 {c : ByteArray} {p a b : Nat} {r : List Nat} (h : (dk_l c).drop p = a :: b :: r) : (Jvm.ClassFile.Reader.u2 : Jvm.ClassFile.Decoder Nat) c p = .ok (a * 256 + b, p + 1 + 1) := by
  have h1 := dk_u1 h
  have h2 := dk_u1 h1.2
  unfold Jvm.ClassFile.Reader.u2
  exact (dk_bind h1.1).trans ((dk_bind h2.1).trans rfl)
theorem dk_s1 {c : ByteArray} {p a : Nat} {r : List Nat} (h : (dk_l c).drop p = a :: r) : (Jvm.ClassFile.Reader.s1 : Jvm.ClassFile.Decoder Int) c p = .ok (Jvm.ClassFile.Reader.signed 8 a, p + 1) := by
  unfold Jvm.ClassFile.Reader.s1
  exact dk_map (dk_u1 h).1
theorem dk_s2 {c : ByteArray} {p a b : Nat} {r : List Nat} (h : (dk_l c).drop p = a :: b :: r) : (Jvm.ClassFile.Reader.s2 : Jvm.ClassFile.Decoder Int) c p = .ok (Jvm.ClassFile.Reader.signed 16 (a * 256 + b), p + 1 + 1) := by
  unfold Jvm.ClassFile.Reader.s2
  exact dk_map (dk_u2 h)
theorem dk_dec {c : ByteArray} {pc q n : Nat} {i : Instr} (h : Jvm.ClassFile.Decoder.instr pc c pc = .ok (i, q)) (e : q - pc = n) : decode c pc = .ok (i, n) := by
  show Except.bind (Jvm.ClassFile.Decoder.instr pc c pc) (fun x => .ok (x.1, x.2 - pc)) = .ok (i, n)
  rw [h, ← e]
  rfl
theorem dk_at {c : ByteArray} {K n : Nat} {bs : List Nat} (h : ((dk_l c).drop K).take n = bs) (i : Nat) : (dk_l c).drop (K + i) = bs.drop i ++ (((dk_l c).drop K).drop n).drop (i - bs.length) := by
  rw [← List.drop_drop, ← List.drop_append, ← h, List.take_append_drop]
set_option maxRecDepth 20000 in
theorem dk_2 {c : ByteArray} {pc : Nat} {r : List Nat} (h : (dk_l c).drop pc = 2 :: r) : decode c pc = .ok ((.iconst (-1)), 1) := by
  have h1 := dk_u1 h
  refine dk_dec (q := pc + 1) ?_ (by omega)
  unfold Jvm.ClassFile.Decoder.instr
  refine (dk_bind h1.1).trans ?_
  exact rfl
set_option maxRecDepth 20000 in
theorem dk_3 {c : ByteArray} {pc : Nat} {r : List Nat} (h : (dk_l c).drop pc = 3 :: r) : decode c pc = .ok ((.iconst 0), 1) := by
  have h1 := dk_u1 h
  refine dk_dec (q := pc + 1) ?_ (by omega)
  unfold Jvm.ClassFile.Decoder.instr
  refine (dk_bind h1.1).trans ?_
  exact rfl
set_option maxRecDepth 20000 in
theorem dk_4 {c : ByteArray} {pc : Nat} {r : List Nat} (h : (dk_l c).drop pc = 4 :: r) : decode c pc = .ok ((.iconst 1), 1) := by
  have h1 := dk_u1 h
  refine dk_dec (q := pc + 1) ?_ (by omega)
  unfold Jvm.ClassFile.Decoder.instr
  refine (dk_bind h1.1).trans ?_
  exact rfl
set_option maxRecDepth 20000 in
theorem dk_5 {c : ByteArray} {pc : Nat} {r : List Nat} (h : (dk_l c).drop pc = 5 :: r) : decode c pc = .ok ((.iconst 2), 1) := by
  have h1 := dk_u1 h
  refine dk_dec (q := pc + 1) ?_ (by omega)
  unfold Jvm.ClassFile.Decoder.instr
  refine (dk_bind h1.1).trans ?_
  exact rfl
set_option maxRecDepth 20000 in
theorem dk_6 {c : ByteArray} {pc : Nat} {r : List Nat} (h : (dk_l c).drop pc = 6 :: r) : decode c pc = .ok ((.iconst 3), 1) := by
  have h1 := dk_u1 h
  refine dk_dec (q := pc + 1) ?_ (by omega)
  unfold Jvm.ClassFile.Decoder.instr
  refine (dk_bind h1.1).trans ?_
  exact rfl
set_option maxRecDepth 20000 in
theorem dk_7 {c : ByteArray} {pc : Nat} {r : List Nat} (h : (dk_l c).drop pc = 7 :: r) : decode c pc = .ok ((.iconst 4), 1) := by
  have h1 := dk_u1 h
  refine dk_dec (q := pc + 1) ?_ (by omega)
  unfold Jvm.ClassFile.Decoder.instr
  refine (dk_bind h1.1).trans ?_
  exact rfl
set_option maxRecDepth 20000 in
theorem dk_8 {c : ByteArray} {pc : Nat} {r : List Nat} (h : (dk_l c).drop pc = 8 :: r) : decode c pc = .ok ((.iconst 5), 1) := by
  have h1 := dk_u1 h
  refine dk_dec (q := pc + 1) ?_ (by omega)
  unfold Jvm.ClassFile.Decoder.instr
  refine (dk_bind h1.1).trans ?_
  exact rfl
set_option maxRecDepth 20000 in
theorem dk_9 {c : ByteArray} {pc : Nat} {r : List Nat} (h : (dk_l c).drop pc = 9 :: r) : decode c pc = .ok ((.lconst 0), 1) := by
  have h1 := dk_u1 h
  refine dk_dec (q := pc + 1) ?_ (by omega)
  unfold Jvm.ClassFile.Decoder.instr
  refine (dk_bind h1.1).trans ?_
  exact rfl
set_option maxRecDepth 20000 in
theorem dk_10 {c : ByteArray} {pc : Nat} {r : List Nat} (h : (dk_l c).drop pc = 10 :: r) : decode c pc = .ok ((.lconst 1), 1) := by
  have h1 := dk_u1 h
  refine dk_dec (q := pc + 1) ?_ (by omega)
  unfold Jvm.ClassFile.Decoder.instr
  refine (dk_bind h1.1).trans ?_
  exact rfl
set_option maxRecDepth 20000 in
theorem dk_16 {c : ByteArray} {pc a : Nat} {r : List Nat} {v0 : Int} (h : (dk_l c).drop pc = 16 :: a :: r) (e0 : Jvm.ClassFile.Reader.signed 8 a = v0) : decode c pc = .ok ((.bipush v0), 2) := by
  subst e0
  have h1 := dk_u1 h
  have g0 := dk_s1 h1.2
  refine dk_dec (q := pc + 1 + 1) ?_ (by omega)
  unfold Jvm.ClassFile.Decoder.instr
  refine (dk_bind h1.1).trans ?_
  exact (dk_bind g0).trans rfl
set_option maxRecDepth 20000 in
theorem dk_17 {c : ByteArray} {pc a b : Nat} {r : List Nat} {v0 : Int} (h : (dk_l c).drop pc = 17 :: a :: b :: r) (e0 : Jvm.ClassFile.Reader.signed 16 (a * 256 + b) = v0) : decode c pc = .ok ((.sipush v0), 3) := by
  subst e0
  have h1 := dk_u1 h
  have g0 := dk_s2 h1.2
  refine dk_dec (q := pc + 1 + 1 + 1) ?_ (by omega)
  unfold Jvm.ClassFile.Decoder.instr
  refine (dk_bind h1.1).trans ?_
  exact (dk_bind g0).trans rfl
set_option maxRecDepth 20000 in
theorem dk_18 {c : ByteArray} {pc a : Nat} {r : List Nat} {v0 : Nat} (h : (dk_l c).drop pc = 18 :: a :: r) (e0 : a = v0) : decode c pc = .ok ((.ldc v0), 2) := by
  subst e0
  have h1 := dk_u1 h
  have g0 := (dk_u1 h1.2).1
  refine dk_dec (q := pc + 1 + 1) ?_ (by omega)
  unfold Jvm.ClassFile.Decoder.instr
  refine (dk_bind h1.1).trans ?_
  exact (dk_bind g0).trans rfl
set_option maxRecDepth 20000 in
theorem dk_19 {c : ByteArray} {pc a b : Nat} {r : List Nat} {v0 : Nat} (h : (dk_l c).drop pc = 19 :: a :: b :: r) (e0 : a * 256 + b = v0) : decode c pc = .ok ((.ldc_w v0), 3) := by
  subst e0
  have h1 := dk_u1 h
  have g0 := dk_u2 h1.2
  refine dk_dec (q := pc + 1 + 1 + 1) ?_ (by omega)
  unfold Jvm.ClassFile.Decoder.instr
  refine (dk_bind h1.1).trans ?_
  exact (dk_bind g0).trans rfl
set_option maxRecDepth 20000 in
theorem dk_20 {c : ByteArray} {pc a b : Nat} {r : List Nat} {v0 : Nat} (h : (dk_l c).drop pc = 20 :: a :: b :: r) (e0 : a * 256 + b = v0) : decode c pc = .ok ((.ldc2_w v0), 3) := by
  subst e0
  have h1 := dk_u1 h
  have g0 := dk_u2 h1.2
  refine dk_dec (q := pc + 1 + 1 + 1) ?_ (by omega)
  unfold Jvm.ClassFile.Decoder.instr
  refine (dk_bind h1.1).trans ?_
  exact (dk_bind g0).trans rfl
set_option maxRecDepth 20000 in
theorem dk_21 {c : ByteArray} {pc a : Nat} {r : List Nat} {v0 : Nat} (h : (dk_l c).drop pc = 21 :: a :: r) (e0 : a = v0) : decode c pc = .ok ((.iload v0), 2) := by
  subst e0
  have h1 := dk_u1 h
  have g0 := (dk_u1 h1.2).1
  refine dk_dec (q := pc + 1 + 1) ?_ (by omega)
  unfold Jvm.ClassFile.Decoder.instr
  refine (dk_bind h1.1).trans ?_
  exact (dk_bind g0).trans rfl
set_option maxRecDepth 20000 in
theorem dk_22 {c : ByteArray} {pc a : Nat} {r : List Nat} {v0 : Nat} (h : (dk_l c).drop pc = 22 :: a :: r) (e0 : a = v0) : decode c pc = .ok ((.lload v0), 2) := by
  subst e0
  have h1 := dk_u1 h
  have g0 := (dk_u1 h1.2).1
  refine dk_dec (q := pc + 1 + 1) ?_ (by omega)
  unfold Jvm.ClassFile.Decoder.instr
  refine (dk_bind h1.1).trans ?_
  exact (dk_bind g0).trans rfl
set_option maxRecDepth 20000 in
theorem dk_25 {c : ByteArray} {pc a : Nat} {r : List Nat} {v0 : Nat} (h : (dk_l c).drop pc = 25 :: a :: r) (e0 : a = v0) : decode c pc = .ok ((.aload v0), 2) := by
  subst e0
  have h1 := dk_u1 h
  have g0 := (dk_u1 h1.2).1
  refine dk_dec (q := pc + 1 + 1) ?_ (by omega)
  unfold Jvm.ClassFile.Decoder.instr
  refine (dk_bind h1.1).trans ?_
  exact (dk_bind g0).trans rfl
set_option maxRecDepth 20000 in
theorem dk_26 {c : ByteArray} {pc : Nat} {r : List Nat} (h : (dk_l c).drop pc = 26 :: r) : decode c pc = .ok ((.iload_n 0), 1) := by
  have h1 := dk_u1 h
  refine dk_dec (q := pc + 1) ?_ (by omega)
  unfold Jvm.ClassFile.Decoder.instr
  refine (dk_bind h1.1).trans ?_
  exact rfl
set_option maxRecDepth 20000 in
theorem dk_27 {c : ByteArray} {pc : Nat} {r : List Nat} (h : (dk_l c).drop pc = 27 :: r) : decode c pc = .ok ((.iload_n 1), 1) := by
  have h1 := dk_u1 h
  refine dk_dec (q := pc + 1) ?_ (by omega)
  unfold Jvm.ClassFile.Decoder.instr
  refine (dk_bind h1.1).trans ?_
  exact rfl
set_option maxRecDepth 20000 in
theorem dk_28 {c : ByteArray} {pc : Nat} {r : List Nat} (h : (dk_l c).drop pc = 28 :: r) : decode c pc = .ok ((.iload_n 2), 1) := by
  have h1 := dk_u1 h
  refine dk_dec (q := pc + 1) ?_ (by omega)
  unfold Jvm.ClassFile.Decoder.instr
  refine (dk_bind h1.1).trans ?_
  exact rfl
set_option maxRecDepth 20000 in
theorem dk_29 {c : ByteArray} {pc : Nat} {r : List Nat} (h : (dk_l c).drop pc = 29 :: r) : decode c pc = .ok ((.iload_n 3), 1) := by
  have h1 := dk_u1 h
  refine dk_dec (q := pc + 1) ?_ (by omega)
  unfold Jvm.ClassFile.Decoder.instr
  refine (dk_bind h1.1).trans ?_
  exact rfl
set_option maxRecDepth 20000 in
theorem dk_30 {c : ByteArray} {pc : Nat} {r : List Nat} (h : (dk_l c).drop pc = 30 :: r) : decode c pc = .ok ((.lload_n 0), 1) := by
  have h1 := dk_u1 h
  refine dk_dec (q := pc + 1) ?_ (by omega)
  unfold Jvm.ClassFile.Decoder.instr
  refine (dk_bind h1.1).trans ?_
  exact rfl
set_option maxRecDepth 20000 in
theorem dk_31 {c : ByteArray} {pc : Nat} {r : List Nat} (h : (dk_l c).drop pc = 31 :: r) : decode c pc = .ok ((.lload_n 1), 1) := by
  have h1 := dk_u1 h
  refine dk_dec (q := pc + 1) ?_ (by omega)
  unfold Jvm.ClassFile.Decoder.instr
  refine (dk_bind h1.1).trans ?_
  exact rfl
set_option maxRecDepth 20000 in
theorem dk_32 {c : ByteArray} {pc : Nat} {r : List Nat} (h : (dk_l c).drop pc = 32 :: r) : decode c pc = .ok ((.lload_n 2), 1) := by
  have h1 := dk_u1 h
  refine dk_dec (q := pc + 1) ?_ (by omega)
  unfold Jvm.ClassFile.Decoder.instr
  refine (dk_bind h1.1).trans ?_
  exact rfl
set_option maxRecDepth 20000 in
theorem dk_33 {c : ByteArray} {pc : Nat} {r : List Nat} (h : (dk_l c).drop pc = 33 :: r) : decode c pc = .ok ((.lload_n 3), 1) := by
  have h1 := dk_u1 h
  refine dk_dec (q := pc + 1) ?_ (by omega)
  unfold Jvm.ClassFile.Decoder.instr
  refine (dk_bind h1.1).trans ?_
  exact rfl
set_option maxRecDepth 20000 in
theorem dk_42 {c : ByteArray} {pc : Nat} {r : List Nat} (h : (dk_l c).drop pc = 42 :: r) : decode c pc = .ok ((.aload_n 0), 1) := by
  have h1 := dk_u1 h
  refine dk_dec (q := pc + 1) ?_ (by omega)
  unfold Jvm.ClassFile.Decoder.instr
  refine (dk_bind h1.1).trans ?_
  exact rfl
set_option maxRecDepth 20000 in
theorem dk_43 {c : ByteArray} {pc : Nat} {r : List Nat} (h : (dk_l c).drop pc = 43 :: r) : decode c pc = .ok ((.aload_n 1), 1) := by
  have h1 := dk_u1 h
  refine dk_dec (q := pc + 1) ?_ (by omega)
  unfold Jvm.ClassFile.Decoder.instr
  refine (dk_bind h1.1).trans ?_
  exact rfl
set_option maxRecDepth 20000 in
theorem dk_44 {c : ByteArray} {pc : Nat} {r : List Nat} (h : (dk_l c).drop pc = 44 :: r) : decode c pc = .ok ((.aload_n 2), 1) := by
  have h1 := dk_u1 h
  refine dk_dec (q := pc + 1) ?_ (by omega)
  unfold Jvm.ClassFile.Decoder.instr
  refine (dk_bind h1.1).trans ?_
  exact rfl
set_option maxRecDepth 20000 in
theorem dk_45 {c : ByteArray} {pc : Nat} {r : List Nat} (h : (dk_l c).drop pc = 45 :: r) : decode c pc = .ok ((.aload_n 3), 1) := by
  have h1 := dk_u1 h
  refine dk_dec (q := pc + 1) ?_ (by omega)
  unfold Jvm.ClassFile.Decoder.instr
  refine (dk_bind h1.1).trans ?_
  exact rfl
set_option maxRecDepth 20000 in
theorem dk_46 {c : ByteArray} {pc : Nat} {r : List Nat} (h : (dk_l c).drop pc = 46 :: r) : decode c pc = .ok (.iaload, 1) := by
  have h1 := dk_u1 h
  refine dk_dec (q := pc + 1) ?_ (by omega)
  unfold Jvm.ClassFile.Decoder.instr
  refine (dk_bind h1.1).trans ?_
  exact rfl
set_option maxRecDepth 20000 in
theorem dk_47 {c : ByteArray} {pc : Nat} {r : List Nat} (h : (dk_l c).drop pc = 47 :: r) : decode c pc = .ok (.laload, 1) := by
  have h1 := dk_u1 h
  refine dk_dec (q := pc + 1) ?_ (by omega)
  unfold Jvm.ClassFile.Decoder.instr
  refine (dk_bind h1.1).trans ?_
  exact rfl
set_option maxRecDepth 20000 in
theorem dk_50 {c : ByteArray} {pc : Nat} {r : List Nat} (h : (dk_l c).drop pc = 50 :: r) : decode c pc = .ok (.aaload, 1) := by
  have h1 := dk_u1 h
  refine dk_dec (q := pc + 1) ?_ (by omega)
  unfold Jvm.ClassFile.Decoder.instr
  refine (dk_bind h1.1).trans ?_
  exact rfl
set_option maxRecDepth 20000 in
theorem dk_51 {c : ByteArray} {pc : Nat} {r : List Nat} (h : (dk_l c).drop pc = 51 :: r) : decode c pc = .ok (.baload, 1) := by
  have h1 := dk_u1 h
  refine dk_dec (q := pc + 1) ?_ (by omega)
  unfold Jvm.ClassFile.Decoder.instr
  refine (dk_bind h1.1).trans ?_
  exact rfl
set_option maxRecDepth 20000 in
theorem dk_54 {c : ByteArray} {pc a : Nat} {r : List Nat} {v0 : Nat} (h : (dk_l c).drop pc = 54 :: a :: r) (e0 : a = v0) : decode c pc = .ok ((.istore v0), 2) := by
  subst e0
  have h1 := dk_u1 h
  have g0 := (dk_u1 h1.2).1
  refine dk_dec (q := pc + 1 + 1) ?_ (by omega)
  unfold Jvm.ClassFile.Decoder.instr
  refine (dk_bind h1.1).trans ?_
  exact (dk_bind g0).trans rfl
set_option maxRecDepth 20000 in
theorem dk_55 {c : ByteArray} {pc a : Nat} {r : List Nat} {v0 : Nat} (h : (dk_l c).drop pc = 55 :: a :: r) (e0 : a = v0) : decode c pc = .ok ((.lstore v0), 2) := by
  subst e0
  have h1 := dk_u1 h
  have g0 := (dk_u1 h1.2).1
  refine dk_dec (q := pc + 1 + 1) ?_ (by omega)
  unfold Jvm.ClassFile.Decoder.instr
  refine (dk_bind h1.1).trans ?_
  exact (dk_bind g0).trans rfl
set_option maxRecDepth 20000 in
theorem dk_58 {c : ByteArray} {pc a : Nat} {r : List Nat} {v0 : Nat} (h : (dk_l c).drop pc = 58 :: a :: r) (e0 : a = v0) : decode c pc = .ok ((.astore v0), 2) := by
  subst e0
  have h1 := dk_u1 h
  have g0 := (dk_u1 h1.2).1
  refine dk_dec (q := pc + 1 + 1) ?_ (by omega)
  unfold Jvm.ClassFile.Decoder.instr
  refine (dk_bind h1.1).trans ?_
  exact (dk_bind g0).trans rfl
set_option maxRecDepth 20000 in
theorem dk_60 {c : ByteArray} {pc : Nat} {r : List Nat} (h : (dk_l c).drop pc = 60 :: r) : decode c pc = .ok ((.istore_n 1), 1) := by
  have h1 := dk_u1 h
  refine dk_dec (q := pc + 1) ?_ (by omega)
  unfold Jvm.ClassFile.Decoder.instr
  refine (dk_bind h1.1).trans ?_
  exact rfl
set_option maxRecDepth 20000 in
theorem dk_61 {c : ByteArray} {pc : Nat} {r : List Nat} (h : (dk_l c).drop pc = 61 :: r) : decode c pc = .ok ((.istore_n 2), 1) := by
  have h1 := dk_u1 h
  refine dk_dec (q := pc + 1) ?_ (by omega)
  unfold Jvm.ClassFile.Decoder.instr
  refine (dk_bind h1.1).trans ?_
  exact rfl
set_option maxRecDepth 20000 in
theorem dk_62 {c : ByteArray} {pc : Nat} {r : List Nat} (h : (dk_l c).drop pc = 62 :: r) : decode c pc = .ok ((.istore_n 3), 1) := by
  have h1 := dk_u1 h
  refine dk_dec (q := pc + 1) ?_ (by omega)
  unfold Jvm.ClassFile.Decoder.instr
  refine (dk_bind h1.1).trans ?_
  exact rfl
set_option maxRecDepth 20000 in
theorem dk_64 {c : ByteArray} {pc : Nat} {r : List Nat} (h : (dk_l c).drop pc = 64 :: r) : decode c pc = .ok ((.lstore_n 1), 1) := by
  have h1 := dk_u1 h
  refine dk_dec (q := pc + 1) ?_ (by omega)
  unfold Jvm.ClassFile.Decoder.instr
  refine (dk_bind h1.1).trans ?_
  exact rfl
set_option maxRecDepth 20000 in
theorem dk_65 {c : ByteArray} {pc : Nat} {r : List Nat} (h : (dk_l c).drop pc = 65 :: r) : decode c pc = .ok ((.lstore_n 2), 1) := by
  have h1 := dk_u1 h
  refine dk_dec (q := pc + 1) ?_ (by omega)
  unfold Jvm.ClassFile.Decoder.instr
  refine (dk_bind h1.1).trans ?_
  exact rfl
set_option maxRecDepth 20000 in
theorem dk_66 {c : ByteArray} {pc : Nat} {r : List Nat} (h : (dk_l c).drop pc = 66 :: r) : decode c pc = .ok ((.lstore_n 3), 1) := by
  have h1 := dk_u1 h
  refine dk_dec (q := pc + 1) ?_ (by omega)
  unfold Jvm.ClassFile.Decoder.instr
  refine (dk_bind h1.1).trans ?_
  exact rfl
set_option maxRecDepth 20000 in
theorem dk_76 {c : ByteArray} {pc : Nat} {r : List Nat} (h : (dk_l c).drop pc = 76 :: r) : decode c pc = .ok ((.astore_n 1), 1) := by
  have h1 := dk_u1 h
  refine dk_dec (q := pc + 1) ?_ (by omega)
  unfold Jvm.ClassFile.Decoder.instr
  refine (dk_bind h1.1).trans ?_
  exact rfl
set_option maxRecDepth 20000 in
theorem dk_77 {c : ByteArray} {pc : Nat} {r : List Nat} (h : (dk_l c).drop pc = 77 :: r) : decode c pc = .ok ((.astore_n 2), 1) := by
  have h1 := dk_u1 h
  refine dk_dec (q := pc + 1) ?_ (by omega)
  unfold Jvm.ClassFile.Decoder.instr
  refine (dk_bind h1.1).trans ?_
  exact rfl
set_option maxRecDepth 20000 in
theorem dk_78 {c : ByteArray} {pc : Nat} {r : List Nat} (h : (dk_l c).drop pc = 78 :: r) : decode c pc = .ok ((.astore_n 3), 1) := by
  have h1 := dk_u1 h
  refine dk_dec (q := pc + 1) ?_ (by omega)
  unfold Jvm.ClassFile.Decoder.instr
  refine (dk_bind h1.1).trans ?_
  exact rfl
set_option maxRecDepth 20000 in
theorem dk_79 {c : ByteArray} {pc : Nat} {r : List Nat} (h : (dk_l c).drop pc = 79 :: r) : decode c pc = .ok (.iastore, 1) := by
  have h1 := dk_u1 h
  refine dk_dec (q := pc + 1) ?_ (by omega)
  unfold Jvm.ClassFile.Decoder.instr
  refine (dk_bind h1.1).trans ?_
  exact rfl
set_option maxRecDepth 20000 in
theorem dk_80 {c : ByteArray} {pc : Nat} {r : List Nat} (h : (dk_l c).drop pc = 80 :: r) : decode c pc = .ok (.lastore, 1) := by
  have h1 := dk_u1 h
  refine dk_dec (q := pc + 1) ?_ (by omega)
  unfold Jvm.ClassFile.Decoder.instr
  refine (dk_bind h1.1).trans ?_
  exact rfl
set_option maxRecDepth 20000 in
theorem dk_83 {c : ByteArray} {pc : Nat} {r : List Nat} (h : (dk_l c).drop pc = 83 :: r) : decode c pc = .ok (.aastore, 1) := by
  have h1 := dk_u1 h
  refine dk_dec (q := pc + 1) ?_ (by omega)
  unfold Jvm.ClassFile.Decoder.instr
  refine (dk_bind h1.1).trans ?_
  exact rfl
set_option maxRecDepth 20000 in
theorem dk_84 {c : ByteArray} {pc : Nat} {r : List Nat} (h : (dk_l c).drop pc = 84 :: r) : decode c pc = .ok (.bastore, 1) := by
  have h1 := dk_u1 h
  refine dk_dec (q := pc + 1) ?_ (by omega)
  unfold Jvm.ClassFile.Decoder.instr
  refine (dk_bind h1.1).trans ?_
  exact rfl
set_option maxRecDepth 20000 in
theorem dk_87 {c : ByteArray} {pc : Nat} {r : List Nat} (h : (dk_l c).drop pc = 87 :: r) : decode c pc = .ok (.pop, 1) := by
  have h1 := dk_u1 h
  refine dk_dec (q := pc + 1) ?_ (by omega)
  unfold Jvm.ClassFile.Decoder.instr
  refine (dk_bind h1.1).trans ?_
  exact rfl
set_option maxRecDepth 20000 in
theorem dk_88 {c : ByteArray} {pc : Nat} {r : List Nat} (h : (dk_l c).drop pc = 88 :: r) : decode c pc = .ok (.pop2, 1) := by
  have h1 := dk_u1 h
  refine dk_dec (q := pc + 1) ?_ (by omega)
  unfold Jvm.ClassFile.Decoder.instr
  refine (dk_bind h1.1).trans ?_
  exact rfl
set_option maxRecDepth 20000 in
theorem dk_89 {c : ByteArray} {pc : Nat} {r : List Nat} (h : (dk_l c).drop pc = 89 :: r) : decode c pc = .ok (.dup, 1) := by
  have h1 := dk_u1 h
  refine dk_dec (q := pc + 1) ?_ (by omega)
  unfold Jvm.ClassFile.Decoder.instr
  refine (dk_bind h1.1).trans ?_
  exact rfl
set_option maxRecDepth 20000 in
theorem dk_92 {c : ByteArray} {pc : Nat} {r : List Nat} (h : (dk_l c).drop pc = 92 :: r) : decode c pc = .ok (.dup2, 1) := by
  have h1 := dk_u1 h
  refine dk_dec (q := pc + 1) ?_ (by omega)
  unfold Jvm.ClassFile.Decoder.instr
  refine (dk_bind h1.1).trans ?_
  exact rfl
set_option maxRecDepth 20000 in
theorem dk_96 {c : ByteArray} {pc : Nat} {r : List Nat} (h : (dk_l c).drop pc = 96 :: r) : decode c pc = .ok (.iadd, 1) := by
  have h1 := dk_u1 h
  refine dk_dec (q := pc + 1) ?_ (by omega)
  unfold Jvm.ClassFile.Decoder.instr
  refine (dk_bind h1.1).trans ?_
  exact rfl
set_option maxRecDepth 20000 in
theorem dk_97 {c : ByteArray} {pc : Nat} {r : List Nat} (h : (dk_l c).drop pc = 97 :: r) : decode c pc = .ok (.ladd, 1) := by
  have h1 := dk_u1 h
  refine dk_dec (q := pc + 1) ?_ (by omega)
  unfold Jvm.ClassFile.Decoder.instr
  refine (dk_bind h1.1).trans ?_
  exact rfl
set_option maxRecDepth 20000 in
theorem dk_100 {c : ByteArray} {pc : Nat} {r : List Nat} (h : (dk_l c).drop pc = 100 :: r) : decode c pc = .ok (.isub, 1) := by
  have h1 := dk_u1 h
  refine dk_dec (q := pc + 1) ?_ (by omega)
  unfold Jvm.ClassFile.Decoder.instr
  refine (dk_bind h1.1).trans ?_
  exact rfl
set_option maxRecDepth 20000 in
theorem dk_101 {c : ByteArray} {pc : Nat} {r : List Nat} (h : (dk_l c).drop pc = 101 :: r) : decode c pc = .ok (.lsub, 1) := by
  have h1 := dk_u1 h
  refine dk_dec (q := pc + 1) ?_ (by omega)
  unfold Jvm.ClassFile.Decoder.instr
  refine (dk_bind h1.1).trans ?_
  exact rfl
set_option maxRecDepth 20000 in
theorem dk_104 {c : ByteArray} {pc : Nat} {r : List Nat} (h : (dk_l c).drop pc = 104 :: r) : decode c pc = .ok (.imul, 1) := by
  have h1 := dk_u1 h
  refine dk_dec (q := pc + 1) ?_ (by omega)
  unfold Jvm.ClassFile.Decoder.instr
  refine (dk_bind h1.1).trans ?_
  exact rfl
set_option maxRecDepth 20000 in
theorem dk_105 {c : ByteArray} {pc : Nat} {r : List Nat} (h : (dk_l c).drop pc = 105 :: r) : decode c pc = .ok (.lmul, 1) := by
  have h1 := dk_u1 h
  refine dk_dec (q := pc + 1) ?_ (by omega)
  unfold Jvm.ClassFile.Decoder.instr
  refine (dk_bind h1.1).trans ?_
  exact rfl
set_option maxRecDepth 20000 in
theorem dk_109 {c : ByteArray} {pc : Nat} {r : List Nat} (h : (dk_l c).drop pc = 109 :: r) : decode c pc = .ok (.ldiv, 1) := by
  have h1 := dk_u1 h
  refine dk_dec (q := pc + 1) ?_ (by omega)
  unfold Jvm.ClassFile.Decoder.instr
  refine (dk_bind h1.1).trans ?_
  exact rfl
set_option maxRecDepth 20000 in
theorem dk_113 {c : ByteArray} {pc : Nat} {r : List Nat} (h : (dk_l c).drop pc = 113 :: r) : decode c pc = .ok (.lrem, 1) := by
  have h1 := dk_u1 h
  refine dk_dec (q := pc + 1) ?_ (by omega)
  unfold Jvm.ClassFile.Decoder.instr
  refine (dk_bind h1.1).trans ?_
  exact rfl
set_option maxRecDepth 20000 in
theorem dk_117 {c : ByteArray} {pc : Nat} {r : List Nat} (h : (dk_l c).drop pc = 117 :: r) : decode c pc = .ok (.lneg, 1) := by
  have h1 := dk_u1 h
  refine dk_dec (q := pc + 1) ?_ (by omega)
  unfold Jvm.ClassFile.Decoder.instr
  refine (dk_bind h1.1).trans ?_
  exact rfl
set_option maxRecDepth 20000 in
theorem dk_120 {c : ByteArray} {pc : Nat} {r : List Nat} (h : (dk_l c).drop pc = 120 :: r) : decode c pc = .ok (.ishl, 1) := by
  have h1 := dk_u1 h
  refine dk_dec (q := pc + 1) ?_ (by omega)
  unfold Jvm.ClassFile.Decoder.instr
  refine (dk_bind h1.1).trans ?_
  exact rfl
set_option maxRecDepth 20000 in
theorem dk_121 {c : ByteArray} {pc : Nat} {r : List Nat} (h : (dk_l c).drop pc = 121 :: r) : decode c pc = .ok (.lshl, 1) := by
  have h1 := dk_u1 h
  refine dk_dec (q := pc + 1) ?_ (by omega)
  unfold Jvm.ClassFile.Decoder.instr
  refine (dk_bind h1.1).trans ?_
  exact rfl
set_option maxRecDepth 20000 in
theorem dk_122 {c : ByteArray} {pc : Nat} {r : List Nat} (h : (dk_l c).drop pc = 122 :: r) : decode c pc = .ok (.ishr, 1) := by
  have h1 := dk_u1 h
  refine dk_dec (q := pc + 1) ?_ (by omega)
  unfold Jvm.ClassFile.Decoder.instr
  refine (dk_bind h1.1).trans ?_
  exact rfl
set_option maxRecDepth 20000 in
theorem dk_126 {c : ByteArray} {pc : Nat} {r : List Nat} (h : (dk_l c).drop pc = 126 :: r) : decode c pc = .ok (.iand, 1) := by
  have h1 := dk_u1 h
  refine dk_dec (q := pc + 1) ?_ (by omega)
  unfold Jvm.ClassFile.Decoder.instr
  refine (dk_bind h1.1).trans ?_
  exact rfl
set_option maxRecDepth 20000 in
theorem dk_127 {c : ByteArray} {pc : Nat} {r : List Nat} (h : (dk_l c).drop pc = 127 :: r) : decode c pc = .ok (.land, 1) := by
  have h1 := dk_u1 h
  refine dk_dec (q := pc + 1) ?_ (by omega)
  unfold Jvm.ClassFile.Decoder.instr
  refine (dk_bind h1.1).trans ?_
  exact rfl
set_option maxRecDepth 20000 in
theorem dk_129 {c : ByteArray} {pc : Nat} {r : List Nat} (h : (dk_l c).drop pc = 129 :: r) : decode c pc = .ok (.lor, 1) := by
  have h1 := dk_u1 h
  refine dk_dec (q := pc + 1) ?_ (by omega)
  unfold Jvm.ClassFile.Decoder.instr
  refine (dk_bind h1.1).trans ?_
  exact rfl
set_option maxRecDepth 20000 in
theorem dk_132 {c : ByteArray} {pc a b : Nat} {r : List Nat} {v0 : Nat} {v1 : Int} (h : (dk_l c).drop pc = 132 :: a :: b :: r) (e0 : a = v0) (e1 : Jvm.ClassFile.Reader.signed 8 b = v1) : decode c pc = .ok ((.iinc v0 v1), 3) := by
  subst e0 e1
  have h1 := dk_u1 h
  have g0 := (dk_u1 h1.2).1
  have g1 := dk_s1 (dk_u1 h1.2).2
  refine dk_dec (q := pc + 1 + 1 + 1) ?_ (by omega)
  unfold Jvm.ClassFile.Decoder.instr
  refine (dk_bind h1.1).trans ?_
  exact (dk_bind g0).trans ((dk_bind g1).trans rfl)
set_option maxRecDepth 20000 in
theorem dk_133 {c : ByteArray} {pc : Nat} {r : List Nat} (h : (dk_l c).drop pc = 133 :: r) : decode c pc = .ok (.i2l, 1) := by
  have h1 := dk_u1 h
  refine dk_dec (q := pc + 1) ?_ (by omega)
  unfold Jvm.ClassFile.Decoder.instr
  refine (dk_bind h1.1).trans ?_
  exact rfl
set_option maxRecDepth 20000 in
theorem dk_136 {c : ByteArray} {pc : Nat} {r : List Nat} (h : (dk_l c).drop pc = 136 :: r) : decode c pc = .ok (.l2i, 1) := by
  have h1 := dk_u1 h
  refine dk_dec (q := pc + 1) ?_ (by omega)
  unfold Jvm.ClassFile.Decoder.instr
  refine (dk_bind h1.1).trans ?_
  exact rfl
set_option maxRecDepth 20000 in
theorem dk_145 {c : ByteArray} {pc : Nat} {r : List Nat} (h : (dk_l c).drop pc = 145 :: r) : decode c pc = .ok (.i2b, 1) := by
  have h1 := dk_u1 h
  refine dk_dec (q := pc + 1) ?_ (by omega)
  unfold Jvm.ClassFile.Decoder.instr
  refine (dk_bind h1.1).trans ?_
  exact rfl
set_option maxRecDepth 20000 in
theorem dk_146 {c : ByteArray} {pc : Nat} {r : List Nat} (h : (dk_l c).drop pc = 146 :: r) : decode c pc = .ok (.i2c, 1) := by
  have h1 := dk_u1 h
  refine dk_dec (q := pc + 1) ?_ (by omega)
  unfold Jvm.ClassFile.Decoder.instr
  refine (dk_bind h1.1).trans ?_
  exact rfl
set_option maxRecDepth 20000 in
theorem dk_147 {c : ByteArray} {pc : Nat} {r : List Nat} (h : (dk_l c).drop pc = 147 :: r) : decode c pc = .ok (.i2s, 1) := by
  have h1 := dk_u1 h
  refine dk_dec (q := pc + 1) ?_ (by omega)
  unfold Jvm.ClassFile.Decoder.instr
  refine (dk_bind h1.1).trans ?_
  exact rfl
set_option maxRecDepth 20000 in
theorem dk_148 {c : ByteArray} {pc : Nat} {r : List Nat} (h : (dk_l c).drop pc = 148 :: r) : decode c pc = .ok (.lcmp, 1) := by
  have h1 := dk_u1 h
  refine dk_dec (q := pc + 1) ?_ (by omega)
  unfold Jvm.ClassFile.Decoder.instr
  refine (dk_bind h1.1).trans ?_
  exact rfl
set_option maxRecDepth 20000 in
theorem dk_153 {c : ByteArray} {pc a b : Nat} {r : List Nat} {v0 : Int} (h : (dk_l c).drop pc = 153 :: a :: b :: r) (e0 : Jvm.ClassFile.Reader.signed 16 (a * 256 + b) = v0) : decode c pc = .ok ((.ifCond .eq v0), 3) := by
  subst e0
  have h1 := dk_u1 h
  have g0 := dk_s2 h1.2
  refine dk_dec (q := pc + 1 + 1 + 1) ?_ (by omega)
  unfold Jvm.ClassFile.Decoder.instr
  refine (dk_bind h1.1).trans ?_
  exact (dk_bind g0).trans rfl
set_option maxRecDepth 20000 in
theorem dk_154 {c : ByteArray} {pc a b : Nat} {r : List Nat} {v0 : Int} (h : (dk_l c).drop pc = 154 :: a :: b :: r) (e0 : Jvm.ClassFile.Reader.signed 16 (a * 256 + b) = v0) : decode c pc = .ok ((.ifCond .ne v0), 3) := by
  subst e0
  have h1 := dk_u1 h
  have g0 := dk_s2 h1.2
  refine dk_dec (q := pc + 1 + 1 + 1) ?_ (by omega)
  unfold Jvm.ClassFile.Decoder.instr
  refine (dk_bind h1.1).trans ?_
  exact (dk_bind g0).trans rfl
set_option maxRecDepth 20000 in
theorem dk_155 {c : ByteArray} {pc a b : Nat} {r : List Nat} {v0 : Int} (h : (dk_l c).drop pc = 155 :: a :: b :: r) (e0 : Jvm.ClassFile.Reader.signed 16 (a * 256 + b) = v0) : decode c pc = .ok ((.ifCond .lt v0), 3) := by
  subst e0
  have h1 := dk_u1 h
  have g0 := dk_s2 h1.2
  refine dk_dec (q := pc + 1 + 1 + 1) ?_ (by omega)
  unfold Jvm.ClassFile.Decoder.instr
  refine (dk_bind h1.1).trans ?_
  exact (dk_bind g0).trans rfl
set_option maxRecDepth 20000 in
theorem dk_156 {c : ByteArray} {pc a b : Nat} {r : List Nat} {v0 : Int} (h : (dk_l c).drop pc = 156 :: a :: b :: r) (e0 : Jvm.ClassFile.Reader.signed 16 (a * 256 + b) = v0) : decode c pc = .ok ((.ifCond .ge v0), 3) := by
  subst e0
  have h1 := dk_u1 h
  have g0 := dk_s2 h1.2
  refine dk_dec (q := pc + 1 + 1 + 1) ?_ (by omega)
  unfold Jvm.ClassFile.Decoder.instr
  refine (dk_bind h1.1).trans ?_
  exact (dk_bind g0).trans rfl
set_option maxRecDepth 20000 in
theorem dk_157 {c : ByteArray} {pc a b : Nat} {r : List Nat} {v0 : Int} (h : (dk_l c).drop pc = 157 :: a :: b :: r) (e0 : Jvm.ClassFile.Reader.signed 16 (a * 256 + b) = v0) : decode c pc = .ok ((.ifCond .gt v0), 3) := by
  subst e0
  have h1 := dk_u1 h
  have g0 := dk_s2 h1.2
  refine dk_dec (q := pc + 1 + 1 + 1) ?_ (by omega)
  unfold Jvm.ClassFile.Decoder.instr
  refine (dk_bind h1.1).trans ?_
  exact (dk_bind g0).trans rfl
set_option maxRecDepth 20000 in
theorem dk_158 {c : ByteArray} {pc a b : Nat} {r : List Nat} {v0 : Int} (h : (dk_l c).drop pc = 158 :: a :: b :: r) (e0 : Jvm.ClassFile.Reader.signed 16 (a * 256 + b) = v0) : decode c pc = .ok ((.ifCond .le v0), 3) := by
  subst e0
  have h1 := dk_u1 h
  have g0 := dk_s2 h1.2
  refine dk_dec (q := pc + 1 + 1 + 1) ?_ (by omega)
  unfold Jvm.ClassFile.Decoder.instr
  refine (dk_bind h1.1).trans ?_
  exact (dk_bind g0).trans rfl
set_option maxRecDepth 20000 in
theorem dk_159 {c : ByteArray} {pc a b : Nat} {r : List Nat} {v0 : Int} (h : (dk_l c).drop pc = 159 :: a :: b :: r) (e0 : Jvm.ClassFile.Reader.signed 16 (a * 256 + b) = v0) : decode c pc = .ok ((.if_icmp .eq v0), 3) := by
  subst e0
  have h1 := dk_u1 h
  have g0 := dk_s2 h1.2
  refine dk_dec (q := pc + 1 + 1 + 1) ?_ (by omega)
  unfold Jvm.ClassFile.Decoder.instr
  refine (dk_bind h1.1).trans ?_
  exact (dk_bind g0).trans rfl
set_option maxRecDepth 20000 in
theorem dk_160 {c : ByteArray} {pc a b : Nat} {r : List Nat} {v0 : Int} (h : (dk_l c).drop pc = 160 :: a :: b :: r) (e0 : Jvm.ClassFile.Reader.signed 16 (a * 256 + b) = v0) : decode c pc = .ok ((.if_icmp .ne v0), 3) := by
  subst e0
  have h1 := dk_u1 h
  have g0 := dk_s2 h1.2
  refine dk_dec (q := pc + 1 + 1 + 1) ?_ (by omega)
  unfold Jvm.ClassFile.Decoder.instr
  refine (dk_bind h1.1).trans ?_
  exact (dk_bind g0).trans rfl
set_option maxRecDepth 20000 in
theorem dk_161 {c : ByteArray} {pc a b : Nat} {r : List Nat} {v0 : Int} (h : (dk_l c).drop pc = 161 :: a :: b :: r) (e0 : Jvm.ClassFile.Reader.signed 16 (a * 256 + b) = v0) : decode c pc = .ok ((.if_icmp .lt v0), 3) := by
  subst e0
  have h1 := dk_u1 h
  have g0 := dk_s2 h1.2
  refine dk_dec (q := pc + 1 + 1 + 1) ?_ (by omega)
  unfold Jvm.ClassFile.Decoder.instr
  refine (dk_bind h1.1).trans ?_
  exact (dk_bind g0).trans rfl
set_option maxRecDepth 20000 in
theorem dk_162 {c : ByteArray} {pc a b : Nat} {r : List Nat} {v0 : Int} (h : (dk_l c).drop pc = 162 :: a :: b :: r) (e0 : Jvm.ClassFile.Reader.signed 16 (a * 256 + b) = v0) : decode c pc = .ok ((.if_icmp .ge v0), 3) := by
  subst e0
  have h1 := dk_u1 h
  have g0 := dk_s2 h1.2
  refine dk_dec (q := pc + 1 + 1 + 1) ?_ (by omega)
  unfold Jvm.ClassFile.Decoder.instr
  refine (dk_bind h1.1).trans ?_
  exact (dk_bind g0).trans rfl
set_option maxRecDepth 20000 in
theorem dk_163 {c : ByteArray} {pc a b : Nat} {r : List Nat} {v0 : Int} (h : (dk_l c).drop pc = 163 :: a :: b :: r) (e0 : Jvm.ClassFile.Reader.signed 16 (a * 256 + b) = v0) : decode c pc = .ok ((.if_icmp .gt v0), 3) := by
  subst e0
  have h1 := dk_u1 h
  have g0 := dk_s2 h1.2
  refine dk_dec (q := pc + 1 + 1 + 1) ?_ (by omega)
  unfold Jvm.ClassFile.Decoder.instr
  refine (dk_bind h1.1).trans ?_
  exact (dk_bind g0).trans rfl
set_option maxRecDepth 20000 in
theorem dk_164 {c : ByteArray} {pc a b : Nat} {r : List Nat} {v0 : Int} (h : (dk_l c).drop pc = 164 :: a :: b :: r) (e0 : Jvm.ClassFile.Reader.signed 16 (a * 256 + b) = v0) : decode c pc = .ok ((.if_icmp .le v0), 3) := by
  subst e0
  have h1 := dk_u1 h
  have g0 := dk_s2 h1.2
  refine dk_dec (q := pc + 1 + 1 + 1) ?_ (by omega)
  unfold Jvm.ClassFile.Decoder.instr
  refine (dk_bind h1.1).trans ?_
  exact (dk_bind g0).trans rfl
set_option maxRecDepth 20000 in
theorem dk_167 {c : ByteArray} {pc a b : Nat} {r : List Nat} {v0 : Int} (h : (dk_l c).drop pc = 167 :: a :: b :: r) (e0 : Jvm.ClassFile.Reader.signed 16 (a * 256 + b) = v0) : decode c pc = .ok ((.goto v0), 3) := by
  subst e0
  have h1 := dk_u1 h
  have g0 := dk_s2 h1.2
  refine dk_dec (q := pc + 1 + 1 + 1) ?_ (by omega)
  unfold Jvm.ClassFile.Decoder.instr
  refine (dk_bind h1.1).trans ?_
  exact (dk_bind g0).trans rfl
set_option maxRecDepth 20000 in
theorem dk_172 {c : ByteArray} {pc : Nat} {r : List Nat} (h : (dk_l c).drop pc = 172 :: r) : decode c pc = .ok (.ireturn, 1) := by
  have h1 := dk_u1 h
  refine dk_dec (q := pc + 1) ?_ (by omega)
  unfold Jvm.ClassFile.Decoder.instr
  refine (dk_bind h1.1).trans ?_
  exact rfl
set_option maxRecDepth 20000 in
theorem dk_173 {c : ByteArray} {pc : Nat} {r : List Nat} (h : (dk_l c).drop pc = 173 :: r) : decode c pc = .ok (.lreturn, 1) := by
  have h1 := dk_u1 h
  refine dk_dec (q := pc + 1) ?_ (by omega)
  unfold Jvm.ClassFile.Decoder.instr
  refine (dk_bind h1.1).trans ?_
  exact rfl
set_option maxRecDepth 20000 in
theorem dk_176 {c : ByteArray} {pc : Nat} {r : List Nat} (h : (dk_l c).drop pc = 176 :: r) : decode c pc = .ok (.areturn, 1) := by
  have h1 := dk_u1 h
  refine dk_dec (q := pc + 1) ?_ (by omega)
  unfold Jvm.ClassFile.Decoder.instr
  refine (dk_bind h1.1).trans ?_
  exact rfl
set_option maxRecDepth 20000 in
theorem dk_177 {c : ByteArray} {pc : Nat} {r : List Nat} (h : (dk_l c).drop pc = 177 :: r) : decode c pc = .ok (.return_, 1) := by
  have h1 := dk_u1 h
  refine dk_dec (q := pc + 1) ?_ (by omega)
  unfold Jvm.ClassFile.Decoder.instr
  refine (dk_bind h1.1).trans ?_
  exact rfl
set_option maxRecDepth 20000 in
theorem dk_178 {c : ByteArray} {pc a b : Nat} {r : List Nat} {v0 : Nat} (h : (dk_l c).drop pc = 178 :: a :: b :: r) (e0 : a * 256 + b = v0) : decode c pc = .ok ((.getstatic v0), 3) := by
  subst e0
  have h1 := dk_u1 h
  have g0 := dk_u2 h1.2
  refine dk_dec (q := pc + 1 + 1 + 1) ?_ (by omega)
  unfold Jvm.ClassFile.Decoder.instr
  refine (dk_bind h1.1).trans ?_
  exact (dk_bind g0).trans rfl
set_option maxRecDepth 20000 in
theorem dk_180 {c : ByteArray} {pc a b : Nat} {r : List Nat} {v0 : Nat} (h : (dk_l c).drop pc = 180 :: a :: b :: r) (e0 : a * 256 + b = v0) : decode c pc = .ok ((.getfield v0), 3) := by
  subst e0
  have h1 := dk_u1 h
  have g0 := dk_u2 h1.2
  refine dk_dec (q := pc + 1 + 1 + 1) ?_ (by omega)
  unfold Jvm.ClassFile.Decoder.instr
  refine (dk_bind h1.1).trans ?_
  exact (dk_bind g0).trans rfl
set_option maxRecDepth 20000 in
theorem dk_181 {c : ByteArray} {pc a b : Nat} {r : List Nat} {v0 : Nat} (h : (dk_l c).drop pc = 181 :: a :: b :: r) (e0 : a * 256 + b = v0) : decode c pc = .ok ((.putfield v0), 3) := by
  subst e0
  have h1 := dk_u1 h
  have g0 := dk_u2 h1.2
  refine dk_dec (q := pc + 1 + 1 + 1) ?_ (by omega)
  unfold Jvm.ClassFile.Decoder.instr
  refine (dk_bind h1.1).trans ?_
  exact (dk_bind g0).trans rfl
set_option maxRecDepth 20000 in
theorem dk_182 {c : ByteArray} {pc a b : Nat} {r : List Nat} {v0 : Nat} (h : (dk_l c).drop pc = 182 :: a :: b :: r) (e0 : a * 256 + b = v0) : decode c pc = .ok ((.invokevirtual v0), 3) := by
  subst e0
  have h1 := dk_u1 h
  have g0 := dk_u2 h1.2
  refine dk_dec (q := pc + 1 + 1 + 1) ?_ (by omega)
  unfold Jvm.ClassFile.Decoder.instr
  refine (dk_bind h1.1).trans ?_
  exact (dk_bind g0).trans rfl
set_option maxRecDepth 20000 in
theorem dk_183 {c : ByteArray} {pc a b : Nat} {r : List Nat} {v0 : Nat} (h : (dk_l c).drop pc = 183 :: a :: b :: r) (e0 : a * 256 + b = v0) : decode c pc = .ok ((.invokespecial v0), 3) := by
  subst e0
  have h1 := dk_u1 h
  have g0 := dk_u2 h1.2
  refine dk_dec (q := pc + 1 + 1 + 1) ?_ (by omega)
  unfold Jvm.ClassFile.Decoder.instr
  refine (dk_bind h1.1).trans ?_
  exact (dk_bind g0).trans rfl
set_option maxRecDepth 20000 in
theorem dk_184 {c : ByteArray} {pc a b : Nat} {r : List Nat} {v0 : Nat} (h : (dk_l c).drop pc = 184 :: a :: b :: r) (e0 : a * 256 + b = v0) : decode c pc = .ok ((.invokestatic v0), 3) := by
  subst e0
  have h1 := dk_u1 h
  have g0 := dk_u2 h1.2
  refine dk_dec (q := pc + 1 + 1 + 1) ?_ (by omega)
  unfold Jvm.ClassFile.Decoder.instr
  refine (dk_bind h1.1).trans ?_
  exact (dk_bind g0).trans rfl
set_option maxRecDepth 20000 in
theorem dk_187 {c : ByteArray} {pc a b : Nat} {r : List Nat} {v0 : Nat} (h : (dk_l c).drop pc = 187 :: a :: b :: r) (e0 : a * 256 + b = v0) : decode c pc = .ok ((.new v0), 3) := by
  subst e0
  have h1 := dk_u1 h
  have g0 := dk_u2 h1.2
  refine dk_dec (q := pc + 1 + 1 + 1) ?_ (by omega)
  unfold Jvm.ClassFile.Decoder.instr
  refine (dk_bind h1.1).trans ?_
  exact (dk_bind g0).trans rfl
set_option maxRecDepth 20000 in
theorem dk_189 {c : ByteArray} {pc a b : Nat} {r : List Nat} {v0 : Nat} (h : (dk_l c).drop pc = 189 :: a :: b :: r) (e0 : a * 256 + b = v0) : decode c pc = .ok ((.anewarray v0), 3) := by
  subst e0
  have h1 := dk_u1 h
  have g0 := dk_u2 h1.2
  refine dk_dec (q := pc + 1 + 1 + 1) ?_ (by omega)
  unfold Jvm.ClassFile.Decoder.instr
  refine (dk_bind h1.1).trans ?_
  exact (dk_bind g0).trans rfl
set_option maxRecDepth 20000 in
theorem dk_190 {c : ByteArray} {pc : Nat} {r : List Nat} (h : (dk_l c).drop pc = 190 :: r) : decode c pc = .ok (.arraylength, 1) := by
  have h1 := dk_u1 h
  refine dk_dec (q := pc + 1) ?_ (by omega)
  unfold Jvm.ClassFile.Decoder.instr
  refine (dk_bind h1.1).trans ?_
  exact rfl
set_option maxRecDepth 20000 in
theorem dk_199 {c : ByteArray} {pc a b : Nat} {r : List Nat} {v0 : Int} (h : (dk_l c).drop pc = 199 :: a :: b :: r) (e0 : Jvm.ClassFile.Reader.signed 16 (a * 256 + b) = v0) : decode c pc = .ok ((.ifnonnull v0), 3) := by
  subst e0
  have h1 := dk_u1 h
  have g0 := dk_s2 h1.2
  refine dk_dec (q := pc + 1 + 1 + 1) ?_ (by omega)
  unfold Jvm.ClassFile.Decoder.instr
  refine (dk_bind h1.1).trans ?_
  exact (dk_bind g0).trans rfl
set_option maxRecDepth 20000 in
theorem dk_188_4 {c : ByteArray} {pc : Nat} {r : List Nat} (h : (dk_l c).drop pc = 188 :: 4 :: r) : decode c pc = .ok (.newarray .boolean, 2) := by
  have h1 := dk_u1 h
  have h2 := dk_u1 h1.2
  refine dk_dec (q := pc + 1 + 1) ?_ (by omega)
  unfold Jvm.ClassFile.Decoder.instr
  refine (dk_bind h1.1).trans ?_
  show Jvm.ClassFile.Decoder.newarray pc c (pc + 1) = _
  unfold Jvm.ClassFile.Decoder.newarray
  exact (dk_bind h2.1).trans rfl
set_option maxRecDepth 20000 in
theorem dk_188_8 {c : ByteArray} {pc : Nat} {r : List Nat} (h : (dk_l c).drop pc = 188 :: 8 :: r) : decode c pc = .ok (.newarray .byte, 2) := by
  have h1 := dk_u1 h
  have h2 := dk_u1 h1.2
  refine dk_dec (q := pc + 1 + 1) ?_ (by omega)
  unfold Jvm.ClassFile.Decoder.instr
  refine (dk_bind h1.1).trans ?_
  show Jvm.ClassFile.Decoder.newarray pc c (pc + 1) = _
  unfold Jvm.ClassFile.Decoder.newarray
  exact (dk_bind h2.1).trans rfl
set_option maxRecDepth 20000 in
theorem dk_188_10 {c : ByteArray} {pc : Nat} {r : List Nat} (h : (dk_l c).drop pc = 188 :: 10 :: r) : decode c pc = .ok (.newarray .int, 2) := by
  have h1 := dk_u1 h
  have h2 := dk_u1 h1.2
  refine dk_dec (q := pc + 1 + 1) ?_ (by omega)
  unfold Jvm.ClassFile.Decoder.instr
  refine (dk_bind h1.1).trans ?_
  show Jvm.ClassFile.Decoder.newarray pc c (pc + 1) = _
  unfold Jvm.ClassFile.Decoder.newarray
  exact (dk_bind h2.1).trans rfl
set_option maxRecDepth 20000 in
theorem dk_188_11 {c : ByteArray} {pc : Nat} {r : List Nat} (h : (dk_l c).drop pc = 188 :: 11 :: r) : decode c pc = .ok (.newarray .long, 2) := by
  have h1 := dk_u1 h
  have h2 := dk_u1 h1.2
  refine dk_dec (q := pc + 1 + 1) ?_ (by omega)
  unfold Jvm.ClassFile.Decoder.instr
  refine (dk_bind h1.1).trans ?_
  show Jvm.ClassFile.Decoder.newarray pc c (pc + 1) = _
  unfold Jvm.ClassFile.Decoder.newarray
  exact (dk_bind h2.1).trans rfl
