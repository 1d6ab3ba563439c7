abbrev Rd (c : ByteArray) (p : Nat) (l : List Nat) : Prop := (c.data.toList.map UInt8.toNat).drop p = l
theorem rd_at {c : ByteArray} {p : Nat} {l : List Nat} (i : Nat) (h : Rd c p l) : Rd c (p + i) (l.drop i) := by
  have e : (c.data.toList.map UInt8.toNat).drop (p + i) = ((c.data.toList.map UInt8.toNat).drop p).drop i := by
    first | exact List.drop_drop.symm | rw [List.drop_drop] | rw [List.drop_drop, Nat.add_comm]
  exact e.trans (congrArg (List.drop i) h)
theorem rd_1 {c : ByteArray} {p b : Nat} {r : List Nat} (h : Rd c p (b :: r)) : Rd c (p + 1) r := rd_at 1 h
theorem rd_u1 {c : ByteArray} {p b : Nat} {r : List Nat} (h : Rd c p (b :: r)) : (Reader.u1 : Decoder Nat) c p = .ok (b, p + 1) := by
  have h0 : ((c.data.toList.map UInt8.toNat).drop p)[0]? = some b := by rw [h]; rfl
  have h1 : (c.data.toList.map UInt8.toNat)[p]? = some b := by
    rw [List.getElem?_drop] at h0
    exact h0
  rw [List.getElem?_map] at h1
  obtain ⟨x, hx, hxb⟩ := Option.map_eq_some_iff.mp h1
  obtain ⟨hl, hg⟩ := List.getElem?_eq_some_iff.mp hx
  have hs : p < c.size := hl
  have e : (Reader.u1 : Decoder Nat) c p = (dite (p < c.size) (fun h => (do set (p + 1); pure (c[p]'h).toNat : Decoder Nat)) (fun _ => throw (HasTruncated.truncated p))) c p := rfl
  rw [e, dif_pos hs]
  have hv : (c[p]'hs).toNat = b := by
    have : (c[p]'hs) = x := hg
    rw [this]; exact hxb
  show Except.ok ((c[p]'hs).toNat, p + 1) = Except.ok (b, p + 1)
  rw [hv]
theorem rd_s1 {c : ByteArray} {p b : Nat} {r : List Nat} (h : Rd c p (b :: r)) : (Reader.s1 : Decoder Int) c p = .ok (Reader.signed 8 b, p + 1) := by
  have e : (Reader.s1 : Decoder Int) c p = Except.bind ((Reader.u1 : Decoder Nat) c p) (fun x => .ok (Reader.signed 8 x.1, x.2)) := rfl
  rw [e, rd_u1 h]; rfl
theorem rd_u2 {c : ByteArray} {p a b : Nat} {r : List Nat} (h : Rd c p (a :: b :: r)) : (Reader.u2 : Decoder Nat) c p = .ok (a * 256 + b, p + 2) := by
  have e : (Reader.u2 : Decoder Nat) c p = Except.bind ((Reader.u1 : Decoder Nat) c p) (fun x => Except.bind ((Reader.u1 : Decoder Nat) c x.2) (fun y => .ok (x.1 * 256 + y.1, y.2))) := rfl
  rw [e, rd_u1 h]
  show Except.bind ((Reader.u1 : Decoder Nat) c (p + 1)) (fun y => .ok (a * 256 + y.1, y.2)) = _
  rw [rd_u1 (rd_1 h)]; rfl
theorem rd_s2 {c : ByteArray} {p a b : Nat} {r : List Nat} (h : Rd c p (a :: b :: r)) : (Reader.s2 : Decoder Int) c p = .ok (Reader.signed 16 (a * 256 + b), p + 2) := by
  have e : (Reader.s2 : Decoder Int) c p = Except.bind ((Reader.u2 : Decoder Nat) c p) (fun x => .ok (Reader.signed 16 x.1, x.2)) := rfl
  rw [e, rd_u2 h]; rfl
def opKS (pc : Nat) : { K : Nat → Decoder Instr // Decoder.instr pc = (Reader.u1 >>= K) } := ⟨_, rfl⟩
theorem op_at {c : ByteArray} {pc o n : Nat} {r : List Nat} {i : Instr} (h : Rd c pc (o :: r)) (hk : (opKS pc).1 o c (pc + 1) = .ok (i, pc + n)) : decode c pc = .ok (i, n) := by
  have e : Decoder.instr pc c pc = .ok (i, pc + n) := by
    have e0 : Decoder.instr pc c pc = (Reader.u1 >>= (opKS pc).1 : Decoder Instr) c pc := congrFun (congrFun (opKS pc).2 c) pc
    have e1 : (Reader.u1 >>= (opKS pc).1 : Decoder Instr) c pc = Except.bind ((Reader.u1 : Decoder Nat) c pc) (fun x => (opKS pc).1 x.1 c x.2) := rfl
    rw [e0, e1, rd_u1 h]; exact hk
  have e2 : decode c pc = Except.bind (Decoder.instr pc c pc) (fun x => .ok (x.1, x.2 - pc)) := rfl
  rw [e2, e]
  show Except.ok (i, pc + n - pc) = Except.ok (i, n)
  rw [Nat.add_sub_cancel_left]
theorem op_u1 {c : ByteArray} {pc o a : Nat} {r : List Nat} {f : Nat → Instr} (h : Rd c pc (o :: a :: r)) (hk : (opKS pc).1 o = (Reader.u1 >>= fun x => pure (f x))) : decode c pc = .ok (f a, 2) := by
  refine op_at h ?_
  rw [hk]
  have e : (Reader.u1 >>= fun x => pure (f x) : Decoder Instr) c (pc + 1) = Except.bind ((Reader.u1 : Decoder Nat) c (pc + 1)) (fun x => .ok (f x.1, x.2)) := rfl
  rw [e, rd_u1 (rd_1 h)]; rfl
theorem op_s1 {c : ByteArray} {pc o a : Nat} {r : List Nat} {f : Int → Instr} (h : Rd c pc (o :: a :: r)) (hk : (opKS pc).1 o = (Reader.s1 >>= fun x => pure (f x))) : decode c pc = .ok (f (Reader.signed 8 a), 2) := by
  refine op_at h ?_
  rw [hk]
  have e : (Reader.s1 >>= fun x => pure (f x) : Decoder Instr) c (pc + 1) = Except.bind ((Reader.s1 : Decoder Int) c (pc + 1)) (fun x => .ok (f x.1, x.2)) := rfl
  rw [e, rd_s1 (rd_1 h)]; rfl
theorem op_u2 {c : ByteArray} {pc o a b : Nat} {r : List Nat} {f : Nat → Instr} (h : Rd c pc (o :: a :: b :: r)) (hk : (opKS pc).1 o = (Reader.u2 >>= fun x => pure (f x))) : decode c pc = .ok (f (a * 256 + b), 3) := by
  refine op_at h ?_
  rw [hk]
  have e : (Reader.u2 >>= fun x => pure (f x) : Decoder Instr) c (pc + 1) = Except.bind ((Reader.u2 : Decoder Nat) c (pc + 1)) (fun x => .ok (f x.1, x.2)) := rfl
  rw [e, rd_u2 (rd_1 h)]; rfl
theorem op_s2 {c : ByteArray} {pc o a b : Nat} {r : List Nat} {f : Int → Instr} (h : Rd c pc (o :: a :: b :: r)) (hk : (opKS pc).1 o = (Reader.s2 >>= fun x => pure (f x))) : decode c pc = .ok (f (Reader.signed 16 (a * 256 + b)), 3) := by
  refine op_at h ?_
  rw [hk]
  have e : (Reader.s2 >>= fun x => pure (f x) : Decoder Instr) c (pc + 1) = Except.bind ((Reader.s2 : Decoder Int) c (pc + 1)) (fun x => .ok (f x.1, x.2)) := rfl
  rw [e, rd_s2 (rd_1 h)]; rfl
theorem op_u1_s1 {c : ByteArray} {pc o a b : Nat} {r : List Nat} {f : Nat → Int → Instr} (h : Rd c pc (o :: a :: b :: r)) (hk : (opKS pc).1 o = (Reader.u1 >>= fun x => Reader.s1 >>= fun y => pure (f x y))) : decode c pc = .ok (f a (Reader.signed 8 b), 3) := by
  refine op_at h ?_
  rw [hk]
  have e : (Reader.u1 >>= fun x => Reader.s1 >>= fun y => pure (f x y) : Decoder Instr) c (pc + 1) = Except.bind ((Reader.u1 : Decoder Nat) c (pc + 1)) (fun x => Except.bind ((Reader.s1 : Decoder Int) c x.2) (fun y => .ok (f x.1 y.1, y.2))) := rfl
  rw [e, rd_u1 (rd_1 h)]
  show Except.bind ((Reader.s1 : Decoder Int) c (pc + 1 + 1)) (fun y => .ok (f a y.1, y.2)) = _
  rw [rd_s1 (rd_1 (rd_1 h))]; rfl
theorem op_1 {c : ByteArray} {pc : Nat} {r : List Nat} (h : Rd c pc (1 :: r)) : decode c pc = .ok (.aconst_null, 1) := op_at h rfl
theorem op_2 {c : ByteArray} {pc : Nat} {r : List Nat} (h : Rd c pc (2 :: r)) : decode c pc = .ok ((.iconst (-1)), 1) := op_at h rfl
theorem op_3 {c : ByteArray} {pc : Nat} {r : List Nat} (h : Rd c pc (3 :: r)) : decode c pc = .ok ((.iconst 0), 1) := op_at h rfl
theorem op_4 {c : ByteArray} {pc : Nat} {r : List Nat} (h : Rd c pc (4 :: r)) : decode c pc = .ok ((.iconst 1), 1) := op_at h rfl
theorem op_5 {c : ByteArray} {pc : Nat} {r : List Nat} (h : Rd c pc (5 :: r)) : decode c pc = .ok ((.iconst 2), 1) := op_at h rfl
theorem op_6 {c : ByteArray} {pc : Nat} {r : List Nat} (h : Rd c pc (6 :: r)) : decode c pc = .ok ((.iconst 3), 1) := op_at h rfl
theorem op_7 {c : ByteArray} {pc : Nat} {r : List Nat} (h : Rd c pc (7 :: r)) : decode c pc = .ok ((.iconst 4), 1) := op_at h rfl
theorem op_8 {c : ByteArray} {pc : Nat} {r : List Nat} (h : Rd c pc (8 :: r)) : decode c pc = .ok ((.iconst 5), 1) := op_at h rfl
theorem op_9 {c : ByteArray} {pc : Nat} {r : List Nat} (h : Rd c pc (9 :: r)) : decode c pc = .ok ((.lconst 0), 1) := op_at h rfl
theorem op_10 {c : ByteArray} {pc : Nat} {r : List Nat} (h : Rd c pc (10 :: r)) : decode c pc = .ok ((.lconst 1), 1) := op_at h rfl
theorem op_16 {c : ByteArray} {pc a : Nat} {r : List Nat} (h : Rd c pc (16 :: a :: r)) {v : Int} (hv : Reader.signed 8 a = v) : decode c pc = .ok ((.bipush v), 2) := by subst hv; exact op_s1 (f := fun x => (.bipush x)) h rfl
theorem op_17 {c : ByteArray} {pc a b : Nat} {r : List Nat} (h : Rd c pc (17 :: a :: b :: r)) {v : Int} (hv : Reader.signed 16 (a * 256 + b) = v) : decode c pc = .ok ((.sipush v), 3) := by subst hv; exact op_s2 (f := fun x => (.sipush x)) h rfl
theorem op_18 {c : ByteArray} {pc a : Nat} {r : List Nat} (h : Rd c pc (18 :: a :: r)) : decode c pc = .ok ((.ldc a), 2) := op_u1 (f := fun x => (.ldc x)) h rfl
theorem op_19 {c : ByteArray} {pc a b v : Nat} {r : List Nat} (h : Rd c pc (19 :: a :: b :: r)) (hv : a * 256 + b = v) : decode c pc = .ok ((.ldc_w v), 3) := by subst hv; exact op_u2 (f := fun x => (.ldc_w x)) h rfl
theorem op_20 {c : ByteArray} {pc a b v : Nat} {r : List Nat} (h : Rd c pc (20 :: a :: b :: r)) (hv : a * 256 + b = v) : decode c pc = .ok ((.ldc2_w v), 3) := by subst hv; exact op_u2 (f := fun x => (.ldc2_w x)) h rfl
theorem op_21 {c : ByteArray} {pc a : Nat} {r : List Nat} (h : Rd c pc (21 :: a :: r)) : decode c pc = .ok ((.iload a), 2) := op_u1 (f := fun x => (.iload x)) h rfl
theorem op_22 {c : ByteArray} {pc a : Nat} {r : List Nat} (h : Rd c pc (22 :: a :: r)) : decode c pc = .ok ((.lload a), 2) := op_u1 (f := fun x => (.lload x)) h rfl
theorem op_26 {c : ByteArray} {pc : Nat} {r : List Nat} (h : Rd c pc (26 :: r)) : decode c pc = .ok ((.iload_n 0), 1) := op_at h rfl
theorem op_27 {c : ByteArray} {pc : Nat} {r : List Nat} (h : Rd c pc (27 :: r)) : decode c pc = .ok ((.iload_n 1), 1) := op_at h rfl
theorem op_28 {c : ByteArray} {pc : Nat} {r : List Nat} (h : Rd c pc (28 :: r)) : decode c pc = .ok ((.iload_n 2), 1) := op_at h rfl
theorem op_29 {c : ByteArray} {pc : Nat} {r : List Nat} (h : Rd c pc (29 :: r)) : decode c pc = .ok ((.iload_n 3), 1) := op_at h rfl
theorem op_30 {c : ByteArray} {pc : Nat} {r : List Nat} (h : Rd c pc (30 :: r)) : decode c pc = .ok ((.lload_n 0), 1) := op_at h rfl
theorem op_31 {c : ByteArray} {pc : Nat} {r : List Nat} (h : Rd c pc (31 :: r)) : decode c pc = .ok ((.lload_n 1), 1) := op_at h rfl
theorem op_32 {c : ByteArray} {pc : Nat} {r : List Nat} (h : Rd c pc (32 :: r)) : decode c pc = .ok ((.lload_n 2), 1) := op_at h rfl
theorem op_33 {c : ByteArray} {pc : Nat} {r : List Nat} (h : Rd c pc (33 :: r)) : decode c pc = .ok ((.lload_n 3), 1) := op_at h rfl
theorem op_42 {c : ByteArray} {pc : Nat} {r : List Nat} (h : Rd c pc (42 :: r)) : decode c pc = .ok ((.aload_n 0), 1) := op_at h rfl
theorem op_43 {c : ByteArray} {pc : Nat} {r : List Nat} (h : Rd c pc (43 :: r)) : decode c pc = .ok ((.aload_n 1), 1) := op_at h rfl
theorem op_44 {c : ByteArray} {pc : Nat} {r : List Nat} (h : Rd c pc (44 :: r)) : decode c pc = .ok ((.aload_n 2), 1) := op_at h rfl
theorem op_45 {c : ByteArray} {pc : Nat} {r : List Nat} (h : Rd c pc (45 :: r)) : decode c pc = .ok ((.aload_n 3), 1) := op_at h rfl
theorem op_46 {c : ByteArray} {pc : Nat} {r : List Nat} (h : Rd c pc (46 :: r)) : decode c pc = .ok (.iaload, 1) := op_at h rfl
theorem op_47 {c : ByteArray} {pc : Nat} {r : List Nat} (h : Rd c pc (47 :: r)) : decode c pc = .ok (.laload, 1) := op_at h rfl
theorem op_50 {c : ByteArray} {pc : Nat} {r : List Nat} (h : Rd c pc (50 :: r)) : decode c pc = .ok (.aaload, 1) := op_at h rfl
theorem op_51 {c : ByteArray} {pc : Nat} {r : List Nat} (h : Rd c pc (51 :: r)) : decode c pc = .ok (.baload, 1) := op_at h rfl
theorem op_54 {c : ByteArray} {pc a : Nat} {r : List Nat} (h : Rd c pc (54 :: a :: r)) : decode c pc = .ok ((.istore a), 2) := op_u1 (f := fun x => (.istore x)) h rfl
theorem op_55 {c : ByteArray} {pc a : Nat} {r : List Nat} (h : Rd c pc (55 :: a :: r)) : decode c pc = .ok ((.lstore a), 2) := op_u1 (f := fun x => (.lstore x)) h rfl
theorem op_59 {c : ByteArray} {pc : Nat} {r : List Nat} (h : Rd c pc (59 :: r)) : decode c pc = .ok ((.istore_n 0), 1) := op_at h rfl
theorem op_60 {c : ByteArray} {pc : Nat} {r : List Nat} (h : Rd c pc (60 :: r)) : decode c pc = .ok ((.istore_n 1), 1) := op_at h rfl
theorem op_61 {c : ByteArray} {pc : Nat} {r : List Nat} (h : Rd c pc (61 :: r)) : decode c pc = .ok ((.istore_n 2), 1) := op_at h rfl
theorem op_62 {c : ByteArray} {pc : Nat} {r : List Nat} (h : Rd c pc (62 :: r)) : decode c pc = .ok ((.istore_n 3), 1) := op_at h rfl
theorem op_64 {c : ByteArray} {pc : Nat} {r : List Nat} (h : Rd c pc (64 :: r)) : decode c pc = .ok ((.lstore_n 1), 1) := op_at h rfl
theorem op_65 {c : ByteArray} {pc : Nat} {r : List Nat} (h : Rd c pc (65 :: r)) : decode c pc = .ok ((.lstore_n 2), 1) := op_at h rfl
theorem op_66 {c : ByteArray} {pc : Nat} {r : List Nat} (h : Rd c pc (66 :: r)) : decode c pc = .ok ((.lstore_n 3), 1) := op_at h rfl
theorem op_76 {c : ByteArray} {pc : Nat} {r : List Nat} (h : Rd c pc (76 :: r)) : decode c pc = .ok ((.astore_n 1), 1) := op_at h rfl
theorem op_77 {c : ByteArray} {pc : Nat} {r : List Nat} (h : Rd c pc (77 :: r)) : decode c pc = .ok ((.astore_n 2), 1) := op_at h rfl
theorem op_79 {c : ByteArray} {pc : Nat} {r : List Nat} (h : Rd c pc (79 :: r)) : decode c pc = .ok (.iastore, 1) := op_at h rfl
theorem op_80 {c : ByteArray} {pc : Nat} {r : List Nat} (h : Rd c pc (80 :: r)) : decode c pc = .ok (.lastore, 1) := op_at h rfl
theorem op_83 {c : ByteArray} {pc : Nat} {r : List Nat} (h : Rd c pc (83 :: r)) : decode c pc = .ok (.aastore, 1) := op_at h rfl
theorem op_84 {c : ByteArray} {pc : Nat} {r : List Nat} (h : Rd c pc (84 :: r)) : decode c pc = .ok (.bastore, 1) := op_at h rfl
theorem op_87 {c : ByteArray} {pc : Nat} {r : List Nat} (h : Rd c pc (87 :: r)) : decode c pc = .ok (.pop, 1) := op_at h rfl
theorem op_88 {c : ByteArray} {pc : Nat} {r : List Nat} (h : Rd c pc (88 :: r)) : decode c pc = .ok (.pop2, 1) := op_at h rfl
theorem op_89 {c : ByteArray} {pc : Nat} {r : List Nat} (h : Rd c pc (89 :: r)) : decode c pc = .ok (.dup, 1) := op_at h rfl
theorem op_92 {c : ByteArray} {pc : Nat} {r : List Nat} (h : Rd c pc (92 :: r)) : decode c pc = .ok (.dup2, 1) := op_at h rfl
theorem op_96 {c : ByteArray} {pc : Nat} {r : List Nat} (h : Rd c pc (96 :: r)) : decode c pc = .ok (.iadd, 1) := op_at h rfl
theorem op_97 {c : ByteArray} {pc : Nat} {r : List Nat} (h : Rd c pc (97 :: r)) : decode c pc = .ok (.ladd, 1) := op_at h rfl
theorem op_100 {c : ByteArray} {pc : Nat} {r : List Nat} (h : Rd c pc (100 :: r)) : decode c pc = .ok (.isub, 1) := op_at h rfl
theorem op_101 {c : ByteArray} {pc : Nat} {r : List Nat} (h : Rd c pc (101 :: r)) : decode c pc = .ok (.lsub, 1) := op_at h rfl
theorem op_104 {c : ByteArray} {pc : Nat} {r : List Nat} (h : Rd c pc (104 :: r)) : decode c pc = .ok (.imul, 1) := op_at h rfl
theorem op_105 {c : ByteArray} {pc : Nat} {r : List Nat} (h : Rd c pc (105 :: r)) : decode c pc = .ok (.lmul, 1) := op_at h rfl
theorem op_108 {c : ByteArray} {pc : Nat} {r : List Nat} (h : Rd c pc (108 :: r)) : decode c pc = .ok (.idiv, 1) := op_at h rfl
theorem op_109 {c : ByteArray} {pc : Nat} {r : List Nat} (h : Rd c pc (109 :: r)) : decode c pc = .ok (.ldiv, 1) := op_at h rfl
theorem op_112 {c : ByteArray} {pc : Nat} {r : List Nat} (h : Rd c pc (112 :: r)) : decode c pc = .ok (.irem, 1) := op_at h rfl
theorem op_116 {c : ByteArray} {pc : Nat} {r : List Nat} (h : Rd c pc (116 :: r)) : decode c pc = .ok (.ineg, 1) := op_at h rfl
theorem op_117 {c : ByteArray} {pc : Nat} {r : List Nat} (h : Rd c pc (117 :: r)) : decode c pc = .ok (.lneg, 1) := op_at h rfl
theorem op_120 {c : ByteArray} {pc : Nat} {r : List Nat} (h : Rd c pc (120 :: r)) : decode c pc = .ok (.ishl, 1) := op_at h rfl
theorem op_122 {c : ByteArray} {pc : Nat} {r : List Nat} (h : Rd c pc (122 :: r)) : decode c pc = .ok (.ishr, 1) := op_at h rfl
theorem op_124 {c : ByteArray} {pc : Nat} {r : List Nat} (h : Rd c pc (124 :: r)) : decode c pc = .ok (.iushr, 1) := op_at h rfl
theorem op_126 {c : ByteArray} {pc : Nat} {r : List Nat} (h : Rd c pc (126 :: r)) : decode c pc = .ok (.iand, 1) := op_at h rfl
theorem op_128 {c : ByteArray} {pc : Nat} {r : List Nat} (h : Rd c pc (128 :: r)) : decode c pc = .ok (.ior, 1) := op_at h rfl
theorem op_130 {c : ByteArray} {pc : Nat} {r : List Nat} (h : Rd c pc (130 :: r)) : decode c pc = .ok (.ixor, 1) := op_at h rfl
theorem op_132 {c : ByteArray} {pc a b : Nat} {r : List Nat} (h : Rd c pc (132 :: a :: b :: r)) {v : Int} (hv : Reader.signed 8 b = v) : decode c pc = .ok ((.iinc a v), 3) := by subst hv; exact op_u1_s1 (f := fun x y => (.iinc x y)) h rfl
theorem op_133 {c : ByteArray} {pc : Nat} {r : List Nat} (h : Rd c pc (133 :: r)) : decode c pc = .ok (.i2l, 1) := op_at h rfl
theorem op_136 {c : ByteArray} {pc : Nat} {r : List Nat} (h : Rd c pc (136 :: r)) : decode c pc = .ok (.l2i, 1) := op_at h rfl
theorem op_145 {c : ByteArray} {pc : Nat} {r : List Nat} (h : Rd c pc (145 :: r)) : decode c pc = .ok (.i2b, 1) := op_at h rfl
theorem op_146 {c : ByteArray} {pc : Nat} {r : List Nat} (h : Rd c pc (146 :: r)) : decode c pc = .ok (.i2c, 1) := op_at h rfl
theorem op_148 {c : ByteArray} {pc : Nat} {r : List Nat} (h : Rd c pc (148 :: r)) : decode c pc = .ok (.lcmp, 1) := op_at h rfl
theorem op_153 {c : ByteArray} {pc a b : Nat} {r : List Nat} (h : Rd c pc (153 :: a :: b :: r)) {v : Int} (hv : Reader.signed 16 (a * 256 + b) = v) : decode c pc = .ok ((.ifCond .eq v), 3) := by subst hv; exact op_s2 (f := fun x => (.ifCond .eq x)) h rfl
theorem op_154 {c : ByteArray} {pc a b : Nat} {r : List Nat} (h : Rd c pc (154 :: a :: b :: r)) {v : Int} (hv : Reader.signed 16 (a * 256 + b) = v) : decode c pc = .ok ((.ifCond .ne v), 3) := by subst hv; exact op_s2 (f := fun x => (.ifCond .ne x)) h rfl
theorem op_155 {c : ByteArray} {pc a b : Nat} {r : List Nat} (h : Rd c pc (155 :: a :: b :: r)) {v : Int} (hv : Reader.signed 16 (a * 256 + b) = v) : decode c pc = .ok ((.ifCond .lt v), 3) := by subst hv; exact op_s2 (f := fun x => (.ifCond .lt x)) h rfl
theorem op_156 {c : ByteArray} {pc a b : Nat} {r : List Nat} (h : Rd c pc (156 :: a :: b :: r)) {v : Int} (hv : Reader.signed 16 (a * 256 + b) = v) : decode c pc = .ok ((.ifCond .ge v), 3) := by subst hv; exact op_s2 (f := fun x => (.ifCond .ge x)) h rfl
theorem op_157 {c : ByteArray} {pc a b : Nat} {r : List Nat} (h : Rd c pc (157 :: a :: b :: r)) {v : Int} (hv : Reader.signed 16 (a * 256 + b) = v) : decode c pc = .ok ((.ifCond .gt v), 3) := by subst hv; exact op_s2 (f := fun x => (.ifCond .gt x)) h rfl
theorem op_158 {c : ByteArray} {pc a b : Nat} {r : List Nat} (h : Rd c pc (158 :: a :: b :: r)) {v : Int} (hv : Reader.signed 16 (a * 256 + b) = v) : decode c pc = .ok ((.ifCond .le v), 3) := by subst hv; exact op_s2 (f := fun x => (.ifCond .le x)) h rfl
theorem op_159 {c : ByteArray} {pc a b : Nat} {r : List Nat} (h : Rd c pc (159 :: a :: b :: r)) {v : Int} (hv : Reader.signed 16 (a * 256 + b) = v) : decode c pc = .ok ((.if_icmp .eq v), 3) := by subst hv; exact op_s2 (f := fun x => (.if_icmp .eq x)) h rfl
theorem op_160 {c : ByteArray} {pc a b : Nat} {r : List Nat} (h : Rd c pc (160 :: a :: b :: r)) {v : Int} (hv : Reader.signed 16 (a * 256 + b) = v) : decode c pc = .ok ((.if_icmp .ne v), 3) := by subst hv; exact op_s2 (f := fun x => (.if_icmp .ne x)) h rfl
theorem op_161 {c : ByteArray} {pc a b : Nat} {r : List Nat} (h : Rd c pc (161 :: a :: b :: r)) {v : Int} (hv : Reader.signed 16 (a * 256 + b) = v) : decode c pc = .ok ((.if_icmp .lt v), 3) := by subst hv; exact op_s2 (f := fun x => (.if_icmp .lt x)) h rfl
theorem op_162 {c : ByteArray} {pc a b : Nat} {r : List Nat} (h : Rd c pc (162 :: a :: b :: r)) {v : Int} (hv : Reader.signed 16 (a * 256 + b) = v) : decode c pc = .ok ((.if_icmp .ge v), 3) := by subst hv; exact op_s2 (f := fun x => (.if_icmp .ge x)) h rfl
theorem op_163 {c : ByteArray} {pc a b : Nat} {r : List Nat} (h : Rd c pc (163 :: a :: b :: r)) {v : Int} (hv : Reader.signed 16 (a * 256 + b) = v) : decode c pc = .ok ((.if_icmp .gt v), 3) := by subst hv; exact op_s2 (f := fun x => (.if_icmp .gt x)) h rfl
theorem op_164 {c : ByteArray} {pc a b : Nat} {r : List Nat} (h : Rd c pc (164 :: a :: b :: r)) {v : Int} (hv : Reader.signed 16 (a * 256 + b) = v) : decode c pc = .ok ((.if_icmp .le v), 3) := by subst hv; exact op_s2 (f := fun x => (.if_icmp .le x)) h rfl
theorem op_167 {c : ByteArray} {pc a b : Nat} {r : List Nat} (h : Rd c pc (167 :: a :: b :: r)) {v : Int} (hv : Reader.signed 16 (a * 256 + b) = v) : decode c pc = .ok ((.goto v), 3) := by subst hv; exact op_s2 (f := fun x => (.goto x)) h rfl
theorem op_172 {c : ByteArray} {pc : Nat} {r : List Nat} (h : Rd c pc (172 :: r)) : decode c pc = .ok (.ireturn, 1) := op_at h rfl
theorem op_173 {c : ByteArray} {pc : Nat} {r : List Nat} (h : Rd c pc (173 :: r)) : decode c pc = .ok (.lreturn, 1) := op_at h rfl
theorem op_177 {c : ByteArray} {pc : Nat} {r : List Nat} (h : Rd c pc (177 :: r)) : decode c pc = .ok (.return_, 1) := op_at h rfl
theorem op_178 {c : ByteArray} {pc a b v : Nat} {r : List Nat} (h : Rd c pc (178 :: a :: b :: r)) (hv : a * 256 + b = v) : decode c pc = .ok ((.getstatic v), 3) := by subst hv; exact op_u2 (f := fun x => (.getstatic x)) h rfl
theorem op_180 {c : ByteArray} {pc a b v : Nat} {r : List Nat} (h : Rd c pc (180 :: a :: b :: r)) (hv : a * 256 + b = v) : decode c pc = .ok ((.getfield v), 3) := by subst hv; exact op_u2 (f := fun x => (.getfield x)) h rfl
theorem op_181 {c : ByteArray} {pc a b v : Nat} {r : List Nat} (h : Rd c pc (181 :: a :: b :: r)) (hv : a * 256 + b = v) : decode c pc = .ok ((.putfield v), 3) := by subst hv; exact op_u2 (f := fun x => (.putfield x)) h rfl
theorem op_182 {c : ByteArray} {pc a b v : Nat} {r : List Nat} (h : Rd c pc (182 :: a :: b :: r)) (hv : a * 256 + b = v) : decode c pc = .ok ((.invokevirtual v), 3) := by subst hv; exact op_u2 (f := fun x => (.invokevirtual x)) h rfl
theorem op_183 {c : ByteArray} {pc a b v : Nat} {r : List Nat} (h : Rd c pc (183 :: a :: b :: r)) (hv : a * 256 + b = v) : decode c pc = .ok ((.invokespecial v), 3) := by subst hv; exact op_u2 (f := fun x => (.invokespecial x)) h rfl
theorem op_184 {c : ByteArray} {pc a b v : Nat} {r : List Nat} (h : Rd c pc (184 :: a :: b :: r)) (hv : a * 256 + b = v) : decode c pc = .ok ((.invokestatic v), 3) := by subst hv; exact op_u2 (f := fun x => (.invokestatic x)) h rfl
theorem op_187 {c : ByteArray} {pc a b v : Nat} {r : List Nat} (h : Rd c pc (187 :: a :: b :: r)) (hv : a * 256 + b = v) : decode c pc = .ok ((.new v), 3) := by subst hv; exact op_u2 (f := fun x => (.new x)) h rfl
theorem op_189 {c : ByteArray} {pc a b v : Nat} {r : List Nat} (h : Rd c pc (189 :: a :: b :: r)) (hv : a * 256 + b = v) : decode c pc = .ok ((.anewarray v), 3) := by subst hv; exact op_u2 (f := fun x => (.anewarray x)) h rfl
theorem op_190 {c : ByteArray} {pc : Nat} {r : List Nat} (h : Rd c pc (190 :: r)) : decode c pc = .ok (.arraylength, 1) := op_at h rfl
theorem op_191 {c : ByteArray} {pc : Nat} {r : List Nat} (h : Rd c pc (191 :: r)) : decode c pc = .ok (.athrow, 1) := op_at h rfl
theorem op_198 {c : ByteArray} {pc a b : Nat} {r : List Nat} (h : Rd c pc (198 :: a :: b :: r)) {v : Int} (hv : Reader.signed 16 (a * 256 + b) = v) : decode c pc = .ok ((.ifnull v), 3) := by subst hv; exact op_s2 (f := fun x => (.ifnull x)) h rfl
theorem op_199 {c : ByteArray} {pc a b : Nat} {r : List Nat} (h : Rd c pc (199 :: a :: b :: r)) {v : Int} (hv : Reader.signed 16 (a * 256 + b) = v) : decode c pc = .ok ((.ifnonnull v), 3) := by subst hv; exact op_s2 (f := fun x => (.ifnonnull x)) h rfl
