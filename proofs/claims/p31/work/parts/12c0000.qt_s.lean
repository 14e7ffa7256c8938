-- blocks, checked over the row of bytes that begins at their place
theorem qb_u1 {cc : ByteArray} {p : Nat} {b : UInt8} {r : List UInt8} (h : cc.data.toList.drop p = b :: r) : (Reader.u1 (ε := DecodeError)) cc p = Except.ok (b.toNat, p + 1) := by
  have hl : p < cc.data.toList.length := by
    apply Classical.byContradiction
    intro n
    rw [List.drop_eq_nil_of_le (by omega)] at h
    cases h
  have hs : p < cc.size := hl
  have hb : cc[p]'hs = b := by
    have q := List.drop_eq_getElem_cons hl
    rw [h] at q
    exact (List.cons.inj q).1.symm
  unfold Reader.u1
  show (dite (p < cc.size) (fun h => (bind (set (p + 1)) (fun _ => pure (cc[p]'h).toNat) : Reader DecodeError Nat)) (fun _ => throw (HasTruncated.truncated p))) cc p = _
  rw [dif_pos hs]
  show (Except.ok ((cc[p]'hs).toNat, p + 1) : Except DecodeError (Nat × Nat)) = _
  rw [hb]
theorem qb_d {cc : ByteArray} {pc nx : Nat} {i : Instr} (h : (Decoder.instr pc) cc pc = Except.ok (i, nx)) : decode cc pc = Except.ok (i, nx - pc) := by
  show Except.bind ((Decoder.instr pc) cc pc) _ = _
  rw [h]
  rfl
theorem qb_s1 {cc : ByteArray} {p x : Nat} (h : (Reader.u1 (ε := DecodeError)) cc p = Except.ok (x, p + 1)) : (Reader.s1 (ε := DecodeError)) cc p = Except.ok (Reader.signed 8 x, p + 1) := by
  show Except.bind ((Reader.u1 (ε := DecodeError)) cc p) _ = _
  rw [h]
  rfl
theorem qb_u2 {cc : ByteArray} {p x y : Nat} (h : (Reader.u1 (ε := DecodeError)) cc p = Except.ok (x, p + 1)) (g : (Reader.u1 (ε := DecodeError)) cc (p + 1) = Except.ok (y, p + 2)) : (Reader.u2 (ε := DecodeError)) cc p = Except.ok (x * 256 + y, p + 2) := by
  show Except.bind ((Reader.u1 (ε := DecodeError)) cc p) _ = _
  rw [h]
  show Except.bind ((Reader.u1 (ε := DecodeError)) cc (p + 1)) _ = _
  rw [g]
  rfl
theorem qb_s2 {cc : ByteArray} {p x y : Nat} (h : (Reader.u1 (ε := DecodeError)) cc p = Except.ok (x, p + 1)) (g : (Reader.u1 (ε := DecodeError)) cc (p + 1) = Except.ok (y, p + 2)) : (Reader.s2 (ε := DecodeError)) cc p = Except.ok (Reader.signed 16 (x * 256 + y), p + 2) := by
  show Except.bind ((Reader.u2 (ε := DecodeError)) cc p) _ = _
  rw [qb_u2 h g]
  rfl
def Qb0_ (q : Nat × Instr) : Prop := ∀ (cc : ByteArray) (pc : Nat), (Reader.u1 (ε := DecodeError)) cc pc = Except.ok (q.1, pc + 1) → (Decoder.instr pc) cc pc = Except.ok (q.2, pc + 1)
def Qb1_ (q : Nat × (Nat → Instr)) : Prop := ∀ (cc : ByteArray) (pc x : Nat), (Reader.u1 (ε := DecodeError)) cc pc = Except.ok (q.1, pc + 1) → (Reader.u1 (ε := DecodeError)) cc (pc + 1) = Except.ok (x, pc + 2) → (Decoder.instr pc) cc pc = Except.ok (q.2 x, pc + 2)
def Qb2_ (q : Nat × (Nat → Nat → Instr)) : Prop := ∀ (cc : ByteArray) (pc x y : Nat), (Reader.u1 (ε := DecodeError)) cc pc = Except.ok (q.1, pc + 1) → (Reader.u1 (ε := DecodeError)) cc (pc + 1) = Except.ok (x, pc + 2) → (Reader.u1 (ε := DecodeError)) cc (pc + 2) = Except.ok (y, pc + 3) → (Decoder.instr pc) cc pc = Except.ok (q.2 x y, pc + 3)
set_option maxRecDepth 4000 in
theorem qb0_42 : Qb0_ (42, .aload_n 0) := fun cc pc h => by
  show Except.bind ((Reader.u1 (ε := DecodeError)) cc pc) _ = _
  rw [h]
  rfl
set_option maxRecDepth 4000 in
theorem qb0_27 : Qb0_ (27, .iload_n 1) := fun cc pc h => by
  show Except.bind ((Reader.u1 (ε := DecodeError)) cc pc) _ = _
  rw [h]
  rfl
set_option maxRecDepth 4000 in
theorem qb0_28 : Qb0_ (28, .iload_n 2) := fun cc pc h => by
  show Except.bind ((Reader.u1 (ε := DecodeError)) cc pc) _ = _
  rw [h]
  rfl
set_option maxRecDepth 4000 in
theorem qb0_29 : Qb0_ (29, .iload_n 3) := fun cc pc h => by
  show Except.bind ((Reader.u1 (ε := DecodeError)) cc pc) _ = _
  rw [h]
  rfl
set_option maxRecDepth 4000 in
theorem qb0_26 : Qb0_ (26, .iload_n 0) := fun cc pc h => by
  show Except.bind ((Reader.u1 (ε := DecodeError)) cc pc) _ = _
  rw [h]
  rfl
set_option maxRecDepth 4000 in
theorem qb0_43 : Qb0_ (43, .aload_n 1) := fun cc pc h => by
  show Except.bind ((Reader.u1 (ε := DecodeError)) cc pc) _ = _
  rw [h]
  rfl
set_option maxRecDepth 4000 in
theorem qb0_44 : Qb0_ (44, .aload_n 2) := fun cc pc h => by
  show Except.bind ((Reader.u1 (ε := DecodeError)) cc pc) _ = _
  rw [h]
  rfl
set_option maxRecDepth 4000 in
theorem qb0_45 : Qb0_ (45, .aload_n 3) := fun cc pc h => by
  show Except.bind ((Reader.u1 (ε := DecodeError)) cc pc) _ = _
  rw [h]
  rfl
set_option maxRecDepth 4000 in
theorem qb0_46 : Qb0_ (46, .iaload) := fun cc pc h => by
  show Except.bind ((Reader.u1 (ε := DecodeError)) cc pc) _ = _
  rw [h]
  rfl
set_option maxRecDepth 4000 in
theorem qb0_79 : Qb0_ (79, .iastore) := fun cc pc h => by
  show Except.bind ((Reader.u1 (ε := DecodeError)) cc pc) _ = _
  rw [h]
  rfl
set_option maxRecDepth 4000 in
theorem qb0_3 : Qb0_ (3, .iconst 0) := fun cc pc h => by
  show Except.bind ((Reader.u1 (ε := DecodeError)) cc pc) _ = _
  rw [h]
  rfl
set_option maxRecDepth 4000 in
theorem qb0_4 : Qb0_ (4, .iconst 1) := fun cc pc h => by
  show Except.bind ((Reader.u1 (ε := DecodeError)) cc pc) _ = _
  rw [h]
  rfl
set_option maxRecDepth 4000 in
theorem qb0_5 : Qb0_ (5, .iconst 2) := fun cc pc h => by
  show Except.bind ((Reader.u1 (ε := DecodeError)) cc pc) _ = _
  rw [h]
  rfl
set_option maxRecDepth 4000 in
theorem qb0_2 : Qb0_ (2, .iconst (-1)) := fun cc pc h => by
  show Except.bind ((Reader.u1 (ε := DecodeError)) cc pc) _ = _
  rw [h]
  rfl
set_option maxRecDepth 4000 in
theorem qb0_6 : Qb0_ (6, .iconst 3) := fun cc pc h => by
  show Except.bind ((Reader.u1 (ε := DecodeError)) cc pc) _ = _
  rw [h]
  rfl
set_option maxRecDepth 4000 in
theorem qb0_7 : Qb0_ (7, .iconst 4) := fun cc pc h => by
  show Except.bind ((Reader.u1 (ε := DecodeError)) cc pc) _ = _
  rw [h]
  rfl
set_option maxRecDepth 4000 in
theorem qb0_8 : Qb0_ (8, .iconst 5) := fun cc pc h => by
  show Except.bind ((Reader.u1 (ε := DecodeError)) cc pc) _ = _
  rw [h]
  rfl
set_option maxRecDepth 4000 in
theorem qb0_96 : Qb0_ (96, .iadd) := fun cc pc h => by
  show Except.bind ((Reader.u1 (ε := DecodeError)) cc pc) _ = _
  rw [h]
  rfl
set_option maxRecDepth 4000 in
theorem qb0_100 : Qb0_ (100, .isub) := fun cc pc h => by
  show Except.bind ((Reader.u1 (ε := DecodeError)) cc pc) _ = _
  rw [h]
  rfl
set_option maxRecDepth 4000 in
theorem qb0_104 : Qb0_ (104, .imul) := fun cc pc h => by
  show Except.bind ((Reader.u1 (ε := DecodeError)) cc pc) _ = _
  rw [h]
  rfl
set_option maxRecDepth 4000 in
theorem qb0_172 : Qb0_ (172, .ireturn) := fun cc pc h => by
  show Except.bind ((Reader.u1 (ε := DecodeError)) cc pc) _ = _
  rw [h]
  rfl
set_option maxRecDepth 4000 in
theorem qb0_177 : Qb0_ (177, .return_) := fun cc pc h => by
  show Except.bind ((Reader.u1 (ε := DecodeError)) cc pc) _ = _
  rw [h]
  rfl
set_option maxRecDepth 4000 in
theorem qb0_61 : Qb0_ (61, .istore_n 2) := fun cc pc h => by
  show Except.bind ((Reader.u1 (ε := DecodeError)) cc pc) _ = _
  rw [h]
  rfl
set_option maxRecDepth 4000 in
theorem qb0_62 : Qb0_ (62, .istore_n 3) := fun cc pc h => by
  show Except.bind ((Reader.u1 (ε := DecodeError)) cc pc) _ = _
  rw [h]
  rfl
set_option maxRecDepth 4000 in
theorem qb0_60 : Qb0_ (60, .istore_n 1) := fun cc pc h => by
  show Except.bind ((Reader.u1 (ε := DecodeError)) cc pc) _ = _
  rw [h]
  rfl
set_option maxRecDepth 4000 in
theorem qb0_59 : Qb0_ (59, .istore_n 0) := fun cc pc h => by
  show Except.bind ((Reader.u1 (ε := DecodeError)) cc pc) _ = _
  rw [h]
  rfl
set_option maxRecDepth 4000 in
theorem qb0_89 : Qb0_ (89, .dup) := fun cc pc h => by
  show Except.bind ((Reader.u1 (ε := DecodeError)) cc pc) _ = _
  rw [h]
  rfl
set_option maxRecDepth 4000 in
theorem qb0_92 : Qb0_ (92, .dup2) := fun cc pc h => by
  show Except.bind ((Reader.u1 (ε := DecodeError)) cc pc) _ = _
  rw [h]
  rfl
set_option maxRecDepth 4000 in
theorem qb0_87 : Qb0_ (87, .pop) := fun cc pc h => by
  show Except.bind ((Reader.u1 (ε := DecodeError)) cc pc) _ = _
  rw [h]
  rfl
set_option maxRecDepth 4000 in
theorem qb0_50 : Qb0_ (50, .aaload) := fun cc pc h => by
  show Except.bind ((Reader.u1 (ε := DecodeError)) cc pc) _ = _
  rw [h]
  rfl
set_option maxRecDepth 4000 in
theorem qb0_51 : Qb0_ (51, .baload) := fun cc pc h => by
  show Except.bind ((Reader.u1 (ε := DecodeError)) cc pc) _ = _
  rw [h]
  rfl
set_option maxRecDepth 4000 in
theorem qb0_84 : Qb0_ (84, .bastore) := fun cc pc h => by
  show Except.bind ((Reader.u1 (ε := DecodeError)) cc pc) _ = _
  rw [h]
  rfl
set_option maxRecDepth 4000 in
theorem qb0_190 : Qb0_ (190, .arraylength) := fun cc pc h => by
  show Except.bind ((Reader.u1 (ε := DecodeError)) cc pc) _ = _
  rw [h]
  rfl
set_option maxRecDepth 4000 in
theorem qb0_126 : Qb0_ (126, .iand) := fun cc pc h => by
  show Except.bind ((Reader.u1 (ε := DecodeError)) cc pc) _ = _
  rw [h]
  rfl
set_option maxRecDepth 4000 in
theorem qb0_128 : Qb0_ (128, .ior) := fun cc pc h => by
  show Except.bind ((Reader.u1 (ε := DecodeError)) cc pc) _ = _
  rw [h]
  rfl
set_option maxRecDepth 4000 in
theorem qb0_120 : Qb0_ (120, .ishl) := fun cc pc h => by
  show Except.bind ((Reader.u1 (ε := DecodeError)) cc pc) _ = _
  rw [h]
  rfl
set_option maxRecDepth 4000 in
theorem qb0_122 : Qb0_ (122, .ishr) := fun cc pc h => by
  show Except.bind ((Reader.u1 (ε := DecodeError)) cc pc) _ = _
  rw [h]
  rfl
set_option maxRecDepth 4000 in
theorem qb0_124 : Qb0_ (124, .iushr) := fun cc pc h => by
  show Except.bind ((Reader.u1 (ε := DecodeError)) cc pc) _ = _
  rw [h]
  rfl
set_option maxRecDepth 4000 in
theorem qb0_130 : Qb0_ (130, .ixor) := fun cc pc h => by
  show Except.bind ((Reader.u1 (ε := DecodeError)) cc pc) _ = _
  rw [h]
  rfl
set_option maxRecDepth 4000 in
theorem qb0_108 : Qb0_ (108, .idiv) := fun cc pc h => by
  show Except.bind ((Reader.u1 (ε := DecodeError)) cc pc) _ = _
  rw [h]
  rfl
set_option maxRecDepth 4000 in
theorem qb0_112 : Qb0_ (112, .irem) := fun cc pc h => by
  show Except.bind ((Reader.u1 (ε := DecodeError)) cc pc) _ = _
  rw [h]
  rfl
set_option maxRecDepth 4000 in
theorem qb0_116 : Qb0_ (116, .ineg) := fun cc pc h => by
  show Except.bind ((Reader.u1 (ε := DecodeError)) cc pc) _ = _
  rw [h]
  rfl
set_option maxRecDepth 4000 in
theorem qb0_133 : Qb0_ (133, .i2l) := fun cc pc h => by
  show Except.bind ((Reader.u1 (ε := DecodeError)) cc pc) _ = _
  rw [h]
  rfl
set_option maxRecDepth 4000 in
theorem qb0_136 : Qb0_ (136, .l2i) := fun cc pc h => by
  show Except.bind ((Reader.u1 (ε := DecodeError)) cc pc) _ = _
  rw [h]
  rfl
set_option maxRecDepth 4000 in
theorem qb0_9 : Qb0_ (9, .lconst 0) := fun cc pc h => by
  show Except.bind ((Reader.u1 (ε := DecodeError)) cc pc) _ = _
  rw [h]
  rfl
set_option maxRecDepth 4000 in
theorem qb0_10 : Qb0_ (10, .lconst 1) := fun cc pc h => by
  show Except.bind ((Reader.u1 (ε := DecodeError)) cc pc) _ = _
  rw [h]
  rfl
set_option maxRecDepth 4000 in
theorem qb0_30 : Qb0_ (30, .lload_n 0) := fun cc pc h => by
  show Except.bind ((Reader.u1 (ε := DecodeError)) cc pc) _ = _
  rw [h]
  rfl
set_option maxRecDepth 4000 in
theorem qb0_31 : Qb0_ (31, .lload_n 1) := fun cc pc h => by
  show Except.bind ((Reader.u1 (ε := DecodeError)) cc pc) _ = _
  rw [h]
  rfl
set_option maxRecDepth 4000 in
theorem qb0_32 : Qb0_ (32, .lload_n 2) := fun cc pc h => by
  show Except.bind ((Reader.u1 (ε := DecodeError)) cc pc) _ = _
  rw [h]
  rfl
set_option maxRecDepth 4000 in
theorem qb0_33 : Qb0_ (33, .lload_n 3) := fun cc pc h => by
  show Except.bind ((Reader.u1 (ε := DecodeError)) cc pc) _ = _
  rw [h]
  rfl
set_option maxRecDepth 4000 in
theorem qb0_47 : Qb0_ (47, .laload) := fun cc pc h => by
  show Except.bind ((Reader.u1 (ε := DecodeError)) cc pc) _ = _
  rw [h]
  rfl
set_option maxRecDepth 4000 in
theorem qb0_63 : Qb0_ (63, .lstore_n 0) := fun cc pc h => by
  show Except.bind ((Reader.u1 (ε := DecodeError)) cc pc) _ = _
  rw [h]
  rfl
set_option maxRecDepth 4000 in
theorem qb0_64 : Qb0_ (64, .lstore_n 1) := fun cc pc h => by
  show Except.bind ((Reader.u1 (ε := DecodeError)) cc pc) _ = _
  rw [h]
  rfl
set_option maxRecDepth 4000 in
theorem qb0_65 : Qb0_ (65, .lstore_n 2) := fun cc pc h => by
  show Except.bind ((Reader.u1 (ε := DecodeError)) cc pc) _ = _
  rw [h]
  rfl
set_option maxRecDepth 4000 in
theorem qb0_66 : Qb0_ (66, .lstore_n 3) := fun cc pc h => by
  show Except.bind ((Reader.u1 (ε := DecodeError)) cc pc) _ = _
  rw [h]
  rfl
set_option maxRecDepth 4000 in
theorem qb0_75 : Qb0_ (75, .astore_n 0) := fun cc pc h => by
  show Except.bind ((Reader.u1 (ε := DecodeError)) cc pc) _ = _
  rw [h]
  rfl
set_option maxRecDepth 4000 in
theorem qb0_76 : Qb0_ (76, .astore_n 1) := fun cc pc h => by
  show Except.bind ((Reader.u1 (ε := DecodeError)) cc pc) _ = _
  rw [h]
  rfl
set_option maxRecDepth 4000 in
theorem qb0_77 : Qb0_ (77, .astore_n 2) := fun cc pc h => by
  show Except.bind ((Reader.u1 (ε := DecodeError)) cc pc) _ = _
  rw [h]
  rfl
set_option maxRecDepth 4000 in
theorem qb0_78 : Qb0_ (78, .astore_n 3) := fun cc pc h => by
  show Except.bind ((Reader.u1 (ε := DecodeError)) cc pc) _ = _
  rw [h]
  rfl
set_option maxRecDepth 4000 in
theorem qb0_80 : Qb0_ (80, .lastore) := fun cc pc h => by
  show Except.bind ((Reader.u1 (ε := DecodeError)) cc pc) _ = _
  rw [h]
  rfl
set_option maxRecDepth 4000 in
theorem qb0_97 : Qb0_ (97, .ladd) := fun cc pc h => by
  show Except.bind ((Reader.u1 (ε := DecodeError)) cc pc) _ = _
  rw [h]
  rfl
set_option maxRecDepth 4000 in
theorem qb0_101 : Qb0_ (101, .lsub) := fun cc pc h => by
  show Except.bind ((Reader.u1 (ε := DecodeError)) cc pc) _ = _
  rw [h]
  rfl
set_option maxRecDepth 4000 in
theorem qb0_105 : Qb0_ (105, .lmul) := fun cc pc h => by
  show Except.bind ((Reader.u1 (ε := DecodeError)) cc pc) _ = _
  rw [h]
  rfl
set_option maxRecDepth 4000 in
theorem qb0_113 : Qb0_ (113, .lrem) := fun cc pc h => by
  show Except.bind ((Reader.u1 (ε := DecodeError)) cc pc) _ = _
  rw [h]
  rfl
set_option maxRecDepth 4000 in
theorem qb0_148 : Qb0_ (148, .lcmp) := fun cc pc h => by
  show Except.bind ((Reader.u1 (ε := DecodeError)) cc pc) _ = _
  rw [h]
  rfl
set_option maxRecDepth 4000 in
theorem qb0_173 : Qb0_ (173, .lreturn) := fun cc pc h => by
  show Except.bind ((Reader.u1 (ε := DecodeError)) cc pc) _ = _
  rw [h]
  rfl
set_option maxRecDepth 4000 in
theorem qb1_21 : Qb1_ (21, fun x => .iload x) := fun cc pc x h g => by
  show Except.bind ((Reader.u1 (ε := DecodeError)) cc pc) _ = _
  rw [h]
  show Except.bind ((Reader.u1 (ε := DecodeError)) cc (pc + 1)) _ = _
  rw [g]
  rfl
set_option maxRecDepth 4000 in
theorem qb1_54 : Qb1_ (54, fun x => .istore x) := fun cc pc x h g => by
  show Except.bind ((Reader.u1 (ε := DecodeError)) cc pc) _ = _
  rw [h]
  show Except.bind ((Reader.u1 (ε := DecodeError)) cc (pc + 1)) _ = _
  rw [g]
  rfl
set_option maxRecDepth 4000 in
theorem qb1_16 : Qb1_ (16, fun x => .bipush (Reader.signed 8 x)) := fun cc pc x h g => by
  show Except.bind ((Reader.u1 (ε := DecodeError)) cc pc) _ = _
  rw [h]
  show Except.bind ((Reader.s1 (ε := DecodeError)) cc (pc + 1)) _ = _
  rw [qb_s1 g]
  rfl
set_option maxRecDepth 4000 in
theorem qb1_25 : Qb1_ (25, fun x => .aload x) := fun cc pc x h g => by
  show Except.bind ((Reader.u1 (ε := DecodeError)) cc pc) _ = _
  rw [h]
  show Except.bind ((Reader.u1 (ε := DecodeError)) cc (pc + 1)) _ = _
  rw [g]
  rfl
set_option maxRecDepth 4000 in
theorem qb1_58 : Qb1_ (58, fun x => .astore x) := fun cc pc x h g => by
  show Except.bind ((Reader.u1 (ε := DecodeError)) cc pc) _ = _
  rw [h]
  show Except.bind ((Reader.u1 (ε := DecodeError)) cc (pc + 1)) _ = _
  rw [g]
  rfl
set_option maxRecDepth 4000 in
theorem qb1_18 : Qb1_ (18, fun x => .ldc x) := fun cc pc x h g => by
  show Except.bind ((Reader.u1 (ε := DecodeError)) cc pc) _ = _
  rw [h]
  show Except.bind ((Reader.u1 (ε := DecodeError)) cc (pc + 1)) _ = _
  rw [g]
  rfl
set_option maxRecDepth 4000 in
theorem qb1_22 : Qb1_ (22, fun x => .lload x) := fun cc pc x h g => by
  show Except.bind ((Reader.u1 (ε := DecodeError)) cc pc) _ = _
  rw [h]
  show Except.bind ((Reader.u1 (ε := DecodeError)) cc (pc + 1)) _ = _
  rw [g]
  rfl
set_option maxRecDepth 4000 in
theorem qb1_55 : Qb1_ (55, fun x => .lstore x) := fun cc pc x h g => by
  show Except.bind ((Reader.u1 (ε := DecodeError)) cc pc) _ = _
  rw [h]
  show Except.bind ((Reader.u1 (ε := DecodeError)) cc (pc + 1)) _ = _
  rw [g]
  rfl
set_option maxRecDepth 4000 in
theorem qb2_180 : Qb2_ (180, fun x y => .getfield (x * 256 + y)) := fun cc pc x y h g e => by
  show Except.bind ((Reader.u1 (ε := DecodeError)) cc pc) _ = _
  rw [h]
  show Except.bind ((Reader.u2 (ε := DecodeError)) cc (pc + 1)) _ = _
  rw [qb_u2 g e]
  rfl
set_option maxRecDepth 4000 in
theorem qb2_181 : Qb2_ (181, fun x y => .putfield (x * 256 + y)) := fun cc pc x y h g e => by
  show Except.bind ((Reader.u1 (ε := DecodeError)) cc pc) _ = _
  rw [h]
  show Except.bind ((Reader.u2 (ε := DecodeError)) cc (pc + 1)) _ = _
  rw [qb_u2 g e]
  rfl
set_option maxRecDepth 4000 in
theorem qb2_167 : Qb2_ (167, fun x y => .goto (Reader.signed 16 (x * 256 + y))) := fun cc pc x y h g e => by
  show Except.bind ((Reader.u1 (ε := DecodeError)) cc pc) _ = _
  rw [h]
  show Except.bind ((Reader.s2 (ε := DecodeError)) cc (pc + 1)) _ = _
  rw [qb_s2 g e]
  rfl
set_option maxRecDepth 4000 in
theorem qb2_153 : Qb2_ (153, fun x y => .ifCond .eq (Reader.signed 16 (x * 256 + y))) := fun cc pc x y h g e => by
  show Except.bind ((Reader.u1 (ε := DecodeError)) cc pc) _ = _
  rw [h]
  show Except.bind ((Reader.s2 (ε := DecodeError)) cc (pc + 1)) _ = _
  rw [qb_s2 g e]
  rfl
set_option maxRecDepth 4000 in
theorem qb2_154 : Qb2_ (154, fun x y => .ifCond .ne (Reader.signed 16 (x * 256 + y))) := fun cc pc x y h g e => by
  show Except.bind ((Reader.u1 (ε := DecodeError)) cc pc) _ = _
  rw [h]
  show Except.bind ((Reader.s2 (ε := DecodeError)) cc (pc + 1)) _ = _
  rw [qb_s2 g e]
  rfl
set_option maxRecDepth 4000 in
theorem qb2_155 : Qb2_ (155, fun x y => .ifCond .lt (Reader.signed 16 (x * 256 + y))) := fun cc pc x y h g e => by
  show Except.bind ((Reader.u1 (ε := DecodeError)) cc pc) _ = _
  rw [h]
  show Except.bind ((Reader.s2 (ε := DecodeError)) cc (pc + 1)) _ = _
  rw [qb_s2 g e]
  rfl
set_option maxRecDepth 4000 in
theorem qb2_156 : Qb2_ (156, fun x y => .ifCond .ge (Reader.signed 16 (x * 256 + y))) := fun cc pc x y h g e => by
  show Except.bind ((Reader.u1 (ε := DecodeError)) cc pc) _ = _
  rw [h]
  show Except.bind ((Reader.s2 (ε := DecodeError)) cc (pc + 1)) _ = _
  rw [qb_s2 g e]
  rfl
set_option maxRecDepth 4000 in
theorem qb2_157 : Qb2_ (157, fun x y => .ifCond .gt (Reader.signed 16 (x * 256 + y))) := fun cc pc x y h g e => by
  show Except.bind ((Reader.u1 (ε := DecodeError)) cc pc) _ = _
  rw [h]
  show Except.bind ((Reader.s2 (ε := DecodeError)) cc (pc + 1)) _ = _
  rw [qb_s2 g e]
  rfl
set_option maxRecDepth 4000 in
theorem qb2_158 : Qb2_ (158, fun x y => .ifCond .le (Reader.signed 16 (x * 256 + y))) := fun cc pc x y h g e => by
  show Except.bind ((Reader.u1 (ε := DecodeError)) cc pc) _ = _
  rw [h]
  show Except.bind ((Reader.s2 (ε := DecodeError)) cc (pc + 1)) _ = _
  rw [qb_s2 g e]
  rfl
set_option maxRecDepth 4000 in
theorem qb2_159 : Qb2_ (159, fun x y => .if_icmp .eq (Reader.signed 16 (x * 256 + y))) := fun cc pc x y h g e => by
  show Except.bind ((Reader.u1 (ε := DecodeError)) cc pc) _ = _
  rw [h]
  show Except.bind ((Reader.s2 (ε := DecodeError)) cc (pc + 1)) _ = _
  rw [qb_s2 g e]
  rfl
set_option maxRecDepth 4000 in
theorem qb2_160 : Qb2_ (160, fun x y => .if_icmp .ne (Reader.signed 16 (x * 256 + y))) := fun cc pc x y h g e => by
  show Except.bind ((Reader.u1 (ε := DecodeError)) cc pc) _ = _
  rw [h]
  show Except.bind ((Reader.s2 (ε := DecodeError)) cc (pc + 1)) _ = _
  rw [qb_s2 g e]
  rfl
set_option maxRecDepth 4000 in
theorem qb2_161 : Qb2_ (161, fun x y => .if_icmp .lt (Reader.signed 16 (x * 256 + y))) := fun cc pc x y h g e => by
  show Except.bind ((Reader.u1 (ε := DecodeError)) cc pc) _ = _
  rw [h]
  show Except.bind ((Reader.s2 (ε := DecodeError)) cc (pc + 1)) _ = _
  rw [qb_s2 g e]
  rfl
set_option maxRecDepth 4000 in
theorem qb2_162 : Qb2_ (162, fun x y => .if_icmp .ge (Reader.signed 16 (x * 256 + y))) := fun cc pc x y h g e => by
  show Except.bind ((Reader.u1 (ε := DecodeError)) cc pc) _ = _
  rw [h]
  show Except.bind ((Reader.s2 (ε := DecodeError)) cc (pc + 1)) _ = _
  rw [qb_s2 g e]
  rfl
set_option maxRecDepth 4000 in
theorem qb2_163 : Qb2_ (163, fun x y => .if_icmp .gt (Reader.signed 16 (x * 256 + y))) := fun cc pc x y h g e => by
  show Except.bind ((Reader.u1 (ε := DecodeError)) cc pc) _ = _
  rw [h]
  show Except.bind ((Reader.s2 (ε := DecodeError)) cc (pc + 1)) _ = _
  rw [qb_s2 g e]
  rfl
set_option maxRecDepth 4000 in
theorem qb2_164 : Qb2_ (164, fun x y => .if_icmp .le (Reader.signed 16 (x * 256 + y))) := fun cc pc x y h g e => by
  show Except.bind ((Reader.u1 (ε := DecodeError)) cc pc) _ = _
  rw [h]
  show Except.bind ((Reader.s2 (ε := DecodeError)) cc (pc + 1)) _ = _
  rw [qb_s2 g e]
  rfl
set_option maxRecDepth 4000 in
theorem qb2_132 : Qb2_ (132, fun x y => .iinc x (Reader.signed 8 y)) := fun cc pc x y h g e => by
  show Except.bind ((Reader.u1 (ε := DecodeError)) cc pc) _ = _
  rw [h]
  show Except.bind ((Reader.u1 (ε := DecodeError)) cc (pc + 1)) _ = _
  rw [g]
  show Except.bind ((Reader.s1 (ε := DecodeError)) cc (pc + 2)) _ = _
  rw [qb_s1 e]
  rfl
set_option maxRecDepth 4000 in
theorem qb2_17 : Qb2_ (17, fun x y => .sipush (Reader.signed 16 (x * 256 + y))) := fun cc pc x y h g e => by
  show Except.bind ((Reader.u1 (ε := DecodeError)) cc pc) _ = _
  rw [h]
  show Except.bind ((Reader.s2 (ε := DecodeError)) cc (pc + 1)) _ = _
  rw [qb_s2 g e]
  rfl
set_option maxRecDepth 4000 in
theorem qb2_19 : Qb2_ (19, fun x y => .ldc_w (x * 256 + y)) := fun cc pc x y h g e => by
  show Except.bind ((Reader.u1 (ε := DecodeError)) cc pc) _ = _
  rw [h]
  show Except.bind ((Reader.u2 (ε := DecodeError)) cc (pc + 1)) _ = _
  rw [qb_u2 g e]
  rfl
set_option maxRecDepth 4000 in
theorem qb2_20 : Qb2_ (20, fun x y => .ldc2_w (x * 256 + y)) := fun cc pc x y h g e => by
  show Except.bind ((Reader.u1 (ε := DecodeError)) cc pc) _ = _
  rw [h]
  show Except.bind ((Reader.u2 (ε := DecodeError)) cc (pc + 1)) _ = _
  rw [qb_u2 g e]
  rfl
set_option maxRecDepth 4000 in
theorem qb2_198 : Qb2_ (198, fun x y => .ifnull (Reader.signed 16 (x * 256 + y))) := fun cc pc x y h g e => by
  show Except.bind ((Reader.u1 (ε := DecodeError)) cc pc) _ = _
  rw [h]
  show Except.bind ((Reader.s2 (ε := DecodeError)) cc (pc + 1)) _ = _
  rw [qb_s2 g e]
  rfl
set_option maxRecDepth 4000 in
theorem qb2_199 : Qb2_ (199, fun x y => .ifnonnull (Reader.signed 16 (x * 256 + y))) := fun cc pc x y h g e => by
  show Except.bind ((Reader.u1 (ε := DecodeError)) cc pc) _ = _
  rw [h]
  show Except.bind ((Reader.s2 (ε := DecodeError)) cc (pc + 1)) _ = _
  rw [qb_s2 g e]
  rfl
set_option maxRecDepth 4000 in
theorem qb2_182 : Qb2_ (182, fun x y => .invokevirtual (x * 256 + y)) := fun cc pc x y h g e => by
  show Except.bind ((Reader.u1 (ε := DecodeError)) cc pc) _ = _
  rw [h]
  show Except.bind ((Reader.u2 (ε := DecodeError)) cc (pc + 1)) _ = _
  rw [qb_u2 g e]
  rfl
set_option maxRecDepth 4000 in
theorem qb2_183 : Qb2_ (183, fun x y => .invokespecial (x * 256 + y)) := fun cc pc x y h g e => by
  show Except.bind ((Reader.u1 (ε := DecodeError)) cc pc) _ = _
  rw [h]
  show Except.bind ((Reader.u2 (ε := DecodeError)) cc (pc + 1)) _ = _
  rw [qb_u2 g e]
  rfl
set_option maxRecDepth 4000 in
theorem qb2_184 : Qb2_ (184, fun x y => .invokestatic (x * 256 + y)) := fun cc pc x y h g e => by
  show Except.bind ((Reader.u1 (ε := DecodeError)) cc pc) _ = _
  rw [h]
  show Except.bind ((Reader.u2 (ε := DecodeError)) cc (pc + 1)) _ = _
  rw [qb_u2 g e]
  rfl
abbrev Qk_ : Type := Instr ⊕ ((Nat → Instr) ⊕ (Nat → Nat → Instr))
def Qg_ (n : Nat) : Qk_ → Prop
  | .inl i => Qb0_ (n, i)
  | .inr (.inl f) => Qb1_ (n, f)
  | .inr (.inr f) => Qb2_ (n, f)
def qlf_ (k : Nat) (v : Qk_) (n : Nat) : Option Qk_ := match Nat.beq n k with
  | true => some v
  | false => none
def qbr_ (m : Nat) (a b : Nat → Option Qk_) (n : Nat) : Option Qk_ := match Nat.ble n m with
  | true => a n
  | false => b n
def Qs_ (f : Nat → Option Qk_) : Prop := ∀ n v, f n = some v → Qg_ n v
theorem qs_lf {k : Nat} {v : Qk_} (h : Qg_ k v) : Qs_ (qlf_ k v) := fun n w e => by
  unfold qlf_ at e
  cases hb : Nat.beq n k with
  | true =>
    rw [hb] at e
    have e1 : n = k := Nat.eq_of_beq_eq_true hb
    have e2 : v = w := Option.some.inj e
    rw [e1, ← e2]
    exact h
  | false =>
    rw [hb] at e
    cases e
theorem qs_br {m : Nat} {a b : Nat → Option Qk_} (ha : Qs_ a) (hb : Qs_ b) : Qs_ (qbr_ m a b) := fun n w e => by
  unfold qbr_ at e
  cases hc : Nat.ble n m with
  | true =>
    rw [hc] at e
    exact ha n w e
  | false =>
    rw [hc] at e
    exact hb n w e
def qt_ : Nat → Option Qk_ := qbr_ 79 (qbr_ 32 (qbr_ 18 (qbr_ 7 (qbr_ 4 (qbr_ 2 (qlf_ 2 (.inl (.iconst (-1)))) (qbr_ 3 (qlf_ 3 (.inl (.iconst 0))) (qlf_ 4 (.inl (.iconst 1))))) (qbr_ 5 (qlf_ 5 (.inl (.iconst 2))) (qbr_ 6 (qlf_ 6 (.inl (.iconst 3))) (qlf_ 7 (.inl (.iconst 4)))))) (qbr_ 10 (qbr_ 8 (qlf_ 8 (.inl (.iconst 5))) (qbr_ 9 (qlf_ 9 (.inl (.lconst 0))) (qlf_ 10 (.inl (.lconst 1))))) (qbr_ 16 (qlf_ 16 (.inr (.inl (fun x => .bipush (Reader.signed 8 x))))) (qbr_ 17 (qlf_ 17 (.inr (.inr (fun x y => .sipush (Reader.signed 16 (x * 256 + y)))))) (qlf_ 18 (.inr (.inl (fun x => .ldc x)))))))) (qbr_ 26 (qbr_ 21 (qbr_ 19 (qlf_ 19 (.inr (.inr (fun x y => .ldc_w (x * 256 + y))))) (qbr_ 20 (qlf_ 20 (.inr (.inr (fun x y => .ldc2_w (x * 256 + y))))) (qlf_ 21 (.inr (.inl (fun x => .iload x)))))) (qbr_ 22 (qlf_ 22 (.inr (.inl (fun x => .lload x)))) (qbr_ 25 (qlf_ 25 (.inr (.inl (fun x => .aload x)))) (qlf_ 26 (.inl (.iload_n 0)))))) (qbr_ 29 (qbr_ 27 (qlf_ 27 (.inl (.iload_n 1))) (qbr_ 28 (qlf_ 28 (.inl (.iload_n 2))) (qlf_ 29 (.inl (.iload_n 3))))) (qbr_ 30 (qlf_ 30 (.inl (.lload_n 0))) (qbr_ 31 (qlf_ 31 (.inl (.lload_n 1))) (qlf_ 32 (.inl (.lload_n 2)))))))) (qbr_ 58 (qbr_ 46 (qbr_ 43 (qbr_ 33 (qlf_ 33 (.inl (.lload_n 3))) (qbr_ 42 (qlf_ 42 (.inl (.aload_n 0))) (qlf_ 43 (.inl (.aload_n 1))))) (qbr_ 44 (qlf_ 44 (.inl (.aload_n 2))) (qbr_ 45 (qlf_ 45 (.inl (.aload_n 3))) (qlf_ 46 (.inl (.iaload)))))) (qbr_ 51 (qbr_ 47 (qlf_ 47 (.inl (.laload))) (qbr_ 50 (qlf_ 50 (.inl (.aaload))) (qlf_ 51 (.inl (.baload))))) (qbr_ 54 (qlf_ 54 (.inr (.inl (fun x => .istore x)))) (qbr_ 55 (qlf_ 55 (.inr (.inl (fun x => .lstore x)))) (qlf_ 58 (.inr (.inl (fun x => .astore x)))))))) (qbr_ 64 (qbr_ 61 (qbr_ 59 (qlf_ 59 (.inl (.istore_n 0))) (qbr_ 60 (qlf_ 60 (.inl (.istore_n 1))) (qlf_ 61 (.inl (.istore_n 2))))) (qbr_ 62 (qlf_ 62 (.inl (.istore_n 3))) (qbr_ 63 (qlf_ 63 (.inl (.lstore_n 0))) (qlf_ 64 (.inl (.lstore_n 1)))))) (qbr_ 75 (qbr_ 65 (qlf_ 65 (.inl (.lstore_n 2))) (qbr_ 66 (qlf_ 66 (.inl (.lstore_n 3))) (qlf_ 75 (.inl (.astore_n 0))))) (qbr_ 77 (qbr_ 76 (qlf_ 76 (.inl (.astore_n 1))) (qlf_ 77 (.inl (.astore_n 2)))) (qbr_ 78 (qlf_ 78 (.inl (.astore_n 3))) (qlf_ 79 (.inl (.iastore))))))))) (qbr_ 136 (qbr_ 108 (qbr_ 96 (qbr_ 87 (qbr_ 80 (qlf_ 80 (.inl (.lastore))) (qbr_ 84 (qlf_ 84 (.inl (.bastore))) (qlf_ 87 (.inl (.pop))))) (qbr_ 89 (qlf_ 89 (.inl (.dup))) (qbr_ 92 (qlf_ 92 (.inl (.dup2))) (qlf_ 96 (.inl (.iadd)))))) (qbr_ 101 (qbr_ 97 (qlf_ 97 (.inl (.ladd))) (qbr_ 100 (qlf_ 100 (.inl (.isub))) (qlf_ 101 (.inl (.lsub))))) (qbr_ 104 (qlf_ 104 (.inl (.imul))) (qbr_ 105 (qlf_ 105 (.inl (.lmul))) (qlf_ 108 (.inl (.idiv))))))) (qbr_ 124 (qbr_ 116 (qbr_ 112 (qlf_ 112 (.inl (.irem))) (qbr_ 113 (qlf_ 113 (.inl (.lrem))) (qlf_ 116 (.inl (.ineg))))) (qbr_ 120 (qlf_ 120 (.inl (.ishl))) (qbr_ 122 (qlf_ 122 (.inl (.ishr))) (qlf_ 124 (.inl (.iushr)))))) (qbr_ 130 (qbr_ 126 (qlf_ 126 (.inl (.iand))) (qbr_ 128 (qlf_ 128 (.inl (.ior))) (qlf_ 130 (.inl (.ixor))))) (qbr_ 132 (qlf_ 132 (.inr (.inr (fun x y => .iinc x (Reader.signed 8 y))))) (qbr_ 133 (qlf_ 133 (.inl (.i2l))) (qlf_ 136 (.inl (.l2i)))))))) (qbr_ 163 (qbr_ 157 (qbr_ 154 (qbr_ 148 (qlf_ 148 (.inl (.lcmp))) (qbr_ 153 (qlf_ 153 (.inr (.inr (fun x y => .ifCond .eq (Reader.signed 16 (x * 256 + y)))))) (qlf_ 154 (.inr (.inr (fun x y => .ifCond .ne (Reader.signed 16 (x * 256 + y)))))))) (qbr_ 155 (qlf_ 155 (.inr (.inr (fun x y => .ifCond .lt (Reader.signed 16 (x * 256 + y)))))) (qbr_ 156 (qlf_ 156 (.inr (.inr (fun x y => .ifCond .ge (Reader.signed 16 (x * 256 + y)))))) (qlf_ 157 (.inr (.inr (fun x y => .ifCond .gt (Reader.signed 16 (x * 256 + y))))))))) (qbr_ 160 (qbr_ 158 (qlf_ 158 (.inr (.inr (fun x y => .ifCond .le (Reader.signed 16 (x * 256 + y)))))) (qbr_ 159 (qlf_ 159 (.inr (.inr (fun x y => .if_icmp .eq (Reader.signed 16 (x * 256 + y)))))) (qlf_ 160 (.inr (.inr (fun x y => .if_icmp .ne (Reader.signed 16 (x * 256 + y)))))))) (qbr_ 161 (qlf_ 161 (.inr (.inr (fun x y => .if_icmp .lt (Reader.signed 16 (x * 256 + y)))))) (qbr_ 162 (qlf_ 162 (.inr (.inr (fun x y => .if_icmp .ge (Reader.signed 16 (x * 256 + y)))))) (qlf_ 163 (.inr (.inr (fun x y => .if_icmp .gt (Reader.signed 16 (x * 256 + y)))))))))) (qbr_ 180 (qbr_ 172 (qbr_ 164 (qlf_ 164 (.inr (.inr (fun x y => .if_icmp .le (Reader.signed 16 (x * 256 + y)))))) (qbr_ 167 (qlf_ 167 (.inr (.inr (fun x y => .goto (Reader.signed 16 (x * 256 + y)))))) (qlf_ 172 (.inl (.ireturn))))) (qbr_ 173 (qlf_ 173 (.inl (.lreturn))) (qbr_ 177 (qlf_ 177 (.inl (.return_))) (qlf_ 180 (.inr (.inr (fun x y => .getfield (x * 256 + y)))))))) (qbr_ 183 (qbr_ 181 (qlf_ 181 (.inr (.inr (fun x y => .putfield (x * 256 + y))))) (qbr_ 182 (qlf_ 182 (.inr (.inr (fun x y => .invokevirtual (x * 256 + y))))) (qlf_ 183 (.inr (.inr (fun x y => .invokespecial (x * 256 + y))))))) (qbr_ 190 (qbr_ 184 (qlf_ 184 (.inr (.inr (fun x y => .invokestatic (x * 256 + y))))) (qlf_ 190 (.inl (.arraylength)))) (qbr_ 198 (qlf_ 198 (.inr (.inr (fun x y => .ifnull (Reader.signed 16 (x * 256 + y)))))) (qlf_ 199 (.inr (.inr (fun x y => .ifnonnull (Reader.signed 16 (x * 256 + y))))))))))))
set_option maxRecDepth 4000 in
theorem qt_s : Qs_ qt_ := (qs_br (qs_br (qs_br (qs_br (qs_br (qs_br (qs_lf qb0_2) (qs_br (qs_lf qb0_3) (qs_lf qb0_4))) (qs_br (qs_lf qb0_5) (qs_br (qs_lf qb0_6) (qs_lf qb0_7)))) (qs_br (qs_br (qs_lf qb0_8) (qs_br (qs_lf qb0_9) (qs_lf qb0_10))) (qs_br (qs_lf qb1_16) (qs_br (qs_lf qb2_17) (qs_lf qb1_18))))) (qs_br (qs_br (qs_br (qs_lf qb2_19) (qs_br (qs_lf qb2_20) (qs_lf qb1_21))) (qs_br (qs_lf qb1_22) (qs_br (qs_lf qb1_25) (qs_lf qb0_26)))) (qs_br (qs_br (qs_lf qb0_27) (qs_br (qs_lf qb0_28) (qs_lf qb0_29))) (qs_br (qs_lf qb0_30) (qs_br (qs_lf qb0_31) (qs_lf qb0_32)))))) (qs_br (qs_br (qs_br (qs_br (qs_lf qb0_33) (qs_br (qs_lf qb0_42) (qs_lf qb0_43))) (qs_br (qs_lf qb0_44) (qs_br (qs_lf qb0_45) (qs_lf qb0_46)))) (qs_br (qs_br (qs_lf qb0_47) (qs_br (qs_lf qb0_50) (qs_lf qb0_51))) (qs_br (qs_lf qb1_54) (qs_br (qs_lf qb1_55) (qs_lf qb1_58))))) (qs_br (qs_br (qs_br (qs_lf qb0_59) (qs_br (qs_lf qb0_60) (qs_lf qb0_61))) (qs_br (qs_lf qb0_62) (qs_br (qs_lf qb0_63) (qs_lf qb0_64)))) (qs_br (qs_br (qs_lf qb0_65) (qs_br (qs_lf qb0_66) (qs_lf qb0_75))) (qs_br (qs_br (qs_lf qb0_76) (qs_lf qb0_77)) (qs_br (qs_lf qb0_78) (qs_lf qb0_79))))))) (qs_br (qs_br (qs_br (qs_br (qs_br (qs_lf qb0_80) (qs_br (qs_lf qb0_84) (qs_lf qb0_87))) (qs_br (qs_lf qb0_89) (qs_br (qs_lf qb0_92) (qs_lf qb0_96)))) (qs_br (qs_br (qs_lf qb0_97) (qs_br (qs_lf qb0_100) (qs_lf qb0_101))) (qs_br (qs_lf qb0_104) (qs_br (qs_lf qb0_105) (qs_lf qb0_108))))) (qs_br (qs_br (qs_br (qs_lf qb0_112) (qs_br (qs_lf qb0_113) (qs_lf qb0_116))) (qs_br (qs_lf qb0_120) (qs_br (qs_lf qb0_122) (qs_lf qb0_124)))) (qs_br (qs_br (qs_lf qb0_126) (qs_br (qs_lf qb0_128) (qs_lf qb0_130))) (qs_br (qs_lf qb2_132) (qs_br (qs_lf qb0_133) (qs_lf qb0_136)))))) (qs_br (qs_br (qs_br (qs_br (qs_lf qb0_148) (qs_br (qs_lf qb2_153) (qs_lf qb2_154))) (qs_br (qs_lf qb2_155) (qs_br (qs_lf qb2_156) (qs_lf qb2_157)))) (qs_br (qs_br (qs_lf qb2_158) (qs_br (qs_lf qb2_159) (qs_lf qb2_160))) (qs_br (qs_lf qb2_161) (qs_br (qs_lf qb2_162) (qs_lf qb2_163))))) (qs_br (qs_br (qs_br (qs_lf qb2_164) (qs_br (qs_lf qb2_167) (qs_lf qb0_172))) (qs_br (qs_lf qb0_173) (qs_br (qs_lf qb0_177) (qs_lf qb2_180)))) (qs_br (qs_br (qs_lf qb2_181) (qs_br (qs_lf qb2_182) (qs_lf qb2_183))) (qs_br (qs_br (qs_lf qb2_184) (qs_lf qb0_190)) (qs_br (qs_lf qb2_198) (qs_lf qb2_199))))))))
