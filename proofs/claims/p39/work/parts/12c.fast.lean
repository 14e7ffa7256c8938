-- blocks, checked over the row of bytes that begins at their place
theorem qb_u1 {cc : ByteArray} {p : Nat} {b : UInt8} {r : List UInt8} (h : cc.data.toList.drop p = b :: r) : (Reader.u1 (ε := DecodeError)) cc p = Except.ok (b.toNat, p + 1) := by
  have hl : p < cc.data.toList.length := by
    apply Classical.byContradiction
    intro n
    rw [List.drop_eq_nil_of_le (by omega)] at h
    cases h
  have hs : p < cc.size := hl
  have hb : cc[p]'hs = b := by
    have q := List.drop_eq_getElem_cons hl
    rw [h] at q
    exact (List.cons.inj q).1.symm
  unfold Reader.u1
  show (dite (p < cc.size) (fun h => (bind (set (p + 1)) (fun _ => pure (cc[p]'h).toNat) : Reader DecodeError Nat)) (fun _ => throw (HasTruncated.truncated p))) cc p = _
  rw [dif_pos hs]
  show (Except.ok ((cc[p]'hs).toNat, p + 1) : Except DecodeError (Nat × Nat)) = _
  rw [hb]
theorem qb_d {cc : ByteArray} {pc nx : Nat} {i : Instr} (h : (Decoder.instr pc) cc pc = Except.ok (i, nx)) : decode cc pc = Except.ok (i, nx - pc) := by
  show Except.bind ((Decoder.instr pc) cc pc) _ = _
  rw [h]
  rfl
theorem qb_s1 {cc : ByteArray} {p x : Nat} (h : (Reader.u1 (ε := DecodeError)) cc p = Except.ok (x, p + 1)) : (Reader.s1 (ε := DecodeError)) cc p = Except.ok (Reader.signed 8 x, p + 1) := by
  show Except.bind ((Reader.u1 (ε := DecodeError)) cc p) _ = _
  rw [h]
  rfl
theorem qb_u2 {cc : ByteArray} {p x y : Nat} (h : (Reader.u1 (ε := DecodeError)) cc p = Except.ok (x, p + 1)) (g : (Reader.u1 (ε := DecodeError)) cc (p + 1) = Except.ok (y, p + 2)) : (Reader.u2 (ε := DecodeError)) cc p = Except.ok (x * 256 + y, p + 2) := by
  show Except.bind ((Reader.u1 (ε := DecodeError)) cc p) _ = _
  rw [h]
  show Except.bind ((Reader.u1 (ε := DecodeError)) cc (p + 1)) _ = _
  rw [g]
  rfl
theorem qb_s2 {cc : ByteArray} {p x y : Nat} (h : (Reader.u1 (ε := DecodeError)) cc p = Except.ok (x, p + 1)) (g : (Reader.u1 (ε := DecodeError)) cc (p + 1) = Except.ok (y, p + 2)) : (Reader.s2 (ε := DecodeError)) cc p = Except.ok (Reader.signed 16 (x * 256 + y), p + 2) := by
  show Except.bind ((Reader.u2 (ε := DecodeError)) cc p) _ = _
  rw [qb_u2 h g]
  rfl
def Qb0_ (q : Nat × Instr) : Prop := ∀ (cc : ByteArray) (pc : Nat), (Reader.u1 (ε := DecodeError)) cc pc = Except.ok (q.1, pc + 1) → (Decoder.instr pc) cc pc = Except.ok (q.2, pc + 1)
def Qb1_ (q : Nat × (Nat → Instr)) : Prop := ∀ (cc : ByteArray) (pc x : Nat), (Reader.u1 (ε := DecodeError)) cc pc = Except.ok (q.1, pc + 1) → (Reader.u1 (ε := DecodeError)) cc (pc + 1) = Except.ok (x, pc + 2) → (Decoder.instr pc) cc pc = Except.ok (q.2 x, pc + 2)
def Qb2_ (q : Nat × (Nat → Nat → Instr)) : Prop := ∀ (cc : ByteArray) (pc x y : Nat), (Reader.u1 (ε := DecodeError)) cc pc = Except.ok (q.1, pc + 1) → (Reader.u1 (ε := DecodeError)) cc (pc + 1) = Except.ok (x, pc + 2) → (Reader.u1 (ε := DecodeError)) cc (pc + 2) = Except.ok (y, pc + 3) → (Decoder.instr pc) cc pc = Except.ok (q.2 x y, pc + 3)
set_option maxRecDepth 4000 in
theorem qb0_42 : Qb0_ (42, .aload_n 0) := fun cc pc h => by
  show Except.bind ((Reader.u1 (ε := DecodeError)) cc pc) _ = _
  rw [h]
  rfl
set_option maxRecDepth 4000 in
theorem qb0_27 : Qb0_ (27, .iload_n 1) := fun cc pc h => by
  show Except.bind ((Reader.u1 (ε := DecodeError)) cc pc) _ = _
  rw [h]
  rfl
set_option maxRecDepth 4000 in
theorem qb0_28 : Qb0_ (28, .iload_n 2) := fun cc pc h => by
  show Except.bind ((Reader.u1 (ε := DecodeError)) cc pc) _ = _
  rw [h]
  rfl
set_option maxRecDepth 4000 in
theorem qb0_29 : Qb0_ (29, .iload_n 3) := fun cc pc h => by
  show Except.bind ((Reader.u1 (ε := DecodeError)) cc pc) _ = _
  rw [h]
  rfl
set_option maxRecDepth 4000 in
theorem qb0_26 : Qb0_ (26, .iload_n 0) := fun cc pc h => by
  show Except.bind ((Reader.u1 (ε := DecodeError)) cc pc) _ = _
  rw [h]
  rfl
set_option maxRecDepth 4000 in
theorem qb0_43 : Qb0_ (43, .aload_n 1) := fun cc pc h => by
  show Except.bind ((Reader.u1 (ε := DecodeError)) cc pc) _ = _
  rw [h]
  rfl
set_option maxRecDepth 4000 in
theorem qb0_44 : Qb0_ (44, .aload_n 2) := fun cc pc h => by
  show Except.bind ((Reader.u1 (ε := DecodeError)) cc pc) _ = _
  rw [h]
  rfl
set_option maxRecDepth 4000 in
theorem qb0_45 : Qb0_ (45, .aload_n 3) := fun cc pc h => by
  show Except.bind ((Reader.u1 (ε := DecodeError)) cc pc) _ = _
  rw [h]
  rfl
set_option maxRecDepth 4000 in
theorem qb0_46 : Qb0_ (46, .iaload) := fun cc pc h => by
  show Except.bind ((Reader.u1 (ε := DecodeError)) cc pc) _ = _
  rw [h]
  rfl
set_option maxRecDepth 4000 in
theorem qb0_79 : Qb0_ (79, .iastore) := fun cc pc h => by
  show Except.bind ((Reader.u1 (ε := DecodeError)) cc pc) _ = _
  rw [h]
  rfl
set_option maxRecDepth 4000 in
theorem qb0_3 : Qb0_ (3, .iconst 0) := fun cc pc h => by
  show Except.bind ((Reader.u1 (ε := DecodeError)) cc pc) _ = _
  rw [h]
  rfl
set_option maxRecDepth 4000 in
theorem qb0_4 : Qb0_ (4, .iconst 1) := fun cc pc h => by
  show Except.bind ((Reader.u1 (ε := DecodeError)) cc pc) _ = _
  rw [h]
  rfl
set_option maxRecDepth 4000 in
theorem qb0_5 : Qb0_ (5, .iconst 2) := fun cc pc h => by
  show Except.bind ((Reader.u1 (ε := DecodeError)) cc pc) _ = _
  rw [h]
  rfl
set_option maxRecDepth 4000 in
theorem qb0_2 : Qb0_ (2, .iconst (-1)) := fun cc pc h => by
  show Except.bind ((Reader.u1 (ε := DecodeError)) cc pc) _ = _
  rw [h]
  rfl
set_option maxRecDepth 4000 in
theorem qb0_6 : Qb0_ (6, .iconst 3) := fun cc pc h => by
  show Except.bind ((Reader.u1 (ε := DecodeError)) cc pc) _ = _
  rw [h]
  rfl
set_option maxRecDepth 4000 in
theorem qb0_7 : Qb0_ (7, .iconst 4) := fun cc pc h => by
  show Except.bind ((Reader.u1 (ε := DecodeError)) cc pc) _ = _
  rw [h]
  rfl
set_option maxRecDepth 4000 in
theorem qb0_8 : Qb0_ (8, .iconst 5) := fun cc pc h => by
  show Except.bind ((Reader.u1 (ε := DecodeError)) cc pc) _ = _
  rw [h]
  rfl
set_option maxRecDepth 4000 in
theorem qb0_96 : Qb0_ (96, .iadd) := fun cc pc h => by
  show Except.bind ((Reader.u1 (ε := DecodeError)) cc pc) _ = _
  rw [h]
  rfl
set_option maxRecDepth 4000 in
theorem qb0_100 : Qb0_ (100, .isub) := fun cc pc h => by
  show Except.bind ((Reader.u1 (ε := DecodeError)) cc pc) _ = _
  rw [h]
  rfl
set_option maxRecDepth 4000 in
theorem qb0_104 : Qb0_ (104, .imul) := fun cc pc h => by
  show Except.bind ((Reader.u1 (ε := DecodeError)) cc pc) _ = _
  rw [h]
  rfl
set_option maxRecDepth 4000 in
theorem qb0_172 : Qb0_ (172, .ireturn) := fun cc pc h => by
  show Except.bind ((Reader.u1 (ε := DecodeError)) cc pc) _ = _
  rw [h]
  rfl
set_option maxRecDepth 4000 in
theorem qb0_177 : Qb0_ (177, .return_) := fun cc pc h => by
  show Except.bind ((Reader.u1 (ε := DecodeError)) cc pc) _ = _
  rw [h]
  rfl
set_option maxRecDepth 4000 in
theorem qb0_61 : Qb0_ (61, .istore_n 2) := fun cc pc h => by
  show Except.bind ((Reader.u1 (ε := DecodeError)) cc pc) _ = _
  rw [h]
  rfl
set_option maxRecDepth 4000 in
theorem qb0_62 : Qb0_ (62, .istore_n 3) := fun cc pc h => by
  show Except.bind ((Reader.u1 (ε := DecodeError)) cc pc) _ = _
  rw [h]
  rfl
set_option maxRecDepth 4000 in
theorem qb0_60 : Qb0_ (60, .istore_n 1) := fun cc pc h => by
  show Except.bind ((Reader.u1 (ε := DecodeError)) cc pc) _ = _
  rw [h]
  rfl
set_option maxRecDepth 4000 in
theorem qb0_59 : Qb0_ (59, .istore_n 0) := fun cc pc h => by
  show Except.bind ((Reader.u1 (ε := DecodeError)) cc pc) _ = _
  rw [h]
  rfl
set_option maxRecDepth 4000 in
theorem qb0_89 : Qb0_ (89, .dup) := fun cc pc h => by
  show Except.bind ((Reader.u1 (ε := DecodeError)) cc pc) _ = _
  rw [h]
  rfl
set_option maxRecDepth 4000 in
theorem qb0_92 : Qb0_ (92, .dup2) := fun cc pc h => by
  show Except.bind ((Reader.u1 (ε := DecodeError)) cc pc) _ = _
  rw [h]
  rfl
set_option maxRecDepth 4000 in
theorem qb0_87 : Qb0_ (87, .pop) := fun cc pc h => by
  show Except.bind ((Reader.u1 (ε := DecodeError)) cc pc) _ = _
  rw [h]
  rfl
set_option maxRecDepth 4000 in
theorem qb0_50 : Qb0_ (50, .aaload) := fun cc pc h => by
  show Except.bind ((Reader.u1 (ε := DecodeError)) cc pc) _ = _
  rw [h]
  rfl
set_option maxRecDepth 4000 in
theorem qb0_51 : Qb0_ (51, .baload) := fun cc pc h => by
  show Except.bind ((Reader.u1 (ε := DecodeError)) cc pc) _ = _
  rw [h]
  rfl
set_option maxRecDepth 4000 in
theorem qb0_84 : Qb0_ (84, .bastore) := fun cc pc h => by
  show Except.bind ((Reader.u1 (ε := DecodeError)) cc pc) _ = _
  rw [h]
  rfl
set_option maxRecDepth 4000 in
theorem qb0_190 : Qb0_ (190, .arraylength) := fun cc pc h => by
  show Except.bind ((Reader.u1 (ε := DecodeError)) cc pc) _ = _
  rw [h]
  rfl
set_option maxRecDepth 4000 in
theorem qb0_126 : Qb0_ (126, .iand) := fun cc pc h => by
  show Except.bind ((Reader.u1 (ε := DecodeError)) cc pc) _ = _
  rw [h]
  rfl
set_option maxRecDepth 4000 in
theorem qb0_128 : Qb0_ (128, .ior) := fun cc pc h => by
  show Except.bind ((Reader.u1 (ε := DecodeError)) cc pc) _ = _
  rw [h]
  rfl
set_option maxRecDepth 4000 in
theorem qb0_120 : Qb0_ (120, .ishl) := fun cc pc h => by
  show Except.bind ((Reader.u1 (ε := DecodeError)) cc pc) _ = _
  rw [h]
  rfl
set_option maxRecDepth 4000 in
theorem qb0_122 : Qb0_ (122, .ishr) := fun cc pc h => by
  show Except.bind ((Reader.u1 (ε := DecodeError)) cc pc) _ = _
  rw [h]
  rfl
set_option maxRecDepth 4000 in
theorem qb0_124 : Qb0_ (124, .iushr) := fun cc pc h => by
  show Except.bind ((Reader.u1 (ε := DecodeError)) cc pc) _ = _
  rw [h]
  rfl
set_option maxRecDepth 4000 in
theorem qb0_130 : Qb0_ (130, .ixor) := fun cc pc h => by
  show Except.bind ((Reader.u1 (ε := DecodeError)) cc pc) _ = _
  rw [h]
  rfl
set_option maxRecDepth 4000 in
theorem qb0_108 : Qb0_ (108, .idiv) := fun cc pc h => by
  show Except.bind ((Reader.u1 (ε := DecodeError)) cc pc) _ = _
  rw [h]
  rfl
set_option maxRecDepth 4000 in
theorem qb0_112 : Qb0_ (112, .irem) := fun cc pc h => by
  show Except.bind ((Reader.u1 (ε := DecodeError)) cc pc) _ = _
  rw [h]
  rfl
set_option maxRecDepth 4000 in
theorem qb0_116 : Qb0_ (116, .ineg) := fun cc pc h => by
  show Except.bind ((Reader.u1 (ε := DecodeError)) cc pc) _ = _
  rw [h]
  rfl
set_option maxRecDepth 4000 in
theorem qb0_133 : Qb0_ (133, .i2l) := fun cc pc h => by
  show Except.bind ((Reader.u1 (ε := DecodeError)) cc pc) _ = _
  rw [h]
  rfl
set_option maxRecDepth 4000 in
theorem qb0_136 : Qb0_ (136, .l2i) := fun cc pc h => by
  show Except.bind ((Reader.u1 (ε := DecodeError)) cc pc) _ = _
  rw [h]
  rfl
set_option maxRecDepth 4000 in
theorem qb0_9 : Qb0_ (9, .lconst 0) := fun cc pc h => by
  show Except.bind ((Reader.u1 (ε := DecodeError)) cc pc) _ = _
  rw [h]
  rfl
set_option maxRecDepth 4000 in
theorem qb0_10 : Qb0_ (10, .lconst 1) := fun cc pc h => by
  show Except.bind ((Reader.u1 (ε := DecodeError)) cc pc) _ = _
  rw [h]
  rfl
set_option maxRecDepth 4000 in
theorem qb0_30 : Qb0_ (30, .lload_n 0) := fun cc pc h => by
  show Except.bind ((Reader.u1 (ε := DecodeError)) cc pc) _ = _
  rw [h]
  rfl
set_option maxRecDepth 4000 in
theorem qb0_31 : Qb0_ (31, .lload_n 1) := fun cc pc h => by
  show Except.bind ((Reader.u1 (ε := DecodeError)) cc pc) _ = _
  rw [h]
  rfl
set_option maxRecDepth 4000 in
theorem qb0_32 : Qb0_ (32, .lload_n 2) := fun cc pc h => by
  show Except.bind ((Reader.u1 (ε := DecodeError)) cc pc) _ = _
  rw [h]
  rfl
set_option maxRecDepth 4000 in
theorem qb0_33 : Qb0_ (33, .lload_n 3) := fun cc pc h => by
  show Except.bind ((Reader.u1 (ε := DecodeError)) cc pc) _ = _
  rw [h]
  rfl
set_option maxRecDepth 4000 in
theorem qb0_47 : Qb0_ (47, .laload) := fun cc pc h => by
  show Except.bind ((Reader.u1 (ε := DecodeError)) cc pc) _ = _
  rw [h]
  rfl
set_option maxRecDepth 4000 in
theorem qb0_63 : Qb0_ (63, .lstore_n 0) := fun cc pc h => by
  show Except.bind ((Reader.u1 (ε := DecodeError)) cc pc) _ = _
  rw [h]
  rfl
set_option maxRecDepth 4000 in
theorem qb0_64 : Qb0_ (64, .lstore_n 1) := fun cc pc h => by
  show Except.bind ((Reader.u1 (ε := DecodeError)) cc pc) _ = _
  rw [h]
  rfl
set_option maxRecDepth 4000 in
theorem qb0_65 : Qb0_ (65, .lstore_n 2) := fun cc pc h => by
  show Except.bind ((Reader.u1 (ε := DecodeError)) cc pc) _ = _
  rw [h]
  rfl
set_option maxRecDepth 4000 in
theorem qb0_66 : Qb0_ (66, .lstore_n 3) := fun cc pc h => by
  show Except.bind ((Reader.u1 (ε := DecodeError)) cc pc) _ = _
  rw [h]
  rfl
set_option maxRecDepth 4000 in
theorem qb0_75 : Qb0_ (75, .astore_n 0) := fun cc pc h => by
  show Except.bind ((Reader.u1 (ε := DecodeError)) cc pc) _ = _
  rw [h]
  rfl
set_option maxRecDepth 4000 in
theorem qb0_76 : Qb0_ (76, .astore_n 1) := fun cc pc h => by
  show Except.bind ((Reader.u1 (ε := DecodeError)) cc pc) _ = _
  rw [h]
  rfl
set_option maxRecDepth 4000 in
theorem qb0_77 : Qb0_ (77, .astore_n 2) := fun cc pc h => by
  show Except.bind ((Reader.u1 (ε := DecodeError)) cc pc) _ = _
  rw [h]
  rfl
set_option maxRecDepth 4000 in
theorem qb0_78 : Qb0_ (78, .astore_n 3) := fun cc pc h => by
  show Except.bind ((Reader.u1 (ε := DecodeError)) cc pc) _ = _
  rw [h]
  rfl
set_option maxRecDepth 4000 in
theorem qb0_80 : Qb0_ (80, .lastore) := fun cc pc h => by
  show Except.bind ((Reader.u1 (ε := DecodeError)) cc pc) _ = _
  rw [h]
  rfl
set_option maxRecDepth 4000 in
theorem qb0_97 : Qb0_ (97, .ladd) := fun cc pc h => by
  show Except.bind ((Reader.u1 (ε := DecodeError)) cc pc) _ = _
  rw [h]
  rfl
set_option maxRecDepth 4000 in
theorem qb0_101 : Qb0_ (101, .lsub) := fun cc pc h => by
  show Except.bind ((Reader.u1 (ε := DecodeError)) cc pc) _ = _
  rw [h]
  rfl
set_option maxRecDepth 4000 in
theorem qb0_105 : Qb0_ (105, .lmul) := fun cc pc h => by
  show Except.bind ((Reader.u1 (ε := DecodeError)) cc pc) _ = _
  rw [h]
  rfl
set_option maxRecDepth 4000 in
theorem qb0_113 : Qb0_ (113, .lrem) := fun cc pc h => by
  show Except.bind ((Reader.u1 (ε := DecodeError)) cc pc) _ = _
  rw [h]
  rfl
set_option maxRecDepth 4000 in
theorem qb0_148 : Qb0_ (148, .lcmp) := fun cc pc h => by
  show Except.bind ((Reader.u1 (ε := DecodeError)) cc pc) _ = _
  rw [h]
  rfl
set_option maxRecDepth 4000 in
theorem qb0_173 : Qb0_ (173, .lreturn) := fun cc pc h => by
  show Except.bind ((Reader.u1 (ε := DecodeError)) cc pc) _ = _
  rw [h]
  rfl
set_option maxRecDepth 4000 in
theorem qb1_21 : Qb1_ (21, fun x => .iload x) := fun cc pc x h g => by
  show Except.bind ((Reader.u1 (ε := DecodeError)) cc pc) _ = _
  rw [h]
  show Except.bind ((Reader.u1 (ε := DecodeError)) cc (pc + 1)) _ = _
  rw [g]
  rfl
set_option maxRecDepth 4000 in
theorem qb1_54 : Qb1_ (54, fun x => .istore x) := fun cc pc x h g => by
  show Except.bind ((Reader.u1 (ε := DecodeError)) cc pc) _ = _
  rw [h]
  show Except.bind ((Reader.u1 (ε := DecodeError)) cc (pc + 1)) _ = _
  rw [g]
  rfl
set_option maxRecDepth 4000 in
theorem qb1_16 : Qb1_ (16, fun x => .bipush (Reader.signed 8 x)) := fun cc pc x h g => by
  show Except.bind ((Reader.u1 (ε := DecodeError)) cc pc) _ = _
  rw [h]
  show Except.bind ((Reader.s1 (ε := DecodeError)) cc (pc + 1)) _ = _
  rw [qb_s1 g]
  rfl
set_option maxRecDepth 4000 in
theorem qb1_25 : Qb1_ (25, fun x => .aload x) := fun cc pc x h g => by
  show Except.bind ((Reader.u1 (ε := DecodeError)) cc pc) _ = _
  rw [h]
  show Except.bind ((Reader.u1 (ε := DecodeError)) cc (pc + 1)) _ = _
  rw [g]
  rfl
set_option maxRecDepth 4000 in
theorem qb1_58 : Qb1_ (58, fun x => .astore x) := fun cc pc x h g => by
  show Except.bind ((Reader.u1 (ε := DecodeError)) cc pc) _ = _
  rw [h]
  show Except.bind ((Reader.u1 (ε := DecodeError)) cc (pc + 1)) _ = _
  rw [g]
  rfl
set_option maxRecDepth 4000 in
theorem qb1_18 : Qb1_ (18, fun x => .ldc x) := fun cc pc x h g => by
  show Except.bind ((Reader.u1 (ε := DecodeError)) cc pc) _ = _
  rw [h]
  show Except.bind ((Reader.u1 (ε := DecodeError)) cc (pc + 1)) _ = _
  rw [g]
  rfl
set_option maxRecDepth 4000 in
theorem qb1_22 : Qb1_ (22, fun x => .lload x) := fun cc pc x h g => by
  show Except.bind ((Reader.u1 (ε := DecodeError)) cc pc) _ = _
  rw [h]
  show Except.bind ((Reader.u1 (ε := DecodeError)) cc (pc + 1)) _ = _
  rw [g]
  rfl
set_option maxRecDepth 4000 in
theorem qb1_55 : Qb1_ (55, fun x => .lstore x) := fun cc pc x h g => by
  show Except.bind ((Reader.u1 (ε := DecodeError)) cc pc) _ = _
  rw [h]
  show Except.bind ((Reader.u1 (ε := DecodeError)) cc (pc + 1)) _ = _
  rw [g]
  rfl
set_option maxRecDepth 4000 in
theorem qb2_180 : Qb2_ (180, fun x y => .getfield (x * 256 + y)) := fun cc pc x y h g e => by
  show Except.bind ((Reader.u1 (ε := DecodeError)) cc pc) _ = _
  rw [h]
  show Except.bind ((Reader.u2 (ε := DecodeError)) cc (pc + 1)) _ = _
  rw [qb_u2 g e]
  rfl
set_option maxRecDepth 4000 in
theorem qb2_181 : Qb2_ (181, fun x y => .putfield (x * 256 + y)) := fun cc pc x y h g e => by
  show Except.bind ((Reader.u1 (ε := DecodeError)) cc pc) _ = _
  rw [h]
  show Except.bind ((Reader.u2 (ε := DecodeError)) cc (pc + 1)) _ = _
  rw [qb_u2 g e]
  rfl
set_option maxRecDepth 4000 in
theorem qb2_167 : Qb2_ (167, fun x y => .goto (Reader.signed 16 (x * 256 + y))) := fun cc pc x y h g e => by
  show Except.bind ((Reader.u1 (ε := DecodeError)) cc pc) _ = _
  rw [h]
  show Except.bind ((Reader.s2 (ε := DecodeError)) cc (pc + 1)) _ = _
  rw [qb_s2 g e]
  rfl
set_option maxRecDepth 4000 in
theorem qb2_153 : Qb2_ (153, fun x y => .ifCond .eq (Reader.signed 16 (x * 256 + y))) := fun cc pc x y h g e => by
  show Except.bind ((Reader.u1 (ε := DecodeError)) cc pc) _ = _
  rw [h]
  show Except.bind ((Reader.s2 (ε := DecodeError)) cc (pc + 1)) _ = _
  rw [qb_s2 g e]
  rfl
set_option maxRecDepth 4000 in
theorem qb2_154 : Qb2_ (154, fun x y => .ifCond .ne (Reader.signed 16 (x * 256 + y))) := fun cc pc x y h g e => by
  show Except.bind ((Reader.u1 (ε := DecodeError)) cc pc) _ = _
  rw [h]
  show Except.bind ((Reader.s2 (ε := DecodeError)) cc (pc + 1)) _ = _
  rw [qb_s2 g e]
  rfl
set_option maxRecDepth 4000 in
theorem qb2_155 : Qb2_ (155, fun x y => .ifCond .lt (Reader.signed 16 (x * 256 + y))) := fun cc pc x y h g e => by
  show Except.bind ((Reader.u1 (ε := DecodeError)) cc pc) _ = _
  rw [h]
  show Except.bind ((Reader.s2 (ε := DecodeError)) cc (pc + 1)) _ = _
  rw [qb_s2 g e]
  rfl
set_option maxRecDepth 4000 in
theorem qb2_156 : Qb2_ (156, fun x y => .ifCond .ge (Reader.signed 16 (x * 256 + y))) := fun cc pc x y h g e => by
  show Except.bind ((Reader.u1 (ε := DecodeError)) cc pc) _ = _
  rw [h]
  show Except.bind ((Reader.s2 (ε := DecodeError)) cc (pc + 1)) _ = _
  rw [qb_s2 g e]
  rfl
set_option maxRecDepth 4000 in
theorem qb2_157 : Qb2_ (157, fun x y => .ifCond .gt (Reader.signed 16 (x * 256 + y))) := fun cc pc x y h g e => by
  show Except.bind ((Reader.u1 (ε := DecodeError)) cc pc) _ = _
  rw [h]
  show Except.bind ((Reader.s2 (ε := DecodeError)) cc (pc + 1)) _ = _
  rw [qb_s2 g e]
  rfl
set_option maxRecDepth 4000 in
theorem qb2_158 : Qb2_ (158, fun x y => .ifCond .le (Reader.signed 16 (x * 256 + y))) := fun cc pc x y h g e => by
  show Except.bind ((Reader.u1 (ε := DecodeError)) cc pc) _ = _
  rw [h]
  show Except.bind ((Reader.s2 (ε := DecodeError)) cc (pc + 1)) _ = _
  rw [qb_s2 g e]
  rfl
set_option maxRecDepth 4000 in
theorem qb2_159 : Qb2_ (159, fun x y => .if_icmp .eq (Reader.signed 16 (x * 256 + y))) := fun cc pc x y h g e => by
  show Except.bind ((Reader.u1 (ε := DecodeError)) cc pc) _ = _
  rw [h]
  show Except.bind ((Reader.s2 (ε := DecodeError)) cc (pc + 1)) _ = _
  rw [qb_s2 g e]
  rfl
set_option maxRecDepth 4000 in
theorem qb2_160 : Qb2_ (160, fun x y => .if_icmp .ne (Reader.signed 16 (x * 256 + y))) := fun cc pc x y h g e => by
  show Except.bind ((Reader.u1 (ε := DecodeError)) cc pc) _ = _
  rw [h]
  show Except.bind ((Reader.s2 (ε := DecodeError)) cc (pc + 1)) _ = _
  rw [qb_s2 g e]
  rfl
set_option maxRecDepth 4000 in
theorem qb2_161 : Qb2_ (161, fun x y => .if_icmp .lt (Reader.signed 16 (x * 256 + y))) := fun cc pc x y h g e => by
  show Except.bind ((Reader.u1 (ε := DecodeError)) cc pc) _ = _
  rw [h]
  show Except.bind ((Reader.s2 (ε := DecodeError)) cc (pc + 1)) _ = _
  rw [qb_s2 g e]
  rfl
set_option maxRecDepth 4000 in
theorem qb2_162 : Qb2_ (162, fun x y => .if_icmp .ge (Reader.signed 16 (x * 256 + y))) := fun cc pc x y h g e => by
  show Except.bind ((Reader.u1 (ε := DecodeError)) cc pc) _ = _
  rw [h]
  show Except.bind ((Reader.s2 (ε := DecodeError)) cc (pc + 1)) _ = _
  rw [qb_s2 g e]
  rfl
set_option maxRecDepth 4000 in
theorem qb2_163 : Qb2_ (163, fun x y => .if_icmp .gt (Reader.signed 16 (x * 256 + y))) := fun cc pc x y h g e => by
  show Except.bind ((Reader.u1 (ε := DecodeError)) cc pc) _ = _
  rw [h]
  show Except.bind ((Reader.s2 (ε := DecodeError)) cc (pc + 1)) _ = _
  rw [qb_s2 g e]
  rfl
set_option maxRecDepth 4000 in
theorem qb2_164 : Qb2_ (164, fun x y => .if_icmp .le (Reader.signed 16 (x * 256 + y))) := fun cc pc x y h g e => by
  show Except.bind ((Reader.u1 (ε := DecodeError)) cc pc) _ = _
  rw [h]
  show Except.bind ((Reader.s2 (ε := DecodeError)) cc (pc + 1)) _ = _
  rw [qb_s2 g e]
  rfl
set_option maxRecDepth 4000 in
theorem qb2_132 : Qb2_ (132, fun x y => .iinc x (Reader.signed 8 y)) := fun cc pc x y h g e => by
  show Except.bind ((Reader.u1 (ε := DecodeError)) cc pc) _ = _
  rw [h]
  show Except.bind ((Reader.u1 (ε := DecodeError)) cc (pc + 1)) _ = _
  rw [g]
  show Except.bind ((Reader.s1 (ε := DecodeError)) cc (pc + 2)) _ = _
  rw [qb_s1 e]
  rfl
set_option maxRecDepth 4000 in
theorem qb2_17 : Qb2_ (17, fun x y => .sipush (Reader.signed 16 (x * 256 + y))) := fun cc pc x y h g e => by
  show Except.bind ((Reader.u1 (ε := DecodeError)) cc pc) _ = _
  rw [h]
  show Except.bind ((Reader.s2 (ε := DecodeError)) cc (pc + 1)) _ = _
  rw [qb_s2 g e]
  rfl
set_option maxRecDepth 4000 in
theorem qb2_19 : Qb2_ (19, fun x y => .ldc_w (x * 256 + y)) := fun cc pc x y h g e => by
  show Except.bind ((Reader.u1 (ε := DecodeError)) cc pc) _ = _
  rw [h]
  show Except.bind ((Reader.u2 (ε := DecodeError)) cc (pc + 1)) _ = _
  rw [qb_u2 g e]
  rfl
set_option maxRecDepth 4000 in
theorem qb2_20 : Qb2_ (20, fun x y => .ldc2_w (x * 256 + y)) := fun cc pc x y h g e => by
  show Except.bind ((Reader.u1 (ε := DecodeError)) cc pc) _ = _
  rw [h]
  show Except.bind ((Reader.u2 (ε := DecodeError)) cc (pc + 1)) _ = _
  rw [qb_u2 g e]
  rfl
set_option maxRecDepth 4000 in
theorem qb2_198 : Qb2_ (198, fun x y => .ifnull (Reader.signed 16 (x * 256 + y))) := fun cc pc x y h g e => by
  show Except.bind ((Reader.u1 (ε := DecodeError)) cc pc) _ = _
  rw [h]
  show Except.bind ((Reader.s2 (ε := DecodeError)) cc (pc + 1)) _ = _
  rw [qb_s2 g e]
  rfl
set_option maxRecDepth 4000 in
theorem qb2_199 : Qb2_ (199, fun x y => .ifnonnull (Reader.signed 16 (x * 256 + y))) := fun cc pc x y h g e => by
  show Except.bind ((Reader.u1 (ε := DecodeError)) cc pc) _ = _
  rw [h]
  show Except.bind ((Reader.s2 (ε := DecodeError)) cc (pc + 1)) _ = _
  rw [qb_s2 g e]
  rfl
set_option maxRecDepth 4000 in
theorem qb2_182 : Qb2_ (182, fun x y => .invokevirtual (x * 256 + y)) := fun cc pc x y h g e => by
  show Except.bind ((Reader.u1 (ε := DecodeError)) cc pc) _ = _
  rw [h]
  show Except.bind ((Reader.u2 (ε := DecodeError)) cc (pc + 1)) _ = _
  rw [qb_u2 g e]
  rfl
set_option maxRecDepth 4000 in
theorem qb2_183 : Qb2_ (183, fun x y => .invokespecial (x * 256 + y)) := fun cc pc x y h g e => by
  show Except.bind ((Reader.u1 (ε := DecodeError)) cc pc) _ = _
  rw [h]
  show Except.bind ((Reader.u2 (ε := DecodeError)) cc (pc + 1)) _ = _
  rw [qb_u2 g e]
  rfl
set_option maxRecDepth 4000 in
theorem qb2_184 : Qb2_ (184, fun x y => .invokestatic (x * 256 + y)) := fun cc pc x y h g e => by
  show Except.bind ((Reader.u1 (ε := DecodeError)) cc pc) _ = _
  rw [h]
  show Except.bind ((Reader.u2 (ε := DecodeError)) cc (pc + 1)) _ = _
  rw [qb_u2 g e]
  rfl
def ql0_ : List (Nat × Instr) := [(42, .aload_n 0), (27, .iload_n 1), (28, .iload_n 2), (29, .iload_n 3), (26, .iload_n 0), (43, .aload_n 1), (44, .aload_n 2), (45, .aload_n 3), (46, .iaload), (79, .iastore), (3, .iconst 0), (4, .iconst 1), (5, .iconst 2), (2, .iconst (-1)), (6, .iconst 3), (7, .iconst 4), (8, .iconst 5), (96, .iadd), (100, .isub), (104, .imul), (172, .ireturn), (177, .return_), (61, .istore_n 2), (62, .istore_n 3), (60, .istore_n 1), (59, .istore_n 0), (89, .dup), (92, .dup2), (87, .pop), (50, .aaload), (51, .baload), (84, .bastore), (190, .arraylength), (126, .iand), (128, .ior), (120, .ishl), (122, .ishr), (124, .iushr), (130, .ixor), (108, .idiv), (112, .irem), (116, .ineg), (133, .i2l), (136, .l2i), (9, .lconst 0), (10, .lconst 1), (30, .lload_n 0), (31, .lload_n 1), (32, .lload_n 2), (33, .lload_n 3), (47, .laload), (63, .lstore_n 0), (64, .lstore_n 1), (65, .lstore_n 2), (66, .lstore_n 3), (75, .astore_n 0), (76, .astore_n 1), (77, .astore_n 2), (78, .astore_n 3), (80, .lastore), (97, .ladd), (101, .lsub), (105, .lmul), (113, .lrem), (148, .lcmp), (173, .lreturn)]
def ql1_ : List (Nat × (Nat → Instr)) := [(21, fun x => .iload x), (54, fun x => .istore x), (16, fun x => .bipush (Reader.signed 8 x)), (25, fun x => .aload x), (58, fun x => .astore x), (18, fun x => .ldc x), (22, fun x => .lload x), (55, fun x => .lstore x)]
def ql2_ : List (Nat × (Nat → Nat → Instr)) := [(180, fun x y => .getfield (x * 256 + y)), (181, fun x y => .putfield (x * 256 + y)), (167, fun x y => .goto (Reader.signed 16 (x * 256 + y))), (153, fun x y => .ifCond .eq (Reader.signed 16 (x * 256 + y))), (154, fun x y => .ifCond .ne (Reader.signed 16 (x * 256 + y))), (155, fun x y => .ifCond .lt (Reader.signed 16 (x * 256 + y))), (156, fun x y => .ifCond .ge (Reader.signed 16 (x * 256 + y))), (157, fun x y => .ifCond .gt (Reader.signed 16 (x * 256 + y))), (158, fun x y => .ifCond .le (Reader.signed 16 (x * 256 + y))), (159, fun x y => .if_icmp .eq (Reader.signed 16 (x * 256 + y))), (160, fun x y => .if_icmp .ne (Reader.signed 16 (x * 256 + y))), (161, fun x y => .if_icmp .lt (Reader.signed 16 (x * 256 + y))), (162, fun x y => .if_icmp .ge (Reader.signed 16 (x * 256 + y))), (163, fun x y => .if_icmp .gt (Reader.signed 16 (x * 256 + y))), (164, fun x y => .if_icmp .le (Reader.signed 16 (x * 256 + y))), (132, fun x y => .iinc x (Reader.signed 8 y)), (17, fun x y => .sipush (Reader.signed 16 (x * 256 + y))), (19, fun x y => .ldc_w (x * 256 + y)), (20, fun x y => .ldc2_w (x * 256 + y)), (198, fun x y => .ifnull (Reader.signed 16 (x * 256 + y))), (199, fun x y => .ifnonnull (Reader.signed 16 (x * 256 + y))), (182, fun x y => .invokevirtual (x * 256 + y)), (183, fun x y => .invokespecial (x * 256 + y)), (184, fun x y => .invokestatic (x * 256 + y))]
set_option maxRecDepth 4000 in
theorem qa0_ : ∀ q ∈ ql0_, Qb0_ q := List.forall_mem_cons.mpr ⟨qb0_42, List.forall_mem_cons.mpr ⟨qb0_27, List.forall_mem_cons.mpr ⟨qb0_28, List.forall_mem_cons.mpr ⟨qb0_29, List.forall_mem_cons.mpr ⟨qb0_26, List.forall_mem_cons.mpr ⟨qb0_43, List.forall_mem_cons.mpr ⟨qb0_44, List.forall_mem_cons.mpr ⟨qb0_45, List.forall_mem_cons.mpr ⟨qb0_46, List.forall_mem_cons.mpr ⟨qb0_79, List.forall_mem_cons.mpr ⟨qb0_3, List.forall_mem_cons.mpr ⟨qb0_4, List.forall_mem_cons.mpr ⟨qb0_5, List.forall_mem_cons.mpr ⟨qb0_2, List.forall_mem_cons.mpr ⟨qb0_6, List.forall_mem_cons.mpr ⟨qb0_7, List.forall_mem_cons.mpr ⟨qb0_8, List.forall_mem_cons.mpr ⟨qb0_96, List.forall_mem_cons.mpr ⟨qb0_100, List.forall_mem_cons.mpr ⟨qb0_104, List.forall_mem_cons.mpr ⟨qb0_172, List.forall_mem_cons.mpr ⟨qb0_177, List.forall_mem_cons.mpr ⟨qb0_61, List.forall_mem_cons.mpr ⟨qb0_62, List.forall_mem_cons.mpr ⟨qb0_60, List.forall_mem_cons.mpr ⟨qb0_59, List.forall_mem_cons.mpr ⟨qb0_89, List.forall_mem_cons.mpr ⟨qb0_92, List.forall_mem_cons.mpr ⟨qb0_87, List.forall_mem_cons.mpr ⟨qb0_50, List.forall_mem_cons.mpr ⟨qb0_51, List.forall_mem_cons.mpr ⟨qb0_84, List.forall_mem_cons.mpr ⟨qb0_190, List.forall_mem_cons.mpr ⟨qb0_126, List.forall_mem_cons.mpr ⟨qb0_128, List.forall_mem_cons.mpr ⟨qb0_120, List.forall_mem_cons.mpr ⟨qb0_122, List.forall_mem_cons.mpr ⟨qb0_124, List.forall_mem_cons.mpr ⟨qb0_130, List.forall_mem_cons.mpr ⟨qb0_108, List.forall_mem_cons.mpr ⟨qb0_112, List.forall_mem_cons.mpr ⟨qb0_116, List.forall_mem_cons.mpr ⟨qb0_133, List.forall_mem_cons.mpr ⟨qb0_136, List.forall_mem_cons.mpr ⟨qb0_9, List.forall_mem_cons.mpr ⟨qb0_10, List.forall_mem_cons.mpr ⟨qb0_30, List.forall_mem_cons.mpr ⟨qb0_31, List.forall_mem_cons.mpr ⟨qb0_32, List.forall_mem_cons.mpr ⟨qb0_33, List.forall_mem_cons.mpr ⟨qb0_47, List.forall_mem_cons.mpr ⟨qb0_63, List.forall_mem_cons.mpr ⟨qb0_64, List.forall_mem_cons.mpr ⟨qb0_65, List.forall_mem_cons.mpr ⟨qb0_66, List.forall_mem_cons.mpr ⟨qb0_75, List.forall_mem_cons.mpr ⟨qb0_76, List.forall_mem_cons.mpr ⟨qb0_77, List.forall_mem_cons.mpr ⟨qb0_78, List.forall_mem_cons.mpr ⟨qb0_80, List.forall_mem_cons.mpr ⟨qb0_97, List.forall_mem_cons.mpr ⟨qb0_101, List.forall_mem_cons.mpr ⟨qb0_105, List.forall_mem_cons.mpr ⟨qb0_113, List.forall_mem_cons.mpr ⟨qb0_148, List.forall_mem_cons.mpr ⟨qb0_173, fun _ h => absurd h List.not_mem_nil⟩⟩⟩⟩⟩⟩⟩⟩⟩⟩⟩⟩⟩⟩⟩⟩⟩⟩⟩⟩⟩⟩⟩⟩⟩⟩⟩⟩⟩⟩⟩⟩⟩⟩⟩⟩⟩⟩⟩⟩⟩⟩⟩⟩⟩⟩⟩⟩⟩⟩⟩⟩⟩⟩⟩⟩⟩⟩⟩⟩⟩⟩⟩⟩⟩⟩
set_option maxRecDepth 4000 in
theorem qa1_ : ∀ q ∈ ql1_, Qb1_ q := List.forall_mem_cons.mpr ⟨qb1_21, List.forall_mem_cons.mpr ⟨qb1_54, List.forall_mem_cons.mpr ⟨qb1_16, List.forall_mem_cons.mpr ⟨qb1_25, List.forall_mem_cons.mpr ⟨qb1_58, List.forall_mem_cons.mpr ⟨qb1_18, List.forall_mem_cons.mpr ⟨qb1_22, List.forall_mem_cons.mpr ⟨qb1_55, fun _ h => absurd h List.not_mem_nil⟩⟩⟩⟩⟩⟩⟩⟩
set_option maxRecDepth 4000 in
theorem qa2_ : ∀ q ∈ ql2_, Qb2_ q := List.forall_mem_cons.mpr ⟨qb2_180, List.forall_mem_cons.mpr ⟨qb2_181, List.forall_mem_cons.mpr ⟨qb2_167, List.forall_mem_cons.mpr ⟨qb2_153, List.forall_mem_cons.mpr ⟨qb2_154, List.forall_mem_cons.mpr ⟨qb2_155, List.forall_mem_cons.mpr ⟨qb2_156, List.forall_mem_cons.mpr ⟨qb2_157, List.forall_mem_cons.mpr ⟨qb2_158, List.forall_mem_cons.mpr ⟨qb2_159, List.forall_mem_cons.mpr ⟨qb2_160, List.forall_mem_cons.mpr ⟨qb2_161, List.forall_mem_cons.mpr ⟨qb2_162, List.forall_mem_cons.mpr ⟨qb2_163, List.forall_mem_cons.mpr ⟨qb2_164, List.forall_mem_cons.mpr ⟨qb2_132, List.forall_mem_cons.mpr ⟨qb2_17, List.forall_mem_cons.mpr ⟨qb2_19, List.forall_mem_cons.mpr ⟨qb2_20, List.forall_mem_cons.mpr ⟨qb2_198, List.forall_mem_cons.mpr ⟨qb2_199, List.forall_mem_cons.mpr ⟨qb2_182, List.forall_mem_cons.mpr ⟨qb2_183, List.forall_mem_cons.mpr ⟨qb2_184, fun _ h => absurd h List.not_mem_nil⟩⟩⟩⟩⟩⟩⟩⟩⟩⟩⟩⟩⟩⟩⟩⟩⟩⟩⟩⟩⟩⟩⟩⟩
def qf_ {α : Type} (n : Nat) : List (Nat × α) → Option α
  | [] => none
  | q :: l => match Nat.beq q.1 n with
    | true => some q.2
    | false => qf_ n l
theorem qf_m {α : Type} {n : Nat} {v : α} : ∀ l : List (Nat × α), qf_ n l = some v → (n, v) ∈ l
  | [], h => by cases h
  | q :: l, h => by
    unfold qf_ at h
    cases hb : Nat.beq q.1 n with
    | true =>
      rw [hb] at h
      have e1 : q.1 = n := Nat.eq_of_beq_eq_true hb
      have e2 : q.2 = v := Option.some.inj h
      rw [← e1, ← e2]
      exact List.mem_cons_self
    | false =>
      rw [hb] at h
      exact List.mem_cons_of_mem _ (qf_m l h)
def qor_ {α : Type} (a b : Option α) : Option α := match a with
  | some x => some x
  | none => b
def qmp_ {α β : Type} (f : α → β) (a : Option α) : Option β := match a with
  | some x => some (f x)
  | none => none
theorem qor_s {α : Type} {a b : Option α} {v : α} (h : qor_ a b = some v) : a = some v ∨ b = some v := by
  cases a with
  | some x => exact Or.inl h
  | none => exact Or.inr h
theorem qmp_s {α β : Type} {f : α → β} {a : Option α} {v : β} (h : qmp_ f a = some v) : ∃ x, a = some x ∧ f x = v := by
  cases a with
  | some x => exact ⟨x, rfl, Option.some.inj h⟩
  | none => cases h
/-- the instruction at the head of a row of bytes -/
def qe2_ (b : Nat) (x : UInt8) : List UInt8 → Option (Instr × Nat)
  | [] => none
  | y :: _ => qmp_ (fun f => (f x.toNat y.toNat, 3)) (qf_ b ql2_)
def qe1_ (b : Nat) : List UInt8 → Option (Instr × Nat)
  | [] => none
  | x :: r => qor_ (qmp_ (fun f => (f x.toNat, 2)) (qf_ b ql1_)) (qe2_ b x r)
def qd_ : List UInt8 → Option (Instr × Nat)
  | [] => none
  | b :: r => qor_ (qmp_ (fun i => (i, 1)) (qf_ b.toNat ql0_)) (qe1_ b.toNat r)
theorem qd_e2 {cc : ByteArray} {pc : Nat} {x : Instr} {n : Nat} {b c : UInt8} (u0 : (Reader.u1 (ε := DecodeError)) cc pc = Except.ok (b.toNat, pc + 1)) (u1 : (Reader.u1 (ε := DecodeError)) cc (pc + 1) = Except.ok (c.toNat, pc + 2)) : ∀ r : List UInt8, cc.data.toList.drop (pc + 2) = r → qe2_ b.toNat c r = some (x, n) → decode cc pc = Except.ok (x, n)
  | [], _, h => by cases h
  | y :: r, d2, h => by
    obtain ⟨f, h2, e⟩ := qmp_s h
    have e1 : f c.toNat y.toNat = x := congrArg Prod.fst e
    have e2 : 3 = n := congrArg Prod.snd e
    have g := qb_d (qa2_ _ (qf_m _ h2) cc pc c.toNat y.toNat u0 u1 (qb_u1 d2))
    rw [← e1, ← e2, g, show pc + 3 - pc = 3 by omega]
theorem qd_e1 {cc : ByteArray} {pc : Nat} {x : Instr} {n : Nat} {b : UInt8} (u0 : (Reader.u1 (ε := DecodeError)) cc pc = Except.ok (b.toNat, pc + 1)) : ∀ r : List UInt8, cc.data.toList.drop (pc + 1) = r → qe1_ b.toNat r = some (x, n) → decode cc pc = Except.ok (x, n)
  | [], _, h => by cases h
  | c :: r, d1, h => by
    have u1 := qb_u1 d1
    have d2 : cc.data.toList.drop (pc + 2) = r := by
      rw [show pc + 2 = pc + 1 + 1 by omega, ← List.drop_drop, d1]
      rfl
    rcases qor_s h with h | h
    · obtain ⟨f, h1, e⟩ := qmp_s h
      have e1 : f c.toNat = x := congrArg Prod.fst e
      have e2 : 2 = n := congrArg Prod.snd e
      have g := qb_d (qa1_ _ (qf_m _ h1) cc pc c.toNat u0 u1)
      rw [← e1, ← e2, g, show pc + 2 - pc = 2 by omega]
    · exact qd_e2 u0 u1 r d2 h
theorem qd_s {cc : ByteArray} {pc : Nat} {x : Instr} {n : Nat} : ∀ l : List UInt8, cc.data.toList.drop pc = l → qd_ l = some (x, n) → decode cc pc = Except.ok (x, n)
  | [], _, h => by cases h
  | b :: r, hl, h => by
    have u0 := qb_u1 hl
    have d1 : cc.data.toList.drop (pc + 1) = r := by
      rw [← List.drop_drop, hl]
      rfl
    rcases qor_s h with h | h
    · obtain ⟨i, h0, e⟩ := qmp_s h
      have e1 : i = x := congrArg Prod.fst e
      have e2 : 1 = n := congrArg Prod.snd e
      have g := qb_d (qa0_ _ (qf_m _ h0) cc pc u0)
      rw [← e1, ← e2, g, show pc + 1 - pc = 1 by omega]
    · exact qd_e1 u0 r d1 h
/-- a place at which a call is made -/
theorem qd_c {cc : ByteArray} {pc : Nat} {x : Instr} {n : Nat} (h : qd_ (cc.data.toList.drop pc) = some (x, n)) : decode cc pc = Except.ok (x, n) := qd_s _ rfl h
/-- decoding, by the row of bytes where that serves -/
def qdec_ (cc : ByteArray) (pc : Nat) : Except DecodeError (Instr × Nat) := match qd_ (cc.data.toList.drop pc) with
  | some q => Except.ok q
  | none => decode cc pc
theorem qdec_e (cc : ByteArray) (pc : Nat) : qdec_ cc pc = decode cc pc := by
  unfold qdec_
  cases h : qd_ (cc.data.toList.drop pc) with
  | none => rfl
  | some q =>
    obtain ⟨x, n⟩ := q
    exact (qd_c h).symm
def qck_ (F : Zf) (ret : Option FieldType) : List UInt8 → Int → List Instr → Int → Bool
  | _, pc, [], pe => decide (pc = pe)
  | l, pc, i :: r, pe => match qd_ l with
    | some (x, n) => decide (no_ F ret pc x = some (de_ i)) && decide (n = il_ x) && qck_ F ret (l.drop n) (pc + (n : Int)) r pe
    | none => false
theorem qck_s {F : Zf} {ret : Option FieldType} {cc : ByteArray} : ∀ (ins : List Instr) (pc : Int) (l : List UInt8) (pe : Int), 0 ≤ pc → cc.data.toList.drop pc.toNat = l → qck_ F ret l pc ins pe = true → ck_ F ret cc pc ins pe = true
  | [], pc, l, pe, _, _, h => by
    unfold qck_ at h
    unfold ck_
    exact h
  | i :: r, pc, l, pe, hp, hl, h => by
    unfold qck_ at h
    cases hf : qd_ l with
    | none =>
      rw [hf] at h
      cases h
    | some q =>
      obtain ⟨x, n⟩ := q
      rw [hf] at h
      have h' : (decide (no_ F ret pc x = some (de_ i)) && decide (n = il_ x) && qck_ F ret (l.drop n) (pc + (n : Int)) r pe) = true := h
      have d := qd_s l hl hf
      rw [Bool.and_eq_true] at h'
      have g := qck_s (F := F) (ret := ret) (cc := cc) r (pc + (n : Int)) (l.drop n) pe (by omega) (by rw [show (pc + (n : Int)).toNat = pc.toNat + n by omega, ← List.drop_drop, hl]) h'.2
      unfold ck_
      rw [d]
      show (decide (no_ F ret pc x = some (de_ i)) && decide (n = il_ x) && ck_ F ret cc (pc + (n : Int)) r pe) = true
      rw [Bool.and_eq_true]
      exact ⟨h'.1, g⟩

