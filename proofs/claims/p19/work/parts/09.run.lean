-- a class's links: getfields, putfields, constants
abbrev Zf : Type := List (Nat × Nat × Nat) × List (Nat × Nat × Nat) × List (Nat × Int) × List (Nat × Int)
def tb_ (own : String) (F : Zf) : Prop := (∀ q ∈ F.1, fl_ own q.1 q.2.1 q.2.2) ∧ (∀ q ∈ F.2.1, fp_ own q.1 q.2.1 q.2.2) ∧ (∀ q ∈ F.2.2.1, Cond.constant own q.1 (Int32.ofInt q.2) ∈ lw_g ∧ -2147483648 ≤ q.2 ∧ q.2 ≤ 2147483647) ∧ ∀ q ∈ F.2.2.2, Cond.constantLong own q.1 (Int64.ofInt q.2) ∈ lw_g ∧ -9223372036854775808 ≤ q.2 ∧ q.2 ≤ 9223372036854775807
/-- an instruction as the blocks have it -/
def no_ (F : Zf) (ret : Option FieldType) (pc : Int) (x : Instr) : Option Instr := match x with
  | .iconst n => if -2147483648 ≤ n ∧ n ≤ 2147483647 then some (.iconst n) else none
  | .bipush n => if -128 ≤ n ∧ n ≤ 127 then some (.iconst n) else none
  | .sipush n => if -32768 ≤ n ∧ n ≤ 32767 then some (.iconst n) else none
  | .ldc i => (F.2.2.1.find? fun q => q.1 == i).map fun q => .iconst q.2
  | .ldc_w i => (F.2.2.1.find? fun q => q.1 == i).map fun q => .iconst q.2
  | .ldc2_w i => (F.2.2.2.find? fun q => q.1 == i).map fun q => .sipush q.2
  | .lconst n => some (.sipush ((n : Nat) : Int))
  | .iload k => some (.iload k)
  | .iload_n k => some (.iload (k : Nat))
  | .aload k => some (.aload k)
  | .aload_n k => some (.aload (k : Nat))
  | .lload k => some (.lload k)
  | .lload_n k => some (.lload (k : Nat))
  | .istore k => some (.istore k)
  | .istore_n k => some (.istore (k : Nat))
  | .astore k => some (.astore k)
  | .astore_n k => some (.astore (k : Nat))
  | .lstore k => some (.lstore k)
  | .lstore_n k => some (.lstore (k : Nat))
  | .iinc k n => some (.iinc k n)
  | .goto off => if 0 ≤ pc + off then some (.goto (pc + off)) else none
  | .if_icmp c off => if 0 ≤ pc + off then some (.if_icmp c (pc + off)) else none
  | .ifCond c off => if 0 ≤ pc + off then some (.ifCond c (pc + off)) else none
  | .ifnull off => if 0 ≤ pc + off then some (.ifnull (pc + off)) else none
  | .ifnonnull off => if 0 ≤ pc + off then some (.ifnonnull (pc + off)) else none
  | .getfield i => (F.1.find? fun q => q.1 == i).map fun q => .tableswitch 0 (q.2.1 : Int) (q.2.2 : Int) #[]
  | .putfield i => (F.2.1.find? fun q => q.1 == i).map fun q => .tableswitch 1 (q.2.1 : Int) (q.2.2 : Int) #[]
  | .ireturn => if ret = some .int ∨ ret = some .boolean then some .ireturn else none
  | .lreturn => if ret = some .long then some .lreturn else none
  | .return_ => if ret = none then some .return_ else none
  | .iadd => some .iadd
  | .isub => some .isub
  | .imul => some .imul
  | .ineg => some .ineg
  | .idiv => some .idiv
  | .irem => some .irem
  | .iand => some .iand
  | .ior => some .ior
  | .ixor => some .ixor
  | .ishl => some .ishl
  | .ishr => some .ishr
  | .iushr => some .iushr
  | .i2l => some .i2l
  | .l2i => some .l2i
  | .ladd => some .ladd
  | .lsub => some .lsub
  | .lmul => some .lmul
  | .lrem => some .lrem
  | .lcmp => some .lcmp
  | .dup => some .dup
  | .dup2 => some .dup2
  | .pop => some .pop
  | .iaload => some .iaload
  | .baload => some .baload
  | .laload => some .laload
  | .aaload => some .aaload
  | .iastore => some .iastore
  | .bastore => some .bastore
  | .lastore => some .lastore
  | .arraylength => some .arraylength
  | _ => none
def il_ (x : Instr) : Nat := match x with
  | .bipush _ | .ldc _ | .iload _ | .aload _ | .lload _ | .istore _ | .astore _ | .lstore _ => 2
  | .sipush _ | .ldc_w _ | .ldc2_w _ | .iinc _ _ | .goto _ | .if_icmp _ _ | .ifCond _ _ | .ifnull _ | .ifnonnull _ | .getfield _ | .putfield _ => 3
  | _ => 1
/-- the wrapping forms stand for the plain ones -/
def de_ (i : Instr) : Instr := match i with
  | .fadd => .iadd
  | .fsub => .isub
  | .fmul => .imul
  | .fneg => .ineg
  | .fdiv => .idiv
  | .frem => .irem
  | .dadd => .ladd
  | .dsub => .lsub
  | .dmul => .lmul
  | i => i
theorem de_inv (i y : Instr) (h : de_ i = y) : i = y ∨ (i = .fadd ∧ y = .iadd) ∨ (i = .fsub ∧ y = .isub) ∨ (i = .fmul ∧ y = .imul) ∨ (i = .fneg ∧ y = .ineg) ∨ (i = .fdiv ∧ y = .idiv) ∨ (i = .frem ∧ y = .irem) ∨ (i = .dadd ∧ y = .ladd) ∨ (i = .dsub ∧ y = .lsub) ∨ (i = .dmul ∧ y = .lmul) := by
  cases i <;> first | exact Or.inl h | exact Or.inr (Or.inl ⟨rfl, h.symm⟩) | exact Or.inr (Or.inr (Or.inl ⟨rfl, h.symm⟩)) | exact Or.inr (Or.inr (Or.inr (Or.inl ⟨rfl, h.symm⟩))) | exact Or.inr (Or.inr (Or.inr (Or.inr (Or.inl ⟨rfl, h.symm⟩)))) | exact Or.inr (Or.inr (Or.inr (Or.inr (Or.inr (Or.inl ⟨rfl, h.symm⟩))))) | exact Or.inr (Or.inr (Or.inr (Or.inr (Or.inr (Or.inr (Or.inl ⟨rfl, h.symm⟩)))))) | exact Or.inr (Or.inr (Or.inr (Or.inr (Or.inr (Or.inr (Or.inr (Or.inl ⟨rfl, h.symm⟩))))))) | exact Or.inr (Or.inr (Or.inr (Or.inr (Or.inr (Or.inr (Or.inr (Or.inr (Or.inl ⟨rfl, h.symm⟩)))))))) | exact Or.inr (Or.inr (Or.inr (Or.inr (Or.inr (Or.inr (Or.inr (Or.inr (Or.inr (⟨rfl, h.symm⟩)))))))))
def nsq_ (y : Instr) : Bool := match y with
  | .iadd => false
  | .isub => false
  | .imul => false
  | .ineg => false
  | .idiv => false
  | .irem => false
  | .ladd => false
  | .lsub => false
  | .lmul => false
  | _ => true
theorem de_n {i y : Instr} (h : de_ i = y) (hy : nsq_ y = true) : i = y := by
  subst h
  cases i <;> first | rfl | exact absurd hy (by decide)
def ck_ (F : Zf) (ret : Option FieldType) (cc : ByteArray) : Int → List Instr → Int → Bool
  | pc, [], pe => decide (pc = pe)
  | pc, i :: r, pe => match decode cc pc.toNat with
    | .ok (x, n) => decide (no_ F ret pc x = some (de_ i)) && decide (n = il_ x) && ck_ F ret cc (pc + (n : Int)) r pe
    | .error _ => false
section JS
variable {Y : Zm} {T0 T : Zt} {P : Zt → Option Zv → Prop} {bc bs : Nat} {pc pe : Int} {ls : Zl} {st : List Zv}
set_option maxHeartbeats 4000000 in
theorem sx_one {F : Zf} (hF : tb_ Y.1 F) (hz : Y.2.2.2.1 = some .boolean → ∀ T x, P T (some (vI x)) → 0 ≤ x ∧ x ≤ 1) {x i : Instr} {n : Nat} {r : List Instr} (hp : 0 ≤ pc) (hd : decode Y.2.1 pc.toNat = .ok (x, n)) (hno : no_ F Y.2.2.2.1 pc x = some (de_ i)) (hn : n = il_ x) (h : sx_ (J_ Y T0 P bc bs) P (i :: r) pe ls st T) (ih : ∀ ls st T, sx_ (J_ Y T0 P bc bs) P r pe ls st T → J_ Y T0 P bc bs (pc + (n : Int)) ls st T) : J_ Y T0 P bc bs pc ls st T := by
  cases x
  case iconst n0 =>
    simp only [no_] at hno
    split at hno
    · rename_i hg
      subst hn
      have hi : de_ i = .iconst n0 := (Option.some.inj hno).symm
      obtain rfl : i = .iconst n0 := de_n hi rfl
      exact j_iconst hg.1 hg.2 hd hp (ih _ _ _ h)
    · cases hno
  case bipush n0 =>
    simp only [no_] at hno
    split at hno
    · rename_i hg
      subst hn
      have hi : de_ i = .iconst n0 := (Option.some.inj hno).symm
      obtain rfl : i = .iconst n0 := de_n hi rfl
      exact j_bipush hg.1 hg.2 hd hp (ih _ _ _ h)
    · cases hno
  case sipush n0 =>
    simp only [no_] at hno
    split at hno
    · rename_i hg
      subst hn
      have hi : de_ i = .iconst n0 := (Option.some.inj hno).symm
      obtain rfl : i = .iconst n0 := de_n hi rfl
      exact j_sipush hg.1 hg.2 hd hp (ih _ _ _ h)
    · cases hno
  case ldc i0 =>
    simp only [no_] at hno
    cases hq : F.2.2.1.find? fun q => q.1 == i0 with
    | none => rw [hq] at hno; cases hno
    | some q =>
      rw [hq] at hno
      have hm := List.mem_of_find?_eq_some hq
      have he := List.find?_some hq
      simp only [beq_iff_eq] at he
      obtain ⟨q1, q2⟩ := q
      simp only at he
      subst he
      subst hn
      have hi : de_ i = .iconst q2 := (Option.some.inj hno).symm
      obtain rfl : i = .iconst q2 := de_n hi rfl
      have hc := hF.2.2.1 _ hm
      exact j_ldc hc.2.1 hc.2.2 hc.1 hd hp (ih _ _ _ h)
  case ldc_w i0 =>
    simp only [no_] at hno
    cases hq : F.2.2.1.find? fun q => q.1 == i0 with
    | none => rw [hq] at hno; cases hno
    | some q =>
      rw [hq] at hno
      have hm := List.mem_of_find?_eq_some hq
      have he := List.find?_some hq
      simp only [beq_iff_eq] at he
      obtain ⟨q1, q2⟩ := q
      simp only at he
      subst he
      subst hn
      have hi : de_ i = .iconst q2 := (Option.some.inj hno).symm
      obtain rfl : i = .iconst q2 := de_n hi rfl
      have hc := hF.2.2.1 _ hm
      exact j_ldcw hc.2.1 hc.2.2 hc.1 hd hp (ih _ _ _ h)
  case ldc2_w i0 =>
    simp only [no_] at hno
    cases hq : F.2.2.2.find? fun q => q.1 == i0 with
    | none => rw [hq] at hno; cases hno
    | some q =>
      rw [hq] at hno
      have hm := List.mem_of_find?_eq_some hq
      have he := List.find?_some hq
      simp only [beq_iff_eq] at he
      obtain ⟨q1, q2⟩ := q
      simp only at he
      subst he
      subst hn
      have hi : de_ i = .sipush q2 := (Option.some.inj hno).symm
      obtain rfl : i = .sipush q2 := de_n hi rfl
      have hc := hF.2.2.2 _ hm
      exact j_ldc2 hc.2.1 hc.2.2 hc.1 hd hp (ih _ _ _ h)
  case lconst n0 =>
    subst hn
    have hi : de_ i = .sipush ((n0 : Nat) : Int) := (Option.some.inj hno).symm
    obtain rfl : i = .sipush ((n0 : Nat) : Int) := de_n hi rfl
    exact j_lconst hd hp (ih _ _ _ h)
  case iload k0 =>
    subst hn
    have hi : de_ i = .iload k0 := (Option.some.inj hno).symm
    obtain rfl : i = .iload k0 := de_n hi rfl
    simp only [sx_] at h
    split at h
    · rename_i hk
      exact j_iload hk hd hp (ih _ _ _ h)
    · exact h.elim
  case iload_n k0 =>
    subst hn
    have hi : de_ i = .iload (k0 : Nat) := (Option.some.inj hno).symm
    obtain rfl : i = .iload (k0 : Nat) := de_n hi rfl
    simp only [sx_] at h
    split at h
    · rename_i hk
      exact j_iload_n hk hd hp (ih _ _ _ h)
    · exact h.elim
  case aload k0 =>
    subst hn
    have hi : de_ i = .aload k0 := (Option.some.inj hno).symm
    obtain rfl : i = .aload k0 := de_n hi rfl
    simp only [sx_] at h
    split at h
    · rename_i hk
      exact j_aload hk hd hp (ih _ _ _ h)
    · exact h.elim
  case aload_n k0 =>
    subst hn
    have hi : de_ i = .aload (k0 : Nat) := (Option.some.inj hno).symm
    obtain rfl : i = .aload (k0 : Nat) := de_n hi rfl
    simp only [sx_] at h
    split at h
    · rename_i hk
      exact j_aload_n hk hd hp (ih _ _ _ h)
    · exact h.elim
  case lload k0 =>
    subst hn
    have hi : de_ i = .lload k0 := (Option.some.inj hno).symm
    obtain rfl : i = .lload k0 := de_n hi rfl
    simp only [sx_] at h
    split at h
    · rename_i hk
      exact j_lload hk hd hp (ih _ _ _ h)
    · exact h.elim
  case lload_n k0 =>
    subst hn
    have hi : de_ i = .lload (k0 : Nat) := (Option.some.inj hno).symm
    obtain rfl : i = .lload (k0 : Nat) := de_n hi rfl
    simp only [sx_] at h
    split at h
    · rename_i hk
      exact j_lload_n hk hd hp (ih _ _ _ h)
    · exact h.elim
  case istore k0 =>
    subst hn
    have hi : de_ i = .istore k0 := (Option.some.inj hno).symm
    obtain rfl : i = .istore k0 := de_n hi rfl
    simp only [sx_] at h
    split at h
    · obtain ⟨a1, a2, a3⟩ := st_spec h
      exact j_istore hp hd a1 a2 (ih _ _ _ a3)
    · exact h.elim
  case istore_n k0 =>
    subst hn
    have hi : de_ i = .istore (k0 : Nat) := (Option.some.inj hno).symm
    obtain rfl : i = .istore (k0 : Nat) := de_n hi rfl
    simp only [sx_] at h
    split at h
    · obtain ⟨a1, a2, a3⟩ := st_spec h
      exact j_istore_n hp hd a1 a2 (ih _ _ _ a3)
    · exact h.elim
  case astore k0 =>
    subst hn
    have hi : de_ i = .astore k0 := (Option.some.inj hno).symm
    obtain rfl : i = .astore k0 := de_n hi rfl
    simp only [sx_] at h
    split at h
    · obtain ⟨a1, a2, a3⟩ := st_spec h
      exact j_astore hp hd a1 a2 (ih _ _ _ a3)
    · exact h.elim
  case astore_n k0 =>
    subst hn
    have hi : de_ i = .astore (k0 : Nat) := (Option.some.inj hno).symm
    obtain rfl : i = .astore (k0 : Nat) := de_n hi rfl
    simp only [sx_] at h
    split at h
    · obtain ⟨a1, a2, a3⟩ := st_spec h
      exact j_astore_n hp hd a1 a2 (ih _ _ _ a3)
    · exact h.elim
  case lstore k0 =>
    subst hn
    have hi : de_ i = .lstore k0 := (Option.some.inj hno).symm
    obtain rfl : i = .lstore k0 := de_n hi rfl
    simp only [sx_] at h
    split at h
    · obtain ⟨a1, a2, a3⟩ := st_spec h
      obtain ⟨b1, b2, b3⟩ := st_spec a3
      obtain ⟨c1, c2, c3⟩ := st_spec b3
      rw [List.length_set] at b1
      exact j_lstore hp hd b1 a2 (ih _ _ _ c3)
    · exact h.elim
  case lstore_n k0 =>
    subst hn
    have hi : de_ i = .lstore (k0 : Nat) := (Option.some.inj hno).symm
    obtain rfl : i = .lstore (k0 : Nat) := de_n hi rfl
    simp only [sx_] at h
    split at h
    · obtain ⟨a1, a2, a3⟩ := st_spec h
      obtain ⟨b1, b2, b3⟩ := st_spec a3
      obtain ⟨c1, c2, c3⟩ := st_spec b3
      rw [List.length_set] at b1
      exact j_lstore_n hp hd b1 a2 (ih _ _ _ c3)
    · exact h.elim
  case iinc k0 n0 =>
    subst hn
    have hi : de_ i = .iinc k0 n0 := (Option.some.inj hno).symm
    obtain rfl : i = .iinc k0 n0 := de_n hi rfl
    simp only [sx_] at h
    split at h
    · rename_i hk
      obtain ⟨a1, a2, a3⟩ := st_spec h.2.2
      exact j_iinc hp hd hk h.1 h.2.1 a2 (ih _ _ _ a3)
    · exact h.elim
  case iadd =>
    subst hn
    have hi : de_ i = .iadd := (Option.some.inj hno).symm
    have hi2 : i = .iadd ∨ i = .fadd := by
      rcases de_inv i _ hi with q | q | q | q | q | q | q | q | q | q
      · exact Or.inl q
      all_goals first | exact Or.inr q.1 | exact absurd q.2 (by simp)
    rcases hi2 with rfl | rfl
    · simp only [sx_] at h
      split at h
      · exact j_iadd h.1 h.2.1 hd hp (ih _ _ _ h.2.2)
      · exact h.elim
    · simp only [sx_] at h
      split at h
      · exact j_iaddw hd hp (ih _ _ _ (h (wr_r _).1 (wr_r _).2))
      · exact h.elim
  case isub =>
    subst hn
    have hi : de_ i = .isub := (Option.some.inj hno).symm
    have hi2 : i = .isub ∨ i = .fsub := by
      rcases de_inv i _ hi with q | q | q | q | q | q | q | q | q | q
      · exact Or.inl q
      all_goals first | exact Or.inr q.1 | exact absurd q.2 (by simp)
    rcases hi2 with rfl | rfl
    · simp only [sx_] at h
      split at h
      · exact j_isub h.1 h.2.1 hd hp (ih _ _ _ h.2.2)
      · exact h.elim
    · simp only [sx_] at h
      split at h
      · exact j_isubw hd hp (ih _ _ _ (h (wr_r _).1 (wr_r _).2))
      · exact h.elim
  case imul =>
    subst hn
    have hi : de_ i = .imul := (Option.some.inj hno).symm
    have hi2 : i = .imul ∨ i = .fmul := by
      rcases de_inv i _ hi with q | q | q | q | q | q | q | q | q | q
      · exact Or.inl q
      all_goals first | exact Or.inr q.1 | exact absurd q.2 (by simp)
    rcases hi2 with rfl | rfl
    · simp only [sx_] at h
      split at h
      · exact j_imul h.1 h.2.1 hd hp (ih _ _ _ h.2.2)
      · exact h.elim
    · simp only [sx_] at h
      split at h
      · exact j_imulw hd hp (ih _ _ _ (h (wr_r _).1 (wr_r _).2))
      · exact h.elim
  case ineg =>
    subst hn
    have hi : de_ i = .ineg := (Option.some.inj hno).symm
    have hi2 : i = .ineg ∨ i = .fneg := by
      rcases de_inv i _ hi with q | q | q | q | q | q | q | q | q | q
      · exact Or.inl q
      all_goals first | exact Or.inr q.1 | exact absurd q.2 (by simp)
    rcases hi2 with rfl | rfl
    · simp only [sx_] at h
      split at h
      · exact j_ineg h.1 h.2.1 hd hp (ih _ _ _ h.2.2)
      · exact h.elim
    · simp only [sx_] at h
      split at h
      · exact j_inegw hd hp (ih _ _ _ (h (wr_r _).1 (wr_r _).2))
      · exact h.elim
  case idiv =>
    subst hn
    have hi : de_ i = .idiv := (Option.some.inj hno).symm
    have hi2 : i = .idiv ∨ i = .fdiv := by
      rcases de_inv i _ hi with q | q | q | q | q | q | q | q | q | q
      · exact Or.inl q
      all_goals first | exact Or.inr q.1 | exact absurd q.2 (by simp)
    rcases hi2 with rfl | rfl
    · simp only [sx_] at h
      split at h
      · exact j_idiv h.1 h.2.1 hd hp (ih _ _ _ h.2.2)
      · exact h.elim
    · simp only [sx_] at h
      split at h
      · exact j_idivq h.1 hd hp (ih _ _ _ (h.2 (i3_r _).1 (i3_r _).2))
      · exact h.elim
  case irem =>
    subst hn
    have hi : de_ i = .irem := (Option.some.inj hno).symm
    have hi2 : i = .irem ∨ i = .frem := by
      rcases de_inv i _ hi with q | q | q | q | q | q | q | q | q | q
      · exact Or.inl q
      all_goals first | exact Or.inr q.1 | exact absurd q.2 (by simp)
    rcases hi2 with rfl | rfl
    · simp only [sx_] at h
      split at h
      · exact j_irem h.1 h.2.1 hd hp (ih _ _ _ h.2.2)
      · exact h.elim
    · simp only [sx_] at h
      split at h
      · exact j_iremq h.1 hd hp (ih _ _ _ (h.2 (i3_r _).1 (i3_r _).2))
      · exact h.elim
  case iand =>
    subst hn
    have hi : de_ i = .iand := (Option.some.inj hno).symm
    obtain rfl : i = .iand := de_n hi rfl
    simp only [sx_] at h
    split at h
    · exact j_iand hd hp (ih _ _ _ (h (i3_r _).1 (i3_r _).2))
    · exact h.elim
  case ior =>
    subst hn
    have hi : de_ i = .ior := (Option.some.inj hno).symm
    obtain rfl : i = .ior := de_n hi rfl
    simp only [sx_] at h
    split at h
    · exact j_ior hd hp (ih _ _ _ (h (i3_r _).1 (i3_r _).2))
    · exact h.elim
  case ixor =>
    subst hn
    have hi : de_ i = .ixor := (Option.some.inj hno).symm
    obtain rfl : i = .ixor := de_n hi rfl
    simp only [sx_] at h
    split at h
    · exact j_ixor hd hp (ih _ _ _ (h (i3_r _).1 (i3_r _).2))
    · exact h.elim
  case ishl =>
    subst hn
    have hi : de_ i = .ishl := (Option.some.inj hno).symm
    obtain rfl : i = .ishl := de_n hi rfl
    simp only [sx_] at h
    split at h
    · exact j_ishl hd hp (ih _ _ _ (h (i3_r _).1 (i3_r _).2))
    · exact h.elim
  case ishr =>
    subst hn
    have hi : de_ i = .ishr := (Option.some.inj hno).symm
    obtain rfl : i = .ishr := de_n hi rfl
    simp only [sx_] at h
    split at h
    · exact j_ishr hd hp (ih _ _ _ (h (i3_r _).1 (i3_r _).2))
    · exact h.elim
  case iushr =>
    subst hn
    have hi : de_ i = .iushr := (Option.some.inj hno).symm
    obtain rfl : i = .iushr := de_n hi rfl
    simp only [sx_] at h
    split at h
    · exact j_iushr hd hp (ih _ _ _ (h (i3_r _).1 (i3_r _).2))
    · exact h.elim
  case i2l =>
    subst hn
    have hi : de_ i = .i2l := (Option.some.inj hno).symm
    obtain rfl : i = .i2l := de_n hi rfl
    simp only [sx_] at h
    split at h
    · exact j_i2l hd hp (ih _ _ _ h)
    · exact h.elim
  case l2i =>
    subst hn
    have hi : de_ i = .l2i := (Option.some.inj hno).symm
    obtain rfl : i = .l2i := de_n hi rfl
    simp only [sx_] at h
    split at h
    · exact j_l2i h.1 h.2.1 hd hp (ih _ _ _ h.2.2)
    · exact h.elim
  case lrem =>
    subst hn
    have hi : de_ i = .lrem := (Option.some.inj hno).symm
    obtain rfl : i = .lrem := de_n hi rfl
    simp only [sx_] at h
    split at h
    · exact j_lrem h.1 h.2.1 hd hp (ih _ _ _ h.2.2)
    · exact h.elim
  case ladd =>
    subst hn
    have hi : de_ i = .ladd := (Option.some.inj hno).symm
    have hi2 : i = .ladd ∨ i = .dadd := by
      rcases de_inv i _ hi with q | q | q | q | q | q | q | q | q | q
      · exact Or.inl q
      all_goals first | exact Or.inr q.1 | exact absurd q.2 (by simp)
    rcases hi2 with rfl | rfl
    · simp only [sx_] at h
      split at h
      · exact j_ladd h.1 h.2.1 hd hp (ih _ _ _ h.2.2)
      · exact h.elim
    · simp only [sx_] at h
      split at h
      · exact j_laddw hd hp (ih _ _ _ (h (wq_r _).1 (wq_r _).2))
      · exact h.elim
  case lsub =>
    subst hn
    have hi : de_ i = .lsub := (Option.some.inj hno).symm
    have hi2 : i = .lsub ∨ i = .dsub := by
      rcases de_inv i _ hi with q | q | q | q | q | q | q | q | q | q
      · exact Or.inl q
      all_goals first | exact Or.inr q.1 | exact absurd q.2 (by simp)
    rcases hi2 with rfl | rfl
    · simp only [sx_] at h
      split at h
      · exact j_lsub h.1 h.2.1 hd hp (ih _ _ _ h.2.2)
      · exact h.elim
    · simp only [sx_] at h
      split at h
      · exact j_lsubw hd hp (ih _ _ _ (h (wq_r _).1 (wq_r _).2))
      · exact h.elim
  case lmul =>
    subst hn
    have hi : de_ i = .lmul := (Option.some.inj hno).symm
    have hi2 : i = .lmul ∨ i = .dmul := by
      rcases de_inv i _ hi with q | q | q | q | q | q | q | q | q | q
      · exact Or.inl q
      all_goals first | exact Or.inr q.1 | exact absurd q.2 (by simp)
    rcases hi2 with rfl | rfl
    · simp only [sx_] at h
      split at h
      · exact j_lmul h.1 h.2.1 hd hp (ih _ _ _ h.2.2)
      · exact h.elim
    · simp only [sx_] at h
      split at h
      · exact j_lmulw hd hp (ih _ _ _ (h (wq_r _).1 (wq_r _).2))
      · exact h.elim
  case lcmp =>
    subst hn
    have hi : de_ i = .lcmp := (Option.some.inj hno).symm
    obtain rfl : i = .lcmp := de_n hi rfl
    simp only [sx_] at h
    split at h
    · rename_i y x st' 
      refine j_lcmp hd hp (ih _ _ _ ?_)
      by_cases a : x < y
      · rw [if_pos a]; exact h.1 a
      · by_cases b : x = y
        · rw [if_neg a, if_pos b]; exact h.2.1 b
        · rw [if_neg a, if_neg b]; exact h.2.2 (by omega)
    · exact h.elim
  case dup =>
    subst hn
    have hi : de_ i = .dup := (Option.some.inj hno).symm
    obtain rfl : i = .dup := de_n hi rfl
    simp only [sx_] at h
    split at h
    · exact j_dupi hd hp (ih _ _ _ h)
    · exact j_dupr hd hp (ih _ _ _ h)
    · exact h.elim
  case dup2 =>
    subst hn
    have hi : de_ i = .dup2 := (Option.some.inj hno).symm
    obtain rfl : i = .dup2 := de_n hi rfl
    simp only [sx_] at h
    split at h
    · exact j_dup2 hd hp (ih _ _ _ h)
    · exact h.elim
  case pop =>
    subst hn
    have hi : de_ i = .pop := (Option.some.inj hno).symm
    obtain rfl : i = .pop := de_n hi rfl
    simp only [sx_] at h
    split at h
    · exact j_popi hd hp (ih _ _ _ h)
    · exact j_popr hd hp (ih _ _ _ h)
    · exact h.elim
  case goto off =>
    simp only [no_] at hno
    split at hno
    · rename_i hg
      subst hn
      have hi : de_ i = .goto (pc + off) := (Option.some.inj hno).symm
      obtain rfl : i = .goto (pc + off) := de_n hi rfl
      exact j_jump hp hg rfl hd h
    · cases hno
  case if_icmp cnd off =>
    simp only [no_] at hno
    split at hno
    · rename_i hg
      subst hn
      have hi : de_ i = .if_icmp cnd (pc + off) := (Option.some.inj hno).symm
      obtain rfl : i = .if_icmp cnd (pc + off) := de_n hi rfl
      simp only [sx_] at h
      split at h
      · cases cnd
        case eq => exact j_icmp_eq hp hg rfl hd (fun q => h.1 q) (fun q => ih _ _ _ (h.2 q))
        case ne => exact j_icmp_ne hp hg rfl hd (fun q => h.1 q) (fun q => ih _ _ _ (h.2 q))
        case lt => exact j_icmp_lt hp hg rfl hd (fun q => h.1 q) (fun q => ih _ _ _ (h.2 q))
        case ge => exact j_icmp_ge hp hg rfl hd (fun q => h.1 q) (fun q => ih _ _ _ (h.2 q))
        case gt => exact j_icmp_gt hp hg rfl hd (fun q => h.1 q) (fun q => ih _ _ _ (h.2 q))
        case le => exact j_icmp_le hp hg rfl hd (fun q => h.1 q) (fun q => ih _ _ _ (h.2 q))
      · exact h.elim
    · cases hno
  case ifCond cnd off =>
    simp only [no_] at hno
    split at hno
    · rename_i hg
      subst hn
      have hi : de_ i = .ifCond cnd (pc + off) := (Option.some.inj hno).symm
      obtain rfl : i = .ifCond cnd (pc + off) := de_n hi rfl
      simp only [sx_] at h
      split at h
      · cases cnd
        case eq => exact j_if_eq hp hg rfl hd (fun q => h.1 q) (fun q => ih _ _ _ (h.2 q))
        case ne => exact j_if_ne hp hg rfl hd (fun q => h.1 q) (fun q => ih _ _ _ (h.2 q))
        case lt => exact j_if_lt hp hg rfl hd (fun q => h.1 q) (fun q => ih _ _ _ (h.2 q))
        case ge => exact j_if_ge hp hg rfl hd (fun q => h.1 q) (fun q => ih _ _ _ (h.2 q))
        case gt => exact j_if_gt hp hg rfl hd (fun q => h.1 q) (fun q => ih _ _ _ (h.2 q))
        case le => exact j_if_le hp hg rfl hd (fun q => h.1 q) (fun q => ih _ _ _ (h.2 q))
      · exact h.elim
    · cases hno
  case ifnull off =>
    simp only [no_] at hno
    split at hno
    · rename_i hg
      subst hn
      have hi : de_ i = .ifnull (pc + off) := (Option.some.inj hno).symm
      obtain rfl : i = .ifnull (pc + off) := de_n hi rfl
      simp only [sx_] at h
      split at h
      · exact j_ifnull_N hp hg rfl hd h
      · exact j_ifnull_R hp hd (ih _ _ _ h)
      · exact h.elim
    · cases hno
  case ifnonnull off =>
    simp only [no_] at hno
    split at hno
    · rename_i hg
      subst hn
      have hi : de_ i = .ifnonnull (pc + off) := (Option.some.inj hno).symm
      obtain rfl : i = .ifnonnull (pc + off) := de_n hi rfl
      simp only [sx_] at h
      split at h
      · exact j_ifnonnull_N hp hd (ih _ _ _ h)
      · exact j_ifnonnull_R hp hg rfl hd h
      · exact h.elim
    · cases hno
  case getfield i0 =>
    simp only [no_] at hno
    cases hq : F.1.find? fun q => q.1 == i0 with
    | none => rw [hq] at hno; cases hno
    | some q =>
      rw [hq] at hno
      have hm := List.mem_of_find?_eq_some hq
      have he := List.find?_some hq
      simp only [beq_iff_eq] at he
      obtain ⟨q1, q2, q3⟩ := q
      simp only at he
      subst he
      subst hn
      have hi : de_ i = .tableswitch 0 (q2 : Int) (q3 : Int) #[] := (Option.some.inj hno).symm
      obtain rfl : i = .tableswitch 0 (q2 : Int) (q3 : Int) #[] := de_n hi rfl
      have hc := hF.1 _ hm
      simp only [sx_] at h
      split at h
      · rename_i k i st'
        split at h
        · rename_i hk
          simp only [Int.toNat_natCast] at hk h
          subst hk
          split at h
          · rename_i ht
            exact j_getf hp hc ht hd (fun a b => ih _ _ _ (h a b))
          · rename_i ht
            exact j_getf hp hc ht hd (fun a b => ih _ _ _ h)
          · rename_i ht
            exact j_getf hp hc ht hd (fun a b => ih _ _ _ h)
          · rename_i ht
            exact j_getf hp hc ht hd (fun a b => ih _ _ _ h)
          · rename_i ht
            refine j_getf hp hc ht hd (fun a b => ih _ _ _ ?_)
            unfold fv_
            by_cases z : T (100 + q2) i (q3 : Int) = 0
            · simp only [z, if_true]; exact h.1 z
            · simp only [z, if_false]; exact h.2 z
          · rename_i ht
            refine j_getf hp hc ht hd (fun a b => ih _ _ _ ?_)
            unfold fv_
            by_cases z : T (100 + q2) i (q3 : Int) = 0
            · simp only [z, if_true]; exact h.1 z
            · simp only [z, if_false]; exact h.2 z
          · exact h.elim
        · exact h.elim
      · exact h.elim
  case putfield i0 =>
    simp only [no_] at hno
    cases hq : F.2.1.find? fun q => q.1 == i0 with
    | none => rw [hq] at hno; cases hno
    | some q =>
      rw [hq] at hno
      have hm := List.mem_of_find?_eq_some hq
      have he := List.find?_some hq
      simp only [beq_iff_eq] at he
      obtain ⟨q1, q2, q3⟩ := q
      simp only at he
      subst he
      subst hn
      have hi : de_ i = .tableswitch 1 (q2 : Int) (q3 : Int) #[] := (Option.some.inj hno).symm
      obtain rfl : i = .tableswitch 1 (q2 : Int) (q3 : Int) #[] := de_n hi rfl
      have hc := hF.2.1 _ hm
      simp only [sx_] at h
      split at h
      · rename_i x k i st'
        split at h
        · rename_i hk
          simp only [Int.toNat_natCast] at hk h
          subst hk
          split at h
          · rename_i ht
            exact j_putf hp hc ht hd h.1 h.2.1 (ih _ _ _ h.2.2)
          · exact h.elim
        · exact h.elim
      · exact h.elim
  case iaload =>
    subst hn
    have hi : de_ i = .iaload := (Option.some.inj hno).symm
    obtain rfl : i = .iaload := de_n hi rfl
    simp only [sx_] at h
    split at h
    · split at h
      · rename_i ha
        exact j_iald hp ha hd h.1 (by unfold ln_; rw [ha]; exact h.2.1) (fun a b => ih _ _ _ (h.2.2 a b))
      · rename_i ha
        exact j_iald hp ha hd h.1 (by unfold ln_; rw [ha]; exact h.2.1) (fun a b => ih _ _ _ (h.2.2 a b))
      · exact h.elim
    · exact h.elim
  case baload =>
    subst hn
    have hi : de_ i = .baload := (Option.some.inj hno).symm
    obtain rfl : i = .baload := de_n hi rfl
    simp only [sx_] at h
    split at h
    · split at h
      · rename_i ha
        exact j_zald hp ha hd h.1 (by unfold ln_; rw [ha]; exact h.2.1) (fun a b => ih _ _ _ (h.2.2 a b))
      · exact h.elim
    · exact h.elim
  case laload =>
    subst hn
    have hi : de_ i = .laload := (Option.some.inj hno).symm
    obtain rfl : i = .laload := de_n hi rfl
    simp only [sx_] at h
    split at h
    · split at h
      · rename_i ha
        exact j_lald hp ha hd h.1 (by unfold ln_; rw [ha]; exact h.2.1) (fun a b => ih _ _ _ (h.2.2 a b))
      · exact h.elim
    · exact h.elim
  case aaload =>
    subst hn
    have hi : de_ i = .aaload := (Option.some.inj hno).symm
    obtain rfl : i = .aaload := de_n hi rfl
    simp only [sx_] at h
    split at h
    · split at h
      · rename_i q9 ha
        exact j_aald4 (lo := q9.1) (hi := q9.2) hp ha hd h.1 (by unfold ln_; rw [ha]; exact h.2.1) (fun a => ih _ _ _ (h.2.2.1 a)) (fun a => ih _ _ _ (h.2.2.2 a))
      · rename_i q9 ha
        exact j_aald5 (lo := q9.1) (hi := q9.2) hp ha hd h.1 (by unfold ln_; rw [ha]; exact h.2.1) (fun a => ih _ _ _ (h.2.2.1 a)) (fun a => ih _ _ _ (h.2.2.2 a))
      · exact h.elim
    · exact h.elim
  case iastore =>
    subst hn
    have hi : de_ i = .iastore := (Option.some.inj hno).symm
    obtain rfl : i = .iastore := de_n hi rfl
    simp only [sx_] at h
    split at h
    · split at h
      · rename_i ha
        exact j_iast hp ha hd h.1 (by unfold ln_; rw [ha]; exact h.2.1) h.2.2.1 h.2.2.2.1 (ih _ _ _ h.2.2.2.2)
      · rename_i ha
        exact j_iast hp ha hd h.1 (by unfold ln_; rw [ha]; exact h.2.1) h.2.2.1 h.2.2.2.1 (ih _ _ _ h.2.2.2.2)
      · exact h.elim
    · exact h.elim
  case bastore =>
    subst hn
    have hi : de_ i = .bastore := (Option.some.inj hno).symm
    obtain rfl : i = .bastore := de_n hi rfl
    simp only [sx_] at h
    split at h
    · split at h
      · rename_i ha
        exact j_zast hp ha hd h.1 (by unfold ln_; rw [ha]; exact h.2.1) h.2.2.1 h.2.2.2.1 (ih _ _ _ h.2.2.2.2)
      · exact h.elim
    · exact h.elim
  case lastore =>
    subst hn
    have hi : de_ i = .lastore := (Option.some.inj hno).symm
    obtain rfl : i = .lastore := de_n hi rfl
    simp only [sx_] at h
    split at h
    · split at h
      · rename_i ha
        exact j_last hp ha hd h.1 (by unfold ln_; rw [ha]; exact h.2.1) h.2.2.1 h.2.2.2.1 (ih _ _ _ h.2.2.2.2)
      · exact h.elim
    · exact h.elim
  case arraylength =>
    subst hn
    have hi : de_ i = .arraylength := (Option.some.inj hno).symm
    obtain rfl : i = .arraylength := de_n hi rfl
    simp only [sx_] at h
    split at h
    · split at h
      · rename_i q9 ha
        refine j_alen (lo := q9.1) (hi := q9.2) hp ha hd (fun a b => ih _ _ _ ?_)
        unfold ln_
        rw [ha]
        exact h
      · rename_i q9 ha
        refine j_alen (lo := q9.1) (hi := q9.2) hp ha hd (fun a b => ih _ _ _ ?_)
        unfold ln_ at a b ⊢
        rw [ha] at a b ⊢
        exact h a b
      · exact h.elim
    · exact h.elim
  case ireturn =>
    simp only [no_] at hno
    split at hno
    · rename_i hg
      subst hn
      have hi : de_ i = .ireturn := (Option.some.inj hno).symm
      obtain rfl : i = .ireturn := de_n hi rfl
      simp only [sx_] at h
      split at h
      · exact j_ireturn (hg.imp id (fun q => ⟨q, hz q _ _ h⟩)) hd h
      · exact h.elim
    · cases hno
  case lreturn =>
    simp only [no_] at hno
    split at hno
    · rename_i hg
      subst hn
      have hi : de_ i = .lreturn := (Option.some.inj hno).symm
      obtain rfl : i = .lreturn := de_n hi rfl
      simp only [sx_] at h
      split at h
      · exact j_lreturn hg hd h
      · exact h.elim
    · cases hno
  case return_ =>
    simp only [no_] at hno
    split at hno
    · rename_i hg
      subst hn
      have hi : de_ i = .return_ := (Option.some.inj hno).symm
      obtain rfl : i = .return_ := de_n hi rfl
      simp only [sx_] at h
      split at h
      · exact j_return hg hd h
      · exact h.elim
    · cases hno
  all_goals exact absurd hno (by simp [no_])
/-- a block runs -/
theorem sx_run {F : Zf} (hF : tb_ Y.1 F) (hz : Y.2.2.2.1 = some .boolean → ∀ T x, P T (some (vI x)) → 0 ≤ x ∧ x ≤ 1) : ∀ (blk : List Instr) (pc : Int) (ls : Zl) (st : List Zv) (T : Zt), 0 ≤ pc → ck_ F Y.2.2.2.1 Y.2.1 pc blk pe = true → sx_ (J_ Y T0 P bc bs) P blk pe ls st T → J_ Y T0 P bc bs pc ls st T := by
  intro blk
  induction blk with
  | nil =>
    intro pc ls st T hp hck h
    have e : pc = pe := by simpa [ck_] using hck
    subst e
    exact h
  | cons i r ih =>
    intro pc ls st T hp hck h
    unfold ck_ at hck
    split at hck
    · rename_i x n hd
      simp only [Bool.and_eq_true, decide_eq_true_eq] at hck
      exact sx_one hF hz hp hd hck.1.1 hck.1.2 h (fun ls st T h => ih _ _ _ _ (by omega) hck.2 h)
    · cases hck
end JS
-- contracts, the start of a method, calls
def A_ (ad : Nat → Int → Nat) (T0 : Zt) (sz : Nat) : Nat → Prop := fun q => (∃ k i, al_ T0 k i ∧ q = ad k i) ∨ sz ≤ q
def Pc_ (D : va_G) (cA : Nat → ClassId) (ad : Nat → Int → Nat) (T0 : Zt) (avs : List Zv) (sz : Nat) : Array Value → State → Prop := fun v U => v = (avs.map (en_v ad)).toArray ∧ U.heap.size = sz ∧ Rp_ D cA ad T0 (fun _ => True) U.heap ∧ va_K D vwCl (ty_ cA) U ∧ ex_E U ∧ se_ ad (A_ ad T0 sz) U ∧ ok_T T0 ∧ ∀ v ∈ avs, ok_v T0 v
/-- called with avs in the picture T0, the method ends, and P holds of what it leaves -/
def Ct_ (y : MethodName) (Y : Zm) (T0 : Zt) (avs : List Zv) (P : Zt → Option Zv → Prop) : Prop := ∀ (l : Launch) (D : va_G) (cA : Nat → ClassId) (ad : Nat → Int → Nat) (sz : Nat), Met l y (.code y Y.2.1 Y.2.2.1 Y.2.2.2.1 :: lw_g) Y.2.2.2.2 (Pc_ D cA ad T0 avs sz) (Qc_ D cA ad T0 (A_ ad T0 sz) P) Y.2.2.2.2.cells Y.2.2.2.2.slots (A_ ad T0 sz)
theorem Rp_A {D : va_G} {cA : Nat → ClassId} {ad : Nat → Int → Nat} {T : Zt} {A B : Nat → Prop} {H : Heap} (h : Rp_ D cA ad T A H) (hAB : ∀ k i, al_ T k i → A (ad k i) → B (ad k i)) : Rp_ D cA ad T B H := by
  obtain ⟨ids, h1, h2, h3⟩ := h
  refine ⟨ids, h1, h2, h3.weaken (fun n q hq ha => ?_)⟩
  unfold wd_ at hq
  rw [List.getElem?_map] at hq
  cases hn : ids[n]? with
  | none => rw [hn] at hq; cases hq
  | some z =>
    rw [hn] at hq
    cases hq
    exact hAB z.1 z.2 ((h1 z.1 z.2).mpr (List.mem_of_getElem? hn)) ha
theorem Rp_in {D : va_G} {cA : Nat → ClassId} {ad : Nat → Int → Nat} {T : Zt} {A : Nat → Prop} {H : Heap} (h : Rp_ D cA ad T A H) {k : Nat} {i : Int} (ha : al_ T k i) : A (ad k i) := by
  obtain ⟨ids, q0, hq, h1, hP, hD⟩ := rp_at h ha
  exact hD.2 q0 _ (wd_get hq)
theorem lp_congr {ad ad' : Nat → Int → Nat} : ∀ {ls : Zl} {n : Nat}, (∀ (k : Nat) (v : Zv), ls[k]? = some (some v) → en_v ad' v = en_v ad v) → lp_ ad' n ls = lp_ ad n ls
  | [], _, _ => rfl
  | none :: r, n, h => lp_congr (ls := r) (n := n + 1) (fun k v hk => h (k + 1) v (by simpa using hk))
  | some w :: r, n, h => by
    unfold lp_
    rw [h 0 w rfl, lp_congr (ls := r) (n := n + 1) (fun k v hk => h (k + 1) v (by simpa using hk))]
theorem en_congr {ad ad' : Nat → Int → Nat} {T : Zt} (h : ∀ k i, k < 100 ∨ al_ T k i → ad' k i = ad k i) {v : Zv} (hv : ok_v T v) : en_v ad' v = en_v ad v := by
  rcases v with x | x | _ | ⟨k, i⟩
  · rfl
  · rfl
  · rfl
  · show Value.ref (ad' k i) = Value.ref (ad k i)
    rw [h k i hv]
theorem se_call {ad0 ad : Nat → Int → Nat} {A B : Nat → Prop} {s U : State} {H : Heap} {locs : List Loc} (h : se_ ad0 A s) (hS : va_S A s.heap H locs) (hF : ∀ q, B q → A q) (hU : U.heap = H) (hW : s.WarmedH U.vm) (he : ∀ (k : Nat) (i : Int), k < 100 → ad k i = ad0 k i) : se_ ad B U := by
  obtain ⟨h0, h1, h2, h3, h4⟩ := h
  have kz : ∀ (C n d : String) (v : Value), va_Z C n d v A s s.heap → va_Z C n d v B U U.heap := fun C n d v z => by
    rw [hU]
    exact (va_Z.moved hW.alike (va_Z.kept z (fun a h1 h2 => hS.2.1 a h1 h2))).narrow hF
  refine ⟨fun i hi => ?_, ?_, fun i hi => ?_, kz _ _ _ _ h3, ?_⟩
  · obtain ⟨hZ, hT⟩ := h0 i hi
    rw [he 81 _ (by omega)]
    refine ⟨kz _ _ _ _ hZ, ?_⟩
    rw [hU]
    exact (va_T.moved hW.alike (va_T.kept hT (fun a h1 h2 => hS.2.1 a h1 h2))).narrow hF
  · have e1 : (fun i : Nat => ad 82 (i : Int)) = fun i : Nat => ad0 82 (i : Int) := funext fun i => he 82 _ (by omega)
    have e2 : (fun i : Nat => ad 83 (i : Int)) = fun i : Nat => ad0 83 (i : Int) := funext fun i => he 83 _ (by omega)
    rw [e1, e2, hU]
    exact (vk_S.moved hW.alike (vk_S.kept h1 (fun a h1 h2 => hS.2.1 a h1 h2))).narrow hF
  · rw [he 82 _ (by omega)]
    exact vk_R.warm hW (h2 i hi)
  · rw [he 84 _ (by omega)]
    exact h4.imp (kz _ _ _ _) (kz _ _ _ _)
theorem pc_blind {D : va_G} {cA : Nat → ClassId} {ad : Nat → Int → Nat} {T0 : Zt} {avs : List Zv} {sz : Nat} : FrameBlind (Pc_ D cA ad T0 avs sz) := fun a U g mk q => by
  obtain ⟨q0, q1, q2, q3, q4, ⟨q5, z1, z2, z3, z4⟩, q6, q7⟩ := q
  refine ⟨q0, q1, q2, va_K.moved (u := U) (U := U.calling g mk a) (Vm.Alike.refl U.vm) q3, ex_same (s := U) (U := U.calling g mk a) rfl q4, ⟨fun i hi => ?_, vk_S.moved (u := U) (U := U.calling g mk a) (Vm.Alike.refl U.vm) z1, fun i hi => vk_R.same (u := U) (U := U.calling g mk a) rfl (z2 i hi), va_Z.moved (u := U) (U := U.calling g mk a) (Vm.Alike.refl U.vm) z3, z4.imp (va_Z.moved (u := U) (U := U.calling g mk a) (Vm.Alike.refl U.vm)) (va_Z.moved (u := U) (U := U.calling g mk a) (Vm.Alike.refl U.vm))⟩, q6, q7⟩
  exact ⟨va_Z.moved (u := U) (U := U.calling g mk a) (Vm.Alike.refl U.vm) (q5 i hi).1, va_T.moved (u := U) (U := U.calling g mk a) (Vm.Alike.refl U.vm) (q5 i hi).2⟩
theorem lp_none {ad : Nat → Int → Nat} : ∀ (k n : Nat), lp_ ad n (List.replicate k none) = []
  | 0, _ => rfl
  | k + 1, n => by
    rw [List.replicate_succ]
    exact lp_none k (n + 1)
theorem lp_args {ad : Nat → Int → Nat} {k : Nat} : ∀ (avs : List Zv) (n : Nat), (∀ v ∈ avs, ¬ ∃ x, v = vL x) → lv_args n (avs.map (en_v ad)) = lp_ ad n (avs.map some ++ List.replicate k none)
  | [], n, _ => by simp [lv_args, lp_none]
  | v :: r, n, h => by
    have hv : ¬ (en_v ad v).category = 2 := fun q => h v List.mem_cons_self (en_cat.mp q)
    simp only [List.map_cons, List.cons_append, lv_args, lp_]
    rw [if_neg hv, lp_args r (n + 1) (fun w hw => h w (List.mem_cons_of_mem _ hw))]
theorem sl_len {ad : Nat → Int → Nat} : ∀ (avs : List Zv), (∀ v ∈ avs, ¬ ∃ x, v = vL x) → (lg_sl (avs.map (en_v ad))).length = avs.length
  | [], _ => rfl
  | v :: r, h => by
    have hv : ¬ (en_v ad v).category = 2 := fun q => h v List.mem_cons_self (en_cat.mp q)
    have ih := sl_len (ad := ad) r (fun w hw => h w (List.mem_cons_of_mem _ hw))
    unfold lg_sl at ih ⊢
    simp only [List.map_cons, List.flatMap_cons, if_neg hv, List.length_append, List.length_cons, List.length_nil]
    omega
/-- a contract out of a walk from the start -/
def nl_ : List Zv → Bool
  | [] => true
  | .inr (.inl _) :: _ => false
  | _ :: r => nl_ r
theorem nl_no : ∀ {avs : List Zv}, nl_ avs = true → ∀ v ∈ avs, ¬ ∃ x, v = vL x
  | [], _, v, hv => by cases hv
  | .inl z :: r, h, v, hv => by
    rcases List.mem_cons.mp hv with rfl | h2
    · rintro ⟨x, hx⟩; cases hx
    · exact nl_no (avs := r) h v h2
  | .inr (.inr z) :: r, h, v, hv => by
    rcases List.mem_cons.mp hv with rfl | h2
    · rintro ⟨x, hx⟩; cases hx
    · exact nl_no (avs := r) h v h2
  | .inr (.inl z) :: r, h, v, hv => by cases h
theorem ct_of {y : MethodName} {Y : Zm} {T0 : Zt} {avs : List Zv} {P : Zt → Option Zv → Prop} (hy : plainName y.cls = true) (hY : Y.1 = y.cls) (hnl : nl_ avs = true) (hlen : avs.length ≤ Y.2.2.1) (hJ : ok_T T0 → (∀ v ∈ avs, ok_v T0 v) → J_ Y T0 P Y.2.2.2.2.cells Y.2.2.2.2.slots 0 (avs.map some ++ List.replicate (Y.2.2.1 - avs.length) none) [] T0) (hi : im_ Y.2.2.2.2.slots = true → y.name = "<init>" := by decide) : Ct_ y Y T0 avs P := by
  intro l D cA ad sz
  have hlong := nl_no hnl
  refine Met.ofW (cc := Y.2.1) (maxL := Y.2.2.1) (ret := Y.2.2.2.1) hy rfl ?_
  intro p e s m args below meth c s₁ B hml hv
  obtain ⟨rfl, hsz, hR, hK, hE, hSe, hT, hav⟩ := hv
  have hts := atoms_spec (ws := .code y Y.2.1 Y.2.2.1 Y.2.2.2.1 :: lw_g) B.pre
  have hl := lv_entry (avs.map (en_v ad)) (n := Y.2.2.1) (by rw [sl_len avs hlong]; exact hlen)
  rw [lg_entry_eq]
  rw [lp_args (k := Y.2.2.1 - avs.length) avs 0 hlong] at hl
  subst hsz
  refine hJ hT hav l p e s m _ below meth c D cA ad (A_ ad T0 s.heap.size) ⟨B.exec, B.bytes, hml, B.returns, B.notSynchronized, fun w h => hts w (List.mem_cons_of_mem _ h), by rw [hY]; exact findClass_of_methodNamed B.named, hK, hE, fun q h => Or.inr h, hSe, fun h => (name_of_methodNamed B.named B.method).1.trans (hi h)⟩ ad s.heap [] 0 0 _ (by show 0 + Y.2.2.2.2.cells ≤ Y.2.2.2.2.cells; omega) (by show 0 + Y.2.2.2.2.slots ≤ Y.2.2.2.2.slots; omega) (Rp_A hR (fun k i ha _ => Or.inl ⟨k, i, ha, rfl⟩)) va_S.rf ⟨fun _ _ h => h, fun _ _ _ => rfl⟩ hT ⟨fun k v hk => ?_, fun v hv => by cases hv⟩ hl (by simp; omega)
  by_cases hk2 : k < avs.length
  · rw [List.getElem?_append_left (by rw [List.length_map]; exact hk2), List.getElem?_map] at hk
    cases hz : avs[k]? with
    | none => rw [hz] at hk; cases hk
    | some z =>
      rw [hz] at hk
      cases hk
      exact hav _ (List.mem_of_getElem? hz)
  · rw [List.getElem?_append_right (by rw [List.length_map]; omega), List.getElem?_replicate] at hk
    split at hk <;> cases hk
section JK
variable {Y Yc : Zm} {T0 T : Zt} {P : Zt → Option Zv → Prop} {bc bs : Nat} {pc : Int} {ls : Zl} {rest : List Zv} {y : MethodName} {Qp : Zt → Option Zv → Prop}
theorem en_sum {ad : Nat → Int → Nat} : ∀ (st : List Zv), ((st.map (en_v ad)).map fun v => v.category).sum ≤ 2 * st.length
  | [] => by simp
  | v :: r => by
    have h1 := en_sum (ad := ad) r
    have h2 := lv_cat (en_v ad v)
    simp only [List.map_cons, List.sum_cons, List.length_cons]
    omega
/-- behind a call -/
theorem j_back {l : Launch} {p : Program} {e : Env} {s : State} {m : MethodId} {args : Array Value} {below : List Frame} {meth : Method} {c : Code} {D : va_G} {cA : Nat → ClassId} {ad0 : Nat → Int → Nat} {A : Nat → Prop} (X : Cx_ Y p s m args meth c D cA ad0 A) {ad : Nat → Int → Nat} {H : Heap} {locs : List Loc} {cells slots : Nat} {lsC : Array Slot} (hc : cells + bc ≤ Y.2.2.2.2.cells) (hs : slots + bs ≤ Y.2.2.2.2.slots) (hR : Rp_ D cA ad T A H) (hS : va_S A s.heap H locs) (hB : Sb_ ad0 ad T0 T) (hL : ok_l T ls rest) (hl : lv_has lsC Y.2.2.1 (lp_ ad 0 ls)) (hn : ls.length = Y.2.2.1) (hp : 0 ≤ pc) {mc ms : Nat} (hmc : mc ≤ bc) (hms : ms ≤ bs) {st0 : List Value} {a : Array Value} {Q : Zt → Option Zv → Prop}
    (hr : va_Run p l e Y.2.2.2.2 s m args below meth c H locs cells slots mc ms (F0 m pc.toNat lsC st0) (rest.map (en_v ad)) (Qc_ D cA ad T (A_ ad T H.size) Q a) (A_ ad T H.size))
    (kk : ∀ (T' : Zt) (r : Option Zv), Q T' r → J_ Y T0 P (bc - mc) (bs - ms) (pc + 3) ls (r.toList ++ rest) T') :
    W p l e Y.2.2.2.2 s m args below meth c H locs cells slots (MQ below (Qc_ D cA ad0 T0 A P) args s Y.2.2.2.2.cells Y.2.2.2.2.slots A) (F0 m pc.toNat lsC st0) := by
  intro T2 hT2 X2
  obtain ⟨v, st₀, t, T', L, h0, X', hLo, e1, e2, ⟨⟨T1, ad1, r, hv, hq, hok, hrv, hR1, hB1⟩, hz, hk⟩, st⟩ := hr T2 hT2 X2
  rw [h0] at hz hk
  have hAA : ∀ q, A_ ad T H.size q → A q := by
    rintro q (⟨k, i, ha, rfl⟩ | h)
    · exact Rp_in hR ha
    · exact X.2.2.2.2.2.2.2.2.2.1 q (Nat.le_trans hS.1 h)
  have hee : ∀ v, ok_v T v → en_v ad1 v = en_v ad v := fun v hv => en_congr hB1.2 hv
  have el : lp_ ad1 0 ls = lp_ ad 0 ls := lp_congr (fun k v hk => hee v (hL.1 k v hk))
  have er : rest.map (en_v ad1) = rest.map (en_v ad) := List.map_congr_left (fun v hv => hee v (hL.2 v hv))
  have hv2 : v = r.map (en_v ad1) := by
    cases hv
    rfl
  have k2 := kk T1 r hq l p e s m args below meth c D cA ad0 A X ad1 T'.heap (locs ++ L) (cells + mc) (slots + ms) lsC (by omega) (by omega) (by rw [e1]; exact Rp_A hR1 (fun k i _ h => hAA _ h)) ⟨Nat.le_trans hS.1 (by rw [e1]; exact hz), fun q h1 h2 => by rw [e1, hk q (Nat.lt_of_lt_of_le h1 hS.1) (fun z => h2 (hAA q z))]; exact hS.2.1 q h1 h2, fun q hq => by
      rcases List.mem_append.mp hq with h | h
      · exact hS.2.2 q h
      · exact hAA _ (hLo q h)⟩ ⟨fun k i h => hB1.1 k i (hB.1 k i h), fun k i h => by
      rw [hB1.2 k i (h.imp id (hB.1 k i)), hB.2 k i h]⟩ hok ⟨fun k v hk => okv_mono hB1.1 (hL.1 k v hk), fun v hv => by
      rcases List.mem_append.mp hv with h | h
      · cases r with
        | none => cases h
        | some w =>
          have : v = w := by simpa using h
          subst this
          exact hrv v rfl
      · exact okv_mono hB1.1 (hL.2 v h)⟩ (by rw [el]; exact hl) hn
  rw [show (pc + 3).toNat = pc.toNat + 3 by omega] at k2
  obtain ⟨t2, a1, b1⟩ := k2 T' rfl X'
  refine ⟨t2, st t2 ?_, b1⟩
  have ee : ({ F0 m pc.toNat lsC st0 with pc := (F0 m pc.toNat lsC st0).pc + 3, stack := v.toList ++ rest.map (en_v ad) } : JFrame) = F0 m (pc.toNat + 3) lsC ((r.toList ++ rest).map (en_v ad1)) := by
    rw [List.map_append, er, hv2]
    cases r <;> rfl
  rw [ee]
  exact a1
/-- what a call by invokevirtual wants of the tables -/
def cv_ (own : String) (idx : Nat) (y : MethodName) (Yc : Zm) (ci n : Nat) : Prop := GoodIn lw_g (wsV own idx y.cls y (.code y Yc.2.1 Yc.2.2.1 Yc.2.2.2.1 :: lw_g)) ∧ (y.cls ≠ "java/lang/invoke/MethodHandle" ∧ y.cls ≠ "java/lang/invoke/VarHandle" ∧ (parseMethodDescriptor y.desc).map (fun d => d.parameters.length) = some n) ∧ ∃ Tb N, vwCl[ci]? = some (y.cls, Tb, N)
def cs_ (own : String) (idx : Nat) (y : MethodName) (Yc : Zm) (n : Nat) : Prop := GoodIn lw_g (va_wsS own idx y (.code y Yc.2.1 Yc.2.2.1 Yc.2.2.2.1 :: lw_g)) ∧ (y.cls ≠ "java/lang/invoke/MethodHandle" ∧ y.cls ≠ "java/lang/invoke/VarHandle" ∧ (parseMethodDescriptor y.desc).map (fun d => d.parameters.length) = some n)
/-- the callee's room fits the caller's -/
def rf_ (Yc Y : Zm) : Bool := decide (Yc.2.2.2.2.frames + 1 ≤ Y.2.2.2.2.frames) && decide (8 + (Yc.2.2.1 + 11) + Yc.2.2.2.2.locals ≤ Y.2.2.2.2.locals)
theorem j_callV {idx ci n : Nat} {i : Int} (as : List Zv) (hC : Ct_ y Yc T (vR (100 + ci) i :: as) Qp) (hcv : cv_ Y.1 idx y Yc ci n) (hd : decode Y.2.1 pc.toNat = .ok (.invokevirtual idx, 3)) (hp : 0 ≤ pc) (hn : as.length = n) (hrm : rf_ Yc Y = true) (hrest : rest.length ≤ 4) (hmc : Yc.2.2.2.2.cells ≤ bc) (hms : Yc.2.2.2.2.slots ≤ bs) {st0 : List Zv} (hst : st0 = as.reverse ++ vR (100 + ci) i :: rest) (kk : ∀ (T' : Zt) (r : Option Zv), Qp T' r → J_ Y T0 P (bc - Yc.2.2.2.2.cells) (bs - Yc.2.2.2.2.slots) (pc + 3) ls (r.toList ++ rest) T') : J_ Y T0 P bc bs pc ls st0 T := by
  subst hst
  intro l p e s m args below meth c D cA ad0 A X ad H locs cells slots lsC hc hs hR hS hB hT hL hl hln
  obtain ⟨hG, hdd, Tb, N, hcl⟩ := hcv
  simp only [rf_, Bool.and_eq_true, decide_eq_true_eq] at hrm
  have hLr : ok_l T ls rest := ⟨hL.1, fun v hv => hL.2 v (by simp [hv])⟩
  have hal : al_ T (100 + ci) i := ok_al (v := none) (by omega) (hL.2 (vR (100 + ci) i) (by simp))
  obtain ⟨ids, q0, hq, hids, hP, hD⟩ := rp_at hR hal
  have hw := wd_get (cA := cA) (ad := ad) (T := T) hq
  rw [ce_ob (cl_lt hcl)] at hw
  have hAA : ∀ q, A_ ad T H.size q → A q := by
    rintro q (⟨k, i, ha, rfl⟩ | h)
    · exact Rp_in hR ha
    · exact X.2.2.2.2.2.2.2.2.2.1 q (Nat.le_trans hS.1 h)
  refine j_back X hc hs hR hS hB hLr hl hln hp hmc hms (va_runV (As := as.map (en_v ad)) (rest := rest.map (en_v ad)) (b := ad (100 + ci) i) ⟨X.1, X.2.1, X.2.2.1, X.2.2.2.2.2.2.1, X.2.2.2.2.2.1⟩ (hC l D cA ad H.size) (cwV n X.2.2.2.2.2.1 hG rfl rfl rfl ⟨rfl, hdd⟩ hrm) ⟨pc_blind, va_recv X.2.2.2.2.2.2.2.1 hP hcl hw, fun U hU hW => ⟨rfl, by rw [hU], by rw [hU]; exact Rp_A hR (fun _ _ _ _ => trivial), va_K.moved hW.alike X.2.2.2.2.2.2.2.1, ex_warm hW X.2.2.2.2.2.2.2.2.1, se_call X.2.2.2.2.2.2.2.2.2.2.1 hS hAA hU hW (fun k i hk => hB.2 k i (Or.inl hk)), hT, fun v hv => hL.2 v ?_⟩⟩ rfl (by rw [List.length_map]; exact hn) (hl.1) ?_ (lv_room ?_) hd ⟨by omega, by omega⟩) (fun T' r h => kk T' r h)
  · rcases List.mem_cons.mp hv with rfl | h
    · simp
    · simp [h]
  · show List.map (en_v ad) (as.reverse ++ vR (100 + ci) i :: rest) = _
    rw [List.map_append, List.map_reverse, List.map_cons]
    rfl
  · have := en_sum (ad := ad) rest
    omega
theorem j_callS {idx n : Nat} (as : List Zv) (hC : Ct_ y Yc T as Qp) (hcv : cs_ Y.1 idx y Yc n) (hd : decode Y.2.1 pc.toNat = .ok (.invokestatic idx, 3)) (hp : 0 ≤ pc) (hn : as.length = n) (hrm : rf_ Yc Y = true) (hrest : rest.length ≤ 4) (hmc : Yc.2.2.2.2.cells ≤ bc) (hms : Yc.2.2.2.2.slots ≤ bs) {st0 : List Zv} (hst : st0 = as.reverse ++ rest) (kk : ∀ (T' : Zt) (r : Option Zv), Qp T' r → J_ Y T0 P (bc - Yc.2.2.2.2.cells) (bs - Yc.2.2.2.2.slots) (pc + 3) ls (r.toList ++ rest) T') : J_ Y T0 P bc bs pc ls st0 T := by
  subst hst
  intro l p e s m args below meth c D cA ad0 A X ad H locs cells slots lsC hc hs hR hS hB hT hL hl hln
  obtain ⟨hG, hdd⟩ := hcv
  simp only [rf_, Bool.and_eq_true, decide_eq_true_eq] at hrm
  have hLr : ok_l T ls rest := ⟨hL.1, fun v hv => hL.2 v (by simp [hv])⟩
  have hAA : ∀ q, A_ ad T H.size q → A q := by
    rintro q (⟨k, i, ha, rfl⟩ | h)
    · exact Rp_in hR ha
    · exact X.2.2.2.2.2.2.2.2.2.1 q (Nat.le_trans hS.1 h)
  refine j_back X hc hs hR hS hB hLr hl hln hp hmc hms (va_runS (As := as.map (en_v ad)) (rest := rest.map (en_v ad)) ⟨X.1, X.2.1, X.2.2.1, X.2.2.2.2.2.2.1, X.2.2.2.2.2.1⟩ (hC l D cA ad H.size) (va_cwS n X.2.2.2.2.2.1 hG rfl rfl rfl hdd hrm) ⟨pc_blind, fun U hU hW => ⟨rfl, by rw [hU], by rw [hU]; exact Rp_A hR (fun _ _ _ _ => trivial), va_K.moved hW.alike X.2.2.2.2.2.2.2.1, ex_warm hW X.2.2.2.2.2.2.2.2.1, se_call X.2.2.2.2.2.2.2.2.2.2.1 hS hAA hU hW (fun k i hk => hB.2 k i (Or.inl hk)), hT, fun v hv => hL.2 v (by simp [hv])⟩⟩ rfl (by rw [List.length_map]; exact hn) (hl.1) ?_ (lv_room ?_) hd ⟨by omega, by omega⟩) (fun T' r h => kk T' r h)
  · show List.map (en_v ad) (as.reverse ++ rest) = _
    rw [List.map_append, List.map_reverse]
  · have := en_sum (ad := ad) rest
    omega
/-- a block runs, its ends named K -/
theorem j_blk {F : Zf} {pe : Int} {blk : List Instr} (hF : tb_ Y.1 F) (hp : 0 ≤ pc) (hck : ck_ F Y.2.2.2.1 Y.2.1 pc blk pe = true) (hz : Y.2.2.2.1 = some .boolean → ∀ T x, P T (some (vI x)) → 0 ≤ x ∧ x ≤ 1) (h : ∀ K : Int → Zl → List Zv → Zt → Prop, (∀ pc ls st T, J_ Y T0 P bc bs pc ls st T → K pc ls st T) → sx_ K P blk pe ls rest T) : J_ Y T0 P bc bs pc ls rest T :=
  sx_run hF hz blk pc ls rest T hp hck (h _ (fun _ _ _ _ h => h))
-- fewer locals are known
theorem j_drop (ls' : Zl) (h : ∀ (k : Nat) (v : Zv), ls'[k]? = some (some v) → ls[k]? = some (some v)) (hlen : ls'.length = ls.length) (k : J_ Y T0 P bc bs pc ls' rest T) : J_ Y T0 P bc bs pc ls rest T := by
  intro l p e s m args below meth c D cA ad0 A X ad H locs cells slots lsC hc hs hR hS hB hT hL hl hln
  refine k l p e s m args below meth c D cA ad0 A X ad H locs cells slots lsC hc hs hR hS hB hT ⟨fun k v hk => hL.1 k v (h k v hk), hL.2⟩ ⟨hl.1, hl.2.1, fun q hq => ?_⟩ (hlen.trans hln)
  obtain ⟨j, v, rfl, hv⟩ := lp_mem hq
  exact hl.2.2 _ (lp_get (h j v hv))
-- the picture's bounds, whenever they are wanted
theorem j_ok (k : ok_T T → ok_l T ls rest → J_ Y T0 P bc bs pc ls rest T) : J_ Y T0 P bc bs pc ls rest T := by
  intro l p e s m args below meth c D cA ad0 A X ad H locs cells slots lsC hc hs hR hS hB hT hL hl hln
  exact k hT hL l p e s m args below meth c D cA ad0 A X ad H locs cells slots lsC hc hs hR hS hB hT hL hl hln
end JK
-- helps for the walks
theorem rg_i {z : Int} {Q : Prop} (h : -2147483648 ≤ z ∧ z ≤ 2147483647) (q : Q) : rg_ z Q := ⟨h.1, h.2, q⟩
theorem rl_i {z : Int} {Q : Prop} (h : -9223372036854775808 ≤ z ∧ z ≤ 9223372036854775807) (q : Q) : rl_ z Q := ⟨h.1, h.2, q⟩
theorem ix_i {x n : Int} {Q : Prop} (h : 0 ≤ x ∧ x < n) (q : Q) : 0 ≤ x ∧ x < n ∧ Q := ⟨h.1, h.2, q⟩
theorem bd_i {lo x hi : Int} {Q : Prop} (h : lo ≤ x ∧ x ≤ hi) (q : Q) : lo ≤ x ∧ x ≤ hi ∧ Q := ⟨h.1, h.2, q⟩
theorem iy_i {x n lo v hi : Int} {Q : Prop} (h : 0 ≤ x ∧ x < n) (h2 : lo ≤ v ∧ v ≤ hi) (q : Q) : 0 ≤ x ∧ x < n ∧ lo ≤ v ∧ v ≤ hi ∧ Q := ⟨h.1, h.2, h2.1, h2.2, q⟩
theorem dv_i {x y : Int} {Q : Prop} (h : 0 ≤ x ∧ 0 < y) (q : Q) : 0 ≤ x ∧ 0 < y ∧ Q := ⟨h.1, h.2, q⟩
theorem up_f {T T1 : Zt} {k : Nat} {i j v : Int} (h : T1 = up_ T k i j v) : T1 k i j = v := by rw [h]; exact up_s T k i j v
theorem up_g {T T1 : Zt} {k : Nat} {i j v : Int} (h : T1 = up_ T k i j v) {k' : Nat} {i' j' : Int} (n : ¬ (k' = k ∧ i' = i ∧ j' = j)) : T1 k' i' j' = T k' i' j' := by rw [h]; exact up_n n
theorem up_k {T T1 : Zt} {k : Nat} {i j v : Int} (h : T1 = up_ T k i j v) {k' : Nat} (n : k' ≠ k) (i' j' : Int) : T1 k' i' j' = T k' i' j' := up_g h (fun q => n q.1)
theorem up_j {T T1 : Zt} {k : Nat} {i j v : Int} (h : T1 = up_ T k i j v) {j' : Int} (n : j' ≠ j) (k' : Nat) (i' : Int) : T1 k' i' j' = T k' i' j' := up_g h (fun q => n q.2.2)
/-- which kinds and slots are written -/
def fw_ (ws : List (Nat × List Int)) (k : Nat) (j : Int) : Bool := match ws with
  | [] => false
  | (k', l) :: r => (k == k' && (match l with
    | [] => true
    | _ => l.contains j)) || fw_ r k j
/-- all else is as it was -/
def fr_ (ws : List (Nat × List Int)) (T T' : Zt) : Prop := ∀ k i j, fw_ ws k j = false → T' k i j = T k i j
theorem fr_0 (ws : List (Nat × List Int)) (T : Zt) : fr_ ws T T := fun _ _ _ _ => rfl
theorem fr_t {ws : List (Nat × List Int)} {T T1 T2 : Zt} (h : fr_ ws T T1) (g : fr_ ws T1 T2) : fr_ ws T T2 := fun k i j q => (g k i j q).trans (h k i j q)
theorem fr_u {ws : List (Nat × List Int)} {T T1 T2 : Zt} {k : Nat} {i j v : Int} (h : fr_ ws T T1) (e : T2 = up_ T1 k i j v) (w : fw_ ws k j = true) : fr_ ws T T2 := fun k' i' j' q => by
  rw [e, up_n (fun z => by rw [z.1, z.2.2, w] at q; cases q)]
  exact h k' i' j' q
/-- a smaller set of writes -/
def fs_ : List (Nat × List Int) → List (Nat × List Int) → Bool
  | [], _ => true
  | (k, l) :: r, ws => (match l with
    | [] => ws.any fun q => q.1 == k && q.2.isEmpty
    | l => l.all fun j => fw_ ws k j) && fs_ r ws
theorem fw_all {ws : List (Nat × List Int)} {k : Nat} (h : (ws.any fun q => q.1 == k && q.2.isEmpty) = true) (j : Int) : fw_ ws k j = true := by
  induction ws with
  | nil => simp at h
  | cons q r ih =>
    obtain ⟨k', l⟩ := q
    simp only [List.any_cons, Bool.or_eq_true, Bool.and_eq_true, beq_iff_eq, List.isEmpty_iff] at h
    unfold fw_
    rcases h with ⟨rfl, rfl⟩ | h
    · simp
    · rw [ih (by simpa using h)]
      simp
theorem fs_sub {a b : List (Nat × List Int)} (h : fs_ a b = true) {k : Nat} {j : Int} (w : fw_ a k j = true) : fw_ b k j = true := by
  induction a with
  | nil => simp [fw_] at w
  | cons q r ih =>
    obtain ⟨k', l⟩ := q
    unfold fs_ at h
    unfold fw_ at w
    simp only [Bool.and_eq_true] at h
    simp only [Bool.or_eq_true, Bool.and_eq_true, beq_iff_eq] at w
    rcases w with ⟨rfl, w⟩ | w
    · cases l with
      | nil => exact fw_all h.1 j
      | cons x t =>
        have h1 := List.all_eq_true.mp h.1 j (by simpa using w)
        exact h1
    · exact ih h.2 w
theorem fr_s {a b : List (Nat × List Int)} {T T' : Zt} (h : fr_ a T T') (s : fs_ a b = true) : fr_ b T T' := fun k i j q => h k i j (by
  cases w : fw_ a k j
  · rfl
  · rw [fs_sub s w] at q
    cases q)
section JT
variable {Y : Zm} {T0 T : Zt} {P : Zt → Option Zv → Prop} {bc bs : Nat} {pc : Int} {ls : Zl} {st : List Zv}
/-- a switch -/
theorem j_tsI (n : Nat) {dflt lo hi off tgt x : Int} {offs : Array Int} {len : Nat} (hp : 0 ≤ pc) (hd : decode Y.2.1 pc.toNat = .ok (.tableswitch dflt lo hi offs, len)) (hx : x = lo + n) (hh : lo + n ≤ hi) (ho : offs[n]? = some off) (ht : 0 ≤ tgt) (e : pc + off = tgt) (k : J_ Y T0 P bc bs tgt ls st T) : J_ Y T0 P bc bs pc ls (vI x :: st) T := by
  intro l p e' s m args below meth c D cA ad0 A X ad H locs cells slots lsC hc hs hR hS hB hT hL hl hn
  have ax : -2147483648 ≤ x ∧ x ≤ 2147483647 := ok_head hL
  have ex := i3_t ax.1 ax.2
  exact lv_tableIn (off := off) (tgt := tgt.toNat) X.1 X.2.1 hd (by rw [ex]; omega) (by rw [ex]; omega) (by rw [ex, show (x - lo).toNat = n by omega]; exact ho) (by omega) (k l p e' s m args below meth c D cA ad0 A X ad H locs cells slots lsC hc hs hR hS hB hT (ok_tail hL) hl hn)
theorem j_tsO {dflt lo hi tgt x : Int} {offs : Array Int} {len : Nat} (hp : 0 ≤ pc) (hd : decode Y.2.1 pc.toNat = .ok (.tableswitch dflt lo hi offs, len)) (hx : x < lo ∨ hi < x) (ht : 0 ≤ tgt) (e : pc + dflt = tgt) (k : J_ Y T0 P bc bs tgt ls st T) : J_ Y T0 P bc bs pc ls (vI x :: st) T := by
  intro l p e' s m args below meth c D cA ad0 A X ad H locs cells slots lsC hc hs hR hS hB hT hL hl hn
  have ax : -2147483648 ≤ x ∧ x ≤ 2147483647 := ok_head hL
  have ex := i3_t ax.1 ax.2
  exact lv_tableOut (tgt := tgt.toNat) X.1 X.2.1 hd (by rw [ex]; exact hx) (by omega) (k l p e' s m args below meth c D cA ad0 A X ad H locs cells slots lsC hc hs hR hS hB hT (ok_tail hL) hl hn)
end JT
