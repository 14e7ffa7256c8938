-- a class's links: getfields, putfields, constants
abbrev Zf : Type := List (Nat × Nat × Nat) × List (Nat × Nat × Nat) × List (Nat × Int) × List (Nat × Int)
def tb_ (own : String) (F : Zf) : Prop := (∀ q ∈ F.1, fl_ own q.1 q.2.1 q.2.2) ∧ (∀ q ∈ F.2.1, fp_ own q.1 q.2.1 q.2.2) ∧ (∀ q ∈ F.2.2.1, Cond.constant own q.1 (Int32.ofInt q.2) ∈ lw_g ∧ -2147483648 ≤ q.2 ∧ q.2 ≤ 2147483647) ∧ ∀ q ∈ F.2.2.2, Cond.constantLong own q.1 (Int64.ofInt q.2) ∈ lw_g ∧ -9223372036854775808 ≤ q.2 ∧ q.2 ≤ 9223372036854775807
/-- an instruction as the blocks have it -/
def no_ (F : Zf) (ret : Option FieldType) (pc : Int) (x : Instr) : Option Instr := match x with
  | .iconst n => if -2147483648 ≤ n ∧ n ≤ 2147483647 then some (.iconst n) else none
  | .bipush n => if -128 ≤ n ∧ n ≤ 127 then some (.iconst n) else none
  | .sipush n => if -32768 ≤ n ∧ n ≤ 32767 then some (.iconst n) else none
  | .ldc i => (F.2.2.1.find? fun q => q.1 == i).map fun q => .iconst q.2
  | .ldc_w i => (F.2.2.1.find? fun q => q.1 == i).map fun q => .iconst q.2
  | .ldc2_w i => (F.2.2.2.find? fun q => q.1 == i).map fun q => .sipush q.2
  | .lconst n => some (.sipush ((n : Nat) : Int))
  | .iload k => some (.iload k)
  | .iload_n k => some (.iload (k : Nat))
  | .aload k => some (.aload k)
  | .aload_n k => some (.aload (k : Nat))
  | .lload k => some (.lload k)
  | .lload_n k => some (.lload (k : Nat))
  | .istore k => some (.istore k)
  | .istore_n k => some (.istore (k : Nat))
  | .astore k => some (.astore k)
  | .astore_n k => some (.astore (k : Nat))
  | .lstore k => some (.lstore k)
  | .lstore_n k => some (.lstore (k : Nat))
  | .iinc k n => some (.iinc k n)
  | .goto off => if 0 ≤ pc + off then some (.goto (pc + off)) else none
  | .if_icmp c off => if 0 ≤ pc + off then some (.if_icmp c (pc + off)) else none
  | .ifCond c off => if 0 ≤ pc + off then some (.ifCond c (pc + off)) else none
  | .ifnull off => if 0 ≤ pc + off then some (.ifnull (pc + off)) else none
  | .ifnonnull off => if 0 ≤ pc + off then some (.ifnonnull (pc + off)) else none
  | .getfield i => (F.1.find? fun q => q.1 == i).map fun q => .tableswitch 0 (q.2.1 : Int) (q.2.2 : Int) #[]
  | .putfield i => (F.2.1.find? fun q => q.1 == i).map fun q => .tableswitch 1 (q.2.1 : Int) (q.2.2 : Int) #[]
  | .ireturn => if ret = some .int ∨ ret = some .boolean then some .ireturn else none
  | .lreturn => if ret = some .long then some .lreturn else none
  | .return_ => if ret = none then some .return_ else none
  | .iadd => some .iadd
  | .isub => some .isub
  | .imul => some .imul
  | .ineg => some .ineg
  | .idiv => some .idiv
  | .irem => some .irem
  | .iand => some .iand
  | .ior => some .ior
  | .ixor => some .ixor
  | .ishl => some .ishl
  | .ishr => some .ishr
  | .iushr => some .iushr
  | .i2l => some .i2l
  | .l2i => some .l2i
  | .ladd => some .ladd
  | .lsub => some .lsub
  | .lmul => some .lmul
  | .lrem => some .lrem
  | .lcmp => some .lcmp
  | .dup => some .dup
  | .dup2 => some .dup2
  | .pop => some .pop
  | .iaload => some .iaload
  | .baload => some .baload
  | .laload => some .laload
  | .aaload => some .aaload
  | .iastore => some .iastore
  | .bastore => some .bastore
  | .lastore => some .lastore
  | .arraylength => some .arraylength
  | _ => none
def il_ (x : Instr) : Nat := match x with
  | .bipush _ | .ldc _ | .iload _ | .aload _ | .lload _ | .istore _ | .astore _ | .lstore _ => 2
  | .sipush _ | .ldc_w _ | .ldc2_w _ | .iinc _ _ | .goto _ | .if_icmp _ _ | .ifCond _ _ | .ifnull _ | .ifnonnull _ | .getfield _ | .putfield _ => 3
  | _ => 1
/-- the wrapping forms stand for the plain ones -/
def de_ (i : Instr) : Instr := match i with
  | .fadd => .iadd
  | .fsub => .isub
  | .fmul => .imul
  | .fneg => .ineg
  | .fdiv => .idiv
  | .frem => .irem
  | .dadd => .ladd
  | .dsub => .lsub
  | .dmul => .lmul
  | i => i
theorem de_inv (i y : Instr) (h : de_ i = y) : i = y ∨ (i = .fadd ∧ y = .iadd) ∨ (i = .fsub ∧ y = .isub) ∨ (i = .fmul ∧ y = .imul) ∨ (i = .fneg ∧ y = .ineg) ∨ (i = .fdiv ∧ y = .idiv) ∨ (i = .frem ∧ y = .irem) ∨ (i = .dadd ∧ y = .ladd) ∨ (i = .dsub ∧ y = .lsub) ∨ (i = .dmul ∧ y = .lmul) := by
  cases i <;> first | exact Or.inl h | exact Or.inr (Or.inl ⟨rfl, h.symm⟩) | exact Or.inr (Or.inr (Or.inl ⟨rfl, h.symm⟩)) | exact Or.inr (Or.inr (Or.inr (Or.inl ⟨rfl, h.symm⟩))) | exact Or.inr (Or.inr (Or.inr (Or.inr (Or.inl ⟨rfl, h.symm⟩)))) | exact Or.inr (Or.inr (Or.inr (Or.inr (Or.inr (Or.inl ⟨rfl, h.symm⟩))))) | exact Or.inr (Or.inr (Or.inr (Or.inr (Or.inr (Or.inr (Or.inl ⟨rfl, h.symm⟩)))))) | exact Or.inr (Or.inr (Or.inr (Or.inr (Or.inr (Or.inr (Or.inr (Or.inl ⟨rfl, h.symm⟩))))))) | exact Or.inr (Or.inr (Or.inr (Or.inr (Or.inr (Or.inr (Or.inr (Or.inr (Or.inl ⟨rfl, h.symm⟩)))))))) | exact Or.inr (Or.inr (Or.inr (Or.inr (Or.inr (Or.inr (Or.inr (Or.inr (Or.inr (⟨rfl, h.symm⟩)))))))))
def nsq_ (y : Instr) : Bool := match y with
  | .iadd => false
  | .isub => false
  | .imul => false
  | .ineg => false
  | .idiv => false
  | .irem => false
  | .ladd => false
  | .lsub => false
  | .lmul => false
  | _ => true
theorem de_n {i y : Instr} (h : de_ i = y) (hy : nsq_ y = true) : i = y := by
  subst h
  cases i <;> first | rfl | exact absurd hy (by decide)
def ck_ (F : Zf) (ret : Option FieldType) (cc : ByteArray) : Int → List Instr → Int → Bool
  | pc, [], pe => decide (pc = pe)
  | pc, i :: r, pe => match decode cc pc.toNat with
    | .ok (x, n) => decide (no_ F ret pc x = some (de_ i)) && decide (n = il_ x) && ck_ F ret cc (pc + (n : Int)) r pe
    | .error _ => false
section JS
variable {Y : Zm} {T0 T : Zt} {P : Zt → Option Zv → Prop} {bc bs : Nat} {pc pe : Int} {ls : Zl} {st : List Zv}
set_option maxHeartbeats 4000000 in
theorem sx_one {F : Zf} (hF : tb_ Y.1 F) (hz : Y.2.2.2.1 = some .boolean → ∀ T x, P T (some (vI x)) → 0 ≤ x ∧ x ≤ 1) {x i : Instr} {n : Nat} {r : List Instr} (hp : 0 ≤ pc) (hd : decode Y.2.1 pc.toNat = .ok (x, n)) (hno : no_ F Y.2.2.2.1 pc x = some (de_ i)) (hn : n = il_ x) (h : sx_ (J_ Y T0 P bc bs) P (i :: r) pe ls st T) (ih : ∀ ls st T, sx_ (J_ Y T0 P bc bs) P r pe ls st T → J_ Y T0 P bc bs (pc + (n : Int)) ls st T) : J_ Y T0 P bc bs pc ls st T := by
  cases x
  case iconst n0 =>
    simp only [no_] at hno
    split at hno
    · rename_i hg
      subst hn
      have hi : de_ i = .iconst n0 := (Option.some.inj hno).symm
      obtain rfl : i = .iconst n0 := de_n hi rfl
      exact j_iconst hg.1 hg.2 hd hp (ih _ _ _ h)
    · cases hno
  case bipush n0 =>
    simp only [no_] at hno
    split at hno
    · rename_i hg
      subst hn
      have hi : de_ i = .iconst n0 := (Option.some.inj hno).symm
      obtain rfl : i = .iconst n0 := de_n hi rfl
      exact j_bipush hg.1 hg.2 hd hp (ih _ _ _ h)
    · cases hno
  case sipush n0 =>
    simp only [no_] at hno
    split at hno
    · rename_i hg
      subst hn
      have hi : de_ i = .iconst n0 := (Option.some.inj hno).symm
      obtain rfl : i = .iconst n0 := de_n hi rfl
      exact j_sipush hg.1 hg.2 hd hp (ih _ _ _ h)
    · cases hno
  case ldc i0 =>
    simp only [no_] at hno
    cases hq : F.2.2.1.find? fun q => q.1 == i0 with
    | none => rw [hq] at hno; cases hno
    | some q =>
      rw [hq] at hno
      have hm := List.mem_of_find?_eq_some hq
      have he := List.find?_some hq
      simp only [beq_iff_eq] at he
      obtain ⟨q1, q2⟩ := q
      simp only at he
      subst he
      subst hn
      have hi : de_ i = .iconst q2 := (Option.some.inj hno).symm
      obtain rfl : i = .iconst q2 := de_n hi rfl
      have hc := hF.2.2.1 _ hm
      exact j_ldc hc.2.1 hc.2.2 hc.1 hd hp (ih _ _ _ h)
  case ldc_w i0 =>
    simp only [no_] at hno
    cases hq : F.2.2.1.find? fun q => q.1 == i0 with
    | none => rw [hq] at hno; cases hno
    | some q =>
      rw [hq] at hno
      have hm := List.mem_of_find?_eq_some hq
      have he := List.find?_some hq
      simp only [beq_iff_eq] at he
      obtain ⟨q1, q2⟩ := q
      simp only at he
      subst he
      subst hn
      have hi : de_ i = .iconst q2 := (Option.some.inj hno).symm
      obtain rfl : i = .iconst q2 := de_n hi rfl
      have hc := hF.2.2.1 _ hm
      exact j_ldcw hc.2.1 hc.2.2 hc.1 hd hp (ih _ _ _ h)
  case ldc2_w i0 =>
    simp only [no_] at hno
    cases hq : F.2.2.2.find? fun q => q.1 == i0 with
    | none => rw [hq] at hno; cases hno
    | some q =>
      rw [hq] at hno
      have hm := List.mem_of_find?_eq_some hq
      have he := List.find?_some hq
      simp only [beq_iff_eq] at he
      obtain ⟨q1, q2⟩ := q
      simp only at he
      subst he
      subst hn
      have hi : de_ i = .sipush q2 := (Option.some.inj hno).symm
      obtain rfl : i = .sipush q2 := de_n hi rfl
      have hc := hF.2.2.2 _ hm
      exact j_ldc2 hc.2.1 hc.2.2 hc.1 hd hp (ih _ _ _ h)
  case lconst n0 =>
    subst hn
    have hi : de_ i = .sipush ((n0 : Nat) : Int) := (Option.some.inj hno).symm
    obtain rfl : i = .sipush ((n0 : Nat) : Int) := de_n hi rfl
    exact j_lconst hd hp (ih _ _ _ h)
  case iload k0 =>
    subst hn
    have hi : de_ i = .iload k0 := (Option.some.inj hno).symm
    obtain rfl : i = .iload k0 := de_n hi rfl
    simp only [sx_] at h
    split at h
    · rename_i hk
      exact j_iload hk hd hp (ih _ _ _ h)
    · exact h.elim
  case iload_n k0 =>
    subst hn
    have hi : de_ i = .iload (k0 : Nat) := (Option.some.inj hno).symm
    obtain rfl : i = .iload (k0 : Nat) := de_n hi rfl
    simp only [sx_] at h
    split at h
    · rename_i hk
      exact j_iload_n hk hd hp (ih _ _ _ h)
    · exact h.elim
  case aload k0 =>
    subst hn
    have hi : de_ i = .aload k0 := (Option.some.inj hno).symm
    obtain rfl : i = .aload k0 := de_n hi rfl
    simp only [sx_] at h
    split at h
    · rename_i hk
      exact j_aload hk hd hp (ih _ _ _ h)
    · exact h.elim
  case aload_n k0 =>
    subst hn
    have hi : de_ i = .aload (k0 : Nat) := (Option.some.inj hno).symm
    obtain rfl : i = .aload (k0 : Nat) := de_n hi rfl
    simp only [sx_] at h
    split at h
    · rename_i hk
      exact j_aload_n hk hd hp (ih _ _ _ h)
    · exact h.elim
  case lload k0 =>
    subst hn
    have hi : de_ i = .lload k0 := (Option.some.inj hno).symm
    obtain rfl : i = .lload k0 := de_n hi rfl
    simp only [sx_] at h
    split at h
    · rename_i hk
      exact j_lload hk hd hp (ih _ _ _ h)
    · exact h.elim
  case lload_n k0 =>
    subst hn
    have hi : de_ i = .lload (k0 : Nat) := (Option.some.inj hno).symm
    obtain rfl : i = .lload (k0 : Nat) := de_n hi rfl
    simp only [sx_] at h
    split at h
    · rename_i hk
      exact j_lload_n hk hd hp (ih _ _ _ h)
    · exact h.elim
  case istore k0 =>
    subst hn
    have hi : de_ i = .istore k0 := (Option.some.inj hno).symm
    obtain rfl : i = .istore k0 := de_n hi rfl
    simp only [sx_] at h
    split at h
    · obtain ⟨a1, a2, a3⟩ := st_spec h
      exact j_istore hp hd a1 a2 (ih _ _ _ a3)
    · exact h.elim
  case istore_n k0 =>
    subst hn
    have hi : de_ i = .istore (k0 : Nat) := (Option.some.inj hno).symm
    obtain rfl : i = .istore (k0 : Nat) := de_n hi rfl
    simp only [sx_] at h
    split at h
    · obtain ⟨a1, a2, a3⟩ := st_spec h
      exact j_istore_n hp hd a1 a2 (ih _ _ _ a3)
    · exact h.elim
  case astore k0 =>
    subst hn
    have hi : de_ i = .astore k0 := (Option.some.inj hno).symm
    obtain rfl : i = .astore k0 := de_n hi rfl
    simp only [sx_] at h
    split at h
    · obtain ⟨a1, a2, a3⟩ := st_spec h
      exact j_astore hp hd a1 a2 (ih _ _ _ a3)
    · exact h.elim
  case astore_n k0 =>
    subst hn
    have hi : de_ i = .astore (k0 : Nat) := (Option.some.inj hno).symm
    obtain rfl : i = .astore (k0 : Nat) := de_n hi rfl
    simp only [sx_] at h
    split at h
    · obtain ⟨a1, a2, a3⟩ := st_spec h
      exact j_astore_n hp hd a1 a2 (ih _ _ _ a3)
    · exact h.elim
  case lstore k0 =>
    subst hn
    have hi : de_ i = .lstore k0 := (Option.some.inj hno).symm
    obtain rfl : i = .lstore k0 := de_n hi rfl
    simp only [sx_] at h
    split at h
    · obtain ⟨a1, a2, a3⟩ := st_spec h
      obtain ⟨b1, b2, b3⟩ := st_spec a3
      obtain ⟨c1, c2, c3⟩ := st_spec b3
      rw [List.length_set] at b1
      exact j_lstore hp hd b1 a2 (ih _ _ _ c3)
    · exact h.elim
  case lstore_n k0 =>
    subst hn
    have hi : de_ i = .lstore (k0 : Nat) := (Option.some.inj hno).symm
    obtain rfl : i = .lstore (k0 : Nat) := de_n hi rfl
    simp only [sx_] at h
    split at h
    · obtain ⟨a1, a2, a3⟩ := st_spec h
      obtain ⟨b1, b2, b3⟩ := st_spec a3
      obtain ⟨c1, c2, c3⟩ := st_spec b3
      rw [List.length_set] at b1
      exact j_lstore_n hp hd b1 a2 (ih _ _ _ c3)
    · exact h.elim
  case iinc k0 n0 =>
    subst hn
    have hi : de_ i = .iinc k0 n0 := (Option.some.inj hno).symm
    obtain rfl : i = .iinc k0 n0 := de_n hi rfl
    simp only [sx_] at h
    split at h
    · rename_i hk
      obtain ⟨a1, a2, a3⟩ := st_spec h.2.2
      exact j_iinc hp hd hk h.1 h.2.1 a2 (ih _ _ _ a3)
    · exact h.elim
  case iadd =>
    subst hn
    have hi : de_ i = .iadd := (Option.some.inj hno).symm
    have hi2 : i = .iadd ∨ i = .fadd := by
      rcases de_inv i _ hi with q | q | q | q | q | q | q | q | q | q
      · exact Or.inl q
      all_goals first | exact Or.inr q.1 | exact absurd q.2 (by simp)
    rcases hi2 with rfl | rfl
    · simp only [sx_] at h
      split at h
      · exact j_iadd h.1 h.2.1 hd hp (ih _ _ _ h.2.2)
      · exact h.elim
    · simp only [sx_] at h
      split at h
      · exact j_iaddw hd hp (ih _ _ _ (h (wr_r _).1 (wr_r _).2))
      · exact h.elim
  case isub =>
    subst hn
    have hi : de_ i = .isub := (Option.some.inj hno).symm
    have hi2 : i = .isub ∨ i = .fsub := by
      rcases de_inv i _ hi with q | q | q | q | q | q | q | q | q | q
      · exact Or.inl q
      all_goals first | exact Or.inr q.1 | exact absurd q.2 (by simp)
    rcases hi2 with rfl | rfl
    · simp only [sx_] at h
      split at h
      · exact j_isub h.1 h.2.1 hd hp (ih _ _ _ h.2.2)
      · exact h.elim
    · simp only [sx_] at h
      split at h
      · exact j_isubw hd hp (ih _ _ _ (h (wr_r _).1 (wr_r _).2))
      · exact h.elim
  case imul =>
    subst hn
    have hi : de_ i = .imul := (Option.some.inj hno).symm
    have hi2 : i = .imul ∨ i = .fmul := by
      rcases de_inv i _ hi with q | q | q | q | q | q | q | q | q | q
      · exact Or.inl q
      all_goals first | exact Or.inr q.1 | exact absurd q.2 (by simp)
    rcases hi2 with rfl | rfl
    · simp only [sx_] at h
      split at h
      · exact j_imul h.1 h.2.1 hd hp (ih _ _ _ h.2.2)
      · exact h.elim
    · simp only [sx_] at h
      split at h
      · exact j_imulw hd hp (ih _ _ _ (h (wr_r _).1 (wr_r _).2))
      · exact h.elim
  case ineg =>
    subst hn
    have hi : de_ i = .ineg := (Option.some.inj hno).symm
    have hi2 : i = .ineg ∨ i = .fneg := by
      rcases de_inv i _ hi with q | q | q | q | q | q | q | q | q | q
      · exact Or.inl q
      all_goals first | exact Or.inr q.1 | exact absurd q.2 (by simp)
    rcases hi2 with rfl | rfl
    · simp only [sx_] at h
      split at h
      · exact j_ineg h.1 h.2.1 hd hp (ih _ _ _ h.2.2)
      · exact h.elim
    · simp only [sx_] at h
      split at h
      · exact j_inegw hd hp (ih _ _ _ (h (wr_r _).1 (wr_r _).2))
      · exact h.elim
  case idiv =>
    subst hn
    have hi : de_ i = .idiv := (Option.some.inj hno).symm
    have hi2 : i = .idiv ∨ i = .fdiv := by
      rcases de_inv i _ hi with q | q | q | q | q | q | q | q | q | q
      · exact Or.inl q
      all_goals first | exact Or.inr q.1 | exact absurd q.2 (by simp)
    rcases hi2 with rfl | rfl
    · simp only [sx_] at h
      split at h
      · exact j_idiv h.1 h.2.1 hd hp (ih _ _ _ h.2.2)
      · exact h.elim
    · simp only [sx_] at h
      split at h
      · exact j_idivq h.1 hd hp (ih _ _ _ (h.2 (i3_r _).1 (i3_r _).2))
      · exact h.elim
  case irem =>
    subst hn
    have hi : de_ i = .irem := (Option.some.inj hno).symm
    have hi2 : i = .irem ∨ i = .frem := by
      rcases de_inv i _ hi with q | q | q | q | q | q | q | q | q | q
      · exact Or.inl q
      all_goals first | exact Or.inr q.1 | exact absurd q.2 (by simp)
    rcases hi2 with rfl | rfl
    · simp only [sx_] at h
      split at h
      · exact j_irem h.1 h.2.1 hd hp (ih _ _ _ h.2.2)
      · exact h.elim
    · simp only [sx_] at h
      split at h
      · exact j_iremq h.1 hd hp (ih _ _ _ (h.2 (i3_r _).1 (i3_r _).2))
      · exact h.elim
  case iand =>
    subst hn
    have hi : de_ i = .iand := (Option.some.inj hno).symm
    obtain rfl : i = .iand := de_n hi rfl
    simp only [sx_] at h
    split at h
    · exact j_iand hd hp (ih _ _ _ (h (i3_r _).1 (i3_r _).2))
    · exact h.elim
  case ior =>
    subst hn
    have hi : de_ i = .ior := (Option.some.inj hno).symm
    obtain rfl : i = .ior := de_n hi rfl
    simp only [sx_] at h
    split at h
    · exact j_ior hd hp (ih _ _ _ (h (i3_r _).1 (i3_r _).2))
    · exact h.elim
  case ixor =>
    subst hn
    have hi : de_ i = .ixor := (Option.some.inj hno).symm
    obtain rfl : i = .ixor := de_n hi rfl
    simp only [sx_] at h
    split at h
    · exact j_ixor hd hp (ih _ _ _ (h (i3_r _).1 (i3_r _).2))
    · exact h.elim
  case ishl =>
    subst hn
    have hi : de_ i = .ishl := (Option.some.inj hno).symm
    obtain rfl : i = .ishl := de_n hi rfl
    simp only [sx_] at h
    split at h
    · exact j_ishl hd hp (ih _ _ _ (h (i3_r _).1 (i3_r _).2))
    · exact h.elim
  case ishr =>
    subst hn
    have hi : de_ i = .ishr := (Option.some.inj hno).symm
    obtain rfl : i = .ishr := de_n hi rfl
    simp only [sx_] at h
    split at h
    · exact j_ishr hd hp (ih _ _ _ (h (i3_r _).1 (i3_r _).2))
    · exact h.elim
  case iushr =>
    subst hn
    have hi : de_ i = .iushr := (Option.some.inj hno).symm
    obtain rfl : i = .iushr := de_n hi rfl
    simp only [sx_] at h
    split at h
    · exact j_iushr hd hp (ih _ _ _ (h (i3_r _).1 (i3_r _).2))
    · exact h.elim
  case i2l =>
    subst hn
    have hi : de_ i = .i2l := (Option.some.inj hno).symm
    obtain rfl : i = .i2l := de_n hi rfl
    simp only [sx_] at h
    split at h
    · exact j_i2l hd hp (ih _ _ _ h)
    · exact h.elim
  case l2i =>
    subst hn
    have hi : de_ i = .l2i := (Option.some.inj hno).symm
    obtain rfl : i = .l2i := de_n hi rfl
    simp only [sx_] at h
    split at h
    · exact j_l2i h.1 h.2.1 hd hp (ih _ _ _ h.2.2)
    · exact h.elim
  case lrem =>
    subst hn
    have hi : de_ i = .lrem := (Option.some.inj hno).symm
    obtain rfl : i = .lrem := de_n hi rfl
    simp only [sx_] at h
    split at h
    · exact j_lrem h.1 h.2.1 hd hp (ih _ _ _ h.2.2)
    · exact h.elim
  case ladd =>
    subst hn
    have hi : de_ i = .ladd := (Option.some.inj hno).symm
    have hi2 : i = .ladd ∨ i = .dadd := by
      rcases de_inv i _ hi with q | q | q | q | q | q | q | q | q | q
      · exact Or.inl q
      all_goals first | exact Or.inr q.1 | exact absurd q.2 (by simp)
    rcases hi2 with rfl | rfl
    · simp only [sx_] at h
      split at h
      · exact j_ladd h.1 h.2.1 hd hp (ih _ _ _ h.2.2)
      · exact h.elim
    · simp only [sx_] at h
      split at h
      · exact j_laddw hd hp (ih _ _ _ (h (wq_r _).1 (wq_r _).2))
      · exact h.elim
  case lsub =>
    subst hn
    have hi : de_ i = .lsub := (Option.some.inj hno).symm
    have hi2 : i = .lsub ∨ i = .dsub := by
      rcases de_inv i _ hi with q | q | q | q | q | q | q | q | q | q
      · exact Or.inl q
      all_goals first | exact Or.inr q.1 | exact absurd q.2 (by simp)
    rcases hi2 with rfl | rfl
    · simp only [sx_] at h
      split at h
      · exact j_lsub h.1 h.2.1 hd hp (ih _ _ _ h.2.2)
      · exact h.elim
    · simp only [sx_] at h
      split at h
      · exact j_lsubw hd hp (ih _ _ _ (h (wq_r _).1 (wq_r _).2))
      · exact h.elim
  case lmul =>
    subst hn
    have hi : de_ i = .lmul := (Option.some.inj hno).symm
    have hi2 : i = .lmul ∨ i = .dmul := by
      rcases de_inv i _ hi with q | q | q | q | q | q | q | q | q | q
      · exact Or.inl q
      all_goals first | exact Or.inr q.1 | exact absurd q.2 (by simp)
    rcases hi2 with rfl | rfl
    · simp only [sx_] at h
      split at h
      · exact j_lmul h.1 h.2.1 hd hp (ih _ _ _ h.2.2)
      · exact h.elim
    · simp only [sx_] at h
      split at h
      · exact j_lmulw hd hp (ih _ _ _ (h (wq_r _).1 (wq_r _).2))
      · exact h.elim
  case lcmp =>
    subst hn
    have hi : de_ i = .lcmp := (Option.some.inj hno).symm
    obtain rfl : i = .lcmp := de_n hi rfl
    simp only [sx_] at h
    split at h
    · rename_i y x st' 
      refine j_lcmp hd hp (ih _ _ _ ?_)
      by_cases a : x < y
      · rw [if_pos a]; exact h.1 a
      · by_cases b : x = y
        · rw [if_neg a, if_pos b]; exact h.2.1 b
        · rw [if_neg a, if_neg b]; exact h.2.2 (by omega)
    · exact h.elim
  case dup =>
    subst hn
    have hi : de_ i = .dup := (Option.some.inj hno).symm
    obtain rfl : i = .dup := de_n hi rfl
    simp only [sx_] at h
    split at h
    · exact j_dupi hd hp (ih _ _ _ h)
    · exact j_dupr hd hp (ih _ _ _ h)
    · exact h.elim
  case dup2 =>
    subst hn
    have hi : de_ i = .dup2 := (Option.some.inj hno).symm
    obtain rfl : i = .dup2 := de_n hi rfl
    simp only [sx_] at h
    split at h
    · exact j_dup2 hd hp (ih _ _ _ h)
    · exact h.elim
  case pop =>
    subst hn
    have hi : de_ i = .pop := (Option.some.inj hno).symm
    obtain rfl : i = .pop := de_n hi rfl
    simp only [sx_] at h
    split at h
    · exact j_popi hd hp (ih _ _ _ h)
    · exact j_popr hd hp (ih _ _ _ h)
    · exact h.elim
  case goto off =>
    simp only [no_] at hno
    split at hno
    · rename_i hg
      subst hn
      have hi : de_ i = .goto (pc + off) := (Option.some.inj hno).symm
      obtain rfl : i = .goto (pc + off) := de_n hi rfl
      exact j_jump hp hg rfl hd h
    · cases hno
  case if_icmp cnd off =>
    simp only [no_] at hno
    split at hno
    · rename_i hg
      subst hn
      have hi : de_ i = .if_icmp cnd (pc + off) := (Option.some.inj hno).symm
      obtain rfl : i = .if_icmp cnd (pc + off) := de_n hi rfl
      simp only [sx_] at h
      split at h
      · cases cnd
        case eq => exact j_icmp_eq hp hg rfl hd (fun q => h.1 q) (fun q => ih _ _ _ (h.2 q))
        case ne => exact j_icmp_ne hp hg rfl hd (fun q => h.1 q) (fun q => ih _ _ _ (h.2 q))
        case lt => exact j_icmp_lt hp hg rfl hd (fun q => h.1 q) (fun q => ih _ _ _ (h.2 q))
        case ge => exact j_icmp_ge hp hg rfl hd (fun q => h.1 q) (fun q => ih _ _ _ (h.2 q))
        case gt => exact j_icmp_gt hp hg rfl hd (fun q => h.1 q) (fun q => ih _ _ _ (h.2 q))
        case le => exact j_icmp_le hp hg rfl hd (fun q => h.1 q) (fun q => ih _ _ _ (h.2 q))
      · exact h.elim
    · cases hno
  case ifCond cnd off =>
    simp only [no_] at hno
    split at hno
    · rename_i hg
      subst hn
      have hi : de_ i = .ifCond cnd (pc + off) := (Option.some.inj hno).symm
      obtain rfl : i = .ifCond cnd (pc + off) := de_n hi rfl
      simp only [sx_] at h
      split at h
      · cases cnd
        case eq => exact j_if_eq hp hg rfl hd (fun q => h.1 q) (fun q => ih _ _ _ (h.2 q))
        case ne => exact j_if_ne hp hg rfl hd (fun q => h.1 q) (fun q => ih _ _ _ (h.2 q))
        case lt => exact j_if_lt hp hg rfl hd (fun q => h.1 q) (fun q => ih _ _ _ (h.2 q))
        case ge => exact j_if_ge hp hg rfl hd (fun q => h.1 q) (fun q => ih _ _ _ (h.2 q))
        case gt => exact j_if_gt hp hg rfl hd (fun q => h.1 q) (fun q => ih _ _ _ (h.2 q))
        case le => exact j_if_le hp hg rfl hd (fun q => h.1 q) (fun q => ih _ _ _ (h.2 q))
      · exact h.elim
    · cases hno
  case ifnull off =>
    simp only [no_] at hno
    split at hno
    · rename_i hg
      subst hn
      have hi : de_ i = .ifnull (pc + off) := (Option.some.inj hno).symm
      obtain rfl : i = .ifnull (pc + off) := de_n hi rfl
      simp only [sx_] at h
      split at h
      · exact j_ifnull_N hp hg rfl hd h
      · exact j_ifnull_R hp hd (ih _ _ _ h)
      · exact h.elim
    · cases hno
  case ifnonnull off =>
    simp only [no_] at hno
    split at hno
    · rename_i hg
      subst hn
      have hi : de_ i = .ifnonnull (pc + off) := (Option.some.inj hno).symm
      obtain rfl : i = .ifnonnull (pc + off) := de_n hi rfl
      simp only [sx_] at h
      split at h
      · exact j_ifnonnull_N hp hd (ih _ _ _ h)
      · exact j_ifnonnull_R hp hg rfl hd h
      · exact h.elim
    · cases hno
  case getfield i0 =>
    simp only [no_] at hno
    cases hq : F.1.find? fun q => q.1 == i0 with
    | none => rw [hq] at hno; cases hno
    | some q =>
      rw [hq] at hno
      have hm := List.mem_of_find?_eq_some hq
      have he := List.find?_some hq
      simp only [beq_iff_eq] at he
      obtain ⟨q1, q2, q3⟩ := q
      simp only at he
      subst he
      subst hn
      have hi : de_ i = .tableswitch 0 (q2 : Int) (q3 : Int) #[] := (Option.some.inj hno).symm
      obtain rfl : i = .tableswitch 0 (q2 : Int) (q3 : Int) #[] := de_n hi rfl
      have hc := hF.1 _ hm
      simp only [sx_] at h
      split at h
      · rename_i k i st'
        split at h
        · rename_i hk
          simp only [Int.toNat_natCast] at hk h
          subst hk
          split at h
          · rename_i ht
            exact j_getf hp hc ht hd (fun a b => ih _ _ _ (h a b))
          · rename_i ht
            exact j_getf hp hc ht hd (fun a b => ih _ _ _ h)
          · rename_i ht
            exact j_getf hp hc ht hd (fun a b => ih _ _ _ h)
          · rename_i ht
            exact j_getf hp hc ht hd (fun a b => ih _ _ _ h)
          · rename_i ht
            refine j_getf hp hc ht hd (fun a b => ih _ _ _ ?_)
            unfold fv_
            by_cases z : T (100 + q2) i (q3 : Int) = 0
            · simp only [z, if_true]; exact h.1 z
            · simp only [z, if_false]; exact h.2 z
          · rename_i ht
            refine j_getf hp hc ht hd (fun a b => ih _ _ _ ?_)
            unfold fv_
            by_cases z : T (100 + q2) i (q3 : Int) = 0
            · simp only [z, if_true]; exact h.1 z
            · simp only [z, if_false]; exact h.2 z
          · exact h.elim
        · exact h.elim
      · exact h.elim
  case putfield i0 =>
    simp only [no_] at hno
    cases hq : F.2.1.find? fun q => q.1 == i0 with
    | none => rw [hq] at hno; cases hno
    | some q =>
      rw [hq] at hno
      have hm := List.mem_of_find?_eq_some hq
      have he := List.find?_some hq
      simp only [beq_iff_eq] at he
      obtain ⟨q1, q2, q3⟩ := q
      simp only at he
      subst he
      subst hn
      have hi : de_ i = .tableswitch 1 (q2 : Int) (q3 : Int) #[] := (Option.some.inj hno).symm
      obtain rfl : i = .tableswitch 1 (q2 : Int) (q3 : Int) #[] := de_n hi rfl
      have hc := hF.2.1 _ hm
      simp only [sx_] at h
      split at h
      · rename_i x k i st'
        split at h
        · rename_i hk
          simp only [Int.toNat_natCast] at hk h
          subst hk
          split at h
          · rename_i ht
            exact j_putf hp hc ht hd h.1 h.2.1 (ih _ _ _ h.2.2)
          · exact h.elim
        · exact h.elim
      · exact h.elim
  case iaload =>
    subst hn
    have hi : de_ i = .iaload := (Option.some.inj hno).symm
    obtain rfl : i = .iaload := de_n hi rfl
    simp only [sx_] at h
    split at h
    · split at h
      · rename_i ha
        exact j_iald hp ha hd h.1 (by unfold ln_; rw [ha]; exact h.2.1) (fun a b => ih _ _ _ (h.2.2 a b))
      · rename_i ha
        exact j_iald hp ha hd h.1 (by unfold ln_; rw [ha]; exact h.2.1) (fun a b => ih _ _ _ (h.2.2 a b))
      · exact h.elim
    · exact h.elim
  case baload =>
    subst hn
    have hi : de_ i = .baload := (Option.some.inj hno).symm
    obtain rfl : i = .baload := de_n hi rfl
    simp only [sx_] at h
    split at h
    · split at h
      · rename_i ha
        exact j_zald hp ha hd h.1 (by unfold ln_; rw [ha]; exact h.2.1) (fun a b => ih _ _ _ (h.2.2 a b))
      · exact h.elim
    · exact h.elim
  case laload =>
    subst hn
    have hi : de_ i = .laload := (Option.some.inj hno).symm
    obtain rfl : i = .laload := de_n hi rfl
    simp only [sx_] at h
    split at h
    · split at h
      · rename_i ha
        exact j_lald hp ha hd h.1 (by unfold ln_; rw [ha]; exact h.2.1) (fun a b => ih _ _ _ (h.2.2 a b))
      · exact h.elim
    · exact h.elim
  case aaload =>
    subst hn
    have hi : de_ i = .aaload := (Option.some.inj hno).symm
    obtain rfl : i = .aaload := de_n hi rfl
    simp only [sx_] at h
    split at h
    · split at h
      · rename_i q9 ha
        exact j_aald4 (lo := q9.1) (hi := q9.2) hp ha hd h.1 (by unfold ln_; rw [ha]; exact h.2.1) (fun a => ih _ _ _ (h.2.2.1 a)) (fun a => ih _ _ _ (h.2.2.2 a))
      · rename_i q9 ha
        exact j_aald5 (lo := q9.1) (hi := q9.2) hp ha hd h.1 (by unfold ln_; rw [ha]; exact h.2.1) (fun a => ih _ _ _ (h.2.2.1 a)) (fun a => ih _ _ _ (h.2.2.2 a))
      · exact h.elim
    · exact h.elim
  case iastore =>
    subst hn
    have hi : de_ i = .iastore := (Option.some.inj hno).symm
    obtain rfl : i = .iastore := de_n hi rfl
    simp only [sx_] at h
    split at h
    · split at h
      · rename_i ha
        exact j_iast hp ha hd h.1 (by unfold ln_; rw [ha]; exact h.2.1) h.2.2.1 h.2.2.2.1 (ih _ _ _ h.2.2.2.2)
      · rename_i ha
        exact j_iast hp ha hd h.1 (by unfold ln_; rw [ha]; exact h.2.1) h.2.2.1 h.2.2.2.1 (ih _ _ _ h.2.2.2.2)
      · exact h.elim
    · exact h.elim
  case bastore =>
    subst hn
    have hi : de_ i = .bastore := (Option.some.inj hno).symm
    obtain rfl : i = .bastore := de_n hi rfl
    simp only [sx_] at h
    split at h
    · split at h
      · rename_i ha
        exact j_zast hp ha hd h.1 (by unfold ln_; rw [ha]; exact h.2.1) h.2.2.1 h.2.2.2.1 (ih _ _ _ h.2.2.2.2)
      · exact h.elim
    · exact h.elim
  case lastore =>
    subst hn
    have hi : de_ i = .lastore := (Option.some.inj hno).symm
    obtain rfl : i = .lastore := de_n hi rfl
    simp only [sx_] at h
    split at h
    · split at h
      · rename_i ha
        exact j_last hp ha hd h.1 (by unfold ln_; rw [ha]; exact h.2.1) h.2.2.1 h.2.2.2.1 (ih _ _ _ h.2.2.2.2)
      · exact h.elim
    · exact h.elim
  case arraylength =>
    subst hn
    have hi : de_ i = .arraylength := (Option.some.inj hno).symm
    obtain rfl : i = .arraylength := de_n hi rfl
    simp only [sx_] at h
    split at h
    · split at h
      · rename_i q9 ha
        refine j_alen (lo := q9.1) (hi := q9.2) hp ha hd (fun a b => ih _ _ _ ?_)
        unfold ln_
        rw [ha]
        exact h
      · rename_i q9 ha
        refine j_alen (lo := q9.1) (hi := q9.2) hp ha hd (fun a b => ih _ _ _ ?_)
        unfold ln_ at a b ⊢
        rw [ha] at a b ⊢
        exact h a b
      · exact h.elim
    · exact h.elim
  case ireturn =>
    simp only [no_] at hno
    split at hno
    · rename_i hg
      subst hn
      have hi : de_ i = .ireturn := (Option.some.inj hno).symm
      obtain rfl : i = .ireturn := de_n hi rfl
      simp only [sx_] at h
      split at h
      · exact j_ireturn (hg.imp id (fun q => ⟨q, hz q _ _ h⟩)) hd h
      · exact h.elim
    · cases hno
  case lreturn =>
    simp only [no_] at hno
    split at hno
    · rename_i hg
      subst hn
      have hi : de_ i = .lreturn := (Option.some.inj hno).symm
      obtain rfl : i = .lreturn := de_n hi rfl
      simp only [sx_] at h
      split at h
      · exact j_lreturn hg hd h
      · exact h.elim
    · cases hno
  case return_ =>
    simp only [no_] at hno
    split at hno
    · rename_i hg
      subst hn
      have hi : de_ i = .return_ := (Option.some.inj hno).symm
      obtain rfl : i = .return_ := de_n hi rfl
      simp only [sx_] at h
      split at h
      · exact j_return hg hd h
      · exact h.elim
    · cases hno
  all_goals exact absurd hno (by simp [no_])
/-- a block runs -/
theorem sx_run {F : Zf} (hF : tb_ Y.1 F) (hz : Y.2.2.2.1 = some .boolean → ∀ T x, P T (some (vI x)) → 0 ≤ x ∧ x ≤ 1) : ∀ (blk : List Instr) (pc : Int) (ls : Zl) (st : List Zv) (T : Zt), 0 ≤ pc → ck_ F Y.2.2.2.1 Y.2.1 pc blk pe = true → sx_ (J_ Y T0 P bc bs) P blk pe ls st T → J_ Y T0 P bc bs pc ls st T := by
  intro blk
  induction blk with
  | nil =>
    intro pc ls st T hp hck h
    have e : pc = pe := by simpa [ck_] using hck
    subst e
    exact h
  | cons i r ih =>
    intro pc ls st T hp hck h
    unfold ck_ at hck
    split at hck
    · rename_i x n hd
      simp only [Bool.and_eq_true, decide_eq_true_eq] at hck
      exact sx_one hF hz hp hd hck.1.1 hck.1.2 h (fun ls st T h => ih _ _ _ _ (by omega) hck.2 h)
    · cases hck
end JS
