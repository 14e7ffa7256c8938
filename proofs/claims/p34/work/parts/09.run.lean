-- a class's links: getfields, putfields, constants
abbrev Zf : Type := List (Nat × Nat × Nat) × List (Nat × Nat × Nat) × List (Nat × Int) × List (Nat × Int)
def tb_ (own : String) (F : Zf) : Prop := (∀ q ∈ F.1, fl_ own q.1 q.2.1 q.2.2) ∧ (∀ q ∈ F.2.1, fp_ own q.1 q.2.1 q.2.2) ∧ (∀ q ∈ F.2.2.1, Cond.constant own q.1 (Int32.ofInt q.2) ∈ lw_g ∧ -2147483648 ≤ q.2 ∧ q.2 ≤ 2147483647) ∧ ∀ q ∈ F.2.2.2, Cond.constantLong own q.1 (Int64.ofInt q.2) ∈ lw_g ∧ -9223372036854775808 ≤ q.2 ∧ q.2 ≤ 9223372036854775807
/-- an instruction as the blocks have it -/
def no_ (F : Zf) (ret : Option FieldType) (pc : Int) (x : Instr) : Option Instr := match x with
  | .iconst n => if -2147483648 ≤ n ∧ n ≤ 2147483647 then some (.iconst n) else none
  | .bipush n => if -128 ≤ n ∧ n ≤ 127 then some (.iconst n) else none
  | .sipush n => if -32768 ≤ n ∧ n ≤ 32767 then some (.iconst n) else none
  | .ldc i => (F.2.2.1.find? fun q => q.1 == i).map fun q => .iconst q.2
  | .ldc_w i => (F.2.2.1.find? fun q => q.1 == i).map fun q => .iconst q.2
  | .ldc2_w i => (F.2.2.2.find? fun q => q.1 == i).map fun q => .sipush q.2
  | .lconst n => some (.sipush ((n : Nat) : Int))
  | .iload k => some (.iload k)
  | .iload_n k => some (.iload (k : Nat))
  | .aload k => some (.aload k)
  | .aload_n k => some (.aload (k : Nat))
  | .lload k => some (.lload k)
  | .lload_n k => some (.lload (k : Nat))
  | .istore k => some (.istore k)
  | .istore_n k => some (.istore (k : Nat))
  | .astore k => some (.astore k)
  | .astore_n k => some (.astore (k : Nat))
  | .lstore k => some (.lstore k)
  | .lstore_n k => some (.lstore (k : Nat))
  | .iinc k n => some (.iinc k n)
  | .goto off => if 0 ≤ pc + off then some (.goto (pc + off)) else none
  | .if_icmp c off => if 0 ≤ pc + off then some (.if_icmp c (pc + off)) else none
  | .ifCond c off => if 0 ≤ pc + off then some (.ifCond c (pc + off)) else none
  | .ifnull off => if 0 ≤ pc + off then some (.ifnull (pc + off)) else none
  | .ifnonnull off => if 0 ≤ pc + off then some (.ifnonnull (pc + off)) else none
  | .getfield i => (F.1.find? fun q => q.1 == i).map fun q => .tableswitch 0 (q.2.1 : Int) (q.2.2 : Int) #[]
  | .putfield i => (F.2.1.find? fun q => q.1 == i).map fun q => .tableswitch 1 (q.2.1 : Int) (q.2.2 : Int) #[]
  | .ireturn => if ret = some .int ∨ ret = some .boolean then some .ireturn else none
  | .lreturn => if ret = some .long then some .lreturn else none
  | .return_ => if ret = none then some .return_ else none
  | .iadd => some .iadd
  | .isub => some .isub
  | .imul => some .imul
  | .ineg => some .ineg
  | .idiv => some .idiv
  | .irem => some .irem
  | .iand => some .iand
  | .ior => some .ior
  | .ixor => some .ixor
  | .ishl => some .ishl
  | .ishr => some .ishr
  | .iushr => some .iushr
  | .i2l => some .i2l
  | .l2i => some .l2i
  | .ladd => some .ladd
  | .lsub => some .lsub
  | .lmul => some .lmul
  | .lrem => some .lrem
  | .lcmp => some .lcmp
  | .dup => some .dup
  | .dup2 => some .dup2
  | .pop => some .pop
  | .iaload => some .iaload
  | .baload => some .baload
  | .laload => some .laload
  | .aaload => some .aaload
  | .iastore => some .iastore
  | .bastore => some .bastore
  | .lastore => some .lastore
  | .arraylength => some .arraylength
  | _ => none
def il_ (x : Instr) : Nat := match x with
  | .bipush _ | .ldc _ | .iload _ | .aload _ | .lload _ | .istore _ | .astore _ | .lstore _ => 2
  | .sipush _ | .ldc_w _ | .ldc2_w _ | .iinc _ _ | .goto _ | .if_icmp _ _ | .ifCond _ _ | .ifnull _ | .ifnonnull _ | .getfield _ | .putfield _ => 3
  | _ => 1
/-- the wrapping forms stand for the plain ones -/
def de_ (i : Instr) : Instr := match i with
  | .fadd => .iadd
  | .fsub => .isub
  | .fmul => .imul
  | .fneg => .ineg
  | .fdiv => .idiv
  | .frem => .irem
  | .dadd => .ladd
  | .dsub => .lsub
  | .dmul => .lmul
  | i => i
theorem de_inv (i y : Instr) (h : de_ i = y) : i = y ∨ (i = .fadd ∧ y = .iadd) ∨ (i = .fsub ∧ y = .isub) ∨ (i = .fmul ∧ y = .imul) ∨ (i = .fneg ∧ y = .ineg) ∨ (i = .fdiv ∧ y = .idiv) ∨ (i = .frem ∧ y = .irem) ∨ (i = .dadd ∧ y = .ladd) ∨ (i = .dsub ∧ y = .lsub) ∨ (i = .dmul ∧ y = .lmul) := by
  cases i <;> first | exact Or.inl h | exact Or.inr (Or.inl ⟨rfl, h.symm⟩) | exact Or.inr (Or.inr (Or.inl ⟨rfl, h.symm⟩)) | exact Or.inr (Or.inr (Or.inr (Or.inl ⟨rfl, h.symm⟩))) | exact Or.inr (Or.inr (Or.inr (Or.inr (Or.inl ⟨rfl, h.symm⟩)))) | exact Or.inr (Or.inr (Or.inr (Or.inr (Or.inr (Or.inl ⟨rfl, h.symm⟩))))) | exact Or.inr (Or.inr (Or.inr (Or.inr (Or.inr (Or.inr (Or.inl ⟨rfl, h.symm⟩)))))) | exact Or.inr (Or.inr (Or.inr (Or.inr (Or.inr (Or.inr (Or.inr (Or.inl ⟨rfl, h.symm⟩))))))) | exact Or.inr (Or.inr (Or.inr (Or.inr (Or.inr (Or.inr (Or.inr (Or.inr (Or.inl ⟨rfl, h.symm⟩)))))))) | exact Or.inr (Or.inr (Or.inr (Or.inr (Or.inr (Or.inr (Or.inr (Or.inr (Or.inr (⟨rfl, h.symm⟩)))))))))
def nsq_ (y : Instr) : Bool := match y with
  | .iadd => false
  | .isub => false
  | .imul => false
  | .ineg => false
  | .idiv => false
  | .irem => false
  | .ladd => false
  | .lsub => false
  | .lmul => false
  | _ => true
theorem de_n {i y : Instr} (h : de_ i = y) (hy : nsq_ y = true) : i = y := by
  subst h
  cases i <;> first | rfl | exact absurd hy (by decide)
def ck_ (F : Zf) (ret : Option FieldType) (cc : ByteArray) : Int → List Instr → Int → Bool
  | pc, [], pe => decide (pc = pe)
  | pc, i :: r, pe => match decode cc pc.toNat with
    | .ok (x, n) => decide (no_ F ret pc x = some (de_ i)) && decide (n = il_ x) && ck_ F ret cc (pc + (n : Int)) r pe
    | .error _ => false
section JS
variable {Y : Zm} {T0 T : Zt} {P : Zt → Option Zv → Prop} {bc bs : Nat} {pc pe : Int} {ls : Zl} {st : List Zv}
set_option maxHeartbeats 4000000 in
theorem sx_one {F : Zf} (hF : tb_ Y.1 F) (hz : Y.2.2.2.1 = some .boolean → ∀ T x, P T (some (vI x)) → 0 ≤ x ∧ x ≤ 1) {x i : Instr} {n : Nat} {r : List Instr} (hp : 0 ≤ pc) (hd : decode Y.2.1 pc.toNat = .ok (x, n)) (hno : no_ F Y.2.2.2.1 pc x = some (de_ i)) (hn : n = il_ x) (h : sx_ (J_ Y T0 P bc bs) P (i :: r) pe ls st T) (ih : ∀ ls st T, sx_ (J_ Y T0 P bc bs) P r pe ls st T → J_ Y T0 P bc bs (pc + (n : Int)) ls st T) : J_ Y T0 P bc bs pc ls st T := by
  cases x
  case iconst n0 =>
    simp only [no_] at hno
    split at hno
    · rename_i hg
      subst hn
      have hi : de_ i = .iconst n0 := (Option.some.inj hno).symm
      obtain rfl : i = .iconst n0 := de_n hi rfl
      exact j_iconst hg.1 hg.2 hd hp (ih _ _ _ h)
    · cases hno
  case bipush n0 =>
    simp only [no_] at hno
    split at hno
    · rename_i hg
      subst hn
      have hi : de_ i = .iconst n0 := (Option.some.inj hno).symm
      obtain rfl : i = .iconst n0 := de_n hi rfl
      exact j_bipush hg.1 hg.2 hd hp (ih _ _ _ h)
    · cases hno
  case sipush n0 =>
    simp only [no_] at hno
    split at hno
    · rename_i hg
      subst hn
      have hi : de_ i = .iconst n0 := (Option.some.inj hno).symm
      obtain rfl : i = .iconst n0 := de_n hi rfl
      exact j_sipush hg.1 hg.2 hd hp (ih _ _ _ h)
    · cases hno
  case ldc i0 =>
    simp only [no_] at hno
    cases hq : F.2.2.1.find? fun q => q.1 == i0 with
    | none => rw [hq] at hno; cases hno
    | some q =>
      rw [hq] at hno
      have hm := List.mem_of_find?_eq_some hq
      have he := List.find?_some hq
      simp only [beq_iff_eq] at he
      obtain ⟨q1, q2⟩ := q
      simp only at he
      subst he
      subst hn
      have hi : de_ i = .iconst q2 := (Option.some.inj hno).symm
      obtain rfl : i = .iconst q2 := de_n hi rfl
      have hc := hF.2.2.1 _ hm
      exact j_ldc hc.2.1 hc.2.2 hc.1 hd hp (ih _ _ _ h)
  case ldc_w i0 =>
    simp only [no_] at hno
    cases hq : F.2.2.1.find? fun q => q.1 == i0 with
    | none => rw [hq] at hno; cases hno
    | some q =>
      rw [hq] at hno
      have hm := List.mem_of_find?_eq_some hq
      have he := List.find?_some hq
      simp only [beq_iff_eq] at he
      obtain ⟨q1, q2⟩ := q
      simp only at he
      subst he
      subst hn
      have hi : de_ i = .iconst q2 := (Option.some.inj hno).symm
      obtain rfl : i = .iconst q2 := de_n hi rfl
      have hc := hF.2.2.1 _ hm
      exact j_ldcw hc.2.1 hc.2.2 hc.1 hd hp (ih _ _ _ h)
  case ldc2_w i0 =>
    simp only [no_] at hno
    cases hq : F.2.2.2.find? fun q => q.1 == i0 with
    | none => rw [hq] at hno; cases hno
    | some q =>
      rw [hq] at hno
      have hm := List.mem_of_find?_eq_some hq
      have he := List.find?_some hq
      simp only [beq_iff_eq] at he
      obtain ⟨q1, q2⟩ := q
      simp only at he
      subst he
      subst hn
      have hi : de_ i = .sipush q2 := (Option.some.inj hno).symm
      obtain rfl : i = .sipush q2 := de_n hi rfl
      have hc := hF.2.2.2 _ hm
      exact j_ldc2 hc.2.1 hc.2.2 hc.1 hd hp (ih _ _ _ h)
  case lconst n0 =>
    subst hn
    have hi : de_ i = .sipush ((n0 : Nat) : Int) := (Option.some.inj hno).symm
    obtain rfl : i = .sipush ((n0 : Nat) : Int) := de_n hi rfl
    exact j_lconst hd hp (ih _ _ _ h)
  case iload k0 =>
    subst hn
    have hi : de_ i = .iload k0 := (Option.some.inj hno).symm
    obtain rfl : i = .iload k0 := de_n hi rfl
    simp only [sx_] at h
    split at h
    · rename_i hk
      exact j_iload hk hd hp (ih _ _ _ h)
    · exact h.elim
  case iload_n k0 =>
    subst hn
    have hi : de_ i = .iload (k0 : Nat) := (Option.some.inj hno).symm
    obtain rfl : i = .iload (k0 : Nat) := de_n hi rfl
    simp only [sx_] at h
    split at h
    · rename_i hk
      exact j_iload_n hk hd hp (ih _ _ _ h)
    · exact h.elim
  case aload k0 =>
    subst hn
    have hi : de_ i = .aload k0 := (Option.some.inj hno).symm
    obtain rfl : i = .aload k0 := de_n hi rfl
    simp only [sx_] at h
    split at h
    · rename_i hk
      exact j_aload hk hd hp (ih _ _ _ h)
    · exact h.elim
  case aload_n k0 =>
    subst hn
    have hi : de_ i = .aload (k0 : Nat) := (Option.some.inj hno).symm
    obtain rfl : i = .aload (k0 : Nat) := de_n hi rfl
    simp only [sx_] at h
    split at h
    · rename_i hk
      exact j_aload_n hk hd hp (ih _ _ _ h)
    · exact h.elim
  case lload k0 =>
    subst hn
    have hi : de_ i = .lload k0 := (Option.some.inj hno).symm
    obtain rfl : i = .lload k0 := de_n hi rfl
    simp only [sx_] at h
    split at h
    · rename_i hk
      exact j_lload hk hd hp (ih _ _ _ h)
    · exact h.elim
  case lload_n k0 =>
    subst hn
    have hi : de_ i = .lload (k0 : Nat) := (Option.some.inj hno).symm
    obtain rfl : i = .lload (k0 : Nat) := de_n hi rfl
    simp only [sx_] at h
    split at h
    · rename_i hk
      exact j_lload_n hk hd hp (ih _ _ _ h)
    · exact h.elim
  case istore k0 =>
    subst hn
    have hi : de_ i = .istore k0 := (Option.some.inj hno).symm
    obtain rfl : i = .istore k0 := de_n hi rfl
    simp only [sx_] at h
    split at h
    · obtain ⟨a1, a2, a3⟩ := st_spec h
      exact j_istore hp hd a1 a2 (ih _ _ _ a3)
    · exact h.elim
  case istore_n k0 =>
    subst hn
    have hi : de_ i = .istore (k0 : Nat) := (Option.some.inj hno).symm
    obtain rfl : i = .istore (k0 : Nat) := de_n hi rfl
    simp only [sx_] at h
    split at h
    · obtain ⟨a1, a2, a3⟩ := st_spec h
      exact j_istore_n hp hd a1 a2 (ih _ _ _ a3)
    · exact h.elim
  case astore k0 =>
    subst hn
    have hi : de_ i = .astore k0 := (Option.some.inj hno).symm
    obtain rfl : i = .astore k0 := de_n hi rfl
    simp only [sx_] at h
    split at h
    · obtain ⟨a1, a2, a3⟩ := st_spec h
      exact j_astore hp hd a1 a2 (ih _ _ _ a3)
    · exact h.elim
  case astore_n k0 =>
    subst hn
    have hi : de_ i = .astore (k0 : Nat) := (Option.some.inj hno).symm
    obtain rfl : i = .astore (k0 : Nat) := de_n hi rfl
    simp only [sx_] at h
    split at h
    · obtain ⟨a1, a2, a3⟩ := st_spec h
      exact j_astore_n hp hd a1 a2 (ih _ _ _ a3)
    · exact h.elim
  case lstore k0 =>
    subst hn
    have hi : de_ i = .lstore k0 := (Option.some.inj hno).symm
    obtain rfl : i = .lstore k0 := de_n hi rfl
    simp only [sx_] at h
    split at h
    · obtain ⟨a1, a2, a3⟩ := st_spec h
      obtain ⟨b1, b2, b3⟩ := st_spec a3
      obtain ⟨c1, c2, c3⟩ := st_spec b3
      rw [List.length_set] at b1
      exact j_lstore hp hd b1 a2 (ih _ _ _ c3)
    · exact h.elim
  case lstore_n k0 =>
    subst hn
    have hi : de_ i = .lstore (k0 : Nat) := (Option.some.inj hno).symm
    obtain rfl : i = .lstore (k0 : Nat) := de_n hi rfl
    simp only [sx_] at h
    split at h
    · obtain ⟨a1, a2, a3⟩ := st_spec h
      obtain ⟨b1, b2, b3⟩ := st_spec a3
      obtain ⟨c1, c2, c3⟩ := st_spec b3
      rw [List.length_set] at b1
      exact j_lstore_n hp hd b1 a2 (ih _ _ _ c3)
    · exact h.elim
  case iinc k0 n0 =>
    subst hn
    have hi : de_ i = .iinc k0 n0 := (Option.some.inj hno).symm
    obtain rfl : i = .iinc k0 n0 := de_n hi rfl
    simp only [sx_] at h
    split at h
    · rename_i hk
      obtain ⟨a1, a2, a3⟩ := st_spec h.2.2
      exact j_iinc hp hd hk h.1 h.2.1 a2 (ih _ _ _ a3)
    · exact h.elim
  case iadd =>
    subst hn
    have hi : de_ i = .iadd := (Option.some.inj hno).symm
    have hi2 : i = .iadd ∨ i = .fadd := by
      rcases de_inv i _ hi with q | q | q | q | q | q | q | q | q | q
      · exact Or.inl q
      all_goals first | exact Or.inr q.1 | exact absurd q.2 (by simp)
    rcases hi2 with rfl | rfl
    · simp only [sx_] at h
      split at h
      · exact j_iadd h.1 h.2.1 hd hp (ih _ _ _ h.2.2)
      · exact h.elim
    · simp only [sx_] at h
      split at h
      · exact j_iaddw hd hp (ih _ _ _ (h (wr_r _).1 (wr_r _).2))
      · exact h.elim
  case isub =>
    subst hn
    have hi : de_ i = .isub := (Option.some.inj hno).symm
    have hi2 : i = .isub ∨ i = .fsub := by
      rcases de_inv i _ hi with q | q | q | q | q | q | q | q | q | q
      · exact Or.inl q
      all_goals first | exact Or.inr q.1 | exact absurd q.2 (by simp)
    rcases hi2 with rfl | rfl
    · simp only [sx_] at h
      split at h
      · exact j_isub h.1 h.2.1 hd hp (ih _ _ _ h.2.2)
      · exact h.elim
    · simp only [sx_] at h
      split at h
      · exact j_isubw hd hp (ih _ _ _ (h (wr_r _).1 (wr_r _).2))
      · exact h.elim
  case imul =>
    subst hn
    have hi : de_ i = .imul := (Option.some.inj hno).symm
    have hi2 : i = .imul ∨ i = .fmul := by
      rcases de_inv i _ hi with q | q | q | q | q | q | q | q | q | q
      · exact Or.inl q
      all_goals first | exact Or.inr q.1 | exact absurd q.2 (by simp)
    rcases hi2 with rfl | rfl
    · simp only [sx_] at h
      split at h
      · exact j_imul h.1 h.2.1 hd hp (ih _ _ _ h.2.2)
      · exact h.elim
    · simp only [sx_] at h
      split at h
      · exact j_imulw hd hp (ih _ _ _ (h (wr_r _).1 (wr_r _).2))
      · exact h.elim
  case ineg =>
    subst hn
    have hi : de_ i = .ineg := (Option.some.inj hno).symm
    have hi2 : i = .ineg ∨ i = .fneg := by
      rcases de_inv i _ hi with q | q | q | q | q | q | q | q | q | q
      · exact Or.inl q
      all_goals first | exact Or.inr q.1 | exact absurd q.2 (by simp)
    rcases hi2 with rfl | rfl
    · simp only [sx_] at h
      split at h
      · exact j_ineg h.1 h.2.1 hd hp (ih _ _ _ h.2.2)
      · exact h.elim
    · simp only [sx_] at h
      split at h
      · exact j_inegw hd hp (ih _ _ _ (h (wr_r _).1 (wr_r _).2))
      · exact h.elim
  case idiv =>
    subst hn
    have hi : de_ i = .idiv := (Option.some.inj hno).symm
    have hi2 : i = .idiv ∨ i = .fdiv := by
      rcases de_inv i _ hi with q | q | q | q | q | q | q | q | q | q
      · exact Or.inl q
      all_goals first | exact Or.inr q.1 | exact absurd q.2 (by simp)
    rcases hi2 with rfl | rfl
    · simp only [sx_] at h
      split at h
      · exact j_idiv h.1 h.2.1 hd hp (ih _ _ _ h.2.2)
      · exact h.elim
    · simp only [sx_] at h
      split at h
      · exact j_idivq h.1 hd hp (ih _ _ _ (h.2 (i3_r _).1 (i3_r _).2))
      · exact h.elim
  case irem =>
    subst hn
    have hi : de_ i = .irem := (Option.some.inj hno).symm
    have hi2 : i = .irem ∨ i = .frem := by
      rcases de_inv i _ hi with q | q | q | q | q | q | q | q | q | q
      · exact Or.inl q
      all_goals first | exact Or.inr q.1 | exact absurd q.2 (by simp)
    rcases hi2 with rfl | rfl
    · simp only [sx_] at h
      split at h
      · exact j_irem h.1 h.2.1 hd hp (ih _ _ _ h.2.2)
      · exact h.elim
    · simp only [sx_] at h
      split at h
      · exact j_iremq h.1 hd hp (ih _ _ _ (h.2 (i3_r _).1 (i3_r _).2))
      · exact h.elim
  case iand =>
    subst hn
    have hi : de_ i = .iand := (Option.some.inj hno).symm
    obtain rfl : i = .iand := de_n hi rfl
    simp only [sx_] at h
    split at h
    · exact j_iand hd hp (ih _ _ _ (h (i3_r _).1 (i3_r _).2))
    · exact h.elim
  case ior =>
    subst hn
    have hi : de_ i = .ior := (Option.some.inj hno).symm
    obtain rfl : i = .ior := de_n hi rfl
    simp only [sx_] at h
    split at h
    · exact j_ior hd hp (ih _ _ _ (h (i3_r _).1 (i3_r _).2))
    · exact h.elim
  case ixor =>
    subst hn
    have hi : de_ i = .ixor := (Option.some.inj hno).symm
    obtain rfl : i = .ixor := de_n hi rfl
    simp only [sx_] at h
    split at h
    · exact j_ixor hd hp (ih _ _ _ (h (i3_r _).1 (i3_r _).2))
    · exact h.elim
  case ishl =>
    subst hn
    have hi : de_ i = .ishl := (Option.some.inj hno).symm
    obtain rfl : i = .ishl := de_n hi rfl
    simp only [sx_] at h
    split at h
    · exact j_ishl hd hp (ih _ _ _ (h (i3_r _).1 (i3_r _).2))
    · exact h.elim
  case ishr =>
    subst hn
    have hi : de_ i = .ishr := (Option.some.inj hno).symm
    obtain rfl : i = .ishr := de_n hi rfl
    simp only [sx_] at h
    split at h
    · exact j_ishr hd hp (ih _ _ _ (h (i3_r _).1 (i3_r _).2))
    · exact h.elim
  case iushr =>
    subst hn
    have hi : de_ i = .iushr := (Option.some.inj hno).symm
    obtain rfl : i = .iushr := de_n hi rfl
    simp only [sx_] at h
    split at h
    · exact j_iushr hd hp (ih _ _ _ (h (i3_r _).1 (i3_r _).2))
    · exact h.elim
  case i2l =>
    subst hn
    have hi : de_ i = .i2l := (Option.some.inj hno).symm
    obtain rfl : i = .i2l := de_n hi rfl
    simp only [sx_] at h
    split at h
    · exact j_i2l hd hp (ih _ _ _ h)
    · exact h.elim
  case l2i =>
    subst hn
    have hi : de_ i = .l2i := (Option.some.inj hno).symm
    obtain rfl : i = .l2i := de_n hi rfl
    simp only [sx_] at h
    split at h
    · exact j_l2i h.1 h.2.1 hd hp (ih _ _ _ h.2.2)
    · exact h.elim
  case lrem =>
    subst hn
    have hi : de_ i = .lrem := (Option.some.inj hno).symm
    obtain rfl : i = .lrem := de_n hi rfl
    simp only [sx_] at h
    split at h
    · exact j_lrem h.1 h.2.1 hd hp (ih _ _ _ h.2.2)
    · exact h.elim
  case ladd =>
    subst hn
    have hi : de_ i = .ladd := (Option.some.inj hno).symm
    have hi2 : i = .ladd ∨ i = .dadd := by
      rcases de_inv i _ hi with q | q | q | q | q | q | q | q | q | q
      · exact Or.inl q
      all_goals first | exact Or.inr q.1 | exact absurd q.2 (by simp)
    rcases hi2 with rfl | rfl
    · simp only [sx_] at h
      split at h
      · exact j_ladd h.1 h.2.1 hd hp (ih _ _ _ h.2.2)
      · exact h.elim
    · simp only [sx_] at h
      split at h
      · exact j_laddw hd hp (ih _ _ _ (h (wq_r _).1 (wq_r _).2))
      · exact h.elim
  case lsub =>
    subst hn
    have hi : de_ i = .lsub := (Option.some.inj hno).symm
    have hi2 : i = .lsub ∨ i = .dsub := by
      rcases de_inv i _ hi with q | q | q | q | q | q | q | q | q | q
      · exact Or.inl q
      all_goals first | exact Or.inr q.1 | exact absurd q.2 (by simp)
    rcases hi2 with rfl | rfl
    · simp only [sx_] at h
      split at h
      · exact j_lsub h.1 h.2.1 hd hp (ih _ _ _ h.2.2)
      · exact h.elim
    · simp only [sx_] at h
      split at h
      · exact j_lsubw hd hp (ih _ _ _ (h (wq_r _).1 (wq_r _).2))
      · exact h.elim
  case lmul =>
    subst hn
    have hi : de_ i = .lmul := (Option.some.inj hno).symm
    have hi2 : i = .lmul ∨ i = .dmul := by
      rcases de_inv i _ hi with q | q | q | q | q | q | q | q | q | q
      · exact Or.inl q
      all_goals first | exact Or.inr q.1 | exact absurd q.2 (by simp)
    rcases hi2 with rfl | rfl
    · simp only [sx_] at h
      split at h
      · exact j_lmul h.1 h.2.1 hd hp (ih _ _ _ h.2.2)
      · exact h.elim
    · simp only [sx_] at h
      split at h
      · exact j_lmulw hd hp (ih _ _ _ (h (wq_r _).1 (wq_r _).2))
      · exact h.elim
  case lcmp =>
    subst hn
    have hi : de_ i = .lcmp := (Option.some.inj hno).symm
    obtain rfl : i = .lcmp := de_n hi rfl
    simp only [sx_] at h
    split at h
    · rename_i y x st' 
      refine j_lcmp hd hp (ih _ _ _ ?_)
      by_cases a : x < y
      · rw [if_pos a]; exact h.1 a
      · by_cases b : x = y
        · rw [if_neg a, if_pos b]; exact h.2.1 b
        · rw [if_neg a, if_neg b]; exact h.2.2 (by omega)
    · exact h.elim
  case dup =>
    subst hn
    have hi : de_ i = .dup := (Option.some.inj hno).symm
    obtain rfl : i = .dup := de_n hi rfl
    simp only [sx_] at h
    split at h
    · exact j_dupi hd hp (ih _ _ _ h)
    · exact j_dupr hd hp (ih _ _ _ h)
    · exact h.elim
  case dup2 =>
    subst hn
    have hi : de_ i = .dup2 := (Option.some.inj hno).symm
    obtain rfl : i = .dup2 := de_n hi rfl
    simp only [sx_] at h
    split at h
    · exact j_dup2 hd hp (ih _ _ _ h)
    · exact h.elim
  case pop =>
    subst hn
    have hi : de_ i = .pop := (Option.some.inj hno).symm
    obtain rfl : i = .pop := de_n hi rfl
    simp only [sx_] at h
    split at h
    · exact j_popi hd hp (ih _ _ _ h)
    · exact j_popr hd hp (ih _ _ _ h)
    · exact h.elim
  case goto off =>
    simp only [no_] at hno
    split at hno
    · rename_i hg
      subst hn
      have hi : de_ i = .goto (pc + off) := (Option.some.inj hno).symm
      obtain rfl : i = .goto (pc + off) := de_n hi rfl
      exact j_jump hp hg rfl hd h
    · cases hno
  case if_icmp cnd off =>
    simp only [no_] at hno
    split at hno
    · rename_i hg
      subst hn
      have hi : de_ i = .if_icmp cnd (pc + off) := (Option.some.inj hno).symm
      obtain rfl : i = .if_icmp cnd (pc + off) := de_n hi rfl
      simp only [sx_] at h
      split at h
      · cases cnd
        case eq => exact j_icmp_eq hp hg rfl hd (fun q => h.1 q) (fun q => ih _ _ _ (h.2 q))
        case ne => exact j_icmp_ne hp hg rfl hd (fun q => h.1 q) (fun q => ih _ _ _ (h.2 q))
        case lt => exact j_icmp_lt hp hg rfl hd (fun q => h.1 q) (fun q => ih _ _ _ (h.2 q))
        case ge => exact j_icmp_ge hp hg rfl hd (fun q => h.1 q) (fun q => ih _ _ _ (h.2 q))
        case gt => exact j_icmp_gt hp hg rfl hd (fun q => h.1 q) (fun q => ih _ _ _ (h.2 q))
        case le => exact j_icmp_le hp hg rfl hd (fun q => h.1 q) (fun q => ih _ _ _ (h.2 q))
      · exact h.elim
    · cases hno
  case ifCond cnd off =>
    simp only [no_] at hno
    split at hno
    · rename_i hg
      subst hn
      have hi : de_ i = .ifCond cnd (pc + off) := (Option.some.inj hno).symm
      obtain rfl : i = .ifCond cnd (pc + off) := de_n hi rfl
      simp only [sx_] at h
      split at h
      · cases cnd
        case eq => exact j_if_eq hp hg rfl hd (fun q => h.1 q) (fun q => ih _ _ _ (h.2 q))
        case ne => exact j_if_ne hp hg rfl hd (fun q => h.1 q) (fun q => ih _ _ _ (h.2 q))
        case lt => exact j_if_lt hp hg rfl hd (fun q => h.1 q) (fun q => ih _ _ _ (h.2 q))
        case ge => exact j_if_ge hp hg rfl hd (fun q => h.1 q) (fun q => ih _ _ _ (h.2 q))
        case gt => exact j_if_gt hp hg rfl hd (fun q => h.1 q) (fun q => ih _ _ _ (h.2 q))
        case le => exact j_if_le hp hg rfl hd (fun q => h.1 q) (fun q => ih _ _ _ (h.2 q))
      · exact h.elim
    · cases hno
  case ifnull off =>
    simp only [no_] at hno
    split at hno
    · rename_i hg
      subst hn
      have hi : de_ i = .ifnull (pc + off) := (Option.some.inj hno).symm
      obtain rfl : i = .ifnull (pc + off) := de_n hi rfl
      simp only [sx_] at h
      split at h
      · exact j_ifnull_N hp hg rfl hd h
      · exact j_ifnull_R hp hd (ih _ _ _ h)
      · exact h.elim
    · cases hno
  case ifnonnull off =>
    simp only [no_] at hno
    split at hno
    · rename_i hg
      subst hn
      have hi : de_ i = .ifnonnull (pc + off) := (Option.some.inj hno).symm
      obtain rfl : i = .ifnonnull (pc + off) := de_n hi rfl
      simp only [sx_] at h
      split at h
      · exact j_ifnonnull_N hp hd (ih _ _ _ h)
      · exact j_ifnonnull_R hp hg rfl hd h
      · exact h.elim
    · cases hno
  case getfield i0 =>
    simp only [no_] at hno
    cases hq : F.1.find? fun q => q.1 == i0 with
    | none => rw [hq] at hno; cases hno
    | some q =>
      rw [hq] at hno
      have hm := List.mem_of_find?_eq_some hq
      have he := List.find?_some hq
      simp only [beq_iff_eq] at he
      obtain ⟨q1, q2, q3⟩ := q
      simp only at he
      subst he
      subst hn
      have hi : de_ i = .tableswitch 0 (q2 : Int) (q3 : Int) #[] := (Option.some.inj hno).symm
      obtain rfl : i = .tableswitch 0 (q2 : Int) (q3 : Int) #[] := de_n hi rfl
      have hc := hF.1 _ hm
      simp only [sx_] at h
      split at h
      · rename_i k i st'
        split at h
        · rename_i hk
          simp only [Int.toNat_natCast] at hk h
          subst hk
          split at h
          · rename_i ht
            exact j_getf hp hc ht hd (fun a b => ih _ _ _ (h a b))
          · rename_i ht
            exact j_getf hp hc ht hd (fun a b => ih _ _ _ h)
          · rename_i ht
            exact j_getf hp hc ht hd (fun a b => ih _ _ _ h)
          · rename_i ht
            exact j_getf hp hc ht hd (fun a b => ih _ _ _ h)
          · rename_i ht
            refine j_getf hp hc ht hd (fun a b => ih _ _ _ ?_)
            unfold fv_
            by_cases z : T (100 + q2) i (q3 : Int) = 0
            · simp only [z, if_true]; exact h.1 z
            · simp only [z, if_false]; exact h.2 z
          · rename_i ht
            refine j_getf hp hc ht hd (fun a b => ih _ _ _ ?_)
            unfold fv_
            by_cases z : T (100 + q2) i (q3 : Int) = 0
            · simp only [z, if_true]; exact h.1 z
            · simp only [z, if_false]; exact h.2 z
          · exact h.elim
        · exact h.elim
      · exact h.elim
  case putfield i0 =>
    simp only [no_] at hno
    cases hq : F.2.1.find? fun q => q.1 == i0 with
    | none => rw [hq] at hno; cases hno
    | some q =>
      rw [hq] at hno
      have hm := List.mem_of_find?_eq_some hq
      have he := List.find?_some hq
      simp only [beq_iff_eq] at he
      obtain ⟨q1, q2, q3⟩ := q
      simp only at he
      subst he
      subst hn
      have hi : de_ i = .tableswitch 1 (q2 : Int) (q3 : Int) #[] := (Option.some.inj hno).symm
      obtain rfl : i = .tableswitch 1 (q2 : Int) (q3 : Int) #[] := de_n hi rfl
      have hc := hF.2.1 _ hm
      simp only [sx_] at h
      split at h
      · rename_i x k i st'
        split at h
        · rename_i hk
          simp only [Int.toNat_natCast] at hk h
          subst hk
          split at h
          · rename_i ht
            exact j_putf hp hc ht hd h.1 h.2.1 (ih _ _ _ h.2.2)
          · exact h.elim
        · exact h.elim
      · exact h.elim
  case iaload =>
    subst hn
    have hi : de_ i = .iaload := (Option.some.inj hno).symm
    obtain rfl : i = .iaload := de_n hi rfl
    simp only [sx_] at h
    split at h
    · split at h
      · rename_i ha
        exact j_iald hp ha hd h.1 (by unfold ln_; rw [ha]; exact h.2.1) (fun a b => ih _ _ _ (h.2.2 a b))
      · rename_i ha
        exact j_iald hp ha hd h.1 (by unfold ln_; rw [ha]; exact h.2.1) (fun a b => ih _ _ _ (h.2.2 a b))
      · exact h.elim
    · exact h.elim
  case baload =>
    subst hn
    have hi : de_ i = .baload := (Option.some.inj hno).symm
    obtain rfl : i = .baload := de_n hi rfl
    simp only [sx_] at h
    split at h
    · split at h
      · rename_i ha
        exact j_zald hp ha hd h.1 (by unfold ln_; rw [ha]; exact h.2.1) (fun a b => ih _ _ _ (h.2.2 a b))
      · exact h.elim
    · exact h.elim
  case laload =>
    subst hn
    have hi : de_ i = .laload := (Option.some.inj hno).symm
    obtain rfl : i = .laload := de_n hi rfl
    simp only [sx_] at h
    split at h
    · split at h
      · rename_i ha
        exact j_lald hp ha hd h.1 (by unfold ln_; rw [ha]; exact h.2.1) (fun a b => ih _ _ _ (h.2.2 a b))
      · exact h.elim
    · exact h.elim
  case aaload =>
    subst hn
    have hi : de_ i = .aaload := (Option.some.inj hno).symm
    obtain rfl : i = .aaload := de_n hi rfl
    simp only [sx_] at h
    split at h
    · split at h
      · rename_i q9 ha
        exact j_aald4 (lo := q9.1) (hi := q9.2) hp ha hd h.1 (by unfold ln_; rw [ha]; exact h.2.1) (fun a => ih _ _ _ (h.2.2.1 a)) (fun a => ih _ _ _ (h.2.2.2 a))
      · rename_i q9 ha
        exact j_aald5 (lo := q9.1) (hi := q9.2) hp ha hd h.1 (by unfold ln_; rw [ha]; exact h.2.1) (fun a => ih _ _ _ (h.2.2.1 a)) (fun a => ih _ _ _ (h.2.2.2 a))
      · exact h.elim
    · exact h.elim
  case iastore =>
    subst hn
    have hi : de_ i = .iastore := (Option.some.inj hno).symm
    obtain rfl : i = .iastore := de_n hi rfl
    simp only [sx_] at h
    split at h
    · split at h
      · rename_i ha
        exact j_iast hp ha hd h.1 (by unfold ln_; rw [ha]; exact h.2.1) h.2.2.1 h.2.2.2.1 (ih _ _ _ h.2.2.2.2)
      · rename_i ha
        exact j_iast hp ha hd h.1 (by unfold ln_; rw [ha]; exact h.2.1) h.2.2.1 h.2.2.2.1 (ih _ _ _ h.2.2.2.2)
      · exact h.elim
    · exact h.elim
  case bastore =>
    subst hn
    have hi : de_ i = .bastore := (Option.some.inj hno).symm
    obtain rfl : i = .bastore := de_n hi rfl
    simp only [sx_] at h
    split at h
    · split at h
      · rename_i ha
        exact j_zast hp ha hd h.1 (by unfold ln_; rw [ha]; exact h.2.1) h.2.2.1 h.2.2.2.1 (ih _ _ _ h.2.2.2.2)
      · exact h.elim
    · exact h.elim
  case lastore =>
    subst hn
    have hi : de_ i = .lastore := (Option.some.inj hno).symm
    obtain rfl : i = .lastore := de_n hi rfl
    simp only [sx_] at h
    split at h
    · split at h
      · rename_i ha
        exact j_last hp ha hd h.1 (by unfold ln_; rw [ha]; exact h.2.1) h.2.2.1 h.2.2.2.1 (ih _ _ _ h.2.2.2.2)
      · exact h.elim
    · exact h.elim
  case arraylength =>
    subst hn
    have hi : de_ i = .arraylength := (Option.some.inj hno).symm
    obtain rfl : i = .arraylength := de_n hi rfl
    simp only [sx_] at h
    split at h
    · split at h
      · rename_i q9 ha
        refine j_alen (lo := q9.1) (hi := q9.2) hp ha hd (fun a b => ih _ _ _ ?_)
        unfold ln_
        rw [ha]
        exact h
      · rename_i q9 ha
        refine j_alen (lo := q9.1) (hi := q9.2) hp ha hd (fun a b => ih _ _ _ ?_)
        unfold ln_ at a b ⊢
        rw [ha] at a b ⊢
        exact h a b
      · exact h.elim
    · exact h.elim
  case ireturn =>
    simp only [no_] at hno
    split at hno
    · rename_i hg
      subst hn
      have hi : de_ i = .ireturn := (Option.some.inj hno).symm
      obtain rfl : i = .ireturn := de_n hi rfl
      simp only [sx_] at h
      split at h
      · exact j_ireturn (hg.imp id (fun q => ⟨q, hz q _ _ h⟩)) hd h
      · exact h.elim
    · cases hno
  case lreturn =>
    simp only [no_] at hno
    split at hno
    · rename_i hg
      subst hn
      have hi : de_ i = .lreturn := (Option.some.inj hno).symm
      obtain rfl : i = .lreturn := de_n hi rfl
      simp only [sx_] at h
      split at h
      · exact j_lreturn hg hd h
      · exact h.elim
    · cases hno
  case return_ =>
    simp only [no_] at hno
    split at hno
    · rename_i hg
      subst hn
      have hi : de_ i = .return_ := (Option.some.inj hno).symm
      obtain rfl : i = .return_ := de_n hi rfl
      simp only [sx_] at h
      split at h
      · exact j_return hg hd h
      · exact h.elim
    · cases hno
  all_goals exact absurd hno (by simp [no_])
/-- a block runs -/
theorem sx_run {F : Zf} (hF : tb_ Y.1 F) (hz : Y.2.2.2.1 = some .boolean → ∀ T x, P T (some (vI x)) → 0 ≤ x ∧ x ≤ 1) : ∀ (blk : List Instr) (pc : Int) (ls : Zl) (st : List Zv) (T : Zt), 0 ≤ pc → ck_ F Y.2.2.2.1 Y.2.1 pc blk pe = true → sx_ (J_ Y T0 P bc bs) P blk pe ls st T → J_ Y T0 P bc bs pc ls st T := by
  intro blk
  induction blk with
  | nil =>
    intro pc ls st T hp hck h
    have e : pc = pe := by simpa [ck_] using hck
    subst e
    exact h
  | cons i r ih =>
    intro pc ls st T hp hck h
    unfold ck_ at hck
    split at hck
    · rename_i x n hd
      simp only [Bool.and_eq_true, decide_eq_true_eq] at hck
      exact sx_one hF hz hp hd hck.1.1 hck.1.2 h (fun ls st T h => ih _ _ _ _ (by omega) hck.2 h)
    · cases hck
end JS
-- contracts, the start of a method, calls
def A_ (ad : Nat → Int → Nat) (T0 : Zt) (sz : Nat) : Nat → Prop := fun q => (∃ k i, al_ T0 k i ∧ q = ad k i) ∨ sz ≤ q
def Pc_ (D : va_G) (cA : Nat → ClassId) (ad : Nat → Int → Nat) (T0 : Zt) (avs : List Zv) (sz : Nat) : Array Value → State → Prop := fun v U => v = (avs.map (en_v ad)).toArray ∧ U.heap.size = sz ∧ Rp_ D cA ad T0 (fun _ => True) U.heap ∧ va_K D vwCl (ty_ cA) U ∧ ex_E U ∧ se_ ad (A_ ad T0 sz) U ∧ ok_T T0 ∧ ∀ v ∈ avs, ok_v T0 v
/-- called with avs in the picture T0, the method ends, and P holds of what it leaves -/
def Ct_ (y : MethodName) (Y : Zm) (T0 : Zt) (avs : List Zv) (P : Zt → Option Zv → Prop) : Prop := ∀ (l : Launch) (D : va_G) (cA : Nat → ClassId) (ad : Nat → Int → Nat) (sz : Nat), Met l y (.code y Y.2.1 Y.2.2.1 Y.2.2.2.1 :: lw_g) Y.2.2.2.2 (Pc_ D cA ad T0 avs sz) (Qc_ D cA ad T0 (A_ ad T0 sz) P) Y.2.2.2.2.cells Y.2.2.2.2.slots (A_ ad T0 sz)
theorem Rp_A {D : va_G} {cA : Nat → ClassId} {ad : Nat → Int → Nat} {T : Zt} {A B : Nat → Prop} {H : Heap} (h : Rp_ D cA ad T A H) (hAB : ∀ k i, al_ T k i → A (ad k i) → B (ad k i)) : Rp_ D cA ad T B H := by
  obtain ⟨ids, h1, h2, h3⟩ := h
  refine ⟨ids, h1, h2, h3.weaken (fun n q hq ha => ?_)⟩
  unfold wd_ at hq
  rw [List.getElem?_map] at hq
  cases hn : ids[n]? with
  | none => rw [hn] at hq; cases hq
  | some z =>
    rw [hn] at hq
    cases hq
    exact hAB z.1 z.2 ((h1 z.1 z.2).mpr (List.mem_of_getElem? hn)) ha
theorem Rp_in {D : va_G} {cA : Nat → ClassId} {ad : Nat → Int → Nat} {T : Zt} {A : Nat → Prop} {H : Heap} (h : Rp_ D cA ad T A H) {k : Nat} {i : Int} (ha : al_ T k i) : A (ad k i) := by
  obtain ⟨ids, q0, hq, h1, hP, hD⟩ := rp_at h ha
  exact hD.2 q0 _ (wd_get hq)
theorem lp_congr {ad ad' : Nat → Int → Nat} : ∀ {ls : Zl} {n : Nat}, (∀ (k : Nat) (v : Zv), ls[k]? = some (some v) → en_v ad' v = en_v ad v) → lp_ ad' n ls = lp_ ad n ls
  | [], _, _ => rfl
  | none :: r, n, h => lp_congr (ls := r) (n := n + 1) (fun k v hk => h (k + 1) v (by simpa using hk))
  | some w :: r, n, h => by
    unfold lp_
    rw [h 0 w rfl, lp_congr (ls := r) (n := n + 1) (fun k v hk => h (k + 1) v (by simpa using hk))]
theorem en_congr {ad ad' : Nat → Int → Nat} {T : Zt} (h : ∀ k i, k < 100 ∨ al_ T k i → ad' k i = ad k i) {v : Zv} (hv : ok_v T v) : en_v ad' v = en_v ad v := by
  rcases v with x | x | _ | ⟨k, i⟩
  · rfl
  · rfl
  · rfl
  · show Value.ref (ad' k i) = Value.ref (ad k i)
    rw [h k i hv]
theorem se_call {ad0 ad : Nat → Int → Nat} {A B : Nat → Prop} {s U : State} {H : Heap} {locs : List Loc} (h : se_ ad0 A s) (hS : va_S A s.heap H locs) (hF : ∀ q, B q → A q) (hU : U.heap = H) (hW : s.WarmedH U.vm) (he : ∀ (k : Nat) (i : Int), k < 100 → ad k i = ad0 k i) : se_ ad B U := by
  obtain ⟨h0, h1, h2, h3, h4⟩ := h
  have kz : ∀ (C n d : String) (v : Value), va_Z C n d v A s s.heap → va_Z C n d v B U U.heap := fun C n d v z => by
    rw [hU]
    exact (va_Z.moved hW.alike (va_Z.kept z (fun a h1 h2 => hS.2.1 a h1 h2))).narrow hF
  refine ⟨fun i hi => ?_, ?_, fun i hi => ?_, kz _ _ _ _ h3, ?_⟩
  · obtain ⟨hZ, hT⟩ := h0 i hi
    rw [he 81 _ (by omega)]
    refine ⟨kz _ _ _ _ hZ, ?_⟩
    rw [hU]
    exact (va_T.moved hW.alike (va_T.kept hT (fun a h1 h2 => hS.2.1 a h1 h2))).narrow hF
  · have e1 : (fun i : Nat => ad 82 (i : Int)) = fun i : Nat => ad0 82 (i : Int) := funext fun i => he 82 _ (by omega)
    have e2 : (fun i : Nat => ad 83 (i : Int)) = fun i : Nat => ad0 83 (i : Int) := funext fun i => he 83 _ (by omega)
    rw [e1, e2, hU]
    exact (vk_S.moved hW.alike (vk_S.kept h1 (fun a h1 h2 => hS.2.1 a h1 h2))).narrow hF
  · rw [he 82 _ (by omega)]
    exact vk_R.warm hW (h2 i hi)
  · rw [he 84 _ (by omega)]
    exact h4.imp (kz _ _ _ _) (kz _ _ _ _)
theorem pc_blind {D : va_G} {cA : Nat → ClassId} {ad : Nat → Int → Nat} {T0 : Zt} {avs : List Zv} {sz : Nat} : FrameBlind (Pc_ D cA ad T0 avs sz) := fun a U g mk q => by
  obtain ⟨q0, q1, q2, q3, q4, ⟨q5, z1, z2, z3, z4⟩, q6, q7⟩ := q
  refine ⟨q0, q1, q2, va_K.moved (u := U) (U := U.calling g mk a) (Vm.Alike.refl U.vm) q3, ex_same (s := U) (U := U.calling g mk a) rfl q4, ⟨fun i hi => ?_, vk_S.moved (u := U) (U := U.calling g mk a) (Vm.Alike.refl U.vm) z1, fun i hi => vk_R.same (u := U) (U := U.calling g mk a) rfl (z2 i hi), va_Z.moved (u := U) (U := U.calling g mk a) (Vm.Alike.refl U.vm) z3, z4.imp (va_Z.moved (u := U) (U := U.calling g mk a) (Vm.Alike.refl U.vm)) (va_Z.moved (u := U) (U := U.calling g mk a) (Vm.Alike.refl U.vm))⟩, q6, q7⟩
  exact ⟨va_Z.moved (u := U) (U := U.calling g mk a) (Vm.Alike.refl U.vm) (q5 i hi).1, va_T.moved (u := U) (U := U.calling g mk a) (Vm.Alike.refl U.vm) (q5 i hi).2⟩
theorem lp_none {ad : Nat → Int → Nat} : ∀ (k n : Nat), lp_ ad n (List.replicate k none) = []
  | 0, _ => rfl
  | k + 1, n => by
    rw [List.replicate_succ]
    exact lp_none k (n + 1)
theorem lp_args {ad : Nat → Int → Nat} {k : Nat} : ∀ (avs : List Zv) (n : Nat), (∀ v ∈ avs, ¬ ∃ x, v = vL x) → lv_args n (avs.map (en_v ad)) = lp_ ad n (avs.map some ++ List.replicate k none)
  | [], n, _ => by simp [lv_args, lp_none]
  | v :: r, n, h => by
    have hv : ¬ (en_v ad v).category = 2 := fun q => h v List.mem_cons_self (en_cat.mp q)
    simp only [List.map_cons, List.cons_append, lv_args, lp_]
    rw [if_neg hv, lp_args r (n + 1) (fun w hw => h w (List.mem_cons_of_mem _ hw))]
theorem sl_len {ad : Nat → Int → Nat} : ∀ (avs : List Zv), (∀ v ∈ avs, ¬ ∃ x, v = vL x) → (lg_sl (avs.map (en_v ad))).length = avs.length
  | [], _ => rfl
  | v :: r, h => by
    have hv : ¬ (en_v ad v).category = 2 := fun q => h v List.mem_cons_self (en_cat.mp q)
    have ih := sl_len (ad := ad) r (fun w hw => h w (List.mem_cons_of_mem _ hw))
    unfold lg_sl at ih ⊢
    simp only [List.map_cons, List.flatMap_cons, if_neg hv, List.length_append, List.length_cons, List.length_nil]
    omega
/-- a contract out of a walk from the start -/
def nl_ : List Zv → Bool
  | [] => true
  | .inr (.inl _) :: _ => false
  | _ :: r => nl_ r
theorem nl_no : ∀ {avs : List Zv}, nl_ avs = true → ∀ v ∈ avs, ¬ ∃ x, v = vL x
  | [], _, v, hv => by cases hv
  | .inl z :: r, h, v, hv => by
    rcases List.mem_cons.mp hv with rfl | h2
    · rintro ⟨x, hx⟩; cases hx
    · exact nl_no (avs := r) h v h2
  | .inr (.inr z) :: r, h, v, hv => by
    rcases List.mem_cons.mp hv with rfl | h2
    · rintro ⟨x, hx⟩; cases hx
    · exact nl_no (avs := r) h v h2
  | .inr (.inl z) :: r, h, v, hv => by cases h
theorem ct_of {y : MethodName} {Y : Zm} {T0 : Zt} {avs : List Zv} {P : Zt → Option Zv → Prop} (hy : plainName y.cls = true) (hY : Y.1 = y.cls) (hnl : nl_ avs = true) (hlen : avs.length ≤ Y.2.2.1) (hJ : ok_T T0 → (∀ v ∈ avs, ok_v T0 v) → J_ Y T0 P Y.2.2.2.2.cells Y.2.2.2.2.slots 0 (avs.map some ++ List.replicate (Y.2.2.1 - avs.length) none) [] T0) (hi : im_ Y.2.2.2.2.slots = true → y.name = "<init>" := by decide) : Ct_ y Y T0 avs P := by
  intro l D cA ad sz
  have hlong := nl_no hnl
  refine Met.ofW (cc := Y.2.1) (maxL := Y.2.2.1) (ret := Y.2.2.2.1) hy rfl ?_
  intro p e s m args below meth c s₁ B hml hv
  obtain ⟨rfl, hsz, hR, hK, hE, hSe, hT, hav⟩ := hv
  have hts := atoms_spec (ws := .code y Y.2.1 Y.2.2.1 Y.2.2.2.1 :: lw_g) B.pre
  have hl := lv_entry (avs.map (en_v ad)) (n := Y.2.2.1) (by rw [sl_len avs hlong]; exact hlen)
  rw [lg_entry_eq]
  rw [lp_args (k := Y.2.2.1 - avs.length) avs 0 hlong] at hl
  subst hsz
  refine hJ hT hav l p e s m _ below meth c D cA ad (A_ ad T0 s.heap.size) ⟨B.exec, B.bytes, hml, B.returns, B.notSynchronized, fun w h => hts w (List.mem_cons_of_mem _ h), by rw [hY]; exact findClass_of_methodNamed B.named, hK, hE, fun q h => Or.inr h, hSe, fun h => (name_of_methodNamed B.named B.method).1.trans (hi h)⟩ ad s.heap [] 0 0 _ (by show 0 + Y.2.2.2.2.cells ≤ Y.2.2.2.2.cells; omega) (by show 0 + Y.2.2.2.2.slots ≤ Y.2.2.2.2.slots; omega) (Rp_A hR (fun k i ha _ => Or.inl ⟨k, i, ha, rfl⟩)) va_S.rf ⟨fun _ _ h => h, fun _ _ _ => rfl⟩ hT ⟨fun k v hk => ?_, fun v hv => by cases hv⟩ hl (by simp; omega)
  by_cases hk2 : k < avs.length
  · rw [List.getElem?_append_left (by rw [List.length_map]; exact hk2), List.getElem?_map] at hk
    cases hz : avs[k]? with
    | none => rw [hz] at hk; cases hk
    | some z =>
      rw [hz] at hk
      cases hk
      exact hav _ (List.mem_of_getElem? hz)
  · rw [List.getElem?_append_right (by rw [List.length_map]; omega), List.getElem?_replicate] at hk
    split at hk <;> cases hk
section JK
variable {Y Yc : Zm} {T0 T : Zt} {P : Zt → Option Zv → Prop} {bc bs : Nat} {pc : Int} {ls : Zl} {rest : List Zv} {y : MethodName} {Qp : Zt → Option Zv → Prop}
theorem en_sum {ad : Nat → Int → Nat} : ∀ (st : List Zv), ((st.map (en_v ad)).map fun v => v.category).sum ≤ 2 * st.length
  | [] => by simp
  | v :: r => by
    have h1 := en_sum (ad := ad) r
    have h2 := lv_cat (en_v ad v)
    simp only [List.map_cons, List.sum_cons, List.length_cons]
    omega
/-- behind a call -/
theorem j_back {l : Launch} {p : Program} {e : Env} {s : State} {m : MethodId} {args : Array Value} {below : List Frame} {meth : Method} {c : Code} {D : va_G} {cA : Nat → ClassId} {ad0 : Nat → Int → Nat} {A : Nat → Prop} (X : Cx_ Y p s m args meth c D cA ad0 A) {ad : Nat → Int → Nat} {H : Heap} {locs : List Loc} {cells slots : Nat} {lsC : Array Slot} (hc : cells + bc ≤ Y.2.2.2.2.cells) (hs : slots + bs ≤ Y.2.2.2.2.slots) (hR : Rp_ D cA ad T A H) (hS : va_S A s.heap H locs) (hB : Sb_ ad0 ad T0 T) (hL : ok_l T ls rest) (hl : lv_has lsC Y.2.2.1 (lp_ ad 0 ls)) (hn : ls.length = Y.2.2.1) (hp : 0 ≤ pc) {mc ms : Nat} (hmc : mc ≤ bc) (hms : ms ≤ bs) {st0 : List Value} {a : Array Value} {Q : Zt → Option Zv → Prop}
    (hr : va_Run p l e Y.2.2.2.2 s m args below meth c H locs cells slots mc ms (F0 m pc.toNat lsC st0) (rest.map (en_v ad)) (Qc_ D cA ad T (A_ ad T H.size) Q a) (A_ ad T H.size))
    (kk : ∀ (T' : Zt) (r : Option Zv), Q T' r → J_ Y T0 P (bc - mc) (bs - ms) (pc + 3) ls (r.toList ++ rest) T') :
    W p l e Y.2.2.2.2 s m args below meth c H locs cells slots (MQ below (Qc_ D cA ad0 T0 A P) args s Y.2.2.2.2.cells Y.2.2.2.2.slots A) (F0 m pc.toNat lsC st0) := by
  intro T2 hT2 X2
  obtain ⟨v, st₀, t, T', L, h0, X', hLo, e1, e2, ⟨⟨T1, ad1, r, hv, hq, hok, hrv, hR1, hB1⟩, hz, hk⟩, st⟩ := hr T2 hT2 X2
  rw [h0] at hz hk
  have hAA : ∀ q, A_ ad T H.size q → A q := by
    rintro q (⟨k, i, ha, rfl⟩ | h)
    · exact Rp_in hR ha
    · exact X.2.2.2.2.2.2.2.2.2.1 q (Nat.le_trans hS.1 h)
  have hee : ∀ v, ok_v T v → en_v ad1 v = en_v ad v := fun v hv => en_congr hB1.2 hv
  have el : lp_ ad1 0 ls = lp_ ad 0 ls := lp_congr (fun k v hk => hee v (hL.1 k v hk))
  have er : rest.map (en_v ad1) = rest.map (en_v ad) := List.map_congr_left (fun v hv => hee v (hL.2 v hv))
  have hv2 : v = r.map (en_v ad1) := by
    cases hv
    rfl
  have k2 := kk T1 r hq l p e s m args below meth c D cA ad0 A X ad1 T'.heap (locs ++ L) (cells + mc) (slots + ms) lsC (by omega) (by omega) (by rw [e1]; exact Rp_A hR1 (fun k i _ h => hAA _ h)) ⟨Nat.le_trans hS.1 (by rw [e1]; exact hz), fun q h1 h2 => by rw [e1, hk q (Nat.lt_of_lt_of_le h1 hS.1) (fun z => h2 (hAA q z))]; exact hS.2.1 q h1 h2, fun q hq => by
      rcases List.mem_append.mp hq with h | h
      · exact hS.2.2 q h
      · exact hAA _ (hLo q h)⟩ ⟨fun k i h => hB1.1 k i (hB.1 k i h), fun k i h => by
      rw [hB1.2 k i (h.imp id (hB.1 k i)), hB.2 k i h]⟩ hok ⟨fun k v hk => okv_mono hB1.1 (hL.1 k v hk), fun v hv => by
      rcases List.mem_append.mp hv with h | h
      · cases r with
        | none => cases h
        | some w =>
          have : v = w := by simpa using h
          subst this
          exact hrv v rfl
      · exact okv_mono hB1.1 (hL.2 v h)⟩ (by rw [el]; exact hl) hn
  rw [show (pc + 3).toNat = pc.toNat + 3 by omega] at k2
  obtain ⟨t2, a1, b1⟩ := k2 T' rfl X'
  refine ⟨t2, st t2 ?_, b1⟩
  have ee : ({ F0 m pc.toNat lsC st0 with pc := (F0 m pc.toNat lsC st0).pc + 3, stack := v.toList ++ rest.map (en_v ad) } : JFrame) = F0 m (pc.toNat + 3) lsC ((r.toList ++ rest).map (en_v ad1)) := by
    rw [List.map_append, er, hv2]
    cases r <;> rfl
  rw [ee]
  exact a1
/-- what a call by invokevirtual wants of the tables -/
def cv_ (own : String) (idx : Nat) (y : MethodName) (Yc : Zm) (ci n : Nat) : Prop := GoodIn lw_g (wsV own idx y.cls y (.code y Yc.2.1 Yc.2.2.1 Yc.2.2.2.1 :: lw_g)) ∧ (y.cls ≠ "java/lang/invoke/MethodHandle" ∧ y.cls ≠ "java/lang/invoke/VarHandle" ∧ (parseMethodDescriptor y.desc).map (fun d => d.parameters.length) = some n) ∧ ∃ Tb N, vwCl[ci]? = some (y.cls, Tb, N)
def cs_ (own : String) (idx : Nat) (y : MethodName) (Yc : Zm) (n : Nat) : Prop := GoodIn lw_g (va_wsS own idx y (.code y Yc.2.1 Yc.2.2.1 Yc.2.2.2.1 :: lw_g)) ∧ (y.cls ≠ "java/lang/invoke/MethodHandle" ∧ y.cls ≠ "java/lang/invoke/VarHandle" ∧ (parseMethodDescriptor y.desc).map (fun d => d.parameters.length) = some n)
/-- the callee's room fits the caller's -/
def rf_ (Yc Y : Zm) : Bool := decide (Yc.2.2.2.2.frames + 1 ≤ Y.2.2.2.2.frames) && decide (8 + (Yc.2.2.1 + 11) + Yc.2.2.2.2.locals ≤ Y.2.2.2.2.locals)
theorem j_callV {idx ci n : Nat} {i : Int} (as : List Zv) (hC : Ct_ y Yc T (vR (100 + ci) i :: as) Qp) (hcv : cv_ Y.1 idx y Yc ci n) (hd : decode Y.2.1 pc.toNat = .ok (.invokevirtual idx, 3)) (hp : 0 ≤ pc) (hn : as.length = n) (hrm : rf_ Yc Y = true) (hrest : rest.length ≤ 4) (hmc : Yc.2.2.2.2.cells ≤ bc) (hms : Yc.2.2.2.2.slots ≤ bs) {st0 : List Zv} (hst : st0 = as.reverse ++ vR (100 + ci) i :: rest) (kk : ∀ (T' : Zt) (r : Option Zv), Qp T' r → J_ Y T0 P (bc - Yc.2.2.2.2.cells) (bs - Yc.2.2.2.2.slots) (pc + 3) ls (r.toList ++ rest) T') : J_ Y T0 P bc bs pc ls st0 T := by
  subst hst
  intro l p e s m args below meth c D cA ad0 A X ad H locs cells slots lsC hc hs hR hS hB hT hL hl hln
  obtain ⟨hG, hdd, Tb, N, hcl⟩ := hcv
  simp only [rf_, Bool.and_eq_true, decide_eq_true_eq] at hrm
  have hLr : ok_l T ls rest := ⟨hL.1, fun v hv => hL.2 v (by simp [hv])⟩
  have hal : al_ T (100 + ci) i := ok_al (v := none) (by omega) (hL.2 (vR (100 + ci) i) (by simp))
  obtain ⟨ids, q0, hq, hids, hP, hD⟩ := rp_at hR hal
  have hw := wd_get (cA := cA) (ad := ad) (T := T) hq
  rw [ce_ob (cl_lt hcl)] at hw
  have hAA : ∀ q, A_ ad T H.size q → A q := by
    rintro q (⟨k, i, ha, rfl⟩ | h)
    · exact Rp_in hR ha
    · exact X.2.2.2.2.2.2.2.2.2.1 q (Nat.le_trans hS.1 h)
  refine j_back X hc hs hR hS hB hLr hl hln hp hmc hms (va_runV (As := as.map (en_v ad)) (rest := rest.map (en_v ad)) (b := ad (100 + ci) i) ⟨X.1, X.2.1, X.2.2.1, X.2.2.2.2.2.2.1, X.2.2.2.2.2.1⟩ (hC l D cA ad H.size) (cwV n X.2.2.2.2.2.1 hG rfl rfl rfl ⟨rfl, hdd⟩ hrm) ⟨pc_blind, va_recv X.2.2.2.2.2.2.2.1 hP hcl hw, fun U hU hW => ⟨rfl, by rw [hU], by rw [hU]; exact Rp_A hR (fun _ _ _ _ => trivial), va_K.moved hW.alike X.2.2.2.2.2.2.2.1, ex_warm hW X.2.2.2.2.2.2.2.2.1, se_call X.2.2.2.2.2.2.2.2.2.2.1 hS hAA hU hW (fun k i hk => hB.2 k i (Or.inl hk)), hT, fun v hv => hL.2 v ?_⟩⟩ rfl (by rw [List.length_map]; exact hn) (hl.1) ?_ (lv_room ?_) hd ⟨by omega, by omega⟩) (fun T' r h => kk T' r h)
  · rcases List.mem_cons.mp hv with rfl | h
    · simp
    · simp [h]
  · show List.map (en_v ad) (as.reverse ++ vR (100 + ci) i :: rest) = _
    rw [List.map_append, List.map_reverse, List.map_cons]
    rfl
  · have := en_sum (ad := ad) rest
    omega
theorem j_callS {idx n : Nat} (as : List Zv) (hC : Ct_ y Yc T as Qp) (hcv : cs_ Y.1 idx y Yc n) (hd : decode Y.2.1 pc.toNat = .ok (.invokestatic idx, 3)) (hp : 0 ≤ pc) (hn : as.length = n) (hrm : rf_ Yc Y = true) (hrest : rest.length ≤ 4) (hmc : Yc.2.2.2.2.cells ≤ bc) (hms : Yc.2.2.2.2.slots ≤ bs) {st0 : List Zv} (hst : st0 = as.reverse ++ rest) (kk : ∀ (T' : Zt) (r : Option Zv), Qp T' r → J_ Y T0 P (bc - Yc.2.2.2.2.cells) (bs - Yc.2.2.2.2.slots) (pc + 3) ls (r.toList ++ rest) T') : J_ Y T0 P bc bs pc ls st0 T := by
  subst hst
  intro l p e s m args below meth c D cA ad0 A X ad H locs cells slots lsC hc hs hR hS hB hT hL hl hln
  obtain ⟨hG, hdd⟩ := hcv
  simp only [rf_, Bool.and_eq_true, decide_eq_true_eq] at hrm
  have hLr : ok_l T ls rest := ⟨hL.1, fun v hv => hL.2 v (by simp [hv])⟩
  have hAA : ∀ q, A_ ad T H.size q → A q := by
    rintro q (⟨k, i, ha, rfl⟩ | h)
    · exact Rp_in hR ha
    · exact X.2.2.2.2.2.2.2.2.2.1 q (Nat.le_trans hS.1 h)
  refine j_back X hc hs hR hS hB hLr hl hln hp hmc hms (va_runS (As := as.map (en_v ad)) (rest := rest.map (en_v ad)) ⟨X.1, X.2.1, X.2.2.1, X.2.2.2.2.2.2.1, X.2.2.2.2.2.1⟩ (hC l D cA ad H.size) (va_cwS n X.2.2.2.2.2.1 hG rfl rfl rfl hdd hrm) ⟨pc_blind, fun U hU hW => ⟨rfl, by rw [hU], by rw [hU]; exact Rp_A hR (fun _ _ _ _ => trivial), va_K.moved hW.alike X.2.2.2.2.2.2.2.1, ex_warm hW X.2.2.2.2.2.2.2.2.1, se_call X.2.2.2.2.2.2.2.2.2.2.1 hS hAA hU hW (fun k i hk => hB.2 k i (Or.inl hk)), hT, fun v hv => hL.2 v (by simp [hv])⟩⟩ rfl (by rw [List.length_map]; exact hn) (hl.1) ?_ (lv_room ?_) hd ⟨by omega, by omega⟩) (fun T' r h => kk T' r h)
  · show List.map (en_v ad) (as.reverse ++ rest) = _
    rw [List.map_append, List.map_reverse]
  · have := en_sum (ad := ad) rest
    omega
/-- a block runs, its ends named K -/
theorem j_blk {F : Zf} {pe : Int} {blk : List Instr} (hF : tb_ Y.1 F) (hp : 0 ≤ pc) (hck : ck_ F Y.2.2.2.1 Y.2.1 pc blk pe = true) (hz : Y.2.2.2.1 = some .boolean → ∀ T x, P T (some (vI x)) → 0 ≤ x ∧ x ≤ 1) (h : ∀ K : Int → Zl → List Zv → Zt → Prop, (∀ pc ls st T, J_ Y T0 P bc bs pc ls st T → K pc ls st T) → sx_ K P blk pe ls rest T) : J_ Y T0 P bc bs pc ls rest T :=
  sx_run hF hz blk pc ls rest T hp hck (h _ (fun _ _ _ _ h => h))
-- fewer locals are known
theorem j_drop (ls' : Zl) (h : ∀ (k : Nat) (v : Zv), ls'[k]? = some (some v) → ls[k]? = some (some v)) (hlen : ls'.length = ls.length) (k : J_ Y T0 P bc bs pc ls' rest T) : J_ Y T0 P bc bs pc ls rest T := by
  intro l p e s m args below meth c D cA ad0 A X ad H locs cells slots lsC hc hs hR hS hB hT hL hl hln
  refine k l p e s m args below meth c D cA ad0 A X ad H locs cells slots lsC hc hs hR hS hB hT ⟨fun k v hk => hL.1 k v (h k v hk), hL.2⟩ ⟨hl.1, hl.2.1, fun q hq => ?_⟩ (hlen.trans hln)
  obtain ⟨j, v, rfl, hv⟩ := lp_mem hq
  exact hl.2.2 _ (lp_get (h j v hv))
-- the picture's bounds, whenever they are wanted
theorem j_ok (k : ok_T T → ok_l T ls rest → J_ Y T0 P bc bs pc ls rest T) : J_ Y T0 P bc bs pc ls rest T := by
  intro l p e s m args below meth c D cA ad0 A X ad H locs cells slots lsC hc hs hR hS hB hT hL hl hln
  exact k hT hL l p e s m args below meth c D cA ad0 A X ad H locs cells slots lsC hc hs hR hS hB hT hL hl hln
end JK
-- helps for the walks
def DRQ_ (l' l : Zl) : Prop := (∀ (k : Nat) (v : Zv), l'[k]? = some (some v) → l[k]? = some (some v)) ∧ l'.length = l.length
theorem drq_0 : DRQ_ [] [] := ⟨fun _ _ h => h, rfl⟩
theorem drq_s {a : Option Zv} {l' l : Zl} (h : DRQ_ l' l) : DRQ_ (a :: l') (a :: l) := by
  refine ⟨fun k v hk => ?_, congrArg (fun n => n + 1) h.2⟩
  cases k with
  | zero => rw [List.getElem?_cons_zero] at hk ⊢; exact hk
  | succ k => rw [List.getElem?_cons_succ] at hk ⊢; exact h.1 k v hk
theorem drq_n {b : Option Zv} {l' l : Zl} (h : DRQ_ l' l) : DRQ_ (none :: l') (b :: l) := by
  refine ⟨fun k v hk => ?_, congrArg (fun n => n + 1) h.2⟩
  cases k with
  | zero => rw [List.getElem?_cons_zero] at hk; cases hk
  | succ k => rw [List.getElem?_cons_succ] at hk ⊢; exact h.1 k v hk
theorem j_drq {Y : Zm} {T0 T : Zt} {P : Zt → Option Zv → Prop} {bc bs : Nat} {pc : Int} {ls : Zl} {st : List Zv} (ls' : Zl) (h : DRQ_ ls' ls) (k : J_ Y T0 P bc bs pc ls' st T) : J_ Y T0 P bc bs pc ls st T := j_drop ls' h.1 h.2 k
theorem rg_i {z : Int} {Q : Prop} (h : -2147483648 ≤ z ∧ z ≤ 2147483647) (q : Q) : rg_ z Q := ⟨h.1, h.2, q⟩
theorem rl_i {z : Int} {Q : Prop} (h : -9223372036854775808 ≤ z ∧ z ≤ 9223372036854775807) (q : Q) : rl_ z Q := ⟨h.1, h.2, q⟩
theorem ix_i {x n : Int} {Q : Prop} (h : 0 ≤ x ∧ x < n) (q : Q) : 0 ≤ x ∧ x < n ∧ Q := ⟨h.1, h.2, q⟩
theorem bd_i {lo x hi : Int} {Q : Prop} (h : lo ≤ x ∧ x ≤ hi) (q : Q) : lo ≤ x ∧ x ≤ hi ∧ Q := ⟨h.1, h.2, q⟩
theorem iy_i {x n lo v hi : Int} {Q : Prop} (h : 0 ≤ x ∧ x < n) (h2 : lo ≤ v ∧ v ≤ hi) (q : Q) : 0 ≤ x ∧ x < n ∧ lo ≤ v ∧ v ≤ hi ∧ Q := ⟨h.1, h.2, h2.1, h2.2, q⟩
theorem dv_i {x y : Int} {Q : Prop} (h : 0 ≤ x ∧ 0 < y) (q : Q) : 0 ≤ x ∧ 0 < y ∧ Q := ⟨h.1, h.2, q⟩
theorem up_f {T T1 : Zt} {k : Nat} {i j v : Int} (h : T1 = up_ T k i j v) : T1 k i j = v := by rw [h]; exact up_s T k i j v
theorem up_g {T T1 : Zt} {k : Nat} {i j v : Int} (h : T1 = up_ T k i j v) {k' : Nat} {i' j' : Int} (n : ¬ (k' = k ∧ i' = i ∧ j' = j)) : T1 k' i' j' = T k' i' j' := by rw [h]; exact up_n n
theorem up_k {T T1 : Zt} {k : Nat} {i j v : Int} (h : T1 = up_ T k i j v) {k' : Nat} (n : k' ≠ k) (i' j' : Int) : T1 k' i' j' = T k' i' j' := up_g h (fun q => n q.1)
theorem up_j {T T1 : Zt} {k : Nat} {i j v : Int} (h : T1 = up_ T k i j v) {j' : Int} (n : j' ≠ j) (k' : Nat) (i' : Int) : T1 k' i' j' = T k' i' j' := up_g h (fun q => n q.2.2)
/-- which kinds and slots are written -/
def fw_ (ws : List (Nat × List Int)) (k : Nat) (j : Int) : Bool := match ws with
  | [] => false
  | (k', l) :: r => (k == k' && (match l with
    | [] => true
    | _ => l.contains j)) || fw_ r k j
/-- all else is as it was -/
def fr_ (ws : List (Nat × List Int)) (T T' : Zt) : Prop := ∀ k i j, fw_ ws k j = false → T' k i j = T k i j
theorem fr_0 (ws : List (Nat × List Int)) (T : Zt) : fr_ ws T T := fun _ _ _ _ => rfl
theorem fr_t {ws : List (Nat × List Int)} {T T1 T2 : Zt} (h : fr_ ws T T1) (g : fr_ ws T1 T2) : fr_ ws T T2 := fun k i j q => (g k i j q).trans (h k i j q)
theorem fr_u {ws : List (Nat × List Int)} {T T1 T2 : Zt} {k : Nat} {i j v : Int} (h : fr_ ws T T1) (e : T2 = up_ T1 k i j v) (w : fw_ ws k j = true) : fr_ ws T T2 := fun k' i' j' q => by
  rw [e, up_n (fun z => by rw [z.1, z.2.2, w] at q; cases q)]
  exact h k' i' j' q
/-- a smaller set of writes -/
def fs_ : List (Nat × List Int) → List (Nat × List Int) → Bool
  | [], _ => true
  | (k, l) :: r, ws => (match l with
    | [] => ws.any fun q => q.1 == k && q.2.isEmpty
    | l => l.all fun j => fw_ ws k j) && fs_ r ws
theorem fw_all {ws : List (Nat × List Int)} {k : Nat} (h : (ws.any fun q => q.1 == k && q.2.isEmpty) = true) (j : Int) : fw_ ws k j = true := by
  induction ws with
  | nil => simp at h
  | cons q r ih =>
    obtain ⟨k', l⟩ := q
    simp only [List.any_cons, Bool.or_eq_true, Bool.and_eq_true, beq_iff_eq, List.isEmpty_iff] at h
    unfold fw_
    rcases h with ⟨rfl, rfl⟩ | h
    · simp
    · rw [ih (by simpa using h)]
      simp
theorem fs_sub {a b : List (Nat × List Int)} (h : fs_ a b = true) {k : Nat} {j : Int} (w : fw_ a k j = true) : fw_ b k j = true := by
  induction a with
  | nil => simp [fw_] at w
  | cons q r ih =>
    obtain ⟨k', l⟩ := q
    unfold fs_ at h
    unfold fw_ at w
    simp only [Bool.and_eq_true] at h
    simp only [Bool.or_eq_true, Bool.and_eq_true, beq_iff_eq] at w
    rcases w with ⟨rfl, w⟩ | w
    · cases l with
      | nil => exact fw_all h.1 j
      | cons x t =>
        have h1 := List.all_eq_true.mp h.1 j (by simpa using w)
        exact h1
    · exact ih h.2 w
theorem fr_s {a b : List (Nat × List Int)} {T T' : Zt} (h : fr_ a T T') (s : fs_ a b = true) : fr_ b T T' := fun k i j q => h k i j (by
  cases w : fw_ a k j
  · rfl
  · rw [fs_sub s w] at q
    cases q)
section JT
variable {Y : Zm} {T0 T : Zt} {P : Zt → Option Zv → Prop} {bc bs : Nat} {pc : Int} {ls : Zl} {st : List Zv}
/-- a switch -/
theorem j_tsI (n : Nat) {dflt lo hi off tgt x : Int} {offs : Array Int} {len : Nat} (hp : 0 ≤ pc) (hd : decode Y.2.1 pc.toNat = .ok (.tableswitch dflt lo hi offs, len)) (hx : x = lo + n) (hh : lo + n ≤ hi) (ho : offs[n]? = some off) (ht : 0 ≤ tgt) (e : pc + off = tgt) (k : J_ Y T0 P bc bs tgt ls st T) : J_ Y T0 P bc bs pc ls (vI x :: st) T := by
  intro l p e' s m args below meth c D cA ad0 A X ad H locs cells slots lsC hc hs hR hS hB hT hL hl hn
  have ax : -2147483648 ≤ x ∧ x ≤ 2147483647 := ok_head hL
  have ex := i3_t ax.1 ax.2
  exact lv_tableIn (off := off) (tgt := tgt.toNat) X.1 X.2.1 hd (by rw [ex]; omega) (by rw [ex]; omega) (by rw [ex, show (x - lo).toNat = n by omega]; exact ho) (by omega) (k l p e' s m args below meth c D cA ad0 A X ad H locs cells slots lsC hc hs hR hS hB hT (ok_tail hL) hl hn)
theorem j_tsO {dflt lo hi tgt x : Int} {offs : Array Int} {len : Nat} (hp : 0 ≤ pc) (hd : decode Y.2.1 pc.toNat = .ok (.tableswitch dflt lo hi offs, len)) (hx : x < lo ∨ hi < x) (ht : 0 ≤ tgt) (e : pc + dflt = tgt) (k : J_ Y T0 P bc bs tgt ls st T) : J_ Y T0 P bc bs pc ls (vI x :: st) T := by
  intro l p e' s m args below meth c D cA ad0 A X ad H locs cells slots lsC hc hs hR hS hB hT hL hl hn
  have ax : -2147483648 ≤ x ∧ x ≤ 2147483647 := ok_head hL
  have ex := i3_t ax.1 ax.2
  exact lv_tableOut (tgt := tgt.toNat) X.1 X.2.1 hd (by rw [ex]; exact hx) (by omega) (k l p e' s m args below meth c D cA ad0 A X ad H locs cells slots lsC hc hs hR hS hB hT (ok_tail hL) hl hn)
end JT
def fX0 : Zf := ([(15, 0, 4), (34, 0, 5), (22, 0, 1)], [], [], [])
set_option maxRecDepth 100000 in
set_option maxHeartbeats 4000000 in
theorem tg_X0 : ∀ q ∈ fX0.1, fl_ RX0 q.1 q.2.1 q.2.2 := List.forall_mem_cons.mpr ⟨⟨RX0, TX0, 9, rfl, by decide, rfl, lwq_3 (dqc_m (dqc_m (dqc_m (List.mem_of_getElem? (i := 0) rfl)))) rfl⟩, List.forall_mem_cons.mpr ⟨⟨RX0, TX0, 9, rfl, by decide, rfl, lwq_3 (dqc_m (dqc_m (dqc_m (List.mem_of_getElem? (i := 4) rfl)))) rfl⟩, List.forall_mem_cons.mpr ⟨⟨RX0, TX0, 9, rfl, by decide, rfl, lwq_3 (dqc_m (dqc_m (dqa_m (dqa_m (List.mem_of_getElem? (i := 2) rfl))))) rfl⟩, fun _ h => absurd h List.not_mem_nil⟩⟩⟩
set_option maxRecDepth 100000 in
set_option maxHeartbeats 4000000 in
theorem tp_X0 : ∀ q ∈ fX0.2.1, fp_ RX0 q.1 q.2.1 q.2.2 := fun _ h => absurd h List.not_mem_nil
theorem tb_X0 : tb_ RX0 fX0 := ⟨tg_X0, tp_X0, fun _ h => absurd h List.not_mem_nil, fun _ h => absurd h List.not_mem_nil⟩
def fX1 : Zf := ([(9, 1, 8), (15, 1, 9), (18, 1, 10), (44, 1, 3), (50, 1, 7), (21, 1, 11), (27, 1, 14), (30, 1, 15), (24, 1, 12), (60, 1, 13), (33, 1, 0), (63, 8, 1), (37, 1, 1), (41, 1, 2), (72, 1, 6), (47, 1, 4), (81, 1, 5)], [(37, 1, 1), (41, 1, 2), (44, 1, 3), (47, 1, 4), (50, 1, 7), (60, 1, 13), (72, 1, 6), (81, 1, 5)], [(80, 1000000), (84, 1664525), (85, 1013904223)], [(78, 2147483648)])
set_option maxRecDepth 100000 in
set_option maxHeartbeats 4000000 in
theorem tg_X1 : ∀ q ∈ fX1.1, fl_ RX1 q.1 q.2.1 q.2.2 := List.forall_mem_cons.mpr ⟨⟨RX1, TX1, 16, rfl, by decide, rfl, lwq_2 (dqc_m (dqc_m (dqc_m (List.mem_of_getElem? (i := 3) rfl)))) rfl⟩, List.forall_mem_cons.mpr ⟨⟨RX1, TX1, 16, rfl, by decide, rfl, lwq_2 (dqc_m (dqc_m (dqc_m (List.mem_of_getElem? (i := 5) rfl)))) rfl⟩, List.forall_mem_cons.mpr ⟨⟨RX1, TX1, 16, rfl, by decide, rfl, lwq_2 (dqc_m (dqc_m (dqc_m (List.mem_of_getElem? (i := 7) rfl)))) rfl⟩, List.forall_mem_cons.mpr ⟨⟨RX1, TX1, 16, rfl, by decide, rfl, lwq_2 (dqc_m (dqc_m (dqa_m (dqa_m (dqa_m (List.mem_of_getElem? (i := 2) rfl)))))) rfl⟩, List.forall_mem_cons.mpr ⟨⟨RX1, TX1, 16, rfl, by decide, rfl, lwq_2 (dqc_m (dqc_m (dqc_m (List.mem_of_getElem? (i := 2) rfl)))) rfl⟩, List.forall_mem_cons.mpr ⟨⟨RX1, TX1, 16, rfl, by decide, rfl, lwq_2 (dqc_m (dqc_m (dqc_m (dqa_m (List.mem_of_getElem? (i := 1) rfl))))) rfl⟩, List.forall_mem_cons.mpr ⟨⟨RX1, TX1, 16, rfl, by decide, rfl, lwq_2 (dqc_m (dqc_m (dqc_m (dqa_m (List.mem_of_getElem? (i := 4) rfl))))) rfl⟩, List.forall_mem_cons.mpr ⟨⟨RX1, TX1, 16, rfl, by decide, rfl, lwq_2 (dqc_m (dqc_m (dqc_m (dqa_m (List.mem_of_getElem? (i := 5) rfl))))) rfl⟩, List.forall_mem_cons.mpr ⟨⟨RX1, TX1, 16, rfl, by decide, rfl, lwq_2 (dqc_m (dqc_m (dqc_m (dqa_m (List.mem_of_getElem? (i := 2) rfl))))) rfl⟩, List.forall_mem_cons.mpr ⟨⟨RX1, TX1, 16, rfl, by decide, rfl, lwq_2 (dqc_m (dqc_m (dqc_m (dqa_m (List.mem_of_getElem? (i := 3) rfl))))) rfl⟩, List.forall_mem_cons.mpr ⟨⟨RX1, TX1, 16, rfl, by decide, rfl, lwq_2 (dqc_m (dqc_m (dqa_m (dqa_m (List.mem_of_getElem? (i := 6) rfl))))) rfl⟩, List.forall_mem_cons.mpr ⟨⟨RX8, TX8, 14, rfl, by decide, rfl, lwq_1 (dqc_m (dqc_m (dqa_m (dqa_m (List.mem_of_getElem? (i := 4) rfl))))) rfl⟩, List.forall_mem_cons.mpr ⟨⟨RX1, TX1, 16, rfl, by decide, rfl, lwq_2 (dqc_m (dqc_m (dqa_m (dqa_m (List.mem_of_getElem? (i := 7) rfl))))) rfl⟩, List.forall_mem_cons.mpr ⟨⟨RX1, TX1, 16, rfl, by decide, rfl, lwq_2 (dqc_m (dqc_m (dqa_m (dqa_m (dqa_m (List.mem_of_getElem? (i := 1) rfl)))))) rfl⟩, List.forall_mem_cons.mpr ⟨⟨RX1, TX1, 16, rfl, by decide, rfl, lwq_2 (dqc_m (dqc_m (dqc_m (List.mem_of_getElem? (i := 0) rfl)))) rfl⟩, List.forall_mem_cons.mpr ⟨⟨RX1, TX1, 16, rfl, by decide, rfl, lwq_2 (dqc_m (dqc_m (dqa_m (dqa_m (dqa_m (List.mem_of_getElem? (i := 4) rfl)))))) rfl⟩, List.forall_mem_cons.mpr ⟨⟨RX1, TX1, 16, rfl, by decide, rfl, lwq_2 (dqc_m (dqc_m (dqa_m (dqa_m (dqa_m (List.mem_of_getElem? (i := 6) rfl)))))) rfl⟩, fun _ h => absurd h List.not_mem_nil⟩⟩⟩⟩⟩⟩⟩⟩⟩⟩⟩⟩⟩⟩⟩⟩⟩
set_option maxRecDepth 100000 in
set_option maxHeartbeats 4000000 in
theorem tp_X1 : ∀ q ∈ fX1.2.1, fp_ RX1 q.1 q.2.1 q.2.2 := List.forall_mem_cons.mpr ⟨⟨RX1, TX1, 16, rfl, by decide, rfl, lwq_2 (dqc_m (dqc_m (dqa_m (dqa_m (List.mem_of_getElem? (i := 7) rfl))))) rfl, by decide +kernel, Or.inl (by decide +kernel)⟩, List.forall_mem_cons.mpr ⟨⟨RX1, TX1, 16, rfl, by decide, rfl, lwq_2 (dqc_m (dqc_m (dqa_m (dqa_m (dqa_m (List.mem_of_getElem? (i := 1) rfl)))))) rfl, by decide +kernel, Or.inl (by decide +kernel)⟩, List.forall_mem_cons.mpr ⟨⟨RX1, TX1, 16, rfl, by decide, rfl, lwq_2 (dqc_m (dqc_m (dqa_m (dqa_m (dqa_m (List.mem_of_getElem? (i := 2) rfl)))))) rfl, by decide +kernel, Or.inl (by decide +kernel)⟩, List.forall_mem_cons.mpr ⟨⟨RX1, TX1, 16, rfl, by decide, rfl, lwq_2 (dqc_m (dqc_m (dqa_m (dqa_m (dqa_m (List.mem_of_getElem? (i := 4) rfl)))))) rfl, by decide +kernel, Or.inl (by decide +kernel)⟩, List.forall_mem_cons.mpr ⟨⟨RX1, TX1, 16, rfl, by decide, rfl, lwq_2 (dqc_m (dqc_m (dqc_m (List.mem_of_getElem? (i := 2) rfl)))) rfl, by decide +kernel, Or.inr ⟨by decide +kernel, 0, by decide +kernel⟩⟩, List.forall_mem_cons.mpr ⟨⟨RX1, TX1, 16, rfl, by decide, rfl, lwq_2 (dqc_m (dqc_m (dqc_m (dqa_m (List.mem_of_getElem? (i := 3) rfl))))) rfl, by decide +kernel, Or.inl (by decide +kernel)⟩, List.forall_mem_cons.mpr ⟨⟨RX1, TX1, 16, rfl, by decide, rfl, lwq_2 (dqc_m (dqc_m (dqc_m (List.mem_of_getElem? (i := 0) rfl)))) rfl, by decide +kernel, Or.inl (by decide +kernel)⟩, List.forall_mem_cons.mpr ⟨⟨RX1, TX1, 16, rfl, by decide, rfl, lwq_2 (dqc_m (dqc_m (dqa_m (dqa_m (dqa_m (List.mem_of_getElem? (i := 6) rfl)))))) rfl, by decide +kernel, Or.inl (by decide +kernel)⟩, fun _ h => absurd h List.not_mem_nil⟩⟩⟩⟩⟩⟩⟩⟩
theorem tb_X1 : tb_ RX1 fX1 := ⟨tg_X1, tp_X1, List.forall_mem_cons.mpr ⟨⟨lwq_6 (dqc_m (dqc_m (dqc_m (dqc_m (dqc_m (dqa_m (List.mem_of_getElem? (i := 3) rfl))))))) rfl, by decide, by decide⟩, List.forall_mem_cons.mpr ⟨⟨lwq_6 (dqc_m (dqc_m (dqc_m (dqc_m (dqc_m (dqa_m (List.mem_of_getElem? (i := 4) rfl))))))) rfl, by decide, by decide⟩, List.forall_mem_cons.mpr ⟨⟨lwq_6 (dqc_m (dqc_m (dqc_m (dqc_m (dqc_m (dqa_m (List.mem_of_getElem? (i := 5) rfl))))))) rfl, by decide, by decide⟩, fun _ h => absurd h List.not_mem_nil⟩⟩⟩, List.forall_mem_cons.mpr ⟨⟨lwq_6 (dqc_m (dqc_m (dqc_m (dqc_m (dqc_m (dqa_m (List.mem_of_getElem? (i := 2) rfl))))))) rfl, by decide, by decide⟩, fun _ h => absurd h List.not_mem_nil⟩⟩
def fX2 : Zf := ([(9, 2, 6), (44, 2, 10), (48, 3, 3), (25, 2, 0), (58, 0, 1), (63, 3, 8), (35, 2, 3), (38, 2, 4), (22, 2, 9), (18, 2, 8)], [(9, 2, 6), (15, 2, 7), (41, 2, 5)], [], [])
set_option maxRecDepth 100000 in
set_option maxHeartbeats 4000000 in
theorem tg_X2 : ∀ q ∈ fX2.1, fl_ RX2 q.1 q.2.1 q.2.2 := List.forall_mem_cons.mpr ⟨⟨RX2, TX2, 11, rfl, by decide, rfl, lwq_4 (dqa_m (List.mem_of_getElem? (i := 3) rfl)) rfl⟩, List.forall_mem_cons.mpr ⟨⟨RX2, TX2, 11, rfl, by decide, rfl, lwq_4 (dqa_m (dqa_m (List.mem_of_getElem? (i := 6) rfl))) rfl⟩, List.forall_mem_cons.mpr ⟨⟨RX3, TX3, 18, rfl, by decide, rfl, lwq_4 (dqc_m (dqc_m (dqc_m (dqc_m (dqc_m (dqa_m (dqa_m (dqa_m (List.mem_of_getElem? (i := 5) rfl))))))))) rfl⟩, List.forall_mem_cons.mpr ⟨⟨RX2, TX2, 11, rfl, by decide, rfl, lwq_3 (dqc_m (dqc_m (dqc_m (dqc_m (dqc_m (dqc_m (dqc_m (List.mem_of_getElem? (i := 2) rfl)))))))) rfl⟩, List.forall_mem_cons.mpr ⟨⟨RX0, TX0, 9, rfl, by decide, rfl, lwq_3 (dqc_m (dqc_m (dqa_m (dqa_m (List.mem_of_getElem? (i := 5) rfl))))) rfl⟩, List.forall_mem_cons.mpr ⟨⟨RX3, TX3, 18, rfl, by decide, rfl, lwq_4 (dqc_m (dqc_m (dqc_m (dqc_m (dqc_m (dqc_m (List.mem_of_getElem? (i := 7) rfl))))))) rfl⟩, List.forall_mem_cons.mpr ⟨⟨RX2, TX2, 11, rfl, by decide, rfl, lwq_3 (dqc_m (dqc_m (dqc_m (dqc_m (dqc_m (dqc_m (dqc_m (dqa_m (List.mem_of_getElem? (i := 2) rfl))))))))) rfl⟩, List.forall_mem_cons.mpr ⟨⟨RX2, TX2, 11, rfl, by decide, rfl, lwq_4 (List.mem_of_getElem? (i := 0) rfl) rfl⟩, List.forall_mem_cons.mpr ⟨⟨RX2, TX2, 11, rfl, by decide, rfl, lwq_4 (dqa_m (dqa_m (List.mem_of_getElem? (i := 3) rfl))) rfl⟩, List.forall_mem_cons.mpr ⟨⟨RX2, TX2, 11, rfl, by decide, rfl, lwq_4 (dqa_m (dqa_m (List.mem_of_getElem? (i := 1) rfl))) rfl⟩, fun _ h => absurd h List.not_mem_nil⟩⟩⟩⟩⟩⟩⟩⟩⟩⟩
set_option maxRecDepth 100000 in
set_option maxHeartbeats 4000000 in
theorem tp_X2 : ∀ q ∈ fX2.2.1, fp_ RX2 q.1 q.2.1 q.2.2 := List.forall_mem_cons.mpr ⟨⟨RX2, TX2, 11, rfl, by decide, rfl, lwq_4 (dqa_m (List.mem_of_getElem? (i := 3) rfl)) rfl, by decide +kernel, Or.inl (by decide +kernel)⟩, List.forall_mem_cons.mpr ⟨⟨RX2, TX2, 11, rfl, by decide, rfl, lwq_4 (dqa_m (List.mem_of_getElem? (i := 6) rfl)) rfl, by decide +kernel, Or.inl (by decide +kernel)⟩, List.forall_mem_cons.mpr ⟨⟨RX2, TX2, 11, rfl, by decide, rfl, lwq_4 (List.mem_of_getElem? (i := 6) rfl) rfl, by decide +kernel, Or.inl (by decide +kernel)⟩, fun _ h => absurd h List.not_mem_nil⟩⟩⟩
theorem tb_X2 : tb_ RX2 fX2 := ⟨tg_X2, tp_X2, fun _ h => absurd h List.not_mem_nil, fun _ h => absurd h List.not_mem_nil⟩
def fX3 : Zf := ([(42, 3, 0), (9, 3, 6), (15, 3, 7), (18, 3, 8), (21, 3, 9), (30, 3, 12), (33, 3, 13), (24, 3, 10), (27, 3, 11), (45, 3, 1), (51, 3, 3), (55, 3, 4), (59, 3, 5), (48, 3, 2), (154, 3, 15), (36, 3, 14), (165, 3, 17), (39, 3, 16)], [(51, 3, 3), (55, 3, 4), (59, 3, 5), (154, 3, 15), (165, 3, 17)], [], [])
set_option maxRecDepth 100000 in
set_option maxHeartbeats 4000000 in
theorem tg_X3 : ∀ q ∈ fX3.1, fl_ RX3 q.1 q.2.1 q.2.2 := List.forall_mem_cons.mpr ⟨⟨RX3, TX3, 18, rfl, by decide, rfl, lwq_4 (dqc_m (dqc_m (dqc_m (dqc_m (dqc_m (dqa_m (dqa_m (dqa_m (List.mem_of_getElem? (i := 1) rfl))))))))) rfl⟩, List.forall_mem_cons.mpr ⟨⟨RX3, TX3, 18, rfl, by decide, rfl, lwq_4 (dqc_m (dqc_m (dqc_m (dqc_m (dqc_m (dqc_m (List.mem_of_getElem? (i := 2) rfl))))))) rfl⟩, List.forall_mem_cons.mpr ⟨⟨RX3, TX3, 18, rfl, by decide, rfl, lwq_4 (dqc_m (dqc_m (dqc_m (dqc_m (dqc_m (dqc_m (List.mem_of_getElem? (i := 4) rfl))))))) rfl⟩, List.forall_mem_cons.mpr ⟨⟨RX3, TX3, 18, rfl, by decide, rfl, lwq_4 (dqc_m (dqc_m (dqc_m (dqc_m (dqc_m (dqc_m (List.mem_of_getElem? (i := 6) rfl))))))) rfl⟩, List.forall_mem_cons.mpr ⟨⟨RX3, TX3, 18, rfl, by decide, rfl, lwq_4 (dqc_m (dqc_m (dqc_m (dqc_m (dqc_m (dqc_m (dqa_m (List.mem_of_getElem? (i := 0) rfl)))))))) rfl⟩, List.forall_mem_cons.mpr ⟨⟨RX3, TX3, 18, rfl, by decide, rfl, lwq_4 (dqc_m (dqc_m (dqc_m (dqc_m (dqc_m (dqc_m (dqa_m (List.mem_of_getElem? (i := 5) rfl)))))))) rfl⟩, List.forall_mem_cons.mpr ⟨⟨RX3, TX3, 18, rfl, by decide, rfl, lwq_4 (dqc_m (dqc_m (dqc_m (dqc_m (dqc_m (dqc_m (dqa_m (List.mem_of_getElem? (i := 6) rfl)))))))) rfl⟩, List.forall_mem_cons.mpr ⟨⟨RX3, TX3, 18, rfl, by decide, rfl, lwq_4 (dqc_m (dqc_m (dqc_m (dqc_m (dqc_m (dqc_m (dqa_m (List.mem_of_getElem? (i := 2) rfl)))))))) rfl⟩, List.forall_mem_cons.mpr ⟨⟨RX3, TX3, 18, rfl, by decide, rfl, lwq_4 (dqc_m (dqc_m (dqc_m (dqc_m (dqc_m (dqc_m (dqa_m (List.mem_of_getElem? (i := 4) rfl)))))))) rfl⟩, List.forall_mem_cons.mpr ⟨⟨RX3, TX3, 18, rfl, by decide, rfl, lwq_4 (dqc_m (dqc_m (dqc_m (dqc_m (dqc_m (dqa_m (dqa_m (dqa_m (List.mem_of_getElem? (i := 2) rfl))))))))) rfl⟩, List.forall_mem_cons.mpr ⟨⟨RX3, TX3, 18, rfl, by decide, rfl, lwq_4 (dqc_m (dqc_m (dqc_m (dqc_m (dqc_m (dqa_m (dqa_m (dqa_m (List.mem_of_getElem? (i := 4) rfl))))))))) rfl⟩, List.forall_mem_cons.mpr ⟨⟨RX3, TX3, 18, rfl, by decide, rfl, lwq_4 (dqc_m (dqc_m (dqc_m (dqc_m (dqc_m (dqa_m (dqa_m (dqa_m (List.mem_of_getElem? (i := 6) rfl))))))))) rfl⟩, List.forall_mem_cons.mpr ⟨⟨RX3, TX3, 18, rfl, by decide, rfl, lwq_4 (dqc_m (dqc_m (dqc_m (dqc_m (dqc_m (dqc_m (List.mem_of_getElem? (i := 0) rfl))))))) rfl⟩, List.forall_mem_cons.mpr ⟨⟨RX3, TX3, 18, rfl, by decide, rfl, lwq_4 (dqc_m (dqc_m (dqc_m (dqc_m (dqc_m (dqa_m (dqa_m (dqa_m (List.mem_of_getElem? (i := 3) rfl))))))))) rfl⟩, List.forall_mem_cons.mpr ⟨⟨RX3, TX3, 18, rfl, by decide, rfl, lwq_4 (dqc_m (dqc_m (dqc_m (dqc_m (dqc_m (dqc_m (dqa_m (dqa_m (List.mem_of_getElem? (i := 4) rfl))))))))) rfl⟩, List.forall_mem_cons.mpr ⟨⟨RX3, TX3, 18, rfl, by decide, rfl, lwq_4 (dqc_m (dqc_m (dqc_m (dqc_m (dqc_m (dqc_m (dqa_m (dqa_m (List.mem_of_getElem? (i := 1) rfl))))))))) rfl⟩, List.forall_mem_cons.mpr ⟨⟨RX3, TX3, 18, rfl, by decide, rfl, lwq_4 (dqc_m (dqc_m (dqc_m (dqc_m (dqc_m (dqc_m (dqa_m (dqa_m (dqa_m (List.mem_of_getElem? (i := 0) rfl)))))))))) rfl⟩, List.forall_mem_cons.mpr ⟨⟨RX3, TX3, 18, rfl, by decide, rfl, lwq_4 (dqc_m (dqc_m (dqc_m (dqc_m (dqc_m (dqc_m (dqa_m (dqa_m (List.mem_of_getElem? (i := 5) rfl))))))))) rfl⟩, fun _ h => absurd h List.not_mem_nil⟩⟩⟩⟩⟩⟩⟩⟩⟩⟩⟩⟩⟩⟩⟩⟩⟩⟩
set_option maxRecDepth 100000 in
set_option maxHeartbeats 4000000 in
theorem tp_X3 : ∀ q ∈ fX3.2.1, fp_ RX3 q.1 q.2.1 q.2.2 := List.forall_mem_cons.mpr ⟨⟨RX3, TX3, 18, rfl, by decide, rfl, lwq_4 (dqc_m (dqc_m (dqc_m (dqc_m (dqc_m (dqa_m (dqa_m (dqa_m (List.mem_of_getElem? (i := 4) rfl))))))))) rfl, by decide +kernel, Or.inr ⟨by decide +kernel, 0, by decide +kernel⟩⟩, List.forall_mem_cons.mpr ⟨⟨RX3, TX3, 18, rfl, by decide, rfl, lwq_4 (dqc_m (dqc_m (dqc_m (dqc_m (dqc_m (dqa_m (dqa_m (dqa_m (List.mem_of_getElem? (i := 6) rfl))))))))) rfl, by decide +kernel, Or.inl (by decide +kernel)⟩, List.forall_mem_cons.mpr ⟨⟨RX3, TX3, 18, rfl, by decide, rfl, lwq_4 (dqc_m (dqc_m (dqc_m (dqc_m (dqc_m (dqc_m (List.mem_of_getElem? (i := 0) rfl))))))) rfl, by decide +kernel, Or.inl (by decide +kernel)⟩, List.forall_mem_cons.mpr ⟨⟨RX3, TX3, 18, rfl, by decide, rfl, lwq_4 (dqc_m (dqc_m (dqc_m (dqc_m (dqc_m (dqc_m (dqa_m (dqa_m (List.mem_of_getElem? (i := 4) rfl))))))))) rfl, by decide +kernel, Or.inl (by decide +kernel)⟩, List.forall_mem_cons.mpr ⟨⟨RX3, TX3, 18, rfl, by decide, rfl, lwq_4 (dqc_m (dqc_m (dqc_m (dqc_m (dqc_m (dqc_m (dqa_m (dqa_m (dqa_m (List.mem_of_getElem? (i := 0) rfl)))))))))) rfl, by decide +kernel, Or.inl (by decide +kernel)⟩, fun _ h => absurd h List.not_mem_nil⟩⟩⟩⟩⟩
theorem tb_X3 : tb_ RX3 fX3 := ⟨tg_X3, tp_X3, fun _ h => absurd h List.not_mem_nil, fun _ h => absurd h List.not_mem_nil⟩
def fX4 : Zf := ([(22, 4, 1), (30, 8, 12), (39, 4, 3), (18, 4, 0), (42, 6, 3), (9, 4, 2), (57, 6, 4), (60, 2, 5), (15, 4, 4), (80, 8, 11), (83, 8, 1), (86, 2, 3), (89, 2, 4), (92, 8, 10), (95, 8, 0)], [(52, 2, 7), (39, 4, 3)], [], [])
set_option maxRecDepth 100000 in
set_option maxHeartbeats 4000000 in
theorem tg_X4 : ∀ q ∈ fX4.1, fl_ RX4 q.1 q.2.1 q.2.2 := List.forall_mem_cons.mpr ⟨⟨RX4, TX4, 5, rfl, by decide, rfl, lwq_2 (dqc_m (dqc_m (dqc_m (dqc_m (dqa_m (dqa_m (List.mem_of_getElem? (i := 6) rfl))))))) rfl⟩, List.forall_mem_cons.mpr ⟨⟨RX8, TX8, 14, rfl, by decide, rfl, lwq_1 (dqc_m (dqc_m (dqc_m (List.mem_of_getElem? (i := 7) rfl)))) rfl⟩, List.forall_mem_cons.mpr ⟨⟨RX4, TX4, 5, rfl, by decide, rfl, lwq_2 (dqc_m (dqc_m (dqc_m (dqc_m (dqa_m (dqa_m (dqa_m (List.mem_of_getElem? (i := 0) rfl)))))))) rfl⟩, List.forall_mem_cons.mpr ⟨⟨RX4, TX4, 5, rfl, by decide, rfl, lwq_2 (dqc_m (dqc_m (dqc_m (dqc_m (dqa_m (dqa_m (List.mem_of_getElem? (i := 5) rfl))))))) rfl⟩, List.forall_mem_cons.mpr ⟨⟨RX6, TX6, 16, rfl, by decide, rfl, lwq_1 (dqc_m (dqc_m (dqc_m (dqc_m (dqa_m (dqa_m (List.mem_of_getElem? (i := 7) rfl))))))) rfl⟩, List.forall_mem_cons.mpr ⟨⟨RX4, TX4, 5, rfl, by decide, rfl, lwq_2 (dqc_m (dqc_m (dqc_m (dqc_m (dqa_m (dqa_m (List.mem_of_getElem? (i := 7) rfl))))))) rfl⟩, List.forall_mem_cons.mpr ⟨⟨RX6, TX6, 16, rfl, by decide, rfl, lwq_1 (dqc_m (dqc_m (dqc_m (dqc_m (dqa_m (dqa_m (dqa_m (List.mem_of_getElem? (i := 4) rfl)))))))) rfl⟩, List.forall_mem_cons.mpr ⟨⟨RX2, TX2, 11, rfl, by decide, rfl, lwq_4 (dqa_m (List.mem_of_getElem? (i := 0) rfl)) rfl⟩, List.forall_mem_cons.mpr ⟨⟨RX4, TX4, 5, rfl, by decide, rfl, lwq_2 (dqc_m (dqc_m (dqc_m (dqc_m (dqa_m (dqa_m (dqa_m (List.mem_of_getElem? (i := 1) rfl)))))))) rfl⟩, List.forall_mem_cons.mpr ⟨⟨RX8, TX8, 14, rfl, by decide, rfl, lwq_1 (dqc_m (dqc_m (dqc_m (List.mem_of_getElem? (i := 5) rfl)))) rfl⟩, List.forall_mem_cons.mpr ⟨⟨RX8, TX8, 14, rfl, by decide, rfl, lwq_1 (dqc_m (dqc_m (dqa_m (dqa_m (List.mem_of_getElem? (i := 5) rfl))))) rfl⟩, List.forall_mem_cons.mpr ⟨⟨RX2, TX2, 11, rfl, by decide, rfl, lwq_3 (dqc_m (dqc_m (dqc_m (dqc_m (dqc_m (dqc_m (dqc_m (dqa_m (List.mem_of_getElem? (i := 6) rfl))))))))) rfl⟩, List.forall_mem_cons.mpr ⟨⟨RX2, TX2, 11, rfl, by decide, rfl, lwq_4 (List.mem_of_getElem? (i := 3) rfl) rfl⟩, List.forall_mem_cons.mpr ⟨⟨RX8, TX8, 14, rfl, by decide, rfl, lwq_1 (dqc_m (dqc_m (dqc_m (List.mem_of_getElem? (i := 2) rfl)))) rfl⟩, List.forall_mem_cons.mpr ⟨⟨RX8, TX8, 14, rfl, by decide, rfl, lwq_1 (dqc_m (dqc_m (dqa_m (dqa_m (List.mem_of_getElem? (i := 1) rfl))))) rfl⟩, fun _ h => absurd h List.not_mem_nil⟩⟩⟩⟩⟩⟩⟩⟩⟩⟩⟩⟩⟩⟩⟩
set_option maxRecDepth 100000 in
set_option maxHeartbeats 4000000 in
theorem tp_X4 : ∀ q ∈ fX4.2.1, fp_ RX4 q.1 q.2.1 q.2.2 := List.forall_mem_cons.mpr ⟨⟨RX2, TX2, 11, rfl, by decide, rfl, lwq_4 (dqa_m (List.mem_of_getElem? (i := 7) rfl)) rfl, by decide +kernel, Or.inl (by decide +kernel)⟩, List.forall_mem_cons.mpr ⟨⟨RX4, TX4, 5, rfl, by decide, rfl, lwq_2 (dqc_m (dqc_m (dqc_m (dqc_m (dqa_m (dqa_m (dqa_m (List.mem_of_getElem? (i := 0) rfl)))))))) rfl, by decide +kernel, Or.inl (by decide +kernel)⟩, fun _ h => absurd h List.not_mem_nil⟩⟩
theorem tb_X4 : tb_ RX4 fX4 := ⟨tg_X4, tp_X4, fun _ h => absurd h List.not_mem_nil, fun _ h => absurd h List.not_mem_nil⟩
def fX5 : Zf := ([(19, 5, 4), (22, 5, 5), (46, 5, 7), (28, 5, 6), (84, 5, 8), (31, 5, 9), (9, 5, 0), (102, 5, 1)], [(15, 5, 3), (25, 5, 2), (28, 5, 6), (31, 5, 9), (84, 5, 8), (46, 5, 7)], [], [])
set_option maxRecDepth 100000 in
set_option maxHeartbeats 4000000 in
theorem tg_X5 : ∀ q ∈ fX5.1, fl_ RX5 q.1 q.2.1 q.2.2 := List.forall_mem_cons.mpr ⟨⟨RX5, TX5, 10, rfl, by decide, rfl, lwq_1 (dqc_m (dqa_m (List.mem_of_getElem? (i := 3) rfl))) rfl⟩, List.forall_mem_cons.mpr ⟨⟨RX5, TX5, 10, rfl, by decide, rfl, lwq_1 (dqc_m (dqa_m (List.mem_of_getElem? (i := 5) rfl))) rfl⟩, List.forall_mem_cons.mpr ⟨⟨RX5, TX5, 10, rfl, by decide, rfl, lwq_1 (dqc_m (dqa_m (dqa_m (List.mem_of_getElem? (i := 0) rfl)))) rfl⟩, List.forall_mem_cons.mpr ⟨⟨RX5, TX5, 10, rfl, by decide, rfl, lwq_1 (dqc_m (dqa_m (List.mem_of_getElem? (i := 7) rfl))) rfl⟩, List.forall_mem_cons.mpr ⟨⟨RX5, TX5, 10, rfl, by decide, rfl, lwq_1 (dqc_m (dqa_m (dqa_m (List.mem_of_getElem? (i := 1) rfl)))) rfl⟩, List.forall_mem_cons.mpr ⟨⟨RX5, TX5, 10, rfl, by decide, rfl, lwq_1 (dqc_m (dqa_m (dqa_m (List.mem_of_getElem? (i := 2) rfl)))) rfl⟩, List.forall_mem_cons.mpr ⟨⟨RX5, TX5, 10, rfl, by decide, rfl, lwq_1 (dqc_m (List.mem_of_getElem? (i := 3) rfl)) rfl⟩, List.forall_mem_cons.mpr ⟨⟨RX5, TX5, 10, rfl, by decide, rfl, lwq_1 (dqc_m (List.mem_of_getElem? (i := 6) rfl)) rfl⟩, fun _ h => absurd h List.not_mem_nil⟩⟩⟩⟩⟩⟩⟩⟩
set_option maxRecDepth 100000 in
set_option maxHeartbeats 4000000 in
theorem tp_X5 : ∀ q ∈ fX5.2.1, fp_ RX5 q.1 q.2.1 q.2.2 := List.forall_mem_cons.mpr ⟨⟨RX5, TX5, 10, rfl, by decide, rfl, lwq_1 (dqc_m (dqa_m (List.mem_of_getElem? (i := 1) rfl))) rfl, by decide +kernel, Or.inl (by decide +kernel)⟩, List.forall_mem_cons.mpr ⟨⟨RX5, TX5, 10, rfl, by decide, rfl, lwq_1 (dqc_m (List.mem_of_getElem? (i := 7) rfl)) rfl, by decide +kernel, Or.inl (by decide +kernel)⟩, List.forall_mem_cons.mpr ⟨⟨RX5, TX5, 10, rfl, by decide, rfl, lwq_1 (dqc_m (dqa_m (List.mem_of_getElem? (i := 7) rfl))) rfl, by decide +kernel, Or.inl (by decide +kernel)⟩, List.forall_mem_cons.mpr ⟨⟨RX5, TX5, 10, rfl, by decide, rfl, lwq_1 (dqc_m (dqa_m (dqa_m (List.mem_of_getElem? (i := 2) rfl)))) rfl, by decide +kernel, Or.inl (by decide +kernel)⟩, List.forall_mem_cons.mpr ⟨⟨RX5, TX5, 10, rfl, by decide, rfl, lwq_1 (dqc_m (dqa_m (dqa_m (List.mem_of_getElem? (i := 1) rfl)))) rfl, by decide +kernel, Or.inl (by decide +kernel)⟩, List.forall_mem_cons.mpr ⟨⟨RX5, TX5, 10, rfl, by decide, rfl, lwq_1 (dqc_m (dqa_m (dqa_m (List.mem_of_getElem? (i := 0) rfl)))) rfl, by decide +kernel, Or.inl (by decide +kernel)⟩, fun _ h => absurd h List.not_mem_nil⟩⟩⟩⟩⟩⟩
theorem tb_X5 : tb_ RX5 fX5 := ⟨tg_X5, tp_X5, fun _ h => absurd h List.not_mem_nil, fun _ h => absurd h List.not_mem_nil⟩
def fX6 : Zf := ([(56, 6, 4), (67, 0, 1), (60, 0, 7), (79, 0, 5), (19, 6, 3), (82, 0, 3), (74, 0, 8), (92, 2, 3), (95, 2, 5), (39, 6, 13), (42, 6, 14), (36, 6, 11), (109, 2, 1), (119, 2, 6), (48, 6, 0), (128, 8, 0), (143, 2, 4), (45, 6, 15), (23, 6, 7), (159, 6, 6), (27, 6, 8), (30, 6, 9), (33, 6, 10), (162, 8, 13), (179, 2, 0), (183, 2, 10), (192, 3, 13)], [(52, 0, 6), (60, 0, 7), (74, 0, 8), (56, 6, 4), (95, 2, 5), (106, 6, 12), (159, 6, 6)], [], [])
set_option maxRecDepth 100000 in
set_option maxHeartbeats 4000000 in
theorem tg_X6 : ∀ q ∈ fX6.1, fl_ RX6 q.1 q.2.1 q.2.2 := List.forall_mem_cons.mpr ⟨⟨RX6, TX6, 16, rfl, by decide, rfl, lwq_1 (dqc_m (dqc_m (dqc_m (dqc_m (dqa_m (dqa_m (dqa_m (List.mem_of_getElem? (i := 3) rfl)))))))) rfl⟩, List.forall_mem_cons.mpr ⟨⟨RX0, TX0, 9, rfl, by decide, rfl, lwq_3 (dqc_m (dqc_m (dqa_m (dqa_m (List.mem_of_getElem? (i := 4) rfl))))) rfl⟩, List.forall_mem_cons.mpr ⟨⟨RX0, TX0, 9, rfl, by decide, rfl, lwq_3 (dqc_m (dqc_m (dqc_m (dqa_m (List.mem_of_getElem? (i := 3) rfl))))) rfl⟩, List.forall_mem_cons.mpr ⟨⟨RX0, TX0, 9, rfl, by decide, rfl, lwq_3 (dqc_m (dqc_m (dqc_m (List.mem_of_getElem? (i := 6) rfl)))) rfl⟩, List.forall_mem_cons.mpr ⟨⟨RX6, TX6, 16, rfl, by decide, rfl, lwq_1 (dqc_m (dqc_m (dqc_m (dqc_m (dqa_m (dqa_m (List.mem_of_getElem? (i := 6) rfl))))))) rfl⟩, List.forall_mem_cons.mpr ⟨⟨RX0, TX0, 9, rfl, by decide, rfl, lwq_3 (dqc_m (dqc_m (dqa_m (dqa_m (dqa_m (List.mem_of_getElem? (i := 6) rfl)))))) rfl⟩, List.forall_mem_cons.mpr ⟨⟨RX0, TX0, 9, rfl, by decide, rfl, lwq_3 (dqc_m (dqc_m (dqc_m (dqa_m (dqa_m (List.mem_of_getElem? (i := 0) rfl)))))) rfl⟩, List.forall_mem_cons.mpr ⟨⟨RX2, TX2, 11, rfl, by decide, rfl, lwq_3 (dqc_m (dqc_m (dqc_m (dqc_m (dqc_m (dqc_m (dqc_m (dqa_m (List.mem_of_getElem? (i := 5) rfl))))))))) rfl⟩, List.forall_mem_cons.mpr ⟨⟨RX2, TX2, 11, rfl, by decide, rfl, lwq_4 (dqa_m (List.mem_of_getElem? (i := 1) rfl)) rfl⟩, List.forall_mem_cons.mpr ⟨⟨RX6, TX6, 16, rfl, by decide, rfl, lwq_1 (dqc_m (dqc_m (dqc_m (dqc_m (dqc_m (dqa_m (List.mem_of_getElem? (i := 1) rfl))))))) rfl⟩, List.forall_mem_cons.mpr ⟨⟨RX6, TX6, 16, rfl, by decide, rfl, lwq_1 (dqc_m (dqc_m (dqc_m (dqc_m (dqc_m (dqa_m (List.mem_of_getElem? (i := 2) rfl))))))) rfl⟩, List.forall_mem_cons.mpr ⟨⟨RX6, TX6, 16, rfl, by decide, rfl, lwq_1 (dqc_m (dqc_m (dqc_m (dqc_m (dqc_m (List.mem_of_getElem? (i := 5) rfl)))))) rfl⟩, List.forall_mem_cons.mpr ⟨⟨RX2, TX2, 11, rfl, by decide, rfl, lwq_3 (dqc_m (dqc_m (dqc_m (dqc_m (dqc_m (dqc_m (dqc_m (List.mem_of_getElem? (i := 7) rfl)))))))) rfl⟩, List.forall_mem_cons.mpr ⟨⟨RX2, TX2, 11, rfl, by decide, rfl, lwq_4 (dqa_m (List.mem_of_getElem? (i := 4) rfl)) rfl⟩, List.forall_mem_cons.mpr ⟨⟨RX6, TX6, 16, rfl, by decide, rfl, lwq_1 (dqc_m (dqc_m (dqc_m (dqc_m (dqa_m (dqa_m (List.mem_of_getElem? (i := 2) rfl))))))) rfl⟩, List.forall_mem_cons.mpr ⟨⟨RX8, TX8, 14, rfl, by decide, rfl, lwq_1 (dqc_m (dqc_m (dqa_m (dqa_m (List.mem_of_getElem? (i := 2) rfl))))) rfl⟩, List.forall_mem_cons.mpr ⟨⟨RX2, TX2, 11, rfl, by decide, rfl, lwq_4 (List.mem_of_getElem? (i := 4) rfl) rfl⟩, List.forall_mem_cons.mpr ⟨⟨RX6, TX6, 16, rfl, by decide, rfl, lwq_1 (dqc_m (dqc_m (dqc_m (dqc_m (dqc_m (dqa_m (List.mem_of_getElem? (i := 3) rfl))))))) rfl⟩, List.forall_mem_cons.mpr ⟨⟨RX6, TX6, 16, rfl, by decide, rfl, lwq_1 (dqc_m (dqc_m (dqc_m (dqc_m (dqc_m (List.mem_of_getElem? (i := 1) rfl)))))) rfl⟩, List.forall_mem_cons.mpr ⟨⟨RX6, TX6, 16, rfl, by decide, rfl, lwq_1 (dqc_m (dqc_m (dqc_m (dqc_m (dqa_m (dqa_m (dqa_m (List.mem_of_getElem? (i := 7) rfl)))))))) rfl⟩, List.forall_mem_cons.mpr ⟨⟨RX6, TX6, 16, rfl, by decide, rfl, lwq_1 (dqc_m (dqc_m (dqc_m (dqc_m (dqc_m (List.mem_of_getElem? (i := 2) rfl)))))) rfl⟩, List.forall_mem_cons.mpr ⟨⟨RX6, TX6, 16, rfl, by decide, rfl, lwq_1 (dqc_m (dqc_m (dqc_m (dqc_m (dqc_m (List.mem_of_getElem? (i := 3) rfl)))))) rfl⟩, List.forall_mem_cons.mpr ⟨⟨RX6, TX6, 16, rfl, by decide, rfl, lwq_1 (dqc_m (dqc_m (dqc_m (dqc_m (dqc_m (List.mem_of_getElem? (i := 4) rfl)))))) rfl⟩, List.forall_mem_cons.mpr ⟨⟨RX8, TX8, 14, rfl, by decide, rfl, lwq_1 (dqc_m (dqc_m (dqc_m (dqa_m (List.mem_of_getElem? (i := 2) rfl))))) rfl⟩, List.forall_mem_cons.mpr ⟨⟨RX2, TX2, 11, rfl, by decide, rfl, lwq_3 (dqc_m (dqc_m (dqc_m (dqc_m (dqc_m (dqc_m (dqc_m (List.mem_of_getElem? (i := 4) rfl)))))))) rfl⟩, List.forall_mem_cons.mpr ⟨⟨RX2, TX2, 11, rfl, by decide, rfl, lwq_4 (dqa_m (dqa_m (dqa_m (List.mem_of_getElem? (i := 0) rfl)))) rfl⟩, List.forall_mem_cons.mpr ⟨⟨RX3, TX3, 18, rfl, by decide, rfl, lwq_4 (dqc_m (dqc_m (dqc_m (dqc_m (dqc_m (dqc_m (dqa_m (dqa_m (List.mem_of_getElem? (i := 0) rfl))))))))) rfl⟩, fun _ h => absurd h List.not_mem_nil⟩⟩⟩⟩⟩⟩⟩⟩⟩⟩⟩⟩⟩⟩⟩⟩⟩⟩⟩⟩⟩⟩⟩⟩⟩⟩⟩
set_option maxRecDepth 100000 in
set_option maxHeartbeats 4000000 in
theorem tp_X6 : ∀ q ∈ fX6.2.1, fp_ RX6 q.1 q.2.1 q.2.2 := List.forall_mem_cons.mpr ⟨⟨RX0, TX0, 9, rfl, by decide, rfl, lwq_3 (dqc_m (dqc_m (dqc_m (dqa_m (List.mem_of_getElem? (i := 1) rfl))))) rfl, by decide +kernel, Or.inr ⟨by decide +kernel, 0, by decide +kernel⟩⟩, List.forall_mem_cons.mpr ⟨⟨RX0, TX0, 9, rfl, by decide, rfl, lwq_3 (dqc_m (dqc_m (dqc_m (dqa_m (List.mem_of_getElem? (i := 3) rfl))))) rfl, by decide +kernel, Or.inl (by decide +kernel)⟩, List.forall_mem_cons.mpr ⟨⟨RX0, TX0, 9, rfl, by decide, rfl, lwq_3 (dqc_m (dqc_m (dqc_m (dqa_m (dqa_m (List.mem_of_getElem? (i := 0) rfl)))))) rfl, by decide +kernel, Or.inl (by decide +kernel)⟩, List.forall_mem_cons.mpr ⟨⟨RX6, TX6, 16, rfl, by decide, rfl, lwq_1 (dqc_m (dqc_m (dqc_m (dqc_m (dqa_m (dqa_m (dqa_m (List.mem_of_getElem? (i := 3) rfl)))))))) rfl, by decide +kernel, Or.inl (by decide +kernel)⟩, List.forall_mem_cons.mpr ⟨⟨RX2, TX2, 11, rfl, by decide, rfl, lwq_4 (dqa_m (List.mem_of_getElem? (i := 1) rfl)) rfl, by decide +kernel, Or.inl (by decide +kernel)⟩, List.forall_mem_cons.mpr ⟨⟨RX6, TX6, 16, rfl, by decide, rfl, lwq_1 (dqc_m (dqc_m (dqc_m (dqc_m (dqc_m (List.mem_of_getElem? (i := 7) rfl)))))) rfl, by decide +kernel, Or.inl (by decide +kernel)⟩, List.forall_mem_cons.mpr ⟨⟨RX6, TX6, 16, rfl, by decide, rfl, lwq_1 (dqc_m (dqc_m (dqc_m (dqc_m (dqa_m (dqa_m (dqa_m (List.mem_of_getElem? (i := 7) rfl)))))))) rfl, by decide +kernel, Or.inl (by decide +kernel)⟩, fun _ h => absurd h List.not_mem_nil⟩⟩⟩⟩⟩⟩⟩
theorem tb_X6 : tb_ RX6 fX6 := ⟨tg_X6, tp_X6, fun _ h => absurd h List.not_mem_nil, fun _ h => absurd h List.not_mem_nil⟩
def fX7 : Zf := ([(11, 7, 2), (15, 7, 3), (18, 7, 4), (21, 7, 5), (24, 7, 6), (50, 7, 1), (60, 0, 8), (46, 7, 0), (66, 6, 3), (72, 0, 7), (75, 2, 5), (96, 0, 5), (99, 0, 0), (102, 0, 3), (109, 0, 4), (112, 2, 3), (115, 2, 4), (121, 0, 1), (124, 2, 10), (128, 2, 9), (131, 3, 13), (27, 7, 7), (30, 7, 8), (140, 7, 13), (37, 7, 10), (40, 7, 11), (43, 7, 12), (33, 7, 9), (161, 0, 2)], [(140, 7, 13)], [(174, 1000003), (175, 73244475), (176, 2147483647)], [(172, 1000000)])
set_option maxRecDepth 100000 in
set_option maxHeartbeats 4000000 in
theorem tg_X7 : ∀ q ∈ fX7.1, fl_ RX7 q.1 q.2.1 q.2.2 := List.forall_mem_cons.mpr ⟨⟨RX7, TX7, 14, rfl, by decide, rfl, lwq_1 (dqc_m (dqc_m (dqc_m (dqc_m (dqc_m (dqc_m (dqa_m (dqa_m (List.mem_of_getElem? (i := 5) rfl))))))))) rfl⟩, List.forall_mem_cons.mpr ⟨⟨RX7, TX7, 14, rfl, by decide, rfl, lwq_1 (dqc_m (dqc_m (dqc_m (dqc_m (dqc_m (dqc_m (dqa_m (dqa_m (dqa_m (List.mem_of_getElem? (i := 0) rfl)))))))))) rfl⟩, List.forall_mem_cons.mpr ⟨⟨RX7, TX7, 14, rfl, by decide, rfl, lwq_1 (dqc_m (dqc_m (dqc_m (dqc_m (dqc_m (dqc_m (dqa_m (dqa_m (dqa_m (List.mem_of_getElem? (i := 1) rfl)))))))))) rfl⟩, List.forall_mem_cons.mpr ⟨⟨RX7, TX7, 14, rfl, by decide, rfl, lwq_1 (dqc_m (dqc_m (dqc_m (dqc_m (dqc_m (dqc_m (dqa_m (dqa_m (dqa_m (List.mem_of_getElem? (i := 2) rfl)))))))))) rfl⟩, List.forall_mem_cons.mpr ⟨⟨RX7, TX7, 14, rfl, by decide, rfl, lwq_1 (dqc_m (dqc_m (dqc_m (dqc_m (dqc_m (dqc_m (dqa_m (dqa_m (dqa_m (List.mem_of_getElem? (i := 3) rfl)))))))))) rfl⟩, List.forall_mem_cons.mpr ⟨⟨RX7, TX7, 14, rfl, by decide, rfl, lwq_1 (dqc_m (dqc_m (dqc_m (dqc_m (dqc_m (dqc_m (dqa_m (dqa_m (List.mem_of_getElem? (i := 4) rfl))))))))) rfl⟩, List.forall_mem_cons.mpr ⟨⟨RX0, TX0, 9, rfl, by decide, rfl, lwq_3 (dqc_m (dqc_m (dqc_m (dqa_m (List.mem_of_getElem? (i := 7) rfl))))) rfl⟩, List.forall_mem_cons.mpr ⟨⟨RX7, TX7, 14, rfl, by decide, rfl, lwq_1 (dqc_m (dqc_m (dqc_m (dqc_m (dqc_m (dqc_m (dqa_m (dqa_m (List.mem_of_getElem? (i := 3) rfl))))))))) rfl⟩, List.forall_mem_cons.mpr ⟨⟨RX6, TX6, 16, rfl, by decide, rfl, lwq_1 (dqc_m (dqc_m (dqc_m (dqc_m (dqa_m (dqa_m (dqa_m (List.mem_of_getElem? (i := 0) rfl)))))))) rfl⟩, List.forall_mem_cons.mpr ⟨⟨RX0, TX0, 9, rfl, by decide, rfl, lwq_3 (dqc_m (dqc_m (dqc_m (dqa_m (List.mem_of_getElem? (i := 4) rfl))))) rfl⟩, List.forall_mem_cons.mpr ⟨⟨RX2, TX2, 11, rfl, by decide, rfl, lwq_4 (List.mem_of_getElem? (i := 7) rfl) rfl⟩, List.forall_mem_cons.mpr ⟨⟨RX0, TX0, 9, rfl, by decide, rfl, lwq_3 (dqc_m (dqc_m (dqc_m (List.mem_of_getElem? (i := 5) rfl)))) rfl⟩, List.forall_mem_cons.mpr ⟨⟨RX0, TX0, 9, rfl, by decide, rfl, lwq_3 (dqc_m (dqc_m (dqa_m (dqa_m (List.mem_of_getElem? (i := 0) rfl))))) rfl⟩, List.forall_mem_cons.mpr ⟨⟨RX0, TX0, 9, rfl, by decide, rfl, lwq_3 (dqc_m (dqc_m (dqa_m (dqa_m (dqa_m (List.mem_of_getElem? (i := 5) rfl)))))) rfl⟩, List.forall_mem_cons.mpr ⟨⟨RX0, TX0, 9, rfl, by decide, rfl, lwq_3 (dqc_m (dqc_m (dqc_m (List.mem_of_getElem? (i := 1) rfl)))) rfl⟩, List.forall_mem_cons.mpr ⟨⟨RX2, TX2, 11, rfl, by decide, rfl, lwq_3 (dqc_m (dqc_m (dqc_m (dqc_m (dqc_m (dqc_m (dqc_m (dqa_m (List.mem_of_getElem? (i := 3) rfl))))))))) rfl⟩, List.forall_mem_cons.mpr ⟨⟨RX2, TX2, 11, rfl, by decide, rfl, lwq_4 (List.mem_of_getElem? (i := 1) rfl) rfl⟩, List.forall_mem_cons.mpr ⟨⟨RX0, TX0, 9, rfl, by decide, rfl, lwq_3 (dqc_m (dqc_m (dqa_m (dqa_m (List.mem_of_getElem? (i := 6) rfl))))) rfl⟩, List.forall_mem_cons.mpr ⟨⟨RX2, TX2, 11, rfl, by decide, rfl, lwq_4 (dqa_m (dqa_m (List.mem_of_getElem? (i := 7) rfl))) rfl⟩, List.forall_mem_cons.mpr ⟨⟨RX2, TX2, 11, rfl, by decide, rfl, lwq_4 (dqa_m (dqa_m (List.mem_of_getElem? (i := 4) rfl))) rfl⟩, List.forall_mem_cons.mpr ⟨⟨RX3, TX3, 18, rfl, by decide, rfl, lwq_4 (dqc_m (dqc_m (dqc_m (dqc_m (dqc_m (dqc_m (dqa_m (List.mem_of_getElem? (i := 7) rfl)))))))) rfl⟩, List.forall_mem_cons.mpr ⟨⟨RX7, TX7, 14, rfl, by decide, rfl, lwq_1 (dqc_m (dqc_m (dqc_m (dqc_m (dqc_m (dqc_m (dqa_m (dqa_m (dqa_m (List.mem_of_getElem? (i := 4) rfl)))))))))) rfl⟩, List.forall_mem_cons.mpr ⟨⟨RX7, TX7, 14, rfl, by decide, rfl, lwq_1 (dqc_m (dqc_m (dqc_m (dqc_m (dqc_m (dqc_m (dqa_m (dqa_m (dqa_m (List.mem_of_getElem? (i := 6) rfl)))))))))) rfl⟩, List.forall_mem_cons.mpr ⟨⟨RX7, TX7, 14, rfl, by decide, rfl, lwq_1 (dqc_m (dqc_m (dqc_m (dqc_m (dqc_m (dqc_m (dqc_m (List.mem_of_getElem? (i := 4) rfl)))))))) rfl⟩, List.forall_mem_cons.mpr ⟨⟨RX7, TX7, 14, rfl, by decide, rfl, lwq_1 (dqc_m (dqc_m (dqc_m (dqc_m (dqc_m (dqc_m (dqc_m (List.mem_of_getElem? (i := 1) rfl)))))))) rfl⟩, List.forall_mem_cons.mpr ⟨⟨RX7, TX7, 14, rfl, by decide, rfl, lwq_1 (dqc_m (dqc_m (dqc_m (dqc_m (dqc_m (dqc_m (dqc_m (List.mem_of_getElem? (i := 2) rfl)))))))) rfl⟩, List.forall_mem_cons.mpr ⟨⟨RX7, TX7, 14, rfl, by decide, rfl, lwq_1 (dqc_m (dqc_m (dqc_m (dqc_m (dqc_m (dqc_m (dqc_m (List.mem_of_getElem? (i := 3) rfl)))))))) rfl⟩, List.forall_mem_cons.mpr ⟨⟨RX7, TX7, 14, rfl, by decide, rfl, lwq_1 (dqc_m (dqc_m (dqc_m (dqc_m (dqc_m (dqc_m (dqc_m (List.mem_of_getElem? (i := 0) rfl)))))))) rfl⟩, List.forall_mem_cons.mpr ⟨⟨RX0, TX0, 9, rfl, by decide, rfl, lwq_3 (dqc_m (dqc_m (dqa_m (dqa_m (dqa_m (List.mem_of_getElem? (i := 2) rfl)))))) rfl⟩, fun _ h => absurd h List.not_mem_nil⟩⟩⟩⟩⟩⟩⟩⟩⟩⟩⟩⟩⟩⟩⟩⟩⟩⟩⟩⟩⟩⟩⟩⟩⟩⟩⟩⟩⟩
set_option maxRecDepth 100000 in
set_option maxHeartbeats 4000000 in
theorem tp_X7 : ∀ q ∈ fX7.2.1, fp_ RX7 q.1 q.2.1 q.2.2 := List.forall_mem_cons.mpr ⟨⟨RX7, TX7, 14, rfl, by decide, rfl, lwq_1 (dqc_m (dqc_m (dqc_m (dqc_m (dqc_m (dqc_m (dqc_m (List.mem_of_getElem? (i := 4) rfl)))))))) rfl, by decide +kernel, Or.inl (by decide +kernel)⟩, fun _ h => absurd h List.not_mem_nil⟩
theorem tb_X7 : tb_ RX7 fX7 := ⟨tg_X7, tp_X7, List.forall_mem_cons.mpr ⟨⟨lwq_6 (dqa_m (List.mem_of_getElem? (i := 5) rfl)) rfl, by decide, by decide⟩, List.forall_mem_cons.mpr ⟨⟨lwq_6 (dqa_m (List.mem_of_getElem? (i := 6) rfl)) rfl, by decide, by decide⟩, List.forall_mem_cons.mpr ⟨⟨lwq_6 (dqa_m (List.mem_of_getElem? (i := 7) rfl)) rfl, by decide, by decide⟩, fun _ h => absurd h List.not_mem_nil⟩⟩⟩, List.forall_mem_cons.mpr ⟨⟨lwq_6 (dqa_m (List.mem_of_getElem? (i := 0) rfl)) rfl, by decide, by decide⟩, fun _ h => absurd h List.not_mem_nil⟩⟩
def fX8 : Zf := ([(18, 8, 4), (24, 8, 7), (27, 8, 8), (30, 8, 9), (21, 8, 6), (39, 8, 5)], [(39, 8, 5)], [], [])
set_option maxRecDepth 100000 in
set_option maxHeartbeats 4000000 in
theorem tg_X8 : ∀ q ∈ fX8.1, fl_ RX8 q.1 q.2.1 q.2.2 := List.forall_mem_cons.mpr ⟨⟨RX8, TX8, 14, rfl, by decide, rfl, lwq_1 (dqc_m (dqc_m (dqa_m (dqa_m (dqa_m (List.mem_of_getElem? (i := 1) rfl)))))) rfl⟩, List.forall_mem_cons.mpr ⟨⟨RX8, TX8, 14, rfl, by decide, rfl, lwq_1 (dqc_m (dqc_m (dqa_m (dqa_m (dqa_m (List.mem_of_getElem? (i := 6) rfl)))))) rfl⟩, List.forall_mem_cons.mpr ⟨⟨RX8, TX8, 14, rfl, by decide, rfl, lwq_1 (dqc_m (dqc_m (dqa_m (dqa_m (dqa_m (List.mem_of_getElem? (i := 7) rfl)))))) rfl⟩, List.forall_mem_cons.mpr ⟨⟨RX8, TX8, 14, rfl, by decide, rfl, lwq_1 (dqc_m (dqc_m (dqc_m (List.mem_of_getElem? (i := 0) rfl)))) rfl⟩, List.forall_mem_cons.mpr ⟨⟨RX8, TX8, 14, rfl, by decide, rfl, lwq_1 (dqc_m (dqc_m (dqa_m (dqa_m (dqa_m (List.mem_of_getElem? (i := 5) rfl)))))) rfl⟩, List.forall_mem_cons.mpr ⟨⟨RX8, TX8, 14, rfl, by decide, rfl, lwq_1 (dqc_m (dqc_m (dqa_m (dqa_m (dqa_m (List.mem_of_getElem? (i := 3) rfl)))))) rfl⟩, fun _ h => absurd h List.not_mem_nil⟩⟩⟩⟩⟩⟩
set_option maxRecDepth 100000 in
set_option maxHeartbeats 4000000 in
theorem tp_X8 : ∀ q ∈ fX8.2.1, fp_ RX8 q.1 q.2.1 q.2.2 := List.forall_mem_cons.mpr ⟨⟨RX8, TX8, 14, rfl, by decide, rfl, lwq_1 (dqc_m (dqc_m (dqa_m (dqa_m (dqa_m (List.mem_of_getElem? (i := 3) rfl)))))) rfl, by decide +kernel, Or.inl (by decide +kernel)⟩, fun _ h => absurd h List.not_mem_nil⟩
theorem tb_X8 : tb_ RX8 fX8 := ⟨tg_X8, tp_X8, fun _ h => absurd h List.not_mem_nil, fun _ h => absurd h List.not_mem_nil⟩
def fX9 : Zf := ([(15, 9, 4), (54, 9, 5), (61, 0, 1), (66, 0, 3), (9, 9, 2), (97, 0, 8), (40, 9, 0), (100, 6, 3), (106, 0, 7), (118, 2, 1), (121, 2, 3), (94, 9, 9), (22, 9, 8), (44, 9, 1), (130, 0, 5), (19, 9, 7), (133, 7, 2), (136, 0, 4), (139, 2, 4), (142, 9, 6), (28, 9, 11), (31, 9, 12), (25, 9, 10), (34, 9, 13), (37, 9, 14), (165, 9, 15)], [(9, 9, 2), (58, 9, 3), (94, 9, 9), (142, 9, 6)], [], [])
set_option maxRecDepth 100000 in
set_option maxHeartbeats 4000000 in
theorem tg_X9 : ∀ q ∈ fX9.1, fl_ RX9 q.1 q.2.1 q.2.2 := List.forall_mem_cons.mpr ⟨⟨RX9, TX9, 16, rfl, by decide, rfl, lwq_2 (dqc_m (List.mem_of_getElem? (i := 2) rfl)) rfl⟩, List.forall_mem_cons.mpr ⟨⟨RX9, TX9, 16, rfl, by decide, rfl, lwq_2 (dqc_m (List.mem_of_getElem? (i := 4) rfl)) rfl⟩, List.forall_mem_cons.mpr ⟨⟨RX0, TX0, 9, rfl, by decide, rfl, lwq_3 (dqc_m (dqc_m (dqa_m (dqa_m (List.mem_of_getElem? (i := 3) rfl))))) rfl⟩, List.forall_mem_cons.mpr ⟨⟨RX0, TX0, 9, rfl, by decide, rfl, lwq_3 (dqc_m (dqc_m (dqa_m (dqa_m (dqa_m (List.mem_of_getElem? (i := 4) rfl)))))) rfl⟩, List.forall_mem_cons.mpr ⟨⟨RX9, TX9, 16, rfl, by decide, rfl, lwq_2 (dqa_m (dqa_m (dqa_m (List.mem_of_getElem? (i := 6) rfl)))) rfl⟩, List.forall_mem_cons.mpr ⟨⟨RX0, TX0, 9, rfl, by decide, rfl, lwq_3 (dqc_m (dqc_m (dqc_m (dqa_m (dqa_m (List.mem_of_getElem? (i := 1) rfl)))))) rfl⟩, List.forall_mem_cons.mpr ⟨⟨RX9, TX9, 16, rfl, by decide, rfl, lwq_2 (dqa_m (dqa_m (dqa_m (List.mem_of_getElem? (i := 4) rfl)))) rfl⟩, List.forall_mem_cons.mpr ⟨⟨RX6, TX6, 16, rfl, by decide, rfl, lwq_1 (dqc_m (dqc_m (dqc_m (dqc_m (dqa_m (dqa_m (dqa_m (List.mem_of_getElem? (i := 1) rfl)))))))) rfl⟩, List.forall_mem_cons.mpr ⟨⟨RX0, TX0, 9, rfl, by decide, rfl, lwq_3 (dqc_m (dqc_m (dqc_m (dqa_m (List.mem_of_getElem? (i := 5) rfl))))) rfl⟩, List.forall_mem_cons.mpr ⟨⟨RX2, TX2, 11, rfl, by decide, rfl, lwq_3 (dqc_m (dqc_m (dqc_m (dqc_m (dqc_m (dqc_m (dqc_m (List.mem_of_getElem? (i := 6) rfl)))))))) rfl⟩, List.forall_mem_cons.mpr ⟨⟨RX2, TX2, 11, rfl, by decide, rfl, lwq_3 (dqc_m (dqc_m (dqc_m (dqc_m (dqc_m (dqc_m (dqc_m (dqa_m (List.mem_of_getElem? (i := 4) rfl))))))))) rfl⟩, List.forall_mem_cons.mpr ⟨⟨RX9, TX9, 16, rfl, by decide, rfl, lwq_2 (dqc_m (dqa_m (List.mem_of_getElem? (i := 0) rfl))) rfl⟩, List.forall_mem_cons.mpr ⟨⟨RX9, TX9, 16, rfl, by decide, rfl, lwq_2 (dqc_m (List.mem_of_getElem? (i := 7) rfl)) rfl⟩, List.forall_mem_cons.mpr ⟨⟨RX9, TX9, 16, rfl, by decide, rfl, lwq_2 (dqa_m (dqa_m (dqa_m (List.mem_of_getElem? (i := 5) rfl)))) rfl⟩, List.forall_mem_cons.mpr ⟨⟨RX0, TX0, 9, rfl, by decide, rfl, lwq_3 (dqc_m (dqc_m (dqc_m (List.mem_of_getElem? (i := 7) rfl)))) rfl⟩, List.forall_mem_cons.mpr ⟨⟨RX9, TX9, 16, rfl, by decide, rfl, lwq_2 (dqc_m (List.mem_of_getElem? (i := 6) rfl)) rfl⟩, List.forall_mem_cons.mpr ⟨⟨RX7, TX7, 14, rfl, by decide, rfl, lwq_1 (dqc_m (dqc_m (dqc_m (dqc_m (dqc_m (dqc_m (dqa_m (dqa_m (List.mem_of_getElem? (i := 6) rfl))))))))) rfl⟩, List.forall_mem_cons.mpr ⟨⟨RX0, TX0, 9, rfl, by decide, rfl, lwq_3 (dqc_m (dqc_m (dqc_m (List.mem_of_getElem? (i := 2) rfl)))) rfl⟩, List.forall_mem_cons.mpr ⟨⟨RX2, TX2, 11, rfl, by decide, rfl, lwq_4 (List.mem_of_getElem? (i := 2) rfl) rfl⟩, List.forall_mem_cons.mpr ⟨⟨RX9, TX9, 16, rfl, by decide, rfl, lwq_2 (dqc_m (List.mem_of_getElem? (i := 5) rfl)) rfl⟩, List.forall_mem_cons.mpr ⟨⟨RX9, TX9, 16, rfl, by decide, rfl, lwq_2 (dqc_m (dqa_m (List.mem_of_getElem? (i := 2) rfl))) rfl⟩, List.forall_mem_cons.mpr ⟨⟨RX9, TX9, 16, rfl, by decide, rfl, lwq_2 (dqc_m (dqa_m (List.mem_of_getElem? (i := 3) rfl))) rfl⟩, List.forall_mem_cons.mpr ⟨⟨RX9, TX9, 16, rfl, by decide, rfl, lwq_2 (dqc_m (dqa_m (List.mem_of_getElem? (i := 1) rfl))) rfl⟩, List.forall_mem_cons.mpr ⟨⟨RX9, TX9, 16, rfl, by decide, rfl, lwq_2 (dqc_m (dqa_m (List.mem_of_getElem? (i := 4) rfl))) rfl⟩, List.forall_mem_cons.mpr ⟨⟨RX9, TX9, 16, rfl, by decide, rfl, lwq_2 (dqc_m (dqa_m (List.mem_of_getElem? (i := 5) rfl))) rfl⟩, List.forall_mem_cons.mpr ⟨⟨RX9, TX9, 16, rfl, by decide, rfl, lwq_2 (dqc_m (dqa_m (List.mem_of_getElem? (i := 6) rfl))) rfl⟩, fun _ h => absurd h List.not_mem_nil⟩⟩⟩⟩⟩⟩⟩⟩⟩⟩⟩⟩⟩⟩⟩⟩⟩⟩⟩⟩⟩⟩⟩⟩⟩⟩
set_option maxRecDepth 100000 in
set_option maxHeartbeats 4000000 in
theorem tp_X9 : ∀ q ∈ fX9.2.1, fp_ RX9 q.1 q.2.1 q.2.2 := List.forall_mem_cons.mpr ⟨⟨RX9, TX9, 16, rfl, by decide, rfl, lwq_2 (dqa_m (dqa_m (dqa_m (List.mem_of_getElem? (i := 6) rfl)))) rfl, by decide +kernel, Or.inl (by decide +kernel)⟩, List.forall_mem_cons.mpr ⟨⟨RX9, TX9, 16, rfl, by decide, rfl, lwq_2 (dqc_m (List.mem_of_getElem? (i := 0) rfl)) rfl, by decide +kernel, Or.inl (by decide +kernel)⟩, List.forall_mem_cons.mpr ⟨⟨RX9, TX9, 16, rfl, by decide, rfl, lwq_2 (dqc_m (dqa_m (List.mem_of_getElem? (i := 0) rfl))) rfl, by decide +kernel, Or.inl (by decide +kernel)⟩, List.forall_mem_cons.mpr ⟨⟨RX9, TX9, 16, rfl, by decide, rfl, lwq_2 (dqc_m (List.mem_of_getElem? (i := 5) rfl)) rfl, by decide +kernel, Or.inl (by decide +kernel)⟩, fun _ h => absurd h List.not_mem_nil⟩⟩⟩⟩
theorem tb_X9 : tb_ RX9 fX9 := ⟨tg_X9, tp_X9, fun _ h => absurd h List.not_mem_nil, fun _ h => absurd h List.not_mem_nil⟩
def fX10 : Zf := ([(19, 10, 1), (28, 10, 2), (37, 10, 3), (12, 10, 0), (66, 5, 1), (70, 5, 0), (74, 6, 2), (84, 5, 2), (87, 6, 1), (93, 5, 4), (101, 5, 5), (77, 5, 3), (111, 0, 1), (114, 0, 2), (119, 8, 2), (122, 8, 0), (125, 8, 1), (128, 8, 3), (131, 8, 4), (147, 8, 5), (154, 8, 12), (157, 8, 10), (160, 8, 11), (163, 8, 13), (166, 0, 6), (170, 0, 4), (173, 0, 5), (176, 0, 3), (182, 6, 4), (192, 0, 7), (198, 6, 3), (202, 2, 0), (208, 0, 0), (211, 2, 2), (214, 2, 3), (217, 2, 4), (220, 2, 5), (238, 6, 12), (241, 6, 11), (244, 6, 6), (258, 2, 9), (261, 2, 8), (272, 2, 10), (286, 6, 5), (295, 3, 15), (319, 3, 17), (322, 3, 14), (325, 3, 16), (328, 3, 4), (331, 3, 6), (334, 3, 7), (337, 3, 5), (340, 3, 9), (343, 3, 10), (356, 7, 2), (359, 7, 7), (362, 7, 8), (46, 10, 4), (368, 9, 2), (371, 9, 4), (374, 9, 3), (53, 10, 5), (384, 1, 1), (387, 1, 8), (390, 1, 4), (393, 1, 10), (402, 1, 6), (408, 1, 3), (420, 1, 9), (62, 10, 6), (426, 2, 7)], [(66, 5, 1), (77, 5, 3), (74, 6, 2), (119, 8, 2), (128, 8, 3), (154, 8, 12), (163, 8, 13), (173, 0, 5), (279, 2, 6), (286, 6, 5), (411, 1, 5)], [], [])
set_option maxRecDepth 100000 in
set_option maxHeartbeats 4000000 in
theorem tg_X10 : ∀ q ∈ fX10.1, fl_ RX10 q.1 q.2.1 q.2.2 := List.forall_mem_cons.mpr ⟨⟨RX10, TX10, 7, rfl, by decide, rfl, lwq_2 (dqc_m (dqc_m (dqc_m (dqc_m (dqc_m (List.mem_of_getElem? (i := 6) rfl)))))) rfl⟩, List.forall_mem_cons.mpr ⟨⟨RX10, TX10, 7, rfl, by decide, rfl, lwq_2 (dqc_m (dqc_m (dqc_m (dqc_m (dqc_m (List.mem_of_getElem? (i := 7) rfl)))))) rfl⟩, List.forall_mem_cons.mpr ⟨⟨RX10, TX10, 7, rfl, by decide, rfl, lwq_2 (dqc_m (dqc_m (dqc_m (dqc_m (dqc_m (dqa_m (List.mem_of_getElem? (i := 0) rfl))))))) rfl⟩, List.forall_mem_cons.mpr ⟨⟨RX10, TX10, 7, rfl, by decide, rfl, lwq_2 (dqc_m (dqc_m (dqc_m (dqc_m (dqc_m (List.mem_of_getElem? (i := 5) rfl)))))) rfl⟩, List.forall_mem_cons.mpr ⟨⟨RX5, TX5, 10, rfl, by decide, rfl, lwq_1 (dqc_m (List.mem_of_getElem? (i := 5) rfl)) rfl⟩, List.forall_mem_cons.mpr ⟨⟨RX5, TX5, 10, rfl, by decide, rfl, lwq_1 (dqc_m (List.mem_of_getElem? (i := 4) rfl)) rfl⟩, List.forall_mem_cons.mpr ⟨⟨RX6, TX6, 16, rfl, by decide, rfl, lwq_1 (dqc_m (dqc_m (dqc_m (dqc_m (dqa_m (dqa_m (List.mem_of_getElem? (i := 5) rfl))))))) rfl⟩, List.forall_mem_cons.mpr ⟨⟨RX5, TX5, 10, rfl, by decide, rfl, lwq_1 (dqc_m (dqa_m (List.mem_of_getElem? (i := 0) rfl))) rfl⟩, List.forall_mem_cons.mpr ⟨⟨RX6, TX6, 16, rfl, by decide, rfl, lwq_1 (dqc_m (dqc_m (dqc_m (dqc_m (dqa_m (dqa_m (List.mem_of_getElem? (i := 4) rfl))))))) rfl⟩, List.forall_mem_cons.mpr ⟨⟨RX5, TX5, 10, rfl, by decide, rfl, lwq_1 (dqc_m (dqa_m (List.mem_of_getElem? (i := 4) rfl))) rfl⟩, List.forall_mem_cons.mpr ⟨⟨RX5, TX5, 10, rfl, by decide, rfl, lwq_1 (dqc_m (dqa_m (List.mem_of_getElem? (i := 6) rfl))) rfl⟩, List.forall_mem_cons.mpr ⟨⟨RX5, TX5, 10, rfl, by decide, rfl, lwq_1 (dqc_m (dqa_m (List.mem_of_getElem? (i := 2) rfl))) rfl⟩, List.forall_mem_cons.mpr ⟨⟨RX0, TX0, 9, rfl, by decide, rfl, lwq_3 (dqc_m (dqc_m (dqa_m (dqa_m (List.mem_of_getElem? (i := 7) rfl))))) rfl⟩, List.forall_mem_cons.mpr ⟨⟨RX0, TX0, 9, rfl, by decide, rfl, lwq_3 (dqc_m (dqc_m (dqa_m (dqa_m (dqa_m (List.mem_of_getElem? (i := 1) rfl)))))) rfl⟩, List.forall_mem_cons.mpr ⟨⟨RX8, TX8, 14, rfl, by decide, rfl, lwq_1 (dqc_m (dqc_m (dqa_m (dqa_m (List.mem_of_getElem? (i := 7) rfl))))) rfl⟩, List.forall_mem_cons.mpr ⟨⟨RX8, TX8, 14, rfl, by decide, rfl, lwq_1 (dqc_m (dqc_m (dqa_m (dqa_m (List.mem_of_getElem? (i := 0) rfl))))) rfl⟩, List.forall_mem_cons.mpr ⟨⟨RX8, TX8, 14, rfl, by decide, rfl, lwq_1 (dqc_m (dqc_m (dqa_m (dqa_m (List.mem_of_getElem? (i := 6) rfl))))) rfl⟩, List.forall_mem_cons.mpr ⟨⟨RX8, TX8, 14, rfl, by decide, rfl, lwq_1 (dqc_m (dqc_m (dqa_m (dqa_m (dqa_m (List.mem_of_getElem? (i := 0) rfl)))))) rfl⟩, List.forall_mem_cons.mpr ⟨⟨RX8, TX8, 14, rfl, by decide, rfl, lwq_1 (dqc_m (dqc_m (dqa_m (dqa_m (dqa_m (List.mem_of_getElem? (i := 2) rfl)))))) rfl⟩, List.forall_mem_cons.mpr ⟨⟨RX8, TX8, 14, rfl, by decide, rfl, lwq_1 (dqc_m (dqc_m (dqa_m (dqa_m (dqa_m (List.mem_of_getElem? (i := 4) rfl)))))) rfl⟩, List.forall_mem_cons.mpr ⟨⟨RX8, TX8, 14, rfl, by decide, rfl, lwq_1 (dqc_m (dqc_m (dqc_m (dqa_m (List.mem_of_getElem? (i := 0) rfl))))) rfl⟩, List.forall_mem_cons.mpr ⟨⟨RX8, TX8, 14, rfl, by decide, rfl, lwq_1 (dqc_m (dqc_m (dqc_m (List.mem_of_getElem? (i := 3) rfl)))) rfl⟩, List.forall_mem_cons.mpr ⟨⟨RX8, TX8, 14, rfl, by decide, rfl, lwq_1 (dqc_m (dqc_m (dqc_m (List.mem_of_getElem? (i := 6) rfl)))) rfl⟩, List.forall_mem_cons.mpr ⟨⟨RX8, TX8, 14, rfl, by decide, rfl, lwq_1 (dqc_m (dqc_m (dqc_m (dqa_m (List.mem_of_getElem? (i := 1) rfl))))) rfl⟩, List.forall_mem_cons.mpr ⟨⟨RX0, TX0, 9, rfl, by decide, rfl, lwq_3 (dqc_m (dqc_m (dqc_m (dqa_m (List.mem_of_getElem? (i := 2) rfl))))) rfl⟩, List.forall_mem_cons.mpr ⟨⟨RX0, TX0, 9, rfl, by decide, rfl, lwq_3 (dqc_m (dqc_m (dqc_m (List.mem_of_getElem? (i := 3) rfl)))) rfl⟩, List.forall_mem_cons.mpr ⟨⟨RX0, TX0, 9, rfl, by decide, rfl, lwq_3 (dqc_m (dqc_m (dqc_m (dqa_m (List.mem_of_getElem? (i := 0) rfl))))) rfl⟩, List.forall_mem_cons.mpr ⟨⟨RX0, TX0, 9, rfl, by decide, rfl, lwq_3 (dqc_m (dqc_m (dqa_m (dqa_m (dqa_m (List.mem_of_getElem? (i := 7) rfl)))))) rfl⟩, List.forall_mem_cons.mpr ⟨⟨RX6, TX6, 16, rfl, by decide, rfl, lwq_1 (dqc_m (dqc_m (dqc_m (dqc_m (dqa_m (dqa_m (dqa_m (List.mem_of_getElem? (i := 5) rfl)))))))) rfl⟩, List.forall_mem_cons.mpr ⟨⟨RX0, TX0, 9, rfl, by decide, rfl, lwq_3 (dqc_m (dqc_m (dqc_m (dqa_m (List.mem_of_getElem? (i := 6) rfl))))) rfl⟩, List.forall_mem_cons.mpr ⟨⟨RX6, TX6, 16, rfl, by decide, rfl, lwq_1 (dqc_m (dqc_m (dqc_m (dqc_m (dqa_m (dqa_m (dqa_m (List.mem_of_getElem? (i := 2) rfl)))))))) rfl⟩, List.forall_mem_cons.mpr ⟨⟨RX2, TX2, 11, rfl, by decide, rfl, lwq_3 (dqc_m (dqc_m (dqc_m (dqc_m (dqc_m (dqc_m (dqc_m (List.mem_of_getElem? (i := 3) rfl)))))))) rfl⟩, List.forall_mem_cons.mpr ⟨⟨RX0, TX0, 9, rfl, by decide, rfl, lwq_3 (dqc_m (dqc_m (dqa_m (dqa_m (List.mem_of_getElem? (i := 1) rfl))))) rfl⟩, List.forall_mem_cons.mpr ⟨⟨RX2, TX2, 11, rfl, by decide, rfl, lwq_3 (dqc_m (dqc_m (dqc_m (dqc_m (dqc_m (dqc_m (dqc_m (dqa_m (List.mem_of_getElem? (i := 1) rfl))))))))) rfl⟩, List.forall_mem_cons.mpr ⟨⟨RX2, TX2, 11, rfl, by decide, rfl, lwq_3 (dqc_m (dqc_m (dqc_m (dqc_m (dqc_m (dqc_m (dqc_m (dqa_m (List.mem_of_getElem? (i := 7) rfl))))))))) rfl⟩, List.forall_mem_cons.mpr ⟨⟨RX2, TX2, 11, rfl, by decide, rfl, lwq_4 (List.mem_of_getElem? (i := 5) rfl) rfl⟩, List.forall_mem_cons.mpr ⟨⟨RX2, TX2, 11, rfl, by decide, rfl, lwq_4 (dqa_m (List.mem_of_getElem? (i := 2) rfl)) rfl⟩, List.forall_mem_cons.mpr ⟨⟨RX6, TX6, 16, rfl, by decide, rfl, lwq_1 (dqc_m (dqc_m (dqc_m (dqc_m (dqc_m (dqa_m (List.mem_of_getElem? (i := 0) rfl))))))) rfl⟩, List.forall_mem_cons.mpr ⟨⟨RX6, TX6, 16, rfl, by decide, rfl, lwq_1 (dqc_m (dqc_m (dqc_m (dqc_m (dqc_m (List.mem_of_getElem? (i := 6) rfl)))))) rfl⟩, List.forall_mem_cons.mpr ⟨⟨RX6, TX6, 16, rfl, by decide, rfl, lwq_1 (dqc_m (dqc_m (dqc_m (dqc_m (dqc_m (List.mem_of_getElem? (i := 0) rfl)))))) rfl⟩, List.forall_mem_cons.mpr ⟨⟨RX2, TX2, 11, rfl, by decide, rfl, lwq_4 (dqa_m (dqa_m (List.mem_of_getElem? (i := 5) rfl))) rfl⟩, List.forall_mem_cons.mpr ⟨⟨RX2, TX2, 11, rfl, by decide, rfl, lwq_4 (dqa_m (dqa_m (List.mem_of_getElem? (i := 2) rfl))) rfl⟩, List.forall_mem_cons.mpr ⟨⟨RX2, TX2, 11, rfl, by decide, rfl, lwq_4 (dqa_m (dqa_m (dqa_m (List.mem_of_getElem? (i := 1) rfl)))) rfl⟩, List.forall_mem_cons.mpr ⟨⟨RX6, TX6, 16, rfl, by decide, rfl, lwq_1 (dqc_m (dqc_m (dqc_m (dqc_m (dqa_m (dqa_m (dqa_m (List.mem_of_getElem? (i := 6) rfl)))))))) rfl⟩, List.forall_mem_cons.mpr ⟨⟨RX3, TX3, 18, rfl, by decide, rfl, lwq_4 (dqc_m (dqc_m (dqc_m (dqc_m (dqc_m (dqc_m (dqa_m (dqa_m (List.mem_of_getElem? (i := 3) rfl))))))))) rfl⟩, List.forall_mem_cons.mpr ⟨⟨RX3, TX3, 18, rfl, by decide, rfl, lwq_4 (dqc_m (dqc_m (dqc_m (dqc_m (dqc_m (dqc_m (dqa_m (dqa_m (List.mem_of_getElem? (i := 7) rfl))))))))) rfl⟩, List.forall_mem_cons.mpr ⟨⟨RX3, TX3, 18, rfl, by decide, rfl, lwq_4 (dqc_m (dqc_m (dqc_m (dqc_m (dqc_m (dqc_m (dqa_m (dqa_m (List.mem_of_getElem? (i := 2) rfl))))))))) rfl⟩, List.forall_mem_cons.mpr ⟨⟨RX3, TX3, 18, rfl, by decide, rfl, lwq_4 (dqc_m (dqc_m (dqc_m (dqc_m (dqc_m (dqc_m (dqa_m (dqa_m (List.mem_of_getElem? (i := 6) rfl))))))))) rfl⟩, List.forall_mem_cons.mpr ⟨⟨RX3, TX3, 18, rfl, by decide, rfl, lwq_4 (dqc_m (dqc_m (dqc_m (dqc_m (dqc_m (dqa_m (dqa_m (dqa_m (List.mem_of_getElem? (i := 7) rfl))))))))) rfl⟩, List.forall_mem_cons.mpr ⟨⟨RX3, TX3, 18, rfl, by decide, rfl, lwq_4 (dqc_m (dqc_m (dqc_m (dqc_m (dqc_m (dqc_m (List.mem_of_getElem? (i := 3) rfl))))))) rfl⟩, List.forall_mem_cons.mpr ⟨⟨RX3, TX3, 18, rfl, by decide, rfl, lwq_4 (dqc_m (dqc_m (dqc_m (dqc_m (dqc_m (dqc_m (List.mem_of_getElem? (i := 5) rfl))))))) rfl⟩, List.forall_mem_cons.mpr ⟨⟨RX3, TX3, 18, rfl, by decide, rfl, lwq_4 (dqc_m (dqc_m (dqc_m (dqc_m (dqc_m (dqc_m (List.mem_of_getElem? (i := 1) rfl))))))) rfl⟩, List.forall_mem_cons.mpr ⟨⟨RX3, TX3, 18, rfl, by decide, rfl, lwq_4 (dqc_m (dqc_m (dqc_m (dqc_m (dqc_m (dqc_m (dqa_m (List.mem_of_getElem? (i := 1) rfl)))))))) rfl⟩, List.forall_mem_cons.mpr ⟨⟨RX3, TX3, 18, rfl, by decide, rfl, lwq_4 (dqc_m (dqc_m (dqc_m (dqc_m (dqc_m (dqc_m (dqa_m (List.mem_of_getElem? (i := 3) rfl)))))))) rfl⟩, List.forall_mem_cons.mpr ⟨⟨RX7, TX7, 14, rfl, by decide, rfl, lwq_1 (dqc_m (dqc_m (dqc_m (dqc_m (dqc_m (dqc_m (dqa_m (dqa_m (List.mem_of_getElem? (i := 7) rfl))))))))) rfl⟩, List.forall_mem_cons.mpr ⟨⟨RX7, TX7, 14, rfl, by decide, rfl, lwq_1 (dqc_m (dqc_m (dqc_m (dqc_m (dqc_m (dqc_m (dqa_m (dqa_m (dqa_m (List.mem_of_getElem? (i := 5) rfl)))))))))) rfl⟩, List.forall_mem_cons.mpr ⟨⟨RX7, TX7, 14, rfl, by decide, rfl, lwq_1 (dqc_m (dqc_m (dqc_m (dqc_m (dqc_m (dqc_m (dqa_m (dqa_m (dqa_m (List.mem_of_getElem? (i := 7) rfl)))))))))) rfl⟩, List.forall_mem_cons.mpr ⟨⟨RX10, TX10, 7, rfl, by decide, rfl, lwq_2 (dqc_m (dqc_m (dqc_m (dqc_m (dqc_m (dqa_m (List.mem_of_getElem? (i := 1) rfl))))))) rfl⟩, List.forall_mem_cons.mpr ⟨⟨RX9, TX9, 16, rfl, by decide, rfl, lwq_2 (dqa_m (dqa_m (dqa_m (List.mem_of_getElem? (i := 7) rfl)))) rfl⟩, List.forall_mem_cons.mpr ⟨⟨RX9, TX9, 16, rfl, by decide, rfl, lwq_2 (dqc_m (List.mem_of_getElem? (i := 3) rfl)) rfl⟩, List.forall_mem_cons.mpr ⟨⟨RX9, TX9, 16, rfl, by decide, rfl, lwq_2 (dqc_m (List.mem_of_getElem? (i := 1) rfl)) rfl⟩, List.forall_mem_cons.mpr ⟨⟨RX10, TX10, 7, rfl, by decide, rfl, lwq_2 (dqc_m (dqc_m (dqc_m (dqc_m (dqc_m (dqa_m (List.mem_of_getElem? (i := 2) rfl))))))) rfl⟩, List.forall_mem_cons.mpr ⟨⟨RX1, TX1, 16, rfl, by decide, rfl, lwq_2 (dqc_m (dqc_m (dqa_m (dqa_m (dqa_m (List.mem_of_getElem? (i := 0) rfl)))))) rfl⟩, List.forall_mem_cons.mpr ⟨⟨RX1, TX1, 16, rfl, by decide, rfl, lwq_2 (dqc_m (dqc_m (dqc_m (List.mem_of_getElem? (i := 4) rfl)))) rfl⟩, List.forall_mem_cons.mpr ⟨⟨RX1, TX1, 16, rfl, by decide, rfl, lwq_2 (dqc_m (dqc_m (dqa_m (dqa_m (dqa_m (List.mem_of_getElem? (i := 5) rfl)))))) rfl⟩, List.forall_mem_cons.mpr ⟨⟨RX1, TX1, 16, rfl, by decide, rfl, lwq_2 (dqc_m (dqc_m (dqc_m (dqa_m (List.mem_of_getElem? (i := 0) rfl))))) rfl⟩, List.forall_mem_cons.mpr ⟨⟨RX1, TX1, 16, rfl, by decide, rfl, lwq_2 (dqc_m (dqc_m (dqc_m (List.mem_of_getElem? (i := 1) rfl)))) rfl⟩, List.forall_mem_cons.mpr ⟨⟨RX1, TX1, 16, rfl, by decide, rfl, lwq_2 (dqc_m (dqc_m (dqa_m (dqa_m (dqa_m (List.mem_of_getElem? (i := 3) rfl)))))) rfl⟩, List.forall_mem_cons.mpr ⟨⟨RX1, TX1, 16, rfl, by decide, rfl, lwq_2 (dqc_m (dqc_m (dqc_m (List.mem_of_getElem? (i := 6) rfl)))) rfl⟩, List.forall_mem_cons.mpr ⟨⟨RX10, TX10, 7, rfl, by decide, rfl, lwq_2 (dqc_m (dqc_m (dqc_m (dqc_m (dqc_m (dqa_m (List.mem_of_getElem? (i := 3) rfl))))))) rfl⟩, List.forall_mem_cons.mpr ⟨⟨RX2, TX2, 11, rfl, by decide, rfl, lwq_4 (dqa_m (dqa_m (List.mem_of_getElem? (i := 0) rfl))) rfl⟩, fun _ h => absurd h List.not_mem_nil⟩⟩⟩⟩⟩⟩⟩⟩⟩⟩⟩⟩⟩⟩⟩⟩⟩⟩⟩⟩⟩⟩⟩⟩⟩⟩⟩⟩⟩⟩⟩⟩⟩⟩⟩⟩⟩⟩⟩⟩⟩⟩⟩⟩⟩⟩⟩⟩⟩⟩⟩⟩⟩⟩⟩⟩⟩⟩⟩⟩⟩⟩⟩⟩⟩⟩⟩⟩⟩⟩⟩
set_option maxRecDepth 100000 in
set_option maxHeartbeats 4000000 in
theorem tp_X10 : ∀ q ∈ fX10.2.1, fp_ RX10 q.1 q.2.1 q.2.2 := List.forall_mem_cons.mpr ⟨⟨RX5, TX5, 10, rfl, by decide, rfl, lwq_1 (dqc_m (List.mem_of_getElem? (i := 5) rfl)) rfl, by decide +kernel, Or.inl (by decide +kernel)⟩, List.forall_mem_cons.mpr ⟨⟨RX5, TX5, 10, rfl, by decide, rfl, lwq_1 (dqc_m (dqa_m (List.mem_of_getElem? (i := 2) rfl))) rfl, by decide +kernel, Or.inl (by decide +kernel)⟩, List.forall_mem_cons.mpr ⟨⟨RX6, TX6, 16, rfl, by decide, rfl, lwq_1 (dqc_m (dqc_m (dqc_m (dqc_m (dqa_m (dqa_m (List.mem_of_getElem? (i := 5) rfl))))))) rfl, by decide +kernel, Or.inl (by decide +kernel)⟩, List.forall_mem_cons.mpr ⟨⟨RX8, TX8, 14, rfl, by decide, rfl, lwq_1 (dqc_m (dqc_m (dqa_m (dqa_m (List.mem_of_getElem? (i := 7) rfl))))) rfl, by decide +kernel, Or.inl (by decide +kernel)⟩, List.forall_mem_cons.mpr ⟨⟨RX8, TX8, 14, rfl, by decide, rfl, lwq_1 (dqc_m (dqc_m (dqa_m (dqa_m (dqa_m (List.mem_of_getElem? (i := 0) rfl)))))) rfl, by decide +kernel, Or.inl (by decide +kernel)⟩, List.forall_mem_cons.mpr ⟨⟨RX8, TX8, 14, rfl, by decide, rfl, lwq_1 (dqc_m (dqc_m (dqc_m (dqa_m (List.mem_of_getElem? (i := 0) rfl))))) rfl, by decide +kernel, Or.inl (by decide +kernel)⟩, List.forall_mem_cons.mpr ⟨⟨RX8, TX8, 14, rfl, by decide, rfl, lwq_1 (dqc_m (dqc_m (dqc_m (dqa_m (List.mem_of_getElem? (i := 1) rfl))))) rfl, by decide +kernel, Or.inl (by decide +kernel)⟩, List.forall_mem_cons.mpr ⟨⟨RX0, TX0, 9, rfl, by decide, rfl, lwq_3 (dqc_m (dqc_m (dqc_m (dqa_m (List.mem_of_getElem? (i := 0) rfl))))) rfl, by decide +kernel, Or.inl (by decide +kernel)⟩, List.forall_mem_cons.mpr ⟨⟨RX2, TX2, 11, rfl, by decide, rfl, lwq_4 (dqa_m (List.mem_of_getElem? (i := 5) rfl)) rfl, by decide +kernel, Or.inl (by decide +kernel)⟩, List.forall_mem_cons.mpr ⟨⟨RX6, TX6, 16, rfl, by decide, rfl, lwq_1 (dqc_m (dqc_m (dqc_m (dqc_m (dqa_m (dqa_m (dqa_m (List.mem_of_getElem? (i := 6) rfl)))))))) rfl, by decide +kernel, Or.inl (by decide +kernel)⟩, List.forall_mem_cons.mpr ⟨⟨RX1, TX1, 16, rfl, by decide, rfl, lwq_2 (dqc_m (dqc_m (dqa_m (dqa_m (dqa_m (List.mem_of_getElem? (i := 7) rfl)))))) rfl, by decide +kernel, Or.inl (by decide +kernel)⟩, fun _ h => absurd h List.not_mem_nil⟩⟩⟩⟩⟩⟩⟩⟩⟩⟩⟩
theorem tb_X10 : tb_ RX10 fX10 := ⟨tg_X10, tp_X10, fun _ h => absurd h List.not_mem_nil, fun _ h => absurd h List.not_mem_nil⟩
def fX11 : Zf := ([(20, 11, 5), (252, 11, 1), (7, 11, 0), (259, 11, 62), (265, 11, 57), (271, 11, 60), (268, 11, 59), (288, 11, 61), (17, 11, 4), (168, 11, 69), (274, 11, 58), (156, 11, 65), (171, 11, 70), (159, 11, 66), (153, 11, 64), (162, 11, 67), (165, 11, 68), (308, 11, 6), (262, 11, 63), (13, 11, 2), (325, 11, 12), (39, 11, 13), (42, 11, 14), (328, 11, 15), (331, 11, 16), (45, 11, 17), (51, 11, 19), (54, 11, 20), (48, 11, 18), (334, 11, 21), (57, 11, 22), (60, 11, 23), (337, 11, 3), (26, 11, 8), (23, 11, 7), (29, 11, 9), (75, 11, 30), (343, 11, 29), (78, 11, 31), (81, 11, 32), (84, 11, 33), (87, 11, 34), (90, 11, 35), (99, 11, 38), (141, 11, 53), (147, 11, 55), (33, 11, 10), (36, 11, 11), (93, 11, 36), (96, 11, 37), (174, 11, 71), (356, 11, 73), (177, 11, 72), (180, 11, 74), (362, 11, 75), (365, 11, 24), (63, 11, 25), (66, 11, 26), (69, 11, 27), (72, 11, 28), (102, 11, 39), (105, 11, 40), (114, 11, 43), (111, 11, 42), (117, 11, 44), (108, 11, 41), (120, 11, 45), (123, 11, 46), (138, 11, 52), (150, 11, 56), (144, 11, 54), (463, 11, 47), (126, 11, 48), (129, 11, 49), (132, 11, 50), (135, 11, 51), (483, 11, 80), (192, 11, 81), (183, 11, 76), (477, 11, 82), (480, 11, 83), (499, 11, 85), (195, 11, 84), (198, 11, 86), (508, 11, 87), (186, 11, 77), (517, 11, 79), (189, 11, 78), (207, 11, 91), (210, 11, 92), (216, 11, 94), (219, 11, 96), (213, 11, 93), (545, 11, 95), (554, 11, 90), (204, 11, 89), (222, 11, 97), (201, 11, 88), (225, 11, 101), (228, 11, 102), (576, 11, 98), (579, 11, 99), (582, 11, 100), (231, 11, 104), (234, 11, 105), (599, 11, 103), (243, 11, 109), (246, 11, 110), (607, 11, 107), (249, 11, 111), (237, 11, 106), (240, 11, 108), (619, 11, 112), (622, 11, 113)], [(13, 11, 2), (201, 11, 88), (252, 11, 1), (259, 11, 62), (262, 11, 63), (265, 11, 57), (268, 11, 59), (271, 11, 60), (274, 11, 58), (288, 11, 61), (308, 11, 6), (325, 11, 12), (328, 11, 15), (331, 11, 16), (334, 11, 21), (337, 11, 3), (343, 11, 29), (356, 11, 73), (362, 11, 75), (365, 11, 24), (463, 11, 47), (477, 11, 82), (480, 11, 83), (508, 11, 87), (517, 11, 79), (499, 11, 85), (483, 11, 80), (554, 11, 90), (545, 11, 95), (576, 11, 98), (579, 11, 99), (582, 11, 100), (599, 11, 103), (619, 11, 112), (622, 11, 113), (607, 11, 107)], [(496, 1000003), (497, 73244475), (498, 2147483647), (602, 1664525), (603, 1013904223)], [(597, 2147483648)])
set_option maxRecDepth 100000 in
set_option maxHeartbeats 4000000 in
theorem tg_X11 : ∀ q ∈ fX11.1, fl_ RX11 q.1 q.2.1 q.2.2 := List.forall_mem_cons.mpr ⟨⟨RX11, TX11, 114, rfl, by decide, rfl, lwq_6 (dqc_m (dqc_m (dqc_m (dqc_m (dqc_m (dqc_m (dqc_m (dqa_m (List.mem_of_getElem? (i := 0) rfl))))))))) rfl⟩, List.forall_mem_cons.mpr ⟨⟨RX11, TX11, 114, rfl, by decide, rfl, lwq_6 (dqc_m (dqc_m (dqc_m (dqc_m (dqc_m (dqc_m (dqc_m (List.mem_of_getElem? (i := 4) rfl)))))))) rfl⟩, List.forall_mem_cons.mpr ⟨⟨RX11, TX11, 114, rfl, by decide, rfl, lwq_6 (dqc_m (dqc_m (dqc_m (dqc_m (dqc_m (dqc_m (dqc_m (List.mem_of_getElem? (i := 3) rfl)))))))) rfl⟩, List.forall_mem_cons.mpr ⟨⟨RX11, TX11, 114, rfl, by decide, rfl, lwq_7 (dqc_m (dqa_m (dqa_m (List.mem_of_getElem? (i := 1) rfl)))) rfl⟩, List.forall_mem_cons.mpr ⟨⟨RX11, TX11, 114, rfl, by decide, rfl, lwq_7 (dqc_m (dqa_m (List.mem_of_getElem? (i := 4) rfl))) rfl⟩, List.forall_mem_cons.mpr ⟨⟨RX11, TX11, 114, rfl, by decide, rfl, lwq_7 (dqc_m (dqa_m (List.mem_of_getElem? (i := 7) rfl))) rfl⟩, List.forall_mem_cons.mpr ⟨⟨RX11, TX11, 114, rfl, by decide, rfl, lwq_7 (dqc_m (dqa_m (List.mem_of_getElem? (i := 6) rfl))) rfl⟩, List.forall_mem_cons.mpr ⟨⟨RX11, TX11, 114, rfl, by decide, rfl, lwq_7 (dqc_m (dqa_m (dqa_m (List.mem_of_getElem? (i := 0) rfl)))) rfl⟩, List.forall_mem_cons.mpr ⟨⟨RX11, TX11, 114, rfl, by decide, rfl, lwq_6 (dqc_m (dqc_m (dqc_m (dqc_m (dqc_m (dqc_m (dqc_m (List.mem_of_getElem? (i := 7) rfl)))))))) rfl⟩, List.forall_mem_cons.mpr ⟨⟨RX11, TX11, 114, rfl, by decide, rfl, lwq_7 (dqc_m (dqa_m (dqa_m (dqa_m (List.mem_of_getElem? (i := 0) rfl))))) rfl⟩, List.forall_mem_cons.mpr ⟨⟨RX11, TX11, 114, rfl, by decide, rfl, lwq_7 (dqc_m (dqa_m (List.mem_of_getElem? (i := 5) rfl))) rfl⟩, List.forall_mem_cons.mpr ⟨⟨RX11, TX11, 114, rfl, by decide, rfl, lwq_7 (dqc_m (dqa_m (dqa_m (List.mem_of_getElem? (i := 4) rfl)))) rfl⟩, List.forall_mem_cons.mpr ⟨⟨RX11, TX11, 114, rfl, by decide, rfl, lwq_7 (dqc_m (dqa_m (dqa_m (dqa_m (List.mem_of_getElem? (i := 1) rfl))))) rfl⟩, List.forall_mem_cons.mpr ⟨⟨RX11, TX11, 114, rfl, by decide, rfl, lwq_7 (dqc_m (dqa_m (dqa_m (List.mem_of_getElem? (i := 5) rfl)))) rfl⟩, List.forall_mem_cons.mpr ⟨⟨RX11, TX11, 114, rfl, by decide, rfl, lwq_7 (dqc_m (dqa_m (dqa_m (List.mem_of_getElem? (i := 3) rfl)))) rfl⟩, List.forall_mem_cons.mpr ⟨⟨RX11, TX11, 114, rfl, by decide, rfl, lwq_7 (dqc_m (dqa_m (dqa_m (List.mem_of_getElem? (i := 6) rfl)))) rfl⟩, List.forall_mem_cons.mpr ⟨⟨RX11, TX11, 114, rfl, by decide, rfl, lwq_7 (dqc_m (dqa_m (dqa_m (List.mem_of_getElem? (i := 7) rfl)))) rfl⟩, List.forall_mem_cons.mpr ⟨⟨RX11, TX11, 114, rfl, by decide, rfl, lwq_6 (dqc_m (dqc_m (dqc_m (dqc_m (dqc_m (dqc_m (dqc_m (dqa_m (List.mem_of_getElem? (i := 1) rfl))))))))) rfl⟩, List.forall_mem_cons.mpr ⟨⟨RX11, TX11, 114, rfl, by decide, rfl, lwq_7 (dqc_m (dqa_m (dqa_m (List.mem_of_getElem? (i := 2) rfl)))) rfl⟩, List.forall_mem_cons.mpr ⟨⟨RX11, TX11, 114, rfl, by decide, rfl, lwq_6 (dqc_m (dqc_m (dqc_m (dqc_m (dqc_m (dqc_m (dqc_m (List.mem_of_getElem? (i := 5) rfl)))))))) rfl⟩, List.forall_mem_cons.mpr ⟨⟨RX11, TX11, 114, rfl, by decide, rfl, lwq_6 (dqc_m (dqc_m (dqc_m (dqc_m (dqc_m (dqc_m (dqc_m (dqa_m (List.mem_of_getElem? (i := 7) rfl))))))))) rfl⟩, List.forall_mem_cons.mpr ⟨⟨RX11, TX11, 114, rfl, by decide, rfl, lwq_7 (List.mem_of_getElem? (i := 0) rfl) rfl⟩, List.forall_mem_cons.mpr ⟨⟨RX11, TX11, 114, rfl, by decide, rfl, lwq_7 (List.mem_of_getElem? (i := 1) rfl) rfl⟩, List.forall_mem_cons.mpr ⟨⟨RX11, TX11, 114, rfl, by decide, rfl, lwq_7 (List.mem_of_getElem? (i := 2) rfl) rfl⟩, List.forall_mem_cons.mpr ⟨⟨RX11, TX11, 114, rfl, by decide, rfl, lwq_7 (List.mem_of_getElem? (i := 3) rfl) rfl⟩, List.forall_mem_cons.mpr ⟨⟨RX11, TX11, 114, rfl, by decide, rfl, lwq_7 (List.mem_of_getElem? (i := 4) rfl) rfl⟩, List.forall_mem_cons.mpr ⟨⟨RX11, TX11, 114, rfl, by decide, rfl, lwq_7 (List.mem_of_getElem? (i := 6) rfl) rfl⟩, List.forall_mem_cons.mpr ⟨⟨RX11, TX11, 114, rfl, by decide, rfl, lwq_7 (List.mem_of_getElem? (i := 7) rfl) rfl⟩, List.forall_mem_cons.mpr ⟨⟨RX11, TX11, 114, rfl, by decide, rfl, lwq_7 (List.mem_of_getElem? (i := 5) rfl) rfl⟩, List.forall_mem_cons.mpr ⟨⟨RX11, TX11, 114, rfl, by decide, rfl, lwq_7 (dqa_m (List.mem_of_getElem? (i := 0) rfl)) rfl⟩, List.forall_mem_cons.mpr ⟨⟨RX11, TX11, 114, rfl, by decide, rfl, lwq_7 (dqa_m (List.mem_of_getElem? (i := 1) rfl)) rfl⟩, List.forall_mem_cons.mpr ⟨⟨RX11, TX11, 114, rfl, by decide, rfl, lwq_7 (dqa_m (List.mem_of_getElem? (i := 2) rfl)) rfl⟩, List.forall_mem_cons.mpr ⟨⟨RX11, TX11, 114, rfl, by decide, rfl, lwq_6 (dqc_m (dqc_m (dqc_m (dqc_m (dqc_m (dqc_m (dqc_m (List.mem_of_getElem? (i := 6) rfl)))))))) rfl⟩, List.forall_mem_cons.mpr ⟨⟨RX11, TX11, 114, rfl, by decide, rfl, lwq_6 (dqc_m (dqc_m (dqc_m (dqc_m (dqc_m (dqc_m (dqc_m (dqa_m (List.mem_of_getElem? (i := 3) rfl))))))))) rfl⟩, List.forall_mem_cons.mpr ⟨⟨RX11, TX11, 114, rfl, by decide, rfl, lwq_6 (dqc_m (dqc_m (dqc_m (dqc_m (dqc_m (dqc_m (dqc_m (dqa_m (List.mem_of_getElem? (i := 2) rfl))))))))) rfl⟩, List.forall_mem_cons.mpr ⟨⟨RX11, TX11, 114, rfl, by decide, rfl, lwq_6 (dqc_m (dqc_m (dqc_m (dqc_m (dqc_m (dqc_m (dqc_m (dqa_m (List.mem_of_getElem? (i := 4) rfl))))))))) rfl⟩, List.forall_mem_cons.mpr ⟨⟨RX11, TX11, 114, rfl, by decide, rfl, lwq_7 (dqa_m (dqa_m (List.mem_of_getElem? (i := 1) rfl))) rfl⟩, List.forall_mem_cons.mpr ⟨⟨RX11, TX11, 114, rfl, by decide, rfl, lwq_7 (dqa_m (dqa_m (List.mem_of_getElem? (i := 0) rfl))) rfl⟩, List.forall_mem_cons.mpr ⟨⟨RX11, TX11, 114, rfl, by decide, rfl, lwq_7 (dqa_m (dqa_m (List.mem_of_getElem? (i := 2) rfl))) rfl⟩, List.forall_mem_cons.mpr ⟨⟨RX11, TX11, 114, rfl, by decide, rfl, lwq_7 (dqa_m (dqa_m (List.mem_of_getElem? (i := 3) rfl))) rfl⟩, List.forall_mem_cons.mpr ⟨⟨RX11, TX11, 114, rfl, by decide, rfl, lwq_7 (dqa_m (dqa_m (List.mem_of_getElem? (i := 4) rfl))) rfl⟩, List.forall_mem_cons.mpr ⟨⟨RX11, TX11, 114, rfl, by decide, rfl, lwq_7 (dqa_m (dqa_m (List.mem_of_getElem? (i := 5) rfl))) rfl⟩, List.forall_mem_cons.mpr ⟨⟨RX11, TX11, 114, rfl, by decide, rfl, lwq_7 (dqa_m (dqa_m (List.mem_of_getElem? (i := 6) rfl))) rfl⟩, List.forall_mem_cons.mpr ⟨⟨RX11, TX11, 114, rfl, by decide, rfl, lwq_7 (dqa_m (dqa_m (dqa_m (List.mem_of_getElem? (i := 1) rfl)))) rfl⟩, List.forall_mem_cons.mpr ⟨⟨RX11, TX11, 114, rfl, by decide, rfl, lwq_7 (dqc_m (dqa_m (List.mem_of_getElem? (i := 0) rfl))) rfl⟩, List.forall_mem_cons.mpr ⟨⟨RX11, TX11, 114, rfl, by decide, rfl, lwq_7 (dqc_m (dqa_m (List.mem_of_getElem? (i := 2) rfl))) rfl⟩, List.forall_mem_cons.mpr ⟨⟨RX11, TX11, 114, rfl, by decide, rfl, lwq_6 (dqc_m (dqc_m (dqc_m (dqc_m (dqc_m (dqc_m (dqc_m (dqa_m (List.mem_of_getElem? (i := 5) rfl))))))))) rfl⟩, List.forall_mem_cons.mpr ⟨⟨RX11, TX11, 114, rfl, by decide, rfl, lwq_6 (dqc_m (dqc_m (dqc_m (dqc_m (dqc_m (dqc_m (dqc_m (dqa_m (List.mem_of_getElem? (i := 6) rfl))))))))) rfl⟩, List.forall_mem_cons.mpr ⟨⟨RX11, TX11, 114, rfl, by decide, rfl, lwq_7 (dqa_m (dqa_m (List.mem_of_getElem? (i := 7) rfl))) rfl⟩, List.forall_mem_cons.mpr ⟨⟨RX11, TX11, 114, rfl, by decide, rfl, lwq_7 (dqa_m (dqa_m (dqa_m (List.mem_of_getElem? (i := 0) rfl)))) rfl⟩, List.forall_mem_cons.mpr ⟨⟨RX11, TX11, 114, rfl, by decide, rfl, lwq_7 (dqc_m (dqa_m (dqa_m (dqa_m (List.mem_of_getElem? (i := 2) rfl))))) rfl⟩, List.forall_mem_cons.mpr ⟨⟨RX11, TX11, 114, rfl, by decide, rfl, lwq_7 (dqc_m (dqa_m (dqa_m (dqa_m (List.mem_of_getElem? (i := 4) rfl))))) rfl⟩, List.forall_mem_cons.mpr ⟨⟨RX11, TX11, 114, rfl, by decide, rfl, lwq_7 (dqc_m (dqa_m (dqa_m (dqa_m (List.mem_of_getElem? (i := 3) rfl))))) rfl⟩, List.forall_mem_cons.mpr ⟨⟨RX11, TX11, 114, rfl, by decide, rfl, lwq_7 (dqc_m (dqa_m (dqa_m (dqa_m (List.mem_of_getElem? (i := 5) rfl))))) rfl⟩, List.forall_mem_cons.mpr ⟨⟨RX11, TX11, 114, rfl, by decide, rfl, lwq_7 (dqc_m (dqa_m (dqa_m (dqa_m (List.mem_of_getElem? (i := 6) rfl))))) rfl⟩, List.forall_mem_cons.mpr ⟨⟨RX11, TX11, 114, rfl, by decide, rfl, lwq_7 (dqa_m (List.mem_of_getElem? (i := 3) rfl)) rfl⟩, List.forall_mem_cons.mpr ⟨⟨RX11, TX11, 114, rfl, by decide, rfl, lwq_7 (dqa_m (List.mem_of_getElem? (i := 4) rfl)) rfl⟩, List.forall_mem_cons.mpr ⟨⟨RX11, TX11, 114, rfl, by decide, rfl, lwq_7 (dqa_m (List.mem_of_getElem? (i := 5) rfl)) rfl⟩, List.forall_mem_cons.mpr ⟨⟨RX11, TX11, 114, rfl, by decide, rfl, lwq_7 (dqa_m (List.mem_of_getElem? (i := 6) rfl)) rfl⟩, List.forall_mem_cons.mpr ⟨⟨RX11, TX11, 114, rfl, by decide, rfl, lwq_7 (dqa_m (List.mem_of_getElem? (i := 7) rfl)) rfl⟩, List.forall_mem_cons.mpr ⟨⟨RX11, TX11, 114, rfl, by decide, rfl, lwq_7 (dqa_m (dqa_m (dqa_m (List.mem_of_getElem? (i := 2) rfl)))) rfl⟩, List.forall_mem_cons.mpr ⟨⟨RX11, TX11, 114, rfl, by decide, rfl, lwq_7 (dqa_m (dqa_m (dqa_m (List.mem_of_getElem? (i := 3) rfl)))) rfl⟩, List.forall_mem_cons.mpr ⟨⟨RX11, TX11, 114, rfl, by decide, rfl, lwq_7 (dqa_m (dqa_m (dqa_m (List.mem_of_getElem? (i := 6) rfl)))) rfl⟩, List.forall_mem_cons.mpr ⟨⟨RX11, TX11, 114, rfl, by decide, rfl, lwq_7 (dqa_m (dqa_m (dqa_m (List.mem_of_getElem? (i := 5) rfl)))) rfl⟩, List.forall_mem_cons.mpr ⟨⟨RX11, TX11, 114, rfl, by decide, rfl, lwq_7 (dqa_m (dqa_m (dqa_m (List.mem_of_getElem? (i := 7) rfl)))) rfl⟩, List.forall_mem_cons.mpr ⟨⟨RX11, TX11, 114, rfl, by decide, rfl, lwq_7 (dqa_m (dqa_m (dqa_m (List.mem_of_getElem? (i := 4) rfl)))) rfl⟩, List.forall_mem_cons.mpr ⟨⟨RX11, TX11, 114, rfl, by decide, rfl, lwq_7 (dqc_m (List.mem_of_getElem? (i := 0) rfl)) rfl⟩, List.forall_mem_cons.mpr ⟨⟨RX11, TX11, 114, rfl, by decide, rfl, lwq_7 (dqc_m (List.mem_of_getElem? (i := 1) rfl)) rfl⟩, List.forall_mem_cons.mpr ⟨⟨RX11, TX11, 114, rfl, by decide, rfl, lwq_7 (dqc_m (List.mem_of_getElem? (i := 7) rfl)) rfl⟩, List.forall_mem_cons.mpr ⟨⟨RX11, TX11, 114, rfl, by decide, rfl, lwq_7 (dqc_m (dqa_m (List.mem_of_getElem? (i := 3) rfl))) rfl⟩, List.forall_mem_cons.mpr ⟨⟨RX11, TX11, 114, rfl, by decide, rfl, lwq_7 (dqc_m (dqa_m (List.mem_of_getElem? (i := 1) rfl))) rfl⟩, List.forall_mem_cons.mpr ⟨⟨RX11, TX11, 114, rfl, by decide, rfl, lwq_7 (dqc_m (List.mem_of_getElem? (i := 2) rfl)) rfl⟩, List.forall_mem_cons.mpr ⟨⟨RX11, TX11, 114, rfl, by decide, rfl, lwq_7 (dqc_m (List.mem_of_getElem? (i := 3) rfl)) rfl⟩, List.forall_mem_cons.mpr ⟨⟨RX11, TX11, 114, rfl, by decide, rfl, lwq_7 (dqc_m (List.mem_of_getElem? (i := 4) rfl)) rfl⟩, List.forall_mem_cons.mpr ⟨⟨RX11, TX11, 114, rfl, by decide, rfl, lwq_7 (dqc_m (List.mem_of_getElem? (i := 5) rfl)) rfl⟩, List.forall_mem_cons.mpr ⟨⟨RX11, TX11, 114, rfl, by decide, rfl, lwq_7 (dqc_m (List.mem_of_getElem? (i := 6) rfl)) rfl⟩, List.forall_mem_cons.mpr ⟨⟨RX11, TX11, 114, rfl, by decide, rfl, lwq_7 (dqc_m (dqc_m (List.mem_of_getElem? (i := 3) rfl))) rfl⟩, List.forall_mem_cons.mpr ⟨⟨RX11, TX11, 114, rfl, by decide, rfl, lwq_7 (dqc_m (dqc_m (List.mem_of_getElem? (i := 4) rfl))) rfl⟩, List.forall_mem_cons.mpr ⟨⟨RX11, TX11, 114, rfl, by decide, rfl, lwq_7 (dqc_m (dqa_m (dqa_m (dqa_m (List.mem_of_getElem? (i := 7) rfl))))) rfl⟩, List.forall_mem_cons.mpr ⟨⟨RX11, TX11, 114, rfl, by decide, rfl, lwq_7 (dqc_m (dqc_m (List.mem_of_getElem? (i := 5) rfl))) rfl⟩, List.forall_mem_cons.mpr ⟨⟨RX11, TX11, 114, rfl, by decide, rfl, lwq_7 (dqc_m (dqc_m (List.mem_of_getElem? (i := 6) rfl))) rfl⟩, List.forall_mem_cons.mpr ⟨⟨RX11, TX11, 114, rfl, by decide, rfl, lwq_7 (dqc_m (dqc_m (dqa_m (List.mem_of_getElem? (i := 0) rfl)))) rfl⟩, List.forall_mem_cons.mpr ⟨⟨RX11, TX11, 114, rfl, by decide, rfl, lwq_7 (dqc_m (dqc_m (List.mem_of_getElem? (i := 7) rfl))) rfl⟩, List.forall_mem_cons.mpr ⟨⟨RX11, TX11, 114, rfl, by decide, rfl, lwq_7 (dqc_m (dqc_m (dqa_m (List.mem_of_getElem? (i := 1) rfl)))) rfl⟩, List.forall_mem_cons.mpr ⟨⟨RX11, TX11, 114, rfl, by decide, rfl, lwq_7 (dqc_m (dqc_m (dqa_m (List.mem_of_getElem? (i := 2) rfl)))) rfl⟩, List.forall_mem_cons.mpr ⟨⟨RX11, TX11, 114, rfl, by decide, rfl, lwq_7 (dqc_m (dqc_m (List.mem_of_getElem? (i := 0) rfl))) rfl⟩, List.forall_mem_cons.mpr ⟨⟨RX11, TX11, 114, rfl, by decide, rfl, lwq_7 (dqc_m (dqc_m (List.mem_of_getElem? (i := 2) rfl))) rfl⟩, List.forall_mem_cons.mpr ⟨⟨RX11, TX11, 114, rfl, by decide, rfl, lwq_7 (dqc_m (dqc_m (List.mem_of_getElem? (i := 1) rfl))) rfl⟩, List.forall_mem_cons.mpr ⟨⟨RX11, TX11, 114, rfl, by decide, rfl, lwq_7 (dqc_m (dqc_m (dqa_m (List.mem_of_getElem? (i := 6) rfl)))) rfl⟩, List.forall_mem_cons.mpr ⟨⟨RX11, TX11, 114, rfl, by decide, rfl, lwq_7 (dqc_m (dqc_m (dqa_m (List.mem_of_getElem? (i := 7) rfl)))) rfl⟩, List.forall_mem_cons.mpr ⟨⟨RX11, TX11, 114, rfl, by decide, rfl, lwq_7 (dqc_m (dqc_m (dqa_m (dqa_m (List.mem_of_getElem? (i := 1) rfl))))) rfl⟩, List.forall_mem_cons.mpr ⟨⟨RX11, TX11, 114, rfl, by decide, rfl, lwq_7 (dqc_m (dqc_m (dqa_m (dqa_m (List.mem_of_getElem? (i := 3) rfl))))) rfl⟩, List.forall_mem_cons.mpr ⟨⟨RX11, TX11, 114, rfl, by decide, rfl, lwq_7 (dqc_m (dqc_m (dqa_m (dqa_m (List.mem_of_getElem? (i := 0) rfl))))) rfl⟩, List.forall_mem_cons.mpr ⟨⟨RX11, TX11, 114, rfl, by decide, rfl, lwq_7 (dqc_m (dqc_m (dqa_m (dqa_m (List.mem_of_getElem? (i := 2) rfl))))) rfl⟩, List.forall_mem_cons.mpr ⟨⟨RX11, TX11, 114, rfl, by decide, rfl, lwq_7 (dqc_m (dqc_m (dqa_m (List.mem_of_getElem? (i := 5) rfl)))) rfl⟩, List.forall_mem_cons.mpr ⟨⟨RX11, TX11, 114, rfl, by decide, rfl, lwq_7 (dqc_m (dqc_m (dqa_m (List.mem_of_getElem? (i := 4) rfl)))) rfl⟩, List.forall_mem_cons.mpr ⟨⟨RX11, TX11, 114, rfl, by decide, rfl, lwq_7 (dqc_m (dqc_m (dqa_m (dqa_m (List.mem_of_getElem? (i := 4) rfl))))) rfl⟩, List.forall_mem_cons.mpr ⟨⟨RX11, TX11, 114, rfl, by decide, rfl, lwq_7 (dqc_m (dqc_m (dqa_m (List.mem_of_getElem? (i := 3) rfl)))) rfl⟩, List.forall_mem_cons.mpr ⟨⟨RX11, TX11, 114, rfl, by decide, rfl, lwq_7 (dqc_m (dqc_m (dqa_m (dqa_m (dqa_m (List.mem_of_getElem? (i := 0) rfl)))))) rfl⟩, List.forall_mem_cons.mpr ⟨⟨RX11, TX11, 114, rfl, by decide, rfl, lwq_7 (dqc_m (dqc_m (dqa_m (dqa_m (dqa_m (List.mem_of_getElem? (i := 1) rfl)))))) rfl⟩, List.forall_mem_cons.mpr ⟨⟨RX11, TX11, 114, rfl, by decide, rfl, lwq_7 (dqc_m (dqc_m (dqa_m (dqa_m (List.mem_of_getElem? (i := 5) rfl))))) rfl⟩, List.forall_mem_cons.mpr ⟨⟨RX11, TX11, 114, rfl, by decide, rfl, lwq_7 (dqc_m (dqc_m (dqa_m (dqa_m (List.mem_of_getElem? (i := 6) rfl))))) rfl⟩, List.forall_mem_cons.mpr ⟨⟨RX11, TX11, 114, rfl, by decide, rfl, lwq_7 (dqc_m (dqc_m (dqa_m (dqa_m (List.mem_of_getElem? (i := 7) rfl))))) rfl⟩, List.forall_mem_cons.mpr ⟨⟨RX11, TX11, 114, rfl, by decide, rfl, lwq_7 (dqc_m (dqc_m (dqa_m (dqa_m (dqa_m (List.mem_of_getElem? (i := 3) rfl)))))) rfl⟩, List.forall_mem_cons.mpr ⟨⟨RX11, TX11, 114, rfl, by decide, rfl, lwq_7 (dqc_m (dqc_m (dqa_m (dqa_m (dqa_m (List.mem_of_getElem? (i := 4) rfl)))))) rfl⟩, List.forall_mem_cons.mpr ⟨⟨RX11, TX11, 114, rfl, by decide, rfl, lwq_7 (dqc_m (dqc_m (dqa_m (dqa_m (dqa_m (List.mem_of_getElem? (i := 2) rfl)))))) rfl⟩, List.forall_mem_cons.mpr ⟨⟨RX11, TX11, 114, rfl, by decide, rfl, lwq_7 (dqc_m (dqc_m (dqc_m (List.mem_of_getElem? (i := 0) rfl)))) rfl⟩, List.forall_mem_cons.mpr ⟨⟨RX11, TX11, 114, rfl, by decide, rfl, lwq_7 (dqc_m (dqc_m (dqc_m (List.mem_of_getElem? (i := 1) rfl)))) rfl⟩, List.forall_mem_cons.mpr ⟨⟨RX11, TX11, 114, rfl, by decide, rfl, lwq_7 (dqc_m (dqc_m (dqa_m (dqa_m (dqa_m (List.mem_of_getElem? (i := 6) rfl)))))) rfl⟩, List.forall_mem_cons.mpr ⟨⟨RX11, TX11, 114, rfl, by decide, rfl, lwq_7 (dqc_m (dqc_m (dqc_m (List.mem_of_getElem? (i := 2) rfl)))) rfl⟩, List.forall_mem_cons.mpr ⟨⟨RX11, TX11, 114, rfl, by decide, rfl, lwq_7 (dqc_m (dqc_m (dqa_m (dqa_m (dqa_m (List.mem_of_getElem? (i := 5) rfl)))))) rfl⟩, List.forall_mem_cons.mpr ⟨⟨RX11, TX11, 114, rfl, by decide, rfl, lwq_7 (dqc_m (dqc_m (dqa_m (dqa_m (dqa_m (List.mem_of_getElem? (i := 7) rfl)))))) rfl⟩, List.forall_mem_cons.mpr ⟨⟨RX11, TX11, 114, rfl, by decide, rfl, lwq_7 (dqc_m (dqc_m (dqc_m (List.mem_of_getElem? (i := 3) rfl)))) rfl⟩, List.forall_mem_cons.mpr ⟨⟨RX11, TX11, 114, rfl, by decide, rfl, lwq_7 (dqc_m (dqc_m (dqc_m (List.mem_of_getElem? (i := 4) rfl)))) rfl⟩, fun _ h => absurd h List.not_mem_nil⟩⟩⟩⟩⟩⟩⟩⟩⟩⟩⟩⟩⟩⟩⟩⟩⟩⟩⟩⟩⟩⟩⟩⟩⟩⟩⟩⟩⟩⟩⟩⟩⟩⟩⟩⟩⟩⟩⟩⟩⟩⟩⟩⟩⟩⟩⟩⟩⟩⟩⟩⟩⟩⟩⟩⟩⟩⟩⟩⟩⟩⟩⟩⟩⟩⟩⟩⟩⟩⟩⟩⟩⟩⟩⟩⟩⟩⟩⟩⟩⟩⟩⟩⟩⟩⟩⟩⟩⟩⟩⟩⟩⟩⟩⟩⟩⟩⟩⟩⟩⟩⟩⟩⟩⟩⟩⟩⟩⟩⟩⟩⟩⟩⟩
set_option maxRecDepth 100000 in
set_option maxHeartbeats 4000000 in
theorem tp_X11 : ∀ q ∈ fX11.2.1, fp_ RX11 q.1 q.2.1 q.2.2 := List.forall_mem_cons.mpr ⟨⟨RX11, TX11, 114, rfl, by decide, rfl, lwq_6 (dqc_m (dqc_m (dqc_m (dqc_m (dqc_m (dqc_m (dqc_m (List.mem_of_getElem? (i := 5) rfl)))))))) rfl, by decide +kernel, Or.inl (by decide +kernel)⟩, List.forall_mem_cons.mpr ⟨⟨RX11, TX11, 114, rfl, by decide, rfl, lwq_7 (dqc_m (dqc_m (dqa_m (List.mem_of_getElem? (i := 3) rfl)))) rfl, by decide +kernel, Or.inl (by decide +kernel)⟩, List.forall_mem_cons.mpr ⟨⟨RX11, TX11, 114, rfl, by decide, rfl, lwq_6 (dqc_m (dqc_m (dqc_m (dqc_m (dqc_m (dqc_m (dqc_m (List.mem_of_getElem? (i := 4) rfl)))))))) rfl, by decide +kernel, Or.inl (by decide +kernel)⟩, List.forall_mem_cons.mpr ⟨⟨RX11, TX11, 114, rfl, by decide, rfl, lwq_7 (dqc_m (dqa_m (dqa_m (List.mem_of_getElem? (i := 1) rfl)))) rfl, by decide +kernel, Or.inl (by decide +kernel)⟩, List.forall_mem_cons.mpr ⟨⟨RX11, TX11, 114, rfl, by decide, rfl, lwq_7 (dqc_m (dqa_m (dqa_m (List.mem_of_getElem? (i := 2) rfl)))) rfl, by decide +kernel, Or.inl (by decide +kernel)⟩, List.forall_mem_cons.mpr ⟨⟨RX11, TX11, 114, rfl, by decide, rfl, lwq_7 (dqc_m (dqa_m (List.mem_of_getElem? (i := 4) rfl))) rfl, by decide +kernel, Or.inl (by decide +kernel)⟩, List.forall_mem_cons.mpr ⟨⟨RX11, TX11, 114, rfl, by decide, rfl, lwq_7 (dqc_m (dqa_m (List.mem_of_getElem? (i := 6) rfl))) rfl, by decide +kernel, Or.inl (by decide +kernel)⟩, List.forall_mem_cons.mpr ⟨⟨RX11, TX11, 114, rfl, by decide, rfl, lwq_7 (dqc_m (dqa_m (List.mem_of_getElem? (i := 7) rfl))) rfl, by decide +kernel, Or.inl (by decide +kernel)⟩, List.forall_mem_cons.mpr ⟨⟨RX11, TX11, 114, rfl, by decide, rfl, lwq_7 (dqc_m (dqa_m (List.mem_of_getElem? (i := 5) rfl))) rfl, by decide +kernel, Or.inl (by decide +kernel)⟩, List.forall_mem_cons.mpr ⟨⟨RX11, TX11, 114, rfl, by decide, rfl, lwq_7 (dqc_m (dqa_m (dqa_m (List.mem_of_getElem? (i := 0) rfl)))) rfl, by decide +kernel, Or.inl (by decide +kernel)⟩, List.forall_mem_cons.mpr ⟨⟨RX11, TX11, 114, rfl, by decide, rfl, lwq_6 (dqc_m (dqc_m (dqc_m (dqc_m (dqc_m (dqc_m (dqc_m (dqa_m (List.mem_of_getElem? (i := 1) rfl))))))))) rfl, by decide +kernel, Or.inl (by decide +kernel)⟩, List.forall_mem_cons.mpr ⟨⟨RX11, TX11, 114, rfl, by decide, rfl, lwq_6 (dqc_m (dqc_m (dqc_m (dqc_m (dqc_m (dqc_m (dqc_m (dqa_m (List.mem_of_getElem? (i := 7) rfl))))))))) rfl, by decide +kernel, Or.inl (by decide +kernel)⟩, List.forall_mem_cons.mpr ⟨⟨RX11, TX11, 114, rfl, by decide, rfl, lwq_7 (List.mem_of_getElem? (i := 2) rfl) rfl, by decide +kernel, Or.inl (by decide +kernel)⟩, List.forall_mem_cons.mpr ⟨⟨RX11, TX11, 114, rfl, by decide, rfl, lwq_7 (List.mem_of_getElem? (i := 3) rfl) rfl, by decide +kernel, Or.inl (by decide +kernel)⟩, List.forall_mem_cons.mpr ⟨⟨RX11, TX11, 114, rfl, by decide, rfl, lwq_7 (dqa_m (List.mem_of_getElem? (i := 0) rfl)) rfl, by decide +kernel, Or.inl (by decide +kernel)⟩, List.forall_mem_cons.mpr ⟨⟨RX11, TX11, 114, rfl, by decide, rfl, lwq_6 (dqc_m (dqc_m (dqc_m (dqc_m (dqc_m (dqc_m (dqc_m (List.mem_of_getElem? (i := 6) rfl)))))))) rfl, by decide +kernel, Or.inl (by decide +kernel)⟩, List.forall_mem_cons.mpr ⟨⟨RX11, TX11, 114, rfl, by decide, rfl, lwq_7 (dqa_m (dqa_m (List.mem_of_getElem? (i := 0) rfl))) rfl, by decide +kernel, Or.inl (by decide +kernel)⟩, List.forall_mem_cons.mpr ⟨⟨RX11, TX11, 114, rfl, by decide, rfl, lwq_7 (dqc_m (dqa_m (dqa_m (dqa_m (List.mem_of_getElem? (i := 4) rfl))))) rfl, by decide +kernel, Or.inl (by decide +kernel)⟩, List.forall_mem_cons.mpr ⟨⟨RX11, TX11, 114, rfl, by decide, rfl, lwq_7 (dqc_m (dqa_m (dqa_m (dqa_m (List.mem_of_getElem? (i := 6) rfl))))) rfl, by decide +kernel, Or.inl (by decide +kernel)⟩, List.forall_mem_cons.mpr ⟨⟨RX11, TX11, 114, rfl, by decide, rfl, lwq_7 (dqa_m (List.mem_of_getElem? (i := 3) rfl)) rfl, by decide +kernel, Or.inl (by decide +kernel)⟩, List.forall_mem_cons.mpr ⟨⟨RX11, TX11, 114, rfl, by decide, rfl, lwq_7 (dqc_m (List.mem_of_getElem? (i := 2) rfl)) rfl, by decide +kernel, Or.inl (by decide +kernel)⟩, List.forall_mem_cons.mpr ⟨⟨RX11, TX11, 114, rfl, by decide, rfl, lwq_7 (dqc_m (dqc_m (List.mem_of_getElem? (i := 5) rfl))) rfl, by decide +kernel, Or.inl (by decide +kernel)⟩, List.forall_mem_cons.mpr ⟨⟨RX11, TX11, 114, rfl, by decide, rfl, lwq_7 (dqc_m (dqc_m (List.mem_of_getElem? (i := 6) rfl))) rfl, by decide +kernel, Or.inl (by decide +kernel)⟩, List.forall_mem_cons.mpr ⟨⟨RX11, TX11, 114, rfl, by decide, rfl, lwq_7 (dqc_m (dqc_m (dqa_m (List.mem_of_getElem? (i := 2) rfl)))) rfl, by decide +kernel, Or.inl (by decide +kernel)⟩, List.forall_mem_cons.mpr ⟨⟨RX11, TX11, 114, rfl, by decide, rfl, lwq_7 (dqc_m (dqc_m (List.mem_of_getElem? (i := 2) rfl))) rfl, by decide +kernel, Or.inl (by decide +kernel)⟩, List.forall_mem_cons.mpr ⟨⟨RX11, TX11, 114, rfl, by decide, rfl, lwq_7 (dqc_m (dqc_m (dqa_m (List.mem_of_getElem? (i := 0) rfl)))) rfl, by decide +kernel, Or.inl (by decide +kernel)⟩, List.forall_mem_cons.mpr ⟨⟨RX11, TX11, 114, rfl, by decide, rfl, lwq_7 (dqc_m (dqc_m (List.mem_of_getElem? (i := 3) rfl))) rfl, by decide +kernel, Or.inr ⟨by decide +kernel, 0, by decide +kernel⟩⟩, List.forall_mem_cons.mpr ⟨⟨RX11, TX11, 114, rfl, by decide, rfl, lwq_7 (dqc_m (dqc_m (dqa_m (List.mem_of_getElem? (i := 5) rfl)))) rfl, by decide +kernel, Or.inl (by decide +kernel)⟩, List.forall_mem_cons.mpr ⟨⟨RX11, TX11, 114, rfl, by decide, rfl, lwq_7 (dqc_m (dqc_m (dqa_m (dqa_m (List.mem_of_getElem? (i := 2) rfl))))) rfl, by decide +kernel, Or.inl (by decide +kernel)⟩, List.forall_mem_cons.mpr ⟨⟨RX11, TX11, 114, rfl, by decide, rfl, lwq_7 (dqc_m (dqc_m (dqa_m (dqa_m (List.mem_of_getElem? (i := 5) rfl))))) rfl, by decide +kernel, Or.inr ⟨by decide +kernel, 0, by decide +kernel⟩⟩, List.forall_mem_cons.mpr ⟨⟨RX11, TX11, 114, rfl, by decide, rfl, lwq_7 (dqc_m (dqc_m (dqa_m (dqa_m (List.mem_of_getElem? (i := 6) rfl))))) rfl, by decide +kernel, Or.inl (by decide +kernel)⟩, List.forall_mem_cons.mpr ⟨⟨RX11, TX11, 114, rfl, by decide, rfl, lwq_7 (dqc_m (dqc_m (dqa_m (dqa_m (List.mem_of_getElem? (i := 7) rfl))))) rfl, by decide +kernel, Or.inl (by decide +kernel)⟩, List.forall_mem_cons.mpr ⟨⟨RX11, TX11, 114, rfl, by decide, rfl, lwq_7 (dqc_m (dqc_m (dqa_m (dqa_m (dqa_m (List.mem_of_getElem? (i := 2) rfl)))))) rfl, by decide +kernel, Or.inl (by decide +kernel)⟩, List.forall_mem_cons.mpr ⟨⟨RX11, TX11, 114, rfl, by decide, rfl, lwq_7 (dqc_m (dqc_m (dqc_m (List.mem_of_getElem? (i := 3) rfl)))) rfl, by decide +kernel, Or.inl (by decide +kernel)⟩, List.forall_mem_cons.mpr ⟨⟨RX11, TX11, 114, rfl, by decide, rfl, lwq_7 (dqc_m (dqc_m (dqc_m (List.mem_of_getElem? (i := 4) rfl)))) rfl, by decide +kernel, Or.inl (by decide +kernel)⟩, List.forall_mem_cons.mpr ⟨⟨RX11, TX11, 114, rfl, by decide, rfl, lwq_7 (dqc_m (dqc_m (dqa_m (dqa_m (dqa_m (List.mem_of_getElem? (i := 6) rfl)))))) rfl, by decide +kernel, Or.inl (by decide +kernel)⟩, fun _ h => absurd h List.not_mem_nil⟩⟩⟩⟩⟩⟩⟩⟩⟩⟩⟩⟩⟩⟩⟩⟩⟩⟩⟩⟩⟩⟩⟩⟩⟩⟩⟩⟩⟩⟩⟩⟩⟩⟩⟩⟩
theorem tb_X11 : tb_ RX11 fX11 := ⟨tg_X11, tp_X11, List.forall_mem_cons.mpr ⟨⟨lwq_9 (dqc_m (dqc_m (dqc_m (dqc_m (dqc_m (dqc_m (dqa_m (List.mem_of_getElem? (i := 1) rfl)))))))) rfl, by decide, by decide⟩, List.forall_mem_cons.mpr ⟨⟨lwq_9 (dqc_m (dqc_m (dqc_m (dqc_m (dqc_m (dqc_m (dqa_m (List.mem_of_getElem? (i := 2) rfl)))))))) rfl, by decide, by decide⟩, List.forall_mem_cons.mpr ⟨⟨lwq_9 (dqc_m (dqc_m (dqc_m (dqc_m (dqc_m (dqc_m (dqa_m (List.mem_of_getElem? (i := 3) rfl)))))))) rfl, by decide, by decide⟩, List.forall_mem_cons.mpr ⟨⟨lwq_10 (dqc_m (dqc_m (dqa_m (dqa_m (List.mem_of_getElem? (i := 0) rfl))))) rfl, by decide, by decide⟩, List.forall_mem_cons.mpr ⟨⟨lwq_10 (dqc_m (dqc_m (dqa_m (dqa_m (List.mem_of_getElem? (i := 1) rfl))))) rfl, by decide, by decide⟩, fun _ h => absurd h List.not_mem_nil⟩⟩⟩⟩⟩, List.forall_mem_cons.mpr ⟨⟨lwq_10 (dqc_m (dqc_m (dqa_m (List.mem_of_getElem? (i := 7) rfl)))) rfl, by decide, by decide⟩, fun _ h => absurd h List.not_mem_nil⟩⟩
-- the table's bounds of a picture
theorem bd_f {T : Zt} (hT : ok_T T) (k j : Nat) {c k' : Nat} {lo hi : Int} (h : (tf_ k)[j]? = some (c, k', lo, hi)) (i : Int) : lo ≤ T k i (j : Int) ∧ T k i (j : Int) ≤ hi := hT.2.1 k j c k' lo hi h i
theorem bd_a {T : Zt} (hT : ok_T T) (k : Nat) {t : Nat} {n : Option Int} {lo hi : Int} (h : ta_ k = some (t, n, lo, hi)) (i : Int) {x : Int} (hx : 0 ≤ x) : lo ≤ T k i x ∧ T k i x ≤ hi := hT.1 k t n lo hi h i x hx
-- blocks, checked over the row of bytes that begins at their place
theorem qb_u1 {cc : ByteArray} {p : Nat} {b : UInt8} {r : List UInt8} (h : cc.data.toList.drop p = b :: r) : (Reader.u1 (ε := DecodeError)) cc p = Except.ok (b.toNat, p + 1) := by
  have hl : p < cc.data.toList.length := by
    apply Classical.byContradiction
    intro n
    rw [List.drop_eq_nil_of_le (by omega)] at h
    cases h
  have hs : p < cc.size := hl
  have hb : cc[p]'hs = b := by
    have q := List.drop_eq_getElem_cons hl
    rw [h] at q
    exact (List.cons.inj q).1.symm
  unfold Reader.u1
  show (dite (p < cc.size) (fun h => (bind (set (p + 1)) (fun _ => pure (cc[p]'h).toNat) : Reader DecodeError Nat)) (fun _ => throw (HasTruncated.truncated p))) cc p = _
  rw [dif_pos hs]
  show (Except.ok ((cc[p]'hs).toNat, p + 1) : Except DecodeError (Nat × Nat)) = _
  rw [hb]
theorem qb_d {cc : ByteArray} {pc nx : Nat} {i : Instr} (h : (Decoder.instr pc) cc pc = Except.ok (i, nx)) : decode cc pc = Except.ok (i, nx - pc) := by
  show Except.bind ((Decoder.instr pc) cc pc) _ = _
  rw [h]
  rfl
theorem qb_s1 {cc : ByteArray} {p x : Nat} (h : (Reader.u1 (ε := DecodeError)) cc p = Except.ok (x, p + 1)) : (Reader.s1 (ε := DecodeError)) cc p = Except.ok (Reader.signed 8 x, p + 1) := by
  show Except.bind ((Reader.u1 (ε := DecodeError)) cc p) _ = _
  rw [h]
  rfl
theorem qb_u2 {cc : ByteArray} {p x y : Nat} (h : (Reader.u1 (ε := DecodeError)) cc p = Except.ok (x, p + 1)) (g : (Reader.u1 (ε := DecodeError)) cc (p + 1) = Except.ok (y, p + 2)) : (Reader.u2 (ε := DecodeError)) cc p = Except.ok (x * 256 + y, p + 2) := by
  show Except.bind ((Reader.u1 (ε := DecodeError)) cc p) _ = _
  rw [h]
  show Except.bind ((Reader.u1 (ε := DecodeError)) cc (p + 1)) _ = _
  rw [g]
  rfl
theorem qb_s2 {cc : ByteArray} {p x y : Nat} (h : (Reader.u1 (ε := DecodeError)) cc p = Except.ok (x, p + 1)) (g : (Reader.u1 (ε := DecodeError)) cc (p + 1) = Except.ok (y, p + 2)) : (Reader.s2 (ε := DecodeError)) cc p = Except.ok (Reader.signed 16 (x * 256 + y), p + 2) := by
  show Except.bind ((Reader.u2 (ε := DecodeError)) cc p) _ = _
  rw [qb_u2 h g]
  rfl
def Qb0_ (q : Nat × Instr) : Prop := ∀ (cc : ByteArray) (pc : Nat), (Reader.u1 (ε := DecodeError)) cc pc = Except.ok (q.1, pc + 1) → (Decoder.instr pc) cc pc = Except.ok (q.2, pc + 1)
def Qb1_ (q : Nat × (Nat → Instr)) : Prop := ∀ (cc : ByteArray) (pc x : Nat), (Reader.u1 (ε := DecodeError)) cc pc = Except.ok (q.1, pc + 1) → (Reader.u1 (ε := DecodeError)) cc (pc + 1) = Except.ok (x, pc + 2) → (Decoder.instr pc) cc pc = Except.ok (q.2 x, pc + 2)
def Qb2_ (q : Nat × (Nat → Nat → Instr)) : Prop := ∀ (cc : ByteArray) (pc x y : Nat), (Reader.u1 (ε := DecodeError)) cc pc = Except.ok (q.1, pc + 1) → (Reader.u1 (ε := DecodeError)) cc (pc + 1) = Except.ok (x, pc + 2) → (Reader.u1 (ε := DecodeError)) cc (pc + 2) = Except.ok (y, pc + 3) → (Decoder.instr pc) cc pc = Except.ok (q.2 x y, pc + 3)
set_option maxRecDepth 4000 in
theorem qb0_42 : Qb0_ (42, .aload_n 0) := fun cc pc h => by
  show Except.bind ((Reader.u1 (ε := DecodeError)) cc pc) _ = _
  rw [h]
  rfl
set_option maxRecDepth 4000 in
theorem qb0_27 : Qb0_ (27, .iload_n 1) := fun cc pc h => by
  show Except.bind ((Reader.u1 (ε := DecodeError)) cc pc) _ = _
  rw [h]
  rfl
set_option maxRecDepth 4000 in
theorem qb0_28 : Qb0_ (28, .iload_n 2) := fun cc pc h => by
  show Except.bind ((Reader.u1 (ε := DecodeError)) cc pc) _ = _
  rw [h]
  rfl
set_option maxRecDepth 4000 in
theorem qb0_29 : Qb0_ (29, .iload_n 3) := fun cc pc h => by
  show Except.bind ((Reader.u1 (ε := DecodeError)) cc pc) _ = _
  rw [h]
  rfl
set_option maxRecDepth 4000 in
theorem qb0_26 : Qb0_ (26, .iload_n 0) := fun cc pc h => by
  show Except.bind ((Reader.u1 (ε := DecodeError)) cc pc) _ = _
  rw [h]
  rfl
set_option maxRecDepth 4000 in
theorem qb0_43 : Qb0_ (43, .aload_n 1) := fun cc pc h => by
  show Except.bind ((Reader.u1 (ε := DecodeError)) cc pc) _ = _
  rw [h]
  rfl
set_option maxRecDepth 4000 in
theorem qb0_44 : Qb0_ (44, .aload_n 2) := fun cc pc h => by
  show Except.bind ((Reader.u1 (ε := DecodeError)) cc pc) _ = _
  rw [h]
  rfl
set_option maxRecDepth 4000 in
theorem qb0_45 : Qb0_ (45, .aload_n 3) := fun cc pc h => by
  show Except.bind ((Reader.u1 (ε := DecodeError)) cc pc) _ = _
  rw [h]
  rfl
set_option maxRecDepth 4000 in
theorem qb0_46 : Qb0_ (46, .iaload) := fun cc pc h => by
  show Except.bind ((Reader.u1 (ε := DecodeError)) cc pc) _ = _
  rw [h]
  rfl
set_option maxRecDepth 4000 in
theorem qb0_79 : Qb0_ (79, .iastore) := fun cc pc h => by
  show Except.bind ((Reader.u1 (ε := DecodeError)) cc pc) _ = _
  rw [h]
  rfl
set_option maxRecDepth 4000 in
theorem qb0_3 : Qb0_ (3, .iconst 0) := fun cc pc h => by
  show Except.bind ((Reader.u1 (ε := DecodeError)) cc pc) _ = _
  rw [h]
  rfl
set_option maxRecDepth 4000 in
theorem qb0_4 : Qb0_ (4, .iconst 1) := fun cc pc h => by
  show Except.bind ((Reader.u1 (ε := DecodeError)) cc pc) _ = _
  rw [h]
  rfl
set_option maxRecDepth 4000 in
theorem qb0_5 : Qb0_ (5, .iconst 2) := fun cc pc h => by
  show Except.bind ((Reader.u1 (ε := DecodeError)) cc pc) _ = _
  rw [h]
  rfl
set_option maxRecDepth 4000 in
theorem qb0_2 : Qb0_ (2, .iconst (-1)) := fun cc pc h => by
  show Except.bind ((Reader.u1 (ε := DecodeError)) cc pc) _ = _
  rw [h]
  rfl
set_option maxRecDepth 4000 in
theorem qb0_6 : Qb0_ (6, .iconst 3) := fun cc pc h => by
  show Except.bind ((Reader.u1 (ε := DecodeError)) cc pc) _ = _
  rw [h]
  rfl
set_option maxRecDepth 4000 in
theorem qb0_7 : Qb0_ (7, .iconst 4) := fun cc pc h => by
  show Except.bind ((Reader.u1 (ε := DecodeError)) cc pc) _ = _
  rw [h]
  rfl
set_option maxRecDepth 4000 in
theorem qb0_8 : Qb0_ (8, .iconst 5) := fun cc pc h => by
  show Except.bind ((Reader.u1 (ε := DecodeError)) cc pc) _ = _
  rw [h]
  rfl
set_option maxRecDepth 4000 in
theorem qb0_96 : Qb0_ (96, .iadd) := fun cc pc h => by
  show Except.bind ((Reader.u1 (ε := DecodeError)) cc pc) _ = _
  rw [h]
  rfl
set_option maxRecDepth 4000 in
theorem qb0_100 : Qb0_ (100, .isub) := fun cc pc h => by
  show Except.bind ((Reader.u1 (ε := DecodeError)) cc pc) _ = _
  rw [h]
  rfl
set_option maxRecDepth 4000 in
theorem qb0_104 : Qb0_ (104, .imul) := fun cc pc h => by
  show Except.bind ((Reader.u1 (ε := DecodeError)) cc pc) _ = _
  rw [h]
  rfl
set_option maxRecDepth 4000 in
theorem qb0_172 : Qb0_ (172, .ireturn) := fun cc pc h => by
  show Except.bind ((Reader.u1 (ε := DecodeError)) cc pc) _ = _
  rw [h]
  rfl
set_option maxRecDepth 4000 in
theorem qb0_177 : Qb0_ (177, .return_) := fun cc pc h => by
  show Except.bind ((Reader.u1 (ε := DecodeError)) cc pc) _ = _
  rw [h]
  rfl
set_option maxRecDepth 4000 in
theorem qb0_61 : Qb0_ (61, .istore_n 2) := fun cc pc h => by
  show Except.bind ((Reader.u1 (ε := DecodeError)) cc pc) _ = _
  rw [h]
  rfl
set_option maxRecDepth 4000 in
theorem qb0_62 : Qb0_ (62, .istore_n 3) := fun cc pc h => by
  show Except.bind ((Reader.u1 (ε := DecodeError)) cc pc) _ = _
  rw [h]
  rfl
set_option maxRecDepth 4000 in
theorem qb0_60 : Qb0_ (60, .istore_n 1) := fun cc pc h => by
  show Except.bind ((Reader.u1 (ε := DecodeError)) cc pc) _ = _
  rw [h]
  rfl
set_option maxRecDepth 4000 in
theorem qb0_59 : Qb0_ (59, .istore_n 0) := fun cc pc h => by
  show Except.bind ((Reader.u1 (ε := DecodeError)) cc pc) _ = _
  rw [h]
  rfl
set_option maxRecDepth 4000 in
theorem qb0_89 : Qb0_ (89, .dup) := fun cc pc h => by
  show Except.bind ((Reader.u1 (ε := DecodeError)) cc pc) _ = _
  rw [h]
  rfl
set_option maxRecDepth 4000 in
theorem qb0_92 : Qb0_ (92, .dup2) := fun cc pc h => by
  show Except.bind ((Reader.u1 (ε := DecodeError)) cc pc) _ = _
  rw [h]
  rfl
set_option maxRecDepth 4000 in
theorem qb0_87 : Qb0_ (87, .pop) := fun cc pc h => by
  show Except.bind ((Reader.u1 (ε := DecodeError)) cc pc) _ = _
  rw [h]
  rfl
set_option maxRecDepth 4000 in
theorem qb0_50 : Qb0_ (50, .aaload) := fun cc pc h => by
  show Except.bind ((Reader.u1 (ε := DecodeError)) cc pc) _ = _
  rw [h]
  rfl
set_option maxRecDepth 4000 in
theorem qb0_51 : Qb0_ (51, .baload) := fun cc pc h => by
  show Except.bind ((Reader.u1 (ε := DecodeError)) cc pc) _ = _
  rw [h]
  rfl
set_option maxRecDepth 4000 in
theorem qb0_84 : Qb0_ (84, .bastore) := fun cc pc h => by
  show Except.bind ((Reader.u1 (ε := DecodeError)) cc pc) _ = _
  rw [h]
  rfl
set_option maxRecDepth 4000 in
theorem qb0_190 : Qb0_ (190, .arraylength) := fun cc pc h => by
  show Except.bind ((Reader.u1 (ε := DecodeError)) cc pc) _ = _
  rw [h]
  rfl
set_option maxRecDepth 4000 in
theorem qb0_126 : Qb0_ (126, .iand) := fun cc pc h => by
  show Except.bind ((Reader.u1 (ε := DecodeError)) cc pc) _ = _
  rw [h]
  rfl
set_option maxRecDepth 4000 in
theorem qb0_128 : Qb0_ (128, .ior) := fun cc pc h => by
  show Except.bind ((Reader.u1 (ε := DecodeError)) cc pc) _ = _
  rw [h]
  rfl
set_option maxRecDepth 4000 in
theorem qb0_120 : Qb0_ (120, .ishl) := fun cc pc h => by
  show Except.bind ((Reader.u1 (ε := DecodeError)) cc pc) _ = _
  rw [h]
  rfl
set_option maxRecDepth 4000 in
theorem qb0_122 : Qb0_ (122, .ishr) := fun cc pc h => by
  show Except.bind ((Reader.u1 (ε := DecodeError)) cc pc) _ = _
  rw [h]
  rfl
set_option maxRecDepth 4000 in
theorem qb0_124 : Qb0_ (124, .iushr) := fun cc pc h => by
  show Except.bind ((Reader.u1 (ε := DecodeError)) cc pc) _ = _
  rw [h]
  rfl
set_option maxRecDepth 4000 in
theorem qb0_130 : Qb0_ (130, .ixor) := fun cc pc h => by
  show Except.bind ((Reader.u1 (ε := DecodeError)) cc pc) _ = _
  rw [h]
  rfl
set_option maxRecDepth 4000 in
theorem qb0_108 : Qb0_ (108, .idiv) := fun cc pc h => by
  show Except.bind ((Reader.u1 (ε := DecodeError)) cc pc) _ = _
  rw [h]
  rfl
set_option maxRecDepth 4000 in
theorem qb0_112 : Qb0_ (112, .irem) := fun cc pc h => by
  show Except.bind ((Reader.u1 (ε := DecodeError)) cc pc) _ = _
  rw [h]
  rfl
set_option maxRecDepth 4000 in
theorem qb0_116 : Qb0_ (116, .ineg) := fun cc pc h => by
  show Except.bind ((Reader.u1 (ε := DecodeError)) cc pc) _ = _
  rw [h]
  rfl
set_option maxRecDepth 4000 in
theorem qb0_133 : Qb0_ (133, .i2l) := fun cc pc h => by
  show Except.bind ((Reader.u1 (ε := DecodeError)) cc pc) _ = _
  rw [h]
  rfl
set_option maxRecDepth 4000 in
theorem qb0_136 : Qb0_ (136, .l2i) := fun cc pc h => by
  show Except.bind ((Reader.u1 (ε := DecodeError)) cc pc) _ = _
  rw [h]
  rfl
set_option maxRecDepth 4000 in
theorem qb0_9 : Qb0_ (9, .lconst 0) := fun cc pc h => by
  show Except.bind ((Reader.u1 (ε := DecodeError)) cc pc) _ = _
  rw [h]
  rfl
set_option maxRecDepth 4000 in
theorem qb0_10 : Qb0_ (10, .lconst 1) := fun cc pc h => by
  show Except.bind ((Reader.u1 (ε := DecodeError)) cc pc) _ = _
  rw [h]
  rfl
set_option maxRecDepth 4000 in
theorem qb0_30 : Qb0_ (30, .lload_n 0) := fun cc pc h => by
  show Except.bind ((Reader.u1 (ε := DecodeError)) cc pc) _ = _
  rw [h]
  rfl
set_option maxRecDepth 4000 in
theorem qb0_31 : Qb0_ (31, .lload_n 1) := fun cc pc h => by
  show Except.bind ((Reader.u1 (ε := DecodeError)) cc pc) _ = _
  rw [h]
  rfl
set_option maxRecDepth 4000 in
theorem qb0_32 : Qb0_ (32, .lload_n 2) := fun cc pc h => by
  show Except.bind ((Reader.u1 (ε := DecodeError)) cc pc) _ = _
  rw [h]
  rfl
set_option maxRecDepth 4000 in
theorem qb0_33 : Qb0_ (33, .lload_n 3) := fun cc pc h => by
  show Except.bind ((Reader.u1 (ε := DecodeError)) cc pc) _ = _
  rw [h]
  rfl
set_option maxRecDepth 4000 in
theorem qb0_47 : Qb0_ (47, .laload) := fun cc pc h => by
  show Except.bind ((Reader.u1 (ε := DecodeError)) cc pc) _ = _
  rw [h]
  rfl
set_option maxRecDepth 4000 in
theorem qb0_63 : Qb0_ (63, .lstore_n 0) := fun cc pc h => by
  show Except.bind ((Reader.u1 (ε := DecodeError)) cc pc) _ = _
  rw [h]
  rfl
set_option maxRecDepth 4000 in
theorem qb0_64 : Qb0_ (64, .lstore_n 1) := fun cc pc h => by
  show Except.bind ((Reader.u1 (ε := DecodeError)) cc pc) _ = _
  rw [h]
  rfl
set_option maxRecDepth 4000 in
theorem qb0_65 : Qb0_ (65, .lstore_n 2) := fun cc pc h => by
  show Except.bind ((Reader.u1 (ε := DecodeError)) cc pc) _ = _
  rw [h]
  rfl
set_option maxRecDepth 4000 in
theorem qb0_66 : Qb0_ (66, .lstore_n 3) := fun cc pc h => by
  show Except.bind ((Reader.u1 (ε := DecodeError)) cc pc) _ = _
  rw [h]
  rfl
set_option maxRecDepth 4000 in
theorem qb0_75 : Qb0_ (75, .astore_n 0) := fun cc pc h => by
  show Except.bind ((Reader.u1 (ε := DecodeError)) cc pc) _ = _
  rw [h]
  rfl
set_option maxRecDepth 4000 in
theorem qb0_76 : Qb0_ (76, .astore_n 1) := fun cc pc h => by
  show Except.bind ((Reader.u1 (ε := DecodeError)) cc pc) _ = _
  rw [h]
  rfl
set_option maxRecDepth 4000 in
theorem qb0_77 : Qb0_ (77, .astore_n 2) := fun cc pc h => by
  show Except.bind ((Reader.u1 (ε := DecodeError)) cc pc) _ = _
  rw [h]
  rfl
set_option maxRecDepth 4000 in
theorem qb0_78 : Qb0_ (78, .astore_n 3) := fun cc pc h => by
  show Except.bind ((Reader.u1 (ε := DecodeError)) cc pc) _ = _
  rw [h]
  rfl
set_option maxRecDepth 4000 in
theorem qb0_80 : Qb0_ (80, .lastore) := fun cc pc h => by
  show Except.bind ((Reader.u1 (ε := DecodeError)) cc pc) _ = _
  rw [h]
  rfl
set_option maxRecDepth 4000 in
theorem qb0_97 : Qb0_ (97, .ladd) := fun cc pc h => by
  show Except.bind ((Reader.u1 (ε := DecodeError)) cc pc) _ = _
  rw [h]
  rfl
set_option maxRecDepth 4000 in
theorem qb0_101 : Qb0_ (101, .lsub) := fun cc pc h => by
  show Except.bind ((Reader.u1 (ε := DecodeError)) cc pc) _ = _
  rw [h]
  rfl
set_option maxRecDepth 4000 in
theorem qb0_105 : Qb0_ (105, .lmul) := fun cc pc h => by
  show Except.bind ((Reader.u1 (ε := DecodeError)) cc pc) _ = _
  rw [h]
  rfl
set_option maxRecDepth 4000 in
theorem qb0_113 : Qb0_ (113, .lrem) := fun cc pc h => by
  show Except.bind ((Reader.u1 (ε := DecodeError)) cc pc) _ = _
  rw [h]
  rfl
set_option maxRecDepth 4000 in
theorem qb0_148 : Qb0_ (148, .lcmp) := fun cc pc h => by
  show Except.bind ((Reader.u1 (ε := DecodeError)) cc pc) _ = _
  rw [h]
  rfl
set_option maxRecDepth 4000 in
theorem qb0_173 : Qb0_ (173, .lreturn) := fun cc pc h => by
  show Except.bind ((Reader.u1 (ε := DecodeError)) cc pc) _ = _
  rw [h]
  rfl
set_option maxRecDepth 4000 in
theorem qb1_21 : Qb1_ (21, fun x => .iload x) := fun cc pc x h g => by
  show Except.bind ((Reader.u1 (ε := DecodeError)) cc pc) _ = _
  rw [h]
  show Except.bind ((Reader.u1 (ε := DecodeError)) cc (pc + 1)) _ = _
  rw [g]
  rfl
set_option maxRecDepth 4000 in
theorem qb1_54 : Qb1_ (54, fun x => .istore x) := fun cc pc x h g => by
  show Except.bind ((Reader.u1 (ε := DecodeError)) cc pc) _ = _
  rw [h]
  show Except.bind ((Reader.u1 (ε := DecodeError)) cc (pc + 1)) _ = _
  rw [g]
  rfl
set_option maxRecDepth 4000 in
theorem qb1_16 : Qb1_ (16, fun x => .bipush (Reader.signed 8 x)) := fun cc pc x h g => by
  show Except.bind ((Reader.u1 (ε := DecodeError)) cc pc) _ = _
  rw [h]
  show Except.bind ((Reader.s1 (ε := DecodeError)) cc (pc + 1)) _ = _
  rw [qb_s1 g]
  rfl
set_option maxRecDepth 4000 in
theorem qb1_25 : Qb1_ (25, fun x => .aload x) := fun cc pc x h g => by
  show Except.bind ((Reader.u1 (ε := DecodeError)) cc pc) _ = _
  rw [h]
  show Except.bind ((Reader.u1 (ε := DecodeError)) cc (pc + 1)) _ = _
  rw [g]
  rfl
set_option maxRecDepth 4000 in
theorem qb1_58 : Qb1_ (58, fun x => .astore x) := fun cc pc x h g => by
  show Except.bind ((Reader.u1 (ε := DecodeError)) cc pc) _ = _
  rw [h]
  show Except.bind ((Reader.u1 (ε := DecodeError)) cc (pc + 1)) _ = _
  rw [g]
  rfl
set_option maxRecDepth 4000 in
theorem qb1_18 : Qb1_ (18, fun x => .ldc x) := fun cc pc x h g => by
  show Except.bind ((Reader.u1 (ε := DecodeError)) cc pc) _ = _
  rw [h]
  show Except.bind ((Reader.u1 (ε := DecodeError)) cc (pc + 1)) _ = _
  rw [g]
  rfl
set_option maxRecDepth 4000 in
theorem qb1_22 : Qb1_ (22, fun x => .lload x) := fun cc pc x h g => by
  show Except.bind ((Reader.u1 (ε := DecodeError)) cc pc) _ = _
  rw [h]
  show Except.bind ((Reader.u1 (ε := DecodeError)) cc (pc + 1)) _ = _
  rw [g]
  rfl
set_option maxRecDepth 4000 in
theorem qb1_55 : Qb1_ (55, fun x => .lstore x) := fun cc pc x h g => by
  show Except.bind ((Reader.u1 (ε := DecodeError)) cc pc) _ = _
  rw [h]
  show Except.bind ((Reader.u1 (ε := DecodeError)) cc (pc + 1)) _ = _
  rw [g]
  rfl
set_option maxRecDepth 4000 in
theorem qb2_180 : Qb2_ (180, fun x y => .getfield (x * 256 + y)) := fun cc pc x y h g e => by
  show Except.bind ((Reader.u1 (ε := DecodeError)) cc pc) _ = _
  rw [h]
  show Except.bind ((Reader.u2 (ε := DecodeError)) cc (pc + 1)) _ = _
  rw [qb_u2 g e]
  rfl
set_option maxRecDepth 4000 in
theorem qb2_181 : Qb2_ (181, fun x y => .putfield (x * 256 + y)) := fun cc pc x y h g e => by
  show Except.bind ((Reader.u1 (ε := DecodeError)) cc pc) _ = _
  rw [h]
  show Except.bind ((Reader.u2 (ε := DecodeError)) cc (pc + 1)) _ = _
  rw [qb_u2 g e]
  rfl
set_option maxRecDepth 4000 in
theorem qb2_167 : Qb2_ (167, fun x y => .goto (Reader.signed 16 (x * 256 + y))) := fun cc pc x y h g e => by
  show Except.bind ((Reader.u1 (ε := DecodeError)) cc pc) _ = _
  rw [h]
  show Except.bind ((Reader.s2 (ε := DecodeError)) cc (pc + 1)) _ = _
  rw [qb_s2 g e]
  rfl
set_option maxRecDepth 4000 in
theorem qb2_153 : Qb2_ (153, fun x y => .ifCond .eq (Reader.signed 16 (x * 256 + y))) := fun cc pc x y h g e => by
  show Except.bind ((Reader.u1 (ε := DecodeError)) cc pc) _ = _
  rw [h]
  show Except.bind ((Reader.s2 (ε := DecodeError)) cc (pc + 1)) _ = _
  rw [qb_s2 g e]
  rfl
set_option maxRecDepth 4000 in
theorem qb2_154 : Qb2_ (154, fun x y => .ifCond .ne (Reader.signed 16 (x * 256 + y))) := fun cc pc x y h g e => by
  show Except.bind ((Reader.u1 (ε := DecodeError)) cc pc) _ = _
  rw [h]
  show Except.bind ((Reader.s2 (ε := DecodeError)) cc (pc + 1)) _ = _
  rw [qb_s2 g e]
  rfl
set_option maxRecDepth 4000 in
theorem qb2_155 : Qb2_ (155, fun x y => .ifCond .lt (Reader.signed 16 (x * 256 + y))) := fun cc pc x y h g e => by
  show Except.bind ((Reader.u1 (ε := DecodeError)) cc pc) _ = _
  rw [h]
  show Except.bind ((Reader.s2 (ε := DecodeError)) cc (pc + 1)) _ = _
  rw [qb_s2 g e]
  rfl
set_option maxRecDepth 4000 in
theorem qb2_156 : Qb2_ (156, fun x y => .ifCond .ge (Reader.signed 16 (x * 256 + y))) := fun cc pc x y h g e => by
  show Except.bind ((Reader.u1 (ε := DecodeError)) cc pc) _ = _
  rw [h]
  show Except.bind ((Reader.s2 (ε := DecodeError)) cc (pc + 1)) _ = _
  rw [qb_s2 g e]
  rfl
set_option maxRecDepth 4000 in
theorem qb2_157 : Qb2_ (157, fun x y => .ifCond .gt (Reader.signed 16 (x * 256 + y))) := fun cc pc x y h g e => by
  show Except.bind ((Reader.u1 (ε := DecodeError)) cc pc) _ = _
  rw [h]
  show Except.bind ((Reader.s2 (ε := DecodeError)) cc (pc + 1)) _ = _
  rw [qb_s2 g e]
  rfl
set_option maxRecDepth 4000 in
theorem qb2_158 : Qb2_ (158, fun x y => .ifCond .le (Reader.signed 16 (x * 256 + y))) := fun cc pc x y h g e => by
  show Except.bind ((Reader.u1 (ε := DecodeError)) cc pc) _ = _
  rw [h]
  show Except.bind ((Reader.s2 (ε := DecodeError)) cc (pc + 1)) _ = _
  rw [qb_s2 g e]
  rfl
set_option maxRecDepth 4000 in
theorem qb2_159 : Qb2_ (159, fun x y => .if_icmp .eq (Reader.signed 16 (x * 256 + y))) := fun cc pc x y h g e => by
  show Except.bind ((Reader.u1 (ε := DecodeError)) cc pc) _ = _
  rw [h]
  show Except.bind ((Reader.s2 (ε := DecodeError)) cc (pc + 1)) _ = _
  rw [qb_s2 g e]
  rfl
set_option maxRecDepth 4000 in
theorem qb2_160 : Qb2_ (160, fun x y => .if_icmp .ne (Reader.signed 16 (x * 256 + y))) := fun cc pc x y h g e => by
  show Except.bind ((Reader.u1 (ε := DecodeError)) cc pc) _ = _
  rw [h]
  show Except.bind ((Reader.s2 (ε := DecodeError)) cc (pc + 1)) _ = _
  rw [qb_s2 g e]
  rfl
set_option maxRecDepth 4000 in
theorem qb2_161 : Qb2_ (161, fun x y => .if_icmp .lt (Reader.signed 16 (x * 256 + y))) := fun cc pc x y h g e => by
  show Except.bind ((Reader.u1 (ε := DecodeError)) cc pc) _ = _
  rw [h]
  show Except.bind ((Reader.s2 (ε := DecodeError)) cc (pc + 1)) _ = _
  rw [qb_s2 g e]
  rfl
set_option maxRecDepth 4000 in
theorem qb2_162 : Qb2_ (162, fun x y => .if_icmp .ge (Reader.signed 16 (x * 256 + y))) := fun cc pc x y h g e => by
  show Except.bind ((Reader.u1 (ε := DecodeError)) cc pc) _ = _
  rw [h]
  show Except.bind ((Reader.s2 (ε := DecodeError)) cc (pc + 1)) _ = _
  rw [qb_s2 g e]
  rfl
set_option maxRecDepth 4000 in
theorem qb2_163 : Qb2_ (163, fun x y => .if_icmp .gt (Reader.signed 16 (x * 256 + y))) := fun cc pc x y h g e => by
  show Except.bind ((Reader.u1 (ε := DecodeError)) cc pc) _ = _
  rw [h]
  show Except.bind ((Reader.s2 (ε := DecodeError)) cc (pc + 1)) _ = _
  rw [qb_s2 g e]
  rfl
set_option maxRecDepth 4000 in
theorem qb2_164 : Qb2_ (164, fun x y => .if_icmp .le (Reader.signed 16 (x * 256 + y))) := fun cc pc x y h g e => by
  show Except.bind ((Reader.u1 (ε := DecodeError)) cc pc) _ = _
  rw [h]
  show Except.bind ((Reader.s2 (ε := DecodeError)) cc (pc + 1)) _ = _
  rw [qb_s2 g e]
  rfl
set_option maxRecDepth 4000 in
theorem qb2_132 : Qb2_ (132, fun x y => .iinc x (Reader.signed 8 y)) := fun cc pc x y h g e => by
  show Except.bind ((Reader.u1 (ε := DecodeError)) cc pc) _ = _
  rw [h]
  show Except.bind ((Reader.u1 (ε := DecodeError)) cc (pc + 1)) _ = _
  rw [g]
  show Except.bind ((Reader.s1 (ε := DecodeError)) cc (pc + 2)) _ = _
  rw [qb_s1 e]
  rfl
set_option maxRecDepth 4000 in
theorem qb2_17 : Qb2_ (17, fun x y => .sipush (Reader.signed 16 (x * 256 + y))) := fun cc pc x y h g e => by
  show Except.bind ((Reader.u1 (ε := DecodeError)) cc pc) _ = _
  rw [h]
  show Except.bind ((Reader.s2 (ε := DecodeError)) cc (pc + 1)) _ = _
  rw [qb_s2 g e]
  rfl
set_option maxRecDepth 4000 in
theorem qb2_19 : Qb2_ (19, fun x y => .ldc_w (x * 256 + y)) := fun cc pc x y h g e => by
  show Except.bind ((Reader.u1 (ε := DecodeError)) cc pc) _ = _
  rw [h]
  show Except.bind ((Reader.u2 (ε := DecodeError)) cc (pc + 1)) _ = _
  rw [qb_u2 g e]
  rfl
set_option maxRecDepth 4000 in
theorem qb2_20 : Qb2_ (20, fun x y => .ldc2_w (x * 256 + y)) := fun cc pc x y h g e => by
  show Except.bind ((Reader.u1 (ε := DecodeError)) cc pc) _ = _
  rw [h]
  show Except.bind ((Reader.u2 (ε := DecodeError)) cc (pc + 1)) _ = _
  rw [qb_u2 g e]
  rfl
set_option maxRecDepth 4000 in
theorem qb2_198 : Qb2_ (198, fun x y => .ifnull (Reader.signed 16 (x * 256 + y))) := fun cc pc x y h g e => by
  show Except.bind ((Reader.u1 (ε := DecodeError)) cc pc) _ = _
  rw [h]
  show Except.bind ((Reader.s2 (ε := DecodeError)) cc (pc + 1)) _ = _
  rw [qb_s2 g e]
  rfl
set_option maxRecDepth 4000 in
theorem qb2_199 : Qb2_ (199, fun x y => .ifnonnull (Reader.signed 16 (x * 256 + y))) := fun cc pc x y h g e => by
  show Except.bind ((Reader.u1 (ε := DecodeError)) cc pc) _ = _
  rw [h]
  show Except.bind ((Reader.s2 (ε := DecodeError)) cc (pc + 1)) _ = _
  rw [qb_s2 g e]
  rfl
set_option maxRecDepth 4000 in
theorem qb2_182 : Qb2_ (182, fun x y => .invokevirtual (x * 256 + y)) := fun cc pc x y h g e => by
  show Except.bind ((Reader.u1 (ε := DecodeError)) cc pc) _ = _
  rw [h]
  show Except.bind ((Reader.u2 (ε := DecodeError)) cc (pc + 1)) _ = _
  rw [qb_u2 g e]
  rfl
set_option maxRecDepth 4000 in
theorem qb2_183 : Qb2_ (183, fun x y => .invokespecial (x * 256 + y)) := fun cc pc x y h g e => by
  show Except.bind ((Reader.u1 (ε := DecodeError)) cc pc) _ = _
  rw [h]
  show Except.bind ((Reader.u2 (ε := DecodeError)) cc (pc + 1)) _ = _
  rw [qb_u2 g e]
  rfl
set_option maxRecDepth 4000 in
theorem qb2_184 : Qb2_ (184, fun x y => .invokestatic (x * 256 + y)) := fun cc pc x y h g e => by
  show Except.bind ((Reader.u1 (ε := DecodeError)) cc pc) _ = _
  rw [h]
  show Except.bind ((Reader.u2 (ε := DecodeError)) cc (pc + 1)) _ = _
  rw [qb_u2 g e]
  rfl
abbrev Qk_ : Type := Instr ⊕ ((Nat → Instr) ⊕ (Nat → Nat → Instr))
def Qg_ (n : Nat) : Qk_ → Prop
  | .inl i => Qb0_ (n, i)
  | .inr (.inl f) => Qb1_ (n, f)
  | .inr (.inr f) => Qb2_ (n, f)
def qlf_ (k : Nat) (v : Qk_) (n : Nat) : Option Qk_ := match Nat.beq n k with
  | true => some v
  | false => none
def qbr_ (m : Nat) (a b : Nat → Option Qk_) (n : Nat) : Option Qk_ := match Nat.ble n m with
  | true => a n
  | false => b n
def Qs_ (f : Nat → Option Qk_) : Prop := ∀ n v, f n = some v → Qg_ n v
theorem qs_lf {k : Nat} {v : Qk_} (h : Qg_ k v) : Qs_ (qlf_ k v) := fun n w e => by
  unfold qlf_ at e
  cases hb : Nat.beq n k with
  | true =>
    rw [hb] at e
    have e1 : n = k := Nat.eq_of_beq_eq_true hb
    have e2 : v = w := Option.some.inj e
    rw [e1, ← e2]
    exact h
  | false =>
    rw [hb] at e
    cases e
theorem qs_br {m : Nat} {a b : Nat → Option Qk_} (ha : Qs_ a) (hb : Qs_ b) : Qs_ (qbr_ m a b) := fun n w e => by
  unfold qbr_ at e
  cases hc : Nat.ble n m with
  | true =>
    rw [hc] at e
    exact ha n w e
  | false =>
    rw [hc] at e
    exact hb n w e
def qt_ : Nat → Option Qk_ := qbr_ 79 (qbr_ 32 (qbr_ 18 (qbr_ 7 (qbr_ 4 (qbr_ 2 (qlf_ 2 (.inl (.iconst (-1)))) (qbr_ 3 (qlf_ 3 (.inl (.iconst 0))) (qlf_ 4 (.inl (.iconst 1))))) (qbr_ 5 (qlf_ 5 (.inl (.iconst 2))) (qbr_ 6 (qlf_ 6 (.inl (.iconst 3))) (qlf_ 7 (.inl (.iconst 4)))))) (qbr_ 10 (qbr_ 8 (qlf_ 8 (.inl (.iconst 5))) (qbr_ 9 (qlf_ 9 (.inl (.lconst 0))) (qlf_ 10 (.inl (.lconst 1))))) (qbr_ 16 (qlf_ 16 (.inr (.inl (fun x => .bipush (Reader.signed 8 x))))) (qbr_ 17 (qlf_ 17 (.inr (.inr (fun x y => .sipush (Reader.signed 16 (x * 256 + y)))))) (qlf_ 18 (.inr (.inl (fun x => .ldc x)))))))) (qbr_ 26 (qbr_ 21 (qbr_ 19 (qlf_ 19 (.inr (.inr (fun x y => .ldc_w (x * 256 + y))))) (qbr_ 20 (qlf_ 20 (.inr (.inr (fun x y => .ldc2_w (x * 256 + y))))) (qlf_ 21 (.inr (.inl (fun x => .iload x)))))) (qbr_ 22 (qlf_ 22 (.inr (.inl (fun x => .lload x)))) (qbr_ 25 (qlf_ 25 (.inr (.inl (fun x => .aload x)))) (qlf_ 26 (.inl (.iload_n 0)))))) (qbr_ 29 (qbr_ 27 (qlf_ 27 (.inl (.iload_n 1))) (qbr_ 28 (qlf_ 28 (.inl (.iload_n 2))) (qlf_ 29 (.inl (.iload_n 3))))) (qbr_ 30 (qlf_ 30 (.inl (.lload_n 0))) (qbr_ 31 (qlf_ 31 (.inl (.lload_n 1))) (qlf_ 32 (.inl (.lload_n 2)))))))) (qbr_ 58 (qbr_ 46 (qbr_ 43 (qbr_ 33 (qlf_ 33 (.inl (.lload_n 3))) (qbr_ 42 (qlf_ 42 (.inl (.aload_n 0))) (qlf_ 43 (.inl (.aload_n 1))))) (qbr_ 44 (qlf_ 44 (.inl (.aload_n 2))) (qbr_ 45 (qlf_ 45 (.inl (.aload_n 3))) (qlf_ 46 (.inl (.iaload)))))) (qbr_ 51 (qbr_ 47 (qlf_ 47 (.inl (.laload))) (qbr_ 50 (qlf_ 50 (.inl (.aaload))) (qlf_ 51 (.inl (.baload))))) (qbr_ 54 (qlf_ 54 (.inr (.inl (fun x => .istore x)))) (qbr_ 55 (qlf_ 55 (.inr (.inl (fun x => .lstore x)))) (qlf_ 58 (.inr (.inl (fun x => .astore x)))))))) (qbr_ 64 (qbr_ 61 (qbr_ 59 (qlf_ 59 (.inl (.istore_n 0))) (qbr_ 60 (qlf_ 60 (.inl (.istore_n 1))) (qlf_ 61 (.inl (.istore_n 2))))) (qbr_ 62 (qlf_ 62 (.inl (.istore_n 3))) (qbr_ 63 (qlf_ 63 (.inl (.lstore_n 0))) (qlf_ 64 (.inl (.lstore_n 1)))))) (qbr_ 75 (qbr_ 65 (qlf_ 65 (.inl (.lstore_n 2))) (qbr_ 66 (qlf_ 66 (.inl (.lstore_n 3))) (qlf_ 75 (.inl (.astore_n 0))))) (qbr_ 77 (qbr_ 76 (qlf_ 76 (.inl (.astore_n 1))) (qlf_ 77 (.inl (.astore_n 2)))) (qbr_ 78 (qlf_ 78 (.inl (.astore_n 3))) (qlf_ 79 (.inl (.iastore))))))))) (qbr_ 136 (qbr_ 108 (qbr_ 96 (qbr_ 87 (qbr_ 80 (qlf_ 80 (.inl (.lastore))) (qbr_ 84 (qlf_ 84 (.inl (.bastore))) (qlf_ 87 (.inl (.pop))))) (qbr_ 89 (qlf_ 89 (.inl (.dup))) (qbr_ 92 (qlf_ 92 (.inl (.dup2))) (qlf_ 96 (.inl (.iadd)))))) (qbr_ 101 (qbr_ 97 (qlf_ 97 (.inl (.ladd))) (qbr_ 100 (qlf_ 100 (.inl (.isub))) (qlf_ 101 (.inl (.lsub))))) (qbr_ 104 (qlf_ 104 (.inl (.imul))) (qbr_ 105 (qlf_ 105 (.inl (.lmul))) (qlf_ 108 (.inl (.idiv))))))) (qbr_ 124 (qbr_ 116 (qbr_ 112 (qlf_ 112 (.inl (.irem))) (qbr_ 113 (qlf_ 113 (.inl (.lrem))) (qlf_ 116 (.inl (.ineg))))) (qbr_ 120 (qlf_ 120 (.inl (.ishl))) (qbr_ 122 (qlf_ 122 (.inl (.ishr))) (qlf_ 124 (.inl (.iushr)))))) (qbr_ 130 (qbr_ 126 (qlf_ 126 (.inl (.iand))) (qbr_ 128 (qlf_ 128 (.inl (.ior))) (qlf_ 130 (.inl (.ixor))))) (qbr_ 132 (qlf_ 132 (.inr (.inr (fun x y => .iinc x (Reader.signed 8 y))))) (qbr_ 133 (qlf_ 133 (.inl (.i2l))) (qlf_ 136 (.inl (.l2i)))))))) (qbr_ 163 (qbr_ 157 (qbr_ 154 (qbr_ 148 (qlf_ 148 (.inl (.lcmp))) (qbr_ 153 (qlf_ 153 (.inr (.inr (fun x y => .ifCond .eq (Reader.signed 16 (x * 256 + y)))))) (qlf_ 154 (.inr (.inr (fun x y => .ifCond .ne (Reader.signed 16 (x * 256 + y)))))))) (qbr_ 155 (qlf_ 155 (.inr (.inr (fun x y => .ifCond .lt (Reader.signed 16 (x * 256 + y)))))) (qbr_ 156 (qlf_ 156 (.inr (.inr (fun x y => .ifCond .ge (Reader.signed 16 (x * 256 + y)))))) (qlf_ 157 (.inr (.inr (fun x y => .ifCond .gt (Reader.signed 16 (x * 256 + y))))))))) (qbr_ 160 (qbr_ 158 (qlf_ 158 (.inr (.inr (fun x y => .ifCond .le (Reader.signed 16 (x * 256 + y)))))) (qbr_ 159 (qlf_ 159 (.inr (.inr (fun x y => .if_icmp .eq (Reader.signed 16 (x * 256 + y)))))) (qlf_ 160 (.inr (.inr (fun x y => .if_icmp .ne (Reader.signed 16 (x * 256 + y)))))))) (qbr_ 161 (qlf_ 161 (.inr (.inr (fun x y => .if_icmp .lt (Reader.signed 16 (x * 256 + y)))))) (qbr_ 162 (qlf_ 162 (.inr (.inr (fun x y => .if_icmp .ge (Reader.signed 16 (x * 256 + y)))))) (qlf_ 163 (.inr (.inr (fun x y => .if_icmp .gt (Reader.signed 16 (x * 256 + y)))))))))) (qbr_ 180 (qbr_ 172 (qbr_ 164 (qlf_ 164 (.inr (.inr (fun x y => .if_icmp .le (Reader.signed 16 (x * 256 + y)))))) (qbr_ 167 (qlf_ 167 (.inr (.inr (fun x y => .goto (Reader.signed 16 (x * 256 + y)))))) (qlf_ 172 (.inl (.ireturn))))) (qbr_ 173 (qlf_ 173 (.inl (.lreturn))) (qbr_ 177 (qlf_ 177 (.inl (.return_))) (qlf_ 180 (.inr (.inr (fun x y => .getfield (x * 256 + y)))))))) (qbr_ 183 (qbr_ 181 (qlf_ 181 (.inr (.inr (fun x y => .putfield (x * 256 + y))))) (qbr_ 182 (qlf_ 182 (.inr (.inr (fun x y => .invokevirtual (x * 256 + y))))) (qlf_ 183 (.inr (.inr (fun x y => .invokespecial (x * 256 + y))))))) (qbr_ 190 (qbr_ 184 (qlf_ 184 (.inr (.inr (fun x y => .invokestatic (x * 256 + y))))) (qlf_ 190 (.inl (.arraylength)))) (qbr_ 198 (qlf_ 198 (.inr (.inr (fun x y => .ifnull (Reader.signed 16 (x * 256 + y)))))) (qlf_ 199 (.inr (.inr (fun x y => .ifnonnull (Reader.signed 16 (x * 256 + y))))))))))))
set_option maxRecDepth 4000 in
theorem qt_s : Qs_ qt_ := (qs_br (qs_br (qs_br (qs_br (qs_br (qs_br (qs_lf qb0_2) (qs_br (qs_lf qb0_3) (qs_lf qb0_4))) (qs_br (qs_lf qb0_5) (qs_br (qs_lf qb0_6) (qs_lf qb0_7)))) (qs_br (qs_br (qs_lf qb0_8) (qs_br (qs_lf qb0_9) (qs_lf qb0_10))) (qs_br (qs_lf qb1_16) (qs_br (qs_lf qb2_17) (qs_lf qb1_18))))) (qs_br (qs_br (qs_br (qs_lf qb2_19) (qs_br (qs_lf qb2_20) (qs_lf qb1_21))) (qs_br (qs_lf qb1_22) (qs_br (qs_lf qb1_25) (qs_lf qb0_26)))) (qs_br (qs_br (qs_lf qb0_27) (qs_br (qs_lf qb0_28) (qs_lf qb0_29))) (qs_br (qs_lf qb0_30) (qs_br (qs_lf qb0_31) (qs_lf qb0_32)))))) (qs_br (qs_br (qs_br (qs_br (qs_lf qb0_33) (qs_br (qs_lf qb0_42) (qs_lf qb0_43))) (qs_br (qs_lf qb0_44) (qs_br (qs_lf qb0_45) (qs_lf qb0_46)))) (qs_br (qs_br (qs_lf qb0_47) (qs_br (qs_lf qb0_50) (qs_lf qb0_51))) (qs_br (qs_lf qb1_54) (qs_br (qs_lf qb1_55) (qs_lf qb1_58))))) (qs_br (qs_br (qs_br (qs_lf qb0_59) (qs_br (qs_lf qb0_60) (qs_lf qb0_61))) (qs_br (qs_lf qb0_62) (qs_br (qs_lf qb0_63) (qs_lf qb0_64)))) (qs_br (qs_br (qs_lf qb0_65) (qs_br (qs_lf qb0_66) (qs_lf qb0_75))) (qs_br (qs_br (qs_lf qb0_76) (qs_lf qb0_77)) (qs_br (qs_lf qb0_78) (qs_lf qb0_79))))))) (qs_br (qs_br (qs_br (qs_br (qs_br (qs_lf qb0_80) (qs_br (qs_lf qb0_84) (qs_lf qb0_87))) (qs_br (qs_lf qb0_89) (qs_br (qs_lf qb0_92) (qs_lf qb0_96)))) (qs_br (qs_br (qs_lf qb0_97) (qs_br (qs_lf qb0_100) (qs_lf qb0_101))) (qs_br (qs_lf qb0_104) (qs_br (qs_lf qb0_105) (qs_lf qb0_108))))) (qs_br (qs_br (qs_br (qs_lf qb0_112) (qs_br (qs_lf qb0_113) (qs_lf qb0_116))) (qs_br (qs_lf qb0_120) (qs_br (qs_lf qb0_122) (qs_lf qb0_124)))) (qs_br (qs_br (qs_lf qb0_126) (qs_br (qs_lf qb0_128) (qs_lf qb0_130))) (qs_br (qs_lf qb2_132) (qs_br (qs_lf qb0_133) (qs_lf qb0_136)))))) (qs_br (qs_br (qs_br (qs_br (qs_lf qb0_148) (qs_br (qs_lf qb2_153) (qs_lf qb2_154))) (qs_br (qs_lf qb2_155) (qs_br (qs_lf qb2_156) (qs_lf qb2_157)))) (qs_br (qs_br (qs_lf qb2_158) (qs_br (qs_lf qb2_159) (qs_lf qb2_160))) (qs_br (qs_lf qb2_161) (qs_br (qs_lf qb2_162) (qs_lf qb2_163))))) (qs_br (qs_br (qs_br (qs_lf qb2_164) (qs_br (qs_lf qb2_167) (qs_lf qb0_172))) (qs_br (qs_lf qb0_173) (qs_br (qs_lf qb0_177) (qs_lf qb2_180)))) (qs_br (qs_br (qs_lf qb2_181) (qs_br (qs_lf qb2_182) (qs_lf qb2_183))) (qs_br (qs_br (qs_lf qb2_184) (qs_lf qb0_190)) (qs_br (qs_lf qb2_198) (qs_lf qb2_199))))))))
/-- a row without its first n -/
noncomputable def qdr_ (n : Nat) (l : List UInt8) : List UInt8 := (Nat.rec (motive := fun _ => List UInt8 → List UInt8) (fun l => l) (fun _ f l => f l.tail) n : List UInt8 → List UInt8) l
theorem qdr_e : ∀ (n : Nat) (l : List UInt8), qdr_ n l = l.drop n
  | 0, _ => rfl
  | n + 1, l => by
    show qdr_ n l.tail = _
    rw [qdr_e n l.tail]
    cases l with
    | nil => simp
    | cons a l => rfl
/-- the instruction at the head of a row of bytes -/
def qv_ (l : List UInt8) : Option Qk_ → Option (Instr × Nat)
  | none => none
  | some (.inl i) => some (i, 1)
  | some (.inr (.inl f)) => (match l with
    | x :: _ => some (f x.toNat, 2)
    | [] => none)
  | some (.inr (.inr f)) => (match l with
    | x :: y :: _ => some (f x.toNat y.toNat, 3)
    | _ => none)
def qd_ : List UInt8 → Option (Instr × Nat)
  | [] => none
  | b :: r => qv_ r (qt_ b.toNat)
theorem qd_s {cc : ByteArray} {pc : Nat} {x : Instr} {n : Nat} : ∀ l : List UInt8, cc.data.toList.drop pc = l → qd_ l = some (x, n) → decode cc pc = Except.ok (x, n)
  | [], _, h => by cases h
  | b :: r, hl, h => by
    have u0 := qb_u1 hl
    have d1 : cc.data.toList.drop (pc + 1) = r := by
      rw [← List.drop_drop, hl]
      rfl
    have h' : qv_ r (qt_ b.toNat) = some (x, n) := h
    cases hq : qt_ b.toNat with
    | none =>
      rw [hq] at h'
      cases h'
    | some v =>
      have hg := qt_s _ _ hq
      rw [hq] at h'
      match v, hg, h' with
      | .inl i, hg, h' =>
        have e : (i, 1) = (x, n) := Option.some.inj h'
        have e1 : i = x := congrArg Prod.fst e
        have e2 : 1 = n := congrArg Prod.snd e
        have g := qb_d (hg cc pc u0)
        rw [← e1, ← e2, g, show pc + 1 - pc = 1 by omega]
      | .inr (.inl f), hg, h' =>
        match r, d1, h' with
        | [], _, h' => cases h'
        | c :: r, d1, h' =>
          have e : (f c.toNat, 2) = (x, n) := Option.some.inj h'
          have e1 : f c.toNat = x := congrArg Prod.fst e
          have e2 : 2 = n := congrArg Prod.snd e
          have g := qb_d (hg cc pc c.toNat u0 (qb_u1 d1))
          rw [← e1, ← e2, g, show pc + 2 - pc = 2 by omega]
      | .inr (.inr f), hg, h' =>
        match r, d1, h' with
        | [], _, h' => cases h'
        | [_], _, h' => cases h'
        | c :: y :: r, d1, h' =>
          have d2 : cc.data.toList.drop (pc + 2) = y :: r := by
            rw [show pc + 2 = pc + 1 + 1 by omega, ← List.drop_drop, d1]
            rfl
          have e : (f c.toNat y.toNat, 3) = (x, n) := Option.some.inj h'
          have e1 : f c.toNat y.toNat = x := congrArg Prod.fst e
          have e2 : 3 = n := congrArg Prod.snd e
          have g := qb_d (hg cc pc c.toNat y.toNat u0 (qb_u1 d1) (qb_u1 d2))
          rw [← e1, ← e2, g, show pc + 3 - pc = 3 by omega]
/-- a place at which a call is made -/
theorem qd_c {cc : ByteArray} {pc : Nat} {x : Instr} {n : Nat} (h : qd_ (qdr_ pc cc.data.toList) = some (x, n)) : decode cc pc = Except.ok (x, n) := by
  rw [qdr_e] at h
  exact qd_s _ rfl h
/-- decoding, by the row of bytes where that serves -/
noncomputable def qdec_ (cc : ByteArray) (pc : Nat) : Except DecodeError (Instr × Nat) := match qd_ (qdr_ pc cc.data.toList) with
  | some q => Except.ok q
  | none => decode cc pc
theorem qdec_e (cc : ByteArray) (pc : Nat) : qdec_ cc pc = decode cc pc := by
  unfold qdec_
  cases h : qd_ (qdr_ pc cc.data.toList) with
  | none => rfl
  | some q =>
    obtain ⟨x, n⟩ := q
    exact (qd_c h).symm
def qck_ (F : Zf) (ret : Option FieldType) : List UInt8 → Int → List Instr → Int → Bool
  | _, pc, [], pe => decide (pc = pe)
  | l, pc, i :: r, pe => match qd_ l with
    | some (x, n) => decide (no_ F ret pc x = some (de_ i)) && decide (n = il_ x) && qck_ F ret (l.drop n) (pc + (n : Int)) r pe
    | none => false
theorem qck_s {F : Zf} {ret : Option FieldType} {cc : ByteArray} : ∀ (ins : List Instr) (pc : Int) (l : List UInt8) (pe : Int), 0 ≤ pc → cc.data.toList.drop pc.toNat = l → qck_ F ret l pc ins pe = true → ck_ F ret cc pc ins pe = true
  | [], pc, l, pe, _, _, h => by
    unfold qck_ at h
    unfold ck_
    exact h
  | i :: r, pc, l, pe, hp, hl, h => by
    unfold qck_ at h
    cases hf : qd_ l with
    | none =>
      rw [hf] at h
      cases h
    | some q =>
      obtain ⟨x, n⟩ := q
      rw [hf] at h
      have h' : (decide (no_ F ret pc x = some (de_ i)) && decide (n = il_ x) && qck_ F ret (l.drop n) (pc + (n : Int)) r pe) = true := h
      have d := qd_s l hl hf
      rw [Bool.and_eq_true] at h'
      have g := qck_s (F := F) (ret := ret) (cc := cc) r (pc + (n : Int)) (l.drop n) pe (by omega) (by rw [show (pc + (n : Int)).toNat = pc.toNat + n by omega, ← List.drop_drop, hl]) h'.2
      unfold ck_
      rw [d]
      show (decide (no_ F ret pc x = some (de_ i)) && decide (n = il_ x) && ck_ F ret cc (pc + (n : Int)) r pe) = true
      rw [Bool.and_eq_true]
      exact ⟨h'.1, g⟩
theorem qck_r {F : Zf} {ret : Option FieldType} {cc : ByteArray} {ins : List Instr} {pc pe : Int} (hp : 0 ≤ pc) (h : qck_ F ret (qdr_ pc.toNat cc.data.toList) pc ins pe = true) : ck_ F ret cc pc ins pe = true := qck_s ins pc _ pe hp rfl (by rw [← qdr_e]; exact h)
-- what a block does, an instruction by a definition of its own
def x_iconst (n : Int) (C : Zl → List Zv → Zt → Prop) : Zl → List Zv → Zt → Prop := fun ls st T => C ls (vI n :: st) T
theorem xe_iconst {K : Int → Zl → List Zv → Zt → Prop} {P : Zt → Option Zv → Prop} {r : List Instr} {pe : Int} (n : Int) : sx_ K P (.iconst n :: r) pe = x_iconst n (sx_ K P r pe) := by
  funext ls st T
  rfl
def x_sipush (n : Int) (C : Zl → List Zv → Zt → Prop) : Zl → List Zv → Zt → Prop := fun ls st T => C ls (vL n :: st) T
theorem xe_sipush {K : Int → Zl → List Zv → Zt → Prop} {P : Zt → Option Zv → Prop} {r : List Instr} {pe : Int} (n : Int) : sx_ K P (.sipush n :: r) pe = x_sipush n (sx_ K P r pe) := by
  funext ls st T
  rfl
def x_iload (k : Nat) (C : Zl → List Zv → Zt → Prop) : Zl → List Zv → Zt → Prop := fun ls st T => (match ls[k]? with
      | some (some (.inl x)) => C ls (vI x :: st) T
      | _ => False)
theorem xe_iload {K : Int → Zl → List Zv → Zt → Prop} {P : Zt → Option Zv → Prop} {r : List Instr} {pe : Int} (k : Nat) : sx_ K P (.iload k :: r) pe = x_iload k (sx_ K P r pe) := by
  funext ls st T
  rfl
def x_aload (k : Nat) (C : Zl → List Zv → Zt → Prop) : Zl → List Zv → Zt → Prop := fun ls st T => (match ls[k]? with
      | some (some (.inr (.inr q))) => C ls (.inr (.inr q) :: st) T
      | _ => False)
theorem xe_aload {K : Int → Zl → List Zv → Zt → Prop} {P : Zt → Option Zv → Prop} {r : List Instr} {pe : Int} (k : Nat) : sx_ K P (.aload k :: r) pe = x_aload k (sx_ K P r pe) := by
  funext ls st T
  rfl
def x_lload (k : Nat) (C : Zl → List Zv → Zt → Prop) : Zl → List Zv → Zt → Prop := fun ls st T => (match ls[k]? with
      | some (some (.inr (.inl x))) => C ls (vL x :: st) T
      | _ => False)
theorem xe_lload {K : Int → Zl → List Zv → Zt → Prop} {P : Zt → Option Zv → Prop} {r : List Instr} {pe : Int} (k : Nat) : sx_ K P (.lload k :: r) pe = x_lload k (sx_ K P r pe) := by
  funext ls st T
  rfl
def x_istore (k : Nat) (C : Zl → List Zv → Zt → Prop) : Zl → List Zv → Zt → Prop := fun ls st T => (match st with
      | .inl x :: st => st_ (fun ls => C ls st T) ls k (some (vI x))
      | _ => False)
theorem xe_istore {K : Int → Zl → List Zv → Zt → Prop} {P : Zt → Option Zv → Prop} {r : List Instr} {pe : Int} (k : Nat) : sx_ K P (.istore k :: r) pe = x_istore k (sx_ K P r pe) := by
  funext ls st T
  rfl
def x_astore (k : Nat) (C : Zl → List Zv → Zt → Prop) : Zl → List Zv → Zt → Prop := fun ls st T => (match st with
      | .inr (.inr q) :: st => st_ (fun ls => C ls st T) ls k (some (.inr (.inr q)))
      | _ => False)
theorem xe_astore {K : Int → Zl → List Zv → Zt → Prop} {P : Zt → Option Zv → Prop} {r : List Instr} {pe : Int} (k : Nat) : sx_ K P (.astore k :: r) pe = x_astore k (sx_ K P r pe) := by
  funext ls st T
  rfl
def x_lstore (k : Nat) (C : Zl → List Zv → Zt → Prop) : Zl → List Zv → Zt → Prop := fun ls st T => (match st with
      | .inr (.inl x) :: st => st_ (fun ls => st_ (fun ls => st_ (fun ls => C ls st T) ls k (some (vL x))) ls (k + 1) none) ls k none
      | _ => False)
theorem xe_lstore {K : Int → Zl → List Zv → Zt → Prop} {P : Zt → Option Zv → Prop} {r : List Instr} {pe : Int} (k : Nat) : sx_ K P (.lstore k :: r) pe = x_lstore k (sx_ K P r pe) := by
  funext ls st T
  rfl
def x_iinc (k : Nat) (n : Int) (C : Zl → List Zv → Zt → Prop) : Zl → List Zv → Zt → Prop := fun ls st T => (match ls[k]? with
      | some (some (.inl x)) => rg_ (x + n) (st_ (fun ls => C ls st T) ls k (some (vI (x + n))))
      | _ => False)
theorem xe_iinc {K : Int → Zl → List Zv → Zt → Prop} {P : Zt → Option Zv → Prop} {r : List Instr} {pe : Int} (k : Nat) (n : Int) : sx_ K P (.iinc k n :: r) pe = x_iinc k n (sx_ K P r pe) := by
  funext ls st T
  rfl
def x_iadd (C : Zl → List Zv → Zt → Prop) : Zl → List Zv → Zt → Prop := fun ls st T => (match st with
      | .inl y :: .inl x :: st => rg_ (x + y) (C ls (vI (x + y) :: st) T)
      | _ => False)
theorem xe_iadd {K : Int → Zl → List Zv → Zt → Prop} {P : Zt → Option Zv → Prop} {r : List Instr} {pe : Int} : sx_ K P (.iadd :: r) pe = x_iadd (sx_ K P r pe) := by
  funext ls st T
  rfl
def x_isub (C : Zl → List Zv → Zt → Prop) : Zl → List Zv → Zt → Prop := fun ls st T => (match st with
      | .inl y :: .inl x :: st => rg_ (x - y) (C ls (vI (x - y) :: st) T)
      | _ => False)
theorem xe_isub {K : Int → Zl → List Zv → Zt → Prop} {P : Zt → Option Zv → Prop} {r : List Instr} {pe : Int} : sx_ K P (.isub :: r) pe = x_isub (sx_ K P r pe) := by
  funext ls st T
  rfl
def x_imul (C : Zl → List Zv → Zt → Prop) : Zl → List Zv → Zt → Prop := fun ls st T => (match st with
      | .inl y :: .inl x :: st => rg_ (x * y) (C ls (vI (x * y) :: st) T)
      | _ => False)
theorem xe_imul {K : Int → Zl → List Zv → Zt → Prop} {P : Zt → Option Zv → Prop} {r : List Instr} {pe : Int} : sx_ K P (.imul :: r) pe = x_imul (sx_ K P r pe) := by
  funext ls st T
  rfl
def x_fadd (C : Zl → List Zv → Zt → Prop) : Zl → List Zv → Zt → Prop := fun ls st T => (match st with
      | .inl y :: .inl x :: st => rh_ (wr_ (x + y)) (C ls (vI (wr_ (x + y)) :: st) T)
      | _ => False)
theorem xe_fadd {K : Int → Zl → List Zv → Zt → Prop} {P : Zt → Option Zv → Prop} {r : List Instr} {pe : Int} : sx_ K P (.fadd :: r) pe = x_fadd (sx_ K P r pe) := by
  funext ls st T
  rfl
def x_fsub (C : Zl → List Zv → Zt → Prop) : Zl → List Zv → Zt → Prop := fun ls st T => (match st with
      | .inl y :: .inl x :: st => rh_ (wr_ (x - y)) (C ls (vI (wr_ (x - y)) :: st) T)
      | _ => False)
theorem xe_fsub {K : Int → Zl → List Zv → Zt → Prop} {P : Zt → Option Zv → Prop} {r : List Instr} {pe : Int} : sx_ K P (.fsub :: r) pe = x_fsub (sx_ K P r pe) := by
  funext ls st T
  rfl
def x_fmul (C : Zl → List Zv → Zt → Prop) : Zl → List Zv → Zt → Prop := fun ls st T => (match st with
      | .inl y :: .inl x :: st => rh_ (wr_ (x * y)) (C ls (vI (wr_ (x * y)) :: st) T)
      | _ => False)
theorem xe_fmul {K : Int → Zl → List Zv → Zt → Prop} {P : Zt → Option Zv → Prop} {r : List Instr} {pe : Int} : sx_ K P (.fmul :: r) pe = x_fmul (sx_ K P r pe) := by
  funext ls st T
  rfl
def x_ineg (C : Zl → List Zv → Zt → Prop) : Zl → List Zv → Zt → Prop := fun ls st T => (match st with
      | .inl x :: st => rg_ (-x) (C ls (vI (-x) :: st) T)
      | _ => False)
theorem xe_ineg {K : Int → Zl → List Zv → Zt → Prop} {P : Zt → Option Zv → Prop} {r : List Instr} {pe : Int} : sx_ K P (.ineg :: r) pe = x_ineg (sx_ K P r pe) := by
  funext ls st T
  rfl
def x_fneg (C : Zl → List Zv → Zt → Prop) : Zl → List Zv → Zt → Prop := fun ls st T => (match st with
      | .inl x :: st => rh_ (wr_ (-x)) (C ls (vI (wr_ (-x)) :: st) T)
      | _ => False)
theorem xe_fneg {K : Int → Zl → List Zv → Zt → Prop} {P : Zt → Option Zv → Prop} {r : List Instr} {pe : Int} : sx_ K P (.fneg :: r) pe = x_fneg (sx_ K P r pe) := by
  funext ls st T
  rfl
def x_idiv (C : Zl → List Zv → Zt → Prop) : Zl → List Zv → Zt → Prop := fun ls st T => (match st with
      | .inl y :: .inl x :: st => 0 ≤ x ∧ 0 < y ∧ C ls (vI (x / y) :: st) T
      | _ => False)
theorem xe_idiv {K : Int → Zl → List Zv → Zt → Prop} {P : Zt → Option Zv → Prop} {r : List Instr} {pe : Int} : sx_ K P (.idiv :: r) pe = x_idiv (sx_ K P r pe) := by
  funext ls st T
  rfl
def x_fdiv (C : Zl → List Zv → Zt → Prop) : Zl → List Zv → Zt → Prop := fun ls st T => (match st with
      | .inl y :: .inl x :: st => 0 < y ∧ rh_ (dq_ x y) (C ls (vI (dq_ x y) :: st) T)
      | _ => False)
theorem xe_fdiv {K : Int → Zl → List Zv → Zt → Prop} {P : Zt → Option Zv → Prop} {r : List Instr} {pe : Int} : sx_ K P (.fdiv :: r) pe = x_fdiv (sx_ K P r pe) := by
  funext ls st T
  rfl
def x_frem (C : Zl → List Zv → Zt → Prop) : Zl → List Zv → Zt → Prop := fun ls st T => (match st with
      | .inl y :: .inl x :: st => 0 < y ∧ rh_ (dr_ x y) (C ls (vI (dr_ x y) :: st) T)
      | _ => False)
theorem xe_frem {K : Int → Zl → List Zv → Zt → Prop} {P : Zt → Option Zv → Prop} {r : List Instr} {pe : Int} : sx_ K P (.frem :: r) pe = x_frem (sx_ K P r pe) := by
  funext ls st T
  rfl
def x_dadd (C : Zl → List Zv → Zt → Prop) : Zl → List Zv → Zt → Prop := fun ls st T => (match st with
      | .inr (.inl y) :: .inr (.inl x) :: st => rk_ (wq_ (x + y)) (C ls (vL (wq_ (x + y)) :: st) T)
      | _ => False)
theorem xe_dadd {K : Int → Zl → List Zv → Zt → Prop} {P : Zt → Option Zv → Prop} {r : List Instr} {pe : Int} : sx_ K P (.dadd :: r) pe = x_dadd (sx_ K P r pe) := by
  funext ls st T
  rfl
def x_dsub (C : Zl → List Zv → Zt → Prop) : Zl → List Zv → Zt → Prop := fun ls st T => (match st with
      | .inr (.inl y) :: .inr (.inl x) :: st => rk_ (wq_ (x - y)) (C ls (vL (wq_ (x - y)) :: st) T)
      | _ => False)
theorem xe_dsub {K : Int → Zl → List Zv → Zt → Prop} {P : Zt → Option Zv → Prop} {r : List Instr} {pe : Int} : sx_ K P (.dsub :: r) pe = x_dsub (sx_ K P r pe) := by
  funext ls st T
  rfl
def x_dmul (C : Zl → List Zv → Zt → Prop) : Zl → List Zv → Zt → Prop := fun ls st T => (match st with
      | .inr (.inl y) :: .inr (.inl x) :: st => rk_ (wq_ (x * y)) (C ls (vL (wq_ (x * y)) :: st) T)
      | _ => False)
theorem xe_dmul {K : Int → Zl → List Zv → Zt → Prop} {P : Zt → Option Zv → Prop} {r : List Instr} {pe : Int} : sx_ K P (.dmul :: r) pe = x_dmul (sx_ K P r pe) := by
  funext ls st T
  rfl
def x_irem (C : Zl → List Zv → Zt → Prop) : Zl → List Zv → Zt → Prop := fun ls st T => (match st with
      | .inl y :: .inl x :: st => 0 ≤ x ∧ 0 < y ∧ C ls (vI (x % y) :: st) T
      | _ => False)
theorem xe_irem {K : Int → Zl → List Zv → Zt → Prop} {P : Zt → Option Zv → Prop} {r : List Instr} {pe : Int} : sx_ K P (.irem :: r) pe = x_irem (sx_ K P r pe) := by
  funext ls st T
  rfl
def x_iand (C : Zl → List Zv → Zt → Prop) : Zl → List Zv → Zt → Prop := fun ls st T => (match st with
      | .inl y :: .inl x :: st => rh_ (an_ x y) (C ls (vI (an_ x y) :: st) T)
      | _ => False)
theorem xe_iand {K : Int → Zl → List Zv → Zt → Prop} {P : Zt → Option Zv → Prop} {r : List Instr} {pe : Int} : sx_ K P (.iand :: r) pe = x_iand (sx_ K P r pe) := by
  funext ls st T
  rfl
def x_ior (C : Zl → List Zv → Zt → Prop) : Zl → List Zv → Zt → Prop := fun ls st T => (match st with
      | .inl y :: .inl x :: st => rh_ (or_ x y) (C ls (vI (or_ x y) :: st) T)
      | _ => False)
theorem xe_ior {K : Int → Zl → List Zv → Zt → Prop} {P : Zt → Option Zv → Prop} {r : List Instr} {pe : Int} : sx_ K P (.ior :: r) pe = x_ior (sx_ K P r pe) := by
  funext ls st T
  rfl
def x_ixor (C : Zl → List Zv → Zt → Prop) : Zl → List Zv → Zt → Prop := fun ls st T => (match st with
      | .inl y :: .inl x :: st => rh_ (xo_ x y) (C ls (vI (xo_ x y) :: st) T)
      | _ => False)
theorem xe_ixor {K : Int → Zl → List Zv → Zt → Prop} {P : Zt → Option Zv → Prop} {r : List Instr} {pe : Int} : sx_ K P (.ixor :: r) pe = x_ixor (sx_ K P r pe) := by
  funext ls st T
  rfl
def x_ishl (C : Zl → List Zv → Zt → Prop) : Zl → List Zv → Zt → Prop := fun ls st T => (match st with
      | .inl y :: .inl x :: st => rh_ (sl_ x y) (C ls (vI (sl_ x y) :: st) T)
      | _ => False)
theorem xe_ishl {K : Int → Zl → List Zv → Zt → Prop} {P : Zt → Option Zv → Prop} {r : List Instr} {pe : Int} : sx_ K P (.ishl :: r) pe = x_ishl (sx_ K P r pe) := by
  funext ls st T
  rfl
def x_ishr (C : Zl → List Zv → Zt → Prop) : Zl → List Zv → Zt → Prop := fun ls st T => (match st with
      | .inl y :: .inl x :: st => rh_ (sr_ x y) (C ls (vI (sr_ x y) :: st) T)
      | _ => False)
theorem xe_ishr {K : Int → Zl → List Zv → Zt → Prop} {P : Zt → Option Zv → Prop} {r : List Instr} {pe : Int} : sx_ K P (.ishr :: r) pe = x_ishr (sx_ K P r pe) := by
  funext ls st T
  rfl
def x_iushr (C : Zl → List Zv → Zt → Prop) : Zl → List Zv → Zt → Prop := fun ls st T => (match st with
      | .inl y :: .inl x :: st => rh_ (us_ x y) (C ls (vI (us_ x y) :: st) T)
      | _ => False)
theorem xe_iushr {K : Int → Zl → List Zv → Zt → Prop} {P : Zt → Option Zv → Prop} {r : List Instr} {pe : Int} : sx_ K P (.iushr :: r) pe = x_iushr (sx_ K P r pe) := by
  funext ls st T
  rfl
def x_i2l (C : Zl → List Zv → Zt → Prop) : Zl → List Zv → Zt → Prop := fun ls st T => (match st with
      | .inl x :: st => C ls (vL x :: st) T
      | _ => False)
theorem xe_i2l {K : Int → Zl → List Zv → Zt → Prop} {P : Zt → Option Zv → Prop} {r : List Instr} {pe : Int} : sx_ K P (.i2l :: r) pe = x_i2l (sx_ K P r pe) := by
  funext ls st T
  rfl
def x_l2i (C : Zl → List Zv → Zt → Prop) : Zl → List Zv → Zt → Prop := fun ls st T => (match st with
      | .inr (.inl x) :: st => rg_ x (C ls (vI x :: st) T)
      | _ => False)
theorem xe_l2i {K : Int → Zl → List Zv → Zt → Prop} {P : Zt → Option Zv → Prop} {r : List Instr} {pe : Int} : sx_ K P (.l2i :: r) pe = x_l2i (sx_ K P r pe) := by
  funext ls st T
  rfl
def x_lsub (C : Zl → List Zv → Zt → Prop) : Zl → List Zv → Zt → Prop := fun ls st T => (match st with
      | .inr (.inl y) :: .inr (.inl x) :: st => rl_ (x - y) (C ls (vL (x - y) :: st) T)
      | _ => False)
theorem xe_lsub {K : Int → Zl → List Zv → Zt → Prop} {P : Zt → Option Zv → Prop} {r : List Instr} {pe : Int} : sx_ K P (.lsub :: r) pe = x_lsub (sx_ K P r pe) := by
  funext ls st T
  rfl
def x_lrem (C : Zl → List Zv → Zt → Prop) : Zl → List Zv → Zt → Prop := fun ls st T => (match st with
      | .inr (.inl y) :: .inr (.inl x) :: st => 0 ≤ x ∧ 0 < y ∧ C ls (vL (x % y) :: st) T
      | _ => False)
theorem xe_lrem {K : Int → Zl → List Zv → Zt → Prop} {P : Zt → Option Zv → Prop} {r : List Instr} {pe : Int} : sx_ K P (.lrem :: r) pe = x_lrem (sx_ K P r pe) := by
  funext ls st T
  rfl
def x_lcmp (C : Zl → List Zv → Zt → Prop) : Zl → List Zv → Zt → Prop := fun ls st T => (match st with
      | .inr (.inl y) :: .inr (.inl x) :: st => (x < y → C ls (vI (-1) :: st) T) ∧ (x = y → C ls (vI 0 :: st) T) ∧ (y < x → C ls (vI 1 :: st) T)
      | _ => False)
theorem xe_lcmp {K : Int → Zl → List Zv → Zt → Prop} {P : Zt → Option Zv → Prop} {r : List Instr} {pe : Int} : sx_ K P (.lcmp :: r) pe = x_lcmp (sx_ K P r pe) := by
  funext ls st T
  rfl
def x_dup (C : Zl → List Zv → Zt → Prop) : Zl → List Zv → Zt → Prop := fun ls st T => (match st with
      | .inl x :: st => C ls (vI x :: vI x :: st) T
      | .inr (.inr q) :: st => C ls (.inr (.inr q) :: .inr (.inr q) :: st) T
      | _ => False)
theorem xe_dup {K : Int → Zl → List Zv → Zt → Prop} {P : Zt → Option Zv → Prop} {r : List Instr} {pe : Int} : sx_ K P (.dup :: r) pe = x_dup (sx_ K P r pe) := by
  funext ls st T
  rfl
def x_dup2 (C : Zl → List Zv → Zt → Prop) : Zl → List Zv → Zt → Prop := fun ls st T => (match st with
      | .inl y :: .inr (.inr q) :: st => C ls (vI y :: .inr (.inr q) :: vI y :: .inr (.inr q) :: st) T
      | _ => False)
theorem xe_dup2 {K : Int → Zl → List Zv → Zt → Prop} {P : Zt → Option Zv → Prop} {r : List Instr} {pe : Int} : sx_ K P (.dup2 :: r) pe = x_dup2 (sx_ K P r pe) := by
  funext ls st T
  rfl
def x_pop (C : Zl → List Zv → Zt → Prop) : Zl → List Zv → Zt → Prop := fun ls st T => (match st with
      | .inl _ :: st => C ls st T
      | .inr (.inr _) :: st => C ls st T
      | _ => False)
theorem xe_pop {K : Int → Zl → List Zv → Zt → Prop} {P : Zt → Option Zv → Prop} {r : List Instr} {pe : Int} : sx_ K P (.pop :: r) pe = x_pop (sx_ K P r pe) := by
  funext ls st T
  rfl
def x_goto (t : Int) (K : Int → Zl → List Zv → Zt → Prop) : Zl → List Zv → Zt → Prop := fun ls st T => K t ls st T
theorem xe_goto {K : Int → Zl → List Zv → Zt → Prop} {P : Zt → Option Zv → Prop} {r : List Instr} {pe : Int} (t : Int) : sx_ K P (.goto t :: r) pe = x_goto t K := by
  funext ls st T
  rfl
def x_if_icmp (c : ClassFile.Cond) (t : Int) (K : Int → Zl → List Zv → Zt → Prop) (C : Zl → List Zv → Zt → Prop) : Zl → List Zv → Zt → Prop := fun ls st T => (match st with
      | .inl y :: .inl x :: st => br_ c x y (K t ls st T) (C ls st T)
      | _ => False)
theorem xe_if_icmp {K : Int → Zl → List Zv → Zt → Prop} {P : Zt → Option Zv → Prop} {r : List Instr} {pe : Int} (c : ClassFile.Cond) (t : Int) : sx_ K P (.if_icmp c t :: r) pe = x_if_icmp c t K (sx_ K P r pe) := by
  funext ls st T
  rfl
def x_ifCond (c : ClassFile.Cond) (t : Int) (K : Int → Zl → List Zv → Zt → Prop) (C : Zl → List Zv → Zt → Prop) : Zl → List Zv → Zt → Prop := fun ls st T => (match st with
      | .inl x :: st => br_ c x 0 (K t ls st T) (C ls st T)
      | _ => False)
theorem xe_ifCond {K : Int → Zl → List Zv → Zt → Prop} {P : Zt → Option Zv → Prop} {r : List Instr} {pe : Int} (c : ClassFile.Cond) (t : Int) : sx_ K P (.ifCond c t :: r) pe = x_ifCond c t K (sx_ K P r pe) := by
  funext ls st T
  rfl
def x_ifnull (t : Int) (K : Int → Zl → List Zv → Zt → Prop) (C : Zl → List Zv → Zt → Prop) : Zl → List Zv → Zt → Prop := fun ls st T => (match st with
      | .inr (.inr none) :: st => K t ls st T
      | .inr (.inr (some _)) :: st => C ls st T
      | _ => False)
theorem xe_ifnull {K : Int → Zl → List Zv → Zt → Prop} {P : Zt → Option Zv → Prop} {r : List Instr} {pe : Int} (t : Int) : sx_ K P (.ifnull t :: r) pe = x_ifnull t K (sx_ K P r pe) := by
  funext ls st T
  rfl
def x_ifnonnull (t : Int) (K : Int → Zl → List Zv → Zt → Prop) (C : Zl → List Zv → Zt → Prop) : Zl → List Zv → Zt → Prop := fun ls st T => (match st with
      | .inr (.inr none) :: st => C ls st T
      | .inr (.inr (some _)) :: st => K t ls st T
      | _ => False)
theorem xe_ifnonnull {K : Int → Zl → List Zv → Zt → Prop} {P : Zt → Option Zv → Prop} {r : List Instr} {pe : Int} (t : Int) : sx_ K P (.ifnonnull t :: r) pe = x_ifnonnull t K (sx_ K P r pe) := by
  funext ls st T
  rfl
def x_iaload (C : Zl → List Zv → Zt → Prop) : Zl → List Zv → Zt → Prop := fun ls st T => (match st with
      | .inl x :: .inr (.inr (some (k, i))) :: st => (match ta_ k with
        | some (1, some n, lo, hi) => 0 ≤ x ∧ x < n ∧ (lo ≤ T k i x → T k i x ≤ hi → C ls (vI (T k i x) :: st) T)
        | some (1, none, lo, hi) => 0 ≤ x ∧ x < T k i (-2) ∧ (lo ≤ T k i x → T k i x ≤ hi → C ls (vI (T k i x) :: st) T)
        | _ => False)
      | _ => False)
theorem xe_iaload {K : Int → Zl → List Zv → Zt → Prop} {P : Zt → Option Zv → Prop} {r : List Instr} {pe : Int} : sx_ K P (.iaload :: r) pe = x_iaload (sx_ K P r pe) := by
  funext ls st T
  rfl
def x_baload (C : Zl → List Zv → Zt → Prop) : Zl → List Zv → Zt → Prop := fun ls st T => (match st with
      | .inl x :: .inr (.inr (some (k, i))) :: st => (match ta_ k with
        | some (2, some n, lo, hi) => 0 ≤ x ∧ x < n ∧ (lo ≤ T k i x → T k i x ≤ hi → C ls (vI (T k i x) :: st) T)
        | _ => False)
      | _ => False)
theorem xe_baload {K : Int → Zl → List Zv → Zt → Prop} {P : Zt → Option Zv → Prop} {r : List Instr} {pe : Int} : sx_ K P (.baload :: r) pe = x_baload (sx_ K P r pe) := by
  funext ls st T
  rfl
def x_laload (C : Zl → List Zv → Zt → Prop) : Zl → List Zv → Zt → Prop := fun ls st T => (match st with
      | .inl x :: .inr (.inr (some (k, i))) :: st => (match ta_ k with
        | some (3, some n, lo, hi) => 0 ≤ x ∧ x < n ∧ (lo ≤ T k i x → T k i x ≤ hi → C ls (vL (T k i x) :: st) T)
        | _ => False)
      | _ => False)
theorem xe_laload {K : Int → Zl → List Zv → Zt → Prop} {P : Zt → Option Zv → Prop} {r : List Instr} {pe : Int} : sx_ K P (.laload :: r) pe = x_laload (sx_ K P r pe) := by
  funext ls st T
  rfl
def x_aaload (C : Zl → List Zv → Zt → Prop) : Zl → List Zv → Zt → Prop := fun ls st T => (match st with
      | .inl x :: .inr (.inr (some (k, i))) :: st => (match ta_ k with
        | some (4, some n, _) => 0 ≤ x ∧ x < n ∧ (T k i x = 0 → C ls (vN :: st) T) ∧ (¬ T k i x = 0 → C ls (vR 100 x :: st) T)
        | some (5, some n, _) => 0 ≤ x ∧ x < n ∧ (T k i x = 0 → C ls (vN :: st) T) ∧ (¬ T k i x = 0 → C ls (vR 102 x :: st) T)
        | _ => False)
      | _ => False)
theorem xe_aaload {K : Int → Zl → List Zv → Zt → Prop} {P : Zt → Option Zv → Prop} {r : List Instr} {pe : Int} : sx_ K P (.aaload :: r) pe = x_aaload (sx_ K P r pe) := by
  funext ls st T
  rfl
def x_iastore (C : Zl → List Zv → Zt → Prop) : Zl → List Zv → Zt → Prop := fun ls st T => (match st with
      | .inl v :: .inl x :: .inr (.inr (some (k, i))) :: st => (match ta_ k with
        | some (1, some n, lo, hi) => 0 ≤ x ∧ x < n ∧ lo ≤ v ∧ v ≤ hi ∧ C ls st (up_ T k i x v)
        | some (1, none, lo, hi) => 0 ≤ x ∧ x < T k i (-2) ∧ lo ≤ v ∧ v ≤ hi ∧ C ls st (up_ T k i x v)
        | _ => False)
      | _ => False)
theorem xe_iastore {K : Int → Zl → List Zv → Zt → Prop} {P : Zt → Option Zv → Prop} {r : List Instr} {pe : Int} : sx_ K P (.iastore :: r) pe = x_iastore (sx_ K P r pe) := by
  funext ls st T
  rfl
def x_bastore (C : Zl → List Zv → Zt → Prop) : Zl → List Zv → Zt → Prop := fun ls st T => (match st with
      | .inl v :: .inl x :: .inr (.inr (some (k, i))) :: st => (match ta_ k with
        | some (2, some n, lo, hi) => 0 ≤ x ∧ x < n ∧ lo ≤ v ∧ v ≤ hi ∧ C ls st (up_ T k i x v)
        | _ => False)
      | _ => False)
theorem xe_bastore {K : Int → Zl → List Zv → Zt → Prop} {P : Zt → Option Zv → Prop} {r : List Instr} {pe : Int} : sx_ K P (.bastore :: r) pe = x_bastore (sx_ K P r pe) := by
  funext ls st T
  rfl
def x_lastore (C : Zl → List Zv → Zt → Prop) : Zl → List Zv → Zt → Prop := fun ls st T => (match st with
      | .inr (.inl v) :: .inl x :: .inr (.inr (some (k, i))) :: st => (match ta_ k with
        | some (3, some n, lo, hi) => 0 ≤ x ∧ x < n ∧ lo ≤ v ∧ v ≤ hi ∧ C ls st (up_ T k i x v)
        | _ => False)
      | _ => False)
theorem xe_lastore {K : Int → Zl → List Zv → Zt → Prop} {P : Zt → Option Zv → Prop} {r : List Instr} {pe : Int} : sx_ K P (.lastore :: r) pe = x_lastore (sx_ K P r pe) := by
  funext ls st T
  rfl
def x_arraylength (C : Zl → List Zv → Zt → Prop) : Zl → List Zv → Zt → Prop := fun ls st T => (match st with
      | .inr (.inr (some (k, i))) :: st => (match ta_ k with
        | some (_, some n, _) => C ls (vI n :: st) T
        | some (_, none, _) => 0 ≤ T k i (-2) → T k i (-2) ≤ 2147483647 → C ls (vI (T k i (-2)) :: st) T
        | _ => False)
      | _ => False)
theorem xe_arraylength {K : Int → Zl → List Zv → Zt → Prop} {P : Zt → Option Zv → Prop} {r : List Instr} {pe : Int} : sx_ K P (.arraylength :: r) pe = x_arraylength (sx_ K P r pe) := by
  funext ls st T
  rfl
def x_ireturn (P : Zt → Option Zv → Prop) : Zl → List Zv → Zt → Prop := fun ls st T => (match st with
      | [.inl x] => P T (some (vI x))
      | _ => False)
theorem xe_ireturn {K : Int → Zl → List Zv → Zt → Prop} {P : Zt → Option Zv → Prop} {r : List Instr} {pe : Int} : sx_ K P (.ireturn :: r) pe = x_ireturn P := by
  funext ls st T
  rfl
def x_lreturn (P : Zt → Option Zv → Prop) : Zl → List Zv → Zt → Prop := fun ls st T => (match st with
      | [.inr (.inl x)] => P T (some (vL x))
      | _ => False)
theorem xe_lreturn {K : Int → Zl → List Zv → Zt → Prop} {P : Zt → Option Zv → Prop} {r : List Instr} {pe : Int} : sx_ K P (.lreturn :: r) pe = x_lreturn P := by
  funext ls st T
  rfl
def x_return_ (P : Zt → Option Zv → Prop) : Zl → List Zv → Zt → Prop := fun ls st T => (match st with
      | [] => P T none
      | _ => False)
theorem xe_return_ {K : Int → Zl → List Zv → Zt → Prop} {P : Zt → Option Zv → Prop} {r : List Instr} {pe : Int} : sx_ K P (.return_ :: r) pe = x_return_ P := by
  funext ls st T
  rfl
theorem xe_nil {K : Int → Zl → List Zv → Zt → Prop} {P : Zt → Option Zv → Prop} {pe : Int} : sx_ K P [] pe = K pe := by
  funext ls st T
  rfl
def x_g0 (kk : Nat) (j lo hi : Int) (C : Zl → List Zv → Zt → Prop) : Zl → List Zv → Zt → Prop := fun ls st T => match st with
  | .inr (.inr (some (k, i))) :: st => (match Nat.beq k kk with
    | true => (lo ≤ T k i j → T k i j ≤ hi → C ls (vI (T k i j) :: st) T)
    | false => False)
  | _ => False
theorem xe_g0 {K : Int → Zl → List Zv → Zt → Prop} {P : Zt → Option Zv → Prop} {r : List Instr} {pe ci j : Int} {q : Array Int} {kk : Nat} {a : Nat} {lo hi : Int} (hk : kk = 100 + ci.toNat) (h : (tf_ kk)[j.toNat]? = some (0, a, lo, hi)) : sx_ K P (.tableswitch 0 ci j q :: r) pe = x_g0 kk j lo hi (sx_ K P r pe) := by
  funext ls st T
  match st with
  | [] => rfl
  | .inl _ :: _ => rfl
  | .inr (.inl _) :: _ => rfl
  | .inr (.inr none) :: _ => rfl
  | .inr (.inr (some (k, i))) :: st =>
    show (if k = 100 + ci.toNat then (match (tf_ k)[j.toNat]? with
            | some (0, _, lo, hi) => lo ≤ T k i j → T k i j ≤ hi → sx_ K P r pe ls (vI (T k i j) :: st) T
            | some (1, k', _) => sx_ K P r pe ls (vR k' 0 :: st) T
            | some (2, k', _) => sx_ K P r pe ls (vR k' i :: st) T
            | some (3, k', _) => sx_ K P r pe ls (vR k' (T k i j) :: st) T
            | some (4, k', _) => (T k i j = 0 → sx_ K P r pe ls (vN :: st) T) ∧ (¬ T k i j = 0 → sx_ K P r pe ls (vR k' i :: st) T)
            | some (5, k', _) => (T k i j = 0 → sx_ K P r pe ls (vN :: st) T) ∧ (¬ T k i j = 0 → sx_ K P r pe ls (vR k' (T k i j - 1) :: st) T)
            | _ => False) else False) = (match Nat.beq k kk with
      | true => (lo ≤ T k i j → T k i j ≤ hi → sx_ K P r pe ls (vI (T k i j) :: st) T)
      | false => False)
    by_cases z : k = kk
    · rw [if_pos (z.trans hk), show Nat.beq k kk = true by rw [z]; exact Nat.beq_refl kk, z, h] <;> rfl
    · rw [if_neg (fun w => z (w.trans hk.symm)), show Nat.beq k kk = false from Bool.eq_false_iff.mpr (fun w => z (Nat.eq_of_beq_eq_true w))] <;> rfl
def x_g1 (kk k' : Nat) (C : Zl → List Zv → Zt → Prop) : Zl → List Zv → Zt → Prop := fun ls st T => match st with
  | .inr (.inr (some (k, i))) :: st => (match Nat.beq k kk with
    | true => C ls (vR k' 0 :: st) T
    | false => False)
  | _ => False
theorem xe_g1 {K : Int → Zl → List Zv → Zt → Prop} {P : Zt → Option Zv → Prop} {r : List Instr} {pe ci j : Int} {q : Array Int} {kk : Nat} {k' : Nat} {a : Int × Int} (hk : kk = 100 + ci.toNat) (h : (tf_ kk)[j.toNat]? = some (1, k', a)) : sx_ K P (.tableswitch 0 ci j q :: r) pe = x_g1 kk k' (sx_ K P r pe) := by
  funext ls st T
  match st with
  | [] => rfl
  | .inl _ :: _ => rfl
  | .inr (.inl _) :: _ => rfl
  | .inr (.inr none) :: _ => rfl
  | .inr (.inr (some (k, i))) :: st =>
    show (if k = 100 + ci.toNat then (match (tf_ k)[j.toNat]? with
            | some (0, _, lo, hi) => lo ≤ T k i j → T k i j ≤ hi → sx_ K P r pe ls (vI (T k i j) :: st) T
            | some (1, k', _) => sx_ K P r pe ls (vR k' 0 :: st) T
            | some (2, k', _) => sx_ K P r pe ls (vR k' i :: st) T
            | some (3, k', _) => sx_ K P r pe ls (vR k' (T k i j) :: st) T
            | some (4, k', _) => (T k i j = 0 → sx_ K P r pe ls (vN :: st) T) ∧ (¬ T k i j = 0 → sx_ K P r pe ls (vR k' i :: st) T)
            | some (5, k', _) => (T k i j = 0 → sx_ K P r pe ls (vN :: st) T) ∧ (¬ T k i j = 0 → sx_ K P r pe ls (vR k' (T k i j - 1) :: st) T)
            | _ => False) else False) = (match Nat.beq k kk with
      | true => sx_ K P r pe ls (vR k' 0 :: st) T
      | false => False)
    by_cases z : k = kk
    · rw [if_pos (z.trans hk), show Nat.beq k kk = true by rw [z]; exact Nat.beq_refl kk, z, h] <;> rfl
    · rw [if_neg (fun w => z (w.trans hk.symm)), show Nat.beq k kk = false from Bool.eq_false_iff.mpr (fun w => z (Nat.eq_of_beq_eq_true w))] <;> rfl
def x_g2 (kk k' : Nat) (C : Zl → List Zv → Zt → Prop) : Zl → List Zv → Zt → Prop := fun ls st T => match st with
  | .inr (.inr (some (k, i))) :: st => (match Nat.beq k kk with
    | true => C ls (vR k' i :: st) T
    | false => False)
  | _ => False
theorem xe_g2 {K : Int → Zl → List Zv → Zt → Prop} {P : Zt → Option Zv → Prop} {r : List Instr} {pe ci j : Int} {q : Array Int} {kk : Nat} {k' : Nat} {a : Int × Int} (hk : kk = 100 + ci.toNat) (h : (tf_ kk)[j.toNat]? = some (2, k', a)) : sx_ K P (.tableswitch 0 ci j q :: r) pe = x_g2 kk k' (sx_ K P r pe) := by
  funext ls st T
  match st with
  | [] => rfl
  | .inl _ :: _ => rfl
  | .inr (.inl _) :: _ => rfl
  | .inr (.inr none) :: _ => rfl
  | .inr (.inr (some (k, i))) :: st =>
    show (if k = 100 + ci.toNat then (match (tf_ k)[j.toNat]? with
            | some (0, _, lo, hi) => lo ≤ T k i j → T k i j ≤ hi → sx_ K P r pe ls (vI (T k i j) :: st) T
            | some (1, k', _) => sx_ K P r pe ls (vR k' 0 :: st) T
            | some (2, k', _) => sx_ K P r pe ls (vR k' i :: st) T
            | some (3, k', _) => sx_ K P r pe ls (vR k' (T k i j) :: st) T
            | some (4, k', _) => (T k i j = 0 → sx_ K P r pe ls (vN :: st) T) ∧ (¬ T k i j = 0 → sx_ K P r pe ls (vR k' i :: st) T)
            | some (5, k', _) => (T k i j = 0 → sx_ K P r pe ls (vN :: st) T) ∧ (¬ T k i j = 0 → sx_ K P r pe ls (vR k' (T k i j - 1) :: st) T)
            | _ => False) else False) = (match Nat.beq k kk with
      | true => sx_ K P r pe ls (vR k' i :: st) T
      | false => False)
    by_cases z : k = kk
    · rw [if_pos (z.trans hk), show Nat.beq k kk = true by rw [z]; exact Nat.beq_refl kk, z, h] <;> rfl
    · rw [if_neg (fun w => z (w.trans hk.symm)), show Nat.beq k kk = false from Bool.eq_false_iff.mpr (fun w => z (Nat.eq_of_beq_eq_true w))] <;> rfl
def x_g3 (kk k' : Nat) (j : Int) (C : Zl → List Zv → Zt → Prop) : Zl → List Zv → Zt → Prop := fun ls st T => match st with
  | .inr (.inr (some (k, i))) :: st => (match Nat.beq k kk with
    | true => C ls (vR k' (T k i j) :: st) T
    | false => False)
  | _ => False
theorem xe_g3 {K : Int → Zl → List Zv → Zt → Prop} {P : Zt → Option Zv → Prop} {r : List Instr} {pe ci j : Int} {q : Array Int} {kk : Nat} {k' : Nat} {a : Int × Int} (hk : kk = 100 + ci.toNat) (h : (tf_ kk)[j.toNat]? = some (3, k', a)) : sx_ K P (.tableswitch 0 ci j q :: r) pe = x_g3 kk k' j (sx_ K P r pe) := by
  funext ls st T
  match st with
  | [] => rfl
  | .inl _ :: _ => rfl
  | .inr (.inl _) :: _ => rfl
  | .inr (.inr none) :: _ => rfl
  | .inr (.inr (some (k, i))) :: st =>
    show (if k = 100 + ci.toNat then (match (tf_ k)[j.toNat]? with
            | some (0, _, lo, hi) => lo ≤ T k i j → T k i j ≤ hi → sx_ K P r pe ls (vI (T k i j) :: st) T
            | some (1, k', _) => sx_ K P r pe ls (vR k' 0 :: st) T
            | some (2, k', _) => sx_ K P r pe ls (vR k' i :: st) T
            | some (3, k', _) => sx_ K P r pe ls (vR k' (T k i j) :: st) T
            | some (4, k', _) => (T k i j = 0 → sx_ K P r pe ls (vN :: st) T) ∧ (¬ T k i j = 0 → sx_ K P r pe ls (vR k' i :: st) T)
            | some (5, k', _) => (T k i j = 0 → sx_ K P r pe ls (vN :: st) T) ∧ (¬ T k i j = 0 → sx_ K P r pe ls (vR k' (T k i j - 1) :: st) T)
            | _ => False) else False) = (match Nat.beq k kk with
      | true => sx_ K P r pe ls (vR k' (T k i j) :: st) T
      | false => False)
    by_cases z : k = kk
    · rw [if_pos (z.trans hk), show Nat.beq k kk = true by rw [z]; exact Nat.beq_refl kk, z, h] <;> rfl
    · rw [if_neg (fun w => z (w.trans hk.symm)), show Nat.beq k kk = false from Bool.eq_false_iff.mpr (fun w => z (Nat.eq_of_beq_eq_true w))] <;> rfl
def x_g4 (kk k' : Nat) (j : Int) (C : Zl → List Zv → Zt → Prop) : Zl → List Zv → Zt → Prop := fun ls st T => match st with
  | .inr (.inr (some (k, i))) :: st => (match Nat.beq k kk with
    | true => (T k i j = 0 → C ls (vN :: st) T) ∧ (¬ T k i j = 0 → C ls (vR k' i :: st) T)
    | false => False)
  | _ => False
theorem xe_g4 {K : Int → Zl → List Zv → Zt → Prop} {P : Zt → Option Zv → Prop} {r : List Instr} {pe ci j : Int} {q : Array Int} {kk : Nat} {k' : Nat} {a : Int × Int} (hk : kk = 100 + ci.toNat) (h : (tf_ kk)[j.toNat]? = some (4, k', a)) : sx_ K P (.tableswitch 0 ci j q :: r) pe = x_g4 kk k' j (sx_ K P r pe) := by
  funext ls st T
  match st with
  | [] => rfl
  | .inl _ :: _ => rfl
  | .inr (.inl _) :: _ => rfl
  | .inr (.inr none) :: _ => rfl
  | .inr (.inr (some (k, i))) :: st =>
    show (if k = 100 + ci.toNat then (match (tf_ k)[j.toNat]? with
            | some (0, _, lo, hi) => lo ≤ T k i j → T k i j ≤ hi → sx_ K P r pe ls (vI (T k i j) :: st) T
            | some (1, k', _) => sx_ K P r pe ls (vR k' 0 :: st) T
            | some (2, k', _) => sx_ K P r pe ls (vR k' i :: st) T
            | some (3, k', _) => sx_ K P r pe ls (vR k' (T k i j) :: st) T
            | some (4, k', _) => (T k i j = 0 → sx_ K P r pe ls (vN :: st) T) ∧ (¬ T k i j = 0 → sx_ K P r pe ls (vR k' i :: st) T)
            | some (5, k', _) => (T k i j = 0 → sx_ K P r pe ls (vN :: st) T) ∧ (¬ T k i j = 0 → sx_ K P r pe ls (vR k' (T k i j - 1) :: st) T)
            | _ => False) else False) = (match Nat.beq k kk with
      | true => (T k i j = 0 → sx_ K P r pe ls (vN :: st) T) ∧ (¬ T k i j = 0 → sx_ K P r pe ls (vR k' i :: st) T)
      | false => False)
    by_cases z : k = kk
    · rw [if_pos (z.trans hk), show Nat.beq k kk = true by rw [z]; exact Nat.beq_refl kk, z, h] <;> rfl
    · rw [if_neg (fun w => z (w.trans hk.symm)), show Nat.beq k kk = false from Bool.eq_false_iff.mpr (fun w => z (Nat.eq_of_beq_eq_true w))] <;> rfl
def x_g5 (kk k' : Nat) (j : Int) (C : Zl → List Zv → Zt → Prop) : Zl → List Zv → Zt → Prop := fun ls st T => match st with
  | .inr (.inr (some (k, i))) :: st => (match Nat.beq k kk with
    | true => (T k i j = 0 → C ls (vN :: st) T) ∧ (¬ T k i j = 0 → C ls (vR k' (T k i j - 1) :: st) T)
    | false => False)
  | _ => False
theorem xe_g5 {K : Int → Zl → List Zv → Zt → Prop} {P : Zt → Option Zv → Prop} {r : List Instr} {pe ci j : Int} {q : Array Int} {kk : Nat} {k' : Nat} {a : Int × Int} (hk : kk = 100 + ci.toNat) (h : (tf_ kk)[j.toNat]? = some (5, k', a)) : sx_ K P (.tableswitch 0 ci j q :: r) pe = x_g5 kk k' j (sx_ K P r pe) := by
  funext ls st T
  match st with
  | [] => rfl
  | .inl _ :: _ => rfl
  | .inr (.inl _) :: _ => rfl
  | .inr (.inr none) :: _ => rfl
  | .inr (.inr (some (k, i))) :: st =>
    show (if k = 100 + ci.toNat then (match (tf_ k)[j.toNat]? with
            | some (0, _, lo, hi) => lo ≤ T k i j → T k i j ≤ hi → sx_ K P r pe ls (vI (T k i j) :: st) T
            | some (1, k', _) => sx_ K P r pe ls (vR k' 0 :: st) T
            | some (2, k', _) => sx_ K P r pe ls (vR k' i :: st) T
            | some (3, k', _) => sx_ K P r pe ls (vR k' (T k i j) :: st) T
            | some (4, k', _) => (T k i j = 0 → sx_ K P r pe ls (vN :: st) T) ∧ (¬ T k i j = 0 → sx_ K P r pe ls (vR k' i :: st) T)
            | some (5, k', _) => (T k i j = 0 → sx_ K P r pe ls (vN :: st) T) ∧ (¬ T k i j = 0 → sx_ K P r pe ls (vR k' (T k i j - 1) :: st) T)
            | _ => False) else False) = (match Nat.beq k kk with
      | true => (T k i j = 0 → sx_ K P r pe ls (vN :: st) T) ∧ (¬ T k i j = 0 → sx_ K P r pe ls (vR k' (T k i j - 1) :: st) T)
      | false => False)
    by_cases z : k = kk
    · rw [if_pos (z.trans hk), show Nat.beq k kk = true by rw [z]; exact Nat.beq_refl kk, z, h] <;> rfl
    · rw [if_neg (fun w => z (w.trans hk.symm)), show Nat.beq k kk = false from Bool.eq_false_iff.mpr (fun w => z (Nat.eq_of_beq_eq_true w))] <;> rfl
def x_p (kk : Nat) (j lo hi : Int) (C : Zl → List Zv → Zt → Prop) : Zl → List Zv → Zt → Prop := fun ls st T => match st with
  | .inl x :: .inr (.inr (some (k, i))) :: st => (match Nat.beq k kk with
    | true => lo ≤ x ∧ x ≤ hi ∧ C ls st (up_ T k i j x)
    | false => False)
  | _ => False
theorem xe_p {K : Int → Zl → List Zv → Zt → Prop} {P : Zt → Option Zv → Prop} {r : List Instr} {pe ci j : Int} {q : Array Int} {kk : Nat} {a : Nat} {lo hi : Int} (hk : kk = 100 + ci.toNat) (h : (tf_ kk)[j.toNat]? = some (0, a, lo, hi)) : sx_ K P (.tableswitch 1 ci j q :: r) pe = x_p kk j lo hi (sx_ K P r pe) := by
  funext ls st T
  match st with
  | [] => rfl
  | [.inl _] => rfl
  | .inl _ :: .inl _ :: _ => rfl
  | .inl _ :: .inr (.inl _) :: _ => rfl
  | .inl _ :: .inr (.inr none) :: _ => rfl
  | .inr _ :: _ => rfl
  | .inl x :: .inr (.inr (some (k, i))) :: st =>
    show (if k = 100 + ci.toNat then (match (tf_ k)[j.toNat]? with
            | some (0, _, lo, hi) => lo ≤ x ∧ x ≤ hi ∧ sx_ K P r pe ls st (up_ T k i j x)
            | _ => False) else False) = (match Nat.beq k kk with
      | true => lo ≤ x ∧ x ≤ hi ∧ sx_ K P r pe ls st (up_ T k i j x)
      | false => False)
    by_cases z : k = kk
    · rw [if_pos (z.trans hk), show Nat.beq k kk = true by rw [z]; exact Nat.beq_refl kk, z, h] <;> rfl
    · rw [if_neg (fun w => z (w.trans hk.symm)), show Nat.beq k kk = false from Bool.eq_false_iff.mpr (fun w => z (Nat.eq_of_beq_eq_true w))] <;> rfl
/-- a picture named -/
theorem x_nm {C : Zl → List Zv → Zt → Prop} {ls : Zl} {st : List Zv} {t : Zt} (h : ∀ T1, T1 = t → C ls st T1) : C ls st t := h t rfl
section JX
variable {Y : Zm} {T0 T : Zt} {P : Zt → Option Zv → Prop} {bc bs : Nat} {pc : Int} {ls : Zl} {rest : List Zv}
/-- a block runs, told by its own words -/
theorem j_blx {F : Zf} {pe : Int} {blk : List Instr} {X : (Int → Zl → List Zv → Zt → Prop) → Zl → List Zv → Zt → Prop} (hF : tb_ Y.1 F) (hp : 0 ≤ pc) (hck : ck_ F Y.2.2.2.1 Y.2.1 pc blk pe = true) (hX : ∀ K, sx_ K P blk pe = X K) (hz : Y.2.2.2.1 = some .boolean → ∀ T x, P T (some (vI x)) → 0 ≤ x ∧ x ≤ 1) (h : ∀ K : Int → Zl → List Zv → Zt → Prop, (∀ pc ls st T, J_ Y T0 P bc bs pc ls st T → K pc ls st T) → X K ls rest T) : J_ Y T0 P bc bs pc ls rest T := j_blk hF hp hck hz (fun K hK => by rw [hX K]; exact h K hK)
end JX
theorem tl_0_0 : (tf_ 100)[Int.toNat 0]? = some (0, 0, 0, 3) := by decide +kernel
theorem tl_0_1 : (tf_ 100)[Int.toNat 1]? = some (2, 401, (-2147483648), 2147483647) := by decide +kernel
theorem tl_0_2 : (tf_ 100)[Int.toNat 2]? = some (2, 402, (-2147483648), 2147483647) := by decide +kernel
theorem tl_0_3 : (tf_ 100)[Int.toNat 3]? = some (2, 403, (-2147483648), 2147483647) := by decide +kernel
theorem tl_0_4 : (tf_ 100)[Int.toNat 4]? = some (2, 404, (-2147483648), 2147483647) := by decide +kernel
theorem tl_0_5 : (tf_ 100)[Int.toNat 5]? = some (0, 0, 0, 12) := by decide +kernel
theorem tl_0_6 : (tf_ 100)[Int.toNat 6]? = some (0, 0, 0, 1) := by decide +kernel
theorem tl_0_7 : (tf_ 100)[Int.toNat 7]? = some (0, 0, 0, 400) := by decide +kernel
theorem tl_0_8 : (tf_ 100)[Int.toNat 8]? = some (0, 0, 0, 400) := by decide +kernel
theorem tl_1_0 : (tf_ 101)[Int.toNat 0]? = some (1, 108, (-2147483648), 2147483647) := by decide +kernel
theorem tl_1_1 : (tf_ 101)[Int.toNat 1]? = some (0, 0, 0, 4) := by decide +kernel
theorem tl_1_2 : (tf_ 101)[Int.toNat 2]? = some (0, 0, 0, 3) := by decide +kernel
theorem tl_1_3 : (tf_ 101)[Int.toNat 3]? = some (0, 0, (-2147483648), 2147483647) := by decide +kernel
theorem tl_1_4 : (tf_ 101)[Int.toNat 4]? = some (0, 0, (-2147483648), 2147483647) := by decide +kernel
theorem tl_1_5 : (tf_ 101)[Int.toNat 5]? = some (0, 0, (-2147483648), 2147483647) := by decide +kernel
theorem tl_1_6 : (tf_ 101)[Int.toNat 6]? = some (0, 0, (-2147483648), 2147483647) := by decide +kernel
theorem tl_1_7 : (tf_ 101)[Int.toNat 7]? = some (0, 0, 0, 1) := by decide +kernel
theorem tl_1_8 : (tf_ 101)[Int.toNat 8]? = some (1, 428, (-2147483648), 2147483647) := by decide +kernel
theorem tl_1_9 : (tf_ 101)[Int.toNat 9]? = some (1, 429, (-2147483648), 2147483647) := by decide +kernel
theorem tl_1_10 : (tf_ 101)[Int.toNat 10]? = some (1, 430, (-2147483648), 2147483647) := by decide +kernel
theorem tl_1_11 : (tf_ 101)[Int.toNat 11]? = some (1, 431, (-2147483648), 2147483647) := by decide +kernel
theorem tl_1_12 : (tf_ 101)[Int.toNat 12]? = some (1, 432, (-2147483648), 2147483647) := by decide +kernel
theorem tl_1_13 : (tf_ 101)[Int.toNat 13]? = some (0, 0, 0, 12) := by decide +kernel
theorem tl_1_14 : (tf_ 101)[Int.toNat 14]? = some (1, 434, (-2147483648), 2147483647) := by decide +kernel
theorem tl_1_15 : (tf_ 101)[Int.toNat 15]? = some (1, 435, (-2147483648), 2147483647) := by decide +kernel
theorem tl_2_0 : (tf_ 102)[Int.toNat 0]? = some (3, 100, (-2147483648), 2147483647) := by decide +kernel
theorem tl_2_1 : (tf_ 102)[Int.toNat 1]? = some (0, 0, 0, 399) := by decide +kernel
theorem tl_2_2 : (tf_ 102)[Int.toNat 2]? = some (0, 0, (-2147483648), 2147483647) := by decide +kernel
theorem tl_2_3 : (tf_ 102)[Int.toNat 3]? = some (0, 0, 0, 11) := by decide +kernel
theorem tl_2_4 : (tf_ 102)[Int.toNat 4]? = some (0, 0, 0, 11) := by decide +kernel
theorem tl_2_5 : (tf_ 102)[Int.toNat 5]? = some (0, 0, 0, 999) := by decide +kernel
theorem tl_2_6 : (tf_ 102)[Int.toNat 6]? = some (0, 0, (-1), 1) := by decide +kernel
theorem tl_2_7 : (tf_ 102)[Int.toNat 7]? = some (0, 0, (-1), 7) := by decide +kernel
theorem tl_2_8 : (tf_ 102)[Int.toNat 8]? = some (2, 448, (-2147483648), 2147483647) := by decide +kernel
theorem tl_2_9 : (tf_ 102)[Int.toNat 9]? = some (2, 449, (-2147483648), 2147483647) := by decide +kernel
theorem tl_2_10 : (tf_ 102)[Int.toNat 10]? = some (4, 103, (-2147483648), 2147483647) := by decide +kernel
theorem tl_3_0 : (tf_ 103)[Int.toNat 0]? = some (3, 401, (-2147483648), 2147483647) := by decide +kernel
theorem tl_3_1 : (tf_ 103)[Int.toNat 1]? = some (2, 448, (-2147483648), 2147483647) := by decide +kernel
theorem tl_3_2 : (tf_ 103)[Int.toNat 2]? = some (2, 449, (-2147483648), 2147483647) := by decide +kernel
theorem tl_3_3 : (tf_ 103)[Int.toNat 3]? = some (0, 0, 0, 1) := by decide +kernel
theorem tl_3_4 : (tf_ 103)[Int.toNat 4]? = some (0, 0, (-2147483648), 2147483647) := by decide +kernel
theorem tl_3_5 : (tf_ 103)[Int.toNat 5]? = some (0, 0, 0, 1) := by decide +kernel
theorem tl_3_6 : (tf_ 103)[Int.toNat 6]? = some (2, 466, (-2147483648), 2147483647) := by decide +kernel
theorem tl_3_7 : (tf_ 103)[Int.toNat 7]? = some (2, 467, (-2147483648), 2147483647) := by decide +kernel
theorem tl_3_8 : (tf_ 103)[Int.toNat 8]? = some (2, 468, (-2147483648), 2147483647) := by decide +kernel
theorem tl_3_9 : (tf_ 103)[Int.toNat 9]? = some (2, 469, (-2147483648), 2147483647) := by decide +kernel
theorem tl_3_10 : (tf_ 103)[Int.toNat 10]? = some (2, 470, (-2147483648), 2147483647) := by decide +kernel
theorem tl_3_11 : (tf_ 103)[Int.toNat 11]? = some (2, 471, (-2147483648), 2147483647) := by decide +kernel
theorem tl_3_12 : (tf_ 103)[Int.toNat 12]? = some (2, 472, (-2147483648), 2147483647) := by decide +kernel
theorem tl_3_13 : (tf_ 103)[Int.toNat 13]? = some (2, 473, (-2147483648), 2147483647) := by decide +kernel
theorem tl_3_14 : (tf_ 103)[Int.toNat 14]? = some (3, 190, (-2147483648), 2147483647) := by decide +kernel
theorem tl_3_15 : (tf_ 103)[Int.toNat 15]? = some (0, 0, 0, 3000) := by decide +kernel
theorem tl_3_16 : (tf_ 103)[Int.toNat 16]? = some (3, 190, (-2147483648), 2147483647) := by decide +kernel
theorem tl_3_17 : (tf_ 103)[Int.toNat 17]? = some (0, 0, 0, 3000) := by decide +kernel
theorem tl_4_0 : (tf_ 104)[Int.toNat 0]? = some (1, 106, (-2147483648), 2147483647) := by decide +kernel
theorem tl_4_1 : (tf_ 104)[Int.toNat 1]? = some (1, 108, (-2147483648), 2147483647) := by decide +kernel
theorem tl_4_2 : (tf_ 104)[Int.toNat 2]? = some (1, 482, (-2147483648), 2147483647) := by decide +kernel
theorem tl_4_3 : (tf_ 104)[Int.toNat 3]? = some (0, 0, 0, 400) := by decide +kernel
theorem tl_4_4 : (tf_ 104)[Int.toNat 4]? = some (3, 190, (-2147483648), 2147483647) := by decide +kernel
theorem tl_5_0 : (tf_ 105)[Int.toNat 0]? = some (1, 500, (-2147483648), 2147483647) := by decide +kernel
theorem tl_5_1 : (tf_ 105)[Int.toNat 1]? = some (0, 0, 0, 400) := by decide +kernel
theorem tl_5_2 : (tf_ 105)[Int.toNat 2]? = some (0, 0, 0, 5) := by decide +kernel
theorem tl_5_3 : (tf_ 105)[Int.toNat 3]? = some (0, 0, (-1), 400) := by decide +kernel
theorem tl_5_4 : (tf_ 105)[Int.toNat 4]? = some (1, 504, (-2147483648), 2147483647) := by decide +kernel
theorem tl_5_5 : (tf_ 105)[Int.toNat 5]? = some (1, 505, (-2147483648), 2147483647) := by decide +kernel
theorem tl_5_6 : (tf_ 105)[Int.toNat 6]? = some (0, 0, (-2147483648), 2147483647) := by decide +kernel
theorem tl_5_7 : (tf_ 105)[Int.toNat 7]? = some (0, 0, 0, 5) := by decide +kernel
theorem tl_5_8 : (tf_ 105)[Int.toNat 8]? = some (0, 0, 0, 400) := by decide +kernel
theorem tl_5_9 : (tf_ 105)[Int.toNat 9]? = some (0, 0, 0, 400) := by decide +kernel
theorem tl_6_0 : (tf_ 106)[Int.toNat 0]? = some (1, 108, (-2147483648), 2147483647) := by decide +kernel
theorem tl_6_1 : (tf_ 106)[Int.toNat 1]? = some (1, 521, (-2147483648), 2147483647) := by decide +kernel
theorem tl_6_2 : (tf_ 106)[Int.toNat 2]? = some (0, 0, 0, 4) := by decide +kernel
theorem tl_6_3 : (tf_ 106)[Int.toNat 3]? = some (1, 523, (-2147483648), 2147483647) := by decide +kernel
theorem tl_6_4 : (tf_ 106)[Int.toNat 4]? = some (0, 0, 0, 400) := by decide +kernel
theorem tl_6_5 : (tf_ 106)[Int.toNat 5]? = some (0, 0, 0, 3000) := by decide +kernel
theorem tl_6_6 : (tf_ 106)[Int.toNat 6]? = some (0, 0, 0, 50) := by decide +kernel
theorem tl_6_7 : (tf_ 106)[Int.toNat 7]? = some (1, 527, (-2147483648), 2147483647) := by decide +kernel
theorem tl_6_8 : (tf_ 106)[Int.toNat 8]? = some (1, 528, (-2147483648), 2147483647) := by decide +kernel
theorem tl_6_9 : (tf_ 106)[Int.toNat 9]? = some (1, 529, (-2147483648), 2147483647) := by decide +kernel
theorem tl_6_10 : (tf_ 106)[Int.toNat 10]? = some (1, 530, (-2147483648), 2147483647) := by decide +kernel
theorem tl_6_11 : (tf_ 106)[Int.toNat 11]? = some (1, 531, (-2147483648), 2147483647) := by decide +kernel
theorem tl_6_12 : (tf_ 106)[Int.toNat 12]? = some (0, 0, 0, 400) := by decide +kernel
theorem tl_6_13 : (tf_ 106)[Int.toNat 13]? = some (1, 533, (-2147483648), 2147483647) := by decide +kernel
theorem tl_6_14 : (tf_ 106)[Int.toNat 14]? = some (1, 534, (-2147483648), 2147483647) := by decide +kernel
theorem tl_6_15 : (tf_ 106)[Int.toNat 15]? = some (1, 535, (-2147483648), 2147483647) := by decide +kernel
theorem tl_7_0 : (tf_ 107)[Int.toNat 0]? = some (1, 106, (-2147483648), 2147483647) := by decide +kernel
theorem tl_7_1 : (tf_ 107)[Int.toNat 1]? = some (5, 100, (-2147483648), 2147483647) := by decide +kernel
theorem tl_7_2 : (tf_ 107)[Int.toNat 2]? = some (1, 542, (-2147483648), 2147483647) := by decide +kernel
theorem tl_7_3 : (tf_ 107)[Int.toNat 3]? = some (1, 543, (-2147483648), 2147483647) := by decide +kernel
theorem tl_7_4 : (tf_ 107)[Int.toNat 4]? = some (1, 544, (-2147483648), 2147483647) := by decide +kernel
theorem tl_7_5 : (tf_ 107)[Int.toNat 5]? = some (1, 545, (-2147483648), 2147483647) := by decide +kernel
theorem tl_7_6 : (tf_ 107)[Int.toNat 6]? = some (1, 546, (-2147483648), 2147483647) := by decide +kernel
theorem tl_7_7 : (tf_ 107)[Int.toNat 7]? = some (1, 547, (-2147483648), 2147483647) := by decide +kernel
theorem tl_7_8 : (tf_ 107)[Int.toNat 8]? = some (1, 548, (-2147483648), 2147483647) := by decide +kernel
theorem tl_7_9 : (tf_ 107)[Int.toNat 9]? = some (1, 549, (-2147483648), 2147483647) := by decide +kernel
theorem tl_7_10 : (tf_ 107)[Int.toNat 10]? = some (1, 550, (-2147483648), 2147483647) := by decide +kernel
theorem tl_7_11 : (tf_ 107)[Int.toNat 11]? = some (1, 551, (-2147483648), 2147483647) := by decide +kernel
theorem tl_7_12 : (tf_ 107)[Int.toNat 12]? = some (1, 552, (-2147483648), 2147483647) := by decide +kernel
theorem tl_7_13 : (tf_ 107)[Int.toNat 13]? = some (0, 0, 0, 16) := by decide +kernel
theorem tl_8_0 : (tf_ 108)[Int.toNat 0]? = some (1, 560, (-2147483648), 2147483647) := by decide +kernel
theorem tl_8_1 : (tf_ 108)[Int.toNat 1]? = some (1, 561, (-2147483648), 2147483647) := by decide +kernel
theorem tl_8_2 : (tf_ 108)[Int.toNat 2]? = some (0, 0, 0, 12) := by decide +kernel
theorem tl_8_3 : (tf_ 108)[Int.toNat 3]? = some (0, 0, 0, 200) := by decide +kernel
theorem tl_8_4 : (tf_ 108)[Int.toNat 4]? = some (1, 564, (-2147483648), 2147483647) := by decide +kernel
theorem tl_8_5 : (tf_ 108)[Int.toNat 5]? = some (0, 0, 0, 300) := by decide +kernel
theorem tl_8_6 : (tf_ 108)[Int.toNat 6]? = some (1, 566, (-2147483648), 2147483647) := by decide +kernel
theorem tl_8_7 : (tf_ 108)[Int.toNat 7]? = some (1, 567, (-2147483648), 2147483647) := by decide +kernel
theorem tl_8_8 : (tf_ 108)[Int.toNat 8]? = some (1, 568, (-2147483648), 2147483647) := by decide +kernel
theorem tl_8_9 : (tf_ 108)[Int.toNat 9]? = some (1, 569, (-2147483648), 2147483647) := by decide +kernel
theorem tl_8_10 : (tf_ 108)[Int.toNat 10]? = some (1, 570, (-2147483648), 2147483647) := by decide +kernel
theorem tl_8_11 : (tf_ 108)[Int.toNat 11]? = some (1, 571, (-2147483648), 2147483647) := by decide +kernel
theorem tl_8_12 : (tf_ 108)[Int.toNat 12]? = some (0, 0, 0, 8) := by decide +kernel
theorem tl_8_13 : (tf_ 108)[Int.toNat 13]? = some (0, 0, 0, 999) := by decide +kernel
theorem tl_9_0 : (tf_ 109)[Int.toNat 0]? = some (1, 106, (-2147483648), 2147483647) := by decide +kernel
theorem tl_9_1 : (tf_ 109)[Int.toNat 1]? = some (1, 107, (-2147483648), 2147483647) := by decide +kernel
theorem tl_9_2 : (tf_ 109)[Int.toNat 2]? = some (0, 0, (-1), 2) := by decide +kernel
theorem tl_9_3 : (tf_ 109)[Int.toNat 3]? = some (0, 0, 0, 4095) := by decide +kernel
theorem tl_9_4 : (tf_ 109)[Int.toNat 4]? = some (1, 584, (-2147483648), 2147483647) := by decide +kernel
theorem tl_9_5 : (tf_ 109)[Int.toNat 5]? = some (5, 100, (-2147483648), 2147483647) := by decide +kernel
theorem tl_9_6 : (tf_ 109)[Int.toNat 6]? = some (0, 0, (-2147483648), 2147483647) := by decide +kernel
theorem tl_9_7 : (tf_ 109)[Int.toNat 7]? = some (1, 587, (-2147483648), 2147483647) := by decide +kernel
theorem tl_9_8 : (tf_ 109)[Int.toNat 8]? = some (1, 588, (-2147483648), 2147483647) := by decide +kernel
theorem tl_9_9 : (tf_ 109)[Int.toNat 9]? = some (0, 0, 0, 40) := by decide +kernel
theorem tl_9_10 : (tf_ 109)[Int.toNat 10]? = some (1, 590, (-2147483648), 2147483647) := by decide +kernel
theorem tl_9_11 : (tf_ 109)[Int.toNat 11]? = some (1, 591, (-2147483648), 2147483647) := by decide +kernel
theorem tl_9_12 : (tf_ 109)[Int.toNat 12]? = some (1, 592, (-2147483648), 2147483647) := by decide +kernel
theorem tl_9_13 : (tf_ 109)[Int.toNat 13]? = some (1, 593, (-2147483648), 2147483647) := by decide +kernel
theorem tl_9_14 : (tf_ 109)[Int.toNat 14]? = some (1, 594, (-2147483648), 2147483647) := by decide +kernel
theorem tl_9_15 : (tf_ 109)[Int.toNat 15]? = some (5, 190, (-2147483648), 2147483647) := by decide +kernel
theorem tl_10_0 : (tf_ 110)[Int.toNat 0]? = some (1, 105, (-2147483648), 2147483647) := by decide +kernel
theorem tl_10_1 : (tf_ 110)[Int.toNat 1]? = some (1, 108, (-2147483648), 2147483647) := by decide +kernel
theorem tl_10_2 : (tf_ 110)[Int.toNat 2]? = some (1, 106, (-2147483648), 2147483647) := by decide +kernel
theorem tl_10_3 : (tf_ 110)[Int.toNat 3]? = some (1, 107, (-2147483648), 2147483647) := by decide +kernel
theorem tl_10_4 : (tf_ 110)[Int.toNat 4]? = some (1, 109, (-2147483648), 2147483647) := by decide +kernel
theorem tl_10_5 : (tf_ 110)[Int.toNat 5]? = some (1, 101, (-2147483648), 2147483647) := by decide +kernel
theorem tl_10_6 : (tf_ 110)[Int.toNat 6]? = some (1, 104, (-2147483648), 2147483647) := by decide +kernel
theorem tl_11_0 : (tf_ 111)[Int.toNat 0]? = some (1, 200, (-2147483648), 2147483647) := by decide +kernel
theorem tl_11_1 : (tf_ 111)[Int.toNat 1]? = some (0, 0, 0, 400) := by decide +kernel
theorem tl_11_2 : (tf_ 111)[Int.toNat 2]? = some (0, 0, (-1), 400) := by decide +kernel
theorem tl_11_3 : (tf_ 111)[Int.toNat 3]? = some (0, 0, 0, 999) := by decide +kernel
theorem tl_11_4 : (tf_ 111)[Int.toNat 4]? = some (1, 204, (-2147483648), 2147483647) := by decide +kernel
theorem tl_11_5 : (tf_ 111)[Int.toNat 5]? = some (1, 205, (-2147483648), 2147483647) := by decide +kernel
theorem tl_11_6 : (tf_ 111)[Int.toNat 6]? = some (0, 0, 0, 4) := by decide +kernel
theorem tl_11_7 : (tf_ 111)[Int.toNat 7]? = some (1, 207, (-2147483648), 2147483647) := by decide +kernel
theorem tl_11_8 : (tf_ 111)[Int.toNat 8]? = some (1, 208, (-2147483648), 2147483647) := by decide +kernel
theorem tl_11_9 : (tf_ 111)[Int.toNat 9]? = some (1, 209, (-2147483648), 2147483647) := by decide +kernel
theorem tl_11_10 : (tf_ 111)[Int.toNat 10]? = some (1, 210, (-2147483648), 2147483647) := by decide +kernel
theorem tl_11_11 : (tf_ 111)[Int.toNat 11]? = some (1, 211, (-2147483648), 2147483647) := by decide +kernel
theorem tl_11_12 : (tf_ 111)[Int.toNat 12]? = some (0, 0, 0, 12) := by decide +kernel
theorem tl_11_13 : (tf_ 111)[Int.toNat 13]? = some (1, 213, (-2147483648), 2147483647) := by decide +kernel
theorem tl_11_14 : (tf_ 111)[Int.toNat 14]? = some (1, 214, (-2147483648), 2147483647) := by decide +kernel
theorem tl_11_15 : (tf_ 111)[Int.toNat 15]? = some (0, 0, 0, 200) := by decide +kernel
theorem tl_11_16 : (tf_ 111)[Int.toNat 16]? = some (0, 0, 0, 300) := by decide +kernel
theorem tl_11_17 : (tf_ 111)[Int.toNat 17]? = some (1, 217, (-2147483648), 2147483647) := by decide +kernel
theorem tl_11_18 : (tf_ 111)[Int.toNat 18]? = some (1, 218, (-2147483648), 2147483647) := by decide +kernel
theorem tl_11_19 : (tf_ 111)[Int.toNat 19]? = some (1, 219, (-2147483648), 2147483647) := by decide +kernel
theorem tl_11_20 : (tf_ 111)[Int.toNat 20]? = some (1, 220, (-2147483648), 2147483647) := by decide +kernel
theorem tl_11_21 : (tf_ 111)[Int.toNat 21]? = some (0, 0, 0, 8) := by decide +kernel
theorem tl_11_22 : (tf_ 111)[Int.toNat 22]? = some (1, 222, (-2147483648), 2147483647) := by decide +kernel
theorem tl_11_23 : (tf_ 111)[Int.toNat 23]? = some (1, 223, (-2147483648), 2147483647) := by decide +kernel
theorem tl_11_24 : (tf_ 111)[Int.toNat 24]? = some (0, 0, 0, 50) := by decide +kernel
theorem tl_11_25 : (tf_ 111)[Int.toNat 25]? = some (1, 225, (-2147483648), 2147483647) := by decide +kernel
theorem tl_11_26 : (tf_ 111)[Int.toNat 26]? = some (1, 226, (-2147483648), 2147483647) := by decide +kernel
theorem tl_11_27 : (tf_ 111)[Int.toNat 27]? = some (1, 227, (-2147483648), 2147483647) := by decide +kernel
theorem tl_11_28 : (tf_ 111)[Int.toNat 28]? = some (1, 228, (-2147483648), 2147483647) := by decide +kernel
theorem tl_11_29 : (tf_ 111)[Int.toNat 29]? = some (0, 0, 0, 400) := by decide +kernel
theorem tl_11_30 : (tf_ 111)[Int.toNat 30]? = some (1, 230, (-2147483648), 2147483647) := by decide +kernel
theorem tl_11_31 : (tf_ 111)[Int.toNat 31]? = some (1, 231, (-2147483648), 2147483647) := by decide +kernel
theorem tl_11_32 : (tf_ 111)[Int.toNat 32]? = some (1, 232, (-2147483648), 2147483647) := by decide +kernel
theorem tl_11_33 : (tf_ 111)[Int.toNat 33]? = some (1, 233, (-2147483648), 2147483647) := by decide +kernel
theorem tl_11_34 : (tf_ 111)[Int.toNat 34]? = some (1, 234, (-2147483648), 2147483647) := by decide +kernel
theorem tl_11_35 : (tf_ 111)[Int.toNat 35]? = some (1, 235, (-2147483648), 2147483647) := by decide +kernel
theorem tl_11_36 : (tf_ 111)[Int.toNat 36]? = some (1, 236, (-2147483648), 2147483647) := by decide +kernel
theorem tl_11_37 : (tf_ 111)[Int.toNat 37]? = some (1, 237, (-2147483648), 2147483647) := by decide +kernel
theorem tl_11_38 : (tf_ 111)[Int.toNat 38]? = some (1, 238, (-2147483648), 2147483647) := by decide +kernel
theorem tl_11_39 : (tf_ 111)[Int.toNat 39]? = some (1, 239, (-2147483648), 2147483647) := by decide +kernel
theorem tl_11_40 : (tf_ 111)[Int.toNat 40]? = some (1, 240, (-2147483648), 2147483647) := by decide +kernel
theorem tl_11_41 : (tf_ 111)[Int.toNat 41]? = some (1, 241, (-2147483648), 2147483647) := by decide +kernel
theorem tl_11_42 : (tf_ 111)[Int.toNat 42]? = some (1, 242, (-2147483648), 2147483647) := by decide +kernel
theorem tl_11_43 : (tf_ 111)[Int.toNat 43]? = some (1, 243, (-2147483648), 2147483647) := by decide +kernel
theorem tl_11_44 : (tf_ 111)[Int.toNat 44]? = some (1, 244, (-2147483648), 2147483647) := by decide +kernel
theorem tl_11_45 : (tf_ 111)[Int.toNat 45]? = some (1, 245, (-2147483648), 2147483647) := by decide +kernel
theorem tl_11_46 : (tf_ 111)[Int.toNat 46]? = some (1, 246, (-2147483648), 2147483647) := by decide +kernel
theorem tl_11_47 : (tf_ 111)[Int.toNat 47]? = some (0, 0, 0, 3000) := by decide +kernel
theorem tl_11_48 : (tf_ 111)[Int.toNat 48]? = some (1, 248, (-2147483648), 2147483647) := by decide +kernel
theorem tl_11_49 : (tf_ 111)[Int.toNat 49]? = some (1, 249, (-2147483648), 2147483647) := by decide +kernel
theorem tl_11_50 : (tf_ 111)[Int.toNat 50]? = some (1, 250, (-2147483648), 2147483647) := by decide +kernel
theorem tl_11_51 : (tf_ 111)[Int.toNat 51]? = some (1, 251, (-2147483648), 2147483647) := by decide +kernel
theorem tl_11_52 : (tf_ 111)[Int.toNat 52]? = some (1, 252, (-2147483648), 2147483647) := by decide +kernel
theorem tl_11_53 : (tf_ 111)[Int.toNat 53]? = some (1, 253, (-2147483648), 2147483647) := by decide +kernel
theorem tl_11_54 : (tf_ 111)[Int.toNat 54]? = some (1, 254, (-2147483648), 2147483647) := by decide +kernel
theorem tl_11_55 : (tf_ 111)[Int.toNat 55]? = some (1, 255, (-2147483648), 2147483647) := by decide +kernel
theorem tl_11_56 : (tf_ 111)[Int.toNat 56]? = some (1, 256, (-2147483648), 2147483647) := by decide +kernel
theorem tl_11_57 : (tf_ 111)[Int.toNat 57]? = some (0, 0, 0, 400) := by decide +kernel
theorem tl_11_58 : (tf_ 111)[Int.toNat 58]? = some (0, 0, 0, 4) := by decide +kernel
theorem tl_11_59 : (tf_ 111)[Int.toNat 59]? = some (0, 0, 0, 400) := by decide +kernel
theorem tl_11_60 : (tf_ 111)[Int.toNat 60]? = some (0, 0, 0, 400) := by decide +kernel
theorem tl_11_61 : (tf_ 111)[Int.toNat 61]? = some (0, 0, (-2147483648), 2147483647) := by decide +kernel
theorem tl_11_62 : (tf_ 111)[Int.toNat 62]? = some (0, 0, 0, 5) := by decide +kernel
theorem tl_11_63 : (tf_ 111)[Int.toNat 63]? = some (0, 0, (-1), 400) := by decide +kernel
theorem tl_11_64 : (tf_ 111)[Int.toNat 64]? = some (1, 264, (-2147483648), 2147483647) := by decide +kernel
theorem tl_11_65 : (tf_ 111)[Int.toNat 65]? = some (1, 265, (-2147483648), 2147483647) := by decide +kernel
theorem tl_11_66 : (tf_ 111)[Int.toNat 66]? = some (1, 266, (-2147483648), 2147483647) := by decide +kernel
theorem tl_11_67 : (tf_ 111)[Int.toNat 67]? = some (1, 267, (-2147483648), 2147483647) := by decide +kernel
theorem tl_11_68 : (tf_ 111)[Int.toNat 68]? = some (1, 268, (-2147483648), 2147483647) := by decide +kernel
theorem tl_11_69 : (tf_ 111)[Int.toNat 69]? = some (1, 269, (-2147483648), 2147483647) := by decide +kernel
theorem tl_11_70 : (tf_ 111)[Int.toNat 70]? = some (1, 270, (-2147483648), 2147483647) := by decide +kernel
theorem tl_11_71 : (tf_ 111)[Int.toNat 71]? = some (1, 271, (-2147483648), 2147483647) := by decide +kernel
theorem tl_11_72 : (tf_ 111)[Int.toNat 72]? = some (1, 272, (-2147483648), 2147483647) := by decide +kernel
theorem tl_11_73 : (tf_ 111)[Int.toNat 73]? = some (0, 0, 0, 400) := by decide +kernel
theorem tl_11_74 : (tf_ 111)[Int.toNat 74]? = some (1, 274, (-2147483648), 2147483647) := by decide +kernel
theorem tl_11_75 : (tf_ 111)[Int.toNat 75]? = some (0, 0, 0, 400) := by decide +kernel
theorem tl_11_76 : (tf_ 111)[Int.toNat 76]? = some (1, 276, (-2147483648), 2147483647) := by decide +kernel
theorem tl_11_77 : (tf_ 111)[Int.toNat 77]? = some (1, 277, (-2147483648), 2147483647) := by decide +kernel
theorem tl_11_78 : (tf_ 111)[Int.toNat 78]? = some (1, 278, (-2147483648), 2147483647) := by decide +kernel
theorem tl_11_79 : (tf_ 111)[Int.toNat 79]? = some (0, 0, 0, 12) := by decide +kernel
theorem tl_11_80 : (tf_ 111)[Int.toNat 80]? = some (0, 0, 0, 1) := by decide +kernel
theorem tl_11_81 : (tf_ 111)[Int.toNat 81]? = some (1, 281, (-2147483648), 2147483647) := by decide +kernel
theorem tl_11_82 : (tf_ 111)[Int.toNat 82]? = some (0, 0, (-2147483648), 2147483647) := by decide +kernel
theorem tl_11_83 : (tf_ 111)[Int.toNat 83]? = some (0, 0, (-2147483648), 2147483647) := by decide +kernel
theorem tl_11_84 : (tf_ 111)[Int.toNat 84]? = some (1, 284, (-2147483648), 2147483647) := by decide +kernel
theorem tl_11_85 : (tf_ 111)[Int.toNat 85]? = some (0, 0, 0, 4095) := by decide +kernel
theorem tl_11_86 : (tf_ 111)[Int.toNat 86]? = some (1, 286, (-2147483648), 2147483647) := by decide +kernel
theorem tl_11_87 : (tf_ 111)[Int.toNat 87]? = some (0, 0, 0, 120) := by decide +kernel
theorem tl_11_88 : (tf_ 111)[Int.toNat 88]? = some (0, 0, (-1), 3) := by decide +kernel
theorem tl_11_89 : (tf_ 111)[Int.toNat 89]? = some (1, 289, (-2147483648), 2147483647) := by decide +kernel
theorem tl_11_90 : (tf_ 111)[Int.toNat 90]? = some (0, 0, 0, 4095) := by decide +kernel
theorem tl_11_91 : (tf_ 111)[Int.toNat 91]? = some (1, 291, (-2147483648), 2147483647) := by decide +kernel
theorem tl_11_92 : (tf_ 111)[Int.toNat 92]? = some (1, 292, (-2147483648), 2147483647) := by decide +kernel
theorem tl_11_93 : (tf_ 111)[Int.toNat 93]? = some (1, 293, (-2147483648), 2147483647) := by decide +kernel
theorem tl_11_94 : (tf_ 111)[Int.toNat 94]? = some (1, 294, (-2147483648), 2147483647) := by decide +kernel
theorem tl_11_95 : (tf_ 111)[Int.toNat 95]? = some (0, 0, (-2147483648), 2147483647) := by decide +kernel
theorem tl_11_96 : (tf_ 111)[Int.toNat 96]? = some (1, 296, (-2147483648), 2147483647) := by decide +kernel
theorem tl_11_97 : (tf_ 111)[Int.toNat 97]? = some (1, 297, (-2147483648), 2147483647) := by decide +kernel
theorem tl_11_98 : (tf_ 111)[Int.toNat 98]? = some (0, 0, 0, 1) := by decide +kernel
theorem tl_11_99 : (tf_ 111)[Int.toNat 99]? = some (0, 0, 0, 4) := by decide +kernel
theorem tl_11_100 : (tf_ 111)[Int.toNat 100]? = some (0, 0, 0, 3) := by decide +kernel
theorem tl_11_101 : (tf_ 111)[Int.toNat 101]? = some (1, 301, (-2147483648), 2147483647) := by decide +kernel
theorem tl_11_102 : (tf_ 111)[Int.toNat 102]? = some (1, 302, (-2147483648), 2147483647) := by decide +kernel
theorem tl_11_103 : (tf_ 111)[Int.toNat 103]? = some (0, 0, (-2147483648), 2147483647) := by decide +kernel
theorem tl_11_104 : (tf_ 111)[Int.toNat 104]? = some (1, 304, (-2147483648), 2147483647) := by decide +kernel
theorem tl_11_105 : (tf_ 111)[Int.toNat 105]? = some (1, 305, (-2147483648), 2147483647) := by decide +kernel
theorem tl_11_106 : (tf_ 111)[Int.toNat 106]? = some (1, 306, (-2147483648), 2147483647) := by decide +kernel
theorem tl_11_107 : (tf_ 111)[Int.toNat 107]? = some (0, 0, 0, 400) := by decide +kernel
theorem tl_11_108 : (tf_ 111)[Int.toNat 108]? = some (1, 308, (-2147483648), 2147483647) := by decide +kernel
theorem tl_11_109 : (tf_ 111)[Int.toNat 109]? = some (1, 309, (-2147483648), 2147483647) := by decide +kernel
theorem tl_11_110 : (tf_ 111)[Int.toNat 110]? = some (1, 310, (-2147483648), 2147483647) := by decide +kernel
theorem tl_11_111 : (tf_ 111)[Int.toNat 111]? = some (1, 311, (-2147483648), 2147483647) := by decide +kernel
theorem tl_11_112 : (tf_ 111)[Int.toNat 112]? = some (0, 0, (-2147483648), 2147483647) := by decide +kernel
theorem tl_11_113 : (tf_ 111)[Int.toNat 113]? = some (0, 0, (-2147483648), 2147483647) := by decide +kernel
/-- a number is not below 0 -/
theorem nn_ (n : Nat) : (0 : Int) ≤ @OfNat.ofNat Int n _ := Int.natCast_nonneg n
def rfb_ (Yc Y : Zm) : Bool := Nat.ble (Yc.2.2.2.2.frames + 1) Y.2.2.2.2.frames && Nat.ble (8 + (Yc.2.2.1 + 11) + Yc.2.2.2.2.locals) Y.2.2.2.2.locals
theorem rf_of {Yc Y : Zm} (h : rfb_ Yc Y = true) : rf_ Yc Y = true := by
  unfold rfb_ at h
  rw [Bool.and_eq_true] at h
  unfold rf_
  rw [Bool.and_eq_true]
  exact ⟨decide_eq_true (Nat.le_of_ble_eq_true h.1), decide_eq_true (Nat.le_of_ble_eq_true h.2)⟩
theorem ni_ {a b : Nat} (h : Nat.beq a b = false) : (@OfNat.ofNat Int a _) ≠ @OfNat.ofNat Int b _ := fun e => Nat.ne_of_beq_eq_false h (Int.ofNat.inj e)
theorem pn_0 : plainName RX0 = true := by decide
theorem pn_1 : plainName RX1 = true := by decide
theorem pn_2 : plainName RX2 = true := by decide
theorem pn_3 : plainName RX3 = true := by decide
theorem pn_4 : plainName RX4 = true := by decide
theorem pn_5 : plainName RX5 = true := by decide
theorem pn_6 : plainName RX6 = true := by decide
theorem pn_7 : plainName RX7 = true := by decide
theorem pn_8 : plainName RX8 = true := by decide
theorem pn_9 : plainName RX9 = true := by decide
theorem pn_10 : plainName RX10 = true := by decide
theorem pn_11 : plainName RX11 = true := by decide
