/-- a place at which a call is made -/
theorem qd_c {cc : ByteArray} {pc : Nat} {x : Instr} {n : Nat} (h : qd_ (qdr_ pc cc.data.toList) = some (x, n)) : decode cc pc = Except.ok (x, n) := by
  rw [qdr_e] at h
  exact qd_s _ rfl h
/-- decoding, by the row of bytes where that serves -/
noncomputable def qdec_ (cc : ByteArray) (pc : Nat) : Except DecodeError (Instr × Nat) := match qd_ (qdr_ pc cc.data.toList) with
  | some q => Except.ok q
  | none => decode cc pc
theorem qdec_e (cc : ByteArray) (pc : Nat) : qdec_ cc pc = decode cc pc := by
  unfold qdec_
  cases h : qd_ (qdr_ pc cc.data.toList) with
  | none => rfl
  | some q =>
    obtain ⟨x, n⟩ := q
    exact (qd_c h).symm
def qck_ (F : Zf) (ret : Option FieldType) : List UInt8 → Int → List Instr → Int → Bool
  | _, pc, [], pe => decide (pc = pe)
  | l, pc, i :: r, pe => match qd_ l with
    | some (x, n) => decide (no_ F ret pc x = some (de_ i)) && decide (n = il_ x) && qck_ F ret (l.drop n) (pc + (n : Int)) r pe
    | none => false
theorem qck_s {F : Zf} {ret : Option FieldType} {cc : ByteArray} : ∀ (ins : List Instr) (pc : Int) (l : List UInt8) (pe : Int), 0 ≤ pc → cc.data.toList.drop pc.toNat = l → qck_ F ret l pc ins pe = true → ck_ F ret cc pc ins pe = true
  | [], pc, l, pe, _, _, h => by
    unfold qck_ at h
    unfold ck_
    exact h
  | i :: r, pc, l, pe, hp, hl, h => by
    unfold qck_ at h
    cases hf : qd_ l with
    | none =>
      rw [hf] at h
      cases h
    | some q =>
      obtain ⟨x, n⟩ := q
      rw [hf] at h
      have h' : (decide (no_ F ret pc x = some (de_ i)) && decide (n = il_ x) && qck_ F ret (l.drop n) (pc + (n : Int)) r pe) = true := h
      have d := qd_s l hl hf
      rw [Bool.and_eq_true] at h'
      have g := qck_s (F := F) (ret := ret) (cc := cc) r (pc + (n : Int)) (l.drop n) pe (by omega) (by rw [show (pc + (n : Int)).toNat = pc.toNat + n by omega, ← List.drop_drop, hl]) h'.2
      unfold ck_
      rw [d]
      show (decide (no_ F ret pc x = some (de_ i)) && decide (n = il_ x) && ck_ F ret cc (pc + (n : Int)) r pe) = true
      rw [Bool.and_eq_true]
      exact ⟨h'.1, g⟩
