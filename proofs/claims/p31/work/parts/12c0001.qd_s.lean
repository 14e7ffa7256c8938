/-- a row without its first n -/
noncomputable def qdr_ (n : Nat) (l : List UInt8) : List UInt8 := (Nat.rec (motive := fun _ => List UInt8 → List UInt8) (fun l => l) (fun _ f l => f l.tail) n : List UInt8 → List UInt8) l
theorem qdr_e : ∀ (n : Nat) (l : List UInt8), qdr_ n l = l.drop n
  | 0, _ => rfl
  | n + 1, l => by
    show qdr_ n l.tail = _
    rw [qdr_e n l.tail]
    cases l with
    | nil => simp
    | cons a l => rfl
/-- the instruction at the head of a row of bytes -/
def qv_ (l : List UInt8) : Option Qk_ → Option (Instr × Nat)
  | none => none
  | some (.inl i) => some (i, 1)
  | some (.inr (.inl f)) => (match l with
    | x :: _ => some (f x.toNat, 2)
    | [] => none)
  | some (.inr (.inr f)) => (match l with
    | x :: y :: _ => some (f x.toNat y.toNat, 3)
    | _ => none)
def qd_ : List UInt8 → Option (Instr × Nat)
  | [] => none
  | b :: r => qv_ r (qt_ b.toNat)
theorem qd_s {cc : ByteArray} {pc : Nat} {x : Instr} {n : Nat} : ∀ l : List UInt8, cc.data.toList.drop pc = l → qd_ l = some (x, n) → decode cc pc = Except.ok (x, n)
  | [], _, h => by cases h
  | b :: r, hl, h => by
    have u0 := qb_u1 hl
    have d1 : cc.data.toList.drop (pc + 1) = r := by
      rw [← List.drop_drop, hl]
      rfl
    have h' : qv_ r (qt_ b.toNat) = some (x, n) := h
    cases hq : qt_ b.toNat with
    | none =>
      rw [hq] at h'
      cases h'
    | some v =>
      have hg := qt_s _ _ hq
      rw [hq] at h'
      match v, hg, h' with
      | .inl i, hg, h' =>
        have e : (i, 1) = (x, n) := Option.some.inj h'
        have e1 : i = x := congrArg Prod.fst e
        have e2 : 1 = n := congrArg Prod.snd e
        have g := qb_d (hg cc pc u0)
        rw [← e1, ← e2, g, show pc + 1 - pc = 1 by omega]
      | .inr (.inl f), hg, h' =>
        match r, d1, h' with
        | [], _, h' => cases h'
        | c :: r, d1, h' =>
          have e : (f c.toNat, 2) = (x, n) := Option.some.inj h'
          have e1 : f c.toNat = x := congrArg Prod.fst e
          have e2 : 2 = n := congrArg Prod.snd e
          have g := qb_d (hg cc pc c.toNat u0 (qb_u1 d1))
          rw [← e1, ← e2, g, show pc + 2 - pc = 2 by omega]
      | .inr (.inr f), hg, h' =>
        match r, d1, h' with
        | [], _, h' => cases h'
        | [_], _, h' => cases h'
        | c :: y :: r, d1, h' =>
          have d2 : cc.data.toList.drop (pc + 2) = y :: r := by
            rw [show pc + 2 = pc + 1 + 1 by omega, ← List.drop_drop, d1]
            rfl
          have e : (f c.toNat y.toNat, 3) = (x, n) := Option.some.inj h'
          have e1 : f c.toNat y.toNat = x := congrArg Prod.fst e
          have e2 : 3 = n := congrArg Prod.snd e
          have g := qb_d (hg cc pc c.toNat y.toNat u0 (qb_u1 d1) (qb_u1 d2))
          rw [← e1, ← e2, g, show pc + 3 - pc = 3 by omega]
