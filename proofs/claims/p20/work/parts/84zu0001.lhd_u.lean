/-- two lists of the same in the same order are the same -/
theorem lhd_u {day : Int → Int} {rel rel' : Int → Prop} {L L' : Int → Int} {f k kp x x' : Int} (h : LHD_ day rel L f k kp x) (h' : LHD_ day rel' L' f k kp x') (e : ∀ m, f ≤ m → m < f + k → (rel m ↔ rel' m)) : ∀ n : Nat, (n : Int) < x → (n : Int) < x' ∧ L (n : Int) = L' (n : Int) := by
  intro n
  induction n using Nat.strongRecOn with
  | _ n ih =>
    intro hn
    have y := h.1 (n : Int) (by omega) hn
    obtain ⟨j, j0, j1, j2⟩ := h'.2.2 (L (n : Int)) y.1 y.2.1 ((e _ y.1 y.2.1).mp y.2.2.1) y.2.2.2
    have hj : (n : Int) ≤ j := by
      rcases Int.lt_or_le j (n : Int) with c | c
      · have q := ih j.toNat (by omega) (by omega)
        rw [show ((j.toNat : Nat) : Int) = j by omega] at q
        have w := h.2.1 j (n : Int) j0 c hn
        rw [q.2, j2] at w
        omega
      · exact c
    have hx : (n : Int) < x' := by omega
    refine ⟨hx, ?_⟩
    have y' := h'.1 (n : Int) (by omega) hx
    obtain ⟨i, i0, i1, i2⟩ := h.2.2 (L' (n : Int)) y'.1 y'.2.1 ((e _ y'.1 y'.2.1).mpr y'.2.2.1) y'.2.2.2
    have hi : (n : Int) ≤ i := by
      rcases Int.lt_or_le i (n : Int) with c | c
      · have q := ih i.toNat (by omega) (by omega)
        rw [show ((i.toNat : Nat) : Int) = i by omega] at q
        have w := h'.2.1 i (n : Int) i0 c hx
        rw [← q.2, i2] at w
        omega
      · exact c
    have a1 : day (L' (n : Int)) * 400 + L' (n : Int) ≤ day (L (n : Int)) * 400 + L (n : Int) := by
      by_cases c : (n : Int) = j
      · rw [show L' (n : Int) = L (n : Int) from (congrArg L' c).trans j2]; exact Int.le_refl _
      · have w := h'.2.1 (n : Int) j (by omega) (by omega) j1
        rw [j2] at w; omega
    have a2 : day (L (n : Int)) * 400 + L (n : Int) ≤ day (L' (n : Int)) * 400 + L' (n : Int) := by
      by_cases c : (n : Int) = i
      · rw [show L (n : Int) = L' (n : Int) from (congrArg L c).trans i2]; exact Int.le_refl _
      · have w := h.2.1 (n : Int) i (by omega) (by omega) i1
        rw [i2] at w; omega
    by_cases c : (n : Int) = j
    · exact ((congrArg L' c).trans j2).symm
    · have w := h'.2.1 (n : Int) j (by omega) (by omega) j1
      rw [j2] at w
      omega
