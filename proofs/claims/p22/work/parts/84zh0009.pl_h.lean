theorem fh_b {T : Zt} {fx gp : Int} (hb : ∀ j, 0 ≤ j → -1 ≤ T 428 0 j ∧ T 428 0 j ≤ 2) (hc : ∀ j, 0 ≤ j → 0 ≤ T 561 0 j ∧ T 561 0 j ≤ 7) : nw_ (dh_ T) fx gp (lhw_ T) (ghw_ T) ≤ 13824 := fz_b rfl ⟨lhw_d T, fun z hz => by
  have q := lhw_m hz
  exact ⟨⟨q.1, q.2.1⟩, q.2.2.1, q.2.2.2, hc z q.1⟩⟩
/-- what place wants -/
theorem pl_h {T U : Zt} {w : Int} (hb : ∀ j, 0 ≤ j → -1 ≤ T 428 0 j ∧ T 428 0 j ≤ 2) (hc : ∀ j, 0 ≤ j → 0 ≤ T 561 0 j ∧ T 561 0 j ≤ 7) (hG : 1 ≤ T 101 0 1 ∧ T 101 0 1 ≤ 4) (h : FV_ T) (f : fr_ [(101, [5])] T U) (hw : 0 ≤ w ∧ w < T 101 0 13) : T 432 0 w ∈ lhw_ T ∧ (∀ u, 0 ≤ u → u < 4 → 0 ≤ U 431 0 (T 432 0 w * 4 + u) ∧ U 431 0 (T 432 0 w * 4 + u) ≤ 13824) ∧ U 101 0 6 = swn_ U (T 432 0 w) (U 101 0 1).toNat := by
  have wc := wl_c h.2.2
  have m : T 432 0 w ∈ lhw_ T := by
    have q := wl_i (i := w) h.2.2 hw.1 (by omega)
    rwa [show (0 : Int) + w = w by omega] at q
  have e : ∀ u, 0 ≤ u → u < 4 → U 431 0 (T 432 0 w * 4 + u) = (nw_ (dh_ T) (T 432 0 w) u (lhw_ T) (ghw_ T) : Nat) := fun u a b => (f 431 0 _ rfl).trans (h.2.1 _ m u a b)
  refine ⟨m, fun u a b => ?_, ?_⟩
  · rw [e u a b]
    have y := fh_b (fx := T 432 0 w) (gp := u) hb hc
    omega
  · have q := lhw_m m
    have s := nw_s (d := dh_ T) (c := T 432 0 w) (by omega) (lhw_ T) (ghw_ T) m (lhw_d T) (fun x hx => by have := lhw_m hx; omega)
    have z : ∀ u, T 101 0 1 ≤ u → nw_ (dh_ T) (T 432 0 w) u (lhw_ T) (ghw_ T) = 0 := fun u hu => nw_z (d := dh_ T) hu _ _ m
    have e0 := e 0 (by decide) (by decide)
    have e1 := e 1 (by decide) (by decide)
    have e2 := e 2 (by decide) (by decide)
    have e3 := e 3 (by decide) (by decide)
    rw [f 101 0 6 rfl, f 101 0 1 rfl, h.1, ← s]
    rcases (by omega : T 101 0 1 = 1 ∨ T 101 0 1 = 2 ∨ T 101 0 1 = 3 ∨ T 101 0 1 = 4) with k | k | k | k
    · rw [k]
      have z1 := z 1 (by omega)
      have z2 := z 2 (by omega)
      have z3 := z 3 (by omega)
      show _ = (0 : Int) + U 431 0 (T 432 0 w * 4 + ((0 : Nat) : Int))
      show _ = (0 : Int) + U 431 0 (T 432 0 w * 4 + 0)
      omega
    · rw [k]
      have z2 := z 2 (by omega)
      have z3 := z 3 (by omega)
      show _ = (0 : Int) + U 431 0 (T 432 0 w * 4 + 0) + U 431 0 (T 432 0 w * 4 + 1)
      omega
    · rw [k]
      have z3 := z 3 (by omega)
      show _ = (0 : Int) + U 431 0 (T 432 0 w * 4 + 0) + U 431 0 (T 432 0 w * 4 + 1) + U 431 0 (T 432 0 w * 4 + 2)
      omega
    · rw [k]
      show _ = (0 : Int) + U 431 0 (T 432 0 w * 4 + 0) + U 431 0 (T 432 0 w * 4 + 1) + U 431 0 (T 432 0 w * 4 + 2) + U 431 0 (T 432 0 w * 4 + 3)
      omega
