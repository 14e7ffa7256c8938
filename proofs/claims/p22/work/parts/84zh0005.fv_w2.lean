/-- what place leaves -/
def PL9_ (T T' : Zt) (c : Int) : Prop := ∃ g, (0 ≤ g ∧ g < T 101 0 1) ∧ (swn_ T c g.toNat ≤ (tb9_ (T 101 0 6) (T 101 0 5)).1 ∧ (tb9_ (T 101 0 6) (T 101 0 5)).1 < swn_ T c (g + 1).toNat) ∧ T' 429 0 c = g ∧ (∀ j, j ≠ c → T' 429 0 j = T 429 0 j) ∧ T' 101 0 4 = T 101 0 4 + 1 ∧ T' 101 0 7 = 0 ∧ T' 101 0 5 = (tb9_ (T 101 0 6) (T 101 0 5)).2
/-- the draw of the house: its counts, and what was counted -/
def LH_ (T : Zt) : Prop := T 101 0 3 = 12 - cnz_ (fun k => T 428 0 k) (-1) 12 ∧ T 101 0 4 = 12 - cnz_ (fun k => T 429 0 k) (-1) 12 ∧ (∀ p, 0 ≤ p → p ≤ 2 → T 430 0 p = cnz_ (fun k => T 428 0 k) p 12 ∧ T 430 0 p ≤ T 101 0 1) ∧ (∀ k, 0 ≤ k → k < 12 → T 428 0 k = -1 → T 429 0 k = -1) ∧ (∀ k, T 108 0 2 ≤ k → k < 12 → T 428 0 k = -1) ∧ (T 101 0 7 = 0 ∨ FV_ T)
/-- the draw, alike on both sides -/
def LOR_ (T : Zt) : Prop := (T 101 0 1 = T 111 0 99 ∧ T 101 0 2 = T 111 0 100 ∧ T 101 0 5 = T 111 0 103 ∧ ((T 101 0 1 = 0 ∧ T 111 0 98 = 0) ∨ (T 101 0 1 ≠ 0 ∧ T 111 0 98 ≠ 0))) ∧ (∀ k, 0 ≤ k → k < 12 → T 428 0 k = T 301 0 k ∧ T 429 0 k = T 302 0 k) ∧ (T 101 0 1 = 0 ∨ LH_ T)
theorem lhw_b {T : Zt} (h : LH_ T) : (0 ≤ T 101 0 3 ∧ T 101 0 3 ≤ 12) ∧ (0 ≤ T 101 0 4 ∧ T 101 0 4 ≤ 12) := by
  have a := cnz_b (fun k => T 428 0 k) (-1) 12
  have b := cnz_b (fun k => T 429 0 k) (-1) 12
  have c := h.1
  have d := h.2.1
  omega
/-- with clubs that wait the row waiting has a first one -/
theorem fv_w2 {T U : Zt} (hb : ∀ j, 0 ≤ j → -1 ≤ T 428 0 j ∧ T 428 0 j ≤ 2) (k : LH_ T) (l : T 101 0 4 < T 101 0 3) (a1 : ∀ k, U 428 0 k = T 428 0 k) (a2 : ∀ k, U 429 0 k = T 429 0 k) (h : FV_ U) : 1 ≤ U 101 0 13 := by
  have w := wl_c h.2.2
  rw [lhw_e a1 a2] at w
  cases e : lhw_ T with
  | cons x l => rw [e, List.length_cons] at w; omega
  | nil =>
    exfalso
    have a := k.1
    have b := k.2.1
    have c : cnz_ (fun k => T 429 0 k) (-1) 12 ≤ cnz_ (fun k => T 428 0 k) (-1) 12 := cnz_l 12 (fun j p q r => by
      show T 428 0 j = -1
      by_cases z : T 428 0 j = -1
      · exact z
      · exfalso
        have y := hb j p
        have m : j ∈ lhw_ T := lhw_i p (by omega) r (by omega) (by omega)
        rw [e] at m
        exact absurd m List.not_mem_nil)
    omega
