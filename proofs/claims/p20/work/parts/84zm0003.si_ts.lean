theorem wbp_w {n : Int} {r : Int → Int} {a : Sg_} (h : WBP_ n r a) {v : Int} : WBP_ n r (u2_ a 103 3 v) := by
  have w : ∀ (K : Nat) (J : Int), ¬ (K = 103 ∧ J = 3) → u2_ a 103 3 v K J = a K J := fun K J z => u2_n z
  obtain ⟨h0, h1, h2, h3, h4, h5, h6, h7⟩ := h
  refine ⟨h0, fun K J q j0 j1 => ?_, ?_, ?_, fun s x s0 s1 x0 x1 => ?_, fun e => ?_, fun e J j0 j1 => ?_, fun J j0 j1 => ?_⟩
  · rw [w K J (by omega)]; exact h1 K J q j0 j1
  · rw [w 103 4 (by decide)]; exact h2
  · rw [w 103 5 (by decide)]; exact h3
  · rw [w 449 s (by omega)] at x1
    rw [w 473 x (by omega)]; exact h4 s x s0 s1 x0 x1
  · rw [w 467 1 (by decide)]; exact h5 e
  · rw [w 467 J (by omega)]; exact h6 e J j0 j1
  · rw [w 469 J (by omega)]; exact h7 J j0 j1
/-- all of it -/
def SI_ (m n : Int) (r : Int → Int) (b a : Sg_) : Prop := EQP_ m b a ∧ WS_ a ∧ WBP_ n r a
theorem si_u {m n : Int} {r : Int → Int} {b a : Sg_} (h : SI_ m n r b a) {k : Nat} {j v : Int} (c : (k = 466 ∨ k = 467 ∨ k = 468 ∨ k = 469) ∨ (k = 103 ∧ (j = 4 ∨ j = 5))) (hv : 0 ≤ v ∧ v ≤ 8 * n + 20) (g5 : k = 103 → j = 5 → v ≤ 1) (g7 : k = 467 → (r 0 = 3 → j = 1 → v ≤ 7) ∧ (r 0 = 2 → v ≤ r 11)) (g9 : k = 469 → v ≤ r 10) : SI_ m n r (u2_ b k j v) (u2_ a k j v) :=
  ⟨eq_u h.1 c, ws_k h.2.1 (by omega), wbp_u h.2.2 c hv g5 g7 g9⟩
theorem si_w {m n : Int} {r : Int → Int} {b a : Sg_} (h : SI_ m n r b a) {v w : Int} (c : (v = 0 ∧ w = 1) ∨ (v = 1 ∧ w = 2)) : SI_ m n r (u2_ b 103 3 w) (u2_ a 103 3 v) :=
  ⟨eq_w h.1 c, ws_k h.2.1 (by omega), wbp_w h.2.2⟩
theorem si_z {m n : Int} {r : Int → Int} {b a : Sg_} (h : SI_ m n r b a) (q : RB9_ r) {k : Nat} (c : k = 466 ∨ k = 467) : SI_ m n r (u2_ (u2_ b k 0 0) k 1 0) (fy2_ a k 2 0) := by
  rw [fy2_2]
  have n0 := h.2.2.1
  have q4 := q.2.2.2.1
  have s1 : SI_ m n r (u2_ b k 0 0) (u2_ a k 0 0) := si_u h (Or.inl (by omega)) (by omega) (fun _ _ => by omega) (fun _ => ⟨fun _ _ => by omega, fun _ => by omega⟩) (fun _ => by omega)
  exact si_u s1 (Or.inl (by omega)) (by omega) (fun _ _ => by omega) (fun _ => ⟨fun _ _ => by omega, fun _ => by omega⟩) (fun _ => by omega)
theorem si_ad {m n : Int} {r : Int → Int} {b a : Sg_} {s v w : Int} (h : SI_ m n r b a) (h0 : 0 ≤ s) (h1 : s ≤ 1) (e : w = wr_ (a 468 s + v)) (hw : 0 ≤ w ∧ w ≤ 8 * n + 20) : SI_ m n r (adR_ b s v) (u2_ a 468 s w) := by
  have n0 := h.2.2.1
  have g0 := h.2.2.2.1 468 0 (by decide) (by decide) (by decide)
  have g1 := h.2.2.2.1 468 1 (by decide) (by decide) (by decide)
  exact ⟨eq_ad h.1 h0 h1 (by omega) (by omega) e, ws_k h.2.1 (by decide), wbp_u h.2.2 (Or.inl (by decide)) hw (fun z => absurd z (by decide)) (fun z => absurd z (by decide)) (fun z => absurd z (by decide))⟩
theorem si_m {m n n' : Int} {r : Int → Int} {b a : Sg_} (h : SI_ m n r b a) (e : n ≤ n') (g : n' ≤ 1000000) : SI_ m n' r b a := ⟨h.1, h.2.1, wbp_m h.2.2 e g⟩
theorem u2_c {a : Sg_} {k k' : Nat} {j j' v v' : Int} (h : ¬ (k = k' ∧ j = j')) : u2_ (u2_ a k j v) k' j' v' = u2_ (u2_ a k' j' v') k j v := by
  funext K J
  by_cases z : K = k ∧ J = j
  · have y : ¬ (K = k' ∧ J = j') := fun q => h ⟨z.1.symm.trans q.1, z.2.symm.trans q.2⟩
    rw [u2_n y, z.1, z.2, u2_s, u2_s]
  · by_cases y : K = k' ∧ J = j'
    · rw [u2_n z, y.1, y.2, u2_s, u2_s]
    · rw [u2_n y, u2_n z, u2_n z, u2_n y]
/-- the half ends -/
theorem si_ts {m n : Int} {r : Int → Int} {b a : Sg_} (h : SI_ m n r b a) (q : RB9_ r) (g : n + 1 ≤ 1000000) : SI_ m (n + 1) r (tsR_ r b) (eh9_ r (fy2_ a 467 2 0)) := by
  have hz := si_m (n' := n + 1) (si_z h q (k := 467) (Or.inr rfl)) (by omega) g
  have n0 := h.2.2.1
  have q4 := q.2.2.2.1
  have d4 : b 103 4 = a 103 4 := h.1.2.2.1.1
  have d5 : b 103 5 = a 103 5 := h.1.2.2.1.2.1
  have s0 : b 468 0 = a 468 0 := h.1.2.1.2.2.2.2.1
  have s1 : b 468 1 = a 468 1 := h.1.2.1.2.2.2.2.2.1
  have f4 : fy2_ a 467 2 0 103 4 = a 103 4 := fy2_k (by decide) 4
  have f5 : fy2_ a 467 2 0 103 5 = a 103 5 := fy2_k (by decide) 5
  have f80 : fy2_ a 467 2 0 468 0 = a 468 0 := fy2_k (by decide) 0
  have f81 : fy2_ a 467 2 0 468 1 = a 468 1 := fy2_k (by decide) 1
  have b4 := h.2.2.2.2.1
  have w1 : wr_ (a 103 4 + 1) = a 103 4 + 1 := wr_9 (by omega)
  have w2 : wr_ (r 11 - 1) = r 11 - 1 := wr_9 (by omega)
  have w3 : wr_ (wr_ (r 11 - 1) + 20) = r 11 + 19 := by
    rw [w2]
    exact (wr_9 (by omega)).trans (by omega)
  have w4 : wr_ (r 11 + 20) = r 11 + 20 := wr_9 (by omega)
  have w5 : wr_ (fy2_ a 467 2 0 103 4 + 1) = a 103 4 + 1 := by
    rw [f4]
    exact w1
  have w6 : wr_ (b 103 4 + 1) = a 103 4 + 1 := by
    rw [d4]
    exact w1
  by_cases c1 : a 103 5 = 1
  · by_cases c2 : wr_ (r 11 - 1) ≤ a 103 4 ∧ a 468 1 < a 468 0
    · rw [eh9__1 (r := r) (a := fy2_ a 467 2 0) (by omega) (by omega), tsR__1 (r := r) (a := b) (by omega) (by omega)]
      exact si_w hz (Or.inr ⟨rfl, rfl⟩)
    · rw [eh9__2 (r := r) (a := fy2_ a 467 2 0) (by omega) (by omega), tsR__2 (r := r) (a := b) (by omega) (by omega)]
      exact si_u hz (Or.inr ⟨rfl, Or.inr rfl⟩) (by omega) (fun _ _ => by omega) (fun z => absurd z (by decide)) (fun z => absurd z (by decide))
  · by_cases c2 : (wr_ (r 11 - 1) ≤ a 103 4 ∧ a 468 0 ≠ a 468 1) ∨ a 103 4 = r 11 + 19
    · rw [eh9__3 (r := r) (a := fy2_ a 467 2 0) (by omega) (by omega), tsR__3 (r := r) (a := b) (by omega) (by omega)]
      exact si_w hz (Or.inr ⟨rfl, rfl⟩)
    · rw [eh9__4 (r := r) (a := fy2_ a 467 2 0) (by omega) (by omega), tsR__4 (r := r) (a := b) (by omega) (by omega), w5, w6]
      exact si_u (si_u hz (Or.inr ⟨rfl, Or.inl rfl⟩) (by omega) (fun _ z => absurd z (by decide)) (fun z => absurd z (by decide)) (fun z => absurd z (by decide))) (Or.inr ⟨rfl, Or.inr rfl⟩) (by omega) (fun _ _ => by omega) (fun z => absurd z (by decide)) (fun z => absurd z (by decide))
