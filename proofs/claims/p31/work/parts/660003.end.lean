theorem cw_fr {T U : Zt} {k : Nat} {i : Int} {g : Int → Int} (h : U = cw_ T k i g) : fr_ [(k, []), (k + 50, [-1])] T U := fun k' i' j w => by
  subst h
  by_cases z : k' = k
  · rw [z] at w
    simp [fw_] at w
  · by_cases y : k' = k + 50 ∧ j = -1
    · rw [y.1, y.2] at w
      simp [fw_] at w
    · unfold cw_
      rw [if_neg (fun q => z q.1), if_neg (fun q => y ⟨q.1, q.2.2⟩)]
theorem cw_ts {T U : Zt} {k : Nat} {i : Int} {g : Int → Int} (h : U = cw_ T k i g) (j : Int) (hj : 0 ≤ j) : U k i j = g j := by rw [h, cw_s hj]
theorem cw_to {T U : Zt} {k : Nat} {i : Int} {g : Int → Int} (h : U = cw_ T k i g) (k' : Nat) (i' j : Int) (hi : i' ≠ i) : U k' i' j = T k' i' j := by rw [h, cw_o (fun q => hi q.2) (fun q => hi q.2)]
theorem cw_r {T U : Zt} {k : Nat} {i : Int} {g : Int → Int} (h : U = cw_ T k i g) : ¬ U (k + 50) i (-1) = 1 := by
  rw [h]
  unfold cw_
  rw [if_neg (fun q => by omega), if_pos ⟨rfl, rfl, rfl⟩]
  decide
theorem ow_3 {k : Nat} (a : 460 ≤ k) (b : k < 480) : ow_ k = some 103 := by
  unfold ow_
  rw [if_neg (by omega), if_neg (by omega), if_pos ⟨a, b⟩]
/-- what is sure of a play p, where at most N rows were ever told -/
def Lp_ (N : Int) (T : Zt) (p : Int) : Prop := (0 ≤ T 103 p 15 ∧ 0 ≤ T 103 p 17 ∧ T 103 p 15 + T 103 p 17 ≤ N ∧ 4 * T 103 p 15 ≤ T 190 (T 103 p 14) (-2) ∧ 4 * T 103 p 17 ≤ T 190 (T 103 p 16) (-2) ∧ T 103 p 14 < T 191 0 0 ∧ T 103 p 16 < T 191 0 0 ∧ 0 ≤ T 103 p 0 ∧ T 103 p 0 < T 106 0 2) ∧ lz_ (T 190 (T 103 p 14) (-2)) ∧ lz_ (T 190 (T 103 p 16) (-2)) ∧ (T 103 p 3 = 0 → 1 ≤ T 470 p 0 ∧ 1 ≤ T 470 p 1)
def LP_ (N : Int) (T : Zt) : Prop := ∀ p : Int, 0 ≤ p → p < T 106 0 4 → T 102 p 10 ≠ 0 → Lp_ N T p
/-- rows of any length: what was there keeps its length -/
def lh_ (T T' : Zt) : Prop := (∀ x, x < T 191 0 0 → T' 190 x (-2) = T 190 x (-2)) ∧ T 191 0 0 ≤ T' 191 0 0
theorem lh_r {T : Zt} : lh_ T T := ⟨fun _ _ => rfl, by omega⟩
theorem lh_t {T T1 T2 : Zt} (h : lh_ T T1) (g : lh_ T1 T2) : lh_ T T2 := ⟨fun x hx => (g.1 x (by have := h.2; omega)).trans (h.1 x hx), by have := h.2; have := g.2; omega⟩
theorem lh_f {ws : List (Nat × List Int)} {T T1 T2 : Zt} (h : lh_ T T1) (g : fr_ ws T1 T2) (a : fw_ ws 190 (-2) = false) (b : fw_ ws 191 0 = false) : lh_ T T2 := lh_t h ⟨fun x _ => g 190 x (-2) a, by rw [g 191 0 0 b]; omega⟩
theorem lh_u {T T1 T2 : Zt} {k : Nat} {i j v : Int} (h : lh_ T T1) (e : T2 = up_ T1 k i j v) (hk : k < 190) : lh_ T T2 := lh_t h ⟨fun x _ => up_k e (by omega) _ _, by rw [up_k e (by omega)]; omega⟩
theorem Lp_o {N N' : Int} {T T' : Zt} {q : Int} (h : Lp_ N T q) (hN : N ≤ N') (l : lh_ T T') (hc : T 106 0 2 ≤ T' 106 0 2) (o : T' 103 q 0 = T 103 q 0 ∧ T' 103 q 3 = T 103 q 3 ∧ T' 103 q 14 = T 103 q 14 ∧ T' 103 q 15 = T 103 q 15 ∧ T' 103 q 16 = T 103 q 16 ∧ T' 103 q 17 = T 103 q 17 ∧ T' 470 q 0 = T 470 q 0 ∧ T' 470 q 1 = T 470 q 1) : Lp_ N' T' q := by
  obtain ⟨⟨a1, a2, a3, a4, a5, a6, a7, a8, a9⟩, b1, b2, b3⟩ := h
  obtain ⟨o0, o3, o14, o15, o16, o17, g0, g1⟩ := o
  have l14 : T' 190 (T' 103 q 14) (-2) = T 190 (T 103 q 14) (-2) := by rw [o14]; exact l.1 _ a6
  have l16 : T' 190 (T' 103 q 16) (-2) = T 190 (T 103 q 16) (-2) := by rw [o16]; exact l.1 _ a7
  have l9 := l.2
  refine ⟨⟨by omega, by omega, by omega, by omega, by omega, by omega, by omega, by omega, by omega⟩, by rw [l14]; exact b1, by rw [l16]; exact b2, fun z => ?_⟩
  have := b3 (by omega)
  omega
theorem LP_f {ws : List (Nat × List Int)} {N N' : Int} {T T' : Zt} (h : LP_ N T) (hN : N ≤ N') (l : lh_ T T') (f : fr_ ws T T') (w : fw_ ws 106 4 = false ∧ fw_ ws 106 2 = false ∧ fw_ ws 102 10 = false ∧ fw_ ws 103 0 = false ∧ fw_ ws 103 3 = false ∧ fw_ ws 103 14 = false ∧ fw_ ws 103 15 = false ∧ fw_ ws 103 16 = false ∧ fw_ ws 103 17 = false ∧ fw_ ws 470 0 = false ∧ fw_ ws 470 1 = false) : LP_ N' T' := by
  obtain ⟨w1, w2, w3, w4, w5, w6, w7, w8, w9, w10, w11⟩ := w
  intro p h0 h1 h2
  rw [f 106 0 _ w1] at h1
  rw [f 102 p _ w3] at h2
  exact Lp_o (h p h0 h1 h2) hN l (by rw [f 106 0 _ w2]; omega) ⟨f _ _ _ w4, f _ _ _ w5, f _ _ _ w6, f _ _ _ w7, f _ _ _ w8, f _ _ _ w9, f _ _ _ w10, f _ _ _ w11⟩
/-- one play is told of anew, the others stay -/
theorem LP_q {N N' : Int} {T T' : Zt} {m : Int} (h : LP_ N T) (hN : N ≤ N') (l : lh_ T T') (o : ∀ k i j, i ≠ m → k ≠ 190 → k ≠ 191 → k ≠ 106 → T' k i j = T k i j) (hm : T' 106 0 4 = T 106 0 4) (hc : T' 106 0 2 = T 106 0 2) (n : T' 102 m 10 ≠ 0 → Lp_ N' T' m) : LP_ N' T' := by
  intro p h0 h1 h2
  by_cases z : p = m
  · rw [z] at h2 ⊢
    exact n h2
  · rw [hm] at h1
    have e : ∀ k j, k ≠ 190 → k ≠ 191 → k ≠ 106 → T' k p j = T k p j := fun k j a b c => o k p j z a b c
    rw [e 102 10 (by decide) (by decide) (by decide)] at h2
    exact Lp_o (h p h0 h1 h2) hN l (by omega) ⟨e _ _ (by decide) (by decide) (by decide), e _ _ (by decide) (by decide) (by decide), e _ _ (by decide) (by decide) (by decide), e _ _ (by decide) (by decide) (by decide), e _ _ (by decide) (by decide) (by decide), e _ _ (by decide) (by decide) (by decide), e _ _ (by decide) (by decide) (by decide), e _ _ (by decide) (by decide) (by decide)⟩
/-- what is not there yet -/
def NR_ (T : Zt) : Prop := (∀ i, ¬ T 150 i (-1) = 1) ∧ (∀ i, ¬ T 152 i (-1) = 1) ∧ (∀ i, ¬ T 153 i (-1) = 1)
def NA_ (T : Zt) : Prop := NR_ T ∧ (∀ i, T 106 0 2 ≤ i → ¬ T 100 i (-1) = 1) ∧ (∀ i, T 106 0 4 ≤ i → ¬ T 102 i (-1) = 1) ∧ ∀ i, (T 106 0 4 ≤ i ∨ T 102 i 10 = 0) → ¬ T 103 i (-1) = 1
theorem NA_f {ws : List (Nat × List Int)} {T T' : Zt} (h : NA_ T) (f : fr_ ws T T') (w : fw_ ws 150 (-1) = false ∧ fw_ ws 152 (-1) = false ∧ fw_ ws 153 (-1) = false ∧ fw_ ws 100 (-1) = false ∧ fw_ ws 102 (-1) = false ∧ fw_ ws 103 (-1) = false ∧ fw_ ws 102 10 = false ∧ fw_ ws 106 4 = false ∧ fw_ ws 106 2 = false) : NA_ T' := by
  obtain ⟨w1, w2, w3, w4, w5, w6, w7, w8, w9⟩ := w
  obtain ⟨⟨a, b, c⟩, d, e, g⟩ := h
  refine ⟨⟨fun i => by rw [f 150 i _ w1]; exact a i, fun i => by rw [f 152 i _ w2]; exact b i, fun i => by rw [f 153 i _ w3]; exact c i⟩, fun i hi => ?_, fun i hi => ?_, fun i hi => ?_⟩
  · rw [f 100 i _ w4]; rw [f 106 0 _ w9] at hi; exact d i hi
  · rw [f 102 i _ w5]; rw [f 106 0 _ w8] at hi; exact e i hi
  · rw [f 103 i _ w6]; rw [f 106 0 _ w8, f 102 i _ w7] at hi; exact g i hi
